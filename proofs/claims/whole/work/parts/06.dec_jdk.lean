abbrev m_AL_init : MethodName × ByteArray × Nat × Option FieldType := (⟨"java/util/ArrayList", "<init>", "()V"⟩, prog_27_method_2_code, 1, (Option.none : Option FieldType))
theorem d_AL_init_0 : decode prog_27_method_2_code 0 = .ok (.aload_n 0, 1) := by decide +kernel
theorem d_AL_init_1 : decode prog_27_method_2_code 1 = .ok (.invokespecial 1, 3) := by decide +kernel
theorem d_AL_init_4 : decode prog_27_method_2_code 4 = .ok (.aload_n 0, 1) := by decide +kernel
theorem d_AL_init_5 : decode prog_27_method_2_code 5 = .ok (.getstatic 39, 3) := by decide +kernel
theorem d_AL_init_8 : decode prog_27_method_2_code 8 = .ok (.putfield 9, 3) := by decide +kernel
theorem d_AL_init_11 : decode prog_27_method_2_code 11 = .ok (.return_, 1) := by decide +kernel
abbrev m_AL_isEmpty : MethodName × ByteArray × Nat × Option FieldType := (⟨"java/util/ArrayList", "isEmpty", "()Z"⟩, prog_27_method_9_code, 1, (Option.some FieldType.boolean))
theorem d_AL_isEmpty_0 : decode prog_27_method_9_code 0 = .ok (.aload_n 0, 1) := by decide +kernel
theorem d_AL_isEmpty_1 : decode prog_27_method_9_code 1 = .ok (.getfield 48, 3) := by decide +kernel
theorem d_AL_isEmpty_4 : decode prog_27_method_9_code 4 = .ok (.ifCond .ne 7, 3) := by decide +kernel
theorem d_AL_isEmpty_7 : decode prog_27_method_9_code 7 = .ok (.iconst 1, 1) := by decide +kernel
theorem d_AL_isEmpty_8 : decode prog_27_method_9_code 8 = .ok (.goto 4, 3) := by decide +kernel
theorem d_AL_isEmpty_11 : decode prog_27_method_9_code 11 = .ok (.iconst 0, 1) := by decide +kernel
theorem d_AL_isEmpty_12 : decode prog_27_method_9_code 12 = .ok (.ireturn, 1) := by decide +kernel
abbrev m_AL_size : MethodName × ByteArray × Nat × Option FieldType := (⟨"java/util/ArrayList", "size", "()I"⟩, prog_27_method_8_code, 1, (Option.some FieldType.int))
theorem d_AL_size_0 : decode prog_27_method_8_code 0 = .ok (.aload_n 0, 1) := by decide +kernel
theorem d_AL_size_1 : decode prog_27_method_8_code 1 = .ok (.getfield 48, 3) := by decide +kernel
theorem d_AL_size_4 : decode prog_27_method_8_code 4 = .ok (.ireturn, 1) := by decide +kernel
abbrev m_AL_get : MethodName × ByteArray × Nat × Option FieldType := (⟨"java/util/ArrayList", "get", "(I)Ljava/lang/Object;"⟩, prog_27_method_20_code, 2, (Option.some (FieldType.object "java/lang/Object")))
theorem d_AL_get_0 : decode prog_27_method_20_code 0 = .ok (.iload_n 1, 1) := by decide +kernel
theorem d_AL_get_1 : decode prog_27_method_20_code 1 = .ok (.aload_n 0, 1) := by decide +kernel
theorem d_AL_get_2 : decode prog_27_method_20_code 2 = .ok (.getfield 48, 3) := by decide +kernel
theorem d_AL_get_5 : decode prog_27_method_20_code 5 = .ok (.invokestatic 118, 3) := by decide +kernel
theorem d_AL_get_8 : decode prog_27_method_20_code 8 = .ok (.pop, 1) := by decide +kernel
theorem d_AL_get_9 : decode prog_27_method_20_code 9 = .ok (.aload_n 0, 1) := by decide +kernel
theorem d_AL_get_10 : decode prog_27_method_20_code 10 = .ok (.iload_n 1, 1) := by decide +kernel
theorem d_AL_get_11 : decode prog_27_method_20_code 11 = .ok (.invokevirtual 123, 3) := by decide +kernel
theorem d_AL_get_14 : decode prog_27_method_20_code 14 = .ok (.areturn, 1) := by decide +kernel
abbrev m_AL_elementData : MethodName × ByteArray × Nat × Option FieldType := (⟨"java/util/ArrayList", "elementData", "(I)Ljava/lang/Object;"⟩, prog_27_method_18_code, 2, (Option.some (FieldType.object "java/lang/Object")))
theorem d_AL_elementData_0 : decode prog_27_method_18_code 0 = .ok (.aload_n 0, 1) := by decide +kernel
theorem d_AL_elementData_1 : decode prog_27_method_18_code 1 = .ok (.getfield 9, 3) := by decide +kernel
theorem d_AL_elementData_4 : decode prog_27_method_18_code 4 = .ok (.iload_n 1, 1) := by decide +kernel
theorem d_AL_elementData_5 : decode prog_27_method_18_code 5 = .ok (.aaload, 1) := by decide +kernel
theorem d_AL_elementData_6 : decode prog_27_method_18_code 6 = .ok (.areturn, 1) := by decide +kernel
abbrev m_AL_add : MethodName × ByteArray × Nat × Option FieldType := (⟨"java/util/ArrayList", "add", "(Ljava/lang/Object;)Z"⟩, prog_27_method_25_code, 2, (Option.some FieldType.boolean))
theorem d_AL_add_0 : decode prog_27_method_25_code 0 = .ok (.aload_n 0, 1) := by decide +kernel
theorem d_AL_add_1 : decode prog_27_method_25_code 1 = .ok (.dup, 1) := by decide +kernel
theorem d_AL_add_2 : decode prog_27_method_25_code 2 = .ok (.getfield 63, 3) := by decide +kernel
theorem d_AL_add_5 : decode prog_27_method_25_code 5 = .ok (.iconst 1, 1) := by decide +kernel
theorem d_AL_add_6 : decode prog_27_method_25_code 6 = .ok (.iadd, 1) := by decide +kernel
theorem d_AL_add_7 : decode prog_27_method_25_code 7 = .ok (.putfield 63, 3) := by decide +kernel
theorem d_AL_add_10 : decode prog_27_method_25_code 10 = .ok (.aload_n 0, 1) := by decide +kernel
theorem d_AL_add_11 : decode prog_27_method_25_code 11 = .ok (.aload_n 1, 1) := by decide +kernel
theorem d_AL_add_12 : decode prog_27_method_25_code 12 = .ok (.aload_n 0, 1) := by decide +kernel
theorem d_AL_add_13 : decode prog_27_method_25_code 13 = .ok (.getfield 9, 3) := by decide +kernel
theorem d_AL_add_16 : decode prog_27_method_25_code 16 = .ok (.aload_n 0, 1) := by decide +kernel
theorem d_AL_add_17 : decode prog_27_method_25_code 17 = .ok (.getfield 48, 3) := by decide +kernel
theorem d_AL_add_20 : decode prog_27_method_25_code 20 = .ok (.invokevirtual 131, 3) := by decide +kernel
theorem d_AL_add_23 : decode prog_27_method_25_code 23 = .ok (.iconst 1, 1) := by decide +kernel
theorem d_AL_add_24 : decode prog_27_method_25_code 24 = .ok (.ireturn, 1) := by decide +kernel
abbrev m_AL_add2 : MethodName × ByteArray × Nat × Option FieldType := (⟨"java/util/ArrayList", "add", "(Ljava/lang/Object;[Ljava/lang/Object;I)V"⟩, prog_27_method_24_code, 4, (Option.none : Option FieldType))
theorem d_AL_add2_0 : decode prog_27_method_24_code 0 = .ok (.iload_n 3, 1) := by decide +kernel
theorem d_AL_add2_1 : decode prog_27_method_24_code 1 = .ok (.aload_n 2, 1) := by decide +kernel
theorem d_AL_add2_2 : decode prog_27_method_24_code 2 = .ok (.arraylength, 1) := by decide +kernel
theorem d_AL_add2_3 : decode prog_27_method_24_code 3 = .ok (.if_icmp .ne 8, 3) := by decide +kernel
theorem d_AL_add2_6 : decode prog_27_method_24_code 6 = .ok (.aload_n 0, 1) := by decide +kernel
theorem d_AL_add2_7 : decode prog_27_method_24_code 7 = .ok (.invokevirtual 129, 3) := by decide +kernel
theorem d_AL_add2_10 : decode prog_27_method_24_code 10 = .ok (.astore_n 2, 1) := by decide +kernel
theorem d_AL_add2_11 : decode prog_27_method_24_code 11 = .ok (.aload_n 2, 1) := by decide +kernel
theorem d_AL_add2_12 : decode prog_27_method_24_code 12 = .ok (.iload_n 3, 1) := by decide +kernel
theorem d_AL_add2_13 : decode prog_27_method_24_code 13 = .ok (.aload_n 1, 1) := by decide +kernel
theorem d_AL_add2_14 : decode prog_27_method_24_code 14 = .ok (.aastore, 1) := by decide +kernel
theorem d_AL_add2_15 : decode prog_27_method_24_code 15 = .ok (.aload_n 0, 1) := by decide +kernel
theorem d_AL_add2_16 : decode prog_27_method_24_code 16 = .ok (.iload_n 3, 1) := by decide +kernel
theorem d_AL_add2_17 : decode prog_27_method_24_code 17 = .ok (.iconst 1, 1) := by decide +kernel
theorem d_AL_add2_18 : decode prog_27_method_24_code 18 = .ok (.iadd, 1) := by decide +kernel
theorem d_AL_add2_19 : decode prog_27_method_24_code 19 = .ok (.putfield 48, 3) := by decide +kernel
theorem d_AL_add2_22 : decode prog_27_method_24_code 22 = .ok (.return_, 1) := by decide +kernel
abbrev m_AL_grow : MethodName × ByteArray × Nat × Option FieldType := (⟨"java/util/ArrayList", "grow", "()[Ljava/lang/Object;"⟩, prog_27_method_7_code, 1, (Option.some (FieldType.array (FieldType.object "java/lang/Object"))))
theorem d_AL_grow_0 : decode prog_27_method_7_code 0 = .ok (.aload_n 0, 1) := by decide +kernel
theorem d_AL_grow_1 : decode prog_27_method_7_code 1 = .ok (.aload_n 0, 1) := by decide +kernel
theorem d_AL_grow_2 : decode prog_27_method_7_code 2 = .ok (.getfield 48, 3) := by decide +kernel
theorem d_AL_grow_5 : decode prog_27_method_7_code 5 = .ok (.iconst 1, 1) := by decide +kernel
theorem d_AL_grow_6 : decode prog_27_method_7_code 6 = .ok (.iadd, 1) := by decide +kernel
theorem d_AL_grow_7 : decode prog_27_method_7_code 7 = .ok (.invokevirtual 69, 3) := by decide +kernel
theorem d_AL_grow_10 : decode prog_27_method_7_code 10 = .ok (.areturn, 1) := by decide +kernel
abbrev m_AL_grow2 : MethodName × ByteArray × Nat × Option FieldType := (⟨"java/util/ArrayList", "grow", "(I)[Ljava/lang/Object;"⟩, prog_27_method_6_code, 4, (Option.some (FieldType.array (FieldType.object "java/lang/Object"))))
theorem d_AL_grow2_0 : decode prog_27_method_6_code 0 = .ok (.aload_n 0, 1) := by decide +kernel
theorem d_AL_grow2_1 : decode prog_27_method_6_code 1 = .ok (.getfield 9, 3) := by decide +kernel
theorem d_AL_grow2_4 : decode prog_27_method_6_code 4 = .ok (.arraylength, 1) := by decide +kernel
theorem d_AL_grow2_5 : decode prog_27_method_6_code 5 = .ok (.istore_n 2, 1) := by decide +kernel
theorem d_AL_grow2_6 : decode prog_27_method_6_code 6 = .ok (.iload_n 2, 1) := by decide +kernel
theorem d_AL_grow2_7 : decode prog_27_method_6_code 7 = .ok (.ifCond .gt 13, 3) := by decide +kernel
theorem d_AL_grow2_10 : decode prog_27_method_6_code 10 = .ok (.aload_n 0, 1) := by decide +kernel
theorem d_AL_grow2_11 : decode prog_27_method_6_code 11 = .ok (.getfield 9, 3) := by decide +kernel
theorem d_AL_grow2_14 : decode prog_27_method_6_code 14 = .ok (.getstatic 39, 3) := by decide +kernel
theorem d_AL_grow2_17 : decode prog_27_method_6_code 17 = .ok (.if_acmp .eq 28, 3) := by decide +kernel
theorem d_AL_grow2_20 : decode prog_27_method_6_code 20 = .ok (.iload_n 2, 1) := by decide +kernel
theorem d_AL_grow2_21 : decode prog_27_method_6_code 21 = .ok (.iload_n 1, 1) := by decide +kernel
theorem d_AL_grow2_22 : decode prog_27_method_6_code 22 = .ok (.iload_n 2, 1) := by decide +kernel
theorem d_AL_grow2_23 : decode prog_27_method_6_code 23 = .ok (.isub, 1) := by decide +kernel
theorem d_AL_grow2_24 : decode prog_27_method_6_code 24 = .ok (.iload_n 2, 1) := by decide +kernel
theorem d_AL_grow2_25 : decode prog_27_method_6_code 25 = .ok (.iconst 1, 1) := by decide +kernel
theorem d_AL_grow2_26 : decode prog_27_method_6_code 26 = .ok (.ishr, 1) := by decide +kernel
theorem d_AL_grow2_27 : decode prog_27_method_6_code 27 = .ok (.invokestatic 73, 3) := by decide +kernel
theorem d_AL_grow2_30 : decode prog_27_method_6_code 30 = .ok (.istore_n 3, 1) := by decide +kernel
theorem d_AL_grow2_31 : decode prog_27_method_6_code 31 = .ok (.aload_n 0, 1) := by decide +kernel
theorem d_AL_grow2_32 : decode prog_27_method_6_code 32 = .ok (.aload_n 0, 1) := by decide +kernel
theorem d_AL_grow2_33 : decode prog_27_method_6_code 33 = .ok (.getfield 9, 3) := by decide +kernel
theorem d_AL_grow2_36 : decode prog_27_method_6_code 36 = .ok (.iload_n 3, 1) := by decide +kernel
theorem d_AL_grow2_37 : decode prog_27_method_6_code 37 = .ok (.invokestatic 66, 3) := by decide +kernel
theorem d_AL_grow2_40 : decode prog_27_method_6_code 40 = .ok (.dup_x1, 1) := by decide +kernel
theorem d_AL_grow2_41 : decode prog_27_method_6_code 41 = .ok (.putfield 9, 3) := by decide +kernel
theorem d_AL_grow2_44 : decode prog_27_method_6_code 44 = .ok (.areturn, 1) := by decide +kernel
theorem d_AL_grow2_45 : decode prog_27_method_6_code 45 = .ok (.aload_n 0, 1) := by decide +kernel
theorem d_AL_grow2_46 : decode prog_27_method_6_code 46 = .ok (.bipush 10, 2) := by decide +kernel
theorem d_AL_grow2_48 : decode prog_27_method_6_code 48 = .ok (.iload_n 1, 1) := by decide +kernel
theorem d_AL_grow2_49 : decode prog_27_method_6_code 49 = .ok (.invokestatic 79, 3) := by decide +kernel
theorem d_AL_grow2_52 : decode prog_27_method_6_code 52 = .ok (.anewarray 7, 3) := by decide +kernel
theorem d_AL_grow2_55 : decode prog_27_method_6_code 55 = .ok (.dup_x1, 1) := by decide +kernel
theorem d_AL_grow2_56 : decode prog_27_method_6_code 56 = .ok (.putfield 9, 3) := by decide +kernel
theorem d_AL_grow2_59 : decode prog_27_method_6_code 59 = .ok (.areturn, 1) := by decide +kernel
abbrev m_AbL_init : MethodName × ByteArray × Nat × Option FieldType := (⟨"java/util/AbstractList", "<init>", "()V"⟩, prog_26_method_1_code, 1, (Option.none : Option FieldType))
theorem d_AbL_init_0 : decode prog_26_method_1_code 0 = .ok (.aload_n 0, 1) := by decide +kernel
theorem d_AbL_init_1 : decode prog_26_method_1_code 1 = .ok (.invokespecial 1, 3) := by decide +kernel
theorem d_AbL_init_4 : decode prog_26_method_1_code 4 = .ok (.aload_n 0, 1) := by decide +kernel
theorem d_AbL_init_5 : decode prog_26_method_1_code 5 = .ok (.iconst 0, 1) := by decide +kernel
theorem d_AbL_init_6 : decode prog_26_method_1_code 6 = .ok (.putfield 7, 3) := by decide +kernel
theorem d_AbL_init_9 : decode prog_26_method_1_code 9 = .ok (.return_, 1) := by decide +kernel
abbrev m_AbC_init : MethodName × ByteArray × Nat × Option FieldType := (⟨"java/util/AbstractCollection", "<init>", "()V"⟩, prog_25_method_1_code, 1, (Option.none : Option FieldType))
theorem d_AbC_init_0 : decode prog_25_method_1_code 0 = .ok (.aload_n 0, 1) := by decide +kernel
theorem d_AbC_init_1 : decode prog_25_method_1_code 1 = .ok (.invokespecial 1, 3) := by decide +kernel
theorem d_AbC_init_4 : decode prog_25_method_1_code 4 = .ok (.return_, 1) := by decide +kernel
abbrev m_Arrs_fill : MethodName × ByteArray × Nat × Option FieldType := (⟨"java/util/Arrays", "fill", "([II)V"⟩, prog_28_method_103_code, 4, (Option.none : Option FieldType))
theorem d_Arrs_fill_0 : decode prog_28_method_103_code 0 = .ok (.iconst 0, 1) := by decide +kernel
theorem d_Arrs_fill_1 : decode prog_28_method_103_code 1 = .ok (.istore_n 2, 1) := by decide +kernel
theorem d_Arrs_fill_2 : decode prog_28_method_103_code 2 = .ok (.aload_n 0, 1) := by decide +kernel
theorem d_Arrs_fill_3 : decode prog_28_method_103_code 3 = .ok (.arraylength, 1) := by decide +kernel
theorem d_Arrs_fill_4 : decode prog_28_method_103_code 4 = .ok (.istore_n 3, 1) := by decide +kernel
theorem d_Arrs_fill_5 : decode prog_28_method_103_code 5 = .ok (.iload_n 2, 1) := by decide +kernel
theorem d_Arrs_fill_6 : decode prog_28_method_103_code 6 = .ok (.iload_n 3, 1) := by decide +kernel
theorem d_Arrs_fill_7 : decode prog_28_method_103_code 7 = .ok (.if_icmp .ge 13, 3) := by decide +kernel
theorem d_Arrs_fill_10 : decode prog_28_method_103_code 10 = .ok (.aload_n 0, 1) := by decide +kernel
theorem d_Arrs_fill_11 : decode prog_28_method_103_code 11 = .ok (.iload_n 2, 1) := by decide +kernel
theorem d_Arrs_fill_12 : decode prog_28_method_103_code 12 = .ok (.iload_n 1, 1) := by decide +kernel
theorem d_Arrs_fill_13 : decode prog_28_method_103_code 13 = .ok (.iastore, 1) := by decide +kernel
theorem d_Arrs_fill_14 : decode prog_28_method_103_code 14 = .ok (.iinc 2 1, 3) := by decide +kernel
theorem d_Arrs_fill_17 : decode prog_28_method_103_code 17 = .ok (.goto (-12), 3) := by decide +kernel
theorem d_Arrs_fill_20 : decode prog_28_method_103_code 20 = .ok (.return_, 1) := by decide +kernel
abbrev m_Arrs_copyOf : MethodName × ByteArray × Nat × Option FieldType := (⟨"java/util/Arrays", "copyOf", "([Ljava/lang/Object;I)[Ljava/lang/Object;"⟩, prog_28_method_119_code, 2, (Option.some (FieldType.array (FieldType.object "java/lang/Object"))))
theorem d_Arrs_copyOf_0 : decode prog_28_method_119_code 0 = .ok (.aload_n 0, 1) := by decide +kernel
theorem d_Arrs_copyOf_1 : decode prog_28_method_119_code 1 = .ok (.iload_n 1, 1) := by decide +kernel
theorem d_Arrs_copyOf_2 : decode prog_28_method_119_code 2 = .ok (.aload_n 0, 1) := by decide +kernel
theorem d_Arrs_copyOf_3 : decode prog_28_method_119_code 3 = .ok (.invokevirtual 86, 3) := by decide +kernel
theorem d_Arrs_copyOf_6 : decode prog_28_method_119_code 6 = .ok (.invokestatic 300, 3) := by decide +kernel
theorem d_Arrs_copyOf_9 : decode prog_28_method_119_code 9 = .ok (.areturn, 1) := by decide +kernel
abbrev m_Arrs_copyOf2 : MethodName × ByteArray × Nat × Option FieldType := (⟨"java/util/Arrays", "copyOf", "([Ljava/lang/Object;ILjava/lang/Class;)[Ljava/lang/Object;"⟩, prog_28_method_120_code, 4, (Option.some (FieldType.array (FieldType.object "java/lang/Object"))))
theorem d_Arrs_copyOf2_0 : decode prog_28_method_120_code 0 = .ok (.aload_n 2, 1) := by decide +kernel
theorem d_Arrs_copyOf2_1 : decode prog_28_method_120_code 1 = .ok (.ldc 110, 2) := by decide +kernel
theorem d_Arrs_copyOf2_3 : decode prog_28_method_120_code 3 = .ok (.if_acmp .ne 10, 3) := by decide +kernel
theorem d_Arrs_copyOf2_6 : decode prog_28_method_120_code 6 = .ok (.iload_n 1, 1) := by decide +kernel
theorem d_Arrs_copyOf2_7 : decode prog_28_method_120_code 7 = .ok (.anewarray 2, 3) := by decide +kernel
theorem d_Arrs_copyOf2_10 : decode prog_28_method_120_code 10 = .ok (.goto 14, 3) := by decide +kernel
theorem d_Arrs_copyOf2_13 : decode prog_28_method_120_code 13 = .ok (.aload_n 2, 1) := by decide +kernel
theorem d_Arrs_copyOf2_14 : decode prog_28_method_120_code 14 = .ok (.invokevirtual 90, 3) := by decide +kernel
theorem d_Arrs_copyOf2_17 : decode prog_28_method_120_code 17 = .ok (.iload_n 1, 1) := by decide +kernel
theorem d_Arrs_copyOf2_18 : decode prog_28_method_120_code 18 = .ok (.invokestatic 95, 3) := by decide +kernel
theorem d_Arrs_copyOf2_21 : decode prog_28_method_120_code 21 = .ok (.checkcast 110, 3) := by decide +kernel
theorem d_Arrs_copyOf2_24 : decode prog_28_method_120_code 24 = .ok (.astore_n 3, 1) := by decide +kernel
theorem d_Arrs_copyOf2_25 : decode prog_28_method_120_code 25 = .ok (.aload_n 0, 1) := by decide +kernel
theorem d_Arrs_copyOf2_26 : decode prog_28_method_120_code 26 = .ok (.iconst 0, 1) := by decide +kernel
theorem d_Arrs_copyOf2_27 : decode prog_28_method_120_code 27 = .ok (.aload_n 3, 1) := by decide +kernel
theorem d_Arrs_copyOf2_28 : decode prog_28_method_120_code 28 = .ok (.iconst 0, 1) := by decide +kernel
theorem d_Arrs_copyOf2_29 : decode prog_28_method_120_code 29 = .ok (.aload_n 0, 1) := by decide +kernel
theorem d_Arrs_copyOf2_30 : decode prog_28_method_120_code 30 = .ok (.arraylength, 1) := by decide +kernel
theorem d_Arrs_copyOf2_31 : decode prog_28_method_120_code 31 = .ok (.iload_n 1, 1) := by decide +kernel
theorem d_Arrs_copyOf2_32 : decode prog_28_method_120_code 32 = .ok (.invokestatic 304, 3) := by decide +kernel
theorem d_Arrs_copyOf2_35 : decode prog_28_method_120_code 35 = .ok (.invokestatic 150, 3) := by decide +kernel
theorem d_Arrs_copyOf2_38 : decode prog_28_method_120_code 38 = .ok (.aload_n 3, 1) := by decide +kernel
theorem d_Arrs_copyOf2_39 : decode prog_28_method_120_code 39 = .ok (.areturn, 1) := by decide +kernel
abbrev m_Math_min : MethodName × ByteArray × Nat × Option FieldType := (⟨"java/lang/Math", "min", "(II)I"⟩, prog_18_method_69_code, 2, (Option.some FieldType.int))
theorem d_Math_min_0 : decode prog_18_method_69_code 0 = .ok (.iload_n 0, 1) := by decide +kernel
theorem d_Math_min_1 : decode prog_18_method_69_code 1 = .ok (.iload_n 1, 1) := by decide +kernel
theorem d_Math_min_2 : decode prog_18_method_69_code 2 = .ok (.if_icmp .gt 7, 3) := by decide +kernel
theorem d_Math_min_5 : decode prog_18_method_69_code 5 = .ok (.iload_n 0, 1) := by decide +kernel
theorem d_Math_min_6 : decode prog_18_method_69_code 6 = .ok (.goto 4, 3) := by decide +kernel
theorem d_Math_min_9 : decode prog_18_method_69_code 9 = .ok (.iload_n 1, 1) := by decide +kernel
theorem d_Math_min_10 : decode prog_18_method_69_code 10 = .ok (.ireturn, 1) := by decide +kernel
abbrev m_Math_max : MethodName × ByteArray × Nat × Option FieldType := (⟨"java/lang/Math", "max", "(II)I"⟩, prog_18_method_65_code, 2, (Option.some FieldType.int))
theorem d_Math_max_0 : decode prog_18_method_65_code 0 = .ok (.iload_n 0, 1) := by decide +kernel
theorem d_Math_max_1 : decode prog_18_method_65_code 1 = .ok (.iload_n 1, 1) := by decide +kernel
theorem d_Math_max_2 : decode prog_18_method_65_code 2 = .ok (.if_icmp .lt 7, 3) := by decide +kernel
theorem d_Math_max_5 : decode prog_18_method_65_code 5 = .ok (.iload_n 0, 1) := by decide +kernel
theorem d_Math_max_6 : decode prog_18_method_65_code 6 = .ok (.goto 4, 3) := by decide +kernel
theorem d_Math_max_9 : decode prog_18_method_65_code 9 = .ok (.iload_n 1, 1) := by decide +kernel
theorem d_Math_max_10 : decode prog_18_method_65_code 10 = .ok (.ireturn, 1) := by decide +kernel
abbrev m_Int_bitCount : MethodName × ByteArray × Nat × Option FieldType := (⟨"java/lang/Integer", "bitCount", "(I)I"⟩, prog_16_method_49_code, 1, (Option.some FieldType.int))
theorem d_Int_bitCount_0 : decode prog_16_method_49_code 0 = .ok (.iload_n 0, 1) := by decide +kernel
theorem d_Int_bitCount_1 : decode prog_16_method_49_code 1 = .ok (.iload_n 0, 1) := by decide +kernel
theorem d_Int_bitCount_2 : decode prog_16_method_49_code 2 = .ok (.iconst 1, 1) := by decide +kernel
theorem d_Int_bitCount_3 : decode prog_16_method_49_code 3 = .ok (.iushr, 1) := by decide +kernel
theorem d_Int_bitCount_4 : decode prog_16_method_49_code 4 = .ok (.ldc_w 265, 3) := by decide +kernel
theorem d_Int_bitCount_7 : decode prog_16_method_49_code 7 = .ok (.iand, 1) := by decide +kernel
theorem d_Int_bitCount_8 : decode prog_16_method_49_code 8 = .ok (.isub, 1) := by decide +kernel
theorem d_Int_bitCount_9 : decode prog_16_method_49_code 9 = .ok (.istore_n 0, 1) := by decide +kernel
theorem d_Int_bitCount_10 : decode prog_16_method_49_code 10 = .ok (.iload_n 0, 1) := by decide +kernel
theorem d_Int_bitCount_11 : decode prog_16_method_49_code 11 = .ok (.ldc_w 266, 3) := by decide +kernel
theorem d_Int_bitCount_14 : decode prog_16_method_49_code 14 = .ok (.iand, 1) := by decide +kernel
theorem d_Int_bitCount_15 : decode prog_16_method_49_code 15 = .ok (.iload_n 0, 1) := by decide +kernel
theorem d_Int_bitCount_16 : decode prog_16_method_49_code 16 = .ok (.iconst 2, 1) := by decide +kernel
theorem d_Int_bitCount_17 : decode prog_16_method_49_code 17 = .ok (.iushr, 1) := by decide +kernel
theorem d_Int_bitCount_18 : decode prog_16_method_49_code 18 = .ok (.ldc_w 266, 3) := by decide +kernel
theorem d_Int_bitCount_21 : decode prog_16_method_49_code 21 = .ok (.iand, 1) := by decide +kernel
theorem d_Int_bitCount_22 : decode prog_16_method_49_code 22 = .ok (.iadd, 1) := by decide +kernel
theorem d_Int_bitCount_23 : decode prog_16_method_49_code 23 = .ok (.istore_n 0, 1) := by decide +kernel
theorem d_Int_bitCount_24 : decode prog_16_method_49_code 24 = .ok (.iload_n 0, 1) := by decide +kernel
theorem d_Int_bitCount_25 : decode prog_16_method_49_code 25 = .ok (.iload_n 0, 1) := by decide +kernel
theorem d_Int_bitCount_26 : decode prog_16_method_49_code 26 = .ok (.iconst 4, 1) := by decide +kernel
theorem d_Int_bitCount_27 : decode prog_16_method_49_code 27 = .ok (.iushr, 1) := by decide +kernel
theorem d_Int_bitCount_28 : decode prog_16_method_49_code 28 = .ok (.iadd, 1) := by decide +kernel
theorem d_Int_bitCount_29 : decode prog_16_method_49_code 29 = .ok (.ldc_w 267, 3) := by decide +kernel
theorem d_Int_bitCount_32 : decode prog_16_method_49_code 32 = .ok (.iand, 1) := by decide +kernel
theorem d_Int_bitCount_33 : decode prog_16_method_49_code 33 = .ok (.istore_n 0, 1) := by decide +kernel
theorem d_Int_bitCount_34 : decode prog_16_method_49_code 34 = .ok (.iload_n 0, 1) := by decide +kernel
theorem d_Int_bitCount_35 : decode prog_16_method_49_code 35 = .ok (.iload_n 0, 1) := by decide +kernel
theorem d_Int_bitCount_36 : decode prog_16_method_49_code 36 = .ok (.bipush 8, 2) := by decide +kernel
theorem d_Int_bitCount_38 : decode prog_16_method_49_code 38 = .ok (.iushr, 1) := by decide +kernel
theorem d_Int_bitCount_39 : decode prog_16_method_49_code 39 = .ok (.iadd, 1) := by decide +kernel
theorem d_Int_bitCount_40 : decode prog_16_method_49_code 40 = .ok (.istore_n 0, 1) := by decide +kernel
theorem d_Int_bitCount_41 : decode prog_16_method_49_code 41 = .ok (.iload_n 0, 1) := by decide +kernel
theorem d_Int_bitCount_42 : decode prog_16_method_49_code 42 = .ok (.iload_n 0, 1) := by decide +kernel
theorem d_Int_bitCount_43 : decode prog_16_method_49_code 43 = .ok (.bipush 16, 2) := by decide +kernel
theorem d_Int_bitCount_45 : decode prog_16_method_49_code 45 = .ok (.iushr, 1) := by decide +kernel
theorem d_Int_bitCount_46 : decode prog_16_method_49_code 46 = .ok (.iadd, 1) := by decide +kernel
theorem d_Int_bitCount_47 : decode prog_16_method_49_code 47 = .ok (.istore_n 0, 1) := by decide +kernel
theorem d_Int_bitCount_48 : decode prog_16_method_49_code 48 = .ok (.iload_n 0, 1) := by decide +kernel
theorem d_Int_bitCount_49 : decode prog_16_method_49_code 49 = .ok (.bipush 63, 2) := by decide +kernel
theorem d_Int_bitCount_51 : decode prog_16_method_49_code 51 = .ok (.iand, 1) := by decide +kernel
theorem d_Int_bitCount_52 : decode prog_16_method_49_code 52 = .ok (.ireturn, 1) := by decide +kernel
abbrev m_Objs_checkIndex : MethodName × ByteArray × Nat × Option FieldType := (⟨"java/util/Objects", "checkIndex", "(II)I"⟩, prog_31_method_17_code, 2, (Option.some FieldType.int))
theorem d_Objs_checkIndex_0 : decode prog_31_method_17_code 0 = .ok (.iload_n 0, 1) := by decide +kernel
theorem d_Objs_checkIndex_1 : decode prog_31_method_17_code 1 = .ok (.iload_n 1, 1) := by decide +kernel
theorem d_Objs_checkIndex_2 : decode prog_31_method_17_code 2 = .ok (.aconst_null, 1) := by decide +kernel
theorem d_Objs_checkIndex_3 : decode prog_31_method_17_code 3 = .ok (.invokestatic 105, 3) := by decide +kernel
theorem d_Objs_checkIndex_6 : decode prog_31_method_17_code 6 = .ok (.ireturn, 1) := by decide +kernel
abbrev m_Prec_checkIndex : MethodName × ByteArray × Nat × Option FieldType := (⟨"jdk/internal/util/Preconditions", "checkIndex", "(IILjava/util/function/BiFunction;)I"⟩, prog_35_method_11_code, 3, (Option.some FieldType.int))
theorem d_Prec_checkIndex_0 : decode prog_35_method_11_code 0 = .ok (.iload_n 0, 1) := by decide +kernel
theorem d_Prec_checkIndex_1 : decode prog_35_method_11_code 1 = .ok (.ifCond .lt 8, 3) := by decide +kernel
theorem d_Prec_checkIndex_4 : decode prog_35_method_11_code 4 = .ok (.iload_n 0, 1) := by decide +kernel
theorem d_Prec_checkIndex_5 : decode prog_35_method_11_code 5 = .ok (.iload_n 1, 1) := by decide +kernel
theorem d_Prec_checkIndex_6 : decode prog_35_method_11_code 6 = .ok (.if_icmp .lt 10, 3) := by decide +kernel
theorem d_Prec_checkIndex_9 : decode prog_35_method_11_code 9 = .ok (.aload_n 2, 1) := by decide +kernel
theorem d_Prec_checkIndex_10 : decode prog_35_method_11_code 10 = .ok (.iload_n 0, 1) := by decide +kernel
theorem d_Prec_checkIndex_11 : decode prog_35_method_11_code 11 = .ok (.iload_n 1, 1) := by decide +kernel
theorem d_Prec_checkIndex_12 : decode prog_35_method_11_code 12 = .ok (.invokestatic 95, 3) := by decide +kernel
theorem d_Prec_checkIndex_15 : decode prog_35_method_11_code 15 = .ok (.athrow, 1) := by decide +kernel
theorem d_Prec_checkIndex_16 : decode prog_35_method_11_code 16 = .ok (.iload_n 0, 1) := by decide +kernel
theorem d_Prec_checkIndex_17 : decode prog_35_method_11_code 17 = .ok (.ireturn, 1) := by decide +kernel
abbrev m_ArSu_newLength : MethodName × ByteArray × Nat × Option FieldType := (⟨"jdk/internal/util/ArraysSupport", "newLength", "(III)I"⟩, prog_34_method_27_code, 4, (Option.some FieldType.int))
theorem d_ArSu_newLength_0 : decode prog_34_method_27_code 0 = .ok (.iload_n 0, 1) := by decide +kernel
theorem d_ArSu_newLength_1 : decode prog_34_method_27_code 1 = .ok (.iload_n 1, 1) := by decide +kernel
theorem d_ArSu_newLength_2 : decode prog_34_method_27_code 2 = .ok (.iload_n 2, 1) := by decide +kernel
theorem d_ArSu_newLength_3 : decode prog_34_method_27_code 3 = .ok (.invokestatic 194, 3) := by decide +kernel
theorem d_ArSu_newLength_6 : decode prog_34_method_27_code 6 = .ok (.iadd, 1) := by decide +kernel
theorem d_ArSu_newLength_7 : decode prog_34_method_27_code 7 = .ok (.istore_n 3, 1) := by decide +kernel
theorem d_ArSu_newLength_8 : decode prog_34_method_27_code 8 = .ok (.iconst 0, 1) := by decide +kernel
theorem d_ArSu_newLength_9 : decode prog_34_method_27_code 9 = .ok (.iload_n 3, 1) := by decide +kernel
theorem d_ArSu_newLength_10 : decode prog_34_method_27_code 10 = .ok (.if_icmp .ge 11, 3) := by decide +kernel
theorem d_ArSu_newLength_13 : decode prog_34_method_27_code 13 = .ok (.iload_n 3, 1) := by decide +kernel
theorem d_ArSu_newLength_14 : decode prog_34_method_27_code 14 = .ok (.ldc 200, 2) := by decide +kernel
theorem d_ArSu_newLength_16 : decode prog_34_method_27_code 16 = .ok (.if_icmp .gt 5, 3) := by decide +kernel
theorem d_ArSu_newLength_19 : decode prog_34_method_27_code 19 = .ok (.iload_n 3, 1) := by decide +kernel
theorem d_ArSu_newLength_20 : decode prog_34_method_27_code 20 = .ok (.ireturn, 1) := by decide +kernel
theorem d_ArSu_newLength_21 : decode prog_34_method_27_code 21 = .ok (.iload_n 0, 1) := by decide +kernel
theorem d_ArSu_newLength_22 : decode prog_34_method_27_code 22 = .ok (.iload_n 1, 1) := by decide +kernel
theorem d_ArSu_newLength_23 : decode prog_34_method_27_code 23 = .ok (.invokestatic 201, 3) := by decide +kernel
theorem d_ArSu_newLength_26 : decode prog_34_method_27_code 26 = .ok (.ireturn, 1) := by decide +kernel
abbrev m_ArSu_hugeLength : MethodName × ByteArray × Nat × Option FieldType := (⟨"jdk/internal/util/ArraysSupport", "hugeLength", "(II)I"⟩, prog_34_method_28_code, 3, (Option.some FieldType.int))
theorem d_ArSu_hugeLength_0 : decode prog_34_method_28_code 0 = .ok (.iload_n 0, 1) := by decide +kernel
theorem d_ArSu_hugeLength_1 : decode prog_34_method_28_code 1 = .ok (.iload_n 1, 1) := by decide +kernel
theorem d_ArSu_hugeLength_2 : decode prog_34_method_28_code 2 = .ok (.iadd, 1) := by decide +kernel
theorem d_ArSu_hugeLength_3 : decode prog_34_method_28_code 3 = .ok (.istore_n 2, 1) := by decide +kernel
theorem d_ArSu_hugeLength_4 : decode prog_34_method_28_code 4 = .ok (.iload_n 2, 1) := by decide +kernel
theorem d_ArSu_hugeLength_5 : decode prog_34_method_28_code 5 = .ok (.ifCond .ge 44, 3) := by decide +kernel
theorem d_ArSu_hugeLength_8 : decode prog_34_method_28_code 8 = .ok (.new 204, 3) := by decide +kernel
theorem d_ArSu_hugeLength_11 : decode prog_34_method_28_code 11 = .ok (.dup, 1) := by decide +kernel
theorem d_ArSu_hugeLength_12 : decode prog_34_method_28_code 12 = .ok (.new 89, 3) := by decide +kernel
theorem d_ArSu_hugeLength_15 : decode prog_34_method_28_code 15 = .ok (.dup, 1) := by decide +kernel
theorem d_ArSu_hugeLength_16 : decode prog_34_method_28_code 16 = .ok (.invokespecial 91, 3) := by decide +kernel
theorem d_ArSu_hugeLength_19 : decode prog_34_method_28_code 19 = .ok (.ldc 206, 2) := by decide +kernel
theorem d_ArSu_hugeLength_21 : decode prog_34_method_28_code 21 = .ok (.invokevirtual 94, 3) := by decide +kernel
theorem d_ArSu_hugeLength_24 : decode prog_34_method_28_code 24 = .ok (.iload_n 0, 1) := by decide +kernel
theorem d_ArSu_hugeLength_25 : decode prog_34_method_28_code 25 = .ok (.invokevirtual 98, 3) := by decide +kernel
theorem d_ArSu_hugeLength_28 : decode prog_34_method_28_code 28 = .ok (.ldc 208, 2) := by decide +kernel
theorem d_ArSu_hugeLength_30 : decode prog_34_method_28_code 30 = .ok (.invokevirtual 94, 3) := by decide +kernel
theorem d_ArSu_hugeLength_33 : decode prog_34_method_28_code 33 = .ok (.iload_n 1, 1) := by decide +kernel
theorem d_ArSu_hugeLength_34 : decode prog_34_method_28_code 34 = .ok (.invokevirtual 98, 3) := by decide +kernel
theorem d_ArSu_hugeLength_37 : decode prog_34_method_28_code 37 = .ok (.ldc 210, 2) := by decide +kernel
theorem d_ArSu_hugeLength_39 : decode prog_34_method_28_code 39 = .ok (.invokevirtual 94, 3) := by decide +kernel
theorem d_ArSu_hugeLength_42 : decode prog_34_method_28_code 42 = .ok (.invokevirtual 101, 3) := by decide +kernel
theorem d_ArSu_hugeLength_45 : decode prog_34_method_28_code 45 = .ok (.invokespecial 212, 3) := by decide +kernel
theorem d_ArSu_hugeLength_48 : decode prog_34_method_28_code 48 = .ok (.athrow, 1) := by decide +kernel
theorem d_ArSu_hugeLength_49 : decode prog_34_method_28_code 49 = .ok (.iload_n 2, 1) := by decide +kernel
theorem d_ArSu_hugeLength_50 : decode prog_34_method_28_code 50 = .ok (.ldc 200, 2) := by decide +kernel
theorem d_ArSu_hugeLength_52 : decode prog_34_method_28_code 52 = .ok (.if_icmp .gt 6, 3) := by decide +kernel
theorem d_ArSu_hugeLength_55 : decode prog_34_method_28_code 55 = .ok (.ldc 200, 2) := by decide +kernel
theorem d_ArSu_hugeLength_57 : decode prog_34_method_28_code 57 = .ok (.ireturn, 1) := by decide +kernel
theorem d_ArSu_hugeLength_58 : decode prog_34_method_28_code 58 = .ok (.iload_n 2, 1) := by decide +kernel
theorem d_ArSu_hugeLength_59 : decode prog_34_method_28_code 59 = .ok (.ireturn, 1) := by decide +kernel
abbrev m_Str_length : MethodName × ByteArray × Nat × Option FieldType := (⟨"java/lang/String", "length", "()I"⟩, prog_20_method_54_code, 1, (Option.some FieldType.int))
theorem d_Str_length_0 : decode prog_20_method_54_code 0 = .ok (.aload_n 0, 1) := by decide +kernel
theorem d_Str_length_1 : decode prog_20_method_54_code 1 = .ok (.getfield 9, 3) := by decide +kernel
theorem d_Str_length_4 : decode prog_20_method_54_code 4 = .ok (.arraylength, 1) := by decide +kernel
theorem d_Str_length_5 : decode prog_20_method_54_code 5 = .ok (.aload_n 0, 1) := by decide +kernel
theorem d_Str_length_6 : decode prog_20_method_54_code 6 = .ok (.invokevirtual 335, 3) := by decide +kernel
theorem d_Str_length_9 : decode prog_20_method_54_code 9 = .ok (.ishr, 1) := by decide +kernel
theorem d_Str_length_10 : decode prog_20_method_54_code 10 = .ok (.ireturn, 1) := by decide +kernel
abbrev m_Str_coder : MethodName × ByteArray × Nat × Option FieldType := (⟨"java/lang/String", "coder", "()B"⟩, prog_20_method_152_code, 1, (Option.some FieldType.byte))
theorem d_Str_coder_0 : decode prog_20_method_152_code 0 = .ok (.getstatic 38, 3) := by decide +kernel
theorem d_Str_coder_3 : decode prog_20_method_152_code 3 = .ok (.ifCond .eq 10, 3) := by decide +kernel
theorem d_Str_coder_6 : decode prog_20_method_152_code 6 = .ok (.aload_n 0, 1) := by decide +kernel
theorem d_Str_coder_7 : decode prog_20_method_152_code 7 = .ok (.getfield 15, 3) := by decide +kernel
theorem d_Str_coder_10 : decode prog_20_method_152_code 10 = .ok (.goto 4, 3) := by decide +kernel
theorem d_Str_coder_13 : decode prog_20_method_152_code 13 = .ok (.iconst 1, 1) := by decide +kernel
theorem d_Str_coder_14 : decode prog_20_method_152_code 14 = .ok (.ireturn, 1) := by decide +kernel
abbrev m_Str_charAt : MethodName × ByteArray × Nat × Option FieldType := (⟨"java/lang/String", "charAt", "(I)C"⟩, prog_20_method_56_code, 2, (Option.some FieldType.char))
theorem d_Str_charAt_0 : decode prog_20_method_56_code 0 = .ok (.aload_n 0, 1) := by decide +kernel
theorem d_Str_charAt_1 : decode prog_20_method_56_code 1 = .ok (.invokevirtual 492, 3) := by decide +kernel
theorem d_Str_charAt_4 : decode prog_20_method_56_code 4 = .ok (.ifCond .eq 12, 3) := by decide +kernel
theorem d_Str_charAt_7 : decode prog_20_method_56_code 7 = .ok (.aload_n 0, 1) := by decide +kernel
theorem d_Str_charAt_8 : decode prog_20_method_56_code 8 = .ok (.getfield 9, 3) := by decide +kernel
theorem d_Str_charAt_11 : decode prog_20_method_56_code 11 = .ok (.iload_n 1, 1) := by decide +kernel
theorem d_Str_charAt_12 : decode prog_20_method_56_code 12 = .ok (.invokestatic 495, 3) := by decide +kernel
theorem d_Str_charAt_15 : decode prog_20_method_56_code 15 = .ok (.ireturn, 1) := by decide +kernel
theorem d_Str_charAt_16 : decode prog_20_method_56_code 16 = .ok (.aload_n 0, 1) := by decide +kernel
theorem d_Str_charAt_17 : decode prog_20_method_56_code 17 = .ok (.getfield 9, 3) := by decide +kernel
theorem d_Str_charAt_20 : decode prog_20_method_56_code 20 = .ok (.iload_n 1, 1) := by decide +kernel
theorem d_Str_charAt_21 : decode prog_20_method_56_code 21 = .ok (.invokestatic 498, 3) := by decide +kernel
theorem d_Str_charAt_24 : decode prog_20_method_56_code 24 = .ok (.ireturn, 1) := by decide +kernel
abbrev m_Str_isLatin1 : MethodName × ByteArray × Nat × Option FieldType := (⟨"java/lang/String", "isLatin1", "()Z"⟩, prog_20_method_154_code, 1, (Option.some FieldType.boolean))
theorem d_Str_isLatin1_0 : decode prog_20_method_154_code 0 = .ok (.getstatic 38, 3) := by decide +kernel
theorem d_Str_isLatin1_3 : decode prog_20_method_154_code 3 = .ok (.ifCond .eq 14, 3) := by decide +kernel
theorem d_Str_isLatin1_6 : decode prog_20_method_154_code 6 = .ok (.aload_n 0, 1) := by decide +kernel
theorem d_Str_isLatin1_7 : decode prog_20_method_154_code 7 = .ok (.getfield 15, 3) := by decide +kernel
theorem d_Str_isLatin1_10 : decode prog_20_method_154_code 10 = .ok (.ifCond .ne 7, 3) := by decide +kernel
theorem d_Str_isLatin1_13 : decode prog_20_method_154_code 13 = .ok (.iconst 1, 1) := by decide +kernel
theorem d_Str_isLatin1_14 : decode prog_20_method_154_code 14 = .ok (.goto 4, 3) := by decide +kernel
theorem d_Str_isLatin1_17 : decode prog_20_method_154_code 17 = .ok (.iconst 0, 1) := by decide +kernel
theorem d_Str_isLatin1_18 : decode prog_20_method_154_code 18 = .ok (.ireturn, 1) := by decide +kernel
abbrev m_Str_checkIndex : MethodName × ByteArray × Nat × Option FieldType := (⟨"java/lang/String", "checkIndex", "(II)V"⟩, prog_20_method_155_code, 2, (Option.none : Option FieldType))
theorem d_Str_checkIndex_0 : decode prog_20_method_155_code 0 = .ok (.iload_n 0, 1) := by decide +kernel
theorem d_Str_checkIndex_1 : decode prog_20_method_155_code 1 = .ok (.iload_n 1, 1) := by decide +kernel
theorem d_Str_checkIndex_2 : decode prog_20_method_155_code 2 = .ok (.getstatic 1053, 3) := by decide +kernel
theorem d_Str_checkIndex_5 : decode prog_20_method_155_code 5 = .ok (.invokestatic 1059, 3) := by decide +kernel
theorem d_Str_checkIndex_8 : decode prog_20_method_155_code 8 = .ok (.pop, 1) := by decide +kernel
theorem d_Str_checkIndex_9 : decode prog_20_method_155_code 9 = .ok (.return_, 1) := by decide +kernel
abbrev m_Lat_charAt : MethodName × ByteArray × Nat × Option FieldType := (⟨"java/lang/StringLatin1", "charAt", "([BI)C"⟩, prog_21_method_2_code, 2, (Option.some FieldType.char))
theorem d_Lat_charAt_0 : decode prog_21_method_2_code 0 = .ok (.iload_n 1, 1) := by decide +kernel
theorem d_Lat_charAt_1 : decode prog_21_method_2_code 1 = .ok (.aload_n 0, 1) := by decide +kernel
theorem d_Lat_charAt_2 : decode prog_21_method_2_code 2 = .ok (.arraylength, 1) := by decide +kernel
theorem d_Lat_charAt_3 : decode prog_21_method_2_code 3 = .ok (.invokestatic 9, 3) := by decide +kernel
theorem d_Lat_charAt_6 : decode prog_21_method_2_code 6 = .ok (.aload_n 0, 1) := by decide +kernel
theorem d_Lat_charAt_7 : decode prog_21_method_2_code 7 = .ok (.iload_n 1, 1) := by decide +kernel
theorem d_Lat_charAt_8 : decode prog_21_method_2_code 8 = .ok (.baload, 1) := by decide +kernel
theorem d_Lat_charAt_9 : decode prog_21_method_2_code 9 = .ok (.sipush 255, 3) := by decide +kernel
theorem d_Lat_charAt_12 : decode prog_21_method_2_code 12 = .ok (.iand, 1) := by decide +kernel
theorem d_Lat_charAt_13 : decode prog_21_method_2_code 13 = .ok (.i2c, 1) := by decide +kernel
theorem d_Lat_charAt_14 : decode prog_21_method_2_code 14 = .ok (.ireturn, 1) := by decide +kernel
abbrev m_Law_read : MethodName × ByteArray × Nat × Option FieldType := (⟨"TestTextLaw", "read", "(LTestText;[J)I"⟩, method_3_code, 3, (Option.some FieldType.int))
theorem d_Law_read_0 : decode method_3_code 0 = .ok (.aload_n 1, 1) := by decide +kernel
theorem d_Law_read_1 : decode method_3_code 1 = .ok (.iconst 0, 1) := by decide +kernel
theorem d_Law_read_2 : decode method_3_code 2 = .ok (.aload_n 0, 1) := by decide +kernel
theorem d_Law_read_3 : decode method_3_code 3 = .ok (.invokevirtual 7, 3) := by decide +kernel
theorem d_Law_read_6 : decode method_3_code 6 = .ok (.i2l, 1) := by decide +kernel
theorem d_Law_read_7 : decode method_3_code 7 = .ok (.lastore, 1) := by decide +kernel
theorem d_Law_read_8 : decode method_3_code 8 = .ok (.goto 6, 3) := by decide +kernel
theorem d_Law_read_11 : decode method_3_code 11 = .ok (.astore_n 2, 1) := by decide +kernel
theorem d_Law_read_12 : decode method_3_code 12 = .ok (.iconst 1, 1) := by decide +kernel
theorem d_Law_read_13 : decode method_3_code 13 = .ok (.ireturn, 1) := by decide +kernel
theorem d_Law_read_14 : decode method_3_code 14 = .ok (.iconst 0, 1) := by decide +kernel
theorem d_Law_read_15 : decode method_3_code 15 = .ok (.ireturn, 1) := by decide +kernel
abbrev m_Law_law : MethodName × ByteArray × Nat × Option FieldType := (⟨"TestTextLaw", "law", "([I)Z"⟩, code, 7, (Option.some FieldType.boolean))
theorem d_Law_law_0 : decode code 0 = .ok (.new 8, 3) := by decide +kernel
theorem d_Law_law_3 : decode code 3 = .ok (.dup, 1) := by decide +kernel
theorem d_Law_law_4 : decode code 4 = .ok (.invokespecial 15, 3) := by decide +kernel
theorem d_Law_law_7 : decode code 7 = .ok (.astore_n 1, 1) := by decide +kernel
theorem d_Law_law_8 : decode code 8 = .ok (.new 16, 3) := by decide +kernel
theorem d_Law_law_11 : decode code 11 = .ok (.dup, 1) := by decide +kernel
theorem d_Law_law_12 : decode code 12 = .ok (.invokespecial 18, 3) := by decide +kernel
theorem d_Law_law_15 : decode code 15 = .ok (.astore_n 2, 1) := by decide +kernel
theorem d_Law_law_16 : decode code 16 = .ok (.iconst 1, 1) := by decide +kernel
theorem d_Law_law_17 : decode code 17 = .ok (.newarray .long, 2) := by decide +kernel
theorem d_Law_law_19 : decode code 19 = .ok (.astore_n 3, 1) := by decide +kernel
theorem d_Law_law_20 : decode code 20 = .ok (.iconst 0, 1) := by decide +kernel
theorem d_Law_law_21 : decode code 21 = .ok (.istore 4, 2) := by decide +kernel
theorem d_Law_law_23 : decode code 23 = .ok (.iload 4, 2) := by decide +kernel
theorem d_Law_law_25 : decode code 25 = .ok (.aload_n 0, 1) := by decide +kernel
theorem d_Law_law_26 : decode code 26 = .ok (.arraylength, 1) := by decide +kernel
theorem d_Law_law_27 : decode code 27 = .ok (.bipush 6, 2) := by decide +kernel
theorem d_Law_law_29 : decode code 29 = .ok (.isub, 1) := by decide +kernel
theorem d_Law_law_30 : decode code 30 = .ok (.if_icmp .gt 644, 3) := by decide +kernel
theorem d_Law_law_33 : decode code 33 = .ok (.aload_n 0, 1) := by decide +kernel
theorem d_Law_law_34 : decode code 34 = .ok (.iload 4, 2) := by decide +kernel
theorem d_Law_law_36 : decode code 36 = .ok (.iaload, 1) := by decide +kernel
theorem d_Law_law_37 : decode code 37 = .ok (.bipush 15, 2) := by decide +kernel
theorem d_Law_law_39 : decode code 39 = .ok (.iand, 1) := by decide +kernel
theorem d_Law_law_40 : decode code 40 = .ok (.tableswitch 628 0 14 #[76, 99, 143, 156, 269, 282, 319, 344, 397, 422, 459, 496, 521, 578, 591], 76) := by decide +kernel
theorem d_Law_law_116 : decode code 116 = .ok (.aload_n 1, 1) := by decide +kernel
theorem d_Law_law_117 : decode code 117 = .ok (.aload_n 0, 1) := by decide +kernel
theorem d_Law_law_118 : decode code 118 = .ok (.iload 4, 2) := by decide +kernel
theorem d_Law_law_120 : decode code 120 = .ok (.iconst 1, 1) := by decide +kernel
theorem d_Law_law_121 : decode code 121 = .ok (.iadd, 1) := by decide +kernel
theorem d_Law_law_122 : decode code 122 = .ok (.iaload, 1) := by decide +kernel
theorem d_Law_law_123 : decode code 123 = .ok (.invokevirtual 19, 3) := by decide +kernel
theorem d_Law_law_126 : decode code 126 = .ok (.aload_n 2, 1) := by decide +kernel
theorem d_Law_law_127 : decode code 127 = .ok (.aload_n 0, 1) := by decide +kernel
theorem d_Law_law_128 : decode code 128 = .ok (.iload 4, 2) := by decide +kernel
theorem d_Law_law_130 : decode code 130 = .ok (.iconst 1, 1) := by decide +kernel
theorem d_Law_law_131 : decode code 131 = .ok (.iadd, 1) := by decide +kernel
theorem d_Law_law_132 : decode code 132 = .ok (.iaload, 1) := by decide +kernel
theorem d_Law_law_133 : decode code 133 = .ok (.invokevirtual 23, 3) := by decide +kernel
theorem d_Law_law_136 : decode code 136 = .ok (.goto 532, 3) := by decide +kernel
theorem d_Law_law_139 : decode code 139 = .ok (.aload_n 1, 1) := by decide +kernel
theorem d_Law_law_140 : decode code 140 = .ok (.aload_n 3, 1) := by decide +kernel
theorem d_Law_law_141 : decode code 141 = .ok (.invokestatic 24, 3) := by decide +kernel
theorem d_Law_law_144 : decode code 144 = .ok (.istore 5, 2) := by decide +kernel
theorem d_Law_law_146 : decode code 146 = .ok (.aload_n 2, 1) := by decide +kernel
theorem d_Law_law_147 : decode code 147 = .ok (.invokevirtual 29, 3) := by decide +kernel
theorem d_Law_law_150 : decode code 150 = .ok (.istore 6, 2) := by decide +kernel
theorem d_Law_law_152 : decode code 152 = .ok (.aload_n 2, 1) := by decide +kernel
theorem d_Law_law_153 : decode code 153 = .ok (.invokevirtual 30, 3) := by decide +kernel
theorem d_Law_law_156 : decode code 156 = .ok (.iload 5, 2) := by decide +kernel
theorem d_Law_law_158 : decode code 158 = .ok (.if_icmp .eq 5, 3) := by decide +kernel
theorem d_Law_law_161 : decode code 161 = .ok (.iconst 0, 1) := by decide +kernel
theorem d_Law_law_162 : decode code 162 = .ok (.ireturn, 1) := by decide +kernel
theorem d_Law_law_163 : decode code 163 = .ok (.iload 5, 2) := by decide +kernel
theorem d_Law_law_165 : decode code 165 = .ok (.ifCond .ne 15, 3) := by decide +kernel
theorem d_Law_law_168 : decode code 168 = .ok (.aload_n 3, 1) := by decide +kernel
theorem d_Law_law_169 : decode code 169 = .ok (.iconst 0, 1) := by decide +kernel
theorem d_Law_law_170 : decode code 170 = .ok (.laload, 1) := by decide +kernel
theorem d_Law_law_171 : decode code 171 = .ok (.iload 6, 2) := by decide +kernel
theorem d_Law_law_173 : decode code 173 = .ok (.i2l, 1) := by decide +kernel
theorem d_Law_law_174 : decode code 174 = .ok (.lcmp, 1) := by decide +kernel
theorem d_Law_law_175 : decode code 175 = .ok (.ifCond .eq 5, 3) := by decide +kernel
theorem d_Law_law_178 : decode code 178 = .ok (.iconst 0, 1) := by decide +kernel
theorem d_Law_law_179 : decode code 179 = .ok (.ireturn, 1) := by decide +kernel
theorem d_Law_law_180 : decode code 180 = .ok (.goto 488, 3) := by decide +kernel
theorem d_Law_law_183 : decode code 183 = .ok (.aload_n 1, 1) := by decide +kernel
theorem d_Law_law_184 : decode code 184 = .ok (.invokevirtual 33, 3) := by decide +kernel
theorem d_Law_law_187 : decode code 187 = .ok (.aload_n 2, 1) := by decide +kernel
theorem d_Law_law_188 : decode code 188 = .ok (.invokevirtual 36, 3) := by decide +kernel
theorem d_Law_law_191 : decode code 191 = .ok (.if_icmp .eq 477, 3) := by decide +kernel
theorem d_Law_law_194 : decode code 194 = .ok (.iconst 0, 1) := by decide +kernel
theorem d_Law_law_195 : decode code 195 = .ok (.ireturn, 1) := by decide +kernel
theorem d_Law_law_196 : decode code 196 = .ok (.aload_n 1, 1) := by decide +kernel
theorem d_Law_law_197 : decode code 197 = .ok (.aload_n 0, 1) := by decide +kernel
theorem d_Law_law_198 : decode code 198 = .ok (.iload 4, 2) := by decide +kernel
theorem d_Law_law_200 : decode code 200 = .ok (.iconst 1, 1) := by decide +kernel
theorem d_Law_law_201 : decode code 201 = .ok (.iadd, 1) := by decide +kernel
theorem d_Law_law_202 : decode code 202 = .ok (.iaload, 1) := by decide +kernel
theorem d_Law_law_203 : decode code 203 = .ok (.aload_n 0, 1) := by decide +kernel
theorem d_Law_law_204 : decode code 204 = .ok (.iload 4, 2) := by decide +kernel
theorem d_Law_law_206 : decode code 206 = .ok (.iconst 2, 1) := by decide +kernel
theorem d_Law_law_207 : decode code 207 = .ok (.iadd, 1) := by decide +kernel
theorem d_Law_law_208 : decode code 208 = .ok (.iaload, 1) := by decide +kernel
theorem d_Law_law_209 : decode code 209 = .ok (.i2l, 1) := by decide +kernel
theorem d_Law_law_210 : decode code 210 = .ok (.bipush 32, 2) := by decide +kernel
theorem d_Law_law_212 : decode code 212 = .ok (.lshl, 1) := by decide +kernel
theorem d_Law_law_213 : decode code 213 = .ok (.aload_n 0, 1) := by decide +kernel
theorem d_Law_law_214 : decode code 214 = .ok (.iload 4, 2) := by decide +kernel
theorem d_Law_law_216 : decode code 216 = .ok (.iconst 3, 1) := by decide +kernel
theorem d_Law_law_217 : decode code 217 = .ok (.iadd, 1) := by decide +kernel
theorem d_Law_law_218 : decode code 218 = .ok (.iaload, 1) := by decide +kernel
theorem d_Law_law_219 : decode code 219 = .ok (.i2l, 1) := by decide +kernel
theorem d_Law_law_220 : decode code 220 = .ok (.ldc2_w 37, 3) := by decide +kernel
theorem d_Law_law_223 : decode code 223 = .ok (.land, 1) := by decide +kernel
theorem d_Law_law_224 : decode code 224 = .ok (.lor, 1) := by decide +kernel
theorem d_Law_law_225 : decode code 225 = .ok (.aload_n 0, 1) := by decide +kernel
theorem d_Law_law_226 : decode code 226 = .ok (.iload 4, 2) := by decide +kernel
theorem d_Law_law_228 : decode code 228 = .ok (.iconst 4, 1) := by decide +kernel
theorem d_Law_law_229 : decode code 229 = .ok (.iadd, 1) := by decide +kernel
theorem d_Law_law_230 : decode code 230 = .ok (.iaload, 1) := by decide +kernel
theorem d_Law_law_231 : decode code 231 = .ok (.i2l, 1) := by decide +kernel
theorem d_Law_law_232 : decode code 232 = .ok (.bipush 32, 2) := by decide +kernel
theorem d_Law_law_234 : decode code 234 = .ok (.lshl, 1) := by decide +kernel
theorem d_Law_law_235 : decode code 235 = .ok (.aload_n 0, 1) := by decide +kernel
theorem d_Law_law_236 : decode code 236 = .ok (.iload 4, 2) := by decide +kernel
theorem d_Law_law_238 : decode code 238 = .ok (.iconst 5, 1) := by decide +kernel
theorem d_Law_law_239 : decode code 239 = .ok (.iadd, 1) := by decide +kernel
theorem d_Law_law_240 : decode code 240 = .ok (.iaload, 1) := by decide +kernel
theorem d_Law_law_241 : decode code 241 = .ok (.i2l, 1) := by decide +kernel
theorem d_Law_law_242 : decode code 242 = .ok (.ldc2_w 37, 3) := by decide +kernel
theorem d_Law_law_245 : decode code 245 = .ok (.land, 1) := by decide +kernel
theorem d_Law_law_246 : decode code 246 = .ok (.lor, 1) := by decide +kernel
theorem d_Law_law_247 : decode code 247 = .ok (.invokevirtual 39, 3) := by decide +kernel
theorem d_Law_law_250 : decode code 250 = .ok (.aload_n 2, 1) := by decide +kernel
theorem d_Law_law_251 : decode code 251 = .ok (.aload_n 0, 1) := by decide +kernel
theorem d_Law_law_252 : decode code 252 = .ok (.iload 4, 2) := by decide +kernel
theorem d_Law_law_254 : decode code 254 = .ok (.iconst 1, 1) := by decide +kernel
theorem d_Law_law_255 : decode code 255 = .ok (.iadd, 1) := by decide +kernel
theorem d_Law_law_256 : decode code 256 = .ok (.iaload, 1) := by decide +kernel
theorem d_Law_law_257 : decode code 257 = .ok (.aload_n 0, 1) := by decide +kernel
theorem d_Law_law_258 : decode code 258 = .ok (.iload 4, 2) := by decide +kernel
theorem d_Law_law_260 : decode code 260 = .ok (.iconst 2, 1) := by decide +kernel
theorem d_Law_law_261 : decode code 261 = .ok (.iadd, 1) := by decide +kernel
theorem d_Law_law_262 : decode code 262 = .ok (.iaload, 1) := by decide +kernel
theorem d_Law_law_263 : decode code 263 = .ok (.i2l, 1) := by decide +kernel
theorem d_Law_law_264 : decode code 264 = .ok (.bipush 32, 2) := by decide +kernel
theorem d_Law_law_266 : decode code 266 = .ok (.lshl, 1) := by decide +kernel
theorem d_Law_law_267 : decode code 267 = .ok (.aload_n 0, 1) := by decide +kernel
theorem d_Law_law_268 : decode code 268 = .ok (.iload 4, 2) := by decide +kernel
theorem d_Law_law_270 : decode code 270 = .ok (.iconst 3, 1) := by decide +kernel
theorem d_Law_law_271 : decode code 271 = .ok (.iadd, 1) := by decide +kernel
theorem d_Law_law_272 : decode code 272 = .ok (.iaload, 1) := by decide +kernel
theorem d_Law_law_273 : decode code 273 = .ok (.i2l, 1) := by decide +kernel
theorem d_Law_law_274 : decode code 274 = .ok (.ldc2_w 37, 3) := by decide +kernel
theorem d_Law_law_277 : decode code 277 = .ok (.land, 1) := by decide +kernel
theorem d_Law_law_278 : decode code 278 = .ok (.lor, 1) := by decide +kernel
theorem d_Law_law_279 : decode code 279 = .ok (.aload_n 0, 1) := by decide +kernel
theorem d_Law_law_280 : decode code 280 = .ok (.iload 4, 2) := by decide +kernel
theorem d_Law_law_282 : decode code 282 = .ok (.iconst 4, 1) := by decide +kernel
theorem d_Law_law_283 : decode code 283 = .ok (.iadd, 1) := by decide +kernel
theorem d_Law_law_284 : decode code 284 = .ok (.iaload, 1) := by decide +kernel
theorem d_Law_law_285 : decode code 285 = .ok (.i2l, 1) := by decide +kernel
theorem d_Law_law_286 : decode code 286 = .ok (.bipush 32, 2) := by decide +kernel
theorem d_Law_law_288 : decode code 288 = .ok (.lshl, 1) := by decide +kernel
theorem d_Law_law_289 : decode code 289 = .ok (.aload_n 0, 1) := by decide +kernel
theorem d_Law_law_290 : decode code 290 = .ok (.iload 4, 2) := by decide +kernel
theorem d_Law_law_292 : decode code 292 = .ok (.iconst 5, 1) := by decide +kernel
theorem d_Law_law_293 : decode code 293 = .ok (.iadd, 1) := by decide +kernel
theorem d_Law_law_294 : decode code 294 = .ok (.iaload, 1) := by decide +kernel
theorem d_Law_law_295 : decode code 295 = .ok (.i2l, 1) := by decide +kernel
theorem d_Law_law_296 : decode code 296 = .ok (.ldc2_w 37, 3) := by decide +kernel
theorem d_Law_law_299 : decode code 299 = .ok (.land, 1) := by decide +kernel
theorem d_Law_law_300 : decode code 300 = .ok (.lor, 1) := by decide +kernel
theorem d_Law_law_301 : decode code 301 = .ok (.invokevirtual 43, 3) := by decide +kernel
theorem d_Law_law_304 : decode code 304 = .ok (.if_icmp .eq 364, 3) := by decide +kernel
theorem d_Law_law_307 : decode code 307 = .ok (.iconst 0, 1) := by decide +kernel
theorem d_Law_law_308 : decode code 308 = .ok (.ireturn, 1) := by decide +kernel
theorem d_Law_law_309 : decode code 309 = .ok (.aload_n 1, 1) := by decide +kernel
theorem d_Law_law_310 : decode code 310 = .ok (.invokevirtual 44, 3) := by decide +kernel
theorem d_Law_law_313 : decode code 313 = .ok (.aload_n 2, 1) := by decide +kernel
theorem d_Law_law_314 : decode code 314 = .ok (.invokevirtual 47, 3) := by decide +kernel
theorem d_Law_law_317 : decode code 317 = .ok (.if_icmp .eq 351, 3) := by decide +kernel
theorem d_Law_law_320 : decode code 320 = .ok (.iconst 0, 1) := by decide +kernel
theorem d_Law_law_321 : decode code 321 = .ok (.ireturn, 1) := by decide +kernel
theorem d_Law_law_322 : decode code 322 = .ok (.aload_n 1, 1) := by decide +kernel
theorem d_Law_law_323 : decode code 323 = .ok (.aload_n 0, 1) := by decide +kernel
theorem d_Law_law_324 : decode code 324 = .ok (.iload 4, 2) := by decide +kernel
theorem d_Law_law_326 : decode code 326 = .ok (.iconst 1, 1) := by decide +kernel
theorem d_Law_law_327 : decode code 327 = .ok (.iadd, 1) := by decide +kernel
theorem d_Law_law_328 : decode code 328 = .ok (.iaload, 1) := by decide +kernel
theorem d_Law_law_329 : decode code 329 = .ok (.aload_n 0, 1) := by decide +kernel
theorem d_Law_law_330 : decode code 330 = .ok (.iload 4, 2) := by decide +kernel
theorem d_Law_law_332 : decode code 332 = .ok (.iconst 2, 1) := by decide +kernel
theorem d_Law_law_333 : decode code 333 = .ok (.iadd, 1) := by decide +kernel
theorem d_Law_law_334 : decode code 334 = .ok (.iaload, 1) := by decide +kernel
theorem d_Law_law_335 : decode code 335 = .ok (.invokevirtual 48, 3) := by decide +kernel
theorem d_Law_law_338 : decode code 338 = .ok (.aload_n 2, 1) := by decide +kernel
theorem d_Law_law_339 : decode code 339 = .ok (.aload_n 0, 1) := by decide +kernel
theorem d_Law_law_340 : decode code 340 = .ok (.iload 4, 2) := by decide +kernel
theorem d_Law_law_342 : decode code 342 = .ok (.iconst 1, 1) := by decide +kernel
theorem d_Law_law_343 : decode code 343 = .ok (.iadd, 1) := by decide +kernel
theorem d_Law_law_344 : decode code 344 = .ok (.iaload, 1) := by decide +kernel
theorem d_Law_law_345 : decode code 345 = .ok (.aload_n 0, 1) := by decide +kernel
theorem d_Law_law_346 : decode code 346 = .ok (.iload 4, 2) := by decide +kernel
theorem d_Law_law_348 : decode code 348 = .ok (.iconst 2, 1) := by decide +kernel
theorem d_Law_law_349 : decode code 349 = .ok (.iadd, 1) := by decide +kernel
theorem d_Law_law_350 : decode code 350 = .ok (.iaload, 1) := by decide +kernel
theorem d_Law_law_351 : decode code 351 = .ok (.invokevirtual 52, 3) := by decide +kernel
theorem d_Law_law_354 : decode code 354 = .ok (.if_icmp .eq 314, 3) := by decide +kernel
theorem d_Law_law_357 : decode code 357 = .ok (.iconst 0, 1) := by decide +kernel
theorem d_Law_law_358 : decode code 358 = .ok (.ireturn, 1) := by decide +kernel
theorem d_Law_law_359 : decode code 359 = .ok (.aload_n 1, 1) := by decide +kernel
theorem d_Law_law_360 : decode code 360 = .ok (.aload_n 0, 1) := by decide +kernel
theorem d_Law_law_361 : decode code 361 = .ok (.iload 4, 2) := by decide +kernel
theorem d_Law_law_363 : decode code 363 = .ok (.iconst 1, 1) := by decide +kernel
theorem d_Law_law_364 : decode code 364 = .ok (.iadd, 1) := by decide +kernel
theorem d_Law_law_365 : decode code 365 = .ok (.iaload, 1) := by decide +kernel
theorem d_Law_law_366 : decode code 366 = .ok (.invokevirtual 53, 3) := by decide +kernel
theorem d_Law_law_369 : decode code 369 = .ok (.aload_n 2, 1) := by decide +kernel
theorem d_Law_law_370 : decode code 370 = .ok (.aload_n 0, 1) := by decide +kernel
theorem d_Law_law_371 : decode code 371 = .ok (.iload 4, 2) := by decide +kernel
theorem d_Law_law_373 : decode code 373 = .ok (.iconst 1, 1) := by decide +kernel
theorem d_Law_law_374 : decode code 374 = .ok (.iadd, 1) := by decide +kernel
theorem d_Law_law_375 : decode code 375 = .ok (.iaload, 1) := by decide +kernel
theorem d_Law_law_376 : decode code 376 = .ok (.invokevirtual 57, 3) := by decide +kernel
theorem d_Law_law_379 : decode code 379 = .ok (.if_icmp .eq 289, 3) := by decide +kernel
theorem d_Law_law_382 : decode code 382 = .ok (.iconst 0, 1) := by decide +kernel
theorem d_Law_law_383 : decode code 383 = .ok (.ireturn, 1) := by decide +kernel
theorem d_Law_law_384 : decode code 384 = .ok (.aload_n 1, 1) := by decide +kernel
theorem d_Law_law_385 : decode code 385 = .ok (.aload_n 0, 1) := by decide +kernel
theorem d_Law_law_386 : decode code 386 = .ok (.iload 4, 2) := by decide +kernel
theorem d_Law_law_388 : decode code 388 = .ok (.iconst 1, 1) := by decide +kernel
theorem d_Law_law_389 : decode code 389 = .ok (.iadd, 1) := by decide +kernel
theorem d_Law_law_390 : decode code 390 = .ok (.iaload, 1) := by decide +kernel
theorem d_Law_law_391 : decode code 391 = .ok (.aload_n 0, 1) := by decide +kernel
theorem d_Law_law_392 : decode code 392 = .ok (.iload 4, 2) := by decide +kernel
theorem d_Law_law_394 : decode code 394 = .ok (.iconst 2, 1) := by decide +kernel
theorem d_Law_law_395 : decode code 395 = .ok (.iadd, 1) := by decide +kernel
theorem d_Law_law_396 : decode code 396 = .ok (.iaload, 1) := by decide +kernel
theorem d_Law_law_397 : decode code 397 = .ok (.ifCond .eq 7, 3) := by decide +kernel
theorem d_Law_law_400 : decode code 400 = .ok (.iconst 1, 1) := by decide +kernel
theorem d_Law_law_401 : decode code 401 = .ok (.goto 4, 3) := by decide +kernel
theorem d_Law_law_404 : decode code 404 = .ok (.iconst 0, 1) := by decide +kernel
theorem d_Law_law_405 : decode code 405 = .ok (.invokevirtual 58, 3) := by decide +kernel
theorem d_Law_law_408 : decode code 408 = .ok (.aload_n 2, 1) := by decide +kernel
theorem d_Law_law_409 : decode code 409 = .ok (.aload_n 0, 1) := by decide +kernel
theorem d_Law_law_410 : decode code 410 = .ok (.iload 4, 2) := by decide +kernel
theorem d_Law_law_412 : decode code 412 = .ok (.iconst 1, 1) := by decide +kernel
theorem d_Law_law_413 : decode code 413 = .ok (.iadd, 1) := by decide +kernel
theorem d_Law_law_414 : decode code 414 = .ok (.iaload, 1) := by decide +kernel
theorem d_Law_law_415 : decode code 415 = .ok (.aload_n 0, 1) := by decide +kernel
theorem d_Law_law_416 : decode code 416 = .ok (.iload 4, 2) := by decide +kernel
theorem d_Law_law_418 : decode code 418 = .ok (.iconst 2, 1) := by decide +kernel
theorem d_Law_law_419 : decode code 419 = .ok (.iadd, 1) := by decide +kernel
theorem d_Law_law_420 : decode code 420 = .ok (.iaload, 1) := by decide +kernel
theorem d_Law_law_421 : decode code 421 = .ok (.ifCond .eq 7, 3) := by decide +kernel
theorem d_Law_law_424 : decode code 424 = .ok (.iconst 1, 1) := by decide +kernel
theorem d_Law_law_425 : decode code 425 = .ok (.goto 4, 3) := by decide +kernel
theorem d_Law_law_428 : decode code 428 = .ok (.iconst 0, 1) := by decide +kernel
theorem d_Law_law_429 : decode code 429 = .ok (.invokevirtual 62, 3) := by decide +kernel
theorem d_Law_law_432 : decode code 432 = .ok (.if_icmp .eq 236, 3) := by decide +kernel
theorem d_Law_law_435 : decode code 435 = .ok (.iconst 0, 1) := by decide +kernel
theorem d_Law_law_436 : decode code 436 = .ok (.ireturn, 1) := by decide +kernel
theorem d_Law_law_437 : decode code 437 = .ok (.aload_n 1, 1) := by decide +kernel
theorem d_Law_law_438 : decode code 438 = .ok (.aload_n 0, 1) := by decide +kernel
theorem d_Law_law_439 : decode code 439 = .ok (.iload 4, 2) := by decide +kernel
theorem d_Law_law_441 : decode code 441 = .ok (.iconst 1, 1) := by decide +kernel
theorem d_Law_law_442 : decode code 442 = .ok (.iadd, 1) := by decide +kernel
theorem d_Law_law_443 : decode code 443 = .ok (.iaload, 1) := by decide +kernel
theorem d_Law_law_444 : decode code 444 = .ok (.invokevirtual 63, 3) := by decide +kernel
theorem d_Law_law_447 : decode code 447 = .ok (.aload_n 2, 1) := by decide +kernel
theorem d_Law_law_448 : decode code 448 = .ok (.aload_n 0, 1) := by decide +kernel
theorem d_Law_law_449 : decode code 449 = .ok (.iload 4, 2) := by decide +kernel
theorem d_Law_law_451 : decode code 451 = .ok (.iconst 1, 1) := by decide +kernel
theorem d_Law_law_452 : decode code 452 = .ok (.iadd, 1) := by decide +kernel
theorem d_Law_law_453 : decode code 453 = .ok (.iaload, 1) := by decide +kernel
theorem d_Law_law_454 : decode code 454 = .ok (.invokevirtual 66, 3) := by decide +kernel
theorem d_Law_law_457 : decode code 457 = .ok (.if_icmp .eq 211, 3) := by decide +kernel
theorem d_Law_law_460 : decode code 460 = .ok (.iconst 0, 1) := by decide +kernel
theorem d_Law_law_461 : decode code 461 = .ok (.ireturn, 1) := by decide +kernel
theorem d_Law_law_462 : decode code 462 = .ok (.aload_n 1, 1) := by decide +kernel
theorem d_Law_law_463 : decode code 463 = .ok (.aload_n 0, 1) := by decide +kernel
theorem d_Law_law_464 : decode code 464 = .ok (.iload 4, 2) := by decide +kernel
theorem d_Law_law_466 : decode code 466 = .ok (.iconst 1, 1) := by decide +kernel
theorem d_Law_law_467 : decode code 467 = .ok (.iadd, 1) := by decide +kernel
theorem d_Law_law_468 : decode code 468 = .ok (.iaload, 1) := by decide +kernel
theorem d_Law_law_469 : decode code 469 = .ok (.aload_n 0, 1) := by decide +kernel
theorem d_Law_law_470 : decode code 470 = .ok (.iload 4, 2) := by decide +kernel
theorem d_Law_law_472 : decode code 472 = .ok (.iconst 2, 1) := by decide +kernel
theorem d_Law_law_473 : decode code 473 = .ok (.iadd, 1) := by decide +kernel
theorem d_Law_law_474 : decode code 474 = .ok (.iaload, 1) := by decide +kernel
theorem d_Law_law_475 : decode code 475 = .ok (.invokevirtual 67, 3) := by decide +kernel
theorem d_Law_law_478 : decode code 478 = .ok (.aload_n 2, 1) := by decide +kernel
theorem d_Law_law_479 : decode code 479 = .ok (.aload_n 0, 1) := by decide +kernel
theorem d_Law_law_480 : decode code 480 = .ok (.iload 4, 2) := by decide +kernel
theorem d_Law_law_482 : decode code 482 = .ok (.iconst 1, 1) := by decide +kernel
theorem d_Law_law_483 : decode code 483 = .ok (.iadd, 1) := by decide +kernel
theorem d_Law_law_484 : decode code 484 = .ok (.iaload, 1) := by decide +kernel
theorem d_Law_law_485 : decode code 485 = .ok (.aload_n 0, 1) := by decide +kernel
theorem d_Law_law_486 : decode code 486 = .ok (.iload 4, 2) := by decide +kernel
theorem d_Law_law_488 : decode code 488 = .ok (.iconst 2, 1) := by decide +kernel
theorem d_Law_law_489 : decode code 489 = .ok (.iadd, 1) := by decide +kernel
theorem d_Law_law_490 : decode code 490 = .ok (.iaload, 1) := by decide +kernel
theorem d_Law_law_491 : decode code 491 = .ok (.invokevirtual 70, 3) := by decide +kernel
theorem d_Law_law_494 : decode code 494 = .ok (.if_icmp .eq 174, 3) := by decide +kernel
theorem d_Law_law_497 : decode code 497 = .ok (.iconst 0, 1) := by decide +kernel
theorem d_Law_law_498 : decode code 498 = .ok (.ireturn, 1) := by decide +kernel
theorem d_Law_law_499 : decode code 499 = .ok (.aload_n 1, 1) := by decide +kernel
theorem d_Law_law_500 : decode code 500 = .ok (.aload_n 0, 1) := by decide +kernel
theorem d_Law_law_501 : decode code 501 = .ok (.iload 4, 2) := by decide +kernel
theorem d_Law_law_503 : decode code 503 = .ok (.iconst 1, 1) := by decide +kernel
theorem d_Law_law_504 : decode code 504 = .ok (.iadd, 1) := by decide +kernel
theorem d_Law_law_505 : decode code 505 = .ok (.iaload, 1) := by decide +kernel
theorem d_Law_law_506 : decode code 506 = .ok (.aload_n 0, 1) := by decide +kernel
theorem d_Law_law_507 : decode code 507 = .ok (.iload 4, 2) := by decide +kernel
theorem d_Law_law_509 : decode code 509 = .ok (.iconst 2, 1) := by decide +kernel
theorem d_Law_law_510 : decode code 510 = .ok (.iadd, 1) := by decide +kernel
theorem d_Law_law_511 : decode code 511 = .ok (.iaload, 1) := by decide +kernel
theorem d_Law_law_512 : decode code 512 = .ok (.invokevirtual 71, 3) := by decide +kernel
theorem d_Law_law_515 : decode code 515 = .ok (.aload_n 2, 1) := by decide +kernel
theorem d_Law_law_516 : decode code 516 = .ok (.aload_n 0, 1) := by decide +kernel
theorem d_Law_law_517 : decode code 517 = .ok (.iload 4, 2) := by decide +kernel
theorem d_Law_law_519 : decode code 519 = .ok (.iconst 1, 1) := by decide +kernel
theorem d_Law_law_520 : decode code 520 = .ok (.iadd, 1) := by decide +kernel
theorem d_Law_law_521 : decode code 521 = .ok (.iaload, 1) := by decide +kernel
theorem d_Law_law_522 : decode code 522 = .ok (.aload_n 0, 1) := by decide +kernel
theorem d_Law_law_523 : decode code 523 = .ok (.iload 4, 2) := by decide +kernel
theorem d_Law_law_525 : decode code 525 = .ok (.iconst 2, 1) := by decide +kernel
theorem d_Law_law_526 : decode code 526 = .ok (.iadd, 1) := by decide +kernel
theorem d_Law_law_527 : decode code 527 = .ok (.iaload, 1) := by decide +kernel
theorem d_Law_law_528 : decode code 528 = .ok (.invokevirtual 74, 3) := by decide +kernel
theorem d_Law_law_531 : decode code 531 = .ok (.if_icmp .eq 137, 3) := by decide +kernel
theorem d_Law_law_534 : decode code 534 = .ok (.iconst 0, 1) := by decide +kernel
theorem d_Law_law_535 : decode code 535 = .ok (.ireturn, 1) := by decide +kernel
theorem d_Law_law_536 : decode code 536 = .ok (.aload_n 1, 1) := by decide +kernel
theorem d_Law_law_537 : decode code 537 = .ok (.aload_n 0, 1) := by decide +kernel
theorem d_Law_law_538 : decode code 538 = .ok (.iload 4, 2) := by decide +kernel
theorem d_Law_law_540 : decode code 540 = .ok (.iconst 1, 1) := by decide +kernel
theorem d_Law_law_541 : decode code 541 = .ok (.iadd, 1) := by decide +kernel
theorem d_Law_law_542 : decode code 542 = .ok (.iaload, 1) := by decide +kernel
theorem d_Law_law_543 : decode code 543 = .ok (.invokevirtual 75, 3) := by decide +kernel
theorem d_Law_law_546 : decode code 546 = .ok (.aload_n 2, 1) := by decide +kernel
theorem d_Law_law_547 : decode code 547 = .ok (.aload_n 0, 1) := by decide +kernel
theorem d_Law_law_548 : decode code 548 = .ok (.iload 4, 2) := by decide +kernel
theorem d_Law_law_550 : decode code 550 = .ok (.iconst 1, 1) := by decide +kernel
theorem d_Law_law_551 : decode code 551 = .ok (.iadd, 1) := by decide +kernel
theorem d_Law_law_552 : decode code 552 = .ok (.iaload, 1) := by decide +kernel
theorem d_Law_law_553 : decode code 553 = .ok (.invokevirtual 78, 3) := by decide +kernel
theorem d_Law_law_556 : decode code 556 = .ok (.if_icmp .eq 112, 3) := by decide +kernel
theorem d_Law_law_559 : decode code 559 = .ok (.iconst 0, 1) := by decide +kernel
theorem d_Law_law_560 : decode code 560 = .ok (.ireturn, 1) := by decide +kernel
theorem d_Law_law_561 : decode code 561 = .ok (.aload_n 1, 1) := by decide +kernel
theorem d_Law_law_562 : decode code 562 = .ok (.aload_n 0, 1) := by decide +kernel
theorem d_Law_law_563 : decode code 563 = .ok (.iload 4, 2) := by decide +kernel
theorem d_Law_law_565 : decode code 565 = .ok (.iconst 1, 1) := by decide +kernel
theorem d_Law_law_566 : decode code 566 = .ok (.iadd, 1) := by decide +kernel
theorem d_Law_law_567 : decode code 567 = .ok (.iaload, 1) := by decide +kernel
theorem d_Law_law_568 : decode code 568 = .ok (.i2l, 1) := by decide +kernel
theorem d_Law_law_569 : decode code 569 = .ok (.bipush 32, 2) := by decide +kernel
theorem d_Law_law_571 : decode code 571 = .ok (.lshl, 1) := by decide +kernel
theorem d_Law_law_572 : decode code 572 = .ok (.aload_n 0, 1) := by decide +kernel
theorem d_Law_law_573 : decode code 573 = .ok (.iload 4, 2) := by decide +kernel
theorem d_Law_law_575 : decode code 575 = .ok (.iconst 2, 1) := by decide +kernel
theorem d_Law_law_576 : decode code 576 = .ok (.iadd, 1) := by decide +kernel
theorem d_Law_law_577 : decode code 577 = .ok (.iaload, 1) := by decide +kernel
theorem d_Law_law_578 : decode code 578 = .ok (.i2l, 1) := by decide +kernel
theorem d_Law_law_579 : decode code 579 = .ok (.ldc2_w 37, 3) := by decide +kernel
theorem d_Law_law_582 : decode code 582 = .ok (.land, 1) := by decide +kernel
theorem d_Law_law_583 : decode code 583 = .ok (.lor, 1) := by decide +kernel
theorem d_Law_law_584 : decode code 584 = .ok (.invokevirtual 79, 3) := by decide +kernel
theorem d_Law_law_587 : decode code 587 = .ok (.aload_n 2, 1) := by decide +kernel
theorem d_Law_law_588 : decode code 588 = .ok (.aload_n 0, 1) := by decide +kernel
theorem d_Law_law_589 : decode code 589 = .ok (.iload 4, 2) := by decide +kernel
theorem d_Law_law_591 : decode code 591 = .ok (.iconst 1, 1) := by decide +kernel
theorem d_Law_law_592 : decode code 592 = .ok (.iadd, 1) := by decide +kernel
theorem d_Law_law_593 : decode code 593 = .ok (.iaload, 1) := by decide +kernel
theorem d_Law_law_594 : decode code 594 = .ok (.i2l, 1) := by decide +kernel
theorem d_Law_law_595 : decode code 595 = .ok (.bipush 32, 2) := by decide +kernel
theorem d_Law_law_597 : decode code 597 = .ok (.lshl, 1) := by decide +kernel
theorem d_Law_law_598 : decode code 598 = .ok (.aload_n 0, 1) := by decide +kernel
theorem d_Law_law_599 : decode code 599 = .ok (.iload 4, 2) := by decide +kernel
theorem d_Law_law_601 : decode code 601 = .ok (.iconst 2, 1) := by decide +kernel
theorem d_Law_law_602 : decode code 602 = .ok (.iadd, 1) := by decide +kernel
theorem d_Law_law_603 : decode code 603 = .ok (.iaload, 1) := by decide +kernel
theorem d_Law_law_604 : decode code 604 = .ok (.i2l, 1) := by decide +kernel
theorem d_Law_law_605 : decode code 605 = .ok (.ldc2_w 37, 3) := by decide +kernel
theorem d_Law_law_608 : decode code 608 = .ok (.land, 1) := by decide +kernel
theorem d_Law_law_609 : decode code 609 = .ok (.lor, 1) := by decide +kernel
theorem d_Law_law_610 : decode code 610 = .ok (.invokevirtual 83, 3) := by decide +kernel
theorem d_Law_law_613 : decode code 613 = .ok (.if_icmp .eq 55, 3) := by decide +kernel
theorem d_Law_law_616 : decode code 616 = .ok (.iconst 0, 1) := by decide +kernel
theorem d_Law_law_617 : decode code 617 = .ok (.ireturn, 1) := by decide +kernel
theorem d_Law_law_618 : decode code 618 = .ok (.aload_n 1, 1) := by decide +kernel
theorem d_Law_law_619 : decode code 619 = .ok (.invokevirtual 84, 3) := by decide +kernel
theorem d_Law_law_622 : decode code 622 = .ok (.aload_n 2, 1) := by decide +kernel
theorem d_Law_law_623 : decode code 623 = .ok (.invokevirtual 87, 3) := by decide +kernel
theorem d_Law_law_626 : decode code 626 = .ok (.if_icmp .eq 42, 3) := by decide +kernel
theorem d_Law_law_629 : decode code 629 = .ok (.iconst 0, 1) := by decide +kernel
theorem d_Law_law_630 : decode code 630 = .ok (.ireturn, 1) := by decide +kernel
theorem d_Law_law_631 : decode code 631 = .ok (.aload_n 1, 1) := by decide +kernel
theorem d_Law_law_632 : decode code 632 = .ok (.aload_n 0, 1) := by decide +kernel
theorem d_Law_law_633 : decode code 633 = .ok (.iload 4, 2) := by decide +kernel
theorem d_Law_law_635 : decode code 635 = .ok (.iconst 1, 1) := by decide +kernel
theorem d_Law_law_636 : decode code 636 = .ok (.iadd, 1) := by decide +kernel
theorem d_Law_law_637 : decode code 637 = .ok (.iaload, 1) := by decide +kernel
theorem d_Law_law_638 : decode code 638 = .ok (.aload_n 0, 1) := by decide +kernel
theorem d_Law_law_639 : decode code 639 = .ok (.iload 4, 2) := by decide +kernel
theorem d_Law_law_641 : decode code 641 = .ok (.iconst 2, 1) := by decide +kernel
theorem d_Law_law_642 : decode code 642 = .ok (.iadd, 1) := by decide +kernel
theorem d_Law_law_643 : decode code 643 = .ok (.iaload, 1) := by decide +kernel
theorem d_Law_law_644 : decode code 644 = .ok (.invokevirtual 88, 3) := by decide +kernel
theorem d_Law_law_647 : decode code 647 = .ok (.aload_n 2, 1) := by decide +kernel
theorem d_Law_law_648 : decode code 648 = .ok (.aload_n 0, 1) := by decide +kernel
theorem d_Law_law_649 : decode code 649 = .ok (.iload 4, 2) := by decide +kernel
theorem d_Law_law_651 : decode code 651 = .ok (.iconst 1, 1) := by decide +kernel
theorem d_Law_law_652 : decode code 652 = .ok (.iadd, 1) := by decide +kernel
theorem d_Law_law_653 : decode code 653 = .ok (.iaload, 1) := by decide +kernel
theorem d_Law_law_654 : decode code 654 = .ok (.aload_n 0, 1) := by decide +kernel
theorem d_Law_law_655 : decode code 655 = .ok (.iload 4, 2) := by decide +kernel
theorem d_Law_law_657 : decode code 657 = .ok (.iconst 2, 1) := by decide +kernel
theorem d_Law_law_658 : decode code 658 = .ok (.iadd, 1) := by decide +kernel
theorem d_Law_law_659 : decode code 659 = .ok (.iaload, 1) := by decide +kernel
theorem d_Law_law_660 : decode code 660 = .ok (.invokevirtual 91, 3) := by decide +kernel
theorem d_Law_law_663 : decode code 663 = .ok (.if_icmp .eq 5, 3) := by decide +kernel
theorem d_Law_law_666 : decode code 666 = .ok (.iconst 0, 1) := by decide +kernel
theorem d_Law_law_667 : decode code 667 = .ok (.ireturn, 1) := by decide +kernel
theorem d_Law_law_668 : decode code 668 = .ok (.iinc 4 6, 3) := by decide +kernel
theorem d_Law_law_671 : decode code 671 = .ok (.goto (-648), 3) := by decide +kernel
theorem d_Law_law_674 : decode code 674 = .ok (.iconst 1, 1) := by decide +kernel
theorem d_Law_law_675 : decode code 675 = .ok (.ireturn, 1) := by decide +kernel
