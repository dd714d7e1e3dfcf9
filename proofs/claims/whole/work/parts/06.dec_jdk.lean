abbrev m_AL_init : MethodName × ByteArray × Nat × Option FieldType := (⟨"java/util/ArrayList", "<init>", "()V"⟩, prog_27_method_2_code, 1, (Option.none : Option FieldType))
theorem d_AL_init_0 : decode prog_27_method_2_code 0 = .ok (.aload_n 0, 1) := by decide +kernel
theorem d_AL_init_1 : decode prog_27_method_2_code 1 = .ok (.invokespecial 1, 3) := by decide +kernel
theorem d_AL_init_4 : decode prog_27_method_2_code 4 = .ok (.aload_n 0, 1) := by decide +kernel
theorem d_AL_init_5 : decode prog_27_method_2_code 5 = .ok (.getstatic 39, 3) := by decide +kernel
theorem d_AL_init_8 : decode prog_27_method_2_code 8 = .ok (.putfield 9, 3) := by decide +kernel
theorem d_AL_init_11 : decode prog_27_method_2_code 11 = .ok (.return_, 1) := by decide +kernel
abbrev m_AL_isEmpty : MethodName × ByteArray × Nat × Option FieldType := (⟨"java/util/ArrayList", "isEmpty", "()Z"⟩, prog_27_method_9_code, 1, (Option.some FieldType.boolean))
theorem d_AL_isEmpty_0 : decode prog_27_method_9_code 0 = .ok (.aload_n 0, 1) := by decide +kernel
theorem d_AL_isEmpty_1 : decode prog_27_method_9_code 1 = .ok (.getfield 48, 3) := by decide +kernel
theorem d_AL_isEmpty_4 : decode prog_27_method_9_code 4 = .ok (.ifCond .ne 7, 3) := by decide +kernel
theorem d_AL_isEmpty_7 : decode prog_27_method_9_code 7 = .ok (.iconst 1, 1) := by decide +kernel
theorem d_AL_isEmpty_8 : decode prog_27_method_9_code 8 = .ok (.goto 4, 3) := by decide +kernel
theorem d_AL_isEmpty_11 : decode prog_27_method_9_code 11 = .ok (.iconst 0, 1) := by decide +kernel
theorem d_AL_isEmpty_12 : decode prog_27_method_9_code 12 = .ok (.ireturn, 1) := by decide +kernel
abbrev m_AL_size : MethodName × ByteArray × Nat × Option FieldType := (⟨"java/util/ArrayList", "size", "()I"⟩, prog_27_method_8_code, 1, (Option.some FieldType.int))
theorem d_AL_size_0 : decode prog_27_method_8_code 0 = .ok (.aload_n 0, 1) := by decide +kernel
theorem d_AL_size_1 : decode prog_27_method_8_code 1 = .ok (.getfield 48, 3) := by decide +kernel
theorem d_AL_size_4 : decode prog_27_method_8_code 4 = .ok (.ireturn, 1) := by decide +kernel
abbrev m_AL_get : MethodName × ByteArray × Nat × Option FieldType := (⟨"java/util/ArrayList", "get", "(I)Ljava/lang/Object;"⟩, prog_27_method_20_code, 2, (Option.some (FieldType.object "java/lang/Object")))
theorem d_AL_get_0 : decode prog_27_method_20_code 0 = .ok (.iload_n 1, 1) := by decide +kernel
theorem d_AL_get_1 : decode prog_27_method_20_code 1 = .ok (.aload_n 0, 1) := by decide +kernel
theorem d_AL_get_2 : decode prog_27_method_20_code 2 = .ok (.getfield 48, 3) := by decide +kernel
theorem d_AL_get_5 : decode prog_27_method_20_code 5 = .ok (.invokestatic 118, 3) := by decide +kernel
theorem d_AL_get_8 : decode prog_27_method_20_code 8 = .ok (.pop, 1) := by decide +kernel
theorem d_AL_get_9 : decode prog_27_method_20_code 9 = .ok (.aload_n 0, 1) := by decide +kernel
theorem d_AL_get_10 : decode prog_27_method_20_code 10 = .ok (.iload_n 1, 1) := by decide +kernel
theorem d_AL_get_11 : decode prog_27_method_20_code 11 = .ok (.invokevirtual 123, 3) := by decide +kernel
theorem d_AL_get_14 : decode prog_27_method_20_code 14 = .ok (.areturn, 1) := by decide +kernel
abbrev m_AL_elementData : MethodName × ByteArray × Nat × Option FieldType := (⟨"java/util/ArrayList", "elementData", "(I)Ljava/lang/Object;"⟩, prog_27_method_18_code, 2, (Option.some (FieldType.object "java/lang/Object")))
theorem d_AL_elementData_0 : decode prog_27_method_18_code 0 = .ok (.aload_n 0, 1) := by decide +kernel
theorem d_AL_elementData_1 : decode prog_27_method_18_code 1 = .ok (.getfield 9, 3) := by decide +kernel
theorem d_AL_elementData_4 : decode prog_27_method_18_code 4 = .ok (.iload_n 1, 1) := by decide +kernel
theorem d_AL_elementData_5 : decode prog_27_method_18_code 5 = .ok (.aaload, 1) := by decide +kernel
theorem d_AL_elementData_6 : decode prog_27_method_18_code 6 = .ok (.areturn, 1) := by decide +kernel
abbrev m_AL_add : MethodName × ByteArray × Nat × Option FieldType := (⟨"java/util/ArrayList", "add", "(Ljava/lang/Object;)Z"⟩, prog_27_method_25_code, 2, (Option.some FieldType.boolean))
theorem d_AL_add_0 : decode prog_27_method_25_code 0 = .ok (.aload_n 0, 1) := by decide +kernel
theorem d_AL_add_1 : decode prog_27_method_25_code 1 = .ok (.dup, 1) := by decide +kernel
theorem d_AL_add_2 : decode prog_27_method_25_code 2 = .ok (.getfield 63, 3) := by decide +kernel
theorem d_AL_add_5 : decode prog_27_method_25_code 5 = .ok (.iconst 1, 1) := by decide +kernel
theorem d_AL_add_6 : decode prog_27_method_25_code 6 = .ok (.iadd, 1) := by decide +kernel
theorem d_AL_add_7 : decode prog_27_method_25_code 7 = .ok (.putfield 63, 3) := by decide +kernel
theorem d_AL_add_10 : decode prog_27_method_25_code 10 = .ok (.aload_n 0, 1) := by decide +kernel
theorem d_AL_add_11 : decode prog_27_method_25_code 11 = .ok (.aload_n 1, 1) := by decide +kernel
theorem d_AL_add_12 : decode prog_27_method_25_code 12 = .ok (.aload_n 0, 1) := by decide +kernel
theorem d_AL_add_13 : decode prog_27_method_25_code 13 = .ok (.getfield 9, 3) := by decide +kernel
theorem d_AL_add_16 : decode prog_27_method_25_code 16 = .ok (.aload_n 0, 1) := by decide +kernel
theorem d_AL_add_17 : decode prog_27_method_25_code 17 = .ok (.getfield 48, 3) := by decide +kernel
theorem d_AL_add_20 : decode prog_27_method_25_code 20 = .ok (.invokevirtual 131, 3) := by decide +kernel
theorem d_AL_add_23 : decode prog_27_method_25_code 23 = .ok (.iconst 1, 1) := by decide +kernel
theorem d_AL_add_24 : decode prog_27_method_25_code 24 = .ok (.ireturn, 1) := by decide +kernel
abbrev m_AL_add2 : MethodName × ByteArray × Nat × Option FieldType := (⟨"java/util/ArrayList", "add", "(Ljava/lang/Object;[Ljava/lang/Object;I)V"⟩, prog_27_method_24_code, 4, (Option.none : Option FieldType))
theorem d_AL_add2_0 : decode prog_27_method_24_code 0 = .ok (.iload_n 3, 1) := by decide +kernel
theorem d_AL_add2_1 : decode prog_27_method_24_code 1 = .ok (.aload_n 2, 1) := by decide +kernel
theorem d_AL_add2_2 : decode prog_27_method_24_code 2 = .ok (.arraylength, 1) := by decide +kernel
theorem d_AL_add2_3 : decode prog_27_method_24_code 3 = .ok (.if_icmp .ne 8, 3) := by decide +kernel
theorem d_AL_add2_6 : decode prog_27_method_24_code 6 = .ok (.aload_n 0, 1) := by decide +kernel
theorem d_AL_add2_7 : decode prog_27_method_24_code 7 = .ok (.invokevirtual 129, 3) := by decide +kernel
theorem d_AL_add2_10 : decode prog_27_method_24_code 10 = .ok (.astore_n 2, 1) := by decide +kernel
theorem d_AL_add2_11 : decode prog_27_method_24_code 11 = .ok (.aload_n 2, 1) := by decide +kernel
theorem d_AL_add2_12 : decode prog_27_method_24_code 12 = .ok (.iload_n 3, 1) := by decide +kernel
theorem d_AL_add2_13 : decode prog_27_method_24_code 13 = .ok (.aload_n 1, 1) := by decide +kernel
theorem d_AL_add2_14 : decode prog_27_method_24_code 14 = .ok (.aastore, 1) := by decide +kernel
theorem d_AL_add2_15 : decode prog_27_method_24_code 15 = .ok (.aload_n 0, 1) := by decide +kernel
theorem d_AL_add2_16 : decode prog_27_method_24_code 16 = .ok (.iload_n 3, 1) := by decide +kernel
theorem d_AL_add2_17 : decode prog_27_method_24_code 17 = .ok (.iconst 1, 1) := by decide +kernel
theorem d_AL_add2_18 : decode prog_27_method_24_code 18 = .ok (.iadd, 1) := by decide +kernel
theorem d_AL_add2_19 : decode prog_27_method_24_code 19 = .ok (.putfield 48, 3) := by decide +kernel
theorem d_AL_add2_22 : decode prog_27_method_24_code 22 = .ok (.return_, 1) := by decide +kernel
abbrev m_AL_grow : MethodName × ByteArray × Nat × Option FieldType := (⟨"java/util/ArrayList", "grow", "()[Ljava/lang/Object;"⟩, prog_27_method_7_code, 1, (Option.some (FieldType.array (FieldType.object "java/lang/Object"))))
theorem d_AL_grow_0 : decode prog_27_method_7_code 0 = .ok (.aload_n 0, 1) := by decide +kernel
theorem d_AL_grow_1 : decode prog_27_method_7_code 1 = .ok (.aload_n 0, 1) := by decide +kernel
theorem d_AL_grow_2 : decode prog_27_method_7_code 2 = .ok (.getfield 48, 3) := by decide +kernel
theorem d_AL_grow_5 : decode prog_27_method_7_code 5 = .ok (.iconst 1, 1) := by decide +kernel
theorem d_AL_grow_6 : decode prog_27_method_7_code 6 = .ok (.iadd, 1) := by decide +kernel
theorem d_AL_grow_7 : decode prog_27_method_7_code 7 = .ok (.invokevirtual 69, 3) := by decide +kernel
theorem d_AL_grow_10 : decode prog_27_method_7_code 10 = .ok (.areturn, 1) := by decide +kernel
abbrev m_AL_grow2 : MethodName × ByteArray × Nat × Option FieldType := (⟨"java/util/ArrayList", "grow", "(I)[Ljava/lang/Object;"⟩, prog_27_method_6_code, 4, (Option.some (FieldType.array (FieldType.object "java/lang/Object"))))
theorem d_AL_grow2_0 : decode prog_27_method_6_code 0 = .ok (.aload_n 0, 1) := by decide +kernel
theorem d_AL_grow2_1 : decode prog_27_method_6_code 1 = .ok (.getfield 9, 3) := by decide +kernel
theorem d_AL_grow2_4 : decode prog_27_method_6_code 4 = .ok (.arraylength, 1) := by decide +kernel
theorem d_AL_grow2_5 : decode prog_27_method_6_code 5 = .ok (.istore_n 2, 1) := by decide +kernel
theorem d_AL_grow2_6 : decode prog_27_method_6_code 6 = .ok (.iload_n 2, 1) := by decide +kernel
theorem d_AL_grow2_7 : decode prog_27_method_6_code 7 = .ok (.ifCond .gt 13, 3) := by decide +kernel
theorem d_AL_grow2_10 : decode prog_27_method_6_code 10 = .ok (.aload_n 0, 1) := by decide +kernel
theorem d_AL_grow2_11 : decode prog_27_method_6_code 11 = .ok (.getfield 9, 3) := by decide +kernel
theorem d_AL_grow2_14 : decode prog_27_method_6_code 14 = .ok (.getstatic 39, 3) := by decide +kernel
theorem d_AL_grow2_17 : decode prog_27_method_6_code 17 = .ok (.if_acmp .eq 28, 3) := by decide +kernel
theorem d_AL_grow2_20 : decode prog_27_method_6_code 20 = .ok (.iload_n 2, 1) := by decide +kernel
theorem d_AL_grow2_21 : decode prog_27_method_6_code 21 = .ok (.iload_n 1, 1) := by decide +kernel
theorem d_AL_grow2_22 : decode prog_27_method_6_code 22 = .ok (.iload_n 2, 1) := by decide +kernel
theorem d_AL_grow2_23 : decode prog_27_method_6_code 23 = .ok (.isub, 1) := by decide +kernel
theorem d_AL_grow2_24 : decode prog_27_method_6_code 24 = .ok (.iload_n 2, 1) := by decide +kernel
theorem d_AL_grow2_25 : decode prog_27_method_6_code 25 = .ok (.iconst 1, 1) := by decide +kernel
theorem d_AL_grow2_26 : decode prog_27_method_6_code 26 = .ok (.ishr, 1) := by decide +kernel
theorem d_AL_grow2_27 : decode prog_27_method_6_code 27 = .ok (.invokestatic 73, 3) := by decide +kernel
theorem d_AL_grow2_30 : decode prog_27_method_6_code 30 = .ok (.istore_n 3, 1) := by decide +kernel
theorem d_AL_grow2_31 : decode prog_27_method_6_code 31 = .ok (.aload_n 0, 1) := by decide +kernel
theorem d_AL_grow2_32 : decode prog_27_method_6_code 32 = .ok (.aload_n 0, 1) := by decide +kernel
theorem d_AL_grow2_33 : decode prog_27_method_6_code 33 = .ok (.getfield 9, 3) := by decide +kernel
theorem d_AL_grow2_36 : decode prog_27_method_6_code 36 = .ok (.iload_n 3, 1) := by decide +kernel
theorem d_AL_grow2_37 : decode prog_27_method_6_code 37 = .ok (.invokestatic 66, 3) := by decide +kernel
theorem d_AL_grow2_40 : decode prog_27_method_6_code 40 = .ok (.dup_x1, 1) := by decide +kernel
theorem d_AL_grow2_41 : decode prog_27_method_6_code 41 = .ok (.putfield 9, 3) := by decide +kernel
theorem d_AL_grow2_44 : decode prog_27_method_6_code 44 = .ok (.areturn, 1) := by decide +kernel
theorem d_AL_grow2_45 : decode prog_27_method_6_code 45 = .ok (.aload_n 0, 1) := by decide +kernel
theorem d_AL_grow2_46 : decode prog_27_method_6_code 46 = .ok (.bipush 10, 2) := by decide +kernel
theorem d_AL_grow2_48 : decode prog_27_method_6_code 48 = .ok (.iload_n 1, 1) := by decide +kernel
theorem d_AL_grow2_49 : decode prog_27_method_6_code 49 = .ok (.invokestatic 79, 3) := by decide +kernel
theorem d_AL_grow2_52 : decode prog_27_method_6_code 52 = .ok (.anewarray 7, 3) := by decide +kernel
theorem d_AL_grow2_55 : decode prog_27_method_6_code 55 = .ok (.dup_x1, 1) := by decide +kernel
theorem d_AL_grow2_56 : decode prog_27_method_6_code 56 = .ok (.putfield 9, 3) := by decide +kernel
theorem d_AL_grow2_59 : decode prog_27_method_6_code 59 = .ok (.areturn, 1) := by decide +kernel
abbrev m_AbL_init : MethodName × ByteArray × Nat × Option FieldType := (⟨"java/util/AbstractList", "<init>", "()V"⟩, prog_26_method_1_code, 1, (Option.none : Option FieldType))
theorem d_AbL_init_0 : decode prog_26_method_1_code 0 = .ok (.aload_n 0, 1) := by decide +kernel
theorem d_AbL_init_1 : decode prog_26_method_1_code 1 = .ok (.invokespecial 1, 3) := by decide +kernel
theorem d_AbL_init_4 : decode prog_26_method_1_code 4 = .ok (.aload_n 0, 1) := by decide +kernel
theorem d_AbL_init_5 : decode prog_26_method_1_code 5 = .ok (.iconst 0, 1) := by decide +kernel
theorem d_AbL_init_6 : decode prog_26_method_1_code 6 = .ok (.putfield 7, 3) := by decide +kernel
theorem d_AbL_init_9 : decode prog_26_method_1_code 9 = .ok (.return_, 1) := by decide +kernel
abbrev m_AbC_init : MethodName × ByteArray × Nat × Option FieldType := (⟨"java/util/AbstractCollection", "<init>", "()V"⟩, prog_25_method_1_code, 1, (Option.none : Option FieldType))
theorem d_AbC_init_0 : decode prog_25_method_1_code 0 = .ok (.aload_n 0, 1) := by decide +kernel
theorem d_AbC_init_1 : decode prog_25_method_1_code 1 = .ok (.invokespecial 1, 3) := by decide +kernel
theorem d_AbC_init_4 : decode prog_25_method_1_code 4 = .ok (.return_, 1) := by decide +kernel
abbrev m_Arrs_fill : MethodName × ByteArray × Nat × Option FieldType := (⟨"java/util/Arrays", "fill", "([II)V"⟩, prog_28_method_103_code, 4, (Option.none : Option FieldType))
theorem d_Arrs_fill_0 : decode prog_28_method_103_code 0 = .ok (.iconst 0, 1) := by decide +kernel
theorem d_Arrs_fill_1 : decode prog_28_method_103_code 1 = .ok (.istore_n 2, 1) := by decide +kernel
theorem d_Arrs_fill_2 : decode prog_28_method_103_code 2 = .ok (.aload_n 0, 1) := by decide +kernel
theorem d_Arrs_fill_3 : decode prog_28_method_103_code 3 = .ok (.arraylength, 1) := by decide +kernel
theorem d_Arrs_fill_4 : decode prog_28_method_103_code 4 = .ok (.istore_n 3, 1) := by decide +kernel
theorem d_Arrs_fill_5 : decode prog_28_method_103_code 5 = .ok (.iload_n 2, 1) := by decide +kernel
theorem d_Arrs_fill_6 : decode prog_28_method_103_code 6 = .ok (.iload_n 3, 1) := by decide +kernel
theorem d_Arrs_fill_7 : decode prog_28_method_103_code 7 = .ok (.if_icmp .ge 13, 3) := by decide +kernel
theorem d_Arrs_fill_10 : decode prog_28_method_103_code 10 = .ok (.aload_n 0, 1) := by decide +kernel
theorem d_Arrs_fill_11 : decode prog_28_method_103_code 11 = .ok (.iload_n 2, 1) := by decide +kernel
theorem d_Arrs_fill_12 : decode prog_28_method_103_code 12 = .ok (.iload_n 1, 1) := by decide +kernel
theorem d_Arrs_fill_13 : decode prog_28_method_103_code 13 = .ok (.iastore, 1) := by decide +kernel
theorem d_Arrs_fill_14 : decode prog_28_method_103_code 14 = .ok (.iinc 2 1, 3) := by decide +kernel
theorem d_Arrs_fill_17 : decode prog_28_method_103_code 17 = .ok (.goto (-12), 3) := by decide +kernel
theorem d_Arrs_fill_20 : decode prog_28_method_103_code 20 = .ok (.return_, 1) := by decide +kernel
abbrev m_Arrs_copyOf : MethodName × ByteArray × Nat × Option FieldType := (⟨"java/util/Arrays", "copyOf", "([Ljava/lang/Object;I)[Ljava/lang/Object;"⟩, prog_28_method_119_code, 2, (Option.some (FieldType.array (FieldType.object "java/lang/Object"))))
theorem d_Arrs_copyOf_0 : decode prog_28_method_119_code 0 = .ok (.aload_n 0, 1) := by decide +kernel
theorem d_Arrs_copyOf_1 : decode prog_28_method_119_code 1 = .ok (.iload_n 1, 1) := by decide +kernel
theorem d_Arrs_copyOf_2 : decode prog_28_method_119_code 2 = .ok (.aload_n 0, 1) := by decide +kernel
theorem d_Arrs_copyOf_3 : decode prog_28_method_119_code 3 = .ok (.invokevirtual 86, 3) := by decide +kernel
theorem d_Arrs_copyOf_6 : decode prog_28_method_119_code 6 = .ok (.invokestatic 300, 3) := by decide +kernel
theorem d_Arrs_copyOf_9 : decode prog_28_method_119_code 9 = .ok (.areturn, 1) := by decide +kernel
abbrev m_Arrs_copyOf2 : MethodName × ByteArray × Nat × Option FieldType := (⟨"java/util/Arrays", "copyOf", "([Ljava/lang/Object;ILjava/lang/Class;)[Ljava/lang/Object;"⟩, prog_28_method_120_code, 4, (Option.some (FieldType.array (FieldType.object "java/lang/Object"))))
theorem d_Arrs_copyOf2_0 : decode prog_28_method_120_code 0 = .ok (.aload_n 2, 1) := by decide +kernel
theorem d_Arrs_copyOf2_1 : decode prog_28_method_120_code 1 = .ok (.ldc 110, 2) := by decide +kernel
theorem d_Arrs_copyOf2_3 : decode prog_28_method_120_code 3 = .ok (.if_acmp .ne 10, 3) := by decide +kernel
theorem d_Arrs_copyOf2_6 : decode prog_28_method_120_code 6 = .ok (.iload_n 1, 1) := by decide +kernel
theorem d_Arrs_copyOf2_7 : decode prog_28_method_120_code 7 = .ok (.anewarray 2, 3) := by decide +kernel
theorem d_Arrs_copyOf2_10 : decode prog_28_method_120_code 10 = .ok (.goto 14, 3) := by decide +kernel
theorem d_Arrs_copyOf2_13 : decode prog_28_method_120_code 13 = .ok (.aload_n 2, 1) := by decide +kernel
theorem d_Arrs_copyOf2_14 : decode prog_28_method_120_code 14 = .ok (.invokevirtual 90, 3) := by decide +kernel
theorem d_Arrs_copyOf2_17 : decode prog_28_method_120_code 17 = .ok (.iload_n 1, 1) := by decide +kernel
theorem d_Arrs_copyOf2_18 : decode prog_28_method_120_code 18 = .ok (.invokestatic 95, 3) := by decide +kernel
theorem d_Arrs_copyOf2_21 : decode prog_28_method_120_code 21 = .ok (.checkcast 110, 3) := by decide +kernel
theorem d_Arrs_copyOf2_24 : decode prog_28_method_120_code 24 = .ok (.astore_n 3, 1) := by decide +kernel
theorem d_Arrs_copyOf2_25 : decode prog_28_method_120_code 25 = .ok (.aload_n 0, 1) := by decide +kernel
theorem d_Arrs_copyOf2_26 : decode prog_28_method_120_code 26 = .ok (.iconst 0, 1) := by decide +kernel
theorem d_Arrs_copyOf2_27 : decode prog_28_method_120_code 27 = .ok (.aload_n 3, 1) := by decide +kernel
theorem d_Arrs_copyOf2_28 : decode prog_28_method_120_code 28 = .ok (.iconst 0, 1) := by decide +kernel
theorem d_Arrs_copyOf2_29 : decode prog_28_method_120_code 29 = .ok (.aload_n 0, 1) := by decide +kernel
theorem d_Arrs_copyOf2_30 : decode prog_28_method_120_code 30 = .ok (.arraylength, 1) := by decide +kernel
theorem d_Arrs_copyOf2_31 : decode prog_28_method_120_code 31 = .ok (.iload_n 1, 1) := by decide +kernel
theorem d_Arrs_copyOf2_32 : decode prog_28_method_120_code 32 = .ok (.invokestatic 304, 3) := by decide +kernel
theorem d_Arrs_copyOf2_35 : decode prog_28_method_120_code 35 = .ok (.invokestatic 150, 3) := by decide +kernel
theorem d_Arrs_copyOf2_38 : decode prog_28_method_120_code 38 = .ok (.aload_n 3, 1) := by decide +kernel
theorem d_Arrs_copyOf2_39 : decode prog_28_method_120_code 39 = .ok (.areturn, 1) := by decide +kernel
abbrev m_Math_min : MethodName × ByteArray × Nat × Option FieldType := (⟨"java/lang/Math", "min", "(II)I"⟩, prog_18_method_69_code, 2, (Option.some FieldType.int))
theorem d_Math_min_0 : decode prog_18_method_69_code 0 = .ok (.iload_n 0, 1) := by decide +kernel
theorem d_Math_min_1 : decode prog_18_method_69_code 1 = .ok (.iload_n 1, 1) := by decide +kernel
theorem d_Math_min_2 : decode prog_18_method_69_code 2 = .ok (.if_icmp .gt 7, 3) := by decide +kernel
theorem d_Math_min_5 : decode prog_18_method_69_code 5 = .ok (.iload_n 0, 1) := by decide +kernel
theorem d_Math_min_6 : decode prog_18_method_69_code 6 = .ok (.goto 4, 3) := by decide +kernel
theorem d_Math_min_9 : decode prog_18_method_69_code 9 = .ok (.iload_n 1, 1) := by decide +kernel
theorem d_Math_min_10 : decode prog_18_method_69_code 10 = .ok (.ireturn, 1) := by decide +kernel
abbrev m_Math_max : MethodName × ByteArray × Nat × Option FieldType := (⟨"java/lang/Math", "max", "(II)I"⟩, prog_18_method_65_code, 2, (Option.some FieldType.int))
theorem d_Math_max_0 : decode prog_18_method_65_code 0 = .ok (.iload_n 0, 1) := by decide +kernel
theorem d_Math_max_1 : decode prog_18_method_65_code 1 = .ok (.iload_n 1, 1) := by decide +kernel
theorem d_Math_max_2 : decode prog_18_method_65_code 2 = .ok (.if_icmp .lt 7, 3) := by decide +kernel
theorem d_Math_max_5 : decode prog_18_method_65_code 5 = .ok (.iload_n 0, 1) := by decide +kernel
theorem d_Math_max_6 : decode prog_18_method_65_code 6 = .ok (.goto 4, 3) := by decide +kernel
theorem d_Math_max_9 : decode prog_18_method_65_code 9 = .ok (.iload_n 1, 1) := by decide +kernel
theorem d_Math_max_10 : decode prog_18_method_65_code 10 = .ok (.ireturn, 1) := by decide +kernel
abbrev m_Int_bitCount : MethodName × ByteArray × Nat × Option FieldType := (⟨"java/lang/Integer", "bitCount", "(I)I"⟩, prog_16_method_49_code, 1, (Option.some FieldType.int))
theorem d_Int_bitCount_0 : decode prog_16_method_49_code 0 = .ok (.iload_n 0, 1) := by decide +kernel
theorem d_Int_bitCount_1 : decode prog_16_method_49_code 1 = .ok (.iload_n 0, 1) := by decide +kernel
theorem d_Int_bitCount_2 : decode prog_16_method_49_code 2 = .ok (.iconst 1, 1) := by decide +kernel
theorem d_Int_bitCount_3 : decode prog_16_method_49_code 3 = .ok (.iushr, 1) := by decide +kernel
theorem d_Int_bitCount_4 : decode prog_16_method_49_code 4 = .ok (.ldc_w 265, 3) := by decide +kernel
theorem d_Int_bitCount_7 : decode prog_16_method_49_code 7 = .ok (.iand, 1) := by decide +kernel
theorem d_Int_bitCount_8 : decode prog_16_method_49_code 8 = .ok (.isub, 1) := by decide +kernel
theorem d_Int_bitCount_9 : decode prog_16_method_49_code 9 = .ok (.istore_n 0, 1) := by decide +kernel
theorem d_Int_bitCount_10 : decode prog_16_method_49_code 10 = .ok (.iload_n 0, 1) := by decide +kernel
theorem d_Int_bitCount_11 : decode prog_16_method_49_code 11 = .ok (.ldc_w 266, 3) := by decide +kernel
theorem d_Int_bitCount_14 : decode prog_16_method_49_code 14 = .ok (.iand, 1) := by decide +kernel
theorem d_Int_bitCount_15 : decode prog_16_method_49_code 15 = .ok (.iload_n 0, 1) := by decide +kernel
theorem d_Int_bitCount_16 : decode prog_16_method_49_code 16 = .ok (.iconst 2, 1) := by decide +kernel
theorem d_Int_bitCount_17 : decode prog_16_method_49_code 17 = .ok (.iushr, 1) := by decide +kernel
theorem d_Int_bitCount_18 : decode prog_16_method_49_code 18 = .ok (.ldc_w 266, 3) := by decide +kernel
theorem d_Int_bitCount_21 : decode prog_16_method_49_code 21 = .ok (.iand, 1) := by decide +kernel
theorem d_Int_bitCount_22 : decode prog_16_method_49_code 22 = .ok (.iadd, 1) := by decide +kernel
theorem d_Int_bitCount_23 : decode prog_16_method_49_code 23 = .ok (.istore_n 0, 1) := by decide +kernel
theorem d_Int_bitCount_24 : decode prog_16_method_49_code 24 = .ok (.iload_n 0, 1) := by decide +kernel
theorem d_Int_bitCount_25 : decode prog_16_method_49_code 25 = .ok (.iload_n 0, 1) := by decide +kernel
theorem d_Int_bitCount_26 : decode prog_16_method_49_code 26 = .ok (.iconst 4, 1) := by decide +kernel
theorem d_Int_bitCount_27 : decode prog_16_method_49_code 27 = .ok (.iushr, 1) := by decide +kernel
theorem d_Int_bitCount_28 : decode prog_16_method_49_code 28 = .ok (.iadd, 1) := by decide +kernel
theorem d_Int_bitCount_29 : decode prog_16_method_49_code 29 = .ok (.ldc_w 267, 3) := by decide +kernel
theorem d_Int_bitCount_32 : decode prog_16_method_49_code 32 = .ok (.iand, 1) := by decide +kernel
theorem d_Int_bitCount_33 : decode prog_16_method_49_code 33 = .ok (.istore_n 0, 1) := by decide +kernel
theorem d_Int_bitCount_34 : decode prog_16_method_49_code 34 = .ok (.iload_n 0, 1) := by decide +kernel
theorem d_Int_bitCount_35 : decode prog_16_method_49_code 35 = .ok (.iload_n 0, 1) := by decide +kernel
theorem d_Int_bitCount_36 : decode prog_16_method_49_code 36 = .ok (.bipush 8, 2) := by decide +kernel
theorem d_Int_bitCount_38 : decode prog_16_method_49_code 38 = .ok (.iushr, 1) := by decide +kernel
theorem d_Int_bitCount_39 : decode prog_16_method_49_code 39 = .ok (.iadd, 1) := by decide +kernel
theorem d_Int_bitCount_40 : decode prog_16_method_49_code 40 = .ok (.istore_n 0, 1) := by decide +kernel
theorem d_Int_bitCount_41 : decode prog_16_method_49_code 41 = .ok (.iload_n 0, 1) := by decide +kernel
theorem d_Int_bitCount_42 : decode prog_16_method_49_code 42 = .ok (.iload_n 0, 1) := by decide +kernel
theorem d_Int_bitCount_43 : decode prog_16_method_49_code 43 = .ok (.bipush 16, 2) := by decide +kernel
theorem d_Int_bitCount_45 : decode prog_16_method_49_code 45 = .ok (.iushr, 1) := by decide +kernel
theorem d_Int_bitCount_46 : decode prog_16_method_49_code 46 = .ok (.iadd, 1) := by decide +kernel
theorem d_Int_bitCount_47 : decode prog_16_method_49_code 47 = .ok (.istore_n 0, 1) := by decide +kernel
theorem d_Int_bitCount_48 : decode prog_16_method_49_code 48 = .ok (.iload_n 0, 1) := by decide +kernel
theorem d_Int_bitCount_49 : decode prog_16_method_49_code 49 = .ok (.bipush 63, 2) := by decide +kernel
theorem d_Int_bitCount_51 : decode prog_16_method_49_code 51 = .ok (.iand, 1) := by decide +kernel
theorem d_Int_bitCount_52 : decode prog_16_method_49_code 52 = .ok (.ireturn, 1) := by decide +kernel
abbrev m_Objs_checkIndex : MethodName × ByteArray × Nat × Option FieldType := (⟨"java/util/Objects", "checkIndex", "(II)I"⟩, prog_31_method_17_code, 2, (Option.some FieldType.int))
theorem d_Objs_checkIndex_0 : decode prog_31_method_17_code 0 = .ok (.iload_n 0, 1) := by decide +kernel
theorem d_Objs_checkIndex_1 : decode prog_31_method_17_code 1 = .ok (.iload_n 1, 1) := by decide +kernel
theorem d_Objs_checkIndex_2 : decode prog_31_method_17_code 2 = .ok (.aconst_null, 1) := by decide +kernel
theorem d_Objs_checkIndex_3 : decode prog_31_method_17_code 3 = .ok (.invokestatic 105, 3) := by decide +kernel
theorem d_Objs_checkIndex_6 : decode prog_31_method_17_code 6 = .ok (.ireturn, 1) := by decide +kernel
abbrev m_Prec_checkIndex : MethodName × ByteArray × Nat × Option FieldType := (⟨"jdk/internal/util/Preconditions", "checkIndex", "(IILjava/util/function/BiFunction;)I"⟩, prog_35_method_11_code, 3, (Option.some FieldType.int))
theorem d_Prec_checkIndex_0 : decode prog_35_method_11_code 0 = .ok (.iload_n 0, 1) := by decide +kernel
theorem d_Prec_checkIndex_1 : decode prog_35_method_11_code 1 = .ok (.ifCond .lt 8, 3) := by decide +kernel
theorem d_Prec_checkIndex_4 : decode prog_35_method_11_code 4 = .ok (.iload_n 0, 1) := by decide +kernel
theorem d_Prec_checkIndex_5 : decode prog_35_method_11_code 5 = .ok (.iload_n 1, 1) := by decide +kernel
theorem d_Prec_checkIndex_6 : decode prog_35_method_11_code 6 = .ok (.if_icmp .lt 10, 3) := by decide +kernel
theorem d_Prec_checkIndex_9 : decode prog_35_method_11_code 9 = .ok (.aload_n 2, 1) := by decide +kernel
theorem d_Prec_checkIndex_10 : decode prog_35_method_11_code 10 = .ok (.iload_n 0, 1) := by decide +kernel
theorem d_Prec_checkIndex_11 : decode prog_35_method_11_code 11 = .ok (.iload_n 1, 1) := by decide +kernel
theorem d_Prec_checkIndex_12 : decode prog_35_method_11_code 12 = .ok (.invokestatic 95, 3) := by decide +kernel
theorem d_Prec_checkIndex_15 : decode prog_35_method_11_code 15 = .ok (.athrow, 1) := by decide +kernel
theorem d_Prec_checkIndex_16 : decode prog_35_method_11_code 16 = .ok (.iload_n 0, 1) := by decide +kernel
theorem d_Prec_checkIndex_17 : decode prog_35_method_11_code 17 = .ok (.ireturn, 1) := by decide +kernel
abbrev m_ArSu_newLength : MethodName × ByteArray × Nat × Option FieldType := (⟨"jdk/internal/util/ArraysSupport", "newLength", "(III)I"⟩, prog_34_method_27_code, 4, (Option.some FieldType.int))
theorem d_ArSu_newLength_0 : decode prog_34_method_27_code 0 = .ok (.iload_n 0, 1) := by decide +kernel
theorem d_ArSu_newLength_1 : decode prog_34_method_27_code 1 = .ok (.iload_n 1, 1) := by decide +kernel
theorem d_ArSu_newLength_2 : decode prog_34_method_27_code 2 = .ok (.iload_n 2, 1) := by decide +kernel
theorem d_ArSu_newLength_3 : decode prog_34_method_27_code 3 = .ok (.invokestatic 194, 3) := by decide +kernel
theorem d_ArSu_newLength_6 : decode prog_34_method_27_code 6 = .ok (.iadd, 1) := by decide +kernel
theorem d_ArSu_newLength_7 : decode prog_34_method_27_code 7 = .ok (.istore_n 3, 1) := by decide +kernel
theorem d_ArSu_newLength_8 : decode prog_34_method_27_code 8 = .ok (.iconst 0, 1) := by decide +kernel
theorem d_ArSu_newLength_9 : decode prog_34_method_27_code 9 = .ok (.iload_n 3, 1) := by decide +kernel
theorem d_ArSu_newLength_10 : decode prog_34_method_27_code 10 = .ok (.if_icmp .ge 11, 3) := by decide +kernel
theorem d_ArSu_newLength_13 : decode prog_34_method_27_code 13 = .ok (.iload_n 3, 1) := by decide +kernel
theorem d_ArSu_newLength_14 : decode prog_34_method_27_code 14 = .ok (.ldc 200, 2) := by decide +kernel
theorem d_ArSu_newLength_16 : decode prog_34_method_27_code 16 = .ok (.if_icmp .gt 5, 3) := by decide +kernel
theorem d_ArSu_newLength_19 : decode prog_34_method_27_code 19 = .ok (.iload_n 3, 1) := by decide +kernel
theorem d_ArSu_newLength_20 : decode prog_34_method_27_code 20 = .ok (.ireturn, 1) := by decide +kernel
theorem d_ArSu_newLength_21 : decode prog_34_method_27_code 21 = .ok (.iload_n 0, 1) := by decide +kernel
theorem d_ArSu_newLength_22 : decode prog_34_method_27_code 22 = .ok (.iload_n 1, 1) := by decide +kernel
theorem d_ArSu_newLength_23 : decode prog_34_method_27_code 23 = .ok (.invokestatic 201, 3) := by decide +kernel
theorem d_ArSu_newLength_26 : decode prog_34_method_27_code 26 = .ok (.ireturn, 1) := by decide +kernel
abbrev m_ArSu_hugeLength : MethodName × ByteArray × Nat × Option FieldType := (⟨"jdk/internal/util/ArraysSupport", "hugeLength", "(II)I"⟩, prog_34_method_28_code, 3, (Option.some FieldType.int))
theorem d_ArSu_hugeLength_0 : decode prog_34_method_28_code 0 = .ok (.iload_n 0, 1) := by decide +kernel
theorem d_ArSu_hugeLength_1 : decode prog_34_method_28_code 1 = .ok (.iload_n 1, 1) := by decide +kernel
theorem d_ArSu_hugeLength_2 : decode prog_34_method_28_code 2 = .ok (.iadd, 1) := by decide +kernel
theorem d_ArSu_hugeLength_3 : decode prog_34_method_28_code 3 = .ok (.istore_n 2, 1) := by decide +kernel
theorem d_ArSu_hugeLength_4 : decode prog_34_method_28_code 4 = .ok (.iload_n 2, 1) := by decide +kernel
theorem d_ArSu_hugeLength_5 : decode prog_34_method_28_code 5 = .ok (.ifCond .ge 44, 3) := by decide +kernel
theorem d_ArSu_hugeLength_8 : decode prog_34_method_28_code 8 = .ok (.new 204, 3) := by decide +kernel
theorem d_ArSu_hugeLength_11 : decode prog_34_method_28_code 11 = .ok (.dup, 1) := by decide +kernel
theorem d_ArSu_hugeLength_12 : decode prog_34_method_28_code 12 = .ok (.new 89, 3) := by decide +kernel
theorem d_ArSu_hugeLength_15 : decode prog_34_method_28_code 15 = .ok (.dup, 1) := by decide +kernel
theorem d_ArSu_hugeLength_16 : decode prog_34_method_28_code 16 = .ok (.invokespecial 91, 3) := by decide +kernel
theorem d_ArSu_hugeLength_19 : decode prog_34_method_28_code 19 = .ok (.ldc 206, 2) := by decide +kernel
theorem d_ArSu_hugeLength_21 : decode prog_34_method_28_code 21 = .ok (.invokevirtual 94, 3) := by decide +kernel
theorem d_ArSu_hugeLength_24 : decode prog_34_method_28_code 24 = .ok (.iload_n 0, 1) := by decide +kernel
theorem d_ArSu_hugeLength_25 : decode prog_34_method_28_code 25 = .ok (.invokevirtual 98, 3) := by decide +kernel
theorem d_ArSu_hugeLength_28 : decode prog_34_method_28_code 28 = .ok (.ldc 208, 2) := by decide +kernel
theorem d_ArSu_hugeLength_30 : decode prog_34_method_28_code 30 = .ok (.invokevirtual 94, 3) := by decide +kernel
theorem d_ArSu_hugeLength_33 : decode prog_34_method_28_code 33 = .ok (.iload_n 1, 1) := by decide +kernel
theorem d_ArSu_hugeLength_34 : decode prog_34_method_28_code 34 = .ok (.invokevirtual 98, 3) := by decide +kernel
theorem d_ArSu_hugeLength_37 : decode prog_34_method_28_code 37 = .ok (.ldc 210, 2) := by decide +kernel
theorem d_ArSu_hugeLength_39 : decode prog_34_method_28_code 39 = .ok (.invokevirtual 94, 3) := by decide +kernel
theorem d_ArSu_hugeLength_42 : decode prog_34_method_28_code 42 = .ok (.invokevirtual 101, 3) := by decide +kernel
theorem d_ArSu_hugeLength_45 : decode prog_34_method_28_code 45 = .ok (.invokespecial 212, 3) := by decide +kernel
theorem d_ArSu_hugeLength_48 : decode prog_34_method_28_code 48 = .ok (.athrow, 1) := by decide +kernel
theorem d_ArSu_hugeLength_49 : decode prog_34_method_28_code 49 = .ok (.iload_n 2, 1) := by decide +kernel
theorem d_ArSu_hugeLength_50 : decode prog_34_method_28_code 50 = .ok (.ldc 200, 2) := by decide +kernel
theorem d_ArSu_hugeLength_52 : decode prog_34_method_28_code 52 = .ok (.if_icmp .gt 6, 3) := by decide +kernel
theorem d_ArSu_hugeLength_55 : decode prog_34_method_28_code 55 = .ok (.ldc 200, 2) := by decide +kernel
theorem d_ArSu_hugeLength_57 : decode prog_34_method_28_code 57 = .ok (.ireturn, 1) := by decide +kernel
theorem d_ArSu_hugeLength_58 : decode prog_34_method_28_code 58 = .ok (.iload_n 2, 1) := by decide +kernel
theorem d_ArSu_hugeLength_59 : decode prog_34_method_28_code 59 = .ok (.ireturn, 1) := by decide +kernel
abbrev m_Str_length : MethodName × ByteArray × Nat × Option FieldType := (⟨"java/lang/String", "length", "()I"⟩, prog_20_method_54_code, 1, (Option.some FieldType.int))
theorem d_Str_length_0 : decode prog_20_method_54_code 0 = .ok (.aload_n 0, 1) := by decide +kernel
theorem d_Str_length_1 : decode prog_20_method_54_code 1 = .ok (.getfield 9, 3) := by decide +kernel
theorem d_Str_length_4 : decode prog_20_method_54_code 4 = .ok (.arraylength, 1) := by decide +kernel
theorem d_Str_length_5 : decode prog_20_method_54_code 5 = .ok (.aload_n 0, 1) := by decide +kernel
theorem d_Str_length_6 : decode prog_20_method_54_code 6 = .ok (.invokevirtual 335, 3) := by decide +kernel
theorem d_Str_length_9 : decode prog_20_method_54_code 9 = .ok (.ishr, 1) := by decide +kernel
theorem d_Str_length_10 : decode prog_20_method_54_code 10 = .ok (.ireturn, 1) := by decide +kernel
abbrev m_Str_coder : MethodName × ByteArray × Nat × Option FieldType := (⟨"java/lang/String", "coder", "()B"⟩, prog_20_method_152_code, 1, (Option.some FieldType.byte))
theorem d_Str_coder_0 : decode prog_20_method_152_code 0 = .ok (.getstatic 38, 3) := by decide +kernel
theorem d_Str_coder_3 : decode prog_20_method_152_code 3 = .ok (.ifCond .eq 10, 3) := by decide +kernel
theorem d_Str_coder_6 : decode prog_20_method_152_code 6 = .ok (.aload_n 0, 1) := by decide +kernel
theorem d_Str_coder_7 : decode prog_20_method_152_code 7 = .ok (.getfield 15, 3) := by decide +kernel
theorem d_Str_coder_10 : decode prog_20_method_152_code 10 = .ok (.goto 4, 3) := by decide +kernel
theorem d_Str_coder_13 : decode prog_20_method_152_code 13 = .ok (.iconst 1, 1) := by decide +kernel
theorem d_Str_coder_14 : decode prog_20_method_152_code 14 = .ok (.ireturn, 1) := by decide +kernel
abbrev m_Str_charAt : MethodName × ByteArray × Nat × Option FieldType := (⟨"java/lang/String", "charAt", "(I)C"⟩, prog_20_method_56_code, 2, (Option.some FieldType.char))
theorem d_Str_charAt_0 : decode prog_20_method_56_code 0 = .ok (.aload_n 0, 1) := by decide +kernel
theorem d_Str_charAt_1 : decode prog_20_method_56_code 1 = .ok (.invokevirtual 492, 3) := by decide +kernel
theorem d_Str_charAt_4 : decode prog_20_method_56_code 4 = .ok (.ifCond .eq 12, 3) := by decide +kernel
theorem d_Str_charAt_7 : decode prog_20_method_56_code 7 = .ok (.aload_n 0, 1) := by decide +kernel
theorem d_Str_charAt_8 : decode prog_20_method_56_code 8 = .ok (.getfield 9, 3) := by decide +kernel
theorem d_Str_charAt_11 : decode prog_20_method_56_code 11 = .ok (.iload_n 1, 1) := by decide +kernel
theorem d_Str_charAt_12 : decode prog_20_method_56_code 12 = .ok (.invokestatic 495, 3) := by decide +kernel
theorem d_Str_charAt_15 : decode prog_20_method_56_code 15 = .ok (.ireturn, 1) := by decide +kernel
theorem d_Str_charAt_16 : decode prog_20_method_56_code 16 = .ok (.aload_n 0, 1) := by decide +kernel
theorem d_Str_charAt_17 : decode prog_20_method_56_code 17 = .ok (.getfield 9, 3) := by decide +kernel
theorem d_Str_charAt_20 : decode prog_20_method_56_code 20 = .ok (.iload_n 1, 1) := by decide +kernel
theorem d_Str_charAt_21 : decode prog_20_method_56_code 21 = .ok (.invokestatic 498, 3) := by decide +kernel
theorem d_Str_charAt_24 : decode prog_20_method_56_code 24 = .ok (.ireturn, 1) := by decide +kernel
abbrev m_Str_isLatin1 : MethodName × ByteArray × Nat × Option FieldType := (⟨"java/lang/String", "isLatin1", "()Z"⟩, prog_20_method_154_code, 1, (Option.some FieldType.boolean))
theorem d_Str_isLatin1_0 : decode prog_20_method_154_code 0 = .ok (.getstatic 38, 3) := by decide +kernel
theorem d_Str_isLatin1_3 : decode prog_20_method_154_code 3 = .ok (.ifCond .eq 14, 3) := by decide +kernel
theorem d_Str_isLatin1_6 : decode prog_20_method_154_code 6 = .ok (.aload_n 0, 1) := by decide +kernel
theorem d_Str_isLatin1_7 : decode prog_20_method_154_code 7 = .ok (.getfield 15, 3) := by decide +kernel
theorem d_Str_isLatin1_10 : decode prog_20_method_154_code 10 = .ok (.ifCond .ne 7, 3) := by decide +kernel
theorem d_Str_isLatin1_13 : decode prog_20_method_154_code 13 = .ok (.iconst 1, 1) := by decide +kernel
theorem d_Str_isLatin1_14 : decode prog_20_method_154_code 14 = .ok (.goto 4, 3) := by decide +kernel
theorem d_Str_isLatin1_17 : decode prog_20_method_154_code 17 = .ok (.iconst 0, 1) := by decide +kernel
theorem d_Str_isLatin1_18 : decode prog_20_method_154_code 18 = .ok (.ireturn, 1) := by decide +kernel
abbrev m_Str_checkIndex : MethodName × ByteArray × Nat × Option FieldType := (⟨"java/lang/String", "checkIndex", "(II)V"⟩, prog_20_method_155_code, 2, (Option.none : Option FieldType))
theorem d_Str_checkIndex_0 : decode prog_20_method_155_code 0 = .ok (.iload_n 0, 1) := by decide +kernel
theorem d_Str_checkIndex_1 : decode prog_20_method_155_code 1 = .ok (.iload_n 1, 1) := by decide +kernel
theorem d_Str_checkIndex_2 : decode prog_20_method_155_code 2 = .ok (.getstatic 1053, 3) := by decide +kernel
theorem d_Str_checkIndex_5 : decode prog_20_method_155_code 5 = .ok (.invokestatic 1059, 3) := by decide +kernel
theorem d_Str_checkIndex_8 : decode prog_20_method_155_code 8 = .ok (.pop, 1) := by decide +kernel
theorem d_Str_checkIndex_9 : decode prog_20_method_155_code 9 = .ok (.return_, 1) := by decide +kernel
abbrev m_Lat_charAt : MethodName × ByteArray × Nat × Option FieldType := (⟨"java/lang/StringLatin1", "charAt", "([BI)C"⟩, prog_21_method_2_code, 2, (Option.some FieldType.char))
theorem d_Lat_charAt_0 : decode prog_21_method_2_code 0 = .ok (.iload_n 1, 1) := by decide +kernel
theorem d_Lat_charAt_1 : decode prog_21_method_2_code 1 = .ok (.aload_n 0, 1) := by decide +kernel
theorem d_Lat_charAt_2 : decode prog_21_method_2_code 2 = .ok (.arraylength, 1) := by decide +kernel
theorem d_Lat_charAt_3 : decode prog_21_method_2_code 3 = .ok (.invokestatic 9, 3) := by decide +kernel
theorem d_Lat_charAt_6 : decode prog_21_method_2_code 6 = .ok (.aload_n 0, 1) := by decide +kernel
theorem d_Lat_charAt_7 : decode prog_21_method_2_code 7 = .ok (.iload_n 1, 1) := by decide +kernel
theorem d_Lat_charAt_8 : decode prog_21_method_2_code 8 = .ok (.baload, 1) := by decide +kernel
theorem d_Lat_charAt_9 : decode prog_21_method_2_code 9 = .ok (.sipush 255, 3) := by decide +kernel
theorem d_Lat_charAt_12 : decode prog_21_method_2_code 12 = .ok (.iand, 1) := by decide +kernel
theorem d_Lat_charAt_13 : decode prog_21_method_2_code 13 = .ok (.i2c, 1) := by decide +kernel
theorem d_Lat_charAt_14 : decode prog_21_method_2_code 14 = .ok (.ireturn, 1) := by decide +kernel
