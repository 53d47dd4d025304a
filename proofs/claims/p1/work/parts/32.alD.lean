/-! ArrayList: names and decode rows -/
abbrev y_abc_init : MethodName := ⟨"java/util/AbstractCollection", "<init>", "()V"⟩
abbrev b_abc_init : ByteArray := prog_21_method_1_code
theorem d_abc_init_0 : decode b_abc_init 0 = .ok (.aload_n 0, 1) := by decide +kernel
theorem d_abc_init_1 : decode b_abc_init 1 = .ok (.invokespecial 1, 3) := by decide +kernel
theorem d_abc_init_4 : decode b_abc_init 4 = .ok (.return_, 1) := by decide +kernel
abbrev y_abl_init : MethodName := ⟨"java/util/AbstractList", "<init>", "()V"⟩
abbrev b_abl_init : ByteArray := prog_22_method_1_code
theorem d_abl_init_0 : decode b_abl_init 0 = .ok (.aload_n 0, 1) := by decide +kernel
theorem d_abl_init_1 : decode b_abl_init 1 = .ok (.invokespecial 1, 3) := by decide +kernel
theorem d_abl_init_4 : decode b_abl_init 4 = .ok (.aload_n 0, 1) := by decide +kernel
theorem d_abl_init_5 : decode b_abl_init 5 = .ok (.iconst 0, 1) := by decide +kernel
theorem d_abl_init_6 : decode b_abl_init 6 = .ok (.putfield 7, 3) := by decide +kernel
theorem d_abl_init_9 : decode b_abl_init 9 = .ok (.return_, 1) := by decide +kernel
abbrev y_al_init : MethodName := ⟨"java/util/ArrayList", "<init>", "()V"⟩
abbrev b_al_init : ByteArray := prog_23_method_2_code
theorem d_al_init_0 : decode b_al_init 0 = .ok (.aload_n 0, 1) := by decide +kernel
theorem d_al_init_1 : decode b_al_init 1 = .ok (.invokespecial 1, 3) := by decide +kernel
theorem d_al_init_4 : decode b_al_init 4 = .ok (.aload_n 0, 1) := by decide +kernel
theorem d_al_init_5 : decode b_al_init 5 = .ok (.getstatic 39, 3) := by decide +kernel
theorem d_al_init_8 : decode b_al_init 8 = .ok (.putfield 9, 3) := by decide +kernel
theorem d_al_init_11 : decode b_al_init 11 = .ok (.return_, 1) := by decide +kernel
abbrev y_al_add : MethodName := ⟨"java/util/ArrayList", "add", "(Ljava/lang/Object;)Z"⟩
abbrev b_al_add : ByteArray := prog_23_method_25_code
theorem d_al_add_0 : decode b_al_add 0 = .ok (.aload_n 0, 1) := by decide +kernel
theorem d_al_add_1 : decode b_al_add 1 = .ok (.dup, 1) := by decide +kernel
theorem d_al_add_2 : decode b_al_add 2 = .ok (.getfield 63, 3) := by decide +kernel
theorem d_al_add_5 : decode b_al_add 5 = .ok (.iconst 1, 1) := by decide +kernel
theorem d_al_add_6 : decode b_al_add 6 = .ok (.iadd, 1) := by decide +kernel
theorem d_al_add_7 : decode b_al_add 7 = .ok (.putfield 63, 3) := by decide +kernel
theorem d_al_add_10 : decode b_al_add 10 = .ok (.aload_n 0, 1) := by decide +kernel
theorem d_al_add_11 : decode b_al_add 11 = .ok (.aload_n 1, 1) := by decide +kernel
theorem d_al_add_12 : decode b_al_add 12 = .ok (.aload_n 0, 1) := by decide +kernel
theorem d_al_add_13 : decode b_al_add 13 = .ok (.getfield 9, 3) := by decide +kernel
theorem d_al_add_16 : decode b_al_add 16 = .ok (.aload_n 0, 1) := by decide +kernel
theorem d_al_add_17 : decode b_al_add 17 = .ok (.getfield 48, 3) := by decide +kernel
theorem d_al_add_20 : decode b_al_add 20 = .ok (.invokevirtual 131, 3) := by decide +kernel
theorem d_al_add_23 : decode b_al_add 23 = .ok (.iconst 1, 1) := by decide +kernel
theorem d_al_add_24 : decode b_al_add 24 = .ok (.ireturn, 1) := by decide +kernel
abbrev y_al_add_2 : MethodName := ⟨"java/util/ArrayList", "add", "(Ljava/lang/Object;[Ljava/lang/Object;I)V"⟩
abbrev b_al_add_2 : ByteArray := prog_23_method_24_code
theorem d_al_add_2_0 : decode b_al_add_2 0 = .ok (.iload_n 3, 1) := by decide +kernel
theorem d_al_add_2_1 : decode b_al_add_2 1 = .ok (.aload_n 2, 1) := by decide +kernel
theorem d_al_add_2_2 : decode b_al_add_2 2 = .ok (.arraylength, 1) := by decide +kernel
theorem d_al_add_2_3 : decode b_al_add_2 3 = .ok (.if_icmp .ne 8, 3) := by decide +kernel
theorem d_al_add_2_6 : decode b_al_add_2 6 = .ok (.aload_n 0, 1) := by decide +kernel
theorem d_al_add_2_7 : decode b_al_add_2 7 = .ok (.invokevirtual 129, 3) := by decide +kernel
theorem d_al_add_2_10 : decode b_al_add_2 10 = .ok (.astore_n 2, 1) := by decide +kernel
theorem d_al_add_2_11 : decode b_al_add_2 11 = .ok (.aload_n 2, 1) := by decide +kernel
theorem d_al_add_2_12 : decode b_al_add_2 12 = .ok (.iload_n 3, 1) := by decide +kernel
theorem d_al_add_2_13 : decode b_al_add_2 13 = .ok (.aload_n 1, 1) := by decide +kernel
theorem d_al_add_2_14 : decode b_al_add_2 14 = .ok (.aastore, 1) := by decide +kernel
theorem d_al_add_2_15 : decode b_al_add_2 15 = .ok (.aload_n 0, 1) := by decide +kernel
theorem d_al_add_2_16 : decode b_al_add_2 16 = .ok (.iload_n 3, 1) := by decide +kernel
theorem d_al_add_2_17 : decode b_al_add_2 17 = .ok (.iconst 1, 1) := by decide +kernel
theorem d_al_add_2_18 : decode b_al_add_2 18 = .ok (.iadd, 1) := by decide +kernel
theorem d_al_add_2_19 : decode b_al_add_2 19 = .ok (.putfield 48, 3) := by decide +kernel
theorem d_al_add_2_22 : decode b_al_add_2 22 = .ok (.return_, 1) := by decide +kernel
abbrev y_al_grow : MethodName := ⟨"java/util/ArrayList", "grow", "()[Ljava/lang/Object;"⟩
abbrev b_al_grow : ByteArray := prog_23_method_7_code
theorem d_al_grow_0 : decode b_al_grow 0 = .ok (.aload_n 0, 1) := by decide +kernel
theorem d_al_grow_1 : decode b_al_grow 1 = .ok (.aload_n 0, 1) := by decide +kernel
theorem d_al_grow_2 : decode b_al_grow 2 = .ok (.getfield 48, 3) := by decide +kernel
theorem d_al_grow_5 : decode b_al_grow 5 = .ok (.iconst 1, 1) := by decide +kernel
theorem d_al_grow_6 : decode b_al_grow 6 = .ok (.iadd, 1) := by decide +kernel
theorem d_al_grow_7 : decode b_al_grow 7 = .ok (.invokevirtual 69, 3) := by decide +kernel
theorem d_al_grow_10 : decode b_al_grow 10 = .ok (.areturn, 1) := by decide +kernel
abbrev y_al_grow_2 : MethodName := ⟨"java/util/ArrayList", "grow", "(I)[Ljava/lang/Object;"⟩
abbrev b_al_grow_2 : ByteArray := prog_23_method_6_code
theorem d_al_grow_2_0 : decode b_al_grow_2 0 = .ok (.aload_n 0, 1) := by decide +kernel
theorem d_al_grow_2_1 : decode b_al_grow_2 1 = .ok (.getfield 9, 3) := by decide +kernel
theorem d_al_grow_2_4 : decode b_al_grow_2 4 = .ok (.arraylength, 1) := by decide +kernel
theorem d_al_grow_2_5 : decode b_al_grow_2 5 = .ok (.istore_n 2, 1) := by decide +kernel
theorem d_al_grow_2_6 : decode b_al_grow_2 6 = .ok (.iload_n 2, 1) := by decide +kernel
theorem d_al_grow_2_7 : decode b_al_grow_2 7 = .ok (.ifCond .gt 13, 3) := by decide +kernel
theorem d_al_grow_2_10 : decode b_al_grow_2 10 = .ok (.aload_n 0, 1) := by decide +kernel
theorem d_al_grow_2_11 : decode b_al_grow_2 11 = .ok (.getfield 9, 3) := by decide +kernel
theorem d_al_grow_2_14 : decode b_al_grow_2 14 = .ok (.getstatic 39, 3) := by decide +kernel
theorem d_al_grow_2_17 : decode b_al_grow_2 17 = .ok (.if_acmp .eq 28, 3) := by decide +kernel
theorem d_al_grow_2_20 : decode b_al_grow_2 20 = .ok (.iload_n 2, 1) := by decide +kernel
theorem d_al_grow_2_21 : decode b_al_grow_2 21 = .ok (.iload_n 1, 1) := by decide +kernel
theorem d_al_grow_2_22 : decode b_al_grow_2 22 = .ok (.iload_n 2, 1) := by decide +kernel
theorem d_al_grow_2_23 : decode b_al_grow_2 23 = .ok (.isub, 1) := by decide +kernel
theorem d_al_grow_2_24 : decode b_al_grow_2 24 = .ok (.iload_n 2, 1) := by decide +kernel
theorem d_al_grow_2_25 : decode b_al_grow_2 25 = .ok (.iconst 1, 1) := by decide +kernel
theorem d_al_grow_2_26 : decode b_al_grow_2 26 = .ok (.ishr, 1) := by decide +kernel
theorem d_al_grow_2_27 : decode b_al_grow_2 27 = .ok (.invokestatic 73, 3) := by decide +kernel
theorem d_al_grow_2_30 : decode b_al_grow_2 30 = .ok (.istore_n 3, 1) := by decide +kernel
theorem d_al_grow_2_31 : decode b_al_grow_2 31 = .ok (.aload_n 0, 1) := by decide +kernel
theorem d_al_grow_2_32 : decode b_al_grow_2 32 = .ok (.aload_n 0, 1) := by decide +kernel
theorem d_al_grow_2_33 : decode b_al_grow_2 33 = .ok (.getfield 9, 3) := by decide +kernel
theorem d_al_grow_2_36 : decode b_al_grow_2 36 = .ok (.iload_n 3, 1) := by decide +kernel
theorem d_al_grow_2_37 : decode b_al_grow_2 37 = .ok (.invokestatic 66, 3) := by decide +kernel
theorem d_al_grow_2_40 : decode b_al_grow_2 40 = .ok (.dup_x1, 1) := by decide +kernel
theorem d_al_grow_2_41 : decode b_al_grow_2 41 = .ok (.putfield 9, 3) := by decide +kernel
theorem d_al_grow_2_44 : decode b_al_grow_2 44 = .ok (.areturn, 1) := by decide +kernel
theorem d_al_grow_2_45 : decode b_al_grow_2 45 = .ok (.aload_n 0, 1) := by decide +kernel
theorem d_al_grow_2_46 : decode b_al_grow_2 46 = .ok (.bipush 10, 2) := by decide +kernel
theorem d_al_grow_2_48 : decode b_al_grow_2 48 = .ok (.iload_n 1, 1) := by decide +kernel
theorem d_al_grow_2_49 : decode b_al_grow_2 49 = .ok (.invokestatic 79, 3) := by decide +kernel
theorem d_al_grow_2_52 : decode b_al_grow_2 52 = .ok (.anewarray 7, 3) := by decide +kernel
theorem d_al_grow_2_55 : decode b_al_grow_2 55 = .ok (.dup_x1, 1) := by decide +kernel
theorem d_al_grow_2_56 : decode b_al_grow_2 56 = .ok (.putfield 9, 3) := by decide +kernel
theorem d_al_grow_2_59 : decode b_al_grow_2 59 = .ok (.areturn, 1) := by decide +kernel
abbrev y_al_size : MethodName := ⟨"java/util/ArrayList", "size", "()I"⟩
abbrev b_al_size : ByteArray := prog_23_method_8_code
theorem d_al_size_0 : decode b_al_size 0 = .ok (.aload_n 0, 1) := by decide +kernel
theorem d_al_size_1 : decode b_al_size 1 = .ok (.getfield 48, 3) := by decide +kernel
theorem d_al_size_4 : decode b_al_size 4 = .ok (.ireturn, 1) := by decide +kernel
abbrev y_al_isEmpty : MethodName := ⟨"java/util/ArrayList", "isEmpty", "()Z"⟩
abbrev b_al_isEmpty : ByteArray := prog_23_method_9_code
theorem d_al_isEmpty_0 : decode b_al_isEmpty 0 = .ok (.aload_n 0, 1) := by decide +kernel
theorem d_al_isEmpty_1 : decode b_al_isEmpty 1 = .ok (.getfield 48, 3) := by decide +kernel
theorem d_al_isEmpty_4 : decode b_al_isEmpty 4 = .ok (.ifCond .ne 7, 3) := by decide +kernel
theorem d_al_isEmpty_7 : decode b_al_isEmpty 7 = .ok (.iconst 1, 1) := by decide +kernel
theorem d_al_isEmpty_8 : decode b_al_isEmpty 8 = .ok (.goto 4, 3) := by decide +kernel
theorem d_al_isEmpty_11 : decode b_al_isEmpty 11 = .ok (.iconst 0, 1) := by decide +kernel
theorem d_al_isEmpty_12 : decode b_al_isEmpty 12 = .ok (.ireturn, 1) := by decide +kernel
abbrev y_al_clear : MethodName := ⟨"java/util/ArrayList", "clear", "()V"⟩
abbrev b_al_clear : ByteArray := prog_23_method_40_code
theorem d_al_clear_0 : decode b_al_clear 0 = .ok (.aload_n 0, 1) := by decide +kernel
theorem d_al_clear_1 : decode b_al_clear 1 = .ok (.dup, 1) := by decide +kernel
theorem d_al_clear_2 : decode b_al_clear 2 = .ok (.getfield 63, 3) := by decide +kernel
theorem d_al_clear_5 : decode b_al_clear 5 = .ok (.iconst 1, 1) := by decide +kernel
theorem d_al_clear_6 : decode b_al_clear 6 = .ok (.iadd, 1) := by decide +kernel
theorem d_al_clear_7 : decode b_al_clear 7 = .ok (.putfield 63, 3) := by decide +kernel
theorem d_al_clear_10 : decode b_al_clear 10 = .ok (.aload_n 0, 1) := by decide +kernel
theorem d_al_clear_11 : decode b_al_clear 11 = .ok (.getfield 9, 3) := by decide +kernel
theorem d_al_clear_14 : decode b_al_clear 14 = .ok (.astore_n 1, 1) := by decide +kernel
theorem d_al_clear_15 : decode b_al_clear 15 = .ok (.aload_n 0, 1) := by decide +kernel
theorem d_al_clear_16 : decode b_al_clear 16 = .ok (.getfield 48, 3) := by decide +kernel
theorem d_al_clear_19 : decode b_al_clear 19 = .ok (.istore_n 2, 1) := by decide +kernel
theorem d_al_clear_20 : decode b_al_clear 20 = .ok (.aload_n 0, 1) := by decide +kernel
theorem d_al_clear_21 : decode b_al_clear 21 = .ok (.iconst 0, 1) := by decide +kernel
theorem d_al_clear_22 : decode b_al_clear 22 = .ok (.dup_x1, 1) := by decide +kernel
theorem d_al_clear_23 : decode b_al_clear 23 = .ok (.putfield 48, 3) := by decide +kernel
theorem d_al_clear_26 : decode b_al_clear 26 = .ok (.istore_n 3, 1) := by decide +kernel
theorem d_al_clear_27 : decode b_al_clear 27 = .ok (.iload_n 3, 1) := by decide +kernel
theorem d_al_clear_28 : decode b_al_clear 28 = .ok (.iload_n 2, 1) := by decide +kernel
theorem d_al_clear_29 : decode b_al_clear 29 = .ok (.if_icmp .ge 13, 3) := by decide +kernel
theorem d_al_clear_32 : decode b_al_clear 32 = .ok (.aload_n 1, 1) := by decide +kernel
theorem d_al_clear_33 : decode b_al_clear 33 = .ok (.iload_n 3, 1) := by decide +kernel
theorem d_al_clear_34 : decode b_al_clear 34 = .ok (.aconst_null, 1) := by decide +kernel
theorem d_al_clear_35 : decode b_al_clear 35 = .ok (.aastore, 1) := by decide +kernel
theorem d_al_clear_36 : decode b_al_clear 36 = .ok (.iinc 3 1, 3) := by decide +kernel
theorem d_al_clear_39 : decode b_al_clear 39 = .ok (.goto (-12), 3) := by decide +kernel
theorem d_al_clear_42 : decode b_al_clear 42 = .ok (.return_, 1) := by decide +kernel
