/-! the class under proof: names and decode rows -/
abbrev y_po_init : MethodName := ⟨"PacketOrder", "<init>", "()V"⟩
abbrev b_po_init : ByteArray := prog_1_method_1_code
theorem d_po_init_0 : decode b_po_init 0 = .ok (.aload_n 0, 1) := by decide +kernel
theorem d_po_init_1 : decode b_po_init 1 = .ok (.invokespecial 3, 3) := by decide +kernel
theorem d_po_init_4 : decode b_po_init 4 = .ok (.aload_n 0, 1) := by decide +kernel
theorem d_po_init_5 : decode b_po_init 5 = .ok (.new 9, 3) := by decide +kernel
theorem d_po_init_8 : decode b_po_init 8 = .ok (.dup, 1) := by decide +kernel
theorem d_po_init_9 : decode b_po_init 9 = .ok (.invokespecial 11, 3) := by decide +kernel
theorem d_po_init_12 : decode b_po_init 12 = .ok (.putfield 12, 3) := by decide +kernel
theorem d_po_init_15 : decode b_po_init 15 = .ok (.aload_n 0, 1) := by decide +kernel
theorem d_po_init_16 : decode b_po_init 16 = .ok (.new 9, 3) := by decide +kernel
theorem d_po_init_19 : decode b_po_init 19 = .ok (.dup, 1) := by decide +kernel
theorem d_po_init_20 : decode b_po_init 20 = .ok (.invokespecial 11, 3) := by decide +kernel
theorem d_po_init_23 : decode b_po_init 23 = .ok (.putfield 16, 3) := by decide +kernel
theorem d_po_init_26 : decode b_po_init 26 = .ok (.aload_n 0, 1) := by decide +kernel
theorem d_po_init_27 : decode b_po_init 27 = .ok (.new 19, 3) := by decide +kernel
theorem d_po_init_30 : decode b_po_init 30 = .ok (.dup, 1) := by decide +kernel
theorem d_po_init_31 : decode b_po_init 31 = .ok (.invokespecial 21, 3) := by decide +kernel
theorem d_po_init_34 : decode b_po_init 34 = .ok (.putfield 22, 3) := by decide +kernel
theorem d_po_init_37 : decode b_po_init 37 = .ok (.aload_n 0, 1) := by decide +kernel
theorem d_po_init_38 : decode b_po_init 38 = .ok (.iconst 1, 1) := by decide +kernel
theorem d_po_init_39 : decode b_po_init 39 = .ok (.putfield 26, 3) := by decide +kernel
theorem d_po_init_42 : decode b_po_init 42 = .ok (.aload_n 0, 1) := by decide +kernel
theorem d_po_init_43 : decode b_po_init 43 = .ok (.new 30, 3) := by decide +kernel
theorem d_po_init_46 : decode b_po_init 46 = .ok (.dup, 1) := by decide +kernel
theorem d_po_init_47 : decode b_po_init 47 = .ok (.iconst 0, 1) := by decide +kernel
theorem d_po_init_48 : decode b_po_init 48 = .ok (.bipush 33, 2) := by decide +kernel
theorem d_po_init_50 : decode b_po_init 50 = .ok (.iconst 0, 1) := by decide +kernel
theorem d_po_init_51 : decode b_po_init 51 = .ok (.bipush 16, 2) := by decide +kernel
theorem d_po_init_53 : decode b_po_init 53 = .ok (.sipush 255, 3) := by decide +kernel
theorem d_po_init_56 : decode b_po_init 56 = .ok (.iconst 0, 1) := by decide +kernel
theorem d_po_init_57 : decode b_po_init 57 = .ok (.invokespecial 32, 3) := by decide +kernel
theorem d_po_init_60 : decode b_po_init 60 = .ok (.putfield 35, 3) := by decide +kernel
theorem d_po_init_63 : decode b_po_init 63 = .ok (.return_, 1) := by decide +kernel
abbrev y_po_tile : MethodName := ⟨"PacketOrder", "tile", "(IIII)V"⟩
abbrev b_po_tile : ByteArray := prog_1_method_2_code
theorem d_po_tile_0 : decode b_po_tile 0 = .ok (.iload_n 1, 1) := by decide +kernel
theorem d_po_tile_1 : decode b_po_tile 1 = .ok (.ifCond .lt 22, 3) := by decide +kernel
theorem d_po_tile_4 : decode b_po_tile 4 = .ok (.iload_n 2, 1) := by decide +kernel
theorem d_po_tile_5 : decode b_po_tile 5 = .ok (.ifCond .lt 18, 3) := by decide +kernel
theorem d_po_tile_8 : decode b_po_tile 8 = .ok (.iload_n 3, 1) := by decide +kernel
theorem d_po_tile_9 : decode b_po_tile 9 = .ok (.sipush 32767, 3) := by decide +kernel
theorem d_po_tile_12 : decode b_po_tile 12 = .ok (.if_icmp .gt 11, 3) := by decide +kernel
theorem d_po_tile_15 : decode b_po_tile 15 = .ok (.iload 4, 2) := by decide +kernel
theorem d_po_tile_17 : decode b_po_tile 17 = .ok (.sipush 32767, 3) := by decide +kernel
theorem d_po_tile_20 : decode b_po_tile 20 = .ok (.if_icmp .le 13, 3) := by decide +kernel
theorem d_po_tile_23 : decode b_po_tile 23 = .ok (.new 39, 3) := by decide +kernel
theorem d_po_tile_26 : decode b_po_tile 26 = .ok (.dup, 1) := by decide +kernel
theorem d_po_tile_27 : decode b_po_tile 27 = .ok (.ldc 41, 2) := by decide +kernel
theorem d_po_tile_29 : decode b_po_tile 29 = .ok (.invokespecial 43, 3) := by decide +kernel
theorem d_po_tile_32 : decode b_po_tile 32 = .ok (.athrow, 1) := by decide +kernel
theorem d_po_tile_33 : decode b_po_tile 33 = .ok (.iload_n 1, 1) := by decide +kernel
theorem d_po_tile_34 : decode b_po_tile 34 = .ok (.iload_n 3, 1) := by decide +kernel
theorem d_po_tile_35 : decode b_po_tile 35 = .ok (.if_icmp .ge 9, 3) := by decide +kernel
theorem d_po_tile_38 : decode b_po_tile 38 = .ok (.iload_n 2, 1) := by decide +kernel
theorem d_po_tile_39 : decode b_po_tile 39 = .ok (.iload 4, 2) := by decide +kernel
theorem d_po_tile_41 : decode b_po_tile 41 = .ok (.if_icmp .lt 13, 3) := by decide +kernel
theorem d_po_tile_44 : decode b_po_tile 44 = .ok (.new 39, 3) := by decide +kernel
theorem d_po_tile_47 : decode b_po_tile 47 = .ok (.dup, 1) := by decide +kernel
theorem d_po_tile_48 : decode b_po_tile 48 = .ok (.ldc 46, 2) := by decide +kernel
theorem d_po_tile_50 : decode b_po_tile 50 = .ok (.invokespecial 43, 3) := by decide +kernel
theorem d_po_tile_53 : decode b_po_tile 53 = .ok (.athrow, 1) := by decide +kernel
theorem d_po_tile_54 : decode b_po_tile 54 = .ok (.aload_n 0, 1) := by decide +kernel
theorem d_po_tile_55 : decode b_po_tile 55 = .ok (.iload_n 1, 1) := by decide +kernel
theorem d_po_tile_56 : decode b_po_tile 56 = .ok (.putfield 48, 3) := by decide +kernel
theorem d_po_tile_59 : decode b_po_tile 59 = .ok (.aload_n 0, 1) := by decide +kernel
theorem d_po_tile_60 : decode b_po_tile 60 = .ok (.iload_n 2, 1) := by decide +kernel
theorem d_po_tile_61 : decode b_po_tile 61 = .ok (.putfield 51, 3) := by decide +kernel
theorem d_po_tile_64 : decode b_po_tile 64 = .ok (.aload_n 0, 1) := by decide +kernel
theorem d_po_tile_65 : decode b_po_tile 65 = .ok (.iload_n 3, 1) := by decide +kernel
theorem d_po_tile_66 : decode b_po_tile 66 = .ok (.putfield 54, 3) := by decide +kernel
theorem d_po_tile_69 : decode b_po_tile 69 = .ok (.aload_n 0, 1) := by decide +kernel
theorem d_po_tile_70 : decode b_po_tile 70 = .ok (.iload 4, 2) := by decide +kernel
theorem d_po_tile_72 : decode b_po_tile 72 = .ok (.putfield 57, 3) := by decide +kernel
theorem d_po_tile_75 : decode b_po_tile 75 = .ok (.aload_n 0, 1) := by decide +kernel
theorem d_po_tile_76 : decode b_po_tile 76 = .ok (.iconst 1, 1) := by decide +kernel
theorem d_po_tile_77 : decode b_po_tile 77 = .ok (.putfield 60, 3) := by decide +kernel
theorem d_po_tile_80 : decode b_po_tile 80 = .ok (.aload_n 0, 1) := by decide +kernel
theorem d_po_tile_81 : decode b_po_tile 81 = .ok (.iconst 0, 1) := by decide +kernel
theorem d_po_tile_82 : decode b_po_tile 82 = .ok (.putfield 64, 3) := by decide +kernel
theorem d_po_tile_85 : decode b_po_tile 85 = .ok (.return_, 1) := by decide +kernel
abbrev y_po_component : MethodName := ⟨"PacketOrder", "component", "(III)I"⟩
abbrev b_po_component : ByteArray := prog_1_method_3_code
theorem d_po_component_0 : decode b_po_component 0 = .ok (.iload_n 1, 1) := by decide +kernel
theorem d_po_component_1 : decode b_po_component 1 = .ok (.iconst 1, 1) := by decide +kernel
theorem d_po_component_2 : decode b_po_component 2 = .ok (.sipush 255, 3) := by decide +kernel
theorem d_po_component_5 : decode b_po_component 5 = .ok (.invokestatic 67, 3) := by decide +kernel
theorem d_po_component_8 : decode b_po_component 8 = .ok (.ifCond .eq 14, 3) := by decide +kernel
theorem d_po_component_11 : decode b_po_component 11 = .ok (.iload_n 2, 1) := by decide +kernel
theorem d_po_component_12 : decode b_po_component 12 = .ok (.iconst 1, 1) := by decide +kernel
theorem d_po_component_13 : decode b_po_component 13 = .ok (.sipush 255, 3) := by decide +kernel
theorem d_po_component_16 : decode b_po_component 16 = .ok (.invokestatic 67, 3) := by decide +kernel
theorem d_po_component_19 : decode b_po_component 19 = .ok (.ifCond .ne 13, 3) := by decide +kernel
theorem d_po_component_22 : decode b_po_component 22 = .ok (.new 39, 3) := by decide +kernel
theorem d_po_component_25 : decode b_po_component 25 = .ok (.dup, 1) := by decide +kernel
theorem d_po_component_26 : decode b_po_component 26 = .ok (.ldc 71, 2) := by decide +kernel
theorem d_po_component_28 : decode b_po_component 28 = .ok (.invokespecial 43, 3) := by decide +kernel
theorem d_po_component_31 : decode b_po_component 31 = .ok (.athrow, 1) := by decide +kernel
theorem d_po_component_32 : decode b_po_component 32 = .ok (.iload_n 3, 1) := by decide +kernel
theorem d_po_component_33 : decode b_po_component 33 = .ok (.iconst 0, 1) := by decide +kernel
theorem d_po_component_34 : decode b_po_component 34 = .ok (.bipush 32, 2) := by decide +kernel
theorem d_po_component_36 : decode b_po_component 36 = .ok (.invokestatic 67, 3) := by decide +kernel
theorem d_po_component_39 : decode b_po_component 39 = .ok (.ifCond .ne 13, 3) := by decide +kernel
theorem d_po_component_42 : decode b_po_component 42 = .ok (.new 39, 3) := by decide +kernel
theorem d_po_component_45 : decode b_po_component 45 = .ok (.dup, 1) := by decide +kernel
theorem d_po_component_46 : decode b_po_component 46 = .ok (.ldc 73, 2) := by decide +kernel
theorem d_po_component_48 : decode b_po_component 48 = .ok (.invokespecial 43, 3) := by decide +kernel
theorem d_po_component_51 : decode b_po_component 51 = .ok (.athrow, 1) := by decide +kernel
theorem d_po_component_52 : decode b_po_component 52 = .ok (.aload_n 0, 1) := by decide +kernel
theorem d_po_component_53 : decode b_po_component 53 = .ok (.getfield 12, 3) := by decide +kernel
theorem d_po_component_56 : decode b_po_component 56 = .ok (.invokevirtual 75, 3) := by decide +kernel
theorem d_po_component_59 : decode b_po_component 59 = .ok (.istore 4, 2) := by decide +kernel
theorem d_po_component_61 : decode b_po_component 61 = .ok (.iload 4, 2) := by decide +kernel
theorem d_po_component_63 : decode b_po_component 63 = .ok (.bipush 16, 2) := by decide +kernel
theorem d_po_component_65 : decode b_po_component 65 = .ok (.if_icmp .lt 13, 3) := by decide +kernel
theorem d_po_component_68 : decode b_po_component 68 = .ok (.new 79, 3) := by decide +kernel
theorem d_po_component_71 : decode b_po_component 71 = .ok (.dup, 1) := by decide +kernel
theorem d_po_component_72 : decode b_po_component 72 = .ok (.ldc 81, 2) := by decide +kernel
theorem d_po_component_74 : decode b_po_component 74 = .ok (.invokespecial 83, 3) := by decide +kernel
theorem d_po_component_77 : decode b_po_component 77 = .ok (.athrow, 1) := by decide +kernel
theorem d_po_component_78 : decode b_po_component 78 = .ok (.aload_n 0, 1) := by decide +kernel
theorem d_po_component_79 : decode b_po_component 79 = .ok (.getfield 12, 3) := by decide +kernel
theorem d_po_component_82 : decode b_po_component 82 = .ok (.new 84, 3) := by decide +kernel
theorem d_po_component_85 : decode b_po_component 85 = .ok (.dup, 1) := by decide +kernel
theorem d_po_component_86 : decode b_po_component 86 = .ok (.iload 4, 2) := by decide +kernel
theorem d_po_component_88 : decode b_po_component 88 = .ok (.iload_n 1, 1) := by decide +kernel
theorem d_po_component_89 : decode b_po_component 89 = .ok (.iload_n 2, 1) := by decide +kernel
theorem d_po_component_90 : decode b_po_component 90 = .ok (.iload_n 3, 1) := by decide +kernel
theorem d_po_component_91 : decode b_po_component 91 = .ok (.invokespecial 86, 3) := by decide +kernel
theorem d_po_component_94 : decode b_po_component 94 = .ok (.invokevirtual 89, 3) := by decide +kernel
theorem d_po_component_97 : decode b_po_component 97 = .ok (.pop, 1) := by decide +kernel
theorem d_po_component_98 : decode b_po_component 98 = .ok (.aload_n 0, 1) := by decide +kernel
theorem d_po_component_99 : decode b_po_component 99 = .ok (.iconst 0, 1) := by decide +kernel
theorem d_po_component_100 : decode b_po_component 100 = .ok (.putfield 64, 3) := by decide +kernel
theorem d_po_component_103 : decode b_po_component 103 = .ok (.iload 4, 2) := by decide +kernel
theorem d_po_component_105 : decode b_po_component 105 = .ok (.ireturn, 1) := by decide +kernel
abbrev y_po_precincts : MethodName := ⟨"PacketOrder", "precincts", "(IIII)V"⟩
abbrev b_po_precincts : ByteArray := prog_1_method_4_code
theorem d_po_precincts_0 : decode b_po_precincts 0 = .ok (.aload_n 0, 1) := by decide +kernel
theorem d_po_precincts_1 : decode b_po_precincts 1 = .ok (.iload_n 1, 1) := by decide +kernel
theorem d_po_precincts_2 : decode b_po_precincts 2 = .ok (.iload_n 2, 1) := by decide +kernel
theorem d_po_precincts_3 : decode b_po_precincts 3 = .ok (.invokevirtual 93, 3) := by decide +kernel
theorem d_po_precincts_6 : decode b_po_precincts 6 = .ok (.astore 5, 2) := by decide +kernel
theorem d_po_precincts_8 : decode b_po_precincts 8 = .ok (.aload 5, 2) := by decide +kernel
theorem d_po_precincts_10 : decode b_po_precincts 10 = .ok (.ifnonnull 13, 3) := by decide +kernel
theorem d_po_precincts_13 : decode b_po_precincts 13 = .ok (.new 97, 3) := by decide +kernel
theorem d_po_precincts_16 : decode b_po_precincts 16 = .ok (.dup, 1) := by decide +kernel
theorem d_po_precincts_17 : decode b_po_precincts 17 = .ok (.ldc 99, 2) := by decide +kernel
theorem d_po_precincts_19 : decode b_po_precincts 19 = .ok (.invokespecial 101, 3) := by decide +kernel
theorem d_po_precincts_22 : decode b_po_precincts 22 = .ok (.athrow, 1) := by decide +kernel
theorem d_po_precincts_23 : decode b_po_precincts 23 = .ok (.iload_n 2, 1) := by decide +kernel
theorem d_po_precincts_24 : decode b_po_precincts 24 = .ok (.ifCond .le 7, 3) := by decide +kernel
theorem d_po_precincts_27 : decode b_po_precincts 27 = .ok (.iconst 1, 1) := by decide +kernel
theorem d_po_precincts_28 : decode b_po_precincts 28 = .ok (.goto 4, 3) := by decide +kernel
theorem d_po_precincts_31 : decode b_po_precincts 31 = .ok (.iconst 0, 1) := by decide +kernel
theorem d_po_precincts_32 : decode b_po_precincts 32 = .ok (.istore 6, 2) := by decide +kernel
theorem d_po_precincts_34 : decode b_po_precincts 34 = .ok (.iload_n 3, 1) := by decide +kernel
theorem d_po_precincts_35 : decode b_po_precincts 35 = .ok (.iload 6, 2) := by decide +kernel
theorem d_po_precincts_37 : decode b_po_precincts 37 = .ok (.bipush 15, 2) := by decide +kernel
theorem d_po_precincts_39 : decode b_po_precincts 39 = .ok (.invokestatic 67, 3) := by decide +kernel
theorem d_po_precincts_42 : decode b_po_precincts 42 = .ok (.ifCond .eq 15, 3) := by decide +kernel
theorem d_po_precincts_45 : decode b_po_precincts 45 = .ok (.iload 4, 2) := by decide +kernel
theorem d_po_precincts_47 : decode b_po_precincts 47 = .ok (.iload 6, 2) := by decide +kernel
theorem d_po_precincts_49 : decode b_po_precincts 49 = .ok (.bipush 15, 2) := by decide +kernel
theorem d_po_precincts_51 : decode b_po_precincts 51 = .ok (.invokestatic 67, 3) := by decide +kernel
theorem d_po_precincts_54 : decode b_po_precincts 54 = .ok (.ifCond .ne 13, 3) := by decide +kernel
theorem d_po_precincts_57 : decode b_po_precincts 57 = .ok (.new 39, 3) := by decide +kernel
theorem d_po_precincts_60 : decode b_po_precincts 60 = .ok (.dup, 1) := by decide +kernel
theorem d_po_precincts_61 : decode b_po_precincts 61 = .ok (.ldc 102, 2) := by decide +kernel
theorem d_po_precincts_63 : decode b_po_precincts 63 = .ok (.invokespecial 43, 3) := by decide +kernel
theorem d_po_precincts_66 : decode b_po_precincts 66 = .ok (.athrow, 1) := by decide +kernel
theorem d_po_precincts_67 : decode b_po_precincts 67 = .ok (.aload 5, 2) := by decide +kernel
theorem d_po_precincts_69 : decode b_po_precincts 69 = .ok (.getfield 104, 3) := by decide +kernel
theorem d_po_precincts_72 : decode b_po_precincts 72 = .ok (.iload_n 3, 1) := by decide +kernel
theorem d_po_precincts_73 : decode b_po_precincts 73 = .ok (.putfield 110, 3) := by decide +kernel
theorem d_po_precincts_76 : decode b_po_precincts 76 = .ok (.aload 5, 2) := by decide +kernel
theorem d_po_precincts_78 : decode b_po_precincts 78 = .ok (.getfield 115, 3) := by decide +kernel
theorem d_po_precincts_81 : decode b_po_precincts 81 = .ok (.iload 4, 2) := by decide +kernel
theorem d_po_precincts_83 : decode b_po_precincts 83 = .ok (.putfield 110, 3) := by decide +kernel
theorem d_po_precincts_86 : decode b_po_precincts 86 = .ok (.aload_n 0, 1) := by decide +kernel
theorem d_po_precincts_87 : decode b_po_precincts 87 = .ok (.iconst 0, 1) := by decide +kernel
theorem d_po_precincts_88 : decode b_po_precincts 88 = .ok (.putfield 64, 3) := by decide +kernel
theorem d_po_precincts_91 : decode b_po_precincts 91 = .ok (.return_, 1) := by decide +kernel
abbrev y_po_layers : MethodName := ⟨"PacketOrder", "layers", "(II)V"⟩
abbrev b_po_layers : ByteArray := prog_1_method_5_code
theorem d_po_layers_0 : decode b_po_layers 0 = .ok (.iload_n 1, 1) := by decide +kernel
theorem d_po_layers_1 : decode b_po_layers 1 = .ok (.iconst 1, 1) := by decide +kernel
theorem d_po_layers_2 : decode b_po_layers 2 = .ok (.sipush 255, 3) := by decide +kernel
theorem d_po_layers_5 : decode b_po_layers 5 = .ok (.invokestatic 67, 3) := by decide +kernel
theorem d_po_layers_8 : decode b_po_layers 8 = .ok (.ifCond .ne 13, 3) := by decide +kernel
theorem d_po_layers_11 : decode b_po_layers 11 = .ok (.new 39, 3) := by decide +kernel
theorem d_po_layers_14 : decode b_po_layers 14 = .ok (.dup, 1) := by decide +kernel
theorem d_po_layers_15 : decode b_po_layers 15 = .ok (.ldc 118, 2) := by decide +kernel
theorem d_po_layers_17 : decode b_po_layers 17 = .ok (.invokespecial 43, 3) := by decide +kernel
theorem d_po_layers_20 : decode b_po_layers 20 = .ok (.athrow, 1) := by decide +kernel
theorem d_po_layers_21 : decode b_po_layers 21 = .ok (.iload_n 2, 1) := by decide +kernel
theorem d_po_layers_22 : decode b_po_layers 22 = .ok (.iconst 0, 1) := by decide +kernel
theorem d_po_layers_23 : decode b_po_layers 23 = .ok (.iconst 4, 1) := by decide +kernel
theorem d_po_layers_24 : decode b_po_layers 24 = .ok (.invokestatic 67, 3) := by decide +kernel
theorem d_po_layers_27 : decode b_po_layers 27 = .ok (.ifCond .ne 13, 3) := by decide +kernel
theorem d_po_layers_30 : decode b_po_layers 30 = .ok (.new 39, 3) := by decide +kernel
theorem d_po_layers_33 : decode b_po_layers 33 = .ok (.dup, 1) := by decide +kernel
theorem d_po_layers_34 : decode b_po_layers 34 = .ok (.ldc 120, 2) := by decide +kernel
theorem d_po_layers_36 : decode b_po_layers 36 = .ok (.invokespecial 43, 3) := by decide +kernel
theorem d_po_layers_39 : decode b_po_layers 39 = .ok (.athrow, 1) := by decide +kernel
theorem d_po_layers_40 : decode b_po_layers 40 = .ok (.aload_n 0, 1) := by decide +kernel
theorem d_po_layers_41 : decode b_po_layers 41 = .ok (.iload_n 1, 1) := by decide +kernel
theorem d_po_layers_42 : decode b_po_layers 42 = .ok (.putfield 26, 3) := by decide +kernel
theorem d_po_layers_45 : decode b_po_layers 45 = .ok (.aload_n 0, 1) := by decide +kernel
theorem d_po_layers_46 : decode b_po_layers 46 = .ok (.new 30, 3) := by decide +kernel
theorem d_po_layers_49 : decode b_po_layers 49 = .ok (.dup, 1) := by decide +kernel
theorem d_po_layers_50 : decode b_po_layers 50 = .ok (.iconst 0, 1) := by decide +kernel
theorem d_po_layers_51 : decode b_po_layers 51 = .ok (.bipush 33, 2) := by decide +kernel
theorem d_po_layers_53 : decode b_po_layers 53 = .ok (.iconst 0, 1) := by decide +kernel
theorem d_po_layers_54 : decode b_po_layers 54 = .ok (.bipush 16, 2) := by decide +kernel
theorem d_po_layers_56 : decode b_po_layers 56 = .ok (.sipush 255, 3) := by decide +kernel
theorem d_po_layers_59 : decode b_po_layers 59 = .ok (.iload_n 2, 1) := by decide +kernel
theorem d_po_layers_60 : decode b_po_layers 60 = .ok (.invokespecial 32, 3) := by decide +kernel
theorem d_po_layers_63 : decode b_po_layers 63 = .ok (.putfield 35, 3) := by decide +kernel
theorem d_po_layers_66 : decode b_po_layers 66 = .ok (.aload_n 0, 1) := by decide +kernel
theorem d_po_layers_67 : decode b_po_layers 67 = .ok (.iconst 0, 1) := by decide +kernel
theorem d_po_layers_68 : decode b_po_layers 68 = .ok (.putfield 64, 3) := by decide +kernel
theorem d_po_layers_71 : decode b_po_layers 71 = .ok (.return_, 1) := by decide +kernel
abbrev y_po_change : MethodName := ⟨"PacketOrder", "change", "(IIIIII)I"⟩
abbrev b_po_change : ByteArray := prog_1_method_6_code
theorem d_po_change_0 : decode b_po_change 0 = .ok (.iload_n 1, 1) := by decide +kernel
theorem d_po_change_1 : decode b_po_change 1 = .ok (.ifCond .lt 14, 3) := by decide +kernel
theorem d_po_change_4 : decode b_po_change 4 = .ok (.iload_n 1, 1) := by decide +kernel
theorem d_po_change_5 : decode b_po_change 5 = .ok (.iload_n 2, 1) := by decide +kernel
theorem d_po_change_6 : decode b_po_change 6 = .ok (.if_icmp .ge 9, 3) := by decide +kernel
theorem d_po_change_9 : decode b_po_change 9 = .ok (.iload_n 2, 1) := by decide +kernel
theorem d_po_change_10 : decode b_po_change 10 = .ok (.bipush 33, 2) := by decide +kernel
theorem d_po_change_12 : decode b_po_change 12 = .ok (.if_icmp .le 13, 3) := by decide +kernel
theorem d_po_change_15 : decode b_po_change 15 = .ok (.new 39, 3) := by decide +kernel
theorem d_po_change_18 : decode b_po_change 18 = .ok (.dup, 1) := by decide +kernel
theorem d_po_change_19 : decode b_po_change 19 = .ok (.ldc 122, 2) := by decide +kernel
theorem d_po_change_21 : decode b_po_change 21 = .ok (.invokespecial 43, 3) := by decide +kernel
theorem d_po_change_24 : decode b_po_change 24 = .ok (.athrow, 1) := by decide +kernel
theorem d_po_change_25 : decode b_po_change 25 = .ok (.iload_n 3, 1) := by decide +kernel
theorem d_po_change_26 : decode b_po_change 26 = .ok (.ifCond .lt 16, 3) := by decide +kernel
theorem d_po_change_29 : decode b_po_change 29 = .ok (.iload_n 3, 1) := by decide +kernel
theorem d_po_change_30 : decode b_po_change 30 = .ok (.iload 4, 2) := by decide +kernel
theorem d_po_change_32 : decode b_po_change 32 = .ok (.if_icmp .ge 10, 3) := by decide +kernel
theorem d_po_change_35 : decode b_po_change 35 = .ok (.iload 4, 2) := by decide +kernel
theorem d_po_change_37 : decode b_po_change 37 = .ok (.bipush 16, 2) := by decide +kernel
theorem d_po_change_39 : decode b_po_change 39 = .ok (.if_icmp .le 13, 3) := by decide +kernel
theorem d_po_change_42 : decode b_po_change 42 = .ok (.new 39, 3) := by decide +kernel
theorem d_po_change_45 : decode b_po_change 45 = .ok (.dup, 1) := by decide +kernel
theorem d_po_change_46 : decode b_po_change 46 = .ok (.ldc 124, 2) := by decide +kernel
theorem d_po_change_48 : decode b_po_change 48 = .ok (.invokespecial 43, 3) := by decide +kernel
theorem d_po_change_51 : decode b_po_change 51 = .ok (.athrow, 1) := by decide +kernel
theorem d_po_change_52 : decode b_po_change 52 = .ok (.iload 5, 2) := by decide +kernel
theorem d_po_change_54 : decode b_po_change 54 = .ok (.iconst 1, 1) := by decide +kernel
theorem d_po_change_55 : decode b_po_change 55 = .ok (.sipush 255, 3) := by decide +kernel
theorem d_po_change_58 : decode b_po_change 58 = .ok (.invokestatic 67, 3) := by decide +kernel
theorem d_po_change_61 : decode b_po_change 61 = .ok (.ifCond .ne 13, 3) := by decide +kernel
theorem d_po_change_64 : decode b_po_change 64 = .ok (.new 39, 3) := by decide +kernel
theorem d_po_change_67 : decode b_po_change 67 = .ok (.dup, 1) := by decide +kernel
theorem d_po_change_68 : decode b_po_change 68 = .ok (.ldc 126, 2) := by decide +kernel
theorem d_po_change_70 : decode b_po_change 70 = .ok (.invokespecial 43, 3) := by decide +kernel
theorem d_po_change_73 : decode b_po_change 73 = .ok (.athrow, 1) := by decide +kernel
theorem d_po_change_74 : decode b_po_change 74 = .ok (.iload 6, 2) := by decide +kernel
theorem d_po_change_76 : decode b_po_change 76 = .ok (.iconst 0, 1) := by decide +kernel
theorem d_po_change_77 : decode b_po_change 77 = .ok (.iconst 4, 1) := by decide +kernel
theorem d_po_change_78 : decode b_po_change 78 = .ok (.invokestatic 67, 3) := by decide +kernel
theorem d_po_change_81 : decode b_po_change 81 = .ok (.ifCond .ne 13, 3) := by decide +kernel
theorem d_po_change_84 : decode b_po_change 84 = .ok (.new 39, 3) := by decide +kernel
theorem d_po_change_87 : decode b_po_change 87 = .ok (.dup, 1) := by decide +kernel
theorem d_po_change_88 : decode b_po_change 88 = .ok (.ldc 120, 2) := by decide +kernel
theorem d_po_change_90 : decode b_po_change 90 = .ok (.invokespecial 43, 3) := by decide +kernel
theorem d_po_change_93 : decode b_po_change 93 = .ok (.athrow, 1) := by decide +kernel
theorem d_po_change_94 : decode b_po_change 94 = .ok (.aload_n 0, 1) := by decide +kernel
theorem d_po_change_95 : decode b_po_change 95 = .ok (.getfield 16, 3) := by decide +kernel
theorem d_po_change_98 : decode b_po_change 98 = .ok (.invokevirtual 75, 3) := by decide +kernel
theorem d_po_change_101 : decode b_po_change 101 = .ok (.bipush 32, 2) := by decide +kernel
theorem d_po_change_103 : decode b_po_change 103 = .ok (.if_icmp .lt 13, 3) := by decide +kernel
theorem d_po_change_106 : decode b_po_change 106 = .ok (.new 79, 3) := by decide +kernel
theorem d_po_change_109 : decode b_po_change 109 = .ok (.dup, 1) := by decide +kernel
theorem d_po_change_110 : decode b_po_change 110 = .ok (.ldc 128, 2) := by decide +kernel
theorem d_po_change_112 : decode b_po_change 112 = .ok (.invokespecial 83, 3) := by decide +kernel
theorem d_po_change_115 : decode b_po_change 115 = .ok (.athrow, 1) := by decide +kernel
theorem d_po_change_116 : decode b_po_change 116 = .ok (.aload_n 0, 1) := by decide +kernel
theorem d_po_change_117 : decode b_po_change 117 = .ok (.getfield 16, 3) := by decide +kernel
theorem d_po_change_120 : decode b_po_change 120 = .ok (.new 30, 3) := by decide +kernel
theorem d_po_change_123 : decode b_po_change 123 = .ok (.dup, 1) := by decide +kernel
theorem d_po_change_124 : decode b_po_change 124 = .ok (.iload_n 1, 1) := by decide +kernel
theorem d_po_change_125 : decode b_po_change 125 = .ok (.iload_n 2, 1) := by decide +kernel
theorem d_po_change_126 : decode b_po_change 126 = .ok (.iload_n 3, 1) := by decide +kernel
theorem d_po_change_127 : decode b_po_change 127 = .ok (.iload 4, 2) := by decide +kernel
theorem d_po_change_129 : decode b_po_change 129 = .ok (.iload 5, 2) := by decide +kernel
theorem d_po_change_131 : decode b_po_change 131 = .ok (.iload 6, 2) := by decide +kernel
theorem d_po_change_133 : decode b_po_change 133 = .ok (.invokespecial 32, 3) := by decide +kernel
theorem d_po_change_136 : decode b_po_change 136 = .ok (.invokevirtual 89, 3) := by decide +kernel
theorem d_po_change_139 : decode b_po_change 139 = .ok (.pop, 1) := by decide +kernel
theorem d_po_change_140 : decode b_po_change 140 = .ok (.aload_n 0, 1) := by decide +kernel
theorem d_po_change_141 : decode b_po_change 141 = .ok (.iconst 0, 1) := by decide +kernel
theorem d_po_change_142 : decode b_po_change 142 = .ok (.putfield 64, 3) := by decide +kernel
theorem d_po_change_145 : decode b_po_change 145 = .ok (.aload_n 0, 1) := by decide +kernel
theorem d_po_change_146 : decode b_po_change 146 = .ok (.getfield 16, 3) := by decide +kernel
theorem d_po_change_149 : decode b_po_change 149 = .ok (.invokevirtual 75, 3) := by decide +kernel
theorem d_po_change_152 : decode b_po_change 152 = .ok (.ireturn, 1) := by decide +kernel
abbrev y_po_clear : MethodName := ⟨"PacketOrder", "clear", "()V"⟩
abbrev b_po_clear : ByteArray := prog_1_method_7_code
theorem d_po_clear_0 : decode b_po_clear 0 = .ok (.aload_n 0, 1) := by decide +kernel
theorem d_po_clear_1 : decode b_po_clear 1 = .ok (.getfield 16, 3) := by decide +kernel
theorem d_po_clear_4 : decode b_po_clear 4 = .ok (.invokevirtual 130, 3) := by decide +kernel
theorem d_po_clear_7 : decode b_po_clear 7 = .ok (.aload_n 0, 1) := by decide +kernel
theorem d_po_clear_8 : decode b_po_clear 8 = .ok (.iconst 0, 1) := by decide +kernel
theorem d_po_clear_9 : decode b_po_clear 9 = .ok (.putfield 64, 3) := by decide +kernel
theorem d_po_clear_12 : decode b_po_clear 12 = .ok (.return_, 1) := by decide +kernel
abbrev y_po_begin : MethodName := ⟨"PacketOrder", "begin", "()I"⟩
abbrev b_po_begin : ByteArray := prog_1_method_8_code
theorem d_po_begin_0 : decode b_po_begin 0 = .ok (.aload_n 0, 1) := by decide +kernel
theorem d_po_begin_1 : decode b_po_begin 1 = .ok (.getfield 60, 3) := by decide +kernel
theorem d_po_begin_4 : decode b_po_begin 4 = .ok (.ifCond .eq 13, 3) := by decide +kernel
theorem d_po_begin_7 : decode b_po_begin 7 = .ok (.aload_n 0, 1) := by decide +kernel
theorem d_po_begin_8 : decode b_po_begin 8 = .ok (.getfield 12, 3) := by decide +kernel
theorem d_po_begin_11 : decode b_po_begin 11 = .ok (.invokevirtual 133, 3) := by decide +kernel
theorem d_po_begin_14 : decode b_po_begin 14 = .ok (.ifCond .eq 13, 3) := by decide +kernel
theorem d_po_begin_17 : decode b_po_begin 17 = .ok (.new 79, 3) := by decide +kernel
theorem d_po_begin_20 : decode b_po_begin 20 = .ok (.dup, 1) := by decide +kernel
theorem d_po_begin_21 : decode b_po_begin 21 = .ok (.ldc 137, 2) := by decide +kernel
theorem d_po_begin_23 : decode b_po_begin 23 = .ok (.invokespecial 83, 3) := by decide +kernel
theorem d_po_begin_26 : decode b_po_begin 26 = .ok (.athrow, 1) := by decide +kernel
theorem d_po_begin_27 : decode b_po_begin 27 = .ok (.aload_n 0, 1) := by decide +kernel
theorem d_po_begin_28 : decode b_po_begin 28 = .ok (.invokevirtual 139, 3) := by decide +kernel
theorem d_po_begin_31 : decode b_po_begin 31 = .ok (.lstore_n 1, 1) := by decide +kernel
theorem d_po_begin_32 : decode b_po_begin 32 = .ok (.lload_n 1, 1) := by decide +kernel
theorem d_po_begin_33 : decode b_po_begin 33 = .ok (.ldc2_w 143, 3) := by decide +kernel
theorem d_po_begin_36 : decode b_po_begin 36 = .ok (.lcmp, 1) := by decide +kernel
theorem d_po_begin_37 : decode b_po_begin 37 = .ok (.ifCond .le 13, 3) := by decide +kernel
theorem d_po_begin_40 : decode b_po_begin 40 = .ok (.new 145, 3) := by decide +kernel
theorem d_po_begin_43 : decode b_po_begin 43 = .ok (.dup, 1) := by decide +kernel
theorem d_po_begin_44 : decode b_po_begin 44 = .ok (.ldc 147, 2) := by decide +kernel
theorem d_po_begin_46 : decode b_po_begin 46 = .ok (.invokespecial 149, 3) := by decide +kernel
theorem d_po_begin_49 : decode b_po_begin 49 = .ok (.athrow, 1) := by decide +kernel
theorem d_po_begin_50 : decode b_po_begin 50 = .ok (.aload_n 0, 1) := by decide +kernel
theorem d_po_begin_51 : decode b_po_begin 51 = .ok (.getfield 22, 3) := by decide +kernel
theorem d_po_begin_54 : decode b_po_begin 54 = .ok (.lload_n 1, 1) := by decide +kernel
theorem d_po_begin_55 : decode b_po_begin 55 = .ok (.l2i, 1) := by decide +kernel
theorem d_po_begin_56 : decode b_po_begin 56 = .ok (.invokevirtual 150, 3) := by decide +kernel
theorem d_po_begin_59 : decode b_po_begin 59 = .ok (.aload_n 0, 1) := by decide +kernel
theorem d_po_begin_60 : decode b_po_begin 60 = .ok (.iconst (-1), 1) := by decide +kernel
theorem d_po_begin_61 : decode b_po_begin 61 = .ok (.putfield 154, 3) := by decide +kernel
theorem d_po_begin_64 : decode b_po_begin 64 = .ok (.aload_n 0, 1) := by decide +kernel
theorem d_po_begin_65 : decode b_po_begin 65 = .ok (.iconst (-1), 1) := by decide +kernel
theorem d_po_begin_66 : decode b_po_begin 66 = .ok (.putfield 157, 3) := by decide +kernel
theorem d_po_begin_69 : decode b_po_begin 69 = .ok (.aload_n 0, 1) := by decide +kernel
theorem d_po_begin_70 : decode b_po_begin 70 = .ok (.iconst 1, 1) := by decide +kernel
theorem d_po_begin_71 : decode b_po_begin 71 = .ok (.putfield 64, 3) := by decide +kernel
theorem d_po_begin_74 : decode b_po_begin 74 = .ok (.lload_n 1, 1) := by decide +kernel
theorem d_po_begin_75 : decode b_po_begin 75 = .ok (.l2i, 1) := by decide +kernel
theorem d_po_begin_76 : decode b_po_begin 76 = .ok (.aload_n 0, 1) := by decide +kernel
theorem d_po_begin_77 : decode b_po_begin 77 = .ok (.getfield 26, 3) := by decide +kernel
theorem d_po_begin_80 : decode b_po_begin 80 = .ok (.imul, 1) := by decide +kernel
theorem d_po_begin_81 : decode b_po_begin 81 = .ok (.ireturn, 1) := by decide +kernel
abbrev y_po_next : MethodName := ⟨"PacketOrder", "next", "()Z"⟩
abbrev b_po_next : ByteArray := prog_1_method_9_code
theorem d_po_next_0 : decode b_po_next 0 = .ok (.aload_n 0, 1) := by decide +kernel
theorem d_po_next_1 : decode b_po_next 1 = .ok (.getfield 64, 3) := by decide +kernel
theorem d_po_next_4 : decode b_po_next 4 = .ok (.ifCond .ne 13, 3) := by decide +kernel
theorem d_po_next_7 : decode b_po_next 7 = .ok (.new 79, 3) := by decide +kernel
theorem d_po_next_10 : decode b_po_next 10 = .ok (.dup, 1) := by decide +kernel
theorem d_po_next_11 : decode b_po_next 11 = .ok (.ldc 160, 2) := by decide +kernel
theorem d_po_next_13 : decode b_po_next 13 = .ok (.invokespecial 83, 3) := by decide +kernel
theorem d_po_next_16 : decode b_po_next 16 = .ok (.athrow, 1) := by decide +kernel
theorem d_po_next_17 : decode b_po_next 17 = .ok (.aload_n 0, 1) := by decide +kernel
theorem d_po_next_18 : decode b_po_next 18 = .ok (.iconst 1, 1) := by decide +kernel
theorem d_po_next_19 : decode b_po_next 19 = .ok (.invokevirtual 162, 3) := by decide +kernel
theorem d_po_next_22 : decode b_po_next 22 = .ok (.iconst 1, 1) := by decide +kernel
theorem d_po_next_23 : decode b_po_next 23 = .ok (.if_icmp .ne 7, 3) := by decide +kernel
theorem d_po_next_26 : decode b_po_next 26 = .ok (.iconst 1, 1) := by decide +kernel
theorem d_po_next_27 : decode b_po_next 27 = .ok (.goto 4, 3) := by decide +kernel
theorem d_po_next_30 : decode b_po_next 30 = .ok (.iconst 0, 1) := by decide +kernel
theorem d_po_next_31 : decode b_po_next 31 = .ok (.ireturn, 1) := by decide +kernel
abbrev y_po_skip : MethodName := ⟨"PacketOrder", "skip", "(I)I"⟩
abbrev b_po_skip : ByteArray := prog_1_method_10_code
theorem d_po_skip_0 : decode b_po_skip 0 = .ok (.iload_n 1, 1) := by decide +kernel
theorem d_po_skip_1 : decode b_po_skip 1 = .ok (.ifCond .ge 13, 3) := by decide +kernel
theorem d_po_skip_4 : decode b_po_skip 4 = .ok (.new 39, 3) := by decide +kernel
theorem d_po_skip_7 : decode b_po_skip 7 = .ok (.dup, 1) := by decide +kernel
theorem d_po_skip_8 : decode b_po_skip 8 = .ok (.ldc 166, 2) := by decide +kernel
theorem d_po_skip_10 : decode b_po_skip 10 = .ok (.invokespecial 43, 3) := by decide +kernel
theorem d_po_skip_13 : decode b_po_skip 13 = .ok (.athrow, 1) := by decide +kernel
theorem d_po_skip_14 : decode b_po_skip 14 = .ok (.aload_n 0, 1) := by decide +kernel
theorem d_po_skip_15 : decode b_po_skip 15 = .ok (.getfield 64, 3) := by decide +kernel
theorem d_po_skip_18 : decode b_po_skip 18 = .ok (.ifCond .ne 13, 3) := by decide +kernel
theorem d_po_skip_21 : decode b_po_skip 21 = .ok (.new 79, 3) := by decide +kernel
theorem d_po_skip_24 : decode b_po_skip 24 = .ok (.dup, 1) := by decide +kernel
theorem d_po_skip_25 : decode b_po_skip 25 = .ok (.ldc 160, 2) := by decide +kernel
theorem d_po_skip_27 : decode b_po_skip 27 = .ok (.invokespecial 83, 3) := by decide +kernel
theorem d_po_skip_30 : decode b_po_skip 30 = .ok (.athrow, 1) := by decide +kernel
theorem d_po_skip_31 : decode b_po_skip 31 = .ok (.aload_n 0, 1) := by decide +kernel
theorem d_po_skip_32 : decode b_po_skip 32 = .ok (.iload_n 1, 1) := by decide +kernel
theorem d_po_skip_33 : decode b_po_skip 33 = .ok (.invokevirtual 162, 3) := by decide +kernel
theorem d_po_skip_36 : decode b_po_skip 36 = .ok (.ireturn, 1) := by decide +kernel
abbrev y_po_packet : MethodName := ⟨"PacketOrder", "packet", "(I)I"⟩
abbrev b_po_packet : ByteArray := prog_1_method_11_code
theorem d_po_packet_0 : decode b_po_packet 0 = .ok (.aload_n 0, 1) := by decide +kernel
theorem d_po_packet_1 : decode b_po_packet 1 = .ok (.getfield 64, 3) := by decide +kernel
theorem d_po_packet_4 : decode b_po_packet 4 = .ok (.ifCond .eq 17, 3) := by decide +kernel
theorem d_po_packet_7 : decode b_po_packet 7 = .ok (.aload_n 0, 1) := by decide +kernel
theorem d_po_packet_8 : decode b_po_packet 8 = .ok (.aload_n 0, 1) := by decide +kernel
theorem d_po_packet_9 : decode b_po_packet 9 = .ok (.getfield 22, 3) := by decide +kernel
theorem d_po_packet_12 : decode b_po_packet 12 = .ok (.getfield 168, 3) := by decide +kernel
theorem d_po_packet_15 : decode b_po_packet 15 = .ok (.invokevirtual 171, 3) := by decide +kernel
theorem d_po_packet_18 : decode b_po_packet 18 = .ok (.goto 4, 3) := by decide +kernel
theorem d_po_packet_21 : decode b_po_packet 21 = .ok (.aconst_null, 1) := by decide +kernel
theorem d_po_packet_22 : decode b_po_packet 22 = .ok (.astore_n 2, 1) := by decide +kernel
theorem d_po_packet_23 : decode b_po_packet 23 = .ok (.aload_n 2, 1) := by decide +kernel
theorem d_po_packet_24 : decode b_po_packet 24 = .ok (.ifnonnull 13, 3) := by decide +kernel
theorem d_po_packet_27 : decode b_po_packet 27 = .ok (.new 97, 3) := by decide +kernel
theorem d_po_packet_30 : decode b_po_packet 30 = .ok (.dup, 1) := by decide +kernel
theorem d_po_packet_31 : decode b_po_packet 31 = .ok (.ldc 175, 2) := by decide +kernel
theorem d_po_packet_33 : decode b_po_packet 33 = .ok (.invokespecial 101, 3) := by decide +kernel
theorem d_po_packet_36 : decode b_po_packet 36 = .ok (.athrow, 1) := by decide +kernel
theorem d_po_packet_37 : decode b_po_packet 37 = .ok (.iload_n 1, 1) := by decide +kernel
theorem d_po_packet_38 : decode b_po_packet 38 = .ok (.tableswitch 79 0 4 #[34, 51, 56, 61, 74], 34) := by decide +kernel
theorem d_po_packet_72 : decode b_po_packet 72 = .ok (.aload_n 0, 1) := by decide +kernel
theorem d_po_packet_73 : decode b_po_packet 73 = .ok (.getfield 22, 3) := by decide +kernel
theorem d_po_packet_76 : decode b_po_packet 76 = .ok (.aload_n 0, 1) := by decide +kernel
theorem d_po_packet_77 : decode b_po_packet 77 = .ok (.getfield 22, 3) := by decide +kernel
theorem d_po_packet_80 : decode b_po_packet 80 = .ok (.getfield 168, 3) := by decide +kernel
theorem d_po_packet_83 : decode b_po_packet 83 = .ok (.invokevirtual 177, 3) := by decide +kernel
theorem d_po_packet_86 : decode b_po_packet 86 = .ok (.iconst 1, 1) := by decide +kernel
theorem d_po_packet_87 : decode b_po_packet 87 = .ok (.isub, 1) := by decide +kernel
theorem d_po_packet_88 : decode b_po_packet 88 = .ok (.ireturn, 1) := by decide +kernel
theorem d_po_packet_89 : decode b_po_packet 89 = .ok (.aload_n 2, 1) := by decide +kernel
theorem d_po_packet_90 : decode b_po_packet 90 = .ok (.getfield 180, 3) := by decide +kernel
theorem d_po_packet_93 : decode b_po_packet 93 = .ok (.ireturn, 1) := by decide +kernel
theorem d_po_packet_94 : decode b_po_packet 94 = .ok (.aload_n 2, 1) := by decide +kernel
theorem d_po_packet_95 : decode b_po_packet 95 = .ok (.getfield 183, 3) := by decide +kernel
theorem d_po_packet_98 : decode b_po_packet 98 = .ok (.ireturn, 1) := by decide +kernel
theorem d_po_packet_99 : decode b_po_packet 99 = .ok (.aload_n 0, 1) := by decide +kernel
theorem d_po_packet_100 : decode b_po_packet 100 = .ok (.getfield 22, 3) := by decide +kernel
theorem d_po_packet_103 : decode b_po_packet 103 = .ok (.getfield 168, 3) := by decide +kernel
theorem d_po_packet_106 : decode b_po_packet 106 = .ok (.aload_n 2, 1) := by decide +kernel
theorem d_po_packet_107 : decode b_po_packet 107 = .ok (.getfield 186, 3) := by decide +kernel
theorem d_po_packet_110 : decode b_po_packet 110 = .ok (.isub, 1) := by decide +kernel
theorem d_po_packet_111 : decode b_po_packet 111 = .ok (.ireturn, 1) := by decide +kernel
theorem d_po_packet_112 : decode b_po_packet 112 = .ok (.aload_n 0, 1) := by decide +kernel
theorem d_po_packet_113 : decode b_po_packet 113 = .ok (.getfield 157, 3) := by decide +kernel
theorem d_po_packet_116 : decode b_po_packet 116 = .ok (.ireturn, 1) := by decide +kernel
theorem d_po_packet_117 : decode b_po_packet 117 = .ok (.new 97, 3) := by decide +kernel
theorem d_po_packet_120 : decode b_po_packet 120 = .ok (.dup, 1) := by decide +kernel
theorem d_po_packet_121 : decode b_po_packet 121 = .ok (.ldc 189, 2) := by decide +kernel
theorem d_po_packet_123 : decode b_po_packet 123 = .ok (.invokespecial 101, 3) := by decide +kernel
theorem d_po_packet_126 : decode b_po_packet 126 = .ok (.athrow, 1) := by decide +kernel
abbrev y_po_came : MethodName := ⟨"PacketOrder", "came", "(III)I"⟩
abbrev b_po_came : ByteArray := prog_1_method_12_code
theorem d_po_came_0 : decode b_po_came 0 = .ok (.aload_n 0, 1) := by decide +kernel
theorem d_po_came_1 : decode b_po_came 1 = .ok (.getfield 64, 3) := by decide +kernel
theorem d_po_came_4 : decode b_po_came 4 = .ok (.ifCond .eq 12, 3) := by decide +kernel
theorem d_po_came_7 : decode b_po_came 7 = .ok (.aload_n 0, 1) := by decide +kernel
theorem d_po_came_8 : decode b_po_came 8 = .ok (.iload_n 1, 1) := by decide +kernel
theorem d_po_came_9 : decode b_po_came 9 = .ok (.iload_n 2, 1) := by decide +kernel
theorem d_po_came_10 : decode b_po_came 10 = .ok (.invokevirtual 93, 3) := by decide +kernel
theorem d_po_came_13 : decode b_po_came 13 = .ok (.goto 4, 3) := by decide +kernel
theorem d_po_came_16 : decode b_po_came 16 = .ok (.aconst_null, 1) := by decide +kernel
theorem d_po_came_17 : decode b_po_came 17 = .ok (.astore 4, 2) := by decide +kernel
theorem d_po_came_19 : decode b_po_came 19 = .ok (.aload 4, 2) := by decide +kernel
theorem d_po_came_21 : decode b_po_came 21 = .ok (.ifnull 16, 3) := by decide +kernel
theorem d_po_came_24 : decode b_po_came 24 = .ok (.iload_n 3, 1) := by decide +kernel
theorem d_po_came_25 : decode b_po_came 25 = .ok (.ifCond .lt 12, 3) := by decide +kernel
theorem d_po_came_28 : decode b_po_came 28 = .ok (.iload_n 3, 1) := by decide +kernel
theorem d_po_came_29 : decode b_po_came 29 = .ok (.aload 4, 2) := by decide +kernel
theorem d_po_came_31 : decode b_po_came 31 = .ok (.invokevirtual 191, 3) := by decide +kernel
theorem d_po_came_34 : decode b_po_came 34 = .ok (.if_icmp .lt 13, 3) := by decide +kernel
theorem d_po_came_37 : decode b_po_came 37 = .ok (.new 97, 3) := by decide +kernel
theorem d_po_came_40 : decode b_po_came 40 = .ok (.dup, 1) := by decide +kernel
theorem d_po_came_41 : decode b_po_came 41 = .ok (.ldc 194, 2) := by decide +kernel
theorem d_po_came_43 : decode b_po_came 43 = .ok (.invokespecial 101, 3) := by decide +kernel
theorem d_po_came_46 : decode b_po_came 46 = .ok (.athrow, 1) := by decide +kernel
theorem d_po_came_47 : decode b_po_came 47 = .ok (.aload_n 0, 1) := by decide +kernel
theorem d_po_came_48 : decode b_po_came 48 = .ok (.getfield 22, 3) := by decide +kernel
theorem d_po_came_51 : decode b_po_came 51 = .ok (.aload 4, 2) := by decide +kernel
theorem d_po_came_53 : decode b_po_came 53 = .ok (.getfield 186, 3) := by decide +kernel
theorem d_po_came_56 : decode b_po_came 56 = .ok (.iload_n 3, 1) := by decide +kernel
theorem d_po_came_57 : decode b_po_came 57 = .ok (.iadd, 1) := by decide +kernel
theorem d_po_came_58 : decode b_po_came 58 = .ok (.invokevirtual 177, 3) := by decide +kernel
theorem d_po_came_61 : decode b_po_came 61 = .ok (.ireturn, 1) := by decide +kernel
abbrev y_po_isWithin : MethodName := ⟨"PacketOrder", "isWithin", "(III)Z"⟩
abbrev b_po_isWithin : ByteArray := prog_1_method_13_code
theorem d_po_isWithin_0 : decode b_po_isWithin 0 = .ok (.iload_n 0, 1) := by decide +kernel
theorem d_po_isWithin_1 : decode b_po_isWithin 1 = .ok (.iload_n 1, 1) := by decide +kernel
theorem d_po_isWithin_2 : decode b_po_isWithin 2 = .ok (.if_icmp .lt 12, 3) := by decide +kernel
theorem d_po_isWithin_5 : decode b_po_isWithin 5 = .ok (.iload_n 0, 1) := by decide +kernel
theorem d_po_isWithin_6 : decode b_po_isWithin 6 = .ok (.iload_n 2, 1) := by decide +kernel
theorem d_po_isWithin_7 : decode b_po_isWithin 7 = .ok (.if_icmp .gt 7, 3) := by decide +kernel
theorem d_po_isWithin_10 : decode b_po_isWithin 10 = .ok (.iconst 1, 1) := by decide +kernel
theorem d_po_isWithin_11 : decode b_po_isWithin 11 = .ok (.goto 4, 3) := by decide +kernel
theorem d_po_isWithin_14 : decode b_po_isWithin 14 = .ok (.iconst 0, 1) := by decide +kernel
theorem d_po_isWithin_15 : decode b_po_isWithin 15 = .ok (.ireturn, 1) := by decide +kernel
abbrev y_po_levelOf : MethodName := ⟨"PacketOrder", "levelOf", "(II)LPacketOrder$Level;"⟩
abbrev b_po_levelOf : ByteArray := prog_1_method_14_code
theorem d_po_levelOf_0 : decode b_po_levelOf 0 = .ok (.iload_n 1, 1) := by decide +kernel
theorem d_po_levelOf_1 : decode b_po_levelOf 1 = .ok (.ifCond .lt 14, 3) := by decide +kernel
theorem d_po_levelOf_4 : decode b_po_levelOf 4 = .ok (.iload_n 1, 1) := by decide +kernel
theorem d_po_levelOf_5 : decode b_po_levelOf 5 = .ok (.aload_n 0, 1) := by decide +kernel
theorem d_po_levelOf_6 : decode b_po_levelOf 6 = .ok (.getfield 12, 3) := by decide +kernel
theorem d_po_levelOf_9 : decode b_po_levelOf 9 = .ok (.invokevirtual 75, 3) := by decide +kernel
theorem d_po_levelOf_12 : decode b_po_levelOf 12 = .ok (.if_icmp .lt 5, 3) := by decide +kernel
theorem d_po_levelOf_15 : decode b_po_levelOf 15 = .ok (.aconst_null, 1) := by decide +kernel
theorem d_po_levelOf_16 : decode b_po_levelOf 16 = .ok (.areturn, 1) := by decide +kernel
theorem d_po_levelOf_17 : decode b_po_levelOf 17 = .ok (.aload_n 0, 1) := by decide +kernel
theorem d_po_levelOf_18 : decode b_po_levelOf 18 = .ok (.getfield 12, 3) := by decide +kernel
theorem d_po_levelOf_21 : decode b_po_levelOf 21 = .ok (.iload_n 1, 1) := by decide +kernel
theorem d_po_levelOf_22 : decode b_po_levelOf 22 = .ok (.invokevirtual 196, 3) := by decide +kernel
theorem d_po_levelOf_25 : decode b_po_levelOf 25 = .ok (.checkcast 84, 3) := by decide +kernel
theorem d_po_levelOf_28 : decode b_po_levelOf 28 = .ok (.getfield 200, 3) := by decide +kernel
theorem d_po_levelOf_31 : decode b_po_levelOf 31 = .ok (.astore_n 3, 1) := by decide +kernel
theorem d_po_levelOf_32 : decode b_po_levelOf 32 = .ok (.iload_n 2, 1) := by decide +kernel
theorem d_po_levelOf_33 : decode b_po_levelOf 33 = .ok (.ifCond .lt 9, 3) := by decide +kernel
theorem d_po_levelOf_36 : decode b_po_levelOf 36 = .ok (.iload_n 2, 1) := by decide +kernel
theorem d_po_levelOf_37 : decode b_po_levelOf 37 = .ok (.aload_n 3, 1) := by decide +kernel
theorem d_po_levelOf_38 : decode b_po_levelOf 38 = .ok (.arraylength, 1) := by decide +kernel
theorem d_po_levelOf_39 : decode b_po_levelOf 39 = .ok (.if_icmp .lt 7, 3) := by decide +kernel
theorem d_po_levelOf_42 : decode b_po_levelOf 42 = .ok (.aconst_null, 1) := by decide +kernel
theorem d_po_levelOf_43 : decode b_po_levelOf 43 = .ok (.goto 6, 3) := by decide +kernel
theorem d_po_levelOf_46 : decode b_po_levelOf 46 = .ok (.aload_n 3, 1) := by decide +kernel
theorem d_po_levelOf_47 : decode b_po_levelOf 47 = .ok (.iload_n 2, 1) := by decide +kernel
theorem d_po_levelOf_48 : decode b_po_levelOf 48 = .ok (.aaload, 1) := by decide +kernel
theorem d_po_levelOf_49 : decode b_po_levelOf 49 = .ok (.areturn, 1) := by decide +kernel

abbrev y_ch_init : MethodName := ⟨"PacketOrder$Change", "<init>", "(IIIIII)V"⟩
abbrev b_ch_init : ByteArray := prog_2_method_1_code
theorem d_ch_init_0 : decode b_ch_init 0 = .ok (.aload_n 0, 1) := by decide +kernel
theorem d_ch_init_1 : decode b_ch_init 1 = .ok (.invokespecial 1, 3) := by decide +kernel
theorem d_ch_init_4 : decode b_ch_init 4 = .ok (.aload_n 0, 1) := by decide +kernel
theorem d_ch_init_5 : decode b_ch_init 5 = .ok (.iload_n 1, 1) := by decide +kernel
theorem d_ch_init_6 : decode b_ch_init 6 = .ok (.putfield 7, 3) := by decide +kernel
theorem d_ch_init_9 : decode b_ch_init 9 = .ok (.aload_n 0, 1) := by decide +kernel
theorem d_ch_init_10 : decode b_ch_init 10 = .ok (.iload_n 2, 1) := by decide +kernel
theorem d_ch_init_11 : decode b_ch_init 11 = .ok (.putfield 13, 3) := by decide +kernel
theorem d_ch_init_14 : decode b_ch_init 14 = .ok (.aload_n 0, 1) := by decide +kernel
theorem d_ch_init_15 : decode b_ch_init 15 = .ok (.iload_n 3, 1) := by decide +kernel
theorem d_ch_init_16 : decode b_ch_init 16 = .ok (.putfield 16, 3) := by decide +kernel
theorem d_ch_init_19 : decode b_ch_init 19 = .ok (.aload_n 0, 1) := by decide +kernel
theorem d_ch_init_20 : decode b_ch_init 20 = .ok (.iload 4, 2) := by decide +kernel
theorem d_ch_init_22 : decode b_ch_init 22 = .ok (.putfield 19, 3) := by decide +kernel
theorem d_ch_init_25 : decode b_ch_init 25 = .ok (.aload_n 0, 1) := by decide +kernel
theorem d_ch_init_26 : decode b_ch_init 26 = .ok (.iload 5, 2) := by decide +kernel
theorem d_ch_init_28 : decode b_ch_init 28 = .ok (.putfield 22, 3) := by decide +kernel
theorem d_ch_init_31 : decode b_ch_init 31 = .ok (.aload_n 0, 1) := by decide +kernel
theorem d_ch_init_32 : decode b_ch_init 32 = .ok (.iload 6, 2) := by decide +kernel
theorem d_ch_init_34 : decode b_ch_init 34 = .ok (.putfield 25, 3) := by decide +kernel
theorem d_ch_init_37 : decode b_ch_init 37 = .ok (.return_, 1) := by decide +kernel

abbrev y_co_init : MethodName := ⟨"PacketOrder$Component", "<init>", "(IIII)V"⟩
abbrev b_co_init : ByteArray := prog_3_method_1_code
theorem d_co_init_0 : decode b_co_init 0 = .ok (.aload_n 0, 1) := by decide +kernel
theorem d_co_init_1 : decode b_co_init 1 = .ok (.invokespecial 1, 3) := by decide +kernel
theorem d_co_init_4 : decode b_co_init 4 = .ok (.aload_n 0, 1) := by decide +kernel
theorem d_co_init_5 : decode b_co_init 5 = .ok (.iload 4, 2) := by decide +kernel
theorem d_co_init_7 : decode b_co_init 7 = .ok (.iconst 1, 1) := by decide +kernel
theorem d_co_init_8 : decode b_co_init 8 = .ok (.iadd, 1) := by decide +kernel
theorem d_co_init_9 : decode b_co_init 9 = .ok (.anewarray 7, 3) := by decide +kernel
theorem d_co_init_12 : decode b_co_init 12 = .ok (.putfield 9, 3) := by decide +kernel
theorem d_co_init_15 : decode b_co_init 15 = .ok (.iconst 0, 1) := by decide +kernel
theorem d_co_init_16 : decode b_co_init 16 = .ok (.istore 5, 2) := by decide +kernel
theorem d_co_init_18 : decode b_co_init 18 = .ok (.iload 5, 2) := by decide +kernel
theorem d_co_init_20 : decode b_co_init 20 = .ok (.iload 4, 2) := by decide +kernel
theorem d_co_init_22 : decode b_co_init 22 = .ok (.if_icmp .gt 52, 3) := by decide +kernel
theorem d_co_init_25 : decode b_co_init 25 = .ok (.aload_n 0, 1) := by decide +kernel
theorem d_co_init_26 : decode b_co_init 26 = .ok (.getfield 9, 3) := by decide +kernel
theorem d_co_init_29 : decode b_co_init 29 = .ok (.iload 5, 2) := by decide +kernel
theorem d_co_init_31 : decode b_co_init 31 = .ok (.new 7, 3) := by decide +kernel
theorem d_co_init_34 : decode b_co_init 34 = .ok (.dup, 1) := by decide +kernel
theorem d_co_init_35 : decode b_co_init 35 = .ok (.iload_n 1, 1) := by decide +kernel
theorem d_co_init_36 : decode b_co_init 36 = .ok (.iload 5, 2) := by decide +kernel
theorem d_co_init_38 : decode b_co_init 38 = .ok (.new 15, 3) := by decide +kernel
theorem d_co_init_41 : decode b_co_init 41 = .ok (.dup, 1) := by decide +kernel
theorem d_co_init_42 : decode b_co_init 42 = .ok (.iload_n 2, 1) := by decide +kernel
theorem d_co_init_43 : decode b_co_init 43 = .ok (.iload 4, 2) := by decide +kernel
theorem d_co_init_45 : decode b_co_init 45 = .ok (.iload 5, 2) := by decide +kernel
theorem d_co_init_47 : decode b_co_init 47 = .ok (.isub, 1) := by decide +kernel
theorem d_co_init_48 : decode b_co_init 48 = .ok (.invokespecial 17, 3) := by decide +kernel
theorem d_co_init_51 : decode b_co_init 51 = .ok (.new 15, 3) := by decide +kernel
theorem d_co_init_54 : decode b_co_init 54 = .ok (.dup, 1) := by decide +kernel
theorem d_co_init_55 : decode b_co_init 55 = .ok (.iload_n 3, 1) := by decide +kernel
theorem d_co_init_56 : decode b_co_init 56 = .ok (.iload 4, 2) := by decide +kernel
theorem d_co_init_58 : decode b_co_init 58 = .ok (.iload 5, 2) := by decide +kernel
theorem d_co_init_60 : decode b_co_init 60 = .ok (.isub, 1) := by decide +kernel
theorem d_co_init_61 : decode b_co_init 61 = .ok (.invokespecial 17, 3) := by decide +kernel
theorem d_co_init_64 : decode b_co_init 64 = .ok (.invokespecial 20, 3) := by decide +kernel
theorem d_co_init_67 : decode b_co_init 67 = .ok (.aastore, 1) := by decide +kernel
theorem d_co_init_68 : decode b_co_init 68 = .ok (.iinc 5 1, 3) := by decide +kernel
theorem d_co_init_71 : decode b_co_init 71 = .ok (.goto (-53), 3) := by decide +kernel
theorem d_co_init_74 : decode b_co_init 74 = .ok (.return_, 1) := by decide +kernel

abbrev y_le_init : MethodName := ⟨"PacketOrder$Level", "<init>", "(IILPacketOrder$Span;LPacketOrder$Span;)V"⟩
abbrev b_le_init : ByteArray := prog_4_method_1_code
theorem d_le_init_0 : decode b_le_init 0 = .ok (.aload_n 0, 1) := by decide +kernel
theorem d_le_init_1 : decode b_le_init 1 = .ok (.invokespecial 3, 3) := by decide +kernel
theorem d_le_init_4 : decode b_le_init 4 = .ok (.aload_n 0, 1) := by decide +kernel
theorem d_le_init_5 : decode b_le_init 5 = .ok (.iload_n 1, 1) := by decide +kernel
theorem d_le_init_6 : decode b_le_init 6 = .ok (.putfield 9, 3) := by decide +kernel
theorem d_le_init_9 : decode b_le_init 9 = .ok (.aload_n 0, 1) := by decide +kernel
theorem d_le_init_10 : decode b_le_init 10 = .ok (.iload_n 2, 1) := by decide +kernel
theorem d_le_init_11 : decode b_le_init 11 = .ok (.putfield 15, 3) := by decide +kernel
theorem d_le_init_14 : decode b_le_init 14 = .ok (.aload_n 0, 1) := by decide +kernel
theorem d_le_init_15 : decode b_le_init 15 = .ok (.aload_n 3, 1) := by decide +kernel
theorem d_le_init_16 : decode b_le_init 16 = .ok (.putfield 18, 3) := by decide +kernel
theorem d_le_init_19 : decode b_le_init 19 = .ok (.aload_n 0, 1) := by decide +kernel
theorem d_le_init_20 : decode b_le_init 20 = .ok (.aload 4, 2) := by decide +kernel
theorem d_le_init_22 : decode b_le_init 22 = .ok (.putfield 22, 3) := by decide +kernel
theorem d_le_init_25 : decode b_le_init 25 = .ok (.return_, 1) := by decide +kernel

abbrev y_sp_init : MethodName := ⟨"PacketOrder$Span", "<init>", "(II)V"⟩
abbrev b_sp_init : ByteArray := prog_6_method_1_code
theorem d_sp_init_0 : decode b_sp_init 0 = .ok (.aload_n 0, 1) := by decide +kernel
theorem d_sp_init_1 : decode b_sp_init 1 = .ok (.invokespecial 3, 3) := by decide +kernel
theorem d_sp_init_4 : decode b_sp_init 4 = .ok (.aload_n 0, 1) := by decide +kernel
theorem d_sp_init_5 : decode b_sp_init 5 = .ok (.bipush 15, 2) := by decide +kernel
theorem d_sp_init_7 : decode b_sp_init 7 = .ok (.putfield 9, 3) := by decide +kernel
theorem d_sp_init_10 : decode b_sp_init 10 = .ok (.aload_n 0, 1) := by decide +kernel
theorem d_sp_init_11 : decode b_sp_init 11 = .ok (.iload_n 1, 1) := by decide +kernel
theorem d_sp_init_12 : decode b_sp_init 12 = .ok (.iconst 1, 1) := by decide +kernel
theorem d_sp_init_13 : decode b_sp_init 13 = .ok (.invokestatic 15, 3) := by decide +kernel
theorem d_sp_init_16 : decode b_sp_init 16 = .ok (.putfield 21, 3) := by decide +kernel
theorem d_sp_init_19 : decode b_sp_init 19 = .ok (.aload_n 0, 1) := by decide +kernel
theorem d_sp_init_20 : decode b_sp_init 20 = .ok (.iload_n 2, 1) := by decide +kernel
theorem d_sp_init_21 : decode b_sp_init 21 = .ok (.putfield 24, 3) := by decide +kernel
theorem d_sp_init_24 : decode b_sp_init 24 = .ok (.return_, 1) := by decide +kernel

abbrev y_ro_init : MethodName := ⟨"PacketOrder$Row", "<init>", "()V"⟩
abbrev b_ro_init : ByteArray := prog_5_method_1_code
theorem d_ro_init_0 : decode b_ro_init 0 = .ok (.aload_n 0, 1) := by decide +kernel
theorem d_ro_init_1 : decode b_ro_init 1 = .ok (.invokespecial 3, 3) := by decide +kernel
theorem d_ro_init_4 : decode b_ro_init 4 = .ok (.aload_n 0, 1) := by decide +kernel
theorem d_ro_init_5 : decode b_ro_init 5 = .ok (.iconst 0, 1) := by decide +kernel
theorem d_ro_init_6 : decode b_ro_init 6 = .ok (.newarray .int, 2) := by decide +kernel
theorem d_ro_init_8 : decode b_ro_init 8 = .ok (.putfield 9, 3) := by decide +kernel
theorem d_ro_init_11 : decode b_ro_init 11 = .ok (.aload_n 0, 1) := by decide +kernel
theorem d_ro_init_12 : decode b_ro_init 12 = .ok (.iconst 0, 1) := by decide +kernel
theorem d_ro_init_13 : decode b_ro_init 13 = .ok (.newarray .long, 2) := by decide +kernel
theorem d_ro_init_15 : decode b_ro_init 15 = .ok (.putfield 15, 3) := by decide +kernel
theorem d_ro_init_18 : decode b_ro_init 18 = .ok (.aload_n 0, 1) := by decide +kernel
theorem d_ro_init_19 : decode b_ro_init 19 = .ok (.iconst 0, 1) := by decide +kernel
theorem d_ro_init_20 : decode b_ro_init 20 = .ok (.newarray .long, 2) := by decide +kernel
theorem d_ro_init_22 : decode b_ro_init 22 = .ok (.putfield 19, 3) := by decide +kernel
theorem d_ro_init_25 : decode b_ro_init 25 = .ok (.aload_n 0, 1) := by decide +kernel
theorem d_ro_init_26 : decode b_ro_init 26 = .ok (.iconst (-1), 1) := by decide +kernel
theorem d_ro_init_27 : decode b_ro_init 27 = .ok (.putfield 22, 3) := by decide +kernel
theorem d_ro_init_30 : decode b_ro_init 30 = .ok (.return_, 1) := by decide +kernel
