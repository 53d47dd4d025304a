/-! the reference: names and decode rows -/
abbrev y_mo_init : MethodName := ⟨"PacketOrderModel", "<init>", "()V"⟩
abbrev b_mo_init : ByteArray := prog_8_method_1_code
theorem d_mo_init_0 : decode b_mo_init 0 = .ok (.aload_n 0, 1) := by decide +kernel
theorem d_mo_init_1 : decode b_mo_init 1 = .ok (.invokespecial 1, 3) := by decide +kernel
theorem d_mo_init_4 : decode b_mo_init 4 = .ok (.aload_n 0, 1) := by decide +kernel
theorem d_mo_init_5 : decode b_mo_init 5 = .ok (.bipush 16, 2) := by decide +kernel
theorem d_mo_init_7 : decode b_mo_init 7 = .ok (.newarray .int, 2) := by decide +kernel
theorem d_mo_init_9 : decode b_mo_init 9 = .ok (.putfield 7, 3) := by decide +kernel
theorem d_mo_init_12 : decode b_mo_init 12 = .ok (.aload_n 0, 1) := by decide +kernel
theorem d_mo_init_13 : decode b_mo_init 13 = .ok (.bipush 16, 2) := by decide +kernel
theorem d_mo_init_15 : decode b_mo_init 15 = .ok (.newarray .int, 2) := by decide +kernel
theorem d_mo_init_17 : decode b_mo_init 17 = .ok (.putfield 13, 3) := by decide +kernel
theorem d_mo_init_20 : decode b_mo_init 20 = .ok (.aload_n 0, 1) := by decide +kernel
theorem d_mo_init_21 : decode b_mo_init 21 = .ok (.bipush 16, 2) := by decide +kernel
theorem d_mo_init_23 : decode b_mo_init 23 = .ok (.newarray .int, 2) := by decide +kernel
theorem d_mo_init_25 : decode b_mo_init 25 = .ok (.putfield 16, 3) := by decide +kernel
theorem d_mo_init_28 : decode b_mo_init 28 = .ok (.aload_n 0, 1) := by decide +kernel
theorem d_mo_init_29 : decode b_mo_init 29 = .ok (.sipush 528, 3) := by decide +kernel
theorem d_mo_init_32 : decode b_mo_init 32 = .ok (.newarray .int, 2) := by decide +kernel
theorem d_mo_init_34 : decode b_mo_init 34 = .ok (.putfield 19, 3) := by decide +kernel
theorem d_mo_init_37 : decode b_mo_init 37 = .ok (.aload_n 0, 1) := by decide +kernel
theorem d_mo_init_38 : decode b_mo_init 38 = .ok (.sipush 528, 3) := by decide +kernel
theorem d_mo_init_41 : decode b_mo_init 41 = .ok (.newarray .int, 2) := by decide +kernel
theorem d_mo_init_43 : decode b_mo_init 43 = .ok (.putfield 22, 3) := by decide +kernel
theorem d_mo_init_46 : decode b_mo_init 46 = .ok (.aload_n 0, 1) := by decide +kernel
theorem d_mo_init_47 : decode b_mo_init 47 = .ok (.iconst 1, 1) := by decide +kernel
theorem d_mo_init_48 : decode b_mo_init 48 = .ok (.putfield 25, 3) := by decide +kernel
theorem d_mo_init_51 : decode b_mo_init 51 = .ok (.aload_n 0, 1) := by decide +kernel
theorem d_mo_init_52 : decode b_mo_init 52 = .ok (.sipush 192, 3) := by decide +kernel
theorem d_mo_init_55 : decode b_mo_init 55 = .ok (.newarray .int, 2) := by decide +kernel
theorem d_mo_init_57 : decode b_mo_init 57 = .ok (.putfield 29, 3) := by decide +kernel
theorem d_mo_init_60 : decode b_mo_init 60 = .ok (.aload_n 0, 1) := by decide +kernel
theorem d_mo_init_61 : decode b_mo_init 61 = .ok (.sipush 4096, 3) := by decide +kernel
theorem d_mo_init_64 : decode b_mo_init 64 = .ok (.newarray .int, 2) := by decide +kernel
theorem d_mo_init_66 : decode b_mo_init 66 = .ok (.putfield 32, 3) := by decide +kernel
theorem d_mo_init_69 : decode b_mo_init 69 = .ok (.aload_n 0, 1) := by decide +kernel
theorem d_mo_init_70 : decode b_mo_init 70 = .ok (.sipush 4096, 3) := by decide +kernel
theorem d_mo_init_73 : decode b_mo_init 73 = .ok (.newarray .int, 2) := by decide +kernel
theorem d_mo_init_75 : decode b_mo_init 75 = .ok (.putfield 35, 3) := by decide +kernel
theorem d_mo_init_78 : decode b_mo_init 78 = .ok (.aload_n 0, 1) := by decide +kernel
theorem d_mo_init_79 : decode b_mo_init 79 = .ok (.sipush 4096, 3) := by decide +kernel
theorem d_mo_init_82 : decode b_mo_init 82 = .ok (.newarray .int, 2) := by decide +kernel
theorem d_mo_init_84 : decode b_mo_init 84 = .ok (.putfield 38, 3) := by decide +kernel
theorem d_mo_init_87 : decode b_mo_init 87 = .ok (.aload_n 0, 1) := by decide +kernel
theorem d_mo_init_88 : decode b_mo_init 88 = .ok (.sipush 4096, 3) := by decide +kernel
theorem d_mo_init_91 : decode b_mo_init 91 = .ok (.newarray .long, 2) := by decide +kernel
theorem d_mo_init_93 : decode b_mo_init 93 = .ok (.putfield 41, 3) := by decide +kernel
theorem d_mo_init_96 : decode b_mo_init 96 = .ok (.aload_n 0, 1) := by decide +kernel
theorem d_mo_init_97 : decode b_mo_init 97 = .ok (.sipush 4096, 3) := by decide +kernel
theorem d_mo_init_100 : decode b_mo_init 100 = .ok (.newarray .long, 2) := by decide +kernel
theorem d_mo_init_102 : decode b_mo_init 102 = .ok (.putfield 45, 3) := by decide +kernel
theorem d_mo_init_105 : decode b_mo_init 105 = .ok (.aload_n 0, 1) := by decide +kernel
theorem d_mo_init_106 : decode b_mo_init 106 = .ok (.sipush 4096, 3) := by decide +kernel
theorem d_mo_init_109 : decode b_mo_init 109 = .ok (.newarray .int, 2) := by decide +kernel
theorem d_mo_init_111 : decode b_mo_init 111 = .ok (.putfield 48, 3) := by decide +kernel
theorem d_mo_init_114 : decode b_mo_init 114 = .ok (.aload_n 0, 1) := by decide +kernel
theorem d_mo_init_115 : decode b_mo_init 115 = .ok (.sipush 4096, 3) := by decide +kernel
theorem d_mo_init_118 : decode b_mo_init 118 = .ok (.newarray .int, 2) := by decide +kernel
theorem d_mo_init_120 : decode b_mo_init 120 = .ok (.putfield 51, 3) := by decide +kernel
theorem d_mo_init_123 : decode b_mo_init 123 = .ok (.return_, 1) := by decide +kernel
abbrev y_mo_thrown : MethodName := ⟨"PacketOrderModel", "thrown", "()I"⟩
abbrev b_mo_thrown : ByteArray := prog_8_method_2_code
theorem d_mo_thrown_0 : decode b_mo_thrown 0 = .ok (.aload_n 0, 1) := by decide +kernel
theorem d_mo_thrown_1 : decode b_mo_thrown 1 = .ok (.getfield 54, 3) := by decide +kernel
theorem d_mo_thrown_4 : decode b_mo_thrown 4 = .ok (.ireturn, 1) := by decide +kernel
abbrev y_mo_refuse : MethodName := ⟨"PacketOrderModel", "refuse", "(ZZ)Z"⟩
abbrev b_mo_refuse : ByteArray := prog_8_method_3_code
theorem d_mo_refuse_0 : decode b_mo_refuse 0 = .ok (.aload_n 0, 1) := by decide +kernel
theorem d_mo_refuse_1 : decode b_mo_refuse 1 = .ok (.iload_n 1, 1) := by decide +kernel
theorem d_mo_refuse_2 : decode b_mo_refuse 2 = .ok (.ifCond .eq 7, 3) := by decide +kernel
theorem d_mo_refuse_5 : decode b_mo_refuse 5 = .ok (.iconst 1, 1) := by decide +kernel
theorem d_mo_refuse_6 : decode b_mo_refuse 6 = .ok (.goto 12, 3) := by decide +kernel
theorem d_mo_refuse_9 : decode b_mo_refuse 9 = .ok (.iload_n 2, 1) := by decide +kernel
theorem d_mo_refuse_10 : decode b_mo_refuse 10 = .ok (.ifCond .eq 7, 3) := by decide +kernel
theorem d_mo_refuse_13 : decode b_mo_refuse 13 = .ok (.iconst 2, 1) := by decide +kernel
theorem d_mo_refuse_14 : decode b_mo_refuse 14 = .ok (.goto 4, 3) := by decide +kernel
theorem d_mo_refuse_17 : decode b_mo_refuse 17 = .ok (.iconst 0, 1) := by decide +kernel
theorem d_mo_refuse_18 : decode b_mo_refuse 18 = .ok (.putfield 54, 3) := by decide +kernel
theorem d_mo_refuse_21 : decode b_mo_refuse 21 = .ok (.aload_n 0, 1) := by decide +kernel
theorem d_mo_refuse_22 : decode b_mo_refuse 22 = .ok (.getfield 54, 3) := by decide +kernel
theorem d_mo_refuse_25 : decode b_mo_refuse 25 = .ok (.ifCond .le 7, 3) := by decide +kernel
theorem d_mo_refuse_28 : decode b_mo_refuse 28 = .ok (.iconst 1, 1) := by decide +kernel
theorem d_mo_refuse_29 : decode b_mo_refuse 29 = .ok (.goto 4, 3) := by decide +kernel
theorem d_mo_refuse_32 : decode b_mo_refuse 32 = .ok (.iconst 0, 1) := by decide +kernel
theorem d_mo_refuse_33 : decode b_mo_refuse 33 = .ok (.ireturn, 1) := by decide +kernel
abbrev y_mo_tile : MethodName := ⟨"PacketOrderModel", "tile", "(IIII)V"⟩
abbrev b_mo_tile : ByteArray := prog_8_method_4_code
theorem d_mo_tile_0 : decode b_mo_tile 0 = .ok (.iload_n 1, 1) := by decide +kernel
theorem d_mo_tile_1 : decode b_mo_tile 1 = .ok (.ifCond .lt 37, 3) := by decide +kernel
theorem d_mo_tile_4 : decode b_mo_tile 4 = .ok (.iload_n 2, 1) := by decide +kernel
theorem d_mo_tile_5 : decode b_mo_tile 5 = .ok (.ifCond .lt 33, 3) := by decide +kernel
theorem d_mo_tile_8 : decode b_mo_tile 8 = .ok (.iload_n 1, 1) := by decide +kernel
theorem d_mo_tile_9 : decode b_mo_tile 9 = .ok (.iload_n 3, 1) := by decide +kernel
theorem d_mo_tile_10 : decode b_mo_tile 10 = .ok (.if_icmp .ge 28, 3) := by decide +kernel
theorem d_mo_tile_13 : decode b_mo_tile 13 = .ok (.iload_n 2, 1) := by decide +kernel
theorem d_mo_tile_14 : decode b_mo_tile 14 = .ok (.iload 4, 2) := by decide +kernel
theorem d_mo_tile_16 : decode b_mo_tile 16 = .ok (.if_icmp .ge 22, 3) := by decide +kernel
theorem d_mo_tile_19 : decode b_mo_tile 19 = .ok (.iload_n 3, 1) := by decide +kernel
theorem d_mo_tile_20 : decode b_mo_tile 20 = .ok (.sipush 32767, 3) := by decide +kernel
theorem d_mo_tile_23 : decode b_mo_tile 23 = .ok (.if_icmp .gt 15, 3) := by decide +kernel
theorem d_mo_tile_26 : decode b_mo_tile 26 = .ok (.iload 4, 2) := by decide +kernel
theorem d_mo_tile_28 : decode b_mo_tile 28 = .ok (.sipush 32767, 3) := by decide +kernel
theorem d_mo_tile_31 : decode b_mo_tile 31 = .ok (.if_icmp .gt 7, 3) := by decide +kernel
theorem d_mo_tile_34 : decode b_mo_tile 34 = .ok (.iconst 1, 1) := by decide +kernel
theorem d_mo_tile_35 : decode b_mo_tile 35 = .ok (.goto 4, 3) := by decide +kernel
theorem d_mo_tile_38 : decode b_mo_tile 38 = .ok (.iconst 0, 1) := by decide +kernel
theorem d_mo_tile_39 : decode b_mo_tile 39 = .ok (.istore 5, 2) := by decide +kernel
theorem d_mo_tile_41 : decode b_mo_tile 41 = .ok (.aload_n 0, 1) := by decide +kernel
theorem d_mo_tile_42 : decode b_mo_tile 42 = .ok (.iload 5, 2) := by decide +kernel
theorem d_mo_tile_44 : decode b_mo_tile 44 = .ok (.ifCond .ne 7, 3) := by decide +kernel
theorem d_mo_tile_47 : decode b_mo_tile 47 = .ok (.iconst 1, 1) := by decide +kernel
theorem d_mo_tile_48 : decode b_mo_tile 48 = .ok (.goto 4, 3) := by decide +kernel
theorem d_mo_tile_51 : decode b_mo_tile 51 = .ok (.iconst 0, 1) := by decide +kernel
theorem d_mo_tile_52 : decode b_mo_tile 52 = .ok (.iconst 0, 1) := by decide +kernel
theorem d_mo_tile_53 : decode b_mo_tile 53 = .ok (.invokevirtual 57, 3) := by decide +kernel
theorem d_mo_tile_56 : decode b_mo_tile 56 = .ok (.ifCond .eq 4, 3) := by decide +kernel
theorem d_mo_tile_59 : decode b_mo_tile 59 = .ok (.return_, 1) := by decide +kernel
theorem d_mo_tile_60 : decode b_mo_tile 60 = .ok (.aload_n 0, 1) := by decide +kernel
theorem d_mo_tile_61 : decode b_mo_tile 61 = .ok (.iconst 1, 1) := by decide +kernel
theorem d_mo_tile_62 : decode b_mo_tile 62 = .ok (.putfield 61, 3) := by decide +kernel
theorem d_mo_tile_65 : decode b_mo_tile 65 = .ok (.aload_n 0, 1) := by decide +kernel
theorem d_mo_tile_66 : decode b_mo_tile 66 = .ok (.iload_n 1, 1) := by decide +kernel
theorem d_mo_tile_67 : decode b_mo_tile 67 = .ok (.putfield 65, 3) := by decide +kernel
theorem d_mo_tile_70 : decode b_mo_tile 70 = .ok (.aload_n 0, 1) := by decide +kernel
theorem d_mo_tile_71 : decode b_mo_tile 71 = .ok (.iload_n 2, 1) := by decide +kernel
theorem d_mo_tile_72 : decode b_mo_tile 72 = .ok (.putfield 68, 3) := by decide +kernel
theorem d_mo_tile_75 : decode b_mo_tile 75 = .ok (.aload_n 0, 1) := by decide +kernel
theorem d_mo_tile_76 : decode b_mo_tile 76 = .ok (.iload_n 3, 1) := by decide +kernel
theorem d_mo_tile_77 : decode b_mo_tile 77 = .ok (.putfield 71, 3) := by decide +kernel
theorem d_mo_tile_80 : decode b_mo_tile 80 = .ok (.aload_n 0, 1) := by decide +kernel
theorem d_mo_tile_81 : decode b_mo_tile 81 = .ok (.iload 4, 2) := by decide +kernel
theorem d_mo_tile_83 : decode b_mo_tile 83 = .ok (.putfield 74, 3) := by decide +kernel
theorem d_mo_tile_86 : decode b_mo_tile 86 = .ok (.aload_n 0, 1) := by decide +kernel
theorem d_mo_tile_87 : decode b_mo_tile 87 = .ok (.iconst 0, 1) := by decide +kernel
theorem d_mo_tile_88 : decode b_mo_tile 88 = .ok (.putfield 77, 3) := by decide +kernel
theorem d_mo_tile_91 : decode b_mo_tile 91 = .ok (.return_, 1) := by decide +kernel
abbrev y_mo_component : MethodName := ⟨"PacketOrderModel", "component", "(III)I"⟩
abbrev b_mo_component : ByteArray := prog_8_method_5_code
theorem d_mo_component_0 : decode b_mo_component 0 = .ok (.iload_n 1, 1) := by decide +kernel
theorem d_mo_component_1 : decode b_mo_component 1 = .ok (.iconst 1, 1) := by decide +kernel
theorem d_mo_component_2 : decode b_mo_component 2 = .ok (.if_icmp .lt 36, 3) := by decide +kernel
theorem d_mo_component_5 : decode b_mo_component 5 = .ok (.iload_n 1, 1) := by decide +kernel
theorem d_mo_component_6 : decode b_mo_component 6 = .ok (.sipush 255, 3) := by decide +kernel
theorem d_mo_component_9 : decode b_mo_component 9 = .ok (.if_icmp .gt 29, 3) := by decide +kernel
theorem d_mo_component_12 : decode b_mo_component 12 = .ok (.iload_n 2, 1) := by decide +kernel
theorem d_mo_component_13 : decode b_mo_component 13 = .ok (.iconst 1, 1) := by decide +kernel
theorem d_mo_component_14 : decode b_mo_component 14 = .ok (.if_icmp .lt 24, 3) := by decide +kernel
theorem d_mo_component_17 : decode b_mo_component 17 = .ok (.iload_n 2, 1) := by decide +kernel
theorem d_mo_component_18 : decode b_mo_component 18 = .ok (.sipush 255, 3) := by decide +kernel
theorem d_mo_component_21 : decode b_mo_component 21 = .ok (.if_icmp .gt 17, 3) := by decide +kernel
theorem d_mo_component_24 : decode b_mo_component 24 = .ok (.iload_n 3, 1) := by decide +kernel
theorem d_mo_component_25 : decode b_mo_component 25 = .ok (.ifCond .lt 13, 3) := by decide +kernel
theorem d_mo_component_28 : decode b_mo_component 28 = .ok (.iload_n 3, 1) := by decide +kernel
theorem d_mo_component_29 : decode b_mo_component 29 = .ok (.bipush 32, 2) := by decide +kernel
theorem d_mo_component_31 : decode b_mo_component 31 = .ok (.if_icmp .gt 7, 3) := by decide +kernel
theorem d_mo_component_34 : decode b_mo_component 34 = .ok (.iconst 1, 1) := by decide +kernel
theorem d_mo_component_35 : decode b_mo_component 35 = .ok (.goto 4, 3) := by decide +kernel
theorem d_mo_component_38 : decode b_mo_component 38 = .ok (.iconst 0, 1) := by decide +kernel
theorem d_mo_component_39 : decode b_mo_component 39 = .ok (.istore 4, 2) := by decide +kernel
theorem d_mo_component_41 : decode b_mo_component 41 = .ok (.aload_n 0, 1) := by decide +kernel
theorem d_mo_component_42 : decode b_mo_component 42 = .ok (.iload 4, 2) := by decide +kernel
theorem d_mo_component_44 : decode b_mo_component 44 = .ok (.ifCond .ne 7, 3) := by decide +kernel
theorem d_mo_component_47 : decode b_mo_component 47 = .ok (.iconst 1, 1) := by decide +kernel
theorem d_mo_component_48 : decode b_mo_component 48 = .ok (.goto 4, 3) := by decide +kernel
theorem d_mo_component_51 : decode b_mo_component 51 = .ok (.iconst 0, 1) := by decide +kernel
theorem d_mo_component_52 : decode b_mo_component 52 = .ok (.aload_n 0, 1) := by decide +kernel
theorem d_mo_component_53 : decode b_mo_component 53 = .ok (.getfield 80, 3) := by decide +kernel
theorem d_mo_component_56 : decode b_mo_component 56 = .ok (.bipush 16, 2) := by decide +kernel
theorem d_mo_component_58 : decode b_mo_component 58 = .ok (.if_icmp .ne 7, 3) := by decide +kernel
theorem d_mo_component_61 : decode b_mo_component 61 = .ok (.iconst 1, 1) := by decide +kernel
theorem d_mo_component_62 : decode b_mo_component 62 = .ok (.goto 4, 3) := by decide +kernel
theorem d_mo_component_65 : decode b_mo_component 65 = .ok (.iconst 0, 1) := by decide +kernel
theorem d_mo_component_66 : decode b_mo_component 66 = .ok (.invokevirtual 57, 3) := by decide +kernel
theorem d_mo_component_69 : decode b_mo_component 69 = .ok (.ifCond .eq 5, 3) := by decide +kernel
theorem d_mo_component_72 : decode b_mo_component 72 = .ok (.iconst 0, 1) := by decide +kernel
theorem d_mo_component_73 : decode b_mo_component 73 = .ok (.ireturn, 1) := by decide +kernel
theorem d_mo_component_74 : decode b_mo_component 74 = .ok (.aload_n 0, 1) := by decide +kernel
theorem d_mo_component_75 : decode b_mo_component 75 = .ok (.getfield 7, 3) := by decide +kernel
theorem d_mo_component_78 : decode b_mo_component 78 = .ok (.aload_n 0, 1) := by decide +kernel
theorem d_mo_component_79 : decode b_mo_component 79 = .ok (.getfield 80, 3) := by decide +kernel
theorem d_mo_component_82 : decode b_mo_component 82 = .ok (.iload_n 1, 1) := by decide +kernel
theorem d_mo_component_83 : decode b_mo_component 83 = .ok (.iastore, 1) := by decide +kernel
theorem d_mo_component_84 : decode b_mo_component 84 = .ok (.aload_n 0, 1) := by decide +kernel
theorem d_mo_component_85 : decode b_mo_component 85 = .ok (.getfield 13, 3) := by decide +kernel
theorem d_mo_component_88 : decode b_mo_component 88 = .ok (.aload_n 0, 1) := by decide +kernel
theorem d_mo_component_89 : decode b_mo_component 89 = .ok (.getfield 80, 3) := by decide +kernel
theorem d_mo_component_92 : decode b_mo_component 92 = .ok (.iload_n 2, 1) := by decide +kernel
theorem d_mo_component_93 : decode b_mo_component 93 = .ok (.iastore, 1) := by decide +kernel
theorem d_mo_component_94 : decode b_mo_component 94 = .ok (.aload_n 0, 1) := by decide +kernel
theorem d_mo_component_95 : decode b_mo_component 95 = .ok (.getfield 16, 3) := by decide +kernel
theorem d_mo_component_98 : decode b_mo_component 98 = .ok (.aload_n 0, 1) := by decide +kernel
theorem d_mo_component_99 : decode b_mo_component 99 = .ok (.getfield 80, 3) := by decide +kernel
theorem d_mo_component_102 : decode b_mo_component 102 = .ok (.iload_n 3, 1) := by decide +kernel
theorem d_mo_component_103 : decode b_mo_component 103 = .ok (.iastore, 1) := by decide +kernel
theorem d_mo_component_104 : decode b_mo_component 104 = .ok (.iconst 0, 1) := by decide +kernel
theorem d_mo_component_105 : decode b_mo_component 105 = .ok (.istore 5, 2) := by decide +kernel
theorem d_mo_component_107 : decode b_mo_component 107 = .ok (.iload 5, 2) := by decide +kernel
theorem d_mo_component_109 : decode b_mo_component 109 = .ok (.bipush 33, 2) := by decide +kernel
theorem d_mo_component_111 : decode b_mo_component 111 = .ok (.if_icmp .ge 43, 3) := by decide +kernel
theorem d_mo_component_114 : decode b_mo_component 114 = .ok (.aload_n 0, 1) := by decide +kernel
theorem d_mo_component_115 : decode b_mo_component 115 = .ok (.getfield 19, 3) := by decide +kernel
theorem d_mo_component_118 : decode b_mo_component 118 = .ok (.bipush 33, 2) := by decide +kernel
theorem d_mo_component_120 : decode b_mo_component 120 = .ok (.aload_n 0, 1) := by decide +kernel
theorem d_mo_component_121 : decode b_mo_component 121 = .ok (.getfield 80, 3) := by decide +kernel
theorem d_mo_component_124 : decode b_mo_component 124 = .ok (.imul, 1) := by decide +kernel
theorem d_mo_component_125 : decode b_mo_component 125 = .ok (.iload 5, 2) := by decide +kernel
theorem d_mo_component_127 : decode b_mo_component 127 = .ok (.iadd, 1) := by decide +kernel
theorem d_mo_component_128 : decode b_mo_component 128 = .ok (.bipush 15, 2) := by decide +kernel
theorem d_mo_component_130 : decode b_mo_component 130 = .ok (.iastore, 1) := by decide +kernel
theorem d_mo_component_131 : decode b_mo_component 131 = .ok (.aload_n 0, 1) := by decide +kernel
theorem d_mo_component_132 : decode b_mo_component 132 = .ok (.getfield 22, 3) := by decide +kernel
theorem d_mo_component_135 : decode b_mo_component 135 = .ok (.bipush 33, 2) := by decide +kernel
theorem d_mo_component_137 : decode b_mo_component 137 = .ok (.aload_n 0, 1) := by decide +kernel
theorem d_mo_component_138 : decode b_mo_component 138 = .ok (.getfield 80, 3) := by decide +kernel
theorem d_mo_component_141 : decode b_mo_component 141 = .ok (.imul, 1) := by decide +kernel
theorem d_mo_component_142 : decode b_mo_component 142 = .ok (.iload 5, 2) := by decide +kernel
theorem d_mo_component_144 : decode b_mo_component 144 = .ok (.iadd, 1) := by decide +kernel
theorem d_mo_component_145 : decode b_mo_component 145 = .ok (.bipush 15, 2) := by decide +kernel
theorem d_mo_component_147 : decode b_mo_component 147 = .ok (.iastore, 1) := by decide +kernel
theorem d_mo_component_148 : decode b_mo_component 148 = .ok (.iinc 5 1, 3) := by decide +kernel
theorem d_mo_component_151 : decode b_mo_component 151 = .ok (.goto (-44), 3) := by decide +kernel
theorem d_mo_component_154 : decode b_mo_component 154 = .ok (.aload_n 0, 1) := by decide +kernel
theorem d_mo_component_155 : decode b_mo_component 155 = .ok (.iconst 0, 1) := by decide +kernel
theorem d_mo_component_156 : decode b_mo_component 156 = .ok (.putfield 77, 3) := by decide +kernel
theorem d_mo_component_159 : decode b_mo_component 159 = .ok (.aload_n 0, 1) := by decide +kernel
theorem d_mo_component_160 : decode b_mo_component 160 = .ok (.dup, 1) := by decide +kernel
theorem d_mo_component_161 : decode b_mo_component 161 = .ok (.getfield 80, 3) := by decide +kernel
theorem d_mo_component_164 : decode b_mo_component 164 = .ok (.iconst 1, 1) := by decide +kernel
theorem d_mo_component_165 : decode b_mo_component 165 = .ok (.iadd, 1) := by decide +kernel
theorem d_mo_component_166 : decode b_mo_component 166 = .ok (.putfield 80, 3) := by decide +kernel
theorem d_mo_component_169 : decode b_mo_component 169 = .ok (.aload_n 0, 1) := by decide +kernel
theorem d_mo_component_170 : decode b_mo_component 170 = .ok (.getfield 80, 3) := by decide +kernel
theorem d_mo_component_173 : decode b_mo_component 173 = .ok (.iconst 1, 1) := by decide +kernel
theorem d_mo_component_174 : decode b_mo_component 174 = .ok (.isub, 1) := by decide +kernel
theorem d_mo_component_175 : decode b_mo_component 175 = .ok (.ireturn, 1) := by decide +kernel
abbrev y_mo_isLevel : MethodName := ⟨"PacketOrderModel", "isLevel", "(II)Z"⟩
abbrev b_mo_isLevel : ByteArray := prog_8_method_6_code
theorem d_mo_isLevel_0 : decode b_mo_isLevel 0 = .ok (.iload_n 1, 1) := by decide +kernel
theorem d_mo_isLevel_1 : decode b_mo_isLevel 1 = .ok (.ifCond .lt 43, 3) := by decide +kernel
theorem d_mo_isLevel_4 : decode b_mo_isLevel 4 = .ok (.iload_n 1, 1) := by decide +kernel
theorem d_mo_isLevel_5 : decode b_mo_isLevel 5 = .ok (.aload_n 0, 1) := by decide +kernel
theorem d_mo_isLevel_6 : decode b_mo_isLevel 6 = .ok (.getfield 80, 3) := by decide +kernel
theorem d_mo_isLevel_9 : decode b_mo_isLevel 9 = .ok (.if_icmp .ge 35, 3) := by decide +kernel
theorem d_mo_isLevel_12 : decode b_mo_isLevel 12 = .ok (.iload_n 2, 1) := by decide +kernel
theorem d_mo_isLevel_13 : decode b_mo_isLevel 13 = .ok (.ifCond .lt 31, 3) := by decide +kernel
theorem d_mo_isLevel_16 : decode b_mo_isLevel 16 = .ok (.iload_n 2, 1) := by decide +kernel
theorem d_mo_isLevel_17 : decode b_mo_isLevel 17 = .ok (.aload_n 0, 1) := by decide +kernel
theorem d_mo_isLevel_18 : decode b_mo_isLevel 18 = .ok (.getfield 16, 3) := by decide +kernel
theorem d_mo_isLevel_21 : decode b_mo_isLevel 21 = .ok (.iload_n 1, 1) := by decide +kernel
theorem d_mo_isLevel_22 : decode b_mo_isLevel 22 = .ok (.ifCond .lt 13, 3) := by decide +kernel
theorem d_mo_isLevel_25 : decode b_mo_isLevel 25 = .ok (.iload_n 1, 1) := by decide +kernel
theorem d_mo_isLevel_26 : decode b_mo_isLevel 26 = .ok (.bipush 16, 2) := by decide +kernel
theorem d_mo_isLevel_28 : decode b_mo_isLevel 28 = .ok (.if_icmp .ge 7, 3) := by decide +kernel
theorem d_mo_isLevel_31 : decode b_mo_isLevel 31 = .ok (.iload_n 1, 1) := by decide +kernel
theorem d_mo_isLevel_32 : decode b_mo_isLevel 32 = .ok (.goto 4, 3) := by decide +kernel
theorem d_mo_isLevel_35 : decode b_mo_isLevel 35 = .ok (.iconst 0, 1) := by decide +kernel
theorem d_mo_isLevel_36 : decode b_mo_isLevel 36 = .ok (.iaload, 1) := by decide +kernel
theorem d_mo_isLevel_37 : decode b_mo_isLevel 37 = .ok (.if_icmp .gt 7, 3) := by decide +kernel
theorem d_mo_isLevel_40 : decode b_mo_isLevel 40 = .ok (.iconst 1, 1) := by decide +kernel
theorem d_mo_isLevel_41 : decode b_mo_isLevel 41 = .ok (.goto 4, 3) := by decide +kernel
theorem d_mo_isLevel_44 : decode b_mo_isLevel 44 = .ok (.iconst 0, 1) := by decide +kernel
theorem d_mo_isLevel_45 : decode b_mo_isLevel 45 = .ok (.ireturn, 1) := by decide +kernel
abbrev y_mo_precincts : MethodName := ⟨"PacketOrderModel", "precincts", "(IIII)V"⟩
abbrev b_mo_precincts : ByteArray := prog_8_method_7_code
theorem d_mo_precincts_0 : decode b_mo_precincts 0 = .ok (.iload_n 3, 1) := by decide +kernel
theorem d_mo_precincts_1 : decode b_mo_precincts 1 = .ok (.ifCond .lt 38, 3) := by decide +kernel
theorem d_mo_precincts_4 : decode b_mo_precincts 4 = .ok (.iload_n 3, 1) := by decide +kernel
theorem d_mo_precincts_5 : decode b_mo_precincts 5 = .ok (.bipush 15, 2) := by decide +kernel
theorem d_mo_precincts_7 : decode b_mo_precincts 7 = .ok (.if_icmp .gt 32, 3) := by decide +kernel
theorem d_mo_precincts_10 : decode b_mo_precincts 10 = .ok (.iload 4, 2) := by decide +kernel
theorem d_mo_precincts_12 : decode b_mo_precincts 12 = .ok (.ifCond .lt 27, 3) := by decide +kernel
theorem d_mo_precincts_15 : decode b_mo_precincts 15 = .ok (.iload 4, 2) := by decide +kernel
theorem d_mo_precincts_17 : decode b_mo_precincts 17 = .ok (.bipush 15, 2) := by decide +kernel
theorem d_mo_precincts_19 : decode b_mo_precincts 19 = .ok (.if_icmp .gt 20, 3) := by decide +kernel
theorem d_mo_precincts_22 : decode b_mo_precincts 22 = .ok (.iload_n 2, 1) := by decide +kernel
theorem d_mo_precincts_23 : decode b_mo_precincts 23 = .ok (.ifCond .eq 12, 3) := by decide +kernel
theorem d_mo_precincts_26 : decode b_mo_precincts 26 = .ok (.iload_n 3, 1) := by decide +kernel
theorem d_mo_precincts_27 : decode b_mo_precincts 27 = .ok (.ifCond .le 12, 3) := by decide +kernel
theorem d_mo_precincts_30 : decode b_mo_precincts 30 = .ok (.iload 4, 2) := by decide +kernel
theorem d_mo_precincts_32 : decode b_mo_precincts 32 = .ok (.ifCond .le 7, 3) := by decide +kernel
theorem d_mo_precincts_35 : decode b_mo_precincts 35 = .ok (.iconst 1, 1) := by decide +kernel
theorem d_mo_precincts_36 : decode b_mo_precincts 36 = .ok (.goto 4, 3) := by decide +kernel
theorem d_mo_precincts_39 : decode b_mo_precincts 39 = .ok (.iconst 0, 1) := by decide +kernel
theorem d_mo_precincts_40 : decode b_mo_precincts 40 = .ok (.istore 5, 2) := by decide +kernel
theorem d_mo_precincts_42 : decode b_mo_precincts 42 = .ok (.aload_n 0, 1) := by decide +kernel
theorem d_mo_precincts_43 : decode b_mo_precincts 43 = .ok (.aload_n 0, 1) := by decide +kernel
theorem d_mo_precincts_44 : decode b_mo_precincts 44 = .ok (.iload_n 1, 1) := by decide +kernel
theorem d_mo_precincts_45 : decode b_mo_precincts 45 = .ok (.iload_n 2, 1) := by decide +kernel
theorem d_mo_precincts_46 : decode b_mo_precincts 46 = .ok (.invokevirtual 83, 3) := by decide +kernel
theorem d_mo_precincts_49 : decode b_mo_precincts 49 = .ok (.ifCond .ne 7, 3) := by decide +kernel
theorem d_mo_precincts_52 : decode b_mo_precincts 52 = .ok (.iconst 1, 1) := by decide +kernel
theorem d_mo_precincts_53 : decode b_mo_precincts 53 = .ok (.goto 4, 3) := by decide +kernel
theorem d_mo_precincts_56 : decode b_mo_precincts 56 = .ok (.iconst 0, 1) := by decide +kernel
theorem d_mo_precincts_57 : decode b_mo_precincts 57 = .ok (.iload 5, 2) := by decide +kernel
theorem d_mo_precincts_59 : decode b_mo_precincts 59 = .ok (.ifCond .ne 7, 3) := by decide +kernel
theorem d_mo_precincts_62 : decode b_mo_precincts 62 = .ok (.iconst 1, 1) := by decide +kernel
theorem d_mo_precincts_63 : decode b_mo_precincts 63 = .ok (.goto 4, 3) := by decide +kernel
theorem d_mo_precincts_66 : decode b_mo_precincts 66 = .ok (.iconst 0, 1) := by decide +kernel
theorem d_mo_precincts_67 : decode b_mo_precincts 67 = .ok (.invokevirtual 57, 3) := by decide +kernel
theorem d_mo_precincts_70 : decode b_mo_precincts 70 = .ok (.ifCond .eq 4, 3) := by decide +kernel
theorem d_mo_precincts_73 : decode b_mo_precincts 73 = .ok (.return_, 1) := by decide +kernel
theorem d_mo_precincts_74 : decode b_mo_precincts 74 = .ok (.aload_n 0, 1) := by decide +kernel
theorem d_mo_precincts_75 : decode b_mo_precincts 75 = .ok (.getfield 19, 3) := by decide +kernel
theorem d_mo_precincts_78 : decode b_mo_precincts 78 = .ok (.bipush 33, 2) := by decide +kernel
theorem d_mo_precincts_80 : decode b_mo_precincts 80 = .ok (.iload_n 1, 1) := by decide +kernel
theorem d_mo_precincts_81 : decode b_mo_precincts 81 = .ok (.imul, 1) := by decide +kernel
theorem d_mo_precincts_82 : decode b_mo_precincts 82 = .ok (.iload_n 2, 1) := by decide +kernel
theorem d_mo_precincts_83 : decode b_mo_precincts 83 = .ok (.iadd, 1) := by decide +kernel
theorem d_mo_precincts_84 : decode b_mo_precincts 84 = .ok (.iload_n 3, 1) := by decide +kernel
theorem d_mo_precincts_85 : decode b_mo_precincts 85 = .ok (.iastore, 1) := by decide +kernel
theorem d_mo_precincts_86 : decode b_mo_precincts 86 = .ok (.aload_n 0, 1) := by decide +kernel
theorem d_mo_precincts_87 : decode b_mo_precincts 87 = .ok (.getfield 22, 3) := by decide +kernel
theorem d_mo_precincts_90 : decode b_mo_precincts 90 = .ok (.bipush 33, 2) := by decide +kernel
theorem d_mo_precincts_92 : decode b_mo_precincts 92 = .ok (.iload_n 1, 1) := by decide +kernel
theorem d_mo_precincts_93 : decode b_mo_precincts 93 = .ok (.imul, 1) := by decide +kernel
theorem d_mo_precincts_94 : decode b_mo_precincts 94 = .ok (.iload_n 2, 1) := by decide +kernel
theorem d_mo_precincts_95 : decode b_mo_precincts 95 = .ok (.iadd, 1) := by decide +kernel
theorem d_mo_precincts_96 : decode b_mo_precincts 96 = .ok (.iload 4, 2) := by decide +kernel
theorem d_mo_precincts_98 : decode b_mo_precincts 98 = .ok (.iastore, 1) := by decide +kernel
theorem d_mo_precincts_99 : decode b_mo_precincts 99 = .ok (.aload_n 0, 1) := by decide +kernel
theorem d_mo_precincts_100 : decode b_mo_precincts 100 = .ok (.iconst 0, 1) := by decide +kernel
theorem d_mo_precincts_101 : decode b_mo_precincts 101 = .ok (.putfield 77, 3) := by decide +kernel
theorem d_mo_precincts_104 : decode b_mo_precincts 104 = .ok (.return_, 1) := by decide +kernel
abbrev y_mo_layers : MethodName := ⟨"PacketOrderModel", "layers", "(II)V"⟩
abbrev b_mo_layers : ByteArray := prog_8_method_8_code
theorem d_mo_layers_0 : decode b_mo_layers 0 = .ok (.aload_n 0, 1) := by decide +kernel
theorem d_mo_layers_1 : decode b_mo_layers 1 = .ok (.iload_n 1, 1) := by decide +kernel
theorem d_mo_layers_2 : decode b_mo_layers 2 = .ok (.iconst 1, 1) := by decide +kernel
theorem d_mo_layers_3 : decode b_mo_layers 3 = .ok (.if_icmp .lt 19, 3) := by decide +kernel
theorem d_mo_layers_6 : decode b_mo_layers 6 = .ok (.iload_n 1, 1) := by decide +kernel
theorem d_mo_layers_7 : decode b_mo_layers 7 = .ok (.sipush 255, 3) := by decide +kernel
theorem d_mo_layers_10 : decode b_mo_layers 10 = .ok (.if_icmp .gt 12, 3) := by decide +kernel
theorem d_mo_layers_13 : decode b_mo_layers 13 = .ok (.iload_n 2, 1) := by decide +kernel
theorem d_mo_layers_14 : decode b_mo_layers 14 = .ok (.ifCond .lt 8, 3) := by decide +kernel
theorem d_mo_layers_17 : decode b_mo_layers 17 = .ok (.iload_n 2, 1) := by decide +kernel
theorem d_mo_layers_18 : decode b_mo_layers 18 = .ok (.iconst 4, 1) := by decide +kernel
theorem d_mo_layers_19 : decode b_mo_layers 19 = .ok (.if_icmp .le 7, 3) := by decide +kernel
theorem d_mo_layers_22 : decode b_mo_layers 22 = .ok (.iconst 1, 1) := by decide +kernel
theorem d_mo_layers_23 : decode b_mo_layers 23 = .ok (.goto 4, 3) := by decide +kernel
theorem d_mo_layers_26 : decode b_mo_layers 26 = .ok (.iconst 0, 1) := by decide +kernel
theorem d_mo_layers_27 : decode b_mo_layers 27 = .ok (.iconst 0, 1) := by decide +kernel
theorem d_mo_layers_28 : decode b_mo_layers 28 = .ok (.invokevirtual 57, 3) := by decide +kernel
theorem d_mo_layers_31 : decode b_mo_layers 31 = .ok (.ifCond .eq 4, 3) := by decide +kernel
theorem d_mo_layers_34 : decode b_mo_layers 34 = .ok (.return_, 1) := by decide +kernel
theorem d_mo_layers_35 : decode b_mo_layers 35 = .ok (.aload_n 0, 1) := by decide +kernel
theorem d_mo_layers_36 : decode b_mo_layers 36 = .ok (.iload_n 1, 1) := by decide +kernel
theorem d_mo_layers_37 : decode b_mo_layers 37 = .ok (.putfield 25, 3) := by decide +kernel
theorem d_mo_layers_40 : decode b_mo_layers 40 = .ok (.aload_n 0, 1) := by decide +kernel
theorem d_mo_layers_41 : decode b_mo_layers 41 = .ok (.iload_n 2, 1) := by decide +kernel
theorem d_mo_layers_42 : decode b_mo_layers 42 = .ok (.putfield 87, 3) := by decide +kernel
theorem d_mo_layers_45 : decode b_mo_layers 45 = .ok (.aload_n 0, 1) := by decide +kernel
theorem d_mo_layers_46 : decode b_mo_layers 46 = .ok (.iconst 0, 1) := by decide +kernel
theorem d_mo_layers_47 : decode b_mo_layers 47 = .ok (.putfield 77, 3) := by decide +kernel
theorem d_mo_layers_50 : decode b_mo_layers 50 = .ok (.return_, 1) := by decide +kernel
abbrev y_mo_change : MethodName := ⟨"PacketOrderModel", "change", "(IIIIII)I"⟩
abbrev b_mo_change : ByteArray := prog_8_method_9_code
theorem d_mo_change_0 : decode b_mo_change 0 = .ok (.iload_n 1, 1) := by decide +kernel
theorem d_mo_change_1 : decode b_mo_change 1 = .ok (.ifCond .lt 72, 3) := by decide +kernel
theorem d_mo_change_4 : decode b_mo_change 4 = .ok (.iload_n 1, 1) := by decide +kernel
theorem d_mo_change_5 : decode b_mo_change 5 = .ok (.bipush 32, 2) := by decide +kernel
theorem d_mo_change_7 : decode b_mo_change 7 = .ok (.if_icmp .gt 66, 3) := by decide +kernel
theorem d_mo_change_10 : decode b_mo_change 10 = .ok (.iload_n 2, 1) := by decide +kernel
theorem d_mo_change_11 : decode b_mo_change 11 = .ok (.iload_n 1, 1) := by decide +kernel
theorem d_mo_change_12 : decode b_mo_change 12 = .ok (.if_icmp .le 61, 3) := by decide +kernel
theorem d_mo_change_15 : decode b_mo_change 15 = .ok (.iload_n 2, 1) := by decide +kernel
theorem d_mo_change_16 : decode b_mo_change 16 = .ok (.bipush 33, 2) := by decide +kernel
theorem d_mo_change_18 : decode b_mo_change 18 = .ok (.if_icmp .gt 55, 3) := by decide +kernel
theorem d_mo_change_21 : decode b_mo_change 21 = .ok (.iload_n 3, 1) := by decide +kernel
theorem d_mo_change_22 : decode b_mo_change 22 = .ok (.ifCond .lt 51, 3) := by decide +kernel
theorem d_mo_change_25 : decode b_mo_change 25 = .ok (.iload_n 3, 1) := by decide +kernel
theorem d_mo_change_26 : decode b_mo_change 26 = .ok (.bipush 15, 2) := by decide +kernel
theorem d_mo_change_28 : decode b_mo_change 28 = .ok (.if_icmp .gt 45, 3) := by decide +kernel
theorem d_mo_change_31 : decode b_mo_change 31 = .ok (.iload 4, 2) := by decide +kernel
theorem d_mo_change_33 : decode b_mo_change 33 = .ok (.iload_n 3, 1) := by decide +kernel
theorem d_mo_change_34 : decode b_mo_change 34 = .ok (.if_icmp .le 39, 3) := by decide +kernel
theorem d_mo_change_37 : decode b_mo_change 37 = .ok (.iload 4, 2) := by decide +kernel
theorem d_mo_change_39 : decode b_mo_change 39 = .ok (.bipush 16, 2) := by decide +kernel
theorem d_mo_change_41 : decode b_mo_change 41 = .ok (.if_icmp .gt 32, 3) := by decide +kernel
theorem d_mo_change_44 : decode b_mo_change 44 = .ok (.iload 5, 2) := by decide +kernel
theorem d_mo_change_46 : decode b_mo_change 46 = .ok (.iconst 1, 1) := by decide +kernel
theorem d_mo_change_47 : decode b_mo_change 47 = .ok (.if_icmp .lt 26, 3) := by decide +kernel
theorem d_mo_change_50 : decode b_mo_change 50 = .ok (.iload 5, 2) := by decide +kernel
theorem d_mo_change_52 : decode b_mo_change 52 = .ok (.sipush 255, 3) := by decide +kernel
theorem d_mo_change_55 : decode b_mo_change 55 = .ok (.if_icmp .gt 18, 3) := by decide +kernel
theorem d_mo_change_58 : decode b_mo_change 58 = .ok (.iload 6, 2) := by decide +kernel
theorem d_mo_change_60 : decode b_mo_change 60 = .ok (.ifCond .lt 13, 3) := by decide +kernel
theorem d_mo_change_63 : decode b_mo_change 63 = .ok (.iload 6, 2) := by decide +kernel
theorem d_mo_change_65 : decode b_mo_change 65 = .ok (.iconst 4, 1) := by decide +kernel
theorem d_mo_change_66 : decode b_mo_change 66 = .ok (.if_icmp .gt 7, 3) := by decide +kernel
theorem d_mo_change_69 : decode b_mo_change 69 = .ok (.iconst 1, 1) := by decide +kernel
theorem d_mo_change_70 : decode b_mo_change 70 = .ok (.goto 4, 3) := by decide +kernel
theorem d_mo_change_73 : decode b_mo_change 73 = .ok (.iconst 0, 1) := by decide +kernel
theorem d_mo_change_74 : decode b_mo_change 74 = .ok (.istore 7, 2) := by decide +kernel
theorem d_mo_change_76 : decode b_mo_change 76 = .ok (.aload_n 0, 1) := by decide +kernel
theorem d_mo_change_77 : decode b_mo_change 77 = .ok (.iload 7, 2) := by decide +kernel
theorem d_mo_change_79 : decode b_mo_change 79 = .ok (.ifCond .ne 7, 3) := by decide +kernel
theorem d_mo_change_82 : decode b_mo_change 82 = .ok (.iconst 1, 1) := by decide +kernel
theorem d_mo_change_83 : decode b_mo_change 83 = .ok (.goto 4, 3) := by decide +kernel
theorem d_mo_change_86 : decode b_mo_change 86 = .ok (.iconst 0, 1) := by decide +kernel
theorem d_mo_change_87 : decode b_mo_change 87 = .ok (.aload_n 0, 1) := by decide +kernel
theorem d_mo_change_88 : decode b_mo_change 88 = .ok (.getfield 90, 3) := by decide +kernel
theorem d_mo_change_91 : decode b_mo_change 91 = .ok (.bipush 32, 2) := by decide +kernel
theorem d_mo_change_93 : decode b_mo_change 93 = .ok (.if_icmp .ne 7, 3) := by decide +kernel
theorem d_mo_change_96 : decode b_mo_change 96 = .ok (.iconst 1, 1) := by decide +kernel
theorem d_mo_change_97 : decode b_mo_change 97 = .ok (.goto 4, 3) := by decide +kernel
theorem d_mo_change_100 : decode b_mo_change 100 = .ok (.iconst 0, 1) := by decide +kernel
theorem d_mo_change_101 : decode b_mo_change 101 = .ok (.invokevirtual 57, 3) := by decide +kernel
theorem d_mo_change_104 : decode b_mo_change 104 = .ok (.ifCond .eq 5, 3) := by decide +kernel
theorem d_mo_change_107 : decode b_mo_change 107 = .ok (.iconst 0, 1) := by decide +kernel
theorem d_mo_change_108 : decode b_mo_change 108 = .ok (.ireturn, 1) := by decide +kernel
theorem d_mo_change_109 : decode b_mo_change 109 = .ok (.aload_n 0, 1) := by decide +kernel
theorem d_mo_change_110 : decode b_mo_change 110 = .ok (.getfield 29, 3) := by decide +kernel
theorem d_mo_change_113 : decode b_mo_change 113 = .ok (.bipush 6, 2) := by decide +kernel
theorem d_mo_change_115 : decode b_mo_change 115 = .ok (.aload_n 0, 1) := by decide +kernel
theorem d_mo_change_116 : decode b_mo_change 116 = .ok (.getfield 90, 3) := by decide +kernel
theorem d_mo_change_119 : decode b_mo_change 119 = .ok (.imul, 1) := by decide +kernel
theorem d_mo_change_120 : decode b_mo_change 120 = .ok (.iload_n 1, 1) := by decide +kernel
theorem d_mo_change_121 : decode b_mo_change 121 = .ok (.iastore, 1) := by decide +kernel
theorem d_mo_change_122 : decode b_mo_change 122 = .ok (.aload_n 0, 1) := by decide +kernel
theorem d_mo_change_123 : decode b_mo_change 123 = .ok (.getfield 29, 3) := by decide +kernel
theorem d_mo_change_126 : decode b_mo_change 126 = .ok (.bipush 6, 2) := by decide +kernel
theorem d_mo_change_128 : decode b_mo_change 128 = .ok (.aload_n 0, 1) := by decide +kernel
theorem d_mo_change_129 : decode b_mo_change 129 = .ok (.getfield 90, 3) := by decide +kernel
theorem d_mo_change_132 : decode b_mo_change 132 = .ok (.imul, 1) := by decide +kernel
theorem d_mo_change_133 : decode b_mo_change 133 = .ok (.iconst 1, 1) := by decide +kernel
theorem d_mo_change_134 : decode b_mo_change 134 = .ok (.iadd, 1) := by decide +kernel
theorem d_mo_change_135 : decode b_mo_change 135 = .ok (.iload_n 2, 1) := by decide +kernel
theorem d_mo_change_136 : decode b_mo_change 136 = .ok (.iastore, 1) := by decide +kernel
theorem d_mo_change_137 : decode b_mo_change 137 = .ok (.aload_n 0, 1) := by decide +kernel
theorem d_mo_change_138 : decode b_mo_change 138 = .ok (.getfield 29, 3) := by decide +kernel
theorem d_mo_change_141 : decode b_mo_change 141 = .ok (.bipush 6, 2) := by decide +kernel
theorem d_mo_change_143 : decode b_mo_change 143 = .ok (.aload_n 0, 1) := by decide +kernel
theorem d_mo_change_144 : decode b_mo_change 144 = .ok (.getfield 90, 3) := by decide +kernel
theorem d_mo_change_147 : decode b_mo_change 147 = .ok (.imul, 1) := by decide +kernel
theorem d_mo_change_148 : decode b_mo_change 148 = .ok (.iconst 2, 1) := by decide +kernel
theorem d_mo_change_149 : decode b_mo_change 149 = .ok (.iadd, 1) := by decide +kernel
theorem d_mo_change_150 : decode b_mo_change 150 = .ok (.iload_n 3, 1) := by decide +kernel
theorem d_mo_change_151 : decode b_mo_change 151 = .ok (.iastore, 1) := by decide +kernel
theorem d_mo_change_152 : decode b_mo_change 152 = .ok (.aload_n 0, 1) := by decide +kernel
theorem d_mo_change_153 : decode b_mo_change 153 = .ok (.getfield 29, 3) := by decide +kernel
theorem d_mo_change_156 : decode b_mo_change 156 = .ok (.bipush 6, 2) := by decide +kernel
theorem d_mo_change_158 : decode b_mo_change 158 = .ok (.aload_n 0, 1) := by decide +kernel
theorem d_mo_change_159 : decode b_mo_change 159 = .ok (.getfield 90, 3) := by decide +kernel
theorem d_mo_change_162 : decode b_mo_change 162 = .ok (.imul, 1) := by decide +kernel
theorem d_mo_change_163 : decode b_mo_change 163 = .ok (.iconst 3, 1) := by decide +kernel
theorem d_mo_change_164 : decode b_mo_change 164 = .ok (.iadd, 1) := by decide +kernel
theorem d_mo_change_165 : decode b_mo_change 165 = .ok (.iload 4, 2) := by decide +kernel
theorem d_mo_change_167 : decode b_mo_change 167 = .ok (.iastore, 1) := by decide +kernel
theorem d_mo_change_168 : decode b_mo_change 168 = .ok (.aload_n 0, 1) := by decide +kernel
theorem d_mo_change_169 : decode b_mo_change 169 = .ok (.getfield 29, 3) := by decide +kernel
theorem d_mo_change_172 : decode b_mo_change 172 = .ok (.bipush 6, 2) := by decide +kernel
theorem d_mo_change_174 : decode b_mo_change 174 = .ok (.aload_n 0, 1) := by decide +kernel
theorem d_mo_change_175 : decode b_mo_change 175 = .ok (.getfield 90, 3) := by decide +kernel
theorem d_mo_change_178 : decode b_mo_change 178 = .ok (.imul, 1) := by decide +kernel
theorem d_mo_change_179 : decode b_mo_change 179 = .ok (.iconst 4, 1) := by decide +kernel
theorem d_mo_change_180 : decode b_mo_change 180 = .ok (.iadd, 1) := by decide +kernel
theorem d_mo_change_181 : decode b_mo_change 181 = .ok (.iload 5, 2) := by decide +kernel
theorem d_mo_change_183 : decode b_mo_change 183 = .ok (.iastore, 1) := by decide +kernel
theorem d_mo_change_184 : decode b_mo_change 184 = .ok (.aload_n 0, 1) := by decide +kernel
theorem d_mo_change_185 : decode b_mo_change 185 = .ok (.getfield 29, 3) := by decide +kernel
theorem d_mo_change_188 : decode b_mo_change 188 = .ok (.bipush 6, 2) := by decide +kernel
theorem d_mo_change_190 : decode b_mo_change 190 = .ok (.aload_n 0, 1) := by decide +kernel
theorem d_mo_change_191 : decode b_mo_change 191 = .ok (.getfield 90, 3) := by decide +kernel
theorem d_mo_change_194 : decode b_mo_change 194 = .ok (.imul, 1) := by decide +kernel
theorem d_mo_change_195 : decode b_mo_change 195 = .ok (.iconst 5, 1) := by decide +kernel
theorem d_mo_change_196 : decode b_mo_change 196 = .ok (.iadd, 1) := by decide +kernel
theorem d_mo_change_197 : decode b_mo_change 197 = .ok (.iload 6, 2) := by decide +kernel
theorem d_mo_change_199 : decode b_mo_change 199 = .ok (.iastore, 1) := by decide +kernel
theorem d_mo_change_200 : decode b_mo_change 200 = .ok (.aload_n 0, 1) := by decide +kernel
theorem d_mo_change_201 : decode b_mo_change 201 = .ok (.iconst 0, 1) := by decide +kernel
theorem d_mo_change_202 : decode b_mo_change 202 = .ok (.putfield 77, 3) := by decide +kernel
theorem d_mo_change_205 : decode b_mo_change 205 = .ok (.aload_n 0, 1) := by decide +kernel
theorem d_mo_change_206 : decode b_mo_change 206 = .ok (.dup, 1) := by decide +kernel
theorem d_mo_change_207 : decode b_mo_change 207 = .ok (.getfield 90, 3) := by decide +kernel
theorem d_mo_change_210 : decode b_mo_change 210 = .ok (.iconst 1, 1) := by decide +kernel
theorem d_mo_change_211 : decode b_mo_change 211 = .ok (.iadd, 1) := by decide +kernel
theorem d_mo_change_212 : decode b_mo_change 212 = .ok (.putfield 90, 3) := by decide +kernel
theorem d_mo_change_215 : decode b_mo_change 215 = .ok (.aload_n 0, 1) := by decide +kernel
theorem d_mo_change_216 : decode b_mo_change 216 = .ok (.getfield 90, 3) := by decide +kernel
theorem d_mo_change_219 : decode b_mo_change 219 = .ok (.ireturn, 1) := by decide +kernel
abbrev y_mo_clear : MethodName := ⟨"PacketOrderModel", "clear", "()V"⟩
abbrev b_mo_clear : ByteArray := prog_8_method_10_code
theorem d_mo_clear_0 : decode b_mo_clear 0 = .ok (.aload_n 0, 1) := by decide +kernel
theorem d_mo_clear_1 : decode b_mo_clear 1 = .ok (.iconst 0, 1) := by decide +kernel
theorem d_mo_clear_2 : decode b_mo_clear 2 = .ok (.putfield 54, 3) := by decide +kernel
theorem d_mo_clear_5 : decode b_mo_clear 5 = .ok (.aload_n 0, 1) := by decide +kernel
theorem d_mo_clear_6 : decode b_mo_clear 6 = .ok (.iconst 0, 1) := by decide +kernel
theorem d_mo_clear_7 : decode b_mo_clear 7 = .ok (.putfield 90, 3) := by decide +kernel
theorem d_mo_clear_10 : decode b_mo_clear 10 = .ok (.aload_n 0, 1) := by decide +kernel
theorem d_mo_clear_11 : decode b_mo_clear 11 = .ok (.iconst 0, 1) := by decide +kernel
theorem d_mo_clear_12 : decode b_mo_clear 12 = .ok (.putfield 77, 3) := by decide +kernel
theorem d_mo_clear_15 : decode b_mo_clear 15 = .ok (.return_, 1) := by decide +kernel
abbrev y_mo_up : MethodName := ⟨"PacketOrderModel", "up", "(II)I"⟩
abbrev b_mo_up : ByteArray := prog_8_method_11_code
theorem d_mo_up_0 : decode b_mo_up 0 = .ok (.iload_n 0, 1) := by decide +kernel
theorem d_mo_up_1 : decode b_mo_up 1 = .ok (.iload_n 1, 1) := by decide +kernel
theorem d_mo_up_2 : decode b_mo_up 2 = .ok (.iadd, 1) := by decide +kernel
theorem d_mo_up_3 : decode b_mo_up 3 = .ok (.iconst 1, 1) := by decide +kernel
theorem d_mo_up_4 : decode b_mo_up 4 = .ok (.isub, 1) := by decide +kernel
theorem d_mo_up_5 : decode b_mo_up 5 = .ok (.iload_n 1, 1) := by decide +kernel
theorem d_mo_up_6 : decode b_mo_up 6 = .ok (.idiv, 1) := by decide +kernel
theorem d_mo_up_7 : decode b_mo_up 7 = .ok (.ireturn, 1) := by decide +kernel
abbrev y_mo_findLevel : MethodName := ⟨"PacketOrderModel", "findLevel", "(II)V"⟩
abbrev b_mo_findLevel : ByteArray := prog_8_method_12_code
theorem d_mo_findLevel_0 : decode b_mo_findLevel 0 = .ok (.aload_n 0, 1) := by decide +kernel
theorem d_mo_findLevel_1 : decode b_mo_findLevel 1 = .ok (.aload_n 0, 1) := by decide +kernel
theorem d_mo_findLevel_2 : decode b_mo_findLevel 2 = .ok (.getfield 65, 3) := by decide +kernel
theorem d_mo_findLevel_5 : decode b_mo_findLevel 5 = .ok (.aload_n 0, 1) := by decide +kernel
theorem d_mo_findLevel_6 : decode b_mo_findLevel 6 = .ok (.getfield 7, 3) := by decide +kernel
theorem d_mo_findLevel_9 : decode b_mo_findLevel 9 = .ok (.iload_n 1, 1) := by decide +kernel
theorem d_mo_findLevel_10 : decode b_mo_findLevel 10 = .ok (.iaload, 1) := by decide +kernel
theorem d_mo_findLevel_11 : decode b_mo_findLevel 11 = .ok (.invokestatic 93, 3) := by decide +kernel
theorem d_mo_findLevel_14 : decode b_mo_findLevel 14 = .ok (.putfield 97, 3) := by decide +kernel
theorem d_mo_findLevel_17 : decode b_mo_findLevel 17 = .ok (.aload_n 0, 1) := by decide +kernel
theorem d_mo_findLevel_18 : decode b_mo_findLevel 18 = .ok (.aload_n 0, 1) := by decide +kernel
theorem d_mo_findLevel_19 : decode b_mo_findLevel 19 = .ok (.getfield 68, 3) := by decide +kernel
theorem d_mo_findLevel_22 : decode b_mo_findLevel 22 = .ok (.aload_n 0, 1) := by decide +kernel
theorem d_mo_findLevel_23 : decode b_mo_findLevel 23 = .ok (.getfield 13, 3) := by decide +kernel
theorem d_mo_findLevel_26 : decode b_mo_findLevel 26 = .ok (.iload_n 1, 1) := by decide +kernel
theorem d_mo_findLevel_27 : decode b_mo_findLevel 27 = .ok (.iaload, 1) := by decide +kernel
theorem d_mo_findLevel_28 : decode b_mo_findLevel 28 = .ok (.invokestatic 93, 3) := by decide +kernel
theorem d_mo_findLevel_31 : decode b_mo_findLevel 31 = .ok (.putfield 100, 3) := by decide +kernel
theorem d_mo_findLevel_34 : decode b_mo_findLevel 34 = .ok (.aload_n 0, 1) := by decide +kernel
theorem d_mo_findLevel_35 : decode b_mo_findLevel 35 = .ok (.aload_n 0, 1) := by decide +kernel
theorem d_mo_findLevel_36 : decode b_mo_findLevel 36 = .ok (.getfield 71, 3) := by decide +kernel
theorem d_mo_findLevel_39 : decode b_mo_findLevel 39 = .ok (.aload_n 0, 1) := by decide +kernel
theorem d_mo_findLevel_40 : decode b_mo_findLevel 40 = .ok (.getfield 7, 3) := by decide +kernel
theorem d_mo_findLevel_43 : decode b_mo_findLevel 43 = .ok (.iload_n 1, 1) := by decide +kernel
theorem d_mo_findLevel_44 : decode b_mo_findLevel 44 = .ok (.iaload, 1) := by decide +kernel
theorem d_mo_findLevel_45 : decode b_mo_findLevel 45 = .ok (.invokestatic 93, 3) := by decide +kernel
theorem d_mo_findLevel_48 : decode b_mo_findLevel 48 = .ok (.putfield 103, 3) := by decide +kernel
theorem d_mo_findLevel_51 : decode b_mo_findLevel 51 = .ok (.aload_n 0, 1) := by decide +kernel
theorem d_mo_findLevel_52 : decode b_mo_findLevel 52 = .ok (.aload_n 0, 1) := by decide +kernel
theorem d_mo_findLevel_53 : decode b_mo_findLevel 53 = .ok (.getfield 74, 3) := by decide +kernel
theorem d_mo_findLevel_56 : decode b_mo_findLevel 56 = .ok (.aload_n 0, 1) := by decide +kernel
theorem d_mo_findLevel_57 : decode b_mo_findLevel 57 = .ok (.getfield 13, 3) := by decide +kernel
theorem d_mo_findLevel_60 : decode b_mo_findLevel 60 = .ok (.iload_n 1, 1) := by decide +kernel
theorem d_mo_findLevel_61 : decode b_mo_findLevel 61 = .ok (.iaload, 1) := by decide +kernel
theorem d_mo_findLevel_62 : decode b_mo_findLevel 62 = .ok (.invokestatic 93, 3) := by decide +kernel
theorem d_mo_findLevel_65 : decode b_mo_findLevel 65 = .ok (.putfield 106, 3) := by decide +kernel
theorem d_mo_findLevel_68 : decode b_mo_findLevel 68 = .ok (.iload_n 2, 1) := by decide +kernel
theorem d_mo_findLevel_69 : decode b_mo_findLevel 69 = .ok (.istore_n 3, 1) := by decide +kernel
theorem d_mo_findLevel_70 : decode b_mo_findLevel 70 = .ok (.iload_n 3, 1) := by decide +kernel
theorem d_mo_findLevel_71 : decode b_mo_findLevel 71 = .ok (.aload_n 0, 1) := by decide +kernel
theorem d_mo_findLevel_72 : decode b_mo_findLevel 72 = .ok (.getfield 16, 3) := by decide +kernel
theorem d_mo_findLevel_75 : decode b_mo_findLevel 75 = .ok (.iload_n 1, 1) := by decide +kernel
theorem d_mo_findLevel_76 : decode b_mo_findLevel 76 = .ok (.iaload, 1) := by decide +kernel
theorem d_mo_findLevel_77 : decode b_mo_findLevel 77 = .ok (.if_icmp .ge 57, 3) := by decide +kernel
theorem d_mo_findLevel_80 : decode b_mo_findLevel 80 = .ok (.aload_n 0, 1) := by decide +kernel
theorem d_mo_findLevel_81 : decode b_mo_findLevel 81 = .ok (.aload_n 0, 1) := by decide +kernel
theorem d_mo_findLevel_82 : decode b_mo_findLevel 82 = .ok (.getfield 97, 3) := by decide +kernel
theorem d_mo_findLevel_85 : decode b_mo_findLevel 85 = .ok (.iconst 1, 1) := by decide +kernel
theorem d_mo_findLevel_86 : decode b_mo_findLevel 86 = .ok (.iadd, 1) := by decide +kernel
theorem d_mo_findLevel_87 : decode b_mo_findLevel 87 = .ok (.iconst 1, 1) := by decide +kernel
theorem d_mo_findLevel_88 : decode b_mo_findLevel 88 = .ok (.ishr, 1) := by decide +kernel
theorem d_mo_findLevel_89 : decode b_mo_findLevel 89 = .ok (.putfield 97, 3) := by decide +kernel
theorem d_mo_findLevel_92 : decode b_mo_findLevel 92 = .ok (.aload_n 0, 1) := by decide +kernel
theorem d_mo_findLevel_93 : decode b_mo_findLevel 93 = .ok (.aload_n 0, 1) := by decide +kernel
theorem d_mo_findLevel_94 : decode b_mo_findLevel 94 = .ok (.getfield 100, 3) := by decide +kernel
theorem d_mo_findLevel_97 : decode b_mo_findLevel 97 = .ok (.iconst 1, 1) := by decide +kernel
theorem d_mo_findLevel_98 : decode b_mo_findLevel 98 = .ok (.iadd, 1) := by decide +kernel
theorem d_mo_findLevel_99 : decode b_mo_findLevel 99 = .ok (.iconst 1, 1) := by decide +kernel
theorem d_mo_findLevel_100 : decode b_mo_findLevel 100 = .ok (.ishr, 1) := by decide +kernel
theorem d_mo_findLevel_101 : decode b_mo_findLevel 101 = .ok (.putfield 100, 3) := by decide +kernel
theorem d_mo_findLevel_104 : decode b_mo_findLevel 104 = .ok (.aload_n 0, 1) := by decide +kernel
theorem d_mo_findLevel_105 : decode b_mo_findLevel 105 = .ok (.aload_n 0, 1) := by decide +kernel
theorem d_mo_findLevel_106 : decode b_mo_findLevel 106 = .ok (.getfield 103, 3) := by decide +kernel
theorem d_mo_findLevel_109 : decode b_mo_findLevel 109 = .ok (.iconst 1, 1) := by decide +kernel
theorem d_mo_findLevel_110 : decode b_mo_findLevel 110 = .ok (.iadd, 1) := by decide +kernel
theorem d_mo_findLevel_111 : decode b_mo_findLevel 111 = .ok (.iconst 1, 1) := by decide +kernel
theorem d_mo_findLevel_112 : decode b_mo_findLevel 112 = .ok (.ishr, 1) := by decide +kernel
theorem d_mo_findLevel_113 : decode b_mo_findLevel 113 = .ok (.putfield 103, 3) := by decide +kernel
theorem d_mo_findLevel_116 : decode b_mo_findLevel 116 = .ok (.aload_n 0, 1) := by decide +kernel
theorem d_mo_findLevel_117 : decode b_mo_findLevel 117 = .ok (.aload_n 0, 1) := by decide +kernel
theorem d_mo_findLevel_118 : decode b_mo_findLevel 118 = .ok (.getfield 106, 3) := by decide +kernel
theorem d_mo_findLevel_121 : decode b_mo_findLevel 121 = .ok (.iconst 1, 1) := by decide +kernel
theorem d_mo_findLevel_122 : decode b_mo_findLevel 122 = .ok (.iadd, 1) := by decide +kernel
theorem d_mo_findLevel_123 : decode b_mo_findLevel 123 = .ok (.iconst 1, 1) := by decide +kernel
theorem d_mo_findLevel_124 : decode b_mo_findLevel 124 = .ok (.ishr, 1) := by decide +kernel
theorem d_mo_findLevel_125 : decode b_mo_findLevel 125 = .ok (.putfield 106, 3) := by decide +kernel
theorem d_mo_findLevel_128 : decode b_mo_findLevel 128 = .ok (.iinc 3 1, 3) := by decide +kernel
theorem d_mo_findLevel_131 : decode b_mo_findLevel 131 = .ok (.goto (-61), 3) := by decide +kernel
theorem d_mo_findLevel_134 : decode b_mo_findLevel 134 = .ok (.return_, 1) := by decide +kernel
abbrev y_mo_columns : MethodName := ⟨"PacketOrderModel", "columns", "(II)I"⟩
abbrev b_mo_columns : ByteArray := prog_8_method_13_code
theorem d_mo_columns_0 : decode b_mo_columns 0 = .ok (.aload_n 0, 1) := by decide +kernel
theorem d_mo_columns_1 : decode b_mo_columns 1 = .ok (.getfield 97, 3) := by decide +kernel
theorem d_mo_columns_4 : decode b_mo_columns 4 = .ok (.aload_n 0, 1) := by decide +kernel
theorem d_mo_columns_5 : decode b_mo_columns 5 = .ok (.getfield 103, 3) := by decide +kernel
theorem d_mo_columns_8 : decode b_mo_columns 8 = .ok (.if_icmp .ge 14, 3) := by decide +kernel
theorem d_mo_columns_11 : decode b_mo_columns 11 = .ok (.aload_n 0, 1) := by decide +kernel
theorem d_mo_columns_12 : decode b_mo_columns 12 = .ok (.getfield 100, 3) := by decide +kernel
theorem d_mo_columns_15 : decode b_mo_columns 15 = .ok (.aload_n 0, 1) := by decide +kernel
theorem d_mo_columns_16 : decode b_mo_columns 16 = .ok (.getfield 106, 3) := by decide +kernel
theorem d_mo_columns_19 : decode b_mo_columns 19 = .ok (.if_icmp .lt 7, 3) := by decide +kernel
theorem d_mo_columns_22 : decode b_mo_columns 22 = .ok (.iconst 1, 1) := by decide +kernel
theorem d_mo_columns_23 : decode b_mo_columns 23 = .ok (.goto 4, 3) := by decide +kernel
theorem d_mo_columns_26 : decode b_mo_columns 26 = .ok (.iconst 0, 1) := by decide +kernel
theorem d_mo_columns_27 : decode b_mo_columns 27 = .ok (.istore_n 3, 1) := by decide +kernel
theorem d_mo_columns_28 : decode b_mo_columns 28 = .ok (.iload_n 3, 1) := by decide +kernel
theorem d_mo_columns_29 : decode b_mo_columns 29 = .ok (.ifCond .eq 7, 3) := by decide +kernel
theorem d_mo_columns_32 : decode b_mo_columns 32 = .ok (.iconst 0, 1) := by decide +kernel
theorem d_mo_columns_33 : decode b_mo_columns 33 = .ok (.goto 40, 3) := by decide +kernel
theorem d_mo_columns_36 : decode b_mo_columns 36 = .ok (.aload_n 0, 1) := by decide +kernel
theorem d_mo_columns_37 : decode b_mo_columns 37 = .ok (.getfield 103, 3) := by decide +kernel
theorem d_mo_columns_40 : decode b_mo_columns 40 = .ok (.iconst 1, 1) := by decide +kernel
theorem d_mo_columns_41 : decode b_mo_columns 41 = .ok (.isub, 1) := by decide +kernel
theorem d_mo_columns_42 : decode b_mo_columns 42 = .ok (.aload_n 0, 1) := by decide +kernel
theorem d_mo_columns_43 : decode b_mo_columns 43 = .ok (.getfield 19, 3) := by decide +kernel
theorem d_mo_columns_46 : decode b_mo_columns 46 = .ok (.bipush 33, 2) := by decide +kernel
theorem d_mo_columns_48 : decode b_mo_columns 48 = .ok (.iload_n 1, 1) := by decide +kernel
theorem d_mo_columns_49 : decode b_mo_columns 49 = .ok (.imul, 1) := by decide +kernel
theorem d_mo_columns_50 : decode b_mo_columns 50 = .ok (.iload_n 2, 1) := by decide +kernel
theorem d_mo_columns_51 : decode b_mo_columns 51 = .ok (.iadd, 1) := by decide +kernel
theorem d_mo_columns_52 : decode b_mo_columns 52 = .ok (.iaload, 1) := by decide +kernel
theorem d_mo_columns_53 : decode b_mo_columns 53 = .ok (.ishr, 1) := by decide +kernel
theorem d_mo_columns_54 : decode b_mo_columns 54 = .ok (.aload_n 0, 1) := by decide +kernel
theorem d_mo_columns_55 : decode b_mo_columns 55 = .ok (.getfield 97, 3) := by decide +kernel
theorem d_mo_columns_58 : decode b_mo_columns 58 = .ok (.aload_n 0, 1) := by decide +kernel
theorem d_mo_columns_59 : decode b_mo_columns 59 = .ok (.getfield 19, 3) := by decide +kernel
theorem d_mo_columns_62 : decode b_mo_columns 62 = .ok (.bipush 33, 2) := by decide +kernel
theorem d_mo_columns_64 : decode b_mo_columns 64 = .ok (.iload_n 1, 1) := by decide +kernel
theorem d_mo_columns_65 : decode b_mo_columns 65 = .ok (.imul, 1) := by decide +kernel
theorem d_mo_columns_66 : decode b_mo_columns 66 = .ok (.iload_n 2, 1) := by decide +kernel
theorem d_mo_columns_67 : decode b_mo_columns 67 = .ok (.iadd, 1) := by decide +kernel
theorem d_mo_columns_68 : decode b_mo_columns 68 = .ok (.iaload, 1) := by decide +kernel
theorem d_mo_columns_69 : decode b_mo_columns 69 = .ok (.ishr, 1) := by decide +kernel
theorem d_mo_columns_70 : decode b_mo_columns 70 = .ok (.isub, 1) := by decide +kernel
theorem d_mo_columns_71 : decode b_mo_columns 71 = .ok (.iconst 1, 1) := by decide +kernel
theorem d_mo_columns_72 : decode b_mo_columns 72 = .ok (.iadd, 1) := by decide +kernel
theorem d_mo_columns_73 : decode b_mo_columns 73 = .ok (.ireturn, 1) := by decide +kernel
