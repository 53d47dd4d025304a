/-! the reference: names and decode rows -/
abbrev y_mo_rows : MethodName := ⟨"PacketOrderModel", "rows", "(II)I"⟩
abbrev b_mo_rows : ByteArray := prog_8_method_14_code
theorem d_mo_rows_0 : decode b_mo_rows 0 = .ok (.aload_n 0, 1) := by decide +kernel
theorem d_mo_rows_1 : decode b_mo_rows 1 = .ok (.getfield 97, 3) := by decide +kernel
theorem d_mo_rows_4 : decode b_mo_rows 4 = .ok (.aload_n 0, 1) := by decide +kernel
theorem d_mo_rows_5 : decode b_mo_rows 5 = .ok (.getfield 103, 3) := by decide +kernel
theorem d_mo_rows_8 : decode b_mo_rows 8 = .ok (.if_icmp .ge 14, 3) := by decide +kernel
theorem d_mo_rows_11 : decode b_mo_rows 11 = .ok (.aload_n 0, 1) := by decide +kernel
theorem d_mo_rows_12 : decode b_mo_rows 12 = .ok (.getfield 100, 3) := by decide +kernel
theorem d_mo_rows_15 : decode b_mo_rows 15 = .ok (.aload_n 0, 1) := by decide +kernel
theorem d_mo_rows_16 : decode b_mo_rows 16 = .ok (.getfield 106, 3) := by decide +kernel
theorem d_mo_rows_19 : decode b_mo_rows 19 = .ok (.if_icmp .lt 7, 3) := by decide +kernel
theorem d_mo_rows_22 : decode b_mo_rows 22 = .ok (.iconst 1, 1) := by decide +kernel
theorem d_mo_rows_23 : decode b_mo_rows 23 = .ok (.goto 4, 3) := by decide +kernel
theorem d_mo_rows_26 : decode b_mo_rows 26 = .ok (.iconst 0, 1) := by decide +kernel
theorem d_mo_rows_27 : decode b_mo_rows 27 = .ok (.istore_n 3, 1) := by decide +kernel
theorem d_mo_rows_28 : decode b_mo_rows 28 = .ok (.iload_n 3, 1) := by decide +kernel
theorem d_mo_rows_29 : decode b_mo_rows 29 = .ok (.ifCond .eq 7, 3) := by decide +kernel
theorem d_mo_rows_32 : decode b_mo_rows 32 = .ok (.iconst 0, 1) := by decide +kernel
theorem d_mo_rows_33 : decode b_mo_rows 33 = .ok (.goto 40, 3) := by decide +kernel
theorem d_mo_rows_36 : decode b_mo_rows 36 = .ok (.aload_n 0, 1) := by decide +kernel
theorem d_mo_rows_37 : decode b_mo_rows 37 = .ok (.getfield 106, 3) := by decide +kernel
theorem d_mo_rows_40 : decode b_mo_rows 40 = .ok (.iconst 1, 1) := by decide +kernel
theorem d_mo_rows_41 : decode b_mo_rows 41 = .ok (.isub, 1) := by decide +kernel
theorem d_mo_rows_42 : decode b_mo_rows 42 = .ok (.aload_n 0, 1) := by decide +kernel
theorem d_mo_rows_43 : decode b_mo_rows 43 = .ok (.getfield 22, 3) := by decide +kernel
theorem d_mo_rows_46 : decode b_mo_rows 46 = .ok (.bipush 33, 2) := by decide +kernel
theorem d_mo_rows_48 : decode b_mo_rows 48 = .ok (.iload_n 1, 1) := by decide +kernel
theorem d_mo_rows_49 : decode b_mo_rows 49 = .ok (.imul, 1) := by decide +kernel
theorem d_mo_rows_50 : decode b_mo_rows 50 = .ok (.iload_n 2, 1) := by decide +kernel
theorem d_mo_rows_51 : decode b_mo_rows 51 = .ok (.iadd, 1) := by decide +kernel
theorem d_mo_rows_52 : decode b_mo_rows 52 = .ok (.iaload, 1) := by decide +kernel
theorem d_mo_rows_53 : decode b_mo_rows 53 = .ok (.ishr, 1) := by decide +kernel
theorem d_mo_rows_54 : decode b_mo_rows 54 = .ok (.aload_n 0, 1) := by decide +kernel
theorem d_mo_rows_55 : decode b_mo_rows 55 = .ok (.getfield 100, 3) := by decide +kernel
theorem d_mo_rows_58 : decode b_mo_rows 58 = .ok (.aload_n 0, 1) := by decide +kernel
theorem d_mo_rows_59 : decode b_mo_rows 59 = .ok (.getfield 22, 3) := by decide +kernel
theorem d_mo_rows_62 : decode b_mo_rows 62 = .ok (.bipush 33, 2) := by decide +kernel
theorem d_mo_rows_64 : decode b_mo_rows 64 = .ok (.iload_n 1, 1) := by decide +kernel
theorem d_mo_rows_65 : decode b_mo_rows 65 = .ok (.imul, 1) := by decide +kernel
theorem d_mo_rows_66 : decode b_mo_rows 66 = .ok (.iload_n 2, 1) := by decide +kernel
theorem d_mo_rows_67 : decode b_mo_rows 67 = .ok (.iadd, 1) := by decide +kernel
theorem d_mo_rows_68 : decode b_mo_rows 68 = .ok (.iaload, 1) := by decide +kernel
theorem d_mo_rows_69 : decode b_mo_rows 69 = .ok (.ishr, 1) := by decide +kernel
theorem d_mo_rows_70 : decode b_mo_rows 70 = .ok (.isub, 1) := by decide +kernel
theorem d_mo_rows_71 : decode b_mo_rows 71 = .ok (.iconst 1, 1) := by decide +kernel
theorem d_mo_rows_72 : decode b_mo_rows 72 = .ok (.iadd, 1) := by decide +kernel
theorem d_mo_rows_73 : decode b_mo_rows 73 = .ok (.ireturn, 1) := by decide +kernel
abbrev y_mo_count : MethodName := ⟨"PacketOrderModel", "count", "()J"⟩
abbrev b_mo_count : ByteArray := prog_8_method_15_code
theorem d_mo_count_0 : decode b_mo_count 0 = .ok (.lconst 0, 1) := by decide +kernel
theorem d_mo_count_1 : decode b_mo_count 1 = .ok (.lstore_n 1, 1) := by decide +kernel
theorem d_mo_count_2 : decode b_mo_count 2 = .ok (.iconst 0, 1) := by decide +kernel
theorem d_mo_count_3 : decode b_mo_count 3 = .ok (.istore_n 3, 1) := by decide +kernel
theorem d_mo_count_4 : decode b_mo_count 4 = .ok (.iload_n 3, 1) := by decide +kernel
theorem d_mo_count_5 : decode b_mo_count 5 = .ok (.aload_n 0, 1) := by decide +kernel
theorem d_mo_count_6 : decode b_mo_count 6 = .ok (.getfield 80, 3) := by decide +kernel
theorem d_mo_count_9 : decode b_mo_count 9 = .ok (.if_icmp .ge 56, 3) := by decide +kernel
theorem d_mo_count_12 : decode b_mo_count 12 = .ok (.iconst 0, 1) := by decide +kernel
theorem d_mo_count_13 : decode b_mo_count 13 = .ok (.istore 4, 2) := by decide +kernel
theorem d_mo_count_15 : decode b_mo_count 15 = .ok (.iload 4, 2) := by decide +kernel
theorem d_mo_count_17 : decode b_mo_count 17 = .ok (.aload_n 0, 1) := by decide +kernel
theorem d_mo_count_18 : decode b_mo_count 18 = .ok (.getfield 16, 3) := by decide +kernel
theorem d_mo_count_21 : decode b_mo_count 21 = .ok (.iload_n 3, 1) := by decide +kernel
theorem d_mo_count_22 : decode b_mo_count 22 = .ok (.iaload, 1) := by decide +kernel
theorem d_mo_count_23 : decode b_mo_count 23 = .ok (.if_icmp .gt 36, 3) := by decide +kernel
theorem d_mo_count_26 : decode b_mo_count 26 = .ok (.aload_n 0, 1) := by decide +kernel
theorem d_mo_count_27 : decode b_mo_count 27 = .ok (.iload_n 3, 1) := by decide +kernel
theorem d_mo_count_28 : decode b_mo_count 28 = .ok (.iload 4, 2) := by decide +kernel
theorem d_mo_count_30 : decode b_mo_count 30 = .ok (.invokevirtual 109, 3) := by decide +kernel
theorem d_mo_count_33 : decode b_mo_count 33 = .ok (.lload_n 1, 1) := by decide +kernel
theorem d_mo_count_34 : decode b_mo_count 34 = .ok (.aload_n 0, 1) := by decide +kernel
theorem d_mo_count_35 : decode b_mo_count 35 = .ok (.iload_n 3, 1) := by decide +kernel
theorem d_mo_count_36 : decode b_mo_count 36 = .ok (.iload 4, 2) := by decide +kernel
theorem d_mo_count_38 : decode b_mo_count 38 = .ok (.invokevirtual 113, 3) := by decide +kernel
theorem d_mo_count_41 : decode b_mo_count 41 = .ok (.i2l, 1) := by decide +kernel
theorem d_mo_count_42 : decode b_mo_count 42 = .ok (.aload_n 0, 1) := by decide +kernel
theorem d_mo_count_43 : decode b_mo_count 43 = .ok (.iload_n 3, 1) := by decide +kernel
theorem d_mo_count_44 : decode b_mo_count 44 = .ok (.iload 4, 2) := by decide +kernel
theorem d_mo_count_46 : decode b_mo_count 46 = .ok (.invokevirtual 116, 3) := by decide +kernel
theorem d_mo_count_49 : decode b_mo_count 49 = .ok (.i2l, 1) := by decide +kernel
theorem d_mo_count_50 : decode b_mo_count 50 = .ok (.lmul, 1) := by decide +kernel
theorem d_mo_count_51 : decode b_mo_count 51 = .ok (.ladd, 1) := by decide +kernel
theorem d_mo_count_52 : decode b_mo_count 52 = .ok (.lstore_n 1, 1) := by decide +kernel
theorem d_mo_count_53 : decode b_mo_count 53 = .ok (.iinc 4 1, 3) := by decide +kernel
theorem d_mo_count_56 : decode b_mo_count 56 = .ok (.goto (-41), 3) := by decide +kernel
theorem d_mo_count_59 : decode b_mo_count 59 = .ok (.iinc 3 1, 3) := by decide +kernel
theorem d_mo_count_62 : decode b_mo_count 62 = .ok (.goto (-58), 3) := by decide +kernel
theorem d_mo_count_65 : decode b_mo_count 65 = .ok (.lload_n 1, 1) := by decide +kernel
theorem d_mo_count_66 : decode b_mo_count 66 = .ok (.lreturn, 1) := by decide +kernel
abbrev y_mo_place : MethodName := ⟨"PacketOrderModel", "place", "(IIIII)J"⟩
abbrev b_mo_place : ByteArray := prog_8_method_16_code
theorem d_mo_place_0 : decode b_mo_place 0 = .ok (.iload_n 0, 1) := by decide +kernel
theorem d_mo_place_1 : decode b_mo_place 1 = .ok (.i2l, 1) := by decide +kernel
theorem d_mo_place_2 : decode b_mo_place 2 = .ok (.iload_n 1, 1) := by decide +kernel
theorem d_mo_place_3 : decode b_mo_place 3 = .ok (.iload_n 2, 1) := by decide +kernel
theorem d_mo_place_4 : decode b_mo_place 4 = .ok (.iadd, 1) := by decide +kernel
theorem d_mo_place_5 : decode b_mo_place 5 = .ok (.lshl, 1) := by decide +kernel
theorem d_mo_place_6 : decode b_mo_place 6 = .ok (.iload_n 3, 1) := by decide +kernel
theorem d_mo_place_7 : decode b_mo_place 7 = .ok (.i2l, 1) := by decide +kernel
theorem d_mo_place_8 : decode b_mo_place 8 = .ok (.lmul, 1) := by decide +kernel
theorem d_mo_place_9 : decode b_mo_place 9 = .ok (.lstore 5, 2) := by decide +kernel
theorem d_mo_place_11 : decode b_mo_place 11 = .ok (.lload 5, 2) := by decide +kernel
theorem d_mo_place_13 : decode b_mo_place 13 = .ok (.iload 4, 2) := by decide +kernel
theorem d_mo_place_15 : decode b_mo_place 15 = .ok (.i2l, 1) := by decide +kernel
theorem d_mo_place_16 : decode b_mo_place 16 = .ok (.lcmp, 1) := by decide +kernel
theorem d_mo_place_17 : decode b_mo_place 17 = .ok (.ifCond .ge 9, 3) := by decide +kernel
theorem d_mo_place_20 : decode b_mo_place 20 = .ok (.iload 4, 2) := by decide +kernel
theorem d_mo_place_22 : decode b_mo_place 22 = .ok (.i2l, 1) := by decide +kernel
theorem d_mo_place_23 : decode b_mo_place 23 = .ok (.goto 5, 3) := by decide +kernel
theorem d_mo_place_26 : decode b_mo_place 26 = .ok (.lload 5, 2) := by decide +kernel
theorem d_mo_place_28 : decode b_mo_place 28 = .ok (.lreturn, 1) := by decide +kernel
abbrev y_mo_list : MethodName := ⟨"PacketOrderModel", "list", "(II)V"⟩
abbrev b_mo_list : ByteArray := prog_8_method_17_code
theorem d_mo_list_0 : decode b_mo_list 0 = .ok (.aload_n 0, 1) := by decide +kernel
theorem d_mo_list_1 : decode b_mo_list 1 = .ok (.iload_n 1, 1) := by decide +kernel
theorem d_mo_list_2 : decode b_mo_list 2 = .ok (.iload_n 2, 1) := by decide +kernel
theorem d_mo_list_3 : decode b_mo_list 3 = .ok (.invokevirtual 109, 3) := by decide +kernel
theorem d_mo_list_6 : decode b_mo_list 6 = .ok (.aload_n 0, 1) := by decide +kernel
theorem d_mo_list_7 : decode b_mo_list 7 = .ok (.iload_n 1, 1) := by decide +kernel
theorem d_mo_list_8 : decode b_mo_list 8 = .ok (.iload_n 2, 1) := by decide +kernel
theorem d_mo_list_9 : decode b_mo_list 9 = .ok (.invokevirtual 113, 3) := by decide +kernel
theorem d_mo_list_12 : decode b_mo_list 12 = .ok (.istore_n 3, 1) := by decide +kernel
theorem d_mo_list_13 : decode b_mo_list 13 = .ok (.aload_n 0, 1) := by decide +kernel
theorem d_mo_list_14 : decode b_mo_list 14 = .ok (.iload_n 1, 1) := by decide +kernel
theorem d_mo_list_15 : decode b_mo_list 15 = .ok (.iload_n 2, 1) := by decide +kernel
theorem d_mo_list_16 : decode b_mo_list 16 = .ok (.invokevirtual 116, 3) := by decide +kernel
theorem d_mo_list_19 : decode b_mo_list 19 = .ok (.istore 4, 2) := by decide +kernel
theorem d_mo_list_21 : decode b_mo_list 21 = .ok (.aload_n 0, 1) := by decide +kernel
theorem d_mo_list_22 : decode b_mo_list 22 = .ok (.getfield 16, 3) := by decide +kernel
theorem d_mo_list_25 : decode b_mo_list 25 = .ok (.iload_n 1, 1) := by decide +kernel
theorem d_mo_list_26 : decode b_mo_list 26 = .ok (.iaload, 1) := by decide +kernel
theorem d_mo_list_27 : decode b_mo_list 27 = .ok (.iload_n 2, 1) := by decide +kernel
theorem d_mo_list_28 : decode b_mo_list 28 = .ok (.isub, 1) := by decide +kernel
theorem d_mo_list_29 : decode b_mo_list 29 = .ok (.istore 5, 2) := by decide +kernel
theorem d_mo_list_31 : decode b_mo_list 31 = .ok (.iconst 0, 1) := by decide +kernel
theorem d_mo_list_32 : decode b_mo_list 32 = .ok (.istore 6, 2) := by decide +kernel
theorem d_mo_list_34 : decode b_mo_list 34 = .ok (.iload 6, 2) := by decide +kernel
theorem d_mo_list_36 : decode b_mo_list 36 = .ok (.iload_n 3, 1) := by decide +kernel
theorem d_mo_list_37 : decode b_mo_list 37 = .ok (.iload 4, 2) := by decide +kernel
theorem d_mo_list_39 : decode b_mo_list 39 = .ok (.imul, 1) := by decide +kernel
theorem d_mo_list_40 : decode b_mo_list 40 = .ok (.if_icmp .ge 180, 3) := by decide +kernel
theorem d_mo_list_43 : decode b_mo_list 43 = .ok (.aload_n 0, 1) := by decide +kernel
theorem d_mo_list_44 : decode b_mo_list 44 = .ok (.getfield 97, 3) := by decide +kernel
theorem d_mo_list_47 : decode b_mo_list 47 = .ok (.aload_n 0, 1) := by decide +kernel
theorem d_mo_list_48 : decode b_mo_list 48 = .ok (.getfield 19, 3) := by decide +kernel
theorem d_mo_list_51 : decode b_mo_list 51 = .ok (.bipush 33, 2) := by decide +kernel
theorem d_mo_list_53 : decode b_mo_list 53 = .ok (.iload_n 1, 1) := by decide +kernel
theorem d_mo_list_54 : decode b_mo_list 54 = .ok (.imul, 1) := by decide +kernel
theorem d_mo_list_55 : decode b_mo_list 55 = .ok (.iload_n 2, 1) := by decide +kernel
theorem d_mo_list_56 : decode b_mo_list 56 = .ok (.iadd, 1) := by decide +kernel
theorem d_mo_list_57 : decode b_mo_list 57 = .ok (.iaload, 1) := by decide +kernel
theorem d_mo_list_58 : decode b_mo_list 58 = .ok (.ishr, 1) := by decide +kernel
theorem d_mo_list_59 : decode b_mo_list 59 = .ok (.iload 6, 2) := by decide +kernel
theorem d_mo_list_61 : decode b_mo_list 61 = .ok (.iload_n 3, 1) := by decide +kernel
theorem d_mo_list_62 : decode b_mo_list 62 = .ok (.irem, 1) := by decide +kernel
theorem d_mo_list_63 : decode b_mo_list 63 = .ok (.iadd, 1) := by decide +kernel
theorem d_mo_list_64 : decode b_mo_list 64 = .ok (.istore 7, 2) := by decide +kernel
theorem d_mo_list_66 : decode b_mo_list 66 = .ok (.aload_n 0, 1) := by decide +kernel
theorem d_mo_list_67 : decode b_mo_list 67 = .ok (.getfield 100, 3) := by decide +kernel
theorem d_mo_list_70 : decode b_mo_list 70 = .ok (.aload_n 0, 1) := by decide +kernel
theorem d_mo_list_71 : decode b_mo_list 71 = .ok (.getfield 22, 3) := by decide +kernel
theorem d_mo_list_74 : decode b_mo_list 74 = .ok (.bipush 33, 2) := by decide +kernel
theorem d_mo_list_76 : decode b_mo_list 76 = .ok (.iload_n 1, 1) := by decide +kernel
theorem d_mo_list_77 : decode b_mo_list 77 = .ok (.imul, 1) := by decide +kernel
theorem d_mo_list_78 : decode b_mo_list 78 = .ok (.iload_n 2, 1) := by decide +kernel
theorem d_mo_list_79 : decode b_mo_list 79 = .ok (.iadd, 1) := by decide +kernel
theorem d_mo_list_80 : decode b_mo_list 80 = .ok (.iaload, 1) := by decide +kernel
theorem d_mo_list_81 : decode b_mo_list 81 = .ok (.ishr, 1) := by decide +kernel
theorem d_mo_list_82 : decode b_mo_list 82 = .ok (.iload 6, 2) := by decide +kernel
theorem d_mo_list_84 : decode b_mo_list 84 = .ok (.iload_n 3, 1) := by decide +kernel
theorem d_mo_list_85 : decode b_mo_list 85 = .ok (.idiv, 1) := by decide +kernel
theorem d_mo_list_86 : decode b_mo_list 86 = .ok (.iadd, 1) := by decide +kernel
theorem d_mo_list_87 : decode b_mo_list 87 = .ok (.istore 8, 2) := by decide +kernel
theorem d_mo_list_89 : decode b_mo_list 89 = .ok (.aload_n 0, 1) := by decide +kernel
theorem d_mo_list_90 : decode b_mo_list 90 = .ok (.getfield 32, 3) := by decide +kernel
theorem d_mo_list_93 : decode b_mo_list 93 = .ok (.aload_n 0, 1) := by decide +kernel
theorem d_mo_list_94 : decode b_mo_list 94 = .ok (.getfield 119, 3) := by decide +kernel
theorem d_mo_list_97 : decode b_mo_list 97 = .ok (.iload_n 1, 1) := by decide +kernel
theorem d_mo_list_98 : decode b_mo_list 98 = .ok (.iastore, 1) := by decide +kernel
theorem d_mo_list_99 : decode b_mo_list 99 = .ok (.aload_n 0, 1) := by decide +kernel
theorem d_mo_list_100 : decode b_mo_list 100 = .ok (.getfield 35, 3) := by decide +kernel
theorem d_mo_list_103 : decode b_mo_list 103 = .ok (.aload_n 0, 1) := by decide +kernel
theorem d_mo_list_104 : decode b_mo_list 104 = .ok (.getfield 119, 3) := by decide +kernel
theorem d_mo_list_107 : decode b_mo_list 107 = .ok (.iload_n 2, 1) := by decide +kernel
theorem d_mo_list_108 : decode b_mo_list 108 = .ok (.iastore, 1) := by decide +kernel
theorem d_mo_list_109 : decode b_mo_list 109 = .ok (.aload_n 0, 1) := by decide +kernel
theorem d_mo_list_110 : decode b_mo_list 110 = .ok (.getfield 38, 3) := by decide +kernel
theorem d_mo_list_113 : decode b_mo_list 113 = .ok (.aload_n 0, 1) := by decide +kernel
theorem d_mo_list_114 : decode b_mo_list 114 = .ok (.getfield 119, 3) := by decide +kernel
theorem d_mo_list_117 : decode b_mo_list 117 = .ok (.iload 6, 2) := by decide +kernel
theorem d_mo_list_119 : decode b_mo_list 119 = .ok (.iastore, 1) := by decide +kernel
theorem d_mo_list_120 : decode b_mo_list 120 = .ok (.aload_n 0, 1) := by decide +kernel
theorem d_mo_list_121 : decode b_mo_list 121 = .ok (.getfield 41, 3) := by decide +kernel
theorem d_mo_list_124 : decode b_mo_list 124 = .ok (.aload_n 0, 1) := by decide +kernel
theorem d_mo_list_125 : decode b_mo_list 125 = .ok (.getfield 119, 3) := by decide +kernel
theorem d_mo_list_128 : decode b_mo_list 128 = .ok (.iload 7, 2) := by decide +kernel
theorem d_mo_list_130 : decode b_mo_list 130 = .ok (.aload_n 0, 1) := by decide +kernel
theorem d_mo_list_131 : decode b_mo_list 131 = .ok (.getfield 19, 3) := by decide +kernel
theorem d_mo_list_134 : decode b_mo_list 134 = .ok (.bipush 33, 2) := by decide +kernel
theorem d_mo_list_136 : decode b_mo_list 136 = .ok (.iload_n 1, 1) := by decide +kernel
theorem d_mo_list_137 : decode b_mo_list 137 = .ok (.imul, 1) := by decide +kernel
theorem d_mo_list_138 : decode b_mo_list 138 = .ok (.iload_n 2, 1) := by decide +kernel
theorem d_mo_list_139 : decode b_mo_list 139 = .ok (.iadd, 1) := by decide +kernel
theorem d_mo_list_140 : decode b_mo_list 140 = .ok (.iaload, 1) := by decide +kernel
theorem d_mo_list_141 : decode b_mo_list 141 = .ok (.iload 5, 2) := by decide +kernel
theorem d_mo_list_143 : decode b_mo_list 143 = .ok (.aload_n 0, 1) := by decide +kernel
theorem d_mo_list_144 : decode b_mo_list 144 = .ok (.getfield 7, 3) := by decide +kernel
theorem d_mo_list_147 : decode b_mo_list 147 = .ok (.iload_n 1, 1) := by decide +kernel
theorem d_mo_list_148 : decode b_mo_list 148 = .ok (.iaload, 1) := by decide +kernel
theorem d_mo_list_149 : decode b_mo_list 149 = .ok (.aload_n 0, 1) := by decide +kernel
theorem d_mo_list_150 : decode b_mo_list 150 = .ok (.getfield 65, 3) := by decide +kernel
theorem d_mo_list_153 : decode b_mo_list 153 = .ok (.invokestatic 122, 3) := by decide +kernel
theorem d_mo_list_156 : decode b_mo_list 156 = .ok (.lastore, 1) := by decide +kernel
theorem d_mo_list_157 : decode b_mo_list 157 = .ok (.aload_n 0, 1) := by decide +kernel
theorem d_mo_list_158 : decode b_mo_list 158 = .ok (.getfield 45, 3) := by decide +kernel
theorem d_mo_list_161 : decode b_mo_list 161 = .ok (.aload_n 0, 1) := by decide +kernel
theorem d_mo_list_162 : decode b_mo_list 162 = .ok (.getfield 119, 3) := by decide +kernel
theorem d_mo_list_165 : decode b_mo_list 165 = .ok (.iload 8, 2) := by decide +kernel
theorem d_mo_list_167 : decode b_mo_list 167 = .ok (.aload_n 0, 1) := by decide +kernel
theorem d_mo_list_168 : decode b_mo_list 168 = .ok (.getfield 22, 3) := by decide +kernel
theorem d_mo_list_171 : decode b_mo_list 171 = .ok (.bipush 33, 2) := by decide +kernel
theorem d_mo_list_173 : decode b_mo_list 173 = .ok (.iload_n 1, 1) := by decide +kernel
theorem d_mo_list_174 : decode b_mo_list 174 = .ok (.imul, 1) := by decide +kernel
theorem d_mo_list_175 : decode b_mo_list 175 = .ok (.iload_n 2, 1) := by decide +kernel
theorem d_mo_list_176 : decode b_mo_list 176 = .ok (.iadd, 1) := by decide +kernel
theorem d_mo_list_177 : decode b_mo_list 177 = .ok (.iaload, 1) := by decide +kernel
theorem d_mo_list_178 : decode b_mo_list 178 = .ok (.iload 5, 2) := by decide +kernel
theorem d_mo_list_180 : decode b_mo_list 180 = .ok (.aload_n 0, 1) := by decide +kernel
theorem d_mo_list_181 : decode b_mo_list 181 = .ok (.getfield 13, 3) := by decide +kernel
theorem d_mo_list_184 : decode b_mo_list 184 = .ok (.iload_n 1, 1) := by decide +kernel
theorem d_mo_list_185 : decode b_mo_list 185 = .ok (.iaload, 1) := by decide +kernel
theorem d_mo_list_186 : decode b_mo_list 186 = .ok (.aload_n 0, 1) := by decide +kernel
theorem d_mo_list_187 : decode b_mo_list 187 = .ok (.getfield 68, 3) := by decide +kernel
theorem d_mo_list_190 : decode b_mo_list 190 = .ok (.invokestatic 122, 3) := by decide +kernel
theorem d_mo_list_193 : decode b_mo_list 193 = .ok (.lastore, 1) := by decide +kernel
theorem d_mo_list_194 : decode b_mo_list 194 = .ok (.aload_n 0, 1) := by decide +kernel
theorem d_mo_list_195 : decode b_mo_list 195 = .ok (.getfield 48, 3) := by decide +kernel
theorem d_mo_list_198 : decode b_mo_list 198 = .ok (.aload_n 0, 1) := by decide +kernel
theorem d_mo_list_199 : decode b_mo_list 199 = .ok (.getfield 119, 3) := by decide +kernel
theorem d_mo_list_202 : decode b_mo_list 202 = .ok (.iconst 0, 1) := by decide +kernel
theorem d_mo_list_203 : decode b_mo_list 203 = .ok (.iastore, 1) := by decide +kernel
theorem d_mo_list_204 : decode b_mo_list 204 = .ok (.aload_n 0, 1) := by decide +kernel
theorem d_mo_list_205 : decode b_mo_list 205 = .ok (.dup, 1) := by decide +kernel
theorem d_mo_list_206 : decode b_mo_list 206 = .ok (.getfield 119, 3) := by decide +kernel
theorem d_mo_list_209 : decode b_mo_list 209 = .ok (.iconst 1, 1) := by decide +kernel
theorem d_mo_list_210 : decode b_mo_list 210 = .ok (.iadd, 1) := by decide +kernel
theorem d_mo_list_211 : decode b_mo_list 211 = .ok (.putfield 119, 3) := by decide +kernel
theorem d_mo_list_214 : decode b_mo_list 214 = .ok (.iinc 6 1, 3) := by decide +kernel
theorem d_mo_list_217 : decode b_mo_list 217 = .ok (.goto (-183), 3) := by decide +kernel
theorem d_mo_list_220 : decode b_mo_list 220 = .ok (.return_, 1) := by decide +kernel
abbrev y_mo_begin : MethodName := ⟨"PacketOrderModel", "begin", "()I"⟩
abbrev b_mo_begin : ByteArray := prog_8_method_18_code
theorem d_mo_begin_0 : decode b_mo_begin 0 = .ok (.aload_n 0, 1) := by decide +kernel
theorem d_mo_begin_1 : decode b_mo_begin 1 = .ok (.getfield 61, 3) := by decide +kernel
theorem d_mo_begin_4 : decode b_mo_begin 4 = .ok (.ifCond .eq 10, 3) := by decide +kernel
theorem d_mo_begin_7 : decode b_mo_begin 7 = .ok (.aload_n 0, 1) := by decide +kernel
theorem d_mo_begin_8 : decode b_mo_begin 8 = .ok (.getfield 80, 3) := by decide +kernel
theorem d_mo_begin_11 : decode b_mo_begin 11 = .ok (.ifCond .ne 7, 3) := by decide +kernel
theorem d_mo_begin_14 : decode b_mo_begin 14 = .ok (.iconst 1, 1) := by decide +kernel
theorem d_mo_begin_15 : decode b_mo_begin 15 = .ok (.goto 4, 3) := by decide +kernel
theorem d_mo_begin_18 : decode b_mo_begin 18 = .ok (.iconst 0, 1) := by decide +kernel
theorem d_mo_begin_19 : decode b_mo_begin 19 = .ok (.istore_n 1, 1) := by decide +kernel
theorem d_mo_begin_20 : decode b_mo_begin 20 = .ok (.aload_n 0, 1) := by decide +kernel
theorem d_mo_begin_21 : decode b_mo_begin 21 = .ok (.iload_n 1, 1) := by decide +kernel
theorem d_mo_begin_22 : decode b_mo_begin 22 = .ok (.iload_n 1, 1) := by decide +kernel
theorem d_mo_begin_23 : decode b_mo_begin 23 = .ok (.ifCond .ne 18, 3) := by decide +kernel
theorem d_mo_begin_26 : decode b_mo_begin 26 = .ok (.aload_n 0, 1) := by decide +kernel
theorem d_mo_begin_27 : decode b_mo_begin 27 = .ok (.invokevirtual 126, 3) := by decide +kernel
theorem d_mo_begin_30 : decode b_mo_begin 30 = .ok (.ldc2_w 130, 3) := by decide +kernel
theorem d_mo_begin_33 : decode b_mo_begin 33 = .ok (.lcmp, 1) := by decide +kernel
theorem d_mo_begin_34 : decode b_mo_begin 34 = .ok (.ifCond .le 7, 3) := by decide +kernel
theorem d_mo_begin_37 : decode b_mo_begin 37 = .ok (.iconst 1, 1) := by decide +kernel
theorem d_mo_begin_38 : decode b_mo_begin 38 = .ok (.goto 4, 3) := by decide +kernel
theorem d_mo_begin_41 : decode b_mo_begin 41 = .ok (.iconst 0, 1) := by decide +kernel
theorem d_mo_begin_42 : decode b_mo_begin 42 = .ok (.invokevirtual 57, 3) := by decide +kernel
theorem d_mo_begin_45 : decode b_mo_begin 45 = .ok (.ifCond .eq 5, 3) := by decide +kernel
theorem d_mo_begin_48 : decode b_mo_begin 48 = .ok (.iconst 0, 1) := by decide +kernel
theorem d_mo_begin_49 : decode b_mo_begin 49 = .ok (.ireturn, 1) := by decide +kernel
theorem d_mo_begin_50 : decode b_mo_begin 50 = .ok (.aload_n 0, 1) := by decide +kernel
theorem d_mo_begin_51 : decode b_mo_begin 51 = .ok (.iconst 0, 1) := by decide +kernel
theorem d_mo_begin_52 : decode b_mo_begin 52 = .ok (.putfield 119, 3) := by decide +kernel
theorem d_mo_begin_55 : decode b_mo_begin 55 = .ok (.iconst 0, 1) := by decide +kernel
theorem d_mo_begin_56 : decode b_mo_begin 56 = .ok (.istore_n 2, 1) := by decide +kernel
theorem d_mo_begin_57 : decode b_mo_begin 57 = .ok (.iload_n 2, 1) := by decide +kernel
theorem d_mo_begin_58 : decode b_mo_begin 58 = .ok (.aload_n 0, 1) := by decide +kernel
theorem d_mo_begin_59 : decode b_mo_begin 59 = .ok (.getfield 80, 3) := by decide +kernel
theorem d_mo_begin_62 : decode b_mo_begin 62 = .ok (.if_icmp .ge 33, 3) := by decide +kernel
theorem d_mo_begin_65 : decode b_mo_begin 65 = .ok (.iconst 0, 1) := by decide +kernel
theorem d_mo_begin_66 : decode b_mo_begin 66 = .ok (.istore_n 3, 1) := by decide +kernel
theorem d_mo_begin_67 : decode b_mo_begin 67 = .ok (.iload_n 3, 1) := by decide +kernel
theorem d_mo_begin_68 : decode b_mo_begin 68 = .ok (.aload_n 0, 1) := by decide +kernel
theorem d_mo_begin_69 : decode b_mo_begin 69 = .ok (.getfield 16, 3) := by decide +kernel
theorem d_mo_begin_72 : decode b_mo_begin 72 = .ok (.iload_n 2, 1) := by decide +kernel
theorem d_mo_begin_73 : decode b_mo_begin 73 = .ok (.iaload, 1) := by decide +kernel
theorem d_mo_begin_74 : decode b_mo_begin 74 = .ok (.if_icmp .gt 15, 3) := by decide +kernel
theorem d_mo_begin_77 : decode b_mo_begin 77 = .ok (.aload_n 0, 1) := by decide +kernel
theorem d_mo_begin_78 : decode b_mo_begin 78 = .ok (.iload_n 2, 1) := by decide +kernel
theorem d_mo_begin_79 : decode b_mo_begin 79 = .ok (.iload_n 3, 1) := by decide +kernel
theorem d_mo_begin_80 : decode b_mo_begin 80 = .ok (.invokevirtual 132, 3) := by decide +kernel
theorem d_mo_begin_83 : decode b_mo_begin 83 = .ok (.iinc 3 1, 3) := by decide +kernel
theorem d_mo_begin_86 : decode b_mo_begin 86 = .ok (.goto (-19), 3) := by decide +kernel
theorem d_mo_begin_89 : decode b_mo_begin 89 = .ok (.iinc 2 1, 3) := by decide +kernel
theorem d_mo_begin_92 : decode b_mo_begin 92 = .ok (.goto (-35), 3) := by decide +kernel
theorem d_mo_begin_95 : decode b_mo_begin 95 = .ok (.aload_n 0, 1) := by decide +kernel
theorem d_mo_begin_96 : decode b_mo_begin 96 = .ok (.iconst 1, 1) := by decide +kernel
theorem d_mo_begin_97 : decode b_mo_begin 97 = .ok (.putfield 77, 3) := by decide +kernel
theorem d_mo_begin_100 : decode b_mo_begin 100 = .ok (.aload_n 0, 1) := by decide +kernel
theorem d_mo_begin_101 : decode b_mo_begin 101 = .ok (.iconst 0, 1) := by decide +kernel
theorem d_mo_begin_102 : decode b_mo_begin 102 = .ok (.putfield 135, 3) := by decide +kernel
theorem d_mo_begin_105 : decode b_mo_begin 105 = .ok (.aload_n 0, 1) := by decide +kernel
theorem d_mo_begin_106 : decode b_mo_begin 106 = .ok (.iconst 0, 1) := by decide +kernel
theorem d_mo_begin_107 : decode b_mo_begin 107 = .ok (.putfield 138, 3) := by decide +kernel
theorem d_mo_begin_110 : decode b_mo_begin 110 = .ok (.aload_n 0, 1) := by decide +kernel
theorem d_mo_begin_111 : decode b_mo_begin 111 = .ok (.invokevirtual 141, 3) := by decide +kernel
theorem d_mo_begin_114 : decode b_mo_begin 114 = .ok (.aload_n 0, 1) := by decide +kernel
theorem d_mo_begin_115 : decode b_mo_begin 115 = .ok (.getfield 119, 3) := by decide +kernel
theorem d_mo_begin_118 : decode b_mo_begin 118 = .ok (.aload_n 0, 1) := by decide +kernel
theorem d_mo_begin_119 : decode b_mo_begin 119 = .ok (.getfield 25, 3) := by decide +kernel
theorem d_mo_begin_122 : decode b_mo_begin 122 = .ok (.imul, 1) := by decide +kernel
theorem d_mo_begin_123 : decode b_mo_begin 123 = .ok (.ireturn, 1) := by decide +kernel
abbrev y_mo_sign : MethodName := ⟨"PacketOrderModel", "sign", "(JJ)I"⟩
abbrev b_mo_sign : ByteArray := prog_8_method_19_code
theorem d_mo_sign_0 : decode b_mo_sign 0 = .ok (.lload_n 1, 1) := by decide +kernel
theorem d_mo_sign_1 : decode b_mo_sign 1 = .ok (.lload_n 3, 1) := by decide +kernel
theorem d_mo_sign_2 : decode b_mo_sign 2 = .ok (.lcmp, 1) := by decide +kernel
theorem d_mo_sign_3 : decode b_mo_sign 3 = .ok (.ifCond .ge 7, 3) := by decide +kernel
theorem d_mo_sign_6 : decode b_mo_sign 6 = .ok (.iconst (-1), 1) := by decide +kernel
theorem d_mo_sign_7 : decode b_mo_sign 7 = .ok (.goto 14, 3) := by decide +kernel
theorem d_mo_sign_10 : decode b_mo_sign 10 = .ok (.lload_n 1, 1) := by decide +kernel
theorem d_mo_sign_11 : decode b_mo_sign 11 = .ok (.lload_n 3, 1) := by decide +kernel
theorem d_mo_sign_12 : decode b_mo_sign 12 = .ok (.lcmp, 1) := by decide +kernel
theorem d_mo_sign_13 : decode b_mo_sign 13 = .ok (.ifCond .le 7, 3) := by decide +kernel
theorem d_mo_sign_16 : decode b_mo_sign 16 = .ok (.iconst 1, 1) := by decide +kernel
theorem d_mo_sign_17 : decode b_mo_sign 17 = .ok (.goto 4, 3) := by decide +kernel
theorem d_mo_sign_20 : decode b_mo_sign 20 = .ok (.iconst 0, 1) := by decide +kernel
theorem d_mo_sign_21 : decode b_mo_sign 21 = .ok (.ireturn, 1) := by decide +kernel
abbrev y_mo_byPlace : MethodName := ⟨"PacketOrderModel", "byPlace", "(II)I"⟩
abbrev b_mo_byPlace : ByteArray := prog_8_method_20_code
theorem d_mo_byPlace_0 : decode b_mo_byPlace 0 = .ok (.aload_n 0, 1) := by decide +kernel
theorem d_mo_byPlace_1 : decode b_mo_byPlace 1 = .ok (.aload_n 0, 1) := by decide +kernel
theorem d_mo_byPlace_2 : decode b_mo_byPlace 2 = .ok (.getfield 45, 3) := by decide +kernel
theorem d_mo_byPlace_5 : decode b_mo_byPlace 5 = .ok (.iload_n 1, 1) := by decide +kernel
theorem d_mo_byPlace_6 : decode b_mo_byPlace 6 = .ok (.laload, 1) := by decide +kernel
theorem d_mo_byPlace_7 : decode b_mo_byPlace 7 = .ok (.aload_n 0, 1) := by decide +kernel
theorem d_mo_byPlace_8 : decode b_mo_byPlace 8 = .ok (.getfield 45, 3) := by decide +kernel
theorem d_mo_byPlace_11 : decode b_mo_byPlace 11 = .ok (.iload_n 2, 1) := by decide +kernel
theorem d_mo_byPlace_12 : decode b_mo_byPlace 12 = .ok (.laload, 1) := by decide +kernel
theorem d_mo_byPlace_13 : decode b_mo_byPlace 13 = .ok (.invokevirtual 144, 3) := by decide +kernel
theorem d_mo_byPlace_16 : decode b_mo_byPlace 16 = .ok (.istore_n 3, 1) := by decide +kernel
theorem d_mo_byPlace_17 : decode b_mo_byPlace 17 = .ok (.iload_n 3, 1) := by decide +kernel
theorem d_mo_byPlace_18 : decode b_mo_byPlace 18 = .ok (.ifCond .eq 7, 3) := by decide +kernel
theorem d_mo_byPlace_21 : decode b_mo_byPlace 21 = .ok (.iload_n 3, 1) := by decide +kernel
theorem d_mo_byPlace_22 : decode b_mo_byPlace 22 = .ok (.goto 19, 3) := by decide +kernel
theorem d_mo_byPlace_25 : decode b_mo_byPlace 25 = .ok (.aload_n 0, 1) := by decide +kernel
theorem d_mo_byPlace_26 : decode b_mo_byPlace 26 = .ok (.aload_n 0, 1) := by decide +kernel
theorem d_mo_byPlace_27 : decode b_mo_byPlace 27 = .ok (.getfield 41, 3) := by decide +kernel
theorem d_mo_byPlace_30 : decode b_mo_byPlace 30 = .ok (.iload_n 1, 1) := by decide +kernel
theorem d_mo_byPlace_31 : decode b_mo_byPlace 31 = .ok (.laload, 1) := by decide +kernel
theorem d_mo_byPlace_32 : decode b_mo_byPlace 32 = .ok (.aload_n 0, 1) := by decide +kernel
theorem d_mo_byPlace_33 : decode b_mo_byPlace 33 = .ok (.getfield 41, 3) := by decide +kernel
theorem d_mo_byPlace_36 : decode b_mo_byPlace 36 = .ok (.iload_n 2, 1) := by decide +kernel
theorem d_mo_byPlace_37 : decode b_mo_byPlace 37 = .ok (.laload, 1) := by decide +kernel
theorem d_mo_byPlace_38 : decode b_mo_byPlace 38 = .ok (.invokevirtual 144, 3) := by decide +kernel
theorem d_mo_byPlace_41 : decode b_mo_byPlace 41 = .ok (.ireturn, 1) := by decide +kernel
abbrev y_mo_byComponent : MethodName := ⟨"PacketOrderModel", "byComponent", "(II)I"⟩
abbrev b_mo_byComponent : ByteArray := prog_8_method_21_code
theorem d_mo_byComponent_0 : decode b_mo_byComponent 0 = .ok (.aload_n 0, 1) := by decide +kernel
theorem d_mo_byComponent_1 : decode b_mo_byComponent 1 = .ok (.aload_n 0, 1) := by decide +kernel
theorem d_mo_byComponent_2 : decode b_mo_byComponent 2 = .ok (.getfield 32, 3) := by decide +kernel
theorem d_mo_byComponent_5 : decode b_mo_byComponent 5 = .ok (.iload_n 1, 1) := by decide +kernel
theorem d_mo_byComponent_6 : decode b_mo_byComponent 6 = .ok (.iaload, 1) := by decide +kernel
theorem d_mo_byComponent_7 : decode b_mo_byComponent 7 = .ok (.i2l, 1) := by decide +kernel
theorem d_mo_byComponent_8 : decode b_mo_byComponent 8 = .ok (.aload_n 0, 1) := by decide +kernel
theorem d_mo_byComponent_9 : decode b_mo_byComponent 9 = .ok (.getfield 32, 3) := by decide +kernel
theorem d_mo_byComponent_12 : decode b_mo_byComponent 12 = .ok (.iload_n 2, 1) := by decide +kernel
theorem d_mo_byComponent_13 : decode b_mo_byComponent 13 = .ok (.iaload, 1) := by decide +kernel
theorem d_mo_byComponent_14 : decode b_mo_byComponent 14 = .ok (.i2l, 1) := by decide +kernel
theorem d_mo_byComponent_15 : decode b_mo_byComponent 15 = .ok (.invokevirtual 144, 3) := by decide +kernel
theorem d_mo_byComponent_18 : decode b_mo_byComponent 18 = .ok (.ireturn, 1) := by decide +kernel
abbrev y_mo_byLevel : MethodName := ⟨"PacketOrderModel", "byLevel", "(II)I"⟩
abbrev b_mo_byLevel : ByteArray := prog_8_method_22_code
theorem d_mo_byLevel_0 : decode b_mo_byLevel 0 = .ok (.aload_n 0, 1) := by decide +kernel
theorem d_mo_byLevel_1 : decode b_mo_byLevel 1 = .ok (.aload_n 0, 1) := by decide +kernel
theorem d_mo_byLevel_2 : decode b_mo_byLevel 2 = .ok (.getfield 35, 3) := by decide +kernel
theorem d_mo_byLevel_5 : decode b_mo_byLevel 5 = .ok (.iload_n 1, 1) := by decide +kernel
theorem d_mo_byLevel_6 : decode b_mo_byLevel 6 = .ok (.iaload, 1) := by decide +kernel
theorem d_mo_byLevel_7 : decode b_mo_byLevel 7 = .ok (.i2l, 1) := by decide +kernel
theorem d_mo_byLevel_8 : decode b_mo_byLevel 8 = .ok (.aload_n 0, 1) := by decide +kernel
theorem d_mo_byLevel_9 : decode b_mo_byLevel 9 = .ok (.getfield 35, 3) := by decide +kernel
theorem d_mo_byLevel_12 : decode b_mo_byLevel 12 = .ok (.iload_n 2, 1) := by decide +kernel
theorem d_mo_byLevel_13 : decode b_mo_byLevel 13 = .ok (.iaload, 1) := by decide +kernel
theorem d_mo_byLevel_14 : decode b_mo_byLevel 14 = .ok (.i2l, 1) := by decide +kernel
theorem d_mo_byLevel_15 : decode b_mo_byLevel 15 = .ok (.invokevirtual 144, 3) := by decide +kernel
theorem d_mo_byLevel_18 : decode b_mo_byLevel 18 = .ok (.ireturn, 1) := by decide +kernel
abbrev y_mo_then : MethodName := ⟨"PacketOrderModel", "then", "(II)I"⟩
abbrev b_mo_then : ByteArray := prog_8_method_23_code
theorem d_mo_then_0 : decode b_mo_then 0 = .ok (.iload_n 0, 1) := by decide +kernel
theorem d_mo_then_1 : decode b_mo_then 1 = .ok (.ifCond .eq 7, 3) := by decide +kernel
theorem d_mo_then_4 : decode b_mo_then 4 = .ok (.iload_n 0, 1) := by decide +kernel
theorem d_mo_then_5 : decode b_mo_then 5 = .ok (.goto 4, 3) := by decide +kernel
theorem d_mo_then_8 : decode b_mo_then 8 = .ok (.iload_n 1, 1) := by decide +kernel
theorem d_mo_then_9 : decode b_mo_then 9 = .ok (.ireturn, 1) := by decide +kernel
abbrev y_mo_compare : MethodName := ⟨"PacketOrderModel", "compare", "(III)I"⟩
abbrev b_mo_compare : ByteArray := prog_8_method_24_code
theorem d_mo_compare_0 : decode b_mo_compare 0 = .ok (.aload_n 0, 1) := by decide +kernel
theorem d_mo_compare_1 : decode b_mo_compare 1 = .ok (.aload_n 0, 1) := by decide +kernel
theorem d_mo_compare_2 : decode b_mo_compare 2 = .ok (.getfield 38, 3) := by decide +kernel
theorem d_mo_compare_5 : decode b_mo_compare 5 = .ok (.iload_n 1, 1) := by decide +kernel
theorem d_mo_compare_6 : decode b_mo_compare 6 = .ok (.iaload, 1) := by decide +kernel
theorem d_mo_compare_7 : decode b_mo_compare 7 = .ok (.i2l, 1) := by decide +kernel
theorem d_mo_compare_8 : decode b_mo_compare 8 = .ok (.aload_n 0, 1) := by decide +kernel
theorem d_mo_compare_9 : decode b_mo_compare 9 = .ok (.getfield 38, 3) := by decide +kernel
theorem d_mo_compare_12 : decode b_mo_compare 12 = .ok (.iload_n 2, 1) := by decide +kernel
theorem d_mo_compare_13 : decode b_mo_compare 13 = .ok (.iaload, 1) := by decide +kernel
theorem d_mo_compare_14 : decode b_mo_compare 14 = .ok (.i2l, 1) := by decide +kernel
theorem d_mo_compare_15 : decode b_mo_compare 15 = .ok (.invokevirtual 144, 3) := by decide +kernel
theorem d_mo_compare_18 : decode b_mo_compare 18 = .ok (.istore 4, 2) := by decide +kernel
theorem d_mo_compare_20 : decode b_mo_compare 20 = .ok (.iload_n 3, 1) := by decide +kernel
theorem d_mo_compare_21 : decode b_mo_compare 21 = .ok (.tableswitch 102 0 3 #[31, 31, 52, 77], 31) := by decide +kernel
theorem d_mo_compare_52 : decode b_mo_compare 52 = .ok (.aload_n 0, 1) := by decide +kernel
theorem d_mo_compare_53 : decode b_mo_compare 53 = .ok (.iload_n 1, 1) := by decide +kernel
theorem d_mo_compare_54 : decode b_mo_compare 54 = .ok (.iload_n 2, 1) := by decide +kernel
theorem d_mo_compare_55 : decode b_mo_compare 55 = .ok (.invokevirtual 148, 3) := by decide +kernel
theorem d_mo_compare_58 : decode b_mo_compare 58 = .ok (.aload_n 0, 1) := by decide +kernel
theorem d_mo_compare_59 : decode b_mo_compare 59 = .ok (.iload_n 1, 1) := by decide +kernel
theorem d_mo_compare_60 : decode b_mo_compare 60 = .ok (.iload_n 2, 1) := by decide +kernel
theorem d_mo_compare_61 : decode b_mo_compare 61 = .ok (.invokevirtual 151, 3) := by decide +kernel
theorem d_mo_compare_64 : decode b_mo_compare 64 = .ok (.invokestatic 154, 3) := by decide +kernel
theorem d_mo_compare_67 : decode b_mo_compare 67 = .ok (.iload 4, 2) := by decide +kernel
theorem d_mo_compare_69 : decode b_mo_compare 69 = .ok (.invokestatic 154, 3) := by decide +kernel
theorem d_mo_compare_72 : decode b_mo_compare 72 = .ok (.ireturn, 1) := by decide +kernel
theorem d_mo_compare_73 : decode b_mo_compare 73 = .ok (.aload_n 0, 1) := by decide +kernel
theorem d_mo_compare_74 : decode b_mo_compare 74 = .ok (.iload_n 1, 1) := by decide +kernel
theorem d_mo_compare_75 : decode b_mo_compare 75 = .ok (.iload_n 2, 1) := by decide +kernel
theorem d_mo_compare_76 : decode b_mo_compare 76 = .ok (.invokevirtual 148, 3) := by decide +kernel
theorem d_mo_compare_79 : decode b_mo_compare 79 = .ok (.aload_n 0, 1) := by decide +kernel
theorem d_mo_compare_80 : decode b_mo_compare 80 = .ok (.iload_n 1, 1) := by decide +kernel
theorem d_mo_compare_81 : decode b_mo_compare 81 = .ok (.iload_n 2, 1) := by decide +kernel
theorem d_mo_compare_82 : decode b_mo_compare 82 = .ok (.invokevirtual 157, 3) := by decide +kernel
theorem d_mo_compare_85 : decode b_mo_compare 85 = .ok (.invokestatic 154, 3) := by decide +kernel
theorem d_mo_compare_88 : decode b_mo_compare 88 = .ok (.aload_n 0, 1) := by decide +kernel
theorem d_mo_compare_89 : decode b_mo_compare 89 = .ok (.iload_n 1, 1) := by decide +kernel
theorem d_mo_compare_90 : decode b_mo_compare 90 = .ok (.iload_n 2, 1) := by decide +kernel
theorem d_mo_compare_91 : decode b_mo_compare 91 = .ok (.invokevirtual 151, 3) := by decide +kernel
theorem d_mo_compare_94 : decode b_mo_compare 94 = .ok (.invokestatic 154, 3) := by decide +kernel
theorem d_mo_compare_97 : decode b_mo_compare 97 = .ok (.ireturn, 1) := by decide +kernel
theorem d_mo_compare_98 : decode b_mo_compare 98 = .ok (.aload_n 0, 1) := by decide +kernel
theorem d_mo_compare_99 : decode b_mo_compare 99 = .ok (.iload_n 1, 1) := by decide +kernel
theorem d_mo_compare_100 : decode b_mo_compare 100 = .ok (.iload_n 2, 1) := by decide +kernel
theorem d_mo_compare_101 : decode b_mo_compare 101 = .ok (.invokevirtual 157, 3) := by decide +kernel
theorem d_mo_compare_104 : decode b_mo_compare 104 = .ok (.aload_n 0, 1) := by decide +kernel
theorem d_mo_compare_105 : decode b_mo_compare 105 = .ok (.iload_n 1, 1) := by decide +kernel
theorem d_mo_compare_106 : decode b_mo_compare 106 = .ok (.iload_n 2, 1) := by decide +kernel
theorem d_mo_compare_107 : decode b_mo_compare 107 = .ok (.invokevirtual 151, 3) := by decide +kernel
theorem d_mo_compare_110 : decode b_mo_compare 110 = .ok (.invokestatic 154, 3) := by decide +kernel
theorem d_mo_compare_113 : decode b_mo_compare 113 = .ok (.aload_n 0, 1) := by decide +kernel
theorem d_mo_compare_114 : decode b_mo_compare 114 = .ok (.iload_n 1, 1) := by decide +kernel
theorem d_mo_compare_115 : decode b_mo_compare 115 = .ok (.iload_n 2, 1) := by decide +kernel
theorem d_mo_compare_116 : decode b_mo_compare 116 = .ok (.invokevirtual 148, 3) := by decide +kernel
theorem d_mo_compare_119 : decode b_mo_compare 119 = .ok (.invokestatic 154, 3) := by decide +kernel
theorem d_mo_compare_122 : decode b_mo_compare 122 = .ok (.ireturn, 1) := by decide +kernel
theorem d_mo_compare_123 : decode b_mo_compare 123 = .ok (.aload_n 0, 1) := by decide +kernel
theorem d_mo_compare_124 : decode b_mo_compare 124 = .ok (.iload_n 1, 1) := by decide +kernel
theorem d_mo_compare_125 : decode b_mo_compare 125 = .ok (.iload_n 2, 1) := by decide +kernel
theorem d_mo_compare_126 : decode b_mo_compare 126 = .ok (.invokevirtual 151, 3) := by decide +kernel
theorem d_mo_compare_129 : decode b_mo_compare 129 = .ok (.aload_n 0, 1) := by decide +kernel
theorem d_mo_compare_130 : decode b_mo_compare 130 = .ok (.iload_n 1, 1) := by decide +kernel
theorem d_mo_compare_131 : decode b_mo_compare 131 = .ok (.iload_n 2, 1) := by decide +kernel
theorem d_mo_compare_132 : decode b_mo_compare 132 = .ok (.invokevirtual 157, 3) := by decide +kernel
theorem d_mo_compare_135 : decode b_mo_compare 135 = .ok (.invokestatic 154, 3) := by decide +kernel
theorem d_mo_compare_138 : decode b_mo_compare 138 = .ok (.aload_n 0, 1) := by decide +kernel
theorem d_mo_compare_139 : decode b_mo_compare 139 = .ok (.iload_n 1, 1) := by decide +kernel
theorem d_mo_compare_140 : decode b_mo_compare 140 = .ok (.iload_n 2, 1) := by decide +kernel
theorem d_mo_compare_141 : decode b_mo_compare 141 = .ok (.invokevirtual 148, 3) := by decide +kernel
theorem d_mo_compare_144 : decode b_mo_compare 144 = .ok (.invokestatic 154, 3) := by decide +kernel
theorem d_mo_compare_147 : decode b_mo_compare 147 = .ok (.ireturn, 1) := by decide +kernel
abbrev y_mo_sort : MethodName := ⟨"PacketOrderModel", "sort", "(I)V"⟩
abbrev b_mo_sort : ByteArray := prog_8_method_25_code
theorem d_mo_sort_0 : decode b_mo_sort 0 = .ok (.iconst 0, 1) := by decide +kernel
theorem d_mo_sort_1 : decode b_mo_sort 1 = .ok (.istore_n 2, 1) := by decide +kernel
theorem d_mo_sort_2 : decode b_mo_sort 2 = .ok (.iload_n 2, 1) := by decide +kernel
theorem d_mo_sort_3 : decode b_mo_sort 3 = .ok (.aload_n 0, 1) := by decide +kernel
theorem d_mo_sort_4 : decode b_mo_sort 4 = .ok (.getfield 119, 3) := by decide +kernel
theorem d_mo_sort_7 : decode b_mo_sort 7 = .ok (.if_icmp .ge 16, 3) := by decide +kernel
theorem d_mo_sort_10 : decode b_mo_sort 10 = .ok (.aload_n 0, 1) := by decide +kernel
theorem d_mo_sort_11 : decode b_mo_sort 11 = .ok (.getfield 51, 3) := by decide +kernel
theorem d_mo_sort_14 : decode b_mo_sort 14 = .ok (.iload_n 2, 1) := by decide +kernel
theorem d_mo_sort_15 : decode b_mo_sort 15 = .ok (.iload_n 2, 1) := by decide +kernel
theorem d_mo_sort_16 : decode b_mo_sort 16 = .ok (.iastore, 1) := by decide +kernel
theorem d_mo_sort_17 : decode b_mo_sort 17 = .ok (.iinc 2 1, 3) := by decide +kernel
theorem d_mo_sort_20 : decode b_mo_sort 20 = .ok (.goto (-18), 3) := by decide +kernel
theorem d_mo_sort_23 : decode b_mo_sort 23 = .ok (.sipush 3280, 3) := by decide +kernel
theorem d_mo_sort_26 : decode b_mo_sort 26 = .ok (.istore_n 2, 1) := by decide +kernel
theorem d_mo_sort_27 : decode b_mo_sort 27 = .ok (.iload_n 2, 1) := by decide +kernel
theorem d_mo_sort_28 : decode b_mo_sort 28 = .ok (.ifCond .le 98, 3) := by decide +kernel
theorem d_mo_sort_31 : decode b_mo_sort 31 = .ok (.iload_n 2, 1) := by decide +kernel
theorem d_mo_sort_32 : decode b_mo_sort 32 = .ok (.istore_n 3, 1) := by decide +kernel
theorem d_mo_sort_33 : decode b_mo_sort 33 = .ok (.iload_n 3, 1) := by decide +kernel
theorem d_mo_sort_34 : decode b_mo_sort 34 = .ok (.aload_n 0, 1) := by decide +kernel
theorem d_mo_sort_35 : decode b_mo_sort 35 = .ok (.getfield 119, 3) := by decide +kernel
theorem d_mo_sort_38 : decode b_mo_sort 38 = .ok (.if_icmp .ge 79, 3) := by decide +kernel
theorem d_mo_sort_41 : decode b_mo_sort 41 = .ok (.aload_n 0, 1) := by decide +kernel
theorem d_mo_sort_42 : decode b_mo_sort 42 = .ok (.getfield 51, 3) := by decide +kernel
theorem d_mo_sort_45 : decode b_mo_sort 45 = .ok (.iload_n 3, 1) := by decide +kernel
theorem d_mo_sort_46 : decode b_mo_sort 46 = .ok (.iaload, 1) := by decide +kernel
theorem d_mo_sort_47 : decode b_mo_sort 47 = .ok (.istore 4, 2) := by decide +kernel
theorem d_mo_sort_49 : decode b_mo_sort 49 = .ok (.iload_n 3, 1) := by decide +kernel
theorem d_mo_sort_50 : decode b_mo_sort 50 = .ok (.istore 5, 2) := by decide +kernel
theorem d_mo_sort_52 : decode b_mo_sort 52 = .ok (.iload 5, 2) := by decide +kernel
theorem d_mo_sort_54 : decode b_mo_sort 54 = .ok (.iload_n 2, 1) := by decide +kernel
theorem d_mo_sort_55 : decode b_mo_sort 55 = .ok (.if_icmp .lt 47, 3) := by decide +kernel
theorem d_mo_sort_58 : decode b_mo_sort 58 = .ok (.aload_n 0, 1) := by decide +kernel
theorem d_mo_sort_59 : decode b_mo_sort 59 = .ok (.iload 4, 2) := by decide +kernel
theorem d_mo_sort_61 : decode b_mo_sort 61 = .ok (.aload_n 0, 1) := by decide +kernel
theorem d_mo_sort_62 : decode b_mo_sort 62 = .ok (.getfield 51, 3) := by decide +kernel
theorem d_mo_sort_65 : decode b_mo_sort 65 = .ok (.iload 5, 2) := by decide +kernel
theorem d_mo_sort_67 : decode b_mo_sort 67 = .ok (.iload_n 2, 1) := by decide +kernel
theorem d_mo_sort_68 : decode b_mo_sort 68 = .ok (.isub, 1) := by decide +kernel
theorem d_mo_sort_69 : decode b_mo_sort 69 = .ok (.iaload, 1) := by decide +kernel
theorem d_mo_sort_70 : decode b_mo_sort 70 = .ok (.iload_n 1, 1) := by decide +kernel
theorem d_mo_sort_71 : decode b_mo_sort 71 = .ok (.invokevirtual 160, 3) := by decide +kernel
theorem d_mo_sort_74 : decode b_mo_sort 74 = .ok (.ifCond .ge 28, 3) := by decide +kernel
theorem d_mo_sort_77 : decode b_mo_sort 77 = .ok (.aload_n 0, 1) := by decide +kernel
theorem d_mo_sort_78 : decode b_mo_sort 78 = .ok (.getfield 51, 3) := by decide +kernel
theorem d_mo_sort_81 : decode b_mo_sort 81 = .ok (.iload 5, 2) := by decide +kernel
theorem d_mo_sort_83 : decode b_mo_sort 83 = .ok (.aload_n 0, 1) := by decide +kernel
theorem d_mo_sort_84 : decode b_mo_sort 84 = .ok (.getfield 51, 3) := by decide +kernel
theorem d_mo_sort_87 : decode b_mo_sort 87 = .ok (.iload 5, 2) := by decide +kernel
theorem d_mo_sort_89 : decode b_mo_sort 89 = .ok (.iload_n 2, 1) := by decide +kernel
theorem d_mo_sort_90 : decode b_mo_sort 90 = .ok (.isub, 1) := by decide +kernel
theorem d_mo_sort_91 : decode b_mo_sort 91 = .ok (.iaload, 1) := by decide +kernel
theorem d_mo_sort_92 : decode b_mo_sort 92 = .ok (.iastore, 1) := by decide +kernel
theorem d_mo_sort_93 : decode b_mo_sort 93 = .ok (.iload 5, 2) := by decide +kernel
theorem d_mo_sort_95 : decode b_mo_sort 95 = .ok (.iload_n 2, 1) := by decide +kernel
theorem d_mo_sort_96 : decode b_mo_sort 96 = .ok (.isub, 1) := by decide +kernel
theorem d_mo_sort_97 : decode b_mo_sort 97 = .ok (.istore 5, 2) := by decide +kernel
theorem d_mo_sort_99 : decode b_mo_sort 99 = .ok (.goto (-47), 3) := by decide +kernel
theorem d_mo_sort_102 : decode b_mo_sort 102 = .ok (.aload_n 0, 1) := by decide +kernel
theorem d_mo_sort_103 : decode b_mo_sort 103 = .ok (.getfield 51, 3) := by decide +kernel
theorem d_mo_sort_106 : decode b_mo_sort 106 = .ok (.iload 5, 2) := by decide +kernel
theorem d_mo_sort_108 : decode b_mo_sort 108 = .ok (.iload 4, 2) := by decide +kernel
theorem d_mo_sort_110 : decode b_mo_sort 110 = .ok (.iastore, 1) := by decide +kernel
theorem d_mo_sort_111 : decode b_mo_sort 111 = .ok (.iinc 3 1, 3) := by decide +kernel
theorem d_mo_sort_114 : decode b_mo_sort 114 = .ok (.goto (-81), 3) := by decide +kernel
theorem d_mo_sort_117 : decode b_mo_sort 117 = .ok (.iload_n 2, 1) := by decide +kernel
theorem d_mo_sort_118 : decode b_mo_sort 118 = .ok (.iconst 1, 1) := by decide +kernel
theorem d_mo_sort_119 : decode b_mo_sort 119 = .ok (.isub, 1) := by decide +kernel
theorem d_mo_sort_120 : decode b_mo_sort 120 = .ok (.iconst 3, 1) := by decide +kernel
theorem d_mo_sort_121 : decode b_mo_sort 121 = .ok (.idiv, 1) := by decide +kernel
theorem d_mo_sort_122 : decode b_mo_sort 122 = .ok (.istore_n 2, 1) := by decide +kernel
theorem d_mo_sort_123 : decode b_mo_sort 123 = .ok (.goto (-96), 3) := by decide +kernel
theorem d_mo_sort_126 : decode b_mo_sort 126 = .ok (.return_, 1) := by decide +kernel
abbrev y_mo_orderNow : MethodName := ⟨"PacketOrderModel", "orderNow", "()I"⟩
abbrev b_mo_orderNow : ByteArray := prog_8_method_26_code
theorem d_mo_orderNow_0 : decode b_mo_orderNow 0 = .ok (.aload_n 0, 1) := by decide +kernel
theorem d_mo_orderNow_1 : decode b_mo_orderNow 1 = .ok (.getfield 90, 3) := by decide +kernel
theorem d_mo_orderNow_4 : decode b_mo_orderNow 4 = .ok (.ifCond .ne 10, 3) := by decide +kernel
theorem d_mo_orderNow_7 : decode b_mo_orderNow 7 = .ok (.aload_n 0, 1) := by decide +kernel
theorem d_mo_orderNow_8 : decode b_mo_orderNow 8 = .ok (.getfield 87, 3) := by decide +kernel
theorem d_mo_orderNow_11 : decode b_mo_orderNow 11 = .ok (.goto 17, 3) := by decide +kernel
theorem d_mo_orderNow_14 : decode b_mo_orderNow 14 = .ok (.aload_n 0, 1) := by decide +kernel
theorem d_mo_orderNow_15 : decode b_mo_orderNow 15 = .ok (.getfield 29, 3) := by decide +kernel
theorem d_mo_orderNow_18 : decode b_mo_orderNow 18 = .ok (.bipush 6, 2) := by decide +kernel
theorem d_mo_orderNow_20 : decode b_mo_orderNow 20 = .ok (.aload_n 0, 1) := by decide +kernel
theorem d_mo_orderNow_21 : decode b_mo_orderNow 21 = .ok (.getfield 138, 3) := by decide +kernel
theorem d_mo_orderNow_24 : decode b_mo_orderNow 24 = .ok (.imul, 1) := by decide +kernel
theorem d_mo_orderNow_25 : decode b_mo_orderNow 25 = .ok (.iconst 5, 1) := by decide +kernel
theorem d_mo_orderNow_26 : decode b_mo_orderNow 26 = .ok (.iadd, 1) := by decide +kernel
theorem d_mo_orderNow_27 : decode b_mo_orderNow 27 = .ok (.iaload, 1) := by decide +kernel
theorem d_mo_orderNow_28 : decode b_mo_orderNow 28 = .ok (.ireturn, 1) := by decide +kernel
abbrev y_mo_layerEnd : MethodName := ⟨"PacketOrderModel", "layerEnd", "()I"⟩
abbrev b_mo_layerEnd : ByteArray := prog_8_method_27_code
theorem d_mo_layerEnd_0 : decode b_mo_layerEnd 0 = .ok (.aload_n 0, 1) := by decide +kernel
theorem d_mo_layerEnd_1 : decode b_mo_layerEnd 1 = .ok (.getfield 90, 3) := by decide +kernel
theorem d_mo_layerEnd_4 : decode b_mo_layerEnd 4 = .ok (.ifCond .ne 9, 3) := by decide +kernel
theorem d_mo_layerEnd_7 : decode b_mo_layerEnd 7 = .ok (.sipush 255, 3) := by decide +kernel
theorem d_mo_layerEnd_10 : decode b_mo_layerEnd 10 = .ok (.goto 17, 3) := by decide +kernel
theorem d_mo_layerEnd_13 : decode b_mo_layerEnd 13 = .ok (.aload_n 0, 1) := by decide +kernel
theorem d_mo_layerEnd_14 : decode b_mo_layerEnd 14 = .ok (.getfield 29, 3) := by decide +kernel
theorem d_mo_layerEnd_17 : decode b_mo_layerEnd 17 = .ok (.bipush 6, 2) := by decide +kernel
theorem d_mo_layerEnd_19 : decode b_mo_layerEnd 19 = .ok (.aload_n 0, 1) := by decide +kernel
theorem d_mo_layerEnd_20 : decode b_mo_layerEnd 20 = .ok (.getfield 138, 3) := by decide +kernel
theorem d_mo_layerEnd_23 : decode b_mo_layerEnd 23 = .ok (.imul, 1) := by decide +kernel
theorem d_mo_layerEnd_24 : decode b_mo_layerEnd 24 = .ok (.iconst 4, 1) := by decide +kernel
theorem d_mo_layerEnd_25 : decode b_mo_layerEnd 25 = .ok (.iadd, 1) := by decide +kernel
theorem d_mo_layerEnd_26 : decode b_mo_layerEnd 26 = .ok (.iaload, 1) := by decide +kernel
theorem d_mo_layerEnd_27 : decode b_mo_layerEnd 27 = .ok (.istore_n 1, 1) := by decide +kernel
theorem d_mo_layerEnd_28 : decode b_mo_layerEnd 28 = .ok (.iload_n 1, 1) := by decide +kernel
theorem d_mo_layerEnd_29 : decode b_mo_layerEnd 29 = .ok (.aload_n 0, 1) := by decide +kernel
theorem d_mo_layerEnd_30 : decode b_mo_layerEnd 30 = .ok (.getfield 25, 3) := by decide +kernel
theorem d_mo_layerEnd_33 : decode b_mo_layerEnd 33 = .ok (.if_icmp .ge 7, 3) := by decide +kernel
theorem d_mo_layerEnd_36 : decode b_mo_layerEnd 36 = .ok (.iload_n 1, 1) := by decide +kernel
theorem d_mo_layerEnd_37 : decode b_mo_layerEnd 37 = .ok (.goto 7, 3) := by decide +kernel
theorem d_mo_layerEnd_40 : decode b_mo_layerEnd 40 = .ok (.aload_n 0, 1) := by decide +kernel
theorem d_mo_layerEnd_41 : decode b_mo_layerEnd 41 = .ok (.getfield 25, 3) := by decide +kernel
theorem d_mo_layerEnd_44 : decode b_mo_layerEnd 44 = .ok (.ireturn, 1) := by decide +kernel
abbrev y_mo_ways : MethodName := ⟨"PacketOrderModel", "ways", "()I"⟩
abbrev b_mo_ways : ByteArray := prog_8_method_28_code
theorem d_mo_ways_0 : decode b_mo_ways 0 = .ok (.aload_n 0, 1) := by decide +kernel
theorem d_mo_ways_1 : decode b_mo_ways 1 = .ok (.getfield 90, 3) := by decide +kernel
theorem d_mo_ways_4 : decode b_mo_ways 4 = .ok (.ifCond .ne 7, 3) := by decide +kernel
theorem d_mo_ways_7 : decode b_mo_ways 7 = .ok (.iconst 1, 1) := by decide +kernel
theorem d_mo_ways_8 : decode b_mo_ways 8 = .ok (.goto 7, 3) := by decide +kernel
theorem d_mo_ways_11 : decode b_mo_ways 11 = .ok (.aload_n 0, 1) := by decide +kernel
theorem d_mo_ways_12 : decode b_mo_ways 12 = .ok (.getfield 90, 3) := by decide +kernel
theorem d_mo_ways_15 : decode b_mo_ways 15 = .ok (.ireturn, 1) := by decide +kernel
abbrev y_mo_belongs : MethodName := ⟨"PacketOrderModel", "belongs", "(I)Z"⟩
abbrev b_mo_belongs : ByteArray := prog_8_method_29_code
theorem d_mo_belongs_0 : decode b_mo_belongs 0 = .ok (.aload_n 0, 1) := by decide +kernel
theorem d_mo_belongs_1 : decode b_mo_belongs 1 = .ok (.getfield 90, 3) := by decide +kernel
theorem d_mo_belongs_4 : decode b_mo_belongs 4 = .ok (.ifCond .ne 5, 3) := by decide +kernel
theorem d_mo_belongs_7 : decode b_mo_belongs 7 = .ok (.iconst 1, 1) := by decide +kernel
theorem d_mo_belongs_8 : decode b_mo_belongs 8 = .ok (.ireturn, 1) := by decide +kernel
theorem d_mo_belongs_9 : decode b_mo_belongs 9 = .ok (.bipush 6, 2) := by decide +kernel
theorem d_mo_belongs_11 : decode b_mo_belongs 11 = .ok (.aload_n 0, 1) := by decide +kernel
theorem d_mo_belongs_12 : decode b_mo_belongs 12 = .ok (.getfield 138, 3) := by decide +kernel
theorem d_mo_belongs_15 : decode b_mo_belongs 15 = .ok (.imul, 1) := by decide +kernel
theorem d_mo_belongs_16 : decode b_mo_belongs 16 = .ok (.istore_n 2, 1) := by decide +kernel
theorem d_mo_belongs_17 : decode b_mo_belongs 17 = .ok (.aload_n 0, 1) := by decide +kernel
theorem d_mo_belongs_18 : decode b_mo_belongs 18 = .ok (.getfield 35, 3) := by decide +kernel
theorem d_mo_belongs_21 : decode b_mo_belongs 21 = .ok (.iload_n 1, 1) := by decide +kernel
theorem d_mo_belongs_22 : decode b_mo_belongs 22 = .ok (.iaload, 1) := by decide +kernel
theorem d_mo_belongs_23 : decode b_mo_belongs 23 = .ok (.aload_n 0, 1) := by decide +kernel
theorem d_mo_belongs_24 : decode b_mo_belongs 24 = .ok (.getfield 29, 3) := by decide +kernel
theorem d_mo_belongs_27 : decode b_mo_belongs 27 = .ok (.iload_n 2, 1) := by decide +kernel
theorem d_mo_belongs_28 : decode b_mo_belongs 28 = .ok (.iaload, 1) := by decide +kernel
theorem d_mo_belongs_29 : decode b_mo_belongs 29 = .ok (.if_icmp .lt 58, 3) := by decide +kernel
theorem d_mo_belongs_32 : decode b_mo_belongs 32 = .ok (.aload_n 0, 1) := by decide +kernel
theorem d_mo_belongs_33 : decode b_mo_belongs 33 = .ok (.getfield 35, 3) := by decide +kernel
theorem d_mo_belongs_36 : decode b_mo_belongs 36 = .ok (.iload_n 1, 1) := by decide +kernel
theorem d_mo_belongs_37 : decode b_mo_belongs 37 = .ok (.iaload, 1) := by decide +kernel
theorem d_mo_belongs_38 : decode b_mo_belongs 38 = .ok (.aload_n 0, 1) := by decide +kernel
theorem d_mo_belongs_39 : decode b_mo_belongs 39 = .ok (.getfield 29, 3) := by decide +kernel
theorem d_mo_belongs_42 : decode b_mo_belongs 42 = .ok (.iload_n 2, 1) := by decide +kernel
theorem d_mo_belongs_43 : decode b_mo_belongs 43 = .ok (.iconst 1, 1) := by decide +kernel
theorem d_mo_belongs_44 : decode b_mo_belongs 44 = .ok (.iadd, 1) := by decide +kernel
theorem d_mo_belongs_45 : decode b_mo_belongs 45 = .ok (.iaload, 1) := by decide +kernel
theorem d_mo_belongs_46 : decode b_mo_belongs 46 = .ok (.if_icmp .ge 41, 3) := by decide +kernel
theorem d_mo_belongs_49 : decode b_mo_belongs 49 = .ok (.aload_n 0, 1) := by decide +kernel
theorem d_mo_belongs_50 : decode b_mo_belongs 50 = .ok (.getfield 32, 3) := by decide +kernel
theorem d_mo_belongs_53 : decode b_mo_belongs 53 = .ok (.iload_n 1, 1) := by decide +kernel
theorem d_mo_belongs_54 : decode b_mo_belongs 54 = .ok (.iaload, 1) := by decide +kernel
theorem d_mo_belongs_55 : decode b_mo_belongs 55 = .ok (.aload_n 0, 1) := by decide +kernel
theorem d_mo_belongs_56 : decode b_mo_belongs 56 = .ok (.getfield 29, 3) := by decide +kernel
theorem d_mo_belongs_59 : decode b_mo_belongs 59 = .ok (.iload_n 2, 1) := by decide +kernel
theorem d_mo_belongs_60 : decode b_mo_belongs 60 = .ok (.iconst 2, 1) := by decide +kernel
theorem d_mo_belongs_61 : decode b_mo_belongs 61 = .ok (.iadd, 1) := by decide +kernel
theorem d_mo_belongs_62 : decode b_mo_belongs 62 = .ok (.iaload, 1) := by decide +kernel
theorem d_mo_belongs_63 : decode b_mo_belongs 63 = .ok (.if_icmp .lt 24, 3) := by decide +kernel
theorem d_mo_belongs_66 : decode b_mo_belongs 66 = .ok (.aload_n 0, 1) := by decide +kernel
theorem d_mo_belongs_67 : decode b_mo_belongs 67 = .ok (.getfield 32, 3) := by decide +kernel
theorem d_mo_belongs_70 : decode b_mo_belongs 70 = .ok (.iload_n 1, 1) := by decide +kernel
theorem d_mo_belongs_71 : decode b_mo_belongs 71 = .ok (.iaload, 1) := by decide +kernel
theorem d_mo_belongs_72 : decode b_mo_belongs 72 = .ok (.aload_n 0, 1) := by decide +kernel
theorem d_mo_belongs_73 : decode b_mo_belongs 73 = .ok (.getfield 29, 3) := by decide +kernel
theorem d_mo_belongs_76 : decode b_mo_belongs 76 = .ok (.iload_n 2, 1) := by decide +kernel
theorem d_mo_belongs_77 : decode b_mo_belongs 77 = .ok (.iconst 3, 1) := by decide +kernel
theorem d_mo_belongs_78 : decode b_mo_belongs 78 = .ok (.iadd, 1) := by decide +kernel
theorem d_mo_belongs_79 : decode b_mo_belongs 79 = .ok (.iaload, 1) := by decide +kernel
theorem d_mo_belongs_80 : decode b_mo_belongs 80 = .ok (.if_icmp .ge 7, 3) := by decide +kernel
theorem d_mo_belongs_83 : decode b_mo_belongs 83 = .ok (.iconst 1, 1) := by decide +kernel
theorem d_mo_belongs_84 : decode b_mo_belongs 84 = .ok (.goto 4, 3) := by decide +kernel
theorem d_mo_belongs_87 : decode b_mo_belongs 87 = .ok (.iconst 0, 1) := by decide +kernel
theorem d_mo_belongs_88 : decode b_mo_belongs 88 = .ok (.ireturn, 1) := by decide +kernel
abbrev y_mo_enter : MethodName := ⟨"PacketOrderModel", "enter", "()V"⟩
abbrev b_mo_enter : ByteArray := prog_8_method_30_code
theorem d_mo_enter_0 : decode b_mo_enter 0 = .ok (.aload_n 0, 1) := by decide +kernel
theorem d_mo_enter_1 : decode b_mo_enter 1 = .ok (.getfield 138, 3) := by decide +kernel
theorem d_mo_enter_4 : decode b_mo_enter 4 = .ok (.aload_n 0, 1) := by decide +kernel
theorem d_mo_enter_5 : decode b_mo_enter 5 = .ok (.invokevirtual 164, 3) := by decide +kernel
theorem d_mo_enter_8 : decode b_mo_enter 8 = .ok (.if_icmp .lt 4, 3) := by decide +kernel
theorem d_mo_enter_11 : decode b_mo_enter 11 = .ok (.return_, 1) := by decide +kernel
theorem d_mo_enter_12 : decode b_mo_enter 12 = .ok (.aload_n 0, 1) := by decide +kernel
theorem d_mo_enter_13 : decode b_mo_enter 13 = .ok (.aload_n 0, 1) := by decide +kernel
theorem d_mo_enter_14 : decode b_mo_enter 14 = .ok (.invokevirtual 168, 3) := by decide +kernel
theorem d_mo_enter_17 : decode b_mo_enter 17 = .ok (.invokevirtual 171, 3) := by decide +kernel
theorem d_mo_enter_20 : decode b_mo_enter 20 = .ok (.aload_n 0, 1) := by decide +kernel
theorem d_mo_enter_21 : decode b_mo_enter 21 = .ok (.iconst 0, 1) := by decide +kernel
theorem d_mo_enter_22 : decode b_mo_enter 22 = .ok (.putfield 175, 3) := by decide +kernel
theorem d_mo_enter_25 : decode b_mo_enter 25 = .ok (.aload_n 0, 1) := by decide +kernel
theorem d_mo_enter_26 : decode b_mo_enter 26 = .ok (.invokevirtual 178, 3) := by decide +kernel
theorem d_mo_enter_29 : decode b_mo_enter 29 = .ok (.aload_n 0, 1) := by decide +kernel
theorem d_mo_enter_30 : decode b_mo_enter 30 = .ok (.iconst 0, 1) := by decide +kernel
theorem d_mo_enter_31 : decode b_mo_enter 31 = .ok (.putfield 181, 3) := by decide +kernel
theorem d_mo_enter_34 : decode b_mo_enter 34 = .ok (.aload_n 0, 1) := by decide +kernel
theorem d_mo_enter_35 : decode b_mo_enter 35 = .ok (.iconst 0, 1) := by decide +kernel
theorem d_mo_enter_36 : decode b_mo_enter 36 = .ok (.putfield 184, 3) := by decide +kernel
theorem d_mo_enter_39 : decode b_mo_enter 39 = .ok (.return_, 1) := by decide +kernel
abbrev y_mo_findGroup : MethodName := ⟨"PacketOrderModel", "findGroup", "()V"⟩
abbrev b_mo_findGroup : ByteArray := prog_8_method_31_code
theorem d_mo_findGroup_0 : decode b_mo_findGroup 0 = .ok (.aload_n 0, 1) := by decide +kernel
theorem d_mo_findGroup_1 : decode b_mo_findGroup 1 = .ok (.invokevirtual 168, 3) := by decide +kernel
theorem d_mo_findGroup_4 : decode b_mo_findGroup 4 = .ok (.istore_n 1, 1) := by decide +kernel
theorem d_mo_findGroup_5 : decode b_mo_findGroup 5 = .ok (.aload_n 0, 1) := by decide +kernel
theorem d_mo_findGroup_6 : decode b_mo_findGroup 6 = .ok (.iload_n 1, 1) := by decide +kernel
theorem d_mo_findGroup_7 : decode b_mo_findGroup 7 = .ok (.ifCond .ne 10, 3) := by decide +kernel
theorem d_mo_findGroup_10 : decode b_mo_findGroup 10 = .ok (.aload_n 0, 1) := by decide +kernel
theorem d_mo_findGroup_11 : decode b_mo_findGroup 11 = .ok (.getfield 119, 3) := by decide +kernel
theorem d_mo_findGroup_14 : decode b_mo_findGroup 14 = .ok (.goto 9, 3) := by decide +kernel
theorem d_mo_findGroup_17 : decode b_mo_findGroup 17 = .ok (.aload_n 0, 1) := by decide +kernel
theorem d_mo_findGroup_18 : decode b_mo_findGroup 18 = .ok (.getfield 175, 3) := by decide +kernel
theorem d_mo_findGroup_21 : decode b_mo_findGroup 21 = .ok (.iconst 1, 1) := by decide +kernel
theorem d_mo_findGroup_22 : decode b_mo_findGroup 22 = .ok (.iadd, 1) := by decide +kernel
theorem d_mo_findGroup_23 : decode b_mo_findGroup 23 = .ok (.putfield 187, 3) := by decide +kernel
theorem d_mo_findGroup_26 : decode b_mo_findGroup 26 = .ok (.iload_n 1, 1) := by decide +kernel
theorem d_mo_findGroup_27 : decode b_mo_findGroup 27 = .ok (.iconst 1, 1) := by decide +kernel
theorem d_mo_findGroup_28 : decode b_mo_findGroup 28 = .ok (.if_icmp .ne 58, 3) := by decide +kernel
theorem d_mo_findGroup_31 : decode b_mo_findGroup 31 = .ok (.aload_n 0, 1) := by decide +kernel
theorem d_mo_findGroup_32 : decode b_mo_findGroup 32 = .ok (.getfield 187, 3) := by decide +kernel
theorem d_mo_findGroup_35 : decode b_mo_findGroup 35 = .ok (.aload_n 0, 1) := by decide +kernel
theorem d_mo_findGroup_36 : decode b_mo_findGroup 36 = .ok (.getfield 119, 3) := by decide +kernel
theorem d_mo_findGroup_39 : decode b_mo_findGroup 39 = .ok (.if_icmp .ge 47, 3) := by decide +kernel
theorem d_mo_findGroup_42 : decode b_mo_findGroup 42 = .ok (.aload_n 0, 1) := by decide +kernel
theorem d_mo_findGroup_43 : decode b_mo_findGroup 43 = .ok (.getfield 35, 3) := by decide +kernel
theorem d_mo_findGroup_46 : decode b_mo_findGroup 46 = .ok (.aload_n 0, 1) := by decide +kernel
theorem d_mo_findGroup_47 : decode b_mo_findGroup 47 = .ok (.getfield 51, 3) := by decide +kernel
theorem d_mo_findGroup_50 : decode b_mo_findGroup 50 = .ok (.aload_n 0, 1) := by decide +kernel
theorem d_mo_findGroup_51 : decode b_mo_findGroup 51 = .ok (.getfield 187, 3) := by decide +kernel
theorem d_mo_findGroup_54 : decode b_mo_findGroup 54 = .ok (.iaload, 1) := by decide +kernel
theorem d_mo_findGroup_55 : decode b_mo_findGroup 55 = .ok (.iaload, 1) := by decide +kernel
theorem d_mo_findGroup_56 : decode b_mo_findGroup 56 = .ok (.aload_n 0, 1) := by decide +kernel
theorem d_mo_findGroup_57 : decode b_mo_findGroup 57 = .ok (.getfield 35, 3) := by decide +kernel
theorem d_mo_findGroup_60 : decode b_mo_findGroup 60 = .ok (.aload_n 0, 1) := by decide +kernel
theorem d_mo_findGroup_61 : decode b_mo_findGroup 61 = .ok (.getfield 51, 3) := by decide +kernel
theorem d_mo_findGroup_64 : decode b_mo_findGroup 64 = .ok (.aload_n 0, 1) := by decide +kernel
theorem d_mo_findGroup_65 : decode b_mo_findGroup 65 = .ok (.getfield 175, 3) := by decide +kernel
theorem d_mo_findGroup_68 : decode b_mo_findGroup 68 = .ok (.iaload, 1) := by decide +kernel
theorem d_mo_findGroup_69 : decode b_mo_findGroup 69 = .ok (.iaload, 1) := by decide +kernel
theorem d_mo_findGroup_70 : decode b_mo_findGroup 70 = .ok (.if_icmp .ne 16, 3) := by decide +kernel
theorem d_mo_findGroup_73 : decode b_mo_findGroup 73 = .ok (.aload_n 0, 1) := by decide +kernel
theorem d_mo_findGroup_74 : decode b_mo_findGroup 74 = .ok (.dup, 1) := by decide +kernel
theorem d_mo_findGroup_75 : decode b_mo_findGroup 75 = .ok (.getfield 187, 3) := by decide +kernel
theorem d_mo_findGroup_78 : decode b_mo_findGroup 78 = .ok (.iconst 1, 1) := by decide +kernel
theorem d_mo_findGroup_79 : decode b_mo_findGroup 79 = .ok (.iadd, 1) := by decide +kernel
theorem d_mo_findGroup_80 : decode b_mo_findGroup 80 = .ok (.putfield 187, 3) := by decide +kernel
theorem d_mo_findGroup_83 : decode b_mo_findGroup 83 = .ok (.goto (-57), 3) := by decide +kernel
theorem d_mo_findGroup_86 : decode b_mo_findGroup 86 = .ok (.return_, 1) := by decide +kernel
abbrev y_mo_move : MethodName := ⟨"PacketOrderModel", "move", "()V"⟩
abbrev b_mo_move : ByteArray := prog_8_method_32_code
theorem d_mo_move_0 : decode b_mo_move 0 = .ok (.aload_n 0, 1) := by decide +kernel
theorem d_mo_move_1 : decode b_mo_move 1 = .ok (.dup, 1) := by decide +kernel
theorem d_mo_move_2 : decode b_mo_move 2 = .ok (.getfield 184, 3) := by decide +kernel
theorem d_mo_move_5 : decode b_mo_move 5 = .ok (.iconst 1, 1) := by decide +kernel
theorem d_mo_move_6 : decode b_mo_move 6 = .ok (.iadd, 1) := by decide +kernel
theorem d_mo_move_7 : decode b_mo_move 7 = .ok (.putfield 184, 3) := by decide +kernel
theorem d_mo_move_10 : decode b_mo_move 10 = .ok (.aload_n 0, 1) := by decide +kernel
theorem d_mo_move_11 : decode b_mo_move 11 = .ok (.getfield 184, 3) := by decide +kernel
theorem d_mo_move_14 : decode b_mo_move 14 = .ok (.aload_n 0, 1) := by decide +kernel
theorem d_mo_move_15 : decode b_mo_move 15 = .ok (.getfield 187, 3) := by decide +kernel
theorem d_mo_move_18 : decode b_mo_move 18 = .ok (.if_icmp .ge 4, 3) := by decide +kernel
theorem d_mo_move_21 : decode b_mo_move 21 = .ok (.return_, 1) := by decide +kernel
theorem d_mo_move_22 : decode b_mo_move 22 = .ok (.aload_n 0, 1) := by decide +kernel
theorem d_mo_move_23 : decode b_mo_move 23 = .ok (.dup, 1) := by decide +kernel
theorem d_mo_move_24 : decode b_mo_move 24 = .ok (.getfield 181, 3) := by decide +kernel
theorem d_mo_move_27 : decode b_mo_move 27 = .ok (.iconst 1, 1) := by decide +kernel
theorem d_mo_move_28 : decode b_mo_move 28 = .ok (.iadd, 1) := by decide +kernel
theorem d_mo_move_29 : decode b_mo_move 29 = .ok (.putfield 181, 3) := by decide +kernel
theorem d_mo_move_32 : decode b_mo_move 32 = .ok (.aload_n 0, 1) := by decide +kernel
theorem d_mo_move_33 : decode b_mo_move 33 = .ok (.aload_n 0, 1) := by decide +kernel
theorem d_mo_move_34 : decode b_mo_move 34 = .ok (.getfield 175, 3) := by decide +kernel
theorem d_mo_move_37 : decode b_mo_move 37 = .ok (.putfield 184, 3) := by decide +kernel
theorem d_mo_move_40 : decode b_mo_move 40 = .ok (.aload_n 0, 1) := by decide +kernel
theorem d_mo_move_41 : decode b_mo_move 41 = .ok (.getfield 181, 3) := by decide +kernel
theorem d_mo_move_44 : decode b_mo_move 44 = .ok (.aload_n 0, 1) := by decide +kernel
theorem d_mo_move_45 : decode b_mo_move 45 = .ok (.invokevirtual 190, 3) := by decide +kernel
theorem d_mo_move_48 : decode b_mo_move 48 = .ok (.if_icmp .ge 4, 3) := by decide +kernel
theorem d_mo_move_51 : decode b_mo_move 51 = .ok (.return_, 1) := by decide +kernel
theorem d_mo_move_52 : decode b_mo_move 52 = .ok (.aload_n 0, 1) := by decide +kernel
theorem d_mo_move_53 : decode b_mo_move 53 = .ok (.iconst 0, 1) := by decide +kernel
theorem d_mo_move_54 : decode b_mo_move 54 = .ok (.putfield 181, 3) := by decide +kernel
theorem d_mo_move_57 : decode b_mo_move 57 = .ok (.aload_n 0, 1) := by decide +kernel
theorem d_mo_move_58 : decode b_mo_move 58 = .ok (.aload_n 0, 1) := by decide +kernel
theorem d_mo_move_59 : decode b_mo_move 59 = .ok (.getfield 187, 3) := by decide +kernel
theorem d_mo_move_62 : decode b_mo_move 62 = .ok (.putfield 175, 3) := by decide +kernel
theorem d_mo_move_65 : decode b_mo_move 65 = .ok (.aload_n 0, 1) := by decide +kernel
theorem d_mo_move_66 : decode b_mo_move 66 = .ok (.aload_n 0, 1) := by decide +kernel
theorem d_mo_move_67 : decode b_mo_move 67 = .ok (.getfield 175, 3) := by decide +kernel
theorem d_mo_move_70 : decode b_mo_move 70 = .ok (.putfield 184, 3) := by decide +kernel
theorem d_mo_move_73 : decode b_mo_move 73 = .ok (.aload_n 0, 1) := by decide +kernel
theorem d_mo_move_74 : decode b_mo_move 74 = .ok (.getfield 175, 3) := by decide +kernel
theorem d_mo_move_77 : decode b_mo_move 77 = .ok (.aload_n 0, 1) := by decide +kernel
theorem d_mo_move_78 : decode b_mo_move 78 = .ok (.getfield 119, 3) := by decide +kernel
theorem d_mo_move_81 : decode b_mo_move 81 = .ok (.if_icmp .ge 10, 3) := by decide +kernel
theorem d_mo_move_84 : decode b_mo_move 84 = .ok (.aload_n 0, 1) := by decide +kernel
theorem d_mo_move_85 : decode b_mo_move 85 = .ok (.invokevirtual 178, 3) := by decide +kernel
theorem d_mo_move_88 : decode b_mo_move 88 = .ok (.goto 17, 3) := by decide +kernel
theorem d_mo_move_91 : decode b_mo_move 91 = .ok (.aload_n 0, 1) := by decide +kernel
theorem d_mo_move_92 : decode b_mo_move 92 = .ok (.dup, 1) := by decide +kernel
theorem d_mo_move_93 : decode b_mo_move 93 = .ok (.getfield 138, 3) := by decide +kernel
theorem d_mo_move_96 : decode b_mo_move 96 = .ok (.iconst 1, 1) := by decide +kernel
theorem d_mo_move_97 : decode b_mo_move 97 = .ok (.iadd, 1) := by decide +kernel
theorem d_mo_move_98 : decode b_mo_move 98 = .ok (.putfield 138, 3) := by decide +kernel
theorem d_mo_move_101 : decode b_mo_move 101 = .ok (.aload_n 0, 1) := by decide +kernel
theorem d_mo_move_102 : decode b_mo_move 102 = .ok (.invokevirtual 141, 3) := by decide +kernel
theorem d_mo_move_105 : decode b_mo_move 105 = .ok (.return_, 1) := by decide +kernel
abbrev y_mo_advance : MethodName := ⟨"PacketOrderModel", "advance", "()Z"⟩
abbrev b_mo_advance : ByteArray := prog_8_method_33_code
theorem d_mo_advance_0 : decode b_mo_advance 0 = .ok (.iconst 0, 1) := by decide +kernel
theorem d_mo_advance_1 : decode b_mo_advance 1 = .ok (.istore_n 1, 1) := by decide +kernel
theorem d_mo_advance_2 : decode b_mo_advance 2 = .ok (.iload_n 1, 1) := by decide +kernel
theorem d_mo_advance_3 : decode b_mo_advance 3 = .ok (.ifCond .ne 105, 3) := by decide +kernel
theorem d_mo_advance_6 : decode b_mo_advance 6 = .ok (.aload_n 0, 1) := by decide +kernel
theorem d_mo_advance_7 : decode b_mo_advance 7 = .ok (.getfield 138, 3) := by decide +kernel
theorem d_mo_advance_10 : decode b_mo_advance 10 = .ok (.aload_n 0, 1) := by decide +kernel
theorem d_mo_advance_11 : decode b_mo_advance 11 = .ok (.invokevirtual 164, 3) := by decide +kernel
theorem d_mo_advance_14 : decode b_mo_advance 14 = .ok (.if_icmp .ge 94, 3) := by decide +kernel
theorem d_mo_advance_17 : decode b_mo_advance 17 = .ok (.aload_n 0, 1) := by decide +kernel
theorem d_mo_advance_18 : decode b_mo_advance 18 = .ok (.getfield 119, 3) := by decide +kernel
theorem d_mo_advance_21 : decode b_mo_advance 21 = .ok (.ifCond .le 87, 3) := by decide +kernel
theorem d_mo_advance_24 : decode b_mo_advance 24 = .ok (.aload_n 0, 1) := by decide +kernel
theorem d_mo_advance_25 : decode b_mo_advance 25 = .ok (.getfield 51, 3) := by decide +kernel
theorem d_mo_advance_28 : decode b_mo_advance 28 = .ok (.aload_n 0, 1) := by decide +kernel
theorem d_mo_advance_29 : decode b_mo_advance 29 = .ok (.getfield 184, 3) := by decide +kernel
theorem d_mo_advance_32 : decode b_mo_advance 32 = .ok (.iaload, 1) := by decide +kernel
theorem d_mo_advance_33 : decode b_mo_advance 33 = .ok (.istore_n 2, 1) := by decide +kernel
theorem d_mo_advance_34 : decode b_mo_advance 34 = .ok (.aload_n 0, 1) := by decide +kernel
theorem d_mo_advance_35 : decode b_mo_advance 35 = .ok (.iload_n 2, 1) := by decide +kernel
theorem d_mo_advance_36 : decode b_mo_advance 36 = .ok (.invokevirtual 193, 3) := by decide +kernel
theorem d_mo_advance_39 : decode b_mo_advance 39 = .ok (.ifCond .eq 20, 3) := by decide +kernel
theorem d_mo_advance_42 : decode b_mo_advance 42 = .ok (.aload_n 0, 1) := by decide +kernel
theorem d_mo_advance_43 : decode b_mo_advance 43 = .ok (.getfield 48, 3) := by decide +kernel
theorem d_mo_advance_46 : decode b_mo_advance 46 = .ok (.iload_n 2, 1) := by decide +kernel
theorem d_mo_advance_47 : decode b_mo_advance 47 = .ok (.iaload, 1) := by decide +kernel
theorem d_mo_advance_48 : decode b_mo_advance 48 = .ok (.aload_n 0, 1) := by decide +kernel
theorem d_mo_advance_49 : decode b_mo_advance 49 = .ok (.getfield 181, 3) := by decide +kernel
theorem d_mo_advance_52 : decode b_mo_advance 52 = .ok (.if_icmp .ne 7, 3) := by decide +kernel
theorem d_mo_advance_55 : decode b_mo_advance 55 = .ok (.iconst 1, 1) := by decide +kernel
theorem d_mo_advance_56 : decode b_mo_advance 56 = .ok (.goto 4, 3) := by decide +kernel
theorem d_mo_advance_59 : decode b_mo_advance 59 = .ok (.iconst 0, 1) := by decide +kernel
theorem d_mo_advance_60 : decode b_mo_advance 60 = .ok (.istore_n 1, 1) := by decide +kernel
theorem d_mo_advance_61 : decode b_mo_advance 61 = .ok (.iload_n 1, 1) := by decide +kernel
theorem d_mo_advance_62 : decode b_mo_advance 62 = .ok (.ifCond .eq 39, 3) := by decide +kernel
theorem d_mo_advance_65 : decode b_mo_advance 65 = .ok (.aload_n 0, 1) := by decide +kernel
theorem d_mo_advance_66 : decode b_mo_advance 66 = .ok (.iload_n 2, 1) := by decide +kernel
theorem d_mo_advance_67 : decode b_mo_advance 67 = .ok (.putfield 197, 3) := by decide +kernel
theorem d_mo_advance_70 : decode b_mo_advance 70 = .ok (.aload_n 0, 1) := by decide +kernel
theorem d_mo_advance_71 : decode b_mo_advance 71 = .ok (.aload_n 0, 1) := by decide +kernel
theorem d_mo_advance_72 : decode b_mo_advance 72 = .ok (.getfield 181, 3) := by decide +kernel
theorem d_mo_advance_75 : decode b_mo_advance 75 = .ok (.putfield 200, 3) := by decide +kernel
theorem d_mo_advance_78 : decode b_mo_advance 78 = .ok (.aload_n 0, 1) := by decide +kernel
theorem d_mo_advance_79 : decode b_mo_advance 79 = .ok (.aload_n 0, 1) := by decide +kernel
theorem d_mo_advance_80 : decode b_mo_advance 80 = .ok (.getfield 138, 3) := by decide +kernel
theorem d_mo_advance_83 : decode b_mo_advance 83 = .ok (.putfield 203, 3) := by decide +kernel
theorem d_mo_advance_86 : decode b_mo_advance 86 = .ok (.aload_n 0, 1) := by decide +kernel
theorem d_mo_advance_87 : decode b_mo_advance 87 = .ok (.getfield 48, 3) := by decide +kernel
theorem d_mo_advance_90 : decode b_mo_advance 90 = .ok (.iload_n 2, 1) := by decide +kernel
theorem d_mo_advance_91 : decode b_mo_advance 91 = .ok (.dup2, 1) := by decide +kernel
theorem d_mo_advance_92 : decode b_mo_advance 92 = .ok (.iaload, 1) := by decide +kernel
theorem d_mo_advance_93 : decode b_mo_advance 93 = .ok (.iconst 1, 1) := by decide +kernel
theorem d_mo_advance_94 : decode b_mo_advance 94 = .ok (.iadd, 1) := by decide +kernel
theorem d_mo_advance_95 : decode b_mo_advance 95 = .ok (.iastore, 1) := by decide +kernel
theorem d_mo_advance_96 : decode b_mo_advance 96 = .ok (.aload_n 0, 1) := by decide +kernel
theorem d_mo_advance_97 : decode b_mo_advance 97 = .ok (.iconst 1, 1) := by decide +kernel
theorem d_mo_advance_98 : decode b_mo_advance 98 = .ok (.putfield 135, 3) := by decide +kernel
theorem d_mo_advance_101 : decode b_mo_advance 101 = .ok (.aload_n 0, 1) := by decide +kernel
theorem d_mo_advance_102 : decode b_mo_advance 102 = .ok (.invokevirtual 206, 3) := by decide +kernel
theorem d_mo_advance_105 : decode b_mo_advance 105 = .ok (.goto (-103), 3) := by decide +kernel
theorem d_mo_advance_108 : decode b_mo_advance 108 = .ok (.iload_n 1, 1) := by decide +kernel
theorem d_mo_advance_109 : decode b_mo_advance 109 = .ok (.ireturn, 1) := by decide +kernel
abbrev y_mo_next : MethodName := ⟨"PacketOrderModel", "next", "()Z"⟩
abbrev b_mo_next : ByteArray := prog_8_method_34_code
theorem d_mo_next_0 : decode b_mo_next 0 = .ok (.aload_n 0, 1) := by decide +kernel
theorem d_mo_next_1 : decode b_mo_next 1 = .ok (.aload_n 0, 1) := by decide +kernel
theorem d_mo_next_2 : decode b_mo_next 2 = .ok (.getfield 77, 3) := by decide +kernel
theorem d_mo_next_5 : decode b_mo_next 5 = .ok (.ifCond .ne 7, 3) := by decide +kernel
theorem d_mo_next_8 : decode b_mo_next 8 = .ok (.iconst 1, 1) := by decide +kernel
theorem d_mo_next_9 : decode b_mo_next 9 = .ok (.goto 4, 3) := by decide +kernel
theorem d_mo_next_12 : decode b_mo_next 12 = .ok (.iconst 0, 1) := by decide +kernel
theorem d_mo_next_13 : decode b_mo_next 13 = .ok (.iconst 0, 1) := by decide +kernel
theorem d_mo_next_14 : decode b_mo_next 14 = .ok (.invokevirtual 57, 3) := by decide +kernel
theorem d_mo_next_17 : decode b_mo_next 17 = .ok (.ifCond .eq 5, 3) := by decide +kernel
theorem d_mo_next_20 : decode b_mo_next 20 = .ok (.iconst 0, 1) := by decide +kernel
theorem d_mo_next_21 : decode b_mo_next 21 = .ok (.ireturn, 1) := by decide +kernel
theorem d_mo_next_22 : decode b_mo_next 22 = .ok (.aload_n 0, 1) := by decide +kernel
theorem d_mo_next_23 : decode b_mo_next 23 = .ok (.invokevirtual 209, 3) := by decide +kernel
theorem d_mo_next_26 : decode b_mo_next 26 = .ok (.ireturn, 1) := by decide +kernel
abbrev y_mo_skip : MethodName := ⟨"PacketOrderModel", "skip", "(I)I"⟩
abbrev b_mo_skip : ByteArray := prog_8_method_35_code
theorem d_mo_skip_0 : decode b_mo_skip 0 = .ok (.aload_n 0, 1) := by decide +kernel
theorem d_mo_skip_1 : decode b_mo_skip 1 = .ok (.iload_n 1, 1) := by decide +kernel
theorem d_mo_skip_2 : decode b_mo_skip 2 = .ok (.ifCond .ge 7, 3) := by decide +kernel
theorem d_mo_skip_5 : decode b_mo_skip 5 = .ok (.iconst 1, 1) := by decide +kernel
theorem d_mo_skip_6 : decode b_mo_skip 6 = .ok (.goto 4, 3) := by decide +kernel
theorem d_mo_skip_9 : decode b_mo_skip 9 = .ok (.iconst 0, 1) := by decide +kernel
theorem d_mo_skip_10 : decode b_mo_skip 10 = .ok (.aload_n 0, 1) := by decide +kernel
theorem d_mo_skip_11 : decode b_mo_skip 11 = .ok (.getfield 77, 3) := by decide +kernel
theorem d_mo_skip_14 : decode b_mo_skip 14 = .ok (.ifCond .ne 7, 3) := by decide +kernel
theorem d_mo_skip_17 : decode b_mo_skip 17 = .ok (.iconst 1, 1) := by decide +kernel
theorem d_mo_skip_18 : decode b_mo_skip 18 = .ok (.goto 4, 3) := by decide +kernel
theorem d_mo_skip_21 : decode b_mo_skip 21 = .ok (.iconst 0, 1) := by decide +kernel
theorem d_mo_skip_22 : decode b_mo_skip 22 = .ok (.invokevirtual 57, 3) := by decide +kernel
theorem d_mo_skip_25 : decode b_mo_skip 25 = .ok (.ifCond .eq 5, 3) := by decide +kernel
theorem d_mo_skip_28 : decode b_mo_skip 28 = .ok (.iconst 0, 1) := by decide +kernel
theorem d_mo_skip_29 : decode b_mo_skip 29 = .ok (.ireturn, 1) := by decide +kernel
theorem d_mo_skip_30 : decode b_mo_skip 30 = .ok (.iconst 0, 1) := by decide +kernel
theorem d_mo_skip_31 : decode b_mo_skip 31 = .ok (.istore_n 2, 1) := by decide +kernel
theorem d_mo_skip_32 : decode b_mo_skip 32 = .ok (.iload_n 2, 1) := by decide +kernel
theorem d_mo_skip_33 : decode b_mo_skip 33 = .ok (.iload_n 1, 1) := by decide +kernel
theorem d_mo_skip_34 : decode b_mo_skip 34 = .ok (.if_icmp .ge 16, 3) := by decide +kernel
theorem d_mo_skip_37 : decode b_mo_skip 37 = .ok (.aload_n 0, 1) := by decide +kernel
theorem d_mo_skip_38 : decode b_mo_skip 38 = .ok (.invokevirtual 209, 3) := by decide +kernel
theorem d_mo_skip_41 : decode b_mo_skip 41 = .ok (.ifCond .eq 9, 3) := by decide +kernel
theorem d_mo_skip_44 : decode b_mo_skip 44 = .ok (.iinc 2 1, 3) := by decide +kernel
theorem d_mo_skip_47 : decode b_mo_skip 47 = .ok (.goto (-15), 3) := by decide +kernel
theorem d_mo_skip_50 : decode b_mo_skip 50 = .ok (.iload_n 2, 1) := by decide +kernel
theorem d_mo_skip_51 : decode b_mo_skip 51 = .ok (.ireturn, 1) := by decide +kernel
abbrev y_mo_packet : MethodName := ⟨"PacketOrderModel", "packet", "(I)I"⟩
abbrev b_mo_packet : ByteArray := prog_8_method_36_code
theorem d_mo_packet_0 : decode b_mo_packet 0 = .ok (.aload_n 0, 1) := by decide +kernel
theorem d_mo_packet_1 : decode b_mo_packet 1 = .ok (.aload_n 0, 1) := by decide +kernel
theorem d_mo_packet_2 : decode b_mo_packet 2 = .ok (.getfield 77, 3) := by decide +kernel
theorem d_mo_packet_5 : decode b_mo_packet 5 = .ok (.ifCond .eq 19, 3) := by decide +kernel
theorem d_mo_packet_8 : decode b_mo_packet 8 = .ok (.aload_n 0, 1) := by decide +kernel
theorem d_mo_packet_9 : decode b_mo_packet 9 = .ok (.getfield 135, 3) := by decide +kernel
theorem d_mo_packet_12 : decode b_mo_packet 12 = .ok (.ifCond .eq 12, 3) := by decide +kernel
theorem d_mo_packet_15 : decode b_mo_packet 15 = .ok (.iload_n 1, 1) := by decide +kernel
theorem d_mo_packet_16 : decode b_mo_packet 16 = .ok (.ifCond .lt 8, 3) := by decide +kernel
theorem d_mo_packet_19 : decode b_mo_packet 19 = .ok (.iload_n 1, 1) := by decide +kernel
theorem d_mo_packet_20 : decode b_mo_packet 20 = .ok (.iconst 4, 1) := by decide +kernel
theorem d_mo_packet_21 : decode b_mo_packet 21 = .ok (.if_icmp .le 7, 3) := by decide +kernel
theorem d_mo_packet_24 : decode b_mo_packet 24 = .ok (.iconst 1, 1) := by decide +kernel
theorem d_mo_packet_25 : decode b_mo_packet 25 = .ok (.goto 4, 3) := by decide +kernel
theorem d_mo_packet_28 : decode b_mo_packet 28 = .ok (.iconst 0, 1) := by decide +kernel
theorem d_mo_packet_29 : decode b_mo_packet 29 = .ok (.iconst 0, 1) := by decide +kernel
theorem d_mo_packet_30 : decode b_mo_packet 30 = .ok (.invokevirtual 57, 3) := by decide +kernel
theorem d_mo_packet_33 : decode b_mo_packet 33 = .ok (.ifCond .eq 5, 3) := by decide +kernel
theorem d_mo_packet_36 : decode b_mo_packet 36 = .ok (.iconst 0, 1) := by decide +kernel
theorem d_mo_packet_37 : decode b_mo_packet 37 = .ok (.ireturn, 1) := by decide +kernel
theorem d_mo_packet_38 : decode b_mo_packet 38 = .ok (.iload_n 1, 1) := by decide +kernel
theorem d_mo_packet_39 : decode b_mo_packet 39 = .ok (.tableswitch 64 0 3 #[29, 34, 44, 54], 29) := by decide +kernel
theorem d_mo_packet_68 : decode b_mo_packet 68 = .ok (.aload_n 0, 1) := by decide +kernel
theorem d_mo_packet_69 : decode b_mo_packet 69 = .ok (.getfield 200, 3) := by decide +kernel
theorem d_mo_packet_72 : decode b_mo_packet 72 = .ok (.ireturn, 1) := by decide +kernel
theorem d_mo_packet_73 : decode b_mo_packet 73 = .ok (.aload_n 0, 1) := by decide +kernel
theorem d_mo_packet_74 : decode b_mo_packet 74 = .ok (.getfield 35, 3) := by decide +kernel
theorem d_mo_packet_77 : decode b_mo_packet 77 = .ok (.aload_n 0, 1) := by decide +kernel
theorem d_mo_packet_78 : decode b_mo_packet 78 = .ok (.getfield 197, 3) := by decide +kernel
theorem d_mo_packet_81 : decode b_mo_packet 81 = .ok (.iaload, 1) := by decide +kernel
theorem d_mo_packet_82 : decode b_mo_packet 82 = .ok (.ireturn, 1) := by decide +kernel
theorem d_mo_packet_83 : decode b_mo_packet 83 = .ok (.aload_n 0, 1) := by decide +kernel
theorem d_mo_packet_84 : decode b_mo_packet 84 = .ok (.getfield 32, 3) := by decide +kernel
theorem d_mo_packet_87 : decode b_mo_packet 87 = .ok (.aload_n 0, 1) := by decide +kernel
theorem d_mo_packet_88 : decode b_mo_packet 88 = .ok (.getfield 197, 3) := by decide +kernel
theorem d_mo_packet_91 : decode b_mo_packet 91 = .ok (.iaload, 1) := by decide +kernel
theorem d_mo_packet_92 : decode b_mo_packet 92 = .ok (.ireturn, 1) := by decide +kernel
theorem d_mo_packet_93 : decode b_mo_packet 93 = .ok (.aload_n 0, 1) := by decide +kernel
theorem d_mo_packet_94 : decode b_mo_packet 94 = .ok (.getfield 38, 3) := by decide +kernel
theorem d_mo_packet_97 : decode b_mo_packet 97 = .ok (.aload_n 0, 1) := by decide +kernel
theorem d_mo_packet_98 : decode b_mo_packet 98 = .ok (.getfield 197, 3) := by decide +kernel
theorem d_mo_packet_101 : decode b_mo_packet 101 = .ok (.iaload, 1) := by decide +kernel
theorem d_mo_packet_102 : decode b_mo_packet 102 = .ok (.ireturn, 1) := by decide +kernel
theorem d_mo_packet_103 : decode b_mo_packet 103 = .ok (.aload_n 0, 1) := by decide +kernel
theorem d_mo_packet_104 : decode b_mo_packet 104 = .ok (.getfield 203, 3) := by decide +kernel
theorem d_mo_packet_107 : decode b_mo_packet 107 = .ok (.ireturn, 1) := by decide +kernel
abbrev y_mo_came : MethodName := ⟨"PacketOrderModel", "came", "(III)I"⟩
abbrev b_mo_came : ByteArray := prog_8_method_37_code
theorem d_mo_came_0 : decode b_mo_came 0 = .ok (.iconst (-1), 1) := by decide +kernel
theorem d_mo_came_1 : decode b_mo_came 1 = .ok (.istore 4, 2) := by decide +kernel
theorem d_mo_came_3 : decode b_mo_came 3 = .ok (.iconst 0, 1) := by decide +kernel
theorem d_mo_came_4 : decode b_mo_came 4 = .ok (.istore 5, 2) := by decide +kernel
theorem d_mo_came_6 : decode b_mo_came 6 = .ok (.aload_n 0, 1) := by decide +kernel
theorem d_mo_came_7 : decode b_mo_came 7 = .ok (.getfield 77, 3) := by decide +kernel
theorem d_mo_came_10 : decode b_mo_came 10 = .ok (.ifCond .eq 60, 3) := by decide +kernel
theorem d_mo_came_13 : decode b_mo_came 13 = .ok (.iload 5, 2) := by decide +kernel
theorem d_mo_came_15 : decode b_mo_came 15 = .ok (.aload_n 0, 1) := by decide +kernel
theorem d_mo_came_16 : decode b_mo_came 16 = .ok (.getfield 119, 3) := by decide +kernel
theorem d_mo_came_19 : decode b_mo_came 19 = .ok (.if_icmp .ge 51, 3) := by decide +kernel
theorem d_mo_came_22 : decode b_mo_came 22 = .ok (.aload_n 0, 1) := by decide +kernel
theorem d_mo_came_23 : decode b_mo_came 23 = .ok (.getfield 32, 3) := by decide +kernel
theorem d_mo_came_26 : decode b_mo_came 26 = .ok (.iload 5, 2) := by decide +kernel
theorem d_mo_came_28 : decode b_mo_came 28 = .ok (.iaload, 1) := by decide +kernel
theorem d_mo_came_29 : decode b_mo_came 29 = .ok (.iload_n 1, 1) := by decide +kernel
theorem d_mo_came_30 : decode b_mo_came 30 = .ok (.if_icmp .ne 30, 3) := by decide +kernel
theorem d_mo_came_33 : decode b_mo_came 33 = .ok (.aload_n 0, 1) := by decide +kernel
theorem d_mo_came_34 : decode b_mo_came 34 = .ok (.getfield 35, 3) := by decide +kernel
theorem d_mo_came_37 : decode b_mo_came 37 = .ok (.iload 5, 2) := by decide +kernel
theorem d_mo_came_39 : decode b_mo_came 39 = .ok (.iaload, 1) := by decide +kernel
theorem d_mo_came_40 : decode b_mo_came 40 = .ok (.iload_n 2, 1) := by decide +kernel
theorem d_mo_came_41 : decode b_mo_came 41 = .ok (.if_icmp .ne 19, 3) := by decide +kernel
theorem d_mo_came_44 : decode b_mo_came 44 = .ok (.aload_n 0, 1) := by decide +kernel
theorem d_mo_came_45 : decode b_mo_came 45 = .ok (.getfield 38, 3) := by decide +kernel
theorem d_mo_came_48 : decode b_mo_came 48 = .ok (.iload 5, 2) := by decide +kernel
theorem d_mo_came_50 : decode b_mo_came 50 = .ok (.iaload, 1) := by decide +kernel
theorem d_mo_came_51 : decode b_mo_came 51 = .ok (.iload_n 3, 1) := by decide +kernel
theorem d_mo_came_52 : decode b_mo_came 52 = .ok (.if_icmp .ne 8, 3) := by decide +kernel
theorem d_mo_came_55 : decode b_mo_came 55 = .ok (.iload 5, 2) := by decide +kernel
theorem d_mo_came_57 : decode b_mo_came 57 = .ok (.goto 5, 3) := by decide +kernel
theorem d_mo_came_60 : decode b_mo_came 60 = .ok (.iload 4, 2) := by decide +kernel
theorem d_mo_came_62 : decode b_mo_came 62 = .ok (.istore 4, 2) := by decide +kernel
theorem d_mo_came_64 : decode b_mo_came 64 = .ok (.iinc 5 1, 3) := by decide +kernel
theorem d_mo_came_67 : decode b_mo_came 67 = .ok (.goto (-61), 3) := by decide +kernel
theorem d_mo_came_70 : decode b_mo_came 70 = .ok (.aload_n 0, 1) := by decide +kernel
theorem d_mo_came_71 : decode b_mo_came 71 = .ok (.iload 4, 2) := by decide +kernel
theorem d_mo_came_73 : decode b_mo_came 73 = .ok (.ifCond .ge 7, 3) := by decide +kernel
theorem d_mo_came_76 : decode b_mo_came 76 = .ok (.iconst 1, 1) := by decide +kernel
theorem d_mo_came_77 : decode b_mo_came 77 = .ok (.goto 4, 3) := by decide +kernel
theorem d_mo_came_80 : decode b_mo_came 80 = .ok (.iconst 0, 1) := by decide +kernel
theorem d_mo_came_81 : decode b_mo_came 81 = .ok (.iconst 0, 1) := by decide +kernel
theorem d_mo_came_82 : decode b_mo_came 82 = .ok (.invokevirtual 57, 3) := by decide +kernel
theorem d_mo_came_85 : decode b_mo_came 85 = .ok (.ifCond .eq 5, 3) := by decide +kernel
theorem d_mo_came_88 : decode b_mo_came 88 = .ok (.iconst 0, 1) := by decide +kernel
theorem d_mo_came_89 : decode b_mo_came 89 = .ok (.ireturn, 1) := by decide +kernel
theorem d_mo_came_90 : decode b_mo_came 90 = .ok (.aload_n 0, 1) := by decide +kernel
theorem d_mo_came_91 : decode b_mo_came 91 = .ok (.getfield 48, 3) := by decide +kernel
theorem d_mo_came_94 : decode b_mo_came 94 = .ok (.iload 4, 2) := by decide +kernel
theorem d_mo_came_96 : decode b_mo_came 96 = .ok (.iaload, 1) := by decide +kernel
theorem d_mo_came_97 : decode b_mo_came 97 = .ok (.ireturn, 1) := by decide +kernel
