/-! the law's helpers: names and decode rows -/
abbrev y_la_tile : MethodName := ⟨"PacketOrderLaw", "tile", "(LPacketOrder;IIII)I"⟩
abbrev b_la_tile : ByteArray := method_3_code
theorem d_la_tile_0 : decode b_la_tile 0 = .ok (.aload_n 0, 1) := by decide +kernel
theorem d_la_tile_1 : decode b_la_tile 1 = .ok (.iload_n 1, 1) := by decide +kernel
theorem d_la_tile_2 : decode b_la_tile 2 = .ok (.iload_n 2, 1) := by decide +kernel
theorem d_la_tile_3 : decode b_la_tile 3 = .ok (.iload_n 3, 1) := by decide +kernel
theorem d_la_tile_4 : decode b_la_tile 4 = .ok (.iload 4, 2) := by decide +kernel
theorem d_la_tile_6 : decode b_la_tile 6 = .ok (.invokevirtual 7, 3) := by decide +kernel
theorem d_la_tile_9 : decode b_la_tile 9 = .ok (.goto 7, 3) := by decide +kernel
theorem d_la_tile_12 : decode b_la_tile 12 = .ok (.astore 5, 2) := by decide +kernel
theorem d_la_tile_14 : decode b_la_tile 14 = .ok (.iconst 1, 1) := by decide +kernel
theorem d_la_tile_15 : decode b_la_tile 15 = .ok (.ireturn, 1) := by decide +kernel
theorem d_la_tile_16 : decode b_la_tile 16 = .ok (.iconst 0, 1) := by decide +kernel
theorem d_la_tile_17 : decode b_la_tile 17 = .ok (.ireturn, 1) := by decide +kernel
abbrev y_la_component : MethodName := ⟨"PacketOrderLaw", "component", "(LPacketOrder;III[J)I"⟩
abbrev b_la_component : ByteArray := method_4_code
theorem d_la_component_0 : decode b_la_component 0 = .ok (.aload 4, 2) := by decide +kernel
theorem d_la_component_2 : decode b_la_component 2 = .ok (.iconst 0, 1) := by decide +kernel
theorem d_la_component_3 : decode b_la_component 3 = .ok (.aload_n 0, 1) := by decide +kernel
theorem d_la_component_4 : decode b_la_component 4 = .ok (.iload_n 1, 1) := by decide +kernel
theorem d_la_component_5 : decode b_la_component 5 = .ok (.iload_n 2, 1) := by decide +kernel
theorem d_la_component_6 : decode b_la_component 6 = .ok (.iload_n 3, 1) := by decide +kernel
theorem d_la_component_7 : decode b_la_component 7 = .ok (.invokevirtual 15, 3) := by decide +kernel
theorem d_la_component_10 : decode b_la_component 10 = .ok (.i2l, 1) := by decide +kernel
theorem d_la_component_11 : decode b_la_component 11 = .ok (.lastore, 1) := by decide +kernel
theorem d_la_component_12 : decode b_la_component 12 = .ok (.goto 11, 3) := by decide +kernel
theorem d_la_component_15 : decode b_la_component 15 = .ok (.astore 5, 2) := by decide +kernel
theorem d_la_component_17 : decode b_la_component 17 = .ok (.iconst 1, 1) := by decide +kernel
theorem d_la_component_18 : decode b_la_component 18 = .ok (.ireturn, 1) := by decide +kernel
theorem d_la_component_19 : decode b_la_component 19 = .ok (.astore 5, 2) := by decide +kernel
theorem d_la_component_21 : decode b_la_component 21 = .ok (.iconst 2, 1) := by decide +kernel
theorem d_la_component_22 : decode b_la_component 22 = .ok (.ireturn, 1) := by decide +kernel
theorem d_la_component_23 : decode b_la_component 23 = .ok (.iconst 0, 1) := by decide +kernel
theorem d_la_component_24 : decode b_la_component 24 = .ok (.ireturn, 1) := by decide +kernel
abbrev y_la_precincts : MethodName := ⟨"PacketOrderLaw", "precincts", "(LPacketOrder;IIII)I"⟩
abbrev b_la_precincts : ByteArray := method_5_code
theorem d_la_precincts_0 : decode b_la_precincts 0 = .ok (.aload_n 0, 1) := by decide +kernel
theorem d_la_precincts_1 : decode b_la_precincts 1 = .ok (.iload_n 1, 1) := by decide +kernel
theorem d_la_precincts_2 : decode b_la_precincts 2 = .ok (.iload_n 2, 1) := by decide +kernel
theorem d_la_precincts_3 : decode b_la_precincts 3 = .ok (.iload_n 3, 1) := by decide +kernel
theorem d_la_precincts_4 : decode b_la_precincts 4 = .ok (.iload 4, 2) := by decide +kernel
theorem d_la_precincts_6 : decode b_la_precincts 6 = .ok (.invokevirtual 21, 3) := by decide +kernel
theorem d_la_precincts_9 : decode b_la_precincts 9 = .ok (.goto 11, 3) := by decide +kernel
theorem d_la_precincts_12 : decode b_la_precincts 12 = .ok (.astore 5, 2) := by decide +kernel
theorem d_la_precincts_14 : decode b_la_precincts 14 = .ok (.iconst 1, 1) := by decide +kernel
theorem d_la_precincts_15 : decode b_la_precincts 15 = .ok (.ireturn, 1) := by decide +kernel
theorem d_la_precincts_16 : decode b_la_precincts 16 = .ok (.astore 5, 2) := by decide +kernel
theorem d_la_precincts_18 : decode b_la_precincts 18 = .ok (.iconst 2, 1) := by decide +kernel
theorem d_la_precincts_19 : decode b_la_precincts 19 = .ok (.ireturn, 1) := by decide +kernel
theorem d_la_precincts_20 : decode b_la_precincts 20 = .ok (.iconst 0, 1) := by decide +kernel
theorem d_la_precincts_21 : decode b_la_precincts 21 = .ok (.ireturn, 1) := by decide +kernel
abbrev y_la_layers : MethodName := ⟨"PacketOrderLaw", "layers", "(LPacketOrder;II)I"⟩
abbrev b_la_layers : ByteArray := method_6_code
theorem d_la_layers_0 : decode b_la_layers 0 = .ok (.aload_n 0, 1) := by decide +kernel
theorem d_la_layers_1 : decode b_la_layers 1 = .ok (.iload_n 1, 1) := by decide +kernel
theorem d_la_layers_2 : decode b_la_layers 2 = .ok (.iload_n 2, 1) := by decide +kernel
theorem d_la_layers_3 : decode b_la_layers 3 = .ok (.invokevirtual 26, 3) := by decide +kernel
theorem d_la_layers_6 : decode b_la_layers 6 = .ok (.goto 6, 3) := by decide +kernel
theorem d_la_layers_9 : decode b_la_layers 9 = .ok (.astore_n 3, 1) := by decide +kernel
theorem d_la_layers_10 : decode b_la_layers 10 = .ok (.iconst 1, 1) := by decide +kernel
theorem d_la_layers_11 : decode b_la_layers 11 = .ok (.ireturn, 1) := by decide +kernel
theorem d_la_layers_12 : decode b_la_layers 12 = .ok (.iconst 0, 1) := by decide +kernel
theorem d_la_layers_13 : decode b_la_layers 13 = .ok (.ireturn, 1) := by decide +kernel
abbrev y_la_change : MethodName := ⟨"PacketOrderLaw", "change", "(LPacketOrder;IIIIII[J)I"⟩
abbrev b_la_change : ByteArray := method_7_code
theorem d_la_change_0 : decode b_la_change 0 = .ok (.aload 7, 2) := by decide +kernel
theorem d_la_change_2 : decode b_la_change 2 = .ok (.iconst 0, 1) := by decide +kernel
theorem d_la_change_3 : decode b_la_change 3 = .ok (.aload_n 0, 1) := by decide +kernel
theorem d_la_change_4 : decode b_la_change 4 = .ok (.iload_n 1, 1) := by decide +kernel
theorem d_la_change_5 : decode b_la_change 5 = .ok (.iload_n 2, 1) := by decide +kernel
theorem d_la_change_6 : decode b_la_change 6 = .ok (.iload_n 3, 1) := by decide +kernel
theorem d_la_change_7 : decode b_la_change 7 = .ok (.iload 4, 2) := by decide +kernel
theorem d_la_change_9 : decode b_la_change 9 = .ok (.iload 5, 2) := by decide +kernel
theorem d_la_change_11 : decode b_la_change 11 = .ok (.iload 6, 2) := by decide +kernel
theorem d_la_change_13 : decode b_la_change 13 = .ok (.invokevirtual 30, 3) := by decide +kernel
theorem d_la_change_16 : decode b_la_change 16 = .ok (.i2l, 1) := by decide +kernel
theorem d_la_change_17 : decode b_la_change 17 = .ok (.lastore, 1) := by decide +kernel
theorem d_la_change_18 : decode b_la_change 18 = .ok (.goto 11, 3) := by decide +kernel
theorem d_la_change_21 : decode b_la_change 21 = .ok (.astore 8, 2) := by decide +kernel
theorem d_la_change_23 : decode b_la_change 23 = .ok (.iconst 1, 1) := by decide +kernel
theorem d_la_change_24 : decode b_la_change 24 = .ok (.ireturn, 1) := by decide +kernel
theorem d_la_change_25 : decode b_la_change 25 = .ok (.astore 8, 2) := by decide +kernel
theorem d_la_change_27 : decode b_la_change 27 = .ok (.iconst 2, 1) := by decide +kernel
theorem d_la_change_28 : decode b_la_change 28 = .ok (.ireturn, 1) := by decide +kernel
theorem d_la_change_29 : decode b_la_change 29 = .ok (.iconst 0, 1) := by decide +kernel
theorem d_la_change_30 : decode b_la_change 30 = .ok (.ireturn, 1) := by decide +kernel
abbrev y_la_begin : MethodName := ⟨"PacketOrderLaw", "begin", "(LPacketOrder;[J)I"⟩
abbrev b_la_begin : ByteArray := method_8_code
theorem d_la_begin_0 : decode b_la_begin 0 = .ok (.aload_n 1, 1) := by decide +kernel
theorem d_la_begin_1 : decode b_la_begin 1 = .ok (.iconst 0, 1) := by decide +kernel
theorem d_la_begin_2 : decode b_la_begin 2 = .ok (.aload_n 0, 1) := by decide +kernel
theorem d_la_begin_3 : decode b_la_begin 3 = .ok (.invokevirtual 34, 3) := by decide +kernel
theorem d_la_begin_6 : decode b_la_begin 6 = .ok (.i2l, 1) := by decide +kernel
theorem d_la_begin_7 : decode b_la_begin 7 = .ok (.lastore, 1) := by decide +kernel
theorem d_la_begin_8 : decode b_la_begin 8 = .ok (.goto 9, 3) := by decide +kernel
theorem d_la_begin_11 : decode b_la_begin 11 = .ok (.astore_n 2, 1) := by decide +kernel
theorem d_la_begin_12 : decode b_la_begin 12 = .ok (.iconst 1, 1) := by decide +kernel
theorem d_la_begin_13 : decode b_la_begin 13 = .ok (.ireturn, 1) := by decide +kernel
theorem d_la_begin_14 : decode b_la_begin 14 = .ok (.astore_n 2, 1) := by decide +kernel
theorem d_la_begin_15 : decode b_la_begin 15 = .ok (.iconst 2, 1) := by decide +kernel
theorem d_la_begin_16 : decode b_la_begin 16 = .ok (.ireturn, 1) := by decide +kernel
theorem d_la_begin_17 : decode b_la_begin 17 = .ok (.iconst 0, 1) := by decide +kernel
theorem d_la_begin_18 : decode b_la_begin 18 = .ok (.ireturn, 1) := by decide +kernel
abbrev y_la_next : MethodName := ⟨"PacketOrderLaw", "next", "(LPacketOrder;[J)I"⟩
abbrev b_la_next : ByteArray := method_9_code
theorem d_la_next_0 : decode b_la_next 0 = .ok (.aload_n 1, 1) := by decide +kernel
theorem d_la_next_1 : decode b_la_next 1 = .ok (.iconst 0, 1) := by decide +kernel
theorem d_la_next_2 : decode b_la_next 2 = .ok (.aload_n 0, 1) := by decide +kernel
theorem d_la_next_3 : decode b_la_next 3 = .ok (.invokevirtual 40, 3) := by decide +kernel
theorem d_la_next_6 : decode b_la_next 6 = .ok (.ifCond .eq 7, 3) := by decide +kernel
theorem d_la_next_9 : decode b_la_next 9 = .ok (.lconst 1, 1) := by decide +kernel
theorem d_la_next_10 : decode b_la_next 10 = .ok (.goto 4, 3) := by decide +kernel
theorem d_la_next_13 : decode b_la_next 13 = .ok (.lconst 0, 1) := by decide +kernel
theorem d_la_next_14 : decode b_la_next 14 = .ok (.lastore, 1) := by decide +kernel
theorem d_la_next_15 : decode b_la_next 15 = .ok (.goto 6, 3) := by decide +kernel
theorem d_la_next_18 : decode b_la_next 18 = .ok (.astore_n 2, 1) := by decide +kernel
theorem d_la_next_19 : decode b_la_next 19 = .ok (.iconst 1, 1) := by decide +kernel
theorem d_la_next_20 : decode b_la_next 20 = .ok (.ireturn, 1) := by decide +kernel
theorem d_la_next_21 : decode b_la_next 21 = .ok (.iconst 0, 1) := by decide +kernel
theorem d_la_next_22 : decode b_la_next 22 = .ok (.ireturn, 1) := by decide +kernel
abbrev y_la_skip : MethodName := ⟨"PacketOrderLaw", "skip", "(LPacketOrder;I[J)I"⟩
abbrev b_la_skip : ByteArray := method_10_code
theorem d_la_skip_0 : decode b_la_skip 0 = .ok (.aload_n 2, 1) := by decide +kernel
theorem d_la_skip_1 : decode b_la_skip 1 = .ok (.iconst 0, 1) := by decide +kernel
theorem d_la_skip_2 : decode b_la_skip 2 = .ok (.aload_n 0, 1) := by decide +kernel
theorem d_la_skip_3 : decode b_la_skip 3 = .ok (.iload_n 1, 1) := by decide +kernel
theorem d_la_skip_4 : decode b_la_skip 4 = .ok (.invokevirtual 44, 3) := by decide +kernel
theorem d_la_skip_7 : decode b_la_skip 7 = .ok (.i2l, 1) := by decide +kernel
theorem d_la_skip_8 : decode b_la_skip 8 = .ok (.lastore, 1) := by decide +kernel
theorem d_la_skip_9 : decode b_la_skip 9 = .ok (.goto 9, 3) := by decide +kernel
theorem d_la_skip_12 : decode b_la_skip 12 = .ok (.astore_n 3, 1) := by decide +kernel
theorem d_la_skip_13 : decode b_la_skip 13 = .ok (.iconst 1, 1) := by decide +kernel
theorem d_la_skip_14 : decode b_la_skip 14 = .ok (.ireturn, 1) := by decide +kernel
theorem d_la_skip_15 : decode b_la_skip 15 = .ok (.astore_n 3, 1) := by decide +kernel
theorem d_la_skip_16 : decode b_la_skip 16 = .ok (.iconst 2, 1) := by decide +kernel
theorem d_la_skip_17 : decode b_la_skip 17 = .ok (.ireturn, 1) := by decide +kernel
theorem d_la_skip_18 : decode b_la_skip 18 = .ok (.iconst 0, 1) := by decide +kernel
theorem d_la_skip_19 : decode b_la_skip 19 = .ok (.ireturn, 1) := by decide +kernel
abbrev y_la_packet : MethodName := ⟨"PacketOrderLaw", "packet", "(LPacketOrder;I[J)I"⟩
abbrev b_la_packet : ByteArray := method_11_code
theorem d_la_packet_0 : decode b_la_packet 0 = .ok (.aload_n 2, 1) := by decide +kernel
theorem d_la_packet_1 : decode b_la_packet 1 = .ok (.iconst 0, 1) := by decide +kernel
theorem d_la_packet_2 : decode b_la_packet 2 = .ok (.aload_n 0, 1) := by decide +kernel
theorem d_la_packet_3 : decode b_la_packet 3 = .ok (.iload_n 1, 1) := by decide +kernel
theorem d_la_packet_4 : decode b_la_packet 4 = .ok (.invokevirtual 48, 3) := by decide +kernel
theorem d_la_packet_7 : decode b_la_packet 7 = .ok (.i2l, 1) := by decide +kernel
theorem d_la_packet_8 : decode b_la_packet 8 = .ok (.lastore, 1) := by decide +kernel
theorem d_la_packet_9 : decode b_la_packet 9 = .ok (.goto 6, 3) := by decide +kernel
theorem d_la_packet_12 : decode b_la_packet 12 = .ok (.astore_n 3, 1) := by decide +kernel
theorem d_la_packet_13 : decode b_la_packet 13 = .ok (.iconst 1, 1) := by decide +kernel
theorem d_la_packet_14 : decode b_la_packet 14 = .ok (.ireturn, 1) := by decide +kernel
theorem d_la_packet_15 : decode b_la_packet 15 = .ok (.iconst 0, 1) := by decide +kernel
theorem d_la_packet_16 : decode b_la_packet 16 = .ok (.ireturn, 1) := by decide +kernel
abbrev y_la_came : MethodName := ⟨"PacketOrderLaw", "came", "(LPacketOrder;III[J)I"⟩
abbrev b_la_came : ByteArray := method_12_code
theorem d_la_came_0 : decode b_la_came 0 = .ok (.aload 4, 2) := by decide +kernel
theorem d_la_came_2 : decode b_la_came 2 = .ok (.iconst 0, 1) := by decide +kernel
theorem d_la_came_3 : decode b_la_came 3 = .ok (.aload_n 0, 1) := by decide +kernel
theorem d_la_came_4 : decode b_la_came 4 = .ok (.iload_n 1, 1) := by decide +kernel
theorem d_la_came_5 : decode b_la_came 5 = .ok (.iload_n 2, 1) := by decide +kernel
theorem d_la_came_6 : decode b_la_came 6 = .ok (.iload_n 3, 1) := by decide +kernel
theorem d_la_came_7 : decode b_la_came 7 = .ok (.invokevirtual 51, 3) := by decide +kernel
theorem d_la_came_10 : decode b_la_came 10 = .ok (.i2l, 1) := by decide +kernel
theorem d_la_came_11 : decode b_la_came 11 = .ok (.lastore, 1) := by decide +kernel
theorem d_la_came_12 : decode b_la_came 12 = .ok (.goto 7, 3) := by decide +kernel
theorem d_la_came_15 : decode b_la_came 15 = .ok (.astore 5, 2) := by decide +kernel
theorem d_la_came_17 : decode b_la_came 17 = .ok (.iconst 1, 1) := by decide +kernel
theorem d_la_came_18 : decode b_la_came 18 = .ok (.ireturn, 1) := by decide +kernel
theorem d_la_came_19 : decode b_la_came 19 = .ok (.iconst 0, 1) := by decide +kernel
theorem d_la_came_20 : decode b_la_came 20 = .ok (.ireturn, 1) := by decide +kernel
