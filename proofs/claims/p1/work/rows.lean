section
-- ===== PART A: goes FIRST, ahead of the names: the tables' words, and 'selects' of the private methods out of them =====
/-- a private method of a class that the tables say can be made, by its rows of tables_1 -/
def lw_okq (q : MethodName × Nat) : Prop := (q.1.cls ≠ "java/lang/invoke/MethodHandle" ∧ q.1.cls ≠ "java/lang/invoke/VarHandle") ∧ Cond.instantiable q.1.cls q.2 ∈ tables_1 ∧ Cond.privateMethod q.1 ∈ tables_1 ∧ Cond.instanceMethod q.1 ∈ tables_1
theorem lw_p0 : lw_okq (⟨"java/lang/Throwable", "fillInStackTrace", "(I)Ljava/lang/Throwable;"⟩, 6) := ⟨⟨by decide +kernel, by decide +kernel⟩, List.mem_of_getElem? (i := 226) (by decide +kernel), List.mem_of_getElem? (i := 224) (by decide +kernel), List.mem_of_getElem? (i := 225) (by decide +kernel)⟩
theorem lw_p1 : lw_okq (⟨"java/util/ArrayList", "add", "(Ljava/lang/Object;[Ljava/lang/Object;I)V"⟩, 3) := ⟨⟨by decide +kernel, by decide +kernel⟩, List.mem_of_getElem? (i := 33) (by decide +kernel), List.mem_of_getElem? (i := 364) (by decide +kernel), List.mem_of_getElem? (i := 365) (by decide +kernel)⟩
theorem lw_p2 : lw_okq (⟨"java/util/ArrayList", "grow", "()[Ljava/lang/Object;"⟩, 3) := ⟨⟨by decide +kernel, by decide +kernel⟩, List.mem_of_getElem? (i := 33) (by decide +kernel), List.mem_of_getElem? (i := 368) (by decide +kernel), List.mem_of_getElem? (i := 369) (by decide +kernel)⟩
theorem lw_p3 : lw_okq (⟨"java/util/ArrayList", "grow", "(I)[Ljava/lang/Object;"⟩, 3) := ⟨⟨by decide +kernel, by decide +kernel⟩, List.mem_of_getElem? (i := 33) (by decide +kernel), List.mem_of_getElem? (i := 372) (by decide +kernel), List.mem_of_getElem? (i := 373) (by decide +kernel)⟩
theorem lw_p4 : lw_okq (⟨"PacketOrder", "levelOf", "(II)LPacketOrder$Level;"⟩, 13) := ⟨⟨by decide +kernel, by decide +kernel⟩, List.mem_of_getElem? (i := 25) (by decide +kernel), List.mem_of_getElem? (i := 425) (by decide +kernel), List.mem_of_getElem? (i := 426) (by decide +kernel)⟩
theorem lw_p5 : lw_okq (⟨"PacketOrder", "measureLevels", "()J"⟩, 13) := ⟨⟨by decide +kernel, by decide +kernel⟩, List.mem_of_getElem? (i := 25) (by decide +kernel), List.mem_of_getElem? (i := 493) (by decide +kernel), List.mem_of_getElem? (i := 494) (by decide +kernel)⟩
theorem lw_p6 : lw_okq (⟨"PacketOrder$Span", "onLevel", "(I)J"⟩, 6) := ⟨⟨by decide +kernel, by decide +kernel⟩, List.mem_of_getElem? (i := 299) (by decide +kernel), List.mem_of_getElem? (i := 501) (by decide +kernel), List.mem_of_getElem? (i := 502) (by decide +kernel)⟩
theorem lw_p7 : lw_okq (⟨"PacketOrder$Row", "openGroup", "(I)V"⟩, 10) := ⟨⟨by decide +kernel, by decide +kernel⟩, List.mem_of_getElem? (i := 59) (by decide +kernel), List.mem_of_getElem? (i := 540) (by decide +kernel), List.mem_of_getElem? (i := 541) (by decide +kernel)⟩
theorem lw_p8 : lw_okq (⟨"PacketOrder$Row", "precinctAt", "(I)I"⟩, 10) := ⟨⟨by decide +kernel, by decide +kernel⟩, List.mem_of_getElem? (i := 59) (by decide +kernel), List.mem_of_getElem? (i := 544) (by decide +kernel), List.mem_of_getElem? (i := 545) (by decide +kernel)⟩
theorem lw_p9 : lw_okq (⟨"PacketOrder", "takePackets", "(I)I"⟩, 13) := ⟨⟨by decide +kernel, by decide +kernel⟩, List.mem_of_getElem? (i := 25) (by decide +kernel), List.mem_of_getElem? (i := 558) (by decide +kernel), List.mem_of_getElem? (i := 559) (by decide +kernel)⟩
theorem lw_p10 : lw_okq (⟨"PacketOrder$Row", "takeOfGroup", "(I)I"⟩, 10) := ⟨⟨by decide +kernel, by decide +kernel⟩, List.mem_of_getElem? (i := 59) (by decide +kernel), List.mem_of_getElem? (i := 566) (by decide +kernel), List.mem_of_getElem? (i := 567) (by decide +kernel)⟩
theorem lw_p11 : lw_okq (⟨"PacketOrder$Row", "takeWholeLayers", "(I)I"⟩, 10) := ⟨⟨by decide +kernel, by decide +kernel⟩, List.mem_of_getElem? (i := 59) (by decide +kernel), List.mem_of_getElem? (i := 570) (by decide +kernel), List.mem_of_getElem? (i := 571) (by decide +kernel)⟩
theorem lw_p12 : lw_okq (⟨"PacketOrder$Row", "packetsBefore", "(I)I"⟩, 10) := ⟨⟨by decide +kernel, by decide +kernel⟩, List.mem_of_getElem? (i := 59) (by decide +kernel), List.mem_of_getElem? (i := 574) (by decide +kernel), List.mem_of_getElem? (i := 575) (by decide +kernel)⟩
theorem lw_p13 : lw_okq (⟨"PacketOrder$Row", "takeOfLayer", "(I)I"⟩, 10) := ⟨⟨by decide +kernel, by decide +kernel⟩, List.mem_of_getElem? (i := 59) (by decide +kernel), List.mem_of_getElem? (i := 579) (by decide +kernel), List.mem_of_getElem? (i := 580) (by decide +kernel)⟩
theorem lw_p14 : lw_okq (⟨"PacketOrder", "fillRow", "(LPacketOrder$Change;)V"⟩, 13) := ⟨⟨by decide +kernel, by decide +kernel⟩, List.mem_of_getElem? (i := 25) (by decide +kernel), List.mem_of_getElem? (i := 584) (by decide +kernel), List.mem_of_getElem? (i := 585) (by decide +kernel)⟩
theorem lw_p15 : lw_okq (⟨"PacketOrder", "enlist", "(LPacketOrder$Level;I)V"⟩, 13) := ⟨⟨by decide +kernel, by decide +kernel⟩, List.mem_of_getElem? (i := 25) (by decide +kernel), List.mem_of_getElem? (i := 590) (by decide +kernel), List.mem_of_getElem? (i := 591) (by decide +kernel)⟩
def lw_privs_1 : List (MethodName × Nat) := [(⟨"java/lang/Throwable", "fillInStackTrace", "(I)Ljava/lang/Throwable;"⟩, 6), (⟨"java/util/ArrayList", "add", "(Ljava/lang/Object;[Ljava/lang/Object;I)V"⟩, 3), (⟨"java/util/ArrayList", "grow", "()[Ljava/lang/Object;"⟩, 3), (⟨"java/util/ArrayList", "grow", "(I)[Ljava/lang/Object;"⟩, 3), (⟨"PacketOrder", "levelOf", "(II)LPacketOrder$Level;"⟩, 13), (⟨"PacketOrder", "measureLevels", "()J"⟩, 13), (⟨"PacketOrder$Span", "onLevel", "(I)J"⟩, 6), (⟨"PacketOrder$Row", "openGroup", "(I)V"⟩, 10), (⟨"PacketOrder$Row", "precinctAt", "(I)I"⟩, 10), (⟨"PacketOrder", "takePackets", "(I)I"⟩, 13), (⟨"PacketOrder$Row", "takeOfGroup", "(I)I"⟩, 10), (⟨"PacketOrder$Row", "takeWholeLayers", "(I)I"⟩, 10), (⟨"PacketOrder$Row", "packetsBefore", "(I)I"⟩, 10), (⟨"PacketOrder$Row", "takeOfLayer", "(I)I"⟩, 10), (⟨"PacketOrder", "fillRow", "(LPacketOrder$Change;)V"⟩, 13), (⟨"PacketOrder", "enlist", "(LPacketOrder$Level;I)V"⟩, 13)]
theorem lw_r1 : ∀ q ∈ lw_privs_1, lw_okq q := List.forall_mem_cons.mpr ⟨lw_p0, List.forall_mem_cons.mpr ⟨lw_p1, List.forall_mem_cons.mpr ⟨lw_p2, List.forall_mem_cons.mpr ⟨lw_p3, List.forall_mem_cons.mpr ⟨lw_p4, List.forall_mem_cons.mpr ⟨lw_p5, List.forall_mem_cons.mpr ⟨lw_p6, List.forall_mem_cons.mpr ⟨lw_p7, List.forall_mem_cons.mpr ⟨lw_p8, List.forall_mem_cons.mpr ⟨lw_p9, List.forall_mem_cons.mpr ⟨lw_p10, List.forall_mem_cons.mpr ⟨lw_p11, List.forall_mem_cons.mpr ⟨lw_p12, List.forall_mem_cons.mpr ⟨lw_p13, List.forall_mem_cons.mpr ⟨lw_p14, List.forall_mem_cons.mpr ⟨lw_p15, fun _ h => absurd h List.not_mem_nil⟩⟩⟩⟩⟩⟩⟩⟩⟩⟩⟩⟩⟩⟩⟩⟩
theorem lw_p16 : lw_okq (⟨"PacketOrder$Row", "sort", "()V"⟩, 10) := ⟨⟨by decide +kernel, by decide +kernel⟩, List.mem_of_getElem? (i := 59) (by decide +kernel), List.mem_of_getElem? (i := 617) (by decide +kernel), List.mem_of_getElem? (i := 618) (by decide +kernel)⟩
theorem lw_p17 : lw_okq (⟨"PacketOrder$Row", "merge", "(III)V"⟩, 10) := ⟨⟨by decide +kernel, by decide +kernel⟩, List.mem_of_getElem? (i := 59) (by decide +kernel), List.mem_of_getElem? (i := 621) (by decide +kernel), List.mem_of_getElem? (i := 622) (by decide +kernel)⟩
theorem lw_p18 : lw_okq (⟨"PacketOrder", "levelWith", "(I)LPacketOrder$Level;"⟩, 13) := ⟨⟨by decide +kernel, by decide +kernel⟩, List.mem_of_getElem? (i := 25) (by decide +kernel), List.mem_of_getElem? (i := 641) (by decide +kernel), List.mem_of_getElem? (i := 642) (by decide +kernel)⟩
theorem lw_p19 : lw_okq (⟨"PacketOrderModel", "refuse", "(ZZ)Z"⟩, 38) := ⟨⟨by decide +kernel, by decide +kernel⟩, List.mem_of_getElem? (i := 661) (by decide +kernel), List.mem_of_getElem? (i := 790) (by decide +kernel), List.mem_of_getElem? (i := 791) (by decide +kernel)⟩
theorem lw_p20 : lw_okq (⟨"PacketOrderModel", "isLevel", "(II)Z"⟩, 38) := ⟨⟨by decide +kernel, by decide +kernel⟩, List.mem_of_getElem? (i := 661) (by decide +kernel), List.mem_of_getElem? (i := 802) (by decide +kernel), List.mem_of_getElem? (i := 803) (by decide +kernel)⟩
theorem lw_p21 : lw_okq (⟨"PacketOrderModel", "count", "()J"⟩, 38) := ⟨⟨by decide +kernel, by decide +kernel⟩, List.mem_of_getElem? (i := 661) (by decide +kernel), List.mem_of_getElem? (i := 822) (by decide +kernel), List.mem_of_getElem? (i := 823) (by decide +kernel)⟩
theorem lw_p22 : lw_okq (⟨"PacketOrderModel", "findLevel", "(II)V"⟩, 38) := ⟨⟨by decide +kernel, by decide +kernel⟩, List.mem_of_getElem? (i := 661) (by decide +kernel), List.mem_of_getElem? (i := 826) (by decide +kernel), List.mem_of_getElem? (i := 827) (by decide +kernel)⟩
theorem lw_p23 : lw_okq (⟨"PacketOrderModel", "columns", "(II)I"⟩, 38) := ⟨⟨by decide +kernel, by decide +kernel⟩, List.mem_of_getElem? (i := 661) (by decide +kernel), List.mem_of_getElem? (i := 833) (by decide +kernel), List.mem_of_getElem? (i := 834) (by decide +kernel)⟩
theorem lw_p24 : lw_okq (⟨"PacketOrderModel", "rows", "(II)I"⟩, 38) := ⟨⟨by decide +kernel, by decide +kernel⟩, List.mem_of_getElem? (i := 661) (by decide +kernel), List.mem_of_getElem? (i := 837) (by decide +kernel), List.mem_of_getElem? (i := 838) (by decide +kernel)⟩
theorem lw_p25 : lw_okq (⟨"PacketOrderModel", "list", "(II)V"⟩, 38) := ⟨⟨by decide +kernel, by decide +kernel⟩, List.mem_of_getElem? (i := 661) (by decide +kernel), List.mem_of_getElem? (i := 842) (by decide +kernel), List.mem_of_getElem? (i := 843) (by decide +kernel)⟩
theorem lw_p26 : lw_okq (⟨"PacketOrderModel", "enter", "()V"⟩, 38) := ⟨⟨by decide +kernel, by decide +kernel⟩, List.mem_of_getElem? (i := 661) (by decide +kernel), List.mem_of_getElem? (i := 849) (by decide +kernel), List.mem_of_getElem? (i := 850) (by decide +kernel)⟩
theorem lw_p27 : lw_okq (⟨"PacketOrderModel", "ways", "()I"⟩, 38) := ⟨⟨by decide +kernel, by decide +kernel⟩, List.mem_of_getElem? (i := 661) (by decide +kernel), List.mem_of_getElem? (i := 853) (by decide +kernel), List.mem_of_getElem? (i := 854) (by decide +kernel)⟩
theorem lw_p28 : lw_okq (⟨"PacketOrderModel", "orderNow", "()I"⟩, 38) := ⟨⟨by decide +kernel, by decide +kernel⟩, List.mem_of_getElem? (i := 661) (by decide +kernel), List.mem_of_getElem? (i := 857) (by decide +kernel), List.mem_of_getElem? (i := 858) (by decide +kernel)⟩
theorem lw_p29 : lw_okq (⟨"PacketOrderModel", "sort", "(I)V"⟩, 38) := ⟨⟨by decide +kernel, by decide +kernel⟩, List.mem_of_getElem? (i := 661) (by decide +kernel), List.mem_of_getElem? (i := 861) (by decide +kernel), List.mem_of_getElem? (i := 862) (by decide +kernel)⟩
theorem lw_p30 : lw_okq (⟨"PacketOrderModel", "compare", "(III)I"⟩, 38) := ⟨⟨by decide +kernel, by decide +kernel⟩, List.mem_of_getElem? (i := 661) (by decide +kernel), List.mem_of_getElem? (i := 865) (by decide +kernel), List.mem_of_getElem? (i := 866) (by decide +kernel)⟩
theorem lw_p31 : lw_okq (⟨"PacketOrderModel", "sign", "(JJ)I"⟩, 38) := ⟨⟨by decide +kernel, by decide +kernel⟩, List.mem_of_getElem? (i := 661) (by decide +kernel), List.mem_of_getElem? (i := 869) (by decide +kernel), List.mem_of_getElem? (i := 870) (by decide +kernel)⟩
def lw_privs_2 : List (MethodName × Nat) := [(⟨"PacketOrder$Row", "sort", "()V"⟩, 10), (⟨"PacketOrder$Row", "merge", "(III)V"⟩, 10), (⟨"PacketOrder", "levelWith", "(I)LPacketOrder$Level;"⟩, 13), (⟨"PacketOrderModel", "refuse", "(ZZ)Z"⟩, 38), (⟨"PacketOrderModel", "isLevel", "(II)Z"⟩, 38), (⟨"PacketOrderModel", "count", "()J"⟩, 38), (⟨"PacketOrderModel", "findLevel", "(II)V"⟩, 38), (⟨"PacketOrderModel", "columns", "(II)I"⟩, 38), (⟨"PacketOrderModel", "rows", "(II)I"⟩, 38), (⟨"PacketOrderModel", "list", "(II)V"⟩, 38), (⟨"PacketOrderModel", "enter", "()V"⟩, 38), (⟨"PacketOrderModel", "ways", "()I"⟩, 38), (⟨"PacketOrderModel", "orderNow", "()I"⟩, 38), (⟨"PacketOrderModel", "sort", "(I)V"⟩, 38), (⟨"PacketOrderModel", "compare", "(III)I"⟩, 38), (⟨"PacketOrderModel", "sign", "(JJ)I"⟩, 38)]
theorem lw_r2 : ∀ q ∈ lw_privs_2, lw_okq q := List.forall_mem_cons.mpr ⟨lw_p16, List.forall_mem_cons.mpr ⟨lw_p17, List.forall_mem_cons.mpr ⟨lw_p18, List.forall_mem_cons.mpr ⟨lw_p19, List.forall_mem_cons.mpr ⟨lw_p20, List.forall_mem_cons.mpr ⟨lw_p21, List.forall_mem_cons.mpr ⟨lw_p22, List.forall_mem_cons.mpr ⟨lw_p23, List.forall_mem_cons.mpr ⟨lw_p24, List.forall_mem_cons.mpr ⟨lw_p25, List.forall_mem_cons.mpr ⟨lw_p26, List.forall_mem_cons.mpr ⟨lw_p27, List.forall_mem_cons.mpr ⟨lw_p28, List.forall_mem_cons.mpr ⟨lw_p29, List.forall_mem_cons.mpr ⟨lw_p30, List.forall_mem_cons.mpr ⟨lw_p31, fun _ h => absurd h List.not_mem_nil⟩⟩⟩⟩⟩⟩⟩⟩⟩⟩⟩⟩⟩⟩⟩⟩
theorem lw_p32 : lw_okq (⟨"PacketOrderModel", "byLevel", "(II)I"⟩, 38) := ⟨⟨by decide +kernel, by decide +kernel⟩, List.mem_of_getElem? (i := 661) (by decide +kernel), List.mem_of_getElem? (i := 873) (by decide +kernel), List.mem_of_getElem? (i := 874) (by decide +kernel)⟩
theorem lw_p33 : lw_okq (⟨"PacketOrderModel", "byComponent", "(II)I"⟩, 38) := ⟨⟨by decide +kernel, by decide +kernel⟩, List.mem_of_getElem? (i := 661) (by decide +kernel), List.mem_of_getElem? (i := 877) (by decide +kernel), List.mem_of_getElem? (i := 878) (by decide +kernel)⟩
theorem lw_p34 : lw_okq (⟨"PacketOrderModel", "byPlace", "(II)I"⟩, 38) := ⟨⟨by decide +kernel, by decide +kernel⟩, List.mem_of_getElem? (i := 661) (by decide +kernel), List.mem_of_getElem? (i := 884) (by decide +kernel), List.mem_of_getElem? (i := 885) (by decide +kernel)⟩
theorem lw_p35 : lw_okq (⟨"PacketOrderModel", "findGroup", "()V"⟩, 38) := ⟨⟨by decide +kernel, by decide +kernel⟩, List.mem_of_getElem? (i := 661) (by decide +kernel), List.mem_of_getElem? (i := 888) (by decide +kernel), List.mem_of_getElem? (i := 889) (by decide +kernel)⟩
theorem lw_p36 : lw_okq (⟨"PacketOrderModel", "advance", "()Z"⟩, 38) := ⟨⟨by decide +kernel, by decide +kernel⟩, List.mem_of_getElem? (i := 661) (by decide +kernel), List.mem_of_getElem? (i := 896) (by decide +kernel), List.mem_of_getElem? (i := 897) (by decide +kernel)⟩
theorem lw_p37 : lw_okq (⟨"PacketOrderModel", "belongs", "(I)Z"⟩, 38) := ⟨⟨by decide +kernel, by decide +kernel⟩, List.mem_of_getElem? (i := 661) (by decide +kernel), List.mem_of_getElem? (i := 900) (by decide +kernel), List.mem_of_getElem? (i := 901) (by decide +kernel)⟩
theorem lw_p38 : lw_okq (⟨"PacketOrderModel", "move", "()V"⟩, 38) := ⟨⟨by decide +kernel, by decide +kernel⟩, List.mem_of_getElem? (i := 661) (by decide +kernel), List.mem_of_getElem? (i := 904) (by decide +kernel), List.mem_of_getElem? (i := 905) (by decide +kernel)⟩
theorem lw_p39 : lw_okq (⟨"PacketOrderModel", "layerEnd", "()I"⟩, 38) := ⟨⟨by decide +kernel, by decide +kernel⟩, List.mem_of_getElem? (i := 661) (by decide +kernel), List.mem_of_getElem? (i := 908) (by decide +kernel), List.mem_of_getElem? (i := 909) (by decide +kernel)⟩
def lw_privs_3 : List (MethodName × Nat) := [(⟨"PacketOrderModel", "byLevel", "(II)I"⟩, 38), (⟨"PacketOrderModel", "byComponent", "(II)I"⟩, 38), (⟨"PacketOrderModel", "byPlace", "(II)I"⟩, 38), (⟨"PacketOrderModel", "findGroup", "()V"⟩, 38), (⟨"PacketOrderModel", "advance", "()Z"⟩, 38), (⟨"PacketOrderModel", "belongs", "(I)Z"⟩, 38), (⟨"PacketOrderModel", "move", "()V"⟩, 38), (⟨"PacketOrderModel", "layerEnd", "()I"⟩, 38)]
theorem lw_r3 : ∀ q ∈ lw_privs_3, lw_okq q := List.forall_mem_cons.mpr ⟨lw_p32, List.forall_mem_cons.mpr ⟨lw_p33, List.forall_mem_cons.mpr ⟨lw_p34, List.forall_mem_cons.mpr ⟨lw_p35, List.forall_mem_cons.mpr ⟨lw_p36, List.forall_mem_cons.mpr ⟨lw_p37, List.forall_mem_cons.mpr ⟨lw_p38, List.forall_mem_cons.mpr ⟨lw_p39, fun _ h => absurd h List.not_mem_nil⟩⟩⟩⟩⟩⟩⟩⟩
def lw_privs : List (MethodName × Nat) := lw_privs_1 ++ (lw_privs_2 ++ (lw_privs_3))
def lw_tbl : List Cond := k2_sels lw_privs ++ tables_1
theorem lw_privs_ok : ∀ q ∈ lw_privs, lw_okq q := by
  show ∀ q ∈ lw_privs_1 ++ (lw_privs_2 ++ (lw_privs_3)), lw_okq q
  exact List.forall_mem_append.mpr ⟨lw_r1, List.forall_mem_append.mpr ⟨lw_r2, lw_r3⟩⟩
-- end of part A
/-! ===== BEGIN words of one list among another's, by their places ===== -/
theorem goodIn_r {big : List Cond} (ws : List Cond) (ps : List Nat) (hp : ws = ps.filterMap (fun i => big[i]?)) (h : ws.all goodWord = true) : GoodIn big ws := by
  intro w hw
  have h1 := List.all_eq_true.mp h w hw
  rw [hp] at hw
  obtain ⟨i, -, hi⟩ := List.mem_filterMap.mp hw
  have hm : w ∈ big := by first | exact List.mem_of_getElem? hi | exact List.getElem?_mem hi
  exact ⟨hm, good_of_word h1⟩
theorem goodIn_app {big a b : List Cond} (ha : GoodIn big a) (hb : GoodIn big b) : GoodIn big (a ++ b) := fun w h => (List.mem_append.mp h).elim (ha w) (hb w)
theorem goodIn_ca {big a b : List Cond} {c : Cond} (ha : GoodIn big (c :: a)) (hb : GoodIn big b) : GoodIn big (c :: (a ++ b)) := fun w h => (List.mem_cons.mp h).elim (fun e => ha w (List.mem_cons.mpr (Or.inl e))) (fun h => (List.mem_append.mp h).elim (fun h => ha w (List.mem_cons.mpr (Or.inr h))) (hb w))
theorem goodIn_sub {big ws : List Cond} (hm : ∀ w ∈ ws, w ∈ big) (h : ws.all goodWord = true) : GoodIn big ws := fun w hw => ⟨hm w hw, good_of_word (List.all_eq_true.mp h w hw)⟩
/-! ===== END ===== -/

/-! ===== BEGIN exceptions that leave a method, and their catching by the caller (launches without stack traces) ===== -/
section VXA
/-! The laws vx_back, vx_callV, vx_callS, vx_callSW, vx_throw0, vx_throwS follow proofs of the library, with one case more: JvmDerived/Free/Laws.lean (Back.of_free), Shelf42/LK1.lean (callV, callS), Shelf/KitTraced.lean (throwNew0V, throwNewS). -/
/-- where a method has thrown q: the class by its name, the cell, what was written, the world -/
def vx_T (XC : String → State → State → Prop) (st : State) (q : Addr) (t : State) (mc ms : Nat) (free : Addr → Prop) : Prop :=
  ∃ (E : String) (ce : Cell) (L : List Loc), XC E st t ∧ t.heap[q]? = some ce ∧ ce.vm = .none ∧ st.vm.findClass E = some ce.cls ∧ st.WarmedH t.vm ∧ st.sameButNew ({ t with vm := st.vm } : State) L mc ms ∧ ∀ z ∈ L, free z.base
def vx_Q (Qc : Array Value → State → Outcome → State → Prop) (XC : String → State → State → Prop) (mc ms : Nat) (free : Addr → Prop) : Array Value → State → Outcome → State → Prop := fun a st o t =>
  (Qc a st o t ∧ ∃ L, FrameEnd st o t L mc ms ∧ ∀ q ∈ L, free q.base) ∨ ∃ q, o = .threw q ∧ vx_T XC st q t mc ms free
/-- a callee that returns or throws -/
def vx_Met (l : Launch) (y : MethodName) (ws : List Cond) (rm : Room) (Pc : Array Value → State → Prop) (Qc : Array Value → State → Outcome → State → Prop) (XC : String → State → State → Prop) (mc ms : Nat) (free : Addr → Prop) : Prop :=
  MetFree l y (headSpec ws rm) Pc (fun _ _ _ _ _ => True) (vx_Q Qc XC mc ms free)
def vx_Post (XC : String → State → State → Prop) (mc ms : Nat) (free : Addr → Prop) : Pt → Array Value → Addr → Pt → Prop := fun A a q B =>
  ∃ (g : JFrame) (mk : MethodId) (t : State) (L : List Loc) (E : String) (ce : Cell), B.U.heap = t.heap ∧ B.U.vm = t.vm ∧ XC E (A.U.calling g mk a) t ∧ t.heap[q]? = some ce ∧ ce.vm = .none ∧ A.U.vm.findClass E = some ce.cls ∧ B.locs = A.locs ++ L ∧ (∀ z ∈ L, free z.base) ∧ B.cells = A.cells + mc ∧ B.slots = A.slots + ms
def vx_Back (l : Launch) (R : Room) (p : Program) (e : Env) (below : List Frame) (s : State) (sargs : Array Value) (y : MethodName) (len W9 : Nat)
    (Pre : Pt → Array Value → Prop) (Post : Pt → Array Value → Option Value → Pt → Prop) (PostX : Pt → Array Value → Addr → Pt → Prop) : Prop :=
  ∀ (m : MethodId) (meth : Method) (c : Code) (A : Pt) (g : JFrame) (ig : Instr) (mk : MethodId) (a : Array Value),
    Stand p l e R s m sargs below meth c A.U A.locs A.cells A.slots → g.method = m → g.locals.size = c.maxLocals → decode c.code g.pc = .ok (ig, len) →
    2 * g.monitorRoom + (g.stack.map fun v => v.category).sum ≤ W9 → A.U.methodNamed? y = some mk → Pre A a →
    (∃ (v : Option Value) (B : Pt), Stand p l e R s m sargs below meth c B.U B.locs B.cells B.slots ∧ Post A a v B ∧
      Steps p.tables e below (doInvoke e (A.U.setTop g) [] mk a).1 (B.U.setTop { g with pc := g.pc + len, stack := v.toList ++ g.stack })) ∨
    (∃ (q : Addr) (B : Pt), Stand p l e R s m sargs below meth c B.U B.locs B.cells B.slots ∧ PostX A a q B ∧
      Steps p.tables e below (doInvoke e (A.U.setTop g) [] mk a).1 ((B.U.setTop g).pushFrame (.throwing q)))
section Payer
variable {l : Launch} {R : Room} {p : Program} {e : Env} {below : List Frame} {s : State} {sargs : Array Value} {y : MethodName} {len W9 : Nat}
theorem vx_back {ws : List Cond} {rm : Room} {Pc : Array Value → State → Prop} {Qc : Array Value → State → Outcome → State → Prop} {XC : String → State → State → Prop} {mc ms : Nat} {free : Addr → Prop} {bytes : ByteArray} {maxL : Nat} {ret : Option FieldType}
    (hM : vx_Met l y ws rm Pc Qc XC mc ms free) (hblind : FrameBlind Pc) (hrc : rm.cells = mc) (hrs : rm.slots = ms)
    (hframes : rm.frames + 1 ≤ R.frames) (hlocals : W9 + (maxL + 11) + rm.locals ≤ R.locals)
    (hws : ∀ w ∈ ws, ∀ a' U, s.WarmedH U.vm → w.before a' U = true) (hcode : Cond.code y bytes maxL ret ∈ ws) (hinit : ∀ a' U, s.WarmedH U.vm → (Cond.initialized y.cls).before a' U = true) :
    vx_Back l R p e below s sargs y len W9 (PreOf R mc ms Pc) (PostOf Qc mc ms free) (vx_Post XC mc ms free) := by
  intro m meth c A g ig mk a X hg hsize hdg hW hn hp
  have h1 : (headSpec ws rm).pre.before a A.U = true := atoms_intro fun w hw => hws w hw _ _ X.warmed
  have h2 : (Cond.code y bytes maxL ret).before a A.U = true := hws _ hcode _ _ X.warmed
  have h3 : (Cond.initialized y.cls).before a A.U = true := hinit _ _ X.warmed
  have h4 : A.cells + (headSpec ws rm).room.cells ≤ R.cells := by rw [show (headSpec ws rm).room.cells = mc from hrc]; exact hp.1
  have h5 : A.slots + (headSpec ws rm).room.slots ≤ R.slots := by rw [show (headSpec ws rm).room.slots = ms from hrs]; exact hp.2.1
  have hPc : Pc a (A.U.calling g mk a) := hblind _ _ _ _ hp.2.2
  obtain ⟨U, Ls, c0, s0⟩ := A
  dsimp only [Pt.U, Pt.locs, Pt.cells, Pt.slots] at h1 h2 h3 h4 h5 X hn hPc ⊢
  obtain ⟨methY, cY, hmY, hcY, -, hlY, -, -, -, -⟩ := Cond.code_spec hn h2
  obtain ⟨kY, hkY, -⟩ := className_of_methodNamed hn
  have hinitY : kY.init = .initialized := Cond.initialized_spec (findClass_of_methodNamed hn) hkY h3
  have h : At U g.method c below := by rw [hg]; exact X.here
  have hlocals9 : W9 + (maxL + 11) + (headSpec ws rm).room.locals ≤ R.locals := hlocals
  have happ : (headSpec ws rm).appliesLoose y e.platform (U.calling g mk a) = true :=
    Spec.appliesLoose_calling (g := g) h hdg hn hkY hinitY
      (X.room_calling (g := g) (R' := (headSpec ws rm).room) hsize hmY hcY hframes (by rw [hlY]; omega) h4 h5) h1
  obtain ⟨mid, hmid⟩ := h.above
  have hfr : (U.setTop g).frames = (.java g :: mid) ++ below := by rw [State.frames_setTop' g h.top, hmid]; rfl
  obtain ⟨o, s₂, hsteps, -, hend, hq⟩ := Steps.callFree hM p X.admits X.cas X.clock (acts := []) hfr happ hPc trivial
  have hq' : vx_Q Qc XC mc ms free a (U.calling g mk a) o s₂ := hq
  rw [State.frames_setTop' g h.top] at hend
  obtain ⟨g₀, hg0⟩ := Option.isSome_iff_exists.mp h.top
  obtain ⟨r, hr⟩ := State.topJava?_eq_some.mp hg0
  have hr' : (({ U with heap := s₂.heap, slotsUsed := s₂.slotsUsed } : State).setVm s₂.vm).frames = .java g₀ :: r := hr
  rcases hq' with ⟨hqc, L, hfe, hL⟩ | ⟨q, rfl, E, ce, L, hx, hce, hcv, hcl, hW₂, hsm, hL⟩
  · obtain ⟨⟨v, rfl⟩, hW₂, e2, q2, q3, q4, q5, q6⟩ := id hfe
    have e3 : s₂ = ({ (U.calling g mk a).setFrames s₂.frames with heap := s₂.heap, slotsUsed := s₂.slotsUsed } : State).setVm s₂.vm := by
      have : s₂ = ({ s₂ with vm := (U.calling g mk a).vm } : State).setVm s₂.vm := rfl
      rw [e2] at this
      exact this
    obtain ⟨c₂, i₂, len₂, hc₂, hd₂, hf₂⟩ := hend
    have hW' : U.WarmedH s₂.vm := hW₂
    have hcc : c₂ = c := by
      have h1 : s₂.code? g.method = U.code? g.method := by
        rw [State.code?_eq, State.code?_eq, hW'.alike.method?]
      exact Option.some.inj (hc₂.symm.trans (h1.trans h.code))
    subst hcc
    have hlen : len₂ = len := by rw [hdg] at hd₂; cases hd₂; rfl
    subst hlen
    have hs₂ : s₂ = (({ U with heap := s₂.heap, slotsUsed := s₂.slotsUsed } : State).setVm s₂.vm).setTop { g with pc := g.pc + len₂, stack := v.toList ++ g.stack } := by
      refine e3.trans ?_
      rw [hf₂, State.calling_eq h.top, State.setFrames_setFrames, State.setTop_of_frames _ hr', hr]
      rfl
    have hsame : U.sameButNew ({ U with heap := s₂.heap, slotsUsed := s₂.slotsUsed } : State) L mc ms := by
      refine ⟨?_, q2, q3, q4, q5, q6⟩
      obtain ⟨t, ht, -⟩ := State.frames_cons hr
      show ({ U with heap := s₂.heap, slotsUsed := s₂.slotsUsed } : State) = { U.setFrames U.frames with heap := s₂.heap, slotsUsed := s₂.slotsUsed }
      rw [State.setFrames_self ht]
    subst hg
    refine Or.inl ⟨v, ⟨(({ U with heap := s₂.heap, slotsUsed := s₂.slotsUsed } : State).setVm s₂.vm), Ls ++ L, c0 + mc, s0 + ms⟩,
      ⟨X.admits, X.cas, X.clock, X.frames, X.room, X.hears, X.method, X.code, (X.here.setHeapUsed s₂.heap s₂.slotsUsed).setVm hW'.alike, X.tail, State.WarmedH.trans X.warmed hW', X.limits, X.bytes, X.same.trans (hsame.setVm s.vm)⟩,
      ⟨g, mk, s₂, L, rfl, rfl, hqc, rfl, hL, rfl, rfl⟩, ?_⟩
    show Steps p.tables e below _ ((({ U with heap := s₂.heap, slotsUsed := s₂.slotsUsed } : State).setVm s₂.vm).setTop { g with pc := g.pc + len₂, stack := v.toList ++ g.stack })
    rw [← hs₂]
    exact hsteps
  · obtain ⟨e2, q2, q3, q4, q5, q6⟩ := id hsm
    have e3 : s₂ = ({ (U.calling g mk a).setFrames s₂.frames with heap := s₂.heap, slotsUsed := s₂.slotsUsed } : State).setVm s₂.vm := by
      have : s₂ = ({ s₂ with vm := (U.calling g mk a).vm } : State).setVm s₂.vm := rfl
      rw [e2] at this
      exact this
    have hf₂ : s₂.frames = .throwing q :: .java g :: U.frames.tail := hend
    have hW' : U.WarmedH s₂.vm := hW₂
    have hs₂ : s₂ = ((({ U with heap := s₂.heap, slotsUsed := s₂.slotsUsed } : State).setVm s₂.vm).setTop g).pushFrame (.throwing q) := by
      refine e3.trans ?_
      rw [hf₂, State.calling_eq h.top, State.setFrames_setFrames, State.pushFrame, State.frames_setTop _ hr', State.setTop_of_frames _ hr', State.setFrames_setFrames, hr]
      rfl
    have hsame : U.sameButNew ({ U with heap := s₂.heap, slotsUsed := s₂.slotsUsed } : State) L mc ms := by
      refine ⟨?_, q2, q3, q4, q5, q6⟩
      obtain ⟨t, ht, -⟩ := State.frames_cons hr
      show ({ U with heap := s₂.heap, slotsUsed := s₂.slotsUsed } : State) = { U.setFrames U.frames with heap := s₂.heap, slotsUsed := s₂.slotsUsed }
      rw [State.setFrames_self ht]
    subst hg
    refine Or.inr ⟨q, ⟨(({ U with heap := s₂.heap, slotsUsed := s₂.slotsUsed } : State).setVm s₂.vm), Ls ++ L, c0 + mc, s0 + ms⟩,
      ⟨X.admits, X.cas, X.clock, X.frames, X.room, X.hears, X.method, X.code, (X.here.setHeapUsed s₂.heap s₂.slotsUsed).setVm hW'.alike, X.tail, State.WarmedH.trans X.warmed hW', X.limits, X.bytes, X.same.trans (hsame.setVm s.vm)⟩,
      ⟨g, mk, s₂, L, E, ce, rfl, rfl, hx, hce, hcv, hcl, rfl, hL, rfl, rfl⟩, ?_⟩
    show Steps p.tables e below _ (((({ U with heap := s₂.heap, slotsUsed := s₂.slotsUsed } : State).setVm s₂.vm).setTop g).pushFrame (.throwing q))
    rw [← hs₂]
    exact hsteps
end Payer
section Calls
variable {p : Program} {l : Launch} {e : Env} {R : Room} {s : State} {m : MethodId} {args : Array Value} {below : List Frame} {meth : Method} {c : Code} {T : State} {locs : List Loc} {cells slots : Nat}
theorem vx_callV (X : Stand p l e R s m args below meth c T locs cells slots) (hexec : p.tables.exec = Jvm.exec) {own C : String} {index : Nat} {y : MethodName} {bytes : ByteArray} {maxL : Nat} {ret : Option FieldType}
    (hown : s.vm.findClass own = some m.cls) (hlink : (Cond.methodLink own index y).before args s = true) (hinst : (Cond.instanceMethod y).before args s = true) (hsel : (Cond.selects C y y).before args s = true)
    (hcode : (Cond.code y bytes maxL ret).before args s = true) (hy : y.cls ≠ "java/lang/invoke/MethodHandle" ∧ y.cls ≠ "java/lang/invoke/VarHandle")
    {W9 : Nat} {Pre : Pt → Array Value → Prop} {Post : Pt → Array Value → Option Value → Pt → Prop} {PostX : Pt → Array Value → Addr → Pt → Prop} (hK : vx_Back l R p e below s args y 3 W9 Pre Post PostX)
    {b : Addr} {cellB : Cell} (hcell : T.heap[b]? = some cellB) (hobj : cellB.vm.isStatics = false) (hcls : s.vm.findClass C = some cellB.cls)
    {g : JFrame} (hg : g.method = m) (hsize : g.locals.size = c.maxLocals) {argsL rest : List Value} (hlen : ∀ sig, parseMethodDescriptor y.desc = some sig → argsL.length = sig.parameters.length)
    (hstack : g.stack = argsL.reverse ++ .ref b :: rest) (hW : 2 * g.monitorRoom + (rest.map fun v => v.category).sum ≤ W9) (hdg : decode c.code g.pc = .ok (.invokevirtual index, 3))
    (hpre : ∀ vm₁, s.WarmedH vm₁ → Pre ⟨T.setVm vm₁, locs, cells, slots⟩ (Value.ref b :: argsL).toArray) :
    (∃ (v : Option Value) (vm₁ : Vm) (B : Pt), s.WarmedH vm₁ ∧ Stand p l e R s m args below meth c B.U B.locs B.cells B.slots ∧ Post ⟨T.setVm vm₁, locs, cells, slots⟩ (Value.ref b :: argsL).toArray v B ∧
      ∀ target, Steps p.tables e below (B.U.setTop { g with pc := g.pc + 3, stack := v.toList ++ rest }) target → Steps p.tables e below (T.setTop g) target) ∨
    (∃ (q : Addr) (vm₁ : Vm) (B : Pt), s.WarmedH vm₁ ∧ Stand p l e R s m args below meth c B.U B.locs B.cells B.slots ∧ PostX ⟨T.setVm vm₁, locs, cells, slots⟩ (Value.ref b :: argsL).toArray q B ∧
      Steps p.tables e below (T.setTop g) ((B.U.setTop { g with stack := rest }).pushFrame (.throwing q))) := by
  obtain ⟨mk, methM, hnamed, hmethM, hstM, habM⟩ := Cond.instanceMethod_spec hinst
  obtain ⟨methM', cM, hmethM', -, -, -, -, -, -, hsigM⟩ := Cond.code_spec hnamed hcode
  cases hmethM.symm.trans hmethM'
  obtain ⟨c2, r2, m2, q1, q2, q3, q4, kP, hkP, hkPi⟩ := Cond.selects_spec hsel
  cases hcls.symm.trans q1
  cases (State.methodFound?_of_named hnamed hy).symm.trans q2
  cases hnamed.symm.trans q3
  have hselP : selectMethod e.platform s.vm cellB.cls mk = .method mk := by rw [Launch.admits_selectMethod X.admits]; exact q4
  obtain ⟨vm₁, X₁, hstep₁⟩ := X.invokevirtual hexec hown hlink hnamed hmethM hstM hkP hkPi hy (a := b) (cell := cellB) hcell
    (fun z h => by rw [h] at hobj; cases hobj) hselP hmethM habM hkP hkPi (g := g) hg (argsL := argsL) (rest := rest) (hlen _ hsigM) hstack hdg
  rcases hK m meth c ⟨T.setVm vm₁, locs, cells, slots⟩ { g with stack := rest } (.invokevirtual index) mk (Value.ref b :: argsL).toArray X₁ hg hsize hdg hW (X₁.named hnamed) (hpre vm₁ X₁.warmed) with ⟨v, B, X', hpost, hsteps⟩ | ⟨q, B, X', hpost, hsteps⟩
  · exact Or.inl ⟨v, vm₁, B, X₁.warmed, X', hpost, fun target h => hstep₁ _ fun acts => by rw [doInvoke_state]; exact hsteps.trans h⟩
  · exact Or.inr ⟨q, vm₁, B, X₁.warmed, X', hpost, hstep₁ _ fun acts => by rw [doInvoke_state]; exact hsteps⟩
theorem vx_callS (X : Stand p l e R s m args below meth c T locs cells slots) (hexec : p.tables.exec = Jvm.exec) {own : String} {index : Nat} {y : MethodName} {bytes : ByteArray} {maxL : Nat} {ret : Option FieldType}
    (hown : s.vm.findClass own = some m.cls) (hlink : (Cond.methodLink own index y).before args s = true) (hstat : (Cond.static y).before args s = true) (hinit : (Cond.initialized y.cls).before args s = true)
    (hcode : (Cond.code y bytes maxL ret).before args s = true) (hy : y.cls ≠ "java/lang/invoke/MethodHandle" ∧ y.cls ≠ "java/lang/invoke/VarHandle")
    {W9 : Nat} {Pre : Pt → Array Value → Prop} {Post : Pt → Array Value → Option Value → Pt → Prop} {PostX : Pt → Array Value → Addr → Pt → Prop} (hK : vx_Back l R p e below s args y 3 W9 Pre Post PostX)
    {g : JFrame} (hg : g.method = m) (hsize : g.locals.size = c.maxLocals) {argsL rest : List Value} (hlen : ∀ sig, parseMethodDescriptor y.desc = some sig → argsL.length = sig.parameters.length)
    (hstack : g.stack = argsL.reverse ++ rest) (hW : 2 * g.monitorRoom + (rest.map fun v => v.category).sum ≤ W9) (hdg : decode c.code g.pc = .ok (.invokestatic index, 3))
    (hpre : ∀ vm₁, s.WarmedH vm₁ → Pre ⟨T.setVm vm₁, locs, cells, slots⟩ argsL.toArray) :
    (∃ (v : Option Value) (vm₁ : Vm) (B : Pt), s.WarmedH vm₁ ∧ Stand p l e R s m args below meth c B.U B.locs B.cells B.slots ∧ Post ⟨T.setVm vm₁, locs, cells, slots⟩ argsL.toArray v B ∧
      ∀ target, Steps p.tables e below (B.U.setTop { g with pc := g.pc + 3, stack := v.toList ++ rest }) target → Steps p.tables e below (T.setTop g) target) ∨
    (∃ (q : Addr) (vm₁ : Vm) (B : Pt), s.WarmedH vm₁ ∧ Stand p l e R s m args below meth c B.U B.locs B.cells B.slots ∧ PostX ⟨T.setVm vm₁, locs, cells, slots⟩ argsL.toArray q B ∧
      Steps p.tables e below (T.setTop g) ((B.U.setTop { g with stack := rest }).pushFrame (.throwing q))) := by
  obtain ⟨mk, hnamed⟩ := Cond.code_named hcode
  obtain ⟨methM, cM, hmethM, -, -, -, -, -, -, hsigM⟩ := Cond.code_spec hnamed hcode
  have hstatic : methM.isStatic = true := Cond.static_spec hnamed hmethM hstat
  obtain ⟨kP, hkP, -⟩ := className_of_methodNamed hnamed
  have hinitP : kP.init = .initialized := Cond.initialized_spec (findClass_of_methodNamed hnamed) hkP hinit
  obtain ⟨vm₁, X₁, hstep₁⟩ := X.invokestatic hexec hown hlink hnamed hmethM hstatic hkP hinitP hy (g := g) hg (argsL := argsL) (rest := rest) (hlen _ hsigM) hstack hdg
  rcases hK m meth c ⟨T.setVm vm₁, locs, cells, slots⟩ { g with stack := rest } (.invokestatic index) mk argsL.toArray X₁ hg hsize hdg hW (X₁.named hnamed) (hpre vm₁ X₁.warmed) with ⟨v, B, X', hpost, hsteps⟩ | ⟨q, B, X', hpost, hsteps⟩
  · exact Or.inl ⟨v, vm₁, B, X₁.warmed, X', hpost, fun target h => hstep₁ _ fun acts => by rw [doInvoke_state]; exact hsteps.trans h⟩
  · exact Or.inr ⟨q, vm₁, B, X₁.warmed, X', hpost, hstep₁ _ fun acts => by rw [doInvoke_state]; exact hsteps⟩
end Calls
theorem vx_cls {s : State} {T : State} {vm₁ : Vm} {E : String} {k : ClassId} (hW : s.WarmedH vm₁) (h : (T.setVm vm₁).vm.findClass E = some k) : s.vm.findClass E = some k := by
  have h1 : vm₁.findClass E = some k := h
  rw [hW.alike.findClass] at h1
  exact h1
/-- the method's frame g, with q thrown over it -/
def vx_W (p : Program) (l : Launch) (e : Env) (R : Room) (s : State) (m : MethodId) (args : Array Value) (below : List Frame) (meth : Method) (c : Code) (H : Heap) (locs : List Loc) (cells slots : Nat) (Q : State → Prop) (g : JFrame) (q : Addr) : Prop :=
  ∀ T : State, T.heap = H → Stand p l e R s m args below meth c T locs cells slots → ∃ t, Steps p.tables e below ((T.setTop g).pushFrame (.throwing q)) t ∧ Q t
def vx_Run (p : Program) (l : Launch) (e : Env) (R : Room) (s : State) (m : MethodId) (args : Array Value) (below : List Frame) (meth : Method) (c : Code) (H : Heap) (locs : List Loc) (cells slots mc ms : Nat) (g : JFrame) (rest : List Value) (Qa : State → Outcome → State → Prop) (XC : String → State → State → Prop) (free : Addr → Prop) : Prop :=
  ∀ T : State, T.heap = H → Stand p l e R s m args below meth c T locs cells slots →
    (∃ (v : Option Value) (st₀ t T' : State) (L : List Loc), st₀.heap = H ∧ Stand p l e R s m args below meth c T' (locs ++ L) (cells + mc) (slots + ms) ∧ (∀ q ∈ L, free q.base) ∧ T'.heap = t.heap ∧ T'.vm = t.vm ∧ Qa st₀ (.returned v) t ∧
      Goes p e below T g T' { g with pc := g.pc + 3, stack := v.toList ++ rest }) ∨
    (∃ (q : Addr) (st₀ t T' : State) (L : List Loc) (E : String) (ce : Cell), st₀.heap = H ∧ Stand p l e R s m args below meth c T' (locs ++ L) (cells + mc) (slots + ms) ∧ (∀ z ∈ L, free z.base) ∧ T'.heap = t.heap ∧ T'.vm = t.vm ∧ XC E st₀ t ∧ t.heap[q]? = some ce ∧ ce.vm = .none ∧ s.vm.findClass E = some ce.cls ∧
      Steps p.tables e below (T.setTop g) ((T'.setTop { g with stack := rest }).pushFrame (.throwing q)))
def vx_X {S : Type} (px : S → Prop) (B : String → S → State → Prop) (A : Nat → Prop) : String → State → State → Prop := fun E st t => ∃ u : S, px u ∧ B E u t ∧ va_F A st t
section Runs
variable {p : Program} {l : Launch} {e : Env} {R : Room} {s : State} {m : MethodId} {args : Array Value} {below : List Frame} {meth : Method} {c : Code} {H : Heap} {locs : List Loc} {cells slots : Nat}
variable {y : MethodName} {bytes cc : ByteArray} {maxL nL mc ms n index : Nat} {ret : Option FieldType} {ws : List Cond} {rm : Room} {Pc : Array Value → State → Prop} {Qc : Array Value → State → Outcome → State → Prop} {XC : String → State → State → Prop} {free : Addr → Prop} {Ts : List Cond} {own C : String} {b : Addr} {As rest : List Value} {g : JFrame}
theorem vx_callBack (cb : CallB R s args own index y bytes maxL ret ws rm mc ms n) (hM : vx_Met l y ws rm Pc Qc XC mc ms free) (hbl : FrameBlind Pc) : vx_Back l R p e below s args y 3 8 (PreOf R mc ms Pc) (PostOf Qc mc ms free) (vx_Post XC mc ms free) := by
  obtain ⟨hrc, hrs, hfr, hlo, hws, hcw, -, hini, -⟩ := cb
  exact vx_back (bytes := bytes) (maxL := maxL) (ret := ret) hM hbl hrc hrs hfr hlo hws hcw (fun a' U hW => word_at hW (Or.inl (by first | rfl | simp [Cond.onTables, Cond.keeps, Cond.steady])) hini)
theorem vx_runV (S : CallFix p m c cc nL s args Ts own) (hM : vx_Met l y ws rm Pc Qc XC mc ms free) (cw : CallW R s args own C index y bytes maxL ret ws rm mc ms n) (hp : PreV s H C b Pc As)
    (hg : g.method = m) (hn : As.length = n) (hsize : g.locals.size = nL) (hstack : g.stack = As.reverse ++ .ref b :: rest) (hW : 2 * g.monitorRoom + (rest.map fun v => v.category).sum ≤ 8) (hdg : decode cc g.pc = .ok (.invokevirtual index, 3)) (hf : cells + mc ≤ R.cells ∧ slots + ms ≤ R.slots) :
    vx_Run p l e R s m args below meth c H locs cells slots mc ms g rest (Qc (Value.ref b :: As).toArray) XC free := by
  have hK : vx_Back l R p e below s args y 3 8 (PreOf R mc ms Pc) (PostOf Qc mc ms free) (vx_Post XC mc ms free) := vx_callBack cw.1 hM hp.1
  obtain ⟨⟨-, -, -, -, -, -, hcode, -, hy, hlen, hl⟩, hin, hse⟩ := cw
  obtain ⟨hx, hb, hml, ho, -⟩ := S
  obtain ⟨-, ⟨cellB, hcB, hoB, hclB⟩, hPc⟩ := hp
  intro T hT X
  rcases vx_callV X hx (C := C) (bytes := bytes) (maxL := maxL) (ret := ret) ho hl hin hse hcode hy hK (by rw [hT]; exact hcB) hoB hclB hg (hsize.trans hml.symm) (argsL := As) (rest := rest) (fun sig h => hn.trans (hlen sig h)) hstack hW (by rw [hb]; exact hdg)
    (fun vm₁ hW₁ => ⟨hf.1, hf.2, hPc (T.setVm vm₁) hT hW₁⟩) with ⟨v, vm₁, ⟨U', l2, c2, s2⟩, hW₁, X', ⟨g', mk, t, L, e1, e2, hq, h1, hL, h2, h3⟩, st⟩ | ⟨q, vm₁, ⟨U', l2, c2, s2⟩, hW₁, X', ⟨g', mk, t, L, E, ce, e1, e2, hq, hce, hcv, hcl, h1, hL, h2, h3⟩, st⟩
  · dsimp only [Pt.U, Pt.locs, Pt.cells, Pt.slots] at X' e1 e2 h1 h2 h3 st
    subst h1; subst h2; subst h3
    exact Or.inl ⟨v, (T.setVm vm₁).calling g' mk (Value.ref b :: As).toArray, t, U', L, hT, X', hL, e1, e2, hq, st⟩
  · dsimp only [Pt.U, Pt.locs, Pt.cells, Pt.slots] at X' e1 e2 h1 h2 h3 st hcl
    subst h1; subst h2; subst h3
    exact Or.inr ⟨q, (T.setVm vm₁).calling g' mk (Value.ref b :: As).toArray, t, U', L, E, ce, hT, X', hL, e1, e2, hq, hce, hcv, vx_cls hW₁ hcl, st⟩
theorem vx_runS (S : CallFix p m c cc nL s args Ts own) (hM : vx_Met l y ws rm Pc Qc XC mc ms free) (cw : CallB R s args own index y bytes maxL ret ws rm mc ms n ∧ (Cond.static y).before args s = true) (hp : PreS s H Pc As)
    (hg : g.method = m) (hn : As.length = n) (hsize : g.locals.size = nL) (hstack : g.stack = As.reverse ++ rest) (hW : 2 * g.monitorRoom + (rest.map fun v => v.category).sum ≤ 8) (hdg : decode cc g.pc = .ok (.invokestatic index, 3)) (hf : cells + mc ≤ R.cells ∧ slots + ms ≤ R.slots) :
    vx_Run p l e R s m args below meth c H locs cells slots mc ms g rest (Qc As.toArray) XC free := by
  have hK : vx_Back l R p e below s args y 3 8 (PreOf R mc ms Pc) (PostOf Qc mc ms free) (vx_Post XC mc ms free) := vx_callBack cw.1 hM hp.1
  obtain ⟨⟨-, -, -, -, -, -, hcode, hini, hy, hlen, hl⟩, hstt⟩ := cw
  obtain ⟨hx, hb, hml, ho, -⟩ := S
  intro T hT X
  rcases vx_callS X hx (bytes := bytes) (maxL := maxL) (ret := ret) ho hl hstt hini hcode hy hK hg (hsize.trans hml.symm) (argsL := As) (rest := rest) (fun sig h => hn.trans (hlen sig h)) hstack hW (by rw [hb]; exact hdg)
    (fun vm₁ hW₁ => ⟨hf.1, hf.2, hp.2 (T.setVm vm₁) hT hW₁⟩) with ⟨v, vm₁, ⟨U', l2, c2, s2⟩, hW₁, X', ⟨g', mk, t, L, e1, e2, hq, h1, hL, h2, h3⟩, st⟩ | ⟨q, vm₁, ⟨U', l2, c2, s2⟩, hW₁, X', ⟨g', mk, t, L, E, ce, e1, e2, hq, hce, hcv, hcl, h1, hL, h2, h3⟩, st⟩
  · dsimp only [Pt.U, Pt.locs, Pt.cells, Pt.slots] at X' e1 e2 h1 h2 h3 st
    subst h1; subst h2; subst h3
    exact Or.inl ⟨v, (T.setVm vm₁).calling g' mk As.toArray, t, U', L, hT, X', hL, e1, e2, hq, st⟩
  · dsimp only [Pt.U, Pt.locs, Pt.cells, Pt.slots] at X' e1 e2 h1 h2 h3 st hcl
    subst h1; subst h2; subst h3
    exact Or.inr ⟨q, (T.setVm vm₁).calling g' mk As.toArray, t, U', L, E, ce, hT, X', hL, e1, e2, hq, hce, hcv, vx_cls hW₁ hcl, st⟩
end Runs
section Rows
variable {p : Program} {l : Launch} {e : Env} {R : Room} {s : State} {m : MethodId} {args : Array Value} {below : List Frame} {meth : Method} {c : Code} {H : Heap} {locs : List Loc} {cells slots : Nat} {Q : State → Prop}
variable {mc ms : Nat} {free : Addr → Prop} {A0 A1 : Nat → Prop} {H0 : Heap} {a : Array Value} {pc : Nat} {ls : Array Slot} {st0 rest : List Value}
theorem vx_keep {st₀ t T' : State} {L : List Loc} (h0 : st₀.heap = H) (e1 : T'.heap = t.heap) (hS : va_S A0 H0 H locs) (hA : ∀ q, q < H.size → A1 q → A0 q) (hf : ∀ q, free q → A0 q) (hL : ∀ q ∈ L, free q.base) (hF : va_F A1 st₀ t) :
    H.size ≤ T'.heap.size ∧ (∀ q : Nat, q < H.size → ¬ A1 q → T'.heap[q]? = H[q]?) ∧ va_S A0 H0 T'.heap (locs ++ L) := by
  obtain ⟨hz, hk⟩ := hF
  rw [h0] at hz hk
  exact ⟨by rw [e1]; exact hz, fun q h1 h2 => by rw [e1]; exact hk q h1 h2,
    ⟨Nat.le_trans hS.1 (by rw [e1]; exact hz), fun q h1 h2 => by rw [e1, hk q (Nat.lt_of_lt_of_le h1 hS.1) (fun z => h2 (hA q (Nat.lt_of_lt_of_le h1 hS.1) z))]; exact hS.2.1 q h1 h2, fun q hq => by
      rcases List.mem_append.mp hq with h | h
      · exact hS.2.2 q h
      · exact hf _ (hL q h)⟩⟩
theorem vx_calli {S SX : Type} {post : Int32 → S → Prop} {px : SX → Prop} {B : S → State → Prop} {BX : String → SX → State → Prop} {AX : Nat → Prop} (hr : vx_Run p l e R s m args below meth c H locs cells slots mc ms (F0 m pc ls st0) rest (va_Qi post B A1 a) (vx_X px BX AX) free) (hS : va_S A0 H0 H locs) (hA : ∀ q, q < H.size → A1 q → A0 q) (hf : ∀ q, free q → A0 q) (hAX : ∀ q, q < H.size → AX q → A0 q)
    (kx : ∀ (E : String) (ce : Cell) (q9 : Addr) (u : SX) (t : State) (H1 : Heap) (locs1 : List Loc), t.heap = H1 → s.vm.Alike t.vm → px u → BX E u t → H.size ≤ H1.size → (∀ q : Nat, q < H.size → ¬ AX q → H1[q]? = H[q]?) → va_S A0 H0 H1 locs1 → H1[q9]? = some ce → ce.vm = .none → s.vm.findClass E = some ce.cls → vx_W p l e R s m args below meth c H1 locs1 (cells + mc) (slots + ms) Q (F0 m pc ls rest) q9)
    (kk : ∀ (r : Int32) (u : S) (t : State) (H1 : Heap) (locs1 : List Loc), t.heap = H1 → s.vm.Alike t.vm → post r u → B u t → H.size ≤ H1.size → (∀ q : Nat, q < H.size → ¬ A1 q → H1[q]? = H[q]?) → va_S A0 H0 H1 locs1 → W p l e R s m args below meth c H1 locs1 (cells + mc) (slots + ms) Q (F0 m (pc + 3) ls (.int r :: rest))) : W p l e R s m args below meth c H locs cells slots Q (F0 m pc ls st0) := by
  intro T hT X
  rcases hr T hT X with ⟨v, st₀, t, T', L, h0, X', hL, e1, e2, ⟨⟨r, u, hv, hp, hb⟩, hF⟩, st⟩ | ⟨q, st₀, t, T', L, E, ce, h0, X', hL, e1, e2, ⟨u, hp, hb, hF⟩, hce, hcv, hcl, st⟩
  · cases hv
    obtain ⟨k1, k2, k3⟩ := vx_keep h0 e1 hS hA hf hL hF
    obtain ⟨t2, a1, b1⟩ := kk r u t T'.heap (locs ++ L) e1.symm (by rw [← e2]; exact X'.warmed.alike) hp hb k1 k2 k3 T' rfl X'
    exact ⟨t2, st t2 a1, b1⟩
  · obtain ⟨k1, k2, k3⟩ := vx_keep h0 e1 hS hAX hf hL hF
    obtain ⟨t2, a1, b1⟩ := kx E ce q u t T'.heap (locs ++ L) e1.symm (by rw [← e2]; exact X'.warmed.alike) hp hb k1 k2 k3 (by rw [e1]; exact hce) hcv hcl T' rfl X'
    exact ⟨t2, st.trans a1, b1⟩
theorem vx_calll {S SX : Type} {post : Int64 → S → Prop} {px : SX → Prop} {B : S → State → Prop} {BX : String → SX → State → Prop} {AX : Nat → Prop} (hr : vx_Run p l e R s m args below meth c H locs cells slots mc ms (F0 m pc ls st0) rest (va_Ql post B A1 a) (vx_X px BX AX) free) (hS : va_S A0 H0 H locs) (hA : ∀ q, q < H.size → A1 q → A0 q) (hf : ∀ q, free q → A0 q) (hAX : ∀ q, q < H.size → AX q → A0 q)
    (kx : ∀ (E : String) (ce : Cell) (q9 : Addr) (u : SX) (t : State) (H1 : Heap) (locs1 : List Loc), t.heap = H1 → s.vm.Alike t.vm → px u → BX E u t → H.size ≤ H1.size → (∀ q : Nat, q < H.size → ¬ AX q → H1[q]? = H[q]?) → va_S A0 H0 H1 locs1 → H1[q9]? = some ce → ce.vm = .none → s.vm.findClass E = some ce.cls → vx_W p l e R s m args below meth c H1 locs1 (cells + mc) (slots + ms) Q (F0 m pc ls rest) q9)
    (kk : ∀ (r : Int64) (u : S) (t : State) (H1 : Heap) (locs1 : List Loc), t.heap = H1 → s.vm.Alike t.vm → post r u → B u t → H.size ≤ H1.size → (∀ q : Nat, q < H.size → ¬ A1 q → H1[q]? = H[q]?) → va_S A0 H0 H1 locs1 → W p l e R s m args below meth c H1 locs1 (cells + mc) (slots + ms) Q (F0 m (pc + 3) ls (.long r :: rest))) : W p l e R s m args below meth c H locs cells slots Q (F0 m pc ls st0) := by
  intro T hT X
  rcases hr T hT X with ⟨v, st₀, t, T', L, h0, X', hL, e1, e2, ⟨⟨r, u, hv, hp, hb⟩, hF⟩, st⟩ | ⟨q, st₀, t, T', L, E, ce, h0, X', hL, e1, e2, ⟨u, hp, hb, hF⟩, hce, hcv, hcl, st⟩
  · cases hv
    obtain ⟨k1, k2, k3⟩ := vx_keep h0 e1 hS hA hf hL hF
    obtain ⟨t2, a1, b1⟩ := kk r u t T'.heap (locs ++ L) e1.symm (by rw [← e2]; exact X'.warmed.alike) hp hb k1 k2 k3 T' rfl X'
    exact ⟨t2, st t2 a1, b1⟩
  · obtain ⟨k1, k2, k3⟩ := vx_keep h0 e1 hS hAX hf hL hF
    obtain ⟨t2, a1, b1⟩ := kx E ce q u t T'.heap (locs ++ L) e1.symm (by rw [← e2]; exact X'.warmed.alike) hp hb k1 k2 k3 (by rw [e1]; exact hce) hcv hcl T' rfl X'
    exact ⟨t2, st.trans a1, b1⟩
theorem vx_callf {S SX : Type} {post : UInt32 → S → Prop} {px : SX → Prop} {B : S → State → Prop} {BX : String → SX → State → Prop} {AX : Nat → Prop} (hr : vx_Run p l e R s m args below meth c H locs cells slots mc ms (F0 m pc ls st0) rest (va_Qf post B A1 a) (vx_X px BX AX) free) (hS : va_S A0 H0 H locs) (hA : ∀ q, q < H.size → A1 q → A0 q) (hf : ∀ q, free q → A0 q) (hAX : ∀ q, q < H.size → AX q → A0 q)
    (kx : ∀ (E : String) (ce : Cell) (q9 : Addr) (u : SX) (t : State) (H1 : Heap) (locs1 : List Loc), t.heap = H1 → s.vm.Alike t.vm → px u → BX E u t → H.size ≤ H1.size → (∀ q : Nat, q < H.size → ¬ AX q → H1[q]? = H[q]?) → va_S A0 H0 H1 locs1 → H1[q9]? = some ce → ce.vm = .none → s.vm.findClass E = some ce.cls → vx_W p l e R s m args below meth c H1 locs1 (cells + mc) (slots + ms) Q (F0 m pc ls rest) q9)
    (kk : ∀ (r : UInt32) (u : S) (t : State) (H1 : Heap) (locs1 : List Loc), t.heap = H1 → s.vm.Alike t.vm → post r u → B u t → H.size ≤ H1.size → (∀ q : Nat, q < H.size → ¬ A1 q → H1[q]? = H[q]?) → va_S A0 H0 H1 locs1 → W p l e R s m args below meth c H1 locs1 (cells + mc) (slots + ms) Q (F0 m (pc + 3) ls (.float r :: rest))) : W p l e R s m args below meth c H locs cells slots Q (F0 m pc ls st0) := by
  intro T hT X
  rcases hr T hT X with ⟨v, st₀, t, T', L, h0, X', hL, e1, e2, ⟨⟨r, u, hv, hp, hb⟩, hF⟩, st⟩ | ⟨q, st₀, t, T', L, E, ce, h0, X', hL, e1, e2, ⟨u, hp, hb, hF⟩, hce, hcv, hcl, st⟩
  · cases hv
    obtain ⟨k1, k2, k3⟩ := vx_keep h0 e1 hS hA hf hL hF
    obtain ⟨t2, a1, b1⟩ := kk r u t T'.heap (locs ++ L) e1.symm (by rw [← e2]; exact X'.warmed.alike) hp hb k1 k2 k3 T' rfl X'
    exact ⟨t2, st t2 a1, b1⟩
  · obtain ⟨k1, k2, k3⟩ := vx_keep h0 e1 hS hAX hf hL hF
    obtain ⟨t2, a1, b1⟩ := kx E ce q u t T'.heap (locs ++ L) e1.symm (by rw [← e2]; exact X'.warmed.alike) hp hb k1 k2 k3 (by rw [e1]; exact hce) hcv hcl T' rfl X'
    exact ⟨t2, st.trans a1, b1⟩
theorem vx_calld {S SX : Type} {post : UInt64 → S → Prop} {px : SX → Prop} {B : S → State → Prop} {BX : String → SX → State → Prop} {AX : Nat → Prop} (hr : vx_Run p l e R s m args below meth c H locs cells slots mc ms (F0 m pc ls st0) rest (va_Qd post B A1 a) (vx_X px BX AX) free) (hS : va_S A0 H0 H locs) (hA : ∀ q, q < H.size → A1 q → A0 q) (hf : ∀ q, free q → A0 q) (hAX : ∀ q, q < H.size → AX q → A0 q)
    (kx : ∀ (E : String) (ce : Cell) (q9 : Addr) (u : SX) (t : State) (H1 : Heap) (locs1 : List Loc), t.heap = H1 → s.vm.Alike t.vm → px u → BX E u t → H.size ≤ H1.size → (∀ q : Nat, q < H.size → ¬ AX q → H1[q]? = H[q]?) → va_S A0 H0 H1 locs1 → H1[q9]? = some ce → ce.vm = .none → s.vm.findClass E = some ce.cls → vx_W p l e R s m args below meth c H1 locs1 (cells + mc) (slots + ms) Q (F0 m pc ls rest) q9)
    (kk : ∀ (r : UInt64) (u : S) (t : State) (H1 : Heap) (locs1 : List Loc), t.heap = H1 → s.vm.Alike t.vm → post r u → B u t → H.size ≤ H1.size → (∀ q : Nat, q < H.size → ¬ A1 q → H1[q]? = H[q]?) → va_S A0 H0 H1 locs1 → W p l e R s m args below meth c H1 locs1 (cells + mc) (slots + ms) Q (F0 m (pc + 3) ls (.double r :: rest))) : W p l e R s m args below meth c H locs cells slots Q (F0 m pc ls st0) := by
  intro T hT X
  rcases hr T hT X with ⟨v, st₀, t, T', L, h0, X', hL, e1, e2, ⟨⟨r, u, hv, hp, hb⟩, hF⟩, st⟩ | ⟨q, st₀, t, T', L, E, ce, h0, X', hL, e1, e2, ⟨u, hp, hb, hF⟩, hce, hcv, hcl, st⟩
  · cases hv
    obtain ⟨k1, k2, k3⟩ := vx_keep h0 e1 hS hA hf hL hF
    obtain ⟨t2, a1, b1⟩ := kk r u t T'.heap (locs ++ L) e1.symm (by rw [← e2]; exact X'.warmed.alike) hp hb k1 k2 k3 T' rfl X'
    exact ⟨t2, st t2 a1, b1⟩
  · obtain ⟨k1, k2, k3⟩ := vx_keep h0 e1 hS hAX hf hL hF
    obtain ⟨t2, a1, b1⟩ := kx E ce q u t T'.heap (locs ++ L) e1.symm (by rw [← e2]; exact X'.warmed.alike) hp hb k1 k2 k3 (by rw [e1]; exact hce) hcv hcl T' rfl X'
    exact ⟨t2, st.trans a1, b1⟩
theorem vx_callv {S SX : Type} {post : S → Prop} {px : SX → Prop} {B : S → State → Prop} {BX : String → SX → State → Prop} {AX : Nat → Prop} (hr : vx_Run p l e R s m args below meth c H locs cells slots mc ms (F0 m pc ls st0) rest (va_Qv post B A1 a) (vx_X px BX AX) free) (hS : va_S A0 H0 H locs) (hA : ∀ q, q < H.size → A1 q → A0 q) (hf : ∀ q, free q → A0 q) (hAX : ∀ q, q < H.size → AX q → A0 q)
    (kx : ∀ (E : String) (ce : Cell) (q9 : Addr) (u : SX) (t : State) (H1 : Heap) (locs1 : List Loc), t.heap = H1 → s.vm.Alike t.vm → px u → BX E u t → H.size ≤ H1.size → (∀ q : Nat, q < H.size → ¬ AX q → H1[q]? = H[q]?) → va_S A0 H0 H1 locs1 → H1[q9]? = some ce → ce.vm = .none → s.vm.findClass E = some ce.cls → vx_W p l e R s m args below meth c H1 locs1 (cells + mc) (slots + ms) Q (F0 m pc ls rest) q9)
    (kk : ∀ (u : S) (t : State) (H1 : Heap) (locs1 : List Loc), t.heap = H1 → s.vm.Alike t.vm → post u → B u t → H.size ≤ H1.size → (∀ q : Nat, q < H.size → ¬ A1 q → H1[q]? = H[q]?) → va_S A0 H0 H1 locs1 → W p l e R s m args below meth c H1 locs1 (cells + mc) (slots + ms) Q (F0 m (pc + 3) ls (rest))) : W p l e R s m args below meth c H locs cells slots Q (F0 m pc ls st0) := by
  intro T hT X
  rcases hr T hT X with ⟨v, st₀, t, T', L, h0, X', hL, e1, e2, ⟨⟨u, hv, hp, hb⟩, hF⟩, st⟩ | ⟨q, st₀, t, T', L, E, ce, h0, X', hL, e1, e2, ⟨u, hp, hb, hF⟩, hce, hcv, hcl, st⟩
  · cases hv
    obtain ⟨k1, k2, k3⟩ := vx_keep h0 e1 hS hA hf hL hF
    obtain ⟨t2, a1, b1⟩ := kk u t T'.heap (locs ++ L) e1.symm (by rw [← e2]; exact X'.warmed.alike) hp hb k1 k2 k3 T' rfl X'
    exact ⟨t2, st t2 a1, b1⟩
  · obtain ⟨k1, k2, k3⟩ := vx_keep h0 e1 hS hAX hf hL hF
    obtain ⟨t2, a1, b1⟩ := kx E ce q u t T'.heap (locs ++ L) e1.symm (by rw [← e2]; exact X'.warmed.alike) hp hb k1 k2 k3 (by rw [e1]; exact hce) hcv hcl T' rfl X'
    exact ⟨t2, st.trans a1, b1⟩
/-- caught by the row x of this method's table; the rows ahead don't take it -/
theorem vx_catch {own name : String} {E : String} {ce : Cell} {q : Addr} (hown : s.vm.findClass own = some m.cls) (pre : List ExceptionTableEntry) (x : ExceptionTableEntry) (suf : List ExceptionTableEntry) (hsplit : c.exceptionTable.toList = pre ++ x :: suf)
    (hpass : ∀ z ∈ pre, covers z pc = false ∨ (z.catchType ≠ 0 ∧ ∃ nm : String, (Cond.classLink own z.catchType nm).before args s = true ∧ va_Nc E nm s)) (hx : covers x pc = true) (h0 : x.catchType ≠ 0)
    (hlink : (Cond.classLink own x.catchType name).before args s = true) (hcast : (Cond.castable E name).before args s = true) (hcell : H[q]? = some ce) (hv : ce.vm = .none) (hcl : s.vm.findClass E = some ce.cls)
    (kk : W p l e R s m args below meth c H locs cells slots Q (F0 m x.handlerPc ls [.ref q])) : vx_W p l e R s m args below meth c H locs cells slots Q (F0 m pc ls rest) q := by
  intro T hT X
  have hpl : e.platform.magicAccessors = ({} : Platform).magicAccessors := by rw [X.admits.platform]
  obtain ⟨c3, c4, hc3, hc4, hasg⟩ := Cond.castable_spec hcast
  cases Option.some.inj (hc3.symm.trans hcl)
  obtain ⟨c5, hc5, hcl5⟩ := Cond.classLink_spec hown hlink e.platform hpl
  cases Option.some.inj (hc4.symm.trans hc5)
  obtain ⟨vm', X', st⟩ := X.thenCaughtThrough q (g := F0 m pc ls rest) rfl (Steps.refl _) (by rw [hT]; exact hcell) (by rw [hv]; rfl) (by obtain ⟨k9, h9, -⟩ := Vm.findClass_spec hcl; exact ⟨k9, h9⟩) pre x suf hsplit
    (fun z hz => by
      rcases hpass z hz with h | ⟨hz0, nm, hl1, hn1⟩
      · exact Or.inl h
      · obtain ⟨c6, hc6, hcl6⟩ := Cond.classLink_spec hown hl1 e.platform hpl
        obtain ⟨a8, b8, h1, h2, h3⟩ := hn1
        cases Option.some.inj (h1.symm.trans hcl)
        cases Option.some.inj (h2.symm.trans hc6)
        exact Or.inr ⟨hz0, _, hcl6, h3⟩) hx (Or.inr ⟨h0, c4, hcl5, hasg⟩)
  obtain ⟨t, a1, b1⟩ := kk (T.setVm vm') hT X'
  exact ⟨t, st.trans a1, b1⟩
end Rows
section Ends
variable {p : Program} {l : Launch} {e : Env} {R : Room} {s : State} {m : MethodId} {args : Array Value} {below : List Frame} {meth : Method} {c : Code} {H : Heap} {locs : List Loc} {cells slots : Nat} {Q : State → Prop}
variable {mc ms : Nat} {free : Addr → Prop} {A0 A1 : Nat → Prop} {H0 : Heap} {a : Array Value} {ls : Array Slot} {st0 rest : List Value}
variable {Qc : Array Value → State → Outcome → State → Prop} {XC : String → State → State → Prop}
/-- what a body that may throw owes at its end -/
def vx_MQ (below : List Frame) (Qc : Array Value → State → Outcome → State → Prop) (XC : String → State → State → Prop) (a : Array Value) (s : State) (mc ms : Nat) (free : Addr → Prop) : State → Prop := fun t =>
  ∃ o, t.status = .running ∧ Ended t below o ∧ vx_Q Qc XC mc ms free a s o t
theorem vx_ret {g : JFrame} {mc ms : Nat} (k : W p l e R s m args below meth c H locs cells slots (MQ below Qc args s mc ms free) g) : W p l e R s m args below meth c H locs cells slots (vx_MQ below Qc XC args s mc ms free) g := by
  intro T hT X
  obtain ⟨t, a1, o, b1, b2, b3, b4⟩ := k T hT X
  exact ⟨t, a1, o, b1, b2, Or.inl ⟨b3, b4⟩⟩
/-- not caught here: it goes on to the caller -/
theorem vx_widen {g : JFrame} {q : Addr} {k n : Nat} (h1 : cells ≤ k) (h2 : slots ≤ n) (kk : vx_W p l e R s m args below meth c H locs k n Q g q) : vx_W p l e R s m args below meth c H locs cells slots Q g q := fun T hT X => kk T hT (stand_widen X h1 h2)
theorem vx_out {pc : Nat} {E : String} {ce : Cell} {q : Addr} {mc ms : Nat} (hout : ∀ x ∈ c.exceptionTable.toList, covers x pc = false) (hlocks : meth.locks = false) (hcell : H[q]? = some ce) (hv : ce.vm = .none) (hcl : s.vm.findClass E = some ce.cls)
    (hx : ∀ t : State, t.heap = H → s.vm.Alike t.vm → XC E s t) (hf : ∀ z ∈ locs, free z.base) (hc : cells ≤ mc) (hs : slots ≤ ms) :
    vx_W p l e R s m args below meth c H locs cells slots (vx_MQ below Qc XC args s mc ms free) (F0 m pc ls rest) q := by
  intro T hT X
  obtain ⟨st1, hrun, hend, hW, hsm⟩ := X.leaveThrown q (g := F0 m pc ls rest) rfl rfl rfl hout hlocks
  have hcell9 : (T.setFrames (.throwing q :: below)).heap[q]? = some ce := by
    show T.heap[q]? = some ce
    rw [hT]; exact hcell
  exact ⟨_, st1, .threw q, hrun, hend, Or.inr ⟨q, rfl, E, ce, locs, hx _ hT hW.alike, hcell9, hv, hcl, hW, hsm.mono hc hs, hf⟩⟩
theorem vx_frame {U : State} {k n : Nat} (h : s.sameButNew ({ U with vm := s.vm } : State) locs k n) : s.heap.size ≤ U.heap.size ∧ ∀ q : Nat, q < s.heap.size → (∀ z ∈ locs, z.base ≠ q) → U.heap[q]? = s.heap[q]? := by
  obtain ⟨-, h2, -, -, -, h6⟩ := h
  refine ⟨h2, fun q hq hz => ?_⟩
  obtain ⟨c9, e1, e2, e3, e4⟩ := h6 q _ (Array.getElem?_eq_getElem hq)
  have hs : c9.slots = (s.heap[q]).slots := Array.ext_getElem? fun i => e4 i fun hm => hz _ hm rfl
  have h9 : c9 = s.heap[q] := by
    rw [hs] at e2
    exact e2
  have e5 : U.heap[q]? = some c9 := e1
  rw [e5, h9, Array.getElem?_eq_getElem hq]
/-- the words of a throw but the four that speak of the heap -/
def vx_no (w : Cond) : Bool := decide (w ≠ .isRef (.static Bundle.tN "UNASSIGNED_STACK" Bundle.steD)) && decide (w ≠ .isRef (.static Bundle.tN "SUPPRESSED_SENTINEL" Bundle.listD)) && decide (w ≠ .laysStatic Bundle.tN "UNASSIGNED_STACK" Bundle.steD) && decide (w ≠ .laysStatic Bundle.tN "SUPPRESSED_SENTINEL" Bundle.listD)
def vx_at0 (own : String) (ic : Nat) (X : String) (names : List String) : List Cond := (Bundle.ownAtoms0 own ic X names).filter vx_no
def vx_atS (own : String) (ic : Nat) (X : String) (names : List String) : List Cond := (Bundle.ownAtoms own ic X names).filter vx_no
/-- a word that the tables alone decide, or a good one -/
def vx_ot (w : Cond) : Bool := w.onTables || goodWord w
theorem vx_ot_at {args a' : Array Value} {s U : State} {w : Cond} (hW : s.WarmedH U.vm) (hvm : s.vm = U.vm) (hg : vx_ot w = true) (h : w.before args s = true) : w.before a' U = true := by
  simp only [vx_ot, Bool.or_eq_true] at hg
  rcases hg with hg | hg
  · exact va_tabs hg hvm h
  · exact word_at hW (good_of_word hg) h
/-- a list's words: the good ones out of the method's own list, the others by premises of their own -/
theorem vx_hat {args : Array Value} {s : State} {L B : List Cond} (h1 : ∀ w ∈ L.filter goodWord, w.before args s = true) (h2 : ∀ w ∈ L.filter (fun w => !goodWord w), w ∈ B) (h3 : ∀ w ∈ B, w.before args s = true) : ∀ w ∈ L, w.before args s = true := by
  intro w hw
  by_cases g : goodWord w = true
  · exact h1 w (List.mem_filter.mpr ⟨hw, g⟩)
  · refine h3 w (h2 w (List.mem_filter.mpr ⟨hw, ?_⟩))
    show (!goodWord w) = true
    cases hgw : goodWord w
    · rfl
    · exact absurd hgw g
theorem vx_c {args : Array Value} {s : State} {w : Cond} {B : List Cond} (h : w.before args s = true) (t : ∀ w ∈ B, w.before args s = true) : ∀ w' ∈ w :: B, w'.before args s = true := fun w' h' => (List.mem_cons.mp h').elim (fun e => by rw [e]; exact h) (t w')
theorem vx_n {args : Array Value} {s : State} : ∀ w ∈ ([] : List Cond), w.before args s = true := fun _ h => nomatch h
theorem vx_own {args : Array Value} {s : State} {L : List Cond} (h1 : ∀ w ∈ L.filter vx_no, w.before args s = true)
    (hU : (Cond.isRef (.static Bundle.tN "UNASSIGNED_STACK" Bundle.steD)).before args s = true) (hN : (Cond.isRef (.static Bundle.tN "SUPPRESSED_SENTINEL" Bundle.listD)).before args s = true)
    (lU : (Cond.laysStatic Bundle.tN "UNASSIGNED_STACK" Bundle.steD).before args s = true) (lN : (Cond.laysStatic Bundle.tN "SUPPRESSED_SENTINEL" Bundle.listD).before args s = true) : ∀ w ∈ L, w.before args s = true := by
  intro w hw
  by_cases e1 : w = .isRef (.static Bundle.tN "UNASSIGNED_STACK" Bundle.steD)
  · rw [e1]; exact hU
  · by_cases e2 : w = .isRef (.static Bundle.tN "SUPPRESSED_SENTINEL" Bundle.listD)
    · rw [e2]; exact hN
    · by_cases e3 : w = .laysStatic Bundle.tN "UNASSIGNED_STACK" Bundle.steD
      · rw [e3]; exact lU
      · by_cases e4 : w = .laysStatic Bundle.tN "SUPPRESSED_SENTINEL" Bundle.listD
        · rw [e4]; exact lN
        · exact h1 w (List.mem_filter.mpr ⟨hw, by unfold vx_no; rw [decide_eq_true e1, decide_eq_true e2, decide_eq_true e3, decide_eq_true e4]; rfl⟩)
/-- where a static field lies, its class's statics cell in H -/
def vx_L (C n d : String) (A : Nat → Prop) (U : State) (H : Heap) : Prop := ∃ (c : ClassId) (k : Class) (i : Nat) (f : Field) (a : Nat) (cell : Cell), U.vm.findClass C = some c ∧ U.fieldFound? C n d = some (c, k, i, f) ∧ f.isStatic = true ∧ k.statics = some a ∧ H[a]? = some cell ∧ cell.vm.isStatics = true ∧ cell.cls = c ∧ f.slot < cell.slots.size ∧ k.staticTypes[f.slot]? = some f.type ∧ ¬ A a
theorem vx_L.moved {C n d : String} {A : Nat → Prop} {u U : State} {H : Heap} (hvm : u.vm.Alike U.vm) (h : vx_L C n d A u H) : vx_L C n d A U H := by
  obtain ⟨c, k, i, f, a, cell, h1, h2, h3, h4, h5, h6, h7, h8, h9, h10⟩ := h
  obtain ⟨k', hi', he⟩ := State.fieldFound?_setVm hvm h2
  exact ⟨c, k', i, f, a, cell, by rw [hvm.findClass]; exact h1, hi', h3, by rw [he]; exact h4, h5, h6, h7, h8, by rw [he]; exact h9, h10⟩
theorem vx_L.kept {C n d : String} {A : Nat → Prop} {U : State} {H H1 : Heap} (h : vx_L C n d A U H) (hq : ∀ a : Nat, a < H.size → ¬ A a → H1[a]? = H[a]?) : vx_L C n d A U H1 := by
  obtain ⟨c, k, i, f, a, cell, h1, h2, h3, h4, h5, h6, h7, h8, h9, h10⟩ := h
  exact ⟨c, k, i, f, a, cell, h1, h2, h3, h4, by rw [hq a (Array.getElem?_eq_some_iff.mp h5).1 h10]; exact h5, h6, h7, h8, h9, h10⟩
theorem vx_L.narrow {C n d : String} {A B : Nat → Prop} {U : State} {H : Heap} (h : vx_L C n d A U H) (hAB : ∀ q, B q → A q) : vx_L C n d B U H := by
  obtain ⟨c, k, i, f, a, cell, h1, h2, h3, h4, h5, h6, h7, h8, h9, h10⟩ := h
  exact ⟨c, k, i, f, a, cell, h1, h2, h3, h4, h5, h6, h7, h8, h9, fun z => h10 (hAB _ z)⟩
theorem vx_L.word {C n d : String} {A : Nat → Prop} {s : State} {args : Array Value} (h : vx_L C n d A s s.heap) : (Cond.laysStatic C n d).before args s = true := by
  obtain ⟨c, k, i, f, a, cell, h1, h2, h3, h4, h5, h6, h7, h8, h9, -⟩ := h
  show (Cond.laysStatic C n d).holds args s none s [] = true
  exact Cond.laysStatic_of h1 h2 h3 h4 h5 h6 h7 h8 h9
/-- .. and what it holds: null or some reference -/
def vx_Zq (C n d : String) (A : Nat → Prop) (U : State) (H : Heap) : Prop := va_Zq C n d A U H ∧ vx_L C n d A U H
theorem vx_Zq.moved {C n d : String} {A : Nat → Prop} {u U : State} {H : Heap} (hvm : u.vm.Alike U.vm) (h : vx_Zq C n d A u H) : vx_Zq C n d A U H := ⟨va_Zq.moved hvm h.1, vx_L.moved hvm h.2⟩
theorem vx_Zq.kept {C n d : String} {A : Nat → Prop} {U : State} {H H1 : Heap} (h : vx_Zq C n d A U H) (hq : ∀ a : Nat, a < H.size → ¬ A a → H1[a]? = H[a]?) : vx_Zq C n d A U H1 := ⟨va_Zq.kept h.1 hq, vx_L.kept h.2 hq⟩
theorem vx_Zq.narrow {C n d : String} {A B : Nat → Prop} {U : State} {H : Heap} (h : vx_Zq C n d A U H) (hAB : ∀ q, B q → A q) : vx_Zq C n d B U H := ⟨va_Zq.narrow h.1 hAB, vx_L.narrow h.2 hAB⟩
theorem vx_Zqof {args : Array Value} {s : State} {C n d : String} {A : Nat → Prop} (hl : (Cond.laysStatic C n d).before args s = true) (hini : (Cond.initialized C).before args s = true) (h : (Cond.isRef (.static C n d)).before args s = true) (hA : ∀ a : Nat, a < s.heap.size → ¬ A a) : vx_Zq C n d A s s.heap := by
  refine ⟨va_Zqof hl hini h hA, ?_⟩
  obtain ⟨c, k, i, f, a, cell, h1, h2, h3, h4, h5, h6, h7, h8, h9⟩ := Cond.laysStatic_spec hl
  exact ⟨c, k, i, f, a, cell, h1, h2, h3, h4, h5, h6, h7, h8, h9, hA a (Array.getElem?_eq_some_iff.mp h5).1⟩
theorem vx_isRef {C n d : String} {v : Value} {A : Nat → Prop} {s : State} {args : Array Value} (h : va_Z C n d v A s s.heap) (hv : v.isRef = true) : (Cond.isRef (.static C n d)).before args s = true := by
  obtain ⟨cf, kf, fi, f, a, cell, h1, h2, h3, h4, h5, h6, h7, -⟩ := h
  have he : (Term.static C n d).eval args s none [] s = some v := by
    simp [Term.eval, State.fieldNamed?, h1, h2, h4, h5, h6, h7]
  simp only [Cond.before, Cond.holds, Cond.value, he]
  cases v <;> simp_all [Value.isRef]
theorem vx_isRefq {C n d : String} {A : Nat → Prop} {s : State} {args : Array Value} (h : va_Zq C n d A s s.heap) : (Cond.isRef (.static C n d)).before args s = true := by
  rcases h with h | ⟨t, h⟩
  · exact vx_isRef h rfl
  · exact vx_isRef h rfl
/-- the same frame, seen from here: as if the method were called anew in this heap -/
theorem vx_rebase {T : State} (X : Stand p l e R s m args below meth c T locs cells slots) {R' : Room} (hf : R'.frames ≤ R.frames) (hl : R'.locals ≤ R.locals) (hc : cells + R'.cells ≤ R.cells) (hs : slots + R'.slots ≤ R.slots) :
    Stand p l e R' ((T.setVm s.vm).setFrames (.invoking m args :: below)) m args below meth c T [] 0 0 := by
  have htop : (T.setVm s.vm).topJava?.isSome := X.here.top
  have hF : ((T.setVm s.vm).setFrames (.invoking m args :: below)).frames = .invoking m args :: below := State.frames_setFrames _ (State.cur_lt_of_top htop)
  obtain ⟨g₀, hg0⟩ := Option.isSome_iff_exists.mp htop
  obtain ⟨r, hr⟩ := State.topJava?_eq_some.mp hg0
  have hl9 : e.platform.stackLimits (T.setVm s.vm).me = e.platform.stackLimits s.me := X.limits
  have hb9 : (T.setVm s.vm).me.stackBytes = s.me.stackBytes := X.bytes
  refine ⟨X.admits, X.cas, X.clock, hF, ?_, X.hears, X.method, X.code, X.here, X.tail, X.warmed, ?_, ?_, ?_⟩
  · have h := X.room
    have hU : ((T.setVm s.vm).setFrames (.invoking m args :: below)).localsInUse = s.localsInUse := by
      rw [State.localsInUse_invoking hF (meth := meth) (c := c) X.method X.code, State.localsInUse_invoking X.frames X.method X.code]
    simp only [State.hasRoom, Bool.and_eq_true, decide_eq_true_eq] at h ⊢
    obtain ⟨⟨⟨⟨h1, h2, h3, h4, h5, h6⟩, h7⟩, h8⟩, h9⟩ := h
    rw [X.frames, List.length_cons] at h2 h3
    have q1 := X.heapSize
    have q2 := X.used
    simp only [hF, hU, List.length_cons, State.stackLimits_setFrames, State.stackBytes_setFrames, hl9, hb9]
    refine ⟨⟨⟨⟨by omega, by omega, by omega, by omega, by omega, h6⟩, ?_⟩, ?_⟩, X.book⟩
    · show T.heap.size + R'.cells ≤ e.platform.maxCells
      omega
    · show T.slotsUsed + R'.slots ≤ e.platform.maxSlots
      omega
  · rw [State.stackLimits_setFrames]; rfl
  · rw [State.stackBytes_setFrames]; rfl
  · refine ⟨?_, Nat.le_refl _, Nat.le_refl _, ?_, ?_, fun a c9 h9 => ⟨c9, h9, rfl, rfl, fun _ _ => rfl⟩⟩
    · obtain ⟨t, ht, -⟩ := State.frames_cons hr
      show T.setVm s.vm = { ((T.setVm s.vm).setFrames (.invoking m args :: below)).setFrames (T.setVm s.vm).frames with heap := T.heap, slotsUsed := T.slotsUsed }
      rw [State.setFrames_setFrames, State.setFrames_self ht]
      rfl
    · show T.slotsUsed = T.slotsUsed + ((T.heap.toList.drop T.heap.size).map (·.slots.size)).sum
      rw [List.drop_eq_nil_of_le (Nat.le_of_eq Array.length_toList)]
      rfl
    · show ((T.heap.toList.drop T.heap.size).map (·.slots.size)).sum ≤ 0
      rw [List.drop_eq_nil_of_le (Nat.le_of_eq Array.length_toList)]
      exact Nat.le_refl _
/-- 'throw new E()': new; dup; invokespecial; athrow -/
theorem vx_throw0 {cc : ByteArray} {pc : Nat} (hexec : p.tables.exec = Jvm.exec) (hb : c.code = cc) (hl : l.stackTraces = false) {own cls : String} {names : List String} {ik ic mc ms : Nat} {A : Nat → Prop}
    (hown : s.vm.findClass own = some m.cls) (hcls : Bundle.fit cls = true) (hnames : ∀ n ∈ names, Bundle.fit n = true)
    (hk : (Cond.classLink own ik cls).before args s = true) (hini : (Cond.initialized cls).before args s = true) (hat : ∀ w ∈ vx_at0 own ic cls names, w.before args s = true)
    (hgood : ∀ w ∈ Cond.classLink own ik cls :: Cond.initialized cls :: vx_at0 own ic cls names, vx_ot w = true)
    (hU : vx_Zq Bundle.tN "UNASSIGNED_STACK" Bundle.steD A s s.heap) (hN : vx_Zq Bundle.tN "SUPPRESSED_SENTINEL" Bundle.listD A s s.heap) (hS : va_S A s.heap H locs) (hsize : ls.size = c.maxLocals)
    (d0 : decode cc pc = .ok (.new ik, 3)) (d3 : decode cc (pc + 3) = .ok (.dup, 1)) (d4 : decode cc (pc + 4) = .ok (.invokespecial ic, 3)) (d7 : decode cc (pc + 7) = .ok (.athrow, 1))
    (hout : ∀ x ∈ c.exceptionTable.toList, covers x (pc + 7) = false)
    (hRframes : names.length + 3 < R.frames) (hRlocals : (rest.map fun v => v.category).sum + (13 * (names.length + 1) + 42) ≤ R.locals) (hRcells : cells + 1 ≤ R.cells) (hRslots : slots + 6 ≤ R.slots) (hlocks : meth.locks = false)
    (hx : ∀ t : State, s.vm.Alike t.vm → H.size ≤ t.heap.size → (∀ q : Nat, q < H.size → t.heap[q]? = H[q]?) → XC cls s t)
    (hf : ∀ z ∈ locs, free z.base) (hc : cells + 1 ≤ mc) (hs : slots + 6 ≤ ms) :
    W p l e R s m args below meth c H locs cells slots (vx_MQ below Qc XC args s mc ms free) (F0 m pc ls rest) := by
  intro T hT X
  have htr : e.platform.stackTraces = false := (show e.platform.stackTraces = l.stackTraces by rw [X.admits.platform]).trans hl
  have Y := vx_rebase X (R' := { frames := R.frames, locals := R.locals, cells := 1, slots := 6 }) (Nat.le_refl _) (Nat.le_refl _) hRcells hRslots
  obtain ⟨s', hA⟩ : ∃ z, z = (T.setVm s.vm).setFrames (.invoking m args :: below) := ⟨_, rfl⟩
  rw [← hA] at Y
  have hvm : s'.vm = s.vm := by rw [hA]; rfl
  have hhp : s'.heap = H := by rw [hA]; exact hT
  have hW0 : s.WarmedH s'.vm := by rw [hvm]; exact State.WarmedH.refl s
  have hat' : ∀ w ∈ vx_at0 own ic cls names, w.before args s' = true := fun w hw => vx_ot_at hW0 hvm.symm (hgood w (List.mem_cons_of_mem _ (List.mem_cons_of_mem _ hw))) (hat w hw)
  have hk' : (Cond.classLink own ik cls).before args s' = true := vx_ot_at hW0 hvm.symm (hgood _ List.mem_cons_self) hk
  have hini' : (Cond.initialized cls).before args s' = true := vx_ot_at hW0 hvm.symm (hgood _ (List.mem_cons_of_mem _ List.mem_cons_self)) hini
  have hU' : vx_Zq Bundle.tN "UNASSIGNED_STACK" Bundle.steD A s' s'.heap := by rw [hhp]; exact vx_Zq.moved hW0.alike (hU.kept hS.2.1)
  have hN' : vx_Zq Bundle.tN "SUPPRESSED_SENTINEL" Bundle.listD A s' s'.heap := by rw [hhp]; exact vx_Zq.moved hW0.alike (hN.kept hS.2.1)
  have h : ∀ w ∈ Bundle.ownAtoms0 own ic cls names, w.before args s' = true := vx_own hat' (vx_isRefq hU'.1) (vx_isRefq hN'.1) hU'.2.word hN'.2.word
  have hown' : s'.vm.findClass own = some m.cls := by rw [hvm]; exact hown
  have hins : (Cond.instantiable cls 6).before args s' = true := h _ (by simp [Bundle.ownAtoms0])
  obtain ⟨vm₁, cX, kX, hfX, hkX, -, -, X₁, st1⟩ := Y.newCold hexec (own := own) (C := cls) (index := ik) (n := 6) hown' hk' hins hini'
    (g := F0 m pc ls rest) rfl (by rw [hb]; exact d0) (Nat.le_refl _) (Nat.le_refl _)
  generalize hT1 : (T.setVm vm₁).pushCell { cls := cX, slots := kX.instanceTypes.map defaultValue, vm := .none } = T1 at X₁ st1
  have hcat : (Value.ref T.heap.size).category = 1 := rfl
  have hcellA : T1.heap[T.heap.size]? = some (freshCell cX kX) := by rw [← hT1]; exact State.heap_pushCell_size _ _
  have d3' : decode c.code (pc + 3) = .ok (.dup, 1) := by rw [hb]; exact d3
  obtain ⟨U, hsteps, hrun, hend, hW, hsame, ce, hce, hO⟩ := X₁.ctorThrow0 hexec htr (own := own) (cls := cls) (names := names) (ic := ic) hown' hcls hnames h (fun x hx => nomatch hx) hfX hkX hcellA (by rw [hhp, hT]; exact Nat.le_refl _)
    (g := { method := m, pc := pc + 4, locals := ls, stack := .ref T.heap.size :: .ref T.heap.size :: rest, locked := none }) rfl hsize rfl rfl (rest := rest) rfl
    (by rw [hb]; exact d4) (by rw [hb]; exact d7) hout hRframes (by simp only [List.map_cons, List.sum_cons, hcat]; omega) hlocks
  obtain ⟨f1, f2⟩ := vx_frame hsame
  rw [hhp] at f1 f2
  have hWs : s.WarmedH U.vm := State.WarmedH.trans hW0 hW
  have hcl : s.vm.findClass cls = some ce.cls := by
    have h9 := hO.cls
    rw [hvm] at h9
    exact h9
  have hall : s.sameButNew ({ U with vm := s.vm } : State) locs mc ms := by
    subst hA
    obtain ⟨e1, e2⟩ := hsame
    rw [State.setFrames_setFrames] at e1
    have h2 : (T.setVm s.vm).sameButNew ({ U with vm := s.vm } : State) [] (0 + 1) (0 + 6) := ⟨e1, e2⟩
    have h3 := X.same.trans h2
    rw [List.append_nil] at h3
    exact h3.mono hc hs
  refine ⟨U, ?_, .threw T.heap.size, hrun, hend, Or.inr ⟨T.heap.size, rfl, cls, ce, locs, hx U hWs.alike f1 (fun q hq => f2 q hq (fun z hz => nomatch hz)), hce, hO.vm, hcl, hWs, hall, hf⟩⟩
  refine st1 _ ?_
  show Steps p.tables e below (T1.setTop { method := m, pc := pc + 3, locals := ls, stack := .ref T.heap.size :: rest, locked := none }) _
  jvm_step X₁.here [X₁.here.top, hexec, d3', Value.category]
  exact hsteps
/-- 'throw new E("text")': new; dup; ldc; invokespecial; athrow -/
theorem vx_throwS {cc : ByteArray} {pc : Nat} (hexec : p.tables.exec = Jvm.exec) (hb : c.code = cc) (hl : l.stackTraces = false) {own cls text : String} {names : List String} {ik is ic mc ms sa : Nat} {A : Nat → Prop}
    (hown : s.vm.findClass own = some m.cls) (hcls : Bundle.fit cls = true) (hnames : ∀ n ∈ names, Bundle.fit n = true)
    (hk : (Cond.classLink own ik cls).before args s = true) (hini : (Cond.initialized cls).before args s = true) (hstr : vk_R own is text sa s) (hat : ∀ w ∈ vx_atS own ic cls names, w.before args s = true)
    (hgood : ∀ w ∈ Cond.classLink own ik cls :: Cond.initialized cls :: vx_atS own ic cls names, vx_ot w = true)
    (hU : vx_Zq Bundle.tN "UNASSIGNED_STACK" Bundle.steD A s s.heap) (hN : vx_Zq Bundle.tN "SUPPRESSED_SENTINEL" Bundle.listD A s s.heap) (hS : va_S A s.heap H locs) (hsize : ls.size = c.maxLocals)
    (d0 : decode cc pc = .ok (.new ik, 3)) (d3 : decode cc (pc + 3) = .ok (.dup, 1)) (d4 : decode cc (pc + 4) = .ok (.ldc is, 2)) (d6 : decode cc (pc + 6) = .ok (.invokespecial ic, 3)) (d9 : decode cc (pc + 9) = .ok (.athrow, 1))
    (hout : ∀ x ∈ c.exceptionTable.toList, covers x (pc + 9) = false)
    (hRframes : names.length + 3 < R.frames) (hRlocals : (rest.map fun v => v.category).sum + (13 * (names.length + 1) + 43) ≤ R.locals) (hRcells : cells + 1 ≤ R.cells) (hRslots : slots + 6 ≤ R.slots) (hlocks : meth.locks = false)
    (hx : ∀ t : State, s.vm.Alike t.vm → H.size ≤ t.heap.size → (∀ q : Nat, q < H.size → t.heap[q]? = H[q]?) → XC cls s t)
    (hf : ∀ z ∈ locs, free z.base) (hc : cells + 1 ≤ mc) (hs : slots + 6 ≤ ms) :
    W p l e R s m args below meth c H locs cells slots (vx_MQ below Qc XC args s mc ms free) (F0 m pc ls rest) := by
  intro T hT X
  have htr : e.platform.stackTraces = false := (show e.platform.stackTraces = l.stackTraces by rw [X.admits.platform]).trans hl
  have Y := vx_rebase X (R' := { frames := R.frames, locals := R.locals, cells := 1, slots := 6 }) (Nat.le_refl _) (Nat.le_refl _) hRcells hRslots
  obtain ⟨s', hA⟩ : ∃ z, z = (T.setVm s.vm).setFrames (.invoking m args :: below) := ⟨_, rfl⟩
  rw [← hA] at Y
  have hvm : s'.vm = s.vm := by rw [hA]; rfl
  have hhp : s'.heap = H := by rw [hA]; exact hT
  have hW0 : s.WarmedH s'.vm := by rw [hvm]; exact State.WarmedH.refl s
  have hat' : ∀ w ∈ vx_atS own ic cls names, w.before args s' = true := fun w hw => vx_ot_at hW0 hvm.symm (hgood w (List.mem_cons_of_mem _ (List.mem_cons_of_mem _ hw))) (hat w hw)
  have hk' : (Cond.classLink own ik cls).before args s' = true := vx_ot_at hW0 hvm.symm (hgood _ List.mem_cons_self) hk
  have hini' : (Cond.initialized cls).before args s' = true := vx_ot_at hW0 hvm.symm (hgood _ (List.mem_cons_of_mem _ List.mem_cons_self)) hini
  have hU' : vx_Zq Bundle.tN "UNASSIGNED_STACK" Bundle.steD A s' s'.heap := by rw [hhp]; exact vx_Zq.moved hW0.alike (hU.kept hS.2.1)
  have hN' : vx_Zq Bundle.tN "SUPPRESSED_SENTINEL" Bundle.listD A s' s'.heap := by rw [hhp]; exact vx_Zq.moved hW0.alike (hN.kept hS.2.1)
  have h : ∀ w ∈ Bundle.ownAtoms own ic cls names, w.before args s' = true := vx_own hat' (vx_isRefq hU'.1) (vx_isRefq hN'.1) hU'.2.word hN'.2.word
  have hown' : s'.vm.findClass own = some m.cls := by rw [hvm]; exact hown
  have hins : (Cond.instantiable cls 6).before args s' = true := h _ (by simp [Bundle.ownAtoms])
  obtain ⟨vm₁, cX, kX, hfX, hkX, -, -, X₁, st1⟩ := Y.newCold hexec (own := own) (C := cls) (index := ik) (n := 6) hown' hk' hins hini'
    (g := F0 m pc ls rest) rfl (by rw [hb]; exact d0) (Nat.le_refl _) (Nat.le_refl _)
  generalize hT1 : (T.setVm vm₁).pushCell { cls := cX, slots := kX.instanceTypes.map defaultValue, vm := .none } = T1 at X₁ st1
  have hcat : (Value.ref T.heap.size).category = 1 := rfl
  have hcellA : T1.heap[T.heap.size]? = some (freshCell cX kX) := by rw [← hT1]; exact State.heap_pushCell_size _ _
  have d3' : decode c.code (pc + 3) = .ok (.dup, 1) := by rw [hb]; exact d3
  have d4' : decode c.code (pc + 4) = .ok (.ldc is, 2) := by rw [hb]; exact d4
  have hstr' : vk_R own is text sa s' := vk_R.warm hW0 hstr
  obtain ⟨U, hsteps, hrun, hend, hW, hsame, ce, hce, hO⟩ := X₁.ctorThrowS hexec htr (own := own) (cls := cls) (names := names) (ic := ic) hown' hcls hnames h (fun x hx => nomatch hx) hfX hkX hcellA (by rw [hhp, hT]; exact Nat.le_refl _) (msg := .ref sa) rfl
    (g := { method := m, pc := pc + 6, locals := ls, stack := .ref sa :: .ref T.heap.size :: .ref T.heap.size :: rest, locked := none }) rfl hsize rfl rfl (rest := rest) rfl
    (by rw [hb]; exact d6) (by rw [hb]; exact d9) hout hRframes (by simp only [List.map_cons, List.sum_cons, hcat]; omega) hlocks
  obtain ⟨f1, f2⟩ := vx_frame hsame
  rw [hhp] at f1 f2
  have hWs : s.WarmedH U.vm := State.WarmedH.trans hW0 hW
  have hcl : s.vm.findClass cls = some ce.cls := by
    have h9 := hO.cls
    rw [hvm] at h9
    exact h9
  have hall : s.sameButNew ({ U with vm := s.vm } : State) locs mc ms := by
    subst hA
    obtain ⟨e1, e2⟩ := hsame
    rw [State.setFrames_setFrames] at e1
    have h2 : (T.setVm s.vm).sameButNew ({ U with vm := s.vm } : State) [] (0 + 1) (0 + 6) := ⟨e1, e2⟩
    have h3 := X.same.trans h2
    rw [List.append_nil] at h3
    exact h3.mono hc hs
  refine ⟨U, ?_, .threw T.heap.size, hrun, hend, Or.inr ⟨T.heap.size, rfl, cls, ce, locs, hx U hWs.alike f1 (fun q hq => f2 q hq (fun z hz => nomatch hz)), hce, hO.vm, hcl, hWs, hall, hf⟩⟩
  refine st1 _ ?_
  show Steps p.tables e below (T1.setTop { method := m, pc := pc + 3, locals := ls, stack := .ref T.heap.size :: rest, locked := none }) _
  jvm_step X₁.here [X₁.here.top, hexec, d3', Value.category]
  exact X₁.ldcString hexec (own := own) (text := text) (index := is) (a := sa) hown' hstr'.1 hstr'.2
    (g := { method := m, pc := pc + 4, locals := ls, stack := .ref T.heap.size :: .ref T.heap.size :: rest, locked := none }) rfl d4' _ hsteps
/-- 'throw new E("text")', the text by a wide index -/
theorem vx_throwSW {cc : ByteArray} {pc : Nat} (hexec : p.tables.exec = Jvm.exec) (hb : c.code = cc) (hl : l.stackTraces = false) {own cls text : String} {names : List String} {ik is ic mc ms sa : Nat} {A : Nat → Prop}
    (hown : s.vm.findClass own = some m.cls) (hcls : Bundle.fit cls = true) (hnames : ∀ n ∈ names, Bundle.fit n = true)
    (hk : (Cond.classLink own ik cls).before args s = true) (hini : (Cond.initialized cls).before args s = true) (hstr : vk_R own is text sa s) (hat : ∀ w ∈ vx_atS own ic cls names, w.before args s = true)
    (hgood : ∀ w ∈ Cond.classLink own ik cls :: Cond.initialized cls :: vx_atS own ic cls names, vx_ot w = true)
    (hU : vx_Zq Bundle.tN "UNASSIGNED_STACK" Bundle.steD A s s.heap) (hN : vx_Zq Bundle.tN "SUPPRESSED_SENTINEL" Bundle.listD A s s.heap) (hS : va_S A s.heap H locs) (hsize : ls.size = c.maxLocals)
    (d0 : decode cc pc = .ok (.new ik, 3)) (d3 : decode cc (pc + 3) = .ok (.dup, 1)) (d4 : decode cc (pc + 4) = .ok (.ldc_w is, 3)) (d7 : decode cc (pc + 7) = .ok (.invokespecial ic, 3)) (d10 : decode cc (pc + 10) = .ok (.athrow, 1))
    (hout : ∀ x ∈ c.exceptionTable.toList, covers x (pc + 10) = false)
    (hRframes : names.length + 3 < R.frames) (hRlocals : (rest.map fun v => v.category).sum + (13 * (names.length + 1) + 43) ≤ R.locals) (hRcells : cells + 1 ≤ R.cells) (hRslots : slots + 6 ≤ R.slots) (hlocks : meth.locks = false)
    (hx : ∀ t : State, s.vm.Alike t.vm → H.size ≤ t.heap.size → (∀ q : Nat, q < H.size → t.heap[q]? = H[q]?) → XC cls s t)
    (hf : ∀ z ∈ locs, free z.base) (hc : cells + 1 ≤ mc) (hs : slots + 6 ≤ ms) :
    W p l e R s m args below meth c H locs cells slots (vx_MQ below Qc XC args s mc ms free) (F0 m pc ls rest) := by
  intro T hT X
  have htr : e.platform.stackTraces = false := (show e.platform.stackTraces = l.stackTraces by rw [X.admits.platform]).trans hl
  have Y := vx_rebase X (R' := { frames := R.frames, locals := R.locals, cells := 1, slots := 6 }) (Nat.le_refl _) (Nat.le_refl _) hRcells hRslots
  obtain ⟨s', hA⟩ : ∃ z, z = (T.setVm s.vm).setFrames (.invoking m args :: below) := ⟨_, rfl⟩
  rw [← hA] at Y
  have hvm : s'.vm = s.vm := by rw [hA]; rfl
  have hhp : s'.heap = H := by rw [hA]; exact hT
  have hW0 : s.WarmedH s'.vm := by rw [hvm]; exact State.WarmedH.refl s
  have hat' : ∀ w ∈ vx_atS own ic cls names, w.before args s' = true := fun w hw => vx_ot_at hW0 hvm.symm (hgood w (List.mem_cons_of_mem _ (List.mem_cons_of_mem _ hw))) (hat w hw)
  have hk' : (Cond.classLink own ik cls).before args s' = true := vx_ot_at hW0 hvm.symm (hgood _ List.mem_cons_self) hk
  have hini' : (Cond.initialized cls).before args s' = true := vx_ot_at hW0 hvm.symm (hgood _ (List.mem_cons_of_mem _ List.mem_cons_self)) hini
  have hU' : vx_Zq Bundle.tN "UNASSIGNED_STACK" Bundle.steD A s' s'.heap := by rw [hhp]; exact vx_Zq.moved hW0.alike (hU.kept hS.2.1)
  have hN' : vx_Zq Bundle.tN "SUPPRESSED_SENTINEL" Bundle.listD A s' s'.heap := by rw [hhp]; exact vx_Zq.moved hW0.alike (hN.kept hS.2.1)
  have h : ∀ w ∈ Bundle.ownAtoms own ic cls names, w.before args s' = true := vx_own hat' (vx_isRefq hU'.1) (vx_isRefq hN'.1) hU'.2.word hN'.2.word
  have hown' : s'.vm.findClass own = some m.cls := by rw [hvm]; exact hown
  have hins : (Cond.instantiable cls 6).before args s' = true := h _ (by simp [Bundle.ownAtoms])
  obtain ⟨vm₁, cX, kX, hfX, hkX, -, -, X₁, st1⟩ := Y.newCold hexec (own := own) (C := cls) (index := ik) (n := 6) hown' hk' hins hini'
    (g := F0 m pc ls rest) rfl (by rw [hb]; exact d0) (Nat.le_refl _) (Nat.le_refl _)
  generalize hT1 : (T.setVm vm₁).pushCell { cls := cX, slots := kX.instanceTypes.map defaultValue, vm := .none } = T1 at X₁ st1
  have hcat : (Value.ref T.heap.size).category = 1 := rfl
  have hcellA : T1.heap[T.heap.size]? = some (freshCell cX kX) := by rw [← hT1]; exact State.heap_pushCell_size _ _
  have d3' : decode c.code (pc + 3) = .ok (.dup, 1) := by rw [hb]; exact d3
  have d4' : decode c.code (pc + 4) = .ok (.ldc_w is, 3) := by rw [hb]; exact d4
  have hstr' : vk_R own is text sa s' := vk_R.warm hW0 hstr
  obtain ⟨U, hsteps, hrun, hend, hW, hsame, ce, hce, hO⟩ := X₁.ctorThrowS hexec htr (own := own) (cls := cls) (names := names) (ic := ic) hown' hcls hnames h (fun x hx => nomatch hx) hfX hkX hcellA (by rw [hhp, hT]; exact Nat.le_refl _) (msg := .ref sa) rfl
    (g := { method := m, pc := pc + 7, locals := ls, stack := .ref sa :: .ref T.heap.size :: .ref T.heap.size :: rest, locked := none }) rfl hsize rfl rfl (rest := rest) rfl
    (by rw [hb]; exact d7) (by rw [hb]; exact d10) hout hRframes (by simp only [List.map_cons, List.sum_cons, hcat]; omega) hlocks
  obtain ⟨f1, f2⟩ := vx_frame hsame
  rw [hhp] at f1 f2
  have hWs : s.WarmedH U.vm := State.WarmedH.trans hW0 hW
  have hcl : s.vm.findClass cls = some ce.cls := by
    have h9 := hO.cls
    rw [hvm] at h9
    exact h9
  have hall : s.sameButNew ({ U with vm := s.vm } : State) locs mc ms := by
    subst hA
    obtain ⟨e1, e2⟩ := hsame
    rw [State.setFrames_setFrames] at e1
    have h2 : (T.setVm s.vm).sameButNew ({ U with vm := s.vm } : State) [] (0 + 1) (0 + 6) := ⟨e1, e2⟩
    have h3 := X.same.trans h2
    rw [List.append_nil] at h3
    exact h3.mono hc hs
  refine ⟨U, ?_, .threw T.heap.size, hrun, hend, Or.inr ⟨T.heap.size, rfl, cls, ce, locs, hx U hWs.alike f1 (fun q hq => f2 q hq (fun z hz => nomatch hz)), hce, hO.vm, hcl, hWs, hall, hf⟩⟩
  refine st1 _ ?_
  show Steps p.tables e below (T1.setTop { method := m, pc := pc + 3, locals := ls, stack := .ref T.heap.size :: rest, locked := none }) _
  jvm_step X₁.here [X₁.here.top, hexec, d3', Value.category]
  exact X₁.ldcStringW hexec (own := own) (text := text) (index := is) (a := sa) hown' hstr'.1 hstr'.2
    (g := { method := m, pc := pc + 4, locals := ls, stack := .ref T.heap.size :: .ref T.heap.size :: rest, locked := none }) rfl d4' _ hsteps
end Ends
section Bodies
variable {l : Launch}
theorem vx_ofW {y : MethodName} {ws ws' : List Cond} {rm : Room} {Pc : Array Value → State → Prop} {Qc : Array Value → State → Outcome → State → Prop} {XC : String → State → State → Prop} {mc ms : Nat} {free : Addr → Prop} {cc : ByteArray} {maxL : Nat} {ret : Option FieldType}
    (hy : plainName y.cls = true) (hw : ws = Cond.code y cc maxL ret :: ws')
    (body : ∀ p e s m args below meth c s₁, BodyLoose p l y (headSpec ws rm) cc maxL ret e s m args below meth c s₁ → c.maxLocals = maxL → (∀ x ∈ c.exceptionTable.toList, False) → Pc args s →
      W p l e (headSpec ws rm).room s m args below meth c s.heap [] 0 0 (vx_MQ below Qc XC args s mc ms free) (entryFrame m args maxL)) : vx_Met l y ws rm Pc Qc XC mc ms free := by
  refine MetFree.of_bodyS (code := cc) (maxLocals := maxL) (ret := ret) hy ?_ ?_
  · intro args s m h hn
    obtain ⟨meth, c, h1, h2, h3, h4, h5, h6, -, -⟩ := Cond.code_spec hn (atoms_spec (ws := ws) h _ (by rw [hw]; exact List.mem_cons_self))
    exact ⟨meth, c, h1, h2, h3, h4, h5, h6⟩
  · intro p e s m args below meth c s₁ B hml hP _
    have hh0 : s₁.heap = s.heap := by rw [B.state]; rfl
    have ht : ∀ x ∈ c.exceptionTable.toList, False := by
      obtain ⟨meth9, c9, h1, h2, -, -, -, -, h7, -⟩ := Cond.code_spec B.named (atoms_spec (ws := ws) B.pre _ (by rw [hw]; exact List.mem_cons_self))
      cases Option.some.inj (h1.symm.trans B.method)
      cases Option.some.inj (h2.symm.trans (Stand.of_body B).code)
      intro x hx
      rw [Array.isEmpty_iff.mp h7] at hx
      cases hx
    obtain ⟨t, a1, o, b1, b2, b3⟩ := body p e s m args below meth c s₁ B hml ht hP s₁ hh0 (Stand.of_body B)
    exact ⟨t, o, a1, b1, b2, b3⟩
/-- the table of a body with handlers -/
theorem vx_table {p : Program} {x y : MethodName} {S : Spec} {cc bytes : ByteArray} {maxL maxL' : Nat} {ret ret' : Option FieldType} {e : Env} {s s₁ : State} {m : MethodId} {args : Array Value} {below : List Frame} {meth : Method} {c : Code} {hh : List (Nat × Nat × Nat × Nat)}
    (B : BodyLoose p l y S cc maxL ret e s m args below meth c s₁) (h : (Cond.codeWith y bytes maxL' ret' hh).before args s = true) : c.exceptionTable.toList = tableOf hh := by
  obtain ⟨m9, meth9, c9, hn9, h1, h2, -, -, h6, -⟩ := Cond.codeWith_spec h
  cases Option.some.inj (hn9.symm.trans B.named)
  cases Option.some.inj (h1.symm.trans B.method)
  cases Option.some.inj (h2.symm.trans (Stand.of_body B).code)
  rw [← h6, table_eq]
end Bodies
end VXA
/-! ===== END ===== -/
/-! ===== BEGIN a static call of a method with an exception table ===== -/
section VXS
variable {p : Program} {l : Launch} {e : Env} {R : Room} {s : State} {m : MethodId} {args : Array Value} {below : List Frame} {meth : Method} {c : Code} {T : State} {H : Heap} {locs : List Loc} {cells slots : Nat}
abbrev vx_CSW (R : Room) (s : State) (args : Array Value) (own : String) (index : Nat) (y : MethodName) (bytes : ByteArray) (maxL : Nat) (ret : Option FieldType) (hh : List (Nat × Nat × Nat × Nat)) (ws : List Cond) (rm : Room) (mc ms n : Nat) : Prop :=
  (rm.cells = mc ∧ rm.slots = ms ∧ rm.frames + 1 ≤ R.frames ∧ 8 + (maxL + 11) + rm.locals ≤ R.locals ∧ (∀ w ∈ ws, ∀ (a' : Array Value) (U : State), s.WarmedH U.vm → w.before a' U = true) ∧ Cond.codeWith y bytes maxL ret hh ∈ ws) ∧
  (Cond.codeWith y bytes maxL ret hh).before args s = true ∧ (Cond.initialized y.cls).before args s = true ∧ (y.cls ≠ "java/lang/invoke/MethodHandle" ∧ y.cls ≠ "java/lang/invoke/VarHandle") ∧
  (∀ sig, parseMethodDescriptor y.desc = some sig → n = sig.parameters.length) ∧ (Cond.methodLink own index y).before args s = true ∧ (Cond.static y).before args s = true
theorem vx_cwSW {own : String} {index maxL mc ms : Nat} {y : MethodName} {bytes : ByteArray} {ret : Option FieldType} {hh : List (Nat × Nat × Nat × Nat)} {Ts ws ws' : List Cond} {rm : Room} (n : Nat) (ht : ∀ w ∈ Ts, w.before args s = true) (hT : GoodIn Ts (va_wsS own index y ws)) (hw : ws = Cond.codeWith y bytes maxL ret hh :: ws') (hrc : rm.cells = mc) (hrs : rm.slots = ms)
    (hd : y.cls ≠ "java/lang/invoke/MethodHandle" ∧ y.cls ≠ "java/lang/invoke/VarHandle" ∧ (parseMethodDescriptor y.desc).map (fun d => d.parameters.length) = some n) (hR : rm.frames + 1 ≤ R.frames ∧ 8 + (maxL + 11) + rm.locals ≤ R.locals) :
    vx_CSW R s args own index y bytes maxL ret hh ws rm mc ms n := by
  have ok : ∀ w ∈ va_wsS own index y ws, w.before args s = true := fun w h => ht w (hT w h).1
  have hG : GoodIn Ts ws := fun w h => hT w (by unfold va_wsS; exact List.mem_append_right _ h)
  have hc : Cond.codeWith y bytes maxL ret hh ∈ ws := by rw [hw]; exact List.mem_cons_self
  refine ⟨⟨hrc, hrs, hR.1, hR.2, pay_in ht hG, hc⟩, ht _ (hG _ hc).1, ok _ (by simp [va_wsS]), ⟨hd.1, hd.2.1⟩, fun sig h => ?_, ok _ (by simp [va_wsS]), ok _ (by simp [va_wsS])⟩
  have h2 := hd.2.2
  rw [h] at h2
  exact (Option.some.inj h2).symm
theorem vx_callSW (X : Stand p l e R s m args below meth c T locs cells slots) (hexec : p.tables.exec = Jvm.exec) {own : String} {index : Nat} {y : MethodName} {bytes : ByteArray} {maxL : Nat} {ret : Option FieldType} {hh : List (Nat × Nat × Nat × Nat)}
    (hown : s.vm.findClass own = some m.cls) (hlink : (Cond.methodLink own index y).before args s = true) (hstat : (Cond.static y).before args s = true) (hinit : (Cond.initialized y.cls).before args s = true)
    (hcode : (Cond.codeWith y bytes maxL ret hh).before args s = true) (hy : y.cls ≠ "java/lang/invoke/MethodHandle" ∧ y.cls ≠ "java/lang/invoke/VarHandle")
    {W9 : Nat} {Pre : Pt → Array Value → Prop} {Post : Pt → Array Value → Option Value → Pt → Prop} (hK : Back l R p e below s args y 3 W9 Pre Post)
    {g : JFrame} (hg : g.method = m) (hsize : g.locals.size = c.maxLocals) {argsL rest : List Value} (hlen : ∀ sig, parseMethodDescriptor y.desc = some sig → argsL.length = sig.parameters.length)
    (hstack : g.stack = argsL.reverse ++ rest) (hW : 2 * g.monitorRoom + (rest.map fun v => v.category).sum ≤ W9) (hdg : decode c.code g.pc = .ok (.invokestatic index, 3))
    (hpre : ∀ vm₁, s.WarmedH vm₁ → Pre ⟨T.setVm vm₁, locs, cells, slots⟩ argsL.toArray) :
    ∃ (v : Option Value) (vm₁ : Vm) (B : Pt), s.WarmedH vm₁ ∧ Stand p l e R s m args below meth c B.U B.locs B.cells B.slots ∧ Post ⟨T.setVm vm₁, locs, cells, slots⟩ argsL.toArray v B ∧
      ∀ target, Steps p.tables e below (B.U.setTop { g with pc := g.pc + 3, stack := v.toList ++ rest }) target → Steps p.tables e below (T.setTop g) target := by
  obtain ⟨mk, methM, cM, hnamed, hmethM, -, -, -, -, -, -, hsigM⟩ := Cond.codeWith_spec hcode
  have hstatic : methM.isStatic = true := Cond.static_spec hnamed hmethM hstat
  obtain ⟨kP, hkP, -⟩ := className_of_methodNamed hnamed
  have hinitP : kP.init = .initialized := Cond.initialized_spec (findClass_of_methodNamed hnamed) hkP hinit
  obtain ⟨vm₁, X₁, hstep₁⟩ := X.invokestatic hexec hown hlink hnamed hmethM hstatic hkP hinitP hy (g := g) hg (argsL := argsL) (rest := rest) (hlen _ hsigM) hstack hdg
  obtain ⟨v, B, X', hpost, hsteps⟩ := hK m meth c ⟨T.setVm vm₁, locs, cells, slots⟩ { g with stack := rest } (.invokestatic index) mk argsL.toArray X₁ hg hsize hdg hW (X₁.named hnamed) (hpre vm₁ X₁.warmed)
  exact ⟨v, vm₁, B, X₁.warmed, X', hpost, fun target h => hstep₁ _ fun acts => by rw [doInvoke_state]; exact hsteps.trans h⟩
theorem vx_runSW {y : MethodName} {bytes cc : ByteArray} {maxL nL mc ms n index : Nat} {ret : Option FieldType} {hh : List (Nat × Nat × Nat × Nat)} {ws : List Cond} {rm : Room} {Pc : Array Value → State → Prop} {Qc : Array Value → State → Outcome → State → Prop} {free : Addr → Prop} {Ts : List Cond} {own : String} {As rest : List Value} {g : JFrame}
    (S : CallFix p m c cc nL s args Ts own) (hM : Met l y ws rm Pc Qc mc ms free) (cw : vx_CSW R s args own index y bytes maxL ret hh ws rm mc ms n) (hp : PreS s H Pc As)
    (hg : g.method = m) (hn : As.length = n) (hsize : g.locals.size = nL) (hstack : g.stack = As.reverse ++ rest) (hW : 2 * g.monitorRoom + (rest.map fun v => v.category).sum ≤ 8) (hdg : decode cc g.pc = .ok (.invokestatic index, 3)) (hf : cells + mc ≤ R.cells ∧ slots + ms ≤ R.slots) :
    va_Run p l e R s m args below meth c H locs cells slots mc ms g rest (Qc As.toArray) (free) := by
  obtain ⟨⟨hrc, hrs, hfr, hlo, hws, hcw⟩, hcode, hini, hy, hlen, hl, hstt⟩ := cw
  have hK : Back l R p e below s args y 3 8 (PreOf R mc ms Pc) (PostOf Qc mc ms free) := va_backW (hh := hh) (bytes := bytes) (maxL := maxL) (ret := ret) hM hp.1 hrc hrs hfr hlo hws hcw (fun a' U hW => word_at hW (Or.inl (by first | rfl | simp [Cond.onTables, Cond.keeps, Cond.steady])) hini)
  obtain ⟨hx, hb, hml, ho, -⟩ := S
  intro T hT X
  obtain ⟨v, vm₁, ⟨U', l2, c2, s2⟩, hW₁, X', ⟨g', mk, t, L, e1, e2, hq, h1, hL, h2, h3⟩, st⟩ := vx_callSW X hx (hh := hh) (bytes := bytes) (maxL := maxL) (ret := ret) ho hl hstt hini hcode hy hK hg (hsize.trans hml.symm) (argsL := As) (rest := rest) (fun sig h => hn.trans (hlen sig h)) hstack hW (by rw [hb]; exact hdg)
    (fun vm₁ hW₁ => ⟨hf.1, hf.2, hp.2 (T.setVm vm₁) hT hW₁⟩)
  dsimp only [Pt.U, Pt.locs, Pt.cells, Pt.slots] at X' e1 e2 h1 h2 h3 st
  subst h1; subst h2; subst h3
  exact ⟨v, (T.setVm vm₁).calling g' mk As.toArray, t, U', L, hT, X', hL, e1, e2, hq, st⟩
/-- not caught here, past rows that name other classes: it goes on to the caller -/
theorem vx_outP {p : Program} {l : Launch} {e : Env} {R : Room} {s : State} {m : MethodId} {args : Array Value} {below : List Frame} {meth : Method} {c : Code} {H : Heap} {locs : List Loc} {cells slots : Nat} {free : Addr → Prop} {ls : Array Slot} {rest : List Value} {Qc : Array Value → State → Outcome → State → Prop} {XC : String → State → State → Prop}
    {pc : Nat} {own E : String} {ce : Cell} {q : Addr} {mc ms : Nat} (hown : s.vm.findClass own = some m.cls) (hlocks : meth.locks = false)
    (hpass : ∀ z ∈ c.exceptionTable.toList, covers z pc = false ∨ (z.catchType ≠ 0 ∧ ∃ nm : String, (Cond.classLink own z.catchType nm).before args s = true ∧ va_Nc E nm s)) (hcell : H[q]? = some ce) (hv : ce.vm = .none) (hcl : s.vm.findClass E = some ce.cls)
    (hx : ∀ t : State, t.heap = H → s.vm.Alike t.vm → XC E s t) (hf : ∀ z ∈ locs, free z.base) (hc : cells ≤ mc) (hs : slots ≤ ms) :
    vx_W p l e R s m args below meth c H locs cells slots (vx_MQ below Qc XC args s mc ms free) (F0 m pc ls rest) q := by
  intro T hT X
  have hpl : e.platform.magicAccessors = ({} : Platform).magicAccessors := by rw [X.admits.platform]
  obtain ⟨vm', hW', X', st⟩ := X.outThrough hlocks q (g := F0 m pc ls rest) rfl rfl rfl (cell := ce) (by rw [hT]; exact hcell) (by rw [hv]; rfl)
    (by obtain ⟨k9, h9, -⟩ := Vm.findClass_spec hcl; exact ⟨k9, h9⟩) (fun z hz => by
      rcases hpass z hz with h | ⟨hz0, nm, hl1, hn1⟩
      · exact Or.inl h
      · obtain ⟨c6, hc6, hcl6⟩ := Cond.classLink_spec hown hl1 e.platform hpl
        obtain ⟨a8, b8, h1, h2, h3⟩ := hn1
        cases Option.some.inj (h1.symm.trans hcl)
        cases Option.some.inj (h2.symm.trans hc6)
        exact Or.inr ⟨hz0, _, hcl6, h3⟩)
  obtain ⟨g₀, hfr⟩ := X'.frames_eq
  have hcell9 : ((T.setVm vm').setFrames (.throwing q :: below)).heap[q]? = some ce := by
    show T.heap[q]? = some ce
    rw [hT]; exact hcell
  have hend : Ended ((T.setVm vm').setFrames (.throwing q :: below)) below (.threw q) := State.frames_setFrames _ (State.cur_lt_of_frames hfr)
  refine ⟨(T.setVm vm').setFrames (.throwing q :: below), ?_, .threw q, X'.here.running, hend, Or.inr ⟨q, rfl, E, ce, locs, hx _ hT (X'.ends _).1.alike, hcell9, hv, hcl, (X'.ends _).1, (X'.ends _).2.mono hc hs, hf⟩⟩
  rw [X.pushThrowing_eq]
  exact st
/-- a thing of a world lies in the heap -/
theorem vx_lt {D : va_G} {cl : List vw_C} {ws : va_W} {H1 : Heap} (h : va_P D cl ws H1) {k : Nat} {q : Nat × va_E} (hk : ws[k]? = some q) : q.1 < H1.size := (h k q hk).lt
end VXS
/-! ===== END ===== -/
/-! ===== BEGIN methods with a table of their own: called by a name, returning or throwing ===== -/
section VXH
/-! vx_backW, vx_callVX, vx_callSX, vx_callVW, vx_runVW, vx_runVX, vx_runSX, vx_ofWH follow the same proofs as their sisters above (Free/Laws.lean, Shelf42/LK1.lean); vx_outP calls Shelf42/NT130.lean (outThrough). -/
section
variable {l : Launch} {R : Room} {p : Program} {e : Env} {below : List Frame} {s : State} {sargs : Array Value} {y : MethodName} {len W9 : Nat}
theorem vx_backW {ws : List Cond} {rm : Room} {Pc : Array Value → State → Prop} {Qc : Array Value → State → Outcome → State → Prop} {XC : String → State → State → Prop} {mc ms : Nat} {free : Addr → Prop} {bytes : ByteArray} {maxL : Nat} {ret : Option FieldType} {hh : List (Nat × Nat × Nat × Nat)}
    (hM : vx_Met l y ws rm Pc Qc XC mc ms free) (hblind : FrameBlind Pc) (hrc : rm.cells = mc) (hrs : rm.slots = ms)
    (hframes : rm.frames + 1 ≤ R.frames) (hlocals : W9 + (maxL + 11) + rm.locals ≤ R.locals)
    (hws : ∀ w ∈ ws, ∀ a' U, s.WarmedH U.vm → w.before a' U = true) (hcode : Cond.codeWith y bytes maxL ret hh ∈ ws) (hinit : ∀ a' U, s.WarmedH U.vm → (Cond.initialized y.cls).before a' U = true) :
    vx_Back l R p e below s sargs y len W9 (PreOf R mc ms Pc) (PostOf Qc mc ms free) (vx_Post XC mc ms free) := by
  intro m meth c A g ig mk a X hg hsize hdg hW hn hp
  have h1 : (headSpec ws rm).pre.before a A.U = true := atoms_intro fun w hw => hws w hw _ _ X.warmed
  have h2 : (Cond.codeWith y bytes maxL ret hh).before a A.U = true := hws _ hcode _ _ X.warmed
  have h3 : (Cond.initialized y.cls).before a A.U = true := hinit _ _ X.warmed
  have h4 : A.cells + (headSpec ws rm).room.cells ≤ R.cells := by rw [show (headSpec ws rm).room.cells = mc from hrc]; exact hp.1
  have h5 : A.slots + (headSpec ws rm).room.slots ≤ R.slots := by rw [show (headSpec ws rm).room.slots = ms from hrs]; exact hp.2.1
  have hPc : Pc a (A.U.calling g mk a) := hblind _ _ _ _ hp.2.2
  obtain ⟨U, Ls, c0, s0⟩ := A
  dsimp only [Pt.U, Pt.locs, Pt.cells, Pt.slots] at h1 h2 h3 h4 h5 X hn hPc ⊢
  obtain ⟨m9, methY, cY, hn9, hmY, hcY, -, hlY, -⟩ := Cond.codeWith_spec h2
  cases Option.some.inj (hn9.symm.trans hn)
  obtain ⟨kY, hkY, -⟩ := className_of_methodNamed hn
  have hinitY : kY.init = .initialized := Cond.initialized_spec (findClass_of_methodNamed hn) hkY h3
  have h : At U g.method c below := by rw [hg]; exact X.here
  have hlocals9 : W9 + (maxL + 11) + (headSpec ws rm).room.locals ≤ R.locals := hlocals
  have happ : (headSpec ws rm).appliesLoose y e.platform (U.calling g mk a) = true :=
    Spec.appliesLoose_calling (g := g) h hdg hn hkY hinitY
      (X.room_calling (g := g) (R' := (headSpec ws rm).room) hsize hmY hcY hframes (by rw [hlY]; omega) h4 h5) h1
  obtain ⟨mid, hmid⟩ := h.above
  have hfr : (U.setTop g).frames = (.java g :: mid) ++ below := by rw [State.frames_setTop' g h.top, hmid]; rfl
  obtain ⟨o, s₂, hsteps, -, hend, hq⟩ := Steps.callFree hM p X.admits X.cas X.clock (acts := []) hfr happ hPc trivial
  have hq' : vx_Q Qc XC mc ms free a (U.calling g mk a) o s₂ := hq
  rw [State.frames_setTop' g h.top] at hend
  obtain ⟨g₀, hg0⟩ := Option.isSome_iff_exists.mp h.top
  obtain ⟨r, hr⟩ := State.topJava?_eq_some.mp hg0
  have hr' : (({ U with heap := s₂.heap, slotsUsed := s₂.slotsUsed } : State).setVm s₂.vm).frames = .java g₀ :: r := hr
  rcases hq' with ⟨hqc, L, hfe, hL⟩ | ⟨q, rfl, E, ce, L, hx, hce, hcv, hcl, hW₂, hsm, hL⟩
  · obtain ⟨⟨v, rfl⟩, hW₂, e2, q2, q3, q4, q5, q6⟩ := id hfe
    have e3 : s₂ = ({ (U.calling g mk a).setFrames s₂.frames with heap := s₂.heap, slotsUsed := s₂.slotsUsed } : State).setVm s₂.vm := by
      have : s₂ = ({ s₂ with vm := (U.calling g mk a).vm } : State).setVm s₂.vm := rfl
      rw [e2] at this
      exact this
    obtain ⟨c₂, i₂, len₂, hc₂, hd₂, hf₂⟩ := hend
    have hW' : U.WarmedH s₂.vm := hW₂
    have hcc : c₂ = c := by
      have h1 : s₂.code? g.method = U.code? g.method := by
        rw [State.code?_eq, State.code?_eq, hW'.alike.method?]
      exact Option.some.inj (hc₂.symm.trans (h1.trans h.code))
    subst hcc
    have hlen : len₂ = len := by rw [hdg] at hd₂; cases hd₂; rfl
    subst hlen
    have hs₂ : s₂ = (({ U with heap := s₂.heap, slotsUsed := s₂.slotsUsed } : State).setVm s₂.vm).setTop { g with pc := g.pc + len₂, stack := v.toList ++ g.stack } := by
      refine e3.trans ?_
      rw [hf₂, State.calling_eq h.top, State.setFrames_setFrames, State.setTop_of_frames _ hr', hr]
      rfl
    have hsame : U.sameButNew ({ U with heap := s₂.heap, slotsUsed := s₂.slotsUsed } : State) L mc ms := by
      refine ⟨?_, q2, q3, q4, q5, q6⟩
      obtain ⟨t, ht, -⟩ := State.frames_cons hr
      show ({ U with heap := s₂.heap, slotsUsed := s₂.slotsUsed } : State) = { U.setFrames U.frames with heap := s₂.heap, slotsUsed := s₂.slotsUsed }
      rw [State.setFrames_self ht]
    subst hg
    refine Or.inl ⟨v, ⟨(({ U with heap := s₂.heap, slotsUsed := s₂.slotsUsed } : State).setVm s₂.vm), Ls ++ L, c0 + mc, s0 + ms⟩,
      ⟨X.admits, X.cas, X.clock, X.frames, X.room, X.hears, X.method, X.code, (X.here.setHeapUsed s₂.heap s₂.slotsUsed).setVm hW'.alike, X.tail, State.WarmedH.trans X.warmed hW', X.limits, X.bytes, X.same.trans (hsame.setVm s.vm)⟩,
      ⟨g, mk, s₂, L, rfl, rfl, hqc, rfl, hL, rfl, rfl⟩, ?_⟩
    show Steps p.tables e below _ ((({ U with heap := s₂.heap, slotsUsed := s₂.slotsUsed } : State).setVm s₂.vm).setTop { g with pc := g.pc + len₂, stack := v.toList ++ g.stack })
    rw [← hs₂]
    exact hsteps
  · obtain ⟨e2, q2, q3, q4, q5, q6⟩ := id hsm
    have e3 : s₂ = ({ (U.calling g mk a).setFrames s₂.frames with heap := s₂.heap, slotsUsed := s₂.slotsUsed } : State).setVm s₂.vm := by
      have : s₂ = ({ s₂ with vm := (U.calling g mk a).vm } : State).setVm s₂.vm := rfl
      rw [e2] at this
      exact this
    have hf₂ : s₂.frames = .throwing q :: .java g :: U.frames.tail := hend
    have hW' : U.WarmedH s₂.vm := hW₂
    have hs₂ : s₂ = ((({ U with heap := s₂.heap, slotsUsed := s₂.slotsUsed } : State).setVm s₂.vm).setTop g).pushFrame (.throwing q) := by
      refine e3.trans ?_
      rw [hf₂, State.calling_eq h.top, State.setFrames_setFrames, State.pushFrame, State.frames_setTop _ hr', State.setTop_of_frames _ hr', State.setFrames_setFrames, hr]
      rfl
    have hsame : U.sameButNew ({ U with heap := s₂.heap, slotsUsed := s₂.slotsUsed } : State) L mc ms := by
      refine ⟨?_, q2, q3, q4, q5, q6⟩
      obtain ⟨t, ht, -⟩ := State.frames_cons hr
      show ({ U with heap := s₂.heap, slotsUsed := s₂.slotsUsed } : State) = { U.setFrames U.frames with heap := s₂.heap, slotsUsed := s₂.slotsUsed }
      rw [State.setFrames_self ht]
    subst hg
    refine Or.inr ⟨q, ⟨(({ U with heap := s₂.heap, slotsUsed := s₂.slotsUsed } : State).setVm s₂.vm), Ls ++ L, c0 + mc, s0 + ms⟩,
      ⟨X.admits, X.cas, X.clock, X.frames, X.room, X.hears, X.method, X.code, (X.here.setHeapUsed s₂.heap s₂.slotsUsed).setVm hW'.alike, X.tail, State.WarmedH.trans X.warmed hW', X.limits, X.bytes, X.same.trans (hsame.setVm s.vm)⟩,
      ⟨g, mk, s₂, L, E, ce, rfl, rfl, hx, hce, hcv, hcl, rfl, hL, rfl, rfl⟩, ?_⟩
    show Steps p.tables e below _ (((({ U with heap := s₂.heap, slotsUsed := s₂.slotsUsed } : State).setVm s₂.vm).setTop g).pushFrame (.throwing q))
    rw [← hs₂]
    exact hsteps
end
variable {p : Program} {l : Launch} {e : Env} {R : Room} {s : State} {m : MethodId} {args : Array Value} {below : List Frame} {meth : Method} {c : Code} {T : State} {H : Heap} {locs : List Loc} {cells slots : Nat}
theorem vx_callVX (X : Stand p l e R s m args below meth c T locs cells slots) (hexec : p.tables.exec = Jvm.exec) {own C : String} {index : Nat} {y : MethodName} {bytes : ByteArray} {maxL : Nat} {ret : Option FieldType} {hh : List (Nat × Nat × Nat × Nat)}
    (hown : s.vm.findClass own = some m.cls) (hlink : (Cond.methodLink own index y).before args s = true) (hinst : (Cond.instanceMethod y).before args s = true) (hsel : (Cond.selects C y y).before args s = true)
    (hcode : (Cond.codeWith y bytes maxL ret hh).before args s = true) (hy : y.cls ≠ "java/lang/invoke/MethodHandle" ∧ y.cls ≠ "java/lang/invoke/VarHandle")
    {W9 : Nat} {Pre : Pt → Array Value → Prop} {Post : Pt → Array Value → Option Value → Pt → Prop} {PostX : Pt → Array Value → Addr → Pt → Prop} (hK : vx_Back l R p e below s args y 3 W9 Pre Post PostX)
    {b : Addr} {cellB : Cell} (hcell : T.heap[b]? = some cellB) (hobj : cellB.vm.isStatics = false) (hcls : s.vm.findClass C = some cellB.cls)
    {g : JFrame} (hg : g.method = m) (hsize : g.locals.size = c.maxLocals) {argsL rest : List Value} (hlen : ∀ sig, parseMethodDescriptor y.desc = some sig → argsL.length = sig.parameters.length)
    (hstack : g.stack = argsL.reverse ++ .ref b :: rest) (hW : 2 * g.monitorRoom + (rest.map fun v => v.category).sum ≤ W9) (hdg : decode c.code g.pc = .ok (.invokevirtual index, 3))
    (hpre : ∀ vm₁, s.WarmedH vm₁ → Pre ⟨T.setVm vm₁, locs, cells, slots⟩ (Value.ref b :: argsL).toArray) :
    (∃ (v : Option Value) (vm₁ : Vm) (B : Pt), s.WarmedH vm₁ ∧ Stand p l e R s m args below meth c B.U B.locs B.cells B.slots ∧ Post ⟨T.setVm vm₁, locs, cells, slots⟩ (Value.ref b :: argsL).toArray v B ∧
      ∀ target, Steps p.tables e below (B.U.setTop { g with pc := g.pc + 3, stack := v.toList ++ rest }) target → Steps p.tables e below (T.setTop g) target) ∨
    (∃ (q : Addr) (vm₁ : Vm) (B : Pt), s.WarmedH vm₁ ∧ Stand p l e R s m args below meth c B.U B.locs B.cells B.slots ∧ PostX ⟨T.setVm vm₁, locs, cells, slots⟩ (Value.ref b :: argsL).toArray q B ∧
      Steps p.tables e below (T.setTop g) ((B.U.setTop { g with stack := rest }).pushFrame (.throwing q))) := by
  obtain ⟨mk, methM, hnamed, hmethM, hstM, habM⟩ := Cond.instanceMethod_spec hinst
  obtain ⟨m8, methM', cM, hn8, hmethM', -, -, -, -, -, -, hsigM⟩ := Cond.codeWith_spec hcode
  cases Option.some.inj (hn8.symm.trans hnamed)
  cases hmethM.symm.trans hmethM'
  obtain ⟨c2, r2, m2, q1, q2, q3, q4, kP, hkP, hkPi⟩ := Cond.selects_spec hsel
  cases hcls.symm.trans q1
  cases (State.methodFound?_of_named hnamed hy).symm.trans q2
  cases hnamed.symm.trans q3
  have hselP : selectMethod e.platform s.vm cellB.cls mk = .method mk := by rw [Launch.admits_selectMethod X.admits]; exact q4
  obtain ⟨vm₁, X₁, hstep₁⟩ := X.invokevirtual hexec hown hlink hnamed hmethM hstM hkP hkPi hy (a := b) (cell := cellB) hcell
    (fun z h => by rw [h] at hobj; cases hobj) hselP hmethM habM hkP hkPi (g := g) hg (argsL := argsL) (rest := rest) (hlen _ hsigM) hstack hdg
  rcases hK m meth c ⟨T.setVm vm₁, locs, cells, slots⟩ { g with stack := rest } (.invokevirtual index) mk (Value.ref b :: argsL).toArray X₁ hg hsize hdg hW (X₁.named hnamed) (hpre vm₁ X₁.warmed) with ⟨v, B, X', hpost, hsteps⟩ | ⟨q, B, X', hpost, hsteps⟩
  · exact Or.inl ⟨v, vm₁, B, X₁.warmed, X', hpost, fun target h => hstep₁ _ fun acts => by rw [doInvoke_state]; exact hsteps.trans h⟩
  · exact Or.inr ⟨q, vm₁, B, X₁.warmed, X', hpost, hstep₁ _ fun acts => by rw [doInvoke_state]; exact hsteps⟩
theorem vx_callSX (X : Stand p l e R s m args below meth c T locs cells slots) (hexec : p.tables.exec = Jvm.exec) {own : String} {index : Nat} {y : MethodName} {bytes : ByteArray} {maxL : Nat} {ret : Option FieldType} {hh : List (Nat × Nat × Nat × Nat)}
    (hown : s.vm.findClass own = some m.cls) (hlink : (Cond.methodLink own index y).before args s = true) (hstat : (Cond.static y).before args s = true) (hinit : (Cond.initialized y.cls).before args s = true)
    (hcode : (Cond.codeWith y bytes maxL ret hh).before args s = true) (hy : y.cls ≠ "java/lang/invoke/MethodHandle" ∧ y.cls ≠ "java/lang/invoke/VarHandle")
    {W9 : Nat} {Pre : Pt → Array Value → Prop} {Post : Pt → Array Value → Option Value → Pt → Prop} {PostX : Pt → Array Value → Addr → Pt → Prop} (hK : vx_Back l R p e below s args y 3 W9 Pre Post PostX)
    {g : JFrame} (hg : g.method = m) (hsize : g.locals.size = c.maxLocals) {argsL rest : List Value} (hlen : ∀ sig, parseMethodDescriptor y.desc = some sig → argsL.length = sig.parameters.length)
    (hstack : g.stack = argsL.reverse ++ rest) (hW : 2 * g.monitorRoom + (rest.map fun v => v.category).sum ≤ W9) (hdg : decode c.code g.pc = .ok (.invokestatic index, 3))
    (hpre : ∀ vm₁, s.WarmedH vm₁ → Pre ⟨T.setVm vm₁, locs, cells, slots⟩ argsL.toArray) :
    (∃ (v : Option Value) (vm₁ : Vm) (B : Pt), s.WarmedH vm₁ ∧ Stand p l e R s m args below meth c B.U B.locs B.cells B.slots ∧ Post ⟨T.setVm vm₁, locs, cells, slots⟩ argsL.toArray v B ∧
      ∀ target, Steps p.tables e below (B.U.setTop { g with pc := g.pc + 3, stack := v.toList ++ rest }) target → Steps p.tables e below (T.setTop g) target) ∨
    (∃ (q : Addr) (vm₁ : Vm) (B : Pt), s.WarmedH vm₁ ∧ Stand p l e R s m args below meth c B.U B.locs B.cells B.slots ∧ PostX ⟨T.setVm vm₁, locs, cells, slots⟩ argsL.toArray q B ∧
      Steps p.tables e below (T.setTop g) ((B.U.setTop { g with stack := rest }).pushFrame (.throwing q))) := by
  obtain ⟨mk, methM, cM, hnamed, hmethM, -, -, -, -, -, -, hsigM⟩ := Cond.codeWith_spec hcode
  have hstatic : methM.isStatic = true := Cond.static_spec hnamed hmethM hstat
  obtain ⟨kP, hkP, -⟩ := className_of_methodNamed hnamed
  have hinitP : kP.init = .initialized := Cond.initialized_spec (findClass_of_methodNamed hnamed) hkP hinit
  obtain ⟨vm₁, X₁, hstep₁⟩ := X.invokestatic hexec hown hlink hnamed hmethM hstatic hkP hinitP hy (g := g) hg (argsL := argsL) (rest := rest) (hlen _ hsigM) hstack hdg
  rcases hK m meth c ⟨T.setVm vm₁, locs, cells, slots⟩ { g with stack := rest } (.invokestatic index) mk argsL.toArray X₁ hg hsize hdg hW (X₁.named hnamed) (hpre vm₁ X₁.warmed) with ⟨v, B, X', hpost, hsteps⟩ | ⟨q, B, X', hpost, hsteps⟩
  · exact Or.inl ⟨v, vm₁, B, X₁.warmed, X', hpost, fun target h => hstep₁ _ fun acts => by rw [doInvoke_state]; exact hsteps.trans h⟩
  · exact Or.inr ⟨q, vm₁, B, X₁.warmed, X', hpost, hstep₁ _ fun acts => by rw [doInvoke_state]; exact hsteps⟩
theorem vx_callVW (X : Stand p l e R s m args below meth c T locs cells slots) (hexec : p.tables.exec = Jvm.exec) {own C : String} {index : Nat} {y : MethodName} {bytes : ByteArray} {maxL : Nat} {ret : Option FieldType} {hh : List (Nat × Nat × Nat × Nat)}
    (hown : s.vm.findClass own = some m.cls) (hlink : (Cond.methodLink own index y).before args s = true) (hinst : (Cond.instanceMethod y).before args s = true) (hsel : (Cond.selects C y y).before args s = true)
    (hcode : (Cond.codeWith y bytes maxL ret hh).before args s = true) (hy : y.cls ≠ "java/lang/invoke/MethodHandle" ∧ y.cls ≠ "java/lang/invoke/VarHandle")
    {W9 : Nat} {Pre : Pt → Array Value → Prop} {Post : Pt → Array Value → Option Value → Pt → Prop} (hK : Back l R p e below s args y 3 W9 Pre Post)
    {b : Addr} {cellB : Cell} (hcell : T.heap[b]? = some cellB) (hobj : cellB.vm.isStatics = false) (hcls : s.vm.findClass C = some cellB.cls)
    {g : JFrame} (hg : g.method = m) (hsize : g.locals.size = c.maxLocals) {argsL rest : List Value} (hlen : ∀ sig, parseMethodDescriptor y.desc = some sig → argsL.length = sig.parameters.length)
    (hstack : g.stack = argsL.reverse ++ .ref b :: rest) (hW : 2 * g.monitorRoom + (rest.map fun v => v.category).sum ≤ W9) (hdg : decode c.code g.pc = .ok (.invokevirtual index, 3))
    (hpre : ∀ vm₁, s.WarmedH vm₁ → Pre ⟨T.setVm vm₁, locs, cells, slots⟩ (Value.ref b :: argsL).toArray) :
    ∃ (v : Option Value) (vm₁ : Vm) (B : Pt), s.WarmedH vm₁ ∧ Stand p l e R s m args below meth c B.U B.locs B.cells B.slots ∧ Post ⟨T.setVm vm₁, locs, cells, slots⟩ (Value.ref b :: argsL).toArray v B ∧
      ∀ target, Steps p.tables e below (B.U.setTop { g with pc := g.pc + 3, stack := v.toList ++ rest }) target → Steps p.tables e below (T.setTop g) target := by
  obtain ⟨mk, methM, hnamed, hmethM, hstM, habM⟩ := Cond.instanceMethod_spec hinst
  obtain ⟨m8, methM', cM, hn8, hmethM', -, -, -, -, -, -, hsigM⟩ := Cond.codeWith_spec hcode
  cases Option.some.inj (hn8.symm.trans hnamed)
  cases hmethM.symm.trans hmethM'
  obtain ⟨c2, r2, m2, q1, q2, q3, q4, kP, hkP, hkPi⟩ := Cond.selects_spec hsel
  cases hcls.symm.trans q1
  cases (State.methodFound?_of_named hnamed hy).symm.trans q2
  cases hnamed.symm.trans q3
  have hselP : selectMethod e.platform s.vm cellB.cls mk = .method mk := by rw [Launch.admits_selectMethod X.admits]; exact q4
  obtain ⟨vm₁, X₁, hstep₁⟩ := X.invokevirtual hexec hown hlink hnamed hmethM hstM hkP hkPi hy (a := b) (cell := cellB) hcell
    (fun z h => by rw [h] at hobj; cases hobj) hselP hmethM habM hkP hkPi (g := g) hg (argsL := argsL) (rest := rest) (hlen _ hsigM) hstack hdg
  obtain ⟨v, B, X', hpost, hsteps⟩ := hK m meth c ⟨T.setVm vm₁, locs, cells, slots⟩ { g with stack := rest } (.invokevirtual index) mk (Value.ref b :: argsL).toArray X₁ hg hsize hdg hW (X₁.named hnamed) (hpre vm₁ X₁.warmed)
  exact ⟨v, vm₁, B, X₁.warmed, X', hpost, fun target h => hstep₁ _ fun acts => by rw [doInvoke_state]; exact hsteps.trans h⟩
abbrev vx_CVW (R : Room) (s : State) (args : Array Value) (own C : String) (index : Nat) (y : MethodName) (bytes : ByteArray) (maxL : Nat) (ret : Option FieldType) (hh : List (Nat × Nat × Nat × Nat)) (ws : List Cond) (rm : Room) (mc ms n : Nat) : Prop :=
  (rm.cells = mc ∧ rm.slots = ms ∧ rm.frames + 1 ≤ R.frames ∧ 8 + (maxL + 11) + rm.locals ≤ R.locals ∧ (∀ w ∈ ws, ∀ (a' : Array Value) (U : State), s.WarmedH U.vm → w.before a' U = true) ∧ Cond.codeWith y bytes maxL ret hh ∈ ws) ∧
  (Cond.codeWith y bytes maxL ret hh).before args s = true ∧ (Cond.initialized y.cls).before args s = true ∧ (y.cls ≠ "java/lang/invoke/MethodHandle" ∧ y.cls ≠ "java/lang/invoke/VarHandle") ∧
  (∀ sig, parseMethodDescriptor y.desc = some sig → n = sig.parameters.length) ∧ (Cond.methodLink own index y).before args s = true ∧ (Cond.instanceMethod y).before args s = true ∧ (Cond.selects C y y).before args s = true
theorem vx_cwVW {own C : String} {index maxL mc ms : Nat} {y : MethodName} {bytes : ByteArray} {ret : Option FieldType} {hh : List (Nat × Nat × Nat × Nat)} {Ts ws ws' : List Cond} {rm : Room} (n : Nat) (ht : ∀ w ∈ Ts, w.before args s = true) (hT : GoodIn Ts (wsV own index C y ws)) (hw : ws = Cond.codeWith y bytes maxL ret hh :: ws') (hrc : rm.cells = mc) (hrs : rm.slots = ms)
    (hd : y.cls = C ∧ y.cls ≠ "java/lang/invoke/MethodHandle" ∧ y.cls ≠ "java/lang/invoke/VarHandle" ∧ (parseMethodDescriptor y.desc).map (fun d => d.parameters.length) = some n) (hR : rm.frames + 1 ≤ R.frames ∧ 8 + (maxL + 11) + rm.locals ≤ R.locals) :
    vx_CVW R s args own C index y bytes maxL ret hh ws rm mc ms n := by
  obtain ⟨hC, hd⟩ := hd
  subst hC
  have ok : ∀ w ∈ wsV own index y.cls y ws, w.before args s = true := fun w h => ht w (hT w h).1
  have hG : GoodIn Ts ws := fun w h => hT w (by unfold wsV; exact List.mem_append_right _ h)
  have hc : Cond.codeWith y bytes maxL ret hh ∈ ws := by rw [hw]; exact List.mem_cons_self
  refine ⟨⟨hrc, hrs, hR.1, hR.2, pay_in ht hG, hc⟩, ht _ (hG _ hc).1, ok _ (by simp [wsV]), ⟨hd.1, hd.2.1⟩, fun sig h => ?_, ok _ (by simp [wsV]), ok _ (by simp [wsV]), ok _ (by simp [wsV])⟩
  have h2 := hd.2.2
  rw [h] at h2
  exact (Option.some.inj h2).symm
theorem vx_runVW {y : MethodName} {bytes cc : ByteArray} {maxL nL mc ms n index : Nat} {ret : Option FieldType} {hh : List (Nat × Nat × Nat × Nat)} {ws : List Cond} {rm : Room} {Pc : Array Value → State → Prop} {Qc : Array Value → State → Outcome → State → Prop} {free : Addr → Prop} {Ts : List Cond} {own C : String} {b : Addr} {As rest : List Value} {g : JFrame}
    (S : CallFix p m c cc nL s args Ts own) (hM : Met l y ws rm Pc Qc mc ms free) (cw : vx_CVW R s args own C index y bytes maxL ret hh ws rm mc ms n) (hp : PreV s H C b Pc As)
    (hg : g.method = m) (hn : As.length = n) (hsize : g.locals.size = nL) (hstack : g.stack = As.reverse ++ .ref b :: rest) (hW : 2 * g.monitorRoom + (rest.map fun v => v.category).sum ≤ 8) (hdg : decode cc g.pc = .ok (.invokevirtual index, 3)) (hf : cells + mc ≤ R.cells ∧ slots + ms ≤ R.slots) :
    va_Run p l e R s m args below meth c H locs cells slots mc ms g rest (Qc (Value.ref b :: As).toArray) free := by
  obtain ⟨⟨hrc, hrs, hfr, hlo, hws, hcw⟩, hcode, hini, hy, hlen, hl, hin, hse⟩ := cw
  have hK : Back l R p e below s args y 3 8 (PreOf R mc ms Pc) (PostOf Qc mc ms free) := va_backW (hh := hh) (bytes := bytes) (maxL := maxL) (ret := ret) hM hp.1 hrc hrs hfr hlo hws hcw (fun a' U hW => word_at hW (Or.inl (by first | rfl | simp [Cond.onTables, Cond.keeps, Cond.steady])) hini)
  obtain ⟨hx, hb, hml, ho, -⟩ := S
  obtain ⟨-, ⟨cellB, hcB, hoB, hclB⟩, hPc⟩ := hp
  intro T hT X
  obtain ⟨v, vm₁, ⟨U', l2, c2, s2⟩, hW₁, X', ⟨g', mk, t, L, e1, e2, hq, h1, hL, h2, h3⟩, st⟩ := vx_callVW X hx (C := C) (hh := hh) (bytes := bytes) (maxL := maxL) (ret := ret) ho hl hin hse hcode hy hK (by rw [hT]; exact hcB) hoB hclB hg (hsize.trans hml.symm) (argsL := As) (rest := rest) (fun sig h => hn.trans (hlen sig h)) hstack hW (by rw [hb]; exact hdg)
    (fun vm₁ hW₁ => ⟨hf.1, hf.2, hPc (T.setVm vm₁) hT hW₁⟩)
  dsimp only [Pt.U, Pt.locs, Pt.cells, Pt.slots] at X' e1 e2 h1 h2 h3 st
  subst h1; subst h2; subst h3
  exact ⟨v, (T.setVm vm₁).calling g' mk (Value.ref b :: As).toArray, t, U', L, hT, X', hL, e1, e2, hq, st⟩
section
variable {y : MethodName} {bytes cc : ByteArray} {maxL nL mc ms n index : Nat} {ret : Option FieldType} {ws : List Cond} {rm : Room} {Pc : Array Value → State → Prop} {Qc : Array Value → State → Outcome → State → Prop} {XC : String → State → State → Prop} {free : Addr → Prop} {Ts : List Cond} {own C : String} {b : Addr} {As rest : List Value} {g : JFrame}
theorem vx_runVX {hh : List (Nat × Nat × Nat × Nat)} (S : CallFix p m c cc nL s args Ts own) (hM : vx_Met l y ws rm Pc Qc XC mc ms free) (cw : vx_CVW R s args own C index y bytes maxL ret hh ws rm mc ms n) (hp : PreV s H C b Pc As)
    (hg : g.method = m) (hn : As.length = n) (hsize : g.locals.size = nL) (hstack : g.stack = As.reverse ++ .ref b :: rest) (hW : 2 * g.monitorRoom + (rest.map fun v => v.category).sum ≤ 8) (hdg : decode cc g.pc = .ok (.invokevirtual index, 3)) (hf : cells + mc ≤ R.cells ∧ slots + ms ≤ R.slots) :
    vx_Run p l e R s m args below meth c H locs cells slots mc ms g rest (Qc (Value.ref b :: As).toArray) XC free := by
  obtain ⟨⟨hrc, hrs, hfr, hlo, hws, hcw⟩, hcode, hini, hy, hlen, hl, hin, hse⟩ := cw
  have hK : vx_Back l R p e below s args y 3 8 (PreOf R mc ms Pc) (PostOf Qc mc ms free) (vx_Post XC mc ms free) := vx_backW (hh := hh) (bytes := bytes) (maxL := maxL) (ret := ret) hM hp.1 hrc hrs hfr hlo hws hcw (fun a' U hW => word_at hW (Or.inl (by first | rfl | simp [Cond.onTables, Cond.keeps, Cond.steady])) hini)
  obtain ⟨hx, hb, hml, ho, -⟩ := S
  obtain ⟨-, ⟨cellB, hcB, hoB, hclB⟩, hPc⟩ := hp
  intro T hT X
  rcases vx_callVX X hx (C := C) (hh := hh) (bytes := bytes) (maxL := maxL) (ret := ret) ho hl hin hse hcode hy hK (by rw [hT]; exact hcB) hoB hclB hg (hsize.trans hml.symm) (argsL := As) (rest := rest) (fun sig h => hn.trans (hlen sig h)) hstack hW (by rw [hb]; exact hdg)
    (fun vm₁ hW₁ => ⟨hf.1, hf.2, hPc (T.setVm vm₁) hT hW₁⟩) with ⟨v, vm₁, ⟨U', l2, c2, s2⟩, hW₁, X', ⟨g', mk, t, L, e1, e2, hq, h1, hL, h2, h3⟩, st⟩ | ⟨q, vm₁, ⟨U', l2, c2, s2⟩, hW₁, X', ⟨g', mk, t, L, E, ce, e1, e2, hq, hce, hcv, hcl, h1, hL, h2, h3⟩, st⟩
  · dsimp only [Pt.U, Pt.locs, Pt.cells, Pt.slots] at X' e1 e2 h1 h2 h3 st
    subst h1; subst h2; subst h3
    exact Or.inl ⟨v, (T.setVm vm₁).calling g' mk (Value.ref b :: As).toArray, t, U', L, hT, X', hL, e1, e2, hq, st⟩
  · dsimp only [Pt.U, Pt.locs, Pt.cells, Pt.slots] at X' e1 e2 h1 h2 h3 st hcl
    subst h1; subst h2; subst h3
    exact Or.inr ⟨q, (T.setVm vm₁).calling g' mk (Value.ref b :: As).toArray, t, U', L, E, ce, hT, X', hL, e1, e2, hq, hce, hcv, vx_cls hW₁ hcl, st⟩
theorem vx_runSX {hh : List (Nat × Nat × Nat × Nat)} (S : CallFix p m c cc nL s args Ts own) (hM : vx_Met l y ws rm Pc Qc XC mc ms free) (cw : vx_CSW R s args own index y bytes maxL ret hh ws rm mc ms n) (hp : PreS s H Pc As)
    (hg : g.method = m) (hn : As.length = n) (hsize : g.locals.size = nL) (hstack : g.stack = As.reverse ++ rest) (hW : 2 * g.monitorRoom + (rest.map fun v => v.category).sum ≤ 8) (hdg : decode cc g.pc = .ok (.invokestatic index, 3)) (hf : cells + mc ≤ R.cells ∧ slots + ms ≤ R.slots) :
    vx_Run p l e R s m args below meth c H locs cells slots mc ms g rest (Qc As.toArray) XC free := by
  obtain ⟨⟨hrc, hrs, hfr, hlo, hws, hcw⟩, hcode, hini, hy, hlen, hl, hstt⟩ := cw
  have hK : vx_Back l R p e below s args y 3 8 (PreOf R mc ms Pc) (PostOf Qc mc ms free) (vx_Post XC mc ms free) := vx_backW (hh := hh) (bytes := bytes) (maxL := maxL) (ret := ret) hM hp.1 hrc hrs hfr hlo hws hcw (fun a' U hW => word_at hW (Or.inl (by first | rfl | simp [Cond.onTables, Cond.keeps, Cond.steady])) hini)
  obtain ⟨hx, hb, hml, ho, -⟩ := S
  intro T hT X
  rcases vx_callSX X hx (hh := hh) (bytes := bytes) (maxL := maxL) (ret := ret) ho hl hstt hini hcode hy hK hg (hsize.trans hml.symm) (argsL := As) (rest := rest) (fun sig h => hn.trans (hlen sig h)) hstack hW (by rw [hb]; exact hdg)
    (fun vm₁ hW₁ => ⟨hf.1, hf.2, hp.2 (T.setVm vm₁) hT hW₁⟩) with ⟨v, vm₁, ⟨U', l2, c2, s2⟩, hW₁, X', ⟨g', mk, t, L, e1, e2, hq, h1, hL, h2, h3⟩, st⟩ | ⟨q, vm₁, ⟨U', l2, c2, s2⟩, hW₁, X', ⟨g', mk, t, L, E, ce, e1, e2, hq, hce, hcv, hcl, h1, hL, h2, h3⟩, st⟩
  · dsimp only [Pt.U, Pt.locs, Pt.cells, Pt.slots] at X' e1 e2 h1 h2 h3 st
    subst h1; subst h2; subst h3
    exact Or.inl ⟨v, (T.setVm vm₁).calling g' mk As.toArray, t, U', L, hT, X', hL, e1, e2, hq, st⟩
  · dsimp only [Pt.U, Pt.locs, Pt.cells, Pt.slots] at X' e1 e2 h1 h2 h3 st hcl
    subst h1; subst h2; subst h3
    exact Or.inr ⟨q, (T.setVm vm₁).calling g' mk As.toArray, t, U', L, E, ce, hT, X', hL, e1, e2, hq, hce, hcv, vx_cls hW₁ hcl, st⟩
end
end VXH
theorem vx_ofWH {l : Launch} {y : MethodName} {ws ws' : List Cond} {rm : Room} {Pc : Array Value → State → Prop} {Qc : Array Value → State → Outcome → State → Prop} {XC : String → State → State → Prop} {mc ms : Nat} {free : Addr → Prop} {cc : ByteArray} {maxL : Nat} {ret : Option FieldType} {hh : List (Nat × Nat × Nat × Nat)}
    (hy : plainName y.cls = true) (hw : ws = Cond.codeWith y cc maxL ret hh :: ws')
    (body : ∀ p e s m args below meth c s₁, BodyLoose p l y (headSpec ws rm) cc maxL ret e s m args below meth c s₁ → c.maxLocals = maxL → Pc args s →
      W p l e (headSpec ws rm).room s m args below meth c s.heap [] 0 0 (vx_MQ below Qc XC args s mc ms free) (entryFrame m args maxL)) : vx_Met l y ws rm Pc Qc XC mc ms free := by
  refine MetFree.of_bodyS (code := cc) (maxLocals := maxL) (ret := ret) hy ?_ ?_
  · intro args s m h hn
    obtain ⟨m9, meth, c, hn9, h1, h2, h3, h4, -, h5, h6, -⟩ := Cond.codeWith_spec (atoms_spec (ws := ws) h _ (by rw [hw]; exact List.mem_cons_self))
    cases hn.symm.trans hn9
    exact ⟨meth, c, h1, h2, h3, h4, h5, h6⟩
  · intro p e s m args below meth c s₁ B hml hP _
    have hh0 : s₁.heap = s.heap := by rw [B.state]; rfl
    obtain ⟨t, a1, o, b1, b2, b3⟩ := body p e s m args below meth c s₁ B hml hP s₁ hh0 (Stand.of_body B)
    exact ⟨t, o, a1, b1, b2, b3⟩
/-! ===== END ===== -/

/-! ===== BEGIN printed: names, fields, word lists, decode rows ===== -/
end
section
/-! the words of the tables that may be carried through calls, one list for all methods -/
def TB : List Cond := lw_tbl.filter goodWord
theorem tb_l {w : Cond} (h : w ∈ TB) : w ∈ lw_tbl := (List.mem_filter.mp h).1
theorem tb_g {w : Cond} (h : w ∈ TB) : (w.onTables && w.keeps) = true ∨ ∃ ty, w = .arrayClass ty := good_of_word (List.mem_filter.mp h).2
theorem tb_of {w : Cond} (k : Nat) (h : tables_1[k]? = some w) (hg : goodWord w = true) : w ∈ TB := List.mem_filter.mpr ⟨List.mem_append_right _ (List.mem_of_getElem? h), hg⟩
theorem tb_pv {w : Cond} (k : Nat) (h : (k2_sels lw_privs)[k]? = some w) (hg : goodWord w = true) : w ∈ TB := List.mem_filter.mpr ⟨List.mem_append_left _ (List.mem_of_getElem? h), hg⟩
theorem tb_all (ws : List Cond) (ps : List Nat) (hp : ws = ps.filterMap (fun i => tables_1[i]?)) (hg : ws.all goodWord = true) : ∀ w ∈ ws, w ∈ TB := by
  intro w hw
  have h1 := List.all_eq_true.mp hg w hw
  rw [hp] at hw
  obtain ⟨i, -, hi⟩ := List.mem_filterMap.mp hw
  exact tb_of i hi h1
theorem good_M {big : List Cond} (hB : ∀ w ∈ TB, w ∈ big) {c0 : Cond} (h : c0 ∈ TB) : GoodIn big (c0 :: TB) := by
  intro w hw
  rcases List.mem_cons.mp hw with rfl | hw
  · exact ⟨hB _ h, tb_g h⟩
  · exact ⟨hB _ hw, tb_g hw⟩
theorem good_V {big : List Cond} (hB : ∀ w ∈ TB, w ∈ big) {c0 : Cond} {own C : String} {idx : Nat} {y : MethodName} (h : c0 ∈ TB) (h1 : Cond.methodLink own idx y ∈ TB) (h2 : Cond.instanceMethod y ∈ TB) (h3 : Cond.selects C y y ∈ TB) (h4 : Cond.initialized C ∈ TB) : GoodIn big (wsV own idx C y (c0 :: TB)) := by
  intro w hw
  rcases List.mem_append.mp hw with hw | hw
  · rcases List.mem_cons.mp hw with rfl | hw
    · exact ⟨hB _ h1, tb_g h1⟩
    rcases List.mem_cons.mp hw with rfl | hw
    · exact ⟨hB _ h2, tb_g h2⟩
    rcases List.mem_cons.mp hw with rfl | hw
    · exact ⟨hB _ h3, tb_g h3⟩
    rcases List.mem_cons.mp hw with rfl | hw
    · exact ⟨hB _ h4, tb_g h4⟩
    · cases hw
  · exact good_M hB h w hw
theorem good_S {big : List Cond} (hB : ∀ w ∈ TB, w ∈ big) {c0 : Cond} {own : String} {idx : Nat} {y : MethodName} (h : c0 ∈ TB) (h1 : Cond.methodLink own idx y ∈ TB) (h2 : Cond.static y ∈ TB) (h4 : Cond.initialized own ∈ TB) : GoodIn big (wsS own idx y (c0 :: TB)) := by
  intro w hw
  rcases List.mem_append.mp hw with hw | hw
  · rcases List.mem_cons.mp hw with rfl | hw
    · exact ⟨hB _ h1, tb_g h1⟩
    rcases List.mem_cons.mp hw with rfl | hw
    · exact ⟨hB _ h2, tb_g h2⟩
    rcases List.mem_cons.mp hw with rfl | hw
    · exact ⟨hB _ h4, tb_g h4⟩
    · cases hw
  · exact good_M hB h w hw
theorem t_0 : (Jvm.Cond.initialized "PacketOrderLaw") ∈ TB := tb_of 0 (by decide +kernel) (by decide +kernel)
theorem t_1 : (Jvm.Cond.initialized "PacketOrder") ∈ TB := tb_of 1 (by decide +kernel) (by decide +kernel)
theorem t_2 : (Jvm.Cond.initialized "java/util/AbstractCollection") ∈ TB := tb_of 2 (by decide +kernel) (by decide +kernel)
theorem t_3 : (Jvm.Cond.initialized "java/util/AbstractList") ∈ TB := tb_of 3 (by decide +kernel) (by decide +kernel)
theorem t_4 : (Jvm.Cond.initialized "java/util/ArrayList") ∈ TB := tb_of 4 (by decide +kernel) (by decide +kernel)
theorem t_5 : (Jvm.Cond.initialized "PacketOrder$Row") ∈ TB := tb_of 5 (by decide +kernel) (by decide +kernel)
theorem t_6 : (Jvm.Cond.initialized "PacketOrder$Change") ∈ TB := tb_of 6 (by decide +kernel) (by decide +kernel)
theorem t_7 : (Jvm.Cond.initialized "PacketOrderModel") ∈ TB := tb_of 7 (by decide +kernel) (by decide +kernel)
theorem t_8 : (Jvm.Cond.initialized "java/lang/Throwable") ∈ TB := tb_of 8 (by decide +kernel) (by decide +kernel)
theorem t_9 : (Jvm.Cond.initialized "java/lang/Exception") ∈ TB := tb_of 9 (by decide +kernel) (by decide +kernel)
theorem t_10 : (Jvm.Cond.initialized "java/lang/RuntimeException") ∈ TB := tb_of 10 (by decide +kernel) (by decide +kernel)
theorem t_11 : (Jvm.Cond.initialized "java/lang/IllegalArgumentException") ∈ TB := tb_of 11 (by decide +kernel) (by decide +kernel)
theorem t_12 : (Jvm.Cond.initialized "java/lang/IllegalStateException") ∈ TB := tb_of 12 (by decide +kernel) (by decide +kernel)
theorem t_13 : (Jvm.Cond.initialized "PacketOrder$Component") ∈ TB := tb_of 13 (by decide +kernel) (by decide +kernel)
theorem t_14 : (Jvm.Cond.initialized "PacketOrder$Level") ∈ TB := tb_of 14 (by decide +kernel) (by decide +kernel)
theorem t_15 : (Jvm.Cond.initialized "PacketOrder$Span") ∈ TB := tb_of 15 (by decide +kernel) (by decide +kernel)
theorem t_16 : (Jvm.Cond.initialized "java/lang/Math") ∈ TB := tb_of 16 (by decide +kernel) (by decide +kernel)
theorem t_17 : (Jvm.Cond.initialized "jdk/internal/util/ArraysSupport") ∈ TB := tb_of 17 (by decide +kernel) (by decide +kernel)
theorem t_18 : (Jvm.Cond.initialized "java/util/Arrays") ∈ TB := tb_of 18 (by decide +kernel) (by decide +kernel)
theorem t_19 : (Jvm.Cond.initialized "java/lang/System") ∈ TB := tb_of 19 (by decide +kernel) (by decide +kernel)
theorem t_20 : (Jvm.Cond.initialized "java/util/Objects") ∈ TB := tb_of 20 (by decide +kernel) (by decide +kernel)
theorem t_21 : (Jvm.Cond.initialized "jdk/internal/util/Preconditions") ∈ TB := tb_of 21 (by decide +kernel) (by decide +kernel)
theorem t_22 : (Jvm.Cond.initialized "java/util/NoSuchElementException") ∈ TB := tb_of 22 (by decide +kernel) (by decide +kernel)
theorem t_23 : (Jvm.Cond.initialized "java/lang/UnsupportedOperationException") ∈ TB := tb_of 23 (by decide +kernel) (by decide +kernel)
theorem t_24 : (Jvm.Cond.classLink "PacketOrderLaw" 8 "PacketOrder") ∈ TB := tb_of 24 (by decide +kernel) (by decide +kernel)
theorem t_25 : (Jvm.Cond.instantiable "PacketOrder" 13) ∈ TB := tb_of 25 (by decide +kernel) (by decide +kernel)
theorem t_26 : (Jvm.Cond.methodLink "PacketOrderLaw" 54 (⟨"PacketOrder", "<init>", "()V"⟩ : MethodName)) ∈ TB := tb_of 26 (by decide +kernel) (by decide +kernel)
theorem t_27 : (Jvm.Cond.instanceMethod (⟨"PacketOrder", "<init>", "()V"⟩ : MethodName)) ∈ TB := tb_of 27 (by decide +kernel) (by decide +kernel)
theorem t_28 : (Jvm.Cond.code (⟨"PacketOrder", "<init>", "()V"⟩ : MethodName) prog_1_method_1_code 1 (Option.none : Option Jvm.ClassFile.FieldType)) ∈ TB := tb_of 28 (by decide +kernel) (by decide +kernel)
theorem t_29 : (Jvm.Cond.methodLink "PacketOrder" 3 (⟨"java/lang/Object", "<init>", "()V"⟩ : MethodName)) ∈ TB := tb_of 29 (by decide +kernel) (by decide +kernel)
theorem t_30 : (Jvm.Cond.instanceMethod (⟨"java/lang/Object", "<init>", "()V"⟩ : MethodName)) ∈ TB := tb_of 30 (by decide +kernel) (by decide +kernel)
theorem t_31 : (Jvm.Cond.code (⟨"java/lang/Object", "<init>", "()V"⟩ : MethodName) object_method_1_code 1 (Option.none : Option Jvm.ClassFile.FieldType)) ∈ TB := tb_of 31 (by decide +kernel) (by decide +kernel)
theorem t_32 : (Jvm.Cond.classLink "PacketOrder" 9 "java/util/ArrayList") ∈ TB := tb_of 32 (by decide +kernel) (by decide +kernel)
theorem t_33 : (Jvm.Cond.instantiable "java/util/ArrayList" 3) ∈ TB := tb_of 33 (by decide +kernel) (by decide +kernel)
theorem t_34 : (Jvm.Cond.methodLink "PacketOrder" 11 (⟨"java/util/ArrayList", "<init>", "()V"⟩ : MethodName)) ∈ TB := tb_of 34 (by decide +kernel) (by decide +kernel)
theorem t_35 : (Jvm.Cond.instanceMethod (⟨"java/util/ArrayList", "<init>", "()V"⟩ : MethodName)) ∈ TB := tb_of 35 (by decide +kernel) (by decide +kernel)
theorem t_36 : (Jvm.Cond.code (⟨"java/util/ArrayList", "<init>", "()V"⟩ : MethodName) prog_23_method_2_code 1 (Option.none : Option Jvm.ClassFile.FieldType)) ∈ TB := tb_of 36 (by decide +kernel) (by decide +kernel)
theorem t_37 : (Jvm.Cond.methodLink "java/util/ArrayList" 1 (⟨"java/util/AbstractList", "<init>", "()V"⟩ : MethodName)) ∈ TB := tb_of 37 (by decide +kernel) (by decide +kernel)
theorem t_38 : (Jvm.Cond.instanceMethod (⟨"java/util/AbstractList", "<init>", "()V"⟩ : MethodName)) ∈ TB := tb_of 38 (by decide +kernel) (by decide +kernel)
theorem t_39 : (Jvm.Cond.code (⟨"java/util/AbstractList", "<init>", "()V"⟩ : MethodName) prog_22_method_1_code 1 (Option.none : Option Jvm.ClassFile.FieldType)) ∈ TB := tb_of 39 (by decide +kernel) (by decide +kernel)
theorem t_40 : (Jvm.Cond.methodLink "java/util/AbstractList" 1 (⟨"java/util/AbstractCollection", "<init>", "()V"⟩ : MethodName)) ∈ TB := tb_of 40 (by decide +kernel) (by decide +kernel)
theorem t_41 : (Jvm.Cond.instanceMethod (⟨"java/util/AbstractCollection", "<init>", "()V"⟩ : MethodName)) ∈ TB := tb_of 41 (by decide +kernel) (by decide +kernel)
theorem t_42 : (Jvm.Cond.code (⟨"java/util/AbstractCollection", "<init>", "()V"⟩ : MethodName) prog_21_method_1_code 1 (Option.none : Option Jvm.ClassFile.FieldType)) ∈ TB := tb_of 42 (by decide +kernel) (by decide +kernel)
theorem t_43 : (Jvm.Cond.methodLink "java/util/AbstractCollection" 1 (⟨"java/lang/Object", "<init>", "()V"⟩ : MethodName)) ∈ TB := tb_of 43 (by decide +kernel) (by decide +kernel)
theorem t_44 : (Jvm.Cond.fieldLink "java/util/ArrayList" 39 "java/util/ArrayList" "DEFAULTCAPACITY_EMPTY_ELEMENTDATA" "[Ljava/lang/Object;") ∈ TB := tb_of 44 (by decide +kernel) (by decide +kernel)
theorem t_46 : (Jvm.Cond.fieldLink "java/util/ArrayList" 9 "java/util/ArrayList" "elementData" "[Ljava/lang/Object;") ∈ TB := tb_of 46 (by decide +kernel) (by decide +kernel)
theorem t_47 : (Jvm.Cond.fieldLink "java/util/ArrayList" 48 "java/util/ArrayList" "size" "I") ∈ TB := tb_of 47 (by decide +kernel) (by decide +kernel)
theorem t_48 : (Jvm.Cond.fieldLink "java/util/AbstractList" 7 "java/util/AbstractList" "modCount" "I") ∈ TB := tb_of 48 (by decide +kernel) (by decide +kernel)
theorem t_49 : (Jvm.Cond.fieldLink "java/util/ArrayList" 63 "java/util/ArrayList" "modCount" "I") ∈ TB := tb_of 49 (by decide +kernel) (by decide +kernel)
theorem t_50 : (Jvm.Cond.sameField "java/util/ArrayList" "java/util/AbstractList" "modCount" "I") ∈ TB := tb_of 50 (by decide +kernel) (by decide +kernel)
theorem t_51 : (Jvm.Cond.lays "java/util/ArrayList" "java/util/ArrayList" "elementData" "[Ljava/lang/Object;") ∈ TB := tb_of 51 (by decide +kernel) (by decide +kernel)
theorem t_52 : (Jvm.Cond.soleField "java/util/ArrayList" "elementData") ∈ TB := tb_of 52 (by decide +kernel) (by decide +kernel)
theorem t_53 : (Jvm.Cond.lays "java/util/ArrayList" "java/util/ArrayList" "size" "I") ∈ TB := tb_of 53 (by decide +kernel) (by decide +kernel)
theorem t_54 : (Jvm.Cond.soleField "java/util/ArrayList" "size") ∈ TB := tb_of 54 (by decide +kernel) (by decide +kernel)
theorem t_55 : (Jvm.Cond.lays "java/util/ArrayList" "java/util/AbstractList" "modCount" "I") ∈ TB := tb_of 55 (by decide +kernel) (by decide +kernel)
theorem t_56 : (Jvm.Cond.soleField "java/util/AbstractList" "modCount") ∈ TB := tb_of 56 (by decide +kernel) (by decide +kernel)
theorem t_57 : (Jvm.Cond.superclass "java/util/ArrayList" "java/util/AbstractList") ∈ TB := tb_of 57 (by decide +kernel) (by decide +kernel)
theorem t_58 : (Jvm.Cond.classLink "PacketOrder" 19 "PacketOrder$Row") ∈ TB := tb_of 58 (by decide +kernel) (by decide +kernel)
theorem t_59 : (Jvm.Cond.instantiable "PacketOrder$Row" 10) ∈ TB := tb_of 59 (by decide +kernel) (by decide +kernel)
theorem t_61 : (Jvm.Cond.instanceMethod (⟨"PacketOrder$Row", "<init>", "()V"⟩ : MethodName)) ∈ TB := tb_of 61 (by decide +kernel) (by decide +kernel)
theorem t_62 : (Jvm.Cond.code (⟨"PacketOrder$Row", "<init>", "()V"⟩ : MethodName) prog_5_method_1_code 1 (Option.none : Option Jvm.ClassFile.FieldType)) ∈ TB := tb_of 62 (by decide +kernel) (by decide +kernel)
theorem t_63 : (Jvm.Cond.methodLink "PacketOrder$Row" 3 (⟨"java/lang/Object", "<init>", "()V"⟩ : MethodName)) ∈ TB := tb_of 63 (by decide +kernel) (by decide +kernel)
theorem t_64 : (Jvm.Cond.fieldLink "PacketOrder$Row" 9 "PacketOrder$Row" "layersCome" "[I") ∈ TB := tb_of 64 (by decide +kernel) (by decide +kernel)
theorem t_65 : (Jvm.Cond.fieldLink "PacketOrder$Row" 15 "PacketOrder$Row" "keys" "[J") ∈ TB := tb_of 65 (by decide +kernel) (by decide +kernel)
theorem t_66 : (Jvm.Cond.fieldLink "PacketOrder$Row" 19 "PacketOrder$Row" "spare" "[J") ∈ TB := tb_of 66 (by decide +kernel) (by decide +kernel)
theorem t_67 : (Jvm.Cond.fieldLink "PacketOrder$Row" 42 "PacketOrder$Row" "size" "I") ∈ TB := tb_of 67 (by decide +kernel) (by decide +kernel)
theorem t_69 : (Jvm.Cond.fieldLink "PacketOrder$Row" 39 "PacketOrder$Row" "layerEnd" "I") ∈ TB := tb_of 69 (by decide +kernel) (by decide +kernel)
theorem t_70 : (Jvm.Cond.fieldLink "PacketOrder$Row" 52 "PacketOrder$Row" "groupStart" "I") ∈ TB := tb_of 70 (by decide +kernel) (by decide +kernel)
theorem t_71 : (Jvm.Cond.fieldLink "PacketOrder$Row" 58 "PacketOrder$Row" "groupEnd" "I") ∈ TB := tb_of 71 (by decide +kernel) (by decide +kernel)
theorem t_72 : (Jvm.Cond.fieldLink "PacketOrder$Row" 66 "PacketOrder$Row" "layer" "I") ∈ TB := tb_of 72 (by decide +kernel) (by decide +kernel)
theorem t_73 : (Jvm.Cond.fieldLink "PacketOrder$Row" 63 "PacketOrder$Row" "at" "I") ∈ TB := tb_of 73 (by decide +kernel) (by decide +kernel)
theorem t_74 : (Jvm.Cond.fieldLink "PacketOrder$Row" 22 "PacketOrder$Row" "last" "I") ∈ TB := tb_of 74 (by decide +kernel) (by decide +kernel)
theorem t_76 : (Jvm.Cond.lays "PacketOrder$Row" "PacketOrder$Row" "layersCome" "[I") ∈ TB := tb_of 76 (by decide +kernel) (by decide +kernel)
theorem t_77 : (Jvm.Cond.soleField "PacketOrder$Row" "layersCome") ∈ TB := tb_of 77 (by decide +kernel) (by decide +kernel)
theorem t_78 : (Jvm.Cond.lays "PacketOrder$Row" "PacketOrder$Row" "keys" "[J") ∈ TB := tb_of 78 (by decide +kernel) (by decide +kernel)
theorem t_79 : (Jvm.Cond.soleField "PacketOrder$Row" "keys") ∈ TB := tb_of 79 (by decide +kernel) (by decide +kernel)
theorem t_80 : (Jvm.Cond.lays "PacketOrder$Row" "PacketOrder$Row" "spare" "[J") ∈ TB := tb_of 80 (by decide +kernel) (by decide +kernel)
theorem t_81 : (Jvm.Cond.soleField "PacketOrder$Row" "spare") ∈ TB := tb_of 81 (by decide +kernel) (by decide +kernel)
theorem t_82 : (Jvm.Cond.lays "PacketOrder$Row" "PacketOrder$Row" "size" "I") ∈ TB := tb_of 82 (by decide +kernel) (by decide +kernel)
theorem t_83 : (Jvm.Cond.soleField "PacketOrder$Row" "size") ∈ TB := tb_of 83 (by decide +kernel) (by decide +kernel)
theorem t_84 : (Jvm.Cond.lays "PacketOrder$Row" "PacketOrder$Row" "layerEnd" "I") ∈ TB := tb_of 84 (by decide +kernel) (by decide +kernel)
theorem t_85 : (Jvm.Cond.soleField "PacketOrder$Row" "layerEnd") ∈ TB := tb_of 85 (by decide +kernel) (by decide +kernel)
theorem t_86 : (Jvm.Cond.lays "PacketOrder$Row" "PacketOrder$Row" "groupStart" "I") ∈ TB := tb_of 86 (by decide +kernel) (by decide +kernel)
theorem t_87 : (Jvm.Cond.soleField "PacketOrder$Row" "groupStart") ∈ TB := tb_of 87 (by decide +kernel) (by decide +kernel)
theorem t_88 : (Jvm.Cond.lays "PacketOrder$Row" "PacketOrder$Row" "groupEnd" "I") ∈ TB := tb_of 88 (by decide +kernel) (by decide +kernel)
theorem t_89 : (Jvm.Cond.soleField "PacketOrder$Row" "groupEnd") ∈ TB := tb_of 89 (by decide +kernel) (by decide +kernel)
theorem t_90 : (Jvm.Cond.lays "PacketOrder$Row" "PacketOrder$Row" "layer" "I") ∈ TB := tb_of 90 (by decide +kernel) (by decide +kernel)
theorem t_91 : (Jvm.Cond.soleField "PacketOrder$Row" "layer") ∈ TB := tb_of 91 (by decide +kernel) (by decide +kernel)
theorem t_92 : (Jvm.Cond.lays "PacketOrder$Row" "PacketOrder$Row" "at" "I") ∈ TB := tb_of 92 (by decide +kernel) (by decide +kernel)
theorem t_93 : (Jvm.Cond.soleField "PacketOrder$Row" "at") ∈ TB := tb_of 93 (by decide +kernel) (by decide +kernel)
theorem t_94 : (Jvm.Cond.lays "PacketOrder$Row" "PacketOrder$Row" "last" "I") ∈ TB := tb_of 94 (by decide +kernel) (by decide +kernel)
theorem t_95 : (Jvm.Cond.soleField "PacketOrder$Row" "last") ∈ TB := tb_of 95 (by decide +kernel) (by decide +kernel)
theorem t_96 : (Jvm.Cond.superclass "PacketOrder$Row" "java/lang/Object") ∈ TB := tb_of 96 (by decide +kernel) (by decide +kernel)
theorem t_97 : (Jvm.Cond.arrayClass Jvm.ClassFile.FieldType.int) ∈ TB := tb_of 97 (by decide +kernel) (by decide +kernel)
theorem t_98 : (Jvm.Cond.arrayClass Jvm.ClassFile.FieldType.long) ∈ TB := tb_of 98 (by decide +kernel) (by decide +kernel)
theorem t_99 : (Jvm.Cond.classLink "PacketOrder" 30 "PacketOrder$Change") ∈ TB := tb_of 99 (by decide +kernel) (by decide +kernel)
theorem t_100 : (Jvm.Cond.instantiable "PacketOrder$Change" 6) ∈ TB := tb_of 100 (by decide +kernel) (by decide +kernel)
theorem t_101 : (Jvm.Cond.methodLink "PacketOrder" 32 (⟨"PacketOrder$Change", "<init>", "(IIIIII)V"⟩ : MethodName)) ∈ TB := tb_of 101 (by decide +kernel) (by decide +kernel)
theorem t_102 : (Jvm.Cond.instanceMethod (⟨"PacketOrder$Change", "<init>", "(IIIIII)V"⟩ : MethodName)) ∈ TB := tb_of 102 (by decide +kernel) (by decide +kernel)
theorem t_103 : (Jvm.Cond.code (⟨"PacketOrder$Change", "<init>", "(IIIIII)V"⟩ : MethodName) prog_2_method_1_code 7 (Option.none : Option Jvm.ClassFile.FieldType)) ∈ TB := tb_of 103 (by decide +kernel) (by decide +kernel)
theorem t_104 : (Jvm.Cond.methodLink "PacketOrder$Change" 1 (⟨"java/lang/Object", "<init>", "()V"⟩ : MethodName)) ∈ TB := tb_of 104 (by decide +kernel) (by decide +kernel)
theorem t_105 : (Jvm.Cond.fieldLink "PacketOrder$Change" 7 "PacketOrder$Change" "firstLevel" "I") ∈ TB := tb_of 105 (by decide +kernel) (by decide +kernel)
theorem t_107 : (Jvm.Cond.fieldLink "PacketOrder$Change" 13 "PacketOrder$Change" "levelEnd" "I") ∈ TB := tb_of 107 (by decide +kernel) (by decide +kernel)
theorem t_109 : (Jvm.Cond.fieldLink "PacketOrder$Change" 16 "PacketOrder$Change" "firstComponent" "I") ∈ TB := tb_of 109 (by decide +kernel) (by decide +kernel)
theorem t_111 : (Jvm.Cond.fieldLink "PacketOrder$Change" 19 "PacketOrder$Change" "componentEnd" "I") ∈ TB := tb_of 111 (by decide +kernel) (by decide +kernel)
theorem t_113 : (Jvm.Cond.fieldLink "PacketOrder$Change" 22 "PacketOrder$Change" "layerEnd" "I") ∈ TB := tb_of 113 (by decide +kernel) (by decide +kernel)
theorem t_115 : (Jvm.Cond.fieldLink "PacketOrder$Change" 25 "PacketOrder$Change" "order" "I") ∈ TB := tb_of 115 (by decide +kernel) (by decide +kernel)
theorem t_117 : (Jvm.Cond.laysFinal "PacketOrder$Change" "PacketOrder$Change" "firstLevel" "I") ∈ TB := tb_of 117 (by decide +kernel) (by decide +kernel)
theorem t_118 : (Jvm.Cond.soleField "PacketOrder$Change" "firstLevel") ∈ TB := tb_of 118 (by decide +kernel) (by decide +kernel)
theorem t_119 : (Jvm.Cond.laysFinal "PacketOrder$Change" "PacketOrder$Change" "levelEnd" "I") ∈ TB := tb_of 119 (by decide +kernel) (by decide +kernel)
theorem t_120 : (Jvm.Cond.soleField "PacketOrder$Change" "levelEnd") ∈ TB := tb_of 120 (by decide +kernel) (by decide +kernel)
theorem t_121 : (Jvm.Cond.laysFinal "PacketOrder$Change" "PacketOrder$Change" "firstComponent" "I") ∈ TB := tb_of 121 (by decide +kernel) (by decide +kernel)
theorem t_122 : (Jvm.Cond.soleField "PacketOrder$Change" "firstComponent") ∈ TB := tb_of 122 (by decide +kernel) (by decide +kernel)
theorem t_123 : (Jvm.Cond.laysFinal "PacketOrder$Change" "PacketOrder$Change" "componentEnd" "I") ∈ TB := tb_of 123 (by decide +kernel) (by decide +kernel)
theorem t_124 : (Jvm.Cond.soleField "PacketOrder$Change" "componentEnd") ∈ TB := tb_of 124 (by decide +kernel) (by decide +kernel)
theorem t_125 : (Jvm.Cond.laysFinal "PacketOrder$Change" "PacketOrder$Change" "layerEnd" "I") ∈ TB := tb_of 125 (by decide +kernel) (by decide +kernel)
theorem t_126 : (Jvm.Cond.soleField "PacketOrder$Change" "layerEnd") ∈ TB := tb_of 126 (by decide +kernel) (by decide +kernel)
theorem t_127 : (Jvm.Cond.laysFinal "PacketOrder$Change" "PacketOrder$Change" "order" "I") ∈ TB := tb_of 127 (by decide +kernel) (by decide +kernel)
theorem t_128 : (Jvm.Cond.soleField "PacketOrder$Change" "order") ∈ TB := tb_of 128 (by decide +kernel) (by decide +kernel)
theorem t_129 : (Jvm.Cond.superclass "PacketOrder$Change" "java/lang/Object") ∈ TB := tb_of 129 (by decide +kernel) (by decide +kernel)
theorem t_130 : (Jvm.Cond.fieldLink "PacketOrder" 48 "PacketOrder" "x0" "I") ∈ TB := tb_of 130 (by decide +kernel) (by decide +kernel)
theorem t_131 : (Jvm.Cond.fieldLink "PacketOrder" 51 "PacketOrder" "y0" "I") ∈ TB := tb_of 131 (by decide +kernel) (by decide +kernel)
theorem t_132 : (Jvm.Cond.fieldLink "PacketOrder" 54 "PacketOrder" "x1" "I") ∈ TB := tb_of 132 (by decide +kernel) (by decide +kernel)
theorem t_133 : (Jvm.Cond.fieldLink "PacketOrder" 57 "PacketOrder" "y1" "I") ∈ TB := tb_of 133 (by decide +kernel) (by decide +kernel)
theorem t_134 : (Jvm.Cond.fieldLink "PacketOrder" 60 "PacketOrder" "hasTile" "Z") ∈ TB := tb_of 134 (by decide +kernel) (by decide +kernel)
theorem t_135 : (Jvm.Cond.fieldLink "PacketOrder" 12 "PacketOrder" "components" "Ljava/util/ArrayList;") ∈ TB := tb_of 135 (by decide +kernel) (by decide +kernel)
theorem t_136 : (Jvm.Cond.fieldLink "PacketOrder" 26 "PacketOrder" "layerCount" "I") ∈ TB := tb_of 136 (by decide +kernel) (by decide +kernel)
theorem t_137 : (Jvm.Cond.fieldLink "PacketOrder" 35 "PacketOrder" "own" "LPacketOrder$Change;") ∈ TB := tb_of 137 (by decide +kernel) (by decide +kernel)
theorem t_138 : (Jvm.Cond.fieldLink "PacketOrder" 16 "PacketOrder" "changes" "Ljava/util/ArrayList;") ∈ TB := tb_of 138 (by decide +kernel) (by decide +kernel)
theorem t_139 : (Jvm.Cond.fieldLink "PacketOrder" 64 "PacketOrder" "hasSequence" "Z") ∈ TB := tb_of 139 (by decide +kernel) (by decide +kernel)
theorem t_140 : (Jvm.Cond.fieldLink "PacketOrder" 154 "PacketOrder" "changeNow" "I") ∈ TB := tb_of 140 (by decide +kernel) (by decide +kernel)
theorem t_141 : (Jvm.Cond.fieldLink "PacketOrder" 157 "PacketOrder" "changeOfLast" "I") ∈ TB := tb_of 141 (by decide +kernel) (by decide +kernel)
theorem t_142 : (Jvm.Cond.fieldLink "PacketOrder" 22 "PacketOrder" "row" "LPacketOrder$Row;") ∈ TB := tb_of 142 (by decide +kernel) (by decide +kernel)
theorem t_143 : (Jvm.Cond.lays "PacketOrder" "PacketOrder" "x0" "I") ∈ TB := tb_of 143 (by decide +kernel) (by decide +kernel)
theorem t_144 : (Jvm.Cond.soleField "PacketOrder" "x0") ∈ TB := tb_of 144 (by decide +kernel) (by decide +kernel)
theorem t_145 : (Jvm.Cond.lays "PacketOrder" "PacketOrder" "y0" "I") ∈ TB := tb_of 145 (by decide +kernel) (by decide +kernel)
theorem t_146 : (Jvm.Cond.soleField "PacketOrder" "y0") ∈ TB := tb_of 146 (by decide +kernel) (by decide +kernel)
theorem t_147 : (Jvm.Cond.lays "PacketOrder" "PacketOrder" "x1" "I") ∈ TB := tb_of 147 (by decide +kernel) (by decide +kernel)
theorem t_148 : (Jvm.Cond.soleField "PacketOrder" "x1") ∈ TB := tb_of 148 (by decide +kernel) (by decide +kernel)
theorem t_149 : (Jvm.Cond.lays "PacketOrder" "PacketOrder" "y1" "I") ∈ TB := tb_of 149 (by decide +kernel) (by decide +kernel)
theorem t_150 : (Jvm.Cond.soleField "PacketOrder" "y1") ∈ TB := tb_of 150 (by decide +kernel) (by decide +kernel)
theorem t_151 : (Jvm.Cond.lays "PacketOrder" "PacketOrder" "hasTile" "Z") ∈ TB := tb_of 151 (by decide +kernel) (by decide +kernel)
theorem t_152 : (Jvm.Cond.soleField "PacketOrder" "hasTile") ∈ TB := tb_of 152 (by decide +kernel) (by decide +kernel)
theorem t_153 : (Jvm.Cond.laysFinal "PacketOrder" "PacketOrder" "components" "Ljava/util/ArrayList;") ∈ TB := tb_of 153 (by decide +kernel) (by decide +kernel)
theorem t_154 : (Jvm.Cond.soleField "PacketOrder" "components") ∈ TB := tb_of 154 (by decide +kernel) (by decide +kernel)
theorem t_155 : (Jvm.Cond.lays "PacketOrder" "PacketOrder" "layerCount" "I") ∈ TB := tb_of 155 (by decide +kernel) (by decide +kernel)
theorem t_156 : (Jvm.Cond.soleField "PacketOrder" "layerCount") ∈ TB := tb_of 156 (by decide +kernel) (by decide +kernel)
theorem t_157 : (Jvm.Cond.lays "PacketOrder" "PacketOrder" "own" "LPacketOrder$Change;") ∈ TB := tb_of 157 (by decide +kernel) (by decide +kernel)
theorem t_158 : (Jvm.Cond.soleField "PacketOrder" "own") ∈ TB := tb_of 158 (by decide +kernel) (by decide +kernel)
theorem t_159 : (Jvm.Cond.laysFinal "PacketOrder" "PacketOrder" "changes" "Ljava/util/ArrayList;") ∈ TB := tb_of 159 (by decide +kernel) (by decide +kernel)
theorem t_160 : (Jvm.Cond.soleField "PacketOrder" "changes") ∈ TB := tb_of 160 (by decide +kernel) (by decide +kernel)
theorem t_161 : (Jvm.Cond.lays "PacketOrder" "PacketOrder" "hasSequence" "Z") ∈ TB := tb_of 161 (by decide +kernel) (by decide +kernel)
theorem t_162 : (Jvm.Cond.soleField "PacketOrder" "hasSequence") ∈ TB := tb_of 162 (by decide +kernel) (by decide +kernel)
theorem t_163 : (Jvm.Cond.lays "PacketOrder" "PacketOrder" "changeNow" "I") ∈ TB := tb_of 163 (by decide +kernel) (by decide +kernel)
theorem t_164 : (Jvm.Cond.soleField "PacketOrder" "changeNow") ∈ TB := tb_of 164 (by decide +kernel) (by decide +kernel)
theorem t_165 : (Jvm.Cond.lays "PacketOrder" "PacketOrder" "changeOfLast" "I") ∈ TB := tb_of 165 (by decide +kernel) (by decide +kernel)
theorem t_166 : (Jvm.Cond.soleField "PacketOrder" "changeOfLast") ∈ TB := tb_of 166 (by decide +kernel) (by decide +kernel)
theorem t_167 : (Jvm.Cond.laysFinal "PacketOrder" "PacketOrder" "row" "LPacketOrder$Row;") ∈ TB := tb_of 167 (by decide +kernel) (by decide +kernel)
theorem t_168 : (Jvm.Cond.soleField "PacketOrder" "row") ∈ TB := tb_of 168 (by decide +kernel) (by decide +kernel)
theorem t_169 : (Jvm.Cond.superclass "PacketOrder" "java/lang/Object") ∈ TB := tb_of 169 (by decide +kernel) (by decide +kernel)
theorem t_170 : (Jvm.Cond.methodLink "PacketOrderLaw" 82 (⟨"PacketOrder", "clear", "()V"⟩ : MethodName)) ∈ TB := tb_of 170 (by decide +kernel) (by decide +kernel)
theorem t_171 : (Jvm.Cond.instanceMethod (⟨"PacketOrder", "clear", "()V"⟩ : MethodName)) ∈ TB := tb_of 171 (by decide +kernel) (by decide +kernel)
theorem t_172 : (Jvm.Cond.selects "PacketOrder" (⟨"PacketOrder", "clear", "()V"⟩ : MethodName) (⟨"PacketOrder", "clear", "()V"⟩ : MethodName)) ∈ TB := tb_of 172 (by decide +kernel) (by decide +kernel)
theorem t_173 : (Jvm.Cond.code (⟨"PacketOrder", "clear", "()V"⟩ : MethodName) prog_1_method_7_code 1 (Option.none : Option Jvm.ClassFile.FieldType)) ∈ TB := tb_of 173 (by decide +kernel) (by decide +kernel)
theorem t_174 : (Jvm.Cond.methodLink "PacketOrder" 130 (⟨"java/util/ArrayList", "clear", "()V"⟩ : MethodName)) ∈ TB := tb_of 174 (by decide +kernel) (by decide +kernel)
theorem t_175 : (Jvm.Cond.instanceMethod (⟨"java/util/ArrayList", "clear", "()V"⟩ : MethodName)) ∈ TB := tb_of 175 (by decide +kernel) (by decide +kernel)
theorem t_176 : (Jvm.Cond.selects "java/util/ArrayList" (⟨"java/util/ArrayList", "clear", "()V"⟩ : MethodName) (⟨"java/util/ArrayList", "clear", "()V"⟩ : MethodName)) ∈ TB := tb_of 176 (by decide +kernel) (by decide +kernel)
theorem t_177 : (Jvm.Cond.code (⟨"java/util/ArrayList", "clear", "()V"⟩ : MethodName) prog_23_method_40_code 4 (Option.none : Option Jvm.ClassFile.FieldType)) ∈ TB := tb_of 177 (by decide +kernel) (by decide +kernel)
theorem t_178 : (Jvm.Cond.methodLink "PacketOrderLaw" 58 (⟨"PacketOrderLaw", "tile", "(LPacketOrder;IIII)I"⟩ : MethodName)) ∈ TB := tb_of 178 (by decide +kernel) (by decide +kernel)
theorem t_179 : (Jvm.Cond.static (⟨"PacketOrderLaw", "tile", "(LPacketOrder;IIII)I"⟩ : MethodName)) ∈ TB := tb_of 179 (by decide +kernel) (by decide +kernel)
theorem t_180 : (Jvm.Cond.codeWith (⟨"PacketOrderLaw", "tile", "(LPacketOrder;IIII)I"⟩ : MethodName) method_3_code 6 (Option.some Jvm.ClassFile.FieldType.int) [(0, 9, 12, 13)]) ∈ TB := tb_of 180 (by decide +kernel) (by decide +kernel)
theorem t_181 : (Jvm.Cond.classLink "PacketOrderLaw" 13 "java/lang/IllegalArgumentException") ∈ TB := tb_of 181 (by decide +kernel) (by decide +kernel)
theorem t_182 : (Jvm.Cond.methodLink "PacketOrderLaw" 7 (⟨"PacketOrder", "tile", "(IIII)V"⟩ : MethodName)) ∈ TB := tb_of 182 (by decide +kernel) (by decide +kernel)
theorem t_183 : (Jvm.Cond.instanceMethod (⟨"PacketOrder", "tile", "(IIII)V"⟩ : MethodName)) ∈ TB := tb_of 183 (by decide +kernel) (by decide +kernel)
theorem t_184 : (Jvm.Cond.selects "PacketOrder" (⟨"PacketOrder", "tile", "(IIII)V"⟩ : MethodName) (⟨"PacketOrder", "tile", "(IIII)V"⟩ : MethodName)) ∈ TB := tb_of 184 (by decide +kernel) (by decide +kernel)
theorem t_185 : (Jvm.Cond.code (⟨"PacketOrder", "tile", "(IIII)V"⟩ : MethodName) prog_1_method_2_code 5 (Option.none : Option Jvm.ClassFile.FieldType)) ∈ TB := tb_of 185 (by decide +kernel) (by decide +kernel)
theorem t_186 : (Jvm.Cond.classLink "PacketOrder" 39 "java/lang/IllegalArgumentException") ∈ TB := tb_of 186 (by decide +kernel) (by decide +kernel)
theorem t_187 : (Jvm.Cond.instantiable "java/lang/IllegalArgumentException" 6) ∈ TB := tb_of 187 (by decide +kernel) (by decide +kernel)
theorem t_195 : (Jvm.Cond.selects "java/lang/IllegalArgumentException" (⟨"java/lang/Throwable", "fillInStackTrace", "(I)Ljava/lang/Throwable;"⟩ : MethodName) (⟨"java/lang/Throwable", "fillInStackTrace", "(I)Ljava/lang/Throwable;"⟩ : MethodName)) ∈ TB := tb_of 195 (by decide +kernel) (by decide +kernel)
theorem t_196 : (Jvm.Cond.selects "java/lang/IllegalArgumentException" (⟨"java/lang/Throwable", "fillInStackTrace", "()Ljava/lang/Throwable;"⟩ : MethodName) (⟨"java/lang/Throwable", "fillInStackTrace", "()Ljava/lang/Throwable;"⟩ : MethodName)) ∈ TB := tb_of 196 (by decide +kernel) (by decide +kernel)
theorem t_197 : (Jvm.Cond.lays "java/lang/IllegalArgumentException" "java/lang/Throwable" "cause" "Ljava/lang/Throwable;") ∈ TB := tb_of 197 (by decide +kernel) (by decide +kernel)
theorem t_198 : (Jvm.Cond.lays "java/lang/Throwable" "java/lang/Throwable" "cause" "Ljava/lang/Throwable;") ∈ TB := tb_of 198 (by decide +kernel) (by decide +kernel)
theorem t_199 : (Jvm.Cond.lays "java/lang/IllegalArgumentException" "java/lang/Throwable" "stackTrace" "[Ljava/lang/StackTraceElement;") ∈ TB := tb_of 199 (by decide +kernel) (by decide +kernel)
theorem t_200 : (Jvm.Cond.lays "java/lang/Throwable" "java/lang/Throwable" "stackTrace" "[Ljava/lang/StackTraceElement;") ∈ TB := tb_of 200 (by decide +kernel) (by decide +kernel)
theorem t_201 : (Jvm.Cond.lays "java/lang/IllegalArgumentException" "java/lang/Throwable" "suppressedExceptions" "Ljava/util/List;") ∈ TB := tb_of 201 (by decide +kernel) (by decide +kernel)
theorem t_202 : (Jvm.Cond.lays "java/lang/Throwable" "java/lang/Throwable" "suppressedExceptions" "Ljava/util/List;") ∈ TB := tb_of 202 (by decide +kernel) (by decide +kernel)
theorem t_203 : (Jvm.Cond.lays "java/lang/IllegalArgumentException" "java/lang/Throwable" "detailMessage" "Ljava/lang/String;") ∈ TB := tb_of 203 (by decide +kernel) (by decide +kernel)
theorem t_204 : (Jvm.Cond.lays "java/lang/Throwable" "java/lang/Throwable" "detailMessage" "Ljava/lang/String;") ∈ TB := tb_of 204 (by decide +kernel) (by decide +kernel)
theorem t_205 : (Jvm.Cond.lays "java/lang/IllegalArgumentException" "java/lang/Throwable" "backtrace" "Ljava/lang/Object;") ∈ TB := tb_of 205 (by decide +kernel) (by decide +kernel)
theorem t_206 : (Jvm.Cond.lays "java/lang/Throwable" "java/lang/Throwable" "backtrace" "Ljava/lang/Object;") ∈ TB := tb_of 206 (by decide +kernel) (by decide +kernel)
theorem t_207 : (Jvm.Cond.fieldLink "java/lang/Throwable" 198 "java/lang/Throwable" "backtrace" "Ljava/lang/Object;") ∈ TB := tb_of 207 (by decide +kernel) (by decide +kernel)
theorem t_208 : (Jvm.Cond.superclass "java/lang/Throwable" "java/lang/Object") ∈ TB := tb_of 208 (by decide +kernel) (by decide +kernel)
theorem t_209 : (Jvm.Cond.instanceMethod (⟨"java/lang/Throwable", "<init>", "()V"⟩ : MethodName)) ∈ TB := tb_of 209 (by decide +kernel) (by decide +kernel)
theorem t_210 : (Jvm.Cond.code (⟨"java/lang/Throwable", "<init>", "()V"⟩ : MethodName) prog_19_method_1_code 1 (Option.none : Option Jvm.ClassFile.FieldType)) ∈ TB := tb_of 210 (by decide +kernel) (by decide +kernel)
theorem t_211 : (Jvm.Cond.methodLink "java/lang/Throwable" 1 (⟨"java/lang/Object", "<init>", "()V"⟩ : MethodName)) ∈ TB := tb_of 211 (by decide +kernel) (by decide +kernel)
theorem t_212 : (Jvm.Cond.fieldLink "java/lang/Throwable" 13 "java/lang/Throwable" "UNASSIGNED_STACK" "[Ljava/lang/StackTraceElement;") ∈ TB := tb_of 212 (by decide +kernel) (by decide +kernel)
theorem t_214 : (Jvm.Cond.fieldLink "java/lang/Throwable" 20 "java/lang/Throwable" "SUPPRESSED_SENTINEL" "Ljava/util/List;") ∈ TB := tb_of 214 (by decide +kernel) (by decide +kernel)
theorem t_216 : (Jvm.Cond.methodLink "java/lang/Throwable" 27 (⟨"java/lang/Throwable", "fillInStackTrace", "()Ljava/lang/Throwable;"⟩ : MethodName)) ∈ TB := tb_of 216 (by decide +kernel) (by decide +kernel)
theorem t_217 : (Jvm.Cond.instanceMethod (⟨"java/lang/Throwable", "fillInStackTrace", "()Ljava/lang/Throwable;"⟩ : MethodName)) ∈ TB := tb_of 217 (by decide +kernel) (by decide +kernel)
theorem t_218 : (Jvm.Cond.sameMethod "java/lang/Throwable" "java/lang/Throwable" "fillInStackTrace" "()Ljava/lang/Throwable;") ∈ TB := tb_of 218 (by decide +kernel) (by decide +kernel)
theorem t_219 : (Jvm.Cond.selects "java/lang/IllegalStateException" (⟨"java/lang/Throwable", "fillInStackTrace", "()Ljava/lang/Throwable;"⟩ : MethodName) (⟨"java/lang/Throwable", "fillInStackTrace", "()Ljava/lang/Throwable;"⟩ : MethodName)) ∈ TB := tb_of 219 (by decide +kernel) (by decide +kernel)
theorem t_220 : (Jvm.Cond.selects "java/lang/UnsupportedOperationException" (⟨"java/lang/Throwable", "fillInStackTrace", "()Ljava/lang/Throwable;"⟩ : MethodName) (⟨"java/lang/Throwable", "fillInStackTrace", "()Ljava/lang/Throwable;"⟩ : MethodName)) ∈ TB := tb_of 220 (by decide +kernel) (by decide +kernel)
theorem t_221 : (Jvm.Cond.selects "java/util/NoSuchElementException" (⟨"java/lang/Throwable", "fillInStackTrace", "()Ljava/lang/Throwable;"⟩ : MethodName) (⟨"java/lang/Throwable", "fillInStackTrace", "()Ljava/lang/Throwable;"⟩ : MethodName)) ∈ TB := tb_of 221 (by decide +kernel) (by decide +kernel)
theorem t_222 : (Jvm.Cond.codeSync (⟨"java/lang/Throwable", "fillInStackTrace", "()Ljava/lang/Throwable;"⟩ : MethodName) prog_19_method_18_code 1 (Option.some (Jvm.ClassFile.FieldType.object "java/lang/Throwable"))) ∈ TB := tb_of 222 (by decide +kernel) (by decide +kernel)
theorem t_223 : (Jvm.Cond.methodLink "java/lang/Throwable" 202 (⟨"java/lang/Throwable", "fillInStackTrace", "(I)Ljava/lang/Throwable;"⟩ : MethodName)) ∈ TB := tb_of 223 (by decide +kernel) (by decide +kernel)
theorem t_225 : (Jvm.Cond.instanceMethod (⟨"java/lang/Throwable", "fillInStackTrace", "(I)Ljava/lang/Throwable;"⟩ : MethodName)) ∈ TB := tb_of 225 (by decide +kernel) (by decide +kernel)
theorem t_226 : (Jvm.Cond.instantiable "java/lang/Throwable" 6) ∈ TB := tb_of 226 (by decide +kernel) (by decide +kernel)
theorem t_227 : (Jvm.Cond.native (⟨"java/lang/Throwable", "fillInStackTrace", "(I)Ljava/lang/Throwable;"⟩ : MethodName)) ∈ TB := tb_of 227 (by decide +kernel) (by decide +kernel)
theorem t_229 : (Jvm.Cond.methodLink "PacketOrder" 43 (⟨"java/lang/IllegalArgumentException", "<init>", "(Ljava/lang/String;)V"⟩ : MethodName)) ∈ TB := tb_of 229 (by decide +kernel) (by decide +kernel)
theorem t_230 : (Jvm.Cond.instanceMethod (⟨"java/lang/IllegalArgumentException", "<init>", "(Ljava/lang/String;)V"⟩ : MethodName)) ∈ TB := tb_of 230 (by decide +kernel) (by decide +kernel)
theorem t_231 : (Jvm.Cond.code (⟨"java/lang/IllegalArgumentException", "<init>", "(Ljava/lang/String;)V"⟩ : MethodName) prog_12_method_2_code 2 (Option.none : Option Jvm.ClassFile.FieldType)) ∈ TB := tb_of 231 (by decide +kernel) (by decide +kernel)
theorem t_232 : (Jvm.Cond.methodLink "java/lang/IllegalArgumentException" 7 (⟨"java/lang/RuntimeException", "<init>", "(Ljava/lang/String;)V"⟩ : MethodName)) ∈ TB := tb_of 232 (by decide +kernel) (by decide +kernel)
theorem t_233 : (Jvm.Cond.instanceMethod (⟨"java/lang/RuntimeException", "<init>", "(Ljava/lang/String;)V"⟩ : MethodName)) ∈ TB := tb_of 233 (by decide +kernel) (by decide +kernel)
theorem t_234 : (Jvm.Cond.code (⟨"java/lang/RuntimeException", "<init>", "(Ljava/lang/String;)V"⟩ : MethodName) prog_16_method_2_code 2 (Option.none : Option Jvm.ClassFile.FieldType)) ∈ TB := tb_of 234 (by decide +kernel) (by decide +kernel)
theorem t_235 : (Jvm.Cond.methodLink "java/lang/RuntimeException" 7 (⟨"java/lang/Exception", "<init>", "(Ljava/lang/String;)V"⟩ : MethodName)) ∈ TB := tb_of 235 (by decide +kernel) (by decide +kernel)
theorem t_236 : (Jvm.Cond.instanceMethod (⟨"java/lang/Exception", "<init>", "(Ljava/lang/String;)V"⟩ : MethodName)) ∈ TB := tb_of 236 (by decide +kernel) (by decide +kernel)
theorem t_237 : (Jvm.Cond.code (⟨"java/lang/Exception", "<init>", "(Ljava/lang/String;)V"⟩ : MethodName) prog_11_method_2_code 2 (Option.none : Option Jvm.ClassFile.FieldType)) ∈ TB := tb_of 237 (by decide +kernel) (by decide +kernel)
theorem t_238 : (Jvm.Cond.methodLink "java/lang/Exception" 7 (⟨"java/lang/Throwable", "<init>", "(Ljava/lang/String;)V"⟩ : MethodName)) ∈ TB := tb_of 238 (by decide +kernel) (by decide +kernel)
theorem t_239 : (Jvm.Cond.instanceMethod (⟨"java/lang/Throwable", "<init>", "(Ljava/lang/String;)V"⟩ : MethodName)) ∈ TB := tb_of 239 (by decide +kernel) (by decide +kernel)
theorem t_240 : (Jvm.Cond.code (⟨"java/lang/Throwable", "<init>", "(Ljava/lang/String;)V"⟩ : MethodName) prog_19_method_2_code 2 (Option.none : Option Jvm.ClassFile.FieldType)) ∈ TB := tb_of 240 (by decide +kernel) (by decide +kernel)
theorem t_241 : (Jvm.Cond.fieldLink "java/lang/Throwable" 198 "java/lang/Throwable" "backtrace" "Ljava/lang/Object;") ∈ TB := tb_of 241 (by decide +kernel) (by decide +kernel)
theorem t_242 : (Jvm.Cond.fieldLink "java/lang/Throwable" 31 "java/lang/Throwable" "detailMessage" "Ljava/lang/String;") ∈ TB := tb_of 242 (by decide +kernel) (by decide +kernel)
theorem t_243 : (Jvm.Cond.fieldLink "java/lang/Throwable" 7 "java/lang/Throwable" "cause" "Ljava/lang/Throwable;") ∈ TB := tb_of 243 (by decide +kernel) (by decide +kernel)
theorem t_244 : (Jvm.Cond.fieldLink "java/lang/Throwable" 17 "java/lang/Throwable" "stackTrace" "[Ljava/lang/StackTraceElement;") ∈ TB := tb_of 244 (by decide +kernel) (by decide +kernel)
theorem t_245 : (Jvm.Cond.fieldLink "java/lang/Throwable" 24 "java/lang/Throwable" "suppressedExceptions" "Ljava/util/List;") ∈ TB := tb_of 245 (by decide +kernel) (by decide +kernel)
theorem t_246 : (Jvm.Cond.soleField "java/lang/Throwable" "backtrace") ∈ TB := tb_of 246 (by decide +kernel) (by decide +kernel)
theorem t_247 : (Jvm.Cond.soleField "java/lang/Throwable" "detailMessage") ∈ TB := tb_of 247 (by decide +kernel) (by decide +kernel)
theorem t_248 : (Jvm.Cond.soleField "java/lang/Throwable" "cause") ∈ TB := tb_of 248 (by decide +kernel) (by decide +kernel)
theorem t_249 : (Jvm.Cond.soleField "java/lang/Throwable" "stackTrace") ∈ TB := tb_of 249 (by decide +kernel) (by decide +kernel)
theorem t_250 : (Jvm.Cond.lays "java/lang/IllegalArgumentException" "java/lang/Throwable" "depth" "I") ∈ TB := tb_of 250 (by decide +kernel) (by decide +kernel)
theorem t_251 : (Jvm.Cond.soleField "java/lang/Throwable" "depth") ∈ TB := tb_of 251 (by decide +kernel) (by decide +kernel)
theorem t_252 : (Jvm.Cond.soleField "java/lang/Throwable" "suppressedExceptions") ∈ TB := tb_of 252 (by decide +kernel) (by decide +kernel)
theorem t_253 : (Jvm.Cond.superclass "java/lang/IllegalArgumentException" "java/lang/RuntimeException") ∈ TB := tb_of 253 (by decide +kernel) (by decide +kernel)
theorem t_254 : (Jvm.Cond.arrayClass Jvm.ClassFile.FieldType.byte) ∈ TB := tb_of 254 (by decide +kernel) (by decide +kernel)
theorem t_256 : (Jvm.Cond.methodLink "PacketOrderLaw" 67 (⟨"PacketOrderLaw", "component", "(LPacketOrder;III[J)I"⟩ : MethodName)) ∈ TB := tb_of 256 (by decide +kernel) (by decide +kernel)
theorem t_257 : (Jvm.Cond.static (⟨"PacketOrderLaw", "component", "(LPacketOrder;III[J)I"⟩ : MethodName)) ∈ TB := tb_of 257 (by decide +kernel) (by decide +kernel)
theorem t_258 : (Jvm.Cond.codeWith (⟨"PacketOrderLaw", "component", "(LPacketOrder;III[J)I"⟩ : MethodName) method_4_code 6 (Option.some Jvm.ClassFile.FieldType.int) [(0, 12, 15, 13), (0, 12, 19, 19)]) ∈ TB := tb_of 258 (by decide +kernel) (by decide +kernel)
theorem t_259 : (Jvm.Cond.classLink "PacketOrderLaw" 19 "java/lang/IllegalStateException") ∈ TB := tb_of 259 (by decide +kernel) (by decide +kernel)
theorem t_260 : (Jvm.Cond.methodLink "PacketOrderLaw" 15 (⟨"PacketOrder", "component", "(III)I"⟩ : MethodName)) ∈ TB := tb_of 260 (by decide +kernel) (by decide +kernel)
theorem t_261 : (Jvm.Cond.instanceMethod (⟨"PacketOrder", "component", "(III)I"⟩ : MethodName)) ∈ TB := tb_of 261 (by decide +kernel) (by decide +kernel)
theorem t_262 : (Jvm.Cond.selects "PacketOrder" (⟨"PacketOrder", "component", "(III)I"⟩ : MethodName) (⟨"PacketOrder", "component", "(III)I"⟩ : MethodName)) ∈ TB := tb_of 262 (by decide +kernel) (by decide +kernel)
theorem t_263 : (Jvm.Cond.code (⟨"PacketOrder", "component", "(III)I"⟩ : MethodName) prog_1_method_3_code 5 (Option.some Jvm.ClassFile.FieldType.int)) ∈ TB := tb_of 263 (by decide +kernel) (by decide +kernel)
theorem t_264 : (Jvm.Cond.methodLink "PacketOrder" 67 (⟨"PacketOrder", "isWithin", "(III)Z"⟩ : MethodName)) ∈ TB := tb_of 264 (by decide +kernel) (by decide +kernel)
theorem t_265 : (Jvm.Cond.static (⟨"PacketOrder", "isWithin", "(III)Z"⟩ : MethodName)) ∈ TB := tb_of 265 (by decide +kernel) (by decide +kernel)
theorem t_266 : (Jvm.Cond.code (⟨"PacketOrder", "isWithin", "(III)Z"⟩ : MethodName) prog_1_method_13_code 3 (Option.some Jvm.ClassFile.FieldType.boolean)) ∈ TB := tb_of 266 (by decide +kernel) (by decide +kernel)
theorem t_269 : (Jvm.Cond.methodLink "PacketOrder" 75 (⟨"java/util/ArrayList", "size", "()I"⟩ : MethodName)) ∈ TB := tb_of 269 (by decide +kernel) (by decide +kernel)
theorem t_270 : (Jvm.Cond.instanceMethod (⟨"java/util/ArrayList", "size", "()I"⟩ : MethodName)) ∈ TB := tb_of 270 (by decide +kernel) (by decide +kernel)
theorem t_271 : (Jvm.Cond.selects "java/util/ArrayList" (⟨"java/util/ArrayList", "size", "()I"⟩ : MethodName) (⟨"java/util/ArrayList", "size", "()I"⟩ : MethodName)) ∈ TB := tb_of 271 (by decide +kernel) (by decide +kernel)
theorem t_272 : (Jvm.Cond.code (⟨"java/util/ArrayList", "size", "()I"⟩ : MethodName) prog_23_method_8_code 1 (Option.some Jvm.ClassFile.FieldType.int)) ∈ TB := tb_of 272 (by decide +kernel) (by decide +kernel)
theorem t_273 : (Jvm.Cond.classLink "PacketOrder" 79 "java/lang/IllegalStateException") ∈ TB := tb_of 273 (by decide +kernel) (by decide +kernel)
theorem t_274 : (Jvm.Cond.instantiable "java/lang/IllegalStateException" 6) ∈ TB := tb_of 274 (by decide +kernel) (by decide +kernel)
theorem t_276 : (Jvm.Cond.selects "java/lang/IllegalStateException" (⟨"java/lang/Throwable", "fillInStackTrace", "(I)Ljava/lang/Throwable;"⟩ : MethodName) (⟨"java/lang/Throwable", "fillInStackTrace", "(I)Ljava/lang/Throwable;"⟩ : MethodName)) ∈ TB := tb_of 276 (by decide +kernel) (by decide +kernel)
theorem t_277 : (Jvm.Cond.lays "java/lang/IllegalStateException" "java/lang/Throwable" "cause" "Ljava/lang/Throwable;") ∈ TB := tb_of 277 (by decide +kernel) (by decide +kernel)
theorem t_278 : (Jvm.Cond.lays "java/lang/IllegalStateException" "java/lang/Throwable" "stackTrace" "[Ljava/lang/StackTraceElement;") ∈ TB := tb_of 278 (by decide +kernel) (by decide +kernel)
theorem t_279 : (Jvm.Cond.lays "java/lang/IllegalStateException" "java/lang/Throwable" "suppressedExceptions" "Ljava/util/List;") ∈ TB := tb_of 279 (by decide +kernel) (by decide +kernel)
theorem t_280 : (Jvm.Cond.lays "java/lang/IllegalStateException" "java/lang/Throwable" "detailMessage" "Ljava/lang/String;") ∈ TB := tb_of 280 (by decide +kernel) (by decide +kernel)
theorem t_281 : (Jvm.Cond.lays "java/lang/IllegalStateException" "java/lang/Throwable" "backtrace" "Ljava/lang/Object;") ∈ TB := tb_of 281 (by decide +kernel) (by decide +kernel)
theorem t_283 : (Jvm.Cond.methodLink "PacketOrder" 83 (⟨"java/lang/IllegalStateException", "<init>", "(Ljava/lang/String;)V"⟩ : MethodName)) ∈ TB := tb_of 283 (by decide +kernel) (by decide +kernel)
theorem t_284 : (Jvm.Cond.instanceMethod (⟨"java/lang/IllegalStateException", "<init>", "(Ljava/lang/String;)V"⟩ : MethodName)) ∈ TB := tb_of 284 (by decide +kernel) (by decide +kernel)
theorem t_285 : (Jvm.Cond.code (⟨"java/lang/IllegalStateException", "<init>", "(Ljava/lang/String;)V"⟩ : MethodName) prog_13_method_2_code 2 (Option.none : Option Jvm.ClassFile.FieldType)) ∈ TB := tb_of 285 (by decide +kernel) (by decide +kernel)
theorem t_286 : (Jvm.Cond.methodLink "java/lang/IllegalStateException" 7 (⟨"java/lang/RuntimeException", "<init>", "(Ljava/lang/String;)V"⟩ : MethodName)) ∈ TB := tb_of 286 (by decide +kernel) (by decide +kernel)
theorem t_287 : (Jvm.Cond.lays "java/lang/IllegalStateException" "java/lang/Throwable" "depth" "I") ∈ TB := tb_of 287 (by decide +kernel) (by decide +kernel)
theorem t_288 : (Jvm.Cond.superclass "java/lang/IllegalStateException" "java/lang/RuntimeException") ∈ TB := tb_of 288 (by decide +kernel) (by decide +kernel)
theorem t_289 : (Jvm.Cond.classLink "PacketOrder" 84 "PacketOrder$Component") ∈ TB := tb_of 289 (by decide +kernel) (by decide +kernel)
theorem t_290 : (Jvm.Cond.instantiable "PacketOrder$Component" 1) ∈ TB := tb_of 290 (by decide +kernel) (by decide +kernel)
theorem t_291 : (Jvm.Cond.methodLink "PacketOrder" 86 (⟨"PacketOrder$Component", "<init>", "(IIII)V"⟩ : MethodName)) ∈ TB := tb_of 291 (by decide +kernel) (by decide +kernel)
theorem t_292 : (Jvm.Cond.instanceMethod (⟨"PacketOrder$Component", "<init>", "(IIII)V"⟩ : MethodName)) ∈ TB := tb_of 292 (by decide +kernel) (by decide +kernel)
theorem t_293 : (Jvm.Cond.code (⟨"PacketOrder$Component", "<init>", "(IIII)V"⟩ : MethodName) prog_3_method_1_code 6 (Option.none : Option Jvm.ClassFile.FieldType)) ∈ TB := tb_of 293 (by decide +kernel) (by decide +kernel)
theorem t_294 : (Jvm.Cond.methodLink "PacketOrder$Component" 1 (⟨"java/lang/Object", "<init>", "()V"⟩ : MethodName)) ∈ TB := tb_of 294 (by decide +kernel) (by decide +kernel)
theorem t_295 : (Jvm.Cond.classLink "PacketOrder$Component" 7 "PacketOrder$Level") ∈ TB := tb_of 295 (by decide +kernel) (by decide +kernel)
theorem t_297 : (Jvm.Cond.instantiable "PacketOrder$Level" 5) ∈ TB := tb_of 297 (by decide +kernel) (by decide +kernel)
theorem t_298 : (Jvm.Cond.classLink "PacketOrder$Component" 15 "PacketOrder$Span") ∈ TB := tb_of 298 (by decide +kernel) (by decide +kernel)
theorem t_299 : (Jvm.Cond.instantiable "PacketOrder$Span" 6) ∈ TB := tb_of 299 (by decide +kernel) (by decide +kernel)
theorem t_300 : (Jvm.Cond.methodLink "PacketOrder$Component" 17 (⟨"PacketOrder$Span", "<init>", "(II)V"⟩ : MethodName)) ∈ TB := tb_of 300 (by decide +kernel) (by decide +kernel)
theorem t_301 : (Jvm.Cond.instanceMethod (⟨"PacketOrder$Span", "<init>", "(II)V"⟩ : MethodName)) ∈ TB := tb_of 301 (by decide +kernel) (by decide +kernel)
theorem t_302 : (Jvm.Cond.code (⟨"PacketOrder$Span", "<init>", "(II)V"⟩ : MethodName) prog_6_method_1_code 3 (Option.none : Option Jvm.ClassFile.FieldType)) ∈ TB := tb_of 302 (by decide +kernel) (by decide +kernel)
theorem t_303 : (Jvm.Cond.methodLink "PacketOrder$Span" 3 (⟨"java/lang/Object", "<init>", "()V"⟩ : MethodName)) ∈ TB := tb_of 303 (by decide +kernel) (by decide +kernel)
theorem t_304 : (Jvm.Cond.methodLink "PacketOrder$Span" 15 (⟨"java/lang/Math", "max", "(II)I"⟩ : MethodName)) ∈ TB := tb_of 304 (by decide +kernel) (by decide +kernel)
theorem t_305 : (Jvm.Cond.static (⟨"java/lang/Math", "max", "(II)I"⟩ : MethodName)) ∈ TB := tb_of 305 (by decide +kernel) (by decide +kernel)
theorem t_306 : (Jvm.Cond.code (⟨"java/lang/Math", "max", "(II)I"⟩ : MethodName) prog_15_method_65_code 2 (Option.some Jvm.ClassFile.FieldType.int)) ∈ TB := tb_of 306 (by decide +kernel) (by decide +kernel)
theorem t_307 : (Jvm.Cond.fieldLink "PacketOrder$Span" 21 "PacketOrder$Span" "step" "I") ∈ TB := tb_of 307 (by decide +kernel) (by decide +kernel)
theorem t_308 : (Jvm.Cond.fieldLink "PacketOrder$Span" 24 "PacketOrder$Span" "halvings" "I") ∈ TB := tb_of 308 (by decide +kernel) (by decide +kernel)
theorem t_309 : (Jvm.Cond.fieldLink "PacketOrder$Span" 9 "PacketOrder$Span" "exponent" "I") ∈ TB := tb_of 309 (by decide +kernel) (by decide +kernel)
theorem t_311 : (Jvm.Cond.fieldLink "PacketOrder$Span" 31 "PacketOrder$Span" "tileStart" "I") ∈ TB := tb_of 311 (by decide +kernel) (by decide +kernel)
theorem t_312 : (Jvm.Cond.fieldLink "PacketOrder$Span" 34 "PacketOrder$Span" "first" "I") ∈ TB := tb_of 312 (by decide +kernel) (by decide +kernel)
theorem t_314 : (Jvm.Cond.fieldLink "PacketOrder$Span" 37 "PacketOrder$Span" "count" "I") ∈ TB := tb_of 314 (by decide +kernel) (by decide +kernel)
theorem t_316 : (Jvm.Cond.laysFinal "PacketOrder$Span" "PacketOrder$Span" "step" "I") ∈ TB := tb_of 316 (by decide +kernel) (by decide +kernel)
theorem t_317 : (Jvm.Cond.soleField "PacketOrder$Span" "step") ∈ TB := tb_of 317 (by decide +kernel) (by decide +kernel)
theorem t_318 : (Jvm.Cond.laysFinal "PacketOrder$Span" "PacketOrder$Span" "halvings" "I") ∈ TB := tb_of 318 (by decide +kernel) (by decide +kernel)
theorem t_319 : (Jvm.Cond.soleField "PacketOrder$Span" "halvings") ∈ TB := tb_of 319 (by decide +kernel) (by decide +kernel)
theorem t_320 : (Jvm.Cond.lays "PacketOrder$Span" "PacketOrder$Span" "exponent" "I") ∈ TB := tb_of 320 (by decide +kernel) (by decide +kernel)
theorem t_321 : (Jvm.Cond.soleField "PacketOrder$Span" "exponent") ∈ TB := tb_of 321 (by decide +kernel) (by decide +kernel)
theorem t_322 : (Jvm.Cond.lays "PacketOrder$Span" "PacketOrder$Span" "tileStart" "I") ∈ TB := tb_of 322 (by decide +kernel) (by decide +kernel)
theorem t_323 : (Jvm.Cond.soleField "PacketOrder$Span" "tileStart") ∈ TB := tb_of 323 (by decide +kernel) (by decide +kernel)
theorem t_324 : (Jvm.Cond.lays "PacketOrder$Span" "PacketOrder$Span" "first" "I") ∈ TB := tb_of 324 (by decide +kernel) (by decide +kernel)
theorem t_325 : (Jvm.Cond.soleField "PacketOrder$Span" "first") ∈ TB := tb_of 325 (by decide +kernel) (by decide +kernel)
theorem t_326 : (Jvm.Cond.lays "PacketOrder$Span" "PacketOrder$Span" "count" "I") ∈ TB := tb_of 326 (by decide +kernel) (by decide +kernel)
theorem t_327 : (Jvm.Cond.soleField "PacketOrder$Span" "count") ∈ TB := tb_of 327 (by decide +kernel) (by decide +kernel)
theorem t_328 : (Jvm.Cond.superclass "PacketOrder$Span" "java/lang/Object") ∈ TB := tb_of 328 (by decide +kernel) (by decide +kernel)
theorem t_329 : (Jvm.Cond.methodLink "PacketOrder$Component" 20 (⟨"PacketOrder$Level", "<init>", "(IILPacketOrder$Span;LPacketOrder$Span;)V"⟩ : MethodName)) ∈ TB := tb_of 329 (by decide +kernel) (by decide +kernel)
theorem t_330 : (Jvm.Cond.instanceMethod (⟨"PacketOrder$Level", "<init>", "(IILPacketOrder$Span;LPacketOrder$Span;)V"⟩ : MethodName)) ∈ TB := tb_of 330 (by decide +kernel) (by decide +kernel)
theorem t_331 : (Jvm.Cond.code (⟨"PacketOrder$Level", "<init>", "(IILPacketOrder$Span;LPacketOrder$Span;)V"⟩ : MethodName) prog_4_method_1_code 5 (Option.none : Option Jvm.ClassFile.FieldType)) ∈ TB := tb_of 331 (by decide +kernel) (by decide +kernel)
theorem t_332 : (Jvm.Cond.methodLink "PacketOrder$Level" 3 (⟨"java/lang/Object", "<init>", "()V"⟩ : MethodName)) ∈ TB := tb_of 332 (by decide +kernel) (by decide +kernel)
theorem t_333 : (Jvm.Cond.fieldLink "PacketOrder$Level" 9 "PacketOrder$Level" "owner" "I") ∈ TB := tb_of 333 (by decide +kernel) (by decide +kernel)
theorem t_335 : (Jvm.Cond.fieldLink "PacketOrder$Level" 15 "PacketOrder$Level" "number" "I") ∈ TB := tb_of 335 (by decide +kernel) (by decide +kernel)
theorem t_337 : (Jvm.Cond.fieldLink "PacketOrder$Level" 18 "PacketOrder$Level" "across" "LPacketOrder$Span;") ∈ TB := tb_of 337 (by decide +kernel) (by decide +kernel)
theorem t_339 : (Jvm.Cond.fieldLink "PacketOrder$Level" 22 "PacketOrder$Level" "down" "LPacketOrder$Span;") ∈ TB := tb_of 339 (by decide +kernel) (by decide +kernel)
theorem t_341 : (Jvm.Cond.fieldLink "PacketOrder$Level" 30 "PacketOrder$Level" "firstPrecinct" "I") ∈ TB := tb_of 341 (by decide +kernel) (by decide +kernel)
theorem t_343 : (Jvm.Cond.laysFinal "PacketOrder$Level" "PacketOrder$Level" "owner" "I") ∈ TB := tb_of 343 (by decide +kernel) (by decide +kernel)
theorem t_344 : (Jvm.Cond.soleField "PacketOrder$Level" "owner") ∈ TB := tb_of 344 (by decide +kernel) (by decide +kernel)
theorem t_345 : (Jvm.Cond.laysFinal "PacketOrder$Level" "PacketOrder$Level" "number" "I") ∈ TB := tb_of 345 (by decide +kernel) (by decide +kernel)
theorem t_346 : (Jvm.Cond.soleField "PacketOrder$Level" "number") ∈ TB := tb_of 346 (by decide +kernel) (by decide +kernel)
theorem t_347 : (Jvm.Cond.laysFinal "PacketOrder$Level" "PacketOrder$Level" "across" "LPacketOrder$Span;") ∈ TB := tb_of 347 (by decide +kernel) (by decide +kernel)
theorem t_348 : (Jvm.Cond.soleField "PacketOrder$Level" "across") ∈ TB := tb_of 348 (by decide +kernel) (by decide +kernel)
theorem t_349 : (Jvm.Cond.laysFinal "PacketOrder$Level" "PacketOrder$Level" "down" "LPacketOrder$Span;") ∈ TB := tb_of 349 (by decide +kernel) (by decide +kernel)
theorem t_350 : (Jvm.Cond.soleField "PacketOrder$Level" "down") ∈ TB := tb_of 350 (by decide +kernel) (by decide +kernel)
theorem t_351 : (Jvm.Cond.lays "PacketOrder$Level" "PacketOrder$Level" "firstPrecinct" "I") ∈ TB := tb_of 351 (by decide +kernel) (by decide +kernel)
theorem t_352 : (Jvm.Cond.soleField "PacketOrder$Level" "firstPrecinct") ∈ TB := tb_of 352 (by decide +kernel) (by decide +kernel)
theorem t_353 : (Jvm.Cond.superclass "PacketOrder$Level" "java/lang/Object") ∈ TB := tb_of 353 (by decide +kernel) (by decide +kernel)
theorem t_354 : (Jvm.Cond.fieldLink "PacketOrder$Component" 9 "PacketOrder$Component" "levels" "[LPacketOrder$Level;") ∈ TB := tb_of 354 (by decide +kernel) (by decide +kernel)
theorem t_356 : (Jvm.Cond.laysFinal "PacketOrder$Component" "PacketOrder$Component" "levels" "[LPacketOrder$Level;") ∈ TB := tb_of 356 (by decide +kernel) (by decide +kernel)
theorem t_357 : (Jvm.Cond.soleField "PacketOrder$Component" "levels") ∈ TB := tb_of 357 (by decide +kernel) (by decide +kernel)
theorem t_358 : (Jvm.Cond.superclass "PacketOrder$Component" "java/lang/Object") ∈ TB := tb_of 358 (by decide +kernel) (by decide +kernel)
theorem t_359 : (Jvm.Cond.methodLink "PacketOrder" 89 (⟨"java/util/ArrayList", "add", "(Ljava/lang/Object;)Z"⟩ : MethodName)) ∈ TB := tb_of 359 (by decide +kernel) (by decide +kernel)
theorem t_360 : (Jvm.Cond.instanceMethod (⟨"java/util/ArrayList", "add", "(Ljava/lang/Object;)Z"⟩ : MethodName)) ∈ TB := tb_of 360 (by decide +kernel) (by decide +kernel)
theorem t_361 : (Jvm.Cond.selects "java/util/ArrayList" (⟨"java/util/ArrayList", "add", "(Ljava/lang/Object;)Z"⟩ : MethodName) (⟨"java/util/ArrayList", "add", "(Ljava/lang/Object;)Z"⟩ : MethodName)) ∈ TB := tb_of 361 (by decide +kernel) (by decide +kernel)
theorem t_362 : (Jvm.Cond.code (⟨"java/util/ArrayList", "add", "(Ljava/lang/Object;)Z"⟩ : MethodName) prog_23_method_25_code 2 (Option.some Jvm.ClassFile.FieldType.boolean)) ∈ TB := tb_of 362 (by decide +kernel) (by decide +kernel)
theorem t_363 : (Jvm.Cond.methodLink "java/util/ArrayList" 131 (⟨"java/util/ArrayList", "add", "(Ljava/lang/Object;[Ljava/lang/Object;I)V"⟩ : MethodName)) ∈ TB := tb_of 363 (by decide +kernel) (by decide +kernel)
theorem t_365 : (Jvm.Cond.instanceMethod (⟨"java/util/ArrayList", "add", "(Ljava/lang/Object;[Ljava/lang/Object;I)V"⟩ : MethodName)) ∈ TB := tb_of 365 (by decide +kernel) (by decide +kernel)
theorem t_366 : (Jvm.Cond.code (⟨"java/util/ArrayList", "add", "(Ljava/lang/Object;[Ljava/lang/Object;I)V"⟩ : MethodName) prog_23_method_24_code 4 (Option.none : Option Jvm.ClassFile.FieldType)) ∈ TB := tb_of 366 (by decide +kernel) (by decide +kernel)
theorem t_367 : (Jvm.Cond.methodLink "java/util/ArrayList" 129 (⟨"java/util/ArrayList", "grow", "()[Ljava/lang/Object;"⟩ : MethodName)) ∈ TB := tb_of 367 (by decide +kernel) (by decide +kernel)
theorem t_369 : (Jvm.Cond.instanceMethod (⟨"java/util/ArrayList", "grow", "()[Ljava/lang/Object;"⟩ : MethodName)) ∈ TB := tb_of 369 (by decide +kernel) (by decide +kernel)
theorem t_370 : (Jvm.Cond.code (⟨"java/util/ArrayList", "grow", "()[Ljava/lang/Object;"⟩ : MethodName) prog_23_method_7_code 1 (Option.some (Jvm.ClassFile.FieldType.array (Jvm.ClassFile.FieldType.object "java/lang/Object")))) ∈ TB := tb_of 370 (by decide +kernel) (by decide +kernel)
theorem t_371 : (Jvm.Cond.methodLink "java/util/ArrayList" 69 (⟨"java/util/ArrayList", "grow", "(I)[Ljava/lang/Object;"⟩ : MethodName)) ∈ TB := tb_of 371 (by decide +kernel) (by decide +kernel)
theorem t_373 : (Jvm.Cond.instanceMethod (⟨"java/util/ArrayList", "grow", "(I)[Ljava/lang/Object;"⟩ : MethodName)) ∈ TB := tb_of 373 (by decide +kernel) (by decide +kernel)
theorem t_374 : (Jvm.Cond.code (⟨"java/util/ArrayList", "grow", "(I)[Ljava/lang/Object;"⟩ : MethodName) prog_23_method_6_code 4 (Option.some (Jvm.ClassFile.FieldType.array (Jvm.ClassFile.FieldType.object "java/lang/Object")))) ∈ TB := tb_of 374 (by decide +kernel) (by decide +kernel)
theorem t_375 : (Jvm.Cond.methodLink "java/util/ArrayList" 73 (⟨"jdk/internal/util/ArraysSupport", "newLength", "(III)I"⟩ : MethodName)) ∈ TB := tb_of 375 (by decide +kernel) (by decide +kernel)
theorem t_376 : (Jvm.Cond.static (⟨"jdk/internal/util/ArraysSupport", "newLength", "(III)I"⟩ : MethodName)) ∈ TB := tb_of 376 (by decide +kernel) (by decide +kernel)
theorem t_377 : (Jvm.Cond.code (⟨"jdk/internal/util/ArraysSupport", "newLength", "(III)I"⟩ : MethodName) prog_31_method_27_code 4 (Option.some Jvm.ClassFile.FieldType.int)) ∈ TB := tb_of 377 (by decide +kernel) (by decide +kernel)
theorem t_378 : (Jvm.Cond.methodLink "jdk/internal/util/ArraysSupport" 194 (⟨"java/lang/Math", "max", "(II)I"⟩ : MethodName)) ∈ TB := tb_of 378 (by decide +kernel) (by decide +kernel)
theorem t_379 : (Jvm.Cond.constant "jdk/internal/util/ArraysSupport" 200 (2147483639 : Int32)) ∈ TB := tb_of 379 (by decide +kernel) (by decide +kernel)
theorem t_380 : (Jvm.Cond.methodLink "jdk/internal/util/ArraysSupport" 201 (⟨"jdk/internal/util/ArraysSupport", "hugeLength", "(II)I"⟩ : MethodName)) ∈ TB := tb_of 380 (by decide +kernel) (by decide +kernel)
theorem t_381 : (Jvm.Cond.static (⟨"jdk/internal/util/ArraysSupport", "hugeLength", "(II)I"⟩ : MethodName)) ∈ TB := tb_of 381 (by decide +kernel) (by decide +kernel)
theorem t_382 : (Jvm.Cond.code (⟨"jdk/internal/util/ArraysSupport", "hugeLength", "(II)I"⟩ : MethodName) prog_31_method_28_code 3 (Option.some Jvm.ClassFile.FieldType.int)) ∈ TB := tb_of 382 (by decide +kernel) (by decide +kernel)
theorem t_383 : (Jvm.Cond.methodLink "java/util/ArrayList" 66 (⟨"java/util/Arrays", "copyOf", "([Ljava/lang/Object;I)[Ljava/lang/Object;"⟩ : MethodName)) ∈ TB := tb_of 383 (by decide +kernel) (by decide +kernel)
theorem t_384 : (Jvm.Cond.static (⟨"java/util/Arrays", "copyOf", "([Ljava/lang/Object;I)[Ljava/lang/Object;"⟩ : MethodName)) ∈ TB := tb_of 384 (by decide +kernel) (by decide +kernel)
theorem t_385 : (Jvm.Cond.code (⟨"java/util/Arrays", "copyOf", "([Ljava/lang/Object;I)[Ljava/lang/Object;"⟩ : MethodName) prog_24_method_119_code 2 (Option.some (Jvm.ClassFile.FieldType.array (Jvm.ClassFile.FieldType.object "java/lang/Object")))) ∈ TB := tb_of 385 (by decide +kernel) (by decide +kernel)
theorem t_386 : (Jvm.Cond.methodLink "java/util/Arrays" 86 (⟨"java/lang/Object", "getClass", "()Ljava/lang/Class;"⟩ : MethodName)) ∈ TB := tb_of 386 (by decide +kernel) (by decide +kernel)
theorem t_387 : (Jvm.Cond.instanceMethod (⟨"java/lang/Object", "getClass", "()Ljava/lang/Class;"⟩ : MethodName)) ∈ TB := tb_of 387 (by decide +kernel) (by decide +kernel)
theorem t_388 : (Jvm.Cond.sameMethod "java/lang/Object" "java/lang/Object" "getClass" "()Ljava/lang/Class;") ∈ TB := tb_of 388 (by decide +kernel) (by decide +kernel)
theorem t_389 : (Jvm.Cond.selects "PacketOrder" (⟨"java/lang/Object", "getClass", "()Ljava/lang/Class;"⟩ : MethodName) (⟨"java/lang/Object", "getClass", "()Ljava/lang/Class;"⟩ : MethodName)) ∈ TB := tb_of 389 (by decide +kernel) (by decide +kernel)
theorem t_390 : (Jvm.Cond.selects "PacketOrder$Change" (⟨"java/lang/Object", "getClass", "()Ljava/lang/Class;"⟩ : MethodName) (⟨"java/lang/Object", "getClass", "()Ljava/lang/Class;"⟩ : MethodName)) ∈ TB := tb_of 390 (by decide +kernel) (by decide +kernel)
theorem t_391 : (Jvm.Cond.selects "PacketOrder$Component" (⟨"java/lang/Object", "getClass", "()Ljava/lang/Class;"⟩ : MethodName) (⟨"java/lang/Object", "getClass", "()Ljava/lang/Class;"⟩ : MethodName)) ∈ TB := tb_of 391 (by decide +kernel) (by decide +kernel)
theorem t_392 : (Jvm.Cond.selects "PacketOrder$Level" (⟨"java/lang/Object", "getClass", "()Ljava/lang/Class;"⟩ : MethodName) (⟨"java/lang/Object", "getClass", "()Ljava/lang/Class;"⟩ : MethodName)) ∈ TB := tb_of 392 (by decide +kernel) (by decide +kernel)
theorem t_393 : (Jvm.Cond.selects "PacketOrder$Row" (⟨"java/lang/Object", "getClass", "()Ljava/lang/Class;"⟩ : MethodName) (⟨"java/lang/Object", "getClass", "()Ljava/lang/Class;"⟩ : MethodName)) ∈ TB := tb_of 393 (by decide +kernel) (by decide +kernel)
theorem t_394 : (Jvm.Cond.selects "PacketOrder$Span" (⟨"java/lang/Object", "getClass", "()Ljava/lang/Class;"⟩ : MethodName) (⟨"java/lang/Object", "getClass", "()Ljava/lang/Class;"⟩ : MethodName)) ∈ TB := tb_of 394 (by decide +kernel) (by decide +kernel)
theorem t_395 : (Jvm.Cond.selects "PacketOrderModel" (⟨"java/lang/Object", "getClass", "()Ljava/lang/Class;"⟩ : MethodName) (⟨"java/lang/Object", "getClass", "()Ljava/lang/Class;"⟩ : MethodName)) ∈ TB := tb_of 395 (by decide +kernel) (by decide +kernel)
theorem t_396 : (Jvm.Cond.selects "java/lang/IllegalArgumentException" (⟨"java/lang/Object", "getClass", "()Ljava/lang/Class;"⟩ : MethodName) (⟨"java/lang/Object", "getClass", "()Ljava/lang/Class;"⟩ : MethodName)) ∈ TB := tb_of 396 (by decide +kernel) (by decide +kernel)
theorem t_397 : (Jvm.Cond.selects "java/lang/IllegalStateException" (⟨"java/lang/Object", "getClass", "()Ljava/lang/Class;"⟩ : MethodName) (⟨"java/lang/Object", "getClass", "()Ljava/lang/Class;"⟩ : MethodName)) ∈ TB := tb_of 397 (by decide +kernel) (by decide +kernel)
theorem t_398 : (Jvm.Cond.selects "java/lang/UnsupportedOperationException" (⟨"java/lang/Object", "getClass", "()Ljava/lang/Class;"⟩ : MethodName) (⟨"java/lang/Object", "getClass", "()Ljava/lang/Class;"⟩ : MethodName)) ∈ TB := tb_of 398 (by decide +kernel) (by decide +kernel)
theorem t_399 : (Jvm.Cond.selects "java/util/ArrayList" (⟨"java/lang/Object", "getClass", "()Ljava/lang/Class;"⟩ : MethodName) (⟨"java/lang/Object", "getClass", "()Ljava/lang/Class;"⟩ : MethodName)) ∈ TB := tb_of 399 (by decide +kernel) (by decide +kernel)
theorem t_400 : (Jvm.Cond.selects "java/util/NoSuchElementException" (⟨"java/lang/Object", "getClass", "()Ljava/lang/Class;"⟩ : MethodName) (⟨"java/lang/Object", "getClass", "()Ljava/lang/Class;"⟩ : MethodName)) ∈ TB := tb_of 400 (by decide +kernel) (by decide +kernel)
theorem t_401 : (Jvm.Cond.native (⟨"java/lang/Object", "getClass", "()Ljava/lang/Class;"⟩ : MethodName)) ∈ TB := tb_of 401 (by decide +kernel) (by decide +kernel)
theorem t_402 : (Jvm.Cond.methodLink "java/util/Arrays" 300 (⟨"java/util/Arrays", "copyOf", "([Ljava/lang/Object;ILjava/lang/Class;)[Ljava/lang/Object;"⟩ : MethodName)) ∈ TB := tb_of 402 (by decide +kernel) (by decide +kernel)
theorem t_403 : (Jvm.Cond.static (⟨"java/util/Arrays", "copyOf", "([Ljava/lang/Object;ILjava/lang/Class;)[Ljava/lang/Object;"⟩ : MethodName)) ∈ TB := tb_of 403 (by decide +kernel) (by decide +kernel)
theorem t_404 : (Jvm.Cond.code (⟨"java/util/Arrays", "copyOf", "([Ljava/lang/Object;ILjava/lang/Class;)[Ljava/lang/Object;"⟩ : MethodName) prog_24_method_120_code 4 (Option.some (Jvm.ClassFile.FieldType.array (Jvm.ClassFile.FieldType.object "java/lang/Object")))) ∈ TB := tb_of 404 (by decide +kernel) (by decide +kernel)
theorem t_405 : (Jvm.Cond.classLink "java/util/Arrays" 110 "[Ljava/lang/Object;") ∈ TB := tb_of 405 (by decide +kernel) (by decide +kernel)
theorem t_407 : (Jvm.Cond.classLink "java/util/Arrays" 2 "java/lang/Object") ∈ TB := tb_of 407 (by decide +kernel) (by decide +kernel)
theorem t_408 : (Jvm.Cond.methodLink "java/util/Arrays" 304 (⟨"java/lang/Math", "min", "(II)I"⟩ : MethodName)) ∈ TB := tb_of 408 (by decide +kernel) (by decide +kernel)
theorem t_409 : (Jvm.Cond.static (⟨"java/lang/Math", "min", "(II)I"⟩ : MethodName)) ∈ TB := tb_of 409 (by decide +kernel) (by decide +kernel)
theorem t_410 : (Jvm.Cond.code (⟨"java/lang/Math", "min", "(II)I"⟩ : MethodName) prog_15_method_69_code 2 (Option.some Jvm.ClassFile.FieldType.int)) ∈ TB := tb_of 410 (by decide +kernel) (by decide +kernel)
theorem t_411 : (Jvm.Cond.methodLink "java/util/Arrays" 150 (⟨"java/lang/System", "arraycopy", "(Ljava/lang/Object;ILjava/lang/Object;II)V"⟩ : MethodName)) ∈ TB := tb_of 411 (by decide +kernel) (by decide +kernel)
theorem t_412 : (Jvm.Cond.static (⟨"java/lang/System", "arraycopy", "(Ljava/lang/Object;ILjava/lang/Object;II)V"⟩ : MethodName)) ∈ TB := tb_of 412 (by decide +kernel) (by decide +kernel)
theorem t_413 : (Jvm.Cond.native (⟨"java/lang/System", "arraycopy", "(Ljava/lang/Object;ILjava/lang/Object;II)V"⟩ : MethodName)) ∈ TB := tb_of 413 (by decide +kernel) (by decide +kernel)
theorem t_414 : (Jvm.Cond.methodLink "java/util/ArrayList" 79 (⟨"java/lang/Math", "max", "(II)I"⟩ : MethodName)) ∈ TB := tb_of 414 (by decide +kernel) (by decide +kernel)
theorem t_415 : (Jvm.Cond.classLink "java/util/ArrayList" 7 "java/lang/Object") ∈ TB := tb_of 415 (by decide +kernel) (by decide +kernel)
theorem t_416 : (Jvm.Cond.methodLink "PacketOrderLaw" 71 (⟨"PacketOrderLaw", "precincts", "(LPacketOrder;IIII)I"⟩ : MethodName)) ∈ TB := tb_of 416 (by decide +kernel) (by decide +kernel)
theorem t_417 : (Jvm.Cond.static (⟨"PacketOrderLaw", "precincts", "(LPacketOrder;IIII)I"⟩ : MethodName)) ∈ TB := tb_of 417 (by decide +kernel) (by decide +kernel)
theorem t_418 : (Jvm.Cond.codeWith (⟨"PacketOrderLaw", "precincts", "(LPacketOrder;IIII)I"⟩ : MethodName) method_5_code 6 (Option.some Jvm.ClassFile.FieldType.int) [(0, 9, 12, 24), (0, 9, 16, 13)]) ∈ TB := tb_of 418 (by decide +kernel) (by decide +kernel)
theorem t_419 : (Jvm.Cond.classLink "PacketOrderLaw" 24 "java/util/NoSuchElementException") ∈ TB := tb_of 419 (by decide +kernel) (by decide +kernel)
theorem t_420 : (Jvm.Cond.methodLink "PacketOrderLaw" 21 (⟨"PacketOrder", "precincts", "(IIII)V"⟩ : MethodName)) ∈ TB := tb_of 420 (by decide +kernel) (by decide +kernel)
theorem t_421 : (Jvm.Cond.instanceMethod (⟨"PacketOrder", "precincts", "(IIII)V"⟩ : MethodName)) ∈ TB := tb_of 421 (by decide +kernel) (by decide +kernel)
theorem t_422 : (Jvm.Cond.selects "PacketOrder" (⟨"PacketOrder", "precincts", "(IIII)V"⟩ : MethodName) (⟨"PacketOrder", "precincts", "(IIII)V"⟩ : MethodName)) ∈ TB := tb_of 422 (by decide +kernel) (by decide +kernel)
theorem t_423 : (Jvm.Cond.code (⟨"PacketOrder", "precincts", "(IIII)V"⟩ : MethodName) prog_1_method_4_code 7 (Option.none : Option Jvm.ClassFile.FieldType)) ∈ TB := tb_of 423 (by decide +kernel) (by decide +kernel)
theorem t_424 : (Jvm.Cond.methodLink "PacketOrder" 93 (⟨"PacketOrder", "levelOf", "(II)LPacketOrder$Level;"⟩ : MethodName)) ∈ TB := tb_of 424 (by decide +kernel) (by decide +kernel)
theorem t_426 : (Jvm.Cond.instanceMethod (⟨"PacketOrder", "levelOf", "(II)LPacketOrder$Level;"⟩ : MethodName)) ∈ TB := tb_of 426 (by decide +kernel) (by decide +kernel)
theorem t_427 : (Jvm.Cond.code (⟨"PacketOrder", "levelOf", "(II)LPacketOrder$Level;"⟩ : MethodName) prog_1_method_14_code 4 (Option.some (Jvm.ClassFile.FieldType.object "PacketOrder$Level"))) ∈ TB := tb_of 427 (by decide +kernel) (by decide +kernel)
theorem t_428 : (Jvm.Cond.methodLink "PacketOrder" 196 (⟨"java/util/ArrayList", "get", "(I)Ljava/lang/Object;"⟩ : MethodName)) ∈ TB := tb_of 428 (by decide +kernel) (by decide +kernel)
theorem t_429 : (Jvm.Cond.instanceMethod (⟨"java/util/ArrayList", "get", "(I)Ljava/lang/Object;"⟩ : MethodName)) ∈ TB := tb_of 429 (by decide +kernel) (by decide +kernel)
theorem t_430 : (Jvm.Cond.selects "java/util/ArrayList" (⟨"java/util/ArrayList", "get", "(I)Ljava/lang/Object;"⟩ : MethodName) (⟨"java/util/ArrayList", "get", "(I)Ljava/lang/Object;"⟩ : MethodName)) ∈ TB := tb_of 430 (by decide +kernel) (by decide +kernel)
theorem t_431 : (Jvm.Cond.code (⟨"java/util/ArrayList", "get", "(I)Ljava/lang/Object;"⟩ : MethodName) prog_23_method_20_code 2 (Option.some (Jvm.ClassFile.FieldType.object "java/lang/Object"))) ∈ TB := tb_of 431 (by decide +kernel) (by decide +kernel)
theorem t_432 : (Jvm.Cond.methodLink "java/util/ArrayList" 118 (⟨"java/util/Objects", "checkIndex", "(II)I"⟩ : MethodName)) ∈ TB := tb_of 432 (by decide +kernel) (by decide +kernel)
theorem t_433 : (Jvm.Cond.static (⟨"java/util/Objects", "checkIndex", "(II)I"⟩ : MethodName)) ∈ TB := tb_of 433 (by decide +kernel) (by decide +kernel)
theorem t_434 : (Jvm.Cond.code (⟨"java/util/Objects", "checkIndex", "(II)I"⟩ : MethodName) prog_28_method_17_code 2 (Option.some Jvm.ClassFile.FieldType.int)) ∈ TB := tb_of 434 (by decide +kernel) (by decide +kernel)
theorem t_435 : (Jvm.Cond.methodLink "java/util/Objects" 105 (⟨"jdk/internal/util/Preconditions", "checkIndex", "(IILjava/util/function/BiFunction;)I"⟩ : MethodName)) ∈ TB := tb_of 435 (by decide +kernel) (by decide +kernel)
theorem t_436 : (Jvm.Cond.static (⟨"jdk/internal/util/Preconditions", "checkIndex", "(IILjava/util/function/BiFunction;)I"⟩ : MethodName)) ∈ TB := tb_of 436 (by decide +kernel) (by decide +kernel)
theorem t_437 : (Jvm.Cond.code (⟨"jdk/internal/util/Preconditions", "checkIndex", "(IILjava/util/function/BiFunction;)I"⟩ : MethodName) prog_32_method_11_code 3 (Option.some Jvm.ClassFile.FieldType.int)) ∈ TB := tb_of 437 (by decide +kernel) (by decide +kernel)
theorem t_438 : (Jvm.Cond.methodLink "java/util/ArrayList" 123 (⟨"java/util/ArrayList", "elementData", "(I)Ljava/lang/Object;"⟩ : MethodName)) ∈ TB := tb_of 438 (by decide +kernel) (by decide +kernel)
theorem t_439 : (Jvm.Cond.instanceMethod (⟨"java/util/ArrayList", "elementData", "(I)Ljava/lang/Object;"⟩ : MethodName)) ∈ TB := tb_of 439 (by decide +kernel) (by decide +kernel)
theorem t_440 : (Jvm.Cond.selects "java/util/ArrayList" (⟨"java/util/ArrayList", "elementData", "(I)Ljava/lang/Object;"⟩ : MethodName) (⟨"java/util/ArrayList", "elementData", "(I)Ljava/lang/Object;"⟩ : MethodName)) ∈ TB := tb_of 440 (by decide +kernel) (by decide +kernel)
theorem t_441 : (Jvm.Cond.code (⟨"java/util/ArrayList", "elementData", "(I)Ljava/lang/Object;"⟩ : MethodName) prog_23_method_18_code 2 (Option.some (Jvm.ClassFile.FieldType.object "java/lang/Object"))) ∈ TB := tb_of 441 (by decide +kernel) (by decide +kernel)
theorem t_442 : (Jvm.Cond.classLink "PacketOrder" 97 "java/util/NoSuchElementException") ∈ TB := tb_of 442 (by decide +kernel) (by decide +kernel)
theorem t_443 : (Jvm.Cond.instantiable "java/util/NoSuchElementException" 6) ∈ TB := tb_of 443 (by decide +kernel) (by decide +kernel)
theorem t_445 : (Jvm.Cond.selects "java/util/NoSuchElementException" (⟨"java/lang/Throwable", "fillInStackTrace", "(I)Ljava/lang/Throwable;"⟩ : MethodName) (⟨"java/lang/Throwable", "fillInStackTrace", "(I)Ljava/lang/Throwable;"⟩ : MethodName)) ∈ TB := tb_of 445 (by decide +kernel) (by decide +kernel)
theorem t_446 : (Jvm.Cond.lays "java/util/NoSuchElementException" "java/lang/Throwable" "cause" "Ljava/lang/Throwable;") ∈ TB := tb_of 446 (by decide +kernel) (by decide +kernel)
theorem t_447 : (Jvm.Cond.lays "java/util/NoSuchElementException" "java/lang/Throwable" "stackTrace" "[Ljava/lang/StackTraceElement;") ∈ TB := tb_of 447 (by decide +kernel) (by decide +kernel)
theorem t_448 : (Jvm.Cond.lays "java/util/NoSuchElementException" "java/lang/Throwable" "suppressedExceptions" "Ljava/util/List;") ∈ TB := tb_of 448 (by decide +kernel) (by decide +kernel)
theorem t_449 : (Jvm.Cond.lays "java/util/NoSuchElementException" "java/lang/Throwable" "detailMessage" "Ljava/lang/String;") ∈ TB := tb_of 449 (by decide +kernel) (by decide +kernel)
theorem t_450 : (Jvm.Cond.lays "java/util/NoSuchElementException" "java/lang/Throwable" "backtrace" "Ljava/lang/Object;") ∈ TB := tb_of 450 (by decide +kernel) (by decide +kernel)
theorem t_452 : (Jvm.Cond.methodLink "PacketOrder" 101 (⟨"java/util/NoSuchElementException", "<init>", "(Ljava/lang/String;)V"⟩ : MethodName)) ∈ TB := tb_of 452 (by decide +kernel) (by decide +kernel)
theorem t_453 : (Jvm.Cond.instanceMethod (⟨"java/util/NoSuchElementException", "<init>", "(Ljava/lang/String;)V"⟩ : MethodName)) ∈ TB := tb_of 453 (by decide +kernel) (by decide +kernel)
theorem t_454 : (Jvm.Cond.code (⟨"java/util/NoSuchElementException", "<init>", "(Ljava/lang/String;)V"⟩ : MethodName) prog_27_method_4_code 2 (Option.none : Option Jvm.ClassFile.FieldType)) ∈ TB := tb_of 454 (by decide +kernel) (by decide +kernel)
theorem t_455 : (Jvm.Cond.methodLink "java/util/NoSuchElementException" 13 (⟨"java/lang/RuntimeException", "<init>", "(Ljava/lang/String;)V"⟩ : MethodName)) ∈ TB := tb_of 455 (by decide +kernel) (by decide +kernel)
theorem t_456 : (Jvm.Cond.lays "java/util/NoSuchElementException" "java/lang/Throwable" "depth" "I") ∈ TB := tb_of 456 (by decide +kernel) (by decide +kernel)
theorem t_457 : (Jvm.Cond.superclass "java/util/NoSuchElementException" "java/lang/RuntimeException") ∈ TB := tb_of 457 (by decide +kernel) (by decide +kernel)
theorem t_459 : (Jvm.Cond.methodLink "PacketOrderLaw" 74 (⟨"PacketOrderLaw", "layers", "(LPacketOrder;II)I"⟩ : MethodName)) ∈ TB := tb_of 459 (by decide +kernel) (by decide +kernel)
theorem t_460 : (Jvm.Cond.static (⟨"PacketOrderLaw", "layers", "(LPacketOrder;II)I"⟩ : MethodName)) ∈ TB := tb_of 460 (by decide +kernel) (by decide +kernel)
theorem t_461 : (Jvm.Cond.codeWith (⟨"PacketOrderLaw", "layers", "(LPacketOrder;II)I"⟩ : MethodName) method_6_code 4 (Option.some Jvm.ClassFile.FieldType.int) [(0, 6, 9, 13)]) ∈ TB := tb_of 461 (by decide +kernel) (by decide +kernel)
theorem t_462 : (Jvm.Cond.methodLink "PacketOrderLaw" 26 (⟨"PacketOrder", "layers", "(II)V"⟩ : MethodName)) ∈ TB := tb_of 462 (by decide +kernel) (by decide +kernel)
theorem t_463 : (Jvm.Cond.instanceMethod (⟨"PacketOrder", "layers", "(II)V"⟩ : MethodName)) ∈ TB := tb_of 463 (by decide +kernel) (by decide +kernel)
theorem t_464 : (Jvm.Cond.selects "PacketOrder" (⟨"PacketOrder", "layers", "(II)V"⟩ : MethodName) (⟨"PacketOrder", "layers", "(II)V"⟩ : MethodName)) ∈ TB := tb_of 464 (by decide +kernel) (by decide +kernel)
theorem t_465 : (Jvm.Cond.code (⟨"PacketOrder", "layers", "(II)V"⟩ : MethodName) prog_1_method_5_code 3 (Option.none : Option Jvm.ClassFile.FieldType)) ∈ TB := tb_of 465 (by decide +kernel) (by decide +kernel)
theorem t_468 : (Jvm.Cond.methodLink "PacketOrderLaw" 78 (⟨"PacketOrderLaw", "change", "(LPacketOrder;IIIIII[J)I"⟩ : MethodName)) ∈ TB := tb_of 468 (by decide +kernel) (by decide +kernel)
theorem t_469 : (Jvm.Cond.static (⟨"PacketOrderLaw", "change", "(LPacketOrder;IIIIII[J)I"⟩ : MethodName)) ∈ TB := tb_of 469 (by decide +kernel) (by decide +kernel)
theorem t_470 : (Jvm.Cond.codeWith (⟨"PacketOrderLaw", "change", "(LPacketOrder;IIIIII[J)I"⟩ : MethodName) method_7_code 9 (Option.some Jvm.ClassFile.FieldType.int) [(0, 18, 21, 13), (0, 18, 25, 19)]) ∈ TB := tb_of 470 (by decide +kernel) (by decide +kernel)
theorem t_471 : (Jvm.Cond.methodLink "PacketOrderLaw" 30 (⟨"PacketOrder", "change", "(IIIIII)I"⟩ : MethodName)) ∈ TB := tb_of 471 (by decide +kernel) (by decide +kernel)
theorem t_472 : (Jvm.Cond.instanceMethod (⟨"PacketOrder", "change", "(IIIIII)I"⟩ : MethodName)) ∈ TB := tb_of 472 (by decide +kernel) (by decide +kernel)
theorem t_473 : (Jvm.Cond.selects "PacketOrder" (⟨"PacketOrder", "change", "(IIIIII)I"⟩ : MethodName) (⟨"PacketOrder", "change", "(IIIIII)I"⟩ : MethodName)) ∈ TB := tb_of 473 (by decide +kernel) (by decide +kernel)
theorem t_474 : (Jvm.Cond.code (⟨"PacketOrder", "change", "(IIIIII)I"⟩ : MethodName) prog_1_method_6_code 7 (Option.some Jvm.ClassFile.FieldType.int)) ∈ TB := tb_of 474 (by decide +kernel) (by decide +kernel)
theorem t_479 : (Jvm.Cond.methodLink "PacketOrderLaw" 86 (⟨"PacketOrderLaw", "begin", "(LPacketOrder;[J)I"⟩ : MethodName)) ∈ TB := tb_of 479 (by decide +kernel) (by decide +kernel)
theorem t_480 : (Jvm.Cond.static (⟨"PacketOrderLaw", "begin", "(LPacketOrder;[J)I"⟩ : MethodName)) ∈ TB := tb_of 480 (by decide +kernel) (by decide +kernel)
theorem t_481 : (Jvm.Cond.codeWith (⟨"PacketOrderLaw", "begin", "(LPacketOrder;[J)I"⟩ : MethodName) method_8_code 3 (Option.some Jvm.ClassFile.FieldType.int) [(0, 8, 11, 19), (0, 8, 14, 38)]) ∈ TB := tb_of 481 (by decide +kernel) (by decide +kernel)
theorem t_482 : (Jvm.Cond.classLink "PacketOrderLaw" 38 "java/lang/UnsupportedOperationException") ∈ TB := tb_of 482 (by decide +kernel) (by decide +kernel)
theorem t_483 : (Jvm.Cond.methodLink "PacketOrderLaw" 34 (⟨"PacketOrder", "begin", "()I"⟩ : MethodName)) ∈ TB := tb_of 483 (by decide +kernel) (by decide +kernel)
theorem t_484 : (Jvm.Cond.instanceMethod (⟨"PacketOrder", "begin", "()I"⟩ : MethodName)) ∈ TB := tb_of 484 (by decide +kernel) (by decide +kernel)
theorem t_485 : (Jvm.Cond.selects "PacketOrder" (⟨"PacketOrder", "begin", "()I"⟩ : MethodName) (⟨"PacketOrder", "begin", "()I"⟩ : MethodName)) ∈ TB := tb_of 485 (by decide +kernel) (by decide +kernel)
theorem t_486 : (Jvm.Cond.code (⟨"PacketOrder", "begin", "()I"⟩ : MethodName) prog_1_method_8_code 3 (Option.some Jvm.ClassFile.FieldType.int)) ∈ TB := tb_of 486 (by decide +kernel) (by decide +kernel)
theorem t_487 : (Jvm.Cond.methodLink "PacketOrder" 133 (⟨"java/util/ArrayList", "isEmpty", "()Z"⟩ : MethodName)) ∈ TB := tb_of 487 (by decide +kernel) (by decide +kernel)
theorem t_488 : (Jvm.Cond.instanceMethod (⟨"java/util/ArrayList", "isEmpty", "()Z"⟩ : MethodName)) ∈ TB := tb_of 488 (by decide +kernel) (by decide +kernel)
theorem t_489 : (Jvm.Cond.selects "java/util/ArrayList" (⟨"java/util/ArrayList", "isEmpty", "()Z"⟩ : MethodName) (⟨"java/util/ArrayList", "isEmpty", "()Z"⟩ : MethodName)) ∈ TB := tb_of 489 (by decide +kernel) (by decide +kernel)
theorem t_490 : (Jvm.Cond.code (⟨"java/util/ArrayList", "isEmpty", "()Z"⟩ : MethodName) prog_23_method_9_code 1 (Option.some Jvm.ClassFile.FieldType.boolean)) ∈ TB := tb_of 490 (by decide +kernel) (by decide +kernel)
theorem t_492 : (Jvm.Cond.methodLink "PacketOrder" 139 (⟨"PacketOrder", "measureLevels", "()J"⟩ : MethodName)) ∈ TB := tb_of 492 (by decide +kernel) (by decide +kernel)
theorem t_494 : (Jvm.Cond.instanceMethod (⟨"PacketOrder", "measureLevels", "()J"⟩ : MethodName)) ∈ TB := tb_of 494 (by decide +kernel) (by decide +kernel)
theorem t_495 : (Jvm.Cond.code (⟨"PacketOrder", "measureLevels", "()J"⟩ : MethodName) prog_1_method_16_code 6 (Option.some Jvm.ClassFile.FieldType.long)) ∈ TB := tb_of 495 (by decide +kernel) (by decide +kernel)
theorem t_496 : (Jvm.Cond.methodLink "PacketOrder" 208 (⟨"PacketOrder$Span", "measure", "(II)V"⟩ : MethodName)) ∈ TB := tb_of 496 (by decide +kernel) (by decide +kernel)
theorem t_497 : (Jvm.Cond.instanceMethod (⟨"PacketOrder$Span", "measure", "(II)V"⟩ : MethodName)) ∈ TB := tb_of 497 (by decide +kernel) (by decide +kernel)
theorem t_498 : (Jvm.Cond.selects "PacketOrder$Span" (⟨"PacketOrder$Span", "measure", "(II)V"⟩ : MethodName) (⟨"PacketOrder$Span", "measure", "(II)V"⟩ : MethodName)) ∈ TB := tb_of 498 (by decide +kernel) (by decide +kernel)
theorem t_499 : (Jvm.Cond.code (⟨"PacketOrder$Span", "measure", "(II)V"⟩ : MethodName) prog_6_method_2_code 7 (Option.none : Option Jvm.ClassFile.FieldType)) ∈ TB := tb_of 499 (by decide +kernel) (by decide +kernel)
theorem t_500 : (Jvm.Cond.methodLink "PacketOrder$Span" 27 (⟨"PacketOrder$Span", "onLevel", "(I)J"⟩ : MethodName)) ∈ TB := tb_of 500 (by decide +kernel) (by decide +kernel)
theorem t_502 : (Jvm.Cond.instanceMethod (⟨"PacketOrder$Span", "onLevel", "(I)J"⟩ : MethodName)) ∈ TB := tb_of 502 (by decide +kernel) (by decide +kernel)
theorem t_503 : (Jvm.Cond.code (⟨"PacketOrder$Span", "onLevel", "(I)J"⟩ : MethodName) prog_6_method_3_code 4 (Option.some Jvm.ClassFile.FieldType.long)) ∈ TB := tb_of 503 (by decide +kernel) (by decide +kernel)
theorem t_504 : (Jvm.Cond.constantLong "PacketOrder" 143 (4096 : Int64)) ∈ TB := tb_of 504 (by decide +kernel) (by decide +kernel)
theorem t_505 : (Jvm.Cond.methodLink "PacketOrder" 212 (⟨"java/lang/Math", "min", "(JJ)J"⟩ : MethodName)) ∈ TB := tb_of 505 (by decide +kernel) (by decide +kernel)
theorem t_506 : (Jvm.Cond.static (⟨"java/lang/Math", "min", "(JJ)J"⟩ : MethodName)) ∈ TB := tb_of 506 (by decide +kernel) (by decide +kernel)
theorem t_507 : (Jvm.Cond.code (⟨"java/lang/Math", "min", "(JJ)J"⟩ : MethodName) prog_15_method_70_code 4 (Option.some Jvm.ClassFile.FieldType.long)) ∈ TB := tb_of 507 (by decide +kernel) (by decide +kernel)
theorem t_508 : (Jvm.Cond.methodLink "PacketOrder" 191 (⟨"PacketOrder$Level", "precinctCount", "()I"⟩ : MethodName)) ∈ TB := tb_of 508 (by decide +kernel) (by decide +kernel)
theorem t_509 : (Jvm.Cond.instanceMethod (⟨"PacketOrder$Level", "precinctCount", "()I"⟩ : MethodName)) ∈ TB := tb_of 509 (by decide +kernel) (by decide +kernel)
theorem t_510 : (Jvm.Cond.selects "PacketOrder$Level" (⟨"PacketOrder$Level", "precinctCount", "()I"⟩ : MethodName) (⟨"PacketOrder$Level", "precinctCount", "()I"⟩ : MethodName)) ∈ TB := tb_of 510 (by decide +kernel) (by decide +kernel)
theorem t_511 : (Jvm.Cond.code (⟨"PacketOrder$Level", "precinctCount", "()I"⟩ : MethodName) prog_4_method_2_code 1 (Option.some Jvm.ClassFile.FieldType.int)) ∈ TB := tb_of 511 (by decide +kernel) (by decide +kernel)
theorem t_512 : (Jvm.Cond.classLink "PacketOrder" 145 "java/lang/UnsupportedOperationException") ∈ TB := tb_of 512 (by decide +kernel) (by decide +kernel)
theorem t_513 : (Jvm.Cond.instantiable "java/lang/UnsupportedOperationException" 6) ∈ TB := tb_of 513 (by decide +kernel) (by decide +kernel)
theorem t_515 : (Jvm.Cond.selects "java/lang/UnsupportedOperationException" (⟨"java/lang/Throwable", "fillInStackTrace", "(I)Ljava/lang/Throwable;"⟩ : MethodName) (⟨"java/lang/Throwable", "fillInStackTrace", "(I)Ljava/lang/Throwable;"⟩ : MethodName)) ∈ TB := tb_of 515 (by decide +kernel) (by decide +kernel)
theorem t_516 : (Jvm.Cond.lays "java/lang/UnsupportedOperationException" "java/lang/Throwable" "cause" "Ljava/lang/Throwable;") ∈ TB := tb_of 516 (by decide +kernel) (by decide +kernel)
theorem t_517 : (Jvm.Cond.lays "java/lang/UnsupportedOperationException" "java/lang/Throwable" "stackTrace" "[Ljava/lang/StackTraceElement;") ∈ TB := tb_of 517 (by decide +kernel) (by decide +kernel)
theorem t_518 : (Jvm.Cond.lays "java/lang/UnsupportedOperationException" "java/lang/Throwable" "suppressedExceptions" "Ljava/util/List;") ∈ TB := tb_of 518 (by decide +kernel) (by decide +kernel)
theorem t_519 : (Jvm.Cond.lays "java/lang/UnsupportedOperationException" "java/lang/Throwable" "detailMessage" "Ljava/lang/String;") ∈ TB := tb_of 519 (by decide +kernel) (by decide +kernel)
theorem t_520 : (Jvm.Cond.lays "java/lang/UnsupportedOperationException" "java/lang/Throwable" "backtrace" "Ljava/lang/Object;") ∈ TB := tb_of 520 (by decide +kernel) (by decide +kernel)
theorem t_522 : (Jvm.Cond.methodLink "PacketOrder" 149 (⟨"java/lang/UnsupportedOperationException", "<init>", "(Ljava/lang/String;)V"⟩ : MethodName)) ∈ TB := tb_of 522 (by decide +kernel) (by decide +kernel)
theorem t_523 : (Jvm.Cond.instanceMethod (⟨"java/lang/UnsupportedOperationException", "<init>", "(Ljava/lang/String;)V"⟩ : MethodName)) ∈ TB := tb_of 523 (by decide +kernel) (by decide +kernel)
theorem t_524 : (Jvm.Cond.code (⟨"java/lang/UnsupportedOperationException", "<init>", "(Ljava/lang/String;)V"⟩ : MethodName) prog_20_method_2_code 2 (Option.none : Option Jvm.ClassFile.FieldType)) ∈ TB := tb_of 524 (by decide +kernel) (by decide +kernel)
theorem t_525 : (Jvm.Cond.methodLink "java/lang/UnsupportedOperationException" 7 (⟨"java/lang/RuntimeException", "<init>", "(Ljava/lang/String;)V"⟩ : MethodName)) ∈ TB := tb_of 525 (by decide +kernel) (by decide +kernel)
theorem t_526 : (Jvm.Cond.lays "java/lang/UnsupportedOperationException" "java/lang/Throwable" "depth" "I") ∈ TB := tb_of 526 (by decide +kernel) (by decide +kernel)
theorem t_527 : (Jvm.Cond.superclass "java/lang/UnsupportedOperationException" "java/lang/RuntimeException") ∈ TB := tb_of 527 (by decide +kernel) (by decide +kernel)
theorem t_528 : (Jvm.Cond.methodLink "PacketOrder" 150 (⟨"PacketOrder$Row", "restart", "(I)V"⟩ : MethodName)) ∈ TB := tb_of 528 (by decide +kernel) (by decide +kernel)
theorem t_529 : (Jvm.Cond.instanceMethod (⟨"PacketOrder$Row", "restart", "(I)V"⟩ : MethodName)) ∈ TB := tb_of 529 (by decide +kernel) (by decide +kernel)
theorem t_530 : (Jvm.Cond.selects "PacketOrder$Row" (⟨"PacketOrder$Row", "restart", "(I)V"⟩ : MethodName) (⟨"PacketOrder$Row", "restart", "(I)V"⟩ : MethodName)) ∈ TB := tb_of 530 (by decide +kernel) (by decide +kernel)
theorem t_531 : (Jvm.Cond.code (⟨"PacketOrder$Row", "restart", "(I)V"⟩ : MethodName) prog_5_method_2_code 2 (Option.none : Option Jvm.ClassFile.FieldType)) ∈ TB := tb_of 531 (by decide +kernel) (by decide +kernel)
theorem t_532 : (Jvm.Cond.methodLink "PacketOrder$Row" 26 (⟨"java/util/Arrays", "fill", "([II)V"⟩ : MethodName)) ∈ TB := tb_of 532 (by decide +kernel) (by decide +kernel)
theorem t_533 : (Jvm.Cond.static (⟨"java/util/Arrays", "fill", "([II)V"⟩ : MethodName)) ∈ TB := tb_of 533 (by decide +kernel) (by decide +kernel)
theorem t_534 : (Jvm.Cond.code (⟨"java/util/Arrays", "fill", "([II)V"⟩ : MethodName) prog_24_method_103_code 4 (Option.none : Option Jvm.ClassFile.FieldType)) ∈ TB := tb_of 534 (by decide +kernel) (by decide +kernel)
theorem t_535 : (Jvm.Cond.methodLink "PacketOrder$Row" 32 (⟨"PacketOrder$Row", "empty", "(I)V"⟩ : MethodName)) ∈ TB := tb_of 535 (by decide +kernel) (by decide +kernel)
theorem t_536 : (Jvm.Cond.instanceMethod (⟨"PacketOrder$Row", "empty", "(I)V"⟩ : MethodName)) ∈ TB := tb_of 536 (by decide +kernel) (by decide +kernel)
theorem t_537 : (Jvm.Cond.selects "PacketOrder$Row" (⟨"PacketOrder$Row", "empty", "(I)V"⟩ : MethodName) (⟨"PacketOrder$Row", "empty", "(I)V"⟩ : MethodName)) ∈ TB := tb_of 537 (by decide +kernel) (by decide +kernel)
theorem t_538 : (Jvm.Cond.code (⟨"PacketOrder$Row", "empty", "(I)V"⟩ : MethodName) prog_5_method_3_code 2 (Option.none : Option Jvm.ClassFile.FieldType)) ∈ TB := tb_of 538 (by decide +kernel) (by decide +kernel)
theorem t_539 : (Jvm.Cond.methodLink "PacketOrder$Row" 36 (⟨"PacketOrder$Row", "openGroup", "(I)V"⟩ : MethodName)) ∈ TB := tb_of 539 (by decide +kernel) (by decide +kernel)
theorem t_541 : (Jvm.Cond.instanceMethod (⟨"PacketOrder$Row", "openGroup", "(I)V"⟩ : MethodName)) ∈ TB := tb_of 541 (by decide +kernel) (by decide +kernel)
theorem t_542 : (Jvm.Cond.code (⟨"PacketOrder$Row", "openGroup", "(I)V"⟩ : MethodName) prog_5_method_9_code 2 (Option.none : Option Jvm.ClassFile.FieldType)) ∈ TB := tb_of 542 (by decide +kernel) (by decide +kernel)
theorem t_543 : (Jvm.Cond.methodLink "PacketOrder$Row" 69 (⟨"PacketOrder$Row", "precinctAt", "(I)I"⟩ : MethodName)) ∈ TB := tb_of 543 (by decide +kernel) (by decide +kernel)
theorem t_545 : (Jvm.Cond.instanceMethod (⟨"PacketOrder$Row", "precinctAt", "(I)I"⟩ : MethodName)) ∈ TB := tb_of 545 (by decide +kernel) (by decide +kernel)
theorem t_546 : (Jvm.Cond.code (⟨"PacketOrder$Row", "precinctAt", "(I)I"⟩ : MethodName) prog_5_method_8_code 2 (Option.some Jvm.ClassFile.FieldType.int)) ∈ TB := tb_of 546 (by decide +kernel) (by decide +kernel)
theorem t_547 : (Jvm.Cond.constantLong "PacketOrder$Row" 61 (4095 : Int64)) ∈ TB := tb_of 547 (by decide +kernel) (by decide +kernel)
theorem t_548 : (Jvm.Cond.methodLink "PacketOrder$Row" 72 (⟨"java/lang/Math", "min", "(II)I"⟩ : MethodName)) ∈ TB := tb_of 548 (by decide +kernel) (by decide +kernel)
theorem t_549 : (Jvm.Cond.methodLink "PacketOrderLaw" 90 (⟨"PacketOrderLaw", "next", "(LPacketOrder;[J)I"⟩ : MethodName)) ∈ TB := tb_of 549 (by decide +kernel) (by decide +kernel)
theorem t_550 : (Jvm.Cond.static (⟨"PacketOrderLaw", "next", "(LPacketOrder;[J)I"⟩ : MethodName)) ∈ TB := tb_of 550 (by decide +kernel) (by decide +kernel)
theorem t_551 : (Jvm.Cond.codeWith (⟨"PacketOrderLaw", "next", "(LPacketOrder;[J)I"⟩ : MethodName) method_9_code 3 (Option.some Jvm.ClassFile.FieldType.int) [(0, 15, 18, 19)]) ∈ TB := tb_of 551 (by decide +kernel) (by decide +kernel)
theorem t_552 : (Jvm.Cond.methodLink "PacketOrderLaw" 40 (⟨"PacketOrder", "next", "()Z"⟩ : MethodName)) ∈ TB := tb_of 552 (by decide +kernel) (by decide +kernel)
theorem t_553 : (Jvm.Cond.instanceMethod (⟨"PacketOrder", "next", "()Z"⟩ : MethodName)) ∈ TB := tb_of 553 (by decide +kernel) (by decide +kernel)
theorem t_554 : (Jvm.Cond.selects "PacketOrder" (⟨"PacketOrder", "next", "()Z"⟩ : MethodName) (⟨"PacketOrder", "next", "()Z"⟩ : MethodName)) ∈ TB := tb_of 554 (by decide +kernel) (by decide +kernel)
theorem t_555 : (Jvm.Cond.code (⟨"PacketOrder", "next", "()Z"⟩ : MethodName) prog_1_method_9_code 1 (Option.some Jvm.ClassFile.FieldType.boolean)) ∈ TB := tb_of 555 (by decide +kernel) (by decide +kernel)
theorem t_557 : (Jvm.Cond.methodLink "PacketOrder" 162 (⟨"PacketOrder", "takePackets", "(I)I"⟩ : MethodName)) ∈ TB := tb_of 557 (by decide +kernel) (by decide +kernel)
theorem t_559 : (Jvm.Cond.instanceMethod (⟨"PacketOrder", "takePackets", "(I)I"⟩ : MethodName)) ∈ TB := tb_of 559 (by decide +kernel) (by decide +kernel)
theorem t_560 : (Jvm.Cond.code (⟨"PacketOrder", "takePackets", "(I)I"⟩ : MethodName) prog_1_method_17_code 4 (Option.some Jvm.ClassFile.FieldType.int)) ∈ TB := tb_of 560 (by decide +kernel) (by decide +kernel)
theorem t_561 : (Jvm.Cond.methodLink "PacketOrder" 218 (⟨"PacketOrder$Row", "take", "(I)I"⟩ : MethodName)) ∈ TB := tb_of 561 (by decide +kernel) (by decide +kernel)
theorem t_562 : (Jvm.Cond.instanceMethod (⟨"PacketOrder$Row", "take", "(I)I"⟩ : MethodName)) ∈ TB := tb_of 562 (by decide +kernel) (by decide +kernel)
theorem t_563 : (Jvm.Cond.selects "PacketOrder$Row" (⟨"PacketOrder$Row", "take", "(I)I"⟩ : MethodName) (⟨"PacketOrder$Row", "take", "(I)I"⟩ : MethodName)) ∈ TB := tb_of 563 (by decide +kernel) (by decide +kernel)
theorem t_564 : (Jvm.Cond.code (⟨"PacketOrder$Row", "take", "(I)I"⟩ : MethodName) prog_5_method_7_code 3 (Option.some Jvm.ClassFile.FieldType.int)) ∈ TB := tb_of 564 (by decide +kernel) (by decide +kernel)
theorem t_565 : (Jvm.Cond.methodLink "PacketOrder$Row" 55 (⟨"PacketOrder$Row", "takeOfGroup", "(I)I"⟩ : MethodName)) ∈ TB := tb_of 565 (by decide +kernel) (by decide +kernel)
theorem t_567 : (Jvm.Cond.instanceMethod (⟨"PacketOrder$Row", "takeOfGroup", "(I)I"⟩ : MethodName)) ∈ TB := tb_of 567 (by decide +kernel) (by decide +kernel)
theorem t_568 : (Jvm.Cond.code (⟨"PacketOrder$Row", "takeOfGroup", "(I)I"⟩ : MethodName) prog_5_method_10_code 3 (Option.some Jvm.ClassFile.FieldType.int)) ∈ TB := tb_of 568 (by decide +kernel) (by decide +kernel)
theorem t_569 : (Jvm.Cond.methodLink "PacketOrder$Row" 78 (⟨"PacketOrder$Row", "takeWholeLayers", "(I)I"⟩ : MethodName)) ∈ TB := tb_of 569 (by decide +kernel) (by decide +kernel)
theorem t_571 : (Jvm.Cond.instanceMethod (⟨"PacketOrder$Row", "takeWholeLayers", "(I)I"⟩ : MethodName)) ∈ TB := tb_of 571 (by decide +kernel) (by decide +kernel)
theorem t_572 : (Jvm.Cond.code (⟨"PacketOrder$Row", "takeWholeLayers", "(I)I"⟩ : MethodName) prog_5_method_12_code 7 (Option.some Jvm.ClassFile.FieldType.int)) ∈ TB := tb_of 572 (by decide +kernel) (by decide +kernel)
theorem t_573 : (Jvm.Cond.methodLink "PacketOrder$Row" 84 (⟨"PacketOrder$Row", "packetsBefore", "(I)I"⟩ : MethodName)) ∈ TB := tb_of 573 (by decide +kernel) (by decide +kernel)
theorem t_575 : (Jvm.Cond.instanceMethod (⟨"PacketOrder$Row", "packetsBefore", "(I)I"⟩ : MethodName)) ∈ TB := tb_of 575 (by decide +kernel) (by decide +kernel)
theorem t_576 : (Jvm.Cond.code (⟨"PacketOrder$Row", "packetsBefore", "(I)I"⟩ : MethodName) prog_5_method_13_code 4 (Option.some Jvm.ClassFile.FieldType.int)) ∈ TB := tb_of 576 (by decide +kernel) (by decide +kernel)
theorem t_577 : (Jvm.Cond.methodLink "PacketOrder$Row" 87 (⟨"java/lang/Math", "max", "(II)I"⟩ : MethodName)) ∈ TB := tb_of 577 (by decide +kernel) (by decide +kernel)
theorem t_578 : (Jvm.Cond.methodLink "PacketOrder$Row" 81 (⟨"PacketOrder$Row", "takeOfLayer", "(I)I"⟩ : MethodName)) ∈ TB := tb_of 578 (by decide +kernel) (by decide +kernel)
theorem t_580 : (Jvm.Cond.instanceMethod (⟨"PacketOrder$Row", "takeOfLayer", "(I)I"⟩ : MethodName)) ∈ TB := tb_of 580 (by decide +kernel) (by decide +kernel)
theorem t_581 : (Jvm.Cond.code (⟨"PacketOrder$Row", "takeOfLayer", "(I)I"⟩ : MethodName) prog_5_method_11_code 4 (Option.some Jvm.ClassFile.FieldType.int)) ∈ TB := tb_of 581 (by decide +kernel) (by decide +kernel)
theorem t_582 : (Jvm.Cond.methodLink "PacketOrder" 221 (⟨"java/lang/Math", "max", "(II)I"⟩ : MethodName)) ∈ TB := tb_of 582 (by decide +kernel) (by decide +kernel)
theorem t_583 : (Jvm.Cond.methodLink "PacketOrder" 225 (⟨"PacketOrder", "fillRow", "(LPacketOrder$Change;)V"⟩ : MethodName)) ∈ TB := tb_of 583 (by decide +kernel) (by decide +kernel)
theorem t_585 : (Jvm.Cond.instanceMethod (⟨"PacketOrder", "fillRow", "(LPacketOrder$Change;)V"⟩ : MethodName)) ∈ TB := tb_of 585 (by decide +kernel) (by decide +kernel)
theorem t_586 : (Jvm.Cond.code (⟨"PacketOrder", "fillRow", "(LPacketOrder$Change;)V"⟩ : MethodName) prog_1_method_18_code 6 (Option.none : Option Jvm.ClassFile.FieldType)) ∈ TB := tb_of 586 (by decide +kernel) (by decide +kernel)
theorem t_587 : (Jvm.Cond.methodLink "PacketOrder" 234 (⟨"java/lang/Math", "min", "(II)I"⟩ : MethodName)) ∈ TB := tb_of 587 (by decide +kernel) (by decide +kernel)
theorem t_588 : (Jvm.Cond.methodLink "PacketOrder" 236 (⟨"PacketOrder$Row", "empty", "(I)V"⟩ : MethodName)) ∈ TB := tb_of 588 (by decide +kernel) (by decide +kernel)
theorem t_589 : (Jvm.Cond.methodLink "PacketOrder" 254 (⟨"PacketOrder", "enlist", "(LPacketOrder$Level;I)V"⟩ : MethodName)) ∈ TB := tb_of 589 (by decide +kernel) (by decide +kernel)
theorem t_591 : (Jvm.Cond.instanceMethod (⟨"PacketOrder", "enlist", "(LPacketOrder$Level;I)V"⟩ : MethodName)) ∈ TB := tb_of 591 (by decide +kernel) (by decide +kernel)
theorem t_592 : (Jvm.Cond.code (⟨"PacketOrder", "enlist", "(LPacketOrder$Level;I)V"⟩ : MethodName) prog_1_method_19_code 8 (Option.none : Option Jvm.ClassFile.FieldType)) ∈ TB := tb_of 592 (by decide +kernel) (by decide +kernel)
theorem t_593 : (Jvm.Cond.methodLink "PacketOrder" 264 (⟨"PacketOrder$Span", "place", "(I)I"⟩ : MethodName)) ∈ TB := tb_of 593 (by decide +kernel) (by decide +kernel)
theorem t_594 : (Jvm.Cond.instanceMethod (⟨"PacketOrder$Span", "place", "(I)I"⟩ : MethodName)) ∈ TB := tb_of 594 (by decide +kernel) (by decide +kernel)
theorem t_595 : (Jvm.Cond.selects "PacketOrder$Span" (⟨"PacketOrder$Span", "place", "(I)I"⟩ : MethodName) (⟨"PacketOrder$Span", "place", "(I)I"⟩ : MethodName)) ∈ TB := tb_of 595 (by decide +kernel) (by decide +kernel)
theorem t_596 : (Jvm.Cond.code (⟨"PacketOrder$Span", "place", "(I)I"⟩ : MethodName) prog_6_method_4_code 4 (Option.some Jvm.ClassFile.FieldType.int)) ∈ TB := tb_of 596 (by decide +kernel) (by decide +kernel)
theorem t_597 : (Jvm.Cond.methodLink "PacketOrder$Span" 40 (⟨"java/lang/Math", "max", "(JJ)J"⟩ : MethodName)) ∈ TB := tb_of 597 (by decide +kernel) (by decide +kernel)
theorem t_598 : (Jvm.Cond.static (⟨"java/lang/Math", "max", "(JJ)J"⟩ : MethodName)) ∈ TB := tb_of 598 (by decide +kernel) (by decide +kernel)
theorem t_599 : (Jvm.Cond.code (⟨"java/lang/Math", "max", "(JJ)J"⟩ : MethodName) prog_15_method_66_code 4 (Option.some Jvm.ClassFile.FieldType.long)) ∈ TB := tb_of 599 (by decide +kernel) (by decide +kernel)
theorem t_600 : (Jvm.Cond.methodLink "PacketOrder" 267 (⟨"PacketOrder$Level", "rank", "(IJ)J"⟩ : MethodName)) ∈ TB := tb_of 600 (by decide +kernel) (by decide +kernel)
theorem t_601 : (Jvm.Cond.instanceMethod (⟨"PacketOrder$Level", "rank", "(IJ)J"⟩ : MethodName)) ∈ TB := tb_of 601 (by decide +kernel) (by decide +kernel)
theorem t_602 : (Jvm.Cond.selects "PacketOrder$Level" (⟨"PacketOrder$Level", "rank", "(IJ)J"⟩ : MethodName) (⟨"PacketOrder$Level", "rank", "(IJ)J"⟩ : MethodName)) ∈ TB := tb_of 602 (by decide +kernel) (by decide +kernel)
theorem t_603 : (Jvm.Cond.code (⟨"PacketOrder$Level", "rank", "(IJ)J"⟩ : MethodName) prog_4_method_4_code 8 (Option.some Jvm.ClassFile.FieldType.long)) ∈ TB := tb_of 603 (by decide +kernel) (by decide +kernel)
theorem t_604 : (Jvm.Cond.methodLink "PacketOrder" 271 (⟨"PacketOrder$Row", "add", "(JI)V"⟩ : MethodName)) ∈ TB := tb_of 604 (by decide +kernel) (by decide +kernel)
theorem t_605 : (Jvm.Cond.instanceMethod (⟨"PacketOrder$Row", "add", "(JI)V"⟩ : MethodName)) ∈ TB := tb_of 605 (by decide +kernel) (by decide +kernel)
theorem t_606 : (Jvm.Cond.selects "PacketOrder$Row" (⟨"PacketOrder$Row", "add", "(JI)V"⟩ : MethodName) (⟨"PacketOrder$Row", "add", "(JI)V"⟩ : MethodName)) ∈ TB := tb_of 606 (by decide +kernel) (by decide +kernel)
theorem t_607 : (Jvm.Cond.code (⟨"PacketOrder$Row", "add", "(JI)V"⟩ : MethodName) prog_5_method_5_code 4 (Option.none : Option Jvm.ClassFile.FieldType)) ∈ TB := tb_of 607 (by decide +kernel) (by decide +kernel)
theorem t_608 : (Jvm.Cond.methodLink "PacketOrder$Row" 45 (⟨"PacketOrder$Row", "comeOf", "(I)I"⟩ : MethodName)) ∈ TB := tb_of 608 (by decide +kernel) (by decide +kernel)
theorem t_609 : (Jvm.Cond.instanceMethod (⟨"PacketOrder$Row", "comeOf", "(I)I"⟩ : MethodName)) ∈ TB := tb_of 609 (by decide +kernel) (by decide +kernel)
theorem t_610 : (Jvm.Cond.selects "PacketOrder$Row" (⟨"PacketOrder$Row", "comeOf", "(I)I"⟩ : MethodName) (⟨"PacketOrder$Row", "comeOf", "(I)I"⟩ : MethodName)) ∈ TB := tb_of 610 (by decide +kernel) (by decide +kernel)
theorem t_611 : (Jvm.Cond.code (⟨"PacketOrder$Row", "comeOf", "(I)I"⟩ : MethodName) prog_5_method_4_code 2 (Option.some Jvm.ClassFile.FieldType.int)) ∈ TB := tb_of 611 (by decide +kernel) (by decide +kernel)
theorem t_612 : (Jvm.Cond.methodLink "PacketOrder" 258 (⟨"PacketOrder$Row", "arrange", "()V"⟩ : MethodName)) ∈ TB := tb_of 612 (by decide +kernel) (by decide +kernel)
theorem t_613 : (Jvm.Cond.instanceMethod (⟨"PacketOrder$Row", "arrange", "()V"⟩ : MethodName)) ∈ TB := tb_of 613 (by decide +kernel) (by decide +kernel)
theorem t_614 : (Jvm.Cond.selects "PacketOrder$Row" (⟨"PacketOrder$Row", "arrange", "()V"⟩ : MethodName) (⟨"PacketOrder$Row", "arrange", "()V"⟩ : MethodName)) ∈ TB := tb_of 614 (by decide +kernel) (by decide +kernel)
theorem t_615 : (Jvm.Cond.code (⟨"PacketOrder$Row", "arrange", "()V"⟩ : MethodName) prog_5_method_6_code 1 (Option.none : Option Jvm.ClassFile.FieldType)) ∈ TB := tb_of 615 (by decide +kernel) (by decide +kernel)
theorem t_616 : (Jvm.Cond.methodLink "PacketOrder$Row" 49 (⟨"PacketOrder$Row", "sort", "()V"⟩ : MethodName)) ∈ TB := tb_of 616 (by decide +kernel) (by decide +kernel)
theorem t_618 : (Jvm.Cond.instanceMethod (⟨"PacketOrder$Row", "sort", "()V"⟩ : MethodName)) ∈ TB := tb_of 618 (by decide +kernel) (by decide +kernel)
theorem t_619 : (Jvm.Cond.code (⟨"PacketOrder$Row", "sort", "()V"⟩ : MethodName) prog_5_method_14_code 4 (Option.none : Option Jvm.ClassFile.FieldType)) ∈ TB := tb_of 619 (by decide +kernel) (by decide +kernel)
theorem t_620 : (Jvm.Cond.methodLink "PacketOrder$Row" 90 (⟨"PacketOrder$Row", "merge", "(III)V"⟩ : MethodName)) ∈ TB := tb_of 620 (by decide +kernel) (by decide +kernel)
theorem t_622 : (Jvm.Cond.instanceMethod (⟨"PacketOrder$Row", "merge", "(III)V"⟩ : MethodName)) ∈ TB := tb_of 622 (by decide +kernel) (by decide +kernel)
theorem t_623 : (Jvm.Cond.code (⟨"PacketOrder$Row", "merge", "(III)V"⟩ : MethodName) prog_5_method_15_code 7 (Option.none : Option Jvm.ClassFile.FieldType)) ∈ TB := tb_of 623 (by decide +kernel) (by decide +kernel)
theorem t_624 : (Jvm.Cond.methodLink "PacketOrder$Row" 94 (⟨"java/lang/System", "arraycopy", "(Ljava/lang/Object;ILjava/lang/Object;II)V"⟩ : MethodName)) ∈ TB := tb_of 624 (by decide +kernel) (by decide +kernel)
theorem t_625 : (Jvm.Cond.methodLink "PacketOrderLaw" 93 (⟨"PacketOrderLaw", "skip", "(LPacketOrder;I[J)I"⟩ : MethodName)) ∈ TB := tb_of 625 (by decide +kernel) (by decide +kernel)
theorem t_626 : (Jvm.Cond.static (⟨"PacketOrderLaw", "skip", "(LPacketOrder;I[J)I"⟩ : MethodName)) ∈ TB := tb_of 626 (by decide +kernel) (by decide +kernel)
theorem t_627 : (Jvm.Cond.codeWith (⟨"PacketOrderLaw", "skip", "(LPacketOrder;I[J)I"⟩ : MethodName) method_10_code 4 (Option.some Jvm.ClassFile.FieldType.int) [(0, 9, 12, 13), (0, 9, 15, 19)]) ∈ TB := tb_of 627 (by decide +kernel) (by decide +kernel)
theorem t_628 : (Jvm.Cond.methodLink "PacketOrderLaw" 44 (⟨"PacketOrder", "skip", "(I)I"⟩ : MethodName)) ∈ TB := tb_of 628 (by decide +kernel) (by decide +kernel)
theorem t_629 : (Jvm.Cond.instanceMethod (⟨"PacketOrder", "skip", "(I)I"⟩ : MethodName)) ∈ TB := tb_of 629 (by decide +kernel) (by decide +kernel)
theorem t_630 : (Jvm.Cond.selects "PacketOrder" (⟨"PacketOrder", "skip", "(I)I"⟩ : MethodName) (⟨"PacketOrder", "skip", "(I)I"⟩ : MethodName)) ∈ TB := tb_of 630 (by decide +kernel) (by decide +kernel)
theorem t_631 : (Jvm.Cond.code (⟨"PacketOrder", "skip", "(I)I"⟩ : MethodName) prog_1_method_10_code 2 (Option.some Jvm.ClassFile.FieldType.int)) ∈ TB := tb_of 631 (by decide +kernel) (by decide +kernel)
theorem t_633 : (Jvm.Cond.methodLink "PacketOrderLaw" 97 (⟨"PacketOrderLaw", "packet", "(LPacketOrder;I[J)I"⟩ : MethodName)) ∈ TB := tb_of 633 (by decide +kernel) (by decide +kernel)
theorem t_634 : (Jvm.Cond.static (⟨"PacketOrderLaw", "packet", "(LPacketOrder;I[J)I"⟩ : MethodName)) ∈ TB := tb_of 634 (by decide +kernel) (by decide +kernel)
theorem t_635 : (Jvm.Cond.codeWith (⟨"PacketOrderLaw", "packet", "(LPacketOrder;I[J)I"⟩ : MethodName) method_11_code 4 (Option.some Jvm.ClassFile.FieldType.int) [(0, 9, 12, 24)]) ∈ TB := tb_of 635 (by decide +kernel) (by decide +kernel)
theorem t_636 : (Jvm.Cond.methodLink "PacketOrderLaw" 48 (⟨"PacketOrder", "packet", "(I)I"⟩ : MethodName)) ∈ TB := tb_of 636 (by decide +kernel) (by decide +kernel)
theorem t_637 : (Jvm.Cond.instanceMethod (⟨"PacketOrder", "packet", "(I)I"⟩ : MethodName)) ∈ TB := tb_of 637 (by decide +kernel) (by decide +kernel)
theorem t_638 : (Jvm.Cond.selects "PacketOrder" (⟨"PacketOrder", "packet", "(I)I"⟩ : MethodName) (⟨"PacketOrder", "packet", "(I)I"⟩ : MethodName)) ∈ TB := tb_of 638 (by decide +kernel) (by decide +kernel)
theorem t_639 : (Jvm.Cond.code (⟨"PacketOrder", "packet", "(I)I"⟩ : MethodName) prog_1_method_11_code 3 (Option.some Jvm.ClassFile.FieldType.int)) ∈ TB := tb_of 639 (by decide +kernel) (by decide +kernel)
theorem t_640 : (Jvm.Cond.methodLink "PacketOrder" 171 (⟨"PacketOrder", "levelWith", "(I)LPacketOrder$Level;"⟩ : MethodName)) ∈ TB := tb_of 640 (by decide +kernel) (by decide +kernel)
theorem t_642 : (Jvm.Cond.instanceMethod (⟨"PacketOrder", "levelWith", "(I)LPacketOrder$Level;"⟩ : MethodName)) ∈ TB := tb_of 642 (by decide +kernel) (by decide +kernel)
theorem t_643 : (Jvm.Cond.code (⟨"PacketOrder", "levelWith", "(I)LPacketOrder$Level;"⟩ : MethodName) prog_1_method_15_code 5 (Option.some (Jvm.ClassFile.FieldType.object "PacketOrder$Level"))) ∈ TB := tb_of 643 (by decide +kernel) (by decide +kernel)
theorem t_644 : (Jvm.Cond.methodLink "PacketOrder" 204 (⟨"PacketOrder$Level", "holds", "(I)Z"⟩ : MethodName)) ∈ TB := tb_of 644 (by decide +kernel) (by decide +kernel)
theorem t_645 : (Jvm.Cond.instanceMethod (⟨"PacketOrder$Level", "holds", "(I)Z"⟩ : MethodName)) ∈ TB := tb_of 645 (by decide +kernel) (by decide +kernel)
theorem t_646 : (Jvm.Cond.selects "PacketOrder$Level" (⟨"PacketOrder$Level", "holds", "(I)Z"⟩ : MethodName) (⟨"PacketOrder$Level", "holds", "(I)Z"⟩ : MethodName)) ∈ TB := tb_of 646 (by decide +kernel) (by decide +kernel)
theorem t_647 : (Jvm.Cond.code (⟨"PacketOrder$Level", "holds", "(I)Z"⟩ : MethodName) prog_4_method_3_code 2 (Option.some Jvm.ClassFile.FieldType.boolean)) ∈ TB := tb_of 647 (by decide +kernel) (by decide +kernel)
theorem t_648 : (Jvm.Cond.methodLink "PacketOrder$Level" 33 (⟨"PacketOrder$Level", "precinctCount", "()I"⟩ : MethodName)) ∈ TB := tb_of 648 (by decide +kernel) (by decide +kernel)
theorem t_650 : (Jvm.Cond.methodLink "PacketOrder" 177 (⟨"PacketOrder$Row", "comeOf", "(I)I"⟩ : MethodName)) ∈ TB := tb_of 650 (by decide +kernel) (by decide +kernel)
theorem t_652 : (Jvm.Cond.methodLink "PacketOrderLaw" 100 (⟨"PacketOrderLaw", "came", "(LPacketOrder;III[J)I"⟩ : MethodName)) ∈ TB := tb_of 652 (by decide +kernel) (by decide +kernel)
theorem t_653 : (Jvm.Cond.static (⟨"PacketOrderLaw", "came", "(LPacketOrder;III[J)I"⟩ : MethodName)) ∈ TB := tb_of 653 (by decide +kernel) (by decide +kernel)
theorem t_654 : (Jvm.Cond.codeWith (⟨"PacketOrderLaw", "came", "(LPacketOrder;III[J)I"⟩ : MethodName) method_12_code 6 (Option.some Jvm.ClassFile.FieldType.int) [(0, 12, 15, 24)]) ∈ TB := tb_of 654 (by decide +kernel) (by decide +kernel)
theorem t_655 : (Jvm.Cond.methodLink "PacketOrderLaw" 51 (⟨"PacketOrder", "came", "(III)I"⟩ : MethodName)) ∈ TB := tb_of 655 (by decide +kernel) (by decide +kernel)
theorem t_656 : (Jvm.Cond.instanceMethod (⟨"PacketOrder", "came", "(III)I"⟩ : MethodName)) ∈ TB := tb_of 656 (by decide +kernel) (by decide +kernel)
theorem t_657 : (Jvm.Cond.selects "PacketOrder" (⟨"PacketOrder", "came", "(III)I"⟩ : MethodName) (⟨"PacketOrder", "came", "(III)I"⟩ : MethodName)) ∈ TB := tb_of 657 (by decide +kernel) (by decide +kernel)
theorem t_658 : (Jvm.Cond.code (⟨"PacketOrder", "came", "(III)I"⟩ : MethodName) prog_1_method_12_code 5 (Option.some Jvm.ClassFile.FieldType.int)) ∈ TB := tb_of 658 (by decide +kernel) (by decide +kernel)
theorem t_660 : (Jvm.Cond.classLink "PacketOrderLaw" 55 "PacketOrderModel") ∈ TB := tb_of 660 (by decide +kernel) (by decide +kernel)
theorem t_661 : (Jvm.Cond.instantiable "PacketOrderModel" 38) ∈ TB := tb_of 661 (by decide +kernel) (by decide +kernel)
theorem t_662 : (Jvm.Cond.methodLink "PacketOrderLaw" 57 (⟨"PacketOrderModel", "<init>", "()V"⟩ : MethodName)) ∈ TB := tb_of 662 (by decide +kernel) (by decide +kernel)
theorem t_663 : (Jvm.Cond.instanceMethod (⟨"PacketOrderModel", "<init>", "()V"⟩ : MethodName)) ∈ TB := tb_of 663 (by decide +kernel) (by decide +kernel)
theorem t_664 : (Jvm.Cond.code (⟨"PacketOrderModel", "<init>", "()V"⟩ : MethodName) prog_8_method_1_code 1 (Option.none : Option Jvm.ClassFile.FieldType)) ∈ TB := tb_of 664 (by decide +kernel) (by decide +kernel)
theorem t_665 : (Jvm.Cond.methodLink "PacketOrderModel" 1 (⟨"java/lang/Object", "<init>", "()V"⟩ : MethodName)) ∈ TB := tb_of 665 (by decide +kernel) (by decide +kernel)
theorem t_666 : (Jvm.Cond.fieldLink "PacketOrderModel" 54 "PacketOrderModel" "thrown" "I") ∈ TB := tb_of 666 (by decide +kernel) (by decide +kernel)
theorem t_667 : (Jvm.Cond.fieldLink "PacketOrderModel" 61 "PacketOrderModel" "tiled" "Z") ∈ TB := tb_of 667 (by decide +kernel) (by decide +kernel)
theorem t_668 : (Jvm.Cond.fieldLink "PacketOrderModel" 65 "PacketOrderModel" "tx0" "I") ∈ TB := tb_of 668 (by decide +kernel) (by decide +kernel)
theorem t_669 : (Jvm.Cond.fieldLink "PacketOrderModel" 68 "PacketOrderModel" "ty0" "I") ∈ TB := tb_of 669 (by decide +kernel) (by decide +kernel)
theorem t_670 : (Jvm.Cond.fieldLink "PacketOrderModel" 71 "PacketOrderModel" "tx1" "I") ∈ TB := tb_of 670 (by decide +kernel) (by decide +kernel)
theorem t_671 : (Jvm.Cond.fieldLink "PacketOrderModel" 74 "PacketOrderModel" "ty1" "I") ∈ TB := tb_of 671 (by decide +kernel) (by decide +kernel)
theorem t_672 : (Jvm.Cond.fieldLink "PacketOrderModel" 80 "PacketOrderModel" "components" "I") ∈ TB := tb_of 672 (by decide +kernel) (by decide +kernel)
theorem t_673 : (Jvm.Cond.fieldLink "PacketOrderModel" 7 "PacketOrderModel" "stepX" "[I") ∈ TB := tb_of 673 (by decide +kernel) (by decide +kernel)
theorem t_674 : (Jvm.Cond.fieldLink "PacketOrderModel" 13 "PacketOrderModel" "stepY" "[I") ∈ TB := tb_of 674 (by decide +kernel) (by decide +kernel)
theorem t_675 : (Jvm.Cond.fieldLink "PacketOrderModel" 16 "PacketOrderModel" "levels" "[I") ∈ TB := tb_of 675 (by decide +kernel) (by decide +kernel)
theorem t_676 : (Jvm.Cond.fieldLink "PacketOrderModel" 19 "PacketOrderModel" "wide" "[I") ∈ TB := tb_of 676 (by decide +kernel) (by decide +kernel)
theorem t_677 : (Jvm.Cond.fieldLink "PacketOrderModel" 22 "PacketOrderModel" "high" "[I") ∈ TB := tb_of 677 (by decide +kernel) (by decide +kernel)
theorem t_678 : (Jvm.Cond.fieldLink "PacketOrderModel" 25 "PacketOrderModel" "layers" "I") ∈ TB := tb_of 678 (by decide +kernel) (by decide +kernel)
theorem t_679 : (Jvm.Cond.fieldLink "PacketOrderModel" 87 "PacketOrderModel" "own" "I") ∈ TB := tb_of 679 (by decide +kernel) (by decide +kernel)
theorem t_680 : (Jvm.Cond.fieldLink "PacketOrderModel" 90 "PacketOrderModel" "changes" "I") ∈ TB := tb_of 680 (by decide +kernel) (by decide +kernel)
theorem t_681 : (Jvm.Cond.fieldLink "PacketOrderModel" 29 "PacketOrderModel" "change" "[I") ∈ TB := tb_of 681 (by decide +kernel) (by decide +kernel)
theorem t_682 : (Jvm.Cond.fieldLink "PacketOrderModel" 77 "PacketOrderModel" "sequence" "Z") ∈ TB := tb_of 682 (by decide +kernel) (by decide +kernel)
theorem t_683 : (Jvm.Cond.fieldLink "PacketOrderModel" 119 "PacketOrderModel" "many" "I") ∈ TB := tb_of 683 (by decide +kernel) (by decide +kernel)
theorem t_684 : (Jvm.Cond.fieldLink "PacketOrderModel" 32 "PacketOrderModel" "componentOf" "[I") ∈ TB := tb_of 684 (by decide +kernel) (by decide +kernel)
theorem t_685 : (Jvm.Cond.fieldLink "PacketOrderModel" 35 "PacketOrderModel" "levelOf" "[I") ∈ TB := tb_of 685 (by decide +kernel) (by decide +kernel)
theorem t_686 : (Jvm.Cond.fieldLink "PacketOrderModel" 38 "PacketOrderModel" "numberOf" "[I") ∈ TB := tb_of 686 (by decide +kernel) (by decide +kernel)
theorem t_687 : (Jvm.Cond.fieldLink "PacketOrderModel" 41 "PacketOrderModel" "placeX" "[J") ∈ TB := tb_of 687 (by decide +kernel) (by decide +kernel)
theorem t_688 : (Jvm.Cond.fieldLink "PacketOrderModel" 45 "PacketOrderModel" "placeY" "[J") ∈ TB := tb_of 688 (by decide +kernel) (by decide +kernel)
theorem t_689 : (Jvm.Cond.fieldLink "PacketOrderModel" 48 "PacketOrderModel" "cameOf" "[I") ∈ TB := tb_of 689 (by decide +kernel) (by decide +kernel)
theorem t_690 : (Jvm.Cond.fieldLink "PacketOrderModel" 51 "PacketOrderModel" "sorted" "[I") ∈ TB := tb_of 690 (by decide +kernel) (by decide +kernel)
theorem t_691 : (Jvm.Cond.fieldLink "PacketOrderModel" 138 "PacketOrderModel" "now" "I") ∈ TB := tb_of 691 (by decide +kernel) (by decide +kernel)
theorem t_692 : (Jvm.Cond.fieldLink "PacketOrderModel" 181 "PacketOrderModel" "layer" "I") ∈ TB := tb_of 692 (by decide +kernel) (by decide +kernel)
theorem t_693 : (Jvm.Cond.fieldLink "PacketOrderModel" 187 "PacketOrderModel" "groupEnd" "I") ∈ TB := tb_of 693 (by decide +kernel) (by decide +kernel)
theorem t_694 : (Jvm.Cond.fieldLink "PacketOrderModel" 175 "PacketOrderModel" "group" "I") ∈ TB := tb_of 694 (by decide +kernel) (by decide +kernel)
theorem t_695 : (Jvm.Cond.fieldLink "PacketOrderModel" 184 "PacketOrderModel" "next" "I") ∈ TB := tb_of 695 (by decide +kernel) (by decide +kernel)
theorem t_696 : (Jvm.Cond.fieldLink "PacketOrderModel" 135 "PacketOrderModel" "came" "Z") ∈ TB := tb_of 696 (by decide +kernel) (by decide +kernel)
theorem t_697 : (Jvm.Cond.fieldLink "PacketOrderModel" 197 "PacketOrderModel" "lastOne" "I") ∈ TB := tb_of 697 (by decide +kernel) (by decide +kernel)
theorem t_698 : (Jvm.Cond.fieldLink "PacketOrderModel" 200 "PacketOrderModel" "lastLayer" "I") ∈ TB := tb_of 698 (by decide +kernel) (by decide +kernel)
theorem t_699 : (Jvm.Cond.fieldLink "PacketOrderModel" 203 "PacketOrderModel" "lastChange" "I") ∈ TB := tb_of 699 (by decide +kernel) (by decide +kernel)
theorem t_700 : (Jvm.Cond.fieldLink "PacketOrderModel" 97 "PacketOrderModel" "x0" "I") ∈ TB := tb_of 700 (by decide +kernel) (by decide +kernel)
theorem t_701 : (Jvm.Cond.fieldLink "PacketOrderModel" 100 "PacketOrderModel" "y0" "I") ∈ TB := tb_of 701 (by decide +kernel) (by decide +kernel)
theorem t_702 : (Jvm.Cond.fieldLink "PacketOrderModel" 103 "PacketOrderModel" "x1" "I") ∈ TB := tb_of 702 (by decide +kernel) (by decide +kernel)
theorem t_703 : (Jvm.Cond.fieldLink "PacketOrderModel" 106 "PacketOrderModel" "y1" "I") ∈ TB := tb_of 703 (by decide +kernel) (by decide +kernel)
theorem t_704 : (Jvm.Cond.lays "PacketOrderModel" "PacketOrderModel" "thrown" "I") ∈ TB := tb_of 704 (by decide +kernel) (by decide +kernel)
theorem t_705 : (Jvm.Cond.soleField "PacketOrderModel" "thrown") ∈ TB := tb_of 705 (by decide +kernel) (by decide +kernel)
theorem t_706 : (Jvm.Cond.lays "PacketOrderModel" "PacketOrderModel" "tiled" "Z") ∈ TB := tb_of 706 (by decide +kernel) (by decide +kernel)
theorem t_707 : (Jvm.Cond.soleField "PacketOrderModel" "tiled") ∈ TB := tb_of 707 (by decide +kernel) (by decide +kernel)
theorem t_708 : (Jvm.Cond.lays "PacketOrderModel" "PacketOrderModel" "tx0" "I") ∈ TB := tb_of 708 (by decide +kernel) (by decide +kernel)
theorem t_709 : (Jvm.Cond.soleField "PacketOrderModel" "tx0") ∈ TB := tb_of 709 (by decide +kernel) (by decide +kernel)
theorem t_710 : (Jvm.Cond.lays "PacketOrderModel" "PacketOrderModel" "ty0" "I") ∈ TB := tb_of 710 (by decide +kernel) (by decide +kernel)
theorem t_711 : (Jvm.Cond.soleField "PacketOrderModel" "ty0") ∈ TB := tb_of 711 (by decide +kernel) (by decide +kernel)
theorem t_712 : (Jvm.Cond.lays "PacketOrderModel" "PacketOrderModel" "tx1" "I") ∈ TB := tb_of 712 (by decide +kernel) (by decide +kernel)
theorem t_713 : (Jvm.Cond.soleField "PacketOrderModel" "tx1") ∈ TB := tb_of 713 (by decide +kernel) (by decide +kernel)
theorem t_714 : (Jvm.Cond.lays "PacketOrderModel" "PacketOrderModel" "ty1" "I") ∈ TB := tb_of 714 (by decide +kernel) (by decide +kernel)
theorem t_715 : (Jvm.Cond.soleField "PacketOrderModel" "ty1") ∈ TB := tb_of 715 (by decide +kernel) (by decide +kernel)
theorem t_716 : (Jvm.Cond.lays "PacketOrderModel" "PacketOrderModel" "components" "I") ∈ TB := tb_of 716 (by decide +kernel) (by decide +kernel)
theorem t_717 : (Jvm.Cond.soleField "PacketOrderModel" "components") ∈ TB := tb_of 717 (by decide +kernel) (by decide +kernel)
theorem t_718 : (Jvm.Cond.laysFinal "PacketOrderModel" "PacketOrderModel" "stepX" "[I") ∈ TB := tb_of 718 (by decide +kernel) (by decide +kernel)
theorem t_719 : (Jvm.Cond.soleField "PacketOrderModel" "stepX") ∈ TB := tb_of 719 (by decide +kernel) (by decide +kernel)
theorem t_720 : (Jvm.Cond.laysFinal "PacketOrderModel" "PacketOrderModel" "stepY" "[I") ∈ TB := tb_of 720 (by decide +kernel) (by decide +kernel)
theorem t_721 : (Jvm.Cond.soleField "PacketOrderModel" "stepY") ∈ TB := tb_of 721 (by decide +kernel) (by decide +kernel)
theorem t_722 : (Jvm.Cond.laysFinal "PacketOrderModel" "PacketOrderModel" "levels" "[I") ∈ TB := tb_of 722 (by decide +kernel) (by decide +kernel)
theorem t_723 : (Jvm.Cond.soleField "PacketOrderModel" "levels") ∈ TB := tb_of 723 (by decide +kernel) (by decide +kernel)
theorem t_724 : (Jvm.Cond.laysFinal "PacketOrderModel" "PacketOrderModel" "wide" "[I") ∈ TB := tb_of 724 (by decide +kernel) (by decide +kernel)
theorem t_725 : (Jvm.Cond.soleField "PacketOrderModel" "wide") ∈ TB := tb_of 725 (by decide +kernel) (by decide +kernel)
theorem t_726 : (Jvm.Cond.laysFinal "PacketOrderModel" "PacketOrderModel" "high" "[I") ∈ TB := tb_of 726 (by decide +kernel) (by decide +kernel)
theorem t_727 : (Jvm.Cond.soleField "PacketOrderModel" "high") ∈ TB := tb_of 727 (by decide +kernel) (by decide +kernel)
theorem t_728 : (Jvm.Cond.lays "PacketOrderModel" "PacketOrderModel" "layers" "I") ∈ TB := tb_of 728 (by decide +kernel) (by decide +kernel)
theorem t_729 : (Jvm.Cond.soleField "PacketOrderModel" "layers") ∈ TB := tb_of 729 (by decide +kernel) (by decide +kernel)
theorem t_730 : (Jvm.Cond.lays "PacketOrderModel" "PacketOrderModel" "own" "I") ∈ TB := tb_of 730 (by decide +kernel) (by decide +kernel)
theorem t_731 : (Jvm.Cond.soleField "PacketOrderModel" "own") ∈ TB := tb_of 731 (by decide +kernel) (by decide +kernel)
theorem t_732 : (Jvm.Cond.lays "PacketOrderModel" "PacketOrderModel" "changes" "I") ∈ TB := tb_of 732 (by decide +kernel) (by decide +kernel)
theorem t_733 : (Jvm.Cond.soleField "PacketOrderModel" "changes") ∈ TB := tb_of 733 (by decide +kernel) (by decide +kernel)
theorem t_734 : (Jvm.Cond.laysFinal "PacketOrderModel" "PacketOrderModel" "change" "[I") ∈ TB := tb_of 734 (by decide +kernel) (by decide +kernel)
theorem t_735 : (Jvm.Cond.soleField "PacketOrderModel" "change") ∈ TB := tb_of 735 (by decide +kernel) (by decide +kernel)
theorem t_736 : (Jvm.Cond.lays "PacketOrderModel" "PacketOrderModel" "sequence" "Z") ∈ TB := tb_of 736 (by decide +kernel) (by decide +kernel)
theorem t_737 : (Jvm.Cond.soleField "PacketOrderModel" "sequence") ∈ TB := tb_of 737 (by decide +kernel) (by decide +kernel)
theorem t_738 : (Jvm.Cond.lays "PacketOrderModel" "PacketOrderModel" "many" "I") ∈ TB := tb_of 738 (by decide +kernel) (by decide +kernel)
theorem t_739 : (Jvm.Cond.soleField "PacketOrderModel" "many") ∈ TB := tb_of 739 (by decide +kernel) (by decide +kernel)
theorem t_740 : (Jvm.Cond.laysFinal "PacketOrderModel" "PacketOrderModel" "componentOf" "[I") ∈ TB := tb_of 740 (by decide +kernel) (by decide +kernel)
theorem t_741 : (Jvm.Cond.soleField "PacketOrderModel" "componentOf") ∈ TB := tb_of 741 (by decide +kernel) (by decide +kernel)
theorem t_742 : (Jvm.Cond.laysFinal "PacketOrderModel" "PacketOrderModel" "levelOf" "[I") ∈ TB := tb_of 742 (by decide +kernel) (by decide +kernel)
theorem t_743 : (Jvm.Cond.soleField "PacketOrderModel" "levelOf") ∈ TB := tb_of 743 (by decide +kernel) (by decide +kernel)
theorem t_744 : (Jvm.Cond.laysFinal "PacketOrderModel" "PacketOrderModel" "numberOf" "[I") ∈ TB := tb_of 744 (by decide +kernel) (by decide +kernel)
theorem t_745 : (Jvm.Cond.soleField "PacketOrderModel" "numberOf") ∈ TB := tb_of 745 (by decide +kernel) (by decide +kernel)
theorem t_746 : (Jvm.Cond.laysFinal "PacketOrderModel" "PacketOrderModel" "placeX" "[J") ∈ TB := tb_of 746 (by decide +kernel) (by decide +kernel)
theorem t_747 : (Jvm.Cond.soleField "PacketOrderModel" "placeX") ∈ TB := tb_of 747 (by decide +kernel) (by decide +kernel)
theorem t_748 : (Jvm.Cond.laysFinal "PacketOrderModel" "PacketOrderModel" "placeY" "[J") ∈ TB := tb_of 748 (by decide +kernel) (by decide +kernel)
theorem t_749 : (Jvm.Cond.soleField "PacketOrderModel" "placeY") ∈ TB := tb_of 749 (by decide +kernel) (by decide +kernel)
theorem t_750 : (Jvm.Cond.laysFinal "PacketOrderModel" "PacketOrderModel" "cameOf" "[I") ∈ TB := tb_of 750 (by decide +kernel) (by decide +kernel)
theorem t_751 : (Jvm.Cond.soleField "PacketOrderModel" "cameOf") ∈ TB := tb_of 751 (by decide +kernel) (by decide +kernel)
theorem t_752 : (Jvm.Cond.laysFinal "PacketOrderModel" "PacketOrderModel" "sorted" "[I") ∈ TB := tb_of 752 (by decide +kernel) (by decide +kernel)
theorem t_753 : (Jvm.Cond.soleField "PacketOrderModel" "sorted") ∈ TB := tb_of 753 (by decide +kernel) (by decide +kernel)
theorem t_754 : (Jvm.Cond.lays "PacketOrderModel" "PacketOrderModel" "now" "I") ∈ TB := tb_of 754 (by decide +kernel) (by decide +kernel)
theorem t_755 : (Jvm.Cond.soleField "PacketOrderModel" "now") ∈ TB := tb_of 755 (by decide +kernel) (by decide +kernel)
theorem t_756 : (Jvm.Cond.lays "PacketOrderModel" "PacketOrderModel" "layer" "I") ∈ TB := tb_of 756 (by decide +kernel) (by decide +kernel)
theorem t_757 : (Jvm.Cond.soleField "PacketOrderModel" "layer") ∈ TB := tb_of 757 (by decide +kernel) (by decide +kernel)
theorem t_758 : (Jvm.Cond.lays "PacketOrderModel" "PacketOrderModel" "groupEnd" "I") ∈ TB := tb_of 758 (by decide +kernel) (by decide +kernel)
theorem t_759 : (Jvm.Cond.soleField "PacketOrderModel" "groupEnd") ∈ TB := tb_of 759 (by decide +kernel) (by decide +kernel)
theorem t_760 : (Jvm.Cond.lays "PacketOrderModel" "PacketOrderModel" "group" "I") ∈ TB := tb_of 760 (by decide +kernel) (by decide +kernel)
theorem t_761 : (Jvm.Cond.soleField "PacketOrderModel" "group") ∈ TB := tb_of 761 (by decide +kernel) (by decide +kernel)
theorem t_762 : (Jvm.Cond.lays "PacketOrderModel" "PacketOrderModel" "next" "I") ∈ TB := tb_of 762 (by decide +kernel) (by decide +kernel)
theorem t_763 : (Jvm.Cond.soleField "PacketOrderModel" "next") ∈ TB := tb_of 763 (by decide +kernel) (by decide +kernel)
theorem t_764 : (Jvm.Cond.lays "PacketOrderModel" "PacketOrderModel" "came" "Z") ∈ TB := tb_of 764 (by decide +kernel) (by decide +kernel)
theorem t_765 : (Jvm.Cond.soleField "PacketOrderModel" "came") ∈ TB := tb_of 765 (by decide +kernel) (by decide +kernel)
theorem t_766 : (Jvm.Cond.lays "PacketOrderModel" "PacketOrderModel" "lastOne" "I") ∈ TB := tb_of 766 (by decide +kernel) (by decide +kernel)
theorem t_767 : (Jvm.Cond.soleField "PacketOrderModel" "lastOne") ∈ TB := tb_of 767 (by decide +kernel) (by decide +kernel)
theorem t_768 : (Jvm.Cond.lays "PacketOrderModel" "PacketOrderModel" "lastLayer" "I") ∈ TB := tb_of 768 (by decide +kernel) (by decide +kernel)
theorem t_769 : (Jvm.Cond.soleField "PacketOrderModel" "lastLayer") ∈ TB := tb_of 769 (by decide +kernel) (by decide +kernel)
theorem t_770 : (Jvm.Cond.lays "PacketOrderModel" "PacketOrderModel" "lastChange" "I") ∈ TB := tb_of 770 (by decide +kernel) (by decide +kernel)
theorem t_771 : (Jvm.Cond.soleField "PacketOrderModel" "lastChange") ∈ TB := tb_of 771 (by decide +kernel) (by decide +kernel)
theorem t_772 : (Jvm.Cond.lays "PacketOrderModel" "PacketOrderModel" "x0" "I") ∈ TB := tb_of 772 (by decide +kernel) (by decide +kernel)
theorem t_773 : (Jvm.Cond.soleField "PacketOrderModel" "x0") ∈ TB := tb_of 773 (by decide +kernel) (by decide +kernel)
theorem t_774 : (Jvm.Cond.lays "PacketOrderModel" "PacketOrderModel" "y0" "I") ∈ TB := tb_of 774 (by decide +kernel) (by decide +kernel)
theorem t_775 : (Jvm.Cond.soleField "PacketOrderModel" "y0") ∈ TB := tb_of 775 (by decide +kernel) (by decide +kernel)
theorem t_776 : (Jvm.Cond.lays "PacketOrderModel" "PacketOrderModel" "x1" "I") ∈ TB := tb_of 776 (by decide +kernel) (by decide +kernel)
theorem t_777 : (Jvm.Cond.soleField "PacketOrderModel" "x1") ∈ TB := tb_of 777 (by decide +kernel) (by decide +kernel)
theorem t_778 : (Jvm.Cond.lays "PacketOrderModel" "PacketOrderModel" "y1" "I") ∈ TB := tb_of 778 (by decide +kernel) (by decide +kernel)
theorem t_779 : (Jvm.Cond.soleField "PacketOrderModel" "y1") ∈ TB := tb_of 779 (by decide +kernel) (by decide +kernel)
theorem t_780 : (Jvm.Cond.superclass "PacketOrderModel" "java/lang/Object") ∈ TB := tb_of 780 (by decide +kernel) (by decide +kernel)
theorem t_781 : (Jvm.Cond.methodLink "PacketOrderLaw" 64 (⟨"PacketOrderModel", "thrown", "()I"⟩ : MethodName)) ∈ TB := tb_of 781 (by decide +kernel) (by decide +kernel)
theorem t_782 : (Jvm.Cond.instanceMethod (⟨"PacketOrderModel", "thrown", "()I"⟩ : MethodName)) ∈ TB := tb_of 782 (by decide +kernel) (by decide +kernel)
theorem t_783 : (Jvm.Cond.selects "PacketOrderModel" (⟨"PacketOrderModel", "thrown", "()I"⟩ : MethodName) (⟨"PacketOrderModel", "thrown", "()I"⟩ : MethodName)) ∈ TB := tb_of 783 (by decide +kernel) (by decide +kernel)
theorem t_784 : (Jvm.Cond.code (⟨"PacketOrderModel", "thrown", "()I"⟩ : MethodName) prog_8_method_2_code 1 (Option.some Jvm.ClassFile.FieldType.int)) ∈ TB := tb_of 784 (by decide +kernel) (by decide +kernel)
theorem t_785 : (Jvm.Cond.methodLink "PacketOrderLaw" 63 (⟨"PacketOrderModel", "tile", "(IIII)V"⟩ : MethodName)) ∈ TB := tb_of 785 (by decide +kernel) (by decide +kernel)
theorem t_786 : (Jvm.Cond.instanceMethod (⟨"PacketOrderModel", "tile", "(IIII)V"⟩ : MethodName)) ∈ TB := tb_of 786 (by decide +kernel) (by decide +kernel)
theorem t_787 : (Jvm.Cond.selects "PacketOrderModel" (⟨"PacketOrderModel", "tile", "(IIII)V"⟩ : MethodName) (⟨"PacketOrderModel", "tile", "(IIII)V"⟩ : MethodName)) ∈ TB := tb_of 787 (by decide +kernel) (by decide +kernel)
theorem t_788 : (Jvm.Cond.code (⟨"PacketOrderModel", "tile", "(IIII)V"⟩ : MethodName) prog_8_method_4_code 6 (Option.none : Option Jvm.ClassFile.FieldType)) ∈ TB := tb_of 788 (by decide +kernel) (by decide +kernel)
theorem t_789 : (Jvm.Cond.methodLink "PacketOrderModel" 57 (⟨"PacketOrderModel", "refuse", "(ZZ)Z"⟩ : MethodName)) ∈ TB := tb_of 789 (by decide +kernel) (by decide +kernel)
theorem t_791 : (Jvm.Cond.instanceMethod (⟨"PacketOrderModel", "refuse", "(ZZ)Z"⟩ : MethodName)) ∈ TB := tb_of 791 (by decide +kernel) (by decide +kernel)
theorem t_792 : (Jvm.Cond.code (⟨"PacketOrderModel", "refuse", "(ZZ)Z"⟩ : MethodName) prog_8_method_3_code 3 (Option.some Jvm.ClassFile.FieldType.boolean)) ∈ TB := tb_of 792 (by decide +kernel) (by decide +kernel)
theorem t_793 : (Jvm.Cond.methodLink "PacketOrderLaw" 70 (⟨"PacketOrderModel", "component", "(III)I"⟩ : MethodName)) ∈ TB := tb_of 793 (by decide +kernel) (by decide +kernel)
theorem t_794 : (Jvm.Cond.instanceMethod (⟨"PacketOrderModel", "component", "(III)I"⟩ : MethodName)) ∈ TB := tb_of 794 (by decide +kernel) (by decide +kernel)
theorem t_795 : (Jvm.Cond.selects "PacketOrderModel" (⟨"PacketOrderModel", "component", "(III)I"⟩ : MethodName) (⟨"PacketOrderModel", "component", "(III)I"⟩ : MethodName)) ∈ TB := tb_of 795 (by decide +kernel) (by decide +kernel)
theorem t_796 : (Jvm.Cond.code (⟨"PacketOrderModel", "component", "(III)I"⟩ : MethodName) prog_8_method_5_code 6 (Option.some Jvm.ClassFile.FieldType.int)) ∈ TB := tb_of 796 (by decide +kernel) (by decide +kernel)
theorem t_797 : (Jvm.Cond.methodLink "PacketOrderLaw" 73 (⟨"PacketOrderModel", "precincts", "(IIII)V"⟩ : MethodName)) ∈ TB := tb_of 797 (by decide +kernel) (by decide +kernel)
theorem t_798 : (Jvm.Cond.instanceMethod (⟨"PacketOrderModel", "precincts", "(IIII)V"⟩ : MethodName)) ∈ TB := tb_of 798 (by decide +kernel) (by decide +kernel)
theorem t_799 : (Jvm.Cond.selects "PacketOrderModel" (⟨"PacketOrderModel", "precincts", "(IIII)V"⟩ : MethodName) (⟨"PacketOrderModel", "precincts", "(IIII)V"⟩ : MethodName)) ∈ TB := tb_of 799 (by decide +kernel) (by decide +kernel)
theorem t_800 : (Jvm.Cond.code (⟨"PacketOrderModel", "precincts", "(IIII)V"⟩ : MethodName) prog_8_method_7_code 6 (Option.none : Option Jvm.ClassFile.FieldType)) ∈ TB := tb_of 800 (by decide +kernel) (by decide +kernel)
theorem t_801 : (Jvm.Cond.methodLink "PacketOrderModel" 83 (⟨"PacketOrderModel", "isLevel", "(II)Z"⟩ : MethodName)) ∈ TB := tb_of 801 (by decide +kernel) (by decide +kernel)
theorem t_803 : (Jvm.Cond.instanceMethod (⟨"PacketOrderModel", "isLevel", "(II)Z"⟩ : MethodName)) ∈ TB := tb_of 803 (by decide +kernel) (by decide +kernel)
theorem t_804 : (Jvm.Cond.code (⟨"PacketOrderModel", "isLevel", "(II)Z"⟩ : MethodName) prog_8_method_6_code 3 (Option.some Jvm.ClassFile.FieldType.boolean)) ∈ TB := tb_of 804 (by decide +kernel) (by decide +kernel)
theorem t_805 : (Jvm.Cond.methodLink "PacketOrderLaw" 77 (⟨"PacketOrderModel", "layers", "(II)V"⟩ : MethodName)) ∈ TB := tb_of 805 (by decide +kernel) (by decide +kernel)
theorem t_806 : (Jvm.Cond.instanceMethod (⟨"PacketOrderModel", "layers", "(II)V"⟩ : MethodName)) ∈ TB := tb_of 806 (by decide +kernel) (by decide +kernel)
theorem t_807 : (Jvm.Cond.selects "PacketOrderModel" (⟨"PacketOrderModel", "layers", "(II)V"⟩ : MethodName) (⟨"PacketOrderModel", "layers", "(II)V"⟩ : MethodName)) ∈ TB := tb_of 807 (by decide +kernel) (by decide +kernel)
theorem t_808 : (Jvm.Cond.code (⟨"PacketOrderModel", "layers", "(II)V"⟩ : MethodName) prog_8_method_8_code 3 (Option.none : Option Jvm.ClassFile.FieldType)) ∈ TB := tb_of 808 (by decide +kernel) (by decide +kernel)
theorem t_809 : (Jvm.Cond.methodLink "PacketOrderLaw" 81 (⟨"PacketOrderModel", "change", "(IIIIII)I"⟩ : MethodName)) ∈ TB := tb_of 809 (by decide +kernel) (by decide +kernel)
theorem t_810 : (Jvm.Cond.instanceMethod (⟨"PacketOrderModel", "change", "(IIIIII)I"⟩ : MethodName)) ∈ TB := tb_of 810 (by decide +kernel) (by decide +kernel)
theorem t_811 : (Jvm.Cond.selects "PacketOrderModel" (⟨"PacketOrderModel", "change", "(IIIIII)I"⟩ : MethodName) (⟨"PacketOrderModel", "change", "(IIIIII)I"⟩ : MethodName)) ∈ TB := tb_of 811 (by decide +kernel) (by decide +kernel)
theorem t_812 : (Jvm.Cond.code (⟨"PacketOrderModel", "change", "(IIIIII)I"⟩ : MethodName) prog_8_method_9_code 8 (Option.some Jvm.ClassFile.FieldType.int)) ∈ TB := tb_of 812 (by decide +kernel) (by decide +kernel)
theorem t_813 : (Jvm.Cond.methodLink "PacketOrderLaw" 85 (⟨"PacketOrderModel", "clear", "()V"⟩ : MethodName)) ∈ TB := tb_of 813 (by decide +kernel) (by decide +kernel)
theorem t_814 : (Jvm.Cond.instanceMethod (⟨"PacketOrderModel", "clear", "()V"⟩ : MethodName)) ∈ TB := tb_of 814 (by decide +kernel) (by decide +kernel)
theorem t_815 : (Jvm.Cond.selects "PacketOrderModel" (⟨"PacketOrderModel", "clear", "()V"⟩ : MethodName) (⟨"PacketOrderModel", "clear", "()V"⟩ : MethodName)) ∈ TB := tb_of 815 (by decide +kernel) (by decide +kernel)
theorem t_816 : (Jvm.Cond.code (⟨"PacketOrderModel", "clear", "()V"⟩ : MethodName) prog_8_method_10_code 1 (Option.none : Option Jvm.ClassFile.FieldType)) ∈ TB := tb_of 816 (by decide +kernel) (by decide +kernel)
theorem t_817 : (Jvm.Cond.methodLink "PacketOrderLaw" 89 (⟨"PacketOrderModel", "begin", "()I"⟩ : MethodName)) ∈ TB := tb_of 817 (by decide +kernel) (by decide +kernel)
theorem t_818 : (Jvm.Cond.instanceMethod (⟨"PacketOrderModel", "begin", "()I"⟩ : MethodName)) ∈ TB := tb_of 818 (by decide +kernel) (by decide +kernel)
theorem t_819 : (Jvm.Cond.selects "PacketOrderModel" (⟨"PacketOrderModel", "begin", "()I"⟩ : MethodName) (⟨"PacketOrderModel", "begin", "()I"⟩ : MethodName)) ∈ TB := tb_of 819 (by decide +kernel) (by decide +kernel)
theorem t_820 : (Jvm.Cond.code (⟨"PacketOrderModel", "begin", "()I"⟩ : MethodName) prog_8_method_18_code 4 (Option.some Jvm.ClassFile.FieldType.int)) ∈ TB := tb_of 820 (by decide +kernel) (by decide +kernel)
theorem t_821 : (Jvm.Cond.methodLink "PacketOrderModel" 126 (⟨"PacketOrderModel", "count", "()J"⟩ : MethodName)) ∈ TB := tb_of 821 (by decide +kernel) (by decide +kernel)
theorem t_823 : (Jvm.Cond.instanceMethod (⟨"PacketOrderModel", "count", "()J"⟩ : MethodName)) ∈ TB := tb_of 823 (by decide +kernel) (by decide +kernel)
theorem t_824 : (Jvm.Cond.code (⟨"PacketOrderModel", "count", "()J"⟩ : MethodName) prog_8_method_15_code 5 (Option.some Jvm.ClassFile.FieldType.long)) ∈ TB := tb_of 824 (by decide +kernel) (by decide +kernel)
theorem t_825 : (Jvm.Cond.methodLink "PacketOrderModel" 109 (⟨"PacketOrderModel", "findLevel", "(II)V"⟩ : MethodName)) ∈ TB := tb_of 825 (by decide +kernel) (by decide +kernel)
theorem t_827 : (Jvm.Cond.instanceMethod (⟨"PacketOrderModel", "findLevel", "(II)V"⟩ : MethodName)) ∈ TB := tb_of 827 (by decide +kernel) (by decide +kernel)
theorem t_828 : (Jvm.Cond.code (⟨"PacketOrderModel", "findLevel", "(II)V"⟩ : MethodName) prog_8_method_12_code 4 (Option.none : Option Jvm.ClassFile.FieldType)) ∈ TB := tb_of 828 (by decide +kernel) (by decide +kernel)
theorem t_829 : (Jvm.Cond.methodLink "PacketOrderModel" 93 (⟨"PacketOrderModel", "up", "(II)I"⟩ : MethodName)) ∈ TB := tb_of 829 (by decide +kernel) (by decide +kernel)
theorem t_830 : (Jvm.Cond.static (⟨"PacketOrderModel", "up", "(II)I"⟩ : MethodName)) ∈ TB := tb_of 830 (by decide +kernel) (by decide +kernel)
theorem t_831 : (Jvm.Cond.code (⟨"PacketOrderModel", "up", "(II)I"⟩ : MethodName) prog_8_method_11_code 2 (Option.some Jvm.ClassFile.FieldType.int)) ∈ TB := tb_of 831 (by decide +kernel) (by decide +kernel)
theorem t_832 : (Jvm.Cond.methodLink "PacketOrderModel" 113 (⟨"PacketOrderModel", "columns", "(II)I"⟩ : MethodName)) ∈ TB := tb_of 832 (by decide +kernel) (by decide +kernel)
theorem t_834 : (Jvm.Cond.instanceMethod (⟨"PacketOrderModel", "columns", "(II)I"⟩ : MethodName)) ∈ TB := tb_of 834 (by decide +kernel) (by decide +kernel)
theorem t_835 : (Jvm.Cond.code (⟨"PacketOrderModel", "columns", "(II)I"⟩ : MethodName) prog_8_method_13_code 4 (Option.some Jvm.ClassFile.FieldType.int)) ∈ TB := tb_of 835 (by decide +kernel) (by decide +kernel)
theorem t_836 : (Jvm.Cond.methodLink "PacketOrderModel" 116 (⟨"PacketOrderModel", "rows", "(II)I"⟩ : MethodName)) ∈ TB := tb_of 836 (by decide +kernel) (by decide +kernel)
theorem t_838 : (Jvm.Cond.instanceMethod (⟨"PacketOrderModel", "rows", "(II)I"⟩ : MethodName)) ∈ TB := tb_of 838 (by decide +kernel) (by decide +kernel)
theorem t_839 : (Jvm.Cond.code (⟨"PacketOrderModel", "rows", "(II)I"⟩ : MethodName) prog_8_method_14_code 4 (Option.some Jvm.ClassFile.FieldType.int)) ∈ TB := tb_of 839 (by decide +kernel) (by decide +kernel)
theorem t_840 : (Jvm.Cond.constantLong "PacketOrderModel" 130 (4096 : Int64)) ∈ TB := tb_of 840 (by decide +kernel) (by decide +kernel)
theorem t_841 : (Jvm.Cond.methodLink "PacketOrderModel" 132 (⟨"PacketOrderModel", "list", "(II)V"⟩ : MethodName)) ∈ TB := tb_of 841 (by decide +kernel) (by decide +kernel)
theorem t_843 : (Jvm.Cond.instanceMethod (⟨"PacketOrderModel", "list", "(II)V"⟩ : MethodName)) ∈ TB := tb_of 843 (by decide +kernel) (by decide +kernel)
theorem t_844 : (Jvm.Cond.code (⟨"PacketOrderModel", "list", "(II)V"⟩ : MethodName) prog_8_method_17_code 9 (Option.none : Option Jvm.ClassFile.FieldType)) ∈ TB := tb_of 844 (by decide +kernel) (by decide +kernel)
theorem t_845 : (Jvm.Cond.methodLink "PacketOrderModel" 122 (⟨"PacketOrderModel", "place", "(IIIII)J"⟩ : MethodName)) ∈ TB := tb_of 845 (by decide +kernel) (by decide +kernel)
theorem t_846 : (Jvm.Cond.static (⟨"PacketOrderModel", "place", "(IIIII)J"⟩ : MethodName)) ∈ TB := tb_of 846 (by decide +kernel) (by decide +kernel)
theorem t_847 : (Jvm.Cond.code (⟨"PacketOrderModel", "place", "(IIIII)J"⟩ : MethodName) prog_8_method_16_code 7 (Option.some Jvm.ClassFile.FieldType.long)) ∈ TB := tb_of 847 (by decide +kernel) (by decide +kernel)
theorem t_848 : (Jvm.Cond.methodLink "PacketOrderModel" 141 (⟨"PacketOrderModel", "enter", "()V"⟩ : MethodName)) ∈ TB := tb_of 848 (by decide +kernel) (by decide +kernel)
theorem t_850 : (Jvm.Cond.instanceMethod (⟨"PacketOrderModel", "enter", "()V"⟩ : MethodName)) ∈ TB := tb_of 850 (by decide +kernel) (by decide +kernel)
theorem t_851 : (Jvm.Cond.code (⟨"PacketOrderModel", "enter", "()V"⟩ : MethodName) prog_8_method_30_code 1 (Option.none : Option Jvm.ClassFile.FieldType)) ∈ TB := tb_of 851 (by decide +kernel) (by decide +kernel)
theorem t_852 : (Jvm.Cond.methodLink "PacketOrderModel" 164 (⟨"PacketOrderModel", "ways", "()I"⟩ : MethodName)) ∈ TB := tb_of 852 (by decide +kernel) (by decide +kernel)
theorem t_854 : (Jvm.Cond.instanceMethod (⟨"PacketOrderModel", "ways", "()I"⟩ : MethodName)) ∈ TB := tb_of 854 (by decide +kernel) (by decide +kernel)
theorem t_855 : (Jvm.Cond.code (⟨"PacketOrderModel", "ways", "()I"⟩ : MethodName) prog_8_method_28_code 1 (Option.some Jvm.ClassFile.FieldType.int)) ∈ TB := tb_of 855 (by decide +kernel) (by decide +kernel)
theorem t_856 : (Jvm.Cond.methodLink "PacketOrderModel" 168 (⟨"PacketOrderModel", "orderNow", "()I"⟩ : MethodName)) ∈ TB := tb_of 856 (by decide +kernel) (by decide +kernel)
theorem t_858 : (Jvm.Cond.instanceMethod (⟨"PacketOrderModel", "orderNow", "()I"⟩ : MethodName)) ∈ TB := tb_of 858 (by decide +kernel) (by decide +kernel)
theorem t_859 : (Jvm.Cond.code (⟨"PacketOrderModel", "orderNow", "()I"⟩ : MethodName) prog_8_method_26_code 1 (Option.some Jvm.ClassFile.FieldType.int)) ∈ TB := tb_of 859 (by decide +kernel) (by decide +kernel)
theorem t_860 : (Jvm.Cond.methodLink "PacketOrderModel" 171 (⟨"PacketOrderModel", "sort", "(I)V"⟩ : MethodName)) ∈ TB := tb_of 860 (by decide +kernel) (by decide +kernel)
theorem t_862 : (Jvm.Cond.instanceMethod (⟨"PacketOrderModel", "sort", "(I)V"⟩ : MethodName)) ∈ TB := tb_of 862 (by decide +kernel) (by decide +kernel)
theorem t_863 : (Jvm.Cond.code (⟨"PacketOrderModel", "sort", "(I)V"⟩ : MethodName) prog_8_method_25_code 6 (Option.none : Option Jvm.ClassFile.FieldType)) ∈ TB := tb_of 863 (by decide +kernel) (by decide +kernel)
theorem t_864 : (Jvm.Cond.methodLink "PacketOrderModel" 160 (⟨"PacketOrderModel", "compare", "(III)I"⟩ : MethodName)) ∈ TB := tb_of 864 (by decide +kernel) (by decide +kernel)
theorem t_866 : (Jvm.Cond.instanceMethod (⟨"PacketOrderModel", "compare", "(III)I"⟩ : MethodName)) ∈ TB := tb_of 866 (by decide +kernel) (by decide +kernel)
theorem t_867 : (Jvm.Cond.code (⟨"PacketOrderModel", "compare", "(III)I"⟩ : MethodName) prog_8_method_24_code 5 (Option.some Jvm.ClassFile.FieldType.int)) ∈ TB := tb_of 867 (by decide +kernel) (by decide +kernel)
theorem t_868 : (Jvm.Cond.methodLink "PacketOrderModel" 144 (⟨"PacketOrderModel", "sign", "(JJ)I"⟩ : MethodName)) ∈ TB := tb_of 868 (by decide +kernel) (by decide +kernel)
theorem t_870 : (Jvm.Cond.instanceMethod (⟨"PacketOrderModel", "sign", "(JJ)I"⟩ : MethodName)) ∈ TB := tb_of 870 (by decide +kernel) (by decide +kernel)
theorem t_871 : (Jvm.Cond.code (⟨"PacketOrderModel", "sign", "(JJ)I"⟩ : MethodName) prog_8_method_19_code 5 (Option.some Jvm.ClassFile.FieldType.int)) ∈ TB := tb_of 871 (by decide +kernel) (by decide +kernel)
theorem t_872 : (Jvm.Cond.methodLink "PacketOrderModel" 148 (⟨"PacketOrderModel", "byLevel", "(II)I"⟩ : MethodName)) ∈ TB := tb_of 872 (by decide +kernel) (by decide +kernel)
theorem t_874 : (Jvm.Cond.instanceMethod (⟨"PacketOrderModel", "byLevel", "(II)I"⟩ : MethodName)) ∈ TB := tb_of 874 (by decide +kernel) (by decide +kernel)
theorem t_875 : (Jvm.Cond.code (⟨"PacketOrderModel", "byLevel", "(II)I"⟩ : MethodName) prog_8_method_22_code 3 (Option.some Jvm.ClassFile.FieldType.int)) ∈ TB := tb_of 875 (by decide +kernel) (by decide +kernel)
theorem t_876 : (Jvm.Cond.methodLink "PacketOrderModel" 151 (⟨"PacketOrderModel", "byComponent", "(II)I"⟩ : MethodName)) ∈ TB := tb_of 876 (by decide +kernel) (by decide +kernel)
theorem t_878 : (Jvm.Cond.instanceMethod (⟨"PacketOrderModel", "byComponent", "(II)I"⟩ : MethodName)) ∈ TB := tb_of 878 (by decide +kernel) (by decide +kernel)
theorem t_879 : (Jvm.Cond.code (⟨"PacketOrderModel", "byComponent", "(II)I"⟩ : MethodName) prog_8_method_21_code 3 (Option.some Jvm.ClassFile.FieldType.int)) ∈ TB := tb_of 879 (by decide +kernel) (by decide +kernel)
theorem t_880 : (Jvm.Cond.methodLink "PacketOrderModel" 154 (⟨"PacketOrderModel", "then", "(II)I"⟩ : MethodName)) ∈ TB := tb_of 880 (by decide +kernel) (by decide +kernel)
theorem t_881 : (Jvm.Cond.static (⟨"PacketOrderModel", "then", "(II)I"⟩ : MethodName)) ∈ TB := tb_of 881 (by decide +kernel) (by decide +kernel)
theorem t_882 : (Jvm.Cond.code (⟨"PacketOrderModel", "then", "(II)I"⟩ : MethodName) prog_8_method_23_code 2 (Option.some Jvm.ClassFile.FieldType.int)) ∈ TB := tb_of 882 (by decide +kernel) (by decide +kernel)
theorem t_883 : (Jvm.Cond.methodLink "PacketOrderModel" 157 (⟨"PacketOrderModel", "byPlace", "(II)I"⟩ : MethodName)) ∈ TB := tb_of 883 (by decide +kernel) (by decide +kernel)
theorem t_885 : (Jvm.Cond.instanceMethod (⟨"PacketOrderModel", "byPlace", "(II)I"⟩ : MethodName)) ∈ TB := tb_of 885 (by decide +kernel) (by decide +kernel)
theorem t_886 : (Jvm.Cond.code (⟨"PacketOrderModel", "byPlace", "(II)I"⟩ : MethodName) prog_8_method_20_code 4 (Option.some Jvm.ClassFile.FieldType.int)) ∈ TB := tb_of 886 (by decide +kernel) (by decide +kernel)
theorem t_887 : (Jvm.Cond.methodLink "PacketOrderModel" 178 (⟨"PacketOrderModel", "findGroup", "()V"⟩ : MethodName)) ∈ TB := tb_of 887 (by decide +kernel) (by decide +kernel)
theorem t_889 : (Jvm.Cond.instanceMethod (⟨"PacketOrderModel", "findGroup", "()V"⟩ : MethodName)) ∈ TB := tb_of 889 (by decide +kernel) (by decide +kernel)
theorem t_890 : (Jvm.Cond.code (⟨"PacketOrderModel", "findGroup", "()V"⟩ : MethodName) prog_8_method_31_code 2 (Option.none : Option Jvm.ClassFile.FieldType)) ∈ TB := tb_of 890 (by decide +kernel) (by decide +kernel)
theorem t_891 : (Jvm.Cond.methodLink "PacketOrderLaw" 92 (⟨"PacketOrderModel", "next", "()Z"⟩ : MethodName)) ∈ TB := tb_of 891 (by decide +kernel) (by decide +kernel)
theorem t_892 : (Jvm.Cond.instanceMethod (⟨"PacketOrderModel", "next", "()Z"⟩ : MethodName)) ∈ TB := tb_of 892 (by decide +kernel) (by decide +kernel)
theorem t_893 : (Jvm.Cond.selects "PacketOrderModel" (⟨"PacketOrderModel", "next", "()Z"⟩ : MethodName) (⟨"PacketOrderModel", "next", "()Z"⟩ : MethodName)) ∈ TB := tb_of 893 (by decide +kernel) (by decide +kernel)
theorem t_894 : (Jvm.Cond.code (⟨"PacketOrderModel", "next", "()Z"⟩ : MethodName) prog_8_method_34_code 1 (Option.some Jvm.ClassFile.FieldType.boolean)) ∈ TB := tb_of 894 (by decide +kernel) (by decide +kernel)
theorem t_895 : (Jvm.Cond.methodLink "PacketOrderModel" 209 (⟨"PacketOrderModel", "advance", "()Z"⟩ : MethodName)) ∈ TB := tb_of 895 (by decide +kernel) (by decide +kernel)
theorem t_897 : (Jvm.Cond.instanceMethod (⟨"PacketOrderModel", "advance", "()Z"⟩ : MethodName)) ∈ TB := tb_of 897 (by decide +kernel) (by decide +kernel)
theorem t_898 : (Jvm.Cond.code (⟨"PacketOrderModel", "advance", "()Z"⟩ : MethodName) prog_8_method_33_code 3 (Option.some Jvm.ClassFile.FieldType.boolean)) ∈ TB := tb_of 898 (by decide +kernel) (by decide +kernel)
theorem t_899 : (Jvm.Cond.methodLink "PacketOrderModel" 193 (⟨"PacketOrderModel", "belongs", "(I)Z"⟩ : MethodName)) ∈ TB := tb_of 899 (by decide +kernel) (by decide +kernel)
theorem t_901 : (Jvm.Cond.instanceMethod (⟨"PacketOrderModel", "belongs", "(I)Z"⟩ : MethodName)) ∈ TB := tb_of 901 (by decide +kernel) (by decide +kernel)
theorem t_902 : (Jvm.Cond.code (⟨"PacketOrderModel", "belongs", "(I)Z"⟩ : MethodName) prog_8_method_29_code 3 (Option.some Jvm.ClassFile.FieldType.boolean)) ∈ TB := tb_of 902 (by decide +kernel) (by decide +kernel)
theorem t_903 : (Jvm.Cond.methodLink "PacketOrderModel" 206 (⟨"PacketOrderModel", "move", "()V"⟩ : MethodName)) ∈ TB := tb_of 903 (by decide +kernel) (by decide +kernel)
theorem t_905 : (Jvm.Cond.instanceMethod (⟨"PacketOrderModel", "move", "()V"⟩ : MethodName)) ∈ TB := tb_of 905 (by decide +kernel) (by decide +kernel)
theorem t_906 : (Jvm.Cond.code (⟨"PacketOrderModel", "move", "()V"⟩ : MethodName) prog_8_method_32_code 1 (Option.none : Option Jvm.ClassFile.FieldType)) ∈ TB := tb_of 906 (by decide +kernel) (by decide +kernel)
theorem t_907 : (Jvm.Cond.methodLink "PacketOrderModel" 190 (⟨"PacketOrderModel", "layerEnd", "()I"⟩ : MethodName)) ∈ TB := tb_of 907 (by decide +kernel) (by decide +kernel)
theorem t_909 : (Jvm.Cond.instanceMethod (⟨"PacketOrderModel", "layerEnd", "()I"⟩ : MethodName)) ∈ TB := tb_of 909 (by decide +kernel) (by decide +kernel)
theorem t_910 : (Jvm.Cond.code (⟨"PacketOrderModel", "layerEnd", "()I"⟩ : MethodName) prog_8_method_27_code 2 (Option.some Jvm.ClassFile.FieldType.int)) ∈ TB := tb_of 910 (by decide +kernel) (by decide +kernel)
theorem t_911 : (Jvm.Cond.methodLink "PacketOrderLaw" 96 (⟨"PacketOrderModel", "skip", "(I)I"⟩ : MethodName)) ∈ TB := tb_of 911 (by decide +kernel) (by decide +kernel)
theorem t_912 : (Jvm.Cond.instanceMethod (⟨"PacketOrderModel", "skip", "(I)I"⟩ : MethodName)) ∈ TB := tb_of 912 (by decide +kernel) (by decide +kernel)
theorem t_913 : (Jvm.Cond.selects "PacketOrderModel" (⟨"PacketOrderModel", "skip", "(I)I"⟩ : MethodName) (⟨"PacketOrderModel", "skip", "(I)I"⟩ : MethodName)) ∈ TB := tb_of 913 (by decide +kernel) (by decide +kernel)
theorem t_914 : (Jvm.Cond.code (⟨"PacketOrderModel", "skip", "(I)I"⟩ : MethodName) prog_8_method_35_code 3 (Option.some Jvm.ClassFile.FieldType.int)) ∈ TB := tb_of 914 (by decide +kernel) (by decide +kernel)
theorem t_915 : (Jvm.Cond.methodLink "PacketOrderLaw" 99 (⟨"PacketOrderModel", "packet", "(I)I"⟩ : MethodName)) ∈ TB := tb_of 915 (by decide +kernel) (by decide +kernel)
theorem t_916 : (Jvm.Cond.instanceMethod (⟨"PacketOrderModel", "packet", "(I)I"⟩ : MethodName)) ∈ TB := tb_of 916 (by decide +kernel) (by decide +kernel)
theorem t_917 : (Jvm.Cond.selects "PacketOrderModel" (⟨"PacketOrderModel", "packet", "(I)I"⟩ : MethodName) (⟨"PacketOrderModel", "packet", "(I)I"⟩ : MethodName)) ∈ TB := tb_of 917 (by decide +kernel) (by decide +kernel)
theorem t_918 : (Jvm.Cond.code (⟨"PacketOrderModel", "packet", "(I)I"⟩ : MethodName) prog_8_method_36_code 2 (Option.some Jvm.ClassFile.FieldType.int)) ∈ TB := tb_of 918 (by decide +kernel) (by decide +kernel)
theorem t_919 : (Jvm.Cond.methodLink "PacketOrderLaw" 102 (⟨"PacketOrderModel", "came", "(III)I"⟩ : MethodName)) ∈ TB := tb_of 919 (by decide +kernel) (by decide +kernel)
theorem t_920 : (Jvm.Cond.instanceMethod (⟨"PacketOrderModel", "came", "(III)I"⟩ : MethodName)) ∈ TB := tb_of 920 (by decide +kernel) (by decide +kernel)
theorem t_921 : (Jvm.Cond.selects "PacketOrderModel" (⟨"PacketOrderModel", "came", "(III)I"⟩ : MethodName) (⟨"PacketOrderModel", "came", "(III)I"⟩ : MethodName)) ∈ TB := tb_of 921 (by decide +kernel) (by decide +kernel)
theorem t_922 : (Jvm.Cond.code (⟨"PacketOrderModel", "came", "(III)I"⟩ : MethodName) prog_8_method_37_code 6 (Option.some Jvm.ClassFile.FieldType.int)) ∈ TB := tb_of 922 (by decide +kernel) (by decide +kernel)
theorem t_923 : (Jvm.Cond.sameMethod "java/lang/Throwable" "java/lang/Throwable" "fillInStackTrace" "(I)Ljava/lang/Throwable;") ∈ TB := tb_of 923 (by decide +kernel) (by decide +kernel)
theorem t_926 : (Jvm.Cond.sameMethod "[Ljava/lang/Object;" "java/lang/Object" "getClass" "()Ljava/lang/Class;") ∈ TB := tb_of 926 (by decide +kernel) (by decide +kernel)
theorem t_927 : (Jvm.Cond.selects "[Ljava/lang/Object;" (⟨"java/lang/Object", "getClass", "()Ljava/lang/Class;"⟩ : MethodName) (⟨"java/lang/Object", "getClass", "()Ljava/lang/Class;"⟩ : MethodName)) ∈ TB := tb_of 927 (by decide +kernel) (by decide +kernel)
theorem s_0 : (Jvm.Cond.selects "java/lang/Throwable" (⟨"java/lang/Throwable", "fillInStackTrace", "(I)Ljava/lang/Throwable;"⟩ : MethodName) (⟨"java/lang/Throwable", "fillInStackTrace", "(I)Ljava/lang/Throwable;"⟩ : MethodName)) ∈ TB := tb_pv 0 (by decide +kernel) (by decide +kernel)
theorem s_1 : (Jvm.Cond.selects "java/util/ArrayList" (⟨"java/util/ArrayList", "add", "(Ljava/lang/Object;[Ljava/lang/Object;I)V"⟩ : MethodName) (⟨"java/util/ArrayList", "add", "(Ljava/lang/Object;[Ljava/lang/Object;I)V"⟩ : MethodName)) ∈ TB := tb_pv 1 (by decide +kernel) (by decide +kernel)
theorem s_2 : (Jvm.Cond.selects "java/util/ArrayList" (⟨"java/util/ArrayList", "grow", "()[Ljava/lang/Object;"⟩ : MethodName) (⟨"java/util/ArrayList", "grow", "()[Ljava/lang/Object;"⟩ : MethodName)) ∈ TB := tb_pv 2 (by decide +kernel) (by decide +kernel)
theorem s_3 : (Jvm.Cond.selects "java/util/ArrayList" (⟨"java/util/ArrayList", "grow", "(I)[Ljava/lang/Object;"⟩ : MethodName) (⟨"java/util/ArrayList", "grow", "(I)[Ljava/lang/Object;"⟩ : MethodName)) ∈ TB := tb_pv 3 (by decide +kernel) (by decide +kernel)
theorem s_4 : (Jvm.Cond.selects "PacketOrder" (⟨"PacketOrder", "levelOf", "(II)LPacketOrder$Level;"⟩ : MethodName) (⟨"PacketOrder", "levelOf", "(II)LPacketOrder$Level;"⟩ : MethodName)) ∈ TB := tb_pv 4 (by decide +kernel) (by decide +kernel)
theorem s_5 : (Jvm.Cond.selects "PacketOrder" (⟨"PacketOrder", "measureLevels", "()J"⟩ : MethodName) (⟨"PacketOrder", "measureLevels", "()J"⟩ : MethodName)) ∈ TB := tb_pv 5 (by decide +kernel) (by decide +kernel)
theorem s_6 : (Jvm.Cond.selects "PacketOrder$Span" (⟨"PacketOrder$Span", "onLevel", "(I)J"⟩ : MethodName) (⟨"PacketOrder$Span", "onLevel", "(I)J"⟩ : MethodName)) ∈ TB := tb_pv 6 (by decide +kernel) (by decide +kernel)
theorem s_7 : (Jvm.Cond.selects "PacketOrder$Row" (⟨"PacketOrder$Row", "openGroup", "(I)V"⟩ : MethodName) (⟨"PacketOrder$Row", "openGroup", "(I)V"⟩ : MethodName)) ∈ TB := tb_pv 7 (by decide +kernel) (by decide +kernel)
theorem s_8 : (Jvm.Cond.selects "PacketOrder$Row" (⟨"PacketOrder$Row", "precinctAt", "(I)I"⟩ : MethodName) (⟨"PacketOrder$Row", "precinctAt", "(I)I"⟩ : MethodName)) ∈ TB := tb_pv 8 (by decide +kernel) (by decide +kernel)
theorem s_9 : (Jvm.Cond.selects "PacketOrder" (⟨"PacketOrder", "takePackets", "(I)I"⟩ : MethodName) (⟨"PacketOrder", "takePackets", "(I)I"⟩ : MethodName)) ∈ TB := tb_pv 9 (by decide +kernel) (by decide +kernel)
theorem s_10 : (Jvm.Cond.selects "PacketOrder$Row" (⟨"PacketOrder$Row", "takeOfGroup", "(I)I"⟩ : MethodName) (⟨"PacketOrder$Row", "takeOfGroup", "(I)I"⟩ : MethodName)) ∈ TB := tb_pv 10 (by decide +kernel) (by decide +kernel)
theorem s_11 : (Jvm.Cond.selects "PacketOrder$Row" (⟨"PacketOrder$Row", "takeWholeLayers", "(I)I"⟩ : MethodName) (⟨"PacketOrder$Row", "takeWholeLayers", "(I)I"⟩ : MethodName)) ∈ TB := tb_pv 11 (by decide +kernel) (by decide +kernel)
theorem s_12 : (Jvm.Cond.selects "PacketOrder$Row" (⟨"PacketOrder$Row", "packetsBefore", "(I)I"⟩ : MethodName) (⟨"PacketOrder$Row", "packetsBefore", "(I)I"⟩ : MethodName)) ∈ TB := tb_pv 12 (by decide +kernel) (by decide +kernel)
theorem s_13 : (Jvm.Cond.selects "PacketOrder$Row" (⟨"PacketOrder$Row", "takeOfLayer", "(I)I"⟩ : MethodName) (⟨"PacketOrder$Row", "takeOfLayer", "(I)I"⟩ : MethodName)) ∈ TB := tb_pv 13 (by decide +kernel) (by decide +kernel)
theorem s_14 : (Jvm.Cond.selects "PacketOrder" (⟨"PacketOrder", "fillRow", "(LPacketOrder$Change;)V"⟩ : MethodName) (⟨"PacketOrder", "fillRow", "(LPacketOrder$Change;)V"⟩ : MethodName)) ∈ TB := tb_pv 14 (by decide +kernel) (by decide +kernel)
theorem s_15 : (Jvm.Cond.selects "PacketOrder" (⟨"PacketOrder", "enlist", "(LPacketOrder$Level;I)V"⟩ : MethodName) (⟨"PacketOrder", "enlist", "(LPacketOrder$Level;I)V"⟩ : MethodName)) ∈ TB := tb_pv 15 (by decide +kernel) (by decide +kernel)
theorem s_16 : (Jvm.Cond.selects "PacketOrder$Row" (⟨"PacketOrder$Row", "sort", "()V"⟩ : MethodName) (⟨"PacketOrder$Row", "sort", "()V"⟩ : MethodName)) ∈ TB := tb_pv 16 (by decide +kernel) (by decide +kernel)
theorem s_17 : (Jvm.Cond.selects "PacketOrder$Row" (⟨"PacketOrder$Row", "merge", "(III)V"⟩ : MethodName) (⟨"PacketOrder$Row", "merge", "(III)V"⟩ : MethodName)) ∈ TB := tb_pv 17 (by decide +kernel) (by decide +kernel)
theorem s_18 : (Jvm.Cond.selects "PacketOrder" (⟨"PacketOrder", "levelWith", "(I)LPacketOrder$Level;"⟩ : MethodName) (⟨"PacketOrder", "levelWith", "(I)LPacketOrder$Level;"⟩ : MethodName)) ∈ TB := tb_pv 18 (by decide +kernel) (by decide +kernel)
theorem s_19 : (Jvm.Cond.selects "PacketOrderModel" (⟨"PacketOrderModel", "refuse", "(ZZ)Z"⟩ : MethodName) (⟨"PacketOrderModel", "refuse", "(ZZ)Z"⟩ : MethodName)) ∈ TB := tb_pv 19 (by decide +kernel) (by decide +kernel)
theorem s_20 : (Jvm.Cond.selects "PacketOrderModel" (⟨"PacketOrderModel", "isLevel", "(II)Z"⟩ : MethodName) (⟨"PacketOrderModel", "isLevel", "(II)Z"⟩ : MethodName)) ∈ TB := tb_pv 20 (by decide +kernel) (by decide +kernel)
theorem s_21 : (Jvm.Cond.selects "PacketOrderModel" (⟨"PacketOrderModel", "count", "()J"⟩ : MethodName) (⟨"PacketOrderModel", "count", "()J"⟩ : MethodName)) ∈ TB := tb_pv 21 (by decide +kernel) (by decide +kernel)
theorem s_22 : (Jvm.Cond.selects "PacketOrderModel" (⟨"PacketOrderModel", "findLevel", "(II)V"⟩ : MethodName) (⟨"PacketOrderModel", "findLevel", "(II)V"⟩ : MethodName)) ∈ TB := tb_pv 22 (by decide +kernel) (by decide +kernel)
theorem s_23 : (Jvm.Cond.selects "PacketOrderModel" (⟨"PacketOrderModel", "columns", "(II)I"⟩ : MethodName) (⟨"PacketOrderModel", "columns", "(II)I"⟩ : MethodName)) ∈ TB := tb_pv 23 (by decide +kernel) (by decide +kernel)
theorem s_24 : (Jvm.Cond.selects "PacketOrderModel" (⟨"PacketOrderModel", "rows", "(II)I"⟩ : MethodName) (⟨"PacketOrderModel", "rows", "(II)I"⟩ : MethodName)) ∈ TB := tb_pv 24 (by decide +kernel) (by decide +kernel)
theorem s_25 : (Jvm.Cond.selects "PacketOrderModel" (⟨"PacketOrderModel", "list", "(II)V"⟩ : MethodName) (⟨"PacketOrderModel", "list", "(II)V"⟩ : MethodName)) ∈ TB := tb_pv 25 (by decide +kernel) (by decide +kernel)
theorem s_26 : (Jvm.Cond.selects "PacketOrderModel" (⟨"PacketOrderModel", "enter", "()V"⟩ : MethodName) (⟨"PacketOrderModel", "enter", "()V"⟩ : MethodName)) ∈ TB := tb_pv 26 (by decide +kernel) (by decide +kernel)
theorem s_27 : (Jvm.Cond.selects "PacketOrderModel" (⟨"PacketOrderModel", "ways", "()I"⟩ : MethodName) (⟨"PacketOrderModel", "ways", "()I"⟩ : MethodName)) ∈ TB := tb_pv 27 (by decide +kernel) (by decide +kernel)
theorem s_28 : (Jvm.Cond.selects "PacketOrderModel" (⟨"PacketOrderModel", "orderNow", "()I"⟩ : MethodName) (⟨"PacketOrderModel", "orderNow", "()I"⟩ : MethodName)) ∈ TB := tb_pv 28 (by decide +kernel) (by decide +kernel)
theorem s_29 : (Jvm.Cond.selects "PacketOrderModel" (⟨"PacketOrderModel", "sort", "(I)V"⟩ : MethodName) (⟨"PacketOrderModel", "sort", "(I)V"⟩ : MethodName)) ∈ TB := tb_pv 29 (by decide +kernel) (by decide +kernel)
theorem s_30 : (Jvm.Cond.selects "PacketOrderModel" (⟨"PacketOrderModel", "compare", "(III)I"⟩ : MethodName) (⟨"PacketOrderModel", "compare", "(III)I"⟩ : MethodName)) ∈ TB := tb_pv 30 (by decide +kernel) (by decide +kernel)
theorem s_31 : (Jvm.Cond.selects "PacketOrderModel" (⟨"PacketOrderModel", "sign", "(JJ)I"⟩ : MethodName) (⟨"PacketOrderModel", "sign", "(JJ)I"⟩ : MethodName)) ∈ TB := tb_pv 31 (by decide +kernel) (by decide +kernel)
theorem s_32 : (Jvm.Cond.selects "PacketOrderModel" (⟨"PacketOrderModel", "byLevel", "(II)I"⟩ : MethodName) (⟨"PacketOrderModel", "byLevel", "(II)I"⟩ : MethodName)) ∈ TB := tb_pv 32 (by decide +kernel) (by decide +kernel)
theorem s_33 : (Jvm.Cond.selects "PacketOrderModel" (⟨"PacketOrderModel", "byComponent", "(II)I"⟩ : MethodName) (⟨"PacketOrderModel", "byComponent", "(II)I"⟩ : MethodName)) ∈ TB := tb_pv 33 (by decide +kernel) (by decide +kernel)
theorem s_34 : (Jvm.Cond.selects "PacketOrderModel" (⟨"PacketOrderModel", "byPlace", "(II)I"⟩ : MethodName) (⟨"PacketOrderModel", "byPlace", "(II)I"⟩ : MethodName)) ∈ TB := tb_pv 34 (by decide +kernel) (by decide +kernel)
theorem s_35 : (Jvm.Cond.selects "PacketOrderModel" (⟨"PacketOrderModel", "findGroup", "()V"⟩ : MethodName) (⟨"PacketOrderModel", "findGroup", "()V"⟩ : MethodName)) ∈ TB := tb_pv 35 (by decide +kernel) (by decide +kernel)
theorem s_36 : (Jvm.Cond.selects "PacketOrderModel" (⟨"PacketOrderModel", "advance", "()Z"⟩ : MethodName) (⟨"PacketOrderModel", "advance", "()Z"⟩ : MethodName)) ∈ TB := tb_pv 36 (by decide +kernel) (by decide +kernel)
theorem s_37 : (Jvm.Cond.selects "PacketOrderModel" (⟨"PacketOrderModel", "belongs", "(I)Z"⟩ : MethodName) (⟨"PacketOrderModel", "belongs", "(I)Z"⟩ : MethodName)) ∈ TB := tb_pv 37 (by decide +kernel) (by decide +kernel)
theorem s_38 : (Jvm.Cond.selects "PacketOrderModel" (⟨"PacketOrderModel", "move", "()V"⟩ : MethodName) (⟨"PacketOrderModel", "move", "()V"⟩ : MethodName)) ∈ TB := tb_pv 38 (by decide +kernel) (by decide +kernel)
theorem s_39 : (Jvm.Cond.selects "PacketOrderModel" (⟨"PacketOrderModel", "layerEnd", "()I"⟩ : MethodName) (⟨"PacketOrderModel", "layerEnd", "()I"⟩ : MethodName)) ∈ TB := tb_pv 39 (by decide +kernel) (by decide +kernel)
def nbk : Cond → Bool
  | .fieldLinkNest _ _ _ _ _ _ => true
  | .methodLinkNest _ _ _ _ => true
  | .castable _ _ => true
  | .declares _ => true
  | .arrayOver (.object _) => true
  | _ => false
theorem nb_warm {w : Cond} (hk : nbk w = true) {s U : State} (hW : s.WarmedH U.vm) (h : va_Nw w s) : va_Nw w U := by
  unfold nbk at hk
  split at hk
  · exact va_Nw.warmF hW h
  · exact va_Nw.warmM hW h
  · exact va_Nw.warmC hW h
  · exact va_Nw.warmD hW h
  · exact va_AO.moved hW.alike h
  · cases hk
theorem nb_same {w : Cond} (hk : nbk w = true) {u U : State} (hv : u.vm = U.vm) (h : va_Nw w u) : va_Nw w U := by
  unfold nbk at hk
  split at hk
  · exact va_Nw.same rfl hv h
  · exact va_Nw.same rfl hv h
  · exact va_Nw.same rfl hv h
  · exact va_Nw.same rfl hv h
  · exact va_AO.moved (by rw [hv]; exact Vm.Alike.refl _) h
  · cases hk
def NB : List Cond := lw_tbl.filter nbk
theorem nb_of {w : Cond} (k : Nat) (h : tables_1[k]? = some w) (hg : nbk w = true) : w ∈ NB := List.mem_filter.mpr ⟨List.mem_append_right _ (List.mem_of_getElem? h), hg⟩
theorem n_60 : (Jvm.Cond.methodLinkNest "PacketOrder" 21 (⟨"PacketOrder$Row", "<init>", "()V"⟩ : MethodName) "PacketOrder") ∈ NB := nb_of 60 (by decide +kernel) (by decide +kernel)
theorem n_68 : (Jvm.Cond.fieldLinkNest "PacketOrder" 229 "PacketOrder$Row" "size" "I" "PacketOrder") ∈ NB := nb_of 68 (by decide +kernel) (by decide +kernel)
theorem n_75 : (Jvm.Cond.fieldLinkNest "PacketOrder" 168 "PacketOrder$Row" "last" "I" "PacketOrder") ∈ NB := nb_of 75 (by decide +kernel) (by decide +kernel)
theorem n_106 : (Jvm.Cond.fieldLinkNest "PacketOrder" 242 "PacketOrder$Change" "firstLevel" "I" "PacketOrder") ∈ NB := nb_of 106 (by decide +kernel) (by decide +kernel)
theorem n_108 : (Jvm.Cond.fieldLinkNest "PacketOrder" 245 "PacketOrder$Change" "levelEnd" "I" "PacketOrder") ∈ NB := nb_of 108 (by decide +kernel) (by decide +kernel)
theorem n_110 : (Jvm.Cond.fieldLinkNest "PacketOrder" 248 "PacketOrder$Change" "firstComponent" "I" "PacketOrder") ∈ NB := nb_of 110 (by decide +kernel) (by decide +kernel)
theorem n_112 : (Jvm.Cond.fieldLinkNest "PacketOrder" 239 "PacketOrder$Change" "componentEnd" "I" "PacketOrder") ∈ NB := nb_of 112 (by decide +kernel) (by decide +kernel)
theorem n_114 : (Jvm.Cond.fieldLinkNest "PacketOrder" 231 "PacketOrder$Change" "layerEnd" "I" "PacketOrder") ∈ NB := nb_of 114 (by decide +kernel) (by decide +kernel)
theorem n_116 : (Jvm.Cond.fieldLinkNest "PacketOrder" 251 "PacketOrder$Change" "order" "I" "PacketOrder") ∈ NB := nb_of 116 (by decide +kernel) (by decide +kernel)
theorem n_188 : (Jvm.Cond.castable "java/lang/IllegalArgumentException" "java/lang/IllegalArgumentException") ∈ NB := nb_of 188 (by decide +kernel) (by decide +kernel)
theorem n_189 : (Jvm.Cond.declares (⟨"java/lang/RuntimeException", "<init>", "()V"⟩ : MethodName)) ∈ NB := nb_of 189 (by decide +kernel) (by decide +kernel)
theorem n_190 : (Jvm.Cond.declares (⟨"java/lang/RuntimeException", "<init>", "(Ljava/lang/String;)V"⟩ : MethodName)) ∈ NB := nb_of 190 (by decide +kernel) (by decide +kernel)
theorem n_191 : (Jvm.Cond.declares (⟨"java/lang/Exception", "<init>", "()V"⟩ : MethodName)) ∈ NB := nb_of 191 (by decide +kernel) (by decide +kernel)
theorem n_192 : (Jvm.Cond.declares (⟨"java/lang/Exception", "<init>", "(Ljava/lang/String;)V"⟩ : MethodName)) ∈ NB := nb_of 192 (by decide +kernel) (by decide +kernel)
theorem n_193 : (Jvm.Cond.declares (⟨"java/lang/Throwable", "<init>", "()V"⟩ : MethodName)) ∈ NB := nb_of 193 (by decide +kernel) (by decide +kernel)
theorem n_194 : (Jvm.Cond.declares (⟨"java/lang/Throwable", "<init>", "(Ljava/lang/String;)V"⟩ : MethodName)) ∈ NB := nb_of 194 (by decide +kernel) (by decide +kernel)
theorem n_275 : (Jvm.Cond.castable "java/lang/IllegalStateException" "java/lang/IllegalStateException") ∈ NB := nb_of 275 (by decide +kernel) (by decide +kernel)
theorem n_296 : (Jvm.Cond.arrayOver (Jvm.ClassFile.FieldType.object "PacketOrder$Level")) ∈ NB := nb_of 296 (by decide +kernel) (by decide +kernel)
theorem n_310 : (Jvm.Cond.fieldLinkNest "PacketOrder" 110 "PacketOrder$Span" "exponent" "I" "PacketOrder") ∈ NB := nb_of 310 (by decide +kernel) (by decide +kernel)
theorem n_313 : (Jvm.Cond.fieldLinkNest "PacketOrder$Level" 25 "PacketOrder$Span" "count" "I" "PacketOrder") ∈ NB := nb_of 313 (by decide +kernel) (by decide +kernel)
theorem n_315 : (Jvm.Cond.fieldLinkNest "PacketOrder" 261 "PacketOrder$Span" "count" "I" "PacketOrder") ∈ NB := nb_of 315 (by decide +kernel) (by decide +kernel)
theorem n_334 : (Jvm.Cond.fieldLinkNest "PacketOrder" 183 "PacketOrder$Level" "owner" "I" "PacketOrder") ∈ NB := nb_of 334 (by decide +kernel) (by decide +kernel)
theorem n_336 : (Jvm.Cond.fieldLinkNest "PacketOrder" 180 "PacketOrder$Level" "number" "I" "PacketOrder") ∈ NB := nb_of 336 (by decide +kernel) (by decide +kernel)
theorem n_338 : (Jvm.Cond.fieldLinkNest "PacketOrder" 104 "PacketOrder$Level" "across" "LPacketOrder$Span;" "PacketOrder") ∈ NB := nb_of 338 (by decide +kernel) (by decide +kernel)
theorem n_340 : (Jvm.Cond.fieldLinkNest "PacketOrder" 115 "PacketOrder$Level" "down" "LPacketOrder$Span;" "PacketOrder") ∈ NB := nb_of 340 (by decide +kernel) (by decide +kernel)
theorem n_342 : (Jvm.Cond.fieldLinkNest "PacketOrder" 186 "PacketOrder$Level" "firstPrecinct" "I" "PacketOrder") ∈ NB := nb_of 342 (by decide +kernel) (by decide +kernel)
theorem n_355 : (Jvm.Cond.fieldLinkNest "PacketOrder" 200 "PacketOrder$Component" "levels" "[LPacketOrder$Level;" "PacketOrder") ∈ NB := nb_of 355 (by decide +kernel) (by decide +kernel)
theorem n_406 : (Jvm.Cond.arrayOver (Jvm.ClassFile.FieldType.object "java/lang/Object")) ∈ NB := nb_of 406 (by decide +kernel) (by decide +kernel)
theorem n_444 : (Jvm.Cond.castable "java/util/NoSuchElementException" "java/util/NoSuchElementException") ∈ NB := nb_of 444 (by decide +kernel) (by decide +kernel)
theorem n_514 : (Jvm.Cond.castable "java/lang/UnsupportedOperationException" "java/lang/UnsupportedOperationException") ∈ NB := nb_of 514 (by decide +kernel) (by decide +kernel)
theorem n_924 : (Jvm.Cond.castable "PacketOrder$Component" "PacketOrder$Component") ∈ NB := nb_of 924 (by decide +kernel) (by decide +kernel)
theorem n_925 : (Jvm.Cond.castable "PacketOrder$Change" "PacketOrder$Change") ∈ NB := nb_of 925 (by decide +kernel) (by decide +kernel)
theorem n_928 : (Jvm.Cond.declares (⟨"java/lang/Object", "getClass", "()Ljava/lang/Class;"⟩ : MethodName)) ∈ NB := nb_of 928 (by decide +kernel) (by decide +kernel)
theorem n_929 : (Jvm.Cond.castable "PacketOrder" "java/lang/Object") ∈ NB := nb_of 929 (by decide +kernel) (by decide +kernel)
theorem n_930 : (Jvm.Cond.castable "PacketOrder$Row" "java/lang/Object") ∈ NB := nb_of 930 (by decide +kernel) (by decide +kernel)
theorem n_931 : (Jvm.Cond.castable "PacketOrder$Change" "java/lang/Object") ∈ NB := nb_of 931 (by decide +kernel) (by decide +kernel)
theorem n_932 : (Jvm.Cond.castable "PacketOrderModel" "java/lang/Object") ∈ NB := nb_of 932 (by decide +kernel) (by decide +kernel)
theorem n_933 : (Jvm.Cond.castable "PacketOrder$Component" "java/lang/Object") ∈ NB := nb_of 933 (by decide +kernel) (by decide +kernel)
theorem n_934 : (Jvm.Cond.castable "PacketOrder$Level" "java/lang/Object") ∈ NB := nb_of 934 (by decide +kernel) (by decide +kernel)
theorem n_935 : (Jvm.Cond.castable "PacketOrder$Span" "java/lang/Object") ∈ NB := nb_of 935 (by decide +kernel) (by decide +kernel)
theorem n_936 : (Jvm.Cond.castable "java/lang/String" "java/lang/Object") ∈ NB := nb_of 936 (by decide +kernel) (by decide +kernel)
end
section
/-! names: R_ a name, T_ its fields by slots, ty_ their types; y_, b_ a method and its bytes -/
abbrev R_po : String := "PacketOrder"
def T_po : u_T := fun k => match k with
  | 0 => ("PacketOrder", "x0", "I", false)
  | 1 => ("PacketOrder", "y0", "I", false)
  | 2 => ("PacketOrder", "x1", "I", false)
  | 3 => ("PacketOrder", "y1", "I", false)
  | 4 => ("PacketOrder", "hasTile", "Z", false)
  | 5 => ("PacketOrder", "components", "Ljava/util/ArrayList;", true)
  | 6 => ("PacketOrder", "layerCount", "I", false)
  | 7 => ("PacketOrder", "own", "LPacketOrder$Change;", false)
  | 8 => ("PacketOrder", "changes", "Ljava/util/ArrayList;", true)
  | 9 => ("PacketOrder", "hasSequence", "Z", false)
  | 10 => ("PacketOrder", "changeNow", "I", false)
  | 11 => ("PacketOrder", "changeOfLast", "I", false)
  | _ => ("PacketOrder", "row", "LPacketOrder$Row;", true)
def ty_po : Nat → FieldType := fun k => match k with
  | 0 => .int
  | 1 => .int
  | 2 => .int
  | 3 => .int
  | 4 => .boolean
  | 5 => .object "java/util/ArrayList"
  | 6 => .int
  | 7 => .object "PacketOrder$Change"
  | 8 => .object "java/util/ArrayList"
  | 9 => .boolean
  | 10 => .int
  | 11 => .int
  | _ => .object "PacketOrder$Row"
theorem nm_po : ∀ a, a < 13 → ∀ b, b < 13 → a ≠ b → (T_po a).2.1 ≠ (T_po b).2.1 := by decide +kernel
theorem tyok_po : ∀ k, k < 13 → parseFieldDescriptor (T_po k).2.2.1 = some (ty_po k) := by decide +kernel
theorem in_po : ∀ w ∈ u_ws R_po T_po 13, w ∈ TB := tb_all _ [143, 145, 147, 149, 151, 153, 155, 157, 159, 161, 163, 165, 167] (by decide +kernel) (by decide +kernel)
abbrev R_ch : String := "PacketOrder$Change"
def T_ch : u_T := fun k => match k with
  | 0 => ("PacketOrder$Change", "firstLevel", "I", true)
  | 1 => ("PacketOrder$Change", "levelEnd", "I", true)
  | 2 => ("PacketOrder$Change", "firstComponent", "I", true)
  | 3 => ("PacketOrder$Change", "componentEnd", "I", true)
  | 4 => ("PacketOrder$Change", "layerEnd", "I", true)
  | _ => ("PacketOrder$Change", "order", "I", true)
def ty_ch : Nat → FieldType := fun k => match k with
  | 0 => .int
  | 1 => .int
  | 2 => .int
  | 3 => .int
  | 4 => .int
  | _ => .int
theorem nm_ch : ∀ a, a < 6 → ∀ b, b < 6 → a ≠ b → (T_ch a).2.1 ≠ (T_ch b).2.1 := by decide +kernel
theorem tyok_ch : ∀ k, k < 6 → parseFieldDescriptor (T_ch k).2.2.1 = some (ty_ch k) := by decide +kernel
theorem in_ch : ∀ w ∈ u_ws R_ch T_ch 6, w ∈ TB := tb_all _ [117, 119, 121, 123, 125, 127] (by decide +kernel) (by decide +kernel)
abbrev R_co : String := "PacketOrder$Component"
def T_co : u_T := fun k => match k with
  | _ => ("PacketOrder$Component", "levels", "[LPacketOrder$Level;", true)
def ty_co : Nat → FieldType := fun k => match k with
  | _ => .array (.object "PacketOrder$Level")
theorem nm_co : ∀ a, a < 1 → ∀ b, b < 1 → a ≠ b → (T_co a).2.1 ≠ (T_co b).2.1 := by decide +kernel
theorem tyok_co : ∀ k, k < 1 → parseFieldDescriptor (T_co k).2.2.1 = some (ty_co k) := by decide +kernel
theorem in_co : ∀ w ∈ u_ws R_co T_co 1, w ∈ TB := tb_all _ [356] (by decide +kernel) (by decide +kernel)
abbrev R_le : String := "PacketOrder$Level"
def T_le : u_T := fun k => match k with
  | 0 => ("PacketOrder$Level", "owner", "I", true)
  | 1 => ("PacketOrder$Level", "number", "I", true)
  | 2 => ("PacketOrder$Level", "across", "LPacketOrder$Span;", true)
  | 3 => ("PacketOrder$Level", "down", "LPacketOrder$Span;", true)
  | _ => ("PacketOrder$Level", "firstPrecinct", "I", false)
def ty_le : Nat → FieldType := fun k => match k with
  | 0 => .int
  | 1 => .int
  | 2 => .object "PacketOrder$Span"
  | 3 => .object "PacketOrder$Span"
  | _ => .int
theorem nm_le : ∀ a, a < 5 → ∀ b, b < 5 → a ≠ b → (T_le a).2.1 ≠ (T_le b).2.1 := by decide +kernel
theorem tyok_le : ∀ k, k < 5 → parseFieldDescriptor (T_le k).2.2.1 = some (ty_le k) := by decide +kernel
theorem in_le : ∀ w ∈ u_ws R_le T_le 5, w ∈ TB := tb_all _ [343, 345, 347, 349, 351] (by decide +kernel) (by decide +kernel)
abbrev R_ro : String := "PacketOrder$Row"
def T_ro : u_T := fun k => match k with
  | 0 => ("PacketOrder$Row", "layersCome", "[I", false)
  | 1 => ("PacketOrder$Row", "keys", "[J", false)
  | 2 => ("PacketOrder$Row", "spare", "[J", false)
  | 3 => ("PacketOrder$Row", "size", "I", false)
  | 4 => ("PacketOrder$Row", "layerEnd", "I", false)
  | 5 => ("PacketOrder$Row", "groupStart", "I", false)
  | 6 => ("PacketOrder$Row", "groupEnd", "I", false)
  | 7 => ("PacketOrder$Row", "layer", "I", false)
  | 8 => ("PacketOrder$Row", "at", "I", false)
  | _ => ("PacketOrder$Row", "last", "I", false)
def ty_ro : Nat → FieldType := fun k => match k with
  | 0 => .array (.int)
  | 1 => .array (.long)
  | 2 => .array (.long)
  | 3 => .int
  | 4 => .int
  | 5 => .int
  | 6 => .int
  | 7 => .int
  | 8 => .int
  | _ => .int
theorem nm_ro : ∀ a, a < 10 → ∀ b, b < 10 → a ≠ b → (T_ro a).2.1 ≠ (T_ro b).2.1 := by decide +kernel
theorem tyok_ro : ∀ k, k < 10 → parseFieldDescriptor (T_ro k).2.2.1 = some (ty_ro k) := by decide +kernel
theorem in_ro : ∀ w ∈ u_ws R_ro T_ro 10, w ∈ TB := tb_all _ [76, 78, 80, 82, 84, 86, 88, 90, 92, 94] (by decide +kernel) (by decide +kernel)
abbrev R_sp : String := "PacketOrder$Span"
def T_sp : u_T := fun k => match k with
  | 0 => ("PacketOrder$Span", "step", "I", true)
  | 1 => ("PacketOrder$Span", "halvings", "I", true)
  | 2 => ("PacketOrder$Span", "exponent", "I", false)
  | 3 => ("PacketOrder$Span", "tileStart", "I", false)
  | 4 => ("PacketOrder$Span", "first", "I", false)
  | _ => ("PacketOrder$Span", "count", "I", false)
def ty_sp : Nat → FieldType := fun k => match k with
  | 0 => .int
  | 1 => .int
  | 2 => .int
  | 3 => .int
  | 4 => .int
  | _ => .int
theorem nm_sp : ∀ a, a < 6 → ∀ b, b < 6 → a ≠ b → (T_sp a).2.1 ≠ (T_sp b).2.1 := by decide +kernel
theorem tyok_sp : ∀ k, k < 6 → parseFieldDescriptor (T_sp k).2.2.1 = some (ty_sp k) := by decide +kernel
theorem in_sp : ∀ w ∈ u_ws R_sp T_sp 6, w ∈ TB := tb_all _ [316, 318, 320, 322, 324, 326] (by decide +kernel) (by decide +kernel)
abbrev R_mo : String := "PacketOrderModel"
def T_mo : u_T := fun k => match k with
  | 0 => ("PacketOrderModel", "thrown", "I", false)
  | 1 => ("PacketOrderModel", "tiled", "Z", false)
  | 2 => ("PacketOrderModel", "tx0", "I", false)
  | 3 => ("PacketOrderModel", "ty0", "I", false)
  | 4 => ("PacketOrderModel", "tx1", "I", false)
  | 5 => ("PacketOrderModel", "ty1", "I", false)
  | 6 => ("PacketOrderModel", "components", "I", false)
  | 7 => ("PacketOrderModel", "stepX", "[I", true)
  | 8 => ("PacketOrderModel", "stepY", "[I", true)
  | 9 => ("PacketOrderModel", "levels", "[I", true)
  | 10 => ("PacketOrderModel", "wide", "[I", true)
  | 11 => ("PacketOrderModel", "high", "[I", true)
  | 12 => ("PacketOrderModel", "layers", "I", false)
  | 13 => ("PacketOrderModel", "own", "I", false)
  | 14 => ("PacketOrderModel", "changes", "I", false)
  | 15 => ("PacketOrderModel", "change", "[I", true)
  | 16 => ("PacketOrderModel", "sequence", "Z", false)
  | 17 => ("PacketOrderModel", "many", "I", false)
  | 18 => ("PacketOrderModel", "componentOf", "[I", true)
  | 19 => ("PacketOrderModel", "levelOf", "[I", true)
  | 20 => ("PacketOrderModel", "numberOf", "[I", true)
  | 21 => ("PacketOrderModel", "placeX", "[J", true)
  | 22 => ("PacketOrderModel", "placeY", "[J", true)
  | 23 => ("PacketOrderModel", "cameOf", "[I", true)
  | 24 => ("PacketOrderModel", "sorted", "[I", true)
  | 25 => ("PacketOrderModel", "now", "I", false)
  | 26 => ("PacketOrderModel", "layer", "I", false)
  | 27 => ("PacketOrderModel", "groupEnd", "I", false)
  | 28 => ("PacketOrderModel", "group", "I", false)
  | 29 => ("PacketOrderModel", "next", "I", false)
  | 30 => ("PacketOrderModel", "came", "Z", false)
  | 31 => ("PacketOrderModel", "lastOne", "I", false)
  | 32 => ("PacketOrderModel", "lastLayer", "I", false)
  | 33 => ("PacketOrderModel", "lastChange", "I", false)
  | 34 => ("PacketOrderModel", "x0", "I", false)
  | 35 => ("PacketOrderModel", "y0", "I", false)
  | 36 => ("PacketOrderModel", "x1", "I", false)
  | _ => ("PacketOrderModel", "y1", "I", false)
def ty_mo : Nat → FieldType := fun k => match k with
  | 0 => .int
  | 1 => .boolean
  | 2 => .int
  | 3 => .int
  | 4 => .int
  | 5 => .int
  | 6 => .int
  | 7 => .array (.int)
  | 8 => .array (.int)
  | 9 => .array (.int)
  | 10 => .array (.int)
  | 11 => .array (.int)
  | 12 => .int
  | 13 => .int
  | 14 => .int
  | 15 => .array (.int)
  | 16 => .boolean
  | 17 => .int
  | 18 => .array (.int)
  | 19 => .array (.int)
  | 20 => .array (.int)
  | 21 => .array (.long)
  | 22 => .array (.long)
  | 23 => .array (.int)
  | 24 => .array (.int)
  | 25 => .int
  | 26 => .int
  | 27 => .int
  | 28 => .int
  | 29 => .int
  | 30 => .boolean
  | 31 => .int
  | 32 => .int
  | 33 => .int
  | 34 => .int
  | 35 => .int
  | 36 => .int
  | _ => .int
theorem nm_mo : ∀ a, a < 38 → ∀ b, b < 38 → a ≠ b → (T_mo a).2.1 ≠ (T_mo b).2.1 := by decide +kernel
theorem tyok_mo : ∀ k, k < 38 → parseFieldDescriptor (T_mo k).2.2.1 = some (ty_mo k) := by decide +kernel
theorem in_mo : ∀ w ∈ u_ws R_mo T_mo 38, w ∈ TB := tb_all _ [704, 706, 708, 710, 712, 714, 716, 718, 720, 722, 724, 726, 728, 730, 732, 734, 736, 738, 740, 742, 744, 746, 748, 750, 752, 754, 756, 758, 760, 762, 764, 766, 768, 770, 772, 774, 776, 778] (by decide +kernel) (by decide +kernel)
abbrev R_al : String := "java/util/ArrayList"
def T_al : u_T := fun k => match k with
  | 0 => ("java/util/AbstractList", "modCount", "I", false)
  | 1 => ("java/util/ArrayList", "elementData", "[Ljava/lang/Object;", false)
  | _ => ("java/util/ArrayList", "size", "I", false)
def ty_al : Nat → FieldType := fun k => match k with
  | 0 => .int
  | 1 => .array (.object "java/lang/Object")
  | _ => .int
theorem nm_al : ∀ a, a < 3 → ∀ b, b < 3 → a ≠ b → (T_al a).2.1 ≠ (T_al b).2.1 := by decide +kernel
theorem tyok_al : ∀ k, k < 3 → parseFieldDescriptor (T_al k).2.2.1 = some (ty_al k) := by decide +kernel
theorem in_al : ∀ w ∈ u_ws R_al T_al 3, w ∈ TB := tb_all _ [55, 51, 53] (by decide +kernel) (by decide +kernel)
abbrev CL : List vw_C := [(R_po, T_po, 13), (R_ch, T_ch, 6), (R_co, T_co, 1), (R_le, T_le, 5), (R_ro, T_ro, 10), (R_sp, T_sp, 6), (R_mo, T_mo, 38), (R_al, T_al, 3)]
end
section
/-! numbers: ints and longs by their mathematical values; worlds as maps from addresses to cells -/
def iI (z : Int) : Int32 := Int32.ofInt z
def lI (z : Int) : Int64 := Int64.ofInt z
abbrev iR (z : Int) : Prop := -2147483648 ≤ z ∧ z ≤ 2147483647
abbrev lR (z : Int) : Prop := -9223372036854775808 ≤ z ∧ z ≤ 9223372036854775807
theorem iI_add (a b : Int) : iI a + iI b = iI (a + b) := (Int32.ofInt_add a b).symm
theorem iI_sub (a b : Int) : iI a - iI b = iI (a - b) := (Int32.ofInt_sub a b).symm
theorem iI_mul (a b : Int) : iI a * iI b = iI (a * b) := (Int32.ofInt_mul a b).symm
theorem lI_add (a b : Int) : lI a + lI b = lI (a + b) := (Int64.ofInt_add a b).symm
theorem lI_sub (a b : Int) : lI a - lI b = lI (a - b) := (Int64.ofInt_sub a b).symm
theorem lI_mul (a b : Int) : lI a * lI b = lI (a * b) := (Int64.ofInt_mul a b).symm
theorem iI_of (x : Int32) : iI x.toInt = x := Int32.ofInt_toInt x
theorem lI_of (x : Int64) : lI x.toInt = x := Int64.ofInt_toInt x
theorem iR_of (x : Int32) : iR x.toInt := ⟨x.le_toInt, Int.le_of_lt_add_one x.toInt_lt⟩
theorem lR_of (x : Int64) : lR x.toInt := ⟨x.le_toInt, Int.le_of_lt_add_one x.toInt_lt⟩
theorem iI_toInt {z : Int} (h : iR z) : (iI z).toInt = z := Int32.toInt_ofInt_of_le h.1 (Int.lt_add_one_of_le h.2)
theorem lI_toInt {z : Int} (h : lR z) : (lI z).toInt = z := Int64.toInt_ofInt_of_le h.1 (Int.lt_add_one_of_le h.2)
theorem iI_lt {a b : Int} (ha : iR a) (hb : iR b) : iI a < iI b ↔ a < b := by
  rw [Int32.lt_iff_toInt_lt, iI_toInt ha, iI_toInt hb]
theorem iI_le {a b : Int} (ha : iR a) (hb : iR b) : iI a ≤ iI b ↔ a ≤ b := by
  rw [Int32.le_iff_toInt_le, iI_toInt ha, iI_toInt hb]
theorem iI_eq {a b : Int} (ha : iR a) (hb : iR b) : iI a = iI b ↔ a = b := by
  rw [← Int32.toInt_inj, iI_toInt ha, iI_toInt hb]
theorem lI_lt {a b : Int} (ha : lR a) (hb : lR b) : lI a < lI b ↔ a < b := by
  rw [Int64.lt_iff_toInt_lt, lI_toInt ha, lI_toInt hb]
theorem lI_le {a b : Int} (ha : lR a) (hb : lR b) : lI a ≤ lI b ↔ a ≤ b := by
  rw [Int64.le_iff_toInt_le, lI_toInt ha, lI_toInt hb]
theorem lI_eq {a b : Int} (ha : lR a) (hb : lR b) : lI a = lI b ↔ a = b := by
  rw [← Int64.toInt_inj, lI_toInt ha, lI_toInt hb]
theorem iI_0 : iI 0 = 0 := rfl
theorem iI_inj {a b : Int} (ha : iR a) (hb : iR b) (h : iI a = iI b) : a = b := (iI_eq ha hb).mp h
theorem iI_clamp {k : Nat} (h : k < 2147483648) : (iI (k : Int)).toNatClampNeg = k := by
  show (Int32.ofInt (k : Int)).toNatClampNeg = k
  rw [Int32.ofInt_eq_ofNat]
  exact Int32.toNatClampNeg_ofNat_of_lt h
theorem iI_nat (k : Nat) : Int32.ofNat k = iI (k : Int) := (Int32.ofInt_eq_ofNat).symm
theorem iI_nI (k : Nat) : nI k = iI (k : Int) := (Int32.ofInt_eq_ofNat).symm
theorem iI_in {k n : Nat} (h : k < n) (hn : n < 2147483648) : vp_in (iI (k : Int)) n := by
  rw [← iI_nI]; exact vp_in_nI h hn
theorem iI_neg {k : Nat} (h : k < 2147483648) : ¬ iI (k : Int) < 0 := by
  rw [← iI_0, iI_lt (by omega) (by omega)]; omega
theorem iI_l {a : Int} (h : iR a) : (iI a).toInt64 = lI a := by
  rw [← Int64.toInt_inj, Int32.toInt_toInt64, iI_toInt h, lI_toInt (by omega)]
theorem lI_i (a : Int) : (lI a).toInt32 = iI a := Int64.toInt32_ofInt
theorem iI_div {a b : Int} (ha : iR a) (hb : iR b) (h0 : 0 ≤ a) (h1 : 0 < b) : iI a / iI b = iI (a / b) := by
  have hq : 0 ≤ a / b := Int.ediv_nonneg h0 (by omega)
  have hl : a / b ≤ a := Int.ediv_le_self b h0
  rw [← Int32.toInt_inj, Int32.toInt_div_of_ne_right _ _ (fun h => by
    have := congrArg Int32.toInt h
    rw [iI_toInt hb] at this
    have h2 : (-1 : Int32).toInt = -1 := rfl
    rw [h2] at this
    omega), iI_toInt ha, iI_toInt hb, iI_toInt (by omega), Int.tdiv_eq_ediv_of_nonneg h0]
theorem iI_max {a b : Int} (ha : iR a) (hb : iR b) : (if iI a < iI b then iI b else iI a) = iI (max a b) := by
  by_cases h : a < b
  · rw [if_pos ((iI_lt ha hb).mpr h), Int.max_eq_right (by omega)]
  · rw [if_neg (fun q => h ((iI_lt ha hb).mp q)), Int.max_eq_left (by omega)]
theorem iI_min {a b : Int} (ha : iR a) (hb : iR b) : (if iI b < iI a then iI b else iI a) = iI (min a b) := by
  by_cases h : b < a
  · rw [if_pos ((iI_lt hb ha).mpr h), Int.min_eq_right (by omega)]
  · rw [if_neg (fun q => h ((iI_lt hb ha).mp q)), Int.min_eq_left (by omega)]
theorem lI_max {a b : Int} (ha : lR a) (hb : lR b) : (if lI b < lI a then lI a else lI b) = lI (max a b) := by
  by_cases h : b < a
  · rw [if_pos ((lI_lt hb ha).mpr h), Int.max_eq_left (by omega)]
  · rw [if_neg (fun q => h ((lI_lt hb ha).mp q)), Int.max_eq_right (by omega)]
theorem lI_min {a b : Int} (ha : lR a) (hb : lR b) : (if lI b < lI a then lI b else lI a) = lI (min a b) := by
  by_cases h : b < a
  · rw [if_pos ((lI_lt hb ha).mpr h), Int.min_eq_right (by omega)]
  · rw [if_neg (fun q => h ((lI_lt hb ha).mp q)), Int.min_eq_left (by omega)]
theorem lI_bv (a : Int) : (lI a).toBitVec = BitVec.ofInt 64 a := rfl
theorem lI_sh {k : Nat} (h : k < 64) : ((iI (k : Int)).toInt64 &&& 63) = lI (k : Int) := by
  have e : ∀ j : Nat, j < 64 → ((iI (j : Int)).toInt64 &&& 63) = lI (j : Int) := by decide +kernel
  exact e k h
theorem lI_smod {k : Nat} (h : k < 64) : ((lI (k : Int)).toBitVec.smod 64).toNat = k := by
  have e : ∀ j : Nat, j < 64 → ((lI (j : Int)).toBitVec.smod 64).toNat = j := by decide +kernel
  exact e k h
theorem lI_n (n : Nat) : (lI (n : Int)).toBitVec = BitVec.ofNat 64 n := by
  rw [lI_bv, BitVec.ofInt_natCast]
theorem lI_tn {n : Nat} (h : n < 18446744073709551616) : (lI (n : Int)).toBitVec.toNat = n := by
  rw [lI_n, BitVec.toNat_ofNat]; exact Nat.mod_eq_of_lt h
theorem lI_shl (n : Nat) {k : Nat} (h : k < 64) : lI (n : Int) <<< lI (k : Int) = lI ((n * 2 ^ k : Nat) : Int) := by
  apply Int64.toBitVec.inj
  apply BitVec.eq_of_toNat_eq
  rw [Int64.toBitVec_shiftLeft, BitVec.shiftLeft_eq', lI_smod h, lI_n, lI_n, BitVec.toNat_shiftLeft, BitVec.toNat_ofNat, BitVec.toNat_ofNat, Nat.shiftLeft_eq, Nat.mod_mul_mod]
theorem lI_shr {n : Nat} (hn : n < 9223372036854775808) {k : Nat} (h : k < 64) : lI (n : Int) >>> lI (k : Int) = lI ((n / 2 ^ k : Nat) : Int) := by
  have hq : n / 2 ^ k ≤ n := Nat.div_le_self _ _
  rw [← Int64.toInt_inj]
  show ((lI (n : Int)).toBitVec.sshiftRight' ((lI (k : Int)).toBitVec.smod 64)).toInt = _
  rw [BitVec.toInt_sshiftRight', lI_smod h]
  show (lI (n : Int)).toInt >>> k = _
  have hR : lR ((n / 2 ^ k : Nat) : Int) := by
    generalize n / 2 ^ k = q at hq ⊢
    omega
  rw [lI_toInt (by omega), lI_toInt hR, Int.shiftRight_eq_div_pow]
  exact (Int.natCast_ediv n (2 ^ k)).symm
theorem lI_or {a b : Nat} (i : Nat) (ha : a % 2 ^ i = 0) (hb : b < 2 ^ i) (h : a + b < 9223372036854775808) : lI (a : Int) ||| lI (b : Int) = lI ((a + b : Nat) : Int) := by
  apply Int64.toBitVec.inj
  apply BitVec.eq_of_toNat_eq
  rw [Int64.toBitVec_or, BitVec.toNat_or, lI_tn (by omega), lI_tn (by omega), lI_tn (by omega)]
  have e : a = 2 ^ i * (a / 2 ^ i) := by
    have := Nat.div_add_mod a (2 ^ i)
    omega
  rw [e, Nat.two_pow_add_eq_or_of_lt hb]
theorem lI_and {n : Nat} (k : Nat) (hk : k < 63) (h : n < 9223372036854775808) : lI (n : Int) &&& lI ((2 ^ k - 1 : Nat) : Int) = lI ((n % 2 ^ k : Nat) : Int) := by
  have h1 : 2 ^ k ≤ 2 ^ 62 := Nat.pow_le_pow_right (by decide) (by omega)
  have h3 : 0 < 2 ^ k := Nat.pow_pos (by decide)
  have h2 : n % 2 ^ k < 2 ^ k := Nat.mod_lt _ h3
  apply Int64.toBitVec.inj
  apply BitVec.eq_of_toNat_eq
  rw [Int64.toBitVec_and, BitVec.toNat_and, lI_tn (by omega), lI_tn (by omega), lI_tn (by omega), Nat.and_two_pow_sub_one_eq_mod]
/-! worlds as maps -/
abbrev hM : Type := Nat → Option va_E
def hW (D : va_G) (cl : List vw_C) (lo : Nat) (f : hM) (H : Heap) : Prop := ∀ (a : Nat) (e : va_E), f a = some e → lo ≤ a ∧ va_at D cl (a, e) H
def eI (cI : ClassId) (n : Nat) (g : Nat → Int) : va_E := .inl (cI, n, .inl (fun j => iI (g j)))
def eJ (cJ : ClassId) (n : Nat) (g : Nat → Int) : va_E := .inl (cJ, n, .inr (.inl (fun j => lI (g j))))
def eA (cA : ClassId) (n : Nat) (g : Nat → Option Nat) : va_E := .inl (cA, n, .inr (.inr (.inr (.inr g))))
abbrev eO (ci : Nat) (fs : List Value) : va_E := .inr (ci, fs)
theorem hW.list {D : va_G} {cl : List vw_C} {lo : Nat} {f : hM} {H : Heap} (h : hW D cl lo f H) : ∃ ws : va_W, va_P D cl ws H ∧ va_D (fun q => lo ≤ q) ws ∧ ∀ (a : Nat) (e : va_E), f a = some e ↔ ∃ k : Nat, ws[k]? = some (a, e) := by
  have hm : ∀ (a : Nat) (e : va_E), (a, e) ∈ (List.range H.size).filterMap (fun a => (f a).map (fun e => (a, e))) ↔ f a = some e := by
    intro a e
    constructor
    · intro hq
      obtain ⟨b, -, hb⟩ := List.mem_filterMap.mp hq
      cases hf : f b with
      | none => rw [hf] at hb; cases hb
      | some e' => rw [hf] at hb; cases hb; exact hf
    · intro hf
      have hl : a < H.size := (h a e hf).2.lt
      exact List.mem_filterMap.mpr ⟨a, List.mem_range.mpr hl, by rw [hf]; rfl⟩
  have hpw : ((List.range H.size).filterMap (fun a => (f a).map (fun e => (a, e)))).Pairwise (fun p q => p.1 < q.1) := by
    refine List.Pairwise.filterMap _ (fun a a' haa b hb b' hb' => ?_) List.pairwise_lt_range
    cases hf : f a with
    | none => rw [hf] at hb; cases hb
    | some e =>
      cases hf' : f a' with
      | none => rw [hf'] at hb'; cases hb'
      | some e' => rw [hf] at hb; rw [hf'] at hb'; cases hb; cases hb'; exact haa
  generalize (List.range H.size).filterMap (fun a => (f a).map (fun e => (a, e))) = ws at hm hpw
  have hk : ∀ (k : Nat) (q : Nat × va_E), ws[k]? = some q → f q.1 = some q.2 := fun k q hq => (hm q.1 q.2).mp (List.mem_of_getElem? hq)
  refine ⟨ws, fun k q hq => (h q.1 q.2 (hk k q hq)).2, ⟨fun i j x y hi hj hxy => ?_, fun k q hq => (h q.1 q.2 (hk k q hq)).1⟩, fun a e => ⟨fun hf => List.getElem?_of_mem ((hm a e).mpr hf), fun ⟨k, hq⟩ => hk k _ hq⟩⟩
  have hp := List.pairwise_iff_getElem.mp hpw
  obtain ⟨hil, rfl⟩ := List.getElem?_eq_some_iff.mp hi
  obtain ⟨hjl, rfl⟩ := List.getElem?_eq_some_iff.mp hj
  rcases Nat.lt_trichotomy i j with q | q | q
  · have := hp i j hil hjl q; omega
  · exact q
  · have := hp j i hjl hil q; omega
theorem hW.set {D : va_G} {cl : List vw_C} {lo : Nat} {f : hM} {H H1 : Heap} {ws : va_W} (h : hW D cl lo f H) (hD : va_D (fun q => lo ≤ q) ws) (hi : ∀ (a : Nat) (e : va_E), f a = some e ↔ ∃ k : Nat, ws[k]? = some (a, e)) {q0 a : Nat} {e0 e1 : va_E} (h0 : ws[q0]? = some (a, e0)) (hP1 : va_P D cl (ws.set q0 (a, e1)) H1) : hW D cl lo (va_up f a (some e1)) H1 := by
  have hl := (List.getElem?_eq_some_iff.mp h0).1
  intro b e hb
  by_cases hba : b = a
  · subst hba
    rw [va_up_self] at hb
    cases hb
    exact ⟨hD.2 q0 _ h0, hP1 q0 _ (List.getElem?_set_self hl)⟩
  · rw [va_up_ne _ _ hba] at hb
    obtain ⟨k, hk⟩ := (hi b e).mp hb
    refine ⟨(h b e hb).1, hP1 k (b, e) ?_⟩
    rw [List.getElem?_set_ne (fun q => ?_)]
    · exact hk
    · subst q
      rw [h0] at hk
      cases hk
      exact hba rfl
theorem hW.push {D : va_G} {cl : List vw_C} {lo : Nat} {f : hM} {H H1 : Heap} {ws : va_W} (h : hW D cl lo f H) (hi : ∀ (a : Nat) (e : va_E), f a = some e ↔ ∃ k : Nat, ws[k]? = some (a, e)) {q : Nat} {e1 : va_E} (hP1 : va_P D cl (ws ++ [(q, e1)]) H1) (hD1 : va_D (fun q => lo ≤ q) (ws ++ [(q, e1)])) : f q = none ∧ hW D cl lo (va_up f q (some e1)) H1 := by
  have hz : (ws ++ [(q, e1)])[ws.length]? = some (q, e1) := by simp
  have ho : ∀ (k : Nat) (x : Nat × va_E), ws[k]? = some x → (ws ++ [(q, e1)])[k]? = some x := fun k x hx => by
    rw [List.getElem?_append_left (List.getElem?_eq_some_iff.mp hx).1]; exact hx
  have hn : f q = none := by
    cases hf : f q with
    | none => rfl
    | some e =>
      obtain ⟨k, hk⟩ := (hi q e).mp hf
      have := hD1.1 k ws.length _ _ (ho k _ hk) hz rfl
      have hl := (List.getElem?_eq_some_iff.mp hk).1
      omega
  refine ⟨hn, fun b e hb => ?_⟩
  by_cases hba : b = q
  · subst hba
    rw [va_up_self] at hb
    cases hb
    exact ⟨hD1.2 _ _ hz, hP1 _ _ hz⟩
  · rw [va_up_ne _ _ hba] at hb
    obtain ⟨k, hk⟩ := (hi b e).mp hb
    exact ⟨(h b e hb).1, hP1 k _ (ho k _ hk)⟩
theorem hW.one {D : va_G} {cl : List vw_C} {lo : Nat} {f : hM} {H : Heap} (h : hW D cl lo f H) {a : Nat} {e : va_E} (he : f a = some e) : va_P D cl [(a, e)] H := by
  intro k q hk
  match k, hk with
  | 0, hk => cases hk; exact (h a e he).2
  | k + 1, hk => cases hk
theorem hW.recv {D : va_G} {cl : List vw_C} {lo : Nat} {f : hM} {H : Heap} {s : State} {tys : List (ClassId × FieldType)} (hK : va_K D cl tys s) (h : hW D cl lo f H) {a ci : Nat} {q : vw_C} {fs : List Value} (hc : cl[ci]? = some q) (he : f a = some (eO ci fs)) : ∃ cell : Cell, H[a]? = some cell ∧ cell.vm.isStatics = false ∧ s.vm.findClass q.1 = some cell.cls :=
  va_recv hK (h.one he) (q0 := 0) hc rfl
theorem up_s {f : hM} {a : Nat} {e : va_E} : va_up f a (some e) a = some e := va_up_self f a _
theorem up_n {f : hM} {a b : Nat} {e x : va_E} (hb : f b = some x) (h : b ≠ a) : va_up f a (some e) b = some x := by rw [va_up_ne _ _ h]; exact hb
theorem ne_of {f : hM} {a b : Nat} {x y : va_E} (ha : f a = some x) (hb : f b = some y) (h : x ≠ y) : a ≠ b := by
  intro e
  subst e
  rw [ha] at hb
  exact h (Option.some.inj hb)
theorem ne_new {f : hM} {a q : Nat} {x : va_E} (ha : f a = some x) (hq : f q = none) : a ≠ q := by
  intro e
  subst e
  rw [ha] at hq
  cases hq
end
section
/-! rows: one instruction each, ints and longs by their values, the heap by a map -/
section MI
variable {p : Program} {l : Launch} {e : Env} {R : Room} {s : State} {m : MethodId} {args : Array Value} {below : List Frame} {meth : Method} {c : Code} {H : Heap} {locs : List Loc} {cells slots : Nat} {Q : State → Prop}
variable {cc : ByteArray} {pc : Nat} {ls : Array Slot} {rest : List Value}
theorem mi_iadd (hx : p.tables.exec = Jvm.exec) (hb : c.code = cc) {a b : Int} (hdg : decode cc pc = .ok (.iadd, 1)) (k : W p l e R s m args below meth c H locs cells slots Q (F0 m (pc + 1) ls (.int (iI (a + b)) :: rest))) : W p l e R s m args below meth c H locs cells slots Q (F0 m pc ls (.int (iI b) :: .int (iI a) :: rest)) :=
  lv_iadd hx hb hdg (by rw [iI_add]; exact k)
theorem mi_isub (hx : p.tables.exec = Jvm.exec) (hb : c.code = cc) {a b : Int} (hdg : decode cc pc = .ok (.isub, 1)) (k : W p l e R s m args below meth c H locs cells slots Q (F0 m (pc + 1) ls (.int (iI (a - b)) :: rest))) : W p l e R s m args below meth c H locs cells slots Q (F0 m pc ls (.int (iI b) :: .int (iI a) :: rest)) :=
  lv_isub hx hb hdg (by rw [iI_sub]; exact k)
theorem mi_imul (hx : p.tables.exec = Jvm.exec) (hb : c.code = cc) {a b : Int} (hdg : decode cc pc = .ok (.imul, 1)) (k : W p l e R s m args below meth c H locs cells slots Q (F0 m (pc + 1) ls (.int (iI (a * b)) :: rest))) : W p l e R s m args below meth c H locs cells slots Q (F0 m pc ls (.int (iI b) :: .int (iI a) :: rest)) :=
  lv_imul hx hb hdg (by rw [iI_mul]; exact k)
theorem mi_ladd (hx : p.tables.exec = Jvm.exec) (hb : c.code = cc) {a b : Int} (hdg : decode cc pc = .ok (.ladd, 1)) (k : W p l e R s m args below meth c H locs cells slots Q (F0 m (pc + 1) ls (.long (lI (a + b)) :: rest))) : W p l e R s m args below meth c H locs cells slots Q (F0 m pc ls (.long (lI b) :: .long (lI a) :: rest)) :=
  lv_ladd hx hb hdg (by rw [lI_add]; exact k)
theorem mi_lsub (hx : p.tables.exec = Jvm.exec) (hb : c.code = cc) {a b : Int} (hdg : decode cc pc = .ok (.lsub, 1)) (k : W p l e R s m args below meth c H locs cells slots Q (F0 m (pc + 1) ls (.long (lI (a - b)) :: rest))) : W p l e R s m args below meth c H locs cells slots Q (F0 m pc ls (.long (lI b) :: .long (lI a) :: rest)) :=
  lv_lsub hx hb hdg (by rw [lI_sub]; exact k)
theorem mi_lmul (hx : p.tables.exec = Jvm.exec) (hb : c.code = cc) {a b : Int} (hdg : decode cc pc = .ok (.lmul, 1)) (k : W p l e R s m args below meth c H locs cells slots Q (F0 m (pc + 1) ls (.long (lI (a * b)) :: rest))) : W p l e R s m args below meth c H locs cells slots Q (F0 m pc ls (.long (lI b) :: .long (lI a) :: rest)) :=
  lv_lmul hx hb hdg (by rw [lI_mul]; exact k)
theorem mi_iconst (hx : p.tables.exec = Jvm.exec) (hb : c.code = cc) {n : Int} (hdg : decode cc pc = .ok (.iconst n, 1)) (k : W p l e R s m args below meth c H locs cells slots Q (F0 m (pc + 1) ls (.int (iI n) :: rest))) : W p l e R s m args below meth c H locs cells slots Q (F0 m pc ls rest) := lv_iconst hx hb hdg rfl k
theorem mi_bipush (hx : p.tables.exec = Jvm.exec) (hb : c.code = cc) {n : Int} (hdg : decode cc pc = .ok (.bipush n, 2)) (hn : (Int8.ofInt n).toInt32 = iI n) (k : W p l e R s m args below meth c H locs cells slots Q (F0 m (pc + 2) ls (.int (iI n) :: rest))) : W p l e R s m args below meth c H locs cells slots Q (F0 m pc ls rest) := lv_bipush hx hb hdg hn k
theorem mi_sipush (hx : p.tables.exec = Jvm.exec) (hb : c.code = cc) {n : Int} (hdg : decode cc pc = .ok (.sipush n, 3)) (hn : (Int16.ofInt n).toInt32 = iI n) (k : W p l e R s m args below meth c H locs cells slots Q (F0 m (pc + 3) ls (.int (iI n) :: rest))) : W p l e R s m args below meth c H locs cells slots Q (F0 m pc ls rest) := lv_sipush hx hb hdg hn k
theorem mi_lconst (hx : p.tables.exec = Jvm.exec) (hb : c.code = cc) {n : Fin 2} {z : Int} (hdg : decode cc pc = .ok (.lconst n, 1)) (hn : Int64.ofNat (n : Nat) = lI z) (k : W p l e R s m args below meth c H locs cells slots Q (F0 m (pc + 1) ls (.long (lI z) :: rest))) : W p l e R s m args below meth c H locs cells slots Q (F0 m pc ls rest) := lv_lconst hx hb hdg hn k
theorem mi_idiv (hx : p.tables.exec = Jvm.exec) (hb : c.code = cc) {a b : Int} (hdg : decode cc pc = .ok (.idiv, 1)) (ha : iR a) (hb2 : iR b) (h0 : 0 ≤ a) (h1 : 0 < b) (k : W p l e R s m args below meth c H locs cells slots Q (F0 m (pc + 1) ls (.int (iI (a / b)) :: rest))) : W p l e R s m args below meth c H locs cells slots Q (F0 m pc ls (.int (iI b) :: .int (iI a) :: rest)) :=
  lv_idiv hx hb hdg (fun q => by rw [← iI_0, iI_eq hb2 (by decide)] at q; omega) (by rw [iI_div ha hb2 h0 h1]; exact k)
theorem mi_i2l (hx : p.tables.exec = Jvm.exec) (hb : c.code = cc) {a : Int} (hdg : decode cc pc = .ok (.i2l, 1)) (ha : iR a) (k : W p l e R s m args below meth c H locs cells slots Q (F0 m (pc + 1) ls (.long (lI a) :: rest))) : W p l e R s m args below meth c H locs cells slots Q (F0 m pc ls (.int (iI a) :: rest)) := lv_i2l hx hb hdg (iI_l ha) k
theorem mi_l2i (hx : p.tables.exec = Jvm.exec) (hb : c.code = cc) {a : Int} (hdg : decode cc pc = .ok (.l2i, 1)) (k : W p l e R s m args below meth c H locs cells slots Q (F0 m (pc + 1) ls (.int (iI a) :: rest))) : W p l e R s m args below meth c H locs cells slots Q (F0 m pc ls (.long (lI a) :: rest)) := lv_l2i hx hb hdg (lI_i a) k
theorem mi_lshl (hx : p.tables.exec = Jvm.exec) (hb : c.code = cc) {a b : Int} (n k : Nat) (ha : a = (n : Int)) (hk : b = (k : Int)) (h : k < 64) (hdg : decode cc pc = .ok (.lshl, 1)) (kk : W p l e R s m args below meth c H locs cells slots Q (F0 m (pc + 1) ls (.long (lI ((n * 2 ^ k : Nat) : Int)) :: rest))) : W p l e R s m args below meth c H locs cells slots Q (F0 m pc ls (.int (iI b) :: .long (lI a) :: rest)) := by
  subst ha hk; exact lv_lshl hx hb hdg (by rw [lI_sh h, lI_shl n h]) kk
theorem mi_lshr (hx : p.tables.exec = Jvm.exec) (hb : c.code = cc) {a b : Int} (n k : Nat) (ha : a = (n : Int)) (hk : b = (k : Int)) (hn : n < 9223372036854775808) (h : k < 64) (hdg : decode cc pc = .ok (.lshr, 1)) (kk : W p l e R s m args below meth c H locs cells slots Q (F0 m (pc + 1) ls (.long (lI ((n / 2 ^ k : Nat) : Int)) :: rest))) : W p l e R s m args below meth c H locs cells slots Q (F0 m pc ls (.int (iI b) :: .long (lI a) :: rest)) := by
  subst ha hk; exact lv_lshr hx hb hdg (by rw [lI_sh h, lI_shr hn h]) kk
theorem mi_lor (hx : p.tables.exec = Jvm.exec) (hb : c.code = cc) {x y : Int} (i a b : Nat) (ex : x = (a : Int)) (ey : y = (b : Int)) (ha : a % 2 ^ i = 0) (hb2 : b < 2 ^ i) (h : a + b < 9223372036854775808) (hdg : decode cc pc = .ok (.lor, 1)) (kk : W p l e R s m args below meth c H locs cells slots Q (F0 m (pc + 1) ls (.long (lI ((a + b : Nat) : Int)) :: rest))) : W p l e R s m args below meth c H locs cells slots Q (F0 m pc ls (.long (lI y) :: .long (lI x) :: rest)) := by
  subst ex ey; exact lv_lor hx hb hdg (by rw [lI_or i ha hb2 h]; exact kk)
theorem mi_land (hx : p.tables.exec = Jvm.exec) (hb : c.code = cc) {x y : Int} (k n : Nat) (ex : x = (n : Int)) (ey : y = ((2 ^ k - 1 : Nat) : Int)) (hk : k < 63) (h : n < 9223372036854775808) (hdg : decode cc pc = .ok (.land, 1)) (kk : W p l e R s m args below meth c H locs cells slots Q (F0 m (pc + 1) ls (.long (lI ((n % 2 ^ k : Nat) : Int)) :: rest))) : W p l e R s m args below meth c H locs cells slots Q (F0 m pc ls (.long (lI y) :: .long (lI x) :: rest)) := by
  subst ex ey; exact lv_land hx hb hdg (by rw [lI_and k hk h]; exact kk)
theorem mi_icmp_eq (hx : p.tables.exec = Jvm.exec) (hb : c.code = cc) {a b off : Int} {tgt : Nat} (hdg : decode cc pc = .ok (.if_icmp .eq off, 3)) (ht : (pc : Int) + off = (tgt : Int)) (ha : iR a) (hb2 : iR b) (kt : (a = b) → W p l e R s m args below meth c H locs cells slots Q (F0 m tgt ls rest)) (kf : ¬ (a = b) → W p l e R s m args below meth c H locs cells slots Q (F0 m (pc + 3) ls rest)) : W p l e R s m args below meth c H locs cells slots Q (F0 m pc ls (.int (iI b) :: .int (iI a) :: rest)) :=
  lv_icmp_eq hx hb hdg ht (fun q => kt ((iI_eq ha hb2).mp q)) (fun q => kf (fun z => q ((iI_eq ha hb2).mpr z)))
theorem mi_if_eq (hx : p.tables.exec = Jvm.exec) (hb : c.code = cc) {a off : Int} {tgt : Nat} (hdg : decode cc pc = .ok (.ifCond .eq off, 3)) (ht : (pc : Int) + off = (tgt : Int)) (ha : iR a) (kt : (a = 0) → W p l e R s m args below meth c H locs cells slots Q (F0 m tgt ls rest)) (kf : ¬ (a = 0) → W p l e R s m args below meth c H locs cells slots Q (F0 m (pc + 3) ls rest)) : W p l e R s m args below meth c H locs cells slots Q (F0 m pc ls (.int (iI a) :: rest)) :=
  have hz : iR 0 := by decide
  lv_if_eq hx hb hdg ht (fun q => kt ((iI_eq ha hz).mp q)) (fun q => kf (fun z => q ((iI_eq ha hz).mpr z)))
theorem mi_icmp_ne (hx : p.tables.exec = Jvm.exec) (hb : c.code = cc) {a b off : Int} {tgt : Nat} (hdg : decode cc pc = .ok (.if_icmp .ne off, 3)) (ht : (pc : Int) + off = (tgt : Int)) (ha : iR a) (hb2 : iR b) (kt : ¬ (a = b) → W p l e R s m args below meth c H locs cells slots Q (F0 m tgt ls rest)) (kf : a = b → W p l e R s m args below meth c H locs cells slots Q (F0 m (pc + 3) ls rest)) : W p l e R s m args below meth c H locs cells slots Q (F0 m pc ls (.int (iI b) :: .int (iI a) :: rest)) :=
  lv_icmp_ne hx hb hdg ht (fun q => kt (fun z => q ((iI_eq ha hb2).mpr z))) (fun q => kf ((iI_eq ha hb2).mp q))
theorem mi_if_ne (hx : p.tables.exec = Jvm.exec) (hb : c.code = cc) {a off : Int} {tgt : Nat} (hdg : decode cc pc = .ok (.ifCond .ne off, 3)) (ht : (pc : Int) + off = (tgt : Int)) (ha : iR a) (kt : ¬ (a = 0) → W p l e R s m args below meth c H locs cells slots Q (F0 m tgt ls rest)) (kf : a = 0 → W p l e R s m args below meth c H locs cells slots Q (F0 m (pc + 3) ls rest)) : W p l e R s m args below meth c H locs cells slots Q (F0 m pc ls (.int (iI a) :: rest)) :=
  have hz : iR 0 := by decide
  lv_if_ne hx hb hdg ht (fun q => kt (fun z => q ((iI_eq ha hz).mpr z))) (fun q => kf ((iI_eq ha hz).mp q))
theorem mi_icmp_lt (hx : p.tables.exec = Jvm.exec) (hb : c.code = cc) {a b off : Int} {tgt : Nat} (hdg : decode cc pc = .ok (.if_icmp .lt off, 3)) (ht : (pc : Int) + off = (tgt : Int)) (ha : iR a) (hb2 : iR b) (kt : (a < b) → W p l e R s m args below meth c H locs cells slots Q (F0 m tgt ls rest)) (kf : ¬ (a < b) → W p l e R s m args below meth c H locs cells slots Q (F0 m (pc + 3) ls rest)) : W p l e R s m args below meth c H locs cells slots Q (F0 m pc ls (.int (iI b) :: .int (iI a) :: rest)) :=
  lv_icmp_lt hx hb hdg ht (fun q => kt ((iI_lt ha hb2).mp q)) (fun q => kf (fun z => q ((iI_lt ha hb2).mpr z)))
theorem mi_if_lt (hx : p.tables.exec = Jvm.exec) (hb : c.code = cc) {a off : Int} {tgt : Nat} (hdg : decode cc pc = .ok (.ifCond .lt off, 3)) (ht : (pc : Int) + off = (tgt : Int)) (ha : iR a) (kt : (a < 0) → W p l e R s m args below meth c H locs cells slots Q (F0 m tgt ls rest)) (kf : ¬ (a < 0) → W p l e R s m args below meth c H locs cells slots Q (F0 m (pc + 3) ls rest)) : W p l e R s m args below meth c H locs cells slots Q (F0 m pc ls (.int (iI a) :: rest)) :=
  have hz : iR 0 := by decide
  lv_if_lt hx hb hdg ht (fun q => kt ((iI_lt ha hz).mp q)) (fun q => kf (fun z => q ((iI_lt ha hz).mpr z)))
theorem mi_icmp_ge (hx : p.tables.exec = Jvm.exec) (hb : c.code = cc) {a b off : Int} {tgt : Nat} (hdg : decode cc pc = .ok (.if_icmp .ge off, 3)) (ht : (pc : Int) + off = (tgt : Int)) (ha : iR a) (hb2 : iR b) (kt : (b ≤ a) → W p l e R s m args below meth c H locs cells slots Q (F0 m tgt ls rest)) (kf : ¬ (b ≤ a) → W p l e R s m args below meth c H locs cells slots Q (F0 m (pc + 3) ls rest)) : W p l e R s m args below meth c H locs cells slots Q (F0 m pc ls (.int (iI b) :: .int (iI a) :: rest)) :=
  lv_icmp_ge hx hb hdg ht (fun q => kt ((iI_le hb2 ha).mp q)) (fun q => kf (fun z => q ((iI_le hb2 ha).mpr z)))
theorem mi_if_ge (hx : p.tables.exec = Jvm.exec) (hb : c.code = cc) {a off : Int} {tgt : Nat} (hdg : decode cc pc = .ok (.ifCond .ge off, 3)) (ht : (pc : Int) + off = (tgt : Int)) (ha : iR a) (kt : (0 ≤ a) → W p l e R s m args below meth c H locs cells slots Q (F0 m tgt ls rest)) (kf : ¬ (0 ≤ a) → W p l e R s m args below meth c H locs cells slots Q (F0 m (pc + 3) ls rest)) : W p l e R s m args below meth c H locs cells slots Q (F0 m pc ls (.int (iI a) :: rest)) :=
  have hz : iR 0 := by decide
  lv_if_ge hx hb hdg ht (fun q => kt ((iI_le hz ha).mp q)) (fun q => kf (fun z => q ((iI_le hz ha).mpr z)))
theorem mi_icmp_gt (hx : p.tables.exec = Jvm.exec) (hb : c.code = cc) {a b off : Int} {tgt : Nat} (hdg : decode cc pc = .ok (.if_icmp .gt off, 3)) (ht : (pc : Int) + off = (tgt : Int)) (ha : iR a) (hb2 : iR b) (kt : (b < a) → W p l e R s m args below meth c H locs cells slots Q (F0 m tgt ls rest)) (kf : ¬ (b < a) → W p l e R s m args below meth c H locs cells slots Q (F0 m (pc + 3) ls rest)) : W p l e R s m args below meth c H locs cells slots Q (F0 m pc ls (.int (iI b) :: .int (iI a) :: rest)) :=
  lv_icmp_gt hx hb hdg ht (fun q => kt ((iI_lt hb2 ha).mp q)) (fun q => kf (fun z => q ((iI_lt hb2 ha).mpr z)))
theorem mi_if_gt (hx : p.tables.exec = Jvm.exec) (hb : c.code = cc) {a off : Int} {tgt : Nat} (hdg : decode cc pc = .ok (.ifCond .gt off, 3)) (ht : (pc : Int) + off = (tgt : Int)) (ha : iR a) (kt : (0 < a) → W p l e R s m args below meth c H locs cells slots Q (F0 m tgt ls rest)) (kf : ¬ (0 < a) → W p l e R s m args below meth c H locs cells slots Q (F0 m (pc + 3) ls rest)) : W p l e R s m args below meth c H locs cells slots Q (F0 m pc ls (.int (iI a) :: rest)) :=
  have hz : iR 0 := by decide
  lv_if_gt hx hb hdg ht (fun q => kt ((iI_lt hz ha).mp q)) (fun q => kf (fun z => q ((iI_lt hz ha).mpr z)))
theorem mi_icmp_le (hx : p.tables.exec = Jvm.exec) (hb : c.code = cc) {a b off : Int} {tgt : Nat} (hdg : decode cc pc = .ok (.if_icmp .le off, 3)) (ht : (pc : Int) + off = (tgt : Int)) (ha : iR a) (hb2 : iR b) (kt : (a ≤ b) → W p l e R s m args below meth c H locs cells slots Q (F0 m tgt ls rest)) (kf : ¬ (a ≤ b) → W p l e R s m args below meth c H locs cells slots Q (F0 m (pc + 3) ls rest)) : W p l e R s m args below meth c H locs cells slots Q (F0 m pc ls (.int (iI b) :: .int (iI a) :: rest)) :=
  lv_icmp_le hx hb hdg ht (fun q => kt ((iI_le ha hb2).mp q)) (fun q => kf (fun z => q ((iI_le ha hb2).mpr z)))
theorem mi_if_le (hx : p.tables.exec = Jvm.exec) (hb : c.code = cc) {a off : Int} {tgt : Nat} (hdg : decode cc pc = .ok (.ifCond .le off, 3)) (ht : (pc : Int) + off = (tgt : Int)) (ha : iR a) (kt : (a ≤ 0) → W p l e R s m args below meth c H locs cells slots Q (F0 m tgt ls rest)) (kf : ¬ (a ≤ 0) → W p l e R s m args below meth c H locs cells slots Q (F0 m (pc + 3) ls rest)) : W p l e R s m args below meth c H locs cells slots Q (F0 m pc ls (.int (iI a) :: rest)) :=
  have hz : iR 0 := by decide
  lv_if_le hx hb hdg ht (fun q => kt ((iI_le ha hz).mp q)) (fun q => kf (fun z => q ((iI_le ha hz).mpr z)))
theorem mi_lcmp_eq (hx : p.tables.exec = Jvm.exec) (hb : c.code = cc) {a b off : Int} {tgt : Nat} (hd0 : decode cc pc = .ok (.lcmp, 1)) (hdg : decode cc (pc + 1) = .ok (.ifCond .eq off, 3)) (ht : ((pc + 1 : Nat) : Int) + off = (tgt : Int)) (ha : lR a) (hb2 : lR b) (kt : (a = b) → W p l e R s m args below meth c H locs cells slots Q (F0 m tgt ls rest)) (kf : ¬ (a = b) → W p l e R s m args below meth c H locs cells slots Q (F0 m (pc + 4) ls rest)) : W p l e R s m args below meth c H locs cells slots Q (F0 m pc ls (.long (lI b) :: .long (lI a) :: rest)) :=
  W.lcmp hx hb hd0 (lv_if_eq hx hb hdg ht (fun q => kt ((lI_eq ha hb2).mp ((lg_cmp_eq _ _).mp q))) (fun q => kf (fun z => q ((lg_cmp_eq _ _).mpr ((lI_eq ha hb2).mpr z)))))
theorem mi_lcmp_ne (hx : p.tables.exec = Jvm.exec) (hb : c.code = cc) {a b off : Int} {tgt : Nat} (hd0 : decode cc pc = .ok (.lcmp, 1)) (hdg : decode cc (pc + 1) = .ok (.ifCond .ne off, 3)) (ht : ((pc + 1 : Nat) : Int) + off = (tgt : Int)) (ha : lR a) (hb2 : lR b) (kt : ¬ (a = b) → W p l e R s m args below meth c H locs cells slots Q (F0 m tgt ls rest)) (kf : a = b → W p l e R s m args below meth c H locs cells slots Q (F0 m (pc + 4) ls rest)) : W p l e R s m args below meth c H locs cells slots Q (F0 m pc ls (.long (lI b) :: .long (lI a) :: rest)) :=
  W.lcmp hx hb hd0 (lv_if_ne hx hb hdg ht (fun q => kt (fun z => q ((lg_cmp_eq _ _).mpr ((lI_eq ha hb2).mpr z)))) (fun q => kf ((lI_eq ha hb2).mp ((lg_cmp_eq _ _).mp q))))
theorem mi_lcmp_lt (hx : p.tables.exec = Jvm.exec) (hb : c.code = cc) {a b off : Int} {tgt : Nat} (hd0 : decode cc pc = .ok (.lcmp, 1)) (hdg : decode cc (pc + 1) = .ok (.ifCond .lt off, 3)) (ht : ((pc + 1 : Nat) : Int) + off = (tgt : Int)) (ha : lR a) (hb2 : lR b) (kt : (a < b) → W p l e R s m args below meth c H locs cells slots Q (F0 m tgt ls rest)) (kf : ¬ (a < b) → W p l e R s m args below meth c H locs cells slots Q (F0 m (pc + 4) ls rest)) : W p l e R s m args below meth c H locs cells slots Q (F0 m pc ls (.long (lI b) :: .long (lI a) :: rest)) :=
  W.lcmp hx hb hd0 (lv_if_lt hx hb hdg ht (fun q => kt ((lI_lt ha hb2).mp ((lg_cmp_lt _ _).mp q))) (fun q => kf (fun z => q ((lg_cmp_lt _ _).mpr ((lI_lt ha hb2).mpr z)))))
theorem mi_lcmp_ge (hx : p.tables.exec = Jvm.exec) (hb : c.code = cc) {a b off : Int} {tgt : Nat} (hd0 : decode cc pc = .ok (.lcmp, 1)) (hdg : decode cc (pc + 1) = .ok (.ifCond .ge off, 3)) (ht : ((pc + 1 : Nat) : Int) + off = (tgt : Int)) (ha : lR a) (hb2 : lR b) (kt : (b ≤ a) → W p l e R s m args below meth c H locs cells slots Q (F0 m tgt ls rest)) (kf : ¬ (b ≤ a) → W p l e R s m args below meth c H locs cells slots Q (F0 m (pc + 4) ls rest)) : W p l e R s m args below meth c H locs cells slots Q (F0 m pc ls (.long (lI b) :: .long (lI a) :: rest)) :=
  W.lcmp hx hb hd0 (lv_if_ge hx hb hdg ht (fun q => kt ((lI_le hb2 ha).mp ((lg_cmp_ge _ _).mp q))) (fun q => kf (fun z => q ((lg_cmp_ge _ _).mpr ((lI_le hb2 ha).mpr z)))))
theorem mi_lcmp_gt (hx : p.tables.exec = Jvm.exec) (hb : c.code = cc) {a b off : Int} {tgt : Nat} (hd0 : decode cc pc = .ok (.lcmp, 1)) (hdg : decode cc (pc + 1) = .ok (.ifCond .gt off, 3)) (ht : ((pc + 1 : Nat) : Int) + off = (tgt : Int)) (ha : lR a) (hb2 : lR b) (kt : (b < a) → W p l e R s m args below meth c H locs cells slots Q (F0 m tgt ls rest)) (kf : ¬ (b < a) → W p l e R s m args below meth c H locs cells slots Q (F0 m (pc + 4) ls rest)) : W p l e R s m args below meth c H locs cells slots Q (F0 m pc ls (.long (lI b) :: .long (lI a) :: rest)) :=
  W.lcmp hx hb hd0 (lv_if_gt hx hb hdg ht (fun q => kt ((lI_lt hb2 ha).mp ((lg_cmp_gt _ _).mp q))) (fun q => kf (fun z => q ((lg_cmp_gt _ _).mpr ((lI_lt hb2 ha).mpr z)))))
theorem mi_lcmp_le (hx : p.tables.exec = Jvm.exec) (hb : c.code = cc) {a b off : Int} {tgt : Nat} (hd0 : decode cc pc = .ok (.lcmp, 1)) (hdg : decode cc (pc + 1) = .ok (.ifCond .le off, 3)) (ht : ((pc + 1 : Nat) : Int) + off = (tgt : Int)) (ha : lR a) (hb2 : lR b) (kt : (a ≤ b) → W p l e R s m args below meth c H locs cells slots Q (F0 m tgt ls rest)) (kf : ¬ (a ≤ b) → W p l e R s m args below meth c H locs cells slots Q (F0 m (pc + 4) ls rest)) : W p l e R s m args below meth c H locs cells slots Q (F0 m pc ls (.long (lI b) :: .long (lI a) :: rest)) :=
  W.lcmp hx hb hd0 (lv_if_le hx hb hdg ht (fun q => kt ((lI_le ha hb2).mp ((lg_cmp_le _ _).mp q))) (fun q => kf (fun z => q ((lg_cmp_le _ _).mpr ((lI_le ha hb2).mpr z)))))
theorem mi_mmax (hx : p.tables.exec = Jvm.exec) (hb : c.code = cc) (hml : c.maxLocals = ls.size) {own : String} {index : Nat} (hown : s.vm.findClass own = some m.cls) (hlink : (Cond.methodLink own index Lib.Math.max.name).before args s = true) (hstat : (Cond.static Lib.Math.max.name).before args s = true) (hini : (Cond.initialized "java/lang/Math").before args s = true) (hcode : (Cond.code Lib.Math.max.name Lib.Math.max.code 2 (some .int)).before args s = true) (hframes : 1 ≤ R.frames) (hlocals : (rest.map fun v => v.category).sum + 13 ≤ R.locals) (hc : cells ≤ R.cells) (hs : slots ≤ R.slots) {a b : Int} (ha : iR a) (hb2 : iR b) (hdg : decode cc pc = .ok (.invokestatic index, 3)) (kk : W p l e R s m args below meth c H locs cells slots Q (F0 m (pc + 3) ls (.int (iI (max a b)) :: rest))) : W p l e R s m args below meth c H locs cells slots Q (F0 m pc ls (.int (iI b) :: .int (iI a) :: rest)) :=
  va_mmax hx hb hml hown hlink hstat hini hcode hframes hlocals hc hs hdg (by rw [iI_max ha hb2]; exact kk)
theorem mi_mmin (hx : p.tables.exec = Jvm.exec) (hb : c.code = cc) (hml : c.maxLocals = ls.size) {own : String} {index : Nat} (hown : s.vm.findClass own = some m.cls) (hlink : (Cond.methodLink own index Lib.Math.min.name).before args s = true) (hstat : (Cond.static Lib.Math.min.name).before args s = true) (hini : (Cond.initialized "java/lang/Math").before args s = true) (hcode : (Cond.code Lib.Math.min.name Lib.Math.min.code 2 (some .int)).before args s = true) (hframes : 1 ≤ R.frames) (hlocals : (rest.map fun v => v.category).sum + 13 ≤ R.locals) (hc : cells ≤ R.cells) (hs : slots ≤ R.slots) {a b : Int} (ha : iR a) (hb2 : iR b) (hdg : decode cc pc = .ok (.invokestatic index, 3)) (kk : W p l e R s m args below meth c H locs cells slots Q (F0 m (pc + 3) ls (.int (iI (min a b)) :: rest))) : W p l e R s m args below meth c H locs cells slots Q (F0 m pc ls (.int (iI b) :: .int (iI a) :: rest)) :=
  va_mmin hx hb hml hown hlink hstat hini hcode hframes hlocals hc hs hdg (by rw [iI_min ha hb2]; exact kk)
theorem mi_mmaxl (hx : p.tables.exec = Jvm.exec) (hb : c.code = cc) (hml : c.maxLocals = ls.size) {own : String} {index : Nat} (hown : s.vm.findClass own = some m.cls) (hlink : (Cond.methodLink own index Lib.MathLoose.max_long.x).before args s = true) (hstat : (Cond.static Lib.MathLoose.max_long.x).before args s = true) (hini : (Cond.initialized "java/lang/Math").before args s = true) (hcode : (Cond.code Lib.MathLoose.max_long.x Lib.MathLoose.max_long.code 4 (some .long)).before args s = true) (hframes : 1 ≤ R.frames) (hlocals : (rest.map fun v => v.category).sum + 15 ≤ R.locals) (hc : cells ≤ R.cells) (hs : slots ≤ R.slots) {a b : Int} (ha : lR a) (hb2 : lR b) (hdg : decode cc pc = .ok (.invokestatic index, 3)) (kk : W p l e R s m args below meth c H locs cells slots Q (F0 m (pc + 3) ls (.long (lI (max a b)) :: rest))) : W p l e R s m args below meth c H locs cells slots Q (F0 m pc ls (.long (lI b) :: .long (lI a) :: rest)) :=
  va_mmax_long hx hb hml hown hlink hstat hini hcode hframes hlocals hc hs hdg (by rw [lI_max ha hb2]; exact kk)
theorem mi_mminl (hx : p.tables.exec = Jvm.exec) (hb : c.code = cc) (hml : c.maxLocals = ls.size) {own : String} {index : Nat} (hown : s.vm.findClass own = some m.cls) (hlink : (Cond.methodLink own index Lib.MathLoose.min_long.x).before args s = true) (hstat : (Cond.static Lib.MathLoose.min_long.x).before args s = true) (hini : (Cond.initialized "java/lang/Math").before args s = true) (hcode : (Cond.code Lib.MathLoose.min_long.x Lib.MathLoose.min_long.code 4 (some .long)).before args s = true) (hframes : 1 ≤ R.frames) (hlocals : (rest.map fun v => v.category).sum + 15 ≤ R.locals) (hc : cells ≤ R.cells) (hs : slots ≤ R.slots) {a b : Int} (ha : lR a) (hb2 : lR b) (hdg : decode cc pc = .ok (.invokestatic index, 3)) (kk : W p l e R s m args below meth c H locs cells slots Q (F0 m (pc + 3) ls (.long (lI (min a b)) :: rest))) : W p l e R s m args below meth c H locs cells slots Q (F0 m pc ls (.long (lI b) :: .long (lI a) :: rest)) :=
  va_mmin_long hx hb hml hown hlink hstat hini hcode hframes hlocals hc hs hdg (by rw [lI_min ha hb2]; exact kk)
end MI
section MP
variable {p : Program} {l : Launch} {e : Env} {R : Room} {s : State} {m : MethodId} {args : Array Value} {below : List Frame} {meth : Method} {c : Code} {H : Heap} {locs : List Loc} {cells slots : Nat} {Q : State → Prop}
variable {cc : ByteArray} {pc : Nat} {ls : Array Slot} {rest : List Value} {D : va_G} {cl : List vw_C} {lo a : Nat} {tys : List (ClassId × FieldType)} {f : hM} {H0 : Heap}
theorem mp_get (hx : p.tables.exec = Jvm.exec) (hb : c.code = cc) {own ref C : String} {T : u_T} {N ci index : Nat} {Ts : List Cond} (hts : ∀ w ∈ Ts, w.before args s = true) (hin : ∀ w ∈ u_ws C T N, w ∈ Ts) (hown : s.vm.findClass own = some m.cls) (hK : va_K D cl tys s) (hw : hW D cl lo f H) {fs : List Value} (he : f a = some (eO ci fs)) (hc : cl[ci]? = some (C, T, N)) (k : Nat) (hk : k < N) (hlink : (Cond.fieldLink own index ref (T k).2.1 (T k).2.2.1).before args s = true) (hsame : ∀ x, s.fieldFound? (T k).1 (T k).2.1 (T k).2.2.1 = some x → s.fieldFound? ref (T k).2.1 (T k).2.2.1 = some x) {v : Value} (hv : fs[k]? = some v) (hdg : decode cc pc = .ok (.getfield index, 3)) (kk : W p l e R s m args below meth c H locs cells slots Q (F0 m (pc + 3) ls (v :: rest))) : W p l e R s m args below meth c H locs cells slots Q (F0 m pc ls (.ref a :: rest)) :=
  va_get hx hb hts hin hown hK (hw.one he) 0 rfl hc k hk hlink hsame hv hdg kk
theorem mp_getN (hx : p.tables.exec = Jvm.exec) (hb : c.code = cc) {own ref C host : String} {T : u_T} {N ci index : Nat} {Ts : List Cond} (hts : ∀ w ∈ Ts, w.before args s = true) (hin : ∀ w ∈ u_ws C T N, w ∈ Ts) (hown : s.vm.findClass own = some m.cls) (hK : va_K D cl tys s) (hw : hW D cl lo f H) {fs : List Value} (he : f a = some (eO ci fs)) (hc : cl[ci]? = some (C, T, N)) (k : Nat) (hk : k < N) (hlink : (Cond.fieldLinkNest own index ref (T k).2.1 (T k).2.2.1 host).before args s = true) (hsame : ∀ x, s.fieldFound? (T k).1 (T k).2.1 (T k).2.2.1 = some x → s.fieldFound? ref (T k).2.1 (T k).2.2.1 = some x) {v : Value} (hv : fs[k]? = some v) (hdg : decode cc pc = .ok (.getfield index, 3)) (kk : W p l e R s m args below meth c H locs cells slots Q (F0 m (pc + 3) ls (v :: rest))) : W p l e R s m args below meth c H locs cells slots Q (F0 m pc ls (.ref a :: rest)) :=
  va_getN hx hb hts hin hown hK (hw.one he) 0 rfl hc k hk hlink hsame hv hdg kk
theorem mp_put (hx : p.tables.exec = Jvm.exec) (hb : c.code = cc) {own ref C : String} {T : u_T} {N ci index : Nat} {Ts : List Cond} (hts : ∀ w ∈ Ts, w.before args s = true) (hin : ∀ w ∈ u_ws C T N, w ∈ Ts) (ty0 : Nat → FieldType) (hty : ∀ k, k < N → parseFieldDescriptor (T k).2.2.1 = some (ty0 k)) (hnm : ∀ a, a < N → ∀ b, b < N → a ≠ b → (T a).2.1 ≠ (T b).2.1) (hown : s.vm.findClass own = some m.cls) (hK : va_K D cl tys s) (hw : hW D cl lo f H) (hS : va_S (fun q => lo ≤ q) H0 H locs) {fs : List Value} (he : f a = some (eO ci fs)) (hc : cl[ci]? = some (C, T, N)) (k : Nat) (hk : k < N) (hlink : (Cond.fieldLink own index ref (T k).2.1 (T k).2.2.1).before args s = true) (hsame : ∀ x, s.fieldFound? (T k).1 (T k).2.1 (T k).2.2.1 = some x → s.fieldFound? ref (T k).2.1 (T k).2.2.1 = some x) (hfin : (T k).2.2.2 = false) {ty : FieldType} {v : Value} (hd : parseFieldDescriptor (T k).2.2.1 = some ty) (hn : narrow ty v = v) (hfit : fits ty v = true) (hl : k < fs.length) (hdg : decode cc pc = .ok (.putfield index, 3)) (kk : ∀ (H1 : Heap) (locs1 : List Loc), hW D cl lo (va_up f a (some (eO ci (fs.set k v)))) H1 → va_S (fun q => lo ≤ q) H0 H1 locs1 → W p l e R s m args below meth c H1 locs1 cells slots Q (F0 m (pc + 3) ls rest)) : W p l e R s m args below meth c H locs cells slots Q (F0 m pc ls (v :: .ref a :: rest)) := by
  obtain ⟨ws, hP, hD, hi⟩ := hw.list
  obtain ⟨q0, h0⟩ := (hi _ _).mp he
  exact va_put hx hb hts hin ty0 hty hnm hown hK hP hD hS q0 h0 hc k hk hlink hsame hfin hd hn hfit hl hdg (fun H1 locs1 hP1 hD1 hS1 => kk H1 locs1 (hw.set hD hi h0 hP1) hS1)
theorem mp_putN (hx : p.tables.exec = Jvm.exec) (hb : c.code = cc) {own ref C host : String} {T : u_T} {N ci index : Nat} {Ts : List Cond} (hts : ∀ w ∈ Ts, w.before args s = true) (hin : ∀ w ∈ u_ws C T N, w ∈ Ts) (ty0 : Nat → FieldType) (hty : ∀ k, k < N → parseFieldDescriptor (T k).2.2.1 = some (ty0 k)) (hnm : ∀ a, a < N → ∀ b, b < N → a ≠ b → (T a).2.1 ≠ (T b).2.1) (hown : s.vm.findClass own = some m.cls) (hK : va_K D cl tys s) (hw : hW D cl lo f H) (hS : va_S (fun q => lo ≤ q) H0 H locs) {fs : List Value} (he : f a = some (eO ci fs)) (hc : cl[ci]? = some (C, T, N)) (k : Nat) (hk : k < N) (hlink : (Cond.fieldLinkNest own index ref (T k).2.1 (T k).2.2.1 host).before args s = true) (hsame : ∀ x, s.fieldFound? (T k).1 (T k).2.1 (T k).2.2.1 = some x → s.fieldFound? ref (T k).2.1 (T k).2.2.1 = some x) (hfin : (T k).2.2.2 = false) {ty : FieldType} {v : Value} (hd : parseFieldDescriptor (T k).2.2.1 = some ty) (hn : narrow ty v = v) (hfit : fits ty v = true) (hl : k < fs.length) (hdg : decode cc pc = .ok (.putfield index, 3)) (kk : ∀ (H1 : Heap) (locs1 : List Loc), hW D cl lo (va_up f a (some (eO ci (fs.set k v)))) H1 → va_S (fun q => lo ≤ q) H0 H1 locs1 → W p l e R s m args below meth c H1 locs1 cells slots Q (F0 m (pc + 3) ls rest)) : W p l e R s m args below meth c H locs cells slots Q (F0 m pc ls (v :: .ref a :: rest)) := by
  obtain ⟨ws, hP, hD, hi⟩ := hw.list
  obtain ⟨q0, h0⟩ := (hi _ _).mp he
  exact va_putN hx hb hts hin ty0 hty hnm hown hK hP hD hS q0 h0 hc k hk hlink hsame hfin hd hn hfit hl hdg (fun H1 locs1 hP1 hD1 hS1 => kk H1 locs1 (hw.set hD hi h0 hP1) hS1)
theorem mp_putF (hx : p.tables.exec = Jvm.exec) (hb : c.code = cc) {own ref C : String} {T : u_T} {N ci index : Nat} {Ts : List Cond} (hts : ∀ w ∈ Ts, w.before args s = true) (hin : ∀ w ∈ u_ws C T N, w ∈ Ts) (ty0 : Nat → FieldType) (hty : ∀ k, k < N → parseFieldDescriptor (T k).2.2.1 = some (ty0 k)) (hnm : ∀ a, a < N → ∀ b, b < N → a ≠ b → (T a).2.1 ≠ (T b).2.1) (hown : s.vm.findClass own = some m.cls) (hK : va_K D cl tys s) (hw : hW D cl lo f H) (hS : va_S (fun q => lo ≤ q) H0 H locs) {fs : List Value} (he : f a = some (eO ci fs)) (hc : cl[ci]? = some (C, T, N)) (k : Nat) (hk : k < N) (hlink : (Cond.fieldLink own index ref (T k).2.1 (T k).2.2.1).before args s = true) (hsame : ∀ x, s.fieldFound? (T k).1 (T k).2.1 (T k).2.2.1 = some x → s.fieldFound? ref (T k).2.1 (T k).2.2.1 = some x) (hfin : (T k).2.2.2 = true) (hin2 : meth.name = "<init>") (hdecl : (T k).1 = own) {ty : FieldType} {v : Value} (hd : parseFieldDescriptor (T k).2.2.1 = some ty) (hn : narrow ty v = v) (hfit : fits ty v = true) (hl : k < fs.length) (hdg : decode cc pc = .ok (.putfield index, 3)) (kk : ∀ (H1 : Heap) (locs1 : List Loc), hW D cl lo (va_up f a (some (eO ci (fs.set k v)))) H1 → va_S (fun q => lo ≤ q) H0 H1 locs1 → W p l e R s m args below meth c H1 locs1 cells slots Q (F0 m (pc + 3) ls rest)) : W p l e R s m args below meth c H locs cells slots Q (F0 m pc ls (v :: .ref a :: rest)) := by
  obtain ⟨ws, hP, hD, hi⟩ := hw.list
  obtain ⟨q0, h0⟩ := (hi _ _).mp he
  exact va_putF hx hb hts hin ty0 hty hnm hown hK hP hD hS q0 h0 hc k hk hlink hsame hfin hin2 hdecl hd hn hfit hl hdg (fun H1 locs1 hP1 hD1 hS1 => kk H1 locs1 (hw.set hD hi h0 hP1) hS1)
theorem mp_new (hx : p.tables.exec = Jvm.exec) (hb : c.code = cc) {own C : String} {T : u_T} {N ci index : Nat} {Ts : List Cond} (hts : ∀ w ∈ Ts, w.before args s = true) (hin : ∀ w ∈ u_ws C T N, w ∈ Ts) (ty : Nat → FieldType) (hty : ∀ k, k < N → parseFieldDescriptor (T k).2.2.1 = some (ty k)) (hown : s.vm.findClass own = some m.cls) (hcl : (Cond.classLink own index C).before args s = true) (hinst : (Cond.instantiable C N).before args s = true) (hini : (Cond.initialized C).before args s = true) (hK : va_K D cl tys s) (hw : hW D cl lo f H) (hS : va_S (fun q => lo ≤ q) H0 H locs) (hlo : lo ≤ H0.size) (hc : cl[ci]? = some (C, T, N)) {fs : List Value} (hfs : ∀ j, j < N → defaultValue (ty j) = vp_V fs j) (hcells : cells + 1 ≤ R.cells) (hslots : slots + N ≤ R.slots) (hdg : decode cc pc = .ok (.new index, 3)) (kk : ∀ (q : Nat) (H1 : Heap), f q = none → hW D cl lo (va_up f q (some (eO ci fs))) H1 → va_S (fun q => lo ≤ q) H0 H1 locs → W p l e R s m args below meth c H1 locs (cells + 1) (slots + N) Q (F0 m (pc + 3) ls (.ref q :: rest))) : W p l e R s m args below meth c H locs cells slots Q (F0 m pc ls rest) := by
  obtain ⟨ws, hP, hD, hi⟩ := hw.list
  exact va_new hx hb hts hin ty hty hown hcl hinst hini hK hP hD hS (fun q h => Nat.le_trans hlo h) hc hfs hcells hslots hdg (fun q H1 hP1 hD1 hS1 => kk q H1 (hw.push hi hP1 hD1).1 (hw.push hi hP1 hD1).2 hS1)
theorem mp_iald (hx : p.tables.exec = Jvm.exec) (hb : c.code = cc) (hK : va_K D cl tys s) (hw : hW D cl lo f H) (t0 : Nat) {cA : ClassId} {n : Nat} {g : Nat → Int} (he : f a = some (eI cA n g)) (ht : tys[t0]? = some (cA, .int)) {z : Int} (k : Nat) (hz : z = (k : Int)) (hk : k < n) (hn : n < 2147483648) (hdg : decode cc pc = .ok (.iaload, 1)) (kk : W p l e R s m args below meth c H locs cells slots Q (F0 m (pc + 1) ls (.int (iI (g k)) :: rest))) : W p l e R s m args below meth c H locs cells slots Q (F0 m pc ls (.int (iI z) :: .ref a :: rest)) := by
  subst hz
  exact va_iald hx hb hK (hw.one he) 0 t0 rfl ht (iI_in hk hn) hdg (by rw [iI_clamp (by omega)]; exact kk)
theorem mp_lald (hx : p.tables.exec = Jvm.exec) (hb : c.code = cc) (hK : va_K D cl tys s) (hw : hW D cl lo f H) (t0 : Nat) {cA : ClassId} {n : Nat} {g : Nat → Int} (he : f a = some (eJ cA n g)) (ht : tys[t0]? = some (cA, .long)) {z : Int} (k : Nat) (hz : z = (k : Int)) (hk : k < n) (hn : n < 2147483648) (hdg : decode cc pc = .ok (.laload, 1)) (kk : W p l e R s m args below meth c H locs cells slots Q (F0 m (pc + 1) ls (.long (lI (g k)) :: rest))) : W p l e R s m args below meth c H locs cells slots Q (F0 m pc ls (.int (iI z) :: .ref a :: rest)) := by
  subst hz
  exact va_lald hx hb hK (hw.one he) 0 t0 rfl ht (iI_in hk hn) hdg (by rw [iI_clamp (by omega)]; exact kk)
theorem mp_aald (hx : p.tables.exec = Jvm.exec) (hb : c.code = cc) (hK : va_K D cl tys s) (hw : hW D cl lo f H) (t0 : Nat) {cA : ClassId} {C : String} {n : Nat} {g : Nat → Option Nat} (he : f a = some (eA cA n g)) (ht : tys[t0]? = some (cA, .object C)) {z : Int} (k : Nat) (hz : z = (k : Int)) (hk : k < n) (hn : n < 2147483648) (hdg : decode cc pc = .ok (.aaload, 1)) (kk : W p l e R s m args below meth c H locs cells slots Q (F0 m (pc + 1) ls (va_rf (g k) :: rest))) : W p l e R s m args below meth c H locs cells slots Q (F0 m pc ls (.int (iI z) :: .ref a :: rest)) := by
  subst hz
  exact va_aldq hx hb hK (hw.one he) 0 t0 rfl ht (iI_in hk hn) hdg (by rw [iI_clamp (by omega)]; exact kk)
theorem mp_alen (hx : p.tables.exec = Jvm.exec) (hb : c.code = cc) (hK : va_K D cl tys s) (hw : hW D cl lo f H) (t0 : Nat) {cA : ClassId} {x : vp_A} (he : f a = some (.inl (cA, x))) {ty : FieldType} (ht : tys[t0]? = some (cA, ty)) (hdg : decode cc pc = .ok (.arraylength, 1)) (kk : W p l e R s m args below meth c H locs cells slots Q (F0 m (pc + 1) ls (.int (iI (x.1 : Int)) :: rest))) : W p l e R s m args below meth c H locs cells slots Q (F0 m pc ls (.ref a :: rest)) :=
  va_alen hx hb hK (hw.one he) 0 t0 rfl ht (iI_nat x.1) hdg kk
theorem mp_iast (hx : p.tables.exec = Jvm.exec) (hb : c.code = cc) (hK : va_K D cl tys s) (hw : hW D cl lo f H) (hS : va_S (fun q => lo ≤ q) H0 H locs) (t0 : Nat) {cA : ClassId} {n : Nat} {g : Nat → Int} (he : f a = some (eI cA n g)) (ht : tys[t0]? = some (cA, .int)) {z x : Int} (k : Nat) (hz : z = (k : Int)) (hk : k < n) (hn : n < 2147483648) (hdg : decode cc pc = .ok (.iastore, 1)) (kk : ∀ (H1 : Heap) (locs1 : List Loc), hW D cl lo (va_up f a (some (eI cA n (va_up g k x)))) H1 → va_S (fun q => lo ≤ q) H0 H1 locs1 → W p l e R s m args below meth c H1 locs1 cells slots Q (F0 m (pc + 1) ls rest)) : W p l e R s m args below meth c H locs cells slots Q (F0 m pc ls (.int (iI x) :: .int (iI z) :: .ref a :: rest)) := by
  subst hz
  obtain ⟨ws, hP, hD, hi⟩ := hw.list
  obtain ⟨q0, h0⟩ := (hi _ _).mp he
  have hu : upd (fun j => iI (g j)) k (iI x) = (fun j => iI (va_up g k x j)) := by funext j; simp only [upd, va_up]; split <;> rfl
  refine va_iast hx hb hK hP hD hS q0 t0 h0 ht (iI_in hk hn) hdg (fun H1 locs1 hP1 hD1 hS1 => kk H1 locs1 (hw.set hD hi h0 ?_) hS1)
  rw [iI_clamp (by omega), hu] at hP1
  exact hP1
theorem mp_last (hx : p.tables.exec = Jvm.exec) (hb : c.code = cc) (hK : va_K D cl tys s) (hw : hW D cl lo f H) (hS : va_S (fun q => lo ≤ q) H0 H locs) (t0 : Nat) {cA : ClassId} {n : Nat} {g : Nat → Int} (he : f a = some (eJ cA n g)) (ht : tys[t0]? = some (cA, .long)) {z x : Int} (k : Nat) (hz : z = (k : Int)) (hk : k < n) (hn : n < 2147483648) (hdg : decode cc pc = .ok (.lastore, 1)) (kk : ∀ (H1 : Heap) (locs1 : List Loc), hW D cl lo (va_up f a (some (eJ cA n (va_up g k x)))) H1 → va_S (fun q => lo ≤ q) H0 H1 locs1 → W p l e R s m args below meth c H1 locs1 cells slots Q (F0 m (pc + 1) ls rest)) : W p l e R s m args below meth c H locs cells slots Q (F0 m pc ls (.long (lI x) :: .int (iI z) :: .ref a :: rest)) := by
  subst hz
  obtain ⟨ws, hP, hD, hi⟩ := hw.list
  obtain ⟨q0, h0⟩ := (hi _ _).mp he
  have hu : vp_updL (fun j => lI (g j)) k (lI x) = (fun j => lI (va_up g k x j)) := by funext j; simp only [vp_updL, va_up]; split <;> rfl
  refine va_last hx hb hK hP hD hS q0 t0 h0 ht (iI_in hk hn) hdg (fun H1 locs1 hP1 hD1 hS1 => kk H1 locs1 (hw.set hD hi h0 ?_) hS1)
  rw [iI_clamp (by omega), hu] at hP1
  exact hP1
end MP
end
section
/-! contracts over map worlds: start, ends, calls -/
def GOK (lo : Nat) (G : State → Prop) : Prop := (∀ (U : State) (g : JFrame) (mk : MethodId) (a : Array Value), G U → G (U.calling g mk a)) ∧ ∀ (u U : State), u.WarmedH U.vm → u.heap.size ≤ U.heap.size → (∀ q : Nat, q < u.heap.size → ¬ lo ≤ q → U.heap[q]? = u.heap[q]?) → G u → G U
def Bq (D : va_G) (cl : List vw_C) (tys : List (ClassId × FieldType)) (lo : Nat) (G : State → Prop) (f : hM) (U : State) : Prop := hW D cl lo f U.heap ∧ va_K D cl tys U ∧ lo ≤ U.heap.size ∧ G U
theorem Bq.blind {D : va_G} {cl : List vw_C} {tys : List (ClassId × FieldType)} {lo : Nat} {G : State → Prop} (hGO : GOK lo G) {f : hM} {av : List Value} : FrameBlind (va_Pc av (Bq D cl tys lo G f)) := by
  intro a U g mk h
  obtain ⟨h0, h1, h2, h3, h4⟩ := h
  exact ⟨h0, h1, va_K.moved (u := U) (U := U.calling g mk a) (Vm.Alike.refl U.vm) h2, h3, hGO.1 U g mk a h4⟩
theorem Bq.at {D : va_G} {cl : List vw_C} {tys : List (ClassId × FieldType)} {lo : Nat} {G : State → Prop} (hGO : GOK lo G) {f : hM} {s U : State} {H : Heap} {locs : List Loc} (hK : va_K D cl tys s) (hlo : lo ≤ s.heap.size) (hG : G s) (hw : hW D cl lo f H) (hS : va_S (fun q => lo ≤ q) s.heap H locs) (hU : U.heap = H) (hA : s.WarmedH U.vm) : Bq D cl tys lo G f U :=
  ⟨by rw [hU]; exact hw, va_K.moved hA.alike hK, by rw [hU]; exact Nat.le_trans hlo hS.1, hGO.2 s U hA (by rw [hU]; exact hS.1) (fun q h1 h2 => by rw [hU]; exact hS.2.1 q h1 h2) hG⟩
section MQ
variable {p : Program} {l : Launch} {e : Env} {R : Room} {s : State} {m : MethodId} {args : Array Value} {below : List Frame} {meth : Method} {c : Code} {H : Heap} {locs : List Loc} {cells slots : Nat} {Q : State → Prop}
variable {cc : ByteArray} {pc : Nat} {ls : Array Slot} {rest st0 : List Value} {D : va_G} {cl : List vw_C} {lo : Nat} {tys : List (ClassId × FieldType)} {f : hM} {G : State → Prop} {mc ms : Nat}
theorem mq_preV {C : String} {b : Nat} {As : List Value} (hK : va_K D cl tys s) (hlo : lo ≤ s.heap.size) (hGO : GOK lo G) (hG : G s) (hw : hW D cl lo f H) (hS : va_S (fun q => lo ≤ q) s.heap H locs) (hr : ∃ cell : Cell, H[b]? = some cell ∧ cell.vm.isStatics = false ∧ s.vm.findClass C = some cell.cls) : PreV s H C b (va_Pc (.ref b :: As) (Bq D cl tys lo G f)) As :=
  ⟨Bq.blind hGO, hr, fun U hU hW => ⟨rfl, Bq.at hGO hK hlo hG hw hS hU hW⟩⟩
theorem mq_preS {As : List Value} (hK : va_K D cl tys s) (hlo : lo ≤ s.heap.size) (hGO : GOK lo G) (hG : G s) (hw : hW D cl lo f H) (hS : va_S (fun q => lo ≤ q) s.heap H locs) : PreS s H (va_Pc As (Bq D cl tys lo G f)) As :=
  ⟨Bq.blind hGO, fun U hU hW => ⟨rfl, Bq.at hGO hK hlo hG hw hS hU hW⟩⟩
theorem mq_iret {post : Int32 → hM → Prop} {v : Int32} (hx : p.tables.exec = Jvm.exec) (hb : c.code = cc) (hr : meth.sig.returnType = some .int) (hlocks : meth.locks = false) (hK : va_K D cl tys s) (hlo : lo ≤ s.heap.size) (hGO : GOK lo G) (hG : G s) (hw : hW D cl lo f H) (hS : va_S (fun q => lo ≤ q) s.heap H locs) (hc : cells ≤ mc) (hs : slots ≤ ms) (hdg : decode cc pc = .ok (.ireturn, 1)) (hp : post v f) : W p l e R s m args below meth c H locs cells slots (MQ below (va_Qi post (Bq D cl tys lo G) (fun q => lo ≤ q)) args s mc ms (fun q => lo ≤ q)) (F0 m pc ls [.int v]) :=
  W.widen hc hs (W.iret hx hb hr (fun t ht hW => ⟨⟨v, f, rfl, hp, Bq.at hGO hK hlo hG hw hS ht hW⟩, hS.F ht⟩) hS.2.2 hdg hlocks)
theorem mq_lret {post : Int64 → hM → Prop} {v : Int64} (hx : p.tables.exec = Jvm.exec) (hb : c.code = cc) (hr : meth.sig.returnType = some .long) (hlocks : meth.locks = false) (hK : va_K D cl tys s) (hlo : lo ≤ s.heap.size) (hGO : GOK lo G) (hG : G s) (hw : hW D cl lo f H) (hS : va_S (fun q => lo ≤ q) s.heap H locs) (hc : cells ≤ mc) (hs : slots ≤ ms) (hdg : decode cc pc = .ok (.lreturn, 1)) (hp : post v f) : W p l e R s m args below meth c H locs cells slots (MQ below (va_Ql post (Bq D cl tys lo G) (fun q => lo ≤ q)) args s mc ms (fun q => lo ≤ q)) (F0 m pc ls [.long v]) :=
  W.widen hc hs (W.lret hx hb hr (fun t ht hW => ⟨⟨v, f, rfl, hp, Bq.at hGO hK hlo hG hw hS ht hW⟩, hS.F ht⟩) hS.2.2 hdg hlocks)
theorem mq_zret {post : Int32 → hM → Prop} {z : Int} (hx : p.tables.exec = Jvm.exec) (hb : c.code = cc) (hr : meth.sig.returnType = some .boolean) (hlocks : meth.locks = false) (hK : va_K D cl tys s) (hlo : lo ≤ s.heap.size) (hGO : GOK lo G) (hG : G s) (hw : hW D cl lo f H) (hS : va_S (fun q => lo ≤ q) s.heap H locs) (hc : cells ≤ mc) (hs : slots ≤ ms) (hz : z = 0 ∨ z = 1) (hdg : decode cc pc = .ok (.ireturn, 1)) (hp : post (iI z) f) : W p l e R s m args below meth c H locs cells slots (MQ below (va_Qi post (Bq D cl tys lo G) (fun q => lo ≤ q)) args s mc ms (fun q => lo ≤ q)) (F0 m pc ls [.int (iI z)]) :=
  W.widen hc hs (W.zret (ty := .boolean) hx hb hr (by rcases hz with rfl | rfl <;> decide) (fun t ht hW => ⟨⟨iI z, f, rfl, hp, Bq.at hGO hK hlo hG hw hS ht hW⟩, hS.F ht⟩) hS.2.2 hdg hlocks)
theorem mq_vret {post : hM → Prop} (hx : p.tables.exec = Jvm.exec) (hb : c.code = cc) (hr : meth.sig.returnType = none) (hlocks : meth.locks = false) (hK : va_K D cl tys s) (hlo : lo ≤ s.heap.size) (hGO : GOK lo G) (hG : G s) (hw : hW D cl lo f H) (hS : va_S (fun q => lo ≤ q) s.heap H locs) (hc : cells ≤ mc) (hs : slots ≤ ms) (hdg : decode cc pc = .ok (.return_, 1)) (hp : post f) : W p l e R s m args below meth c H locs cells slots (MQ below (va_Qv post (Bq D cl tys lo G) (fun q => lo ≤ q)) args s mc ms (fun q => lo ≤ q)) (F0 m pc ls []) :=
  W.widen hc hs (W.vret hx hb hr (fun t ht hW => ⟨⟨f, rfl, hp, Bq.at hGO hK hlo hG hw hS ht hW⟩, hS.F ht⟩) hS.2.2 hdg hlocks)
theorem mq_aret {post : Option Nat → hM → Prop} {rt : FieldType} {r : Option Nat} (hx : p.tables.exec = Jvm.exec) (hb : c.code = cc) (hr : meth.sig.returnType = some rt) (hrt : (∃ n, rt = .object n) ∨ ∃ t, rt = .array t) (hlocks : meth.locks = false) (hK : va_K D cl tys s) (hlo : lo ≤ s.heap.size) (hGO : GOK lo G) (hG : G s) (hw : hW D cl lo f H) (hS : va_S (fun q => lo ≤ q) s.heap H locs) (hc : cells ≤ mc) (hs : slots ≤ ms) (hdg : decode cc pc = .ok (.areturn, 1)) (hp : post r f) : W p l e R s m args below meth c H locs cells slots (MQ below (va_Qq post (Bq D cl tys lo G) (fun q => lo ≤ q)) args s mc ms (fun q => lo ≤ q)) (F0 m pc ls [va_rf r]) :=
  W.widen hc hs (W.aret hx hb hr hrt (va_rf_or r) (fun t ht hW => ⟨⟨r, f, rfl, hp, Bq.at hGO hK hlo hG hw hS ht hW⟩, hS.F ht⟩) hS.2.2 hdg hlocks)
theorem mq_calli {post : Int32 → hM → Prop} {a : Array Value} (hr : va_Run p l e R s m args below meth c H locs cells slots mc ms (F0 m pc ls st0) rest (va_Qi post (Bq D cl tys lo G) (fun q => lo ≤ q) a) (fun q => lo ≤ q)) (hS : va_S (fun q => lo ≤ q) s.heap H locs) (kk : ∀ (r : Int32) (f1 : hM) (H1 : Heap) (locs1 : List Loc), post r f1 → hW D cl lo f1 H1 → va_S (fun q => lo ≤ q) s.heap H1 locs1 → W p l e R s m args below meth c H1 locs1 (cells + mc) (slots + ms) Q (F0 m (pc + 3) ls (.int r :: rest))) : W p l e R s m args below meth c H locs cells slots Q (F0 m pc ls st0) :=
  va_calli hr hS (fun _ _ h => h) (fun _ h => h) (fun r u t H1 locs1 ht _ hp hB _ _ hS1 => kk r u H1 locs1 hp (ht ▸ hB.1) hS1)
theorem mq_calll {post : Int64 → hM → Prop} {a : Array Value} (hr : va_Run p l e R s m args below meth c H locs cells slots mc ms (F0 m pc ls st0) rest (va_Ql post (Bq D cl tys lo G) (fun q => lo ≤ q) a) (fun q => lo ≤ q)) (hS : va_S (fun q => lo ≤ q) s.heap H locs) (kk : ∀ (r : Int64) (f1 : hM) (H1 : Heap) (locs1 : List Loc), post r f1 → hW D cl lo f1 H1 → va_S (fun q => lo ≤ q) s.heap H1 locs1 → W p l e R s m args below meth c H1 locs1 (cells + mc) (slots + ms) Q (F0 m (pc + 3) ls (.long r :: rest))) : W p l e R s m args below meth c H locs cells slots Q (F0 m pc ls st0) :=
  va_calll hr hS (fun _ _ h => h) (fun _ h => h) (fun r u t H1 locs1 ht _ hp hB _ _ hS1 => kk r u H1 locs1 hp (ht ▸ hB.1) hS1)
theorem mq_callq {post : Option Nat → hM → Prop} {a : Array Value} (hr : va_Run p l e R s m args below meth c H locs cells slots mc ms (F0 m pc ls st0) rest (va_Qq post (Bq D cl tys lo G) (fun q => lo ≤ q) a) (fun q => lo ≤ q)) (hS : va_S (fun q => lo ≤ q) s.heap H locs) (kk : ∀ (r : Option Nat) (f1 : hM) (H1 : Heap) (locs1 : List Loc), post r f1 → hW D cl lo f1 H1 → va_S (fun q => lo ≤ q) s.heap H1 locs1 → W p l e R s m args below meth c H1 locs1 (cells + mc) (slots + ms) Q (F0 m (pc + 3) ls (va_rf r :: rest))) : W p l e R s m args below meth c H locs cells slots Q (F0 m pc ls st0) :=
  va_callq hr hS (fun _ _ h => h) (fun _ h => h) (fun r u t H1 locs1 ht _ hp hB _ _ hS1 => kk r u H1 locs1 hp (ht ▸ hB.1) hS1)
theorem mq_callv {post : hM → Prop} {a : Array Value} (hr : va_Run p l e R s m args below meth c H locs cells slots mc ms (F0 m pc ls st0) rest (va_Qv post (Bq D cl tys lo G) (fun q => lo ≤ q) a) (fun q => lo ≤ q)) (hS : va_S (fun q => lo ≤ q) s.heap H locs) (kk : ∀ (f1 : hM) (H1 : Heap) (locs1 : List Loc), post f1 → hW D cl lo f1 H1 → va_S (fun q => lo ≤ q) s.heap H1 locs1 → W p l e R s m args below meth c H1 locs1 (cells + mc) (slots + ms) Q (F0 m (pc + 3) ls rest)) : W p l e R s m args below meth c H locs cells slots Q (F0 m pc ls st0) :=
  va_callv hr hS (fun _ _ h => h) (fun _ h => h) (fun u t H1 locs1 ht _ hp hB _ _ hS1 => kk u H1 locs1 hp (ht ▸ hB.1) hS1)
end MQ
end
section
/-! objects by their fields: references b, numbers v, by slots; what a method leaves alone -/
def oF (sh : List Bool) (b : Nat → Option Nat) (v : Nat → Int) : List Value := sh.mapIdx (fun k r => if r then va_rf (b k) else .int (iI (v k)))
theorem oF_at {sh : List Bool} {b : Nat → Option Nat} {v : Nat → Int} (k : Nat) : (oF sh b v)[k]? = (sh[k]?).map (fun r => if r then va_rf (b k) else .int (iI (v k))) := by
  unfold oF; rw [List.getElem?_mapIdx]
theorem oF_i {sh : List Bool} {b : Nat → Option Nat} {v : Nat → Int} {k : Nat} (h : sh[k]? = some false) : (oF sh b v)[k]? = some (.int (iI (v k))) := by rw [oF_at, h]; rfl
theorem oF_r {sh : List Bool} {b : Nat → Option Nat} {v : Nat → Int} {k : Nat} (h : sh[k]? = some true) : (oF sh b v)[k]? = some (va_rf (b k)) := by rw [oF_at, h]; rfl
theorem oF_len {sh : List Bool} {b : Nat → Option Nat} {v : Nat → Int} : (oF sh b v).length = sh.length := by unfold oF; exact List.length_mapIdx
theorem oF_si {sh : List Bool} {b : Nat → Option Nat} {v : Nat → Int} {k : Nat} {x : Int} (h : sh[k]? = some false) : (oF sh b v).set k (.int (iI x)) = oF sh b (va_up v k x) := by
  have hl : k < (oF sh b v).length := by rw [oF_len]; exact (List.getElem?_eq_some_iff.mp h).1
  apply List.ext_getElem?
  intro j
  by_cases hj : j = k
  · subst hj
    rw [List.getElem?_set_self hl, oF_i h, va_up_self]
  · rw [List.getElem?_set_ne (Ne.symm hj), oF_at, oF_at, va_up_ne _ _ hj]
theorem oF_sr {sh : List Bool} {b : Nat → Option Nat} {v : Nat → Int} {k : Nat} {q : Option Nat} (h : sh[k]? = some true) : (oF sh b v).set k (va_rf q) = oF sh (va_up b k q) v := by
  have hl : k < (oF sh b v).length := by rw [oF_len]; exact (List.getElem?_eq_some_iff.mp h).1
  apply List.ext_getElem?
  intro j
  by_cases hj : j = k
  · subst hj
    rw [List.getElem?_set_self hl, oF_r h, va_up_self]
  · rw [List.getElem?_set_ne (Ne.symm hj), oF_at, oF_at, va_up_ne _ _ hj]
/-- all cells but those listed are as before -/
abbrev Fr (S : List Nat) (f f1 : hM) : Prop := ∀ q : Nat, q ∉ S → f1 q = f q
theorem Fr.rf {S : List Nat} {f : hM} : Fr S f f := fun _ _ => rfl
theorem Fr.up {S : List Nat} {f0 f f1 : hM} {a : Nat} {e : va_E} (h : Fr S f0 f) (h1 : f1 = va_up f a (some e)) (ha : a ∈ S) : Fr S f0 f1 := fun q hq => by
  rw [h1, va_up_ne _ _ (fun z => hq (by rw [z]; exact ha))]; exact h q hq
theorem Fr.tr {S S1 : List Nat} {f0 f f1 : hM} (h : Fr S f0 f) (h1 : Fr S1 f f1) (hs : ∀ q ∈ S1, q ∈ S) : Fr S f0 f1 := fun q hq => (h1 q (fun z => hq (hs q z))).trans (h q hq)
theorem Fr.keep {S : List Nat} {f f1 : hM} {b : Nat} {x : va_E} (h : Fr S f f1) (hb : f b = some x) (hn : b ∉ S) : f1 b = some x := (h b hn).trans hb
theorem eq_s {f f1 : hM} {a : Nat} {e : va_E} (h : f1 = va_up f a (some e)) : f1 a = some e := by rw [h]; exact up_s
theorem eq_n {f f1 : hM} {a b : Nat} {e x : va_E} (h : f1 = va_up f a (some e)) (hb : f b = some x) (hn : b ≠ a) : f1 b = some x := by rw [h]; exact up_n hb hn
section MO
variable {p : Program} {l : Launch} {e : Env} {R : Room} {s : State} {m : MethodId} {args : Array Value} {below : List Frame} {meth : Method} {c : Code} {H : Heap} {locs : List Loc} {cells slots : Nat} {Q : State → Prop}
variable {cc : ByteArray} {pc : Nat} {ls : Array Slot} {rest : List Value} {D : va_G} {cl : List vw_C} {lo a : Nat} {tys : List (ClassId × FieldType)} {f : hM} {H0 : Heap} {sh : List Bool} {b : Nat → Option Nat} {v : Nat → Int}
theorem mo_geti (hx : p.tables.exec = Jvm.exec) (hb : c.code = cc) {own ref C : String} {T : u_T} {N ci index : Nat} {Ts : List Cond} (hts : ∀ w ∈ Ts, w.before args s = true) (hin : ∀ w ∈ u_ws C T N, w ∈ Ts) (hown : s.vm.findClass own = some m.cls) (hK : va_K D cl tys s) (hw : hW D cl lo f H) (he : f a = some (eO ci (oF sh b v))) (hc : cl[ci]? = some (C, T, N)) (k : Nat) (hk : k < N) (hs : sh[k]? = some false) (hlink : (Cond.fieldLink own index ref (T k).2.1 (T k).2.2.1).before args s = true) (hsame : ∀ x, s.fieldFound? (T k).1 (T k).2.1 (T k).2.2.1 = some x → s.fieldFound? ref (T k).2.1 (T k).2.2.1 = some x) (hdg : decode cc pc = .ok (.getfield index, 3)) (kk : W p l e R s m args below meth c H locs cells slots Q (F0 m (pc + 3) ls (.int (iI (v k)) :: rest))) : W p l e R s m args below meth c H locs cells slots Q (F0 m pc ls (.ref a :: rest)) :=
  mp_get hx hb hts hin hown hK hw he hc k hk hlink hsame (oF_i hs) hdg kk
theorem mo_getr (hx : p.tables.exec = Jvm.exec) (hb : c.code = cc) {own ref C : String} {T : u_T} {N ci index : Nat} {Ts : List Cond} (hts : ∀ w ∈ Ts, w.before args s = true) (hin : ∀ w ∈ u_ws C T N, w ∈ Ts) (hown : s.vm.findClass own = some m.cls) (hK : va_K D cl tys s) (hw : hW D cl lo f H) (he : f a = some (eO ci (oF sh b v))) (hc : cl[ci]? = some (C, T, N)) (k : Nat) (hk : k < N) (hs : sh[k]? = some true) {q : Nat} (hq : b k = some q) (hlink : (Cond.fieldLink own index ref (T k).2.1 (T k).2.2.1).before args s = true) (hsame : ∀ x, s.fieldFound? (T k).1 (T k).2.1 (T k).2.2.1 = some x → s.fieldFound? ref (T k).2.1 (T k).2.2.1 = some x) (hdg : decode cc pc = .ok (.getfield index, 3)) (kk : W p l e R s m args below meth c H locs cells slots Q (F0 m (pc + 3) ls (.ref q :: rest))) : W p l e R s m args below meth c H locs cells slots Q (F0 m pc ls (.ref a :: rest)) :=
  mp_get (v := .ref q) hx hb hts hin hown hK hw he hc k hk hlink hsame (by rw [oF_r hs, hq]; rfl) hdg kk
theorem mo_getiN (hx : p.tables.exec = Jvm.exec) (hb : c.code = cc) {own ref C host : String} {T : u_T} {N ci index : Nat} {Ts : List Cond} (hts : ∀ w ∈ Ts, w.before args s = true) (hin : ∀ w ∈ u_ws C T N, w ∈ Ts) (hown : s.vm.findClass own = some m.cls) (hK : va_K D cl tys s) (hw : hW D cl lo f H) (he : f a = some (eO ci (oF sh b v))) (hc : cl[ci]? = some (C, T, N)) (k : Nat) (hk : k < N) (hs : sh[k]? = some false) (hlink : (Cond.fieldLinkNest own index ref (T k).2.1 (T k).2.2.1 host).before args s = true) (hsame : ∀ x, s.fieldFound? (T k).1 (T k).2.1 (T k).2.2.1 = some x → s.fieldFound? ref (T k).2.1 (T k).2.2.1 = some x) (hdg : decode cc pc = .ok (.getfield index, 3)) (kk : W p l e R s m args below meth c H locs cells slots Q (F0 m (pc + 3) ls (.int (iI (v k)) :: rest))) : W p l e R s m args below meth c H locs cells slots Q (F0 m pc ls (.ref a :: rest)) :=
  mp_getN hx hb hts hin hown hK hw he hc k hk hlink hsame (oF_i hs) hdg kk
theorem mo_getrN (hx : p.tables.exec = Jvm.exec) (hb : c.code = cc) {own ref C host : String} {T : u_T} {N ci index : Nat} {Ts : List Cond} (hts : ∀ w ∈ Ts, w.before args s = true) (hin : ∀ w ∈ u_ws C T N, w ∈ Ts) (hown : s.vm.findClass own = some m.cls) (hK : va_K D cl tys s) (hw : hW D cl lo f H) (he : f a = some (eO ci (oF sh b v))) (hc : cl[ci]? = some (C, T, N)) (k : Nat) (hk : k < N) (hs : sh[k]? = some true) {q : Nat} (hq : b k = some q) (hlink : (Cond.fieldLinkNest own index ref (T k).2.1 (T k).2.2.1 host).before args s = true) (hsame : ∀ x, s.fieldFound? (T k).1 (T k).2.1 (T k).2.2.1 = some x → s.fieldFound? ref (T k).2.1 (T k).2.2.1 = some x) (hdg : decode cc pc = .ok (.getfield index, 3)) (kk : W p l e R s m args below meth c H locs cells slots Q (F0 m (pc + 3) ls (.ref q :: rest))) : W p l e R s m args below meth c H locs cells slots Q (F0 m pc ls (.ref a :: rest)) :=
  mp_getN (v := .ref q) hx hb hts hin hown hK hw he hc k hk hlink hsame (by rw [oF_r hs, hq]; rfl) hdg kk
theorem mo_puti (hx : p.tables.exec = Jvm.exec) (hb : c.code = cc) {own ref C : String} {T : u_T} {N ci index : Nat} {Ts : List Cond} (hts : ∀ w ∈ Ts, w.before args s = true) (hin : ∀ w ∈ u_ws C T N, w ∈ Ts) (ty0 : Nat → FieldType) (hty : ∀ k, k < N → parseFieldDescriptor (T k).2.2.1 = some (ty0 k)) (hnm : ∀ a, a < N → ∀ b, b < N → a ≠ b → (T a).2.1 ≠ (T b).2.1) (hown : s.vm.findClass own = some m.cls) (hK : va_K D cl tys s) (hw : hW D cl lo f H) (hS : va_S (fun q => lo ≤ q) H0 H locs) (he : f a = some (eO ci (oF sh b v))) (hc : cl[ci]? = some (C, T, N)) (k : Nat) (hk : k < N) (hs : sh[k]? = some false) (hlink : (Cond.fieldLink own index ref (T k).2.1 (T k).2.2.1).before args s = true) (hsame : ∀ x, s.fieldFound? (T k).1 (T k).2.1 (T k).2.2.1 = some x → s.fieldFound? ref (T k).2.1 (T k).2.2.1 = some x) (hfin : (T k).2.2.2 = false) {ty : FieldType} {x : Int} (hd : parseFieldDescriptor (T k).2.2.1 = some ty) (hn : narrow ty (.int (iI x)) = .int (iI x)) (hfit : fits ty (.int (iI x)) = true) (hdg : decode cc pc = .ok (.putfield index, 3)) (kk : ∀ (H1 : Heap) (locs1 : List Loc) (f1 : hM), f1 = va_up f a (some (eO ci (oF sh b (va_up v k x)))) → hW D cl lo f1 H1 → va_S (fun q => lo ≤ q) H0 H1 locs1 → W p l e R s m args below meth c H1 locs1 cells slots Q (F0 m (pc + 3) ls rest)) : W p l e R s m args below meth c H locs cells slots Q (F0 m pc ls (.int (iI x) :: .ref a :: rest)) :=
  mp_put hx hb hts hin ty0 hty hnm hown hK hw hS he hc k hk hlink hsame hfin hd hn hfit (by rw [oF_len]; exact (List.getElem?_eq_some_iff.mp hs).1) hdg (fun H1 locs1 hw1 hS1 => kk H1 locs1 _ rfl (by rw [oF_si hs] at hw1; exact hw1) hS1)
theorem mo_putr (hx : p.tables.exec = Jvm.exec) (hb : c.code = cc) {own ref C : String} {T : u_T} {N ci index : Nat} {Ts : List Cond} (hts : ∀ w ∈ Ts, w.before args s = true) (hin : ∀ w ∈ u_ws C T N, w ∈ Ts) (ty0 : Nat → FieldType) (hty : ∀ k, k < N → parseFieldDescriptor (T k).2.2.1 = some (ty0 k)) (hnm : ∀ a, a < N → ∀ b, b < N → a ≠ b → (T a).2.1 ≠ (T b).2.1) (hown : s.vm.findClass own = some m.cls) (hK : va_K D cl tys s) (hw : hW D cl lo f H) (hS : va_S (fun q => lo ≤ q) H0 H locs) (he : f a = some (eO ci (oF sh b v))) (hc : cl[ci]? = some (C, T, N)) (k : Nat) (hk : k < N) (hs : sh[k]? = some true) (hlink : (Cond.fieldLink own index ref (T k).2.1 (T k).2.2.1).before args s = true) (hsame : ∀ x, s.fieldFound? (T k).1 (T k).2.1 (T k).2.2.1 = some x → s.fieldFound? ref (T k).2.1 (T k).2.2.1 = some x) (hfin : (T k).2.2.2 = false) {ty : FieldType} {q : Nat} (hd : parseFieldDescriptor (T k).2.2.1 = some ty) (hn : narrow ty (.ref q) = .ref q) (hfit : fits ty (.ref q) = true) (hdg : decode cc pc = .ok (.putfield index, 3)) (kk : ∀ (H1 : Heap) (locs1 : List Loc) (f1 : hM), f1 = va_up f a (some (eO ci (oF sh (va_up b k (some q)) v))) → hW D cl lo f1 H1 → va_S (fun q => lo ≤ q) H0 H1 locs1 → W p l e R s m args below meth c H1 locs1 cells slots Q (F0 m (pc + 3) ls rest)) : W p l e R s m args below meth c H locs cells slots Q (F0 m pc ls (.ref q :: .ref a :: rest)) :=
  mp_put hx hb hts hin ty0 hty hnm hown hK hw hS he hc k hk hlink hsame hfin hd hn hfit (by rw [oF_len]; exact (List.getElem?_eq_some_iff.mp hs).1) hdg (fun H1 locs1 hw1 hS1 => kk H1 locs1 _ rfl (by rw [show (Value.ref q) = va_rf (some q) from rfl, oF_sr hs] at hw1; exact hw1) hS1)
theorem mo_putiN (hx : p.tables.exec = Jvm.exec) (hb : c.code = cc) {own ref C host : String} {T : u_T} {N ci index : Nat} {Ts : List Cond} (hts : ∀ w ∈ Ts, w.before args s = true) (hin : ∀ w ∈ u_ws C T N, w ∈ Ts) (ty0 : Nat → FieldType) (hty : ∀ k, k < N → parseFieldDescriptor (T k).2.2.1 = some (ty0 k)) (hnm : ∀ a, a < N → ∀ b, b < N → a ≠ b → (T a).2.1 ≠ (T b).2.1) (hown : s.vm.findClass own = some m.cls) (hK : va_K D cl tys s) (hw : hW D cl lo f H) (hS : va_S (fun q => lo ≤ q) H0 H locs) (he : f a = some (eO ci (oF sh b v))) (hc : cl[ci]? = some (C, T, N)) (k : Nat) (hk : k < N) (hs : sh[k]? = some false) (hlink : (Cond.fieldLinkNest own index ref (T k).2.1 (T k).2.2.1 host).before args s = true) (hsame : ∀ x, s.fieldFound? (T k).1 (T k).2.1 (T k).2.2.1 = some x → s.fieldFound? ref (T k).2.1 (T k).2.2.1 = some x) (hfin : (T k).2.2.2 = false) {ty : FieldType} {x : Int} (hd : parseFieldDescriptor (T k).2.2.1 = some ty) (hn : narrow ty (.int (iI x)) = .int (iI x)) (hfit : fits ty (.int (iI x)) = true) (hdg : decode cc pc = .ok (.putfield index, 3)) (kk : ∀ (H1 : Heap) (locs1 : List Loc) (f1 : hM), f1 = va_up f a (some (eO ci (oF sh b (va_up v k x)))) → hW D cl lo f1 H1 → va_S (fun q => lo ≤ q) H0 H1 locs1 → W p l e R s m args below meth c H1 locs1 cells slots Q (F0 m (pc + 3) ls rest)) : W p l e R s m args below meth c H locs cells slots Q (F0 m pc ls (.int (iI x) :: .ref a :: rest)) :=
  mp_putN hx hb hts hin ty0 hty hnm hown hK hw hS he hc k hk hlink hsame hfin hd hn hfit (by rw [oF_len]; exact (List.getElem?_eq_some_iff.mp hs).1) hdg (fun H1 locs1 hw1 hS1 => kk H1 locs1 _ rfl (by rw [oF_si hs] at hw1; exact hw1) hS1)
theorem mo_putrN (hx : p.tables.exec = Jvm.exec) (hb : c.code = cc) {own ref C host : String} {T : u_T} {N ci index : Nat} {Ts : List Cond} (hts : ∀ w ∈ Ts, w.before args s = true) (hin : ∀ w ∈ u_ws C T N, w ∈ Ts) (ty0 : Nat → FieldType) (hty : ∀ k, k < N → parseFieldDescriptor (T k).2.2.1 = some (ty0 k)) (hnm : ∀ a, a < N → ∀ b, b < N → a ≠ b → (T a).2.1 ≠ (T b).2.1) (hown : s.vm.findClass own = some m.cls) (hK : va_K D cl tys s) (hw : hW D cl lo f H) (hS : va_S (fun q => lo ≤ q) H0 H locs) (he : f a = some (eO ci (oF sh b v))) (hc : cl[ci]? = some (C, T, N)) (k : Nat) (hk : k < N) (hs : sh[k]? = some true) (hlink : (Cond.fieldLinkNest own index ref (T k).2.1 (T k).2.2.1 host).before args s = true) (hsame : ∀ x, s.fieldFound? (T k).1 (T k).2.1 (T k).2.2.1 = some x → s.fieldFound? ref (T k).2.1 (T k).2.2.1 = some x) (hfin : (T k).2.2.2 = false) {ty : FieldType} {q : Nat} (hd : parseFieldDescriptor (T k).2.2.1 = some ty) (hn : narrow ty (.ref q) = .ref q) (hfit : fits ty (.ref q) = true) (hdg : decode cc pc = .ok (.putfield index, 3)) (kk : ∀ (H1 : Heap) (locs1 : List Loc) (f1 : hM), f1 = va_up f a (some (eO ci (oF sh (va_up b k (some q)) v))) → hW D cl lo f1 H1 → va_S (fun q => lo ≤ q) H0 H1 locs1 → W p l e R s m args below meth c H1 locs1 cells slots Q (F0 m (pc + 3) ls rest)) : W p l e R s m args below meth c H locs cells slots Q (F0 m pc ls (.ref q :: .ref a :: rest)) :=
  mp_putN hx hb hts hin ty0 hty hnm hown hK hw hS he hc k hk hlink hsame hfin hd hn hfit (by rw [oF_len]; exact (List.getElem?_eq_some_iff.mp hs).1) hdg (fun H1 locs1 hw1 hS1 => kk H1 locs1 _ rfl (by rw [show (Value.ref q) = va_rf (some q) from rfl, oF_sr hs] at hw1; exact hw1) hS1)
theorem mo_putiF (hx : p.tables.exec = Jvm.exec) (hb : c.code = cc) {own ref C : String} {T : u_T} {N ci index : Nat} {Ts : List Cond} (hts : ∀ w ∈ Ts, w.before args s = true) (hin : ∀ w ∈ u_ws C T N, w ∈ Ts) (ty0 : Nat → FieldType) (hty : ∀ k, k < N → parseFieldDescriptor (T k).2.2.1 = some (ty0 k)) (hnm : ∀ a, a < N → ∀ b, b < N → a ≠ b → (T a).2.1 ≠ (T b).2.1) (hown : s.vm.findClass own = some m.cls) (hK : va_K D cl tys s) (hw : hW D cl lo f H) (hS : va_S (fun q => lo ≤ q) H0 H locs) (he : f a = some (eO ci (oF sh b v))) (hc : cl[ci]? = some (C, T, N)) (k : Nat) (hk : k < N) (hs : sh[k]? = some false) (hlink : (Cond.fieldLink own index ref (T k).2.1 (T k).2.2.1).before args s = true) (hsame : ∀ x, s.fieldFound? (T k).1 (T k).2.1 (T k).2.2.1 = some x → s.fieldFound? ref (T k).2.1 (T k).2.2.1 = some x) (hfin : (T k).2.2.2 = true) (hin2 : meth.name = "<init>") (hdecl : (T k).1 = own) {ty : FieldType} {x : Int} (hd : parseFieldDescriptor (T k).2.2.1 = some ty) (hn : narrow ty (.int (iI x)) = .int (iI x)) (hfit : fits ty (.int (iI x)) = true) (hdg : decode cc pc = .ok (.putfield index, 3)) (kk : ∀ (H1 : Heap) (locs1 : List Loc) (f1 : hM), f1 = va_up f a (some (eO ci (oF sh b (va_up v k x)))) → hW D cl lo f1 H1 → va_S (fun q => lo ≤ q) H0 H1 locs1 → W p l e R s m args below meth c H1 locs1 cells slots Q (F0 m (pc + 3) ls rest)) : W p l e R s m args below meth c H locs cells slots Q (F0 m pc ls (.int (iI x) :: .ref a :: rest)) :=
  mp_putF hx hb hts hin ty0 hty hnm hown hK hw hS he hc k hk hlink hsame hfin hin2 hdecl hd hn hfit (by rw [oF_len]; exact (List.getElem?_eq_some_iff.mp hs).1) hdg (fun H1 locs1 hw1 hS1 => kk H1 locs1 _ rfl (by rw [oF_si hs] at hw1; exact hw1) hS1)
theorem mo_putrF (hx : p.tables.exec = Jvm.exec) (hb : c.code = cc) {own ref C : String} {T : u_T} {N ci index : Nat} {Ts : List Cond} (hts : ∀ w ∈ Ts, w.before args s = true) (hin : ∀ w ∈ u_ws C T N, w ∈ Ts) (ty0 : Nat → FieldType) (hty : ∀ k, k < N → parseFieldDescriptor (T k).2.2.1 = some (ty0 k)) (hnm : ∀ a, a < N → ∀ b, b < N → a ≠ b → (T a).2.1 ≠ (T b).2.1) (hown : s.vm.findClass own = some m.cls) (hK : va_K D cl tys s) (hw : hW D cl lo f H) (hS : va_S (fun q => lo ≤ q) H0 H locs) (he : f a = some (eO ci (oF sh b v))) (hc : cl[ci]? = some (C, T, N)) (k : Nat) (hk : k < N) (hs : sh[k]? = some true) (hlink : (Cond.fieldLink own index ref (T k).2.1 (T k).2.2.1).before args s = true) (hsame : ∀ x, s.fieldFound? (T k).1 (T k).2.1 (T k).2.2.1 = some x → s.fieldFound? ref (T k).2.1 (T k).2.2.1 = some x) (hfin : (T k).2.2.2 = true) (hin2 : meth.name = "<init>") (hdecl : (T k).1 = own) {ty : FieldType} {q : Nat} (hd : parseFieldDescriptor (T k).2.2.1 = some ty) (hn : narrow ty (.ref q) = .ref q) (hfit : fits ty (.ref q) = true) (hdg : decode cc pc = .ok (.putfield index, 3)) (kk : ∀ (H1 : Heap) (locs1 : List Loc) (f1 : hM), f1 = va_up f a (some (eO ci (oF sh (va_up b k (some q)) v))) → hW D cl lo f1 H1 → va_S (fun q => lo ≤ q) H0 H1 locs1 → W p l e R s m args below meth c H1 locs1 cells slots Q (F0 m (pc + 3) ls rest)) : W p l e R s m args below meth c H locs cells slots Q (F0 m pc ls (.ref q :: .ref a :: rest)) :=
  mp_putF hx hb hts hin ty0 hty hnm hown hK hw hS he hc k hk hlink hsame hfin hin2 hdecl hd hn hfit (by rw [oF_len]; exact (List.getElem?_eq_some_iff.mp hs).1) hdg (fun H1 locs1 hw1 hS1 => kk H1 locs1 _ rfl (by rw [show (Value.ref q) = va_rf (some q) from rfl, oF_sr hs] at hw1; exact hw1) hS1)
theorem mo_iast (hx : p.tables.exec = Jvm.exec) (hb : c.code = cc) (hK : va_K D cl tys s) (hw : hW D cl lo f H) (hS : va_S (fun q => lo ≤ q) H0 H locs) (t0 : Nat) {cA : ClassId} {n : Nat} {g : Nat → Int} (he : f a = some (eI cA n g)) (ht : tys[t0]? = some (cA, .int)) {z x : Int} (k : Nat) (hz : z = (k : Int)) (hk : k < n) (hn : n < 2147483648) (hdg : decode cc pc = .ok (.iastore, 1)) (kk : ∀ (H1 : Heap) (locs1 : List Loc) (f1 : hM), f1 = va_up f a (some (eI cA n (va_up g k x))) → hW D cl lo f1 H1 → va_S (fun q => lo ≤ q) H0 H1 locs1 → W p l e R s m args below meth c H1 locs1 cells slots Q (F0 m (pc + 1) ls rest)) : W p l e R s m args below meth c H locs cells slots Q (F0 m pc ls (.int (iI x) :: .int (iI z) :: .ref a :: rest)) :=
  mp_iast hx hb hK hw hS t0 he ht k hz hk hn hdg (fun H1 locs1 hw1 hS1 => kk H1 locs1 _ rfl hw1 hS1)
theorem mo_last (hx : p.tables.exec = Jvm.exec) (hb : c.code = cc) (hK : va_K D cl tys s) (hw : hW D cl lo f H) (hS : va_S (fun q => lo ≤ q) H0 H locs) (t0 : Nat) {cA : ClassId} {n : Nat} {g : Nat → Int} (he : f a = some (eJ cA n g)) (ht : tys[t0]? = some (cA, .long)) {z x : Int} (k : Nat) (hz : z = (k : Int)) (hk : k < n) (hn : n < 2147483648) (hdg : decode cc pc = .ok (.lastore, 1)) (kk : ∀ (H1 : Heap) (locs1 : List Loc) (f1 : hM), f1 = va_up f a (some (eJ cA n (va_up g k x))) → hW D cl lo f1 H1 → va_S (fun q => lo ≤ q) H0 H1 locs1 → W p l e R s m args below meth c H1 locs1 cells slots Q (F0 m (pc + 1) ls rest)) : W p l e R s m args below meth c H locs cells slots Q (F0 m pc ls (.long (lI x) :: .int (iI z) :: .ref a :: rest)) :=
  mp_last hx hb hK hw hS t0 he ht k hz hk hn hdg (fun H1 locs1 hw1 hS1 => kk H1 locs1 _ rfl hw1 hS1)
end MO
theorem mt {l : Launch} {y : MethodName} {cc : ByteArray} {maxL : Nat} {ret : Option FieldType} {ws9 : List Cond} {rm : Room} {av : List Value} {D : va_G} {cl : List vw_C} {tys : List (ClassId × FieldType)} {lo : Nat} {G : State → Prop} {f : hM} {Qc : Array Value → State → Outcome → State → Prop} {mc ms : Nat} {free : Addr → Prop} (hy : plainName y.cls = true) (hn : (lg_sl av).length ≤ maxL)
    (body : ∀ (p : Program) (e : Env) (s : State) (m : MethodId) (args : Array Value) (below : List Frame) (meth : Method) (c : Code) (ls : Array Slot), p.tables.exec = Jvm.exec → c.code = cc → meth.sig.returnType = ret → c.maxLocals = maxL → s.vm.findClass y.cls = some m.cls → (∀ w ∈ ws9, w.before args s = true) → meth.locks = false → meth.name = y.name → va_K D cl tys s → lo ≤ s.heap.size → G s → hW D cl lo f s.heap → va_S (fun q => lo ≤ q) s.heap s.heap [] → lv_has ls maxL (lv_args 0 av) → W p l e rm s m args below meth c s.heap [] 0 0 (MQ below Qc args s mc ms free) (F0 m 0 ls [])) :
    Met l y (Cond.code y cc maxL ret :: ws9) rm (va_Pc av (Bq D cl tys lo G f)) Qc mc ms free := by
  refine Met.ofW (cc := cc) (maxL := maxL) (ret := ret) hy rfl ?_
  intro p e s m args below meth c s₁ B hml hv
  obtain ⟨ha, hw, hK, hlo, hG⟩ := hv
  have hts := atoms_spec (ws := Cond.code y cc maxL ret :: ws9) B.pre
  have hl := lv_entry av (n := maxL) hn
  have k := body p e s m args below meth c _ B.exec B.bytes B.returns hml (findClass_of_methodNamed B.named) (fun w h => hts w (List.mem_cons_of_mem _ h)) B.notSynchronized (name_of_methodNamed B.named B.method).1 hK hlo hG hw va_S.rf hl
  rw [← lg_entry_eq, ← ha] at k
  exact k
end
section
/-! the reference's state: its numbers v by slots, its arrays g by slots at the addresses A -/
abbrev TYS (X : ClassId × ClassId × ClassId × ClassId) : List (ClassId × FieldType) := [(X.1, .int), (X.2.1, .long), (X.2.2.1, .object "PacketOrder$Level"), (X.2.2.2, .object "java/lang/Object")]
abbrev sh_mo : List Bool := [false, false, false, false, false, false, false, true, true, true, true, true, false, false, false, true, false, false, true, true, true, true, true, true, true, false, false, false, false, false, false, false, false, false, false, false, false, false]
abbrev moArr : List (Nat × Nat × Bool) := [(7, 16, false), (8, 16, false), (9, 16, false), (10, 528, false), (11, 528, false), (15, 192, false), (18, 4096, false), (19, 4096, false), (20, 4096, false), (21, 4096, true), (22, 4096, true), (23, 4096, false), (24, 4096, false)]
abbrev moSl : List Nat := [7, 8, 9, 10, 11, 15, 18, 19, 20, 21, 22, 23, 24]
def eAr (X : ClassId × ClassId × ClassId × ClassId) (n : Nat) (j : Bool) (g : Nat → Int) : va_E := if j then eJ X.2.1 n g else eI X.1 n g
def moR (X : ClassId × ClassId × ClassId × ClassId) (f : hM) (a : Nat) (b : Nat → Option Nat) (v : Nat → Int) (A : Nat → Nat) (g : Nat → Nat → Int) : Prop :=
  f a = some (eO 6 (oF sh_mo b v)) ∧ (∀ q ∈ moArr, b q.1 = some (A q.1) ∧ f (A q.1) = some (eAr X q.2.1 q.2.2 (g q.1))) ∧ ∀ k ∈ moSl, ∀ j ∈ moSl, A k = A j → k = j
theorem moR.ne {X : ClassId × ClassId × ClassId × ClassId} {f : hM} {a : Nat} {b : Nat → Option Nat} {v : Nat → Int} {A : Nat → Nat} {g : Nat → Nat → Int} (h : moR X f a b v A g) {k : Nat} (hk : k ∈ moSl) : A k ≠ a := by
  have : ∃ q ∈ moArr, q.1 = k := by
    have e : ∀ k ∈ moSl, ∃ q ∈ moArr, q.1 = k := by decide
    exact e k hk
  obtain ⟨q, hq, rfl⟩ := this
  refine ne_of (h.2.1 q hq).2 h.1 ?_
  unfold eAr eJ eI
  split <;> simp
theorem moR.nn {X : ClassId × ClassId × ClassId × ClassId} {f : hM} {a : Nat} {b : Nat → Option Nat} {v : Nat → Int} {A : Nat → Nat} {g : Nat → Nat → Int} (h : moR X f a b v A g) (k j : Nat) (hk : k ∈ moSl) (hj : j ∈ moSl) (hn : k ≠ j) : A k ≠ A j := fun e => hn (h.2.2 k hk j hj e)
/-- what a method left alone is as before: ks are the arrays that it wrote -/
theorem moR.fr {X : ClassId × ClassId × ClassId × ClassId} {f f1 : hM} {a : Nat} {b : Nat → Option Nat} {v v1 : Nat → Int} {A : Nat → Nat} {g g1 : Nat → Nat → Int} (h : moR X f a b v A g) (ks : List Nat) (hks : ∀ k ∈ ks, k ∈ moSl) (hF : Fr (a :: ks.map A) f f1) (h0 : f1 a = some (eO 6 (oF sh_mo b v1)))
    (hw : ∀ q ∈ moArr, q.1 ∈ ks → f1 (A q.1) = some (eAr X q.2.1 q.2.2 (g1 q.1))) (hg : ∀ k ∈ moSl, k ∉ ks → g1 k = g k) : moR X f1 a b v1 A g1 := by
  refine ⟨h0, fun q hq => ⟨(h.2.1 q hq).1, ?_⟩, h.2.2⟩
  have hs : q.1 ∈ moSl := by
    have e : ∀ q ∈ moArr, q.1 ∈ moSl := by decide
    exact e q hq
  by_cases hk : q.1 ∈ ks
  · exact hw q hq hk
  · rw [hg _ hs hk, hF]
    · exact (h.2.1 q hq).2
    · intro hm
      rcases List.mem_cons.mp hm with z | z
      · exact h.ne hs z
      · obtain ⟨j, hj, e⟩ := List.mem_map.mp z
        exact hk (h.2.2 j (hks j hj) q.1 hs e ▸ hj)
end
section
/-! what is given at the start and stays: links across the nest, casts, texts, three statics; throws and catches over map worlds -/
abbrev STR : List (String × Nat × String) := [("PacketOrder", 41, "the tile is not within 0 .. 32767"), ("PacketOrder", 46, "the tile is empty"), ("PacketOrder", 71, "a step is not 1 .. 255"), ("PacketOrder", 73, "the levels are not 0 .. 32"), ("PacketOrder", 81, "there are 16 components"), ("PacketOrder", 99, "no such level of a component"), ("PacketOrder", 102, "an exponent is not 0 .. 15, or 0 above level 0"), ("PacketOrder", 118, "the layers are not 1 .. 255"), ("PacketOrder", 120, "no such order"), ("PacketOrder", 122, "no such levels"), ("PacketOrder", 124, "no such components"), ("PacketOrder", 126, "no such layers"), ("PacketOrder", 128, "there are 32 changes"), ("PacketOrder", 137, "there is no tile, or no component"), ("PacketOrder", 147, "there are more than 4096 precincts"), ("PacketOrder", 160, "there is no sequence"), ("PacketOrder", 166, "the number of packets is below 0"), ("PacketOrder", 175, "there is no sequence, or no packet came"), ("PacketOrder", 189, "a packet has no such number"), ("PacketOrder", 194, "there is no sequence, or no such precinct")]
abbrev IAE : String := "java/lang/IllegalArgumentException"
abbrev ISE : String := "java/lang/IllegalStateException"
abbrev NSE : String := "java/util/NoSuchElementException"
abbrev UOE : String := "java/lang/UnsupportedOperationException"
abbrev NCL : List (String × String) := [(ISE, IAE), (IAE, NSE), (UOE, ISE)]
abbrev sDE : String := "DEFAULTCAPACITY_EMPTY_ELEMENTDATA"
abbrev dDE : String := "[Ljava/lang/Object;"
def Gv (lo t0 : Nat) (U : State) : Prop := (∀ w ∈ NB, va_Nw w U) ∧ (∀ q ∈ STR, ∃ sa, vk_R q.1 q.2.1 q.2.2 sa U) ∧ (∀ q ∈ NCL, va_Nc q.1 q.2 U) ∧ vx_Zq Bundle.tN "UNASSIGNED_STACK" Bundle.steD (fun q => lo ≤ q) U U.heap ∧ vx_Zq Bundle.tN "SUPPRESSED_SENTINEL" Bundle.listD (fun q => lo ≤ q) U U.heap ∧ va_Z "java/util/ArrayList" sDE dDE (.ref t0) (fun q => lo ≤ q) U U.heap ∧ va_T (.object "java/lang/Object") t0 0 (fun _ => .null) (fun q => lo ≤ q) U U.heap
theorem Gv.ok (lo t0 : Nat) : GOK lo (Gv lo t0) := by
  refine ⟨fun U g mk a h => ?_, fun u U hW hz hk h => ?_⟩
  · obtain ⟨h1, h2, h3, h4, h5, h6, h7⟩ := h
    exact ⟨fun w hw => nb_same (List.mem_filter.mp hw).2 (u := U) (U := U.calling g mk a) rfl (h1 w hw), fun q hq => ⟨(h2 q hq).choose, vk_R.same (u := U) (U := U.calling g mk a) rfl (h2 q hq).choose_spec⟩, fun q hq => va_Nc.moved (u := U) (U := U.calling g mk a) (Vm.Alike.refl U.vm) (h3 q hq), vx_Zq.moved (u := U) (U := U.calling g mk a) (Vm.Alike.refl U.vm) h4, vx_Zq.moved (u := U) (U := U.calling g mk a) (Vm.Alike.refl U.vm) h5, va_Z.moved (u := U) (U := U.calling g mk a) (Vm.Alike.refl U.vm) h6, va_T.moved (u := U) (U := U.calling g mk a) (Vm.Alike.refl U.vm) h7⟩
  · obtain ⟨h1, h2, h3, h4, h5, h6, h7⟩ := h
    exact ⟨fun w hw => nb_warm (List.mem_filter.mp hw).2 hW (h1 w hw), fun q hq => ⟨(h2 q hq).choose, vk_R.warm hW (h2 q hq).choose_spec⟩, fun q hq => va_Nc.moved hW.alike (h3 q hq), vx_Zq.moved hW.alike (h4.kept hk), vx_Zq.moved hW.alike (h5.kept hk), va_Z.moved hW.alike (h6.kept hk), va_T.moved hW.alike (h7.kept hk)⟩
theorem at_nm : ∀ n ∈ ["java/lang/RuntimeException", "java/lang/Exception"], Bundle.fit n = true := by decide +kernel
theorem tb_in (L : List Cond) (h : (L.filter goodWord).all (fun w => decide (w ∈ tables_1)) = true) : ∀ w ∈ L.filter goodWord, w ∈ TB := fun w hw => List.mem_filter.mpr ⟨List.mem_append_right _ (of_decide_eq_true (List.all_eq_true.mp h w hw)), (List.mem_filter.mp hw).2⟩
theorem nb_in (L : List Cond) (h : (L.filter (fun w => !goodWord w)).all (fun w => decide (w ∈ tables_1) && nbk w) = true) : ∀ w ∈ L.filter (fun w => !goodWord w), w ∈ NB := fun w hw => by
  have h1 := List.all_eq_true.mp h w hw
  rw [Bool.and_eq_true] at h1
  exact List.mem_filter.mpr ⟨List.mem_append_right _ (of_decide_eq_true h1.1), h1.2⟩
theorem nb_use {w : Cond} (hk : nbk w = true) {A : Array Value} {U : State} (h : va_Nw w U) : w.before A U = true := by
  unfold nbk at hk
  split at hk
  · exact va_Nw.use rfl h
  · exact va_Nw.use rfl h
  · exact va_Nw.use rfl h
  · exact va_Nw.use rfl h
  · exact va_AO.use h
  · cases hk
theorem at1_IAE : ∀ w ∈ (vx_atS "PacketOrder" 43 IAE ["java/lang/RuntimeException", "java/lang/Exception"]).filter goodWord, w ∈ TB := tb_in _ (by decide +kernel)
theorem at2_IAE : ∀ w ∈ (vx_atS "PacketOrder" 43 IAE ["java/lang/RuntimeException", "java/lang/Exception"]).filter (fun w => !goodWord w), w ∈ NB := nb_in _ (by decide +kernel)
theorem at3_IAE : ∀ w ∈ Cond.classLink "PacketOrder" 39 IAE :: Cond.initialized IAE :: vx_atS "PacketOrder" 43 IAE ["java/lang/RuntimeException", "java/lang/Exception"], vx_ot w = true := by decide +kernel
theorem at1_ISE : ∀ w ∈ (vx_atS "PacketOrder" 83 ISE ["java/lang/RuntimeException", "java/lang/Exception"]).filter goodWord, w ∈ TB := tb_in _ (by decide +kernel)
theorem at2_ISE : ∀ w ∈ (vx_atS "PacketOrder" 83 ISE ["java/lang/RuntimeException", "java/lang/Exception"]).filter (fun w => !goodWord w), w ∈ NB := nb_in _ (by decide +kernel)
theorem at3_ISE : ∀ w ∈ Cond.classLink "PacketOrder" 79 ISE :: Cond.initialized ISE :: vx_atS "PacketOrder" 83 ISE ["java/lang/RuntimeException", "java/lang/Exception"], vx_ot w = true := by decide +kernel
theorem at1_UOE : ∀ w ∈ (vx_atS "PacketOrder" 149 UOE ["java/lang/RuntimeException", "java/lang/Exception"]).filter goodWord, w ∈ TB := tb_in _ (by decide +kernel)
theorem at2_UOE : ∀ w ∈ (vx_atS "PacketOrder" 149 UOE ["java/lang/RuntimeException", "java/lang/Exception"]).filter (fun w => !goodWord w), w ∈ NB := nb_in _ (by decide +kernel)
theorem at3_UOE : ∀ w ∈ Cond.classLink "PacketOrder" 145 UOE :: Cond.initialized UOE :: vx_atS "PacketOrder" 149 UOE ["java/lang/RuntimeException", "java/lang/Exception"], vx_ot w = true := by decide +kernel
section MX
variable {p : Program} {l : Launch} {e : Env} {R : Room} {s : State} {m : MethodId} {args : Array Value} {below : List Frame} {meth : Method} {c : Code} {H : Heap} {locs : List Loc} {cells slots : Nat} {Q : State → Prop}
variable {cc : ByteArray} {pc : Nat} {ls : Array Slot} {rest st0 : List Value} {D : va_G} {cl : List vw_C} {lo t0 : Nat} {tys : List (ClassId × FieldType)} {f : hM} {mc ms : Nat} {G : State → Prop}
abbrev XCm (D : va_G) (cl : List vw_C) (lo : Nat) (pE : String → hM → Prop) : String → State → State → Prop := vx_X (fun _ : hM => True) (fun E f1 t => pE E f1 ∧ hW D cl lo f1 t.heap) (fun q => lo ≤ q)
theorem mx_throw {Qc : Array Value → State → Outcome → State → Prop} {pE : String → hM → Prop} (hx : p.tables.exec = Jvm.exec) (hb : c.code = cc) (hl9 : l.stackTraces = false) {own cls text : String} {names : List String} {ik is ic : Nat} (hown : s.vm.findClass own = some m.cls) (hcls : Bundle.fit cls = true) (hnames : ∀ n ∈ names, Bundle.fit n = true) (ht : ∀ w ∈ TB, w.before args s = true) (hk : Cond.classLink own ik cls ∈ TB) (hini : Cond.initialized cls ∈ TB) (hstr : (own, is, text) ∈ STR)
    (h1 : ∀ w ∈ (vx_atS own ic cls names).filter goodWord, w ∈ TB) (h2 : ∀ w ∈ (vx_atS own ic cls names).filter (fun w => !goodWord w), w ∈ NB) (h3 : ∀ w ∈ Cond.classLink own ik cls :: Cond.initialized cls :: vx_atS own ic cls names, vx_ot w = true) (hG : Gv lo t0 s) (hw : hW D cl lo f H) (hS : va_S (fun q => lo ≤ q) s.heap H locs) (hsize : ls.size = c.maxLocals)
    (d0 : decode cc pc = .ok (.new ik, 3)) (d3 : decode cc (pc + 3) = .ok (.dup, 1)) (d4 : decode cc (pc + 4) = .ok (.ldc is, 2)) (d6 : decode cc (pc + 6) = .ok (.invokespecial ic, 3)) (d9 : decode cc (pc + 9) = .ok (.athrow, 1)) (hex : ∀ x ∈ c.exceptionTable.toList, False) (hRf : names.length + 3 < R.frames) (hRl : (rest.map fun v => v.category).sum + (13 * (names.length + 1) + 43) ≤ R.locals) (hRc : cells + 1 ≤ R.cells) (hRs : slots + 6 ≤ R.slots) (hlocks : meth.locks = false) (hc : cells + 1 ≤ mc) (hs : slots + 6 ≤ ms) (hE : pE cls f) :
    W p l e R s m args below meth c H locs cells slots (vx_MQ below Qc (XCm D cl lo pE) args s mc ms (fun q => lo ≤ q)) (F0 m pc ls rest) := by
  obtain ⟨g1, g2, g3, g4, g5, g6⟩ := hG
  obtain ⟨sa, hsa⟩ := g2 _ hstr
  refine vx_throwS hx hb hl9 hown hcls hnames (ht _ hk) (ht _ hini) hsa (vx_hat (fun w hw => ht w (h1 w hw)) h2 (fun w hw => nb_use (List.mem_filter.mp hw).2 (g1 w hw))) h3 g4 g5 hS hsize d0 d3 d4 d6 d9 (fun x hx9 => (hex x hx9).elim) hRf hRl hRc hRs hlocks (fun t hA hz hk9 => ?_) hS.2.2 hc hs
  refine ⟨f, trivial, ⟨hE, fun a e9 he => ⟨(hw a e9 he).1, (hw a e9 he).2.kept (hk9 a (hw a e9 he).2.lt)⟩⟩, Nat.le_trans hS.1 hz, fun q h4 h5 => ?_⟩
  rw [hk9 q (Nat.lt_of_lt_of_le h4 hS.1)]; exact hS.2.1 q h4 h5
theorem mx_calli {post : Int32 → hM → Prop} {pE : String → hM → Prop} {a : Array Value} (hr : vx_Run p l e R s m args below meth c H locs cells slots mc ms (F0 m pc ls st0) rest (va_Qi post (Bq D cl tys lo G) (fun q => lo ≤ q) a) (XCm D cl lo pE) (fun q => lo ≤ q)) (hS : va_S (fun q => lo ≤ q) s.heap H locs) (kx : ∀ (E : String) (ce : Cell) (q9 : Addr) (f1 : hM) (H1 : Heap) (locs1 : List Loc), pE E f1 → hW D cl lo f1 H1 → va_S (fun q => lo ≤ q) s.heap H1 locs1 → H1[q9]? = some ce → ce.vm = .none → s.vm.findClass E = some ce.cls → vx_W p l e R s m args below meth c H1 locs1 (cells + mc) (slots + ms) Q (F0 m pc ls rest) q9) (kk : ∀ (r : Int32) (f1 : hM) (H1 : Heap) (locs1 : List Loc), post r f1 → hW D cl lo f1 H1 → va_S (fun q => lo ≤ q) s.heap H1 locs1 → W p l e R s m args below meth c H1 locs1 (cells + mc) (slots + ms) Q (F0 m (pc + 3) ls (.int r :: rest))) : W p l e R s m args below meth c H locs cells slots Q (F0 m pc ls st0) :=
  vx_calli hr hS (fun _ _ h => h) (fun _ h => h) (fun _ _ h => h) (fun E ce q9 u t H1 locs1 ht _ _ hB _ _ hS1 h1 h2 h3 => kx E ce q9 u H1 locs1 hB.1 (ht ▸ hB.2) hS1 h1 h2 h3) (fun r u t H1 locs1 ht _ hp hB _ _ hS1 => kk r u H1 locs1 hp (ht ▸ hB.1) hS1)
theorem mx_calll {post : Int64 → hM → Prop} {pE : String → hM → Prop} {a : Array Value} (hr : vx_Run p l e R s m args below meth c H locs cells slots mc ms (F0 m pc ls st0) rest (va_Ql post (Bq D cl tys lo G) (fun q => lo ≤ q) a) (XCm D cl lo pE) (fun q => lo ≤ q)) (hS : va_S (fun q => lo ≤ q) s.heap H locs) (kx : ∀ (E : String) (ce : Cell) (q9 : Addr) (f1 : hM) (H1 : Heap) (locs1 : List Loc), pE E f1 → hW D cl lo f1 H1 → va_S (fun q => lo ≤ q) s.heap H1 locs1 → H1[q9]? = some ce → ce.vm = .none → s.vm.findClass E = some ce.cls → vx_W p l e R s m args below meth c H1 locs1 (cells + mc) (slots + ms) Q (F0 m pc ls rest) q9) (kk : ∀ (r : Int64) (f1 : hM) (H1 : Heap) (locs1 : List Loc), post r f1 → hW D cl lo f1 H1 → va_S (fun q => lo ≤ q) s.heap H1 locs1 → W p l e R s m args below meth c H1 locs1 (cells + mc) (slots + ms) Q (F0 m (pc + 3) ls (.long r :: rest))) : W p l e R s m args below meth c H locs cells slots Q (F0 m pc ls st0) :=
  vx_calll hr hS (fun _ _ h => h) (fun _ h => h) (fun _ _ h => h) (fun E ce q9 u t H1 locs1 ht _ _ hB _ _ hS1 h1 h2 h3 => kx E ce q9 u H1 locs1 hB.1 (ht ▸ hB.2) hS1 h1 h2 h3) (fun r u t H1 locs1 ht _ hp hB _ _ hS1 => kk r u H1 locs1 hp (ht ▸ hB.1) hS1)
theorem mx_callv {post : hM → Prop} {pE : String → hM → Prop} {a : Array Value} (hr : vx_Run p l e R s m args below meth c H locs cells slots mc ms (F0 m pc ls st0) rest (va_Qv post (Bq D cl tys lo G) (fun q => lo ≤ q) a) (XCm D cl lo pE) (fun q => lo ≤ q)) (hS : va_S (fun q => lo ≤ q) s.heap H locs) (kx : ∀ (E : String) (ce : Cell) (q9 : Addr) (f1 : hM) (H1 : Heap) (locs1 : List Loc), pE E f1 → hW D cl lo f1 H1 → va_S (fun q => lo ≤ q) s.heap H1 locs1 → H1[q9]? = some ce → ce.vm = .none → s.vm.findClass E = some ce.cls → vx_W p l e R s m args below meth c H1 locs1 (cells + mc) (slots + ms) Q (F0 m pc ls rest) q9) (kk : ∀ (f1 : hM) (H1 : Heap) (locs1 : List Loc), post f1 → hW D cl lo f1 H1 → va_S (fun q => lo ≤ q) s.heap H1 locs1 → W p l e R s m args below meth c H1 locs1 (cells + mc) (slots + ms) Q (F0 m (pc + 3) ls (rest))) : W p l e R s m args below meth c H locs cells slots Q (F0 m pc ls st0) :=
  vx_callv hr hS (fun _ _ h => h) (fun _ h => h) (fun _ _ h => h) (fun E ce q9 u t H1 locs1 ht _ _ hB _ _ hS1 h1 h2 h3 => kx E ce q9 u H1 locs1 hB.1 (ht ▸ hB.2) hS1 h1 h2 h3) (fun u t H1 locs1 ht _ hp hB _ _ hS1 => kk u H1 locs1 hp (ht ▸ hB.1) hS1)
end MX
theorem mtx {l : Launch} {y : MethodName} {cc : ByteArray} {maxL : Nat} {ret : Option FieldType} {ws9 : List Cond} {rm : Room} {av : List Value} {D : va_G} {cl : List vw_C} {tys : List (ClassId × FieldType)} {lo : Nat} {G : State → Prop} {f : hM} {Qc : Array Value → State → Outcome → State → Prop} {mc ms : Nat} {free : Addr → Prop} {XC : String → State → State → Prop} (hy : plainName y.cls = true) (hn : (lg_sl av).length ≤ maxL) (body : ∀ (p : Program) (e : Env) (s : State) (m : MethodId) (args : Array Value) (below : List Frame) (meth : Method) (c : Code) (ls : Array Slot), p.tables.exec = Jvm.exec → c.code = cc → meth.sig.returnType = ret → c.maxLocals = maxL → s.vm.findClass y.cls = some m.cls → (∀ w ∈ ws9, w.before args s = true) → meth.locks = false → meth.name = y.name → va_K D cl tys s → lo ≤ s.heap.size → G s → hW D cl lo f s.heap → va_S (fun q => lo ≤ q) s.heap s.heap [] → lv_has ls maxL (lv_args 0 av) → (∀ x ∈ c.exceptionTable.toList, False) → W p l e rm s m args below meth c s.heap [] 0 0 (vx_MQ below Qc XC args s mc ms free) (F0 m 0 ls [])) : vx_Met l y (Cond.code y cc maxL ret :: ws9) rm (va_Pc av (Bq D cl tys lo G f)) Qc XC mc ms free := by
  refine vx_ofW (cc := cc) (maxL := maxL) (ret := ret) hy rfl ?_
  intro p e s m args below meth c s₁ B hml hex hv
  obtain ⟨ha, hw, hK, hlo, hG⟩ := hv
  have hts := atoms_spec (ws := Cond.code y cc maxL ret :: ws9) B.pre
  have hl := lv_entry av (n := maxL) hn
  have k := body p e s m args below meth c _ B.exec B.bytes B.returns hml (findClass_of_methodNamed B.named) (fun w h => hts w (List.mem_cons_of_mem _ h)) B.notSynchronized (name_of_methodNamed B.named B.method).1 hK hlo hG hw va_S.rf hl hex
  rw [← lg_entry_eq, ← ha] at k
  exact k
theorem mth {l : Launch} {y : MethodName} {cc : ByteArray} {maxL : Nat} {ret : Option FieldType} {ws9 : List Cond} {rm : Room} {av : List Value} {D : va_G} {cl : List vw_C} {tys : List (ClassId × FieldType)} {lo : Nat} {G : State → Prop} {f : hM} {Qc : Array Value → State → Outcome → State → Prop} {mc ms : Nat} {free : Addr → Prop} {hh : List (Nat × Nat × Nat × Nat)} (hy : plainName y.cls = true) (hn : (lg_sl av).length ≤ maxL) (body : ∀ (p : Program) (e : Env) (s : State) (m : MethodId) (args : Array Value) (below : List Frame) (meth : Method) (c : Code) (ls : Array Slot), p.tables.exec = Jvm.exec → c.code = cc → meth.sig.returnType = ret → c.maxLocals = maxL → s.vm.findClass y.cls = some m.cls → (∀ w ∈ ws9, w.before args s = true) → meth.locks = false → meth.name = y.name → va_K D cl tys s → lo ≤ s.heap.size → G s → hW D cl lo f s.heap → va_S (fun q => lo ≤ q) s.heap s.heap [] → lv_has ls maxL (lv_args 0 av) → c.exceptionTable.toList = tableOf hh → W p l e rm s m args below meth c s.heap [] 0 0 (MQ below Qc args s mc ms free) (F0 m 0 ls [])) : Met l y (Cond.codeWith y cc maxL ret hh :: ws9) rm (va_Pc av (Bq D cl tys lo G f)) Qc mc ms free := by
  refine va_MetW (cc := cc) (maxL := maxL) (ret := ret) (hh := hh) hy rfl ?_
  intro p e s m args below meth c s₁ B hml hv
  obtain ⟨ha, hw, hK, hlo, hG⟩ := hv
  have hts := atoms_spec (ws := Cond.codeWith y cc maxL ret hh :: ws9) B.pre
  have hl := lv_entry av (n := maxL) hn
  have k := body p e s m args below meth c _ B.exec B.bytes B.returns hml (findClass_of_methodNamed B.named) (fun w h => hts w (List.mem_cons_of_mem _ h)) B.notSynchronized (name_of_methodNamed B.named B.method).1 hK hlo hG hw va_S.rf hl (vx_table (x := y) B (hts _ List.mem_cons_self))
  rw [← lg_entry_eq, ← ha] at k
  exact k
end
section
/-! making objects and arrays; methods that make cells leave the old ones alone -/
abbrev Fn (S : List Nat) (f f1 : hM) : Prop := ∀ (q : Nat) (x : va_E), q ∉ S → f q = some x → f1 q = some x
abbrev aOK (S : List Nat) (f : hM) (a : Nat) : Prop := ∀ y : va_E, a ∉ S → f a ≠ some y
theorem aOK.of {S : List Nat} {f : hM} {a : Nat} (h : a ∈ S) : aOK S f a := fun _ hn => absurd h hn
theorem Fn.rf {S : List Nat} {f : hM} : Fn S f f := fun _ _ _ h => h
theorem Fr.fn {S : List Nat} {f f1 : hM} (h : Fr S f f1) : Fn S f f1 := fun q _ hn hq => (h q hn).trans hq
theorem Fn.new {S : List Nat} {f0 f : hM} {a : Nat} (h : Fn S f0 f) (ha : f a = none) : aOK S f0 a := fun y hn hy => by have := h a y hn hy; rw [ha] at this; cases this
theorem Fn.up {S : List Nat} {f0 f f1 : hM} {a : Nat} {e : va_E} (h : Fn S f0 f) (h1 : f1 = va_up f a (some e)) (ha : aOK S f0 a) : Fn S f0 f1 := fun q x hn hq => by
  rw [h1, va_up_ne _ _ (fun z => by subst z; exact ha x hn hq)]; exact h q x hn hq
theorem Fn.tr {S S1 : List Nat} {f0 f f1 : hM} (h : Fn S f0 f) (h1 : Fn S1 f f1) (hs : ∀ q ∈ S1, aOK S f0 q) : Fn S f0 f1 := fun q x hn hq => h1 q x (fun z => hs q z x hn hq) (h q x hn hq)
theorem Fn.keep {S : List Nat} {f f1 : hM} {b : Nat} {x : va_E} (h : Fn S f f1) (hb : f b = some x) (hn : b ∉ S) : f1 b = some x := h b x hn hb
theorem eq_q {f f1 : hM} {a b : Nat} {e x : va_E} (h : f1 = va_up f a (some e)) (hb : f b = some x) (ha : f a = none) : f1 b = some x := eq_n h hb (ne_new hb ha)
theorem lI_0 : lI 0 = 0 := rfl
section MN
variable {p : Program} {l : Launch} {e : Env} {R : Room} {s : State} {m : MethodId} {args : Array Value} {below : List Frame} {meth : Method} {c : Code} {H : Heap} {locs : List Loc} {cells slots : Nat} {Q : State → Prop}
variable {cc : ByteArray} {pc : Nat} {ls : Array Slot} {rest : List Value} {D : va_G} {cl : List vw_C} {lo a : Nat} {tys : List (ClassId × FieldType)} {f : hM} {H0 : Heap} {sh : List Bool} {b : Nat → Option Nat} {v : Nat → Int}
theorem mo_new (hx : p.tables.exec = Jvm.exec) (hb : c.code = cc) {own C : String} {T : u_T} {N ci index : Nat} {Ts : List Cond} (hts : ∀ w ∈ Ts, w.before args s = true) (hin : ∀ w ∈ u_ws C T N, w ∈ Ts) (ty : Nat → FieldType) (hty : ∀ k, k < N → parseFieldDescriptor (T k).2.2.1 = some (ty k)) (hown : s.vm.findClass own = some m.cls) (hcl : (Cond.classLink own index C).before args s = true) (hinst : (Cond.instantiable C N).before args s = true) (hini : (Cond.initialized C).before args s = true) (hK : va_K D cl tys s) (hw : hW D cl lo f H) (hS : va_S (fun q => lo ≤ q) H0 H locs) (hlo : lo ≤ H0.size) (hc : cl[ci]? = some (C, T, N)) (hfs : ∀ j, j < N → defaultValue (ty j) = vp_V (oF sh (fun _ => none) (fun _ => 0)) j) (hcells : cells + 1 ≤ R.cells) (hslots : slots + N ≤ R.slots) (hdg : decode cc pc = .ok (.new index, 3)) (kk : ∀ (q : Nat) (H1 : Heap) (f1 : hM), f q = none → f1 = va_up f q (some (eO ci (oF sh (fun _ => none) (fun _ => 0)))) → hW D cl lo f1 H1 → va_S (fun q => lo ≤ q) H0 H1 locs → W p l e R s m args below meth c H1 locs (cells + 1) (slots + N) Q (F0 m (pc + 3) ls (.ref q :: rest))) : W p l e R s m args below meth c H locs cells slots Q (F0 m pc ls rest) :=
  mp_new hx hb hts hin ty hty hown hcl hinst hini hK hw hS hlo hc hfs hcells hslots hdg (fun q H1 h1 h2 h3 => kk q H1 _ h1 rfl h2 h3)
theorem mo_newai (hx : p.tables.exec = Jvm.exec) (hb : c.code = cc) (harr : (Cond.arrayClass .int).before args s = true) (hK : va_K D cl tys s) (hw : hW D cl lo f H) (hS : va_S (fun q => lo ≤ q) H0 H locs) (hlo : lo ≤ H0.size) (t0 : Nat) {cA : ClassId} (htt : tys[t0]? = some (cA, .int)) {z : Int} (n : Nat) (hz : z = (n : Int)) (hn : n < 60000000) (hcells : cells + 1 ≤ R.cells) (hslots : slots + n ≤ R.slots) (hdg : decode cc pc = .ok (.newarray .int, 2)) (kk : ∀ (q : Nat) (H1 : Heap) (f1 : hM), f q = none → f1 = va_up f q (some (eI cA n (fun _ => 0))) → hW D cl lo f1 H1 → va_S (fun q => lo ≤ q) H0 H1 locs → W p l e R s m args below meth c H1 locs (cells + 1) (slots + n) Q (F0 m (pc + 2) ls (.ref q :: rest))) : W p l e R s m args below meth c H locs cells slots Q (F0 m pc ls (.int (iI z) :: rest)) := by
  subst hz
  obtain ⟨ws, hP, hD, hi⟩ := hw.list
  have g1 : ¬ iI (n : Int) < 0 := iI_neg (by omega)
  have g2 : (iI (n : Int)).toNatClampNeg = n := iI_clamp (by omega)
  have g4 : componentBytes .int = 4 := rfl
  have g3 : n * componentBytes .int ≤ 536870912 := by rw [g4]; omega
  have g5 : ∀ cA : ClassId, vp_cell cA (n, .inl (fun _ => iI 0)) = arrV cA n (fun _ => defaultValue .int) := fun cA => by show arrV cA n (fun _ => .int (iI 0)) = _; rw [iI_0]; rfl
  refine va_newa (atype := .int) (ty := .int) (N' := n) (a0 := (n, .inl (fun _ => iI 0))) hx hb harr rfl hK hP hD hS (fun q h => Nat.le_trans hlo h) g5 g1 g2 g3 hcells hslots hdg (fun q cA9 H1 hK1 hP1 hD1 hS1 => ?_)
  have e9 : cA9 = cA := by
    have h1 : s.vm.findClass ("[" ++ (FieldType.int).toString) = some cA := (hK.2 t0 (cA, .int) htt).2
    have h2 : s.vm.findClass ("[" ++ (FieldType.int).toString) = some cA9 := (hK1.2 tys.length (cA9, .int) (by rw [List.getElem?_append_right (Nat.le_refl _), Nat.sub_self]; rfl)).2
    exact Option.some.inj (h2.symm.trans h1)
  subst e9
  have hq : f q = none ∧ hW D cl lo (va_up f q (some (eI cA9 n (fun _ => 0)))) H1 := hw.push hi hP1 hD1
  exact kk q H1 _ hq.1 rfl hq.2 hS1
theorem mo_newal (hx : p.tables.exec = Jvm.exec) (hb : c.code = cc) (harr : (Cond.arrayClass .long).before args s = true) (hK : va_K D cl tys s) (hw : hW D cl lo f H) (hS : va_S (fun q => lo ≤ q) H0 H locs) (hlo : lo ≤ H0.size) (t0 : Nat) {cA : ClassId} (htt : tys[t0]? = some (cA, .long)) {z : Int} (n : Nat) (hz : z = (n : Int)) (hn : n < 60000000) (hcells : cells + 1 ≤ R.cells) (hslots : slots + n ≤ R.slots) (hdg : decode cc pc = .ok (.newarray .long, 2)) (kk : ∀ (q : Nat) (H1 : Heap) (f1 : hM), f q = none → f1 = va_up f q (some (eJ cA n (fun _ => 0))) → hW D cl lo f1 H1 → va_S (fun q => lo ≤ q) H0 H1 locs → W p l e R s m args below meth c H1 locs (cells + 1) (slots + n) Q (F0 m (pc + 2) ls (.ref q :: rest))) : W p l e R s m args below meth c H locs cells slots Q (F0 m pc ls (.int (iI z) :: rest)) := by
  subst hz
  obtain ⟨ws, hP, hD, hi⟩ := hw.list
  have g1 : ¬ iI (n : Int) < 0 := iI_neg (by omega)
  have g2 : (iI (n : Int)).toNatClampNeg = n := iI_clamp (by omega)
  have g4 : componentBytes .long = 8 := rfl
  have g3 : n * componentBytes .long ≤ 536870912 := by rw [g4]; omega
  have g5 : ∀ cA : ClassId, vp_cell cA (n, .inr (.inl (fun _ => lI 0))) = arrV cA n (fun _ => defaultValue .long) := fun cA => by show arrV cA n (fun _ => .long (lI 0)) = _; rw [lI_0]; rfl
  refine va_newa (atype := .long) (ty := .long) (N' := n) (a0 := (n, .inr (.inl (fun _ => lI 0)))) hx hb harr rfl hK hP hD hS (fun q h => Nat.le_trans hlo h) g5 g1 g2 g3 hcells hslots hdg (fun q cA9 H1 hK1 hP1 hD1 hS1 => ?_)
  have e9 : cA9 = cA := by
    have h1 : s.vm.findClass ("[" ++ (FieldType.long).toString) = some cA := (hK.2 t0 (cA, .long) htt).2
    have h2 : s.vm.findClass ("[" ++ (FieldType.long).toString) = some cA9 := (hK1.2 tys.length (cA9, .long) (by rw [List.getElem?_append_right (Nat.le_refl _), Nat.sub_self]; rfl)).2
    exact Option.some.inj (h2.symm.trans h1)
  subst e9
  have hq : f q = none ∧ hW D cl lo (va_up f q (some (eJ cA9 n (fun _ => 0)))) H1 := hw.push hi hP1 hD1
  exact kk q H1 _ hq.1 rfl hq.2 hS1
end MN
abbrev sh_po : List Bool := [false, false, false, false, false, true, false, true, true, false, false, false, true]
theorem df_po : ∀ j, j < 13 → defaultValue (ty_po j) = vp_V (oF sh_po (fun _ => none) (fun _ => 0)) j := by decide +kernel
abbrev sh_ch : List Bool := [false, false, false, false, false, false]
theorem df_ch : ∀ j, j < 6 → defaultValue (ty_ch j) = vp_V (oF sh_ch (fun _ => none) (fun _ => 0)) j := by decide +kernel
abbrev sh_co : List Bool := [true]
theorem df_co : ∀ j, j < 1 → defaultValue (ty_co j) = vp_V (oF sh_co (fun _ => none) (fun _ => 0)) j := by decide +kernel
abbrev sh_le : List Bool := [false, false, true, true, false]
theorem df_le : ∀ j, j < 5 → defaultValue (ty_le j) = vp_V (oF sh_le (fun _ => none) (fun _ => 0)) j := by decide +kernel
abbrev sh_ro : List Bool := [true, true, true, false, false, false, false, false, false, false]
theorem df_ro : ∀ j, j < 10 → defaultValue (ty_ro j) = vp_V (oF sh_ro (fun _ => none) (fun _ => 0)) j := by decide +kernel
abbrev sh_sp : List Bool := [false, false, false, false, false, false]
theorem df_sp : ∀ j, j < 6 → defaultValue (ty_sp j) = vp_V (oF sh_sp (fun _ => none) (fun _ => 0)) j := by decide +kernel
theorem df_mo : ∀ j, j < 38 → defaultValue (ty_mo j) = vp_V (oF sh_mo (fun _ => none) (fun _ => 0)) j := by decide +kernel
abbrev sh_al : List Bool := [false, true, false]
theorem df_al : ∀ j, j < 3 → defaultValue (ty_al j) = vp_V (oF sh_al (fun _ => none) (fun _ => 0)) j := by decide +kernel
end
section
/-! throw new E(text) where E's constructor hands its text on by another pool number than 7 (NoSuchElementException): follows the library's ctorThrowS (JvmDerived/BundleOwnThrow.lean) and the printed vx_throwS, with one pass ahead of the chain -/
def nAtoms (own : String) (ic : Nat) (X Y : String) (i1 : Nat) (by1 : ByteArray) (names : List String) : List Cond :=
  Bundle.throwableAtoms ++ Bundle.throwableSAtoms ++ Bundle.passSAtoms X Y i1 by1 ++ Bundle.chainSAtoms Y names ++
  [.methodLink own ic (Bundle.initS X), .instantiable X 6, .castable X X, .selects X Bundle.tFill0 Bundle.tFill0, .selects X Bundle.tFill Bundle.tFill,
   .lays X Bundle.tN "cause" "Ljava/lang/Throwable;", .lays X Bundle.tN "stackTrace" Bundle.steD, .lays X Bundle.tN "suppressedExceptions" Bundle.listD, .lays X Bundle.tN "detailMessage" "Ljava/lang/String;",
   .isRef (.static Bundle.tN "UNASSIGNED_STACK" Bundle.steD), .isRef (.static Bundle.tN "SUPPRESSED_SENTINEL" Bundle.listD),
   .fieldLink Bundle.tN 198 Bundle.tN "backtrace" "Ljava/lang/Object;", .lays Bundle.tN Bundle.tN "backtrace" "Ljava/lang/Object;", .lays X Bundle.tN "backtrace" "Ljava/lang/Object;"]
section NSE1
variable {p : Program} {l : Launch} {e : Env} {R : Room} {s : State} {m₀ : MethodId} {args : Array Value} {below : List Frame} {meth : Method} {c : Code} {W : State} {locs : List Loc} {cells slots : Nat}
set_option maxHeartbeats 4000000 in
theorem nCtor (X : Stand p l e R s m₀ args below meth c W locs cells slots) (hexec : p.tables.exec = Jvm.exec) (htr : e.platform.stackTraces = false) {own cls Y1 : String} {i1 : Nat} {by1 : ByteArray} {names : List String} {ic : Nat}
    (hown : s.vm.findClass own = some m₀.cls) (hcls : Bundle.fit cls = true) (hY1 : Bundle.fit Y1 = true) (hnames : ∀ n ∈ names, Bundle.fit n = true)
    (e0 : decode by1 0 = .ok (.aload_n 0, 1)) (e1 : decode by1 1 = .ok (.aload_n 1, 1)) (e2 : decode by1 2 = .ok (.invokespecial i1, 3)) (e5 : decode by1 5 = .ok (.return_, 1))
    (h : ∀ a ∈ nAtoms own ic cls Y1 i1 by1 names, a.before args s = true)
    (hlocs : ∀ x ∈ locs, ∀ cell, s.heap[x.base]? = some cell → cell.vm.isStatics = false)
    {a : Addr} {cX : ClassId} {kX : Class} (hfoundX : s.vm.findClass cls = some cX) (hkX : s.vm.classes[cX]? = some kX) (hcell : W.heap[a]? = some (freshCell cX kX)) (hnew : s.heap.size ≤ a)
    {msg : Value} (hmsg : msg.isRef = true)
    {g : JFrame} (hg : g.method = m₀) (hsize : g.locals.size = c.maxLocals) (hlocked : g.locked = none) (hentered : g.entered = []) {rest : List Value} (hstack : g.stack = msg :: .ref a :: .ref a :: rest)
    (hd6 : decode c.code g.pc = .ok (.invokespecial ic, 3)) (hd9 : decode c.code (g.pc + 3) = .ok (.athrow, 1)) (hout : ∀ x ∈ c.exceptionTable.toList, covers x (g.pc + 3) = false)
    (hRframes : names.length + 4 < R.frames) (hRlocals : 2 * g.monitorRoom + ((Value.ref a :: rest).map fun v => v.category).sum + (13 * (names.length + 2) + 42) ≤ R.locals) (hlocks : meth.locks = false) :
    ∃ U : State, Steps p.tables e below (W.setTop g) U ∧ U.status = .running ∧ Ended U below (.threw a) ∧ s.WarmedH U.vm ∧ s.sameButNew ({ U with vm := s.vm } : State) locs cells slots ∧
      ∃ ce, U.heap[a]? = some ce ∧ ce.vm = .none ∧ s.vm.findClass cls = some ce.cls := by
  have howns : e.platform.frameOwnsMonitors = true := by rw [X.admits.platform]
  have hfin : e.platform.finalization = false := by rw [X.admits.platform]
  have hpl : e.platform.magicAccessors = ({} : Platform).magicAccessors := by rw [X.admits.platform]
  have a' : ∀ x, x ∈ nAtoms own ic cls Y1 i1 by1 names → x.holds args s none s [] = true := fun x hx => h x hx
  obtain ⟨T, Z0, L, -, Y⟩ := ThrowableC.of_atoms (args := args) howns hfin hpl (fun x hx => h x (by simp [nAtoms, hx]))
  obtain ⟨Z, M, LZ, LM, hnZ⟩ := Init0T.ofS_atoms (args := args) hpl L Y (fun x hx => h x (by simp [nAtoms, hx]))
  obtain ⟨P2, Ps2, hlen2, L2, hL2, hP2m, hlink2, hlinks2⟩ := Bundle.chainS (args := args) hpl hnZ names Y1 hY1 hnames (fun x hx => h x (by simp [nAtoms, hx]))
  obtain ⟨P1, L1, hP1m, hP1s⟩ := PassC.ofS_atoms (args := args) (s := s) hpl (X := cls) (Y := Y1) (Bundle.fit_spec hcls).1 (Bundle.fit_spec hY1).2 e0 e1 e2 e5 (fun x hx => h x (by simp [nAtoms, hx]))
  have hsup1 : P1.sup = P2.m := Option.some.inj (hP1s.symm.trans hP2m)
  have hfound : s.vm.findClass cls = some P1.m.cls := findClass_of_methodNamed hP1m
  cases Option.some.inj (hfoundX.symm.trans hfound)
  obtain ⟨c1, kX', hc1, hk, hord, -, -, hn6⟩ := Cond.instantiable_spec (a' (.instantiable cls 6) (by simp [nAtoms]))
  cases Option.some.inj (hc1.symm.trans hfound)
  cases Option.some.inj (hkX.symm.trans hk)
  have hsel0 : selectMethod e.platform s.vm P1.m.cls T.fill0 = .method T.fill0 := by
    obtain ⟨c2, r2, m2, q1, q2, q3, q4, -⟩ := Cond.selects_spec (a' (.selects cls Bundle.tFill0 Bundle.tFill0) (by simp [nAtoms]))
    cases Option.some.inj (q1.symm.trans hfound)
    cases Option.some.inj (q2.symm.trans (State.methodFound?_of_named Y.fill0 (by decide)))
    cases Option.some.inj (q3.symm.trans Y.fill0)
    rw [Launch.admits_selectMethod X.admits]; exact q4
  have hselF : selectMethod e.platform s.vm P1.m.cls T.fill = .method T.fill := by
    obtain ⟨c2, r2, m2, q1, q2, q3, q4, -⟩ := Cond.selects_spec (a' (.selects cls Bundle.tFill Bundle.tFill) (by simp [nAtoms]))
    cases Option.some.inj (q1.symm.trans hfound)
    cases Option.some.inj (q2.symm.trans (State.methodFound?_of_named Y.fill (by decide)))
    cases Option.some.inj (q3.symm.trans Y.fill)
    rw [Launch.admits_selectMethod X.admits]; exact q4
  obtain ⟨cellS0, hcS0, hiss⟩ := Y.statics
  obtain ⟨u0, hu0⟩ := Cond.staticRefV Y.unassigned L.unassignedStatic L.statics hcS0 hiss (a' (.isRef (.static Bundle.tN "UNASSIGNED_STACK" Bundle.steD)) (by simp [nAtoms]))
  obtain ⟨sen, hsen⟩ := Cond.staticRefV Y.sentinel L.sentinelStatic L.statics hcS0 hiss (a' (.isRef (.static Bundle.tN "SUPPRESSED_SENTINEL" Bundle.listD)) (by simp [nAtoms]))
  obtain ⟨ci198, i198, fB, hk198, hg198, ha198, hsB, -, hnB, htB, hffB⟩ := Cond.ownField (t := .object "java/lang/Object") Y.found L.cls (by decide +kernel) (a' (.fieldLink Bundle.tN 198 Bundle.tN "backtrace" "Ljava/lang/Object;") (by simp [nAtoms])) (a' (.lays Bundle.tN Bundle.tN "backtrace" "Ljava/lang/Object;") (by simp [nAtoms])) e.platform hpl
  obtain ⟨cellS, hcS', heS, -, hkeep⟩ := X.same.2.2.2.2.2 T.aS cellS0 hcS0
  have hcellS : W.heap[T.aS]? = some cellS := hcS'
  have hout' : ∀ i, (⟨T.aS, i⟩ : Loc) ∉ locs := fun i hmem => by
    have := hlocs _ hmem cellS0 hcS0
    rw [hiss] at this; cases this
  have hknownS : cellS.vm ≠ .unknown := by
    rw [heS]; intro hu
    rw [show cellS0.vm = .unknown from hu] at hiss
    cases hiss
  have hneS : T.aS ≠ a := Nat.ne_of_lt (Nat.lt_of_lt_of_le (Array.getElem?_eq_some_iff.mp hcS0).1 hnew)
  obtain ⟨iM, hffM⟩ := Y.msg
  obtain ⟨tyC, dC, hdC, hdnC⟩ := Cond.laysAt hfound hk Y.cause (a' (.lays cls Bundle.tN "cause" "Ljava/lang/Throwable;") (by simp [nAtoms]))
  obtain ⟨tyS, dS, hdS, hdnS⟩ := Cond.laysAt hfound hk Y.stack (a' (.lays cls Bundle.tN "stackTrace" Bundle.steD) (by simp [nAtoms]))
  obtain ⟨tyP, dP, hdP, hdnP⟩ := Cond.laysAt hfound hk Y.supp (a' (.lays cls Bundle.tN "suppressedExceptions" Bundle.listD) (by simp [nAtoms]))
  obtain ⟨tyM, dM, hdM, hdnM⟩ := Cond.laysAt hfound hk hffM (a' (.lays cls Bundle.tN "detailMessage" "Ljava/lang/String;") (by simp [nAtoms]))
  obtain ⟨tyB, dB, hdB, hdnB⟩ := Cond.laysAt hfound hk hffB (a' (.lays cls Bundle.tN "backtrace" "Ljava/lang/Object;") (by simp [nAtoms]))
  have bC := Cond.laysApart hdB hdC hdnB hdnC (by rw [hnB, Y.causeName]; decide)
  have bS := Cond.laysApart hdB hdS hdnB hdnS (by rw [hnB, Y.stackName]; decide)
  have bP := Cond.laysApart hdB hdP hdnB hdnP (by rw [hnB, Y.suppName]; decide)
  have hskip : SkipFacts T e.platform s (fun u => u) u0 ((preparedCellV T.toThrowableT (freshCell P1.m.cls kX) a u0 sen).withEntry W.cur) :=
    ⟨{ ci198 := ci198, i198 := i198, fBack := fB }, ⟨hk198, hg198, ha198, hsB⟩, by
      have := fresh_default (c := P1.m.cls) tyB
      rw [htB] at this
      simpa [preparedCellV, Cell.setSlot, Cell.withEntry, Array.getElem?_setIfInBounds, bC, bS, bP, bC.symm, bS.symm, bP.symm, defaultValue] using this, fun _ _ => rfl⟩
  obtain ⟨tm, methC, cdC, kC, vm₁, hnC, -, -, -, -, -, -, -, hW₁, st1⟩ := Steps.initColdS (tb := p.tables) (e := e) (below := below) (s := s) (U := W) X.here hexec X.warmed hpl hown (t := Bundle.initS cls) rfl rfl (Bundle.fit_spec hcls).2
    (a' (.methodLink own ic (Bundle.initS cls)) (by simp [nAtoms])) (h (.instanceMethod (Bundle.initS cls)) (by simp [nAtoms, Bundle.passSAtoms])) (bytes := by1) (maxL := 2) (h (.code (Bundle.initS cls) by1 2 none) (by simp [nAtoms, Bundle.passSAtoms]))
    (f := g) hg (a := a) (msg := msg) (rest := .ref a :: rest) hstack hd6
  cases Option.some.inj (hnC.symm.trans hP1m)
  have X₁ := X.noted hW₁
  obtain ⟨vm₂, X₂, st2⟩ := X₁.ctorMessageOffV hexec (g := { g with stack := .ref a :: rest }) hg hsize T L Z LZ M LM (P1 :: P2 :: Ps2)
    (fun P hP => by
      rcases List.mem_cons.mp hP with rfl | hP
      · exact L1
      rcases List.mem_cons.mp hP with rfl | hP
      · exact L2
      · exact hL2 P hP) ⟨hsup1, hlink2, hlinks2⟩ (u0 := u0) (sen := sen) (self := a) hmsg (cell := freshCell P1.m.cls kX) (cellS := cellS)
    hcell (fun _ => by simp) (by simp) rfl rfl hsel0 hselF hcellS hneS hknownS (by rw [hkeep _ (hout' _)]; exact hu0) (by rw [hkeep _ (hout' _)]; exact hsen)
    (Takes.of_laid hk hord tyC (by rw [Y.causeType]; rfl)) (Takes.of_laid hk hord tyS (by rw [Y.stackType]; exact fits_refV_array _ u0)) (Takes.of_laid hk hord tyP (by rw [Y.suppType]; exact fits_refV_object _ sen))
    (Takes.of_laid hk hord tyM (by rw [Y.msgType]; exact fits_refV_object _ ⟨msg, hmsg⟩)) Y.objLocals hskip htr [] hd6
    (by simp only [List.length_cons, hlen2]; omega) (by simp only [List.length_cons, hlen2]; exact hRlocals)
  obtain ⟨hwalk, hrun, hended, hWU, hsame⟩ := X₂.athrowLeaves hexec (g := { g with stack := .ref a :: rest, pc := g.pc + 3 }) hg hlocked hentered hout (a := a) (rest := rest) rfl hd9
  have hlt : a < ((W.setVm vm₁).setVm vm₂).heap.size := (Array.getElem?_eq_some_iff.mp hcell).1
  have hU := heapAt_setCell_self (s := (W.setVm vm₁).setVm vm₂) (plainBareV T.toThrowableT (freshCell P1.m.cls kX) a u0 sen msg) hlt
  refine ⟨_, st1 _ (fun acts => ?_), hrun, hended, hWU, hsame.weaken (fun y hy hlt' => ?_) (Nat.le_refl _) (Nat.le_refl _), _, hU, rfl, hfound⟩
  · rw [doInvoke_state]
    exact st2 _ hwalk
  · rcases List.mem_append.mp hy with h1 | h1
    · exact h1
    · exfalso
      have hb : y.base = a := by
        simp only [List.mem_cons, List.not_mem_nil, or_false] at h1
        rcases h1 with rfl | rfl | rfl | rfl | rfl <;> rfl
      rw [hb] at hlt'
      exact Nat.not_lt.mpr hnew hlt'
end NSE1
section NSE2
variable {p : Program} {l : Launch} {e : Env} {R : Room} {s : State} {m : MethodId} {args : Array Value} {below : List Frame} {meth : Method} {c : Code} {H : Heap} {locs : List Loc} {cells slots : Nat} {Q : State → Prop}
variable {mc ms : Nat} {free : Addr → Prop} {A0 A1 : Nat → Prop} {H0 : Heap} {a : Array Value} {ls : Array Slot} {st0 rest : List Value}
variable {Qc : Array Value → State → Outcome → State → Prop} {XC : String → State → State → Prop}
set_option maxHeartbeats 4000000 in
theorem nThrow {cc : ByteArray} {pc : Nat} (hexec : p.tables.exec = Jvm.exec) (hb : c.code = cc) (hl : l.stackTraces = false) {own cls text Y1 : String} {i1 : Nat} {by1 : ByteArray} {names : List String} {ik is ic mc ms sa : Nat} {A : Nat → Prop}
    (hown : s.vm.findClass own = some m.cls) (hcls : Bundle.fit cls = true) (hY1 : Bundle.fit Y1 = true) (e0 : decode by1 0 = .ok (.aload_n 0, 1)) (e1 : decode by1 1 = .ok (.aload_n 1, 1)) (e2 : decode by1 2 = .ok (.invokespecial i1, 3)) (e5 : decode by1 5 = .ok (.return_, 1)) (hnames : ∀ n ∈ names, Bundle.fit n = true)
    (hk : (Cond.classLink own ik cls).before args s = true) (hini : (Cond.initialized cls).before args s = true) (hstr : vk_R own is text sa s) (hat : ∀ w ∈ (nAtoms own ic cls Y1 i1 by1 names).filter vx_no, w.before args s = true)
    (hgood : ∀ w ∈ Cond.classLink own ik cls :: Cond.initialized cls :: (nAtoms own ic cls Y1 i1 by1 names).filter vx_no, vx_ot w = true)
    (hU : vx_Zq Bundle.tN "UNASSIGNED_STACK" Bundle.steD A s s.heap) (hN : vx_Zq Bundle.tN "SUPPRESSED_SENTINEL" Bundle.listD A s s.heap) (hS : va_S A s.heap H locs) (hsize : ls.size = c.maxLocals)
    (d0 : decode cc pc = .ok (.new ik, 3)) (d3 : decode cc (pc + 3) = .ok (.dup, 1)) (d4 : decode cc (pc + 4) = .ok (.ldc is, 2)) (d6 : decode cc (pc + 6) = .ok (.invokespecial ic, 3)) (d9 : decode cc (pc + 9) = .ok (.athrow, 1))
    (hout : ∀ x ∈ c.exceptionTable.toList, covers x (pc + 9) = false)
    (hRframes : names.length + 4 < R.frames) (hRlocals : (rest.map fun v => v.category).sum + (13 * (names.length + 2) + 43) ≤ R.locals) (hRcells : cells + 1 ≤ R.cells) (hRslots : slots + 6 ≤ R.slots) (hlocks : meth.locks = false)
    (hx : ∀ t : State, s.vm.Alike t.vm → H.size ≤ t.heap.size → (∀ q : Nat, q < H.size → t.heap[q]? = H[q]?) → XC cls s t)
    (hf : ∀ z ∈ locs, free z.base) (hc : cells + 1 ≤ mc) (hs : slots + 6 ≤ ms) :
    W p l e R s m args below meth c H locs cells slots (vx_MQ below Qc XC args s mc ms free) (F0 m pc ls rest) := by
  intro T hT X
  have htr : e.platform.stackTraces = false := (show e.platform.stackTraces = l.stackTraces by rw [X.admits.platform]).trans hl
  have Y := vx_rebase X (R' := { frames := R.frames, locals := R.locals, cells := 1, slots := 6 }) (Nat.le_refl _) (Nat.le_refl _) hRcells hRslots
  obtain ⟨s', hA⟩ : ∃ z, z = (T.setVm s.vm).setFrames (.invoking m args :: below) := ⟨_, rfl⟩
  rw [← hA] at Y
  have hvm : s'.vm = s.vm := by rw [hA]; rfl
  have hhp : s'.heap = H := by rw [hA]; exact hT
  have hW0 : s.WarmedH s'.vm := by rw [hvm]; exact State.WarmedH.refl s
  have hat' : ∀ w ∈ (nAtoms own ic cls Y1 i1 by1 names).filter vx_no, w.before args s' = true := fun w hw => vx_ot_at hW0 hvm.symm (hgood w (List.mem_cons_of_mem _ (List.mem_cons_of_mem _ hw))) (hat w hw)
  have hk' : (Cond.classLink own ik cls).before args s' = true := vx_ot_at hW0 hvm.symm (hgood _ List.mem_cons_self) hk
  have hini' : (Cond.initialized cls).before args s' = true := vx_ot_at hW0 hvm.symm (hgood _ (List.mem_cons_of_mem _ List.mem_cons_self)) hini
  have hU' : vx_Zq Bundle.tN "UNASSIGNED_STACK" Bundle.steD A s' s'.heap := by rw [hhp]; exact vx_Zq.moved hW0.alike (hU.kept hS.2.1)
  have hN' : vx_Zq Bundle.tN "SUPPRESSED_SENTINEL" Bundle.listD A s' s'.heap := by rw [hhp]; exact vx_Zq.moved hW0.alike (hN.kept hS.2.1)
  have h : ∀ w ∈ nAtoms own ic cls Y1 i1 by1 names, w.before args s' = true := vx_own hat' (vx_isRefq hU'.1) (vx_isRefq hN'.1) hU'.2.word hN'.2.word
  have hown' : s'.vm.findClass own = some m.cls := by rw [hvm]; exact hown
  have hins : (Cond.instantiable cls 6).before args s' = true := h _ (by simp [nAtoms])
  obtain ⟨vm₁, cX, kX, hfX, hkX, -, -, X₁, st1⟩ := Y.newCold hexec (own := own) (C := cls) (index := ik) (n := 6) hown' hk' hins hini'
    (g := F0 m pc ls rest) rfl (by rw [hb]; exact d0) (Nat.le_refl _) (Nat.le_refl _)
  generalize hT1 : (T.setVm vm₁).pushCell { cls := cX, slots := kX.instanceTypes.map defaultValue, vm := .none } = T1 at X₁ st1
  have hcat : (Value.ref T.heap.size).category = 1 := rfl
  have hcellA : T1.heap[T.heap.size]? = some (freshCell cX kX) := by rw [← hT1]; exact State.heap_pushCell_size _ _
  have d3' : decode c.code (pc + 3) = .ok (.dup, 1) := by rw [hb]; exact d3
  have d4' : decode c.code (pc + 4) = .ok (.ldc is, 2) := by rw [hb]; exact d4
  have hstr' : vk_R own is text sa s' := vk_R.warm hW0 hstr
  obtain ⟨U, hsteps, hrun, hend, hW, hsame, ce, hce, hOv, hOc⟩ := nCtor X₁ hexec htr (own := own) (cls := cls) (Y1 := Y1) (i1 := i1) (by1 := by1) (names := names) (ic := ic) hown' hcls hY1 hnames e0 e1 e2 e5 h (fun x hx => nomatch hx) hfX hkX hcellA (by rw [hhp, hT]; exact Nat.le_refl _) (msg := .ref sa) rfl
    (g := { method := m, pc := pc + 6, locals := ls, stack := .ref sa :: .ref T.heap.size :: .ref T.heap.size :: rest, locked := none }) rfl hsize rfl rfl (rest := rest) rfl
    (by rw [hb]; exact d6) (by rw [hb]; exact d9) hout hRframes (by simp only [List.map_cons, List.sum_cons, hcat]; omega) hlocks
  obtain ⟨f1, f2⟩ := vx_frame hsame
  rw [hhp] at f1 f2
  have hWs : s.WarmedH U.vm := State.WarmedH.trans hW0 hW
  have hcl : s.vm.findClass cls = some ce.cls := by
    have h9 := hOc
    rw [hvm] at h9
    exact h9
  have hall : s.sameButNew ({ U with vm := s.vm } : State) locs mc ms := by
    subst hA
    obtain ⟨e1, e2⟩ := hsame
    rw [State.setFrames_setFrames] at e1
    have h2 : (T.setVm s.vm).sameButNew ({ U with vm := s.vm } : State) [] (0 + 1) (0 + 6) := ⟨e1, e2⟩
    have h3 := X.same.trans h2
    rw [List.append_nil] at h3
    exact h3.mono hc hs
  refine ⟨U, ?_, .threw T.heap.size, hrun, hend, Or.inr ⟨T.heap.size, rfl, cls, ce, locs, hx U hWs.alike f1 (fun q hq => f2 q hq (fun z hz => nomatch hz)), hce, hOv, hcl, hWs, hall, hf⟩⟩
  refine st1 _ ?_
  show Steps p.tables e below (T1.setTop { method := m, pc := pc + 3, locals := ls, stack := .ref T.heap.size :: rest, locked := none }) _
  jvm_step X₁.here [X₁.here.top, hexec, d3', Value.category]
  exact X₁.ldcString hexec (own := own) (text := text) (index := is) (a := sa) hown' hstr'.1 hstr'.2
    (g := { method := m, pc := pc + 4, locals := ls, stack := .ref T.heap.size :: .ref T.heap.size :: rest, locked := none }) rfl d4' _ hsteps
end NSE2
theorem an_nm : ∀ n ∈ ["java/lang/Exception"], Bundle.fit n = true := by decide +kernel
theorem an1 : ∀ w ∈ ((nAtoms "PacketOrder" 101 NSE "java/lang/RuntimeException" 13 prog_27_method_4_code ["java/lang/Exception"]).filter vx_no).filter goodWord, w ∈ TB := tb_in _ (by decide +kernel)
theorem an2 : ∀ w ∈ ((nAtoms "PacketOrder" 101 NSE "java/lang/RuntimeException" 13 prog_27_method_4_code ["java/lang/Exception"]).filter vx_no).filter (fun w => !goodWord w), w ∈ NB := nb_in _ (by decide +kernel)
theorem an3 : ∀ w ∈ Cond.classLink "PacketOrder" 97 NSE :: Cond.initialized NSE :: (nAtoms "PacketOrder" 101 NSE "java/lang/RuntimeException" 13 prog_27_method_4_code ["java/lang/Exception"]).filter vx_no, vx_ot w = true := by decide +kernel
theorem an_0 : decode prog_27_method_4_code 0 = .ok (.aload_n 0, 1) := by decide +kernel
theorem an_1 : decode prog_27_method_4_code 1 = .ok (.aload_n 1, 1) := by decide +kernel
theorem an_2 : decode prog_27_method_4_code 2 = .ok (.invokespecial 13, 3) := by decide +kernel
theorem an_5 : decode prog_27_method_4_code 5 = .ok (.return_, 1) := by decide +kernel
section NSE3
variable {p : Program} {l : Launch} {e : Env} {R : Room} {s : State} {m : MethodId} {args : Array Value} {below : List Frame} {meth : Method} {c : Code} {H : Heap} {locs : List Loc} {cells slots : Nat} {Q : State → Prop}
variable {cc : ByteArray} {pc : Nat} {ls : Array Slot} {rest : List Value} {D : va_G} {cl : List vw_C} {lo t0 : Nat} {f : hM} {mc ms : Nat}
theorem mx_throwN {Qc : Array Value → State → Outcome → State → Prop} {pE : String → hM → Prop} (hx : p.tables.exec = Jvm.exec) (hb : c.code = cc) (hl9 : l.stackTraces = false) {text : String} {is : Nat} (hown : s.vm.findClass "PacketOrder" = some m.cls) (ht : ∀ w ∈ TB, w.before args s = true) (hk : Cond.classLink "PacketOrder" 97 NSE ∈ TB) (hini : Cond.initialized NSE ∈ TB) (hstr : ("PacketOrder", is, text) ∈ STR)
    (hG : Gv lo t0 s) (hw : hW D cl lo f H) (hS : va_S (fun q => lo ≤ q) s.heap H locs) (hsize : ls.size = c.maxLocals)
    (d0 : decode cc pc = .ok (.new 97, 3)) (d3 : decode cc (pc + 3) = .ok (.dup, 1)) (d4 : decode cc (pc + 4) = .ok (.ldc is, 2)) (d6 : decode cc (pc + 6) = .ok (.invokespecial 101, 3)) (d9 : decode cc (pc + 9) = .ok (.athrow, 1)) (hex : ∀ x ∈ c.exceptionTable.toList, False) (hRf : 5 < R.frames) (hRl : (rest.map fun v => v.category).sum + 82 ≤ R.locals) (hRc : cells + 1 ≤ R.cells) (hRs : slots + 6 ≤ R.slots) (hlocks : meth.locks = false) (hc : cells + 1 ≤ mc) (hs : slots + 6 ≤ ms) (hE : pE NSE f) :
    W p l e R s m args below meth c H locs cells slots (vx_MQ below Qc (XCm D cl lo pE) args s mc ms (fun q => lo ≤ q)) (F0 m pc ls rest) := by
  obtain ⟨g1, g2, g3, g4, g5, g6⟩ := hG
  obtain ⟨sa, hsa⟩ := g2 _ hstr
  refine nThrow (cls := NSE) (Y1 := "java/lang/RuntimeException") (i1 := 13) (by1 := prog_27_method_4_code) (names := ["java/lang/Exception"]) hx hb hl9 hown (by decide +kernel) (by decide +kernel) an_0 an_1 an_2 an_5 an_nm (ht _ hk) (ht _ hini) hsa (vx_hat (fun w hw => ht w (an1 w hw)) an2 (fun w hw => nb_use (List.mem_filter.mp hw).2 (g1 w hw))) an3 g4 g5 hS hsize d0 d3 d4 d6 d9 (fun x hx9 => (hex x hx9).elim) hRf hRl hRc hRs hlocks (fun t hA hz hk9 => ?_) hS.2.2 hc hs
  refine ⟨f, trivial, ⟨hE, fun a e9 he => ⟨(hw a e9 he).1, (hw a e9 he).2.kept (hk9 a (hw a e9 he).2.lt)⟩⟩, Nat.le_trans hS.1 hz, fun q h4 h5 => ?_⟩
  rw [hk9 q (Nat.lt_of_lt_of_le h4 hS.1)]; exact hS.2.1 q h4 h5
end NSE3
end
section
/-! the reference: names and decode rows -/
abbrev y_mo_init : MethodName := ⟨"PacketOrderModel", "<init>", "()V"⟩
abbrev b_mo_init : ByteArray := prog_8_method_1_code
theorem d_mo_init_0 : decode b_mo_init 0 = .ok (.aload_n 0, 1) := by decide +kernel
theorem d_mo_init_1 : decode b_mo_init 1 = .ok (.invokespecial 1, 3) := by decide +kernel
theorem d_mo_init_4 : decode b_mo_init 4 = .ok (.aload_n 0, 1) := by decide +kernel
theorem d_mo_init_5 : decode b_mo_init 5 = .ok (.bipush 16, 2) := by decide +kernel
theorem d_mo_init_7 : decode b_mo_init 7 = .ok (.newarray .int, 2) := by decide +kernel
theorem d_mo_init_9 : decode b_mo_init 9 = .ok (.putfield 7, 3) := by decide +kernel
theorem d_mo_init_12 : decode b_mo_init 12 = .ok (.aload_n 0, 1) := by decide +kernel
theorem d_mo_init_13 : decode b_mo_init 13 = .ok (.bipush 16, 2) := by decide +kernel
theorem d_mo_init_15 : decode b_mo_init 15 = .ok (.newarray .int, 2) := by decide +kernel
theorem d_mo_init_17 : decode b_mo_init 17 = .ok (.putfield 13, 3) := by decide +kernel
theorem d_mo_init_20 : decode b_mo_init 20 = .ok (.aload_n 0, 1) := by decide +kernel
theorem d_mo_init_21 : decode b_mo_init 21 = .ok (.bipush 16, 2) := by decide +kernel
theorem d_mo_init_23 : decode b_mo_init 23 = .ok (.newarray .int, 2) := by decide +kernel
theorem d_mo_init_25 : decode b_mo_init 25 = .ok (.putfield 16, 3) := by decide +kernel
theorem d_mo_init_28 : decode b_mo_init 28 = .ok (.aload_n 0, 1) := by decide +kernel
theorem d_mo_init_29 : decode b_mo_init 29 = .ok (.sipush 528, 3) := by decide +kernel
theorem d_mo_init_32 : decode b_mo_init 32 = .ok (.newarray .int, 2) := by decide +kernel
theorem d_mo_init_34 : decode b_mo_init 34 = .ok (.putfield 19, 3) := by decide +kernel
theorem d_mo_init_37 : decode b_mo_init 37 = .ok (.aload_n 0, 1) := by decide +kernel
theorem d_mo_init_38 : decode b_mo_init 38 = .ok (.sipush 528, 3) := by decide +kernel
theorem d_mo_init_41 : decode b_mo_init 41 = .ok (.newarray .int, 2) := by decide +kernel
theorem d_mo_init_43 : decode b_mo_init 43 = .ok (.putfield 22, 3) := by decide +kernel
theorem d_mo_init_46 : decode b_mo_init 46 = .ok (.aload_n 0, 1) := by decide +kernel
theorem d_mo_init_47 : decode b_mo_init 47 = .ok (.iconst 1, 1) := by decide +kernel
theorem d_mo_init_48 : decode b_mo_init 48 = .ok (.putfield 25, 3) := by decide +kernel
theorem d_mo_init_51 : decode b_mo_init 51 = .ok (.aload_n 0, 1) := by decide +kernel
theorem d_mo_init_52 : decode b_mo_init 52 = .ok (.sipush 192, 3) := by decide +kernel
theorem d_mo_init_55 : decode b_mo_init 55 = .ok (.newarray .int, 2) := by decide +kernel
theorem d_mo_init_57 : decode b_mo_init 57 = .ok (.putfield 29, 3) := by decide +kernel
theorem d_mo_init_60 : decode b_mo_init 60 = .ok (.aload_n 0, 1) := by decide +kernel
theorem d_mo_init_61 : decode b_mo_init 61 = .ok (.sipush 4096, 3) := by decide +kernel
theorem d_mo_init_64 : decode b_mo_init 64 = .ok (.newarray .int, 2) := by decide +kernel
theorem d_mo_init_66 : decode b_mo_init 66 = .ok (.putfield 32, 3) := by decide +kernel
theorem d_mo_init_69 : decode b_mo_init 69 = .ok (.aload_n 0, 1) := by decide +kernel
theorem d_mo_init_70 : decode b_mo_init 70 = .ok (.sipush 4096, 3) := by decide +kernel
theorem d_mo_init_73 : decode b_mo_init 73 = .ok (.newarray .int, 2) := by decide +kernel
theorem d_mo_init_75 : decode b_mo_init 75 = .ok (.putfield 35, 3) := by decide +kernel
theorem d_mo_init_78 : decode b_mo_init 78 = .ok (.aload_n 0, 1) := by decide +kernel
theorem d_mo_init_79 : decode b_mo_init 79 = .ok (.sipush 4096, 3) := by decide +kernel
theorem d_mo_init_82 : decode b_mo_init 82 = .ok (.newarray .int, 2) := by decide +kernel
theorem d_mo_init_84 : decode b_mo_init 84 = .ok (.putfield 38, 3) := by decide +kernel
theorem d_mo_init_87 : decode b_mo_init 87 = .ok (.aload_n 0, 1) := by decide +kernel
theorem d_mo_init_88 : decode b_mo_init 88 = .ok (.sipush 4096, 3) := by decide +kernel
theorem d_mo_init_91 : decode b_mo_init 91 = .ok (.newarray .long, 2) := by decide +kernel
theorem d_mo_init_93 : decode b_mo_init 93 = .ok (.putfield 41, 3) := by decide +kernel
theorem d_mo_init_96 : decode b_mo_init 96 = .ok (.aload_n 0, 1) := by decide +kernel
theorem d_mo_init_97 : decode b_mo_init 97 = .ok (.sipush 4096, 3) := by decide +kernel
theorem d_mo_init_100 : decode b_mo_init 100 = .ok (.newarray .long, 2) := by decide +kernel
theorem d_mo_init_102 : decode b_mo_init 102 = .ok (.putfield 45, 3) := by decide +kernel
theorem d_mo_init_105 : decode b_mo_init 105 = .ok (.aload_n 0, 1) := by decide +kernel
theorem d_mo_init_106 : decode b_mo_init 106 = .ok (.sipush 4096, 3) := by decide +kernel
theorem d_mo_init_109 : decode b_mo_init 109 = .ok (.newarray .int, 2) := by decide +kernel
theorem d_mo_init_111 : decode b_mo_init 111 = .ok (.putfield 48, 3) := by decide +kernel
theorem d_mo_init_114 : decode b_mo_init 114 = .ok (.aload_n 0, 1) := by decide +kernel
theorem d_mo_init_115 : decode b_mo_init 115 = .ok (.sipush 4096, 3) := by decide +kernel
theorem d_mo_init_118 : decode b_mo_init 118 = .ok (.newarray .int, 2) := by decide +kernel
theorem d_mo_init_120 : decode b_mo_init 120 = .ok (.putfield 51, 3) := by decide +kernel
theorem d_mo_init_123 : decode b_mo_init 123 = .ok (.return_, 1) := by decide +kernel
abbrev y_mo_thrown : MethodName := ⟨"PacketOrderModel", "thrown", "()I"⟩
abbrev b_mo_thrown : ByteArray := prog_8_method_2_code
theorem d_mo_thrown_0 : decode b_mo_thrown 0 = .ok (.aload_n 0, 1) := by decide +kernel
theorem d_mo_thrown_1 : decode b_mo_thrown 1 = .ok (.getfield 54, 3) := by decide +kernel
theorem d_mo_thrown_4 : decode b_mo_thrown 4 = .ok (.ireturn, 1) := by decide +kernel
abbrev y_mo_refuse : MethodName := ⟨"PacketOrderModel", "refuse", "(ZZ)Z"⟩
abbrev b_mo_refuse : ByteArray := prog_8_method_3_code
theorem d_mo_refuse_0 : decode b_mo_refuse 0 = .ok (.aload_n 0, 1) := by decide +kernel
theorem d_mo_refuse_1 : decode b_mo_refuse 1 = .ok (.iload_n 1, 1) := by decide +kernel
theorem d_mo_refuse_2 : decode b_mo_refuse 2 = .ok (.ifCond .eq 7, 3) := by decide +kernel
theorem d_mo_refuse_5 : decode b_mo_refuse 5 = .ok (.iconst 1, 1) := by decide +kernel
theorem d_mo_refuse_6 : decode b_mo_refuse 6 = .ok (.goto 12, 3) := by decide +kernel
theorem d_mo_refuse_9 : decode b_mo_refuse 9 = .ok (.iload_n 2, 1) := by decide +kernel
theorem d_mo_refuse_10 : decode b_mo_refuse 10 = .ok (.ifCond .eq 7, 3) := by decide +kernel
theorem d_mo_refuse_13 : decode b_mo_refuse 13 = .ok (.iconst 2, 1) := by decide +kernel
theorem d_mo_refuse_14 : decode b_mo_refuse 14 = .ok (.goto 4, 3) := by decide +kernel
theorem d_mo_refuse_17 : decode b_mo_refuse 17 = .ok (.iconst 0, 1) := by decide +kernel
theorem d_mo_refuse_18 : decode b_mo_refuse 18 = .ok (.putfield 54, 3) := by decide +kernel
theorem d_mo_refuse_21 : decode b_mo_refuse 21 = .ok (.aload_n 0, 1) := by decide +kernel
theorem d_mo_refuse_22 : decode b_mo_refuse 22 = .ok (.getfield 54, 3) := by decide +kernel
theorem d_mo_refuse_25 : decode b_mo_refuse 25 = .ok (.ifCond .le 7, 3) := by decide +kernel
theorem d_mo_refuse_28 : decode b_mo_refuse 28 = .ok (.iconst 1, 1) := by decide +kernel
theorem d_mo_refuse_29 : decode b_mo_refuse 29 = .ok (.goto 4, 3) := by decide +kernel
theorem d_mo_refuse_32 : decode b_mo_refuse 32 = .ok (.iconst 0, 1) := by decide +kernel
theorem d_mo_refuse_33 : decode b_mo_refuse 33 = .ok (.ireturn, 1) := by decide +kernel
abbrev y_mo_tile : MethodName := ⟨"PacketOrderModel", "tile", "(IIII)V"⟩
abbrev b_mo_tile : ByteArray := prog_8_method_4_code
theorem d_mo_tile_0 : decode b_mo_tile 0 = .ok (.iload_n 1, 1) := by decide +kernel
theorem d_mo_tile_1 : decode b_mo_tile 1 = .ok (.ifCond .lt 37, 3) := by decide +kernel
theorem d_mo_tile_4 : decode b_mo_tile 4 = .ok (.iload_n 2, 1) := by decide +kernel
theorem d_mo_tile_5 : decode b_mo_tile 5 = .ok (.ifCond .lt 33, 3) := by decide +kernel
theorem d_mo_tile_8 : decode b_mo_tile 8 = .ok (.iload_n 1, 1) := by decide +kernel
theorem d_mo_tile_9 : decode b_mo_tile 9 = .ok (.iload_n 3, 1) := by decide +kernel
theorem d_mo_tile_10 : decode b_mo_tile 10 = .ok (.if_icmp .ge 28, 3) := by decide +kernel
theorem d_mo_tile_13 : decode b_mo_tile 13 = .ok (.iload_n 2, 1) := by decide +kernel
theorem d_mo_tile_14 : decode b_mo_tile 14 = .ok (.iload 4, 2) := by decide +kernel
theorem d_mo_tile_16 : decode b_mo_tile 16 = .ok (.if_icmp .ge 22, 3) := by decide +kernel
theorem d_mo_tile_19 : decode b_mo_tile 19 = .ok (.iload_n 3, 1) := by decide +kernel
theorem d_mo_tile_20 : decode b_mo_tile 20 = .ok (.sipush 32767, 3) := by decide +kernel
theorem d_mo_tile_23 : decode b_mo_tile 23 = .ok (.if_icmp .gt 15, 3) := by decide +kernel
theorem d_mo_tile_26 : decode b_mo_tile 26 = .ok (.iload 4, 2) := by decide +kernel
theorem d_mo_tile_28 : decode b_mo_tile 28 = .ok (.sipush 32767, 3) := by decide +kernel
theorem d_mo_tile_31 : decode b_mo_tile 31 = .ok (.if_icmp .gt 7, 3) := by decide +kernel
theorem d_mo_tile_34 : decode b_mo_tile 34 = .ok (.iconst 1, 1) := by decide +kernel
theorem d_mo_tile_35 : decode b_mo_tile 35 = .ok (.goto 4, 3) := by decide +kernel
theorem d_mo_tile_38 : decode b_mo_tile 38 = .ok (.iconst 0, 1) := by decide +kernel
theorem d_mo_tile_39 : decode b_mo_tile 39 = .ok (.istore 5, 2) := by decide +kernel
theorem d_mo_tile_41 : decode b_mo_tile 41 = .ok (.aload_n 0, 1) := by decide +kernel
theorem d_mo_tile_42 : decode b_mo_tile 42 = .ok (.iload 5, 2) := by decide +kernel
theorem d_mo_tile_44 : decode b_mo_tile 44 = .ok (.ifCond .ne 7, 3) := by decide +kernel
theorem d_mo_tile_47 : decode b_mo_tile 47 = .ok (.iconst 1, 1) := by decide +kernel
theorem d_mo_tile_48 : decode b_mo_tile 48 = .ok (.goto 4, 3) := by decide +kernel
theorem d_mo_tile_51 : decode b_mo_tile 51 = .ok (.iconst 0, 1) := by decide +kernel
theorem d_mo_tile_52 : decode b_mo_tile 52 = .ok (.iconst 0, 1) := by decide +kernel
theorem d_mo_tile_53 : decode b_mo_tile 53 = .ok (.invokevirtual 57, 3) := by decide +kernel
theorem d_mo_tile_56 : decode b_mo_tile 56 = .ok (.ifCond .eq 4, 3) := by decide +kernel
theorem d_mo_tile_59 : decode b_mo_tile 59 = .ok (.return_, 1) := by decide +kernel
theorem d_mo_tile_60 : decode b_mo_tile 60 = .ok (.aload_n 0, 1) := by decide +kernel
theorem d_mo_tile_61 : decode b_mo_tile 61 = .ok (.iconst 1, 1) := by decide +kernel
theorem d_mo_tile_62 : decode b_mo_tile 62 = .ok (.putfield 61, 3) := by decide +kernel
theorem d_mo_tile_65 : decode b_mo_tile 65 = .ok (.aload_n 0, 1) := by decide +kernel
theorem d_mo_tile_66 : decode b_mo_tile 66 = .ok (.iload_n 1, 1) := by decide +kernel
theorem d_mo_tile_67 : decode b_mo_tile 67 = .ok (.putfield 65, 3) := by decide +kernel
theorem d_mo_tile_70 : decode b_mo_tile 70 = .ok (.aload_n 0, 1) := by decide +kernel
theorem d_mo_tile_71 : decode b_mo_tile 71 = .ok (.iload_n 2, 1) := by decide +kernel
theorem d_mo_tile_72 : decode b_mo_tile 72 = .ok (.putfield 68, 3) := by decide +kernel
theorem d_mo_tile_75 : decode b_mo_tile 75 = .ok (.aload_n 0, 1) := by decide +kernel
theorem d_mo_tile_76 : decode b_mo_tile 76 = .ok (.iload_n 3, 1) := by decide +kernel
theorem d_mo_tile_77 : decode b_mo_tile 77 = .ok (.putfield 71, 3) := by decide +kernel
theorem d_mo_tile_80 : decode b_mo_tile 80 = .ok (.aload_n 0, 1) := by decide +kernel
theorem d_mo_tile_81 : decode b_mo_tile 81 = .ok (.iload 4, 2) := by decide +kernel
theorem d_mo_tile_83 : decode b_mo_tile 83 = .ok (.putfield 74, 3) := by decide +kernel
theorem d_mo_tile_86 : decode b_mo_tile 86 = .ok (.aload_n 0, 1) := by decide +kernel
theorem d_mo_tile_87 : decode b_mo_tile 87 = .ok (.iconst 0, 1) := by decide +kernel
theorem d_mo_tile_88 : decode b_mo_tile 88 = .ok (.putfield 77, 3) := by decide +kernel
theorem d_mo_tile_91 : decode b_mo_tile 91 = .ok (.return_, 1) := by decide +kernel
abbrev y_mo_component : MethodName := ⟨"PacketOrderModel", "component", "(III)I"⟩
abbrev b_mo_component : ByteArray := prog_8_method_5_code
theorem d_mo_component_0 : decode b_mo_component 0 = .ok (.iload_n 1, 1) := by decide +kernel
theorem d_mo_component_1 : decode b_mo_component 1 = .ok (.iconst 1, 1) := by decide +kernel
theorem d_mo_component_2 : decode b_mo_component 2 = .ok (.if_icmp .lt 36, 3) := by decide +kernel
theorem d_mo_component_5 : decode b_mo_component 5 = .ok (.iload_n 1, 1) := by decide +kernel
theorem d_mo_component_6 : decode b_mo_component 6 = .ok (.sipush 255, 3) := by decide +kernel
theorem d_mo_component_9 : decode b_mo_component 9 = .ok (.if_icmp .gt 29, 3) := by decide +kernel
theorem d_mo_component_12 : decode b_mo_component 12 = .ok (.iload_n 2, 1) := by decide +kernel
theorem d_mo_component_13 : decode b_mo_component 13 = .ok (.iconst 1, 1) := by decide +kernel
theorem d_mo_component_14 : decode b_mo_component 14 = .ok (.if_icmp .lt 24, 3) := by decide +kernel
theorem d_mo_component_17 : decode b_mo_component 17 = .ok (.iload_n 2, 1) := by decide +kernel
theorem d_mo_component_18 : decode b_mo_component 18 = .ok (.sipush 255, 3) := by decide +kernel
theorem d_mo_component_21 : decode b_mo_component 21 = .ok (.if_icmp .gt 17, 3) := by decide +kernel
theorem d_mo_component_24 : decode b_mo_component 24 = .ok (.iload_n 3, 1) := by decide +kernel
theorem d_mo_component_25 : decode b_mo_component 25 = .ok (.ifCond .lt 13, 3) := by decide +kernel
theorem d_mo_component_28 : decode b_mo_component 28 = .ok (.iload_n 3, 1) := by decide +kernel
theorem d_mo_component_29 : decode b_mo_component 29 = .ok (.bipush 32, 2) := by decide +kernel
theorem d_mo_component_31 : decode b_mo_component 31 = .ok (.if_icmp .gt 7, 3) := by decide +kernel
theorem d_mo_component_34 : decode b_mo_component 34 = .ok (.iconst 1, 1) := by decide +kernel
theorem d_mo_component_35 : decode b_mo_component 35 = .ok (.goto 4, 3) := by decide +kernel
theorem d_mo_component_38 : decode b_mo_component 38 = .ok (.iconst 0, 1) := by decide +kernel
theorem d_mo_component_39 : decode b_mo_component 39 = .ok (.istore 4, 2) := by decide +kernel
theorem d_mo_component_41 : decode b_mo_component 41 = .ok (.aload_n 0, 1) := by decide +kernel
theorem d_mo_component_42 : decode b_mo_component 42 = .ok (.iload 4, 2) := by decide +kernel
theorem d_mo_component_44 : decode b_mo_component 44 = .ok (.ifCond .ne 7, 3) := by decide +kernel
theorem d_mo_component_47 : decode b_mo_component 47 = .ok (.iconst 1, 1) := by decide +kernel
theorem d_mo_component_48 : decode b_mo_component 48 = .ok (.goto 4, 3) := by decide +kernel
theorem d_mo_component_51 : decode b_mo_component 51 = .ok (.iconst 0, 1) := by decide +kernel
theorem d_mo_component_52 : decode b_mo_component 52 = .ok (.aload_n 0, 1) := by decide +kernel
theorem d_mo_component_53 : decode b_mo_component 53 = .ok (.getfield 80, 3) := by decide +kernel
theorem d_mo_component_56 : decode b_mo_component 56 = .ok (.bipush 16, 2) := by decide +kernel
theorem d_mo_component_58 : decode b_mo_component 58 = .ok (.if_icmp .ne 7, 3) := by decide +kernel
theorem d_mo_component_61 : decode b_mo_component 61 = .ok (.iconst 1, 1) := by decide +kernel
theorem d_mo_component_62 : decode b_mo_component 62 = .ok (.goto 4, 3) := by decide +kernel
theorem d_mo_component_65 : decode b_mo_component 65 = .ok (.iconst 0, 1) := by decide +kernel
theorem d_mo_component_66 : decode b_mo_component 66 = .ok (.invokevirtual 57, 3) := by decide +kernel
theorem d_mo_component_69 : decode b_mo_component 69 = .ok (.ifCond .eq 5, 3) := by decide +kernel
theorem d_mo_component_72 : decode b_mo_component 72 = .ok (.iconst 0, 1) := by decide +kernel
theorem d_mo_component_73 : decode b_mo_component 73 = .ok (.ireturn, 1) := by decide +kernel
theorem d_mo_component_74 : decode b_mo_component 74 = .ok (.aload_n 0, 1) := by decide +kernel
theorem d_mo_component_75 : decode b_mo_component 75 = .ok (.getfield 7, 3) := by decide +kernel
theorem d_mo_component_78 : decode b_mo_component 78 = .ok (.aload_n 0, 1) := by decide +kernel
theorem d_mo_component_79 : decode b_mo_component 79 = .ok (.getfield 80, 3) := by decide +kernel
theorem d_mo_component_82 : decode b_mo_component 82 = .ok (.iload_n 1, 1) := by decide +kernel
theorem d_mo_component_83 : decode b_mo_component 83 = .ok (.iastore, 1) := by decide +kernel
theorem d_mo_component_84 : decode b_mo_component 84 = .ok (.aload_n 0, 1) := by decide +kernel
theorem d_mo_component_85 : decode b_mo_component 85 = .ok (.getfield 13, 3) := by decide +kernel
theorem d_mo_component_88 : decode b_mo_component 88 = .ok (.aload_n 0, 1) := by decide +kernel
theorem d_mo_component_89 : decode b_mo_component 89 = .ok (.getfield 80, 3) := by decide +kernel
theorem d_mo_component_92 : decode b_mo_component 92 = .ok (.iload_n 2, 1) := by decide +kernel
theorem d_mo_component_93 : decode b_mo_component 93 = .ok (.iastore, 1) := by decide +kernel
theorem d_mo_component_94 : decode b_mo_component 94 = .ok (.aload_n 0, 1) := by decide +kernel
theorem d_mo_component_95 : decode b_mo_component 95 = .ok (.getfield 16, 3) := by decide +kernel
theorem d_mo_component_98 : decode b_mo_component 98 = .ok (.aload_n 0, 1) := by decide +kernel
theorem d_mo_component_99 : decode b_mo_component 99 = .ok (.getfield 80, 3) := by decide +kernel
theorem d_mo_component_102 : decode b_mo_component 102 = .ok (.iload_n 3, 1) := by decide +kernel
theorem d_mo_component_103 : decode b_mo_component 103 = .ok (.iastore, 1) := by decide +kernel
theorem d_mo_component_104 : decode b_mo_component 104 = .ok (.iconst 0, 1) := by decide +kernel
theorem d_mo_component_105 : decode b_mo_component 105 = .ok (.istore 5, 2) := by decide +kernel
theorem d_mo_component_107 : decode b_mo_component 107 = .ok (.iload 5, 2) := by decide +kernel
theorem d_mo_component_109 : decode b_mo_component 109 = .ok (.bipush 33, 2) := by decide +kernel
theorem d_mo_component_111 : decode b_mo_component 111 = .ok (.if_icmp .ge 43, 3) := by decide +kernel
theorem d_mo_component_114 : decode b_mo_component 114 = .ok (.aload_n 0, 1) := by decide +kernel
theorem d_mo_component_115 : decode b_mo_component 115 = .ok (.getfield 19, 3) := by decide +kernel
theorem d_mo_component_118 : decode b_mo_component 118 = .ok (.bipush 33, 2) := by decide +kernel
theorem d_mo_component_120 : decode b_mo_component 120 = .ok (.aload_n 0, 1) := by decide +kernel
theorem d_mo_component_121 : decode b_mo_component 121 = .ok (.getfield 80, 3) := by decide +kernel
theorem d_mo_component_124 : decode b_mo_component 124 = .ok (.imul, 1) := by decide +kernel
theorem d_mo_component_125 : decode b_mo_component 125 = .ok (.iload 5, 2) := by decide +kernel
theorem d_mo_component_127 : decode b_mo_component 127 = .ok (.iadd, 1) := by decide +kernel
theorem d_mo_component_128 : decode b_mo_component 128 = .ok (.bipush 15, 2) := by decide +kernel
theorem d_mo_component_130 : decode b_mo_component 130 = .ok (.iastore, 1) := by decide +kernel
theorem d_mo_component_131 : decode b_mo_component 131 = .ok (.aload_n 0, 1) := by decide +kernel
theorem d_mo_component_132 : decode b_mo_component 132 = .ok (.getfield 22, 3) := by decide +kernel
theorem d_mo_component_135 : decode b_mo_component 135 = .ok (.bipush 33, 2) := by decide +kernel
theorem d_mo_component_137 : decode b_mo_component 137 = .ok (.aload_n 0, 1) := by decide +kernel
theorem d_mo_component_138 : decode b_mo_component 138 = .ok (.getfield 80, 3) := by decide +kernel
theorem d_mo_component_141 : decode b_mo_component 141 = .ok (.imul, 1) := by decide +kernel
theorem d_mo_component_142 : decode b_mo_component 142 = .ok (.iload 5, 2) := by decide +kernel
theorem d_mo_component_144 : decode b_mo_component 144 = .ok (.iadd, 1) := by decide +kernel
theorem d_mo_component_145 : decode b_mo_component 145 = .ok (.bipush 15, 2) := by decide +kernel
theorem d_mo_component_147 : decode b_mo_component 147 = .ok (.iastore, 1) := by decide +kernel
theorem d_mo_component_148 : decode b_mo_component 148 = .ok (.iinc 5 1, 3) := by decide +kernel
theorem d_mo_component_151 : decode b_mo_component 151 = .ok (.goto (-44), 3) := by decide +kernel
theorem d_mo_component_154 : decode b_mo_component 154 = .ok (.aload_n 0, 1) := by decide +kernel
theorem d_mo_component_155 : decode b_mo_component 155 = .ok (.iconst 0, 1) := by decide +kernel
theorem d_mo_component_156 : decode b_mo_component 156 = .ok (.putfield 77, 3) := by decide +kernel
theorem d_mo_component_159 : decode b_mo_component 159 = .ok (.aload_n 0, 1) := by decide +kernel
theorem d_mo_component_160 : decode b_mo_component 160 = .ok (.dup, 1) := by decide +kernel
theorem d_mo_component_161 : decode b_mo_component 161 = .ok (.getfield 80, 3) := by decide +kernel
theorem d_mo_component_164 : decode b_mo_component 164 = .ok (.iconst 1, 1) := by decide +kernel
theorem d_mo_component_165 : decode b_mo_component 165 = .ok (.iadd, 1) := by decide +kernel
theorem d_mo_component_166 : decode b_mo_component 166 = .ok (.putfield 80, 3) := by decide +kernel
theorem d_mo_component_169 : decode b_mo_component 169 = .ok (.aload_n 0, 1) := by decide +kernel
theorem d_mo_component_170 : decode b_mo_component 170 = .ok (.getfield 80, 3) := by decide +kernel
theorem d_mo_component_173 : decode b_mo_component 173 = .ok (.iconst 1, 1) := by decide +kernel
theorem d_mo_component_174 : decode b_mo_component 174 = .ok (.isub, 1) := by decide +kernel
theorem d_mo_component_175 : decode b_mo_component 175 = .ok (.ireturn, 1) := by decide +kernel
abbrev y_mo_isLevel : MethodName := ⟨"PacketOrderModel", "isLevel", "(II)Z"⟩
abbrev b_mo_isLevel : ByteArray := prog_8_method_6_code
theorem d_mo_isLevel_0 : decode b_mo_isLevel 0 = .ok (.iload_n 1, 1) := by decide +kernel
theorem d_mo_isLevel_1 : decode b_mo_isLevel 1 = .ok (.ifCond .lt 43, 3) := by decide +kernel
theorem d_mo_isLevel_4 : decode b_mo_isLevel 4 = .ok (.iload_n 1, 1) := by decide +kernel
theorem d_mo_isLevel_5 : decode b_mo_isLevel 5 = .ok (.aload_n 0, 1) := by decide +kernel
theorem d_mo_isLevel_6 : decode b_mo_isLevel 6 = .ok (.getfield 80, 3) := by decide +kernel
theorem d_mo_isLevel_9 : decode b_mo_isLevel 9 = .ok (.if_icmp .ge 35, 3) := by decide +kernel
theorem d_mo_isLevel_12 : decode b_mo_isLevel 12 = .ok (.iload_n 2, 1) := by decide +kernel
theorem d_mo_isLevel_13 : decode b_mo_isLevel 13 = .ok (.ifCond .lt 31, 3) := by decide +kernel
theorem d_mo_isLevel_16 : decode b_mo_isLevel 16 = .ok (.iload_n 2, 1) := by decide +kernel
theorem d_mo_isLevel_17 : decode b_mo_isLevel 17 = .ok (.aload_n 0, 1) := by decide +kernel
theorem d_mo_isLevel_18 : decode b_mo_isLevel 18 = .ok (.getfield 16, 3) := by decide +kernel
theorem d_mo_isLevel_21 : decode b_mo_isLevel 21 = .ok (.iload_n 1, 1) := by decide +kernel
theorem d_mo_isLevel_22 : decode b_mo_isLevel 22 = .ok (.ifCond .lt 13, 3) := by decide +kernel
theorem d_mo_isLevel_25 : decode b_mo_isLevel 25 = .ok (.iload_n 1, 1) := by decide +kernel
theorem d_mo_isLevel_26 : decode b_mo_isLevel 26 = .ok (.bipush 16, 2) := by decide +kernel
theorem d_mo_isLevel_28 : decode b_mo_isLevel 28 = .ok (.if_icmp .ge 7, 3) := by decide +kernel
theorem d_mo_isLevel_31 : decode b_mo_isLevel 31 = .ok (.iload_n 1, 1) := by decide +kernel
theorem d_mo_isLevel_32 : decode b_mo_isLevel 32 = .ok (.goto 4, 3) := by decide +kernel
theorem d_mo_isLevel_35 : decode b_mo_isLevel 35 = .ok (.iconst 0, 1) := by decide +kernel
theorem d_mo_isLevel_36 : decode b_mo_isLevel 36 = .ok (.iaload, 1) := by decide +kernel
theorem d_mo_isLevel_37 : decode b_mo_isLevel 37 = .ok (.if_icmp .gt 7, 3) := by decide +kernel
theorem d_mo_isLevel_40 : decode b_mo_isLevel 40 = .ok (.iconst 1, 1) := by decide +kernel
theorem d_mo_isLevel_41 : decode b_mo_isLevel 41 = .ok (.goto 4, 3) := by decide +kernel
theorem d_mo_isLevel_44 : decode b_mo_isLevel 44 = .ok (.iconst 0, 1) := by decide +kernel
theorem d_mo_isLevel_45 : decode b_mo_isLevel 45 = .ok (.ireturn, 1) := by decide +kernel
abbrev y_mo_precincts : MethodName := ⟨"PacketOrderModel", "precincts", "(IIII)V"⟩
abbrev b_mo_precincts : ByteArray := prog_8_method_7_code
theorem d_mo_precincts_0 : decode b_mo_precincts 0 = .ok (.iload_n 3, 1) := by decide +kernel
theorem d_mo_precincts_1 : decode b_mo_precincts 1 = .ok (.ifCond .lt 38, 3) := by decide +kernel
theorem d_mo_precincts_4 : decode b_mo_precincts 4 = .ok (.iload_n 3, 1) := by decide +kernel
theorem d_mo_precincts_5 : decode b_mo_precincts 5 = .ok (.bipush 15, 2) := by decide +kernel
theorem d_mo_precincts_7 : decode b_mo_precincts 7 = .ok (.if_icmp .gt 32, 3) := by decide +kernel
theorem d_mo_precincts_10 : decode b_mo_precincts 10 = .ok (.iload 4, 2) := by decide +kernel
theorem d_mo_precincts_12 : decode b_mo_precincts 12 = .ok (.ifCond .lt 27, 3) := by decide +kernel
theorem d_mo_precincts_15 : decode b_mo_precincts 15 = .ok (.iload 4, 2) := by decide +kernel
theorem d_mo_precincts_17 : decode b_mo_precincts 17 = .ok (.bipush 15, 2) := by decide +kernel
theorem d_mo_precincts_19 : decode b_mo_precincts 19 = .ok (.if_icmp .gt 20, 3) := by decide +kernel
theorem d_mo_precincts_22 : decode b_mo_precincts 22 = .ok (.iload_n 2, 1) := by decide +kernel
theorem d_mo_precincts_23 : decode b_mo_precincts 23 = .ok (.ifCond .eq 12, 3) := by decide +kernel
theorem d_mo_precincts_26 : decode b_mo_precincts 26 = .ok (.iload_n 3, 1) := by decide +kernel
theorem d_mo_precincts_27 : decode b_mo_precincts 27 = .ok (.ifCond .le 12, 3) := by decide +kernel
theorem d_mo_precincts_30 : decode b_mo_precincts 30 = .ok (.iload 4, 2) := by decide +kernel
theorem d_mo_precincts_32 : decode b_mo_precincts 32 = .ok (.ifCond .le 7, 3) := by decide +kernel
theorem d_mo_precincts_35 : decode b_mo_precincts 35 = .ok (.iconst 1, 1) := by decide +kernel
theorem d_mo_precincts_36 : decode b_mo_precincts 36 = .ok (.goto 4, 3) := by decide +kernel
theorem d_mo_precincts_39 : decode b_mo_precincts 39 = .ok (.iconst 0, 1) := by decide +kernel
theorem d_mo_precincts_40 : decode b_mo_precincts 40 = .ok (.istore 5, 2) := by decide +kernel
theorem d_mo_precincts_42 : decode b_mo_precincts 42 = .ok (.aload_n 0, 1) := by decide +kernel
theorem d_mo_precincts_43 : decode b_mo_precincts 43 = .ok (.aload_n 0, 1) := by decide +kernel
theorem d_mo_precincts_44 : decode b_mo_precincts 44 = .ok (.iload_n 1, 1) := by decide +kernel
theorem d_mo_precincts_45 : decode b_mo_precincts 45 = .ok (.iload_n 2, 1) := by decide +kernel
theorem d_mo_precincts_46 : decode b_mo_precincts 46 = .ok (.invokevirtual 83, 3) := by decide +kernel
theorem d_mo_precincts_49 : decode b_mo_precincts 49 = .ok (.ifCond .ne 7, 3) := by decide +kernel
theorem d_mo_precincts_52 : decode b_mo_precincts 52 = .ok (.iconst 1, 1) := by decide +kernel
theorem d_mo_precincts_53 : decode b_mo_precincts 53 = .ok (.goto 4, 3) := by decide +kernel
theorem d_mo_precincts_56 : decode b_mo_precincts 56 = .ok (.iconst 0, 1) := by decide +kernel
theorem d_mo_precincts_57 : decode b_mo_precincts 57 = .ok (.iload 5, 2) := by decide +kernel
theorem d_mo_precincts_59 : decode b_mo_precincts 59 = .ok (.ifCond .ne 7, 3) := by decide +kernel
theorem d_mo_precincts_62 : decode b_mo_precincts 62 = .ok (.iconst 1, 1) := by decide +kernel
theorem d_mo_precincts_63 : decode b_mo_precincts 63 = .ok (.goto 4, 3) := by decide +kernel
theorem d_mo_precincts_66 : decode b_mo_precincts 66 = .ok (.iconst 0, 1) := by decide +kernel
theorem d_mo_precincts_67 : decode b_mo_precincts 67 = .ok (.invokevirtual 57, 3) := by decide +kernel
theorem d_mo_precincts_70 : decode b_mo_precincts 70 = .ok (.ifCond .eq 4, 3) := by decide +kernel
theorem d_mo_precincts_73 : decode b_mo_precincts 73 = .ok (.return_, 1) := by decide +kernel
theorem d_mo_precincts_74 : decode b_mo_precincts 74 = .ok (.aload_n 0, 1) := by decide +kernel
theorem d_mo_precincts_75 : decode b_mo_precincts 75 = .ok (.getfield 19, 3) := by decide +kernel
theorem d_mo_precincts_78 : decode b_mo_precincts 78 = .ok (.bipush 33, 2) := by decide +kernel
theorem d_mo_precincts_80 : decode b_mo_precincts 80 = .ok (.iload_n 1, 1) := by decide +kernel
theorem d_mo_precincts_81 : decode b_mo_precincts 81 = .ok (.imul, 1) := by decide +kernel
theorem d_mo_precincts_82 : decode b_mo_precincts 82 = .ok (.iload_n 2, 1) := by decide +kernel
theorem d_mo_precincts_83 : decode b_mo_precincts 83 = .ok (.iadd, 1) := by decide +kernel
theorem d_mo_precincts_84 : decode b_mo_precincts 84 = .ok (.iload_n 3, 1) := by decide +kernel
theorem d_mo_precincts_85 : decode b_mo_precincts 85 = .ok (.iastore, 1) := by decide +kernel
theorem d_mo_precincts_86 : decode b_mo_precincts 86 = .ok (.aload_n 0, 1) := by decide +kernel
theorem d_mo_precincts_87 : decode b_mo_precincts 87 = .ok (.getfield 22, 3) := by decide +kernel
theorem d_mo_precincts_90 : decode b_mo_precincts 90 = .ok (.bipush 33, 2) := by decide +kernel
theorem d_mo_precincts_92 : decode b_mo_precincts 92 = .ok (.iload_n 1, 1) := by decide +kernel
theorem d_mo_precincts_93 : decode b_mo_precincts 93 = .ok (.imul, 1) := by decide +kernel
theorem d_mo_precincts_94 : decode b_mo_precincts 94 = .ok (.iload_n 2, 1) := by decide +kernel
theorem d_mo_precincts_95 : decode b_mo_precincts 95 = .ok (.iadd, 1) := by decide +kernel
theorem d_mo_precincts_96 : decode b_mo_precincts 96 = .ok (.iload 4, 2) := by decide +kernel
theorem d_mo_precincts_98 : decode b_mo_precincts 98 = .ok (.iastore, 1) := by decide +kernel
theorem d_mo_precincts_99 : decode b_mo_precincts 99 = .ok (.aload_n 0, 1) := by decide +kernel
theorem d_mo_precincts_100 : decode b_mo_precincts 100 = .ok (.iconst 0, 1) := by decide +kernel
theorem d_mo_precincts_101 : decode b_mo_precincts 101 = .ok (.putfield 77, 3) := by decide +kernel
theorem d_mo_precincts_104 : decode b_mo_precincts 104 = .ok (.return_, 1) := by decide +kernel
abbrev y_mo_layers : MethodName := ⟨"PacketOrderModel", "layers", "(II)V"⟩
abbrev b_mo_layers : ByteArray := prog_8_method_8_code
theorem d_mo_layers_0 : decode b_mo_layers 0 = .ok (.aload_n 0, 1) := by decide +kernel
theorem d_mo_layers_1 : decode b_mo_layers 1 = .ok (.iload_n 1, 1) := by decide +kernel
theorem d_mo_layers_2 : decode b_mo_layers 2 = .ok (.iconst 1, 1) := by decide +kernel
theorem d_mo_layers_3 : decode b_mo_layers 3 = .ok (.if_icmp .lt 19, 3) := by decide +kernel
theorem d_mo_layers_6 : decode b_mo_layers 6 = .ok (.iload_n 1, 1) := by decide +kernel
theorem d_mo_layers_7 : decode b_mo_layers 7 = .ok (.sipush 255, 3) := by decide +kernel
theorem d_mo_layers_10 : decode b_mo_layers 10 = .ok (.if_icmp .gt 12, 3) := by decide +kernel
theorem d_mo_layers_13 : decode b_mo_layers 13 = .ok (.iload_n 2, 1) := by decide +kernel
theorem d_mo_layers_14 : decode b_mo_layers 14 = .ok (.ifCond .lt 8, 3) := by decide +kernel
theorem d_mo_layers_17 : decode b_mo_layers 17 = .ok (.iload_n 2, 1) := by decide +kernel
theorem d_mo_layers_18 : decode b_mo_layers 18 = .ok (.iconst 4, 1) := by decide +kernel
theorem d_mo_layers_19 : decode b_mo_layers 19 = .ok (.if_icmp .le 7, 3) := by decide +kernel
theorem d_mo_layers_22 : decode b_mo_layers 22 = .ok (.iconst 1, 1) := by decide +kernel
theorem d_mo_layers_23 : decode b_mo_layers 23 = .ok (.goto 4, 3) := by decide +kernel
theorem d_mo_layers_26 : decode b_mo_layers 26 = .ok (.iconst 0, 1) := by decide +kernel
theorem d_mo_layers_27 : decode b_mo_layers 27 = .ok (.iconst 0, 1) := by decide +kernel
theorem d_mo_layers_28 : decode b_mo_layers 28 = .ok (.invokevirtual 57, 3) := by decide +kernel
theorem d_mo_layers_31 : decode b_mo_layers 31 = .ok (.ifCond .eq 4, 3) := by decide +kernel
theorem d_mo_layers_34 : decode b_mo_layers 34 = .ok (.return_, 1) := by decide +kernel
theorem d_mo_layers_35 : decode b_mo_layers 35 = .ok (.aload_n 0, 1) := by decide +kernel
theorem d_mo_layers_36 : decode b_mo_layers 36 = .ok (.iload_n 1, 1) := by decide +kernel
theorem d_mo_layers_37 : decode b_mo_layers 37 = .ok (.putfield 25, 3) := by decide +kernel
theorem d_mo_layers_40 : decode b_mo_layers 40 = .ok (.aload_n 0, 1) := by decide +kernel
theorem d_mo_layers_41 : decode b_mo_layers 41 = .ok (.iload_n 2, 1) := by decide +kernel
theorem d_mo_layers_42 : decode b_mo_layers 42 = .ok (.putfield 87, 3) := by decide +kernel
theorem d_mo_layers_45 : decode b_mo_layers 45 = .ok (.aload_n 0, 1) := by decide +kernel
theorem d_mo_layers_46 : decode b_mo_layers 46 = .ok (.iconst 0, 1) := by decide +kernel
theorem d_mo_layers_47 : decode b_mo_layers 47 = .ok (.putfield 77, 3) := by decide +kernel
theorem d_mo_layers_50 : decode b_mo_layers 50 = .ok (.return_, 1) := by decide +kernel
abbrev y_mo_change : MethodName := ⟨"PacketOrderModel", "change", "(IIIIII)I"⟩
abbrev b_mo_change : ByteArray := prog_8_method_9_code
theorem d_mo_change_0 : decode b_mo_change 0 = .ok (.iload_n 1, 1) := by decide +kernel
theorem d_mo_change_1 : decode b_mo_change 1 = .ok (.ifCond .lt 72, 3) := by decide +kernel
theorem d_mo_change_4 : decode b_mo_change 4 = .ok (.iload_n 1, 1) := by decide +kernel
theorem d_mo_change_5 : decode b_mo_change 5 = .ok (.bipush 32, 2) := by decide +kernel
theorem d_mo_change_7 : decode b_mo_change 7 = .ok (.if_icmp .gt 66, 3) := by decide +kernel
theorem d_mo_change_10 : decode b_mo_change 10 = .ok (.iload_n 2, 1) := by decide +kernel
theorem d_mo_change_11 : decode b_mo_change 11 = .ok (.iload_n 1, 1) := by decide +kernel
theorem d_mo_change_12 : decode b_mo_change 12 = .ok (.if_icmp .le 61, 3) := by decide +kernel
theorem d_mo_change_15 : decode b_mo_change 15 = .ok (.iload_n 2, 1) := by decide +kernel
theorem d_mo_change_16 : decode b_mo_change 16 = .ok (.bipush 33, 2) := by decide +kernel
theorem d_mo_change_18 : decode b_mo_change 18 = .ok (.if_icmp .gt 55, 3) := by decide +kernel
theorem d_mo_change_21 : decode b_mo_change 21 = .ok (.iload_n 3, 1) := by decide +kernel
theorem d_mo_change_22 : decode b_mo_change 22 = .ok (.ifCond .lt 51, 3) := by decide +kernel
theorem d_mo_change_25 : decode b_mo_change 25 = .ok (.iload_n 3, 1) := by decide +kernel
theorem d_mo_change_26 : decode b_mo_change 26 = .ok (.bipush 15, 2) := by decide +kernel
theorem d_mo_change_28 : decode b_mo_change 28 = .ok (.if_icmp .gt 45, 3) := by decide +kernel
theorem d_mo_change_31 : decode b_mo_change 31 = .ok (.iload 4, 2) := by decide +kernel
theorem d_mo_change_33 : decode b_mo_change 33 = .ok (.iload_n 3, 1) := by decide +kernel
theorem d_mo_change_34 : decode b_mo_change 34 = .ok (.if_icmp .le 39, 3) := by decide +kernel
theorem d_mo_change_37 : decode b_mo_change 37 = .ok (.iload 4, 2) := by decide +kernel
theorem d_mo_change_39 : decode b_mo_change 39 = .ok (.bipush 16, 2) := by decide +kernel
theorem d_mo_change_41 : decode b_mo_change 41 = .ok (.if_icmp .gt 32, 3) := by decide +kernel
theorem d_mo_change_44 : decode b_mo_change 44 = .ok (.iload 5, 2) := by decide +kernel
theorem d_mo_change_46 : decode b_mo_change 46 = .ok (.iconst 1, 1) := by decide +kernel
theorem d_mo_change_47 : decode b_mo_change 47 = .ok (.if_icmp .lt 26, 3) := by decide +kernel
theorem d_mo_change_50 : decode b_mo_change 50 = .ok (.iload 5, 2) := by decide +kernel
theorem d_mo_change_52 : decode b_mo_change 52 = .ok (.sipush 255, 3) := by decide +kernel
theorem d_mo_change_55 : decode b_mo_change 55 = .ok (.if_icmp .gt 18, 3) := by decide +kernel
theorem d_mo_change_58 : decode b_mo_change 58 = .ok (.iload 6, 2) := by decide +kernel
theorem d_mo_change_60 : decode b_mo_change 60 = .ok (.ifCond .lt 13, 3) := by decide +kernel
theorem d_mo_change_63 : decode b_mo_change 63 = .ok (.iload 6, 2) := by decide +kernel
theorem d_mo_change_65 : decode b_mo_change 65 = .ok (.iconst 4, 1) := by decide +kernel
theorem d_mo_change_66 : decode b_mo_change 66 = .ok (.if_icmp .gt 7, 3) := by decide +kernel
theorem d_mo_change_69 : decode b_mo_change 69 = .ok (.iconst 1, 1) := by decide +kernel
theorem d_mo_change_70 : decode b_mo_change 70 = .ok (.goto 4, 3) := by decide +kernel
theorem d_mo_change_73 : decode b_mo_change 73 = .ok (.iconst 0, 1) := by decide +kernel
theorem d_mo_change_74 : decode b_mo_change 74 = .ok (.istore 7, 2) := by decide +kernel
theorem d_mo_change_76 : decode b_mo_change 76 = .ok (.aload_n 0, 1) := by decide +kernel
theorem d_mo_change_77 : decode b_mo_change 77 = .ok (.iload 7, 2) := by decide +kernel
theorem d_mo_change_79 : decode b_mo_change 79 = .ok (.ifCond .ne 7, 3) := by decide +kernel
theorem d_mo_change_82 : decode b_mo_change 82 = .ok (.iconst 1, 1) := by decide +kernel
theorem d_mo_change_83 : decode b_mo_change 83 = .ok (.goto 4, 3) := by decide +kernel
theorem d_mo_change_86 : decode b_mo_change 86 = .ok (.iconst 0, 1) := by decide +kernel
theorem d_mo_change_87 : decode b_mo_change 87 = .ok (.aload_n 0, 1) := by decide +kernel
theorem d_mo_change_88 : decode b_mo_change 88 = .ok (.getfield 90, 3) := by decide +kernel
theorem d_mo_change_91 : decode b_mo_change 91 = .ok (.bipush 32, 2) := by decide +kernel
theorem d_mo_change_93 : decode b_mo_change 93 = .ok (.if_icmp .ne 7, 3) := by decide +kernel
theorem d_mo_change_96 : decode b_mo_change 96 = .ok (.iconst 1, 1) := by decide +kernel
theorem d_mo_change_97 : decode b_mo_change 97 = .ok (.goto 4, 3) := by decide +kernel
theorem d_mo_change_100 : decode b_mo_change 100 = .ok (.iconst 0, 1) := by decide +kernel
theorem d_mo_change_101 : decode b_mo_change 101 = .ok (.invokevirtual 57, 3) := by decide +kernel
theorem d_mo_change_104 : decode b_mo_change 104 = .ok (.ifCond .eq 5, 3) := by decide +kernel
theorem d_mo_change_107 : decode b_mo_change 107 = .ok (.iconst 0, 1) := by decide +kernel
theorem d_mo_change_108 : decode b_mo_change 108 = .ok (.ireturn, 1) := by decide +kernel
theorem d_mo_change_109 : decode b_mo_change 109 = .ok (.aload_n 0, 1) := by decide +kernel
theorem d_mo_change_110 : decode b_mo_change 110 = .ok (.getfield 29, 3) := by decide +kernel
theorem d_mo_change_113 : decode b_mo_change 113 = .ok (.bipush 6, 2) := by decide +kernel
theorem d_mo_change_115 : decode b_mo_change 115 = .ok (.aload_n 0, 1) := by decide +kernel
theorem d_mo_change_116 : decode b_mo_change 116 = .ok (.getfield 90, 3) := by decide +kernel
theorem d_mo_change_119 : decode b_mo_change 119 = .ok (.imul, 1) := by decide +kernel
theorem d_mo_change_120 : decode b_mo_change 120 = .ok (.iload_n 1, 1) := by decide +kernel
theorem d_mo_change_121 : decode b_mo_change 121 = .ok (.iastore, 1) := by decide +kernel
theorem d_mo_change_122 : decode b_mo_change 122 = .ok (.aload_n 0, 1) := by decide +kernel
theorem d_mo_change_123 : decode b_mo_change 123 = .ok (.getfield 29, 3) := by decide +kernel
theorem d_mo_change_126 : decode b_mo_change 126 = .ok (.bipush 6, 2) := by decide +kernel
theorem d_mo_change_128 : decode b_mo_change 128 = .ok (.aload_n 0, 1) := by decide +kernel
theorem d_mo_change_129 : decode b_mo_change 129 = .ok (.getfield 90, 3) := by decide +kernel
theorem d_mo_change_132 : decode b_mo_change 132 = .ok (.imul, 1) := by decide +kernel
theorem d_mo_change_133 : decode b_mo_change 133 = .ok (.iconst 1, 1) := by decide +kernel
theorem d_mo_change_134 : decode b_mo_change 134 = .ok (.iadd, 1) := by decide +kernel
theorem d_mo_change_135 : decode b_mo_change 135 = .ok (.iload_n 2, 1) := by decide +kernel
theorem d_mo_change_136 : decode b_mo_change 136 = .ok (.iastore, 1) := by decide +kernel
theorem d_mo_change_137 : decode b_mo_change 137 = .ok (.aload_n 0, 1) := by decide +kernel
theorem d_mo_change_138 : decode b_mo_change 138 = .ok (.getfield 29, 3) := by decide +kernel
theorem d_mo_change_141 : decode b_mo_change 141 = .ok (.bipush 6, 2) := by decide +kernel
theorem d_mo_change_143 : decode b_mo_change 143 = .ok (.aload_n 0, 1) := by decide +kernel
theorem d_mo_change_144 : decode b_mo_change 144 = .ok (.getfield 90, 3) := by decide +kernel
theorem d_mo_change_147 : decode b_mo_change 147 = .ok (.imul, 1) := by decide +kernel
theorem d_mo_change_148 : decode b_mo_change 148 = .ok (.iconst 2, 1) := by decide +kernel
theorem d_mo_change_149 : decode b_mo_change 149 = .ok (.iadd, 1) := by decide +kernel
theorem d_mo_change_150 : decode b_mo_change 150 = .ok (.iload_n 3, 1) := by decide +kernel
theorem d_mo_change_151 : decode b_mo_change 151 = .ok (.iastore, 1) := by decide +kernel
theorem d_mo_change_152 : decode b_mo_change 152 = .ok (.aload_n 0, 1) := by decide +kernel
theorem d_mo_change_153 : decode b_mo_change 153 = .ok (.getfield 29, 3) := by decide +kernel
theorem d_mo_change_156 : decode b_mo_change 156 = .ok (.bipush 6, 2) := by decide +kernel
theorem d_mo_change_158 : decode b_mo_change 158 = .ok (.aload_n 0, 1) := by decide +kernel
theorem d_mo_change_159 : decode b_mo_change 159 = .ok (.getfield 90, 3) := by decide +kernel
theorem d_mo_change_162 : decode b_mo_change 162 = .ok (.imul, 1) := by decide +kernel
theorem d_mo_change_163 : decode b_mo_change 163 = .ok (.iconst 3, 1) := by decide +kernel
theorem d_mo_change_164 : decode b_mo_change 164 = .ok (.iadd, 1) := by decide +kernel
theorem d_mo_change_165 : decode b_mo_change 165 = .ok (.iload 4, 2) := by decide +kernel
theorem d_mo_change_167 : decode b_mo_change 167 = .ok (.iastore, 1) := by decide +kernel
theorem d_mo_change_168 : decode b_mo_change 168 = .ok (.aload_n 0, 1) := by decide +kernel
theorem d_mo_change_169 : decode b_mo_change 169 = .ok (.getfield 29, 3) := by decide +kernel
theorem d_mo_change_172 : decode b_mo_change 172 = .ok (.bipush 6, 2) := by decide +kernel
theorem d_mo_change_174 : decode b_mo_change 174 = .ok (.aload_n 0, 1) := by decide +kernel
theorem d_mo_change_175 : decode b_mo_change 175 = .ok (.getfield 90, 3) := by decide +kernel
theorem d_mo_change_178 : decode b_mo_change 178 = .ok (.imul, 1) := by decide +kernel
theorem d_mo_change_179 : decode b_mo_change 179 = .ok (.iconst 4, 1) := by decide +kernel
theorem d_mo_change_180 : decode b_mo_change 180 = .ok (.iadd, 1) := by decide +kernel
theorem d_mo_change_181 : decode b_mo_change 181 = .ok (.iload 5, 2) := by decide +kernel
theorem d_mo_change_183 : decode b_mo_change 183 = .ok (.iastore, 1) := by decide +kernel
theorem d_mo_change_184 : decode b_mo_change 184 = .ok (.aload_n 0, 1) := by decide +kernel
theorem d_mo_change_185 : decode b_mo_change 185 = .ok (.getfield 29, 3) := by decide +kernel
theorem d_mo_change_188 : decode b_mo_change 188 = .ok (.bipush 6, 2) := by decide +kernel
theorem d_mo_change_190 : decode b_mo_change 190 = .ok (.aload_n 0, 1) := by decide +kernel
theorem d_mo_change_191 : decode b_mo_change 191 = .ok (.getfield 90, 3) := by decide +kernel
theorem d_mo_change_194 : decode b_mo_change 194 = .ok (.imul, 1) := by decide +kernel
theorem d_mo_change_195 : decode b_mo_change 195 = .ok (.iconst 5, 1) := by decide +kernel
theorem d_mo_change_196 : decode b_mo_change 196 = .ok (.iadd, 1) := by decide +kernel
theorem d_mo_change_197 : decode b_mo_change 197 = .ok (.iload 6, 2) := by decide +kernel
theorem d_mo_change_199 : decode b_mo_change 199 = .ok (.iastore, 1) := by decide +kernel
theorem d_mo_change_200 : decode b_mo_change 200 = .ok (.aload_n 0, 1) := by decide +kernel
theorem d_mo_change_201 : decode b_mo_change 201 = .ok (.iconst 0, 1) := by decide +kernel
theorem d_mo_change_202 : decode b_mo_change 202 = .ok (.putfield 77, 3) := by decide +kernel
theorem d_mo_change_205 : decode b_mo_change 205 = .ok (.aload_n 0, 1) := by decide +kernel
theorem d_mo_change_206 : decode b_mo_change 206 = .ok (.dup, 1) := by decide +kernel
theorem d_mo_change_207 : decode b_mo_change 207 = .ok (.getfield 90, 3) := by decide +kernel
theorem d_mo_change_210 : decode b_mo_change 210 = .ok (.iconst 1, 1) := by decide +kernel
theorem d_mo_change_211 : decode b_mo_change 211 = .ok (.iadd, 1) := by decide +kernel
theorem d_mo_change_212 : decode b_mo_change 212 = .ok (.putfield 90, 3) := by decide +kernel
theorem d_mo_change_215 : decode b_mo_change 215 = .ok (.aload_n 0, 1) := by decide +kernel
theorem d_mo_change_216 : decode b_mo_change 216 = .ok (.getfield 90, 3) := by decide +kernel
theorem d_mo_change_219 : decode b_mo_change 219 = .ok (.ireturn, 1) := by decide +kernel
abbrev y_mo_clear : MethodName := ⟨"PacketOrderModel", "clear", "()V"⟩
abbrev b_mo_clear : ByteArray := prog_8_method_10_code
theorem d_mo_clear_0 : decode b_mo_clear 0 = .ok (.aload_n 0, 1) := by decide +kernel
theorem d_mo_clear_1 : decode b_mo_clear 1 = .ok (.iconst 0, 1) := by decide +kernel
theorem d_mo_clear_2 : decode b_mo_clear 2 = .ok (.putfield 54, 3) := by decide +kernel
theorem d_mo_clear_5 : decode b_mo_clear 5 = .ok (.aload_n 0, 1) := by decide +kernel
theorem d_mo_clear_6 : decode b_mo_clear 6 = .ok (.iconst 0, 1) := by decide +kernel
theorem d_mo_clear_7 : decode b_mo_clear 7 = .ok (.putfield 90, 3) := by decide +kernel
theorem d_mo_clear_10 : decode b_mo_clear 10 = .ok (.aload_n 0, 1) := by decide +kernel
theorem d_mo_clear_11 : decode b_mo_clear 11 = .ok (.iconst 0, 1) := by decide +kernel
theorem d_mo_clear_12 : decode b_mo_clear 12 = .ok (.putfield 77, 3) := by decide +kernel
theorem d_mo_clear_15 : decode b_mo_clear 15 = .ok (.return_, 1) := by decide +kernel
abbrev y_mo_up : MethodName := ⟨"PacketOrderModel", "up", "(II)I"⟩
abbrev b_mo_up : ByteArray := prog_8_method_11_code
theorem d_mo_up_0 : decode b_mo_up 0 = .ok (.iload_n 0, 1) := by decide +kernel
theorem d_mo_up_1 : decode b_mo_up 1 = .ok (.iload_n 1, 1) := by decide +kernel
theorem d_mo_up_2 : decode b_mo_up 2 = .ok (.iadd, 1) := by decide +kernel
theorem d_mo_up_3 : decode b_mo_up 3 = .ok (.iconst 1, 1) := by decide +kernel
theorem d_mo_up_4 : decode b_mo_up 4 = .ok (.isub, 1) := by decide +kernel
theorem d_mo_up_5 : decode b_mo_up 5 = .ok (.iload_n 1, 1) := by decide +kernel
theorem d_mo_up_6 : decode b_mo_up 6 = .ok (.idiv, 1) := by decide +kernel
theorem d_mo_up_7 : decode b_mo_up 7 = .ok (.ireturn, 1) := by decide +kernel
abbrev y_mo_findLevel : MethodName := ⟨"PacketOrderModel", "findLevel", "(II)V"⟩
abbrev b_mo_findLevel : ByteArray := prog_8_method_12_code
theorem d_mo_findLevel_0 : decode b_mo_findLevel 0 = .ok (.aload_n 0, 1) := by decide +kernel
theorem d_mo_findLevel_1 : decode b_mo_findLevel 1 = .ok (.aload_n 0, 1) := by decide +kernel
theorem d_mo_findLevel_2 : decode b_mo_findLevel 2 = .ok (.getfield 65, 3) := by decide +kernel
theorem d_mo_findLevel_5 : decode b_mo_findLevel 5 = .ok (.aload_n 0, 1) := by decide +kernel
theorem d_mo_findLevel_6 : decode b_mo_findLevel 6 = .ok (.getfield 7, 3) := by decide +kernel
theorem d_mo_findLevel_9 : decode b_mo_findLevel 9 = .ok (.iload_n 1, 1) := by decide +kernel
theorem d_mo_findLevel_10 : decode b_mo_findLevel 10 = .ok (.iaload, 1) := by decide +kernel
theorem d_mo_findLevel_11 : decode b_mo_findLevel 11 = .ok (.invokestatic 93, 3) := by decide +kernel
theorem d_mo_findLevel_14 : decode b_mo_findLevel 14 = .ok (.putfield 97, 3) := by decide +kernel
theorem d_mo_findLevel_17 : decode b_mo_findLevel 17 = .ok (.aload_n 0, 1) := by decide +kernel
theorem d_mo_findLevel_18 : decode b_mo_findLevel 18 = .ok (.aload_n 0, 1) := by decide +kernel
theorem d_mo_findLevel_19 : decode b_mo_findLevel 19 = .ok (.getfield 68, 3) := by decide +kernel
theorem d_mo_findLevel_22 : decode b_mo_findLevel 22 = .ok (.aload_n 0, 1) := by decide +kernel
theorem d_mo_findLevel_23 : decode b_mo_findLevel 23 = .ok (.getfield 13, 3) := by decide +kernel
theorem d_mo_findLevel_26 : decode b_mo_findLevel 26 = .ok (.iload_n 1, 1) := by decide +kernel
theorem d_mo_findLevel_27 : decode b_mo_findLevel 27 = .ok (.iaload, 1) := by decide +kernel
theorem d_mo_findLevel_28 : decode b_mo_findLevel 28 = .ok (.invokestatic 93, 3) := by decide +kernel
theorem d_mo_findLevel_31 : decode b_mo_findLevel 31 = .ok (.putfield 100, 3) := by decide +kernel
theorem d_mo_findLevel_34 : decode b_mo_findLevel 34 = .ok (.aload_n 0, 1) := by decide +kernel
theorem d_mo_findLevel_35 : decode b_mo_findLevel 35 = .ok (.aload_n 0, 1) := by decide +kernel
theorem d_mo_findLevel_36 : decode b_mo_findLevel 36 = .ok (.getfield 71, 3) := by decide +kernel
theorem d_mo_findLevel_39 : decode b_mo_findLevel 39 = .ok (.aload_n 0, 1) := by decide +kernel
theorem d_mo_findLevel_40 : decode b_mo_findLevel 40 = .ok (.getfield 7, 3) := by decide +kernel
theorem d_mo_findLevel_43 : decode b_mo_findLevel 43 = .ok (.iload_n 1, 1) := by decide +kernel
theorem d_mo_findLevel_44 : decode b_mo_findLevel 44 = .ok (.iaload, 1) := by decide +kernel
theorem d_mo_findLevel_45 : decode b_mo_findLevel 45 = .ok (.invokestatic 93, 3) := by decide +kernel
theorem d_mo_findLevel_48 : decode b_mo_findLevel 48 = .ok (.putfield 103, 3) := by decide +kernel
theorem d_mo_findLevel_51 : decode b_mo_findLevel 51 = .ok (.aload_n 0, 1) := by decide +kernel
theorem d_mo_findLevel_52 : decode b_mo_findLevel 52 = .ok (.aload_n 0, 1) := by decide +kernel
theorem d_mo_findLevel_53 : decode b_mo_findLevel 53 = .ok (.getfield 74, 3) := by decide +kernel
theorem d_mo_findLevel_56 : decode b_mo_findLevel 56 = .ok (.aload_n 0, 1) := by decide +kernel
theorem d_mo_findLevel_57 : decode b_mo_findLevel 57 = .ok (.getfield 13, 3) := by decide +kernel
theorem d_mo_findLevel_60 : decode b_mo_findLevel 60 = .ok (.iload_n 1, 1) := by decide +kernel
theorem d_mo_findLevel_61 : decode b_mo_findLevel 61 = .ok (.iaload, 1) := by decide +kernel
theorem d_mo_findLevel_62 : decode b_mo_findLevel 62 = .ok (.invokestatic 93, 3) := by decide +kernel
theorem d_mo_findLevel_65 : decode b_mo_findLevel 65 = .ok (.putfield 106, 3) := by decide +kernel
theorem d_mo_findLevel_68 : decode b_mo_findLevel 68 = .ok (.iload_n 2, 1) := by decide +kernel
theorem d_mo_findLevel_69 : decode b_mo_findLevel 69 = .ok (.istore_n 3, 1) := by decide +kernel
theorem d_mo_findLevel_70 : decode b_mo_findLevel 70 = .ok (.iload_n 3, 1) := by decide +kernel
theorem d_mo_findLevel_71 : decode b_mo_findLevel 71 = .ok (.aload_n 0, 1) := by decide +kernel
theorem d_mo_findLevel_72 : decode b_mo_findLevel 72 = .ok (.getfield 16, 3) := by decide +kernel
theorem d_mo_findLevel_75 : decode b_mo_findLevel 75 = .ok (.iload_n 1, 1) := by decide +kernel
theorem d_mo_findLevel_76 : decode b_mo_findLevel 76 = .ok (.iaload, 1) := by decide +kernel
theorem d_mo_findLevel_77 : decode b_mo_findLevel 77 = .ok (.if_icmp .ge 57, 3) := by decide +kernel
theorem d_mo_findLevel_80 : decode b_mo_findLevel 80 = .ok (.aload_n 0, 1) := by decide +kernel
theorem d_mo_findLevel_81 : decode b_mo_findLevel 81 = .ok (.aload_n 0, 1) := by decide +kernel
theorem d_mo_findLevel_82 : decode b_mo_findLevel 82 = .ok (.getfield 97, 3) := by decide +kernel
theorem d_mo_findLevel_85 : decode b_mo_findLevel 85 = .ok (.iconst 1, 1) := by decide +kernel
theorem d_mo_findLevel_86 : decode b_mo_findLevel 86 = .ok (.iadd, 1) := by decide +kernel
theorem d_mo_findLevel_87 : decode b_mo_findLevel 87 = .ok (.iconst 1, 1) := by decide +kernel
theorem d_mo_findLevel_88 : decode b_mo_findLevel 88 = .ok (.ishr, 1) := by decide +kernel
theorem d_mo_findLevel_89 : decode b_mo_findLevel 89 = .ok (.putfield 97, 3) := by decide +kernel
theorem d_mo_findLevel_92 : decode b_mo_findLevel 92 = .ok (.aload_n 0, 1) := by decide +kernel
theorem d_mo_findLevel_93 : decode b_mo_findLevel 93 = .ok (.aload_n 0, 1) := by decide +kernel
theorem d_mo_findLevel_94 : decode b_mo_findLevel 94 = .ok (.getfield 100, 3) := by decide +kernel
theorem d_mo_findLevel_97 : decode b_mo_findLevel 97 = .ok (.iconst 1, 1) := by decide +kernel
theorem d_mo_findLevel_98 : decode b_mo_findLevel 98 = .ok (.iadd, 1) := by decide +kernel
theorem d_mo_findLevel_99 : decode b_mo_findLevel 99 = .ok (.iconst 1, 1) := by decide +kernel
theorem d_mo_findLevel_100 : decode b_mo_findLevel 100 = .ok (.ishr, 1) := by decide +kernel
theorem d_mo_findLevel_101 : decode b_mo_findLevel 101 = .ok (.putfield 100, 3) := by decide +kernel
theorem d_mo_findLevel_104 : decode b_mo_findLevel 104 = .ok (.aload_n 0, 1) := by decide +kernel
theorem d_mo_findLevel_105 : decode b_mo_findLevel 105 = .ok (.aload_n 0, 1) := by decide +kernel
theorem d_mo_findLevel_106 : decode b_mo_findLevel 106 = .ok (.getfield 103, 3) := by decide +kernel
theorem d_mo_findLevel_109 : decode b_mo_findLevel 109 = .ok (.iconst 1, 1) := by decide +kernel
theorem d_mo_findLevel_110 : decode b_mo_findLevel 110 = .ok (.iadd, 1) := by decide +kernel
theorem d_mo_findLevel_111 : decode b_mo_findLevel 111 = .ok (.iconst 1, 1) := by decide +kernel
theorem d_mo_findLevel_112 : decode b_mo_findLevel 112 = .ok (.ishr, 1) := by decide +kernel
theorem d_mo_findLevel_113 : decode b_mo_findLevel 113 = .ok (.putfield 103, 3) := by decide +kernel
theorem d_mo_findLevel_116 : decode b_mo_findLevel 116 = .ok (.aload_n 0, 1) := by decide +kernel
theorem d_mo_findLevel_117 : decode b_mo_findLevel 117 = .ok (.aload_n 0, 1) := by decide +kernel
theorem d_mo_findLevel_118 : decode b_mo_findLevel 118 = .ok (.getfield 106, 3) := by decide +kernel
theorem d_mo_findLevel_121 : decode b_mo_findLevel 121 = .ok (.iconst 1, 1) := by decide +kernel
theorem d_mo_findLevel_122 : decode b_mo_findLevel 122 = .ok (.iadd, 1) := by decide +kernel
theorem d_mo_findLevel_123 : decode b_mo_findLevel 123 = .ok (.iconst 1, 1) := by decide +kernel
theorem d_mo_findLevel_124 : decode b_mo_findLevel 124 = .ok (.ishr, 1) := by decide +kernel
theorem d_mo_findLevel_125 : decode b_mo_findLevel 125 = .ok (.putfield 106, 3) := by decide +kernel
theorem d_mo_findLevel_128 : decode b_mo_findLevel 128 = .ok (.iinc 3 1, 3) := by decide +kernel
theorem d_mo_findLevel_131 : decode b_mo_findLevel 131 = .ok (.goto (-61), 3) := by decide +kernel
theorem d_mo_findLevel_134 : decode b_mo_findLevel 134 = .ok (.return_, 1) := by decide +kernel
abbrev y_mo_columns : MethodName := ⟨"PacketOrderModel", "columns", "(II)I"⟩
abbrev b_mo_columns : ByteArray := prog_8_method_13_code
theorem d_mo_columns_0 : decode b_mo_columns 0 = .ok (.aload_n 0, 1) := by decide +kernel
theorem d_mo_columns_1 : decode b_mo_columns 1 = .ok (.getfield 97, 3) := by decide +kernel
theorem d_mo_columns_4 : decode b_mo_columns 4 = .ok (.aload_n 0, 1) := by decide +kernel
theorem d_mo_columns_5 : decode b_mo_columns 5 = .ok (.getfield 103, 3) := by decide +kernel
theorem d_mo_columns_8 : decode b_mo_columns 8 = .ok (.if_icmp .ge 14, 3) := by decide +kernel
theorem d_mo_columns_11 : decode b_mo_columns 11 = .ok (.aload_n 0, 1) := by decide +kernel
theorem d_mo_columns_12 : decode b_mo_columns 12 = .ok (.getfield 100, 3) := by decide +kernel
theorem d_mo_columns_15 : decode b_mo_columns 15 = .ok (.aload_n 0, 1) := by decide +kernel
theorem d_mo_columns_16 : decode b_mo_columns 16 = .ok (.getfield 106, 3) := by decide +kernel
theorem d_mo_columns_19 : decode b_mo_columns 19 = .ok (.if_icmp .lt 7, 3) := by decide +kernel
theorem d_mo_columns_22 : decode b_mo_columns 22 = .ok (.iconst 1, 1) := by decide +kernel
theorem d_mo_columns_23 : decode b_mo_columns 23 = .ok (.goto 4, 3) := by decide +kernel
theorem d_mo_columns_26 : decode b_mo_columns 26 = .ok (.iconst 0, 1) := by decide +kernel
theorem d_mo_columns_27 : decode b_mo_columns 27 = .ok (.istore_n 3, 1) := by decide +kernel
theorem d_mo_columns_28 : decode b_mo_columns 28 = .ok (.iload_n 3, 1) := by decide +kernel
theorem d_mo_columns_29 : decode b_mo_columns 29 = .ok (.ifCond .eq 7, 3) := by decide +kernel
theorem d_mo_columns_32 : decode b_mo_columns 32 = .ok (.iconst 0, 1) := by decide +kernel
theorem d_mo_columns_33 : decode b_mo_columns 33 = .ok (.goto 40, 3) := by decide +kernel
theorem d_mo_columns_36 : decode b_mo_columns 36 = .ok (.aload_n 0, 1) := by decide +kernel
theorem d_mo_columns_37 : decode b_mo_columns 37 = .ok (.getfield 103, 3) := by decide +kernel
theorem d_mo_columns_40 : decode b_mo_columns 40 = .ok (.iconst 1, 1) := by decide +kernel
theorem d_mo_columns_41 : decode b_mo_columns 41 = .ok (.isub, 1) := by decide +kernel
theorem d_mo_columns_42 : decode b_mo_columns 42 = .ok (.aload_n 0, 1) := by decide +kernel
theorem d_mo_columns_43 : decode b_mo_columns 43 = .ok (.getfield 19, 3) := by decide +kernel
theorem d_mo_columns_46 : decode b_mo_columns 46 = .ok (.bipush 33, 2) := by decide +kernel
theorem d_mo_columns_48 : decode b_mo_columns 48 = .ok (.iload_n 1, 1) := by decide +kernel
theorem d_mo_columns_49 : decode b_mo_columns 49 = .ok (.imul, 1) := by decide +kernel
theorem d_mo_columns_50 : decode b_mo_columns 50 = .ok (.iload_n 2, 1) := by decide +kernel
theorem d_mo_columns_51 : decode b_mo_columns 51 = .ok (.iadd, 1) := by decide +kernel
theorem d_mo_columns_52 : decode b_mo_columns 52 = .ok (.iaload, 1) := by decide +kernel
theorem d_mo_columns_53 : decode b_mo_columns 53 = .ok (.ishr, 1) := by decide +kernel
theorem d_mo_columns_54 : decode b_mo_columns 54 = .ok (.aload_n 0, 1) := by decide +kernel
theorem d_mo_columns_55 : decode b_mo_columns 55 = .ok (.getfield 97, 3) := by decide +kernel
theorem d_mo_columns_58 : decode b_mo_columns 58 = .ok (.aload_n 0, 1) := by decide +kernel
theorem d_mo_columns_59 : decode b_mo_columns 59 = .ok (.getfield 19, 3) := by decide +kernel
theorem d_mo_columns_62 : decode b_mo_columns 62 = .ok (.bipush 33, 2) := by decide +kernel
theorem d_mo_columns_64 : decode b_mo_columns 64 = .ok (.iload_n 1, 1) := by decide +kernel
theorem d_mo_columns_65 : decode b_mo_columns 65 = .ok (.imul, 1) := by decide +kernel
theorem d_mo_columns_66 : decode b_mo_columns 66 = .ok (.iload_n 2, 1) := by decide +kernel
theorem d_mo_columns_67 : decode b_mo_columns 67 = .ok (.iadd, 1) := by decide +kernel
theorem d_mo_columns_68 : decode b_mo_columns 68 = .ok (.iaload, 1) := by decide +kernel
theorem d_mo_columns_69 : decode b_mo_columns 69 = .ok (.ishr, 1) := by decide +kernel
theorem d_mo_columns_70 : decode b_mo_columns 70 = .ok (.isub, 1) := by decide +kernel
theorem d_mo_columns_71 : decode b_mo_columns 71 = .ok (.iconst 1, 1) := by decide +kernel
theorem d_mo_columns_72 : decode b_mo_columns 72 = .ok (.iadd, 1) := by decide +kernel
theorem d_mo_columns_73 : decode b_mo_columns 73 = .ok (.ireturn, 1) := by decide +kernel
end
section
/-! the reference: names and decode rows -/
abbrev y_mo_rows : MethodName := ⟨"PacketOrderModel", "rows", "(II)I"⟩
abbrev b_mo_rows : ByteArray := prog_8_method_14_code
theorem d_mo_rows_0 : decode b_mo_rows 0 = .ok (.aload_n 0, 1) := by decide +kernel
theorem d_mo_rows_1 : decode b_mo_rows 1 = .ok (.getfield 97, 3) := by decide +kernel
theorem d_mo_rows_4 : decode b_mo_rows 4 = .ok (.aload_n 0, 1) := by decide +kernel
theorem d_mo_rows_5 : decode b_mo_rows 5 = .ok (.getfield 103, 3) := by decide +kernel
theorem d_mo_rows_8 : decode b_mo_rows 8 = .ok (.if_icmp .ge 14, 3) := by decide +kernel
theorem d_mo_rows_11 : decode b_mo_rows 11 = .ok (.aload_n 0, 1) := by decide +kernel
theorem d_mo_rows_12 : decode b_mo_rows 12 = .ok (.getfield 100, 3) := by decide +kernel
theorem d_mo_rows_15 : decode b_mo_rows 15 = .ok (.aload_n 0, 1) := by decide +kernel
theorem d_mo_rows_16 : decode b_mo_rows 16 = .ok (.getfield 106, 3) := by decide +kernel
theorem d_mo_rows_19 : decode b_mo_rows 19 = .ok (.if_icmp .lt 7, 3) := by decide +kernel
theorem d_mo_rows_22 : decode b_mo_rows 22 = .ok (.iconst 1, 1) := by decide +kernel
theorem d_mo_rows_23 : decode b_mo_rows 23 = .ok (.goto 4, 3) := by decide +kernel
theorem d_mo_rows_26 : decode b_mo_rows 26 = .ok (.iconst 0, 1) := by decide +kernel
theorem d_mo_rows_27 : decode b_mo_rows 27 = .ok (.istore_n 3, 1) := by decide +kernel
theorem d_mo_rows_28 : decode b_mo_rows 28 = .ok (.iload_n 3, 1) := by decide +kernel
theorem d_mo_rows_29 : decode b_mo_rows 29 = .ok (.ifCond .eq 7, 3) := by decide +kernel
theorem d_mo_rows_32 : decode b_mo_rows 32 = .ok (.iconst 0, 1) := by decide +kernel
theorem d_mo_rows_33 : decode b_mo_rows 33 = .ok (.goto 40, 3) := by decide +kernel
theorem d_mo_rows_36 : decode b_mo_rows 36 = .ok (.aload_n 0, 1) := by decide +kernel
theorem d_mo_rows_37 : decode b_mo_rows 37 = .ok (.getfield 106, 3) := by decide +kernel
theorem d_mo_rows_40 : decode b_mo_rows 40 = .ok (.iconst 1, 1) := by decide +kernel
theorem d_mo_rows_41 : decode b_mo_rows 41 = .ok (.isub, 1) := by decide +kernel
theorem d_mo_rows_42 : decode b_mo_rows 42 = .ok (.aload_n 0, 1) := by decide +kernel
theorem d_mo_rows_43 : decode b_mo_rows 43 = .ok (.getfield 22, 3) := by decide +kernel
theorem d_mo_rows_46 : decode b_mo_rows 46 = .ok (.bipush 33, 2) := by decide +kernel
theorem d_mo_rows_48 : decode b_mo_rows 48 = .ok (.iload_n 1, 1) := by decide +kernel
theorem d_mo_rows_49 : decode b_mo_rows 49 = .ok (.imul, 1) := by decide +kernel
theorem d_mo_rows_50 : decode b_mo_rows 50 = .ok (.iload_n 2, 1) := by decide +kernel
theorem d_mo_rows_51 : decode b_mo_rows 51 = .ok (.iadd, 1) := by decide +kernel
theorem d_mo_rows_52 : decode b_mo_rows 52 = .ok (.iaload, 1) := by decide +kernel
theorem d_mo_rows_53 : decode b_mo_rows 53 = .ok (.ishr, 1) := by decide +kernel
theorem d_mo_rows_54 : decode b_mo_rows 54 = .ok (.aload_n 0, 1) := by decide +kernel
theorem d_mo_rows_55 : decode b_mo_rows 55 = .ok (.getfield 100, 3) := by decide +kernel
theorem d_mo_rows_58 : decode b_mo_rows 58 = .ok (.aload_n 0, 1) := by decide +kernel
theorem d_mo_rows_59 : decode b_mo_rows 59 = .ok (.getfield 22, 3) := by decide +kernel
theorem d_mo_rows_62 : decode b_mo_rows 62 = .ok (.bipush 33, 2) := by decide +kernel
theorem d_mo_rows_64 : decode b_mo_rows 64 = .ok (.iload_n 1, 1) := by decide +kernel
theorem d_mo_rows_65 : decode b_mo_rows 65 = .ok (.imul, 1) := by decide +kernel
theorem d_mo_rows_66 : decode b_mo_rows 66 = .ok (.iload_n 2, 1) := by decide +kernel
theorem d_mo_rows_67 : decode b_mo_rows 67 = .ok (.iadd, 1) := by decide +kernel
theorem d_mo_rows_68 : decode b_mo_rows 68 = .ok (.iaload, 1) := by decide +kernel
theorem d_mo_rows_69 : decode b_mo_rows 69 = .ok (.ishr, 1) := by decide +kernel
theorem d_mo_rows_70 : decode b_mo_rows 70 = .ok (.isub, 1) := by decide +kernel
theorem d_mo_rows_71 : decode b_mo_rows 71 = .ok (.iconst 1, 1) := by decide +kernel
theorem d_mo_rows_72 : decode b_mo_rows 72 = .ok (.iadd, 1) := by decide +kernel
theorem d_mo_rows_73 : decode b_mo_rows 73 = .ok (.ireturn, 1) := by decide +kernel
abbrev y_mo_count : MethodName := ⟨"PacketOrderModel", "count", "()J"⟩
abbrev b_mo_count : ByteArray := prog_8_method_15_code
theorem d_mo_count_0 : decode b_mo_count 0 = .ok (.lconst 0, 1) := by decide +kernel
theorem d_mo_count_1 : decode b_mo_count 1 = .ok (.lstore_n 1, 1) := by decide +kernel
theorem d_mo_count_2 : decode b_mo_count 2 = .ok (.iconst 0, 1) := by decide +kernel
theorem d_mo_count_3 : decode b_mo_count 3 = .ok (.istore_n 3, 1) := by decide +kernel
theorem d_mo_count_4 : decode b_mo_count 4 = .ok (.iload_n 3, 1) := by decide +kernel
theorem d_mo_count_5 : decode b_mo_count 5 = .ok (.aload_n 0, 1) := by decide +kernel
theorem d_mo_count_6 : decode b_mo_count 6 = .ok (.getfield 80, 3) := by decide +kernel
theorem d_mo_count_9 : decode b_mo_count 9 = .ok (.if_icmp .ge 56, 3) := by decide +kernel
theorem d_mo_count_12 : decode b_mo_count 12 = .ok (.iconst 0, 1) := by decide +kernel
theorem d_mo_count_13 : decode b_mo_count 13 = .ok (.istore 4, 2) := by decide +kernel
theorem d_mo_count_15 : decode b_mo_count 15 = .ok (.iload 4, 2) := by decide +kernel
theorem d_mo_count_17 : decode b_mo_count 17 = .ok (.aload_n 0, 1) := by decide +kernel
theorem d_mo_count_18 : decode b_mo_count 18 = .ok (.getfield 16, 3) := by decide +kernel
theorem d_mo_count_21 : decode b_mo_count 21 = .ok (.iload_n 3, 1) := by decide +kernel
theorem d_mo_count_22 : decode b_mo_count 22 = .ok (.iaload, 1) := by decide +kernel
theorem d_mo_count_23 : decode b_mo_count 23 = .ok (.if_icmp .gt 36, 3) := by decide +kernel
theorem d_mo_count_26 : decode b_mo_count 26 = .ok (.aload_n 0, 1) := by decide +kernel
theorem d_mo_count_27 : decode b_mo_count 27 = .ok (.iload_n 3, 1) := by decide +kernel
theorem d_mo_count_28 : decode b_mo_count 28 = .ok (.iload 4, 2) := by decide +kernel
theorem d_mo_count_30 : decode b_mo_count 30 = .ok (.invokevirtual 109, 3) := by decide +kernel
theorem d_mo_count_33 : decode b_mo_count 33 = .ok (.lload_n 1, 1) := by decide +kernel
theorem d_mo_count_34 : decode b_mo_count 34 = .ok (.aload_n 0, 1) := by decide +kernel
theorem d_mo_count_35 : decode b_mo_count 35 = .ok (.iload_n 3, 1) := by decide +kernel
theorem d_mo_count_36 : decode b_mo_count 36 = .ok (.iload 4, 2) := by decide +kernel
theorem d_mo_count_38 : decode b_mo_count 38 = .ok (.invokevirtual 113, 3) := by decide +kernel
theorem d_mo_count_41 : decode b_mo_count 41 = .ok (.i2l, 1) := by decide +kernel
theorem d_mo_count_42 : decode b_mo_count 42 = .ok (.aload_n 0, 1) := by decide +kernel
theorem d_mo_count_43 : decode b_mo_count 43 = .ok (.iload_n 3, 1) := by decide +kernel
theorem d_mo_count_44 : decode b_mo_count 44 = .ok (.iload 4, 2) := by decide +kernel
theorem d_mo_count_46 : decode b_mo_count 46 = .ok (.invokevirtual 116, 3) := by decide +kernel
theorem d_mo_count_49 : decode b_mo_count 49 = .ok (.i2l, 1) := by decide +kernel
theorem d_mo_count_50 : decode b_mo_count 50 = .ok (.lmul, 1) := by decide +kernel
theorem d_mo_count_51 : decode b_mo_count 51 = .ok (.ladd, 1) := by decide +kernel
theorem d_mo_count_52 : decode b_mo_count 52 = .ok (.lstore_n 1, 1) := by decide +kernel
theorem d_mo_count_53 : decode b_mo_count 53 = .ok (.iinc 4 1, 3) := by decide +kernel
theorem d_mo_count_56 : decode b_mo_count 56 = .ok (.goto (-41), 3) := by decide +kernel
theorem d_mo_count_59 : decode b_mo_count 59 = .ok (.iinc 3 1, 3) := by decide +kernel
theorem d_mo_count_62 : decode b_mo_count 62 = .ok (.goto (-58), 3) := by decide +kernel
theorem d_mo_count_65 : decode b_mo_count 65 = .ok (.lload_n 1, 1) := by decide +kernel
theorem d_mo_count_66 : decode b_mo_count 66 = .ok (.lreturn, 1) := by decide +kernel
abbrev y_mo_place : MethodName := ⟨"PacketOrderModel", "place", "(IIIII)J"⟩
abbrev b_mo_place : ByteArray := prog_8_method_16_code
theorem d_mo_place_0 : decode b_mo_place 0 = .ok (.iload_n 0, 1) := by decide +kernel
theorem d_mo_place_1 : decode b_mo_place 1 = .ok (.i2l, 1) := by decide +kernel
theorem d_mo_place_2 : decode b_mo_place 2 = .ok (.iload_n 1, 1) := by decide +kernel
theorem d_mo_place_3 : decode b_mo_place 3 = .ok (.iload_n 2, 1) := by decide +kernel
theorem d_mo_place_4 : decode b_mo_place 4 = .ok (.iadd, 1) := by decide +kernel
theorem d_mo_place_5 : decode b_mo_place 5 = .ok (.lshl, 1) := by decide +kernel
theorem d_mo_place_6 : decode b_mo_place 6 = .ok (.iload_n 3, 1) := by decide +kernel
theorem d_mo_place_7 : decode b_mo_place 7 = .ok (.i2l, 1) := by decide +kernel
theorem d_mo_place_8 : decode b_mo_place 8 = .ok (.lmul, 1) := by decide +kernel
theorem d_mo_place_9 : decode b_mo_place 9 = .ok (.lstore 5, 2) := by decide +kernel
theorem d_mo_place_11 : decode b_mo_place 11 = .ok (.lload 5, 2) := by decide +kernel
theorem d_mo_place_13 : decode b_mo_place 13 = .ok (.iload 4, 2) := by decide +kernel
theorem d_mo_place_15 : decode b_mo_place 15 = .ok (.i2l, 1) := by decide +kernel
theorem d_mo_place_16 : decode b_mo_place 16 = .ok (.lcmp, 1) := by decide +kernel
theorem d_mo_place_17 : decode b_mo_place 17 = .ok (.ifCond .ge 9, 3) := by decide +kernel
theorem d_mo_place_20 : decode b_mo_place 20 = .ok (.iload 4, 2) := by decide +kernel
theorem d_mo_place_22 : decode b_mo_place 22 = .ok (.i2l, 1) := by decide +kernel
theorem d_mo_place_23 : decode b_mo_place 23 = .ok (.goto 5, 3) := by decide +kernel
theorem d_mo_place_26 : decode b_mo_place 26 = .ok (.lload 5, 2) := by decide +kernel
theorem d_mo_place_28 : decode b_mo_place 28 = .ok (.lreturn, 1) := by decide +kernel
abbrev y_mo_list : MethodName := ⟨"PacketOrderModel", "list", "(II)V"⟩
abbrev b_mo_list : ByteArray := prog_8_method_17_code
theorem d_mo_list_0 : decode b_mo_list 0 = .ok (.aload_n 0, 1) := by decide +kernel
theorem d_mo_list_1 : decode b_mo_list 1 = .ok (.iload_n 1, 1) := by decide +kernel
theorem d_mo_list_2 : decode b_mo_list 2 = .ok (.iload_n 2, 1) := by decide +kernel
theorem d_mo_list_3 : decode b_mo_list 3 = .ok (.invokevirtual 109, 3) := by decide +kernel
theorem d_mo_list_6 : decode b_mo_list 6 = .ok (.aload_n 0, 1) := by decide +kernel
theorem d_mo_list_7 : decode b_mo_list 7 = .ok (.iload_n 1, 1) := by decide +kernel
theorem d_mo_list_8 : decode b_mo_list 8 = .ok (.iload_n 2, 1) := by decide +kernel
theorem d_mo_list_9 : decode b_mo_list 9 = .ok (.invokevirtual 113, 3) := by decide +kernel
theorem d_mo_list_12 : decode b_mo_list 12 = .ok (.istore_n 3, 1) := by decide +kernel
theorem d_mo_list_13 : decode b_mo_list 13 = .ok (.aload_n 0, 1) := by decide +kernel
theorem d_mo_list_14 : decode b_mo_list 14 = .ok (.iload_n 1, 1) := by decide +kernel
theorem d_mo_list_15 : decode b_mo_list 15 = .ok (.iload_n 2, 1) := by decide +kernel
theorem d_mo_list_16 : decode b_mo_list 16 = .ok (.invokevirtual 116, 3) := by decide +kernel
theorem d_mo_list_19 : decode b_mo_list 19 = .ok (.istore 4, 2) := by decide +kernel
theorem d_mo_list_21 : decode b_mo_list 21 = .ok (.aload_n 0, 1) := by decide +kernel
theorem d_mo_list_22 : decode b_mo_list 22 = .ok (.getfield 16, 3) := by decide +kernel
theorem d_mo_list_25 : decode b_mo_list 25 = .ok (.iload_n 1, 1) := by decide +kernel
theorem d_mo_list_26 : decode b_mo_list 26 = .ok (.iaload, 1) := by decide +kernel
theorem d_mo_list_27 : decode b_mo_list 27 = .ok (.iload_n 2, 1) := by decide +kernel
theorem d_mo_list_28 : decode b_mo_list 28 = .ok (.isub, 1) := by decide +kernel
theorem d_mo_list_29 : decode b_mo_list 29 = .ok (.istore 5, 2) := by decide +kernel
theorem d_mo_list_31 : decode b_mo_list 31 = .ok (.iconst 0, 1) := by decide +kernel
theorem d_mo_list_32 : decode b_mo_list 32 = .ok (.istore 6, 2) := by decide +kernel
theorem d_mo_list_34 : decode b_mo_list 34 = .ok (.iload 6, 2) := by decide +kernel
theorem d_mo_list_36 : decode b_mo_list 36 = .ok (.iload_n 3, 1) := by decide +kernel
theorem d_mo_list_37 : decode b_mo_list 37 = .ok (.iload 4, 2) := by decide +kernel
theorem d_mo_list_39 : decode b_mo_list 39 = .ok (.imul, 1) := by decide +kernel
theorem d_mo_list_40 : decode b_mo_list 40 = .ok (.if_icmp .ge 180, 3) := by decide +kernel
theorem d_mo_list_43 : decode b_mo_list 43 = .ok (.aload_n 0, 1) := by decide +kernel
theorem d_mo_list_44 : decode b_mo_list 44 = .ok (.getfield 97, 3) := by decide +kernel
theorem d_mo_list_47 : decode b_mo_list 47 = .ok (.aload_n 0, 1) := by decide +kernel
theorem d_mo_list_48 : decode b_mo_list 48 = .ok (.getfield 19, 3) := by decide +kernel
theorem d_mo_list_51 : decode b_mo_list 51 = .ok (.bipush 33, 2) := by decide +kernel
theorem d_mo_list_53 : decode b_mo_list 53 = .ok (.iload_n 1, 1) := by decide +kernel
theorem d_mo_list_54 : decode b_mo_list 54 = .ok (.imul, 1) := by decide +kernel
theorem d_mo_list_55 : decode b_mo_list 55 = .ok (.iload_n 2, 1) := by decide +kernel
theorem d_mo_list_56 : decode b_mo_list 56 = .ok (.iadd, 1) := by decide +kernel
theorem d_mo_list_57 : decode b_mo_list 57 = .ok (.iaload, 1) := by decide +kernel
theorem d_mo_list_58 : decode b_mo_list 58 = .ok (.ishr, 1) := by decide +kernel
theorem d_mo_list_59 : decode b_mo_list 59 = .ok (.iload 6, 2) := by decide +kernel
theorem d_mo_list_61 : decode b_mo_list 61 = .ok (.iload_n 3, 1) := by decide +kernel
theorem d_mo_list_62 : decode b_mo_list 62 = .ok (.irem, 1) := by decide +kernel
theorem d_mo_list_63 : decode b_mo_list 63 = .ok (.iadd, 1) := by decide +kernel
theorem d_mo_list_64 : decode b_mo_list 64 = .ok (.istore 7, 2) := by decide +kernel
theorem d_mo_list_66 : decode b_mo_list 66 = .ok (.aload_n 0, 1) := by decide +kernel
theorem d_mo_list_67 : decode b_mo_list 67 = .ok (.getfield 100, 3) := by decide +kernel
theorem d_mo_list_70 : decode b_mo_list 70 = .ok (.aload_n 0, 1) := by decide +kernel
theorem d_mo_list_71 : decode b_mo_list 71 = .ok (.getfield 22, 3) := by decide +kernel
theorem d_mo_list_74 : decode b_mo_list 74 = .ok (.bipush 33, 2) := by decide +kernel
theorem d_mo_list_76 : decode b_mo_list 76 = .ok (.iload_n 1, 1) := by decide +kernel
theorem d_mo_list_77 : decode b_mo_list 77 = .ok (.imul, 1) := by decide +kernel
theorem d_mo_list_78 : decode b_mo_list 78 = .ok (.iload_n 2, 1) := by decide +kernel
theorem d_mo_list_79 : decode b_mo_list 79 = .ok (.iadd, 1) := by decide +kernel
theorem d_mo_list_80 : decode b_mo_list 80 = .ok (.iaload, 1) := by decide +kernel
theorem d_mo_list_81 : decode b_mo_list 81 = .ok (.ishr, 1) := by decide +kernel
theorem d_mo_list_82 : decode b_mo_list 82 = .ok (.iload 6, 2) := by decide +kernel
theorem d_mo_list_84 : decode b_mo_list 84 = .ok (.iload_n 3, 1) := by decide +kernel
theorem d_mo_list_85 : decode b_mo_list 85 = .ok (.idiv, 1) := by decide +kernel
theorem d_mo_list_86 : decode b_mo_list 86 = .ok (.iadd, 1) := by decide +kernel
theorem d_mo_list_87 : decode b_mo_list 87 = .ok (.istore 8, 2) := by decide +kernel
theorem d_mo_list_89 : decode b_mo_list 89 = .ok (.aload_n 0, 1) := by decide +kernel
theorem d_mo_list_90 : decode b_mo_list 90 = .ok (.getfield 32, 3) := by decide +kernel
theorem d_mo_list_93 : decode b_mo_list 93 = .ok (.aload_n 0, 1) := by decide +kernel
theorem d_mo_list_94 : decode b_mo_list 94 = .ok (.getfield 119, 3) := by decide +kernel
theorem d_mo_list_97 : decode b_mo_list 97 = .ok (.iload_n 1, 1) := by decide +kernel
theorem d_mo_list_98 : decode b_mo_list 98 = .ok (.iastore, 1) := by decide +kernel
theorem d_mo_list_99 : decode b_mo_list 99 = .ok (.aload_n 0, 1) := by decide +kernel
theorem d_mo_list_100 : decode b_mo_list 100 = .ok (.getfield 35, 3) := by decide +kernel
theorem d_mo_list_103 : decode b_mo_list 103 = .ok (.aload_n 0, 1) := by decide +kernel
theorem d_mo_list_104 : decode b_mo_list 104 = .ok (.getfield 119, 3) := by decide +kernel
theorem d_mo_list_107 : decode b_mo_list 107 = .ok (.iload_n 2, 1) := by decide +kernel
theorem d_mo_list_108 : decode b_mo_list 108 = .ok (.iastore, 1) := by decide +kernel
theorem d_mo_list_109 : decode b_mo_list 109 = .ok (.aload_n 0, 1) := by decide +kernel
theorem d_mo_list_110 : decode b_mo_list 110 = .ok (.getfield 38, 3) := by decide +kernel
theorem d_mo_list_113 : decode b_mo_list 113 = .ok (.aload_n 0, 1) := by decide +kernel
theorem d_mo_list_114 : decode b_mo_list 114 = .ok (.getfield 119, 3) := by decide +kernel
theorem d_mo_list_117 : decode b_mo_list 117 = .ok (.iload 6, 2) := by decide +kernel
theorem d_mo_list_119 : decode b_mo_list 119 = .ok (.iastore, 1) := by decide +kernel
theorem d_mo_list_120 : decode b_mo_list 120 = .ok (.aload_n 0, 1) := by decide +kernel
theorem d_mo_list_121 : decode b_mo_list 121 = .ok (.getfield 41, 3) := by decide +kernel
theorem d_mo_list_124 : decode b_mo_list 124 = .ok (.aload_n 0, 1) := by decide +kernel
theorem d_mo_list_125 : decode b_mo_list 125 = .ok (.getfield 119, 3) := by decide +kernel
theorem d_mo_list_128 : decode b_mo_list 128 = .ok (.iload 7, 2) := by decide +kernel
theorem d_mo_list_130 : decode b_mo_list 130 = .ok (.aload_n 0, 1) := by decide +kernel
theorem d_mo_list_131 : decode b_mo_list 131 = .ok (.getfield 19, 3) := by decide +kernel
theorem d_mo_list_134 : decode b_mo_list 134 = .ok (.bipush 33, 2) := by decide +kernel
theorem d_mo_list_136 : decode b_mo_list 136 = .ok (.iload_n 1, 1) := by decide +kernel
theorem d_mo_list_137 : decode b_mo_list 137 = .ok (.imul, 1) := by decide +kernel
theorem d_mo_list_138 : decode b_mo_list 138 = .ok (.iload_n 2, 1) := by decide +kernel
theorem d_mo_list_139 : decode b_mo_list 139 = .ok (.iadd, 1) := by decide +kernel
theorem d_mo_list_140 : decode b_mo_list 140 = .ok (.iaload, 1) := by decide +kernel
theorem d_mo_list_141 : decode b_mo_list 141 = .ok (.iload 5, 2) := by decide +kernel
theorem d_mo_list_143 : decode b_mo_list 143 = .ok (.aload_n 0, 1) := by decide +kernel
theorem d_mo_list_144 : decode b_mo_list 144 = .ok (.getfield 7, 3) := by decide +kernel
theorem d_mo_list_147 : decode b_mo_list 147 = .ok (.iload_n 1, 1) := by decide +kernel
theorem d_mo_list_148 : decode b_mo_list 148 = .ok (.iaload, 1) := by decide +kernel
theorem d_mo_list_149 : decode b_mo_list 149 = .ok (.aload_n 0, 1) := by decide +kernel
theorem d_mo_list_150 : decode b_mo_list 150 = .ok (.getfield 65, 3) := by decide +kernel
theorem d_mo_list_153 : decode b_mo_list 153 = .ok (.invokestatic 122, 3) := by decide +kernel
theorem d_mo_list_156 : decode b_mo_list 156 = .ok (.lastore, 1) := by decide +kernel
theorem d_mo_list_157 : decode b_mo_list 157 = .ok (.aload_n 0, 1) := by decide +kernel
theorem d_mo_list_158 : decode b_mo_list 158 = .ok (.getfield 45, 3) := by decide +kernel
theorem d_mo_list_161 : decode b_mo_list 161 = .ok (.aload_n 0, 1) := by decide +kernel
theorem d_mo_list_162 : decode b_mo_list 162 = .ok (.getfield 119, 3) := by decide +kernel
theorem d_mo_list_165 : decode b_mo_list 165 = .ok (.iload 8, 2) := by decide +kernel
theorem d_mo_list_167 : decode b_mo_list 167 = .ok (.aload_n 0, 1) := by decide +kernel
theorem d_mo_list_168 : decode b_mo_list 168 = .ok (.getfield 22, 3) := by decide +kernel
theorem d_mo_list_171 : decode b_mo_list 171 = .ok (.bipush 33, 2) := by decide +kernel
theorem d_mo_list_173 : decode b_mo_list 173 = .ok (.iload_n 1, 1) := by decide +kernel
theorem d_mo_list_174 : decode b_mo_list 174 = .ok (.imul, 1) := by decide +kernel
theorem d_mo_list_175 : decode b_mo_list 175 = .ok (.iload_n 2, 1) := by decide +kernel
theorem d_mo_list_176 : decode b_mo_list 176 = .ok (.iadd, 1) := by decide +kernel
theorem d_mo_list_177 : decode b_mo_list 177 = .ok (.iaload, 1) := by decide +kernel
theorem d_mo_list_178 : decode b_mo_list 178 = .ok (.iload 5, 2) := by decide +kernel
theorem d_mo_list_180 : decode b_mo_list 180 = .ok (.aload_n 0, 1) := by decide +kernel
theorem d_mo_list_181 : decode b_mo_list 181 = .ok (.getfield 13, 3) := by decide +kernel
theorem d_mo_list_184 : decode b_mo_list 184 = .ok (.iload_n 1, 1) := by decide +kernel
theorem d_mo_list_185 : decode b_mo_list 185 = .ok (.iaload, 1) := by decide +kernel
theorem d_mo_list_186 : decode b_mo_list 186 = .ok (.aload_n 0, 1) := by decide +kernel
theorem d_mo_list_187 : decode b_mo_list 187 = .ok (.getfield 68, 3) := by decide +kernel
theorem d_mo_list_190 : decode b_mo_list 190 = .ok (.invokestatic 122, 3) := by decide +kernel
theorem d_mo_list_193 : decode b_mo_list 193 = .ok (.lastore, 1) := by decide +kernel
theorem d_mo_list_194 : decode b_mo_list 194 = .ok (.aload_n 0, 1) := by decide +kernel
theorem d_mo_list_195 : decode b_mo_list 195 = .ok (.getfield 48, 3) := by decide +kernel
theorem d_mo_list_198 : decode b_mo_list 198 = .ok (.aload_n 0, 1) := by decide +kernel
theorem d_mo_list_199 : decode b_mo_list 199 = .ok (.getfield 119, 3) := by decide +kernel
theorem d_mo_list_202 : decode b_mo_list 202 = .ok (.iconst 0, 1) := by decide +kernel
theorem d_mo_list_203 : decode b_mo_list 203 = .ok (.iastore, 1) := by decide +kernel
theorem d_mo_list_204 : decode b_mo_list 204 = .ok (.aload_n 0, 1) := by decide +kernel
theorem d_mo_list_205 : decode b_mo_list 205 = .ok (.dup, 1) := by decide +kernel
theorem d_mo_list_206 : decode b_mo_list 206 = .ok (.getfield 119, 3) := by decide +kernel
theorem d_mo_list_209 : decode b_mo_list 209 = .ok (.iconst 1, 1) := by decide +kernel
theorem d_mo_list_210 : decode b_mo_list 210 = .ok (.iadd, 1) := by decide +kernel
theorem d_mo_list_211 : decode b_mo_list 211 = .ok (.putfield 119, 3) := by decide +kernel
theorem d_mo_list_214 : decode b_mo_list 214 = .ok (.iinc 6 1, 3) := by decide +kernel
theorem d_mo_list_217 : decode b_mo_list 217 = .ok (.goto (-183), 3) := by decide +kernel
theorem d_mo_list_220 : decode b_mo_list 220 = .ok (.return_, 1) := by decide +kernel
abbrev y_mo_begin : MethodName := ⟨"PacketOrderModel", "begin", "()I"⟩
abbrev b_mo_begin : ByteArray := prog_8_method_18_code
theorem d_mo_begin_0 : decode b_mo_begin 0 = .ok (.aload_n 0, 1) := by decide +kernel
theorem d_mo_begin_1 : decode b_mo_begin 1 = .ok (.getfield 61, 3) := by decide +kernel
theorem d_mo_begin_4 : decode b_mo_begin 4 = .ok (.ifCond .eq 10, 3) := by decide +kernel
theorem d_mo_begin_7 : decode b_mo_begin 7 = .ok (.aload_n 0, 1) := by decide +kernel
theorem d_mo_begin_8 : decode b_mo_begin 8 = .ok (.getfield 80, 3) := by decide +kernel
theorem d_mo_begin_11 : decode b_mo_begin 11 = .ok (.ifCond .ne 7, 3) := by decide +kernel
theorem d_mo_begin_14 : decode b_mo_begin 14 = .ok (.iconst 1, 1) := by decide +kernel
theorem d_mo_begin_15 : decode b_mo_begin 15 = .ok (.goto 4, 3) := by decide +kernel
theorem d_mo_begin_18 : decode b_mo_begin 18 = .ok (.iconst 0, 1) := by decide +kernel
theorem d_mo_begin_19 : decode b_mo_begin 19 = .ok (.istore_n 1, 1) := by decide +kernel
theorem d_mo_begin_20 : decode b_mo_begin 20 = .ok (.aload_n 0, 1) := by decide +kernel
theorem d_mo_begin_21 : decode b_mo_begin 21 = .ok (.iload_n 1, 1) := by decide +kernel
theorem d_mo_begin_22 : decode b_mo_begin 22 = .ok (.iload_n 1, 1) := by decide +kernel
theorem d_mo_begin_23 : decode b_mo_begin 23 = .ok (.ifCond .ne 18, 3) := by decide +kernel
theorem d_mo_begin_26 : decode b_mo_begin 26 = .ok (.aload_n 0, 1) := by decide +kernel
theorem d_mo_begin_27 : decode b_mo_begin 27 = .ok (.invokevirtual 126, 3) := by decide +kernel
theorem d_mo_begin_30 : decode b_mo_begin 30 = .ok (.ldc2_w 130, 3) := by decide +kernel
theorem d_mo_begin_33 : decode b_mo_begin 33 = .ok (.lcmp, 1) := by decide +kernel
theorem d_mo_begin_34 : decode b_mo_begin 34 = .ok (.ifCond .le 7, 3) := by decide +kernel
theorem d_mo_begin_37 : decode b_mo_begin 37 = .ok (.iconst 1, 1) := by decide +kernel
theorem d_mo_begin_38 : decode b_mo_begin 38 = .ok (.goto 4, 3) := by decide +kernel
theorem d_mo_begin_41 : decode b_mo_begin 41 = .ok (.iconst 0, 1) := by decide +kernel
theorem d_mo_begin_42 : decode b_mo_begin 42 = .ok (.invokevirtual 57, 3) := by decide +kernel
theorem d_mo_begin_45 : decode b_mo_begin 45 = .ok (.ifCond .eq 5, 3) := by decide +kernel
theorem d_mo_begin_48 : decode b_mo_begin 48 = .ok (.iconst 0, 1) := by decide +kernel
theorem d_mo_begin_49 : decode b_mo_begin 49 = .ok (.ireturn, 1) := by decide +kernel
theorem d_mo_begin_50 : decode b_mo_begin 50 = .ok (.aload_n 0, 1) := by decide +kernel
theorem d_mo_begin_51 : decode b_mo_begin 51 = .ok (.iconst 0, 1) := by decide +kernel
theorem d_mo_begin_52 : decode b_mo_begin 52 = .ok (.putfield 119, 3) := by decide +kernel
theorem d_mo_begin_55 : decode b_mo_begin 55 = .ok (.iconst 0, 1) := by decide +kernel
theorem d_mo_begin_56 : decode b_mo_begin 56 = .ok (.istore_n 2, 1) := by decide +kernel
theorem d_mo_begin_57 : decode b_mo_begin 57 = .ok (.iload_n 2, 1) := by decide +kernel
theorem d_mo_begin_58 : decode b_mo_begin 58 = .ok (.aload_n 0, 1) := by decide +kernel
theorem d_mo_begin_59 : decode b_mo_begin 59 = .ok (.getfield 80, 3) := by decide +kernel
theorem d_mo_begin_62 : decode b_mo_begin 62 = .ok (.if_icmp .ge 33, 3) := by decide +kernel
theorem d_mo_begin_65 : decode b_mo_begin 65 = .ok (.iconst 0, 1) := by decide +kernel
theorem d_mo_begin_66 : decode b_mo_begin 66 = .ok (.istore_n 3, 1) := by decide +kernel
theorem d_mo_begin_67 : decode b_mo_begin 67 = .ok (.iload_n 3, 1) := by decide +kernel
theorem d_mo_begin_68 : decode b_mo_begin 68 = .ok (.aload_n 0, 1) := by decide +kernel
theorem d_mo_begin_69 : decode b_mo_begin 69 = .ok (.getfield 16, 3) := by decide +kernel
theorem d_mo_begin_72 : decode b_mo_begin 72 = .ok (.iload_n 2, 1) := by decide +kernel
theorem d_mo_begin_73 : decode b_mo_begin 73 = .ok (.iaload, 1) := by decide +kernel
theorem d_mo_begin_74 : decode b_mo_begin 74 = .ok (.if_icmp .gt 15, 3) := by decide +kernel
theorem d_mo_begin_77 : decode b_mo_begin 77 = .ok (.aload_n 0, 1) := by decide +kernel
theorem d_mo_begin_78 : decode b_mo_begin 78 = .ok (.iload_n 2, 1) := by decide +kernel
theorem d_mo_begin_79 : decode b_mo_begin 79 = .ok (.iload_n 3, 1) := by decide +kernel
theorem d_mo_begin_80 : decode b_mo_begin 80 = .ok (.invokevirtual 132, 3) := by decide +kernel
theorem d_mo_begin_83 : decode b_mo_begin 83 = .ok (.iinc 3 1, 3) := by decide +kernel
theorem d_mo_begin_86 : decode b_mo_begin 86 = .ok (.goto (-19), 3) := by decide +kernel
theorem d_mo_begin_89 : decode b_mo_begin 89 = .ok (.iinc 2 1, 3) := by decide +kernel
theorem d_mo_begin_92 : decode b_mo_begin 92 = .ok (.goto (-35), 3) := by decide +kernel
theorem d_mo_begin_95 : decode b_mo_begin 95 = .ok (.aload_n 0, 1) := by decide +kernel
theorem d_mo_begin_96 : decode b_mo_begin 96 = .ok (.iconst 1, 1) := by decide +kernel
theorem d_mo_begin_97 : decode b_mo_begin 97 = .ok (.putfield 77, 3) := by decide +kernel
theorem d_mo_begin_100 : decode b_mo_begin 100 = .ok (.aload_n 0, 1) := by decide +kernel
theorem d_mo_begin_101 : decode b_mo_begin 101 = .ok (.iconst 0, 1) := by decide +kernel
theorem d_mo_begin_102 : decode b_mo_begin 102 = .ok (.putfield 135, 3) := by decide +kernel
theorem d_mo_begin_105 : decode b_mo_begin 105 = .ok (.aload_n 0, 1) := by decide +kernel
theorem d_mo_begin_106 : decode b_mo_begin 106 = .ok (.iconst 0, 1) := by decide +kernel
theorem d_mo_begin_107 : decode b_mo_begin 107 = .ok (.putfield 138, 3) := by decide +kernel
theorem d_mo_begin_110 : decode b_mo_begin 110 = .ok (.aload_n 0, 1) := by decide +kernel
theorem d_mo_begin_111 : decode b_mo_begin 111 = .ok (.invokevirtual 141, 3) := by decide +kernel
theorem d_mo_begin_114 : decode b_mo_begin 114 = .ok (.aload_n 0, 1) := by decide +kernel
theorem d_mo_begin_115 : decode b_mo_begin 115 = .ok (.getfield 119, 3) := by decide +kernel
theorem d_mo_begin_118 : decode b_mo_begin 118 = .ok (.aload_n 0, 1) := by decide +kernel
theorem d_mo_begin_119 : decode b_mo_begin 119 = .ok (.getfield 25, 3) := by decide +kernel
theorem d_mo_begin_122 : decode b_mo_begin 122 = .ok (.imul, 1) := by decide +kernel
theorem d_mo_begin_123 : decode b_mo_begin 123 = .ok (.ireturn, 1) := by decide +kernel
abbrev y_mo_sign : MethodName := ⟨"PacketOrderModel", "sign", "(JJ)I"⟩
abbrev b_mo_sign : ByteArray := prog_8_method_19_code
theorem d_mo_sign_0 : decode b_mo_sign 0 = .ok (.lload_n 1, 1) := by decide +kernel
theorem d_mo_sign_1 : decode b_mo_sign 1 = .ok (.lload_n 3, 1) := by decide +kernel
theorem d_mo_sign_2 : decode b_mo_sign 2 = .ok (.lcmp, 1) := by decide +kernel
theorem d_mo_sign_3 : decode b_mo_sign 3 = .ok (.ifCond .ge 7, 3) := by decide +kernel
theorem d_mo_sign_6 : decode b_mo_sign 6 = .ok (.iconst (-1), 1) := by decide +kernel
theorem d_mo_sign_7 : decode b_mo_sign 7 = .ok (.goto 14, 3) := by decide +kernel
theorem d_mo_sign_10 : decode b_mo_sign 10 = .ok (.lload_n 1, 1) := by decide +kernel
theorem d_mo_sign_11 : decode b_mo_sign 11 = .ok (.lload_n 3, 1) := by decide +kernel
theorem d_mo_sign_12 : decode b_mo_sign 12 = .ok (.lcmp, 1) := by decide +kernel
theorem d_mo_sign_13 : decode b_mo_sign 13 = .ok (.ifCond .le 7, 3) := by decide +kernel
theorem d_mo_sign_16 : decode b_mo_sign 16 = .ok (.iconst 1, 1) := by decide +kernel
theorem d_mo_sign_17 : decode b_mo_sign 17 = .ok (.goto 4, 3) := by decide +kernel
theorem d_mo_sign_20 : decode b_mo_sign 20 = .ok (.iconst 0, 1) := by decide +kernel
theorem d_mo_sign_21 : decode b_mo_sign 21 = .ok (.ireturn, 1) := by decide +kernel
abbrev y_mo_byPlace : MethodName := ⟨"PacketOrderModel", "byPlace", "(II)I"⟩
abbrev b_mo_byPlace : ByteArray := prog_8_method_20_code
theorem d_mo_byPlace_0 : decode b_mo_byPlace 0 = .ok (.aload_n 0, 1) := by decide +kernel
theorem d_mo_byPlace_1 : decode b_mo_byPlace 1 = .ok (.aload_n 0, 1) := by decide +kernel
theorem d_mo_byPlace_2 : decode b_mo_byPlace 2 = .ok (.getfield 45, 3) := by decide +kernel
theorem d_mo_byPlace_5 : decode b_mo_byPlace 5 = .ok (.iload_n 1, 1) := by decide +kernel
theorem d_mo_byPlace_6 : decode b_mo_byPlace 6 = .ok (.laload, 1) := by decide +kernel
theorem d_mo_byPlace_7 : decode b_mo_byPlace 7 = .ok (.aload_n 0, 1) := by decide +kernel
theorem d_mo_byPlace_8 : decode b_mo_byPlace 8 = .ok (.getfield 45, 3) := by decide +kernel
theorem d_mo_byPlace_11 : decode b_mo_byPlace 11 = .ok (.iload_n 2, 1) := by decide +kernel
theorem d_mo_byPlace_12 : decode b_mo_byPlace 12 = .ok (.laload, 1) := by decide +kernel
theorem d_mo_byPlace_13 : decode b_mo_byPlace 13 = .ok (.invokevirtual 144, 3) := by decide +kernel
theorem d_mo_byPlace_16 : decode b_mo_byPlace 16 = .ok (.istore_n 3, 1) := by decide +kernel
theorem d_mo_byPlace_17 : decode b_mo_byPlace 17 = .ok (.iload_n 3, 1) := by decide +kernel
theorem d_mo_byPlace_18 : decode b_mo_byPlace 18 = .ok (.ifCond .eq 7, 3) := by decide +kernel
theorem d_mo_byPlace_21 : decode b_mo_byPlace 21 = .ok (.iload_n 3, 1) := by decide +kernel
theorem d_mo_byPlace_22 : decode b_mo_byPlace 22 = .ok (.goto 19, 3) := by decide +kernel
theorem d_mo_byPlace_25 : decode b_mo_byPlace 25 = .ok (.aload_n 0, 1) := by decide +kernel
theorem d_mo_byPlace_26 : decode b_mo_byPlace 26 = .ok (.aload_n 0, 1) := by decide +kernel
theorem d_mo_byPlace_27 : decode b_mo_byPlace 27 = .ok (.getfield 41, 3) := by decide +kernel
theorem d_mo_byPlace_30 : decode b_mo_byPlace 30 = .ok (.iload_n 1, 1) := by decide +kernel
theorem d_mo_byPlace_31 : decode b_mo_byPlace 31 = .ok (.laload, 1) := by decide +kernel
theorem d_mo_byPlace_32 : decode b_mo_byPlace 32 = .ok (.aload_n 0, 1) := by decide +kernel
theorem d_mo_byPlace_33 : decode b_mo_byPlace 33 = .ok (.getfield 41, 3) := by decide +kernel
theorem d_mo_byPlace_36 : decode b_mo_byPlace 36 = .ok (.iload_n 2, 1) := by decide +kernel
theorem d_mo_byPlace_37 : decode b_mo_byPlace 37 = .ok (.laload, 1) := by decide +kernel
theorem d_mo_byPlace_38 : decode b_mo_byPlace 38 = .ok (.invokevirtual 144, 3) := by decide +kernel
theorem d_mo_byPlace_41 : decode b_mo_byPlace 41 = .ok (.ireturn, 1) := by decide +kernel
abbrev y_mo_byComponent : MethodName := ⟨"PacketOrderModel", "byComponent", "(II)I"⟩
abbrev b_mo_byComponent : ByteArray := prog_8_method_21_code
theorem d_mo_byComponent_0 : decode b_mo_byComponent 0 = .ok (.aload_n 0, 1) := by decide +kernel
theorem d_mo_byComponent_1 : decode b_mo_byComponent 1 = .ok (.aload_n 0, 1) := by decide +kernel
theorem d_mo_byComponent_2 : decode b_mo_byComponent 2 = .ok (.getfield 32, 3) := by decide +kernel
theorem d_mo_byComponent_5 : decode b_mo_byComponent 5 = .ok (.iload_n 1, 1) := by decide +kernel
theorem d_mo_byComponent_6 : decode b_mo_byComponent 6 = .ok (.iaload, 1) := by decide +kernel
theorem d_mo_byComponent_7 : decode b_mo_byComponent 7 = .ok (.i2l, 1) := by decide +kernel
theorem d_mo_byComponent_8 : decode b_mo_byComponent 8 = .ok (.aload_n 0, 1) := by decide +kernel
theorem d_mo_byComponent_9 : decode b_mo_byComponent 9 = .ok (.getfield 32, 3) := by decide +kernel
theorem d_mo_byComponent_12 : decode b_mo_byComponent 12 = .ok (.iload_n 2, 1) := by decide +kernel
theorem d_mo_byComponent_13 : decode b_mo_byComponent 13 = .ok (.iaload, 1) := by decide +kernel
theorem d_mo_byComponent_14 : decode b_mo_byComponent 14 = .ok (.i2l, 1) := by decide +kernel
theorem d_mo_byComponent_15 : decode b_mo_byComponent 15 = .ok (.invokevirtual 144, 3) := by decide +kernel
theorem d_mo_byComponent_18 : decode b_mo_byComponent 18 = .ok (.ireturn, 1) := by decide +kernel
abbrev y_mo_byLevel : MethodName := ⟨"PacketOrderModel", "byLevel", "(II)I"⟩
abbrev b_mo_byLevel : ByteArray := prog_8_method_22_code
theorem d_mo_byLevel_0 : decode b_mo_byLevel 0 = .ok (.aload_n 0, 1) := by decide +kernel
theorem d_mo_byLevel_1 : decode b_mo_byLevel 1 = .ok (.aload_n 0, 1) := by decide +kernel
theorem d_mo_byLevel_2 : decode b_mo_byLevel 2 = .ok (.getfield 35, 3) := by decide +kernel
theorem d_mo_byLevel_5 : decode b_mo_byLevel 5 = .ok (.iload_n 1, 1) := by decide +kernel
theorem d_mo_byLevel_6 : decode b_mo_byLevel 6 = .ok (.iaload, 1) := by decide +kernel
theorem d_mo_byLevel_7 : decode b_mo_byLevel 7 = .ok (.i2l, 1) := by decide +kernel
theorem d_mo_byLevel_8 : decode b_mo_byLevel 8 = .ok (.aload_n 0, 1) := by decide +kernel
theorem d_mo_byLevel_9 : decode b_mo_byLevel 9 = .ok (.getfield 35, 3) := by decide +kernel
theorem d_mo_byLevel_12 : decode b_mo_byLevel 12 = .ok (.iload_n 2, 1) := by decide +kernel
theorem d_mo_byLevel_13 : decode b_mo_byLevel 13 = .ok (.iaload, 1) := by decide +kernel
theorem d_mo_byLevel_14 : decode b_mo_byLevel 14 = .ok (.i2l, 1) := by decide +kernel
theorem d_mo_byLevel_15 : decode b_mo_byLevel 15 = .ok (.invokevirtual 144, 3) := by decide +kernel
theorem d_mo_byLevel_18 : decode b_mo_byLevel 18 = .ok (.ireturn, 1) := by decide +kernel
abbrev y_mo_then : MethodName := ⟨"PacketOrderModel", "then", "(II)I"⟩
abbrev b_mo_then : ByteArray := prog_8_method_23_code
theorem d_mo_then_0 : decode b_mo_then 0 = .ok (.iload_n 0, 1) := by decide +kernel
theorem d_mo_then_1 : decode b_mo_then 1 = .ok (.ifCond .eq 7, 3) := by decide +kernel
theorem d_mo_then_4 : decode b_mo_then 4 = .ok (.iload_n 0, 1) := by decide +kernel
theorem d_mo_then_5 : decode b_mo_then 5 = .ok (.goto 4, 3) := by decide +kernel
theorem d_mo_then_8 : decode b_mo_then 8 = .ok (.iload_n 1, 1) := by decide +kernel
theorem d_mo_then_9 : decode b_mo_then 9 = .ok (.ireturn, 1) := by decide +kernel
abbrev y_mo_compare : MethodName := ⟨"PacketOrderModel", "compare", "(III)I"⟩
abbrev b_mo_compare : ByteArray := prog_8_method_24_code
theorem d_mo_compare_0 : decode b_mo_compare 0 = .ok (.aload_n 0, 1) := by decide +kernel
theorem d_mo_compare_1 : decode b_mo_compare 1 = .ok (.aload_n 0, 1) := by decide +kernel
theorem d_mo_compare_2 : decode b_mo_compare 2 = .ok (.getfield 38, 3) := by decide +kernel
theorem d_mo_compare_5 : decode b_mo_compare 5 = .ok (.iload_n 1, 1) := by decide +kernel
theorem d_mo_compare_6 : decode b_mo_compare 6 = .ok (.iaload, 1) := by decide +kernel
theorem d_mo_compare_7 : decode b_mo_compare 7 = .ok (.i2l, 1) := by decide +kernel
theorem d_mo_compare_8 : decode b_mo_compare 8 = .ok (.aload_n 0, 1) := by decide +kernel
theorem d_mo_compare_9 : decode b_mo_compare 9 = .ok (.getfield 38, 3) := by decide +kernel
theorem d_mo_compare_12 : decode b_mo_compare 12 = .ok (.iload_n 2, 1) := by decide +kernel
theorem d_mo_compare_13 : decode b_mo_compare 13 = .ok (.iaload, 1) := by decide +kernel
theorem d_mo_compare_14 : decode b_mo_compare 14 = .ok (.i2l, 1) := by decide +kernel
theorem d_mo_compare_15 : decode b_mo_compare 15 = .ok (.invokevirtual 144, 3) := by decide +kernel
theorem d_mo_compare_18 : decode b_mo_compare 18 = .ok (.istore 4, 2) := by decide +kernel
theorem d_mo_compare_20 : decode b_mo_compare 20 = .ok (.iload_n 3, 1) := by decide +kernel
theorem d_mo_compare_21 : decode b_mo_compare 21 = .ok (.tableswitch 102 0 3 #[31, 31, 52, 77], 31) := by decide +kernel
theorem d_mo_compare_52 : decode b_mo_compare 52 = .ok (.aload_n 0, 1) := by decide +kernel
theorem d_mo_compare_53 : decode b_mo_compare 53 = .ok (.iload_n 1, 1) := by decide +kernel
theorem d_mo_compare_54 : decode b_mo_compare 54 = .ok (.iload_n 2, 1) := by decide +kernel
theorem d_mo_compare_55 : decode b_mo_compare 55 = .ok (.invokevirtual 148, 3) := by decide +kernel
theorem d_mo_compare_58 : decode b_mo_compare 58 = .ok (.aload_n 0, 1) := by decide +kernel
theorem d_mo_compare_59 : decode b_mo_compare 59 = .ok (.iload_n 1, 1) := by decide +kernel
theorem d_mo_compare_60 : decode b_mo_compare 60 = .ok (.iload_n 2, 1) := by decide +kernel
theorem d_mo_compare_61 : decode b_mo_compare 61 = .ok (.invokevirtual 151, 3) := by decide +kernel
theorem d_mo_compare_64 : decode b_mo_compare 64 = .ok (.invokestatic 154, 3) := by decide +kernel
theorem d_mo_compare_67 : decode b_mo_compare 67 = .ok (.iload 4, 2) := by decide +kernel
theorem d_mo_compare_69 : decode b_mo_compare 69 = .ok (.invokestatic 154, 3) := by decide +kernel
theorem d_mo_compare_72 : decode b_mo_compare 72 = .ok (.ireturn, 1) := by decide +kernel
theorem d_mo_compare_73 : decode b_mo_compare 73 = .ok (.aload_n 0, 1) := by decide +kernel
theorem d_mo_compare_74 : decode b_mo_compare 74 = .ok (.iload_n 1, 1) := by decide +kernel
theorem d_mo_compare_75 : decode b_mo_compare 75 = .ok (.iload_n 2, 1) := by decide +kernel
theorem d_mo_compare_76 : decode b_mo_compare 76 = .ok (.invokevirtual 148, 3) := by decide +kernel
theorem d_mo_compare_79 : decode b_mo_compare 79 = .ok (.aload_n 0, 1) := by decide +kernel
theorem d_mo_compare_80 : decode b_mo_compare 80 = .ok (.iload_n 1, 1) := by decide +kernel
theorem d_mo_compare_81 : decode b_mo_compare 81 = .ok (.iload_n 2, 1) := by decide +kernel
theorem d_mo_compare_82 : decode b_mo_compare 82 = .ok (.invokevirtual 157, 3) := by decide +kernel
theorem d_mo_compare_85 : decode b_mo_compare 85 = .ok (.invokestatic 154, 3) := by decide +kernel
theorem d_mo_compare_88 : decode b_mo_compare 88 = .ok (.aload_n 0, 1) := by decide +kernel
theorem d_mo_compare_89 : decode b_mo_compare 89 = .ok (.iload_n 1, 1) := by decide +kernel
theorem d_mo_compare_90 : decode b_mo_compare 90 = .ok (.iload_n 2, 1) := by decide +kernel
theorem d_mo_compare_91 : decode b_mo_compare 91 = .ok (.invokevirtual 151, 3) := by decide +kernel
theorem d_mo_compare_94 : decode b_mo_compare 94 = .ok (.invokestatic 154, 3) := by decide +kernel
theorem d_mo_compare_97 : decode b_mo_compare 97 = .ok (.ireturn, 1) := by decide +kernel
theorem d_mo_compare_98 : decode b_mo_compare 98 = .ok (.aload_n 0, 1) := by decide +kernel
theorem d_mo_compare_99 : decode b_mo_compare 99 = .ok (.iload_n 1, 1) := by decide +kernel
theorem d_mo_compare_100 : decode b_mo_compare 100 = .ok (.iload_n 2, 1) := by decide +kernel
theorem d_mo_compare_101 : decode b_mo_compare 101 = .ok (.invokevirtual 157, 3) := by decide +kernel
theorem d_mo_compare_104 : decode b_mo_compare 104 = .ok (.aload_n 0, 1) := by decide +kernel
theorem d_mo_compare_105 : decode b_mo_compare 105 = .ok (.iload_n 1, 1) := by decide +kernel
theorem d_mo_compare_106 : decode b_mo_compare 106 = .ok (.iload_n 2, 1) := by decide +kernel
theorem d_mo_compare_107 : decode b_mo_compare 107 = .ok (.invokevirtual 151, 3) := by decide +kernel
theorem d_mo_compare_110 : decode b_mo_compare 110 = .ok (.invokestatic 154, 3) := by decide +kernel
theorem d_mo_compare_113 : decode b_mo_compare 113 = .ok (.aload_n 0, 1) := by decide +kernel
theorem d_mo_compare_114 : decode b_mo_compare 114 = .ok (.iload_n 1, 1) := by decide +kernel
theorem d_mo_compare_115 : decode b_mo_compare 115 = .ok (.iload_n 2, 1) := by decide +kernel
theorem d_mo_compare_116 : decode b_mo_compare 116 = .ok (.invokevirtual 148, 3) := by decide +kernel
theorem d_mo_compare_119 : decode b_mo_compare 119 = .ok (.invokestatic 154, 3) := by decide +kernel
theorem d_mo_compare_122 : decode b_mo_compare 122 = .ok (.ireturn, 1) := by decide +kernel
theorem d_mo_compare_123 : decode b_mo_compare 123 = .ok (.aload_n 0, 1) := by decide +kernel
theorem d_mo_compare_124 : decode b_mo_compare 124 = .ok (.iload_n 1, 1) := by decide +kernel
theorem d_mo_compare_125 : decode b_mo_compare 125 = .ok (.iload_n 2, 1) := by decide +kernel
theorem d_mo_compare_126 : decode b_mo_compare 126 = .ok (.invokevirtual 151, 3) := by decide +kernel
theorem d_mo_compare_129 : decode b_mo_compare 129 = .ok (.aload_n 0, 1) := by decide +kernel
theorem d_mo_compare_130 : decode b_mo_compare 130 = .ok (.iload_n 1, 1) := by decide +kernel
theorem d_mo_compare_131 : decode b_mo_compare 131 = .ok (.iload_n 2, 1) := by decide +kernel
theorem d_mo_compare_132 : decode b_mo_compare 132 = .ok (.invokevirtual 157, 3) := by decide +kernel
theorem d_mo_compare_135 : decode b_mo_compare 135 = .ok (.invokestatic 154, 3) := by decide +kernel
theorem d_mo_compare_138 : decode b_mo_compare 138 = .ok (.aload_n 0, 1) := by decide +kernel
theorem d_mo_compare_139 : decode b_mo_compare 139 = .ok (.iload_n 1, 1) := by decide +kernel
theorem d_mo_compare_140 : decode b_mo_compare 140 = .ok (.iload_n 2, 1) := by decide +kernel
theorem d_mo_compare_141 : decode b_mo_compare 141 = .ok (.invokevirtual 148, 3) := by decide +kernel
theorem d_mo_compare_144 : decode b_mo_compare 144 = .ok (.invokestatic 154, 3) := by decide +kernel
theorem d_mo_compare_147 : decode b_mo_compare 147 = .ok (.ireturn, 1) := by decide +kernel
abbrev y_mo_sort : MethodName := ⟨"PacketOrderModel", "sort", "(I)V"⟩
abbrev b_mo_sort : ByteArray := prog_8_method_25_code
theorem d_mo_sort_0 : decode b_mo_sort 0 = .ok (.iconst 0, 1) := by decide +kernel
theorem d_mo_sort_1 : decode b_mo_sort 1 = .ok (.istore_n 2, 1) := by decide +kernel
theorem d_mo_sort_2 : decode b_mo_sort 2 = .ok (.iload_n 2, 1) := by decide +kernel
theorem d_mo_sort_3 : decode b_mo_sort 3 = .ok (.aload_n 0, 1) := by decide +kernel
theorem d_mo_sort_4 : decode b_mo_sort 4 = .ok (.getfield 119, 3) := by decide +kernel
theorem d_mo_sort_7 : decode b_mo_sort 7 = .ok (.if_icmp .ge 16, 3) := by decide +kernel
theorem d_mo_sort_10 : decode b_mo_sort 10 = .ok (.aload_n 0, 1) := by decide +kernel
theorem d_mo_sort_11 : decode b_mo_sort 11 = .ok (.getfield 51, 3) := by decide +kernel
theorem d_mo_sort_14 : decode b_mo_sort 14 = .ok (.iload_n 2, 1) := by decide +kernel
theorem d_mo_sort_15 : decode b_mo_sort 15 = .ok (.iload_n 2, 1) := by decide +kernel
theorem d_mo_sort_16 : decode b_mo_sort 16 = .ok (.iastore, 1) := by decide +kernel
theorem d_mo_sort_17 : decode b_mo_sort 17 = .ok (.iinc 2 1, 3) := by decide +kernel
theorem d_mo_sort_20 : decode b_mo_sort 20 = .ok (.goto (-18), 3) := by decide +kernel
theorem d_mo_sort_23 : decode b_mo_sort 23 = .ok (.sipush 3280, 3) := by decide +kernel
theorem d_mo_sort_26 : decode b_mo_sort 26 = .ok (.istore_n 2, 1) := by decide +kernel
theorem d_mo_sort_27 : decode b_mo_sort 27 = .ok (.iload_n 2, 1) := by decide +kernel
theorem d_mo_sort_28 : decode b_mo_sort 28 = .ok (.ifCond .le 98, 3) := by decide +kernel
theorem d_mo_sort_31 : decode b_mo_sort 31 = .ok (.iload_n 2, 1) := by decide +kernel
theorem d_mo_sort_32 : decode b_mo_sort 32 = .ok (.istore_n 3, 1) := by decide +kernel
theorem d_mo_sort_33 : decode b_mo_sort 33 = .ok (.iload_n 3, 1) := by decide +kernel
theorem d_mo_sort_34 : decode b_mo_sort 34 = .ok (.aload_n 0, 1) := by decide +kernel
theorem d_mo_sort_35 : decode b_mo_sort 35 = .ok (.getfield 119, 3) := by decide +kernel
theorem d_mo_sort_38 : decode b_mo_sort 38 = .ok (.if_icmp .ge 79, 3) := by decide +kernel
theorem d_mo_sort_41 : decode b_mo_sort 41 = .ok (.aload_n 0, 1) := by decide +kernel
theorem d_mo_sort_42 : decode b_mo_sort 42 = .ok (.getfield 51, 3) := by decide +kernel
theorem d_mo_sort_45 : decode b_mo_sort 45 = .ok (.iload_n 3, 1) := by decide +kernel
theorem d_mo_sort_46 : decode b_mo_sort 46 = .ok (.iaload, 1) := by decide +kernel
theorem d_mo_sort_47 : decode b_mo_sort 47 = .ok (.istore 4, 2) := by decide +kernel
theorem d_mo_sort_49 : decode b_mo_sort 49 = .ok (.iload_n 3, 1) := by decide +kernel
theorem d_mo_sort_50 : decode b_mo_sort 50 = .ok (.istore 5, 2) := by decide +kernel
theorem d_mo_sort_52 : decode b_mo_sort 52 = .ok (.iload 5, 2) := by decide +kernel
theorem d_mo_sort_54 : decode b_mo_sort 54 = .ok (.iload_n 2, 1) := by decide +kernel
theorem d_mo_sort_55 : decode b_mo_sort 55 = .ok (.if_icmp .lt 47, 3) := by decide +kernel
theorem d_mo_sort_58 : decode b_mo_sort 58 = .ok (.aload_n 0, 1) := by decide +kernel
theorem d_mo_sort_59 : decode b_mo_sort 59 = .ok (.iload 4, 2) := by decide +kernel
theorem d_mo_sort_61 : decode b_mo_sort 61 = .ok (.aload_n 0, 1) := by decide +kernel
theorem d_mo_sort_62 : decode b_mo_sort 62 = .ok (.getfield 51, 3) := by decide +kernel
theorem d_mo_sort_65 : decode b_mo_sort 65 = .ok (.iload 5, 2) := by decide +kernel
theorem d_mo_sort_67 : decode b_mo_sort 67 = .ok (.iload_n 2, 1) := by decide +kernel
theorem d_mo_sort_68 : decode b_mo_sort 68 = .ok (.isub, 1) := by decide +kernel
theorem d_mo_sort_69 : decode b_mo_sort 69 = .ok (.iaload, 1) := by decide +kernel
theorem d_mo_sort_70 : decode b_mo_sort 70 = .ok (.iload_n 1, 1) := by decide +kernel
theorem d_mo_sort_71 : decode b_mo_sort 71 = .ok (.invokevirtual 160, 3) := by decide +kernel
theorem d_mo_sort_74 : decode b_mo_sort 74 = .ok (.ifCond .ge 28, 3) := by decide +kernel
theorem d_mo_sort_77 : decode b_mo_sort 77 = .ok (.aload_n 0, 1) := by decide +kernel
theorem d_mo_sort_78 : decode b_mo_sort 78 = .ok (.getfield 51, 3) := by decide +kernel
theorem d_mo_sort_81 : decode b_mo_sort 81 = .ok (.iload 5, 2) := by decide +kernel
theorem d_mo_sort_83 : decode b_mo_sort 83 = .ok (.aload_n 0, 1) := by decide +kernel
theorem d_mo_sort_84 : decode b_mo_sort 84 = .ok (.getfield 51, 3) := by decide +kernel
theorem d_mo_sort_87 : decode b_mo_sort 87 = .ok (.iload 5, 2) := by decide +kernel
theorem d_mo_sort_89 : decode b_mo_sort 89 = .ok (.iload_n 2, 1) := by decide +kernel
theorem d_mo_sort_90 : decode b_mo_sort 90 = .ok (.isub, 1) := by decide +kernel
theorem d_mo_sort_91 : decode b_mo_sort 91 = .ok (.iaload, 1) := by decide +kernel
theorem d_mo_sort_92 : decode b_mo_sort 92 = .ok (.iastore, 1) := by decide +kernel
theorem d_mo_sort_93 : decode b_mo_sort 93 = .ok (.iload 5, 2) := by decide +kernel
theorem d_mo_sort_95 : decode b_mo_sort 95 = .ok (.iload_n 2, 1) := by decide +kernel
theorem d_mo_sort_96 : decode b_mo_sort 96 = .ok (.isub, 1) := by decide +kernel
theorem d_mo_sort_97 : decode b_mo_sort 97 = .ok (.istore 5, 2) := by decide +kernel
theorem d_mo_sort_99 : decode b_mo_sort 99 = .ok (.goto (-47), 3) := by decide +kernel
theorem d_mo_sort_102 : decode b_mo_sort 102 = .ok (.aload_n 0, 1) := by decide +kernel
theorem d_mo_sort_103 : decode b_mo_sort 103 = .ok (.getfield 51, 3) := by decide +kernel
theorem d_mo_sort_106 : decode b_mo_sort 106 = .ok (.iload 5, 2) := by decide +kernel
theorem d_mo_sort_108 : decode b_mo_sort 108 = .ok (.iload 4, 2) := by decide +kernel
theorem d_mo_sort_110 : decode b_mo_sort 110 = .ok (.iastore, 1) := by decide +kernel
theorem d_mo_sort_111 : decode b_mo_sort 111 = .ok (.iinc 3 1, 3) := by decide +kernel
theorem d_mo_sort_114 : decode b_mo_sort 114 = .ok (.goto (-81), 3) := by decide +kernel
theorem d_mo_sort_117 : decode b_mo_sort 117 = .ok (.iload_n 2, 1) := by decide +kernel
theorem d_mo_sort_118 : decode b_mo_sort 118 = .ok (.iconst 1, 1) := by decide +kernel
theorem d_mo_sort_119 : decode b_mo_sort 119 = .ok (.isub, 1) := by decide +kernel
theorem d_mo_sort_120 : decode b_mo_sort 120 = .ok (.iconst 3, 1) := by decide +kernel
theorem d_mo_sort_121 : decode b_mo_sort 121 = .ok (.idiv, 1) := by decide +kernel
theorem d_mo_sort_122 : decode b_mo_sort 122 = .ok (.istore_n 2, 1) := by decide +kernel
theorem d_mo_sort_123 : decode b_mo_sort 123 = .ok (.goto (-96), 3) := by decide +kernel
theorem d_mo_sort_126 : decode b_mo_sort 126 = .ok (.return_, 1) := by decide +kernel
abbrev y_mo_orderNow : MethodName := ⟨"PacketOrderModel", "orderNow", "()I"⟩
abbrev b_mo_orderNow : ByteArray := prog_8_method_26_code
theorem d_mo_orderNow_0 : decode b_mo_orderNow 0 = .ok (.aload_n 0, 1) := by decide +kernel
theorem d_mo_orderNow_1 : decode b_mo_orderNow 1 = .ok (.getfield 90, 3) := by decide +kernel
theorem d_mo_orderNow_4 : decode b_mo_orderNow 4 = .ok (.ifCond .ne 10, 3) := by decide +kernel
theorem d_mo_orderNow_7 : decode b_mo_orderNow 7 = .ok (.aload_n 0, 1) := by decide +kernel
theorem d_mo_orderNow_8 : decode b_mo_orderNow 8 = .ok (.getfield 87, 3) := by decide +kernel
theorem d_mo_orderNow_11 : decode b_mo_orderNow 11 = .ok (.goto 17, 3) := by decide +kernel
theorem d_mo_orderNow_14 : decode b_mo_orderNow 14 = .ok (.aload_n 0, 1) := by decide +kernel
theorem d_mo_orderNow_15 : decode b_mo_orderNow 15 = .ok (.getfield 29, 3) := by decide +kernel
theorem d_mo_orderNow_18 : decode b_mo_orderNow 18 = .ok (.bipush 6, 2) := by decide +kernel
theorem d_mo_orderNow_20 : decode b_mo_orderNow 20 = .ok (.aload_n 0, 1) := by decide +kernel
theorem d_mo_orderNow_21 : decode b_mo_orderNow 21 = .ok (.getfield 138, 3) := by decide +kernel
theorem d_mo_orderNow_24 : decode b_mo_orderNow 24 = .ok (.imul, 1) := by decide +kernel
theorem d_mo_orderNow_25 : decode b_mo_orderNow 25 = .ok (.iconst 5, 1) := by decide +kernel
theorem d_mo_orderNow_26 : decode b_mo_orderNow 26 = .ok (.iadd, 1) := by decide +kernel
theorem d_mo_orderNow_27 : decode b_mo_orderNow 27 = .ok (.iaload, 1) := by decide +kernel
theorem d_mo_orderNow_28 : decode b_mo_orderNow 28 = .ok (.ireturn, 1) := by decide +kernel
abbrev y_mo_layerEnd : MethodName := ⟨"PacketOrderModel", "layerEnd", "()I"⟩
abbrev b_mo_layerEnd : ByteArray := prog_8_method_27_code
theorem d_mo_layerEnd_0 : decode b_mo_layerEnd 0 = .ok (.aload_n 0, 1) := by decide +kernel
theorem d_mo_layerEnd_1 : decode b_mo_layerEnd 1 = .ok (.getfield 90, 3) := by decide +kernel
theorem d_mo_layerEnd_4 : decode b_mo_layerEnd 4 = .ok (.ifCond .ne 9, 3) := by decide +kernel
theorem d_mo_layerEnd_7 : decode b_mo_layerEnd 7 = .ok (.sipush 255, 3) := by decide +kernel
theorem d_mo_layerEnd_10 : decode b_mo_layerEnd 10 = .ok (.goto 17, 3) := by decide +kernel
theorem d_mo_layerEnd_13 : decode b_mo_layerEnd 13 = .ok (.aload_n 0, 1) := by decide +kernel
theorem d_mo_layerEnd_14 : decode b_mo_layerEnd 14 = .ok (.getfield 29, 3) := by decide +kernel
theorem d_mo_layerEnd_17 : decode b_mo_layerEnd 17 = .ok (.bipush 6, 2) := by decide +kernel
theorem d_mo_layerEnd_19 : decode b_mo_layerEnd 19 = .ok (.aload_n 0, 1) := by decide +kernel
theorem d_mo_layerEnd_20 : decode b_mo_layerEnd 20 = .ok (.getfield 138, 3) := by decide +kernel
theorem d_mo_layerEnd_23 : decode b_mo_layerEnd 23 = .ok (.imul, 1) := by decide +kernel
theorem d_mo_layerEnd_24 : decode b_mo_layerEnd 24 = .ok (.iconst 4, 1) := by decide +kernel
theorem d_mo_layerEnd_25 : decode b_mo_layerEnd 25 = .ok (.iadd, 1) := by decide +kernel
theorem d_mo_layerEnd_26 : decode b_mo_layerEnd 26 = .ok (.iaload, 1) := by decide +kernel
theorem d_mo_layerEnd_27 : decode b_mo_layerEnd 27 = .ok (.istore_n 1, 1) := by decide +kernel
theorem d_mo_layerEnd_28 : decode b_mo_layerEnd 28 = .ok (.iload_n 1, 1) := by decide +kernel
theorem d_mo_layerEnd_29 : decode b_mo_layerEnd 29 = .ok (.aload_n 0, 1) := by decide +kernel
theorem d_mo_layerEnd_30 : decode b_mo_layerEnd 30 = .ok (.getfield 25, 3) := by decide +kernel
theorem d_mo_layerEnd_33 : decode b_mo_layerEnd 33 = .ok (.if_icmp .ge 7, 3) := by decide +kernel
theorem d_mo_layerEnd_36 : decode b_mo_layerEnd 36 = .ok (.iload_n 1, 1) := by decide +kernel
theorem d_mo_layerEnd_37 : decode b_mo_layerEnd 37 = .ok (.goto 7, 3) := by decide +kernel
theorem d_mo_layerEnd_40 : decode b_mo_layerEnd 40 = .ok (.aload_n 0, 1) := by decide +kernel
theorem d_mo_layerEnd_41 : decode b_mo_layerEnd 41 = .ok (.getfield 25, 3) := by decide +kernel
theorem d_mo_layerEnd_44 : decode b_mo_layerEnd 44 = .ok (.ireturn, 1) := by decide +kernel
abbrev y_mo_ways : MethodName := ⟨"PacketOrderModel", "ways", "()I"⟩
abbrev b_mo_ways : ByteArray := prog_8_method_28_code
theorem d_mo_ways_0 : decode b_mo_ways 0 = .ok (.aload_n 0, 1) := by decide +kernel
theorem d_mo_ways_1 : decode b_mo_ways 1 = .ok (.getfield 90, 3) := by decide +kernel
theorem d_mo_ways_4 : decode b_mo_ways 4 = .ok (.ifCond .ne 7, 3) := by decide +kernel
theorem d_mo_ways_7 : decode b_mo_ways 7 = .ok (.iconst 1, 1) := by decide +kernel
theorem d_mo_ways_8 : decode b_mo_ways 8 = .ok (.goto 7, 3) := by decide +kernel
theorem d_mo_ways_11 : decode b_mo_ways 11 = .ok (.aload_n 0, 1) := by decide +kernel
theorem d_mo_ways_12 : decode b_mo_ways 12 = .ok (.getfield 90, 3) := by decide +kernel
theorem d_mo_ways_15 : decode b_mo_ways 15 = .ok (.ireturn, 1) := by decide +kernel
abbrev y_mo_belongs : MethodName := ⟨"PacketOrderModel", "belongs", "(I)Z"⟩
abbrev b_mo_belongs : ByteArray := prog_8_method_29_code
theorem d_mo_belongs_0 : decode b_mo_belongs 0 = .ok (.aload_n 0, 1) := by decide +kernel
theorem d_mo_belongs_1 : decode b_mo_belongs 1 = .ok (.getfield 90, 3) := by decide +kernel
theorem d_mo_belongs_4 : decode b_mo_belongs 4 = .ok (.ifCond .ne 5, 3) := by decide +kernel
theorem d_mo_belongs_7 : decode b_mo_belongs 7 = .ok (.iconst 1, 1) := by decide +kernel
theorem d_mo_belongs_8 : decode b_mo_belongs 8 = .ok (.ireturn, 1) := by decide +kernel
theorem d_mo_belongs_9 : decode b_mo_belongs 9 = .ok (.bipush 6, 2) := by decide +kernel
theorem d_mo_belongs_11 : decode b_mo_belongs 11 = .ok (.aload_n 0, 1) := by decide +kernel
theorem d_mo_belongs_12 : decode b_mo_belongs 12 = .ok (.getfield 138, 3) := by decide +kernel
theorem d_mo_belongs_15 : decode b_mo_belongs 15 = .ok (.imul, 1) := by decide +kernel
theorem d_mo_belongs_16 : decode b_mo_belongs 16 = .ok (.istore_n 2, 1) := by decide +kernel
theorem d_mo_belongs_17 : decode b_mo_belongs 17 = .ok (.aload_n 0, 1) := by decide +kernel
theorem d_mo_belongs_18 : decode b_mo_belongs 18 = .ok (.getfield 35, 3) := by decide +kernel
theorem d_mo_belongs_21 : decode b_mo_belongs 21 = .ok (.iload_n 1, 1) := by decide +kernel
theorem d_mo_belongs_22 : decode b_mo_belongs 22 = .ok (.iaload, 1) := by decide +kernel
theorem d_mo_belongs_23 : decode b_mo_belongs 23 = .ok (.aload_n 0, 1) := by decide +kernel
theorem d_mo_belongs_24 : decode b_mo_belongs 24 = .ok (.getfield 29, 3) := by decide +kernel
theorem d_mo_belongs_27 : decode b_mo_belongs 27 = .ok (.iload_n 2, 1) := by decide +kernel
theorem d_mo_belongs_28 : decode b_mo_belongs 28 = .ok (.iaload, 1) := by decide +kernel
theorem d_mo_belongs_29 : decode b_mo_belongs 29 = .ok (.if_icmp .lt 58, 3) := by decide +kernel
theorem d_mo_belongs_32 : decode b_mo_belongs 32 = .ok (.aload_n 0, 1) := by decide +kernel
theorem d_mo_belongs_33 : decode b_mo_belongs 33 = .ok (.getfield 35, 3) := by decide +kernel
theorem d_mo_belongs_36 : decode b_mo_belongs 36 = .ok (.iload_n 1, 1) := by decide +kernel
theorem d_mo_belongs_37 : decode b_mo_belongs 37 = .ok (.iaload, 1) := by decide +kernel
theorem d_mo_belongs_38 : decode b_mo_belongs 38 = .ok (.aload_n 0, 1) := by decide +kernel
theorem d_mo_belongs_39 : decode b_mo_belongs 39 = .ok (.getfield 29, 3) := by decide +kernel
theorem d_mo_belongs_42 : decode b_mo_belongs 42 = .ok (.iload_n 2, 1) := by decide +kernel
theorem d_mo_belongs_43 : decode b_mo_belongs 43 = .ok (.iconst 1, 1) := by decide +kernel
theorem d_mo_belongs_44 : decode b_mo_belongs 44 = .ok (.iadd, 1) := by decide +kernel
theorem d_mo_belongs_45 : decode b_mo_belongs 45 = .ok (.iaload, 1) := by decide +kernel
theorem d_mo_belongs_46 : decode b_mo_belongs 46 = .ok (.if_icmp .ge 41, 3) := by decide +kernel
theorem d_mo_belongs_49 : decode b_mo_belongs 49 = .ok (.aload_n 0, 1) := by decide +kernel
theorem d_mo_belongs_50 : decode b_mo_belongs 50 = .ok (.getfield 32, 3) := by decide +kernel
theorem d_mo_belongs_53 : decode b_mo_belongs 53 = .ok (.iload_n 1, 1) := by decide +kernel
theorem d_mo_belongs_54 : decode b_mo_belongs 54 = .ok (.iaload, 1) := by decide +kernel
theorem d_mo_belongs_55 : decode b_mo_belongs 55 = .ok (.aload_n 0, 1) := by decide +kernel
theorem d_mo_belongs_56 : decode b_mo_belongs 56 = .ok (.getfield 29, 3) := by decide +kernel
theorem d_mo_belongs_59 : decode b_mo_belongs 59 = .ok (.iload_n 2, 1) := by decide +kernel
theorem d_mo_belongs_60 : decode b_mo_belongs 60 = .ok (.iconst 2, 1) := by decide +kernel
theorem d_mo_belongs_61 : decode b_mo_belongs 61 = .ok (.iadd, 1) := by decide +kernel
theorem d_mo_belongs_62 : decode b_mo_belongs 62 = .ok (.iaload, 1) := by decide +kernel
theorem d_mo_belongs_63 : decode b_mo_belongs 63 = .ok (.if_icmp .lt 24, 3) := by decide +kernel
theorem d_mo_belongs_66 : decode b_mo_belongs 66 = .ok (.aload_n 0, 1) := by decide +kernel
theorem d_mo_belongs_67 : decode b_mo_belongs 67 = .ok (.getfield 32, 3) := by decide +kernel
theorem d_mo_belongs_70 : decode b_mo_belongs 70 = .ok (.iload_n 1, 1) := by decide +kernel
theorem d_mo_belongs_71 : decode b_mo_belongs 71 = .ok (.iaload, 1) := by decide +kernel
theorem d_mo_belongs_72 : decode b_mo_belongs 72 = .ok (.aload_n 0, 1) := by decide +kernel
theorem d_mo_belongs_73 : decode b_mo_belongs 73 = .ok (.getfield 29, 3) := by decide +kernel
theorem d_mo_belongs_76 : decode b_mo_belongs 76 = .ok (.iload_n 2, 1) := by decide +kernel
theorem d_mo_belongs_77 : decode b_mo_belongs 77 = .ok (.iconst 3, 1) := by decide +kernel
theorem d_mo_belongs_78 : decode b_mo_belongs 78 = .ok (.iadd, 1) := by decide +kernel
theorem d_mo_belongs_79 : decode b_mo_belongs 79 = .ok (.iaload, 1) := by decide +kernel
theorem d_mo_belongs_80 : decode b_mo_belongs 80 = .ok (.if_icmp .ge 7, 3) := by decide +kernel
theorem d_mo_belongs_83 : decode b_mo_belongs 83 = .ok (.iconst 1, 1) := by decide +kernel
theorem d_mo_belongs_84 : decode b_mo_belongs 84 = .ok (.goto 4, 3) := by decide +kernel
theorem d_mo_belongs_87 : decode b_mo_belongs 87 = .ok (.iconst 0, 1) := by decide +kernel
theorem d_mo_belongs_88 : decode b_mo_belongs 88 = .ok (.ireturn, 1) := by decide +kernel
abbrev y_mo_enter : MethodName := ⟨"PacketOrderModel", "enter", "()V"⟩
abbrev b_mo_enter : ByteArray := prog_8_method_30_code
theorem d_mo_enter_0 : decode b_mo_enter 0 = .ok (.aload_n 0, 1) := by decide +kernel
theorem d_mo_enter_1 : decode b_mo_enter 1 = .ok (.getfield 138, 3) := by decide +kernel
theorem d_mo_enter_4 : decode b_mo_enter 4 = .ok (.aload_n 0, 1) := by decide +kernel
theorem d_mo_enter_5 : decode b_mo_enter 5 = .ok (.invokevirtual 164, 3) := by decide +kernel
theorem d_mo_enter_8 : decode b_mo_enter 8 = .ok (.if_icmp .lt 4, 3) := by decide +kernel
theorem d_mo_enter_11 : decode b_mo_enter 11 = .ok (.return_, 1) := by decide +kernel
theorem d_mo_enter_12 : decode b_mo_enter 12 = .ok (.aload_n 0, 1) := by decide +kernel
theorem d_mo_enter_13 : decode b_mo_enter 13 = .ok (.aload_n 0, 1) := by decide +kernel
theorem d_mo_enter_14 : decode b_mo_enter 14 = .ok (.invokevirtual 168, 3) := by decide +kernel
theorem d_mo_enter_17 : decode b_mo_enter 17 = .ok (.invokevirtual 171, 3) := by decide +kernel
theorem d_mo_enter_20 : decode b_mo_enter 20 = .ok (.aload_n 0, 1) := by decide +kernel
theorem d_mo_enter_21 : decode b_mo_enter 21 = .ok (.iconst 0, 1) := by decide +kernel
theorem d_mo_enter_22 : decode b_mo_enter 22 = .ok (.putfield 175, 3) := by decide +kernel
theorem d_mo_enter_25 : decode b_mo_enter 25 = .ok (.aload_n 0, 1) := by decide +kernel
theorem d_mo_enter_26 : decode b_mo_enter 26 = .ok (.invokevirtual 178, 3) := by decide +kernel
theorem d_mo_enter_29 : decode b_mo_enter 29 = .ok (.aload_n 0, 1) := by decide +kernel
theorem d_mo_enter_30 : decode b_mo_enter 30 = .ok (.iconst 0, 1) := by decide +kernel
theorem d_mo_enter_31 : decode b_mo_enter 31 = .ok (.putfield 181, 3) := by decide +kernel
theorem d_mo_enter_34 : decode b_mo_enter 34 = .ok (.aload_n 0, 1) := by decide +kernel
theorem d_mo_enter_35 : decode b_mo_enter 35 = .ok (.iconst 0, 1) := by decide +kernel
theorem d_mo_enter_36 : decode b_mo_enter 36 = .ok (.putfield 184, 3) := by decide +kernel
theorem d_mo_enter_39 : decode b_mo_enter 39 = .ok (.return_, 1) := by decide +kernel
abbrev y_mo_findGroup : MethodName := ⟨"PacketOrderModel", "findGroup", "()V"⟩
abbrev b_mo_findGroup : ByteArray := prog_8_method_31_code
theorem d_mo_findGroup_0 : decode b_mo_findGroup 0 = .ok (.aload_n 0, 1) := by decide +kernel
theorem d_mo_findGroup_1 : decode b_mo_findGroup 1 = .ok (.invokevirtual 168, 3) := by decide +kernel
theorem d_mo_findGroup_4 : decode b_mo_findGroup 4 = .ok (.istore_n 1, 1) := by decide +kernel
theorem d_mo_findGroup_5 : decode b_mo_findGroup 5 = .ok (.aload_n 0, 1) := by decide +kernel
theorem d_mo_findGroup_6 : decode b_mo_findGroup 6 = .ok (.iload_n 1, 1) := by decide +kernel
theorem d_mo_findGroup_7 : decode b_mo_findGroup 7 = .ok (.ifCond .ne 10, 3) := by decide +kernel
theorem d_mo_findGroup_10 : decode b_mo_findGroup 10 = .ok (.aload_n 0, 1) := by decide +kernel
theorem d_mo_findGroup_11 : decode b_mo_findGroup 11 = .ok (.getfield 119, 3) := by decide +kernel
theorem d_mo_findGroup_14 : decode b_mo_findGroup 14 = .ok (.goto 9, 3) := by decide +kernel
theorem d_mo_findGroup_17 : decode b_mo_findGroup 17 = .ok (.aload_n 0, 1) := by decide +kernel
theorem d_mo_findGroup_18 : decode b_mo_findGroup 18 = .ok (.getfield 175, 3) := by decide +kernel
theorem d_mo_findGroup_21 : decode b_mo_findGroup 21 = .ok (.iconst 1, 1) := by decide +kernel
theorem d_mo_findGroup_22 : decode b_mo_findGroup 22 = .ok (.iadd, 1) := by decide +kernel
theorem d_mo_findGroup_23 : decode b_mo_findGroup 23 = .ok (.putfield 187, 3) := by decide +kernel
theorem d_mo_findGroup_26 : decode b_mo_findGroup 26 = .ok (.iload_n 1, 1) := by decide +kernel
theorem d_mo_findGroup_27 : decode b_mo_findGroup 27 = .ok (.iconst 1, 1) := by decide +kernel
theorem d_mo_findGroup_28 : decode b_mo_findGroup 28 = .ok (.if_icmp .ne 58, 3) := by decide +kernel
theorem d_mo_findGroup_31 : decode b_mo_findGroup 31 = .ok (.aload_n 0, 1) := by decide +kernel
theorem d_mo_findGroup_32 : decode b_mo_findGroup 32 = .ok (.getfield 187, 3) := by decide +kernel
theorem d_mo_findGroup_35 : decode b_mo_findGroup 35 = .ok (.aload_n 0, 1) := by decide +kernel
theorem d_mo_findGroup_36 : decode b_mo_findGroup 36 = .ok (.getfield 119, 3) := by decide +kernel
theorem d_mo_findGroup_39 : decode b_mo_findGroup 39 = .ok (.if_icmp .ge 47, 3) := by decide +kernel
theorem d_mo_findGroup_42 : decode b_mo_findGroup 42 = .ok (.aload_n 0, 1) := by decide +kernel
theorem d_mo_findGroup_43 : decode b_mo_findGroup 43 = .ok (.getfield 35, 3) := by decide +kernel
theorem d_mo_findGroup_46 : decode b_mo_findGroup 46 = .ok (.aload_n 0, 1) := by decide +kernel
theorem d_mo_findGroup_47 : decode b_mo_findGroup 47 = .ok (.getfield 51, 3) := by decide +kernel
theorem d_mo_findGroup_50 : decode b_mo_findGroup 50 = .ok (.aload_n 0, 1) := by decide +kernel
theorem d_mo_findGroup_51 : decode b_mo_findGroup 51 = .ok (.getfield 187, 3) := by decide +kernel
theorem d_mo_findGroup_54 : decode b_mo_findGroup 54 = .ok (.iaload, 1) := by decide +kernel
theorem d_mo_findGroup_55 : decode b_mo_findGroup 55 = .ok (.iaload, 1) := by decide +kernel
theorem d_mo_findGroup_56 : decode b_mo_findGroup 56 = .ok (.aload_n 0, 1) := by decide +kernel
theorem d_mo_findGroup_57 : decode b_mo_findGroup 57 = .ok (.getfield 35, 3) := by decide +kernel
theorem d_mo_findGroup_60 : decode b_mo_findGroup 60 = .ok (.aload_n 0, 1) := by decide +kernel
theorem d_mo_findGroup_61 : decode b_mo_findGroup 61 = .ok (.getfield 51, 3) := by decide +kernel
theorem d_mo_findGroup_64 : decode b_mo_findGroup 64 = .ok (.aload_n 0, 1) := by decide +kernel
theorem d_mo_findGroup_65 : decode b_mo_findGroup 65 = .ok (.getfield 175, 3) := by decide +kernel
theorem d_mo_findGroup_68 : decode b_mo_findGroup 68 = .ok (.iaload, 1) := by decide +kernel
theorem d_mo_findGroup_69 : decode b_mo_findGroup 69 = .ok (.iaload, 1) := by decide +kernel
theorem d_mo_findGroup_70 : decode b_mo_findGroup 70 = .ok (.if_icmp .ne 16, 3) := by decide +kernel
theorem d_mo_findGroup_73 : decode b_mo_findGroup 73 = .ok (.aload_n 0, 1) := by decide +kernel
theorem d_mo_findGroup_74 : decode b_mo_findGroup 74 = .ok (.dup, 1) := by decide +kernel
theorem d_mo_findGroup_75 : decode b_mo_findGroup 75 = .ok (.getfield 187, 3) := by decide +kernel
theorem d_mo_findGroup_78 : decode b_mo_findGroup 78 = .ok (.iconst 1, 1) := by decide +kernel
theorem d_mo_findGroup_79 : decode b_mo_findGroup 79 = .ok (.iadd, 1) := by decide +kernel
theorem d_mo_findGroup_80 : decode b_mo_findGroup 80 = .ok (.putfield 187, 3) := by decide +kernel
theorem d_mo_findGroup_83 : decode b_mo_findGroup 83 = .ok (.goto (-57), 3) := by decide +kernel
theorem d_mo_findGroup_86 : decode b_mo_findGroup 86 = .ok (.return_, 1) := by decide +kernel
abbrev y_mo_move : MethodName := ⟨"PacketOrderModel", "move", "()V"⟩
abbrev b_mo_move : ByteArray := prog_8_method_32_code
theorem d_mo_move_0 : decode b_mo_move 0 = .ok (.aload_n 0, 1) := by decide +kernel
theorem d_mo_move_1 : decode b_mo_move 1 = .ok (.dup, 1) := by decide +kernel
theorem d_mo_move_2 : decode b_mo_move 2 = .ok (.getfield 184, 3) := by decide +kernel
theorem d_mo_move_5 : decode b_mo_move 5 = .ok (.iconst 1, 1) := by decide +kernel
theorem d_mo_move_6 : decode b_mo_move 6 = .ok (.iadd, 1) := by decide +kernel
theorem d_mo_move_7 : decode b_mo_move 7 = .ok (.putfield 184, 3) := by decide +kernel
theorem d_mo_move_10 : decode b_mo_move 10 = .ok (.aload_n 0, 1) := by decide +kernel
theorem d_mo_move_11 : decode b_mo_move 11 = .ok (.getfield 184, 3) := by decide +kernel
theorem d_mo_move_14 : decode b_mo_move 14 = .ok (.aload_n 0, 1) := by decide +kernel
theorem d_mo_move_15 : decode b_mo_move 15 = .ok (.getfield 187, 3) := by decide +kernel
theorem d_mo_move_18 : decode b_mo_move 18 = .ok (.if_icmp .ge 4, 3) := by decide +kernel
theorem d_mo_move_21 : decode b_mo_move 21 = .ok (.return_, 1) := by decide +kernel
theorem d_mo_move_22 : decode b_mo_move 22 = .ok (.aload_n 0, 1) := by decide +kernel
theorem d_mo_move_23 : decode b_mo_move 23 = .ok (.dup, 1) := by decide +kernel
theorem d_mo_move_24 : decode b_mo_move 24 = .ok (.getfield 181, 3) := by decide +kernel
theorem d_mo_move_27 : decode b_mo_move 27 = .ok (.iconst 1, 1) := by decide +kernel
theorem d_mo_move_28 : decode b_mo_move 28 = .ok (.iadd, 1) := by decide +kernel
theorem d_mo_move_29 : decode b_mo_move 29 = .ok (.putfield 181, 3) := by decide +kernel
theorem d_mo_move_32 : decode b_mo_move 32 = .ok (.aload_n 0, 1) := by decide +kernel
theorem d_mo_move_33 : decode b_mo_move 33 = .ok (.aload_n 0, 1) := by decide +kernel
theorem d_mo_move_34 : decode b_mo_move 34 = .ok (.getfield 175, 3) := by decide +kernel
theorem d_mo_move_37 : decode b_mo_move 37 = .ok (.putfield 184, 3) := by decide +kernel
theorem d_mo_move_40 : decode b_mo_move 40 = .ok (.aload_n 0, 1) := by decide +kernel
theorem d_mo_move_41 : decode b_mo_move 41 = .ok (.getfield 181, 3) := by decide +kernel
theorem d_mo_move_44 : decode b_mo_move 44 = .ok (.aload_n 0, 1) := by decide +kernel
theorem d_mo_move_45 : decode b_mo_move 45 = .ok (.invokevirtual 190, 3) := by decide +kernel
theorem d_mo_move_48 : decode b_mo_move 48 = .ok (.if_icmp .ge 4, 3) := by decide +kernel
theorem d_mo_move_51 : decode b_mo_move 51 = .ok (.return_, 1) := by decide +kernel
theorem d_mo_move_52 : decode b_mo_move 52 = .ok (.aload_n 0, 1) := by decide +kernel
theorem d_mo_move_53 : decode b_mo_move 53 = .ok (.iconst 0, 1) := by decide +kernel
theorem d_mo_move_54 : decode b_mo_move 54 = .ok (.putfield 181, 3) := by decide +kernel
theorem d_mo_move_57 : decode b_mo_move 57 = .ok (.aload_n 0, 1) := by decide +kernel
theorem d_mo_move_58 : decode b_mo_move 58 = .ok (.aload_n 0, 1) := by decide +kernel
theorem d_mo_move_59 : decode b_mo_move 59 = .ok (.getfield 187, 3) := by decide +kernel
theorem d_mo_move_62 : decode b_mo_move 62 = .ok (.putfield 175, 3) := by decide +kernel
theorem d_mo_move_65 : decode b_mo_move 65 = .ok (.aload_n 0, 1) := by decide +kernel
theorem d_mo_move_66 : decode b_mo_move 66 = .ok (.aload_n 0, 1) := by decide +kernel
theorem d_mo_move_67 : decode b_mo_move 67 = .ok (.getfield 175, 3) := by decide +kernel
theorem d_mo_move_70 : decode b_mo_move 70 = .ok (.putfield 184, 3) := by decide +kernel
theorem d_mo_move_73 : decode b_mo_move 73 = .ok (.aload_n 0, 1) := by decide +kernel
theorem d_mo_move_74 : decode b_mo_move 74 = .ok (.getfield 175, 3) := by decide +kernel
theorem d_mo_move_77 : decode b_mo_move 77 = .ok (.aload_n 0, 1) := by decide +kernel
theorem d_mo_move_78 : decode b_mo_move 78 = .ok (.getfield 119, 3) := by decide +kernel
theorem d_mo_move_81 : decode b_mo_move 81 = .ok (.if_icmp .ge 10, 3) := by decide +kernel
theorem d_mo_move_84 : decode b_mo_move 84 = .ok (.aload_n 0, 1) := by decide +kernel
theorem d_mo_move_85 : decode b_mo_move 85 = .ok (.invokevirtual 178, 3) := by decide +kernel
theorem d_mo_move_88 : decode b_mo_move 88 = .ok (.goto 17, 3) := by decide +kernel
theorem d_mo_move_91 : decode b_mo_move 91 = .ok (.aload_n 0, 1) := by decide +kernel
theorem d_mo_move_92 : decode b_mo_move 92 = .ok (.dup, 1) := by decide +kernel
theorem d_mo_move_93 : decode b_mo_move 93 = .ok (.getfield 138, 3) := by decide +kernel
theorem d_mo_move_96 : decode b_mo_move 96 = .ok (.iconst 1, 1) := by decide +kernel
theorem d_mo_move_97 : decode b_mo_move 97 = .ok (.iadd, 1) := by decide +kernel
theorem d_mo_move_98 : decode b_mo_move 98 = .ok (.putfield 138, 3) := by decide +kernel
theorem d_mo_move_101 : decode b_mo_move 101 = .ok (.aload_n 0, 1) := by decide +kernel
theorem d_mo_move_102 : decode b_mo_move 102 = .ok (.invokevirtual 141, 3) := by decide +kernel
theorem d_mo_move_105 : decode b_mo_move 105 = .ok (.return_, 1) := by decide +kernel
abbrev y_mo_advance : MethodName := ⟨"PacketOrderModel", "advance", "()Z"⟩
abbrev b_mo_advance : ByteArray := prog_8_method_33_code
theorem d_mo_advance_0 : decode b_mo_advance 0 = .ok (.iconst 0, 1) := by decide +kernel
theorem d_mo_advance_1 : decode b_mo_advance 1 = .ok (.istore_n 1, 1) := by decide +kernel
theorem d_mo_advance_2 : decode b_mo_advance 2 = .ok (.iload_n 1, 1) := by decide +kernel
theorem d_mo_advance_3 : decode b_mo_advance 3 = .ok (.ifCond .ne 105, 3) := by decide +kernel
theorem d_mo_advance_6 : decode b_mo_advance 6 = .ok (.aload_n 0, 1) := by decide +kernel
theorem d_mo_advance_7 : decode b_mo_advance 7 = .ok (.getfield 138, 3) := by decide +kernel
theorem d_mo_advance_10 : decode b_mo_advance 10 = .ok (.aload_n 0, 1) := by decide +kernel
theorem d_mo_advance_11 : decode b_mo_advance 11 = .ok (.invokevirtual 164, 3) := by decide +kernel
theorem d_mo_advance_14 : decode b_mo_advance 14 = .ok (.if_icmp .ge 94, 3) := by decide +kernel
theorem d_mo_advance_17 : decode b_mo_advance 17 = .ok (.aload_n 0, 1) := by decide +kernel
theorem d_mo_advance_18 : decode b_mo_advance 18 = .ok (.getfield 119, 3) := by decide +kernel
theorem d_mo_advance_21 : decode b_mo_advance 21 = .ok (.ifCond .le 87, 3) := by decide +kernel
theorem d_mo_advance_24 : decode b_mo_advance 24 = .ok (.aload_n 0, 1) := by decide +kernel
theorem d_mo_advance_25 : decode b_mo_advance 25 = .ok (.getfield 51, 3) := by decide +kernel
theorem d_mo_advance_28 : decode b_mo_advance 28 = .ok (.aload_n 0, 1) := by decide +kernel
theorem d_mo_advance_29 : decode b_mo_advance 29 = .ok (.getfield 184, 3) := by decide +kernel
theorem d_mo_advance_32 : decode b_mo_advance 32 = .ok (.iaload, 1) := by decide +kernel
theorem d_mo_advance_33 : decode b_mo_advance 33 = .ok (.istore_n 2, 1) := by decide +kernel
theorem d_mo_advance_34 : decode b_mo_advance 34 = .ok (.aload_n 0, 1) := by decide +kernel
theorem d_mo_advance_35 : decode b_mo_advance 35 = .ok (.iload_n 2, 1) := by decide +kernel
theorem d_mo_advance_36 : decode b_mo_advance 36 = .ok (.invokevirtual 193, 3) := by decide +kernel
theorem d_mo_advance_39 : decode b_mo_advance 39 = .ok (.ifCond .eq 20, 3) := by decide +kernel
theorem d_mo_advance_42 : decode b_mo_advance 42 = .ok (.aload_n 0, 1) := by decide +kernel
theorem d_mo_advance_43 : decode b_mo_advance 43 = .ok (.getfield 48, 3) := by decide +kernel
theorem d_mo_advance_46 : decode b_mo_advance 46 = .ok (.iload_n 2, 1) := by decide +kernel
theorem d_mo_advance_47 : decode b_mo_advance 47 = .ok (.iaload, 1) := by decide +kernel
theorem d_mo_advance_48 : decode b_mo_advance 48 = .ok (.aload_n 0, 1) := by decide +kernel
theorem d_mo_advance_49 : decode b_mo_advance 49 = .ok (.getfield 181, 3) := by decide +kernel
theorem d_mo_advance_52 : decode b_mo_advance 52 = .ok (.if_icmp .ne 7, 3) := by decide +kernel
theorem d_mo_advance_55 : decode b_mo_advance 55 = .ok (.iconst 1, 1) := by decide +kernel
theorem d_mo_advance_56 : decode b_mo_advance 56 = .ok (.goto 4, 3) := by decide +kernel
theorem d_mo_advance_59 : decode b_mo_advance 59 = .ok (.iconst 0, 1) := by decide +kernel
theorem d_mo_advance_60 : decode b_mo_advance 60 = .ok (.istore_n 1, 1) := by decide +kernel
theorem d_mo_advance_61 : decode b_mo_advance 61 = .ok (.iload_n 1, 1) := by decide +kernel
theorem d_mo_advance_62 : decode b_mo_advance 62 = .ok (.ifCond .eq 39, 3) := by decide +kernel
theorem d_mo_advance_65 : decode b_mo_advance 65 = .ok (.aload_n 0, 1) := by decide +kernel
theorem d_mo_advance_66 : decode b_mo_advance 66 = .ok (.iload_n 2, 1) := by decide +kernel
theorem d_mo_advance_67 : decode b_mo_advance 67 = .ok (.putfield 197, 3) := by decide +kernel
theorem d_mo_advance_70 : decode b_mo_advance 70 = .ok (.aload_n 0, 1) := by decide +kernel
theorem d_mo_advance_71 : decode b_mo_advance 71 = .ok (.aload_n 0, 1) := by decide +kernel
theorem d_mo_advance_72 : decode b_mo_advance 72 = .ok (.getfield 181, 3) := by decide +kernel
theorem d_mo_advance_75 : decode b_mo_advance 75 = .ok (.putfield 200, 3) := by decide +kernel
theorem d_mo_advance_78 : decode b_mo_advance 78 = .ok (.aload_n 0, 1) := by decide +kernel
theorem d_mo_advance_79 : decode b_mo_advance 79 = .ok (.aload_n 0, 1) := by decide +kernel
theorem d_mo_advance_80 : decode b_mo_advance 80 = .ok (.getfield 138, 3) := by decide +kernel
theorem d_mo_advance_83 : decode b_mo_advance 83 = .ok (.putfield 203, 3) := by decide +kernel
theorem d_mo_advance_86 : decode b_mo_advance 86 = .ok (.aload_n 0, 1) := by decide +kernel
theorem d_mo_advance_87 : decode b_mo_advance 87 = .ok (.getfield 48, 3) := by decide +kernel
theorem d_mo_advance_90 : decode b_mo_advance 90 = .ok (.iload_n 2, 1) := by decide +kernel
theorem d_mo_advance_91 : decode b_mo_advance 91 = .ok (.dup2, 1) := by decide +kernel
theorem d_mo_advance_92 : decode b_mo_advance 92 = .ok (.iaload, 1) := by decide +kernel
theorem d_mo_advance_93 : decode b_mo_advance 93 = .ok (.iconst 1, 1) := by decide +kernel
theorem d_mo_advance_94 : decode b_mo_advance 94 = .ok (.iadd, 1) := by decide +kernel
theorem d_mo_advance_95 : decode b_mo_advance 95 = .ok (.iastore, 1) := by decide +kernel
theorem d_mo_advance_96 : decode b_mo_advance 96 = .ok (.aload_n 0, 1) := by decide +kernel
theorem d_mo_advance_97 : decode b_mo_advance 97 = .ok (.iconst 1, 1) := by decide +kernel
theorem d_mo_advance_98 : decode b_mo_advance 98 = .ok (.putfield 135, 3) := by decide +kernel
theorem d_mo_advance_101 : decode b_mo_advance 101 = .ok (.aload_n 0, 1) := by decide +kernel
theorem d_mo_advance_102 : decode b_mo_advance 102 = .ok (.invokevirtual 206, 3) := by decide +kernel
theorem d_mo_advance_105 : decode b_mo_advance 105 = .ok (.goto (-103), 3) := by decide +kernel
theorem d_mo_advance_108 : decode b_mo_advance 108 = .ok (.iload_n 1, 1) := by decide +kernel
theorem d_mo_advance_109 : decode b_mo_advance 109 = .ok (.ireturn, 1) := by decide +kernel
abbrev y_mo_next : MethodName := ⟨"PacketOrderModel", "next", "()Z"⟩
abbrev b_mo_next : ByteArray := prog_8_method_34_code
theorem d_mo_next_0 : decode b_mo_next 0 = .ok (.aload_n 0, 1) := by decide +kernel
theorem d_mo_next_1 : decode b_mo_next 1 = .ok (.aload_n 0, 1) := by decide +kernel
theorem d_mo_next_2 : decode b_mo_next 2 = .ok (.getfield 77, 3) := by decide +kernel
theorem d_mo_next_5 : decode b_mo_next 5 = .ok (.ifCond .ne 7, 3) := by decide +kernel
theorem d_mo_next_8 : decode b_mo_next 8 = .ok (.iconst 1, 1) := by decide +kernel
theorem d_mo_next_9 : decode b_mo_next 9 = .ok (.goto 4, 3) := by decide +kernel
theorem d_mo_next_12 : decode b_mo_next 12 = .ok (.iconst 0, 1) := by decide +kernel
theorem d_mo_next_13 : decode b_mo_next 13 = .ok (.iconst 0, 1) := by decide +kernel
theorem d_mo_next_14 : decode b_mo_next 14 = .ok (.invokevirtual 57, 3) := by decide +kernel
theorem d_mo_next_17 : decode b_mo_next 17 = .ok (.ifCond .eq 5, 3) := by decide +kernel
theorem d_mo_next_20 : decode b_mo_next 20 = .ok (.iconst 0, 1) := by decide +kernel
theorem d_mo_next_21 : decode b_mo_next 21 = .ok (.ireturn, 1) := by decide +kernel
theorem d_mo_next_22 : decode b_mo_next 22 = .ok (.aload_n 0, 1) := by decide +kernel
theorem d_mo_next_23 : decode b_mo_next 23 = .ok (.invokevirtual 209, 3) := by decide +kernel
theorem d_mo_next_26 : decode b_mo_next 26 = .ok (.ireturn, 1) := by decide +kernel
abbrev y_mo_skip : MethodName := ⟨"PacketOrderModel", "skip", "(I)I"⟩
abbrev b_mo_skip : ByteArray := prog_8_method_35_code
theorem d_mo_skip_0 : decode b_mo_skip 0 = .ok (.aload_n 0, 1) := by decide +kernel
theorem d_mo_skip_1 : decode b_mo_skip 1 = .ok (.iload_n 1, 1) := by decide +kernel
theorem d_mo_skip_2 : decode b_mo_skip 2 = .ok (.ifCond .ge 7, 3) := by decide +kernel
theorem d_mo_skip_5 : decode b_mo_skip 5 = .ok (.iconst 1, 1) := by decide +kernel
theorem d_mo_skip_6 : decode b_mo_skip 6 = .ok (.goto 4, 3) := by decide +kernel
theorem d_mo_skip_9 : decode b_mo_skip 9 = .ok (.iconst 0, 1) := by decide +kernel
theorem d_mo_skip_10 : decode b_mo_skip 10 = .ok (.aload_n 0, 1) := by decide +kernel
theorem d_mo_skip_11 : decode b_mo_skip 11 = .ok (.getfield 77, 3) := by decide +kernel
theorem d_mo_skip_14 : decode b_mo_skip 14 = .ok (.ifCond .ne 7, 3) := by decide +kernel
theorem d_mo_skip_17 : decode b_mo_skip 17 = .ok (.iconst 1, 1) := by decide +kernel
theorem d_mo_skip_18 : decode b_mo_skip 18 = .ok (.goto 4, 3) := by decide +kernel
theorem d_mo_skip_21 : decode b_mo_skip 21 = .ok (.iconst 0, 1) := by decide +kernel
theorem d_mo_skip_22 : decode b_mo_skip 22 = .ok (.invokevirtual 57, 3) := by decide +kernel
theorem d_mo_skip_25 : decode b_mo_skip 25 = .ok (.ifCond .eq 5, 3) := by decide +kernel
theorem d_mo_skip_28 : decode b_mo_skip 28 = .ok (.iconst 0, 1) := by decide +kernel
theorem d_mo_skip_29 : decode b_mo_skip 29 = .ok (.ireturn, 1) := by decide +kernel
theorem d_mo_skip_30 : decode b_mo_skip 30 = .ok (.iconst 0, 1) := by decide +kernel
theorem d_mo_skip_31 : decode b_mo_skip 31 = .ok (.istore_n 2, 1) := by decide +kernel
theorem d_mo_skip_32 : decode b_mo_skip 32 = .ok (.iload_n 2, 1) := by decide +kernel
theorem d_mo_skip_33 : decode b_mo_skip 33 = .ok (.iload_n 1, 1) := by decide +kernel
theorem d_mo_skip_34 : decode b_mo_skip 34 = .ok (.if_icmp .ge 16, 3) := by decide +kernel
theorem d_mo_skip_37 : decode b_mo_skip 37 = .ok (.aload_n 0, 1) := by decide +kernel
theorem d_mo_skip_38 : decode b_mo_skip 38 = .ok (.invokevirtual 209, 3) := by decide +kernel
theorem d_mo_skip_41 : decode b_mo_skip 41 = .ok (.ifCond .eq 9, 3) := by decide +kernel
theorem d_mo_skip_44 : decode b_mo_skip 44 = .ok (.iinc 2 1, 3) := by decide +kernel
theorem d_mo_skip_47 : decode b_mo_skip 47 = .ok (.goto (-15), 3) := by decide +kernel
theorem d_mo_skip_50 : decode b_mo_skip 50 = .ok (.iload_n 2, 1) := by decide +kernel
theorem d_mo_skip_51 : decode b_mo_skip 51 = .ok (.ireturn, 1) := by decide +kernel
abbrev y_mo_packet : MethodName := ⟨"PacketOrderModel", "packet", "(I)I"⟩
abbrev b_mo_packet : ByteArray := prog_8_method_36_code
theorem d_mo_packet_0 : decode b_mo_packet 0 = .ok (.aload_n 0, 1) := by decide +kernel
theorem d_mo_packet_1 : decode b_mo_packet 1 = .ok (.aload_n 0, 1) := by decide +kernel
theorem d_mo_packet_2 : decode b_mo_packet 2 = .ok (.getfield 77, 3) := by decide +kernel
theorem d_mo_packet_5 : decode b_mo_packet 5 = .ok (.ifCond .eq 19, 3) := by decide +kernel
theorem d_mo_packet_8 : decode b_mo_packet 8 = .ok (.aload_n 0, 1) := by decide +kernel
theorem d_mo_packet_9 : decode b_mo_packet 9 = .ok (.getfield 135, 3) := by decide +kernel
theorem d_mo_packet_12 : decode b_mo_packet 12 = .ok (.ifCond .eq 12, 3) := by decide +kernel
theorem d_mo_packet_15 : decode b_mo_packet 15 = .ok (.iload_n 1, 1) := by decide +kernel
theorem d_mo_packet_16 : decode b_mo_packet 16 = .ok (.ifCond .lt 8, 3) := by decide +kernel
theorem d_mo_packet_19 : decode b_mo_packet 19 = .ok (.iload_n 1, 1) := by decide +kernel
theorem d_mo_packet_20 : decode b_mo_packet 20 = .ok (.iconst 4, 1) := by decide +kernel
theorem d_mo_packet_21 : decode b_mo_packet 21 = .ok (.if_icmp .le 7, 3) := by decide +kernel
theorem d_mo_packet_24 : decode b_mo_packet 24 = .ok (.iconst 1, 1) := by decide +kernel
theorem d_mo_packet_25 : decode b_mo_packet 25 = .ok (.goto 4, 3) := by decide +kernel
theorem d_mo_packet_28 : decode b_mo_packet 28 = .ok (.iconst 0, 1) := by decide +kernel
theorem d_mo_packet_29 : decode b_mo_packet 29 = .ok (.iconst 0, 1) := by decide +kernel
theorem d_mo_packet_30 : decode b_mo_packet 30 = .ok (.invokevirtual 57, 3) := by decide +kernel
theorem d_mo_packet_33 : decode b_mo_packet 33 = .ok (.ifCond .eq 5, 3) := by decide +kernel
theorem d_mo_packet_36 : decode b_mo_packet 36 = .ok (.iconst 0, 1) := by decide +kernel
theorem d_mo_packet_37 : decode b_mo_packet 37 = .ok (.ireturn, 1) := by decide +kernel
theorem d_mo_packet_38 : decode b_mo_packet 38 = .ok (.iload_n 1, 1) := by decide +kernel
theorem d_mo_packet_39 : decode b_mo_packet 39 = .ok (.tableswitch 64 0 3 #[29, 34, 44, 54], 29) := by decide +kernel
theorem d_mo_packet_68 : decode b_mo_packet 68 = .ok (.aload_n 0, 1) := by decide +kernel
theorem d_mo_packet_69 : decode b_mo_packet 69 = .ok (.getfield 200, 3) := by decide +kernel
theorem d_mo_packet_72 : decode b_mo_packet 72 = .ok (.ireturn, 1) := by decide +kernel
theorem d_mo_packet_73 : decode b_mo_packet 73 = .ok (.aload_n 0, 1) := by decide +kernel
theorem d_mo_packet_74 : decode b_mo_packet 74 = .ok (.getfield 35, 3) := by decide +kernel
theorem d_mo_packet_77 : decode b_mo_packet 77 = .ok (.aload_n 0, 1) := by decide +kernel
theorem d_mo_packet_78 : decode b_mo_packet 78 = .ok (.getfield 197, 3) := by decide +kernel
theorem d_mo_packet_81 : decode b_mo_packet 81 = .ok (.iaload, 1) := by decide +kernel
theorem d_mo_packet_82 : decode b_mo_packet 82 = .ok (.ireturn, 1) := by decide +kernel
theorem d_mo_packet_83 : decode b_mo_packet 83 = .ok (.aload_n 0, 1) := by decide +kernel
theorem d_mo_packet_84 : decode b_mo_packet 84 = .ok (.getfield 32, 3) := by decide +kernel
theorem d_mo_packet_87 : decode b_mo_packet 87 = .ok (.aload_n 0, 1) := by decide +kernel
theorem d_mo_packet_88 : decode b_mo_packet 88 = .ok (.getfield 197, 3) := by decide +kernel
theorem d_mo_packet_91 : decode b_mo_packet 91 = .ok (.iaload, 1) := by decide +kernel
theorem d_mo_packet_92 : decode b_mo_packet 92 = .ok (.ireturn, 1) := by decide +kernel
theorem d_mo_packet_93 : decode b_mo_packet 93 = .ok (.aload_n 0, 1) := by decide +kernel
theorem d_mo_packet_94 : decode b_mo_packet 94 = .ok (.getfield 38, 3) := by decide +kernel
theorem d_mo_packet_97 : decode b_mo_packet 97 = .ok (.aload_n 0, 1) := by decide +kernel
theorem d_mo_packet_98 : decode b_mo_packet 98 = .ok (.getfield 197, 3) := by decide +kernel
theorem d_mo_packet_101 : decode b_mo_packet 101 = .ok (.iaload, 1) := by decide +kernel
theorem d_mo_packet_102 : decode b_mo_packet 102 = .ok (.ireturn, 1) := by decide +kernel
theorem d_mo_packet_103 : decode b_mo_packet 103 = .ok (.aload_n 0, 1) := by decide +kernel
theorem d_mo_packet_104 : decode b_mo_packet 104 = .ok (.getfield 203, 3) := by decide +kernel
theorem d_mo_packet_107 : decode b_mo_packet 107 = .ok (.ireturn, 1) := by decide +kernel
abbrev y_mo_came : MethodName := ⟨"PacketOrderModel", "came", "(III)I"⟩
abbrev b_mo_came : ByteArray := prog_8_method_37_code
theorem d_mo_came_0 : decode b_mo_came 0 = .ok (.iconst (-1), 1) := by decide +kernel
theorem d_mo_came_1 : decode b_mo_came 1 = .ok (.istore 4, 2) := by decide +kernel
theorem d_mo_came_3 : decode b_mo_came 3 = .ok (.iconst 0, 1) := by decide +kernel
theorem d_mo_came_4 : decode b_mo_came 4 = .ok (.istore 5, 2) := by decide +kernel
theorem d_mo_came_6 : decode b_mo_came 6 = .ok (.aload_n 0, 1) := by decide +kernel
theorem d_mo_came_7 : decode b_mo_came 7 = .ok (.getfield 77, 3) := by decide +kernel
theorem d_mo_came_10 : decode b_mo_came 10 = .ok (.ifCond .eq 60, 3) := by decide +kernel
theorem d_mo_came_13 : decode b_mo_came 13 = .ok (.iload 5, 2) := by decide +kernel
theorem d_mo_came_15 : decode b_mo_came 15 = .ok (.aload_n 0, 1) := by decide +kernel
theorem d_mo_came_16 : decode b_mo_came 16 = .ok (.getfield 119, 3) := by decide +kernel
theorem d_mo_came_19 : decode b_mo_came 19 = .ok (.if_icmp .ge 51, 3) := by decide +kernel
theorem d_mo_came_22 : decode b_mo_came 22 = .ok (.aload_n 0, 1) := by decide +kernel
theorem d_mo_came_23 : decode b_mo_came 23 = .ok (.getfield 32, 3) := by decide +kernel
theorem d_mo_came_26 : decode b_mo_came 26 = .ok (.iload 5, 2) := by decide +kernel
theorem d_mo_came_28 : decode b_mo_came 28 = .ok (.iaload, 1) := by decide +kernel
theorem d_mo_came_29 : decode b_mo_came 29 = .ok (.iload_n 1, 1) := by decide +kernel
theorem d_mo_came_30 : decode b_mo_came 30 = .ok (.if_icmp .ne 30, 3) := by decide +kernel
theorem d_mo_came_33 : decode b_mo_came 33 = .ok (.aload_n 0, 1) := by decide +kernel
theorem d_mo_came_34 : decode b_mo_came 34 = .ok (.getfield 35, 3) := by decide +kernel
theorem d_mo_came_37 : decode b_mo_came 37 = .ok (.iload 5, 2) := by decide +kernel
theorem d_mo_came_39 : decode b_mo_came 39 = .ok (.iaload, 1) := by decide +kernel
theorem d_mo_came_40 : decode b_mo_came 40 = .ok (.iload_n 2, 1) := by decide +kernel
theorem d_mo_came_41 : decode b_mo_came 41 = .ok (.if_icmp .ne 19, 3) := by decide +kernel
theorem d_mo_came_44 : decode b_mo_came 44 = .ok (.aload_n 0, 1) := by decide +kernel
theorem d_mo_came_45 : decode b_mo_came 45 = .ok (.getfield 38, 3) := by decide +kernel
theorem d_mo_came_48 : decode b_mo_came 48 = .ok (.iload 5, 2) := by decide +kernel
theorem d_mo_came_50 : decode b_mo_came 50 = .ok (.iaload, 1) := by decide +kernel
theorem d_mo_came_51 : decode b_mo_came 51 = .ok (.iload_n 3, 1) := by decide +kernel
theorem d_mo_came_52 : decode b_mo_came 52 = .ok (.if_icmp .ne 8, 3) := by decide +kernel
theorem d_mo_came_55 : decode b_mo_came 55 = .ok (.iload 5, 2) := by decide +kernel
theorem d_mo_came_57 : decode b_mo_came 57 = .ok (.goto 5, 3) := by decide +kernel
theorem d_mo_came_60 : decode b_mo_came 60 = .ok (.iload 4, 2) := by decide +kernel
theorem d_mo_came_62 : decode b_mo_came 62 = .ok (.istore 4, 2) := by decide +kernel
theorem d_mo_came_64 : decode b_mo_came 64 = .ok (.iinc 5 1, 3) := by decide +kernel
theorem d_mo_came_67 : decode b_mo_came 67 = .ok (.goto (-61), 3) := by decide +kernel
theorem d_mo_came_70 : decode b_mo_came 70 = .ok (.aload_n 0, 1) := by decide +kernel
theorem d_mo_came_71 : decode b_mo_came 71 = .ok (.iload 4, 2) := by decide +kernel
theorem d_mo_came_73 : decode b_mo_came 73 = .ok (.ifCond .ge 7, 3) := by decide +kernel
theorem d_mo_came_76 : decode b_mo_came 76 = .ok (.iconst 1, 1) := by decide +kernel
theorem d_mo_came_77 : decode b_mo_came 77 = .ok (.goto 4, 3) := by decide +kernel
theorem d_mo_came_80 : decode b_mo_came 80 = .ok (.iconst 0, 1) := by decide +kernel
theorem d_mo_came_81 : decode b_mo_came 81 = .ok (.iconst 0, 1) := by decide +kernel
theorem d_mo_came_82 : decode b_mo_came 82 = .ok (.invokevirtual 57, 3) := by decide +kernel
theorem d_mo_came_85 : decode b_mo_came 85 = .ok (.ifCond .eq 5, 3) := by decide +kernel
theorem d_mo_came_88 : decode b_mo_came 88 = .ok (.iconst 0, 1) := by decide +kernel
theorem d_mo_came_89 : decode b_mo_came 89 = .ok (.ireturn, 1) := by decide +kernel
theorem d_mo_came_90 : decode b_mo_came 90 = .ok (.aload_n 0, 1) := by decide +kernel
theorem d_mo_came_91 : decode b_mo_came 91 = .ok (.getfield 48, 3) := by decide +kernel
theorem d_mo_came_94 : decode b_mo_came 94 = .ok (.iload 4, 2) := by decide +kernel
theorem d_mo_came_96 : decode b_mo_came 96 = .ok (.iaload, 1) := by decide +kernel
theorem d_mo_came_97 : decode b_mo_came 97 = .ok (.ireturn, 1) := by decide +kernel
end
section
/-! the reference: small methods -/
set_option maxHeartbeats 4000000 in
set_option maxRecDepth 100000 in
theorem c_mo_thrown (l : Launch) (D : va_G) (X : ClassId × ClassId × ClassId × ClassId) (lo : Nat) (G : State → Prop) (hGO : GOK lo G) (f : hM) (a : Nat) (b : Nat → Option Nat) (v : Nat → Int) (h0 : f a = some (eO 6 (oF sh_mo b v))) : Met l y_mo_thrown (Cond.code y_mo_thrown b_mo_thrown 1 (some FieldType.int) :: TB) ({ frames := 0, cells := 0, slots := 0, locals := 0 } : Room) (va_Pc [.ref a] (Bq D CL (TYS X) lo G f)) (va_Qi (fun r f1 => r = iI (v 0) ∧ Fr [] f f1 ∧ f1 a = some (eO 6 (oF sh_mo b v))) (Bq D CL (TYS X) lo G) (fun q => lo ≤ q)) 0 0 (fun q => lo ≤ q) := by
  refine mt (by decide) (Nat.le_of_ble_eq_true rfl) ?_
  intro p e s m args below meth cd ls hx hb hr hml hown ht hlocks hnm hK hlo hG hw hS hl
  have hl : lv_has ls 1 [(0, .ref a)] := hl
  generalize hQ : MQ below _ args s _ _ _ = Q
  have hF : Fr [] f f := Fr.rf
  refine lv_aload_n hx hb d_mo_thrown_0 rfl (lv_at hl 0 rfl) ?_
  refine mo_geti hx hb ht in_mo hown hK hw h0 rfl 0 (by decide) rfl (ht _ t_666) (fun _ h => h) d_mo_thrown_1 ?_
  rw [← hQ]; exact mq_iret hx hb hr hlocks hK hlo hGO hG hw hS (Nat.zero_le _) (Nat.zero_le _) d_mo_thrown_4 ⟨rfl, hF, h0⟩
set_option maxHeartbeats 4000000 in
set_option maxRecDepth 100000 in
/-- refuse: which of two refusals, the first one first -/
theorem c_mo_refuse (l : Launch) (D : va_G) (X : ClassId × ClassId × ClassId × ClassId) (lo : Nat) (G : State → Prop) (hGO : GOK lo G) (f : hM) (a : Nat) (b : Nat → Option Nat) (v : Nat → Int) (h0 : f a = some (eO 6 (oF sh_mo b v))) (x y : Int) (hx1 : x = 0 ∨ x = 1) (hy1 : y = 0 ∨ y = 1) : Met l y_mo_refuse (Cond.code y_mo_refuse b_mo_refuse 3 (some FieldType.boolean) :: TB) ({ frames := 0, cells := 0, slots := 0, locals := 0 } : Room) (va_Pc [.ref a, .int (iI (x)), .int (iI (y))] (Bq D CL (TYS X) lo G f)) (va_Qi (fun r f1 => r = iI (if x = 1 ∨ y = 1 then 1 else 0) ∧ Fr [a] f f1 ∧ f1 a = some (eO 6 (oF sh_mo b (va_up v 0 (if x = 1 then 1 else if y = 1 then 2 else 0))))) (Bq D CL (TYS X) lo G) (fun q => lo ≤ q)) 0 0 (fun q => lo ≤ q) := by
  refine mt (by decide) (Nat.le_of_ble_eq_true rfl) ?_
  intro p e s m args below meth cd ls hx hb hr hml hown ht hlocks hnm hK hlo hG hw hS hl
  have hl : lv_has ls 3 [(0, .ref a), (1, .int (iI (x))), (2, .int (iI (y)))] := hl
  generalize hQ : MQ below _ args s _ _ _ = Q
  have hF : Fr [a] f f := Fr.rf
  refine lv_aload_n hx hb d_mo_refuse_0 rfl (lv_at hl 0 rfl) ?_
  have J18 : ∀ z : Int, z = (if x = 1 then 1 else if y = 1 then 2 else 0) → W p l e ({ frames := 0, cells := 0, slots := 0, locals := 0 } : Room) s m args below meth cd s.heap [] 0 0 Q (F0 m 18 ls [.int (iI (z)), .ref a]) := by
    intro z h_z
    refine mo_puti hx hb ht in_mo ty_mo tyok_mo nm_mo hown hK hw hS h0 rfl 0 (by decide) rfl (ht _ t_666) (fun _ h => h) rfl (tyok_mo 0 (by decide)) rfl rfl d_mo_refuse_18 (fun H locs f1 hf1 hw hS => ?_)
    have h0 := eq_s hf1
    have hF := Fr.up hF hf1 (by simp)
    refine lv_aload_n hx hb d_mo_refuse_21 rfl (lv_at hl 0 rfl) ?_
    refine mo_geti hx hb ht in_mo hown hK hw h0 rfl 0 (by decide) rfl (ht _ t_666) (fun _ h => h) d_mo_refuse_22 ?_
    rw [show (va_up v 0 (z)) 0 = z from rfl]
    refine mi_if_le (tgt := 32) hx hb d_mo_refuse_25 (by decide) (by subst h_z; split <;> (try split) <;> decide) (fun c_25 => ?_) (fun c_25 => ?_)
    · skip
      refine mi_iconst hx hb d_mo_refuse_32 ?_
      rw [← hQ]; exact mq_zret (z := 0) hx hb hr hlocks hK hlo hGO hG hw hS (Nat.zero_le _) (Nat.zero_le _) (Or.inl rfl) d_mo_refuse_33 ⟨congrArg iI (by subst h_z; rcases hx1 with rfl | rfl <;> rcases hy1 with rfl | rfl <;> first | rfl | (simp at c_25)), hF, h_z ▸ h0⟩
    · skip
      refine mi_iconst hx hb d_mo_refuse_28 ?_
      refine lv_goto (tgt := 33) hx hb d_mo_refuse_29 (by decide) ?_
      rw [← hQ]; exact mq_zret (z := 1) hx hb hr hlocks hK hlo hGO hG hw hS (Nat.zero_le _) (Nat.zero_le _) (Or.inr rfl) d_mo_refuse_33 ⟨congrArg iI (by subst h_z; rcases hx1 with rfl | rfl <;> rcases hy1 with rfl | rfl <;> first | rfl | (simp at c_25)), hF, h_z ▸ h0⟩
  refine lv_iload_n hx hb d_mo_refuse_1 rfl (lv_at hl 1 rfl) ?_
  refine mi_if_eq (tgt := 9) hx hb d_mo_refuse_2 (by decide) (by rcases hx1 with rfl | rfl <;> decide) (fun c_2 => ?_) (fun c_2 => ?_)
  · skip
    refine lv_iload_n hx hb d_mo_refuse_9 rfl (lv_at hl 2 rfl) ?_
    refine mi_if_eq (tgt := 17) hx hb d_mo_refuse_10 (by decide) (by rcases hy1 with rfl | rfl <;> decide) (fun c_10 => ?_) (fun c_10 => ?_)
    · skip
      refine mi_iconst hx hb d_mo_refuse_17 ?_
      exact J18 _ (by rcases hx1 with rfl | rfl <;> rcases hy1 with rfl | rfl <;> first | rfl | omega)
    · skip
      refine mi_iconst hx hb d_mo_refuse_13 ?_
      refine lv_goto (tgt := 18) hx hb d_mo_refuse_14 (by decide) ?_
      exact J18 _ (by rcases hx1 with rfl | rfl <;> rcases hy1 with rfl | rfl <;> first | rfl | omega)
  · skip
    refine mi_iconst hx hb d_mo_refuse_5 ?_
    refine lv_goto (tgt := 18) hx hb d_mo_refuse_6 (by decide) ?_
    exact J18 _ (by rcases hx1 with rfl | rfl <;> rcases hy1 with rfl | rfl <;> first | rfl | omega)
abbrev gTile (x0 y0 x1 y1 : Int) : Prop := 0 ≤ x0 ∧ 0 ≤ y0 ∧ x0 < x1 ∧ y0 < y1 ∧ x1 ≤ 32767 ∧ y1 ≤ 32767
/-- the reference behind tile(..), its numbers by slots -/
def mTile (v : Nat → Int) (x0 y0 x1 y1 : Int) : Nat → Int := if gTile x0 y0 x1 y1 then (va_up (va_up (va_up (va_up (va_up (va_up (va_up v 0 0) 1 1) 2 x0) 3 y0) 4 x1) 5 y1) 16 0) else va_up v 0 1
set_option maxHeartbeats 4000000 in
set_option maxRecDepth 100000 in
theorem c_mo_tile (l : Launch) (D : va_G) (X : ClassId × ClassId × ClassId × ClassId) (lo : Nat) (G : State → Prop) (hGO : GOK lo G) (f : hM) (a : Nat) (b : Nat → Option Nat) (v : Nat → Int) (h0 : f a = some (eO 6 (oF sh_mo b v))) (x0 y0 x1 y1 : Int) (r0 : iR x0) (r1 : iR y0) (r2 : iR x1) (r3 : iR y1) : Met l y_mo_tile (Cond.code y_mo_tile b_mo_tile 6 (none) :: TB) ({ frames := 1, cells := 0, slots := 0, locals := 22 } : Room) (va_Pc [.ref a, .int (iI (x0)), .int (iI (y0)), .int (iI (x1)), .int (iI (y1))] (Bq D CL (TYS X) lo G f)) (va_Qv (fun f1 => Fr [a] f f1 ∧ f1 a = some (eO 6 (oF sh_mo b (mTile v x0 y0 x1 y1)))) (Bq D CL (TYS X) lo G) (fun q => lo ≤ q)) 0 0 (fun q => lo ≤ q) := by
  refine mt (by decide) (Nat.le_of_ble_eq_true rfl) ?_
  intro p e s m args below meth cd ls hx hb hr hml hown ht hlocks hnm hK hlo hG hw hS hl
  have hl : lv_has ls 6 [(0, .ref a), (1, .int (iI (x0))), (2, .int (iI (y0))), (3, .int (iI (x1))), (4, .int (iI (y1)))] := hl
  generalize hQ : MQ below _ args s _ _ _ = Q
  have hF : Fr [a] f f := Fr.rf
  have J39 : ∀ g : Int, g = (if gTile x0 y0 x1 y1 then 1 else 0) → W p l e ({ frames := 1, cells := 0, slots := 0, locals := 22 } : Room) s m args below meth cd s.heap [] 0 0 Q (F0 m 39 ls [.int (iI (g))]) := by
    intro g h_g
    refine lv_istore (lv' := [(5, .int (iI (g))), (0, .ref a), (1, .int (iI (x0))), (2, .int (iI (y0))), (3, .int (iI (x1))), (4, .int (iI (y1)))]) hx hb d_mo_tile_39 hl (by decide) rfl (fun ls hl => ?_)
    refine lv_aload_n hx hb d_mo_tile_41 rfl (lv_at hl 1 rfl) ?_
    have J52 : ∀ n : Int, n = (if gTile x0 y0 x1 y1 then 0 else 1) → W p l e ({ frames := 1, cells := 0, slots := 0, locals := 22 } : Room) s m args below meth cd s.heap [] 0 0 Q (F0 m 52 ls [.int (iI (n)), .ref a]) := by
      intro n h_n
      refine mi_iconst hx hb d_mo_tile_52 ?_
      refine mq_calli (va_runV (As := [.int (iI (n)), .int (iI (0))]) (rest := []) ⟨hx, hb, hml, hown, ht⟩ (c_mo_refuse l D X lo G hGO f a b v h0 (n) (0) (by split at h_n <;> omega) (Or.inl rfl)) (cwV 2 ht (good_V (fun _ h => h) t_792 t_789 t_791 s_19 t_7) rfl rfl rfl (by decide +kernel) ⟨Nat.le_of_ble_eq_true rfl, Nat.le_of_ble_eq_true rfl⟩) (mq_preV hK hlo hGO hG hw hS (hW.recv hK hw (ci := 6) rfl h0)) rfl rfl hl.1 rfl (lv_room (Nat.le_of_ble_eq_true rfl)) d_mo_tile_53 ⟨Nat.le_of_ble_eq_true rfl, Nat.le_of_ble_eq_true rfl⟩) hS (fun r1 f1 H locs hp hw hS => ?_)
      obtain ⟨rfl, hF1, h09⟩ := hp
      have hF := Fr.tr hF hF1 (by simp)
      have h0 := h09
      refine mi_if_eq (tgt := 60) hx hb d_mo_tile_56 (by decide) (by split <;> decide) (fun c_56 => ?_) (fun c_56 => ?_)
      · skip
        refine lv_aload_n hx hb d_mo_tile_60 rfl (lv_at hl 1 rfl) ?_
        refine mi_iconst hx hb d_mo_tile_61 ?_
        refine mo_puti hx hb ht in_mo ty_mo tyok_mo nm_mo hown hK hw hS h0 rfl 1 (by decide) rfl (ht _ t_667) (fun _ h => h) rfl (tyok_mo 1 (by decide)) rfl rfl d_mo_tile_62 (fun H locs f2 hf2 hw hS => ?_)
        have h0 := eq_s hf2
        have hF := Fr.up hF hf2 (by simp)
        refine lv_aload_n hx hb d_mo_tile_65 rfl (lv_at hl 1 rfl) ?_
        refine lv_iload_n hx hb d_mo_tile_66 rfl (lv_at hl 2 rfl) ?_
        refine mo_puti hx hb ht in_mo ty_mo tyok_mo nm_mo hown hK hw hS h0 rfl 2 (by decide) rfl (ht _ t_668) (fun _ h => h) rfl (tyok_mo 2 (by decide)) rfl rfl d_mo_tile_67 (fun H locs f3 hf3 hw hS => ?_)
        have h0 := eq_s hf3
        have hF := Fr.up hF hf3 (by simp)
        refine lv_aload_n hx hb d_mo_tile_70 rfl (lv_at hl 1 rfl) ?_
        refine lv_iload_n hx hb d_mo_tile_71 rfl (lv_at hl 3 rfl) ?_
        refine mo_puti hx hb ht in_mo ty_mo tyok_mo nm_mo hown hK hw hS h0 rfl 3 (by decide) rfl (ht _ t_669) (fun _ h => h) rfl (tyok_mo 3 (by decide)) rfl rfl d_mo_tile_72 (fun H locs f4 hf4 hw hS => ?_)
        have h0 := eq_s hf4
        have hF := Fr.up hF hf4 (by simp)
        refine lv_aload_n hx hb d_mo_tile_75 rfl (lv_at hl 1 rfl) ?_
        refine lv_iload_n hx hb d_mo_tile_76 rfl (lv_at hl 4 rfl) ?_
        refine mo_puti hx hb ht in_mo ty_mo tyok_mo nm_mo hown hK hw hS h0 rfl 4 (by decide) rfl (ht _ t_670) (fun _ h => h) rfl (tyok_mo 4 (by decide)) rfl rfl d_mo_tile_77 (fun H locs f5 hf5 hw hS => ?_)
        have h0 := eq_s hf5
        have hF := Fr.up hF hf5 (by simp)
        refine lv_aload_n hx hb d_mo_tile_80 rfl (lv_at hl 1 rfl) ?_
        refine lv_iload hx hb d_mo_tile_81 (lv_at hl 5 rfl) ?_
        refine mo_puti hx hb ht in_mo ty_mo tyok_mo nm_mo hown hK hw hS h0 rfl 5 (by decide) rfl (ht _ t_671) (fun _ h => h) rfl (tyok_mo 5 (by decide)) rfl rfl d_mo_tile_83 (fun H locs f6 hf6 hw hS => ?_)
        have h0 := eq_s hf6
        have hF := Fr.up hF hf6 (by simp)
        refine lv_aload_n hx hb d_mo_tile_86 rfl (lv_at hl 1 rfl) ?_
        refine mi_iconst hx hb d_mo_tile_87 ?_
        refine mo_puti hx hb ht in_mo ty_mo tyok_mo nm_mo hown hK hw hS h0 rfl 16 (by decide) rfl (ht _ t_682) (fun _ h => h) rfl (tyok_mo 16 (by decide)) rfl rfl d_mo_tile_88 (fun H locs f7 hf7 hw hS => ?_)
        have h0 := eq_s hf7
        have hF := Fr.up hF hf7 (by simp)
        have hg : gTile x0 y0 x1 y1 := Classical.byContradiction (fun hg => by rw [if_neg hg] at h_n; subst h_n; simp at c_56)
        rw [if_pos hg] at h_n
        subst h_n
        rw [← hQ]; exact mq_vret hx hb hr hlocks hK hlo hGO hG hw hS (Nat.zero_le _) (Nat.zero_le _) d_mo_tile_91 ⟨hF, by rw [h0]; unfold mTile; rw [if_pos hg]; rfl⟩
      · skip
        have hg : ¬ gTile x0 y0 x1 y1 := fun hg => by rw [if_pos hg] at h_n; subst h_n; simp at c_56
        rw [if_neg hg] at h_n
        subst h_n
        rw [← hQ]; exact mq_vret hx hb hr hlocks hK hlo hGO hG hw hS (Nat.zero_le _) (Nat.zero_le _) d_mo_tile_59 ⟨hF, by rw [h0]; unfold mTile; rw [if_neg hg]; rfl⟩
    refine lv_iload hx hb d_mo_tile_42 (lv_at hl 0 rfl) ?_
    refine mi_if_ne (tgt := 51) hx hb d_mo_tile_44 (by decide) (by split at h_g <;> omega) (fun c_44 => ?_) (fun c_44 => ?_)
    · skip
      refine mi_iconst hx hb d_mo_tile_51 ?_
      exact J52 _ (by split at h_g <;> split <;> omega)
    · skip
      refine mi_iconst hx hb d_mo_tile_47 ?_
      refine lv_goto (tgt := 52) hx hb d_mo_tile_48 (by decide) ?_
      exact J52 _ (by split at h_g <;> split <;> omega)
  refine lv_iload_n hx hb d_mo_tile_0 rfl (lv_at hl 1 rfl) ?_
  refine mi_if_lt (tgt := 38) hx hb d_mo_tile_1 (by decide) r0 (fun c_1 => ?_) (fun c_1 => ?_)
  · skip
    refine mi_iconst hx hb d_mo_tile_38 ?_
    exact J39 _ (by split <;> omega)
  · skip
    refine lv_iload_n hx hb d_mo_tile_4 rfl (lv_at hl 2 rfl) ?_
    refine mi_if_lt (tgt := 38) hx hb d_mo_tile_5 (by decide) r1 (fun c_5 => ?_) (fun c_5 => ?_)
    · skip
      refine mi_iconst hx hb d_mo_tile_38 ?_
      exact J39 _ (by split <;> omega)
    · skip
      refine lv_iload_n hx hb d_mo_tile_8 rfl (lv_at hl 1 rfl) ?_
      refine lv_iload_n hx hb d_mo_tile_9 rfl (lv_at hl 3 rfl) ?_
      refine mi_icmp_ge (tgt := 38) hx hb d_mo_tile_10 (by decide) r0 r2 (fun c_10 => ?_) (fun c_10 => ?_)
      · skip
        refine mi_iconst hx hb d_mo_tile_38 ?_
        exact J39 _ (by split <;> omega)
      · skip
        refine lv_iload_n hx hb d_mo_tile_13 rfl (lv_at hl 2 rfl) ?_
        refine lv_iload hx hb d_mo_tile_14 (lv_at hl 4 rfl) ?_
        refine mi_icmp_ge (tgt := 38) hx hb d_mo_tile_16 (by decide) r1 r3 (fun c_16 => ?_) (fun c_16 => ?_)
        · skip
          refine mi_iconst hx hb d_mo_tile_38 ?_
          exact J39 _ (by split <;> omega)
        · skip
          refine lv_iload_n hx hb d_mo_tile_19 rfl (lv_at hl 3 rfl) ?_
          refine mi_sipush hx hb d_mo_tile_20 (by decide) ?_
          refine mi_icmp_gt (tgt := 38) hx hb d_mo_tile_23 (by decide) r2 (by decide) (fun c_23 => ?_) (fun c_23 => ?_)
          · skip
            refine mi_iconst hx hb d_mo_tile_38 ?_
            exact J39 _ (by split <;> omega)
          · skip
            refine lv_iload hx hb d_mo_tile_26 (lv_at hl 4 rfl) ?_
            refine mi_sipush hx hb d_mo_tile_28 (by decide) ?_
            refine mi_icmp_gt (tgt := 38) hx hb d_mo_tile_31 (by decide) r3 (by decide) (fun c_31 => ?_) (fun c_31 => ?_)
            · skip
              refine mi_iconst hx hb d_mo_tile_38 ?_
              exact J39 _ (by split <;> omega)
            · skip
              refine mi_iconst hx hb d_mo_tile_34 ?_
              refine lv_goto (tgt := 39) hx hb d_mo_tile_35 (by decide) ?_
              exact J39 _ (by split <;> omega)
set_option maxHeartbeats 4000000 in
set_option maxRecDepth 100000 in
theorem c_mo_clear (l : Launch) (D : va_G) (X : ClassId × ClassId × ClassId × ClassId) (lo : Nat) (G : State → Prop) (hGO : GOK lo G) (f : hM) (a : Nat) (b : Nat → Option Nat) (v : Nat → Int) (A : Nat → Nat) (g : Nat → Nat → Int) (hR : moR X f a b v A g) : Met l y_mo_clear (Cond.code y_mo_clear b_mo_clear 1 (none) :: TB) ({ frames := 0, cells := 0, slots := 0, locals := 0 } : Room) (va_Pc [.ref a] (Bq D CL (TYS X) lo G f)) (va_Qv (fun f1 => Fr [a] f f1 ∧ moR X f1 a b (va_up (va_up (va_up v 0 0) 14 0) 16 0) A g) (Bq D CL (TYS X) lo G) (fun q => lo ≤ q)) 0 0 (fun q => lo ≤ q) := by
  refine mt (by decide) (Nat.le_of_ble_eq_true rfl) ?_
  intro p e s m args below meth cd ls hx hb hr hml hown ht hlocks hnm hK hlo hG hw hS hl
  have hl : lv_has ls 1 [(0, .ref a)] := hl
  generalize hQ : MQ below _ args s _ _ _ = Q
  have hF : Fr [a] f f := Fr.rf
  have h0 := hR.1
  refine lv_aload_n hx hb d_mo_clear_0 rfl (lv_at hl 0 rfl) ?_
  refine mi_iconst hx hb d_mo_clear_1 ?_
  refine mo_puti hx hb ht in_mo ty_mo tyok_mo nm_mo hown hK hw hS h0 rfl 0 (by decide) rfl (ht _ t_666) (fun _ h => h) rfl (tyok_mo 0 (by decide)) rfl rfl d_mo_clear_2 (fun H locs f1 hf1 hw hS => ?_)
  have h0 := eq_s hf1
  have hF := Fr.up hF hf1 (by simp)
  refine lv_aload_n hx hb d_mo_clear_5 rfl (lv_at hl 0 rfl) ?_
  refine mi_iconst hx hb d_mo_clear_6 ?_
  refine mo_puti hx hb ht in_mo ty_mo tyok_mo nm_mo hown hK hw hS h0 rfl 14 (by decide) rfl (ht _ t_680) (fun _ h => h) rfl (tyok_mo 14 (by decide)) rfl rfl d_mo_clear_7 (fun H locs f2 hf2 hw hS => ?_)
  have h0 := eq_s hf2
  have hF := Fr.up hF hf2 (by simp)
  refine lv_aload_n hx hb d_mo_clear_10 rfl (lv_at hl 0 rfl) ?_
  refine mi_iconst hx hb d_mo_clear_11 ?_
  refine mo_puti hx hb ht in_mo ty_mo tyok_mo nm_mo hown hK hw hS h0 rfl 16 (by decide) rfl (ht _ t_682) (fun _ h => h) rfl (tyok_mo 16 (by decide)) rfl rfl d_mo_clear_12 (fun H locs f3 hf3 hw hS => ?_)
  have h0 := eq_s hf3
  have hF := Fr.up hF hf3 (by simp)
  rw [← hQ]; exact mq_vret hx hb hr hlocks hK hlo hGO hG hw hS (Nat.zero_le _) (Nat.zero_le _) d_mo_clear_15 ⟨hF, hR.fr [] (by simp) hF h0 (fun q _ hq => absurd hq List.not_mem_nil) (fun _ _ _ => rfl)⟩
abbrev gLay (n r : Int) : Prop := 1 ≤ n ∧ n ≤ 255 ∧ 0 ≤ r ∧ r ≤ 4
def mLay (v : Nat → Int) (n r : Int) : Nat → Int := if gLay n r then (va_up (va_up (va_up (va_up v 0 0) 12 n) 13 r) 16 0) else va_up v 0 1
set_option maxHeartbeats 4000000 in
set_option maxRecDepth 100000 in
theorem c_mo_layers (l : Launch) (D : va_G) (X : ClassId × ClassId × ClassId × ClassId) (lo : Nat) (G : State → Prop) (hGO : GOK lo G) (f : hM) (a : Nat) (b : Nat → Option Nat) (v : Nat → Int) (A : Nat → Nat) (g : Nat → Nat → Int) (hR : moR X f a b v A g) (n r : Int) (rn : iR n) (rr : iR r) : Met l y_mo_layers (Cond.code y_mo_layers b_mo_layers 3 (none) :: TB) ({ frames := 1, cells := 0, slots := 0, locals := 22 } : Room) (va_Pc [.ref a, .int (iI (n)), .int (iI (r))] (Bq D CL (TYS X) lo G f)) (va_Qv (fun f1 => Fr [a] f f1 ∧ moR X f1 a b (mLay v n r) A g) (Bq D CL (TYS X) lo G) (fun q => lo ≤ q)) 0 0 (fun q => lo ≤ q) := by
  refine mt (by decide) (Nat.le_of_ble_eq_true rfl) ?_
  intro p e s m args below meth cd ls hx hb hr hml hown ht hlocks hnm hK hlo hG hw hS hl
  have hl : lv_has ls 3 [(0, .ref a), (1, .int (iI (n))), (2, .int (iI (r)))] := hl
  generalize hQ : MQ below _ args s _ _ _ = Q
  have hF : Fr [a] f f := Fr.rf
  have h0 := hR.1
  refine lv_aload_n hx hb d_mo_layers_0 rfl (lv_at hl 0 rfl) ?_
  have J27 : ∀ k : Int, k = (if gLay n r then 0 else 1) → W p l e ({ frames := 1, cells := 0, slots := 0, locals := 22 } : Room) s m args below meth cd s.heap [] 0 0 Q (F0 m 27 ls [.int (iI (k)), .ref a]) := by
    intro k h_k
    refine mi_iconst hx hb d_mo_layers_27 ?_
    refine mq_calli (va_runV (As := [.int (iI (k)), .int (iI (0))]) (rest := []) ⟨hx, hb, hml, hown, ht⟩ (c_mo_refuse l D X lo G hGO f a b v h0 (k) (0) (by split at h_k <;> omega) (Or.inl rfl)) (cwV 2 ht (good_V (fun _ h => h) t_792 t_789 t_791 s_19 t_7) rfl rfl rfl (by decide +kernel) ⟨Nat.le_of_ble_eq_true rfl, Nat.le_of_ble_eq_true rfl⟩) (mq_preV hK hlo hGO hG hw hS (hW.recv hK hw (ci := 6) rfl h0)) rfl rfl hl.1 rfl (lv_room (Nat.le_of_ble_eq_true rfl)) d_mo_layers_28 ⟨Nat.le_of_ble_eq_true rfl, Nat.le_of_ble_eq_true rfl⟩) hS (fun r1 f1 H locs hp hw hS => ?_)
    obtain ⟨rfl, hF1, h09⟩ := hp
    have hF := Fr.tr hF hF1 (by simp)
    have h0 := h09
    refine mi_if_eq (tgt := 35) hx hb d_mo_layers_31 (by decide) (by split <;> decide) (fun c_31 => ?_) (fun c_31 => ?_)
    · skip
      refine lv_aload_n hx hb d_mo_layers_35 rfl (lv_at hl 0 rfl) ?_
      refine lv_iload_n hx hb d_mo_layers_36 rfl (lv_at hl 1 rfl) ?_
      refine mo_puti hx hb ht in_mo ty_mo tyok_mo nm_mo hown hK hw hS h0 rfl 12 (by decide) rfl (ht _ t_678) (fun _ h => h) rfl (tyok_mo 12 (by decide)) rfl rfl d_mo_layers_37 (fun H locs f2 hf2 hw hS => ?_)
      have h0 := eq_s hf2
      have hF := Fr.up hF hf2 (by simp)
      refine lv_aload_n hx hb d_mo_layers_40 rfl (lv_at hl 0 rfl) ?_
      refine lv_iload_n hx hb d_mo_layers_41 rfl (lv_at hl 2 rfl) ?_
      refine mo_puti hx hb ht in_mo ty_mo tyok_mo nm_mo hown hK hw hS h0 rfl 13 (by decide) rfl (ht _ t_679) (fun _ h => h) rfl (tyok_mo 13 (by decide)) rfl rfl d_mo_layers_42 (fun H locs f3 hf3 hw hS => ?_)
      have h0 := eq_s hf3
      have hF := Fr.up hF hf3 (by simp)
      refine lv_aload_n hx hb d_mo_layers_45 rfl (lv_at hl 0 rfl) ?_
      refine mi_iconst hx hb d_mo_layers_46 ?_
      refine mo_puti hx hb ht in_mo ty_mo tyok_mo nm_mo hown hK hw hS h0 rfl 16 (by decide) rfl (ht _ t_682) (fun _ h => h) rfl (tyok_mo 16 (by decide)) rfl rfl d_mo_layers_47 (fun H locs f4 hf4 hw hS => ?_)
      have h0 := eq_s hf4
      have hF := Fr.up hF hf4 (by simp)
      have hg : gLay n r := Classical.byContradiction (fun hg => by rw [if_neg hg] at h_k; subst h_k; simp at c_31)
      rw [if_pos hg] at h_k
      subst h_k
      rw [← hQ]; exact mq_vret hx hb hr hlocks hK hlo hGO hG hw hS (Nat.zero_le _) (Nat.zero_le _) d_mo_layers_50 ⟨hF, hR.fr [] (by simp) hF (by rw [h0]; unfold mLay; rw [if_pos hg]; rfl) (fun q _ hq => absurd hq List.not_mem_nil) (fun _ _ _ => rfl)⟩
    · skip
      have hg : ¬ gLay n r := fun hg => by rw [if_pos hg] at h_k; subst h_k; simp at c_31
      rw [if_neg hg] at h_k
      subst h_k
      rw [← hQ]; exact mq_vret hx hb hr hlocks hK hlo hGO hG hw hS (Nat.zero_le _) (Nat.zero_le _) d_mo_layers_34 ⟨hF, hR.fr [] (by simp) hF (by rw [h0]; unfold mLay; rw [if_neg hg]; rfl) (fun q _ hq => absurd hq List.not_mem_nil) (fun _ _ _ => rfl)⟩
  refine lv_iload_n hx hb d_mo_layers_1 rfl (lv_at hl 1 rfl) ?_
  refine mi_iconst hx hb d_mo_layers_2 ?_
  refine mi_icmp_lt (tgt := 22) hx hb d_mo_layers_3 (by decide) rn (by decide) (fun c_3 => ?_) (fun c_3 => ?_)
  · skip
    refine mi_iconst hx hb d_mo_layers_22 ?_
    refine lv_goto (tgt := 27) hx hb d_mo_layers_23 (by decide) ?_
    exact J27 _ (by split <;> omega)
  · skip
    refine lv_iload_n hx hb d_mo_layers_6 rfl (lv_at hl 1 rfl) ?_
    refine mi_sipush hx hb d_mo_layers_7 (by decide) ?_
    refine mi_icmp_gt (tgt := 22) hx hb d_mo_layers_10 (by decide) rn (by decide) (fun c_10 => ?_) (fun c_10 => ?_)
    · skip
      refine mi_iconst hx hb d_mo_layers_22 ?_
      refine lv_goto (tgt := 27) hx hb d_mo_layers_23 (by decide) ?_
      exact J27 _ (by split <;> omega)
    · skip
      refine lv_iload_n hx hb d_mo_layers_13 rfl (lv_at hl 2 rfl) ?_
      refine mi_if_lt (tgt := 22) hx hb d_mo_layers_14 (by decide) rr (fun c_14 => ?_) (fun c_14 => ?_)
      · skip
        refine mi_iconst hx hb d_mo_layers_22 ?_
        refine lv_goto (tgt := 27) hx hb d_mo_layers_23 (by decide) ?_
        exact J27 _ (by split <;> omega)
      · skip
        refine lv_iload_n hx hb d_mo_layers_17 rfl (lv_at hl 2 rfl) ?_
        refine mi_iconst hx hb d_mo_layers_18 ?_
        refine mi_icmp_le (tgt := 26) hx hb d_mo_layers_19 (by decide) rr (by decide) (fun c_19 => ?_) (fun c_19 => ?_)
        · skip
          refine mi_iconst hx hb d_mo_layers_26 ?_
          exact J27 _ (by split <;> omega)
        · skip
          refine mi_iconst hx hb d_mo_layers_22 ?_
          refine lv_goto (tgt := 27) hx hb d_mo_layers_23 (by decide) ?_
          exact J27 _ (by split <;> omega)
abbrev gChg (p1 p2 p3 p4 p5 p6 : Int) : Prop := 0 ≤ p1 ∧ p1 ≤ 32 ∧ p1 < p2 ∧ p2 ≤ 33 ∧ 0 ≤ p3 ∧ p3 ≤ 15 ∧ p3 < p4 ∧ p4 ≤ 16 ∧ 1 ≤ p5 ∧ p5 ≤ 255 ∧ 0 ≤ p6 ∧ p6 ≤ 4
def mChgV (v : Nat → Int) (nc : Nat) (p1 p2 p3 p4 p5 p6 : Int) : Nat → Int := if gChg p1 p2 p3 p4 p5 p6 then (if nc = 32 then va_up v 0 2 else (va_up (va_up (va_up v 0 0) 16 0) 14 ((nc : Int) + 1))) else va_up v 0 1
def mChgG (g : Nat → Nat → Int) (nc : Nat) (p1 p2 p3 p4 p5 p6 : Int) : Nat → Nat → Int := if gChg p1 p2 p3 p4 p5 p6 ∧ nc ≠ 32 then va_up g 15 (va_up (va_up (va_up (va_up (va_up (va_up (g 15) (6 * nc) p1) (6 * nc + 1) p2) (6 * nc + 2) p3) (6 * nc + 3) p4) (6 * nc + 4) p5) (6 * nc + 5) p6) else g
set_option maxHeartbeats 4000000 in
set_option maxRecDepth 100000 in
theorem c_mo_change (l : Launch) (D : va_G) (X : ClassId × ClassId × ClassId × ClassId) (lo : Nat) (G : State → Prop) (hGO : GOK lo G) (f : hM) (a : Nat) (b : Nat → Option Nat) (v : Nat → Int) (A : Nat → Nat) (g : Nat → Nat → Int) (hR : moR X f a b v A g) (nc : Nat) (hc : v 14 = (nc : Int)) (hc2 : nc ≤ 32) (p1 p2 p3 p4 p5 p6 : Int) (r1 : iR p1) (r2 : iR p2) (r3 : iR p3) (r4 : iR p4) (r5 : iR p5) (r6 : iR p6) : Met l y_mo_change (Cond.code y_mo_change b_mo_change 8 (some FieldType.int) :: TB) ({ frames := 1, cells := 0, slots := 0, locals := 22 } : Room) (va_Pc [.ref a, .int (iI (p1)), .int (iI (p2)), .int (iI (p3)), .int (iI (p4)), .int (iI (p5)), .int (iI (p6))] (Bq D CL (TYS X) lo G f)) (va_Qi (fun r f1 => r = iI (if gChg p1 p2 p3 p4 p5 p6 ∧ nc ≠ 32 then (nc : Int) + 1 else 0) ∧ Fr (a :: [15].map A) f f1 ∧ moR X f1 a b (mChgV v nc p1 p2 p3 p4 p5 p6) A (mChgG g nc p1 p2 p3 p4 p5 p6)) (Bq D CL (TYS X) lo G) (fun q => lo ≤ q)) 0 0 (fun q => lo ≤ q) := by
  refine mt (by decide) (Nat.le_of_ble_eq_true rfl) ?_
  intro p e s m args below meth cd ls hx hb hr hml hown ht hlocks hnm hK hlo hG hw hS hl
  have hl : lv_has ls 8 [(0, .ref a), (1, .int (iI (p1))), (2, .int (iI (p2))), (3, .int (iI (p3))), (4, .int (iI (p4))), (5, .int (iI (p5))), (6, .int (iI (p6)))] := hl
  generalize hQ : MQ below _ args s _ _ _ = Q
  have hF : Fr (a :: [15].map A) f f := Fr.rf
  have h0 := hR.1
  have h15 : f (A 15) = some (eI X.1 192 (g 15)) := (hR.2.1 (15, 192, false) (by decide)).2
  have b15 : b 15 = some (A 15) := (hR.2.1 (15, 192, false) (by decide)).1
  have n15 : A 15 ≠ a := hR.ne (by decide)
  have J74 : ∀ k : Int, k = (if gChg p1 p2 p3 p4 p5 p6 then 1 else 0) → W p l e ({ frames := 1, cells := 0, slots := 0, locals := 22 } : Room) s m args below meth cd s.heap [] 0 0 Q (F0 m 74 ls [.int (iI (k))]) := by
    intro k h_k
    refine lv_istore (lv' := [(7, .int (iI (k))), (0, .ref a), (1, .int (iI (p1))), (2, .int (iI (p2))), (3, .int (iI (p3))), (4, .int (iI (p4))), (5, .int (iI (p5))), (6, .int (iI (p6)))]) hx hb d_mo_change_74 hl (by decide) rfl (fun ls hl => ?_)
    refine lv_aload_n hx hb d_mo_change_76 rfl (lv_at hl 1 rfl) ?_
    have J87 : ∀ n : Int, n = (if gChg p1 p2 p3 p4 p5 p6 then 0 else 1) → W p l e ({ frames := 1, cells := 0, slots := 0, locals := 22 } : Room) s m args below meth cd s.heap [] 0 0 Q (F0 m 87 ls [.int (iI (n)), .ref a]) := by
      intro n h_n
      have J101 : ∀ i : Int, i = (if nc = 32 then 1 else 0) → W p l e ({ frames := 1, cells := 0, slots := 0, locals := 22 } : Room) s m args below meth cd s.heap [] 0 0 Q (F0 m 101 ls [.int (iI (i)), .int (iI (n)), .ref a]) := by
        intro i h_i
        refine mq_calli (va_runV (As := [.int (iI (n)), .int (iI (i))]) (rest := []) ⟨hx, hb, hml, hown, ht⟩ (c_mo_refuse l D X lo G hGO f a b v h0 (n) (i) (by split at h_n <;> omega) (by split at h_i <;> omega)) (cwV 2 ht (good_V (fun _ h => h) t_792 t_789 t_791 s_19 t_7) rfl rfl rfl (by decide +kernel) ⟨Nat.le_of_ble_eq_true rfl, Nat.le_of_ble_eq_true rfl⟩) (mq_preV hK hlo hGO hG hw hS (hW.recv hK hw (ci := 6) rfl h0)) rfl rfl hl.1 rfl (lv_room (Nat.le_of_ble_eq_true rfl)) d_mo_change_101 ⟨Nat.le_of_ble_eq_true rfl, Nat.le_of_ble_eq_true rfl⟩) hS (fun r1 f1 H locs hp hw hS => ?_)
        obtain ⟨rfl, hF1, h09⟩ := hp
        have h15 := Fr.keep hF1 h15 (by simpa using n15)
        have hF := Fr.tr hF hF1 (by simp)
        have h0 := h09
        refine mi_if_eq (tgt := 109) hx hb d_mo_change_104 (by decide) (by split <;> decide) (fun c_104 => ?_) (fun c_104 => ?_)
        · skip
          have hg : gChg p1 p2 p3 p4 p5 p6 := Classical.byContradiction (fun hg => by rw [if_neg hg] at h_n; subst h_n; simp at c_104)
          have hc3 : nc ≠ 32 := fun h3 => by rw [if_pos hg] at h_n; rw [if_pos h3] at h_i; subst h_n h_i; simp at c_104
          have hcl : nc < 32 := by omega
          refine lv_aload_n hx hb d_mo_change_109 rfl (lv_at hl 1 rfl) ?_
          refine mo_getr hx hb ht in_mo hown hK hw h0 rfl 15 (by decide) rfl b15 (ht _ t_681) (fun _ h => h) d_mo_change_110 ?_
          refine mi_bipush hx hb d_mo_change_113 (by decide) ?_
          refine lv_aload_n hx hb d_mo_change_115 rfl (lv_at hl 1 rfl) ?_
          refine mo_geti hx hb ht in_mo hown hK hw h0 rfl 14 (by decide) rfl (ht _ t_680) (fun _ h => h) d_mo_change_116 ?_
          rw [show (va_up v 0 (if n = 1 then 1 else if i = 1 then 2 else 0)) 14 = v 14 from rfl]
          refine mi_imul hx hb d_mo_change_119 ?_
          refine lv_iload_n hx hb d_mo_change_120 rfl (lv_at hl 2 rfl) ?_
          refine mo_iast hx hb hK hw hS 0 h15 rfl (6 * nc) (by omega) (by omega) (by decide) d_mo_change_121 (fun H locs f2 hf2 hw hS => ?_)
          have h0 := eq_n hf2 h0 n15.symm
          have h15 := eq_s hf2
          have hF := Fr.up hF hf2 (by simp)
          refine lv_aload_n hx hb d_mo_change_122 rfl (lv_at hl 1 rfl) ?_
          refine mo_getr hx hb ht in_mo hown hK hw h0 rfl 15 (by decide) rfl b15 (ht _ t_681) (fun _ h => h) d_mo_change_123 ?_
          refine mi_bipush hx hb d_mo_change_126 (by decide) ?_
          refine lv_aload_n hx hb d_mo_change_128 rfl (lv_at hl 1 rfl) ?_
          refine mo_geti hx hb ht in_mo hown hK hw h0 rfl 14 (by decide) rfl (ht _ t_680) (fun _ h => h) d_mo_change_129 ?_
          rw [show (va_up v 0 (if n = 1 then 1 else if i = 1 then 2 else 0)) 14 = v 14 from rfl]
          refine mi_imul hx hb d_mo_change_132 ?_
          refine mi_iconst hx hb d_mo_change_133 ?_
          refine mi_iadd hx hb d_mo_change_134 ?_
          refine lv_iload_n hx hb d_mo_change_135 rfl (lv_at hl 3 rfl) ?_
          refine mo_iast hx hb hK hw hS 0 h15 rfl (6 * nc + 1) (by omega) (by omega) (by decide) d_mo_change_136 (fun H locs f3 hf3 hw hS => ?_)
          have h0 := eq_n hf3 h0 n15.symm
          have h15 := eq_s hf3
          have hF := Fr.up hF hf3 (by simp)
          refine lv_aload_n hx hb d_mo_change_137 rfl (lv_at hl 1 rfl) ?_
          refine mo_getr hx hb ht in_mo hown hK hw h0 rfl 15 (by decide) rfl b15 (ht _ t_681) (fun _ h => h) d_mo_change_138 ?_
          refine mi_bipush hx hb d_mo_change_141 (by decide) ?_
          refine lv_aload_n hx hb d_mo_change_143 rfl (lv_at hl 1 rfl) ?_
          refine mo_geti hx hb ht in_mo hown hK hw h0 rfl 14 (by decide) rfl (ht _ t_680) (fun _ h => h) d_mo_change_144 ?_
          rw [show (va_up v 0 (if n = 1 then 1 else if i = 1 then 2 else 0)) 14 = v 14 from rfl]
          refine mi_imul hx hb d_mo_change_147 ?_
          refine mi_iconst hx hb d_mo_change_148 ?_
          refine mi_iadd hx hb d_mo_change_149 ?_
          refine lv_iload_n hx hb d_mo_change_150 rfl (lv_at hl 4 rfl) ?_
          refine mo_iast hx hb hK hw hS 0 h15 rfl (6 * nc + 2) (by omega) (by omega) (by decide) d_mo_change_151 (fun H locs f4 hf4 hw hS => ?_)
          have h0 := eq_n hf4 h0 n15.symm
          have h15 := eq_s hf4
          have hF := Fr.up hF hf4 (by simp)
          refine lv_aload_n hx hb d_mo_change_152 rfl (lv_at hl 1 rfl) ?_
          refine mo_getr hx hb ht in_mo hown hK hw h0 rfl 15 (by decide) rfl b15 (ht _ t_681) (fun _ h => h) d_mo_change_153 ?_
          refine mi_bipush hx hb d_mo_change_156 (by decide) ?_
          refine lv_aload_n hx hb d_mo_change_158 rfl (lv_at hl 1 rfl) ?_
          refine mo_geti hx hb ht in_mo hown hK hw h0 rfl 14 (by decide) rfl (ht _ t_680) (fun _ h => h) d_mo_change_159 ?_
          rw [show (va_up v 0 (if n = 1 then 1 else if i = 1 then 2 else 0)) 14 = v 14 from rfl]
          refine mi_imul hx hb d_mo_change_162 ?_
          refine mi_iconst hx hb d_mo_change_163 ?_
          refine mi_iadd hx hb d_mo_change_164 ?_
          refine lv_iload hx hb d_mo_change_165 (lv_at hl 5 rfl) ?_
          refine mo_iast hx hb hK hw hS 0 h15 rfl (6 * nc + 3) (by omega) (by omega) (by decide) d_mo_change_167 (fun H locs f5 hf5 hw hS => ?_)
          have h0 := eq_n hf5 h0 n15.symm
          have h15 := eq_s hf5
          have hF := Fr.up hF hf5 (by simp)
          refine lv_aload_n hx hb d_mo_change_168 rfl (lv_at hl 1 rfl) ?_
          refine mo_getr hx hb ht in_mo hown hK hw h0 rfl 15 (by decide) rfl b15 (ht _ t_681) (fun _ h => h) d_mo_change_169 ?_
          refine mi_bipush hx hb d_mo_change_172 (by decide) ?_
          refine lv_aload_n hx hb d_mo_change_174 rfl (lv_at hl 1 rfl) ?_
          refine mo_geti hx hb ht in_mo hown hK hw h0 rfl 14 (by decide) rfl (ht _ t_680) (fun _ h => h) d_mo_change_175 ?_
          rw [show (va_up v 0 (if n = 1 then 1 else if i = 1 then 2 else 0)) 14 = v 14 from rfl]
          refine mi_imul hx hb d_mo_change_178 ?_
          refine mi_iconst hx hb d_mo_change_179 ?_
          refine mi_iadd hx hb d_mo_change_180 ?_
          refine lv_iload hx hb d_mo_change_181 (lv_at hl 6 rfl) ?_
          refine mo_iast hx hb hK hw hS 0 h15 rfl (6 * nc + 4) (by omega) (by omega) (by decide) d_mo_change_183 (fun H locs f6 hf6 hw hS => ?_)
          have h0 := eq_n hf6 h0 n15.symm
          have h15 := eq_s hf6
          have hF := Fr.up hF hf6 (by simp)
          refine lv_aload_n hx hb d_mo_change_184 rfl (lv_at hl 1 rfl) ?_
          refine mo_getr hx hb ht in_mo hown hK hw h0 rfl 15 (by decide) rfl b15 (ht _ t_681) (fun _ h => h) d_mo_change_185 ?_
          refine mi_bipush hx hb d_mo_change_188 (by decide) ?_
          refine lv_aload_n hx hb d_mo_change_190 rfl (lv_at hl 1 rfl) ?_
          refine mo_geti hx hb ht in_mo hown hK hw h0 rfl 14 (by decide) rfl (ht _ t_680) (fun _ h => h) d_mo_change_191 ?_
          rw [show (va_up v 0 (if n = 1 then 1 else if i = 1 then 2 else 0)) 14 = v 14 from rfl]
          refine mi_imul hx hb d_mo_change_194 ?_
          refine mi_iconst hx hb d_mo_change_195 ?_
          refine mi_iadd hx hb d_mo_change_196 ?_
          refine lv_iload hx hb d_mo_change_197 (lv_at hl 7 rfl) ?_
          refine mo_iast hx hb hK hw hS 0 h15 rfl (6 * nc + 5) (by omega) (by omega) (by decide) d_mo_change_199 (fun H locs f7 hf7 hw hS => ?_)
          have h0 := eq_n hf7 h0 n15.symm
          have h15 := eq_s hf7
          have hF := Fr.up hF hf7 (by simp)
          refine lv_aload_n hx hb d_mo_change_200 rfl (lv_at hl 1 rfl) ?_
          refine mi_iconst hx hb d_mo_change_201 ?_
          refine mo_puti hx hb ht in_mo ty_mo tyok_mo nm_mo hown hK hw hS h0 rfl 16 (by decide) rfl (ht _ t_682) (fun _ h => h) rfl (tyok_mo 16 (by decide)) rfl rfl d_mo_change_202 (fun H locs f8 hf8 hw hS => ?_)
          have h0 := eq_s hf8
          have h15 := eq_n hf8 h15 n15
          have hF := Fr.up hF hf8 (by simp)
          refine lv_aload_n hx hb d_mo_change_205 rfl (lv_at hl 1 rfl) ?_
          refine lv_dup hx hb d_mo_change_206 rfl ?_
          refine mo_geti hx hb ht in_mo hown hK hw h0 rfl 14 (by decide) rfl (ht _ t_680) (fun _ h => h) d_mo_change_207 ?_
          rw [show (va_up (va_up v 0 (if n = 1 then 1 else if i = 1 then 2 else 0)) 16 (0)) 14 = v 14 from rfl]
          refine mi_iconst hx hb d_mo_change_210 ?_
          refine mi_iadd hx hb d_mo_change_211 ?_
          refine mo_puti hx hb ht in_mo ty_mo tyok_mo nm_mo hown hK hw hS h0 rfl 14 (by decide) rfl (ht _ t_680) (fun _ h => h) rfl (tyok_mo 14 (by decide)) rfl rfl d_mo_change_212 (fun H locs f9 hf9 hw hS => ?_)
          have h0 := eq_s hf9
          have h15 := eq_n hf9 h15 n15
          have hF := Fr.up hF hf9 (by simp)
          refine lv_aload_n hx hb d_mo_change_215 rfl (lv_at hl 1 rfl) ?_
          refine mo_geti hx hb ht in_mo hown hK hw h0 rfl 14 (by decide) rfl (ht _ t_680) (fun _ h => h) d_mo_change_216 ?_
          rw [show (va_up (va_up (va_up v 0 (if n = 1 then 1 else if i = 1 then 2 else 0)) 16 (0)) 14 ((v 14) + (1))) 14 = (v 14) + (1) from rfl]
          rw [if_pos hg] at h_n
          rw [if_neg hc3] at h_i
          subst h_n h_i
          rw [← hQ]; exact mq_iret hx hb hr hlocks hK hlo hGO hG hw hS (Nat.zero_le _) (Nat.zero_le _) d_mo_change_219 ⟨by rw [if_pos ⟨hg, hc3⟩, hc], hF, hR.fr [15] (by decide) hF (by rw [h0]; unfold mChgV; rw [if_pos hg, if_neg hc3]; show some (eO 6 (oF sh_mo b (va_up (va_up (va_up v 0 0) 16 0) 14 (v 14 + 1)))) = _; rw [hc]) (fun q hq hk => by obtain rfl : q = (15, 192, false) := (by revert q; decide); unfold mChgG; rw [if_pos ⟨hg, hc3⟩, va_up_self]; exact h15) (fun k _ hk => by unfold mChgG; rw [if_pos ⟨hg, hc3⟩, va_up_ne _ _ (by simpa using hk)])⟩
        · skip
          refine mi_iconst hx hb d_mo_change_107 ?_
          have hng : ¬ (gChg p1 p2 p3 p4 p5 p6 ∧ nc ≠ 32) := fun z => by rw [if_pos z.1] at h_n; rw [if_neg z.2] at h_i; subst h_n h_i; simp at c_104
          have hv9 : eO 6 (oF sh_mo b (va_up v 0 (if n = 1 then 1 else if i = 1 then 2 else 0))) = eO 6 (oF sh_mo b (mChgV v nc p1 p2 p3 p4 p5 p6)) := by
            unfold mChgV; by_cases hg : gChg p1 p2 p3 p4 p5 p6
            · have h3 : nc = 32 := Classical.byContradiction (fun z => hng ⟨hg, z⟩)
              rw [if_pos hg] at h_n ⊢; rw [if_pos h3] at h_i ⊢; subst h_n h_i; rfl
            · rw [if_neg hg] at h_n ⊢; subst h_n; rfl
          rw [← hQ]; exact mq_iret hx hb hr hlocks hK hlo hGO hG hw hS (Nat.zero_le _) (Nat.zero_le _) d_mo_change_108 ⟨by rw [if_neg hng], hF, hR.fr [15] (by decide) hF (by rw [h0, hv9]) (fun q hq hk => by obtain rfl : q = (15, 192, false) := (by revert q; decide); unfold mChgG; rw [if_neg hng]; exact h15) (fun k _ hk => by unfold mChgG; rw [if_neg hng])⟩
      refine lv_aload_n hx hb d_mo_change_87 rfl (lv_at hl 1 rfl) ?_
      refine mo_geti hx hb ht in_mo hown hK hw h0 rfl 14 (by decide) rfl (ht _ t_680) (fun _ h => h) d_mo_change_88 ?_
      refine mi_bipush hx hb d_mo_change_91 (by decide) ?_
      refine mi_icmp_ne (tgt := 100) hx hb d_mo_change_93 (by decide) (by omega) (by decide) (fun c_93 => ?_) (fun c_93 => ?_)
      · skip
        refine mi_iconst hx hb d_mo_change_100 ?_
        exact J101 _ (by split <;> omega)
      · skip
        refine mi_iconst hx hb d_mo_change_96 ?_
        refine lv_goto (tgt := 101) hx hb d_mo_change_97 (by decide) ?_
        exact J101 _ (by split <;> omega)
    refine lv_iload hx hb d_mo_change_77 (lv_at hl 0 rfl) ?_
    refine mi_if_ne (tgt := 86) hx hb d_mo_change_79 (by decide) (by split at h_k <;> omega) (fun c_79 => ?_) (fun c_79 => ?_)
    · skip
      refine mi_iconst hx hb d_mo_change_86 ?_
      exact J87 _ (by split at h_k <;> split <;> omega)
    · skip
      refine mi_iconst hx hb d_mo_change_82 ?_
      refine lv_goto (tgt := 87) hx hb d_mo_change_83 (by decide) ?_
      exact J87 _ (by split at h_k <;> split <;> omega)
  refine lv_iload_n hx hb d_mo_change_0 rfl (lv_at hl 1 rfl) ?_
  refine mi_if_lt (tgt := 73) hx hb d_mo_change_1 (by decide) r1 (fun c_1 => ?_) (fun c_1 => ?_)
  · skip
    refine mi_iconst hx hb d_mo_change_73 ?_
    exact J74 _ (by split <;> omega)
  · skip
    refine lv_iload_n hx hb d_mo_change_4 rfl (lv_at hl 1 rfl) ?_
    refine mi_bipush hx hb d_mo_change_5 (by decide) ?_
    refine mi_icmp_gt (tgt := 73) hx hb d_mo_change_7 (by decide) r1 (by decide) (fun c_7 => ?_) (fun c_7 => ?_)
    · skip
      refine mi_iconst hx hb d_mo_change_73 ?_
      exact J74 _ (by split <;> omega)
    · skip
      refine lv_iload_n hx hb d_mo_change_10 rfl (lv_at hl 2 rfl) ?_
      refine lv_iload_n hx hb d_mo_change_11 rfl (lv_at hl 1 rfl) ?_
      refine mi_icmp_le (tgt := 73) hx hb d_mo_change_12 (by decide) r2 r1 (fun c_12 => ?_) (fun c_12 => ?_)
      · skip
        refine mi_iconst hx hb d_mo_change_73 ?_
        exact J74 _ (by split <;> omega)
      · skip
        refine lv_iload_n hx hb d_mo_change_15 rfl (lv_at hl 2 rfl) ?_
        refine mi_bipush hx hb d_mo_change_16 (by decide) ?_
        refine mi_icmp_gt (tgt := 73) hx hb d_mo_change_18 (by decide) r2 (by decide) (fun c_18 => ?_) (fun c_18 => ?_)
        · skip
          refine mi_iconst hx hb d_mo_change_73 ?_
          exact J74 _ (by split <;> omega)
        · skip
          refine lv_iload_n hx hb d_mo_change_21 rfl (lv_at hl 3 rfl) ?_
          refine mi_if_lt (tgt := 73) hx hb d_mo_change_22 (by decide) r3 (fun c_22 => ?_) (fun c_22 => ?_)
          · skip
            refine mi_iconst hx hb d_mo_change_73 ?_
            exact J74 _ (by split <;> omega)
          · skip
            refine lv_iload_n hx hb d_mo_change_25 rfl (lv_at hl 3 rfl) ?_
            refine mi_bipush hx hb d_mo_change_26 (by decide) ?_
            refine mi_icmp_gt (tgt := 73) hx hb d_mo_change_28 (by decide) r3 (by decide) (fun c_28 => ?_) (fun c_28 => ?_)
            · skip
              refine mi_iconst hx hb d_mo_change_73 ?_
              exact J74 _ (by split <;> omega)
            · skip
              refine lv_iload hx hb d_mo_change_31 (lv_at hl 4 rfl) ?_
              refine lv_iload_n hx hb d_mo_change_33 rfl (lv_at hl 3 rfl) ?_
              refine mi_icmp_le (tgt := 73) hx hb d_mo_change_34 (by decide) r4 r3 (fun c_34 => ?_) (fun c_34 => ?_)
              · skip
                refine mi_iconst hx hb d_mo_change_73 ?_
                exact J74 _ (by split <;> omega)
              · skip
                refine lv_iload hx hb d_mo_change_37 (lv_at hl 4 rfl) ?_
                refine mi_bipush hx hb d_mo_change_39 (by decide) ?_
                refine mi_icmp_gt (tgt := 73) hx hb d_mo_change_41 (by decide) r4 (by decide) (fun c_41 => ?_) (fun c_41 => ?_)
                · skip
                  refine mi_iconst hx hb d_mo_change_73 ?_
                  exact J74 _ (by split <;> omega)
                · skip
                  refine lv_iload hx hb d_mo_change_44 (lv_at hl 5 rfl) ?_
                  refine mi_iconst hx hb d_mo_change_46 ?_
                  refine mi_icmp_lt (tgt := 73) hx hb d_mo_change_47 (by decide) r5 (by decide) (fun c_47 => ?_) (fun c_47 => ?_)
                  · skip
                    refine mi_iconst hx hb d_mo_change_73 ?_
                    exact J74 _ (by split <;> omega)
                  · skip
                    refine lv_iload hx hb d_mo_change_50 (lv_at hl 5 rfl) ?_
                    refine mi_sipush hx hb d_mo_change_52 (by decide) ?_
                    refine mi_icmp_gt (tgt := 73) hx hb d_mo_change_55 (by decide) r5 (by decide) (fun c_55 => ?_) (fun c_55 => ?_)
                    · skip
                      refine mi_iconst hx hb d_mo_change_73 ?_
                      exact J74 _ (by split <;> omega)
                    · skip
                      refine lv_iload hx hb d_mo_change_58 (lv_at hl 6 rfl) ?_
                      refine mi_if_lt (tgt := 73) hx hb d_mo_change_60 (by decide) r6 (fun c_60 => ?_) (fun c_60 => ?_)
                      · skip
                        refine mi_iconst hx hb d_mo_change_73 ?_
                        exact J74 _ (by split <;> omega)
                      · skip
                        refine lv_iload hx hb d_mo_change_63 (lv_at hl 6 rfl) ?_
                        refine mi_iconst hx hb d_mo_change_65 ?_
                        refine mi_icmp_gt (tgt := 73) hx hb d_mo_change_66 (by decide) r6 (by decide) (fun c_66 => ?_) (fun c_66 => ?_)
                        · skip
                          refine mi_iconst hx hb d_mo_change_73 ?_
                          exact J74 _ (by split <;> omega)
                        · skip
                          refine mi_iconst hx hb d_mo_change_69 ?_
                          refine lv_goto (tgt := 74) hx hb d_mo_change_70 (by decide) ?_
                          exact J74 _ (by split <;> omega)
end
section
/-! the reference: component, isLevel, precincts -/
def fl (g : Nat → Int) (s n : Nat) (x : Int) : Nat → Int := fun j => if s ≤ j ∧ j < s + n then x else g j
theorem fl_0 (g : Nat → Int) (s : Nat) (x : Int) : fl g s 0 x = g := by funext j; unfold fl; rw [if_neg (by omega)]
theorem fl_up (g : Nat → Int) (s n : Nat) (x : Int) : va_up (fl g s n x) (s + n) x = fl g s (n + 1) x := by
  funext j; unfold fl va_up
  by_cases h : j = s + n
  · rw [if_pos h, if_pos (by omega)]
  · rw [if_neg h]
    show (if s ≤ j ∧ j < s + n then x else g j) = _
    by_cases h2 : s ≤ j ∧ j < s + n
    · rw [if_pos h2, if_pos (by omega)]
    · rw [if_neg h2, if_neg (by omega)]
abbrev gCmp (x y z : Int) : Prop := 1 ≤ x ∧ x ≤ 255 ∧ 1 ≤ y ∧ y ≤ 255 ∧ 0 ≤ z ∧ z ≤ 32
def mCmpV (v : Nat → Int) (nc : Nat) (x y z : Int) : Nat → Int := if gCmp x y z then (if nc = 16 then va_up v 0 2 else (va_up (va_up (va_up v 0 0) 16 0) 6 ((nc : Int) + 1))) else va_up v 0 1
def mCmpG (g : Nat → Nat → Int) (nc : Nat) (x y z : Int) : Nat → Nat → Int := if gCmp x y z ∧ nc ≠ 16 then va_up (va_up (va_up (va_up (va_up g 7 (va_up (g 7) nc x)) 8 (va_up (g 8) nc y)) 9 (va_up (g 9) nc z)) 10 (fl (g 10) (33 * nc) 33 15)) 11 (fl (g 11) (33 * nc) 33 15) else g
set_option maxHeartbeats 4000000 in
set_option maxRecDepth 100000 in
theorem c_mo_component (l : Launch) (D : va_G) (X : ClassId × ClassId × ClassId × ClassId) (lo : Nat) (G : State → Prop) (hGO : GOK lo G) (f : hM) (a : Nat) (b : Nat → Option Nat) (v : Nat → Int) (A : Nat → Nat) (g : Nat → Nat → Int) (hR : moR X f a b v A g) (nc : Nat) (hc : v 6 = (nc : Int)) (hc2 : nc ≤ 16) (x y z : Int) (rx : iR x) (ry : iR y) (rz : iR z) : Met l y_mo_component (Cond.code y_mo_component b_mo_component 6 (some FieldType.int) :: TB) ({ frames := 1, cells := 0, slots := 0, locals := 22 } : Room) (va_Pc [.ref a, .int (iI (x)), .int (iI (y)), .int (iI (z))] (Bq D CL (TYS X) lo G f)) (va_Qi (fun r f1 => r = iI (if gCmp x y z ∧ nc ≠ 16 then (nc : Int) else 0) ∧ Fr (a :: [7, 8, 9, 10, 11].map A) f f1 ∧ moR X f1 a b (mCmpV v nc x y z) A (mCmpG g nc x y z)) (Bq D CL (TYS X) lo G) (fun q => lo ≤ q)) 0 0 (fun q => lo ≤ q) := by
  refine mt (by decide) (Nat.le_of_ble_eq_true rfl) ?_
  intro p e s m args below meth cd ls hx hb hr hml hown ht hlocks hnm hK hlo hG hw hS hl
  have hl : lv_has ls 6 [(0, .ref a), (1, .int (iI (x))), (2, .int (iI (y))), (3, .int (iI (z)))] := hl
  generalize hQ : MQ below _ args s _ _ _ = Q
  have hF : Fr (a :: [7, 8, 9, 10, 11].map A) f f := Fr.rf
  have h0 := hR.1
  have h7 : f (A 7) = some (eI X.1 16 (g 7)) := (hR.2.1 (7, 16, false) (by decide)).2
  have b7 : b 7 = some (A 7) := (hR.2.1 (7, 16, false) (by decide)).1
  have n7 : A 7 ≠ a := hR.ne (by decide)
  have h8 : f (A 8) = some (eI X.1 16 (g 8)) := (hR.2.1 (8, 16, false) (by decide)).2
  have b8 : b 8 = some (A 8) := (hR.2.1 (8, 16, false) (by decide)).1
  have n8 : A 8 ≠ a := hR.ne (by decide)
  have h9 : f (A 9) = some (eI X.1 16 (g 9)) := (hR.2.1 (9, 16, false) (by decide)).2
  have b9 : b 9 = some (A 9) := (hR.2.1 (9, 16, false) (by decide)).1
  have n9 : A 9 ≠ a := hR.ne (by decide)
  have h10 : f (A 10) = some (eI X.1 528 (g 10)) := (hR.2.1 (10, 528, false) (by decide)).2
  have b10 : b 10 = some (A 10) := (hR.2.1 (10, 528, false) (by decide)).1
  have n10 : A 10 ≠ a := hR.ne (by decide)
  have h11 : f (A 11) = some (eI X.1 528 (g 11)) := (hR.2.1 (11, 528, false) (by decide)).2
  have b11 : b 11 = some (A 11) := (hR.2.1 (11, 528, false) (by decide)).1
  have n11 : A 11 ≠ a := hR.ne (by decide)
  have J39 : ∀ k : Int, k = (if gCmp x y z then 1 else 0) → W p l e ({ frames := 1, cells := 0, slots := 0, locals := 22 } : Room) s m args below meth cd s.heap [] 0 0 Q (F0 m 39 ls [.int (iI (k))]) := by
    intro k h_k
    refine lv_istore (lv' := [(4, .int (iI (k))), (0, .ref a), (1, .int (iI (x))), (2, .int (iI (y))), (3, .int (iI (z)))]) hx hb d_mo_component_39 hl (by decide) rfl (fun ls hl => ?_)
    refine lv_aload_n hx hb d_mo_component_41 rfl (lv_at hl 1 rfl) ?_
    have J52 : ∀ nn : Int, nn = (if gCmp x y z then 0 else 1) → W p l e ({ frames := 1, cells := 0, slots := 0, locals := 22 } : Room) s m args below meth cd s.heap [] 0 0 Q (F0 m 52 ls [.int (iI (nn)), .ref a]) := by
      intro nn h_nn
      have J66 : ∀ ii : Int, ii = (if nc = 16 then 1 else 0) → W p l e ({ frames := 1, cells := 0, slots := 0, locals := 22 } : Room) s m args below meth cd s.heap [] 0 0 Q (F0 m 66 ls [.int (iI (ii)), .int (iI (nn)), .ref a]) := by
        intro ii h_ii
        refine mq_calli (va_runV (As := [.int (iI (nn)), .int (iI (ii))]) (rest := []) ⟨hx, hb, hml, hown, ht⟩ (c_mo_refuse l D X lo G hGO f a b v h0 (nn) (ii) (by split at h_nn <;> omega) (by split at h_ii <;> omega)) (cwV 2 ht (good_V (fun _ h => h) t_792 t_789 t_791 s_19 t_7) rfl rfl rfl (by decide +kernel) ⟨Nat.le_of_ble_eq_true rfl, Nat.le_of_ble_eq_true rfl⟩) (mq_preV hK hlo hGO hG hw hS (hW.recv hK hw (ci := 6) rfl h0)) rfl rfl hl.1 rfl (lv_room (Nat.le_of_ble_eq_true rfl)) d_mo_component_66 ⟨Nat.le_of_ble_eq_true rfl, Nat.le_of_ble_eq_true rfl⟩) hS (fun r1 f1 H locs hp hw hS => ?_)
        obtain ⟨rfl, hF1, h09⟩ := hp
        have h7 := Fr.keep hF1 h7 (by simpa using n7)
        have h8 := Fr.keep hF1 h8 (by simpa using n8)
        have h9 := Fr.keep hF1 h9 (by simpa using n9)
        have h10 := Fr.keep hF1 h10 (by simpa using n10)
        have h11 := Fr.keep hF1 h11 (by simpa using n11)
        have hF := Fr.tr hF hF1 (by simp)
        have h0 := h09
        refine mi_if_eq (tgt := 74) hx hb d_mo_component_69 (by decide) (by split <;> decide) (fun c_69 => ?_) (fun c_69 => ?_)
        · skip
          have hg : gCmp x y z := Classical.byContradiction (fun hg => by rw [if_neg hg] at h_nn; subst h_nn; simp at c_69)
          have hc3 : nc ≠ 16 := fun h3 => by rw [if_pos hg] at h_nn; rw [if_pos h3] at h_ii; subst h_nn h_ii; simp at c_69
          have hcl : nc < 16 := by omega
          refine lv_aload_n hx hb d_mo_component_74 rfl (lv_at hl 1 rfl) ?_
          refine mo_getr hx hb ht in_mo hown hK hw h0 rfl 7 (by decide) rfl b7 (ht _ t_673) (fun _ h => h) d_mo_component_75 ?_
          refine lv_aload_n hx hb d_mo_component_78 rfl (lv_at hl 1 rfl) ?_
          refine mo_geti hx hb ht in_mo hown hK hw h0 rfl 6 (by decide) rfl (ht _ t_672) (fun _ h => h) d_mo_component_79 ?_
          rw [show (va_up v 0 (if nn = 1 then 1 else if ii = 1 then 2 else 0)) 6 = v 6 from rfl]
          refine lv_iload_n hx hb d_mo_component_82 rfl (lv_at hl 2 rfl) ?_
          refine mo_iast hx hb hK hw hS 0 h7 rfl (nc) (by omega) (by omega) (by decide) d_mo_component_83 (fun H locs f2 hf2 hw hS => ?_)
          have h0 := eq_n hf2 h0 n7.symm
          have h7 := eq_s hf2
          have h8 := eq_n hf2 h8 (hR.nn 8 7 (by decide) (by decide) (by decide))
          have h9 := eq_n hf2 h9 (hR.nn 9 7 (by decide) (by decide) (by decide))
          have h10 := eq_n hf2 h10 (hR.nn 10 7 (by decide) (by decide) (by decide))
          have h11 := eq_n hf2 h11 (hR.nn 11 7 (by decide) (by decide) (by decide))
          have hF := Fr.up hF hf2 (by simp)
          refine lv_aload_n hx hb d_mo_component_84 rfl (lv_at hl 1 rfl) ?_
          refine mo_getr hx hb ht in_mo hown hK hw h0 rfl 8 (by decide) rfl b8 (ht _ t_674) (fun _ h => h) d_mo_component_85 ?_
          refine lv_aload_n hx hb d_mo_component_88 rfl (lv_at hl 1 rfl) ?_
          refine mo_geti hx hb ht in_mo hown hK hw h0 rfl 6 (by decide) rfl (ht _ t_672) (fun _ h => h) d_mo_component_89 ?_
          rw [show (va_up v 0 (if nn = 1 then 1 else if ii = 1 then 2 else 0)) 6 = v 6 from rfl]
          refine lv_iload_n hx hb d_mo_component_92 rfl (lv_at hl 3 rfl) ?_
          refine mo_iast hx hb hK hw hS 0 h8 rfl (nc) (by omega) (by omega) (by decide) d_mo_component_93 (fun H locs f3 hf3 hw hS => ?_)
          have h0 := eq_n hf3 h0 n8.symm
          have h7 := eq_n hf3 h7 (hR.nn 7 8 (by decide) (by decide) (by decide))
          have h8 := eq_s hf3
          have h9 := eq_n hf3 h9 (hR.nn 9 8 (by decide) (by decide) (by decide))
          have h10 := eq_n hf3 h10 (hR.nn 10 8 (by decide) (by decide) (by decide))
          have h11 := eq_n hf3 h11 (hR.nn 11 8 (by decide) (by decide) (by decide))
          have hF := Fr.up hF hf3 (by simp)
          refine lv_aload_n hx hb d_mo_component_94 rfl (lv_at hl 1 rfl) ?_
          refine mo_getr hx hb ht in_mo hown hK hw h0 rfl 9 (by decide) rfl b9 (ht _ t_675) (fun _ h => h) d_mo_component_95 ?_
          refine lv_aload_n hx hb d_mo_component_98 rfl (lv_at hl 1 rfl) ?_
          refine mo_geti hx hb ht in_mo hown hK hw h0 rfl 6 (by decide) rfl (ht _ t_672) (fun _ h => h) d_mo_component_99 ?_
          rw [show (va_up v 0 (if nn = 1 then 1 else if ii = 1 then 2 else 0)) 6 = v 6 from rfl]
          refine lv_iload_n hx hb d_mo_component_102 rfl (lv_at hl 4 rfl) ?_
          refine mo_iast hx hb hK hw hS 0 h9 rfl (nc) (by omega) (by omega) (by decide) d_mo_component_103 (fun H locs f4 hf4 hw hS => ?_)
          have h0 := eq_n hf4 h0 n9.symm
          have h7 := eq_n hf4 h7 (hR.nn 7 9 (by decide) (by decide) (by decide))
          have h8 := eq_n hf4 h8 (hR.nn 8 9 (by decide) (by decide) (by decide))
          have h9 := eq_s hf4
          have h10 := eq_n hf4 h10 (hR.nn 10 9 (by decide) (by decide) (by decide))
          have h11 := eq_n hf4 h11 (hR.nn 11 9 (by decide) (by decide) (by decide))
          have hF := Fr.up hF hf4 (by simp)
          refine mi_iconst hx hb d_mo_component_104 ?_
          refine lv_istore (lv' := [(5, .int (iI (0))), (4, .int (iI (k))), (0, .ref a), (1, .int (iI (x))), (2, .int (iI (y))), (3, .int (iI (z)))]) hx hb d_mo_component_105 hl (by decide) rfl (fun ls hl => ?_)
          have L107 : ∀ (n i : Nat) (f1 : hM) (H : Heap) (locs : List Loc) (ls : Array Slot), i + n = 33 → hW D CL lo f1 H → va_S (fun q => lo ≤ q) s.heap H locs → f1 a = some (eO 6 (oF sh_mo b (va_up v 0 (if nn = 1 then 1 else if ii = 1 then 2 else 0)))) → f1 (A 7) = some (eI X.1 16 (va_up (g 7) (nc) (x))) → f1 (A 8) = some (eI X.1 16 (va_up (g 8) (nc) (y))) → f1 (A 9) = some (eI X.1 16 (va_up (g 9) (nc) (z))) → f1 (A 10) = some (eI X.1 528 (fl (g 10) (33 * nc) i 15)) → f1 (A 11) = some (eI X.1 528 (fl (g 11) (33 * nc) i 15)) → Fr (a :: [7, 8, 9, 10, 11].map A) f f1 → lv_has ls 6 [(0, .ref a), (1, .int (iI (x))), (2, .int (iI (y))), (3, .int (iI (z))), (4, .int (iI (k))), (5, .int (iI ((i : Int))))] → W p l e ({ frames := 1, cells := 0, slots := 0, locals := 22 } : Room) s m args below meth cd H locs 0 0 Q (F0 m 107 ls []) := by
            intro n
            induction n with
            | zero =>
              intro i f1 H locs ls hrel hw hS h0 h7 h8 h9 h10 h11 hF hl
              refine lv_iload hx hb d_mo_component_107 (lv_at hl 5 rfl) ?_
              refine mi_bipush hx hb d_mo_component_109 (by decide) ?_
              refine mi_icmp_ge (tgt := 154) hx hb d_mo_component_111 (by decide) (by omega) (by decide) (fun c_111 => ?_) (fun c_111 => ?_)
              · skip
                refine lv_aload_n hx hb d_mo_component_154 rfl (lv_at hl 0 rfl) ?_
                refine mi_iconst hx hb d_mo_component_155 ?_
                refine mo_puti hx hb ht in_mo ty_mo tyok_mo nm_mo hown hK hw hS h0 rfl 16 (by decide) rfl (ht _ t_682) (fun _ h => h) rfl (tyok_mo 16 (by decide)) rfl rfl d_mo_component_156 (fun H locs f5 hf5 hw hS => ?_)
                have h0 := eq_s hf5
                have h7 := eq_n hf5 h7 n7
                have h8 := eq_n hf5 h8 n8
                have h9 := eq_n hf5 h9 n9
                have h10 := eq_n hf5 h10 n10
                have h11 := eq_n hf5 h11 n11
                have hF := Fr.up hF hf5 (by simp)
                refine lv_aload_n hx hb d_mo_component_159 rfl (lv_at hl 0 rfl) ?_
                refine lv_dup hx hb d_mo_component_160 rfl ?_
                refine mo_geti hx hb ht in_mo hown hK hw h0 rfl 6 (by decide) rfl (ht _ t_672) (fun _ h => h) d_mo_component_161 ?_
                rw [show (va_up (va_up v 0 (if nn = 1 then 1 else if ii = 1 then 2 else 0)) 16 (0)) 6 = v 6 from rfl]
                refine mi_iconst hx hb d_mo_component_164 ?_
                refine mi_iadd hx hb d_mo_component_165 ?_
                refine mo_puti hx hb ht in_mo ty_mo tyok_mo nm_mo hown hK hw hS h0 rfl 6 (by decide) rfl (ht _ t_672) (fun _ h => h) rfl (tyok_mo 6 (by decide)) rfl rfl d_mo_component_166 (fun H locs f6 hf6 hw hS => ?_)
                have h0 := eq_s hf6
                have h7 := eq_n hf6 h7 n7
                have h8 := eq_n hf6 h8 n8
                have h9 := eq_n hf6 h9 n9
                have h10 := eq_n hf6 h10 n10
                have h11 := eq_n hf6 h11 n11
                have hF := Fr.up hF hf6 (by simp)
                refine lv_aload_n hx hb d_mo_component_169 rfl (lv_at hl 0 rfl) ?_
                refine mo_geti hx hb ht in_mo hown hK hw h0 rfl 6 (by decide) rfl (ht _ t_672) (fun _ h => h) d_mo_component_170 ?_
                rw [show (va_up (va_up (va_up v 0 (if nn = 1 then 1 else if ii = 1 then 2 else 0)) 16 (0)) 6 ((v 6) + (1))) 6 = (v 6) + (1) from rfl]
                refine mi_iconst hx hb d_mo_component_173 ?_
                refine mi_isub hx hb d_mo_component_174 ?_
                have h33 : i = 33 := by omega
                subst h33
                rw [if_pos hg] at h_nn
                rw [if_neg hc3] at h_ii
                subst h_nn h_ii
                rw [← hQ]; exact mq_iret hx hb hr hlocks hK hlo hGO hG hw hS (Nat.zero_le _) (Nat.zero_le _) d_mo_component_175 ⟨by rw [if_pos ⟨hg, hc3⟩, hc]; congr 1; omega, hF, hR.fr [7, 8, 9, 10, 11] (by decide) hF (by rw [h0]; unfold mCmpV; rw [if_pos hg, if_neg hc3]; show some (eO 6 (oF sh_mo b (va_up (va_up (va_up v 0 0) 16 0) 6 (v 6 + 1)))) = _; rw [hc]) (fun q hq hk => by
                  have e9 : q = (7, 16, false) ∨ q = (8, 16, false) ∨ q = (9, 16, false) ∨ q = (10, 528, false) ∨ q = (11, 528, false) := (by revert q; decide)
                  unfold mCmpG; rw [if_pos ⟨hg, hc3⟩]
                  rcases e9 with rfl | rfl | rfl | rfl | rfl
                  · exact h7
                  · exact h8
                  · exact h9
                  · exact h10
                  · exact h11
                  ) (fun k _ hk => by unfold mCmpG; rw [if_pos ⟨hg, hc3⟩]; simp only [List.mem_cons, List.not_mem_nil, or_false, not_or] at hk; rw [va_up_ne _ _ hk.2.2.2.2, va_up_ne _ _ hk.2.2.2.1, va_up_ne _ _ hk.2.2.1, va_up_ne _ _ hk.2.1, va_up_ne _ _ hk.1])⟩
              · exact absurd c_111 (by omega)
            | succ n ih =>
              intro i f1 H locs ls hrel hw hS h0 h7 h8 h9 h10 h11 hF hl
              refine lv_iload hx hb d_mo_component_107 (lv_at hl 5 rfl) ?_
              refine mi_bipush hx hb d_mo_component_109 (by decide) ?_
              refine mi_icmp_ge (tgt := 154) hx hb d_mo_component_111 (by decide) (by omega) (by decide) (fun c_111 => ?_) (fun c_111 => ?_)
              · exact absurd c_111 (by omega)
              · skip
                refine lv_aload_n hx hb d_mo_component_114 rfl (lv_at hl 0 rfl) ?_
                refine mo_getr hx hb ht in_mo hown hK hw h0 rfl 10 (by decide) rfl b10 (ht _ t_676) (fun _ h => h) d_mo_component_115 ?_
                refine mi_bipush hx hb d_mo_component_118 (by decide) ?_
                refine lv_aload_n hx hb d_mo_component_120 rfl (lv_at hl 0 rfl) ?_
                refine mo_geti hx hb ht in_mo hown hK hw h0 rfl 6 (by decide) rfl (ht _ t_672) (fun _ h => h) d_mo_component_121 ?_
                rw [show (va_up v 0 (if nn = 1 then 1 else if ii = 1 then 2 else 0)) 6 = v 6 from rfl]
                refine mi_imul hx hb d_mo_component_124 ?_
                refine lv_iload hx hb d_mo_component_125 (lv_at hl 5 rfl) ?_
                refine mi_iadd hx hb d_mo_component_127 ?_
                refine mi_bipush hx hb d_mo_component_128 (by decide) ?_
                refine mo_iast hx hb hK hw hS 0 h10 rfl (33 * nc + i) (by omega) (by omega) (by decide) d_mo_component_130 (fun H locs f7 hf7 hw hS => ?_)
                have h0 := eq_n hf7 h0 n10.symm
                have h7 := eq_n hf7 h7 (hR.nn 7 10 (by decide) (by decide) (by decide))
                have h8 := eq_n hf7 h8 (hR.nn 8 10 (by decide) (by decide) (by decide))
                have h9 := eq_n hf7 h9 (hR.nn 9 10 (by decide) (by decide) (by decide))
                have h10 := eq_s hf7
                have h11 := eq_n hf7 h11 (hR.nn 11 10 (by decide) (by decide) (by decide))
                have hF := Fr.up hF hf7 (by simp)
                refine lv_aload_n hx hb d_mo_component_131 rfl (lv_at hl 0 rfl) ?_
                refine mo_getr hx hb ht in_mo hown hK hw h0 rfl 11 (by decide) rfl b11 (ht _ t_677) (fun _ h => h) d_mo_component_132 ?_
                refine mi_bipush hx hb d_mo_component_135 (by decide) ?_
                refine lv_aload_n hx hb d_mo_component_137 rfl (lv_at hl 0 rfl) ?_
                refine mo_geti hx hb ht in_mo hown hK hw h0 rfl 6 (by decide) rfl (ht _ t_672) (fun _ h => h) d_mo_component_138 ?_
                rw [show (va_up v 0 (if nn = 1 then 1 else if ii = 1 then 2 else 0)) 6 = v 6 from rfl]
                refine mi_imul hx hb d_mo_component_141 ?_
                refine lv_iload hx hb d_mo_component_142 (lv_at hl 5 rfl) ?_
                refine mi_iadd hx hb d_mo_component_144 ?_
                refine mi_bipush hx hb d_mo_component_145 (by decide) ?_
                refine mo_iast hx hb hK hw hS 0 h11 rfl (33 * nc + i) (by omega) (by omega) (by decide) d_mo_component_147 (fun H locs f8 hf8 hw hS => ?_)
                have h0 := eq_n hf8 h0 n11.symm
                have h7 := eq_n hf8 h7 (hR.nn 7 11 (by decide) (by decide) (by decide))
                have h8 := eq_n hf8 h8 (hR.nn 8 11 (by decide) (by decide) (by decide))
                have h9 := eq_n hf8 h9 (hR.nn 9 11 (by decide) (by decide) (by decide))
                have h10 := eq_n hf8 h10 (hR.nn 10 11 (by decide) (by decide) (by decide))
                have h11 := eq_s hf8
                have hF := Fr.up hF hf8 (by simp)
                refine lv_iinc (v := iI (((i : Int)) + 1)) (lv' := [(5, .int (iI (((i : Int)) + 1))), (0, .ref a), (1, .int (iI (x))), (2, .int (iI (y))), (3, .int (iI (z))), (4, .int (iI (k)))]) hx hb d_mo_component_148 hl (k := 5) rfl (by rw [← iI_add]; rfl) (by decide) rfl (fun ls hl => ?_)
                refine lv_goto (tgt := 107) hx hb d_mo_component_151 (by decide) ?_
                rw [fl_up] at h10 h11
                exact ih (i + 1) _ _ _ ls (by omega) hw hS h0 h7 h8 h9 h10 h11 hF (lv_sub hl [1, 2, 3, 4, 5, 0] rfl)
          rw [← fl_0 (g 10) (33 * nc) 15] at h10
          rw [← fl_0 (g 11) (33 * nc) 15] at h11
          exact L107 33 0 _ _ _ ls (by omega) hw hS h0 h7 h8 h9 h10 h11 hF (lv_sub hl [2, 3, 4, 5, 1, 0] rfl)
        · skip
          refine mi_iconst hx hb d_mo_component_72 ?_
          have hng : ¬ (gCmp x y z ∧ nc ≠ 16) := fun z9 => by rw [if_pos z9.1] at h_nn; rw [if_neg z9.2] at h_ii; subst h_nn h_ii; simp at c_69
          have hv9 : eO 6 (oF sh_mo b (va_up v 0 (if nn = 1 then 1 else if ii = 1 then 2 else 0))) = eO 6 (oF sh_mo b (mCmpV v nc x y z)) := by
            unfold mCmpV; by_cases hg : gCmp x y z
            · have h3 : nc = 16 := Classical.byContradiction (fun z9 => hng ⟨hg, z9⟩)
              rw [if_pos hg] at h_nn ⊢; rw [if_pos h3] at h_ii ⊢; subst h_nn h_ii; rfl
            · rw [if_neg hg] at h_nn ⊢; subst h_nn; rfl
          rw [← hQ]; exact mq_iret hx hb hr hlocks hK hlo hGO hG hw hS (Nat.zero_le _) (Nat.zero_le _) d_mo_component_73 ⟨by rw [if_neg hng], hF, hR.fr [7, 8, 9, 10, 11] (by decide) hF (by rw [h0, hv9]) (fun q hq hk => by
            have e9 : q = (7, 16, false) ∨ q = (8, 16, false) ∨ q = (9, 16, false) ∨ q = (10, 528, false) ∨ q = (11, 528, false) := (by revert q; decide)
            unfold mCmpG; rw [if_neg hng]
            rcases e9 with rfl | rfl | rfl | rfl | rfl
            · exact h7
            · exact h8
            · exact h9
            · exact h10
            · exact h11
            ) (fun k _ hk => by unfold mCmpG; rw [if_neg hng])⟩
      refine lv_aload_n hx hb d_mo_component_52 rfl (lv_at hl 1 rfl) ?_
      refine mo_geti hx hb ht in_mo hown hK hw h0 rfl 6 (by decide) rfl (ht _ t_672) (fun _ h => h) d_mo_component_53 ?_
      refine mi_bipush hx hb d_mo_component_56 (by decide) ?_
      refine mi_icmp_ne (tgt := 65) hx hb d_mo_component_58 (by decide) (by omega) (by decide) (fun c_58 => ?_) (fun c_58 => ?_)
      · skip
        refine mi_iconst hx hb d_mo_component_65 ?_
        exact J66 _ (by split <;> omega)
      · skip
        refine mi_iconst hx hb d_mo_component_61 ?_
        refine lv_goto (tgt := 66) hx hb d_mo_component_62 (by decide) ?_
        exact J66 _ (by split <;> omega)
    refine lv_iload hx hb d_mo_component_42 (lv_at hl 0 rfl) ?_
    refine mi_if_ne (tgt := 51) hx hb d_mo_component_44 (by decide) (by split at h_k <;> omega) (fun c_44 => ?_) (fun c_44 => ?_)
    · skip
      refine mi_iconst hx hb d_mo_component_51 ?_
      exact J52 _ (by split at h_k <;> split <;> omega)
    · skip
      refine mi_iconst hx hb d_mo_component_47 ?_
      refine lv_goto (tgt := 52) hx hb d_mo_component_48 (by decide) ?_
      exact J52 _ (by split at h_k <;> split <;> omega)
  refine lv_iload_n hx hb d_mo_component_0 rfl (lv_at hl 1 rfl) ?_
  refine mi_iconst hx hb d_mo_component_1 ?_
  refine mi_icmp_lt (tgt := 38) hx hb d_mo_component_2 (by decide) rx (by decide) (fun c_2 => ?_) (fun c_2 => ?_)
  · skip
    refine mi_iconst hx hb d_mo_component_38 ?_
    exact J39 _ (by split <;> omega)
  · skip
    refine lv_iload_n hx hb d_mo_component_5 rfl (lv_at hl 1 rfl) ?_
    refine mi_sipush hx hb d_mo_component_6 (by decide) ?_
    refine mi_icmp_gt (tgt := 38) hx hb d_mo_component_9 (by decide) rx (by decide) (fun c_9 => ?_) (fun c_9 => ?_)
    · skip
      refine mi_iconst hx hb d_mo_component_38 ?_
      exact J39 _ (by split <;> omega)
    · skip
      refine lv_iload_n hx hb d_mo_component_12 rfl (lv_at hl 2 rfl) ?_
      refine mi_iconst hx hb d_mo_component_13 ?_
      refine mi_icmp_lt (tgt := 38) hx hb d_mo_component_14 (by decide) ry (by decide) (fun c_14 => ?_) (fun c_14 => ?_)
      · skip
        refine mi_iconst hx hb d_mo_component_38 ?_
        exact J39 _ (by split <;> omega)
      · skip
        refine lv_iload_n hx hb d_mo_component_17 rfl (lv_at hl 2 rfl) ?_
        refine mi_sipush hx hb d_mo_component_18 (by decide) ?_
        refine mi_icmp_gt (tgt := 38) hx hb d_mo_component_21 (by decide) ry (by decide) (fun c_21 => ?_) (fun c_21 => ?_)
        · skip
          refine mi_iconst hx hb d_mo_component_38 ?_
          exact J39 _ (by split <;> omega)
        · skip
          refine lv_iload_n hx hb d_mo_component_24 rfl (lv_at hl 3 rfl) ?_
          refine mi_if_lt (tgt := 38) hx hb d_mo_component_25 (by decide) rz (fun c_25 => ?_) (fun c_25 => ?_)
          · skip
            refine mi_iconst hx hb d_mo_component_38 ?_
            exact J39 _ (by split <;> omega)
          · skip
            refine lv_iload_n hx hb d_mo_component_28 rfl (lv_at hl 3 rfl) ?_
            refine mi_bipush hx hb d_mo_component_29 (by decide) ?_
            refine mi_icmp_gt (tgt := 38) hx hb d_mo_component_31 (by decide) rz (by decide) (fun c_31 => ?_) (fun c_31 => ?_)
            · skip
              refine mi_iconst hx hb d_mo_component_38 ?_
              exact J39 _ (by split <;> omega)
            · skip
              refine mi_iconst hx hb d_mo_component_34 ?_
              refine lv_goto (tgt := 39) hx hb d_mo_component_35 (by decide) ?_
              exact J39 _ (by split <;> omega)
abbrev mLv (v : Nat → Int) (g : Nat → Nat → Int) (c r : Int) : Prop := 0 ≤ c ∧ c < v 6 ∧ 0 ≤ r ∧ r ≤ g 9 c.toNat
set_option maxHeartbeats 4000000 in
set_option maxRecDepth 100000 in
theorem c_mo_isLevel (l : Launch) (D : va_G) (X : ClassId × ClassId × ClassId × ClassId) (lo : Nat) (G : State → Prop) (hGO : GOK lo G) (f : hM) (a : Nat) (b : Nat → Option Nat) (v : Nat → Int) (A : Nat → Nat) (g : Nat → Nat → Int) (hR : moR X f a b v A g) (h6 : v 6 ≤ 16) (hg9 : ∀ j, iR (g 9 j)) (c r : Int) (rc : iR c) (rr : iR r) (r6 : iR (v 6)) : Met l y_mo_isLevel (Cond.code y_mo_isLevel b_mo_isLevel 3 (some FieldType.boolean) :: TB) ({ frames := 0, cells := 0, slots := 0, locals := 0 } : Room) (va_Pc [.ref a, .int (iI (c)), .int (iI (r))] (Bq D CL (TYS X) lo G f)) (va_Qi (fun z f1 => z = iI (if mLv v g c r then 1 else 0) ∧ Fr [] f f1) (Bq D CL (TYS X) lo G) (fun q => lo ≤ q)) 0 0 (fun q => lo ≤ q) := by
  refine mt (by decide) (Nat.le_of_ble_eq_true rfl) ?_
  intro p e s m args below meth cd ls hx hb hr hml hown ht hlocks hnm hK hlo hG hw hS hl
  have hl : lv_has ls 3 [(0, .ref a), (1, .int (iI (c))), (2, .int (iI (r)))] := hl
  generalize hQ : MQ below _ args s _ _ _ = Q
  have hF : Fr [] f f := Fr.rf
  have h0 := hR.1
  have h9 : f (A 9) = some (eI X.1 16 (g 9)) := (hR.2.1 (9, 16, false) (by decide)).2
  have b9 : b 9 = some (A 9) := (hR.2.1 (9, 16, false) (by decide)).1
  have n9 : A 9 ≠ a := hR.ne (by decide)
  refine lv_iload_n hx hb d_mo_isLevel_0 rfl (lv_at hl 1 rfl) ?_
  refine mi_if_lt (tgt := 44) hx hb d_mo_isLevel_1 (by decide) rc (fun c_1 => ?_) (fun c_1 => ?_)
  · skip
    refine mi_iconst hx hb d_mo_isLevel_44 ?_
    rw [← hQ]; exact mq_zret (z := 0) hx hb hr hlocks hK hlo hGO hG hw hS (Nat.zero_le _) (Nat.zero_le _) (Or.inl rfl) d_mo_isLevel_45 ⟨congrArg iI (by split <;> omega), hF⟩
  · skip
    refine lv_iload_n hx hb d_mo_isLevel_4 rfl (lv_at hl 1 rfl) ?_
    refine lv_aload_n hx hb d_mo_isLevel_5 rfl (lv_at hl 0 rfl) ?_
    refine mo_geti hx hb ht in_mo hown hK hw h0 rfl 6 (by decide) rfl (ht _ t_672) (fun _ h => h) d_mo_isLevel_6 ?_
    refine mi_icmp_ge (tgt := 44) hx hb d_mo_isLevel_9 (by decide) rc r6 (fun c_9 => ?_) (fun c_9 => ?_)
    · skip
      refine mi_iconst hx hb d_mo_isLevel_44 ?_
      rw [← hQ]; exact mq_zret (z := 0) hx hb hr hlocks hK hlo hGO hG hw hS (Nat.zero_le _) (Nat.zero_le _) (Or.inl rfl) d_mo_isLevel_45 ⟨congrArg iI (by split <;> omega), hF⟩
    · skip
      refine lv_iload_n hx hb d_mo_isLevel_12 rfl (lv_at hl 2 rfl) ?_
      refine mi_if_lt (tgt := 44) hx hb d_mo_isLevel_13 (by decide) rr (fun c_13 => ?_) (fun c_13 => ?_)
      · skip
        refine mi_iconst hx hb d_mo_isLevel_44 ?_
        rw [← hQ]; exact mq_zret (z := 0) hx hb hr hlocks hK hlo hGO hG hw hS (Nat.zero_le _) (Nat.zero_le _) (Or.inl rfl) d_mo_isLevel_45 ⟨congrArg iI (by split <;> omega), hF⟩
      · skip
        refine lv_iload_n hx hb d_mo_isLevel_16 rfl (lv_at hl 2 rfl) ?_
        refine lv_aload_n hx hb d_mo_isLevel_17 rfl (lv_at hl 0 rfl) ?_
        refine mo_getr hx hb ht in_mo hown hK hw h0 rfl 9 (by decide) rfl b9 (ht _ t_675) (fun _ h => h) d_mo_isLevel_18 ?_
        refine lv_iload_n hx hb d_mo_isLevel_21 rfl (lv_at hl 1 rfl) ?_
        refine mi_if_lt (tgt := 35) hx hb d_mo_isLevel_22 (by decide) rc (fun c_22 => ?_) (fun c_22 => ?_)
        · exact absurd c_22 (by omega)
        · skip
          refine lv_iload_n hx hb d_mo_isLevel_25 rfl (lv_at hl 1 rfl) ?_
          refine mi_bipush hx hb d_mo_isLevel_26 (by decide) ?_
          refine mi_icmp_ge (tgt := 35) hx hb d_mo_isLevel_28 (by decide) rc (by decide) (fun c_28 => ?_) (fun c_28 => ?_)
          · exact absurd c_28 (by omega)
          · skip
            refine lv_iload_n hx hb d_mo_isLevel_31 rfl (lv_at hl 1 rfl) ?_
            refine lv_goto (tgt := 36) hx hb d_mo_isLevel_32 (by decide) ?_
            refine mp_iald hx hb hK hw 0 h9 rfl (c.toNat) (by omega) (by omega) (by decide) d_mo_isLevel_36 ?_
            refine mi_icmp_gt (tgt := 44) hx hb d_mo_isLevel_37 (by decide) rr (hg9 _) (fun c_37 => ?_) (fun c_37 => ?_)
            · skip
              refine mi_iconst hx hb d_mo_isLevel_44 ?_
              rw [← hQ]; exact mq_zret (z := 0) hx hb hr hlocks hK hlo hGO hG hw hS (Nat.zero_le _) (Nat.zero_le _) (Or.inl rfl) d_mo_isLevel_45 ⟨congrArg iI (by split <;> omega), hF⟩
            · skip
              refine mi_iconst hx hb d_mo_isLevel_40 ?_
              refine lv_goto (tgt := 45) hx hb d_mo_isLevel_41 (by decide) ?_
              rw [← hQ]; exact mq_zret (z := 1) hx hb hr hlocks hK hlo hGO hG hw hS (Nat.zero_le _) (Nat.zero_le _) (Or.inr rfl) d_mo_isLevel_45 ⟨congrArg iI (by split <;> omega), hF⟩
abbrev gPre (r pw ph : Int) : Prop := 0 ≤ pw ∧ pw ≤ 15 ∧ 0 ≤ ph ∧ ph ≤ 15 ∧ (r = 0 ∨ (0 < pw ∧ 0 < ph))
def mPreV (v : Nat → Int) (g : Nat → Nat → Int) (c r pw ph : Int) : Nat → Int := if mLv v g c r then (if gPre r pw ph then va_up (va_up v 0 0) 16 0 else va_up v 0 2) else va_up v 0 1
def mPreG (v : Nat → Int) (g : Nat → Nat → Int) (c r pw ph : Int) : Nat → Nat → Int := if mLv v g c r ∧ gPre r pw ph then va_up (va_up g 10 (va_up (g 10) (33 * c + r).toNat pw)) 11 (va_up (g 11) (33 * c + r).toNat ph) else g
set_option maxHeartbeats 4000000 in
set_option maxRecDepth 100000 in
theorem c_mo_precincts (l : Launch) (D : va_G) (X : ClassId × ClassId × ClassId × ClassId) (lo : Nat) (G : State → Prop) (hGO : GOK lo G) (f : hM) (a : Nat) (b : Nat → Option Nat) (v : Nat → Int) (A : Nat → Nat) (g : Nat → Nat → Int) (hR : moR X f a b v A g) (h6 : v 6 ≤ 16) (r6 : iR (v 6)) (hg9 : ∀ j, iR (g 9 j)) (hg32 : ∀ j, g 9 j ≤ 32) (c r pw ph : Int) (rc : iR c) (rr : iR r) (rw9 : iR pw) (rh9 : iR ph) : Met l y_mo_precincts (Cond.code y_mo_precincts b_mo_precincts 6 (none) :: TB) ({ frames := 1, cells := 0, slots := 0, locals := 22 } : Room) (va_Pc [.ref a, .int (iI (c)), .int (iI (r)), .int (iI (pw)), .int (iI (ph))] (Bq D CL (TYS X) lo G f)) (va_Qv (fun f1 => Fr (a :: [10, 11].map A) f f1 ∧ moR X f1 a b (mPreV v g c r pw ph) A (mPreG v g c r pw ph)) (Bq D CL (TYS X) lo G) (fun q => lo ≤ q)) 0 0 (fun q => lo ≤ q) := by
  refine mt (by decide) (Nat.le_of_ble_eq_true rfl) ?_
  intro p e s m args below meth cd ls hx hb hr hml hown ht hlocks hnm hK hlo hG hw hS hl
  have hl : lv_has ls 6 [(0, .ref a), (1, .int (iI (c))), (2, .int (iI (r))), (3, .int (iI (pw))), (4, .int (iI (ph)))] := hl
  generalize hQ : MQ below _ args s _ _ _ = Q
  have hF : Fr (a :: [10, 11].map A) f f := Fr.rf
  have h0 := hR.1
  have h10 : f (A 10) = some (eI X.1 528 (g 10)) := (hR.2.1 (10, 528, false) (by decide)).2
  have b10 : b 10 = some (A 10) := (hR.2.1 (10, 528, false) (by decide)).1
  have n10 : A 10 ≠ a := hR.ne (by decide)
  have h11 : f (A 11) = some (eI X.1 528 (g 11)) := (hR.2.1 (11, 528, false) (by decide)).2
  have b11 : b 11 = some (A 11) := (hR.2.1 (11, 528, false) (by decide)).1
  have n11 : A 11 ≠ a := hR.ne (by decide)
  have J40 : ∀ k : Int, k = (if gPre r pw ph then 1 else 0) → W p l e ({ frames := 1, cells := 0, slots := 0, locals := 22 } : Room) s m args below meth cd s.heap [] 0 0 Q (F0 m 40 ls [.int (iI (k))]) := by
    intro k h_k
    refine lv_istore (lv' := [(5, .int (iI (k))), (0, .ref a), (1, .int (iI (c))), (2, .int (iI (r))), (3, .int (iI (pw))), (4, .int (iI (ph)))]) hx hb d_mo_precincts_40 hl (by decide) rfl (fun ls hl => ?_)
    refine lv_aload_n hx hb d_mo_precincts_42 rfl (lv_at hl 1 rfl) ?_
    refine lv_aload_n hx hb d_mo_precincts_43 rfl (lv_at hl 1 rfl) ?_
    refine lv_iload_n hx hb d_mo_precincts_44 rfl (lv_at hl 2 rfl) ?_
    refine lv_iload_n hx hb d_mo_precincts_45 rfl (lv_at hl 3 rfl) ?_
    refine mq_calli (va_runV (As := [.int (iI (c)), .int (iI (r))]) (rest := [.ref a]) ⟨hx, hb, hml, hown, ht⟩ (c_mo_isLevel l D X lo G hGO f a b v A g hR h6 hg9 c r rc rr r6) (cwV 2 ht (good_V (fun _ h => h) t_804 t_801 t_803 s_20 t_7) rfl rfl rfl (by decide +kernel) ⟨Nat.le_of_ble_eq_true rfl, Nat.le_of_ble_eq_true rfl⟩) (mq_preV hK hlo hGO hG hw hS (hW.recv hK hw (ci := 6) rfl h0)) rfl rfl hl.1 rfl (lv_room (Nat.le_of_ble_eq_true rfl)) d_mo_precincts_46 ⟨Nat.le_of_ble_eq_true rfl, Nat.le_of_ble_eq_true rfl⟩) hS (fun r1 f1 H locs hp hw hS => ?_)
    obtain ⟨rfl, hF1⟩ := hp
    have h0 := Fr.keep hF1 h0 (by simp)
    have h10 := Fr.keep hF1 h10 (by simp)
    have h11 := Fr.keep hF1 h11 (by simp)
    have hF := Fr.tr hF hF1 (by simp)
    have J57 : ∀ nn : Int, nn = (if mLv v g c r then 0 else 1) → W p l e ({ frames := 1, cells := 0, slots := 0, locals := 22 } : Room) s m args below meth cd H locs 0 0 Q (F0 m 57 ls [.int (iI (nn)), .ref a]) := by
      intro nn h_nn
      have J67 : ∀ ii : Int, ii = (if gPre r pw ph then 0 else 1) → W p l e ({ frames := 1, cells := 0, slots := 0, locals := 22 } : Room) s m args below meth cd H locs 0 0 Q (F0 m 67 ls [.int (iI (ii)), .int (iI (nn)), .ref a]) := by
        intro ii h_ii
        refine mq_calli (va_runV (As := [.int (iI (nn)), .int (iI (ii))]) (rest := []) ⟨hx, hb, hml, hown, ht⟩ (c_mo_refuse l D X lo G hGO f1 a b v h0 (nn) (ii) (by split at h_nn <;> omega) (by split at h_ii <;> omega)) (cwV 2 ht (good_V (fun _ h => h) t_792 t_789 t_791 s_19 t_7) rfl rfl rfl (by decide +kernel) ⟨Nat.le_of_ble_eq_true rfl, Nat.le_of_ble_eq_true rfl⟩) (mq_preV hK hlo hGO hG hw hS (hW.recv hK hw (ci := 6) rfl h0)) rfl rfl hl.1 rfl (lv_room (Nat.le_of_ble_eq_true rfl)) d_mo_precincts_67 ⟨Nat.le_of_ble_eq_true rfl, Nat.le_of_ble_eq_true rfl⟩) hS (fun r2 f2 H locs hp hw hS => ?_)
        obtain ⟨rfl, hF2, h09⟩ := hp
        have h10 := Fr.keep hF2 h10 (by simpa using n10)
        have h11 := Fr.keep hF2 h11 (by simpa using n11)
        have hF := Fr.tr hF hF2 (by simp)
        have h0 := h09
        refine mi_if_eq (tgt := 74) hx hb d_mo_precincts_70 (by decide) (by split <;> decide) (fun c_70 => ?_) (fun c_70 => ?_)
        · skip
          have hv : mLv v g c r := Classical.byContradiction (fun hg => by rw [if_neg hg] at h_nn; subst h_nn; simp at c_70)
          have hg : gPre r pw ph := Classical.byContradiction (fun hg => by rw [if_pos hv] at h_nn; rw [if_neg hg] at h_ii; subst h_nn h_ii; simp at c_70)
          have h9m := hg32 c.toNat
          refine lv_aload_n hx hb d_mo_precincts_74 rfl (lv_at hl 1 rfl) ?_
          refine mo_getr hx hb ht in_mo hown hK hw h0 rfl 10 (by decide) rfl b10 (ht _ t_676) (fun _ h => h) d_mo_precincts_75 ?_
          refine mi_bipush hx hb d_mo_precincts_78 (by decide) ?_
          refine lv_iload_n hx hb d_mo_precincts_80 rfl (lv_at hl 2 rfl) ?_
          refine mi_imul hx hb d_mo_precincts_81 ?_
          refine lv_iload_n hx hb d_mo_precincts_82 rfl (lv_at hl 3 rfl) ?_
          refine mi_iadd hx hb d_mo_precincts_83 ?_
          refine lv_iload_n hx hb d_mo_precincts_84 rfl (lv_at hl 4 rfl) ?_
          refine mo_iast hx hb hK hw hS 0 h10 rfl ((33 * c + r).toNat) (by omega) (by omega) (by decide) d_mo_precincts_85 (fun H locs f3 hf3 hw hS => ?_)
          have h0 := eq_n hf3 h0 n10.symm
          have h10 := eq_s hf3
          have h11 := eq_n hf3 h11 (hR.nn 11 10 (by decide) (by decide) (by decide))
          have hF := Fr.up hF hf3 (by simp)
          refine lv_aload_n hx hb d_mo_precincts_86 rfl (lv_at hl 1 rfl) ?_
          refine mo_getr hx hb ht in_mo hown hK hw h0 rfl 11 (by decide) rfl b11 (ht _ t_677) (fun _ h => h) d_mo_precincts_87 ?_
          refine mi_bipush hx hb d_mo_precincts_90 (by decide) ?_
          refine lv_iload_n hx hb d_mo_precincts_92 rfl (lv_at hl 2 rfl) ?_
          refine mi_imul hx hb d_mo_precincts_93 ?_
          refine lv_iload_n hx hb d_mo_precincts_94 rfl (lv_at hl 3 rfl) ?_
          refine mi_iadd hx hb d_mo_precincts_95 ?_
          refine lv_iload hx hb d_mo_precincts_96 (lv_at hl 5 rfl) ?_
          refine mo_iast hx hb hK hw hS 0 h11 rfl ((33 * c + r).toNat) (by omega) (by omega) (by decide) d_mo_precincts_98 (fun H locs f4 hf4 hw hS => ?_)
          have h0 := eq_n hf4 h0 n11.symm
          have h10 := eq_n hf4 h10 (hR.nn 10 11 (by decide) (by decide) (by decide))
          have h11 := eq_s hf4
          have hF := Fr.up hF hf4 (by simp)
          refine lv_aload_n hx hb d_mo_precincts_99 rfl (lv_at hl 1 rfl) ?_
          refine mi_iconst hx hb d_mo_precincts_100 ?_
          refine mo_puti hx hb ht in_mo ty_mo tyok_mo nm_mo hown hK hw hS h0 rfl 16 (by decide) rfl (ht _ t_682) (fun _ h => h) rfl (tyok_mo 16 (by decide)) rfl rfl d_mo_precincts_101 (fun H locs f5 hf5 hw hS => ?_)
          have h0 := eq_s hf5
          have h10 := eq_n hf5 h10 n10
          have h11 := eq_n hf5 h11 n11
          have hF := Fr.up hF hf5 (by simp)
          rw [if_pos hv] at h_nn
          rw [if_pos hg] at h_ii
          subst h_nn h_ii
          rw [← hQ]; exact mq_vret hx hb hr hlocks hK hlo hGO hG hw hS (Nat.zero_le _) (Nat.zero_le _) d_mo_precincts_104 ⟨hF, hR.fr [10, 11] (by decide) hF (by rw [h0]; unfold mPreV; rw [if_pos hv, if_pos hg]; rfl) (fun q hq hk => by
            have e9 : q = (10, 528, false) ∨ q = (11, 528, false) := (by revert q; decide)
            unfold mPreG; rw [if_pos ⟨hv, hg⟩]
            rcases e9 with rfl | rfl
            · exact h10
            · exact h11
            ) (fun k _ hk => by unfold mPreG; rw [if_pos ⟨hv, hg⟩]; simp only [List.mem_cons, List.not_mem_nil, or_false, not_or] at hk; rw [va_up_ne _ _ hk.2, va_up_ne _ _ hk.1])⟩
        · skip
          have hng : ¬ (mLv v g c r ∧ gPre r pw ph) := fun z9 => by rw [if_pos z9.1] at h_nn; rw [if_pos z9.2] at h_ii; subst h_nn h_ii; simp at c_70
          have hv9 : eO 6 (oF sh_mo b (va_up v 0 (if nn = 1 then 1 else if ii = 1 then 2 else 0))) = eO 6 (oF sh_mo b (mPreV v g c r pw ph)) := by
            unfold mPreV; by_cases hv : mLv v g c r
            · have h3 : ¬ gPre r pw ph := fun z9 => hng ⟨hv, z9⟩
              rw [if_pos hv] at h_nn ⊢; rw [if_neg h3] at h_ii ⊢; subst h_nn h_ii; rfl
            · rw [if_neg hv] at h_nn ⊢; subst h_nn; rfl
          rw [← hQ]; exact mq_vret hx hb hr hlocks hK hlo hGO hG hw hS (Nat.zero_le _) (Nat.zero_le _) d_mo_precincts_73 ⟨hF, hR.fr [10, 11] (by decide) hF (by rw [h0, hv9]) (fun q hq hk => by
            have e9 : q = (10, 528, false) ∨ q = (11, 528, false) := (by revert q; decide)
            unfold mPreG; rw [if_neg hng]
            rcases e9 with rfl | rfl
            · exact h10
            · exact h11
            ) (fun k _ hk => by unfold mPreG; rw [if_neg hng])⟩
      refine lv_iload hx hb d_mo_precincts_57 (lv_at hl 0 rfl) ?_
      refine mi_if_ne (tgt := 66) hx hb d_mo_precincts_59 (by decide) (by split at h_k <;> omega) (fun c_59 => ?_) (fun c_59 => ?_)
      · skip
        refine mi_iconst hx hb d_mo_precincts_66 ?_
        exact J67 _ (by split at h_k <;> split <;> omega)
      · skip
        refine mi_iconst hx hb d_mo_precincts_62 ?_
        refine lv_goto (tgt := 67) hx hb d_mo_precincts_63 (by decide) ?_
        exact J67 _ (by split at h_k <;> split <;> omega)
    refine mi_if_ne (tgt := 56) hx hb d_mo_precincts_49 (by decide) (by split <;> decide) (fun c_49 => ?_) (fun c_49 => ?_)
    · skip
      refine mi_iconst hx hb d_mo_precincts_56 ?_
      exact J57 _ (by split at c_49 <;> split <;> omega)
    · skip
      refine mi_iconst hx hb d_mo_precincts_52 ?_
      refine lv_goto (tgt := 57) hx hb d_mo_precincts_53 (by decide) ?_
      exact J57 _ (by split at c_49 <;> split <;> omega)
  refine lv_iload_n hx hb d_mo_precincts_0 rfl (lv_at hl 3 rfl) ?_
  refine mi_if_lt (tgt := 39) hx hb d_mo_precincts_1 (by decide) rw9 (fun c_1 => ?_) (fun c_1 => ?_)
  · skip
    refine mi_iconst hx hb d_mo_precincts_39 ?_
    exact J40 _ (by split <;> omega)
  · skip
    refine lv_iload_n hx hb d_mo_precincts_4 rfl (lv_at hl 3 rfl) ?_
    refine mi_bipush hx hb d_mo_precincts_5 (by decide) ?_
    refine mi_icmp_gt (tgt := 39) hx hb d_mo_precincts_7 (by decide) rw9 (by decide) (fun c_7 => ?_) (fun c_7 => ?_)
    · skip
      refine mi_iconst hx hb d_mo_precincts_39 ?_
      exact J40 _ (by split <;> omega)
    · skip
      refine lv_iload hx hb d_mo_precincts_10 (lv_at hl 4 rfl) ?_
      refine mi_if_lt (tgt := 39) hx hb d_mo_precincts_12 (by decide) rh9 (fun c_12 => ?_) (fun c_12 => ?_)
      · skip
        refine mi_iconst hx hb d_mo_precincts_39 ?_
        exact J40 _ (by split <;> omega)
      · skip
        refine lv_iload hx hb d_mo_precincts_15 (lv_at hl 4 rfl) ?_
        refine mi_bipush hx hb d_mo_precincts_17 (by decide) ?_
        refine mi_icmp_gt (tgt := 39) hx hb d_mo_precincts_19 (by decide) rh9 (by decide) (fun c_19 => ?_) (fun c_19 => ?_)
        · skip
          refine mi_iconst hx hb d_mo_precincts_39 ?_
          exact J40 _ (by split <;> omega)
        · skip
          refine lv_iload_n hx hb d_mo_precincts_22 rfl (lv_at hl 2 rfl) ?_
          refine mi_if_eq (tgt := 35) hx hb d_mo_precincts_23 (by decide) rr (fun c_23 => ?_) (fun c_23 => ?_)
          · skip
            refine mi_iconst hx hb d_mo_precincts_35 ?_
            refine lv_goto (tgt := 40) hx hb d_mo_precincts_36 (by decide) ?_
            exact J40 _ (by split <;> omega)
          · skip
            refine lv_iload_n hx hb d_mo_precincts_26 rfl (lv_at hl 3 rfl) ?_
            refine mi_if_le (tgt := 39) hx hb d_mo_precincts_27 (by decide) rw9 (fun c_27 => ?_) (fun c_27 => ?_)
            · skip
              refine mi_iconst hx hb d_mo_precincts_39 ?_
              exact J40 _ (by split <;> omega)
            · skip
              refine lv_iload hx hb d_mo_precincts_30 (lv_at hl 4 rfl) ?_
              refine mi_if_le (tgt := 39) hx hb d_mo_precincts_32 (by decide) rh9 (fun c_32 => ?_) (fun c_32 => ?_)
              · skip
                refine mi_iconst hx hb d_mo_precincts_39 ?_
                exact J40 _ (by split <;> omega)
              · skip
                refine mi_iconst hx hb d_mo_precincts_35 ?_
                refine lv_goto (tgt := 40) hx hb d_mo_precincts_36 (by decide) ?_
                exact J40 _ (by split <;> omega)
end
section
/-! the reference: its constructor; begin, next, skip, packet, came while there is no sequence -/
def moIx (k : Nat) : Nat := if k = 7 then 0 else if k = 8 then 1 else if k = 9 then 2 else if k = 10 then 3 else if k = 11 then 4 else if k = 15 then 5 else if k = 18 then 6 else if k = 19 then 7 else if k = 20 then 8 else if k = 21 then 9 else if k = 22 then 10 else if k = 23 then 11 else if k = 24 then 12 else 13
def moA (L : List Nat) (k : Nat) : Nat := L.getD (moIx k) 0
theorem moA_inj {L : List Nat} (hn : L.Nodup) (hl : L.length = 13) : ∀ k ∈ moSl, ∀ j ∈ moSl, moA L k = moA L j → k = j := by
  intro k hk j hj h
  have e1 : ∀ k ∈ moSl, moIx k < 13 := by decide
  have e2 : ∀ k ∈ moSl, ∀ j ∈ moSl, moIx k = moIx j → k = j := by decide
  have hk1 : moIx k < L.length := by rw [hl]; exact e1 k hk
  have hj1 : moIx j < L.length := by rw [hl]; exact e1 j hj
  unfold moA at h
  rw [List.getD_eq_getElem?_getD, List.getD_eq_getElem?_getD, List.getElem?_eq_getElem hk1, List.getElem?_eq_getElem hj1] at h
  exact e2 k hk j hj ((List.getElem_inj hn).mp h)
theorem al_up {L : List Nat} {f f1 : hM} {a : Nat} {e : va_E} (h : ∀ x ∈ L, f x ≠ none) (hf : f1 = va_up f a (some e)) : ∀ x ∈ L, f1 x ≠ none := by
  intro x hx1
  rw [hf]
  unfold va_up
  split
  · intro z; cases z
  · exact h x hx1
theorem al_new {L : List Nat} {f f1 : hM} {a : Nat} {e : va_E} (h : ∀ x ∈ L, f x ≠ none) (hf : f1 = va_up f a (some e)) : ∀ x ∈ a :: L, f1 x ≠ none := by
  intro x hx0
  rcases List.mem_cons.mp hx0 with hx2 | hx1
  · rw [hx2, hf, va_up_self]; intro z; cases z
  · exact al_up h hf x hx1
theorem nd_new {L : List Nat} {f : hM} {q : Nat} (hn : L.Nodup) (h : ∀ x ∈ L, f x ≠ none) (hq : f q = none) : (q :: L).Nodup := List.nodup_cons.mpr ⟨fun z => h q z hq, hn⟩
set_option maxHeartbeats 4000000 in
set_option maxRecDepth 100000 in
theorem c_mo_begin0 (l : Launch) (D : va_G) (X : ClassId × ClassId × ClassId × ClassId) (lo : Nat) (G : State → Prop) (hGO : GOK lo G) (f : hM) (a : Nat) (b : Nat → Option Nat) (v : Nat → Int) (A : Nat → Nat) (g : Nat → Nat → Int) (hR : moR X f a b v A g) (h1 : v 1 = 0) : Met l y_mo_begin (Cond.code y_mo_begin b_mo_begin 4 (some FieldType.int) :: TB) ({ frames := 1, cells := 0, slots := 0, locals := 22 } : Room) (va_Pc [.ref a] (Bq D CL (TYS X) lo G f)) (va_Qi (fun r f1 => r = iI 0 ∧ Fr [a] f f1 ∧ moR X f1 a b (va_up v 0 1) A g) (Bq D CL (TYS X) lo G) (fun q => lo ≤ q)) 0 0 (fun q => lo ≤ q) := by
  refine mt (by decide) (Nat.le_of_ble_eq_true rfl) ?_
  intro p e s m args below meth cd ls hx hb hr hml hown ht hlocks hnm hK hlo hG hw hS hl
  have hl : lv_has ls 4 [(0, .ref a)] := hl
  generalize hQ : MQ below _ args s _ _ _ = Q
  have hF : Fr [a] f f := Fr.rf
  have h0 := hR.1
  refine lv_aload_n hx hb d_mo_begin_0 rfl (lv_at hl 0 rfl) ?_
  refine mo_geti hx hb ht in_mo hown hK hw h0 rfl 1 (by decide) rfl (ht _ t_667) (fun _ h => h) d_mo_begin_1 ?_
  refine mi_if_eq (tgt := 14) hx hb d_mo_begin_4 (by decide) (by omega) (fun c_4 => ?_) (fun c_4 => ?_)
  · skip
    refine mi_iconst hx hb d_mo_begin_14 ?_
    refine lv_goto (tgt := 19) hx hb d_mo_begin_15 (by decide) ?_
    refine lv_istore_n (lv' := [(1, .int (iI (1))), (0, .ref a)]) hx hb d_mo_begin_19 rfl hl (by decide) rfl (fun ls hl => ?_)
    refine lv_aload_n hx hb d_mo_begin_20 rfl (lv_at hl 1 rfl) ?_
    refine lv_iload_n hx hb d_mo_begin_21 rfl (lv_at hl 0 rfl) ?_
    refine lv_iload_n hx hb d_mo_begin_22 rfl (lv_at hl 0 rfl) ?_
    refine mi_if_ne (tgt := 41) hx hb d_mo_begin_23 (by decide) (by decide) (fun c_23 => ?_) (fun c_23 => ?_)
    · skip
      refine mi_iconst hx hb d_mo_begin_41 ?_
      refine mq_calli (va_runV (As := [.int (iI (1)), .int (iI (0))]) (rest := []) ⟨hx, hb, hml, hown, ht⟩ (c_mo_refuse l D X lo G hGO f a b v h0 (1) (0) (Or.inr rfl) (Or.inl rfl)) (cwV 2 ht (good_V (fun _ h => h) t_792 t_789 t_791 s_19 t_7) rfl rfl rfl (by decide +kernel) ⟨Nat.le_of_ble_eq_true rfl, Nat.le_of_ble_eq_true rfl⟩) (mq_preV hK hlo hGO hG hw hS (hW.recv hK hw (ci := 6) rfl h0)) rfl rfl hl.1 rfl (lv_room (Nat.le_of_ble_eq_true rfl)) d_mo_begin_42 ⟨Nat.le_of_ble_eq_true rfl, Nat.le_of_ble_eq_true rfl⟩) hS (fun r1 f1 H locs hp hw hS => ?_)
      obtain ⟨rfl, hF1, h09⟩ := hp
      have hF := Fr.tr hF hF1 (by simp)
      have h0 := h09
      refine mi_if_eq (tgt := 50) hx hb d_mo_begin_45 (by decide) (by split <;> decide) (fun c_45 => ?_) (fun c_45 => ?_)
      · exact absurd c_45 (by decide)
      · skip
        refine mi_iconst hx hb d_mo_begin_48 ?_
        rw [← hQ]; exact mq_iret hx hb hr hlocks hK hlo hGO hG hw hS (Nat.zero_le _) (Nat.zero_le _) d_mo_begin_49 ⟨rfl, hF, hR.fr [] (by simp) hF h0 (fun q _ hq => absurd hq List.not_mem_nil) (fun _ _ _ => rfl)⟩
    · exact absurd c_23 (by decide)
  · exact absurd c_4 (by omega)
set_option maxHeartbeats 4000000 in
set_option maxRecDepth 100000 in
theorem c_mo_next0 (l : Launch) (D : va_G) (X : ClassId × ClassId × ClassId × ClassId) (lo : Nat) (G : State → Prop) (hGO : GOK lo G) (f : hM) (a : Nat) (b : Nat → Option Nat) (v : Nat → Int) (A : Nat → Nat) (g : Nat → Nat → Int) (hR : moR X f a b v A g) (h16 : v 16 = 0) : Met l y_mo_next (Cond.code y_mo_next b_mo_next 1 (some FieldType.boolean) :: TB) ({ frames := 1, cells := 0, slots := 0, locals := 22 } : Room) (va_Pc [.ref a] (Bq D CL (TYS X) lo G f)) (va_Qi (fun r f1 => r = iI 0 ∧ Fr [a] f f1 ∧ moR X f1 a b (va_up v 0 1) A g) (Bq D CL (TYS X) lo G) (fun q => lo ≤ q)) 0 0 (fun q => lo ≤ q) := by
  refine mt (by decide) (Nat.le_of_ble_eq_true rfl) ?_
  intro p e s m args below meth cd ls hx hb hr hml hown ht hlocks hnm hK hlo hG hw hS hl
  have hl : lv_has ls 1 [(0, .ref a)] := hl
  generalize hQ : MQ below _ args s _ _ _ = Q
  have hF : Fr [a] f f := Fr.rf
  have h0 := hR.1
  refine lv_aload_n hx hb d_mo_next_0 rfl (lv_at hl 0 rfl) ?_
  refine lv_aload_n hx hb d_mo_next_1 rfl (lv_at hl 0 rfl) ?_
  refine mo_geti hx hb ht in_mo hown hK hw h0 rfl 16 (by decide) rfl (ht _ t_682) (fun _ h => h) d_mo_next_2 ?_
  refine mi_if_ne (tgt := 12) hx hb d_mo_next_5 (by decide) (by omega) (fun c_5 => ?_) (fun c_5 => ?_)
  · exact absurd c_5 (by omega)
  · skip
    refine mi_iconst hx hb d_mo_next_8 ?_
    refine lv_goto (tgt := 13) hx hb d_mo_next_9 (by decide) ?_
    refine mi_iconst hx hb d_mo_next_13 ?_
    refine mq_calli (va_runV (As := [.int (iI (1)), .int (iI (0))]) (rest := []) ⟨hx, hb, hml, hown, ht⟩ (c_mo_refuse l D X lo G hGO f a b v h0 (1) (0) (Or.inr rfl) (Or.inl rfl)) (cwV 2 ht (good_V (fun _ h => h) t_792 t_789 t_791 s_19 t_7) rfl rfl rfl (by decide +kernel) ⟨Nat.le_of_ble_eq_true rfl, Nat.le_of_ble_eq_true rfl⟩) (mq_preV hK hlo hGO hG hw hS (hW.recv hK hw (ci := 6) rfl h0)) rfl rfl hl.1 rfl (lv_room (Nat.le_of_ble_eq_true rfl)) d_mo_next_14 ⟨Nat.le_of_ble_eq_true rfl, Nat.le_of_ble_eq_true rfl⟩) hS (fun r1 f1 H locs hp hw hS => ?_)
    obtain ⟨rfl, hF1, h09⟩ := hp
    have hF := Fr.tr hF hF1 (by simp)
    have h0 := h09
    refine mi_if_eq (tgt := 22) hx hb d_mo_next_17 (by decide) (by split <;> decide) (fun c_17 => ?_) (fun c_17 => ?_)
    · exact absurd c_17 (by decide)
    · skip
      refine mi_iconst hx hb d_mo_next_20 ?_
      rw [← hQ]; exact mq_zret (z := 0) hx hb hr hlocks hK hlo hGO hG hw hS (Nat.zero_le _) (Nat.zero_le _) (Or.inl rfl) d_mo_next_21 ⟨rfl, hF, hR.fr [] (by simp) hF h0 (fun q _ hq => absurd hq List.not_mem_nil) (fun _ _ _ => rfl)⟩
set_option maxHeartbeats 4000000 in
set_option maxRecDepth 100000 in
theorem c_mo_skip0 (l : Launch) (D : va_G) (X : ClassId × ClassId × ClassId × ClassId) (lo : Nat) (G : State → Prop) (hGO : GOK lo G) (f : hM) (a : Nat) (b : Nat → Option Nat) (v : Nat → Int) (A : Nat → Nat) (g : Nat → Nat → Int) (hR : moR X f a b v A g) (h16 : v 16 = 0) (n : Int) (rn : iR n) : Met l y_mo_skip (Cond.code y_mo_skip b_mo_skip 3 (some FieldType.int) :: TB) ({ frames := 1, cells := 0, slots := 0, locals := 22 } : Room) (va_Pc [.ref a, .int (iI (n))] (Bq D CL (TYS X) lo G f)) (va_Qi (fun r f1 => r = iI 0 ∧ Fr [a] f f1 ∧ moR X f1 a b (va_up v 0 (if n < 0 then 1 else 2)) A g) (Bq D CL (TYS X) lo G) (fun q => lo ≤ q)) 0 0 (fun q => lo ≤ q) := by
  refine mt (by decide) (Nat.le_of_ble_eq_true rfl) ?_
  intro p e s m args below meth cd ls hx hb hr hml hown ht hlocks hnm hK hlo hG hw hS hl
  have hl : lv_has ls 3 [(0, .ref a), (1, .int (iI (n)))] := hl
  generalize hQ : MQ below _ args s _ _ _ = Q
  have hF : Fr [a] f f := Fr.rf
  have h0 := hR.1
  refine lv_aload_n hx hb d_mo_skip_0 rfl (lv_at hl 0 rfl) ?_
  have J10 : ∀ k : Int, k = (if n < 0 then 1 else 0) → W p l e ({ frames := 1, cells := 0, slots := 0, locals := 22 } : Room) s m args below meth cd s.heap [] 0 0 Q (F0 m 10 ls [.int (iI (k)), .ref a]) := by
    intro k h_k
    refine lv_aload_n hx hb d_mo_skip_10 rfl (lv_at hl 0 rfl) ?_
    refine mo_geti hx hb ht in_mo hown hK hw h0 rfl 16 (by decide) rfl (ht _ t_682) (fun _ h => h) d_mo_skip_11 ?_
    refine mi_if_ne (tgt := 21) hx hb d_mo_skip_14 (by decide) (by omega) (fun c_14 => ?_) (fun c_14 => ?_)
    · exact absurd c_14 (by omega)
    · skip
      refine mi_iconst hx hb d_mo_skip_17 ?_
      refine lv_goto (tgt := 22) hx hb d_mo_skip_18 (by decide) ?_
      refine mq_calli (va_runV (As := [.int (iI (k)), .int (iI (1))]) (rest := []) ⟨hx, hb, hml, hown, ht⟩ (c_mo_refuse l D X lo G hGO f a b v h0 (k) (1) (by split at h_k <;> omega) (Or.inr rfl)) (cwV 2 ht (good_V (fun _ h => h) t_792 t_789 t_791 s_19 t_7) rfl rfl rfl (by decide +kernel) ⟨Nat.le_of_ble_eq_true rfl, Nat.le_of_ble_eq_true rfl⟩) (mq_preV hK hlo hGO hG hw hS (hW.recv hK hw (ci := 6) rfl h0)) rfl rfl hl.1 rfl (lv_room (Nat.le_of_ble_eq_true rfl)) d_mo_skip_22 ⟨Nat.le_of_ble_eq_true rfl, Nat.le_of_ble_eq_true rfl⟩) hS (fun r1 f1 H locs hp hw hS => ?_)
      obtain ⟨rfl, hF1, h09⟩ := hp
      have hF := Fr.tr hF hF1 (by simp)
      have h0 := h09
      refine mi_if_eq (tgt := 30) hx hb d_mo_skip_25 (by decide) (by split <;> decide) (fun c_25 => ?_) (fun c_25 => ?_)
      · exact absurd c_25 (by rw [if_pos (Or.inr rfl)]; decide)
      · skip
        refine mi_iconst hx hb d_mo_skip_28 ?_
        rw [← hQ]; exact mq_iret hx hb hr hlocks hK hlo hGO hG hw hS (Nat.zero_le _) (Nat.zero_le _) d_mo_skip_29 ⟨rfl, hF, hR.fr [] (by simp) hF (by rw [h0, h_k]; split <;> rfl) (fun q _ hq => absurd hq List.not_mem_nil) (fun _ _ _ => rfl)⟩
  refine lv_iload_n hx hb d_mo_skip_1 rfl (lv_at hl 1 rfl) ?_
  refine mi_if_ge (tgt := 9) hx hb d_mo_skip_2 (by decide) rn (fun c_2 => ?_) (fun c_2 => ?_)
  · skip
    refine mi_iconst hx hb d_mo_skip_9 ?_
    exact J10 _ (by split <;> omega)
  · skip
    refine mi_iconst hx hb d_mo_skip_5 ?_
    refine lv_goto (tgt := 10) hx hb d_mo_skip_6 (by decide) ?_
    exact J10 _ (by split <;> omega)
set_option maxHeartbeats 4000000 in
set_option maxRecDepth 100000 in
theorem c_mo_packet0 (l : Launch) (D : va_G) (X : ClassId × ClassId × ClassId × ClassId) (lo : Nat) (G : State → Prop) (hGO : GOK lo G) (f : hM) (a : Nat) (b : Nat → Option Nat) (v : Nat → Int) (A : Nat → Nat) (g : Nat → Nat → Int) (hR : moR X f a b v A g) (h16 : v 16 = 0) (n : Int) (rn : iR n) : Met l y_mo_packet (Cond.code y_mo_packet b_mo_packet 2 (some FieldType.int) :: TB) ({ frames := 1, cells := 0, slots := 0, locals := 22 } : Room) (va_Pc [.ref a, .int (iI (n))] (Bq D CL (TYS X) lo G f)) (va_Qi (fun r f1 => r = iI 0 ∧ Fr [a] f f1 ∧ moR X f1 a b (va_up v 0 1) A g) (Bq D CL (TYS X) lo G) (fun q => lo ≤ q)) 0 0 (fun q => lo ≤ q) := by
  refine mt (by decide) (Nat.le_of_ble_eq_true rfl) ?_
  intro p e s m args below meth cd ls hx hb hr hml hown ht hlocks hnm hK hlo hG hw hS hl
  have hl : lv_has ls 2 [(0, .ref a), (1, .int (iI (n)))] := hl
  generalize hQ : MQ below _ args s _ _ _ = Q
  have hF : Fr [a] f f := Fr.rf
  have h0 := hR.1
  refine lv_aload_n hx hb d_mo_packet_0 rfl (lv_at hl 0 rfl) ?_
  refine lv_aload_n hx hb d_mo_packet_1 rfl (lv_at hl 0 rfl) ?_
  refine mo_geti hx hb ht in_mo hown hK hw h0 rfl 16 (by decide) rfl (ht _ t_682) (fun _ h => h) d_mo_packet_2 ?_
  refine mi_if_eq (tgt := 24) hx hb d_mo_packet_5 (by decide) (by omega) (fun c_5 => ?_) (fun c_5 => ?_)
  · skip
    refine mi_iconst hx hb d_mo_packet_24 ?_
    refine lv_goto (tgt := 29) hx hb d_mo_packet_25 (by decide) ?_
    refine mi_iconst hx hb d_mo_packet_29 ?_
    refine mq_calli (va_runV (As := [.int (iI (1)), .int (iI (0))]) (rest := []) ⟨hx, hb, hml, hown, ht⟩ (c_mo_refuse l D X lo G hGO f a b v h0 (1) (0) (Or.inr rfl) (Or.inl rfl)) (cwV 2 ht (good_V (fun _ h => h) t_792 t_789 t_791 s_19 t_7) rfl rfl rfl (by decide +kernel) ⟨Nat.le_of_ble_eq_true rfl, Nat.le_of_ble_eq_true rfl⟩) (mq_preV hK hlo hGO hG hw hS (hW.recv hK hw (ci := 6) rfl h0)) rfl rfl hl.1 rfl (lv_room (Nat.le_of_ble_eq_true rfl)) d_mo_packet_30 ⟨Nat.le_of_ble_eq_true rfl, Nat.le_of_ble_eq_true rfl⟩) hS (fun r1 f1 H locs hp hw hS => ?_)
    obtain ⟨rfl, hF1, h09⟩ := hp
    have hF := Fr.tr hF hF1 (by simp)
    have h0 := h09
    refine mi_if_eq (tgt := 38) hx hb d_mo_packet_33 (by decide) (by split <;> decide) (fun c_33 => ?_) (fun c_33 => ?_)
    · exact absurd c_33 (by decide)
    · skip
      refine mi_iconst hx hb d_mo_packet_36 ?_
      rw [← hQ]; exact mq_iret hx hb hr hlocks hK hlo hGO hG hw hS (Nat.zero_le _) (Nat.zero_le _) d_mo_packet_37 ⟨rfl, hF, hR.fr [] (by simp) hF h0 (fun q _ hq => absurd hq List.not_mem_nil) (fun _ _ _ => rfl)⟩
  · exact absurd c_5 (by omega)
set_option maxHeartbeats 4000000 in
set_option maxRecDepth 100000 in
theorem c_mo_came0 (l : Launch) (D : va_G) (X : ClassId × ClassId × ClassId × ClassId) (lo : Nat) (G : State → Prop) (hGO : GOK lo G) (f : hM) (a : Nat) (b : Nat → Option Nat) (v : Nat → Int) (A : Nat → Nat) (g : Nat → Nat → Int) (hR : moR X f a b v A g) (h16 : v 16 = 0) (n k j : Int) (rn : iR n) (rk : iR k) (rj : iR j) : Met l y_mo_came (Cond.code y_mo_came b_mo_came 6 (some FieldType.int) :: TB) ({ frames := 1, cells := 0, slots := 0, locals := 22 } : Room) (va_Pc [.ref a, .int (iI (n)), .int (iI (k)), .int (iI (j))] (Bq D CL (TYS X) lo G f)) (va_Qi (fun r f1 => r = iI 0 ∧ Fr [a] f f1 ∧ moR X f1 a b (va_up v 0 1) A g) (Bq D CL (TYS X) lo G) (fun q => lo ≤ q)) 0 0 (fun q => lo ≤ q) := by
  refine mt (by decide) (Nat.le_of_ble_eq_true rfl) ?_
  intro p e s m args below meth cd ls hx hb hr hml hown ht hlocks hnm hK hlo hG hw hS hl
  have hl : lv_has ls 6 [(0, .ref a), (1, .int (iI (n))), (2, .int (iI (k))), (3, .int (iI (j)))] := hl
  generalize hQ : MQ below _ args s _ _ _ = Q
  have hF : Fr [a] f f := Fr.rf
  have h0 := hR.1
  refine mi_iconst hx hb d_mo_came_0 ?_
  refine lv_istore (lv' := [(4, .int (iI (-1))), (0, .ref a), (1, .int (iI (n))), (2, .int (iI (k))), (3, .int (iI (j)))]) hx hb d_mo_came_1 hl (by decide) rfl (fun ls hl => ?_)
  refine mi_iconst hx hb d_mo_came_3 ?_
  refine lv_istore (lv' := [(5, .int (iI (0))), (4, .int (iI (-1))), (0, .ref a), (1, .int (iI (n))), (2, .int (iI (k))), (3, .int (iI (j)))]) hx hb d_mo_came_4 hl (by decide) rfl (fun ls hl => ?_)
  refine lv_aload_n hx hb d_mo_came_6 rfl (lv_at hl 2 rfl) ?_
  refine mo_geti hx hb ht in_mo hown hK hw h0 rfl 16 (by decide) rfl (ht _ t_682) (fun _ h => h) d_mo_came_7 ?_
  refine mi_if_eq (tgt := 70) hx hb d_mo_came_10 (by decide) (by omega) (fun c_10 => ?_) (fun c_10 => ?_)
  · skip
    refine lv_aload_n hx hb d_mo_came_70 rfl (lv_at hl 2 rfl) ?_
    refine lv_iload hx hb d_mo_came_71 (lv_at hl 1 rfl) ?_
    refine mi_if_ge (tgt := 80) hx hb d_mo_came_73 (by decide) (by decide) (fun c_73 => ?_) (fun c_73 => ?_)
    · exact absurd c_73 (by decide)
    · skip
      refine mi_iconst hx hb d_mo_came_76 ?_
      refine lv_goto (tgt := 81) hx hb d_mo_came_77 (by decide) ?_
      refine mi_iconst hx hb d_mo_came_81 ?_
      refine mq_calli (va_runV (As := [.int (iI (1)), .int (iI (0))]) (rest := []) ⟨hx, hb, hml, hown, ht⟩ (c_mo_refuse l D X lo G hGO f a b v h0 (1) (0) (Or.inr rfl) (Or.inl rfl)) (cwV 2 ht (good_V (fun _ h => h) t_792 t_789 t_791 s_19 t_7) rfl rfl rfl (by decide +kernel) ⟨Nat.le_of_ble_eq_true rfl, Nat.le_of_ble_eq_true rfl⟩) (mq_preV hK hlo hGO hG hw hS (hW.recv hK hw (ci := 6) rfl h0)) rfl rfl hl.1 rfl (lv_room (Nat.le_of_ble_eq_true rfl)) d_mo_came_82 ⟨Nat.le_of_ble_eq_true rfl, Nat.le_of_ble_eq_true rfl⟩) hS (fun r1 f1 H locs hp hw hS => ?_)
      obtain ⟨rfl, hF1, h09⟩ := hp
      have hF := Fr.tr hF hF1 (by simp)
      have h0 := h09
      refine mi_if_eq (tgt := 90) hx hb d_mo_came_85 (by decide) (by split <;> decide) (fun c_85 => ?_) (fun c_85 => ?_)
      · exact absurd c_85 (by decide)
      · skip
        refine mi_iconst hx hb d_mo_came_88 ?_
        rw [← hQ]; exact mq_iret hx hb hr hlocks hK hlo hGO hG hw hS (Nat.zero_le _) (Nat.zero_le _) d_mo_came_89 ⟨rfl, hF, hR.fr [] (by simp) hF h0 (fun q _ hq => absurd hq List.not_mem_nil) (fun _ _ _ => rfl)⟩
  · exact absurd c_10 (by omega)
end
section
/-! the reference: its constructor -/
set_option maxHeartbeats 4000000 in
set_option maxRecDepth 100000 in
theorem c_mo_init (l : Launch) (D : va_G) (X : ClassId × ClassId × ClassId × ClassId) (lo : Nat) (G : State → Prop) (hGO : GOK lo G) (f : hM) (a : Nat) (h0 : f a = some (eO 6 (oF sh_mo (fun _ => (none : Option Nat)) (fun _ => (0 : Int))))) : Met l y_mo_init (Cond.code y_mo_init b_mo_init 1 (none) :: TB) ({ frames := 1, cells := 13, slots := 29968, locals := 12 } : Room) (va_Pc [.ref a] (Bq D CL (TYS X) lo G f)) (va_Qv (fun f1 => Fn [a] f f1 ∧ ∃ (b : Nat → Option Nat) (A : Nat → Nat), moR X f1 a b (va_up (fun _ => 0) 12 1) A (fun _ _ => 0)) (Bq D CL (TYS X) lo G) (fun q => lo ≤ q)) 13 29968 (fun q => lo ≤ q) := by
  refine mt (by decide) (Nat.le_of_ble_eq_true rfl) ?_
  intro p e s m args below meth cd ls hx hb hr hml hown ht hlocks hnm hK hlo hG hw hS hl
  have hl : lv_has ls 1 [(0, .ref a)] := hl
  generalize hQ : MQ below _ args s _ _ _ = Q
  have hF : Fn [a] f f := Fn.rf
  have hND : ([] : List Nat).Nodup := List.nodup_nil
  have hAL : ∀ x ∈ ([] : List Nat), f x ≠ none := fun x hx1 => absurd hx1 List.not_mem_nil
  refine lv_aload_n hx hb d_mo_init_0 rfl (lv_at hl 0 rfl) ?_
  refine W.objInit hx hb hown (ht _ t_665) (ht _ t_30) (ht _ t_31) rfl (by rw [hml]; exact hl.1) rfl d_mo_init_1 (Nat.le_of_ble_eq_true rfl) (Nat.le_of_ble_eq_true rfl) ?_
  refine W.eq (g2 := F0 m 4 ls []) rfl ?_
  refine lv_aload_n hx hb d_mo_init_4 rfl (lv_at hl 0 rfl) ?_
  refine mi_bipush hx hb d_mo_init_5 (by decide) ?_
  refine mo_newai hx hb (ht _ t_97) hK hw hS hlo 0 rfl (16) rfl (Nat.le_of_ble_eq_true rfl) (Nat.le_of_ble_eq_true rfl) (Nat.le_of_ble_eq_true rfl) d_mo_init_7 (fun q7 H f1 hq7 hf1 hw hS => ?_)
  have hND := nd_new hND hAL hq7
  have nq7 : q7 ≠ a := (ne_new h0 hq7).symm
  have h0 := eq_q hf1 h0 hq7
  have hn7 := eq_s hf1
  have ok_q7 := Fn.new hF hq7
  have hF := Fn.up hF hf1 ok_q7
  skip
  have hAL := al_new hAL hf1
  refine mo_putrF hx hb ht in_mo ty_mo tyok_mo nm_mo hown hK hw hS h0 rfl 7 (by decide) rfl (ht _ t_673) (fun _ h => h) rfl hnm rfl (tyok_mo 7 (by decide)) rfl rfl d_mo_init_9 (fun H locs f2 hf2 hw hS => ?_)
  have hn7 := eq_n hf2 hn7 nq7
  have h0 := eq_s hf2
  have hF := Fn.up hF hf2 (aOK.of (by simp))
  have hAL := al_up hAL hf2
  refine lv_aload_n hx hb d_mo_init_12 rfl (lv_at hl 0 rfl) ?_
  refine mi_bipush hx hb d_mo_init_13 (by decide) ?_
  refine mo_newai hx hb (ht _ t_97) hK hw hS hlo 0 rfl (16) rfl (Nat.le_of_ble_eq_true rfl) (Nat.le_of_ble_eq_true rfl) (Nat.le_of_ble_eq_true rfl) d_mo_init_15 (fun q15 H f3 hq15 hf3 hw hS => ?_)
  have hND := nd_new hND hAL hq15
  have nq15 : q15 ≠ a := (ne_new h0 hq15).symm
  have h0 := eq_q hf3 h0 hq15
  have hn7 := eq_q hf3 hn7 hq15
  have hn15 := eq_s hf3
  have ok_q15 := Fn.new hF hq15
  have hF := Fn.up hF hf3 ok_q15
  skip
  skip
  have hAL := al_new hAL hf3
  refine mo_putrF hx hb ht in_mo ty_mo tyok_mo nm_mo hown hK hw hS h0 rfl 8 (by decide) rfl (ht _ t_674) (fun _ h => h) rfl hnm rfl (tyok_mo 8 (by decide)) rfl rfl d_mo_init_17 (fun H locs f4 hf4 hw hS => ?_)
  have hn7 := eq_n hf4 hn7 nq7
  have hn15 := eq_n hf4 hn15 nq15
  have h0 := eq_s hf4
  have hF := Fn.up hF hf4 (aOK.of (by simp))
  have hAL := al_up hAL hf4
  refine lv_aload_n hx hb d_mo_init_20 rfl (lv_at hl 0 rfl) ?_
  refine mi_bipush hx hb d_mo_init_21 (by decide) ?_
  refine mo_newai hx hb (ht _ t_97) hK hw hS hlo 0 rfl (16) rfl (Nat.le_of_ble_eq_true rfl) (Nat.le_of_ble_eq_true rfl) (Nat.le_of_ble_eq_true rfl) d_mo_init_23 (fun q23 H f5 hq23 hf5 hw hS => ?_)
  have hND := nd_new hND hAL hq23
  have nq23 : q23 ≠ a := (ne_new h0 hq23).symm
  have h0 := eq_q hf5 h0 hq23
  have hn7 := eq_q hf5 hn7 hq23
  have hn15 := eq_q hf5 hn15 hq23
  have hn23 := eq_s hf5
  have ok_q23 := Fn.new hF hq23
  have hF := Fn.up hF hf5 ok_q23
  skip
  skip
  skip
  have hAL := al_new hAL hf5
  refine mo_putrF hx hb ht in_mo ty_mo tyok_mo nm_mo hown hK hw hS h0 rfl 9 (by decide) rfl (ht _ t_675) (fun _ h => h) rfl hnm rfl (tyok_mo 9 (by decide)) rfl rfl d_mo_init_25 (fun H locs f6 hf6 hw hS => ?_)
  have hn7 := eq_n hf6 hn7 nq7
  have hn15 := eq_n hf6 hn15 nq15
  have hn23 := eq_n hf6 hn23 nq23
  have h0 := eq_s hf6
  have hF := Fn.up hF hf6 (aOK.of (by simp))
  have hAL := al_up hAL hf6
  refine lv_aload_n hx hb d_mo_init_28 rfl (lv_at hl 0 rfl) ?_
  refine mi_sipush hx hb d_mo_init_29 (by decide) ?_
  refine mo_newai hx hb (ht _ t_97) hK hw hS hlo 0 rfl (528) rfl (Nat.le_of_ble_eq_true rfl) (Nat.le_of_ble_eq_true rfl) (Nat.le_of_ble_eq_true rfl) d_mo_init_32 (fun q32 H f7 hq32 hf7 hw hS => ?_)
  have hND := nd_new hND hAL hq32
  have nq32 : q32 ≠ a := (ne_new h0 hq32).symm
  have h0 := eq_q hf7 h0 hq32
  have hn7 := eq_q hf7 hn7 hq32
  have hn15 := eq_q hf7 hn15 hq32
  have hn23 := eq_q hf7 hn23 hq32
  have hn32 := eq_s hf7
  have ok_q32 := Fn.new hF hq32
  have hF := Fn.up hF hf7 ok_q32
  skip
  skip
  skip
  skip
  have hAL := al_new hAL hf7
  refine mo_putrF hx hb ht in_mo ty_mo tyok_mo nm_mo hown hK hw hS h0 rfl 10 (by decide) rfl (ht _ t_676) (fun _ h => h) rfl hnm rfl (tyok_mo 10 (by decide)) rfl rfl d_mo_init_34 (fun H locs f8 hf8 hw hS => ?_)
  have hn7 := eq_n hf8 hn7 nq7
  have hn15 := eq_n hf8 hn15 nq15
  have hn23 := eq_n hf8 hn23 nq23
  have hn32 := eq_n hf8 hn32 nq32
  have h0 := eq_s hf8
  have hF := Fn.up hF hf8 (aOK.of (by simp))
  have hAL := al_up hAL hf8
  refine lv_aload_n hx hb d_mo_init_37 rfl (lv_at hl 0 rfl) ?_
  refine mi_sipush hx hb d_mo_init_38 (by decide) ?_
  refine mo_newai hx hb (ht _ t_97) hK hw hS hlo 0 rfl (528) rfl (Nat.le_of_ble_eq_true rfl) (Nat.le_of_ble_eq_true rfl) (Nat.le_of_ble_eq_true rfl) d_mo_init_41 (fun q41 H f9 hq41 hf9 hw hS => ?_)
  have hND := nd_new hND hAL hq41
  have nq41 : q41 ≠ a := (ne_new h0 hq41).symm
  have h0 := eq_q hf9 h0 hq41
  have hn7 := eq_q hf9 hn7 hq41
  have hn15 := eq_q hf9 hn15 hq41
  have hn23 := eq_q hf9 hn23 hq41
  have hn32 := eq_q hf9 hn32 hq41
  have hn41 := eq_s hf9
  have ok_q41 := Fn.new hF hq41
  have hF := Fn.up hF hf9 ok_q41
  skip
  skip
  skip
  skip
  skip
  have hAL := al_new hAL hf9
  refine mo_putrF hx hb ht in_mo ty_mo tyok_mo nm_mo hown hK hw hS h0 rfl 11 (by decide) rfl (ht _ t_677) (fun _ h => h) rfl hnm rfl (tyok_mo 11 (by decide)) rfl rfl d_mo_init_43 (fun H locs f10 hf10 hw hS => ?_)
  have hn7 := eq_n hf10 hn7 nq7
  have hn15 := eq_n hf10 hn15 nq15
  have hn23 := eq_n hf10 hn23 nq23
  have hn32 := eq_n hf10 hn32 nq32
  have hn41 := eq_n hf10 hn41 nq41
  have h0 := eq_s hf10
  have hF := Fn.up hF hf10 (aOK.of (by simp))
  have hAL := al_up hAL hf10
  refine lv_aload_n hx hb d_mo_init_46 rfl (lv_at hl 0 rfl) ?_
  refine mi_iconst hx hb d_mo_init_47 ?_
  refine mo_puti hx hb ht in_mo ty_mo tyok_mo nm_mo hown hK hw hS h0 rfl 12 (by decide) rfl (ht _ t_678) (fun _ h => h) rfl (tyok_mo 12 (by decide)) rfl rfl d_mo_init_48 (fun H locs f11 hf11 hw hS => ?_)
  have hn7 := eq_n hf11 hn7 nq7
  have hn15 := eq_n hf11 hn15 nq15
  have hn23 := eq_n hf11 hn23 nq23
  have hn32 := eq_n hf11 hn32 nq32
  have hn41 := eq_n hf11 hn41 nq41
  have h0 := eq_s hf11
  have hF := Fn.up hF hf11 (aOK.of (by simp))
  have hAL := al_up hAL hf11
  refine lv_aload_n hx hb d_mo_init_51 rfl (lv_at hl 0 rfl) ?_
  refine mi_sipush hx hb d_mo_init_52 (by decide) ?_
  refine mo_newai hx hb (ht _ t_97) hK hw hS hlo 0 rfl (192) rfl (Nat.le_of_ble_eq_true rfl) (Nat.le_of_ble_eq_true rfl) (Nat.le_of_ble_eq_true rfl) d_mo_init_55 (fun q55 H f12 hq55 hf12 hw hS => ?_)
  have hND := nd_new hND hAL hq55
  have nq55 : q55 ≠ a := (ne_new h0 hq55).symm
  have h0 := eq_q hf12 h0 hq55
  have hn7 := eq_q hf12 hn7 hq55
  have hn15 := eq_q hf12 hn15 hq55
  have hn23 := eq_q hf12 hn23 hq55
  have hn32 := eq_q hf12 hn32 hq55
  have hn41 := eq_q hf12 hn41 hq55
  have hn55 := eq_s hf12
  have ok_q55 := Fn.new hF hq55
  have hF := Fn.up hF hf12 ok_q55
  skip
  skip
  skip
  skip
  skip
  skip
  have hAL := al_new hAL hf12
  refine mo_putrF hx hb ht in_mo ty_mo tyok_mo nm_mo hown hK hw hS h0 rfl 15 (by decide) rfl (ht _ t_681) (fun _ h => h) rfl hnm rfl (tyok_mo 15 (by decide)) rfl rfl d_mo_init_57 (fun H locs f13 hf13 hw hS => ?_)
  have hn7 := eq_n hf13 hn7 nq7
  have hn15 := eq_n hf13 hn15 nq15
  have hn23 := eq_n hf13 hn23 nq23
  have hn32 := eq_n hf13 hn32 nq32
  have hn41 := eq_n hf13 hn41 nq41
  have hn55 := eq_n hf13 hn55 nq55
  have h0 := eq_s hf13
  have hF := Fn.up hF hf13 (aOK.of (by simp))
  have hAL := al_up hAL hf13
  refine lv_aload_n hx hb d_mo_init_60 rfl (lv_at hl 0 rfl) ?_
  refine mi_sipush hx hb d_mo_init_61 (by decide) ?_
  refine mo_newai hx hb (ht _ t_97) hK hw hS hlo 0 rfl (4096) rfl (Nat.le_of_ble_eq_true rfl) (Nat.le_of_ble_eq_true rfl) (Nat.le_of_ble_eq_true rfl) d_mo_init_64 (fun q64 H f14 hq64 hf14 hw hS => ?_)
  have hND := nd_new hND hAL hq64
  have nq64 : q64 ≠ a := (ne_new h0 hq64).symm
  have h0 := eq_q hf14 h0 hq64
  have hn7 := eq_q hf14 hn7 hq64
  have hn15 := eq_q hf14 hn15 hq64
  have hn23 := eq_q hf14 hn23 hq64
  have hn32 := eq_q hf14 hn32 hq64
  have hn41 := eq_q hf14 hn41 hq64
  have hn55 := eq_q hf14 hn55 hq64
  have hn64 := eq_s hf14
  have ok_q64 := Fn.new hF hq64
  have hF := Fn.up hF hf14 ok_q64
  skip
  skip
  skip
  skip
  skip
  skip
  skip
  have hAL := al_new hAL hf14
  refine mo_putrF hx hb ht in_mo ty_mo tyok_mo nm_mo hown hK hw hS h0 rfl 18 (by decide) rfl (ht _ t_684) (fun _ h => h) rfl hnm rfl (tyok_mo 18 (by decide)) rfl rfl d_mo_init_66 (fun H locs f15 hf15 hw hS => ?_)
  have hn7 := eq_n hf15 hn7 nq7
  have hn15 := eq_n hf15 hn15 nq15
  have hn23 := eq_n hf15 hn23 nq23
  have hn32 := eq_n hf15 hn32 nq32
  have hn41 := eq_n hf15 hn41 nq41
  have hn55 := eq_n hf15 hn55 nq55
  have hn64 := eq_n hf15 hn64 nq64
  have h0 := eq_s hf15
  have hF := Fn.up hF hf15 (aOK.of (by simp))
  have hAL := al_up hAL hf15
  refine lv_aload_n hx hb d_mo_init_69 rfl (lv_at hl 0 rfl) ?_
  refine mi_sipush hx hb d_mo_init_70 (by decide) ?_
  refine mo_newai hx hb (ht _ t_97) hK hw hS hlo 0 rfl (4096) rfl (Nat.le_of_ble_eq_true rfl) (Nat.le_of_ble_eq_true rfl) (Nat.le_of_ble_eq_true rfl) d_mo_init_73 (fun q73 H f16 hq73 hf16 hw hS => ?_)
  have hND := nd_new hND hAL hq73
  have nq73 : q73 ≠ a := (ne_new h0 hq73).symm
  have h0 := eq_q hf16 h0 hq73
  have hn7 := eq_q hf16 hn7 hq73
  have hn15 := eq_q hf16 hn15 hq73
  have hn23 := eq_q hf16 hn23 hq73
  have hn32 := eq_q hf16 hn32 hq73
  have hn41 := eq_q hf16 hn41 hq73
  have hn55 := eq_q hf16 hn55 hq73
  have hn64 := eq_q hf16 hn64 hq73
  have hn73 := eq_s hf16
  have ok_q73 := Fn.new hF hq73
  have hF := Fn.up hF hf16 ok_q73
  skip
  skip
  skip
  skip
  skip
  skip
  skip
  skip
  have hAL := al_new hAL hf16
  refine mo_putrF hx hb ht in_mo ty_mo tyok_mo nm_mo hown hK hw hS h0 rfl 19 (by decide) rfl (ht _ t_685) (fun _ h => h) rfl hnm rfl (tyok_mo 19 (by decide)) rfl rfl d_mo_init_75 (fun H locs f17 hf17 hw hS => ?_)
  have hn7 := eq_n hf17 hn7 nq7
  have hn15 := eq_n hf17 hn15 nq15
  have hn23 := eq_n hf17 hn23 nq23
  have hn32 := eq_n hf17 hn32 nq32
  have hn41 := eq_n hf17 hn41 nq41
  have hn55 := eq_n hf17 hn55 nq55
  have hn64 := eq_n hf17 hn64 nq64
  have hn73 := eq_n hf17 hn73 nq73
  have h0 := eq_s hf17
  have hF := Fn.up hF hf17 (aOK.of (by simp))
  have hAL := al_up hAL hf17
  refine lv_aload_n hx hb d_mo_init_78 rfl (lv_at hl 0 rfl) ?_
  refine mi_sipush hx hb d_mo_init_79 (by decide) ?_
  refine mo_newai hx hb (ht _ t_97) hK hw hS hlo 0 rfl (4096) rfl (Nat.le_of_ble_eq_true rfl) (Nat.le_of_ble_eq_true rfl) (Nat.le_of_ble_eq_true rfl) d_mo_init_82 (fun q82 H f18 hq82 hf18 hw hS => ?_)
  have hND := nd_new hND hAL hq82
  have nq82 : q82 ≠ a := (ne_new h0 hq82).symm
  have h0 := eq_q hf18 h0 hq82
  have hn7 := eq_q hf18 hn7 hq82
  have hn15 := eq_q hf18 hn15 hq82
  have hn23 := eq_q hf18 hn23 hq82
  have hn32 := eq_q hf18 hn32 hq82
  have hn41 := eq_q hf18 hn41 hq82
  have hn55 := eq_q hf18 hn55 hq82
  have hn64 := eq_q hf18 hn64 hq82
  have hn73 := eq_q hf18 hn73 hq82
  have hn82 := eq_s hf18
  have ok_q82 := Fn.new hF hq82
  have hF := Fn.up hF hf18 ok_q82
  skip
  skip
  skip
  skip
  skip
  skip
  skip
  skip
  skip
  have hAL := al_new hAL hf18
  refine mo_putrF hx hb ht in_mo ty_mo tyok_mo nm_mo hown hK hw hS h0 rfl 20 (by decide) rfl (ht _ t_686) (fun _ h => h) rfl hnm rfl (tyok_mo 20 (by decide)) rfl rfl d_mo_init_84 (fun H locs f19 hf19 hw hS => ?_)
  have hn7 := eq_n hf19 hn7 nq7
  have hn15 := eq_n hf19 hn15 nq15
  have hn23 := eq_n hf19 hn23 nq23
  have hn32 := eq_n hf19 hn32 nq32
  have hn41 := eq_n hf19 hn41 nq41
  have hn55 := eq_n hf19 hn55 nq55
  have hn64 := eq_n hf19 hn64 nq64
  have hn73 := eq_n hf19 hn73 nq73
  have hn82 := eq_n hf19 hn82 nq82
  have h0 := eq_s hf19
  have hF := Fn.up hF hf19 (aOK.of (by simp))
  have hAL := al_up hAL hf19
  refine lv_aload_n hx hb d_mo_init_87 rfl (lv_at hl 0 rfl) ?_
  refine mi_sipush hx hb d_mo_init_88 (by decide) ?_
  refine mo_newal hx hb (ht _ t_98) hK hw hS hlo 1 rfl (4096) rfl (Nat.le_of_ble_eq_true rfl) (Nat.le_of_ble_eq_true rfl) (Nat.le_of_ble_eq_true rfl) d_mo_init_91 (fun q91 H f20 hq91 hf20 hw hS => ?_)
  have hND := nd_new hND hAL hq91
  have nq91 : q91 ≠ a := (ne_new h0 hq91).symm
  have h0 := eq_q hf20 h0 hq91
  have hn7 := eq_q hf20 hn7 hq91
  have hn15 := eq_q hf20 hn15 hq91
  have hn23 := eq_q hf20 hn23 hq91
  have hn32 := eq_q hf20 hn32 hq91
  have hn41 := eq_q hf20 hn41 hq91
  have hn55 := eq_q hf20 hn55 hq91
  have hn64 := eq_q hf20 hn64 hq91
  have hn73 := eq_q hf20 hn73 hq91
  have hn82 := eq_q hf20 hn82 hq91
  have hn91 := eq_s hf20
  have ok_q91 := Fn.new hF hq91
  have hF := Fn.up hF hf20 ok_q91
  skip
  skip
  skip
  skip
  skip
  skip
  skip
  skip
  skip
  skip
  have hAL := al_new hAL hf20
  refine mo_putrF hx hb ht in_mo ty_mo tyok_mo nm_mo hown hK hw hS h0 rfl 21 (by decide) rfl (ht _ t_687) (fun _ h => h) rfl hnm rfl (tyok_mo 21 (by decide)) rfl rfl d_mo_init_93 (fun H locs f21 hf21 hw hS => ?_)
  have hn7 := eq_n hf21 hn7 nq7
  have hn15 := eq_n hf21 hn15 nq15
  have hn23 := eq_n hf21 hn23 nq23
  have hn32 := eq_n hf21 hn32 nq32
  have hn41 := eq_n hf21 hn41 nq41
  have hn55 := eq_n hf21 hn55 nq55
  have hn64 := eq_n hf21 hn64 nq64
  have hn73 := eq_n hf21 hn73 nq73
  have hn82 := eq_n hf21 hn82 nq82
  have hn91 := eq_n hf21 hn91 nq91
  have h0 := eq_s hf21
  have hF := Fn.up hF hf21 (aOK.of (by simp))
  have hAL := al_up hAL hf21
  refine lv_aload_n hx hb d_mo_init_96 rfl (lv_at hl 0 rfl) ?_
  refine mi_sipush hx hb d_mo_init_97 (by decide) ?_
  refine mo_newal hx hb (ht _ t_98) hK hw hS hlo 1 rfl (4096) rfl (Nat.le_of_ble_eq_true rfl) (Nat.le_of_ble_eq_true rfl) (Nat.le_of_ble_eq_true rfl) d_mo_init_100 (fun q100 H f22 hq100 hf22 hw hS => ?_)
  have hND := nd_new hND hAL hq100
  have nq100 : q100 ≠ a := (ne_new h0 hq100).symm
  have h0 := eq_q hf22 h0 hq100
  have hn7 := eq_q hf22 hn7 hq100
  have hn15 := eq_q hf22 hn15 hq100
  have hn23 := eq_q hf22 hn23 hq100
  have hn32 := eq_q hf22 hn32 hq100
  have hn41 := eq_q hf22 hn41 hq100
  have hn55 := eq_q hf22 hn55 hq100
  have hn64 := eq_q hf22 hn64 hq100
  have hn73 := eq_q hf22 hn73 hq100
  have hn82 := eq_q hf22 hn82 hq100
  have hn91 := eq_q hf22 hn91 hq100
  have hn100 := eq_s hf22
  have ok_q100 := Fn.new hF hq100
  have hF := Fn.up hF hf22 ok_q100
  skip
  skip
  skip
  skip
  skip
  skip
  skip
  skip
  skip
  skip
  skip
  have hAL := al_new hAL hf22
  refine mo_putrF hx hb ht in_mo ty_mo tyok_mo nm_mo hown hK hw hS h0 rfl 22 (by decide) rfl (ht _ t_688) (fun _ h => h) rfl hnm rfl (tyok_mo 22 (by decide)) rfl rfl d_mo_init_102 (fun H locs f23 hf23 hw hS => ?_)
  have hn7 := eq_n hf23 hn7 nq7
  have hn15 := eq_n hf23 hn15 nq15
  have hn23 := eq_n hf23 hn23 nq23
  have hn32 := eq_n hf23 hn32 nq32
  have hn41 := eq_n hf23 hn41 nq41
  have hn55 := eq_n hf23 hn55 nq55
  have hn64 := eq_n hf23 hn64 nq64
  have hn73 := eq_n hf23 hn73 nq73
  have hn82 := eq_n hf23 hn82 nq82
  have hn91 := eq_n hf23 hn91 nq91
  have hn100 := eq_n hf23 hn100 nq100
  have h0 := eq_s hf23
  have hF := Fn.up hF hf23 (aOK.of (by simp))
  have hAL := al_up hAL hf23
  refine lv_aload_n hx hb d_mo_init_105 rfl (lv_at hl 0 rfl) ?_
  refine mi_sipush hx hb d_mo_init_106 (by decide) ?_
  refine mo_newai hx hb (ht _ t_97) hK hw hS hlo 0 rfl (4096) rfl (Nat.le_of_ble_eq_true rfl) (Nat.le_of_ble_eq_true rfl) (Nat.le_of_ble_eq_true rfl) d_mo_init_109 (fun q109 H f24 hq109 hf24 hw hS => ?_)
  have hND := nd_new hND hAL hq109
  have nq109 : q109 ≠ a := (ne_new h0 hq109).symm
  have h0 := eq_q hf24 h0 hq109
  have hn7 := eq_q hf24 hn7 hq109
  have hn15 := eq_q hf24 hn15 hq109
  have hn23 := eq_q hf24 hn23 hq109
  have hn32 := eq_q hf24 hn32 hq109
  have hn41 := eq_q hf24 hn41 hq109
  have hn55 := eq_q hf24 hn55 hq109
  have hn64 := eq_q hf24 hn64 hq109
  have hn73 := eq_q hf24 hn73 hq109
  have hn82 := eq_q hf24 hn82 hq109
  have hn91 := eq_q hf24 hn91 hq109
  have hn100 := eq_q hf24 hn100 hq109
  have hn109 := eq_s hf24
  have ok_q109 := Fn.new hF hq109
  have hF := Fn.up hF hf24 ok_q109
  skip
  skip
  skip
  skip
  skip
  skip
  skip
  skip
  skip
  skip
  skip
  skip
  have hAL := al_new hAL hf24
  refine mo_putrF hx hb ht in_mo ty_mo tyok_mo nm_mo hown hK hw hS h0 rfl 23 (by decide) rfl (ht _ t_689) (fun _ h => h) rfl hnm rfl (tyok_mo 23 (by decide)) rfl rfl d_mo_init_111 (fun H locs f25 hf25 hw hS => ?_)
  have hn7 := eq_n hf25 hn7 nq7
  have hn15 := eq_n hf25 hn15 nq15
  have hn23 := eq_n hf25 hn23 nq23
  have hn32 := eq_n hf25 hn32 nq32
  have hn41 := eq_n hf25 hn41 nq41
  have hn55 := eq_n hf25 hn55 nq55
  have hn64 := eq_n hf25 hn64 nq64
  have hn73 := eq_n hf25 hn73 nq73
  have hn82 := eq_n hf25 hn82 nq82
  have hn91 := eq_n hf25 hn91 nq91
  have hn100 := eq_n hf25 hn100 nq100
  have hn109 := eq_n hf25 hn109 nq109
  have h0 := eq_s hf25
  have hF := Fn.up hF hf25 (aOK.of (by simp))
  have hAL := al_up hAL hf25
  refine lv_aload_n hx hb d_mo_init_114 rfl (lv_at hl 0 rfl) ?_
  refine mi_sipush hx hb d_mo_init_115 (by decide) ?_
  refine mo_newai hx hb (ht _ t_97) hK hw hS hlo 0 rfl (4096) rfl (Nat.le_of_ble_eq_true rfl) (Nat.le_of_ble_eq_true rfl) (Nat.le_of_ble_eq_true rfl) d_mo_init_118 (fun q118 H f26 hq118 hf26 hw hS => ?_)
  have hND := nd_new hND hAL hq118
  have nq118 : q118 ≠ a := (ne_new h0 hq118).symm
  have h0 := eq_q hf26 h0 hq118
  have hn7 := eq_q hf26 hn7 hq118
  have hn15 := eq_q hf26 hn15 hq118
  have hn23 := eq_q hf26 hn23 hq118
  have hn32 := eq_q hf26 hn32 hq118
  have hn41 := eq_q hf26 hn41 hq118
  have hn55 := eq_q hf26 hn55 hq118
  have hn64 := eq_q hf26 hn64 hq118
  have hn73 := eq_q hf26 hn73 hq118
  have hn82 := eq_q hf26 hn82 hq118
  have hn91 := eq_q hf26 hn91 hq118
  have hn100 := eq_q hf26 hn100 hq118
  have hn109 := eq_q hf26 hn109 hq118
  have hn118 := eq_s hf26
  have ok_q118 := Fn.new hF hq118
  have hF := Fn.up hF hf26 ok_q118
  skip
  skip
  skip
  skip
  skip
  skip
  skip
  skip
  skip
  skip
  skip
  skip
  skip
  have hAL := al_new hAL hf26
  refine mo_putrF hx hb ht in_mo ty_mo tyok_mo nm_mo hown hK hw hS h0 rfl 24 (by decide) rfl (ht _ t_690) (fun _ h => h) rfl hnm rfl (tyok_mo 24 (by decide)) rfl rfl d_mo_init_120 (fun H locs f27 hf27 hw hS => ?_)
  have hn7 := eq_n hf27 hn7 nq7
  have hn15 := eq_n hf27 hn15 nq15
  have hn23 := eq_n hf27 hn23 nq23
  have hn32 := eq_n hf27 hn32 nq32
  have hn41 := eq_n hf27 hn41 nq41
  have hn55 := eq_n hf27 hn55 nq55
  have hn64 := eq_n hf27 hn64 nq64
  have hn73 := eq_n hf27 hn73 nq73
  have hn82 := eq_n hf27 hn82 nq82
  have hn91 := eq_n hf27 hn91 nq91
  have hn100 := eq_n hf27 hn100 nq100
  have hn109 := eq_n hf27 hn109 nq109
  have hn118 := eq_n hf27 hn118 nq118
  have h0 := eq_s hf27
  have hF := Fn.up hF hf27 (aOK.of (by simp))
  have hAL := al_up hAL hf27
  have hL9 : ([q7, q15, q23, q32, q41, q55, q64, q73, q82, q91, q100, q109, q118] : List Nat).Nodup := by
    have h9 := hND.perm (List.reverse_perm _).symm
    exact h9
  rw [← hQ]; exact mq_vret hx hb hr hlocks hK hlo hGO hG hw hS (Nat.le_of_ble_eq_true rfl) (Nat.le_of_ble_eq_true rfl) d_mo_init_123 ⟨hF, _, moA [q7, q15, q23, q32, q41, q55, q64, q73, q82, q91, q100, q109, q118], h0, fun q hq => by
    have e9 : q = (7, 16, false) ∨ q = (8, 16, false) ∨ q = (9, 16, false) ∨ q = (10, 528, false) ∨ q = (11, 528, false) ∨ q = (15, 192, false) ∨ q = (18, 4096, false) ∨ q = (19, 4096, false) ∨ q = (20, 4096, false) ∨ q = (21, 4096, true) ∨ q = (22, 4096, true) ∨ q = (23, 4096, false) ∨ q = (24, 4096, false) := (by revert q; decide)
    rcases e9 with rfl | rfl | rfl | rfl | rfl | rfl | rfl | rfl | rfl | rfl | rfl | rfl | rfl
    · exact ⟨rfl, hn7⟩
    · exact ⟨rfl, hn15⟩
    · exact ⟨rfl, hn23⟩
    · exact ⟨rfl, hn32⟩
    · exact ⟨rfl, hn41⟩
    · exact ⟨rfl, hn55⟩
    · exact ⟨rfl, hn64⟩
    · exact ⟨rfl, hn73⟩
    · exact ⟨rfl, hn82⟩
    · exact ⟨rfl, hn91⟩
    · exact ⟨rfl, hn100⟩
    · exact ⟨rfl, hn109⟩
    · exact ⟨rfl, hn118⟩
    , moA_inj hL9 rfl⟩
end
section
/-! the class under proof: names and decode rows -/
abbrev y_po_init : MethodName := ⟨"PacketOrder", "<init>", "()V"⟩
abbrev b_po_init : ByteArray := prog_1_method_1_code
theorem d_po_init_0 : decode b_po_init 0 = .ok (.aload_n 0, 1) := by decide +kernel
theorem d_po_init_1 : decode b_po_init 1 = .ok (.invokespecial 3, 3) := by decide +kernel
theorem d_po_init_4 : decode b_po_init 4 = .ok (.aload_n 0, 1) := by decide +kernel
theorem d_po_init_5 : decode b_po_init 5 = .ok (.new 9, 3) := by decide +kernel
theorem d_po_init_8 : decode b_po_init 8 = .ok (.dup, 1) := by decide +kernel
theorem d_po_init_9 : decode b_po_init 9 = .ok (.invokespecial 11, 3) := by decide +kernel
theorem d_po_init_12 : decode b_po_init 12 = .ok (.putfield 12, 3) := by decide +kernel
theorem d_po_init_15 : decode b_po_init 15 = .ok (.aload_n 0, 1) := by decide +kernel
theorem d_po_init_16 : decode b_po_init 16 = .ok (.new 9, 3) := by decide +kernel
theorem d_po_init_19 : decode b_po_init 19 = .ok (.dup, 1) := by decide +kernel
theorem d_po_init_20 : decode b_po_init 20 = .ok (.invokespecial 11, 3) := by decide +kernel
theorem d_po_init_23 : decode b_po_init 23 = .ok (.putfield 16, 3) := by decide +kernel
theorem d_po_init_26 : decode b_po_init 26 = .ok (.aload_n 0, 1) := by decide +kernel
theorem d_po_init_27 : decode b_po_init 27 = .ok (.new 19, 3) := by decide +kernel
theorem d_po_init_30 : decode b_po_init 30 = .ok (.dup, 1) := by decide +kernel
theorem d_po_init_31 : decode b_po_init 31 = .ok (.invokespecial 21, 3) := by decide +kernel
theorem d_po_init_34 : decode b_po_init 34 = .ok (.putfield 22, 3) := by decide +kernel
theorem d_po_init_37 : decode b_po_init 37 = .ok (.aload_n 0, 1) := by decide +kernel
theorem d_po_init_38 : decode b_po_init 38 = .ok (.iconst 1, 1) := by decide +kernel
theorem d_po_init_39 : decode b_po_init 39 = .ok (.putfield 26, 3) := by decide +kernel
theorem d_po_init_42 : decode b_po_init 42 = .ok (.aload_n 0, 1) := by decide +kernel
theorem d_po_init_43 : decode b_po_init 43 = .ok (.new 30, 3) := by decide +kernel
theorem d_po_init_46 : decode b_po_init 46 = .ok (.dup, 1) := by decide +kernel
theorem d_po_init_47 : decode b_po_init 47 = .ok (.iconst 0, 1) := by decide +kernel
theorem d_po_init_48 : decode b_po_init 48 = .ok (.bipush 33, 2) := by decide +kernel
theorem d_po_init_50 : decode b_po_init 50 = .ok (.iconst 0, 1) := by decide +kernel
theorem d_po_init_51 : decode b_po_init 51 = .ok (.bipush 16, 2) := by decide +kernel
theorem d_po_init_53 : decode b_po_init 53 = .ok (.sipush 255, 3) := by decide +kernel
theorem d_po_init_56 : decode b_po_init 56 = .ok (.iconst 0, 1) := by decide +kernel
theorem d_po_init_57 : decode b_po_init 57 = .ok (.invokespecial 32, 3) := by decide +kernel
theorem d_po_init_60 : decode b_po_init 60 = .ok (.putfield 35, 3) := by decide +kernel
theorem d_po_init_63 : decode b_po_init 63 = .ok (.return_, 1) := by decide +kernel
abbrev y_po_tile : MethodName := ⟨"PacketOrder", "tile", "(IIII)V"⟩
abbrev b_po_tile : ByteArray := prog_1_method_2_code
theorem d_po_tile_0 : decode b_po_tile 0 = .ok (.iload_n 1, 1) := by decide +kernel
theorem d_po_tile_1 : decode b_po_tile 1 = .ok (.ifCond .lt 22, 3) := by decide +kernel
theorem d_po_tile_4 : decode b_po_tile 4 = .ok (.iload_n 2, 1) := by decide +kernel
theorem d_po_tile_5 : decode b_po_tile 5 = .ok (.ifCond .lt 18, 3) := by decide +kernel
theorem d_po_tile_8 : decode b_po_tile 8 = .ok (.iload_n 3, 1) := by decide +kernel
theorem d_po_tile_9 : decode b_po_tile 9 = .ok (.sipush 32767, 3) := by decide +kernel
theorem d_po_tile_12 : decode b_po_tile 12 = .ok (.if_icmp .gt 11, 3) := by decide +kernel
theorem d_po_tile_15 : decode b_po_tile 15 = .ok (.iload 4, 2) := by decide +kernel
theorem d_po_tile_17 : decode b_po_tile 17 = .ok (.sipush 32767, 3) := by decide +kernel
theorem d_po_tile_20 : decode b_po_tile 20 = .ok (.if_icmp .le 13, 3) := by decide +kernel
theorem d_po_tile_23 : decode b_po_tile 23 = .ok (.new 39, 3) := by decide +kernel
theorem d_po_tile_26 : decode b_po_tile 26 = .ok (.dup, 1) := by decide +kernel
theorem d_po_tile_27 : decode b_po_tile 27 = .ok (.ldc 41, 2) := by decide +kernel
theorem d_po_tile_29 : decode b_po_tile 29 = .ok (.invokespecial 43, 3) := by decide +kernel
theorem d_po_tile_32 : decode b_po_tile 32 = .ok (.athrow, 1) := by decide +kernel
theorem d_po_tile_33 : decode b_po_tile 33 = .ok (.iload_n 1, 1) := by decide +kernel
theorem d_po_tile_34 : decode b_po_tile 34 = .ok (.iload_n 3, 1) := by decide +kernel
theorem d_po_tile_35 : decode b_po_tile 35 = .ok (.if_icmp .ge 9, 3) := by decide +kernel
theorem d_po_tile_38 : decode b_po_tile 38 = .ok (.iload_n 2, 1) := by decide +kernel
theorem d_po_tile_39 : decode b_po_tile 39 = .ok (.iload 4, 2) := by decide +kernel
theorem d_po_tile_41 : decode b_po_tile 41 = .ok (.if_icmp .lt 13, 3) := by decide +kernel
theorem d_po_tile_44 : decode b_po_tile 44 = .ok (.new 39, 3) := by decide +kernel
theorem d_po_tile_47 : decode b_po_tile 47 = .ok (.dup, 1) := by decide +kernel
theorem d_po_tile_48 : decode b_po_tile 48 = .ok (.ldc 46, 2) := by decide +kernel
theorem d_po_tile_50 : decode b_po_tile 50 = .ok (.invokespecial 43, 3) := by decide +kernel
theorem d_po_tile_53 : decode b_po_tile 53 = .ok (.athrow, 1) := by decide +kernel
theorem d_po_tile_54 : decode b_po_tile 54 = .ok (.aload_n 0, 1) := by decide +kernel
theorem d_po_tile_55 : decode b_po_tile 55 = .ok (.iload_n 1, 1) := by decide +kernel
theorem d_po_tile_56 : decode b_po_tile 56 = .ok (.putfield 48, 3) := by decide +kernel
theorem d_po_tile_59 : decode b_po_tile 59 = .ok (.aload_n 0, 1) := by decide +kernel
theorem d_po_tile_60 : decode b_po_tile 60 = .ok (.iload_n 2, 1) := by decide +kernel
theorem d_po_tile_61 : decode b_po_tile 61 = .ok (.putfield 51, 3) := by decide +kernel
theorem d_po_tile_64 : decode b_po_tile 64 = .ok (.aload_n 0, 1) := by decide +kernel
theorem d_po_tile_65 : decode b_po_tile 65 = .ok (.iload_n 3, 1) := by decide +kernel
theorem d_po_tile_66 : decode b_po_tile 66 = .ok (.putfield 54, 3) := by decide +kernel
theorem d_po_tile_69 : decode b_po_tile 69 = .ok (.aload_n 0, 1) := by decide +kernel
theorem d_po_tile_70 : decode b_po_tile 70 = .ok (.iload 4, 2) := by decide +kernel
theorem d_po_tile_72 : decode b_po_tile 72 = .ok (.putfield 57, 3) := by decide +kernel
theorem d_po_tile_75 : decode b_po_tile 75 = .ok (.aload_n 0, 1) := by decide +kernel
theorem d_po_tile_76 : decode b_po_tile 76 = .ok (.iconst 1, 1) := by decide +kernel
theorem d_po_tile_77 : decode b_po_tile 77 = .ok (.putfield 60, 3) := by decide +kernel
theorem d_po_tile_80 : decode b_po_tile 80 = .ok (.aload_n 0, 1) := by decide +kernel
theorem d_po_tile_81 : decode b_po_tile 81 = .ok (.iconst 0, 1) := by decide +kernel
theorem d_po_tile_82 : decode b_po_tile 82 = .ok (.putfield 64, 3) := by decide +kernel
theorem d_po_tile_85 : decode b_po_tile 85 = .ok (.return_, 1) := by decide +kernel
abbrev y_po_component : MethodName := ⟨"PacketOrder", "component", "(III)I"⟩
abbrev b_po_component : ByteArray := prog_1_method_3_code
theorem d_po_component_0 : decode b_po_component 0 = .ok (.iload_n 1, 1) := by decide +kernel
theorem d_po_component_1 : decode b_po_component 1 = .ok (.iconst 1, 1) := by decide +kernel
theorem d_po_component_2 : decode b_po_component 2 = .ok (.sipush 255, 3) := by decide +kernel
theorem d_po_component_5 : decode b_po_component 5 = .ok (.invokestatic 67, 3) := by decide +kernel
theorem d_po_component_8 : decode b_po_component 8 = .ok (.ifCond .eq 14, 3) := by decide +kernel
theorem d_po_component_11 : decode b_po_component 11 = .ok (.iload_n 2, 1) := by decide +kernel
theorem d_po_component_12 : decode b_po_component 12 = .ok (.iconst 1, 1) := by decide +kernel
theorem d_po_component_13 : decode b_po_component 13 = .ok (.sipush 255, 3) := by decide +kernel
theorem d_po_component_16 : decode b_po_component 16 = .ok (.invokestatic 67, 3) := by decide +kernel
theorem d_po_component_19 : decode b_po_component 19 = .ok (.ifCond .ne 13, 3) := by decide +kernel
theorem d_po_component_22 : decode b_po_component 22 = .ok (.new 39, 3) := by decide +kernel
theorem d_po_component_25 : decode b_po_component 25 = .ok (.dup, 1) := by decide +kernel
theorem d_po_component_26 : decode b_po_component 26 = .ok (.ldc 71, 2) := by decide +kernel
theorem d_po_component_28 : decode b_po_component 28 = .ok (.invokespecial 43, 3) := by decide +kernel
theorem d_po_component_31 : decode b_po_component 31 = .ok (.athrow, 1) := by decide +kernel
theorem d_po_component_32 : decode b_po_component 32 = .ok (.iload_n 3, 1) := by decide +kernel
theorem d_po_component_33 : decode b_po_component 33 = .ok (.iconst 0, 1) := by decide +kernel
theorem d_po_component_34 : decode b_po_component 34 = .ok (.bipush 32, 2) := by decide +kernel
theorem d_po_component_36 : decode b_po_component 36 = .ok (.invokestatic 67, 3) := by decide +kernel
theorem d_po_component_39 : decode b_po_component 39 = .ok (.ifCond .ne 13, 3) := by decide +kernel
theorem d_po_component_42 : decode b_po_component 42 = .ok (.new 39, 3) := by decide +kernel
theorem d_po_component_45 : decode b_po_component 45 = .ok (.dup, 1) := by decide +kernel
theorem d_po_component_46 : decode b_po_component 46 = .ok (.ldc 73, 2) := by decide +kernel
theorem d_po_component_48 : decode b_po_component 48 = .ok (.invokespecial 43, 3) := by decide +kernel
theorem d_po_component_51 : decode b_po_component 51 = .ok (.athrow, 1) := by decide +kernel
theorem d_po_component_52 : decode b_po_component 52 = .ok (.aload_n 0, 1) := by decide +kernel
theorem d_po_component_53 : decode b_po_component 53 = .ok (.getfield 12, 3) := by decide +kernel
theorem d_po_component_56 : decode b_po_component 56 = .ok (.invokevirtual 75, 3) := by decide +kernel
theorem d_po_component_59 : decode b_po_component 59 = .ok (.istore 4, 2) := by decide +kernel
theorem d_po_component_61 : decode b_po_component 61 = .ok (.iload 4, 2) := by decide +kernel
theorem d_po_component_63 : decode b_po_component 63 = .ok (.bipush 16, 2) := by decide +kernel
theorem d_po_component_65 : decode b_po_component 65 = .ok (.if_icmp .lt 13, 3) := by decide +kernel
theorem d_po_component_68 : decode b_po_component 68 = .ok (.new 79, 3) := by decide +kernel
theorem d_po_component_71 : decode b_po_component 71 = .ok (.dup, 1) := by decide +kernel
theorem d_po_component_72 : decode b_po_component 72 = .ok (.ldc 81, 2) := by decide +kernel
theorem d_po_component_74 : decode b_po_component 74 = .ok (.invokespecial 83, 3) := by decide +kernel
theorem d_po_component_77 : decode b_po_component 77 = .ok (.athrow, 1) := by decide +kernel
theorem d_po_component_78 : decode b_po_component 78 = .ok (.aload_n 0, 1) := by decide +kernel
theorem d_po_component_79 : decode b_po_component 79 = .ok (.getfield 12, 3) := by decide +kernel
theorem d_po_component_82 : decode b_po_component 82 = .ok (.new 84, 3) := by decide +kernel
theorem d_po_component_85 : decode b_po_component 85 = .ok (.dup, 1) := by decide +kernel
theorem d_po_component_86 : decode b_po_component 86 = .ok (.iload 4, 2) := by decide +kernel
theorem d_po_component_88 : decode b_po_component 88 = .ok (.iload_n 1, 1) := by decide +kernel
theorem d_po_component_89 : decode b_po_component 89 = .ok (.iload_n 2, 1) := by decide +kernel
theorem d_po_component_90 : decode b_po_component 90 = .ok (.iload_n 3, 1) := by decide +kernel
theorem d_po_component_91 : decode b_po_component 91 = .ok (.invokespecial 86, 3) := by decide +kernel
theorem d_po_component_94 : decode b_po_component 94 = .ok (.invokevirtual 89, 3) := by decide +kernel
theorem d_po_component_97 : decode b_po_component 97 = .ok (.pop, 1) := by decide +kernel
theorem d_po_component_98 : decode b_po_component 98 = .ok (.aload_n 0, 1) := by decide +kernel
theorem d_po_component_99 : decode b_po_component 99 = .ok (.iconst 0, 1) := by decide +kernel
theorem d_po_component_100 : decode b_po_component 100 = .ok (.putfield 64, 3) := by decide +kernel
theorem d_po_component_103 : decode b_po_component 103 = .ok (.iload 4, 2) := by decide +kernel
theorem d_po_component_105 : decode b_po_component 105 = .ok (.ireturn, 1) := by decide +kernel
abbrev y_po_precincts : MethodName := ⟨"PacketOrder", "precincts", "(IIII)V"⟩
abbrev b_po_precincts : ByteArray := prog_1_method_4_code
theorem d_po_precincts_0 : decode b_po_precincts 0 = .ok (.aload_n 0, 1) := by decide +kernel
theorem d_po_precincts_1 : decode b_po_precincts 1 = .ok (.iload_n 1, 1) := by decide +kernel
theorem d_po_precincts_2 : decode b_po_precincts 2 = .ok (.iload_n 2, 1) := by decide +kernel
theorem d_po_precincts_3 : decode b_po_precincts 3 = .ok (.invokevirtual 93, 3) := by decide +kernel
theorem d_po_precincts_6 : decode b_po_precincts 6 = .ok (.astore 5, 2) := by decide +kernel
theorem d_po_precincts_8 : decode b_po_precincts 8 = .ok (.aload 5, 2) := by decide +kernel
theorem d_po_precincts_10 : decode b_po_precincts 10 = .ok (.ifnonnull 13, 3) := by decide +kernel
theorem d_po_precincts_13 : decode b_po_precincts 13 = .ok (.new 97, 3) := by decide +kernel
theorem d_po_precincts_16 : decode b_po_precincts 16 = .ok (.dup, 1) := by decide +kernel
theorem d_po_precincts_17 : decode b_po_precincts 17 = .ok (.ldc 99, 2) := by decide +kernel
theorem d_po_precincts_19 : decode b_po_precincts 19 = .ok (.invokespecial 101, 3) := by decide +kernel
theorem d_po_precincts_22 : decode b_po_precincts 22 = .ok (.athrow, 1) := by decide +kernel
theorem d_po_precincts_23 : decode b_po_precincts 23 = .ok (.iload_n 2, 1) := by decide +kernel
theorem d_po_precincts_24 : decode b_po_precincts 24 = .ok (.ifCond .le 7, 3) := by decide +kernel
theorem d_po_precincts_27 : decode b_po_precincts 27 = .ok (.iconst 1, 1) := by decide +kernel
theorem d_po_precincts_28 : decode b_po_precincts 28 = .ok (.goto 4, 3) := by decide +kernel
theorem d_po_precincts_31 : decode b_po_precincts 31 = .ok (.iconst 0, 1) := by decide +kernel
theorem d_po_precincts_32 : decode b_po_precincts 32 = .ok (.istore 6, 2) := by decide +kernel
theorem d_po_precincts_34 : decode b_po_precincts 34 = .ok (.iload_n 3, 1) := by decide +kernel
theorem d_po_precincts_35 : decode b_po_precincts 35 = .ok (.iload 6, 2) := by decide +kernel
theorem d_po_precincts_37 : decode b_po_precincts 37 = .ok (.bipush 15, 2) := by decide +kernel
theorem d_po_precincts_39 : decode b_po_precincts 39 = .ok (.invokestatic 67, 3) := by decide +kernel
theorem d_po_precincts_42 : decode b_po_precincts 42 = .ok (.ifCond .eq 15, 3) := by decide +kernel
theorem d_po_precincts_45 : decode b_po_precincts 45 = .ok (.iload 4, 2) := by decide +kernel
theorem d_po_precincts_47 : decode b_po_precincts 47 = .ok (.iload 6, 2) := by decide +kernel
theorem d_po_precincts_49 : decode b_po_precincts 49 = .ok (.bipush 15, 2) := by decide +kernel
theorem d_po_precincts_51 : decode b_po_precincts 51 = .ok (.invokestatic 67, 3) := by decide +kernel
theorem d_po_precincts_54 : decode b_po_precincts 54 = .ok (.ifCond .ne 13, 3) := by decide +kernel
theorem d_po_precincts_57 : decode b_po_precincts 57 = .ok (.new 39, 3) := by decide +kernel
theorem d_po_precincts_60 : decode b_po_precincts 60 = .ok (.dup, 1) := by decide +kernel
theorem d_po_precincts_61 : decode b_po_precincts 61 = .ok (.ldc 102, 2) := by decide +kernel
theorem d_po_precincts_63 : decode b_po_precincts 63 = .ok (.invokespecial 43, 3) := by decide +kernel
theorem d_po_precincts_66 : decode b_po_precincts 66 = .ok (.athrow, 1) := by decide +kernel
theorem d_po_precincts_67 : decode b_po_precincts 67 = .ok (.aload 5, 2) := by decide +kernel
theorem d_po_precincts_69 : decode b_po_precincts 69 = .ok (.getfield 104, 3) := by decide +kernel
theorem d_po_precincts_72 : decode b_po_precincts 72 = .ok (.iload_n 3, 1) := by decide +kernel
theorem d_po_precincts_73 : decode b_po_precincts 73 = .ok (.putfield 110, 3) := by decide +kernel
theorem d_po_precincts_76 : decode b_po_precincts 76 = .ok (.aload 5, 2) := by decide +kernel
theorem d_po_precincts_78 : decode b_po_precincts 78 = .ok (.getfield 115, 3) := by decide +kernel
theorem d_po_precincts_81 : decode b_po_precincts 81 = .ok (.iload 4, 2) := by decide +kernel
theorem d_po_precincts_83 : decode b_po_precincts 83 = .ok (.putfield 110, 3) := by decide +kernel
theorem d_po_precincts_86 : decode b_po_precincts 86 = .ok (.aload_n 0, 1) := by decide +kernel
theorem d_po_precincts_87 : decode b_po_precincts 87 = .ok (.iconst 0, 1) := by decide +kernel
theorem d_po_precincts_88 : decode b_po_precincts 88 = .ok (.putfield 64, 3) := by decide +kernel
theorem d_po_precincts_91 : decode b_po_precincts 91 = .ok (.return_, 1) := by decide +kernel
abbrev y_po_layers : MethodName := ⟨"PacketOrder", "layers", "(II)V"⟩
abbrev b_po_layers : ByteArray := prog_1_method_5_code
theorem d_po_layers_0 : decode b_po_layers 0 = .ok (.iload_n 1, 1) := by decide +kernel
theorem d_po_layers_1 : decode b_po_layers 1 = .ok (.iconst 1, 1) := by decide +kernel
theorem d_po_layers_2 : decode b_po_layers 2 = .ok (.sipush 255, 3) := by decide +kernel
theorem d_po_layers_5 : decode b_po_layers 5 = .ok (.invokestatic 67, 3) := by decide +kernel
theorem d_po_layers_8 : decode b_po_layers 8 = .ok (.ifCond .ne 13, 3) := by decide +kernel
theorem d_po_layers_11 : decode b_po_layers 11 = .ok (.new 39, 3) := by decide +kernel
theorem d_po_layers_14 : decode b_po_layers 14 = .ok (.dup, 1) := by decide +kernel
theorem d_po_layers_15 : decode b_po_layers 15 = .ok (.ldc 118, 2) := by decide +kernel
theorem d_po_layers_17 : decode b_po_layers 17 = .ok (.invokespecial 43, 3) := by decide +kernel
theorem d_po_layers_20 : decode b_po_layers 20 = .ok (.athrow, 1) := by decide +kernel
theorem d_po_layers_21 : decode b_po_layers 21 = .ok (.iload_n 2, 1) := by decide +kernel
theorem d_po_layers_22 : decode b_po_layers 22 = .ok (.iconst 0, 1) := by decide +kernel
theorem d_po_layers_23 : decode b_po_layers 23 = .ok (.iconst 4, 1) := by decide +kernel
theorem d_po_layers_24 : decode b_po_layers 24 = .ok (.invokestatic 67, 3) := by decide +kernel
theorem d_po_layers_27 : decode b_po_layers 27 = .ok (.ifCond .ne 13, 3) := by decide +kernel
theorem d_po_layers_30 : decode b_po_layers 30 = .ok (.new 39, 3) := by decide +kernel
theorem d_po_layers_33 : decode b_po_layers 33 = .ok (.dup, 1) := by decide +kernel
theorem d_po_layers_34 : decode b_po_layers 34 = .ok (.ldc 120, 2) := by decide +kernel
theorem d_po_layers_36 : decode b_po_layers 36 = .ok (.invokespecial 43, 3) := by decide +kernel
theorem d_po_layers_39 : decode b_po_layers 39 = .ok (.athrow, 1) := by decide +kernel
theorem d_po_layers_40 : decode b_po_layers 40 = .ok (.aload_n 0, 1) := by decide +kernel
theorem d_po_layers_41 : decode b_po_layers 41 = .ok (.iload_n 1, 1) := by decide +kernel
theorem d_po_layers_42 : decode b_po_layers 42 = .ok (.putfield 26, 3) := by decide +kernel
theorem d_po_layers_45 : decode b_po_layers 45 = .ok (.aload_n 0, 1) := by decide +kernel
theorem d_po_layers_46 : decode b_po_layers 46 = .ok (.new 30, 3) := by decide +kernel
theorem d_po_layers_49 : decode b_po_layers 49 = .ok (.dup, 1) := by decide +kernel
theorem d_po_layers_50 : decode b_po_layers 50 = .ok (.iconst 0, 1) := by decide +kernel
theorem d_po_layers_51 : decode b_po_layers 51 = .ok (.bipush 33, 2) := by decide +kernel
theorem d_po_layers_53 : decode b_po_layers 53 = .ok (.iconst 0, 1) := by decide +kernel
theorem d_po_layers_54 : decode b_po_layers 54 = .ok (.bipush 16, 2) := by decide +kernel
theorem d_po_layers_56 : decode b_po_layers 56 = .ok (.sipush 255, 3) := by decide +kernel
theorem d_po_layers_59 : decode b_po_layers 59 = .ok (.iload_n 2, 1) := by decide +kernel
theorem d_po_layers_60 : decode b_po_layers 60 = .ok (.invokespecial 32, 3) := by decide +kernel
theorem d_po_layers_63 : decode b_po_layers 63 = .ok (.putfield 35, 3) := by decide +kernel
theorem d_po_layers_66 : decode b_po_layers 66 = .ok (.aload_n 0, 1) := by decide +kernel
theorem d_po_layers_67 : decode b_po_layers 67 = .ok (.iconst 0, 1) := by decide +kernel
theorem d_po_layers_68 : decode b_po_layers 68 = .ok (.putfield 64, 3) := by decide +kernel
theorem d_po_layers_71 : decode b_po_layers 71 = .ok (.return_, 1) := by decide +kernel
abbrev y_po_change : MethodName := ⟨"PacketOrder", "change", "(IIIIII)I"⟩
abbrev b_po_change : ByteArray := prog_1_method_6_code
theorem d_po_change_0 : decode b_po_change 0 = .ok (.iload_n 1, 1) := by decide +kernel
theorem d_po_change_1 : decode b_po_change 1 = .ok (.ifCond .lt 14, 3) := by decide +kernel
theorem d_po_change_4 : decode b_po_change 4 = .ok (.iload_n 1, 1) := by decide +kernel
theorem d_po_change_5 : decode b_po_change 5 = .ok (.iload_n 2, 1) := by decide +kernel
theorem d_po_change_6 : decode b_po_change 6 = .ok (.if_icmp .ge 9, 3) := by decide +kernel
theorem d_po_change_9 : decode b_po_change 9 = .ok (.iload_n 2, 1) := by decide +kernel
theorem d_po_change_10 : decode b_po_change 10 = .ok (.bipush 33, 2) := by decide +kernel
theorem d_po_change_12 : decode b_po_change 12 = .ok (.if_icmp .le 13, 3) := by decide +kernel
theorem d_po_change_15 : decode b_po_change 15 = .ok (.new 39, 3) := by decide +kernel
theorem d_po_change_18 : decode b_po_change 18 = .ok (.dup, 1) := by decide +kernel
theorem d_po_change_19 : decode b_po_change 19 = .ok (.ldc 122, 2) := by decide +kernel
theorem d_po_change_21 : decode b_po_change 21 = .ok (.invokespecial 43, 3) := by decide +kernel
theorem d_po_change_24 : decode b_po_change 24 = .ok (.athrow, 1) := by decide +kernel
theorem d_po_change_25 : decode b_po_change 25 = .ok (.iload_n 3, 1) := by decide +kernel
theorem d_po_change_26 : decode b_po_change 26 = .ok (.ifCond .lt 16, 3) := by decide +kernel
theorem d_po_change_29 : decode b_po_change 29 = .ok (.iload_n 3, 1) := by decide +kernel
theorem d_po_change_30 : decode b_po_change 30 = .ok (.iload 4, 2) := by decide +kernel
theorem d_po_change_32 : decode b_po_change 32 = .ok (.if_icmp .ge 10, 3) := by decide +kernel
theorem d_po_change_35 : decode b_po_change 35 = .ok (.iload 4, 2) := by decide +kernel
theorem d_po_change_37 : decode b_po_change 37 = .ok (.bipush 16, 2) := by decide +kernel
theorem d_po_change_39 : decode b_po_change 39 = .ok (.if_icmp .le 13, 3) := by decide +kernel
theorem d_po_change_42 : decode b_po_change 42 = .ok (.new 39, 3) := by decide +kernel
theorem d_po_change_45 : decode b_po_change 45 = .ok (.dup, 1) := by decide +kernel
theorem d_po_change_46 : decode b_po_change 46 = .ok (.ldc 124, 2) := by decide +kernel
theorem d_po_change_48 : decode b_po_change 48 = .ok (.invokespecial 43, 3) := by decide +kernel
theorem d_po_change_51 : decode b_po_change 51 = .ok (.athrow, 1) := by decide +kernel
theorem d_po_change_52 : decode b_po_change 52 = .ok (.iload 5, 2) := by decide +kernel
theorem d_po_change_54 : decode b_po_change 54 = .ok (.iconst 1, 1) := by decide +kernel
theorem d_po_change_55 : decode b_po_change 55 = .ok (.sipush 255, 3) := by decide +kernel
theorem d_po_change_58 : decode b_po_change 58 = .ok (.invokestatic 67, 3) := by decide +kernel
theorem d_po_change_61 : decode b_po_change 61 = .ok (.ifCond .ne 13, 3) := by decide +kernel
theorem d_po_change_64 : decode b_po_change 64 = .ok (.new 39, 3) := by decide +kernel
theorem d_po_change_67 : decode b_po_change 67 = .ok (.dup, 1) := by decide +kernel
theorem d_po_change_68 : decode b_po_change 68 = .ok (.ldc 126, 2) := by decide +kernel
theorem d_po_change_70 : decode b_po_change 70 = .ok (.invokespecial 43, 3) := by decide +kernel
theorem d_po_change_73 : decode b_po_change 73 = .ok (.athrow, 1) := by decide +kernel
theorem d_po_change_74 : decode b_po_change 74 = .ok (.iload 6, 2) := by decide +kernel
theorem d_po_change_76 : decode b_po_change 76 = .ok (.iconst 0, 1) := by decide +kernel
theorem d_po_change_77 : decode b_po_change 77 = .ok (.iconst 4, 1) := by decide +kernel
theorem d_po_change_78 : decode b_po_change 78 = .ok (.invokestatic 67, 3) := by decide +kernel
theorem d_po_change_81 : decode b_po_change 81 = .ok (.ifCond .ne 13, 3) := by decide +kernel
theorem d_po_change_84 : decode b_po_change 84 = .ok (.new 39, 3) := by decide +kernel
theorem d_po_change_87 : decode b_po_change 87 = .ok (.dup, 1) := by decide +kernel
theorem d_po_change_88 : decode b_po_change 88 = .ok (.ldc 120, 2) := by decide +kernel
theorem d_po_change_90 : decode b_po_change 90 = .ok (.invokespecial 43, 3) := by decide +kernel
theorem d_po_change_93 : decode b_po_change 93 = .ok (.athrow, 1) := by decide +kernel
theorem d_po_change_94 : decode b_po_change 94 = .ok (.aload_n 0, 1) := by decide +kernel
theorem d_po_change_95 : decode b_po_change 95 = .ok (.getfield 16, 3) := by decide +kernel
theorem d_po_change_98 : decode b_po_change 98 = .ok (.invokevirtual 75, 3) := by decide +kernel
theorem d_po_change_101 : decode b_po_change 101 = .ok (.bipush 32, 2) := by decide +kernel
theorem d_po_change_103 : decode b_po_change 103 = .ok (.if_icmp .lt 13, 3) := by decide +kernel
theorem d_po_change_106 : decode b_po_change 106 = .ok (.new 79, 3) := by decide +kernel
theorem d_po_change_109 : decode b_po_change 109 = .ok (.dup, 1) := by decide +kernel
theorem d_po_change_110 : decode b_po_change 110 = .ok (.ldc 128, 2) := by decide +kernel
theorem d_po_change_112 : decode b_po_change 112 = .ok (.invokespecial 83, 3) := by decide +kernel
theorem d_po_change_115 : decode b_po_change 115 = .ok (.athrow, 1) := by decide +kernel
theorem d_po_change_116 : decode b_po_change 116 = .ok (.aload_n 0, 1) := by decide +kernel
theorem d_po_change_117 : decode b_po_change 117 = .ok (.getfield 16, 3) := by decide +kernel
theorem d_po_change_120 : decode b_po_change 120 = .ok (.new 30, 3) := by decide +kernel
theorem d_po_change_123 : decode b_po_change 123 = .ok (.dup, 1) := by decide +kernel
theorem d_po_change_124 : decode b_po_change 124 = .ok (.iload_n 1, 1) := by decide +kernel
theorem d_po_change_125 : decode b_po_change 125 = .ok (.iload_n 2, 1) := by decide +kernel
theorem d_po_change_126 : decode b_po_change 126 = .ok (.iload_n 3, 1) := by decide +kernel
theorem d_po_change_127 : decode b_po_change 127 = .ok (.iload 4, 2) := by decide +kernel
theorem d_po_change_129 : decode b_po_change 129 = .ok (.iload 5, 2) := by decide +kernel
theorem d_po_change_131 : decode b_po_change 131 = .ok (.iload 6, 2) := by decide +kernel
theorem d_po_change_133 : decode b_po_change 133 = .ok (.invokespecial 32, 3) := by decide +kernel
theorem d_po_change_136 : decode b_po_change 136 = .ok (.invokevirtual 89, 3) := by decide +kernel
theorem d_po_change_139 : decode b_po_change 139 = .ok (.pop, 1) := by decide +kernel
theorem d_po_change_140 : decode b_po_change 140 = .ok (.aload_n 0, 1) := by decide +kernel
theorem d_po_change_141 : decode b_po_change 141 = .ok (.iconst 0, 1) := by decide +kernel
theorem d_po_change_142 : decode b_po_change 142 = .ok (.putfield 64, 3) := by decide +kernel
theorem d_po_change_145 : decode b_po_change 145 = .ok (.aload_n 0, 1) := by decide +kernel
theorem d_po_change_146 : decode b_po_change 146 = .ok (.getfield 16, 3) := by decide +kernel
theorem d_po_change_149 : decode b_po_change 149 = .ok (.invokevirtual 75, 3) := by decide +kernel
theorem d_po_change_152 : decode b_po_change 152 = .ok (.ireturn, 1) := by decide +kernel
abbrev y_po_clear : MethodName := ⟨"PacketOrder", "clear", "()V"⟩
abbrev b_po_clear : ByteArray := prog_1_method_7_code
theorem d_po_clear_0 : decode b_po_clear 0 = .ok (.aload_n 0, 1) := by decide +kernel
theorem d_po_clear_1 : decode b_po_clear 1 = .ok (.getfield 16, 3) := by decide +kernel
theorem d_po_clear_4 : decode b_po_clear 4 = .ok (.invokevirtual 130, 3) := by decide +kernel
theorem d_po_clear_7 : decode b_po_clear 7 = .ok (.aload_n 0, 1) := by decide +kernel
theorem d_po_clear_8 : decode b_po_clear 8 = .ok (.iconst 0, 1) := by decide +kernel
theorem d_po_clear_9 : decode b_po_clear 9 = .ok (.putfield 64, 3) := by decide +kernel
theorem d_po_clear_12 : decode b_po_clear 12 = .ok (.return_, 1) := by decide +kernel
abbrev y_po_begin : MethodName := ⟨"PacketOrder", "begin", "()I"⟩
abbrev b_po_begin : ByteArray := prog_1_method_8_code
theorem d_po_begin_0 : decode b_po_begin 0 = .ok (.aload_n 0, 1) := by decide +kernel
theorem d_po_begin_1 : decode b_po_begin 1 = .ok (.getfield 60, 3) := by decide +kernel
theorem d_po_begin_4 : decode b_po_begin 4 = .ok (.ifCond .eq 13, 3) := by decide +kernel
theorem d_po_begin_7 : decode b_po_begin 7 = .ok (.aload_n 0, 1) := by decide +kernel
theorem d_po_begin_8 : decode b_po_begin 8 = .ok (.getfield 12, 3) := by decide +kernel
theorem d_po_begin_11 : decode b_po_begin 11 = .ok (.invokevirtual 133, 3) := by decide +kernel
theorem d_po_begin_14 : decode b_po_begin 14 = .ok (.ifCond .eq 13, 3) := by decide +kernel
theorem d_po_begin_17 : decode b_po_begin 17 = .ok (.new 79, 3) := by decide +kernel
theorem d_po_begin_20 : decode b_po_begin 20 = .ok (.dup, 1) := by decide +kernel
theorem d_po_begin_21 : decode b_po_begin 21 = .ok (.ldc 137, 2) := by decide +kernel
theorem d_po_begin_23 : decode b_po_begin 23 = .ok (.invokespecial 83, 3) := by decide +kernel
theorem d_po_begin_26 : decode b_po_begin 26 = .ok (.athrow, 1) := by decide +kernel
theorem d_po_begin_27 : decode b_po_begin 27 = .ok (.aload_n 0, 1) := by decide +kernel
theorem d_po_begin_28 : decode b_po_begin 28 = .ok (.invokevirtual 139, 3) := by decide +kernel
theorem d_po_begin_31 : decode b_po_begin 31 = .ok (.lstore_n 1, 1) := by decide +kernel
theorem d_po_begin_32 : decode b_po_begin 32 = .ok (.lload_n 1, 1) := by decide +kernel
theorem d_po_begin_33 : decode b_po_begin 33 = .ok (.ldc2_w 143, 3) := by decide +kernel
theorem d_po_begin_36 : decode b_po_begin 36 = .ok (.lcmp, 1) := by decide +kernel
theorem d_po_begin_37 : decode b_po_begin 37 = .ok (.ifCond .le 13, 3) := by decide +kernel
theorem d_po_begin_40 : decode b_po_begin 40 = .ok (.new 145, 3) := by decide +kernel
theorem d_po_begin_43 : decode b_po_begin 43 = .ok (.dup, 1) := by decide +kernel
theorem d_po_begin_44 : decode b_po_begin 44 = .ok (.ldc 147, 2) := by decide +kernel
theorem d_po_begin_46 : decode b_po_begin 46 = .ok (.invokespecial 149, 3) := by decide +kernel
theorem d_po_begin_49 : decode b_po_begin 49 = .ok (.athrow, 1) := by decide +kernel
theorem d_po_begin_50 : decode b_po_begin 50 = .ok (.aload_n 0, 1) := by decide +kernel
theorem d_po_begin_51 : decode b_po_begin 51 = .ok (.getfield 22, 3) := by decide +kernel
theorem d_po_begin_54 : decode b_po_begin 54 = .ok (.lload_n 1, 1) := by decide +kernel
theorem d_po_begin_55 : decode b_po_begin 55 = .ok (.l2i, 1) := by decide +kernel
theorem d_po_begin_56 : decode b_po_begin 56 = .ok (.invokevirtual 150, 3) := by decide +kernel
theorem d_po_begin_59 : decode b_po_begin 59 = .ok (.aload_n 0, 1) := by decide +kernel
theorem d_po_begin_60 : decode b_po_begin 60 = .ok (.iconst (-1), 1) := by decide +kernel
theorem d_po_begin_61 : decode b_po_begin 61 = .ok (.putfield 154, 3) := by decide +kernel
theorem d_po_begin_64 : decode b_po_begin 64 = .ok (.aload_n 0, 1) := by decide +kernel
theorem d_po_begin_65 : decode b_po_begin 65 = .ok (.iconst (-1), 1) := by decide +kernel
theorem d_po_begin_66 : decode b_po_begin 66 = .ok (.putfield 157, 3) := by decide +kernel
theorem d_po_begin_69 : decode b_po_begin 69 = .ok (.aload_n 0, 1) := by decide +kernel
theorem d_po_begin_70 : decode b_po_begin 70 = .ok (.iconst 1, 1) := by decide +kernel
theorem d_po_begin_71 : decode b_po_begin 71 = .ok (.putfield 64, 3) := by decide +kernel
theorem d_po_begin_74 : decode b_po_begin 74 = .ok (.lload_n 1, 1) := by decide +kernel
theorem d_po_begin_75 : decode b_po_begin 75 = .ok (.l2i, 1) := by decide +kernel
theorem d_po_begin_76 : decode b_po_begin 76 = .ok (.aload_n 0, 1) := by decide +kernel
theorem d_po_begin_77 : decode b_po_begin 77 = .ok (.getfield 26, 3) := by decide +kernel
theorem d_po_begin_80 : decode b_po_begin 80 = .ok (.imul, 1) := by decide +kernel
theorem d_po_begin_81 : decode b_po_begin 81 = .ok (.ireturn, 1) := by decide +kernel
abbrev y_po_next : MethodName := ⟨"PacketOrder", "next", "()Z"⟩
abbrev b_po_next : ByteArray := prog_1_method_9_code
theorem d_po_next_0 : decode b_po_next 0 = .ok (.aload_n 0, 1) := by decide +kernel
theorem d_po_next_1 : decode b_po_next 1 = .ok (.getfield 64, 3) := by decide +kernel
theorem d_po_next_4 : decode b_po_next 4 = .ok (.ifCond .ne 13, 3) := by decide +kernel
theorem d_po_next_7 : decode b_po_next 7 = .ok (.new 79, 3) := by decide +kernel
theorem d_po_next_10 : decode b_po_next 10 = .ok (.dup, 1) := by decide +kernel
theorem d_po_next_11 : decode b_po_next 11 = .ok (.ldc 160, 2) := by decide +kernel
theorem d_po_next_13 : decode b_po_next 13 = .ok (.invokespecial 83, 3) := by decide +kernel
theorem d_po_next_16 : decode b_po_next 16 = .ok (.athrow, 1) := by decide +kernel
theorem d_po_next_17 : decode b_po_next 17 = .ok (.aload_n 0, 1) := by decide +kernel
theorem d_po_next_18 : decode b_po_next 18 = .ok (.iconst 1, 1) := by decide +kernel
theorem d_po_next_19 : decode b_po_next 19 = .ok (.invokevirtual 162, 3) := by decide +kernel
theorem d_po_next_22 : decode b_po_next 22 = .ok (.iconst 1, 1) := by decide +kernel
theorem d_po_next_23 : decode b_po_next 23 = .ok (.if_icmp .ne 7, 3) := by decide +kernel
theorem d_po_next_26 : decode b_po_next 26 = .ok (.iconst 1, 1) := by decide +kernel
theorem d_po_next_27 : decode b_po_next 27 = .ok (.goto 4, 3) := by decide +kernel
theorem d_po_next_30 : decode b_po_next 30 = .ok (.iconst 0, 1) := by decide +kernel
theorem d_po_next_31 : decode b_po_next 31 = .ok (.ireturn, 1) := by decide +kernel
abbrev y_po_skip : MethodName := ⟨"PacketOrder", "skip", "(I)I"⟩
abbrev b_po_skip : ByteArray := prog_1_method_10_code
theorem d_po_skip_0 : decode b_po_skip 0 = .ok (.iload_n 1, 1) := by decide +kernel
theorem d_po_skip_1 : decode b_po_skip 1 = .ok (.ifCond .ge 13, 3) := by decide +kernel
theorem d_po_skip_4 : decode b_po_skip 4 = .ok (.new 39, 3) := by decide +kernel
theorem d_po_skip_7 : decode b_po_skip 7 = .ok (.dup, 1) := by decide +kernel
theorem d_po_skip_8 : decode b_po_skip 8 = .ok (.ldc 166, 2) := by decide +kernel
theorem d_po_skip_10 : decode b_po_skip 10 = .ok (.invokespecial 43, 3) := by decide +kernel
theorem d_po_skip_13 : decode b_po_skip 13 = .ok (.athrow, 1) := by decide +kernel
theorem d_po_skip_14 : decode b_po_skip 14 = .ok (.aload_n 0, 1) := by decide +kernel
theorem d_po_skip_15 : decode b_po_skip 15 = .ok (.getfield 64, 3) := by decide +kernel
theorem d_po_skip_18 : decode b_po_skip 18 = .ok (.ifCond .ne 13, 3) := by decide +kernel
theorem d_po_skip_21 : decode b_po_skip 21 = .ok (.new 79, 3) := by decide +kernel
theorem d_po_skip_24 : decode b_po_skip 24 = .ok (.dup, 1) := by decide +kernel
theorem d_po_skip_25 : decode b_po_skip 25 = .ok (.ldc 160, 2) := by decide +kernel
theorem d_po_skip_27 : decode b_po_skip 27 = .ok (.invokespecial 83, 3) := by decide +kernel
theorem d_po_skip_30 : decode b_po_skip 30 = .ok (.athrow, 1) := by decide +kernel
theorem d_po_skip_31 : decode b_po_skip 31 = .ok (.aload_n 0, 1) := by decide +kernel
theorem d_po_skip_32 : decode b_po_skip 32 = .ok (.iload_n 1, 1) := by decide +kernel
theorem d_po_skip_33 : decode b_po_skip 33 = .ok (.invokevirtual 162, 3) := by decide +kernel
theorem d_po_skip_36 : decode b_po_skip 36 = .ok (.ireturn, 1) := by decide +kernel
abbrev y_po_packet : MethodName := ⟨"PacketOrder", "packet", "(I)I"⟩
abbrev b_po_packet : ByteArray := prog_1_method_11_code
theorem d_po_packet_0 : decode b_po_packet 0 = .ok (.aload_n 0, 1) := by decide +kernel
theorem d_po_packet_1 : decode b_po_packet 1 = .ok (.getfield 64, 3) := by decide +kernel
theorem d_po_packet_4 : decode b_po_packet 4 = .ok (.ifCond .eq 17, 3) := by decide +kernel
theorem d_po_packet_7 : decode b_po_packet 7 = .ok (.aload_n 0, 1) := by decide +kernel
theorem d_po_packet_8 : decode b_po_packet 8 = .ok (.aload_n 0, 1) := by decide +kernel
theorem d_po_packet_9 : decode b_po_packet 9 = .ok (.getfield 22, 3) := by decide +kernel
theorem d_po_packet_12 : decode b_po_packet 12 = .ok (.getfield 168, 3) := by decide +kernel
theorem d_po_packet_15 : decode b_po_packet 15 = .ok (.invokevirtual 171, 3) := by decide +kernel
theorem d_po_packet_18 : decode b_po_packet 18 = .ok (.goto 4, 3) := by decide +kernel
theorem d_po_packet_21 : decode b_po_packet 21 = .ok (.aconst_null, 1) := by decide +kernel
theorem d_po_packet_22 : decode b_po_packet 22 = .ok (.astore_n 2, 1) := by decide +kernel
theorem d_po_packet_23 : decode b_po_packet 23 = .ok (.aload_n 2, 1) := by decide +kernel
theorem d_po_packet_24 : decode b_po_packet 24 = .ok (.ifnonnull 13, 3) := by decide +kernel
theorem d_po_packet_27 : decode b_po_packet 27 = .ok (.new 97, 3) := by decide +kernel
theorem d_po_packet_30 : decode b_po_packet 30 = .ok (.dup, 1) := by decide +kernel
theorem d_po_packet_31 : decode b_po_packet 31 = .ok (.ldc 175, 2) := by decide +kernel
theorem d_po_packet_33 : decode b_po_packet 33 = .ok (.invokespecial 101, 3) := by decide +kernel
theorem d_po_packet_36 : decode b_po_packet 36 = .ok (.athrow, 1) := by decide +kernel
theorem d_po_packet_37 : decode b_po_packet 37 = .ok (.iload_n 1, 1) := by decide +kernel
theorem d_po_packet_38 : decode b_po_packet 38 = .ok (.tableswitch 79 0 4 #[34, 51, 56, 61, 74], 34) := by decide +kernel
theorem d_po_packet_72 : decode b_po_packet 72 = .ok (.aload_n 0, 1) := by decide +kernel
theorem d_po_packet_73 : decode b_po_packet 73 = .ok (.getfield 22, 3) := by decide +kernel
theorem d_po_packet_76 : decode b_po_packet 76 = .ok (.aload_n 0, 1) := by decide +kernel
theorem d_po_packet_77 : decode b_po_packet 77 = .ok (.getfield 22, 3) := by decide +kernel
theorem d_po_packet_80 : decode b_po_packet 80 = .ok (.getfield 168, 3) := by decide +kernel
theorem d_po_packet_83 : decode b_po_packet 83 = .ok (.invokevirtual 177, 3) := by decide +kernel
theorem d_po_packet_86 : decode b_po_packet 86 = .ok (.iconst 1, 1) := by decide +kernel
theorem d_po_packet_87 : decode b_po_packet 87 = .ok (.isub, 1) := by decide +kernel
theorem d_po_packet_88 : decode b_po_packet 88 = .ok (.ireturn, 1) := by decide +kernel
theorem d_po_packet_89 : decode b_po_packet 89 = .ok (.aload_n 2, 1) := by decide +kernel
theorem d_po_packet_90 : decode b_po_packet 90 = .ok (.getfield 180, 3) := by decide +kernel
theorem d_po_packet_93 : decode b_po_packet 93 = .ok (.ireturn, 1) := by decide +kernel
theorem d_po_packet_94 : decode b_po_packet 94 = .ok (.aload_n 2, 1) := by decide +kernel
theorem d_po_packet_95 : decode b_po_packet 95 = .ok (.getfield 183, 3) := by decide +kernel
theorem d_po_packet_98 : decode b_po_packet 98 = .ok (.ireturn, 1) := by decide +kernel
theorem d_po_packet_99 : decode b_po_packet 99 = .ok (.aload_n 0, 1) := by decide +kernel
theorem d_po_packet_100 : decode b_po_packet 100 = .ok (.getfield 22, 3) := by decide +kernel
theorem d_po_packet_103 : decode b_po_packet 103 = .ok (.getfield 168, 3) := by decide +kernel
theorem d_po_packet_106 : decode b_po_packet 106 = .ok (.aload_n 2, 1) := by decide +kernel
theorem d_po_packet_107 : decode b_po_packet 107 = .ok (.getfield 186, 3) := by decide +kernel
theorem d_po_packet_110 : decode b_po_packet 110 = .ok (.isub, 1) := by decide +kernel
theorem d_po_packet_111 : decode b_po_packet 111 = .ok (.ireturn, 1) := by decide +kernel
theorem d_po_packet_112 : decode b_po_packet 112 = .ok (.aload_n 0, 1) := by decide +kernel
theorem d_po_packet_113 : decode b_po_packet 113 = .ok (.getfield 157, 3) := by decide +kernel
theorem d_po_packet_116 : decode b_po_packet 116 = .ok (.ireturn, 1) := by decide +kernel
theorem d_po_packet_117 : decode b_po_packet 117 = .ok (.new 97, 3) := by decide +kernel
theorem d_po_packet_120 : decode b_po_packet 120 = .ok (.dup, 1) := by decide +kernel
theorem d_po_packet_121 : decode b_po_packet 121 = .ok (.ldc 189, 2) := by decide +kernel
theorem d_po_packet_123 : decode b_po_packet 123 = .ok (.invokespecial 101, 3) := by decide +kernel
theorem d_po_packet_126 : decode b_po_packet 126 = .ok (.athrow, 1) := by decide +kernel
abbrev y_po_came : MethodName := ⟨"PacketOrder", "came", "(III)I"⟩
abbrev b_po_came : ByteArray := prog_1_method_12_code
theorem d_po_came_0 : decode b_po_came 0 = .ok (.aload_n 0, 1) := by decide +kernel
theorem d_po_came_1 : decode b_po_came 1 = .ok (.getfield 64, 3) := by decide +kernel
theorem d_po_came_4 : decode b_po_came 4 = .ok (.ifCond .eq 12, 3) := by decide +kernel
theorem d_po_came_7 : decode b_po_came 7 = .ok (.aload_n 0, 1) := by decide +kernel
theorem d_po_came_8 : decode b_po_came 8 = .ok (.iload_n 1, 1) := by decide +kernel
theorem d_po_came_9 : decode b_po_came 9 = .ok (.iload_n 2, 1) := by decide +kernel
theorem d_po_came_10 : decode b_po_came 10 = .ok (.invokevirtual 93, 3) := by decide +kernel
theorem d_po_came_13 : decode b_po_came 13 = .ok (.goto 4, 3) := by decide +kernel
theorem d_po_came_16 : decode b_po_came 16 = .ok (.aconst_null, 1) := by decide +kernel
theorem d_po_came_17 : decode b_po_came 17 = .ok (.astore 4, 2) := by decide +kernel
theorem d_po_came_19 : decode b_po_came 19 = .ok (.aload 4, 2) := by decide +kernel
theorem d_po_came_21 : decode b_po_came 21 = .ok (.ifnull 16, 3) := by decide +kernel
theorem d_po_came_24 : decode b_po_came 24 = .ok (.iload_n 3, 1) := by decide +kernel
theorem d_po_came_25 : decode b_po_came 25 = .ok (.ifCond .lt 12, 3) := by decide +kernel
theorem d_po_came_28 : decode b_po_came 28 = .ok (.iload_n 3, 1) := by decide +kernel
theorem d_po_came_29 : decode b_po_came 29 = .ok (.aload 4, 2) := by decide +kernel
theorem d_po_came_31 : decode b_po_came 31 = .ok (.invokevirtual 191, 3) := by decide +kernel
theorem d_po_came_34 : decode b_po_came 34 = .ok (.if_icmp .lt 13, 3) := by decide +kernel
theorem d_po_came_37 : decode b_po_came 37 = .ok (.new 97, 3) := by decide +kernel
theorem d_po_came_40 : decode b_po_came 40 = .ok (.dup, 1) := by decide +kernel
theorem d_po_came_41 : decode b_po_came 41 = .ok (.ldc 194, 2) := by decide +kernel
theorem d_po_came_43 : decode b_po_came 43 = .ok (.invokespecial 101, 3) := by decide +kernel
theorem d_po_came_46 : decode b_po_came 46 = .ok (.athrow, 1) := by decide +kernel
theorem d_po_came_47 : decode b_po_came 47 = .ok (.aload_n 0, 1) := by decide +kernel
theorem d_po_came_48 : decode b_po_came 48 = .ok (.getfield 22, 3) := by decide +kernel
theorem d_po_came_51 : decode b_po_came 51 = .ok (.aload 4, 2) := by decide +kernel
theorem d_po_came_53 : decode b_po_came 53 = .ok (.getfield 186, 3) := by decide +kernel
theorem d_po_came_56 : decode b_po_came 56 = .ok (.iload_n 3, 1) := by decide +kernel
theorem d_po_came_57 : decode b_po_came 57 = .ok (.iadd, 1) := by decide +kernel
theorem d_po_came_58 : decode b_po_came 58 = .ok (.invokevirtual 177, 3) := by decide +kernel
theorem d_po_came_61 : decode b_po_came 61 = .ok (.ireturn, 1) := by decide +kernel
abbrev y_po_isWithin : MethodName := ⟨"PacketOrder", "isWithin", "(III)Z"⟩
abbrev b_po_isWithin : ByteArray := prog_1_method_13_code
theorem d_po_isWithin_0 : decode b_po_isWithin 0 = .ok (.iload_n 0, 1) := by decide +kernel
theorem d_po_isWithin_1 : decode b_po_isWithin 1 = .ok (.iload_n 1, 1) := by decide +kernel
theorem d_po_isWithin_2 : decode b_po_isWithin 2 = .ok (.if_icmp .lt 12, 3) := by decide +kernel
theorem d_po_isWithin_5 : decode b_po_isWithin 5 = .ok (.iload_n 0, 1) := by decide +kernel
theorem d_po_isWithin_6 : decode b_po_isWithin 6 = .ok (.iload_n 2, 1) := by decide +kernel
theorem d_po_isWithin_7 : decode b_po_isWithin 7 = .ok (.if_icmp .gt 7, 3) := by decide +kernel
theorem d_po_isWithin_10 : decode b_po_isWithin 10 = .ok (.iconst 1, 1) := by decide +kernel
theorem d_po_isWithin_11 : decode b_po_isWithin 11 = .ok (.goto 4, 3) := by decide +kernel
theorem d_po_isWithin_14 : decode b_po_isWithin 14 = .ok (.iconst 0, 1) := by decide +kernel
theorem d_po_isWithin_15 : decode b_po_isWithin 15 = .ok (.ireturn, 1) := by decide +kernel
abbrev y_po_levelOf : MethodName := ⟨"PacketOrder", "levelOf", "(II)LPacketOrder$Level;"⟩
abbrev b_po_levelOf : ByteArray := prog_1_method_14_code
theorem d_po_levelOf_0 : decode b_po_levelOf 0 = .ok (.iload_n 1, 1) := by decide +kernel
theorem d_po_levelOf_1 : decode b_po_levelOf 1 = .ok (.ifCond .lt 14, 3) := by decide +kernel
theorem d_po_levelOf_4 : decode b_po_levelOf 4 = .ok (.iload_n 1, 1) := by decide +kernel
theorem d_po_levelOf_5 : decode b_po_levelOf 5 = .ok (.aload_n 0, 1) := by decide +kernel
theorem d_po_levelOf_6 : decode b_po_levelOf 6 = .ok (.getfield 12, 3) := by decide +kernel
theorem d_po_levelOf_9 : decode b_po_levelOf 9 = .ok (.invokevirtual 75, 3) := by decide +kernel
theorem d_po_levelOf_12 : decode b_po_levelOf 12 = .ok (.if_icmp .lt 5, 3) := by decide +kernel
theorem d_po_levelOf_15 : decode b_po_levelOf 15 = .ok (.aconst_null, 1) := by decide +kernel
theorem d_po_levelOf_16 : decode b_po_levelOf 16 = .ok (.areturn, 1) := by decide +kernel
theorem d_po_levelOf_17 : decode b_po_levelOf 17 = .ok (.aload_n 0, 1) := by decide +kernel
theorem d_po_levelOf_18 : decode b_po_levelOf 18 = .ok (.getfield 12, 3) := by decide +kernel
theorem d_po_levelOf_21 : decode b_po_levelOf 21 = .ok (.iload_n 1, 1) := by decide +kernel
theorem d_po_levelOf_22 : decode b_po_levelOf 22 = .ok (.invokevirtual 196, 3) := by decide +kernel
theorem d_po_levelOf_25 : decode b_po_levelOf 25 = .ok (.checkcast 84, 3) := by decide +kernel
theorem d_po_levelOf_28 : decode b_po_levelOf 28 = .ok (.getfield 200, 3) := by decide +kernel
theorem d_po_levelOf_31 : decode b_po_levelOf 31 = .ok (.astore_n 3, 1) := by decide +kernel
theorem d_po_levelOf_32 : decode b_po_levelOf 32 = .ok (.iload_n 2, 1) := by decide +kernel
theorem d_po_levelOf_33 : decode b_po_levelOf 33 = .ok (.ifCond .lt 9, 3) := by decide +kernel
theorem d_po_levelOf_36 : decode b_po_levelOf 36 = .ok (.iload_n 2, 1) := by decide +kernel
theorem d_po_levelOf_37 : decode b_po_levelOf 37 = .ok (.aload_n 3, 1) := by decide +kernel
theorem d_po_levelOf_38 : decode b_po_levelOf 38 = .ok (.arraylength, 1) := by decide +kernel
theorem d_po_levelOf_39 : decode b_po_levelOf 39 = .ok (.if_icmp .lt 7, 3) := by decide +kernel
theorem d_po_levelOf_42 : decode b_po_levelOf 42 = .ok (.aconst_null, 1) := by decide +kernel
theorem d_po_levelOf_43 : decode b_po_levelOf 43 = .ok (.goto 6, 3) := by decide +kernel
theorem d_po_levelOf_46 : decode b_po_levelOf 46 = .ok (.aload_n 3, 1) := by decide +kernel
theorem d_po_levelOf_47 : decode b_po_levelOf 47 = .ok (.iload_n 2, 1) := by decide +kernel
theorem d_po_levelOf_48 : decode b_po_levelOf 48 = .ok (.aaload, 1) := by decide +kernel
theorem d_po_levelOf_49 : decode b_po_levelOf 49 = .ok (.areturn, 1) := by decide +kernel

abbrev y_ch_init : MethodName := ⟨"PacketOrder$Change", "<init>", "(IIIIII)V"⟩
abbrev b_ch_init : ByteArray := prog_2_method_1_code
theorem d_ch_init_0 : decode b_ch_init 0 = .ok (.aload_n 0, 1) := by decide +kernel
theorem d_ch_init_1 : decode b_ch_init 1 = .ok (.invokespecial 1, 3) := by decide +kernel
theorem d_ch_init_4 : decode b_ch_init 4 = .ok (.aload_n 0, 1) := by decide +kernel
theorem d_ch_init_5 : decode b_ch_init 5 = .ok (.iload_n 1, 1) := by decide +kernel
theorem d_ch_init_6 : decode b_ch_init 6 = .ok (.putfield 7, 3) := by decide +kernel
theorem d_ch_init_9 : decode b_ch_init 9 = .ok (.aload_n 0, 1) := by decide +kernel
theorem d_ch_init_10 : decode b_ch_init 10 = .ok (.iload_n 2, 1) := by decide +kernel
theorem d_ch_init_11 : decode b_ch_init 11 = .ok (.putfield 13, 3) := by decide +kernel
theorem d_ch_init_14 : decode b_ch_init 14 = .ok (.aload_n 0, 1) := by decide +kernel
theorem d_ch_init_15 : decode b_ch_init 15 = .ok (.iload_n 3, 1) := by decide +kernel
theorem d_ch_init_16 : decode b_ch_init 16 = .ok (.putfield 16, 3) := by decide +kernel
theorem d_ch_init_19 : decode b_ch_init 19 = .ok (.aload_n 0, 1) := by decide +kernel
theorem d_ch_init_20 : decode b_ch_init 20 = .ok (.iload 4, 2) := by decide +kernel
theorem d_ch_init_22 : decode b_ch_init 22 = .ok (.putfield 19, 3) := by decide +kernel
theorem d_ch_init_25 : decode b_ch_init 25 = .ok (.aload_n 0, 1) := by decide +kernel
theorem d_ch_init_26 : decode b_ch_init 26 = .ok (.iload 5, 2) := by decide +kernel
theorem d_ch_init_28 : decode b_ch_init 28 = .ok (.putfield 22, 3) := by decide +kernel
theorem d_ch_init_31 : decode b_ch_init 31 = .ok (.aload_n 0, 1) := by decide +kernel
theorem d_ch_init_32 : decode b_ch_init 32 = .ok (.iload 6, 2) := by decide +kernel
theorem d_ch_init_34 : decode b_ch_init 34 = .ok (.putfield 25, 3) := by decide +kernel
theorem d_ch_init_37 : decode b_ch_init 37 = .ok (.return_, 1) := by decide +kernel

abbrev y_co_init : MethodName := ⟨"PacketOrder$Component", "<init>", "(IIII)V"⟩
abbrev b_co_init : ByteArray := prog_3_method_1_code
theorem d_co_init_0 : decode b_co_init 0 = .ok (.aload_n 0, 1) := by decide +kernel
theorem d_co_init_1 : decode b_co_init 1 = .ok (.invokespecial 1, 3) := by decide +kernel
theorem d_co_init_4 : decode b_co_init 4 = .ok (.aload_n 0, 1) := by decide +kernel
theorem d_co_init_5 : decode b_co_init 5 = .ok (.iload 4, 2) := by decide +kernel
theorem d_co_init_7 : decode b_co_init 7 = .ok (.iconst 1, 1) := by decide +kernel
theorem d_co_init_8 : decode b_co_init 8 = .ok (.iadd, 1) := by decide +kernel
theorem d_co_init_9 : decode b_co_init 9 = .ok (.anewarray 7, 3) := by decide +kernel
theorem d_co_init_12 : decode b_co_init 12 = .ok (.putfield 9, 3) := by decide +kernel
theorem d_co_init_15 : decode b_co_init 15 = .ok (.iconst 0, 1) := by decide +kernel
theorem d_co_init_16 : decode b_co_init 16 = .ok (.istore 5, 2) := by decide +kernel
theorem d_co_init_18 : decode b_co_init 18 = .ok (.iload 5, 2) := by decide +kernel
theorem d_co_init_20 : decode b_co_init 20 = .ok (.iload 4, 2) := by decide +kernel
theorem d_co_init_22 : decode b_co_init 22 = .ok (.if_icmp .gt 52, 3) := by decide +kernel
theorem d_co_init_25 : decode b_co_init 25 = .ok (.aload_n 0, 1) := by decide +kernel
theorem d_co_init_26 : decode b_co_init 26 = .ok (.getfield 9, 3) := by decide +kernel
theorem d_co_init_29 : decode b_co_init 29 = .ok (.iload 5, 2) := by decide +kernel
theorem d_co_init_31 : decode b_co_init 31 = .ok (.new 7, 3) := by decide +kernel
theorem d_co_init_34 : decode b_co_init 34 = .ok (.dup, 1) := by decide +kernel
theorem d_co_init_35 : decode b_co_init 35 = .ok (.iload_n 1, 1) := by decide +kernel
theorem d_co_init_36 : decode b_co_init 36 = .ok (.iload 5, 2) := by decide +kernel
theorem d_co_init_38 : decode b_co_init 38 = .ok (.new 15, 3) := by decide +kernel
theorem d_co_init_41 : decode b_co_init 41 = .ok (.dup, 1) := by decide +kernel
theorem d_co_init_42 : decode b_co_init 42 = .ok (.iload_n 2, 1) := by decide +kernel
theorem d_co_init_43 : decode b_co_init 43 = .ok (.iload 4, 2) := by decide +kernel
theorem d_co_init_45 : decode b_co_init 45 = .ok (.iload 5, 2) := by decide +kernel
theorem d_co_init_47 : decode b_co_init 47 = .ok (.isub, 1) := by decide +kernel
theorem d_co_init_48 : decode b_co_init 48 = .ok (.invokespecial 17, 3) := by decide +kernel
theorem d_co_init_51 : decode b_co_init 51 = .ok (.new 15, 3) := by decide +kernel
theorem d_co_init_54 : decode b_co_init 54 = .ok (.dup, 1) := by decide +kernel
theorem d_co_init_55 : decode b_co_init 55 = .ok (.iload_n 3, 1) := by decide +kernel
theorem d_co_init_56 : decode b_co_init 56 = .ok (.iload 4, 2) := by decide +kernel
theorem d_co_init_58 : decode b_co_init 58 = .ok (.iload 5, 2) := by decide +kernel
theorem d_co_init_60 : decode b_co_init 60 = .ok (.isub, 1) := by decide +kernel
theorem d_co_init_61 : decode b_co_init 61 = .ok (.invokespecial 17, 3) := by decide +kernel
theorem d_co_init_64 : decode b_co_init 64 = .ok (.invokespecial 20, 3) := by decide +kernel
theorem d_co_init_67 : decode b_co_init 67 = .ok (.aastore, 1) := by decide +kernel
theorem d_co_init_68 : decode b_co_init 68 = .ok (.iinc 5 1, 3) := by decide +kernel
theorem d_co_init_71 : decode b_co_init 71 = .ok (.goto (-53), 3) := by decide +kernel
theorem d_co_init_74 : decode b_co_init 74 = .ok (.return_, 1) := by decide +kernel

abbrev y_le_init : MethodName := ⟨"PacketOrder$Level", "<init>", "(IILPacketOrder$Span;LPacketOrder$Span;)V"⟩
abbrev b_le_init : ByteArray := prog_4_method_1_code
theorem d_le_init_0 : decode b_le_init 0 = .ok (.aload_n 0, 1) := by decide +kernel
theorem d_le_init_1 : decode b_le_init 1 = .ok (.invokespecial 3, 3) := by decide +kernel
theorem d_le_init_4 : decode b_le_init 4 = .ok (.aload_n 0, 1) := by decide +kernel
theorem d_le_init_5 : decode b_le_init 5 = .ok (.iload_n 1, 1) := by decide +kernel
theorem d_le_init_6 : decode b_le_init 6 = .ok (.putfield 9, 3) := by decide +kernel
theorem d_le_init_9 : decode b_le_init 9 = .ok (.aload_n 0, 1) := by decide +kernel
theorem d_le_init_10 : decode b_le_init 10 = .ok (.iload_n 2, 1) := by decide +kernel
theorem d_le_init_11 : decode b_le_init 11 = .ok (.putfield 15, 3) := by decide +kernel
theorem d_le_init_14 : decode b_le_init 14 = .ok (.aload_n 0, 1) := by decide +kernel
theorem d_le_init_15 : decode b_le_init 15 = .ok (.aload_n 3, 1) := by decide +kernel
theorem d_le_init_16 : decode b_le_init 16 = .ok (.putfield 18, 3) := by decide +kernel
theorem d_le_init_19 : decode b_le_init 19 = .ok (.aload_n 0, 1) := by decide +kernel
theorem d_le_init_20 : decode b_le_init 20 = .ok (.aload 4, 2) := by decide +kernel
theorem d_le_init_22 : decode b_le_init 22 = .ok (.putfield 22, 3) := by decide +kernel
theorem d_le_init_25 : decode b_le_init 25 = .ok (.return_, 1) := by decide +kernel

abbrev y_sp_init : MethodName := ⟨"PacketOrder$Span", "<init>", "(II)V"⟩
abbrev b_sp_init : ByteArray := prog_6_method_1_code
theorem d_sp_init_0 : decode b_sp_init 0 = .ok (.aload_n 0, 1) := by decide +kernel
theorem d_sp_init_1 : decode b_sp_init 1 = .ok (.invokespecial 3, 3) := by decide +kernel
theorem d_sp_init_4 : decode b_sp_init 4 = .ok (.aload_n 0, 1) := by decide +kernel
theorem d_sp_init_5 : decode b_sp_init 5 = .ok (.bipush 15, 2) := by decide +kernel
theorem d_sp_init_7 : decode b_sp_init 7 = .ok (.putfield 9, 3) := by decide +kernel
theorem d_sp_init_10 : decode b_sp_init 10 = .ok (.aload_n 0, 1) := by decide +kernel
theorem d_sp_init_11 : decode b_sp_init 11 = .ok (.iload_n 1, 1) := by decide +kernel
theorem d_sp_init_12 : decode b_sp_init 12 = .ok (.iconst 1, 1) := by decide +kernel
theorem d_sp_init_13 : decode b_sp_init 13 = .ok (.invokestatic 15, 3) := by decide +kernel
theorem d_sp_init_16 : decode b_sp_init 16 = .ok (.putfield 21, 3) := by decide +kernel
theorem d_sp_init_19 : decode b_sp_init 19 = .ok (.aload_n 0, 1) := by decide +kernel
theorem d_sp_init_20 : decode b_sp_init 20 = .ok (.iload_n 2, 1) := by decide +kernel
theorem d_sp_init_21 : decode b_sp_init 21 = .ok (.putfield 24, 3) := by decide +kernel
theorem d_sp_init_24 : decode b_sp_init 24 = .ok (.return_, 1) := by decide +kernel

abbrev y_ro_init : MethodName := ⟨"PacketOrder$Row", "<init>", "()V"⟩
abbrev b_ro_init : ByteArray := prog_5_method_1_code
theorem d_ro_init_0 : decode b_ro_init 0 = .ok (.aload_n 0, 1) := by decide +kernel
theorem d_ro_init_1 : decode b_ro_init 1 = .ok (.invokespecial 3, 3) := by decide +kernel
theorem d_ro_init_4 : decode b_ro_init 4 = .ok (.aload_n 0, 1) := by decide +kernel
theorem d_ro_init_5 : decode b_ro_init 5 = .ok (.iconst 0, 1) := by decide +kernel
theorem d_ro_init_6 : decode b_ro_init 6 = .ok (.newarray .int, 2) := by decide +kernel
theorem d_ro_init_8 : decode b_ro_init 8 = .ok (.putfield 9, 3) := by decide +kernel
theorem d_ro_init_11 : decode b_ro_init 11 = .ok (.aload_n 0, 1) := by decide +kernel
theorem d_ro_init_12 : decode b_ro_init 12 = .ok (.iconst 0, 1) := by decide +kernel
theorem d_ro_init_13 : decode b_ro_init 13 = .ok (.newarray .long, 2) := by decide +kernel
theorem d_ro_init_15 : decode b_ro_init 15 = .ok (.putfield 15, 3) := by decide +kernel
theorem d_ro_init_18 : decode b_ro_init 18 = .ok (.aload_n 0, 1) := by decide +kernel
theorem d_ro_init_19 : decode b_ro_init 19 = .ok (.iconst 0, 1) := by decide +kernel
theorem d_ro_init_20 : decode b_ro_init 20 = .ok (.newarray .long, 2) := by decide +kernel
theorem d_ro_init_22 : decode b_ro_init 22 = .ok (.putfield 19, 3) := by decide +kernel
theorem d_ro_init_25 : decode b_ro_init 25 = .ok (.aload_n 0, 1) := by decide +kernel
theorem d_ro_init_26 : decode b_ro_init 26 = .ok (.iconst (-1), 1) := by decide +kernel
theorem d_ro_init_27 : decode b_ro_init 27 = .ok (.putfield 22, 3) := by decide +kernel
theorem d_ro_init_30 : decode b_ro_init 30 = .ok (.return_, 1) := by decide +kernel
end
section
/-! the class under proof: tile, begin, next, skip without a sequence -/
set_option maxHeartbeats 4000000 in
set_option maxRecDepth 100000 in
theorem c_po_tile (l : Launch) (hl9 : l.stackTraces = false) (D : va_G) (X : ClassId × ClassId × ClassId × ClassId) (lo t0 : Nat) (f : hM) (a : Nat) (b : Nat → Option Nat) (v : Nat → Int) (h0 : f a = some (eO 0 (oF sh_po b v))) (x0 y0 x1 y1 : Int) (r0 : iR x0) (r1 : iR y0) (r2 : iR x1) (r3 : iR y1) : vx_Met l y_po_tile (Cond.code y_po_tile b_po_tile 5 (none) :: TB) ({ frames := 6, cells := 1, slots := 6, locals := 90 } : Room) (va_Pc [.ref a, .int (iI (x0)), .int (iI (y0)), .int (iI (x1)), .int (iI (y1))] (Bq D CL (TYS X) lo (Gv lo t0) f)) (va_Qv (fun f1 => gTile x0 y0 x1 y1 ∧ Fr [a] f f1 ∧ f1 a = some (eO 0 (oF sh_po b (va_up (va_up (va_up (va_up (va_up (va_up v 0 x0) 1 y0) 2 x1) 3 y1) 4 1) 9 0)))) (Bq D CL (TYS X) lo (Gv lo t0)) (fun q => lo ≤ q)) (XCm D CL lo (fun E f1 => E = IAE ∧ ¬ gTile x0 y0 x1 y1 ∧ f1 = f)) 1 6 (fun q => lo ≤ q) := by
  refine mtx (by decide) (Nat.le_of_ble_eq_true rfl) ?_
  intro p e s m args below meth cd ls hx hb hr hml hown ht hlocks hnm hK hlo hG hw hS hl hex
  have hl : lv_has ls 5 [(0, .ref a), (1, .int (iI (x0))), (2, .int (iI (y0))), (3, .int (iI (x1))), (4, .int (iI (y1)))] := hl
  have hGO := Gv.ok lo t0
  have hNB := hG.1
  generalize hQ : vx_MQ below _ _ args s _ _ _ = Q
  have hF : Fr [a] f f := Fr.rf
  refine lv_iload_n hx hb d_po_tile_0 rfl (lv_at hl 1 rfl) ?_
  refine mi_if_lt (tgt := 23) hx hb d_po_tile_1 (by decide) r0 (fun c_1 => ?_) (fun c_1 => ?_)
  · skip
    rw [← hQ]; exact mx_throw (text := "the tile is not within 0 .. 32767") (names := ["java/lang/RuntimeException", "java/lang/Exception"]) hx hb hl9 hown (by decide +kernel) at_nm ht t_186 t_11 (by decide) at1_IAE at2_IAE at3_IAE hG hw hS (hl.1.trans hml.symm) d_po_tile_23 d_po_tile_26 d_po_tile_27 d_po_tile_29 d_po_tile_32 hex (Nat.le_of_ble_eq_true rfl) (Nat.le_of_ble_eq_true rfl) (Nat.le_of_ble_eq_true rfl) (Nat.le_of_ble_eq_true rfl) hlocks (Nat.le_of_ble_eq_true rfl) (Nat.le_of_ble_eq_true rfl) ⟨rfl, (by omega), rfl⟩
  · skip
    refine lv_iload_n hx hb d_po_tile_4 rfl (lv_at hl 2 rfl) ?_
    refine mi_if_lt (tgt := 23) hx hb d_po_tile_5 (by decide) r1 (fun c_5 => ?_) (fun c_5 => ?_)
    · skip
      rw [← hQ]; exact mx_throw (text := "the tile is not within 0 .. 32767") (names := ["java/lang/RuntimeException", "java/lang/Exception"]) hx hb hl9 hown (by decide +kernel) at_nm ht t_186 t_11 (by decide) at1_IAE at2_IAE at3_IAE hG hw hS (hl.1.trans hml.symm) d_po_tile_23 d_po_tile_26 d_po_tile_27 d_po_tile_29 d_po_tile_32 hex (Nat.le_of_ble_eq_true rfl) (Nat.le_of_ble_eq_true rfl) (Nat.le_of_ble_eq_true rfl) (Nat.le_of_ble_eq_true rfl) hlocks (Nat.le_of_ble_eq_true rfl) (Nat.le_of_ble_eq_true rfl) ⟨rfl, (by omega), rfl⟩
    · skip
      refine lv_iload_n hx hb d_po_tile_8 rfl (lv_at hl 3 rfl) ?_
      refine mi_sipush hx hb d_po_tile_9 (by decide) ?_
      refine mi_icmp_gt (tgt := 23) hx hb d_po_tile_12 (by decide) r2 (by decide) (fun c_12 => ?_) (fun c_12 => ?_)
      · skip
        rw [← hQ]; exact mx_throw (text := "the tile is not within 0 .. 32767") (names := ["java/lang/RuntimeException", "java/lang/Exception"]) hx hb hl9 hown (by decide +kernel) at_nm ht t_186 t_11 (by decide) at1_IAE at2_IAE at3_IAE hG hw hS (hl.1.trans hml.symm) d_po_tile_23 d_po_tile_26 d_po_tile_27 d_po_tile_29 d_po_tile_32 hex (Nat.le_of_ble_eq_true rfl) (Nat.le_of_ble_eq_true rfl) (Nat.le_of_ble_eq_true rfl) (Nat.le_of_ble_eq_true rfl) hlocks (Nat.le_of_ble_eq_true rfl) (Nat.le_of_ble_eq_true rfl) ⟨rfl, (by omega), rfl⟩
      · skip
        refine lv_iload hx hb d_po_tile_15 (lv_at hl 4 rfl) ?_
        refine mi_sipush hx hb d_po_tile_17 (by decide) ?_
        refine mi_icmp_le (tgt := 33) hx hb d_po_tile_20 (by decide) r3 (by decide) (fun c_20 => ?_) (fun c_20 => ?_)
        · skip
          refine lv_iload_n hx hb d_po_tile_33 rfl (lv_at hl 1 rfl) ?_
          refine lv_iload_n hx hb d_po_tile_34 rfl (lv_at hl 3 rfl) ?_
          refine mi_icmp_ge (tgt := 44) hx hb d_po_tile_35 (by decide) r0 r2 (fun c_35 => ?_) (fun c_35 => ?_)
          · skip
            rw [← hQ]; exact mx_throw (text := "the tile is empty") (names := ["java/lang/RuntimeException", "java/lang/Exception"]) hx hb hl9 hown (by decide +kernel) at_nm ht t_186 t_11 (by decide) at1_IAE at2_IAE at3_IAE hG hw hS (hl.1.trans hml.symm) d_po_tile_44 d_po_tile_47 d_po_tile_48 d_po_tile_50 d_po_tile_53 hex (Nat.le_of_ble_eq_true rfl) (Nat.le_of_ble_eq_true rfl) (Nat.le_of_ble_eq_true rfl) (Nat.le_of_ble_eq_true rfl) hlocks (Nat.le_of_ble_eq_true rfl) (Nat.le_of_ble_eq_true rfl) ⟨rfl, (by omega), rfl⟩
          · skip
            refine lv_iload_n hx hb d_po_tile_38 rfl (lv_at hl 2 rfl) ?_
            refine lv_iload hx hb d_po_tile_39 (lv_at hl 4 rfl) ?_
            refine mi_icmp_lt (tgt := 54) hx hb d_po_tile_41 (by decide) r1 r3 (fun c_41 => ?_) (fun c_41 => ?_)
            · skip
              refine lv_aload_n hx hb d_po_tile_54 rfl (lv_at hl 0 rfl) ?_
              refine lv_iload_n hx hb d_po_tile_55 rfl (lv_at hl 1 rfl) ?_
              refine mo_puti hx hb ht in_po ty_po tyok_po nm_po hown hK hw hS h0 rfl 0 (by decide) rfl (ht _ t_130) (fun _ h => h) rfl (tyok_po 0 (by decide)) rfl rfl d_po_tile_56 (fun H locs f1 hf1 hw hS => ?_)
              have h0 := eq_s hf1
              have hF := Fr.up hF hf1 (by simp)
              refine lv_aload_n hx hb d_po_tile_59 rfl (lv_at hl 0 rfl) ?_
              refine lv_iload_n hx hb d_po_tile_60 rfl (lv_at hl 2 rfl) ?_
              refine mo_puti hx hb ht in_po ty_po tyok_po nm_po hown hK hw hS h0 rfl 1 (by decide) rfl (ht _ t_131) (fun _ h => h) rfl (tyok_po 1 (by decide)) rfl rfl d_po_tile_61 (fun H locs f2 hf2 hw hS => ?_)
              have h0 := eq_s hf2
              have hF := Fr.up hF hf2 (by simp)
              refine lv_aload_n hx hb d_po_tile_64 rfl (lv_at hl 0 rfl) ?_
              refine lv_iload_n hx hb d_po_tile_65 rfl (lv_at hl 3 rfl) ?_
              refine mo_puti hx hb ht in_po ty_po tyok_po nm_po hown hK hw hS h0 rfl 2 (by decide) rfl (ht _ t_132) (fun _ h => h) rfl (tyok_po 2 (by decide)) rfl rfl d_po_tile_66 (fun H locs f3 hf3 hw hS => ?_)
              have h0 := eq_s hf3
              have hF := Fr.up hF hf3 (by simp)
              refine lv_aload_n hx hb d_po_tile_69 rfl (lv_at hl 0 rfl) ?_
              refine lv_iload hx hb d_po_tile_70 (lv_at hl 4 rfl) ?_
              refine mo_puti hx hb ht in_po ty_po tyok_po nm_po hown hK hw hS h0 rfl 3 (by decide) rfl (ht _ t_133) (fun _ h => h) rfl (tyok_po 3 (by decide)) rfl rfl d_po_tile_72 (fun H locs f4 hf4 hw hS => ?_)
              have h0 := eq_s hf4
              have hF := Fr.up hF hf4 (by simp)
              refine lv_aload_n hx hb d_po_tile_75 rfl (lv_at hl 0 rfl) ?_
              refine mi_iconst hx hb d_po_tile_76 ?_
              refine mo_puti hx hb ht in_po ty_po tyok_po nm_po hown hK hw hS h0 rfl 4 (by decide) rfl (ht _ t_134) (fun _ h => h) rfl (tyok_po 4 (by decide)) rfl rfl d_po_tile_77 (fun H locs f5 hf5 hw hS => ?_)
              have h0 := eq_s hf5
              have hF := Fr.up hF hf5 (by simp)
              refine lv_aload_n hx hb d_po_tile_80 rfl (lv_at hl 0 rfl) ?_
              refine mi_iconst hx hb d_po_tile_81 ?_
              refine mo_puti hx hb ht in_po ty_po tyok_po nm_po hown hK hw hS h0 rfl 9 (by decide) rfl (ht _ t_139) (fun _ h => h) rfl (tyok_po 9 (by decide)) rfl rfl d_po_tile_82 (fun H locs f6 hf6 hw hS => ?_)
              have h0 := eq_s hf6
              have hF := Fr.up hF hf6 (by simp)
              rw [← hQ]; refine vx_ret ?_; exact mq_vret hx hb hr hlocks hK hlo hGO hG hw hS (Nat.zero_le _) (Nat.zero_le _) d_po_tile_85 ⟨(by omega), hF, h0⟩
            · skip
              rw [← hQ]; exact mx_throw (text := "the tile is empty") (names := ["java/lang/RuntimeException", "java/lang/Exception"]) hx hb hl9 hown (by decide +kernel) at_nm ht t_186 t_11 (by decide) at1_IAE at2_IAE at3_IAE hG hw hS (hl.1.trans hml.symm) d_po_tile_44 d_po_tile_47 d_po_tile_48 d_po_tile_50 d_po_tile_53 hex (Nat.le_of_ble_eq_true rfl) (Nat.le_of_ble_eq_true rfl) (Nat.le_of_ble_eq_true rfl) (Nat.le_of_ble_eq_true rfl) hlocks (Nat.le_of_ble_eq_true rfl) (Nat.le_of_ble_eq_true rfl) ⟨rfl, (by omega), rfl⟩
        · skip
          rw [← hQ]; exact mx_throw (text := "the tile is not within 0 .. 32767") (names := ["java/lang/RuntimeException", "java/lang/Exception"]) hx hb hl9 hown (by decide +kernel) at_nm ht t_186 t_11 (by decide) at1_IAE at2_IAE at3_IAE hG hw hS (hl.1.trans hml.symm) d_po_tile_23 d_po_tile_26 d_po_tile_27 d_po_tile_29 d_po_tile_32 hex (Nat.le_of_ble_eq_true rfl) (Nat.le_of_ble_eq_true rfl) (Nat.le_of_ble_eq_true rfl) (Nat.le_of_ble_eq_true rfl) hlocks (Nat.le_of_ble_eq_true rfl) (Nat.le_of_ble_eq_true rfl) ⟨rfl, (by omega), rfl⟩
set_option maxHeartbeats 4000000 in
set_option maxRecDepth 100000 in
/-- begin without a tile -/
theorem c_po_begin0 (l : Launch) (hl9 : l.stackTraces = false) (D : va_G) (X : ClassId × ClassId × ClassId × ClassId) (lo t0 : Nat) (f : hM) (a : Nat) (b : Nat → Option Nat) (v : Nat → Int) (h0 : f a = some (eO 0 (oF sh_po b v))) (h4 : v 4 = 0) : vx_Met l y_po_begin (Cond.code y_po_begin b_po_begin 3 (some FieldType.int) :: TB) ({ frames := 6, cells := 1, slots := 6, locals := 90 } : Room) (va_Pc [.ref a] (Bq D CL (TYS X) lo (Gv lo t0) f)) (va_Qi (fun _ _ => False) (Bq D CL (TYS X) lo (Gv lo t0)) (fun q => lo ≤ q)) (XCm D CL lo (fun E f1 => E = ISE ∧ f1 = f)) 1 6 (fun q => lo ≤ q) := by
  refine mtx (by decide) (Nat.le_of_ble_eq_true rfl) ?_
  intro p e s m args below meth cd ls hx hb hr hml hown ht hlocks hnm hK hlo hG hw hS hl hex
  have hl : lv_has ls 3 [(0, .ref a)] := hl
  have hGO := Gv.ok lo t0
  have hNB := hG.1
  generalize hQ : vx_MQ below _ _ args s _ _ _ = Q
  have hF : Fr [a] f f := Fr.rf
  refine lv_aload_n hx hb d_po_begin_0 rfl (lv_at hl 0 rfl) ?_
  refine mo_geti hx hb ht in_po hown hK hw h0 rfl 4 (by decide) rfl (ht _ t_134) (fun _ h => h) d_po_begin_1 ?_
  refine mi_if_eq (tgt := 17) hx hb d_po_begin_4 (by decide) (by omega) (fun c_4 => ?_) (fun c_4 => ?_)
  · skip
    rw [← hQ]; exact mx_throw (text := "there is no tile, or no component") (names := ["java/lang/RuntimeException", "java/lang/Exception"]) hx hb hl9 hown (by decide +kernel) at_nm ht t_273 t_12 (by decide) at1_ISE at2_ISE at3_ISE hG hw hS (hl.1.trans hml.symm) d_po_begin_17 d_po_begin_20 d_po_begin_21 d_po_begin_23 d_po_begin_26 hex (Nat.le_of_ble_eq_true rfl) (Nat.le_of_ble_eq_true rfl) (Nat.le_of_ble_eq_true rfl) (Nat.le_of_ble_eq_true rfl) hlocks (Nat.le_of_ble_eq_true rfl) (Nat.le_of_ble_eq_true rfl) ⟨rfl, rfl⟩
  · exact absurd c_4 (by omega)
set_option maxHeartbeats 4000000 in
set_option maxRecDepth 100000 in
theorem c_po_next0 (l : Launch) (hl9 : l.stackTraces = false) (D : va_G) (X : ClassId × ClassId × ClassId × ClassId) (lo t0 : Nat) (f : hM) (a : Nat) (b : Nat → Option Nat) (v : Nat → Int) (h0 : f a = some (eO 0 (oF sh_po b v))) (h9 : v 9 = 0) : vx_Met l y_po_next (Cond.code y_po_next b_po_next 1 (some FieldType.boolean) :: TB) ({ frames := 6, cells := 1, slots := 6, locals := 90 } : Room) (va_Pc [.ref a] (Bq D CL (TYS X) lo (Gv lo t0) f)) (va_Qi (fun _ _ => False) (Bq D CL (TYS X) lo (Gv lo t0)) (fun q => lo ≤ q)) (XCm D CL lo (fun E f1 => E = ISE ∧ f1 = f)) 1 6 (fun q => lo ≤ q) := by
  refine mtx (by decide) (Nat.le_of_ble_eq_true rfl) ?_
  intro p e s m args below meth cd ls hx hb hr hml hown ht hlocks hnm hK hlo hG hw hS hl hex
  have hl : lv_has ls 1 [(0, .ref a)] := hl
  have hGO := Gv.ok lo t0
  have hNB := hG.1
  generalize hQ : vx_MQ below _ _ args s _ _ _ = Q
  have hF : Fr [a] f f := Fr.rf
  refine lv_aload_n hx hb d_po_next_0 rfl (lv_at hl 0 rfl) ?_
  refine mo_geti hx hb ht in_po hown hK hw h0 rfl 9 (by decide) rfl (ht _ t_139) (fun _ h => h) d_po_next_1 ?_
  refine mi_if_ne (tgt := 17) hx hb d_po_next_4 (by decide) (by omega) (fun c_4 => ?_) (fun c_4 => ?_)
  · exact absurd c_4 (by omega)
  · skip
    rw [← hQ]; exact mx_throw (text := "there is no sequence") (names := ["java/lang/RuntimeException", "java/lang/Exception"]) hx hb hl9 hown (by decide +kernel) at_nm ht t_273 t_12 (by decide) at1_ISE at2_ISE at3_ISE hG hw hS (hl.1.trans hml.symm) d_po_next_7 d_po_next_10 d_po_next_11 d_po_next_13 d_po_next_16 hex (Nat.le_of_ble_eq_true rfl) (Nat.le_of_ble_eq_true rfl) (Nat.le_of_ble_eq_true rfl) (Nat.le_of_ble_eq_true rfl) hlocks (Nat.le_of_ble_eq_true rfl) (Nat.le_of_ble_eq_true rfl) ⟨rfl, rfl⟩
set_option maxHeartbeats 4000000 in
set_option maxRecDepth 100000 in
theorem c_po_skip0 (l : Launch) (hl9 : l.stackTraces = false) (D : va_G) (X : ClassId × ClassId × ClassId × ClassId) (lo t0 : Nat) (f : hM) (a : Nat) (b : Nat → Option Nat) (v : Nat → Int) (h0 : f a = some (eO 0 (oF sh_po b v))) (h9 : v 9 = 0) (n : Int) (rn : iR n) : vx_Met l y_po_skip (Cond.code y_po_skip b_po_skip 2 (some FieldType.int) :: TB) ({ frames := 6, cells := 1, slots := 6, locals := 90 } : Room) (va_Pc [.ref a, .int (iI (n))] (Bq D CL (TYS X) lo (Gv lo t0) f)) (va_Qi (fun _ _ => False) (Bq D CL (TYS X) lo (Gv lo t0)) (fun q => lo ≤ q)) (XCm D CL lo (fun E f1 => (E = IAE ∧ n < 0 ∧ f1 = f) ∨ (E = ISE ∧ ¬ n < 0 ∧ f1 = f))) 1 6 (fun q => lo ≤ q) := by
  refine mtx (by decide) (Nat.le_of_ble_eq_true rfl) ?_
  intro p e s m args below meth cd ls hx hb hr hml hown ht hlocks hnm hK hlo hG hw hS hl hex
  have hl : lv_has ls 2 [(0, .ref a), (1, .int (iI (n)))] := hl
  have hGO := Gv.ok lo t0
  have hNB := hG.1
  generalize hQ : vx_MQ below _ _ args s _ _ _ = Q
  have hF : Fr [a] f f := Fr.rf
  refine lv_iload_n hx hb d_po_skip_0 rfl (lv_at hl 1 rfl) ?_
  refine mi_if_ge (tgt := 14) hx hb d_po_skip_1 (by decide) rn (fun c_1 => ?_) (fun c_1 => ?_)
  · skip
    refine lv_aload_n hx hb d_po_skip_14 rfl (lv_at hl 0 rfl) ?_
    refine mo_geti hx hb ht in_po hown hK hw h0 rfl 9 (by decide) rfl (ht _ t_139) (fun _ h => h) d_po_skip_15 ?_
    refine mi_if_ne (tgt := 31) hx hb d_po_skip_18 (by decide) (by omega) (fun c_18 => ?_) (fun c_18 => ?_)
    · exact absurd c_18 (by omega)
    · skip
      rw [← hQ]; exact mx_throw (text := "there is no sequence") (names := ["java/lang/RuntimeException", "java/lang/Exception"]) hx hb hl9 hown (by decide +kernel) at_nm ht t_273 t_12 (by decide) at1_ISE at2_ISE at3_ISE hG hw hS (hl.1.trans hml.symm) d_po_skip_21 d_po_skip_24 d_po_skip_25 d_po_skip_27 d_po_skip_30 hex (Nat.le_of_ble_eq_true rfl) (Nat.le_of_ble_eq_true rfl) (Nat.le_of_ble_eq_true rfl) (Nat.le_of_ble_eq_true rfl) hlocks (Nat.le_of_ble_eq_true rfl) (Nat.le_of_ble_eq_true rfl) (Or.inr ⟨rfl, by omega, rfl⟩)
  · skip
    rw [← hQ]; exact mx_throw (text := "the number of packets is below 0") (names := ["java/lang/RuntimeException", "java/lang/Exception"]) hx hb hl9 hown (by decide +kernel) at_nm ht t_186 t_11 (by decide) at1_IAE at2_IAE at3_IAE hG hw hS (hl.1.trans hml.symm) d_po_skip_4 d_po_skip_7 d_po_skip_8 d_po_skip_10 d_po_skip_13 hex (Nat.le_of_ble_eq_true rfl) (Nat.le_of_ble_eq_true rfl) (Nat.le_of_ble_eq_true rfl) (Nat.le_of_ble_eq_true rfl) hlocks (Nat.le_of_ble_eq_true rfl) (Nat.le_of_ble_eq_true rfl) (Or.inl ⟨rfl, by omega, rfl⟩)
set_option maxHeartbeats 4000000 in
set_option maxRecDepth 100000 in
theorem c_po_packet0 (l : Launch) (hl9 : l.stackTraces = false) (D : va_G) (X : ClassId × ClassId × ClassId × ClassId) (lo t0 : Nat) (f : hM) (a : Nat) (b : Nat → Option Nat) (v : Nat → Int) (h0 : f a = some (eO 0 (oF sh_po b v))) (h9 : v 9 = 0) (n : Int) (rn : iR n) : vx_Met l y_po_packet (Cond.code y_po_packet b_po_packet 3 (some FieldType.int) :: TB) ({ frames := 6, cells := 1, slots := 6, locals := 90 } : Room) (va_Pc [.ref a, .int (iI (n))] (Bq D CL (TYS X) lo (Gv lo t0) f)) (va_Qi (fun _ _ => False) (Bq D CL (TYS X) lo (Gv lo t0)) (fun q => lo ≤ q)) (XCm D CL lo (fun E f1 => E = NSE ∧ f1 = f)) 1 6 (fun q => lo ≤ q) := by
  refine mtx (by decide) (Nat.le_of_ble_eq_true rfl) ?_
  intro p e s m args below meth cd ls hx hb hr hml hown ht hlocks hnm hK hlo hG hw hS hl hex
  have hl : lv_has ls 3 [(0, .ref a), (1, .int (iI (n)))] := hl
  have hGO := Gv.ok lo t0
  have hNB := hG.1
  generalize hQ : vx_MQ below _ _ args s _ _ _ = Q
  have hF : Fr [a] f f := Fr.rf
  refine lv_aload_n hx hb d_po_packet_0 rfl (lv_at hl 0 rfl) ?_
  refine mo_geti hx hb ht in_po hown hK hw h0 rfl 9 (by decide) rfl (ht _ t_139) (fun _ h => h) d_po_packet_1 ?_
  refine mi_if_eq (tgt := 21) hx hb d_po_packet_4 (by decide) (by omega) (fun c_4 => ?_) (fun c_4 => ?_)
  · skip
    refine lv_null hx hb d_po_packet_21 ?_
    refine lv_astore_nN (lv' := [(2, .null), (0, .ref a), (1, .int (iI (n)))]) hx hb d_po_packet_22 rfl hl (by decide) rfl (fun ls hl => ?_)
    refine lv_aload_nN hx hb d_po_packet_23 rfl (lv_at hl 0 rfl) ?_
    refine lv_ifnonnullN hx hb d_po_packet_24 ?_
    rw [← hQ]; exact mx_throwN (text := "there is no sequence, or no packet came") hx hb hl9 hown ht t_442 t_22 (by decide) hG hw hS (hl.1.trans hml.symm) d_po_packet_27 d_po_packet_30 d_po_packet_31 d_po_packet_33 d_po_packet_36 hex (Nat.le_of_ble_eq_true rfl) (Nat.le_of_ble_eq_true rfl) (Nat.le_of_ble_eq_true rfl) (Nat.le_of_ble_eq_true rfl) hlocks (Nat.le_of_ble_eq_true rfl) (Nat.le_of_ble_eq_true rfl) ⟨rfl, rfl⟩
  · exact absurd c_4 (by omega)
set_option maxHeartbeats 4000000 in
set_option maxRecDepth 100000 in
theorem c_po_came0 (l : Launch) (hl9 : l.stackTraces = false) (D : va_G) (X : ClassId × ClassId × ClassId × ClassId) (lo t0 : Nat) (f : hM) (a : Nat) (b : Nat → Option Nat) (v : Nat → Int) (h0 : f a = some (eO 0 (oF sh_po b v))) (h9 : v 9 = 0) (n k j : Int) (rn : iR n) (rk : iR k) (rj : iR j) : vx_Met l y_po_came (Cond.code y_po_came b_po_came 5 (some FieldType.int) :: TB) ({ frames := 6, cells := 1, slots := 6, locals := 90 } : Room) (va_Pc [.ref a, .int (iI (n)), .int (iI (k)), .int (iI (j))] (Bq D CL (TYS X) lo (Gv lo t0) f)) (va_Qi (fun _ _ => False) (Bq D CL (TYS X) lo (Gv lo t0)) (fun q => lo ≤ q)) (XCm D CL lo (fun E f1 => E = NSE ∧ f1 = f)) 1 6 (fun q => lo ≤ q) := by
  refine mtx (by decide) (Nat.le_of_ble_eq_true rfl) ?_
  intro p e s m args below meth cd ls hx hb hr hml hown ht hlocks hnm hK hlo hG hw hS hl hex
  have hl : lv_has ls 5 [(0, .ref a), (1, .int (iI (n))), (2, .int (iI (k))), (3, .int (iI (j)))] := hl
  have hGO := Gv.ok lo t0
  have hNB := hG.1
  generalize hQ : vx_MQ below _ _ args s _ _ _ = Q
  have hF : Fr [a] f f := Fr.rf
  refine lv_aload_n hx hb d_po_came_0 rfl (lv_at hl 0 rfl) ?_
  refine mo_geti hx hb ht in_po hown hK hw h0 rfl 9 (by decide) rfl (ht _ t_139) (fun _ h => h) d_po_came_1 ?_
  refine mi_if_eq (tgt := 16) hx hb d_po_came_4 (by decide) (by omega) (fun c_4 => ?_) (fun c_4 => ?_)
  · skip
    refine lv_null hx hb d_po_came_16 ?_
    refine lv_astoreN (lv' := [(4, .null), (0, .ref a), (1, .int (iI (n))), (2, .int (iI (k))), (3, .int (iI (j)))]) hx hb d_po_came_17 hl (by decide) rfl (fun ls hl => ?_)
    refine lv_aloadN hx hb d_po_came_19 (lv_at hl 0 rfl) ?_
    refine lv_ifnullN (tgt := 37) hx hb d_po_came_21 (by decide) ?_
    rw [← hQ]; exact mx_throwN (text := "there is no sequence, or no such precinct") hx hb hl9 hown ht t_442 t_22 (by decide) hG hw hS (hl.1.trans hml.symm) d_po_came_37 d_po_came_40 d_po_came_41 d_po_came_43 d_po_came_46 hex (Nat.le_of_ble_eq_true rfl) (Nat.le_of_ble_eq_true rfl) (Nat.le_of_ble_eq_true rfl) (Nat.le_of_ble_eq_true rfl) hlocks (Nat.le_of_ble_eq_true rfl) (Nat.le_of_ble_eq_true rfl) ⟨rfl, rfl⟩
  · exact absurd c_4 (by omega)
set_option maxHeartbeats 4000000 in
set_option maxRecDepth 100000 in
theorem c_po_isWithin (l : Launch) (D : va_G) (X : ClassId × ClassId × ClassId × ClassId) (lo t0 : Nat) (f : hM) (x y z : Int) (rx : iR x) (ry : iR y) (rz : iR z) : Met l y_po_isWithin (Cond.code y_po_isWithin b_po_isWithin 3 (some FieldType.boolean) :: TB) ({ frames := 0, cells := 0, slots := 0, locals := 0 } : Room) (va_Pc [.int (iI (x)), .int (iI (y)), .int (iI (z))] (Bq D CL (TYS X) lo (Gv lo t0) f)) (va_Qi (fun r f1 => r = iI (if y ≤ x ∧ x ≤ z then 1 else 0) ∧ Fr [] f f1) (Bq D CL (TYS X) lo (Gv lo t0)) (fun q => lo ≤ q)) 0 0 (fun q => lo ≤ q) := by
  refine mt (by decide) (Nat.le_of_ble_eq_true rfl) ?_
  intro p e s m args below meth cd ls hx hb hr hml hown ht hlocks hnm hK hlo hG hw hS hl
  have hl : lv_has ls 3 [(0, .int (iI (x))), (1, .int (iI (y))), (2, .int (iI (z)))] := hl
  have hGO := Gv.ok lo t0
  have hNB := hG.1
  generalize hQ : MQ below _ args s _ _ _ = Q
  have hF : Fr [] f f := Fr.rf
  refine lv_iload_n hx hb d_po_isWithin_0 rfl (lv_at hl 0 rfl) ?_
  refine lv_iload_n hx hb d_po_isWithin_1 rfl (lv_at hl 1 rfl) ?_
  refine mi_icmp_lt (tgt := 14) hx hb d_po_isWithin_2 (by decide) rx ry (fun c_2 => ?_) (fun c_2 => ?_)
  · skip
    refine mi_iconst hx hb d_po_isWithin_14 ?_
    rw [← hQ]; exact mq_zret (z := 0) hx hb hr hlocks hK hlo hGO hG hw hS (Nat.zero_le _) (Nat.zero_le _) (Or.inl rfl) d_po_isWithin_15 ⟨congrArg iI (by split <;> omega), hF⟩
  · skip
    refine lv_iload_n hx hb d_po_isWithin_5 rfl (lv_at hl 0 rfl) ?_
    refine lv_iload_n hx hb d_po_isWithin_6 rfl (lv_at hl 2 rfl) ?_
    refine mi_icmp_gt (tgt := 14) hx hb d_po_isWithin_7 (by decide) rx rz (fun c_7 => ?_) (fun c_7 => ?_)
    · skip
      refine mi_iconst hx hb d_po_isWithin_14 ?_
      rw [← hQ]; exact mq_zret (z := 0) hx hb hr hlocks hK hlo hGO hG hw hS (Nat.zero_le _) (Nat.zero_le _) (Or.inl rfl) d_po_isWithin_15 ⟨congrArg iI (by split <;> omega), hF⟩
    · skip
      refine mi_iconst hx hb d_po_isWithin_10 ?_
      refine lv_goto (tgt := 15) hx hb d_po_isWithin_11 (by decide) ?_
      rw [← hQ]; exact mq_zret (z := 1) hx hb hr hlocks hK hlo hGO hG hw hS (Nat.zero_le _) (Nat.zero_le _) (Or.inr rfl) d_po_isWithin_15 ⟨congrArg iI (by split <;> omega), hF⟩
end
section
/-! ArrayList: names and decode rows -/
abbrev y_abc_init : MethodName := ⟨"java/util/AbstractCollection", "<init>", "()V"⟩
abbrev b_abc_init : ByteArray := prog_21_method_1_code
theorem d_abc_init_0 : decode b_abc_init 0 = .ok (.aload_n 0, 1) := by decide +kernel
theorem d_abc_init_1 : decode b_abc_init 1 = .ok (.invokespecial 1, 3) := by decide +kernel
theorem d_abc_init_4 : decode b_abc_init 4 = .ok (.return_, 1) := by decide +kernel
abbrev y_abl_init : MethodName := ⟨"java/util/AbstractList", "<init>", "()V"⟩
abbrev b_abl_init : ByteArray := prog_22_method_1_code
theorem d_abl_init_0 : decode b_abl_init 0 = .ok (.aload_n 0, 1) := by decide +kernel
theorem d_abl_init_1 : decode b_abl_init 1 = .ok (.invokespecial 1, 3) := by decide +kernel
theorem d_abl_init_4 : decode b_abl_init 4 = .ok (.aload_n 0, 1) := by decide +kernel
theorem d_abl_init_5 : decode b_abl_init 5 = .ok (.iconst 0, 1) := by decide +kernel
theorem d_abl_init_6 : decode b_abl_init 6 = .ok (.putfield 7, 3) := by decide +kernel
theorem d_abl_init_9 : decode b_abl_init 9 = .ok (.return_, 1) := by decide +kernel
abbrev y_al_init : MethodName := ⟨"java/util/ArrayList", "<init>", "()V"⟩
abbrev b_al_init : ByteArray := prog_23_method_2_code
theorem d_al_init_0 : decode b_al_init 0 = .ok (.aload_n 0, 1) := by decide +kernel
theorem d_al_init_1 : decode b_al_init 1 = .ok (.invokespecial 1, 3) := by decide +kernel
theorem d_al_init_4 : decode b_al_init 4 = .ok (.aload_n 0, 1) := by decide +kernel
theorem d_al_init_5 : decode b_al_init 5 = .ok (.getstatic 39, 3) := by decide +kernel
theorem d_al_init_8 : decode b_al_init 8 = .ok (.putfield 9, 3) := by decide +kernel
theorem d_al_init_11 : decode b_al_init 11 = .ok (.return_, 1) := by decide +kernel
abbrev y_al_add : MethodName := ⟨"java/util/ArrayList", "add", "(Ljava/lang/Object;)Z"⟩
abbrev b_al_add : ByteArray := prog_23_method_25_code
theorem d_al_add_0 : decode b_al_add 0 = .ok (.aload_n 0, 1) := by decide +kernel
theorem d_al_add_1 : decode b_al_add 1 = .ok (.dup, 1) := by decide +kernel
theorem d_al_add_2 : decode b_al_add 2 = .ok (.getfield 63, 3) := by decide +kernel
theorem d_al_add_5 : decode b_al_add 5 = .ok (.iconst 1, 1) := by decide +kernel
theorem d_al_add_6 : decode b_al_add 6 = .ok (.iadd, 1) := by decide +kernel
theorem d_al_add_7 : decode b_al_add 7 = .ok (.putfield 63, 3) := by decide +kernel
theorem d_al_add_10 : decode b_al_add 10 = .ok (.aload_n 0, 1) := by decide +kernel
theorem d_al_add_11 : decode b_al_add 11 = .ok (.aload_n 1, 1) := by decide +kernel
theorem d_al_add_12 : decode b_al_add 12 = .ok (.aload_n 0, 1) := by decide +kernel
theorem d_al_add_13 : decode b_al_add 13 = .ok (.getfield 9, 3) := by decide +kernel
theorem d_al_add_16 : decode b_al_add 16 = .ok (.aload_n 0, 1) := by decide +kernel
theorem d_al_add_17 : decode b_al_add 17 = .ok (.getfield 48, 3) := by decide +kernel
theorem d_al_add_20 : decode b_al_add 20 = .ok (.invokevirtual 131, 3) := by decide +kernel
theorem d_al_add_23 : decode b_al_add 23 = .ok (.iconst 1, 1) := by decide +kernel
theorem d_al_add_24 : decode b_al_add 24 = .ok (.ireturn, 1) := by decide +kernel
abbrev y_al_add_2 : MethodName := ⟨"java/util/ArrayList", "add", "(Ljava/lang/Object;[Ljava/lang/Object;I)V"⟩
abbrev b_al_add_2 : ByteArray := prog_23_method_24_code
theorem d_al_add_2_0 : decode b_al_add_2 0 = .ok (.iload_n 3, 1) := by decide +kernel
theorem d_al_add_2_1 : decode b_al_add_2 1 = .ok (.aload_n 2, 1) := by decide +kernel
theorem d_al_add_2_2 : decode b_al_add_2 2 = .ok (.arraylength, 1) := by decide +kernel
theorem d_al_add_2_3 : decode b_al_add_2 3 = .ok (.if_icmp .ne 8, 3) := by decide +kernel
theorem d_al_add_2_6 : decode b_al_add_2 6 = .ok (.aload_n 0, 1) := by decide +kernel
theorem d_al_add_2_7 : decode b_al_add_2 7 = .ok (.invokevirtual 129, 3) := by decide +kernel
theorem d_al_add_2_10 : decode b_al_add_2 10 = .ok (.astore_n 2, 1) := by decide +kernel
theorem d_al_add_2_11 : decode b_al_add_2 11 = .ok (.aload_n 2, 1) := by decide +kernel
theorem d_al_add_2_12 : decode b_al_add_2 12 = .ok (.iload_n 3, 1) := by decide +kernel
theorem d_al_add_2_13 : decode b_al_add_2 13 = .ok (.aload_n 1, 1) := by decide +kernel
theorem d_al_add_2_14 : decode b_al_add_2 14 = .ok (.aastore, 1) := by decide +kernel
theorem d_al_add_2_15 : decode b_al_add_2 15 = .ok (.aload_n 0, 1) := by decide +kernel
theorem d_al_add_2_16 : decode b_al_add_2 16 = .ok (.iload_n 3, 1) := by decide +kernel
theorem d_al_add_2_17 : decode b_al_add_2 17 = .ok (.iconst 1, 1) := by decide +kernel
theorem d_al_add_2_18 : decode b_al_add_2 18 = .ok (.iadd, 1) := by decide +kernel
theorem d_al_add_2_19 : decode b_al_add_2 19 = .ok (.putfield 48, 3) := by decide +kernel
theorem d_al_add_2_22 : decode b_al_add_2 22 = .ok (.return_, 1) := by decide +kernel
abbrev y_al_grow : MethodName := ⟨"java/util/ArrayList", "grow", "()[Ljava/lang/Object;"⟩
abbrev b_al_grow : ByteArray := prog_23_method_7_code
theorem d_al_grow_0 : decode b_al_grow 0 = .ok (.aload_n 0, 1) := by decide +kernel
theorem d_al_grow_1 : decode b_al_grow 1 = .ok (.aload_n 0, 1) := by decide +kernel
theorem d_al_grow_2 : decode b_al_grow 2 = .ok (.getfield 48, 3) := by decide +kernel
theorem d_al_grow_5 : decode b_al_grow 5 = .ok (.iconst 1, 1) := by decide +kernel
theorem d_al_grow_6 : decode b_al_grow 6 = .ok (.iadd, 1) := by decide +kernel
theorem d_al_grow_7 : decode b_al_grow 7 = .ok (.invokevirtual 69, 3) := by decide +kernel
theorem d_al_grow_10 : decode b_al_grow 10 = .ok (.areturn, 1) := by decide +kernel
abbrev y_al_grow_2 : MethodName := ⟨"java/util/ArrayList", "grow", "(I)[Ljava/lang/Object;"⟩
abbrev b_al_grow_2 : ByteArray := prog_23_method_6_code
theorem d_al_grow_2_0 : decode b_al_grow_2 0 = .ok (.aload_n 0, 1) := by decide +kernel
theorem d_al_grow_2_1 : decode b_al_grow_2 1 = .ok (.getfield 9, 3) := by decide +kernel
theorem d_al_grow_2_4 : decode b_al_grow_2 4 = .ok (.arraylength, 1) := by decide +kernel
theorem d_al_grow_2_5 : decode b_al_grow_2 5 = .ok (.istore_n 2, 1) := by decide +kernel
theorem d_al_grow_2_6 : decode b_al_grow_2 6 = .ok (.iload_n 2, 1) := by decide +kernel
theorem d_al_grow_2_7 : decode b_al_grow_2 7 = .ok (.ifCond .gt 13, 3) := by decide +kernel
theorem d_al_grow_2_10 : decode b_al_grow_2 10 = .ok (.aload_n 0, 1) := by decide +kernel
theorem d_al_grow_2_11 : decode b_al_grow_2 11 = .ok (.getfield 9, 3) := by decide +kernel
theorem d_al_grow_2_14 : decode b_al_grow_2 14 = .ok (.getstatic 39, 3) := by decide +kernel
theorem d_al_grow_2_17 : decode b_al_grow_2 17 = .ok (.if_acmp .eq 28, 3) := by decide +kernel
theorem d_al_grow_2_20 : decode b_al_grow_2 20 = .ok (.iload_n 2, 1) := by decide +kernel
theorem d_al_grow_2_21 : decode b_al_grow_2 21 = .ok (.iload_n 1, 1) := by decide +kernel
theorem d_al_grow_2_22 : decode b_al_grow_2 22 = .ok (.iload_n 2, 1) := by decide +kernel
theorem d_al_grow_2_23 : decode b_al_grow_2 23 = .ok (.isub, 1) := by decide +kernel
theorem d_al_grow_2_24 : decode b_al_grow_2 24 = .ok (.iload_n 2, 1) := by decide +kernel
theorem d_al_grow_2_25 : decode b_al_grow_2 25 = .ok (.iconst 1, 1) := by decide +kernel
theorem d_al_grow_2_26 : decode b_al_grow_2 26 = .ok (.ishr, 1) := by decide +kernel
theorem d_al_grow_2_27 : decode b_al_grow_2 27 = .ok (.invokestatic 73, 3) := by decide +kernel
theorem d_al_grow_2_30 : decode b_al_grow_2 30 = .ok (.istore_n 3, 1) := by decide +kernel
theorem d_al_grow_2_31 : decode b_al_grow_2 31 = .ok (.aload_n 0, 1) := by decide +kernel
theorem d_al_grow_2_32 : decode b_al_grow_2 32 = .ok (.aload_n 0, 1) := by decide +kernel
theorem d_al_grow_2_33 : decode b_al_grow_2 33 = .ok (.getfield 9, 3) := by decide +kernel
theorem d_al_grow_2_36 : decode b_al_grow_2 36 = .ok (.iload_n 3, 1) := by decide +kernel
theorem d_al_grow_2_37 : decode b_al_grow_2 37 = .ok (.invokestatic 66, 3) := by decide +kernel
theorem d_al_grow_2_40 : decode b_al_grow_2 40 = .ok (.dup_x1, 1) := by decide +kernel
theorem d_al_grow_2_41 : decode b_al_grow_2 41 = .ok (.putfield 9, 3) := by decide +kernel
theorem d_al_grow_2_44 : decode b_al_grow_2 44 = .ok (.areturn, 1) := by decide +kernel
theorem d_al_grow_2_45 : decode b_al_grow_2 45 = .ok (.aload_n 0, 1) := by decide +kernel
theorem d_al_grow_2_46 : decode b_al_grow_2 46 = .ok (.bipush 10, 2) := by decide +kernel
theorem d_al_grow_2_48 : decode b_al_grow_2 48 = .ok (.iload_n 1, 1) := by decide +kernel
theorem d_al_grow_2_49 : decode b_al_grow_2 49 = .ok (.invokestatic 79, 3) := by decide +kernel
theorem d_al_grow_2_52 : decode b_al_grow_2 52 = .ok (.anewarray 7, 3) := by decide +kernel
theorem d_al_grow_2_55 : decode b_al_grow_2 55 = .ok (.dup_x1, 1) := by decide +kernel
theorem d_al_grow_2_56 : decode b_al_grow_2 56 = .ok (.putfield 9, 3) := by decide +kernel
theorem d_al_grow_2_59 : decode b_al_grow_2 59 = .ok (.areturn, 1) := by decide +kernel
abbrev y_al_size : MethodName := ⟨"java/util/ArrayList", "size", "()I"⟩
abbrev b_al_size : ByteArray := prog_23_method_8_code
theorem d_al_size_0 : decode b_al_size 0 = .ok (.aload_n 0, 1) := by decide +kernel
theorem d_al_size_1 : decode b_al_size 1 = .ok (.getfield 48, 3) := by decide +kernel
theorem d_al_size_4 : decode b_al_size 4 = .ok (.ireturn, 1) := by decide +kernel
abbrev y_al_isEmpty : MethodName := ⟨"java/util/ArrayList", "isEmpty", "()Z"⟩
abbrev b_al_isEmpty : ByteArray := prog_23_method_9_code
theorem d_al_isEmpty_0 : decode b_al_isEmpty 0 = .ok (.aload_n 0, 1) := by decide +kernel
theorem d_al_isEmpty_1 : decode b_al_isEmpty 1 = .ok (.getfield 48, 3) := by decide +kernel
theorem d_al_isEmpty_4 : decode b_al_isEmpty 4 = .ok (.ifCond .ne 7, 3) := by decide +kernel
theorem d_al_isEmpty_7 : decode b_al_isEmpty 7 = .ok (.iconst 1, 1) := by decide +kernel
theorem d_al_isEmpty_8 : decode b_al_isEmpty 8 = .ok (.goto 4, 3) := by decide +kernel
theorem d_al_isEmpty_11 : decode b_al_isEmpty 11 = .ok (.iconst 0, 1) := by decide +kernel
theorem d_al_isEmpty_12 : decode b_al_isEmpty 12 = .ok (.ireturn, 1) := by decide +kernel
abbrev y_al_clear : MethodName := ⟨"java/util/ArrayList", "clear", "()V"⟩
abbrev b_al_clear : ByteArray := prog_23_method_40_code
theorem d_al_clear_0 : decode b_al_clear 0 = .ok (.aload_n 0, 1) := by decide +kernel
theorem d_al_clear_1 : decode b_al_clear 1 = .ok (.dup, 1) := by decide +kernel
theorem d_al_clear_2 : decode b_al_clear 2 = .ok (.getfield 63, 3) := by decide +kernel
theorem d_al_clear_5 : decode b_al_clear 5 = .ok (.iconst 1, 1) := by decide +kernel
theorem d_al_clear_6 : decode b_al_clear 6 = .ok (.iadd, 1) := by decide +kernel
theorem d_al_clear_7 : decode b_al_clear 7 = .ok (.putfield 63, 3) := by decide +kernel
theorem d_al_clear_10 : decode b_al_clear 10 = .ok (.aload_n 0, 1) := by decide +kernel
theorem d_al_clear_11 : decode b_al_clear 11 = .ok (.getfield 9, 3) := by decide +kernel
theorem d_al_clear_14 : decode b_al_clear 14 = .ok (.astore_n 1, 1) := by decide +kernel
theorem d_al_clear_15 : decode b_al_clear 15 = .ok (.aload_n 0, 1) := by decide +kernel
theorem d_al_clear_16 : decode b_al_clear 16 = .ok (.getfield 48, 3) := by decide +kernel
theorem d_al_clear_19 : decode b_al_clear 19 = .ok (.istore_n 2, 1) := by decide +kernel
theorem d_al_clear_20 : decode b_al_clear 20 = .ok (.aload_n 0, 1) := by decide +kernel
theorem d_al_clear_21 : decode b_al_clear 21 = .ok (.iconst 0, 1) := by decide +kernel
theorem d_al_clear_22 : decode b_al_clear 22 = .ok (.dup_x1, 1) := by decide +kernel
theorem d_al_clear_23 : decode b_al_clear 23 = .ok (.putfield 48, 3) := by decide +kernel
theorem d_al_clear_26 : decode b_al_clear 26 = .ok (.istore_n 3, 1) := by decide +kernel
theorem d_al_clear_27 : decode b_al_clear 27 = .ok (.iload_n 3, 1) := by decide +kernel
theorem d_al_clear_28 : decode b_al_clear 28 = .ok (.iload_n 2, 1) := by decide +kernel
theorem d_al_clear_29 : decode b_al_clear 29 = .ok (.if_icmp .ge 13, 3) := by decide +kernel
theorem d_al_clear_32 : decode b_al_clear 32 = .ok (.aload_n 1, 1) := by decide +kernel
theorem d_al_clear_33 : decode b_al_clear 33 = .ok (.iload_n 3, 1) := by decide +kernel
theorem d_al_clear_34 : decode b_al_clear 34 = .ok (.aconst_null, 1) := by decide +kernel
theorem d_al_clear_35 : decode b_al_clear 35 = .ok (.aastore, 1) := by decide +kernel
theorem d_al_clear_36 : decode b_al_clear 36 = .ok (.iinc 3 1, 3) := by decide +kernel
theorem d_al_clear_39 : decode b_al_clear 39 = .ok (.goto (-12), 3) := by decide +kernel
theorem d_al_clear_42 : decode b_al_clear 42 = .ok (.return_, 1) := by decide +kernel
end
section
/-! ArrayList: contracts -/
set_option maxHeartbeats 4000000 in
set_option maxRecDepth 100000 in
theorem c_abc_init (l : Launch) (D : va_G) (X : ClassId × ClassId × ClassId × ClassId) (lo t0 : Nat) (f : hM) (a : Nat) (b : Nat → Option Nat) (v : Nat → Int) (h0 : f a = some (eO 7 (oF sh_al b v))) : Met l y_abc_init (Cond.code y_abc_init b_abc_init 1 (none) :: TB) ({ frames := 1, cells := 0, slots := 0, locals := 12 } : Room) (va_Pc [.ref a] (Bq D CL (TYS X) lo (Gv lo t0) f)) (va_Qv (fun f1 => Fr [a] f f1 ∧ f1 a = some (eO 7 (oF sh_al b v))) (Bq D CL (TYS X) lo (Gv lo t0)) (fun q => lo ≤ q)) 0 0 (fun q => lo ≤ q) := by
  refine mt (by decide) (Nat.le_of_ble_eq_true rfl) ?_
  intro p e s m args below meth cd ls hx hb hr hml hown ht hlocks hnm hK hlo hG hw hS hl
  have hl : lv_has ls 1 [(0, .ref a)] := hl
  have hGO := Gv.ok lo t0
  have hNB := hG.1
  generalize hQ : MQ below _ args s _ _ _ = Q
  have hF : Fr [a] f f := Fr.rf
  refine lv_aload_n hx hb d_abc_init_0 rfl (lv_at hl 0 rfl) ?_
  refine W.objInit hx hb hown (ht _ t_43) (ht _ t_30) (ht _ t_31) rfl (by rw [hml]; exact hl.1) rfl d_abc_init_1 (Nat.le_of_ble_eq_true rfl) (Nat.le_of_ble_eq_true rfl) ?_
  refine W.eq (g2 := F0 m 4 ls []) rfl ?_
  rw [← hQ]; exact mq_vret hx hb hr hlocks hK hlo hGO hG hw hS (Nat.le_of_ble_eq_true rfl) (Nat.le_of_ble_eq_true rfl) d_abc_init_4 ⟨hF, h0⟩
set_option maxHeartbeats 4000000 in
set_option maxRecDepth 100000 in
theorem c_abl_init (l : Launch) (D : va_G) (X : ClassId × ClassId × ClassId × ClassId) (lo t0 : Nat) (f : hM) (a : Nat) (b : Nat → Option Nat) (v : Nat → Int) (h0 : f a = some (eO 7 (oF sh_al b v))) : Met l y_abl_init (Cond.code y_abl_init b_abl_init 1 (none) :: TB) ({ frames := 2, cells := 0, slots := 0, locals := 32 } : Room) (va_Pc [.ref a] (Bq D CL (TYS X) lo (Gv lo t0) f)) (va_Qv (fun f1 => Fr [a] f f1 ∧ f1 a = some (eO 7 (oF sh_al b (va_up v 0 0)))) (Bq D CL (TYS X) lo (Gv lo t0)) (fun q => lo ≤ q)) 0 0 (fun q => lo ≤ q) := by
  refine mt (by decide) (Nat.le_of_ble_eq_true rfl) ?_
  intro p e s m args below meth cd ls hx hb hr hml hown ht hlocks hnm hK hlo hG hw hS hl
  have hl : lv_has ls 1 [(0, .ref a)] := hl
  have hGO := Gv.ok lo t0
  have hNB := hG.1
  generalize hQ : MQ below _ args s _ _ _ = Q
  have hF : Fr [a] f f := Fr.rf
  refine lv_aload_n hx hb d_abl_init_0 rfl (lv_at hl 0 rfl) ?_
  refine mq_callv (va_runI (As := []) (rest := []) ⟨hx, hb, hml, hown, ht⟩ (c_abc_init l D X lo t0 f a b v h0) (cwI 0 ht (good_M (fun _ h => h) t_42) rfl rfl rfl (ht _ t_2) (ht _ t_40) (ht _ t_41) rfl (by decide +kernel) ⟨Nat.le_of_ble_eq_true rfl, Nat.le_of_ble_eq_true rfl⟩) (mq_preS hK hlo hGO hG hw hS) rfl rfl hl.1 rfl (lv_room (Nat.le_of_ble_eq_true rfl)) d_abl_init_1 ⟨Nat.le_of_ble_eq_true rfl, Nat.le_of_ble_eq_true rfl⟩) hS (fun f1 H locs hp hw hS => ?_)
  obtain ⟨hF1, h0⟩ := hp
  have hF := Fr.tr hF hF1 (by simp)
  refine lv_aload_n hx hb d_abl_init_4 rfl (lv_at hl 0 rfl) ?_
  refine mi_iconst hx hb d_abl_init_5 ?_
  refine mo_puti hx hb ht in_al ty_al tyok_al nm_al hown hK hw hS h0 rfl 0 (by decide) rfl (ht _ t_48) (fun _ h => h) rfl (tyok_al 0 (by decide)) rfl rfl d_abl_init_6 (fun H locs f2 hf2 hw hS => ?_)
  have h0 := eq_s hf2
  have hF := Fr.up hF hf2 (by simp)
  rw [← hQ]; exact mq_vret hx hb hr hlocks hK hlo hGO hG hw hS (Nat.le_of_ble_eq_true rfl) (Nat.le_of_ble_eq_true rfl) d_abl_init_9 ⟨hF, h0⟩
set_option maxHeartbeats 4000000 in
set_option maxRecDepth 100000 in
theorem c_al_init (l : Launch) (D : va_G) (X : ClassId × ClassId × ClassId × ClassId) (lo t0 : Nat) (f : hM) (a : Nat) (b : Nat → Option Nat) (v : Nat → Int) (h0 : f a = some (eO 7 (oF sh_al b v))) : Met l y_al_init (Cond.code y_al_init b_al_init 1 (none) :: TB) ({ frames := 3, cells := 0, slots := 0, locals := 52 } : Room) (va_Pc [.ref a] (Bq D CL (TYS X) lo (Gv lo t0) f)) (va_Qv (fun f1 => Fr [a] f f1 ∧ f1 a = some (eO 7 (oF sh_al (va_up b 1 (some t0)) (va_up v 0 0)))) (Bq D CL (TYS X) lo (Gv lo t0)) (fun q => lo ≤ q)) 0 0 (fun q => lo ≤ q) := by
  refine mt (by decide) (Nat.le_of_ble_eq_true rfl) ?_
  intro p e s m args below meth cd ls hx hb hr hml hown ht hlocks hnm hK hlo hG hw hS hl
  have hl : lv_has ls 1 [(0, .ref a)] := hl
  have hGO := Gv.ok lo t0
  have hNB := hG.1
  generalize hQ : MQ below _ args s _ _ _ = Q
  have hF : Fr [a] f f := Fr.rf
  refine lv_aload_n hx hb d_al_init_0 rfl (lv_at hl 0 rfl) ?_
  refine mq_callv (va_runI (As := []) (rest := []) ⟨hx, hb, hml, hown, ht⟩ (c_abl_init l D X lo t0 f a b v h0) (cwI 0 ht (good_M (fun _ h => h) t_39) rfl rfl rfl (ht _ t_3) (ht _ t_37) (ht _ t_38) rfl (by decide +kernel) ⟨Nat.le_of_ble_eq_true rfl, Nat.le_of_ble_eq_true rfl⟩) (mq_preS hK hlo hGO hG hw hS) rfl rfl hl.1 rfl (lv_room (Nat.le_of_ble_eq_true rfl)) d_al_init_1 ⟨Nat.le_of_ble_eq_true rfl, Nat.le_of_ble_eq_true rfl⟩) hS (fun f1 H locs hp hw hS => ?_)
  obtain ⟨hF1, h0⟩ := hp
  have hF := Fr.tr hF hF1 (by simp)
  refine lv_aload_n hx hb d_al_init_4 rfl (lv_at hl 0 rfl) ?_
  refine va_gets hx hb hG.2.2.2.2.2.1 hS hown (ht _ t_44) (fun _ h => h) d_al_init_5 ?_
  refine mo_putr hx hb ht in_al ty_al tyok_al nm_al hown hK hw hS h0 rfl 1 (by decide) rfl (ht _ t_46) (fun _ h => h) rfl (tyok_al 1 (by decide)) rfl rfl d_al_init_8 (fun H locs f2 hf2 hw hS => ?_)
  have h0 := eq_s hf2
  have hF := Fr.up hF hf2 (by simp)
  rw [← hQ]; exact mq_vret hx hb hr hlocks hK hlo hGO hG hw hS (Nat.le_of_ble_eq_true rfl) (Nat.le_of_ble_eq_true rfl) d_al_init_11 ⟨hF, h0⟩
set_option maxHeartbeats 4000000 in
set_option maxRecDepth 100000 in
theorem c_al_size (l : Launch) (D : va_G) (X : ClassId × ClassId × ClassId × ClassId) (lo t0 : Nat) (f : hM) (a : Nat) (b : Nat → Option Nat) (v : Nat → Int) (h0 : f a = some (eO 7 (oF sh_al b v))) : Met l y_al_size (Cond.code y_al_size b_al_size 1 (some FieldType.int) :: TB) ({ frames := 0, cells := 0, slots := 0, locals := 0 } : Room) (va_Pc [.ref a] (Bq D CL (TYS X) lo (Gv lo t0) f)) (va_Qi (fun r f1 => r = iI (v 2) ∧ Fr [] f f1) (Bq D CL (TYS X) lo (Gv lo t0)) (fun q => lo ≤ q)) 0 0 (fun q => lo ≤ q) := by
  refine mt (by decide) (Nat.le_of_ble_eq_true rfl) ?_
  intro p e s m args below meth cd ls hx hb hr hml hown ht hlocks hnm hK hlo hG hw hS hl
  have hl : lv_has ls 1 [(0, .ref a)] := hl
  have hGO := Gv.ok lo t0
  have hNB := hG.1
  generalize hQ : MQ below _ args s _ _ _ = Q
  have hF : Fr [] f f := Fr.rf
  refine lv_aload_n hx hb d_al_size_0 rfl (lv_at hl 0 rfl) ?_
  refine mo_geti hx hb ht in_al hown hK hw h0 rfl 2 (by decide) rfl (ht _ t_47) (fun _ h => h) d_al_size_1 ?_
  rw [← hQ]; exact mq_iret hx hb hr hlocks hK hlo hGO hG hw hS (Nat.le_of_ble_eq_true rfl) (Nat.le_of_ble_eq_true rfl) d_al_size_4 ⟨rfl, hF⟩
end
section
/-! arrays of references -/
section MRF
variable {p : Program} {l : Launch} {e : Env} {R : Room} {s : State} {m : MethodId} {args : Array Value} {below : List Frame} {meth : Method} {c : Code} {H : Heap} {locs : List Loc} {cells slots : Nat} {Q : State → Prop}
variable {cc : ByteArray} {pc : Nat} {ls : Array Slot} {rest : List Value} {D : va_G} {cl : List vw_C} {lo a : Nat} {tys : List (ClassId × FieldType)} {f : hM} {H0 : Heap}
theorem mo_aastO (hx : p.tables.exec = Jvm.exec) (hb : c.code = cc) (hK : va_K D cl tys s) (hw : hW D cl lo f H) (hS : va_S (fun q => lo ≤ q) H0 H locs) (t0 ci : Nat) {r : vw_C} {E : String} (hca : va_Nw (.castable r.1 E) s) {cA : ClassId} {n v : Nat} {vs : List Value} {g : Nat → Option Nat} (he : f a = some (eA cA n g)) (ht : tys[t0]? = some (cA, .object E)) (hv : f v = some (eO ci vs)) (hc : cl[ci]? = some r) {z : Int} (k : Nat) (hz : z = (k : Int)) (hk : k < n) (hn : n < 2147483648) (hdg : decode cc pc = .ok (.aastore, 1)) (kk : ∀ (H1 : Heap) (locs1 : List Loc) (f1 : hM), f1 = va_up f a (some (eA cA n (va_up g k (some v)))) → hW D cl lo f1 H1 → va_S (fun q => lo ≤ q) H0 H1 locs1 → W p l e R s m args below meth c H1 locs1 cells slots Q (F0 m (pc + 1) ls rest)) : W p l e R s m args below meth c H locs cells slots Q (F0 m pc ls (.ref v :: .int (iI z) :: .ref a :: rest)) := by
  subst hz
  obtain ⟨ws, hP, hD, hi⟩ := hw.list
  obtain ⟨q0, h0⟩ := (hi _ _).mp he
  obtain ⟨qk, h1⟩ := (hi _ _).mp hv
  refine va_astqO hx hb hK hP hD hS q0 t0 qk ci h0 ht hca h1 hc (iI_in hk hn) hdg (fun H1 locs1 hP1 hD1 hS1 => kk H1 locs1 _ rfl (hw.set hD hi h0 ?_) hS1)
  rw [iI_clamp (by omega)] at hP1
  exact hP1
theorem mo_aastq (hx : p.tables.exec = Jvm.exec) (hb : c.code = cc) (hK : va_K D cl tys s) (hw : hW D cl lo f H) (hS : va_S (fun q => lo ≤ q) H0 H locs) (t0 ci : Nat) {r : vw_C}  {cA : ClassId} {n v : Nat} {vs : List Value} {g : Nat → Option Nat} (he : f a = some (eA cA n g)) (ht : tys[t0]? = some (cA, .object r.1)) (hv : f v = some (eO ci vs)) (hc : cl[ci]? = some r) {z : Int} (k : Nat) (hz : z = (k : Int)) (hk : k < n) (hn : n < 2147483648) (hdg : decode cc pc = .ok (.aastore, 1)) (kk : ∀ (H1 : Heap) (locs1 : List Loc) (f1 : hM), f1 = va_up f a (some (eA cA n (va_up g k (some v)))) → hW D cl lo f1 H1 → va_S (fun q => lo ≤ q) H0 H1 locs1 → W p l e R s m args below meth c H1 locs1 cells slots Q (F0 m (pc + 1) ls rest)) : W p l e R s m args below meth c H locs cells slots Q (F0 m pc ls (.ref v :: .int (iI z) :: .ref a :: rest)) := by
  subst hz
  obtain ⟨ws, hP, hD, hi⟩ := hw.list
  obtain ⟨q0, h0⟩ := (hi _ _).mp he
  obtain ⟨qk, h1⟩ := (hi _ _).mp hv
  refine va_astq hx hb hK hP hD hS q0 t0 qk ci h0 ht h1 hc (iI_in hk hn) hdg (fun H1 locs1 hP1 hD1 hS1 => kk H1 locs1 _ rfl (hw.set hD hi h0 ?_) hS1)
  rw [iI_clamp (by omega)] at hP1
  exact hP1
theorem mo_newq (hx : p.tables.exec = Jvm.exec) (hb : c.code = cc) {own C : String} {index : Nat} (hown : s.vm.findClass own = some m.cls) (hclink : (Cond.classLink own index C).before args s = true) (hover : va_AO C s) (hK : va_K D cl tys s) (hw : hW D cl lo f H) (hS : va_S (fun q => lo ≤ q) H0 H locs) (hlo : lo ≤ H0.size) (t0 : Nat) {cA : ClassId} (htt : tys[t0]? = some (cA, .object C)) {z : Int} (n : Nat) (hz : z = (n : Int)) (hn : n < 60000000) (hcells : cells + 1 ≤ R.cells) (hslots : slots + n ≤ R.slots) (hdg : decode cc pc = .ok (.anewarray index, 3)) (kk : ∀ (q : Nat) (H1 : Heap) (f1 : hM), f q = none → f1 = va_up f q (some (eA cA n (fun _ => none))) → hW D cl lo f1 H1 → va_S (fun q => lo ≤ q) H0 H1 locs → W p l e R s m args below meth c H1 locs (cells + 1) (slots + n) Q (F0 m (pc + 3) ls (.ref q :: rest))) : W p l e R s m args below meth c H locs cells slots Q (F0 m pc ls (.int (iI z) :: rest)) := by
  subst hz
  obtain ⟨ws, hP, hD, hi⟩ := hw.list
  have g1 : ¬ iI (n : Int) < 0 := iI_neg (by omega)
  have g2 : (iI (n : Int)).toNatClampNeg = n := iI_clamp (by omega)
  refine va_newq (N' := n) hx hb hown hclink hover hK hP hD hS (fun q h => Nat.le_trans hlo h) g1 g2 (by omega) hcells hslots hdg (fun q cA9 H1 hK1 hP1 hD1 hS1 => ?_)
  have e9 : cA9 = cA := by
    obtain ⟨_, _, _, _, _, h1⟩ := (hK.2 t0 (cA, .object C) htt).2
    obtain ⟨_, _, _, _, _, h2⟩ := (hK1.2 tys.length (cA9, .object C) (by rw [List.getElem?_append_right (Nat.le_refl _), Nat.sub_self]; rfl)).2
    exact Option.some.inj (h2.symm.trans h1)
  subst e9
  have hq : f q = none ∧ hW D cl lo (va_up f q (some (eA cA9 n (fun _ => none)))) H1 := hw.push hi hP1 hD1
  exact kk q H1 _ hq.1 rfl hq.2 hS1
end MRF
end
section
/-! ArrayList: the first add, clear of an empty list -/
set_option maxHeartbeats 4000000 in
set_option maxRecDepth 100000 in
theorem c_al_grow2_first (l : Launch) (D : va_G) (X : ClassId × ClassId × ClassId × ClassId) (lo t0 : Nat) (f : hM) (a : Nat) (b : Nat → Option Nat) (v : Nat → Int) (h0 : f a = some (eO 7 (oF sh_al b v))) (hb1 : b 1 = some t0) : Met l y_al_grow_2 (Cond.code y_al_grow_2 b_al_grow_2 4 (some (FieldType.array (FieldType.object "java/lang/Object"))) :: TB) ({ frames := 1, cells := 1, slots := 10, locals := 20 } : Room) (va_Pc [.ref a, .int (iI (1))] (Bq D CL (TYS X) lo (Gv lo t0) f)) (va_Qq (fun r f1 => ∃ q, r = some q ∧ f q = none ∧ Fn [a] f f1 ∧ f1 a = some (eO 7 (oF sh_al (va_up b 1 (some q)) v)) ∧ f1 q = some (eA X.2.2.2 10 (fun _ => none))) (Bq D CL (TYS X) lo (Gv lo t0)) (fun q => lo ≤ q)) 1 10 (fun q => lo ≤ q) := by
  refine mt (by decide) (Nat.le_of_ble_eq_true rfl) ?_
  intro p e s m args below meth cd ls hx hb hr hml hown ht hlocks hnm hK hlo hG hw hS hl
  have hl : lv_has ls 4 [(0, .ref a), (1, .int (iI (1)))] := hl
  have hGO := Gv.ok lo t0
  have hNB := hG.1
  generalize hQ : MQ below _ args s _ _ _ = Q
  have hF : Fn [a] f f := Fn.rf
  refine lv_aload_n hx hb d_al_grow_2_0 rfl (lv_at hl 0 rfl) ?_
  refine mo_getr hx hb ht in_al hown hK hw h0 rfl 1 (by decide) rfl hb1 (ht _ t_46) (fun _ h => h) d_al_grow_2_1 ?_
  refine va_tlen (v := iI 0) hx hb hG.2.2.2.2.2.2 hS rfl d_al_grow_2_4 ?_
  refine lv_istore_n (lv' := [(2, .int (iI (0))), (0, .ref a), (1, .int (iI (1)))]) hx hb d_al_grow_2_5 rfl hl (by decide) rfl (fun ls hl => ?_)
  refine lv_iload_n hx hb d_al_grow_2_6 rfl (lv_at hl 0 rfl) ?_
  refine mi_if_gt (tgt := 20) hx hb d_al_grow_2_7 (by decide) (by decide) (fun c_7 => ?_) (fun c_7 => ?_)
  · exact absurd c_7 (by decide)
  · skip
    refine lv_aload_n hx hb d_al_grow_2_10 rfl (lv_at hl 1 rfl) ?_
    refine mo_getr hx hb ht in_al hown hK hw h0 rfl 1 (by decide) rfl hb1 (ht _ t_46) (fun _ h => h) d_al_grow_2_11 ?_
    refine va_gets hx hb hG.2.2.2.2.2.1 hS hown (ht _ t_44) (fun _ h => h) d_al_grow_2_14 ?_
    refine lv_acmp_eq (rx := some t0) (ry := some t0) (tgt := 45) hx hb d_al_grow_2_17 (by decide) (fun _ => ?_) (fun c9 => absurd rfl c9)
    refine lv_aload_n hx hb d_al_grow_2_45 rfl (lv_at hl 1 rfl) ?_
    refine mi_bipush hx hb d_al_grow_2_46 (by decide) ?_
    refine lv_iload_n hx hb d_al_grow_2_48 rfl (lv_at hl 2 rfl) ?_
    refine mi_mmax hx hb (hml.trans hl.1.symm) hown (ht _ t_414) (ht _ t_305) (ht _ t_16) (ht _ t_306) (Nat.le_of_ble_eq_true rfl) (Nat.le_of_ble_eq_true rfl) (Nat.le_of_ble_eq_true rfl) (Nat.le_of_ble_eq_true rfl) (by decide) (by decide) d_al_grow_2_49 ?_
    refine mo_newq hx hb hown (ht _ t_415) (hNB _ n_406) hK hw hS hlo 3 rfl (10) (by decide) (Nat.le_of_ble_eq_true rfl) (Nat.le_of_ble_eq_true rfl) (Nat.le_of_ble_eq_true rfl) d_al_grow_2_52 (fun q52 H f1 hq52 hf1 hw hS => ?_)
    have nq52 : q52 ≠ a := (ne_new h0 hq52).symm
    have h0 := eq_q hf1 h0 hq52
    have hn52 := eq_s hf1
    have ok_q52 := Fn.new hF hq52
    have hF := Fn.up hF hf1 ok_q52
    skip
    refine lv_dup_x1 hx hb d_al_grow_2_55 rfl rfl ?_
    refine mo_putr hx hb ht in_al ty_al tyok_al nm_al hown hK hw hS h0 rfl 1 (by decide) rfl (ht _ t_46) (fun _ h => h) rfl (tyok_al 1 (by decide)) rfl rfl d_al_grow_2_56 (fun H locs f2 hf2 hw hS => ?_)
    have h0 := eq_s hf2
    have hn52 := eq_n hf2 hn52 nq52
    have hF := Fn.up hF hf2 (aOK.of (by simp))
    rw [← hQ]; exact mq_aret (r := some q52) hx hb hr (Or.inr ⟨_, rfl⟩) hlocks hK hlo hGO hG hw hS (Nat.le_of_ble_eq_true rfl) (Nat.le_of_ble_eq_true rfl) d_al_grow_2_59 ⟨q52, rfl, hq52, hF, h0, hn52⟩
set_option maxHeartbeats 4000000 in
set_option maxRecDepth 100000 in
theorem c_al_grow_first (l : Launch) (D : va_G) (X : ClassId × ClassId × ClassId × ClassId) (lo t0 : Nat) (f : hM) (a : Nat) (b : Nat → Option Nat) (v : Nat → Int) (h0 : f a = some (eO 7 (oF sh_al b v))) (hb1 : b 1 = some t0) (hsz : v 2 = 0) : Met l y_al_grow (Cond.code y_al_grow b_al_grow 1 (some (FieldType.array (FieldType.object "java/lang/Object"))) :: TB) ({ frames := 2, cells := 1, slots := 10, locals := 43 } : Room) (va_Pc [.ref a] (Bq D CL (TYS X) lo (Gv lo t0) f)) (va_Qq (fun r f1 => ∃ q, r = some q ∧ f q = none ∧ Fn [a] f f1 ∧ f1 a = some (eO 7 (oF sh_al (va_up b 1 (some q)) v)) ∧ f1 q = some (eA X.2.2.2 10 (fun _ => none))) (Bq D CL (TYS X) lo (Gv lo t0)) (fun q => lo ≤ q)) 1 10 (fun q => lo ≤ q) := by
  refine mt (by decide) (Nat.le_of_ble_eq_true rfl) ?_
  intro p e s m args below meth cd ls hx hb hr hml hown ht hlocks hnm hK hlo hG hw hS hl
  have hl : lv_has ls 1 [(0, .ref a)] := hl
  have hGO := Gv.ok lo t0
  have hNB := hG.1
  generalize hQ : MQ below _ args s _ _ _ = Q
  have hF : Fn [a] f f := Fn.rf
  refine lv_aload_n hx hb d_al_grow_0 rfl (lv_at hl 0 rfl) ?_
  refine lv_aload_n hx hb d_al_grow_1 rfl (lv_at hl 0 rfl) ?_
  refine mo_geti hx hb ht in_al hown hK hw h0 rfl 2 (by decide) rfl (ht _ t_47) (fun _ h => h) d_al_grow_2 ?_
  refine mi_iconst hx hb d_al_grow_5 ?_
  refine mi_iadd hx hb d_al_grow_6 ?_
  rw [show (v 2) + (1) = 1 from (by rw [hsz]; rfl)]
  refine mq_callq (va_runV (As := [.int (iI (1))]) (rest := []) ⟨hx, hb, hml, hown, ht⟩ (c_al_grow2_first l D X lo t0 f a b v h0 hb1) (cwV 1 ht (good_V (fun _ h => h) t_374 t_371 t_373 s_3 t_4) rfl rfl rfl (by decide +kernel) ⟨Nat.le_of_ble_eq_true rfl, Nat.le_of_ble_eq_true rfl⟩) (mq_preV hK hlo hGO hG hw hS (hW.recv hK hw (ci := 7) rfl h0)) rfl rfl hl.1 rfl (lv_room (Nat.le_of_ble_eq_true rfl)) d_al_grow_7 ⟨Nat.le_of_ble_eq_true rfl, Nat.le_of_ble_eq_true rfl⟩) hS (fun r1 f1 H locs hp hw hS => ?_)
  obtain ⟨q1, rfl, hq1, hF1, h0, hn1⟩ := hp
  have hF := Fn.tr hF hF1 (fun q hq => aOK.of hq)
  rw [← hQ]; exact mq_aret (r := some q1) hx hb hr (Or.inr ⟨_, rfl⟩) hlocks hK hlo hGO hG hw hS (Nat.le_of_ble_eq_true rfl) (Nat.le_of_ble_eq_true rfl) d_al_grow_10 ⟨q1, rfl, hq1, hF, h0, hn1⟩
set_option maxHeartbeats 4000000 in
set_option maxRecDepth 100000 in
theorem c_al_add2_first (l : Launch) (D : va_G) (X : ClassId × ClassId × ClassId × ClassId) (lo t0 : Nat) (f : hM) (a : Nat) (b : Nat → Option Nat) (v : Nat → Int) (h0 : f a = some (eO 7 (oF sh_al b v))) (hb1 : b 1 = some t0) (hsz : v 2 = 0) (el ci : Nat) (vs : List Value) (hel : f el = some (eO ci vs)) (r9 : vw_C) (hr9 : CL[ci]? = some r9) (hca : Cond.castable r9.1 "java/lang/Object" ∈ NB) (hne : el ≠ a) : Met l y_al_add_2 (Cond.code y_al_add_2 b_al_add_2 4 (none) :: TB) ({ frames := 3, cells := 1, slots := 10, locals := 63 } : Room) (va_Pc [.ref a, .ref el, .ref t0, .int (iI (0))] (Bq D CL (TYS X) lo (Gv lo t0) f)) (va_Qv (fun f1 => ∃ q, f q = none ∧ Fn [a] f f1 ∧ f1 a = some (eO 7 (oF sh_al (va_up b 1 (some q)) (va_up v 2 ((0) + (1))))) ∧ f1 q = some (eA X.2.2.2 10 (va_up (fun _ => none) 0 (some el)))) (Bq D CL (TYS X) lo (Gv lo t0)) (fun q => lo ≤ q)) 1 10 (fun q => lo ≤ q) := by
  refine mt (by decide) (Nat.le_of_ble_eq_true rfl) ?_
  intro p e s m args below meth cd ls hx hb hr hml hown ht hlocks hnm hK hlo hG hw hS hl
  have hl : lv_has ls 4 [(0, .ref a), (1, .ref el), (2, .ref t0), (3, .int (iI (0)))] := hl
  have hGO := Gv.ok lo t0
  have hNB := hG.1
  generalize hQ : MQ below _ args s _ _ _ = Q
  have hF : Fn [a] f f := Fn.rf
  refine lv_iload_n hx hb d_al_add_2_0 rfl (lv_at hl 3 rfl) ?_
  refine lv_aload_n hx hb d_al_add_2_1 rfl (lv_at hl 2 rfl) ?_
  refine va_tlen (v := iI 0) hx hb hG.2.2.2.2.2.2 hS rfl d_al_add_2_2 ?_
  refine mi_icmp_ne (tgt := 11) hx hb d_al_add_2_3 (by decide) (by decide) (by decide) (fun c_3 => ?_) (fun c_3 => ?_)
  · exact absurd c_3 (by decide)
  · skip
    have h0old := h0
    refine lv_aload_n hx hb d_al_add_2_6 rfl (lv_at hl 0 rfl) ?_
    refine mq_callq (va_runV (As := []) (rest := []) ⟨hx, hb, hml, hown, ht⟩ (c_al_grow_first l D X lo t0 f a b v h0 hb1 hsz) (cwV 0 ht (good_V (fun _ h => h) t_370 t_367 t_369 s_2 t_4) rfl rfl rfl (by decide +kernel) ⟨Nat.le_of_ble_eq_true rfl, Nat.le_of_ble_eq_true rfl⟩) (mq_preV hK hlo hGO hG hw hS (hW.recv hK hw (ci := 7) rfl h0)) rfl rfl hl.1 rfl (lv_room (Nat.le_of_ble_eq_true rfl)) d_al_add_2_7 ⟨Nat.le_of_ble_eq_true rfl, Nat.le_of_ble_eq_true rfl⟩) hS (fun r1 f1 H locs hp hw hS => ?_)
    obtain ⟨q1, rfl, hq1, hF1, h0, hn1⟩ := hp
    have nqa : q1 ≠ a := fun z => by subst z; exact absurd hq1 (by rw [h0old]; simp)
    have nqe : q1 ≠ el := fun z => by subst z; exact absurd hq1 (by rw [hel]; simp)
    have hel := Fn.keep hF1 hel (by simpa using hne)
    have ok_q1 := Fn.new (S := [a]) hF hq1
    have hF := Fn.tr hF hF1 (fun q hq => aOK.of hq)
    refine lv_astore_n (lv' := [(2, .ref q1), (0, .ref a), (1, .ref el), (3, .int (iI (0)))]) hx hb d_al_add_2_10 rfl hl (by decide) rfl (fun ls hl => ?_)
    refine lv_aload_n hx hb d_al_add_2_11 rfl (lv_at hl 0 rfl) ?_
    refine lv_iload_n hx hb d_al_add_2_12 rfl (lv_at hl 3 rfl) ?_
    refine lv_aload_n hx hb d_al_add_2_13 rfl (lv_at hl 2 rfl) ?_
    refine mo_aastO hx hb hK hw hS 3 ci (hNB _ hca) hn1 rfl hel hr9 (0) rfl (by decide) (by decide) d_al_add_2_14 (fun H locs f2 hf2 hw hS => ?_)
    have h0 := eq_n hf2 h0 nqa.symm
    have hel := eq_n hf2 hel nqe.symm
    have hn1 := eq_s hf2
    have hF := Fn.up hF hf2 ok_q1
    refine lv_aload_n hx hb d_al_add_2_15 rfl (lv_at hl 1 rfl) ?_
    refine lv_iload_n hx hb d_al_add_2_16 rfl (lv_at hl 3 rfl) ?_
    refine mi_iconst hx hb d_al_add_2_17 ?_
    refine mi_iadd hx hb d_al_add_2_18 ?_
    refine mo_puti hx hb ht in_al ty_al tyok_al nm_al hown hK hw hS h0 rfl 2 (by decide) rfl (ht _ t_47) (fun _ h => h) rfl (tyok_al 2 (by decide)) rfl rfl d_al_add_2_19 (fun H locs f3 hf3 hw hS => ?_)
    have h0 := eq_s hf3
    have hel := eq_n hf3 hel hne
    have hn1 := eq_n hf3 hn1 nqa
    have hF := Fn.up hF hf3 (aOK.of (by simp))
    rw [← hQ]; exact mq_vret hx hb hr hlocks hK hlo hGO hG hw hS (Nat.le_of_ble_eq_true rfl) (Nat.le_of_ble_eq_true rfl) d_al_add_2_22 ⟨q1, hq1, hF, h0, hn1⟩
set_option maxHeartbeats 4000000 in
set_option maxRecDepth 100000 in
theorem c_al_add_first (l : Launch) (D : va_G) (X : ClassId × ClassId × ClassId × ClassId) (lo t0 : Nat) (f : hM) (a : Nat) (b : Nat → Option Nat) (v : Nat → Int) (h0 : f a = some (eO 7 (oF sh_al b v))) (hb1 : b 1 = some t0) (hsz : v 2 = 0) (el ci : Nat) (vs : List Value) (hel : f el = some (eO ci vs)) (r9 : vw_C) (hr9 : CL[ci]? = some r9) (hca : Cond.castable r9.1 "java/lang/Object" ∈ NB) (hne : el ≠ a) : Met l y_al_add (Cond.code y_al_add b_al_add 2 (some FieldType.boolean) :: TB) ({ frames := 4, cells := 1, slots := 10, locals := 90 } : Room) (va_Pc [.ref a, .ref el] (Bq D CL (TYS X) lo (Gv lo t0) f)) (va_Qi (fun r f1 => r = iI 1 ∧ ∃ q, f q = none ∧ Fn [a] f f1 ∧ f1 a = some (eO 7 (oF sh_al (va_up b 1 (some q)) (va_up (va_up v 0 (v 0 + 1)) 2 1))) ∧ f1 q = some (eA X.2.2.2 10 (va_up (fun _ => none) 0 (some el)))) (Bq D CL (TYS X) lo (Gv lo t0)) (fun q => lo ≤ q)) 1 10 (fun q => lo ≤ q) := by
  refine mt (by decide) (Nat.le_of_ble_eq_true rfl) ?_
  intro p e s m args below meth cd ls hx hb hr hml hown ht hlocks hnm hK hlo hG hw hS hl
  have hl : lv_has ls 2 [(0, .ref a), (1, .ref el)] := hl
  have hGO := Gv.ok lo t0
  have hNB := hG.1
  generalize hQ : MQ below _ args s _ _ _ = Q
  have hF : Fn [a] f f := Fn.rf
  refine lv_aload_n hx hb d_al_add_0 rfl (lv_at hl 0 rfl) ?_
  refine lv_dup hx hb d_al_add_1 rfl ?_
  refine mo_geti hx hb ht in_al hown hK hw h0 rfl 0 (by decide) rfl (ht _ t_49) (fun x9 h9 => u_same (ht _ t_50) x9 h9) d_al_add_2 ?_
  refine mi_iconst hx hb d_al_add_5 ?_
  refine mi_iadd hx hb d_al_add_6 ?_
  refine mo_puti hx hb ht in_al ty_al tyok_al nm_al hown hK hw hS h0 rfl 0 (by decide) rfl (ht _ t_49) (fun x9 h9 => u_same (ht _ t_50) x9 h9) rfl (tyok_al 0 (by decide)) rfl rfl d_al_add_7 (fun H locs f1 hf1 hw hS => ?_)
  have h0 := eq_s hf1
  have hel := eq_n hf1 hel hne
  have hF := Fn.up hF hf1 (aOK.of (by simp))
  refine lv_aload_n hx hb d_al_add_10 rfl (lv_at hl 0 rfl) ?_
  refine lv_aload_n hx hb d_al_add_11 rfl (lv_at hl 1 rfl) ?_
  refine lv_aload_n hx hb d_al_add_12 rfl (lv_at hl 0 rfl) ?_
  refine mo_getr hx hb ht in_al hown hK hw h0 rfl 1 (by decide) rfl hb1 (ht _ t_46) (fun _ h => h) d_al_add_13 ?_
  refine lv_aload_n hx hb d_al_add_16 rfl (lv_at hl 0 rfl) ?_
  refine mo_geti hx hb ht in_al hown hK hw h0 rfl 2 (by decide) rfl (ht _ t_47) (fun _ h => h) d_al_add_17 ?_
  rw [show (va_up v 0 ((v 0) + (1))) 2 = v 2 from rfl]
  rw [show v 2 = 0 from hsz]
  have h0old := h0
  refine mq_callv (va_runV (As := [.ref el, .ref t0, .int (iI (0))]) (rest := []) ⟨hx, hb, hml, hown, ht⟩ (c_al_add2_first l D X lo t0 f1 a b (va_up v 0 ((v 0) + (1))) h0 hb1 hsz el ci vs hel r9 hr9 hca hne) (cwV 3 ht (good_V (fun _ h => h) t_366 t_363 t_365 s_1 t_4) rfl rfl rfl (by decide +kernel) ⟨Nat.le_of_ble_eq_true rfl, Nat.le_of_ble_eq_true rfl⟩) (mq_preV hK hlo hGO hG hw hS (hW.recv hK hw (ci := 7) rfl h0)) rfl rfl hl.1 rfl (lv_room (Nat.le_of_ble_eq_true rfl)) d_al_add_20 ⟨Nat.le_of_ble_eq_true rfl, Nat.le_of_ble_eq_true rfl⟩) hS (fun f2 H locs hp hw hS => ?_)
  obtain ⟨q2, hq2, hF2, h0, hn2⟩ := hp
  have hq0 : f q2 = none := by
    cases h9 : f q2 with
    | none => rfl
    | some x =>
      exfalso
      by_cases z : q2 = a
      · subst z; rw [h0old] at hq2; cases hq2
      · have := hF q2 x (by simpa using z) h9; rw [hq2] at this; cases this
  have hF := Fn.tr hF hF2 (fun q hq => aOK.of hq)
  refine mi_iconst hx hb d_al_add_23 ?_
  rw [← hQ]; exact mq_zret (z := 1) hx hb hr hlocks hK hlo hGO hG hw hS (Nat.le_of_ble_eq_true rfl) (Nat.le_of_ble_eq_true rfl) (Or.inr rfl) d_al_add_24 ⟨rfl, q2, hq0, hF, h0, hn2⟩
set_option maxHeartbeats 4000000 in
set_option maxRecDepth 100000 in
theorem c_al_clear_empty (l : Launch) (D : va_G) (X : ClassId × ClassId × ClassId × ClassId) (lo t0 : Nat) (f : hM) (a : Nat) (b : Nat → Option Nat) (v : Nat → Int) (h0 : f a = some (eO 7 (oF sh_al b v))) (q1 : Nat) (hb1 : b 1 = some q1) (hsz : v 2 = 0) : Met l y_al_clear (Cond.code y_al_clear b_al_clear 4 (none) :: TB) ({ frames := 0, cells := 0, slots := 0, locals := 0 } : Room) (va_Pc [.ref a] (Bq D CL (TYS X) lo (Gv lo t0) f)) (va_Qv (fun f1 => Fr [a] f f1 ∧ f1 a = some (eO 7 (oF sh_al b (va_up (va_up v 0 (v 0 + 1)) 2 0)))) (Bq D CL (TYS X) lo (Gv lo t0)) (fun q => lo ≤ q)) 0 0 (fun q => lo ≤ q) := by
  refine mt (by decide) (Nat.le_of_ble_eq_true rfl) ?_
  intro p e s m args below meth cd ls hx hb hr hml hown ht hlocks hnm hK hlo hG hw hS hl
  have hl : lv_has ls 4 [(0, .ref a)] := hl
  have hGO := Gv.ok lo t0
  have hNB := hG.1
  generalize hQ : MQ below _ args s _ _ _ = Q
  have hF : Fr [a] f f := Fr.rf
  refine lv_aload_n hx hb d_al_clear_0 rfl (lv_at hl 0 rfl) ?_
  refine lv_dup hx hb d_al_clear_1 rfl ?_
  refine mo_geti hx hb ht in_al hown hK hw h0 rfl 0 (by decide) rfl (ht _ t_49) (fun x9 h9 => u_same (ht _ t_50) x9 h9) d_al_clear_2 ?_
  refine mi_iconst hx hb d_al_clear_5 ?_
  refine mi_iadd hx hb d_al_clear_6 ?_
  refine mo_puti hx hb ht in_al ty_al tyok_al nm_al hown hK hw hS h0 rfl 0 (by decide) rfl (ht _ t_49) (fun x9 h9 => u_same (ht _ t_50) x9 h9) rfl (tyok_al 0 (by decide)) rfl rfl d_al_clear_7 (fun H locs f1 hf1 hw hS => ?_)
  have h0 := eq_s hf1
  have hF := Fr.up hF hf1 (by simp)
  refine lv_aload_n hx hb d_al_clear_10 rfl (lv_at hl 0 rfl) ?_
  refine mo_getr hx hb ht in_al hown hK hw h0 rfl 1 (by decide) rfl hb1 (ht _ t_46) (fun _ h => h) d_al_clear_11 ?_
  refine lv_astore_n (lv' := [(1, .ref q1), (0, .ref a)]) hx hb d_al_clear_14 rfl hl (by decide) rfl (fun ls hl => ?_)
  refine lv_aload_n hx hb d_al_clear_15 rfl (lv_at hl 1 rfl) ?_
  refine mo_geti hx hb ht in_al hown hK hw h0 rfl 2 (by decide) rfl (ht _ t_47) (fun _ h => h) d_al_clear_16 ?_
  rw [show (va_up v 0 ((v 0) + (1))) 2 = v 2 from rfl]
  refine lv_istore_n (lv' := [(2, .int (iI (v 2))), (1, .ref q1), (0, .ref a)]) hx hb d_al_clear_19 rfl hl (by decide) rfl (fun ls hl => ?_)
  refine lv_aload_n hx hb d_al_clear_20 rfl (lv_at hl 2 rfl) ?_
  refine mi_iconst hx hb d_al_clear_21 ?_
  refine lv_dup_x1 hx hb d_al_clear_22 rfl rfl ?_
  refine mo_puti hx hb ht in_al ty_al tyok_al nm_al hown hK hw hS h0 rfl 2 (by decide) rfl (ht _ t_47) (fun _ h => h) rfl (tyok_al 2 (by decide)) rfl rfl d_al_clear_23 (fun H locs f2 hf2 hw hS => ?_)
  have h0 := eq_s hf2
  have hF := Fr.up hF hf2 (by simp)
  refine lv_istore_n (lv' := [(3, .int (iI (0))), (2, .int (iI (v 2))), (1, .ref q1), (0, .ref a)]) hx hb d_al_clear_26 rfl hl (by decide) rfl (fun ls hl => ?_)
  refine lv_iload_n hx hb d_al_clear_27 rfl (lv_at hl 0 rfl) ?_
  refine lv_iload_n hx hb d_al_clear_28 rfl (lv_at hl 1 rfl) ?_
  refine mi_icmp_ge (tgt := 42) hx hb d_al_clear_29 (by decide) (by decide) (by omega) (fun c_29 => ?_) (fun c_29 => ?_)
  · skip
    rw [← hQ]; exact mq_vret hx hb hr hlocks hK hlo hGO hG hw hS (Nat.le_of_ble_eq_true rfl) (Nat.le_of_ble_eq_true rfl) d_al_clear_42 ⟨hF, h0⟩
  · exact absurd c_29 (by omega)
end
section
/-! the class under proof: constructors, layers, clear, change, precincts on a fresh object -/
set_option maxHeartbeats 4000000 in
set_option maxRecDepth 100000 in
theorem c_ch_init (l : Launch) (D : va_G) (X : ClassId × ClassId × ClassId × ClassId) (lo t0 : Nat) (f : hM) (a : Nat) (b : Nat → Option Nat) (v : Nat → Int) (h0 : f a = some (eO 1 (oF sh_ch b v))) (p1 p2 p3 p4 p5 p6 : Int) : Met l y_ch_init (Cond.code y_ch_init b_ch_init 7 (none) :: TB) ({ frames := 1, cells := 0, slots := 0, locals := 12 } : Room) (va_Pc [.ref a, .int (iI (p1)), .int (iI (p2)), .int (iI (p3)), .int (iI (p4)), .int (iI (p5)), .int (iI (p6))] (Bq D CL (TYS X) lo (Gv lo t0) f)) (va_Qv (fun f1 => Fr [a] f f1 ∧ f1 a = some (eO 1 (oF sh_ch b (va_up (va_up (va_up (va_up (va_up (va_up v 0 (p1)) 1 (p2)) 2 (p3)) 3 (p4)) 4 (p5)) 5 (p6))))) (Bq D CL (TYS X) lo (Gv lo t0)) (fun q => lo ≤ q)) 0 0 (fun q => lo ≤ q) := by
  refine mt (by decide) (Nat.le_of_ble_eq_true rfl) ?_
  intro p e s m args below meth cd ls hx hb hr hml hown ht hlocks hnm hK hlo hG hw hS hl
  have hl : lv_has ls 7 [(0, .ref a), (1, .int (iI (p1))), (2, .int (iI (p2))), (3, .int (iI (p3))), (4, .int (iI (p4))), (5, .int (iI (p5))), (6, .int (iI (p6)))] := hl
  have hGO := Gv.ok lo t0
  have hNB := hG.1
  generalize hQ : MQ below _ args s _ _ _ = Q
  have hF : Fr [a] f f := Fr.rf
  refine lv_aload_n hx hb d_ch_init_0 rfl (lv_at hl 0 rfl) ?_
  refine W.objInit hx hb hown (ht _ t_104) (ht _ t_30) (ht _ t_31) rfl (by rw [hml]; exact hl.1) rfl d_ch_init_1 (Nat.le_of_ble_eq_true rfl) (Nat.le_of_ble_eq_true rfl) ?_
  refine W.eq (g2 := F0 m 4 ls []) rfl ?_
  refine lv_aload_n hx hb d_ch_init_4 rfl (lv_at hl 0 rfl) ?_
  refine lv_iload_n hx hb d_ch_init_5 rfl (lv_at hl 1 rfl) ?_
  refine mo_putiF hx hb ht in_ch ty_ch tyok_ch nm_ch hown hK hw hS h0 rfl 0 (by decide) rfl (ht _ t_105) (fun _ h => h) rfl hnm rfl (tyok_ch 0 (by decide)) rfl rfl d_ch_init_6 (fun H locs f1 hf1 hw hS => ?_)
  have h0 := eq_s hf1
  have hF := Fr.up hF hf1 (by simp)
  refine lv_aload_n hx hb d_ch_init_9 rfl (lv_at hl 0 rfl) ?_
  refine lv_iload_n hx hb d_ch_init_10 rfl (lv_at hl 2 rfl) ?_
  refine mo_putiF hx hb ht in_ch ty_ch tyok_ch nm_ch hown hK hw hS h0 rfl 1 (by decide) rfl (ht _ t_107) (fun _ h => h) rfl hnm rfl (tyok_ch 1 (by decide)) rfl rfl d_ch_init_11 (fun H locs f2 hf2 hw hS => ?_)
  have h0 := eq_s hf2
  have hF := Fr.up hF hf2 (by simp)
  refine lv_aload_n hx hb d_ch_init_14 rfl (lv_at hl 0 rfl) ?_
  refine lv_iload_n hx hb d_ch_init_15 rfl (lv_at hl 3 rfl) ?_
  refine mo_putiF hx hb ht in_ch ty_ch tyok_ch nm_ch hown hK hw hS h0 rfl 2 (by decide) rfl (ht _ t_109) (fun _ h => h) rfl hnm rfl (tyok_ch 2 (by decide)) rfl rfl d_ch_init_16 (fun H locs f3 hf3 hw hS => ?_)
  have h0 := eq_s hf3
  have hF := Fr.up hF hf3 (by simp)
  refine lv_aload_n hx hb d_ch_init_19 rfl (lv_at hl 0 rfl) ?_
  refine lv_iload hx hb d_ch_init_20 (lv_at hl 4 rfl) ?_
  refine mo_putiF hx hb ht in_ch ty_ch tyok_ch nm_ch hown hK hw hS h0 rfl 3 (by decide) rfl (ht _ t_111) (fun _ h => h) rfl hnm rfl (tyok_ch 3 (by decide)) rfl rfl d_ch_init_22 (fun H locs f4 hf4 hw hS => ?_)
  have h0 := eq_s hf4
  have hF := Fr.up hF hf4 (by simp)
  refine lv_aload_n hx hb d_ch_init_25 rfl (lv_at hl 0 rfl) ?_
  refine lv_iload hx hb d_ch_init_26 (lv_at hl 5 rfl) ?_
  refine mo_putiF hx hb ht in_ch ty_ch tyok_ch nm_ch hown hK hw hS h0 rfl 4 (by decide) rfl (ht _ t_113) (fun _ h => h) rfl hnm rfl (tyok_ch 4 (by decide)) rfl rfl d_ch_init_28 (fun H locs f5 hf5 hw hS => ?_)
  have h0 := eq_s hf5
  have hF := Fr.up hF hf5 (by simp)
  refine lv_aload_n hx hb d_ch_init_31 rfl (lv_at hl 0 rfl) ?_
  refine lv_iload hx hb d_ch_init_32 (lv_at hl 6 rfl) ?_
  refine mo_putiF hx hb ht in_ch ty_ch tyok_ch nm_ch hown hK hw hS h0 rfl 5 (by decide) rfl (ht _ t_115) (fun _ h => h) rfl hnm rfl (tyok_ch 5 (by decide)) rfl rfl d_ch_init_34 (fun H locs f6 hf6 hw hS => ?_)
  have h0 := eq_s hf6
  have hF := Fr.up hF hf6 (by simp)
  rw [← hQ]; exact mq_vret hx hb hr hlocks hK hlo hGO hG hw hS (Nat.le_of_ble_eq_true rfl) (Nat.le_of_ble_eq_true rfl) d_ch_init_37 ⟨hF, h0⟩
set_option maxHeartbeats 4000000 in
set_option maxRecDepth 100000 in
theorem c_sp_init (l : Launch) (D : va_G) (X : ClassId × ClassId × ClassId × ClassId) (lo t0 : Nat) (f : hM) (a : Nat) (b : Nat → Option Nat) (v : Nat → Int) (h0 : f a = some (eO 5 (oF sh_sp b v))) (x y : Int) (rx : iR x) : Met l y_sp_init (Cond.code y_sp_init b_sp_init 3 (none) :: TB) ({ frames := 1, cells := 0, slots := 0, locals := 14 } : Room) (va_Pc [.ref a, .int (iI (x)), .int (iI (y))] (Bq D CL (TYS X) lo (Gv lo t0) f)) (va_Qv (fun f1 => Fr [a] f f1 ∧ f1 a = some (eO 5 (oF sh_sp b (va_up (va_up (va_up v 2 (15)) 0 (max (x) (1))) 1 (y))))) (Bq D CL (TYS X) lo (Gv lo t0)) (fun q => lo ≤ q)) 0 0 (fun q => lo ≤ q) := by
  refine mt (by decide) (Nat.le_of_ble_eq_true rfl) ?_
  intro p e s m args below meth cd ls hx hb hr hml hown ht hlocks hnm hK hlo hG hw hS hl
  have hl : lv_has ls 3 [(0, .ref a), (1, .int (iI (x))), (2, .int (iI (y)))] := hl
  have hGO := Gv.ok lo t0
  have hNB := hG.1
  generalize hQ : MQ below _ args s _ _ _ = Q
  have hF : Fr [a] f f := Fr.rf
  refine lv_aload_n hx hb d_sp_init_0 rfl (lv_at hl 0 rfl) ?_
  refine W.objInit hx hb hown (ht _ t_303) (ht _ t_30) (ht _ t_31) rfl (by rw [hml]; exact hl.1) rfl d_sp_init_1 (Nat.le_of_ble_eq_true rfl) (Nat.le_of_ble_eq_true rfl) ?_
  refine W.eq (g2 := F0 m 4 ls []) rfl ?_
  refine lv_aload_n hx hb d_sp_init_4 rfl (lv_at hl 0 rfl) ?_
  refine mi_bipush hx hb d_sp_init_5 (by decide) ?_
  refine mo_puti hx hb ht in_sp ty_sp tyok_sp nm_sp hown hK hw hS h0 rfl 2 (by decide) rfl (ht _ t_309) (fun _ h => h) rfl (tyok_sp 2 (by decide)) rfl rfl d_sp_init_7 (fun H locs f1 hf1 hw hS => ?_)
  have h0 := eq_s hf1
  have hF := Fr.up hF hf1 (by simp)
  refine lv_aload_n hx hb d_sp_init_10 rfl (lv_at hl 0 rfl) ?_
  refine lv_iload_n hx hb d_sp_init_11 rfl (lv_at hl 1 rfl) ?_
  refine mi_iconst hx hb d_sp_init_12 ?_
  refine mi_mmax hx hb (hml.trans hl.1.symm) hown (ht _ t_304) (ht _ t_305) (ht _ t_16) (ht _ t_306) (Nat.le_of_ble_eq_true rfl) (Nat.le_of_ble_eq_true rfl) (Nat.le_of_ble_eq_true rfl) (Nat.le_of_ble_eq_true rfl) rx (by decide) d_sp_init_13 ?_
  refine mo_putiF hx hb ht in_sp ty_sp tyok_sp nm_sp hown hK hw hS h0 rfl 0 (by decide) rfl (ht _ t_307) (fun _ h => h) rfl hnm rfl (tyok_sp 0 (by decide)) rfl rfl d_sp_init_16 (fun H locs f2 hf2 hw hS => ?_)
  have h0 := eq_s hf2
  have hF := Fr.up hF hf2 (by simp)
  refine lv_aload_n hx hb d_sp_init_19 rfl (lv_at hl 0 rfl) ?_
  refine lv_iload_n hx hb d_sp_init_20 rfl (lv_at hl 2 rfl) ?_
  refine mo_putiF hx hb ht in_sp ty_sp tyok_sp nm_sp hown hK hw hS h0 rfl 1 (by decide) rfl (ht _ t_308) (fun _ h => h) rfl hnm rfl (tyok_sp 1 (by decide)) rfl rfl d_sp_init_21 (fun H locs f3 hf3 hw hS => ?_)
  have h0 := eq_s hf3
  have hF := Fr.up hF hf3 (by simp)
  rw [← hQ]; exact mq_vret hx hb hr hlocks hK hlo hGO hG hw hS (Nat.le_of_ble_eq_true rfl) (Nat.le_of_ble_eq_true rfl) d_sp_init_24 ⟨hF, h0⟩
set_option maxHeartbeats 4000000 in
set_option maxRecDepth 100000 in
theorem c_le_init (l : Launch) (D : va_G) (X : ClassId × ClassId × ClassId × ClassId) (lo t0 : Nat) (f : hM) (a : Nat) (b : Nat → Option Nat) (v : Nat → Int) (h0 : f a = some (eO 3 (oF sh_le b v))) (x y : Int) (ax dn : Nat) : Met l y_le_init (Cond.code y_le_init b_le_init 5 (none) :: TB) ({ frames := 1, cells := 0, slots := 0, locals := 12 } : Room) (va_Pc [.ref a, .int (iI (x)), .int (iI (y)), .ref ax, .ref dn] (Bq D CL (TYS X) lo (Gv lo t0) f)) (va_Qv (fun f1 => Fr [a] f f1 ∧ f1 a = some (eO 3 (oF sh_le (va_up (va_up b 2 (some ax)) 3 (some dn)) (va_up (va_up v 0 (x)) 1 (y))))) (Bq D CL (TYS X) lo (Gv lo t0)) (fun q => lo ≤ q)) 0 0 (fun q => lo ≤ q) := by
  refine mt (by decide) (Nat.le_of_ble_eq_true rfl) ?_
  intro p e s m args below meth cd ls hx hb hr hml hown ht hlocks hnm hK hlo hG hw hS hl
  have hl : lv_has ls 5 [(0, .ref a), (1, .int (iI (x))), (2, .int (iI (y))), (3, .ref ax), (4, .ref dn)] := hl
  have hGO := Gv.ok lo t0
  have hNB := hG.1
  generalize hQ : MQ below _ args s _ _ _ = Q
  have hF : Fr [a] f f := Fr.rf
  refine lv_aload_n hx hb d_le_init_0 rfl (lv_at hl 0 rfl) ?_
  refine W.objInit hx hb hown (ht _ t_332) (ht _ t_30) (ht _ t_31) rfl (by rw [hml]; exact hl.1) rfl d_le_init_1 (Nat.le_of_ble_eq_true rfl) (Nat.le_of_ble_eq_true rfl) ?_
  refine W.eq (g2 := F0 m 4 ls []) rfl ?_
  refine lv_aload_n hx hb d_le_init_4 rfl (lv_at hl 0 rfl) ?_
  refine lv_iload_n hx hb d_le_init_5 rfl (lv_at hl 1 rfl) ?_
  refine mo_putiF hx hb ht in_le ty_le tyok_le nm_le hown hK hw hS h0 rfl 0 (by decide) rfl (ht _ t_333) (fun _ h => h) rfl hnm rfl (tyok_le 0 (by decide)) rfl rfl d_le_init_6 (fun H locs f1 hf1 hw hS => ?_)
  have h0 := eq_s hf1
  have hF := Fr.up hF hf1 (by simp)
  refine lv_aload_n hx hb d_le_init_9 rfl (lv_at hl 0 rfl) ?_
  refine lv_iload_n hx hb d_le_init_10 rfl (lv_at hl 2 rfl) ?_
  refine mo_putiF hx hb ht in_le ty_le tyok_le nm_le hown hK hw hS h0 rfl 1 (by decide) rfl (ht _ t_335) (fun _ h => h) rfl hnm rfl (tyok_le 1 (by decide)) rfl rfl d_le_init_11 (fun H locs f2 hf2 hw hS => ?_)
  have h0 := eq_s hf2
  have hF := Fr.up hF hf2 (by simp)
  refine lv_aload_n hx hb d_le_init_14 rfl (lv_at hl 0 rfl) ?_
  refine lv_aload_n hx hb d_le_init_15 rfl (lv_at hl 3 rfl) ?_
  refine mo_putrF hx hb ht in_le ty_le tyok_le nm_le hown hK hw hS h0 rfl 2 (by decide) rfl (ht _ t_337) (fun _ h => h) rfl hnm rfl (tyok_le 2 (by decide)) rfl rfl d_le_init_16 (fun H locs f3 hf3 hw hS => ?_)
  have h0 := eq_s hf3
  have hF := Fr.up hF hf3 (by simp)
  refine lv_aload_n hx hb d_le_init_19 rfl (lv_at hl 0 rfl) ?_
  refine lv_aload hx hb d_le_init_20 (lv_at hl 4 rfl) ?_
  refine mo_putrF hx hb ht in_le ty_le tyok_le nm_le hown hK hw hS h0 rfl 3 (by decide) rfl (ht _ t_339) (fun _ h => h) rfl hnm rfl (tyok_le 3 (by decide)) rfl rfl d_le_init_22 (fun H locs f4 hf4 hw hS => ?_)
  have h0 := eq_s hf4
  have hF := Fr.up hF hf4 (by simp)
  rw [← hQ]; exact mq_vret hx hb hr hlocks hK hlo hGO hG hw hS (Nat.le_of_ble_eq_true rfl) (Nat.le_of_ble_eq_true rfl) d_le_init_25 ⟨hF, h0⟩
set_option maxHeartbeats 4000000 in
set_option maxRecDepth 100000 in
theorem c_ro_init (l : Launch) (D : va_G) (X : ClassId × ClassId × ClassId × ClassId) (lo t0 : Nat) (f : hM) (a : Nat) (b : Nat → Option Nat) (v : Nat → Int) (h0 : f a = some (eO 4 (oF sh_ro b v))) : Met l y_ro_init (Cond.code y_ro_init b_ro_init 1 (none) :: TB) ({ frames := 1, cells := 3, slots := 0, locals := 12 } : Room) (va_Pc [.ref a] (Bq D CL (TYS X) lo (Gv lo t0) f)) (va_Qv (fun f1 => Fn [a] f f1 ∧ ∃ lc ks sp : Nat, f1 a = some (eO 4 (oF sh_ro (va_up (va_up (va_up b 0 (some lc)) 1 (some ks)) 2 (some sp)) (va_up v 9 (-1)))) ∧ f1 lc = some (eI X.1 0 (fun _ => 0)) ∧ f1 ks = some (eJ X.2.1 0 (fun _ => 0)) ∧ f1 sp = some (eJ X.2.1 0 (fun _ => 0)) ∧ ks ≠ sp) (Bq D CL (TYS X) lo (Gv lo t0)) (fun q => lo ≤ q)) 3 0 (fun q => lo ≤ q) := by
  refine mt (by decide) (Nat.le_of_ble_eq_true rfl) ?_
  intro p e s m args below meth cd ls hx hb hr hml hown ht hlocks hnm hK hlo hG hw hS hl
  have hl : lv_has ls 1 [(0, .ref a)] := hl
  have hGO := Gv.ok lo t0
  have hNB := hG.1
  generalize hQ : MQ below _ args s _ _ _ = Q
  have hF : Fn [a] f f := Fn.rf
  refine lv_aload_n hx hb d_ro_init_0 rfl (lv_at hl 0 rfl) ?_
  refine W.objInit hx hb hown (ht _ t_63) (ht _ t_30) (ht _ t_31) rfl (by rw [hml]; exact hl.1) rfl d_ro_init_1 (Nat.le_of_ble_eq_true rfl) (Nat.le_of_ble_eq_true rfl) ?_
  refine W.eq (g2 := F0 m 4 ls []) rfl ?_
  refine lv_aload_n hx hb d_ro_init_4 rfl (lv_at hl 0 rfl) ?_
  refine mi_iconst hx hb d_ro_init_5 ?_
  refine mo_newai hx hb (ht _ t_97) hK hw hS hlo 0 rfl (0) rfl (Nat.le_of_ble_eq_true rfl) (Nat.le_of_ble_eq_true rfl) (Nat.le_of_ble_eq_true rfl) d_ro_init_6 (fun q6 H f1 hq6 hf1 hw hS => ?_)
  have ne_a_q6 : a ≠ q6 := ne_new h0 hq6
  have h0 := eq_q hf1 h0 hq6
  have hn6 := eq_s hf1
  have ok_q6 := Fn.new hF hq6
  have hF := Fn.up hF hf1 ok_q6
  refine mo_putr hx hb ht in_ro ty_ro tyok_ro nm_ro hown hK hw hS h0 rfl 0 (by decide) rfl (ht _ t_64) (fun _ h => h) rfl (tyok_ro 0 (by decide)) rfl rfl d_ro_init_8 (fun H locs f2 hf2 hw hS => ?_)
  have h0 := eq_s hf2
  have hn6 := eq_n hf2 hn6 ne_a_q6.symm
  have hF := Fn.up hF hf2 (aOK.of (by simp))
  refine lv_aload_n hx hb d_ro_init_11 rfl (lv_at hl 0 rfl) ?_
  refine mi_iconst hx hb d_ro_init_12 ?_
  refine mo_newal hx hb (ht _ t_98) hK hw hS hlo 1 rfl (0) rfl (Nat.le_of_ble_eq_true rfl) (Nat.le_of_ble_eq_true rfl) (Nat.le_of_ble_eq_true rfl) d_ro_init_13 (fun q13 H f3 hq13 hf3 hw hS => ?_)
  have ne_a_q13 : a ≠ q13 := ne_new h0 hq13
  have ne_q6_q13 : q6 ≠ q13 := ne_new hn6 hq13
  have h0 := eq_q hf3 h0 hq13
  have hn6 := eq_q hf3 hn6 hq13
  have hn13 := eq_s hf3
  have ok_q13 := Fn.new hF hq13
  have hF := Fn.up hF hf3 ok_q13
  refine mo_putr hx hb ht in_ro ty_ro tyok_ro nm_ro hown hK hw hS h0 rfl 1 (by decide) rfl (ht _ t_65) (fun _ h => h) rfl (tyok_ro 1 (by decide)) rfl rfl d_ro_init_15 (fun H locs f4 hf4 hw hS => ?_)
  have h0 := eq_s hf4
  have hn6 := eq_n hf4 hn6 ne_a_q6.symm
  have hn13 := eq_n hf4 hn13 ne_a_q13.symm
  have hF := Fn.up hF hf4 (aOK.of (by simp))
  refine lv_aload_n hx hb d_ro_init_18 rfl (lv_at hl 0 rfl) ?_
  refine mi_iconst hx hb d_ro_init_19 ?_
  refine mo_newal hx hb (ht _ t_98) hK hw hS hlo 1 rfl (0) rfl (Nat.le_of_ble_eq_true rfl) (Nat.le_of_ble_eq_true rfl) (Nat.le_of_ble_eq_true rfl) d_ro_init_20 (fun q20 H f5 hq20 hf5 hw hS => ?_)
  have ne_a_q20 : a ≠ q20 := ne_new h0 hq20
  have ne_q6_q20 : q6 ≠ q20 := ne_new hn6 hq20
  have ne_q13_q20 : q13 ≠ q20 := ne_new hn13 hq20
  have h0 := eq_q hf5 h0 hq20
  have hn6 := eq_q hf5 hn6 hq20
  have hn13 := eq_q hf5 hn13 hq20
  have hn20 := eq_s hf5
  have ok_q20 := Fn.new hF hq20
  have hF := Fn.up hF hf5 ok_q20
  refine mo_putr hx hb ht in_ro ty_ro tyok_ro nm_ro hown hK hw hS h0 rfl 2 (by decide) rfl (ht _ t_66) (fun _ h => h) rfl (tyok_ro 2 (by decide)) rfl rfl d_ro_init_22 (fun H locs f6 hf6 hw hS => ?_)
  have h0 := eq_s hf6
  have hn6 := eq_n hf6 hn6 ne_a_q6.symm
  have hn13 := eq_n hf6 hn13 ne_a_q13.symm
  have hn20 := eq_n hf6 hn20 ne_a_q20.symm
  have hF := Fn.up hF hf6 (aOK.of (by simp))
  refine lv_aload_n hx hb d_ro_init_25 rfl (lv_at hl 0 rfl) ?_
  refine mi_iconst hx hb d_ro_init_26 ?_
  refine mo_puti hx hb ht in_ro ty_ro tyok_ro nm_ro hown hK hw hS h0 rfl 9 (by decide) rfl (ht _ t_74) (fun _ h => h) rfl (tyok_ro 9 (by decide)) rfl rfl d_ro_init_27 (fun H locs f7 hf7 hw hS => ?_)
  have h0 := eq_s hf7
  have hn6 := eq_n hf7 hn6 ne_a_q6.symm
  have hn13 := eq_n hf7 hn13 ne_a_q13.symm
  have hn20 := eq_n hf7 hn20 ne_a_q20.symm
  have hF := Fn.up hF hf7 (aOK.of (by simp))
  rw [← hQ]; exact mq_vret hx hb hr hlocks hK hlo hGO hG hw hS (Nat.le_of_ble_eq_true rfl) (Nat.le_of_ble_eq_true rfl) d_ro_init_30 ⟨hF, q6, q13, q20, h0, hn6, hn13, hn20, ne_q13_q20⟩
end
section
/-! the class under proof: its constructor; layers, clear, change, precincts on a fresh object -/
/-- a fresh object: no tile, no sequence, two empty lists -/
def poFr (t0 : Nat) (f : hM) (a : Nat) : Prop := ∃ (b : Nat → Option Nat) (v : Nat → Int) (lc lh : Nat) (bc bh : Nat → Option Nat) (vc vh : Nat → Int), f a = some (eO 0 (oF sh_po b v)) ∧ v 4 = 0 ∧ v 9 = 0 ∧ b 5 = some lc ∧ b 8 = some lh ∧ f lc = some (eO 7 (oF sh_al bc vc)) ∧ vc 2 = 0 ∧ bc 1 = some t0 ∧ f lh = some (eO 7 (oF sh_al bh vh)) ∧ vh 2 = 0 ∧ bh 1 = some t0
set_option maxHeartbeats 4000000 in
set_option maxRecDepth 100000 in
theorem c_po_init (l : Launch) (D : va_G) (X : ClassId × ClassId × ClassId × ClassId) (lo t0 : Nat) (f : hM) (a : Nat) (h0 : f a = some (eO 0 (oF sh_po (fun _ => (none : Option Nat)) (fun _ => (0 : Int))))) : Met l y_po_init (Cond.code y_po_init b_po_init 1 (none) :: TB) ({ frames := 4, cells := 7, slots := 22, locals := 80 } : Room) (va_Pc [.ref a] (Bq D CL (TYS X) lo (Gv lo t0) f)) (va_Qv (fun f1 => Fn [a] f f1 ∧ poFr t0 f1 a) (Bq D CL (TYS X) lo (Gv lo t0)) (fun q => lo ≤ q)) 7 22 (fun q => lo ≤ q) := by
  refine mt (by decide) (Nat.le_of_ble_eq_true rfl) ?_
  intro p e s m args below meth cd ls hx hb hr hml hown ht hlocks hnm hK hlo hG hw hS hl
  have hl : lv_has ls 1 [(0, .ref a)] := hl
  have hGO := Gv.ok lo t0
  have hNB := hG.1
  generalize hQ : MQ below _ args s _ _ _ = Q
  have hF : Fn [a] f f := Fn.rf
  refine lv_aload_n hx hb d_po_init_0 rfl (lv_at hl 0 rfl) ?_
  refine W.objInit hx hb hown (ht _ t_29) (ht _ t_30) (ht _ t_31) rfl (by rw [hml]; exact hl.1) rfl d_po_init_1 (Nat.le_of_ble_eq_true rfl) (Nat.le_of_ble_eq_true rfl) ?_
  refine W.eq (g2 := F0 m 4 ls []) rfl ?_
  refine lv_aload_n hx hb d_po_init_4 rfl (lv_at hl 0 rfl) ?_
  refine mo_new (ci := 7) (sh := sh_al) hx hb ht in_al ty_al tyok_al hown (ht _ t_32) (ht _ t_33) (ht _ t_4) hK hw hS hlo rfl df_al (Nat.le_of_ble_eq_true rfl) (Nat.le_of_ble_eq_true rfl) d_po_init_5 (fun q5 H f1 hq5 hf1 hw hS => ?_)
  have ne_a_q5 : a ≠ q5 := ne_new h0 hq5
  have h0 := eq_q hf1 h0 hq5
  have hn5 := eq_s hf1
  have ok_q5 := Fn.new hF hq5
  have hF := Fn.up hF hf1 ok_q5
  refine lv_dup hx hb d_po_init_8 rfl ?_
  refine mq_callv (va_runI (As := []) (rest := [.ref q5, .ref a]) ⟨hx, hb, hml, hown, ht⟩ (c_al_init l D X lo t0 f1 q5 (fun _ => (none : Option Nat)) (fun _ => (0 : Int)) hn5) (cwI 0 ht (good_M (fun _ h => h) t_36) rfl rfl rfl (ht _ t_4) (ht _ t_34) (ht _ t_35) rfl (by decide +kernel) ⟨Nat.le_of_ble_eq_true rfl, Nat.le_of_ble_eq_true rfl⟩) (mq_preS hK hlo hGO hG hw hS) rfl rfl hl.1 rfl (lv_room (Nat.le_of_ble_eq_true rfl)) d_po_init_9 ⟨Nat.le_of_ble_eq_true rfl, Nat.le_of_ble_eq_true rfl⟩) hS (fun f2 H locs hp hw hS => ?_)
  obtain ⟨hF2, hn5⟩ := hp
  have h0 := Fn.keep (Fr.fn hF2) h0 (by simpa using ne_a_q5)
  have hF := Fn.tr hF (Fr.fn hF2) (fun q hq => by rw [List.mem_singleton.mp hq]; exact ok_q5)
  refine mo_putrF hx hb ht in_po ty_po tyok_po nm_po hown hK hw hS h0 rfl 5 (by decide) rfl (ht _ t_135) (fun _ h => h) rfl hnm rfl (tyok_po 5 (by decide)) rfl rfl d_po_init_12 (fun H locs f3 hf3 hw hS => ?_)
  have h0 := eq_s hf3
  have hn5 := eq_n hf3 hn5 ne_a_q5.symm
  have hF := Fn.up hF hf3 (aOK.of (by simp))
  refine lv_aload_n hx hb d_po_init_15 rfl (lv_at hl 0 rfl) ?_
  refine mo_new (ci := 7) (sh := sh_al) hx hb ht in_al ty_al tyok_al hown (ht _ t_32) (ht _ t_33) (ht _ t_4) hK hw hS hlo rfl df_al (Nat.le_of_ble_eq_true rfl) (Nat.le_of_ble_eq_true rfl) d_po_init_16 (fun q16 H f4 hq16 hf4 hw hS => ?_)
  have ne_a_q16 : a ≠ q16 := ne_new h0 hq16
  have ne_q5_q16 : q5 ≠ q16 := ne_new hn5 hq16
  have h0 := eq_q hf4 h0 hq16
  have hn5 := eq_q hf4 hn5 hq16
  have hn16 := eq_s hf4
  have ok_q16 := Fn.new hF hq16
  have hF := Fn.up hF hf4 ok_q16
  refine lv_dup hx hb d_po_init_19 rfl ?_
  refine mq_callv (va_runI (As := []) (rest := [.ref q16, .ref a]) ⟨hx, hb, hml, hown, ht⟩ (c_al_init l D X lo t0 f4 q16 (fun _ => (none : Option Nat)) (fun _ => (0 : Int)) hn16) (cwI 0 ht (good_M (fun _ h => h) t_36) rfl rfl rfl (ht _ t_4) (ht _ t_34) (ht _ t_35) rfl (by decide +kernel) ⟨Nat.le_of_ble_eq_true rfl, Nat.le_of_ble_eq_true rfl⟩) (mq_preS hK hlo hGO hG hw hS) rfl rfl hl.1 rfl (lv_room (Nat.le_of_ble_eq_true rfl)) d_po_init_20 ⟨Nat.le_of_ble_eq_true rfl, Nat.le_of_ble_eq_true rfl⟩) hS (fun f5 H locs hp hw hS => ?_)
  obtain ⟨hF5, hn16⟩ := hp
  have h0 := Fn.keep (Fr.fn hF5) h0 (by simpa using ne_a_q16)
  have hn5 := Fn.keep (Fr.fn hF5) hn5 (by simpa using ne_q5_q16)
  have hF := Fn.tr hF (Fr.fn hF5) (fun q hq => by rw [List.mem_singleton.mp hq]; exact ok_q16)
  refine mo_putrF hx hb ht in_po ty_po tyok_po nm_po hown hK hw hS h0 rfl 8 (by decide) rfl (ht _ t_138) (fun _ h => h) rfl hnm rfl (tyok_po 8 (by decide)) rfl rfl d_po_init_23 (fun H locs f6 hf6 hw hS => ?_)
  have h0 := eq_s hf6
  have hn5 := eq_n hf6 hn5 ne_a_q5.symm
  have hn16 := eq_n hf6 hn16 ne_a_q16.symm
  have hF := Fn.up hF hf6 (aOK.of (by simp))
  refine lv_aload_n hx hb d_po_init_26 rfl (lv_at hl 0 rfl) ?_
  refine mo_new (ci := 4) (sh := sh_ro) hx hb ht in_ro ty_ro tyok_ro hown (ht _ t_58) (ht _ t_59) (ht _ t_5) hK hw hS hlo rfl df_ro (Nat.le_of_ble_eq_true rfl) (Nat.le_of_ble_eq_true rfl) d_po_init_27 (fun q27 H f7 hq27 hf7 hw hS => ?_)
  have ne_a_q27 : a ≠ q27 := ne_new h0 hq27
  have ne_q5_q27 : q5 ≠ q27 := ne_new hn5 hq27
  have ne_q16_q27 : q16 ≠ q27 := ne_new hn16 hq27
  have h0 := eq_q hf7 h0 hq27
  have hn5 := eq_q hf7 hn5 hq27
  have hn16 := eq_q hf7 hn16 hq27
  have hn27 := eq_s hf7
  have ok_q27 := Fn.new hF hq27
  have hF := Fn.up hF hf7 ok_q27
  refine lv_dup hx hb d_po_init_30 rfl ?_
  refine mq_callv (va_runIN (As := []) (rest := [.ref q27, .ref a]) ⟨hx, hb, hml, hown, ht⟩ (c_ro_init l D X lo t0 f7 q27 (fun _ => (none : Option Nat)) (fun _ => (0 : Int)) hn27) ⟨va_cnB 0 ht (good_M (fun _ h => h) t_62) rfl rfl rfl (hNB _ n_60) (ht _ t_5) (by decide +kernel) ⟨Nat.le_of_ble_eq_true rfl, Nat.le_of_ble_eq_true rfl⟩, rfl, ht _ t_61⟩ (mq_preS hK hlo hGO hG hw hS) rfl rfl hl.1 rfl (lv_room (Nat.le_of_ble_eq_true rfl)) d_po_init_31 ⟨Nat.le_of_ble_eq_true rfl, Nat.le_of_ble_eq_true rfl⟩) hS (fun f8 H locs hp hw hS => ?_)
  obtain ⟨hF8, rlc, rks, rsp, hn27, rh1, rh2, rh3, rne⟩ := hp
  have h0 := Fn.keep hF8 h0 (by simpa using ne_a_q27)
  have hn5 := Fn.keep hF8 hn5 (by simpa using ne_q5_q27)
  have hn16 := Fn.keep hF8 hn16 (by simpa using ne_q16_q27)
  have hF := Fn.tr hF hF8 (fun q hq => by rw [List.mem_singleton.mp hq]; exact ok_q27)
  refine mo_putrF hx hb ht in_po ty_po tyok_po nm_po hown hK hw hS h0 rfl 12 (by decide) rfl (ht _ t_142) (fun _ h => h) rfl hnm rfl (tyok_po 12 (by decide)) rfl rfl d_po_init_34 (fun H locs f9 hf9 hw hS => ?_)
  have h0 := eq_s hf9
  have hn5 := eq_n hf9 hn5 ne_a_q5.symm
  have hn16 := eq_n hf9 hn16 ne_a_q16.symm
  have hn27 := eq_n hf9 hn27 ne_a_q27.symm
  have hF := Fn.up hF hf9 (aOK.of (by simp))
  refine lv_aload_n hx hb d_po_init_37 rfl (lv_at hl 0 rfl) ?_
  refine mi_iconst hx hb d_po_init_38 ?_
  refine mo_puti hx hb ht in_po ty_po tyok_po nm_po hown hK hw hS h0 rfl 6 (by decide) rfl (ht _ t_136) (fun _ h => h) rfl (tyok_po 6 (by decide)) rfl rfl d_po_init_39 (fun H locs f10 hf10 hw hS => ?_)
  have h0 := eq_s hf10
  have hn5 := eq_n hf10 hn5 ne_a_q5.symm
  have hn16 := eq_n hf10 hn16 ne_a_q16.symm
  have hn27 := eq_n hf10 hn27 ne_a_q27.symm
  have hF := Fn.up hF hf10 (aOK.of (by simp))
  refine lv_aload_n hx hb d_po_init_42 rfl (lv_at hl 0 rfl) ?_
  refine mo_new (ci := 1) (sh := sh_ch) hx hb ht in_ch ty_ch tyok_ch hown (ht _ t_99) (ht _ t_100) (ht _ t_6) hK hw hS hlo rfl df_ch (Nat.le_of_ble_eq_true rfl) (Nat.le_of_ble_eq_true rfl) d_po_init_43 (fun q43 H f11 hq43 hf11 hw hS => ?_)
  have ne_a_q43 : a ≠ q43 := ne_new h0 hq43
  have ne_q5_q43 : q5 ≠ q43 := ne_new hn5 hq43
  have ne_q16_q43 : q16 ≠ q43 := ne_new hn16 hq43
  have ne_q27_q43 : q27 ≠ q43 := ne_new hn27 hq43
  have h0 := eq_q hf11 h0 hq43
  have hn5 := eq_q hf11 hn5 hq43
  have hn16 := eq_q hf11 hn16 hq43
  have hn27 := eq_q hf11 hn27 hq43
  have hn43 := eq_s hf11
  have ok_q43 := Fn.new hF hq43
  have hF := Fn.up hF hf11 ok_q43
  refine lv_dup hx hb d_po_init_46 rfl ?_
  refine mi_iconst hx hb d_po_init_47 ?_
  refine mi_bipush hx hb d_po_init_48 (by decide) ?_
  refine mi_iconst hx hb d_po_init_50 ?_
  refine mi_bipush hx hb d_po_init_51 (by decide) ?_
  refine mi_sipush hx hb d_po_init_53 (by decide) ?_
  refine mi_iconst hx hb d_po_init_56 ?_
  refine mq_callv (va_runI (As := [.int (iI (0)), .int (iI (33)), .int (iI (0)), .int (iI (16)), .int (iI (255)), .int (iI (0))]) (rest := [.ref q43, .ref a]) ⟨hx, hb, hml, hown, ht⟩ (c_ch_init l D X lo t0 f11 q43 (fun _ => (none : Option Nat)) (fun _ => (0 : Int)) hn43 (0) (33) (0) (16) (255) (0)) (cwI 6 ht (good_M (fun _ h => h) t_103) rfl rfl rfl (ht _ t_6) (ht _ t_101) (ht _ t_102) rfl (by decide +kernel) ⟨Nat.le_of_ble_eq_true rfl, Nat.le_of_ble_eq_true rfl⟩) (mq_preS hK hlo hGO hG hw hS) rfl rfl hl.1 rfl (lv_room (Nat.le_of_ble_eq_true rfl)) d_po_init_57 ⟨Nat.le_of_ble_eq_true rfl, Nat.le_of_ble_eq_true rfl⟩) hS (fun f12 H locs hp hw hS => ?_)
  obtain ⟨hF12, hn43⟩ := hp
  have h0 := Fn.keep (Fr.fn hF12) h0 (by simpa using ne_a_q43)
  have hn5 := Fn.keep (Fr.fn hF12) hn5 (by simpa using ne_q5_q43)
  have hn16 := Fn.keep (Fr.fn hF12) hn16 (by simpa using ne_q16_q43)
  have hn27 := Fn.keep (Fr.fn hF12) hn27 (by simpa using ne_q27_q43)
  have hF := Fn.tr hF (Fr.fn hF12) (fun q hq => by rw [List.mem_singleton.mp hq]; exact ok_q43)
  refine mo_putr hx hb ht in_po ty_po tyok_po nm_po hown hK hw hS h0 rfl 7 (by decide) rfl (ht _ t_137) (fun _ h => h) rfl (tyok_po 7 (by decide)) rfl rfl d_po_init_60 (fun H locs f13 hf13 hw hS => ?_)
  have h0 := eq_s hf13
  have hn5 := eq_n hf13 hn5 ne_a_q5.symm
  have hn16 := eq_n hf13 hn16 ne_a_q16.symm
  have hn27 := eq_n hf13 hn27 ne_a_q27.symm
  have hn43 := eq_n hf13 hn43 ne_a_q43.symm
  have hF := Fn.up hF hf13 (aOK.of (by simp))
  rw [← hQ]; exact mq_vret hx hb hr hlocks hK hlo hGO hG hw hS (Nat.le_of_ble_eq_true rfl) (Nat.le_of_ble_eq_true rfl) d_po_init_63 ⟨hF, _, _, q5, q16, _, _, _, _, h0, rfl, rfl, rfl, rfl, hn5, rfl, rfl, hn16, rfl, rfl⟩
end
