/-! the law: its eleven cases -/
set_option maxHeartbeats 4000000 in
set_option maxRecDepth 100000 in
theorem law_c0 {p : Program} {l : Launch} {e : Env} {s : State} {m : MethodId} {below : List Frame} {meth : Method} {c : Code} {b : Nat} {xs : Nat → Int32} {D : va_G} {X : ClassId × ClassId × ClassId × ClassId} {lo t0 : Nat} {H : Heap} {locs : List Loc} {ls : Array Slot} {f : hM} {a am oa : Nat} (C : lwF p l s m meth c b xs D X lo t0) (hs0 : lwS X t0 f a am oa) (hw : hW D CL lo f H) (hS : va_S (fun q => lo ≤ q) s.heap H locs) (hl : lv_has ls 7 [(0, .ref b), (1, .ref a), (2, .ref am), (3, .ref oa), (4, .int (iI (0)))]) : W p l e room_1 s m #[Value.ref b] below meth c H locs 23 30042 (lw_Z below #[Value.ref b] s) (F0 m 100 ls []) := by
  have C0 := C
  obtain ⟨⟨hx, hb, hr, hml, hown, hts, hX, hbl, hlocks, hgv⟩, hK, hG, hl9, elo⟩ := C
  have hbA : ¬ (fun q : Nat => lo ≤ q) b := by show ¬ lo ≤ b; omega
  have ht : ∀ w ∈ TB, w.before #[Value.ref b] s = true := fun w hw => hts w (tb_l hw)
  have hown : s.vm.findClass "PacketOrderLaw" = some m.cls := hown
  have hlo : lo ≤ s.heap.size := by omega
  have hGO := Gv.ok lo t0
  have hNB := hG.1
  obtain ⟨⟨pb, pv, lc, lh, bc, bh, vc, vh, h0, hv4, hv9, hb5, hb8, hc1, hcz, hct, hh1, hhz, hht⟩, ⟨bm, A, hR⟩, ho⟩ := hs0
  refine lv_aload_n hx hb d_la_law_100 rfl (lv_at hl 1 rfl) ?_
  refine lv_aload_n hx hb d_la_law_101 rfl (lv_at hl 0 rfl) ?_
  refine lv_iload hx hb d_la_law_102 (lv_at hl 4 rfl) ?_
  refine mi_iconst hx hb d_la_law_104 ?_
  refine mi_iadd hx hb d_la_law_105 ?_
  refine ml_sld hx hb hX hbl hbA hS 1 (by decide) (by decide) (by decide) d_la_law_106 ?_
  refine lv_aload_n hx hb d_la_law_107 rfl (lv_at hl 0 rfl) ?_
  refine lv_iload hx hb d_la_law_108 (lv_at hl 4 rfl) ?_
  refine mi_iconst hx hb d_la_law_110 ?_
  refine mi_iadd hx hb d_la_law_111 ?_
  refine ml_sld hx hb hX hbl hbA hS 2 (by decide) (by decide) (by decide) d_la_law_112 ?_
  refine lv_aload_n hx hb d_la_law_113 rfl (lv_at hl 0 rfl) ?_
  refine lv_iload hx hb d_la_law_114 (lv_at hl 4 rfl) ?_
  refine mi_iconst hx hb d_la_law_116 ?_
  refine mi_iadd hx hb d_la_law_117 ?_
  refine ml_sld hx hb hX hbl hbA hS 3 (by decide) (by decide) (by decide) d_la_law_118 ?_
  refine lv_aload_n hx hb d_la_law_119 rfl (lv_at hl 0 rfl) ?_
  refine lv_iload hx hb d_la_law_120 (lv_at hl 4 rfl) ?_
  refine mi_iconst hx hb d_la_law_122 ?_
  refine mi_iadd hx hb d_la_law_123 ?_
  refine ml_sld hx hb hX hbl hbA hS 4 (by decide) (by decide) (by decide) d_la_law_124 ?_
  refine mq_calli (vx_runSW (As := [.ref a, .int (iI ((xs 1).toInt)), .int (iI ((xs 2).toInt)), .int (iI ((xs 3).toInt)), .int (iI ((xs 4).toInt))]) (rest := []) ⟨hx, hb, hml, hown, ht⟩ (c_la_tile l hl9 D X lo t0 f a pb pv h0 ((xs 1).toInt) ((xs 2).toInt) ((xs 3).toInt) ((xs 4).toInt) (iR_of (xs 1)) (iR_of (xs 2)) (iR_of (xs 3)) (iR_of (xs 4))) (vx_cwSW 5 ht (good_S (fun _ h => h) t_180 t_178 t_179 t_0) rfl rfl rfl (by decide +kernel) ⟨Nat.le_of_ble_eq_true rfl, Nat.le_of_ble_eq_true rfl⟩) (mq_preS hK hlo hGO hG hw hS) rfl rfl hl.1 rfl (lv_room (Nat.le_of_ble_eq_true rfl)) d_la_law_125 ⟨Nat.le_of_ble_eq_true rfl, Nat.le_of_ble_eq_true rfl⟩) hS (fun r1 f1 H locs hp hw hS => ?_)
  obtain ⟨rfl, hF1⟩ := hp
  have hR := moR.fn hR hF1 (fun q hq => by rw [List.mem_singleton.mp hq]; exact Or.inl ⟨0, _, by decide, h0⟩)
  refine lv_istore (lv' := [(5, .int (iI (if gTile ((xs 1).toInt) ((xs 2).toInt) ((xs 3).toInt) ((xs 4).toInt) then 0 else 1))), (0, .ref b), (1, .ref a), (2, .ref am), (3, .ref oa), (4, .int (iI (0)))]) hx hb d_la_law_128 hl (by decide) rfl (fun ls hl => ?_)
  refine lv_aload_n hx hb d_la_law_130 rfl (lv_at hl 3 rfl) ?_
  refine lv_aload_n hx hb d_la_law_131 rfl (lv_at hl 1 rfl) ?_
  refine lv_iload hx hb d_la_law_132 (lv_at hl 5 rfl) ?_
  refine mi_iconst hx hb d_la_law_134 ?_
  refine mi_iadd hx hb d_la_law_135 ?_
  refine ml_sld hx hb hX hbl hbA hS 1 (by decide) (by decide) (by decide) d_la_law_136 ?_
  refine lv_aload_n hx hb d_la_law_137 rfl (lv_at hl 1 rfl) ?_
  refine lv_iload hx hb d_la_law_138 (lv_at hl 5 rfl) ?_
  refine mi_iconst hx hb d_la_law_140 ?_
  refine mi_iadd hx hb d_la_law_141 ?_
  refine ml_sld hx hb hX hbl hbA hS 2 (by decide) (by decide) (by decide) d_la_law_142 ?_
  refine lv_aload_n hx hb d_la_law_143 rfl (lv_at hl 1 rfl) ?_
  refine lv_iload hx hb d_la_law_144 (lv_at hl 5 rfl) ?_
  refine mi_iconst hx hb d_la_law_146 ?_
  refine mi_iadd hx hb d_la_law_147 ?_
  refine ml_sld hx hb hX hbl hbA hS 3 (by decide) (by decide) (by decide) d_la_law_148 ?_
  refine lv_aload_n hx hb d_la_law_149 rfl (lv_at hl 1 rfl) ?_
  refine lv_iload hx hb d_la_law_150 (lv_at hl 5 rfl) ?_
  refine mi_iconst hx hb d_la_law_152 ?_
  refine mi_iadd hx hb d_la_law_153 ?_
  refine ml_sld hx hb hX hbl hbA hS 4 (by decide) (by decide) (by decide) d_la_law_154 ?_
  refine mq_callv (va_runV (As := [.int (iI ((xs 1).toInt)), .int (iI ((xs 2).toInt)), .int (iI ((xs 3).toInt)), .int (iI ((xs 4).toInt))]) (rest := []) ⟨hx, hb, hml, hown, ht⟩ (c_mo_tile l D X lo (Gv lo t0) hGO f1 am bm (va_up (fun _ => (0 : Int)) 12 1) hR.1 ((xs 1).toInt) ((xs 2).toInt) ((xs 3).toInt) ((xs 4).toInt) (iR_of (xs 1)) (iR_of (xs 2)) (iR_of (xs 3)) (iR_of (xs 4))) (cwV 4 ht (good_V (fun _ h => h) t_788 t_785 t_786 t_787 t_7) rfl rfl rfl (by decide +kernel) ⟨Nat.le_of_ble_eq_true rfl, Nat.le_of_ble_eq_true rfl⟩) (mq_preV hK hlo hGO hG hw hS (hW.recv hK hw (ci := 6) rfl hR.1)) rfl rfl hl.1 rfl (lv_room (Nat.le_of_ble_eq_true rfl)) d_la_law_155 ⟨Nat.le_of_ble_eq_true rfl, Nat.le_of_ble_eq_true rfl⟩) hS (fun f2 H locs hp hw hS => ?_)
  obtain ⟨-, hM⟩ := hp
  refine lv_aload_n hx hb d_la_law_158 rfl (lv_at hl 3 rfl) ?_
  refine mq_calli (va_runV (As := []) (rest := []) ⟨hx, hb, hml, hown, ht⟩ (c_mo_thrown l D X lo (Gv lo t0) hGO f2 am bm (mTile (va_up (fun _ => (0 : Int)) 12 1) ((xs 1).toInt) ((xs 2).toInt) ((xs 3).toInt) ((xs 4).toInt)) hM) (cwV 0 ht (good_V (fun _ h => h) t_784 t_781 t_782 t_783 t_7) rfl rfl rfl (by decide +kernel) ⟨Nat.le_of_ble_eq_true rfl, Nat.le_of_ble_eq_true rfl⟩) (mq_preV hK hlo hGO hG hw hS (hW.recv hK hw (ci := 6) rfl hM)) rfl rfl hl.1 rfl (lv_room (Nat.le_of_ble_eq_true rfl)) d_la_law_159 ⟨Nat.le_of_ble_eq_true rfl, Nat.le_of_ble_eq_true rfl⟩) hS (fun r3 f3 H locs hp hw hS => ?_)
  obtain ⟨rfl, -, -⟩ := hp
  rw [show (mTile (va_up (fun _ => (0 : Int)) 12 1) ((xs 1).toInt) ((xs 2).toInt) ((xs 3).toInt) ((xs 4).toInt)) 0 = if gTile ((xs 1).toInt) ((xs 2).toInt) ((xs 3).toInt) ((xs 4).toInt) then 0 else 1 from by unfold mTile; by_cases hg : gTile ((xs 1).toInt) ((xs 2).toInt) ((xs 3).toInt) ((xs 4).toInt); rw [if_pos hg, if_pos hg]; rfl; rw [if_neg hg, if_neg hg]; rfl]
  refine lv_iload hx hb d_la_law_162 (lv_at hl 0 rfl) ?_
  refine mi_icmp_eq (tgt := 169) hx hb d_la_law_164 (by decide) (by split <;> decide) (by split <;> decide) (fun c_164 => ?_) (fun c_164 => ?_)
  · skip
    refine lv_goto (tgt := 788) hx hb d_la_law_169 (by decide) ?_
    exact law_end C0 (Nat.le_of_ble_eq_true rfl) (Nat.le_of_ble_eq_true rfl) hS (lv_sub hl [1, 5] rfl)
  · exact absurd c_164 (fun z => z rfl)
set_option maxHeartbeats 4000000 in
set_option maxRecDepth 100000 in
theorem law_c3 {p : Program} {l : Launch} {e : Env} {s : State} {m : MethodId} {below : List Frame} {meth : Method} {c : Code} {b : Nat} {xs : Nat → Int32} {D : va_G} {X : ClassId × ClassId × ClassId × ClassId} {lo t0 : Nat} {H : Heap} {locs : List Loc} {ls : Array Slot} {f : hM} {a am oa : Nat} (C : lwF p l s m meth c b xs D X lo t0) (hs0 : lwS X t0 f a am oa) (hw : hW D CL lo f H) (hS : va_S (fun q => lo ≤ q) s.heap H locs) (hl : lv_has ls 7 [(0, .ref b), (1, .ref a), (2, .ref am), (3, .ref oa), (4, .int (iI (0)))]) : W p l e room_1 s m #[Value.ref b] below meth c H locs 23 30042 (lw_Z below #[Value.ref b] s) (F0 m 324 ls []) := by
  have C0 := C
  obtain ⟨⟨hx, hb, hr, hml, hown, hts, hX, hbl, hlocks, hgv⟩, hK, hG, hl9, elo⟩ := C
  have hbA : ¬ (fun q : Nat => lo ≤ q) b := by show ¬ lo ≤ b; omega
  have ht : ∀ w ∈ TB, w.before #[Value.ref b] s = true := fun w hw => hts w (tb_l hw)
  have hown : s.vm.findClass "PacketOrderLaw" = some m.cls := hown
  have hlo : lo ≤ s.heap.size := by omega
  have hGO := Gv.ok lo t0
  have hNB := hG.1
  obtain ⟨⟨pb, pv, lc, lh, bc, bh, vc, vh, h0, hv4, hv9, hb5, hb8, hc1, hcz, hct, hh1, hhz, hht⟩, ⟨bm, A, hR⟩, ho⟩ := hs0
  refine lv_aload_n hx hb d_la_law_324 rfl (lv_at hl 1 rfl) ?_
  refine lv_aload_n hx hb d_la_law_325 rfl (lv_at hl 0 rfl) ?_
  refine lv_iload hx hb d_la_law_326 (lv_at hl 4 rfl) ?_
  refine mi_iconst hx hb d_la_law_328 ?_
  refine mi_iadd hx hb d_la_law_329 ?_
  refine ml_sld hx hb hX hbl hbA hS 1 (by decide) (by decide) (by decide) d_la_law_330 ?_
  refine lv_aload_n hx hb d_la_law_331 rfl (lv_at hl 0 rfl) ?_
  refine lv_iload hx hb d_la_law_332 (lv_at hl 4 rfl) ?_
  refine mi_iconst hx hb d_la_law_334 ?_
  refine mi_iadd hx hb d_la_law_335 ?_
  refine ml_sld hx hb hX hbl hbA hS 2 (by decide) (by decide) (by decide) d_la_law_336 ?_
  refine mq_calli (vx_runSW (As := [.ref a, .int (iI ((xs 1).toInt)), .int (iI ((xs 2).toInt))]) (rest := []) ⟨hx, hb, hml, hown, ht⟩ (c_la_layers l hl9 D X lo t0 f a pb pv h0 ((xs 1).toInt) ((xs 2).toInt) (iR_of (xs 1)) (iR_of (xs 2))) (vx_cwSW 3 ht (good_S (fun _ h => h) t_461 t_459 t_460 t_0) rfl rfl rfl (by decide +kernel) ⟨Nat.le_of_ble_eq_true rfl, Nat.le_of_ble_eq_true rfl⟩) (mq_preS hK hlo hGO hG hw hS) rfl rfl hl.1 rfl (lv_room (Nat.le_of_ble_eq_true rfl)) d_la_law_337 ⟨Nat.le_of_ble_eq_true rfl, Nat.le_of_ble_eq_true rfl⟩) hS (fun r1 f1 H locs hp hw hS => ?_)
  obtain ⟨rfl, hF1⟩ := hp
  have hR := moR.fn hR hF1 (fun q hq => by rw [List.mem_singleton.mp hq]; exact Or.inl ⟨0, _, by decide, h0⟩)
  refine lv_istore (lv' := [(5, .int (iI (if gLay ((xs 1).toInt) ((xs 2).toInt) then 0 else 1))), (0, .ref b), (1, .ref a), (2, .ref am), (3, .ref oa), (4, .int (iI (0)))]) hx hb d_la_law_340 hl (by decide) rfl (fun ls hl => ?_)
  refine lv_aload_n hx hb d_la_law_342 rfl (lv_at hl 3 rfl) ?_
  refine lv_aload_n hx hb d_la_law_343 rfl (lv_at hl 1 rfl) ?_
  refine lv_iload hx hb d_la_law_344 (lv_at hl 5 rfl) ?_
  refine mi_iconst hx hb d_la_law_346 ?_
  refine mi_iadd hx hb d_la_law_347 ?_
  refine ml_sld hx hb hX hbl hbA hS 1 (by decide) (by decide) (by decide) d_la_law_348 ?_
  refine lv_aload_n hx hb d_la_law_349 rfl (lv_at hl 1 rfl) ?_
  refine lv_iload hx hb d_la_law_350 (lv_at hl 5 rfl) ?_
  refine mi_iconst hx hb d_la_law_352 ?_
  refine mi_iadd hx hb d_la_law_353 ?_
  refine ml_sld hx hb hX hbl hbA hS 2 (by decide) (by decide) (by decide) d_la_law_354 ?_
  refine mq_callv (va_runV (As := [.int (iI ((xs 1).toInt)), .int (iI ((xs 2).toInt))]) (rest := []) ⟨hx, hb, hml, hown, ht⟩ (c_mo_layers l D X lo (Gv lo t0) hGO f1 am bm (va_up (fun _ => (0 : Int)) 12 1) A (fun _ _ => (0 : Int)) hR ((xs 1).toInt) ((xs 2).toInt) (iR_of (xs 1)) (iR_of (xs 2))) (cwV 2 ht (good_V (fun _ h => h) t_808 t_805 t_806 t_807 t_7) rfl rfl rfl (by decide +kernel) ⟨Nat.le_of_ble_eq_true rfl, Nat.le_of_ble_eq_true rfl⟩) (mq_preV hK hlo hGO hG hw hS (hW.recv hK hw (ci := 6) rfl hR.1)) rfl rfl hl.1 rfl (lv_room (Nat.le_of_ble_eq_true rfl)) d_la_law_355 ⟨Nat.le_of_ble_eq_true rfl, Nat.le_of_ble_eq_true rfl⟩) hS (fun f2 H locs hp hw hS => ?_)
  obtain ⟨-, hM⟩ := hp
  refine lv_aload_n hx hb d_la_law_358 rfl (lv_at hl 3 rfl) ?_
  refine mq_calli (va_runV (As := []) (rest := []) ⟨hx, hb, hml, hown, ht⟩ (c_mo_thrown l D X lo (Gv lo t0) hGO f2 am bm (mLay (va_up (fun _ => (0 : Int)) 12 1) ((xs 1).toInt) ((xs 2).toInt)) hM.1) (cwV 0 ht (good_V (fun _ h => h) t_784 t_781 t_782 t_783 t_7) rfl rfl rfl (by decide +kernel) ⟨Nat.le_of_ble_eq_true rfl, Nat.le_of_ble_eq_true rfl⟩) (mq_preV hK hlo hGO hG hw hS (hW.recv hK hw (ci := 6) rfl hM.1)) rfl rfl hl.1 rfl (lv_room (Nat.le_of_ble_eq_true rfl)) d_la_law_359 ⟨Nat.le_of_ble_eq_true rfl, Nat.le_of_ble_eq_true rfl⟩) hS (fun r3 f3 H locs hp hw hS => ?_)
  obtain ⟨rfl, -, -⟩ := hp
  rw [show (mLay (va_up (fun _ => (0 : Int)) 12 1) ((xs 1).toInt) ((xs 2).toInt)) 0 = if gLay ((xs 1).toInt) ((xs 2).toInt) then 0 else 1 from by unfold mLay; by_cases hg : gLay ((xs 1).toInt) ((xs 2).toInt); rw [if_pos hg, if_pos hg]; rfl; rw [if_neg hg, if_neg hg]; rfl]
  refine lv_iload hx hb d_la_law_362 (lv_at hl 0 rfl) ?_
  refine mi_icmp_eq (tgt := 369) hx hb d_la_law_364 (by decide) (by split <;> decide) (by split <;> decide) (fun c_364 => ?_) (fun c_364 => ?_)
  · skip
    refine lv_goto (tgt := 788) hx hb d_la_law_369 (by decide) ?_
    exact law_end C0 (Nat.le_of_ble_eq_true rfl) (Nat.le_of_ble_eq_true rfl) hS (lv_sub hl [1, 5] rfl)
  · exact absurd c_364 (fun z => z rfl)
set_option maxHeartbeats 4000000 in
set_option maxRecDepth 100000 in
theorem law_c1 {p : Program} {l : Launch} {e : Env} {s : State} {m : MethodId} {below : List Frame} {meth : Method} {c : Code} {b : Nat} {xs : Nat → Int32} {D : va_G} {X : ClassId × ClassId × ClassId × ClassId} {lo t0 : Nat} {H : Heap} {locs : List Loc} {ls : Array Slot} {f : hM} {a am oa : Nat} (C : lwF p l s m meth c b xs D X lo t0) (hs0 : lwS X t0 f a am oa) (hw : hW D CL lo f H) (hS : va_S (fun q => lo ≤ q) s.heap H locs) (hl : lv_has ls 7 [(0, .ref b), (1, .ref a), (2, .ref am), (3, .ref oa), (4, .int (iI (0)))]) : W p l e room_1 s m #[Value.ref b] below meth c H locs 23 30042 (lw_Z below #[Value.ref b] s) (F0 m 172 ls []) := by
  have C0 := C
  obtain ⟨⟨hx, hb, hr, hml, hown, hts, hX, hbl, hlocks, hgv⟩, hK, hG, hl9, elo⟩ := C
  have hbA : ¬ (fun q : Nat => lo ≤ q) b := by show ¬ lo ≤ b; omega
  have ht : ∀ w ∈ TB, w.before #[Value.ref b] s = true := fun w hw => hts w (tb_l hw)
  have hown : s.vm.findClass "PacketOrderLaw" = some m.cls := hown
  have hlo : lo ≤ s.heap.size := by omega
  have hGO := Gv.ok lo t0
  have hNB := hG.1
  obtain ⟨⟨pb, pv, lc, lh, bc, bh, vc, vh, h0, hv4, hv9, hb5, hb8, hc1, hcz, hct, hh1, hhz, hht⟩, ⟨bm, A, hR⟩, ho⟩ := hs0
  refine lv_aload_n hx hb d_la_law_172 rfl (lv_at hl 1 rfl) ?_
  refine lv_aload_n hx hb d_la_law_173 rfl (lv_at hl 0 rfl) ?_
  refine lv_iload hx hb d_la_law_174 (lv_at hl 4 rfl) ?_
  refine mi_iconst hx hb d_la_law_176 ?_
  refine mi_iadd hx hb d_la_law_177 ?_
  refine ml_sld hx hb hX hbl hbA hS 1 (by decide) (by decide) (by decide) d_la_law_178 ?_
  refine lv_aload_n hx hb d_la_law_179 rfl (lv_at hl 0 rfl) ?_
  refine lv_iload hx hb d_la_law_180 (lv_at hl 4 rfl) ?_
  refine mi_iconst hx hb d_la_law_182 ?_
  refine mi_iadd hx hb d_la_law_183 ?_
  refine ml_sld hx hb hX hbl hbA hS 2 (by decide) (by decide) (by decide) d_la_law_184 ?_
  refine lv_aload_n hx hb d_la_law_185 rfl (lv_at hl 0 rfl) ?_
  refine lv_iload hx hb d_la_law_186 (lv_at hl 4 rfl) ?_
  refine mi_iconst hx hb d_la_law_188 ?_
  refine mi_iadd hx hb d_la_law_189 ?_
  refine ml_sld hx hb hX hbl hbA hS 3 (by decide) (by decide) (by decide) d_la_law_190 ?_
  refine lv_aload_n hx hb d_la_law_191 rfl (lv_at hl 3 rfl) ?_
  refine mq_calli (vx_runSW (As := [.ref a, .int (iI ((xs 1).toInt)), .int (iI ((xs 2).toInt)), .int (iI ((xs 3).toInt)), .ref oa]) (rest := []) ⟨hx, hb, hml, hown, ht⟩ (c_la_component l hl9 D X lo t0 f a pb pv h0 lc bc vc hc1 hcz hct hb5 ((xs 1).toInt) ((xs 2).toInt) ((xs 3).toInt) (iR_of (xs 1)) (iR_of (xs 2)) (iR_of (xs 3)) oa (fun _ => 0) ho) (vx_cwSW 5 ht (good_S (fun _ h => h) t_258 t_256 t_257 t_0) rfl rfl rfl (by decide +kernel) ⟨Nat.le_of_ble_eq_true rfl, Nat.le_of_ble_eq_true rfl⟩) (mq_preS hK hlo hGO hG hw hS) rfl rfl hl.1 rfl (lv_room (Nat.le_of_ble_eq_true rfl)) d_la_law_192 ⟨Nat.le_of_ble_eq_true rfl, Nat.le_of_ble_eq_true rfl⟩) hS (fun r1 f1 H locs hp hw hS => ?_)
  obtain ⟨rfl, hoI, hF1⟩ := hp
  have hR := moR.fn hR hF1 (fun q hq => by rcases List.mem_cons.mp hq with rfl | hq; exact Or.inl ⟨0, _, by decide, h0⟩; rcases List.mem_cons.mp hq with rfl | hq; exact Or.inl ⟨7, _, by decide, hc1⟩; rw [List.mem_singleton.mp hq]; exact Or.inr ⟨_, ho⟩)
  refine lv_istore (lv' := [(5, .int (iI (if gCmp ((xs 1).toInt) ((xs 2).toInt) ((xs 3).toInt) then 0 else 1))), (0, .ref b), (1, .ref a), (2, .ref am), (3, .ref oa), (4, .int (iI (0)))]) hx hb d_la_law_195 hl (by decide) rfl (fun ls hl => ?_)
  refine lv_aload_n hx hb d_la_law_197 rfl (lv_at hl 3 rfl) ?_
  refine lv_aload_n hx hb d_la_law_198 rfl (lv_at hl 1 rfl) ?_
  refine lv_iload hx hb d_la_law_199 (lv_at hl 5 rfl) ?_
  refine mi_iconst hx hb d_la_law_201 ?_
  refine mi_iadd hx hb d_la_law_202 ?_
  refine ml_sld hx hb hX hbl hbA hS 1 (by decide) (by decide) (by decide) d_la_law_203 ?_
  refine lv_aload_n hx hb d_la_law_204 rfl (lv_at hl 1 rfl) ?_
  refine lv_iload hx hb d_la_law_205 (lv_at hl 5 rfl) ?_
  refine mi_iconst hx hb d_la_law_207 ?_
  refine mi_iadd hx hb d_la_law_208 ?_
  refine ml_sld hx hb hX hbl hbA hS 2 (by decide) (by decide) (by decide) d_la_law_209 ?_
  refine lv_aload_n hx hb d_la_law_210 rfl (lv_at hl 1 rfl) ?_
  refine lv_iload hx hb d_la_law_211 (lv_at hl 5 rfl) ?_
  refine mi_iconst hx hb d_la_law_213 ?_
  refine mi_iadd hx hb d_la_law_214 ?_
  refine ml_sld hx hb hX hbl hbA hS 3 (by decide) (by decide) (by decide) d_la_law_215 ?_
  refine mq_calli (va_runV (As := [.int (iI ((xs 1).toInt)), .int (iI ((xs 2).toInt)), .int (iI ((xs 3).toInt))]) (rest := []) ⟨hx, hb, hml, hown, ht⟩ (c_mo_component l D X lo (Gv lo t0) hGO f1 am bm (va_up (fun _ => (0 : Int)) 12 1) A (fun _ _ => (0 : Int)) hR 0 rfl (by decide) ((xs 1).toInt) ((xs 2).toInt) ((xs 3).toInt) (iR_of (xs 1)) (iR_of (xs 2)) (iR_of (xs 3))) (cwV 3 ht (good_V (fun _ h => h) t_796 t_793 t_794 t_795 t_7) rfl rfl rfl (by decide +kernel) ⟨Nat.le_of_ble_eq_true rfl, Nat.le_of_ble_eq_true rfl⟩) (mq_preV hK hlo hGO hG hw hS (hW.recv hK hw (ci := 6) rfl hR.1)) rfl rfl hl.1 rfl (lv_room (Nat.le_of_ble_eq_true rfl)) d_la_law_216 ⟨Nat.le_of_ble_eq_true rfl, Nat.le_of_ble_eq_true rfl⟩) hS (fun r2 f2 H locs hp hw hS => ?_)
  obtain ⟨rfl, hF2, hR9⟩ := hp
  have hoI := fun z => Fr.keep hF2 (hoI z) (moR.out hR (hoI z) [7, 8, 9, 10, 11] (by decide))
  have hR := hR9
  rw [show (if gCmp ((xs 1).toInt) ((xs 2).toInt) ((xs 3).toInt) ∧ (0 : Nat) ≠ 16 then ((0 : Nat) : Int) else 0) = 0 from by split <;> rfl]
  refine lv_istore (lv' := [(6, .int (iI (0))), (5, .int (iI (if gCmp ((xs 1).toInt) ((xs 2).toInt) ((xs 3).toInt) then 0 else 1))), (0, .ref b), (1, .ref a), (2, .ref am), (3, .ref oa), (4, .int (iI (0)))]) hx hb d_la_law_219 hl (by decide) rfl (fun ls hl => ?_)
  refine lv_aload_n hx hb d_la_law_221 rfl (lv_at hl 4 rfl) ?_
  refine mq_calli (va_runV (As := []) (rest := []) ⟨hx, hb, hml, hown, ht⟩ (c_mo_thrown l D X lo (Gv lo t0) hGO f2 am bm (mCmpV (va_up (fun _ => (0 : Int)) 12 1) 0 ((xs 1).toInt) ((xs 2).toInt) ((xs 3).toInt)) hR.1) (cwV 0 ht (good_V (fun _ h => h) t_784 t_781 t_782 t_783 t_7) rfl rfl rfl (by decide +kernel) ⟨Nat.le_of_ble_eq_true rfl, Nat.le_of_ble_eq_true rfl⟩) (mq_preV hK hlo hGO hG hw hS (hW.recv hK hw (ci := 6) rfl hR.1)) rfl rfl hl.1 rfl (lv_room (Nat.le_of_ble_eq_true rfl)) d_la_law_222 ⟨Nat.le_of_ble_eq_true rfl, Nat.le_of_ble_eq_true rfl⟩) hS (fun r3 f3 H locs hp hw hS => ?_)
  obtain ⟨rfl, hF3, -⟩ := hp
  have hoI := fun z => Fr.keep hF3 (hoI z) List.not_mem_nil
  rw [show (mCmpV (va_up (fun _ => (0 : Int)) 12 1) 0 ((xs 1).toInt) ((xs 2).toInt) ((xs 3).toInt)) 0 = if gCmp ((xs 1).toInt) ((xs 2).toInt) ((xs 3).toInt) then 0 else 1 from by unfold mCmpV; by_cases hg : gCmp ((xs 1).toInt) ((xs 2).toInt) ((xs 3).toInt); rw [if_pos hg, if_neg (by decide), if_pos hg]; rfl; rw [if_neg hg, if_neg hg]; rfl]
  refine lv_iload hx hb d_la_law_225 (lv_at hl 1 rfl) ?_
  refine mi_icmp_eq (tgt := 232) hx hb d_la_law_227 (by decide) (by split <;> decide) (by split <;> decide) (fun c_227 => ?_) (fun c_227 => ?_)
  · skip
    refine lv_iload hx hb d_la_law_232 (lv_at hl 1 rfl) ?_
    refine mi_if_ne (tgt := 249) hx hb d_la_law_234 (by decide) (by split <;> decide) (fun c_234 => ?_) (fun c_234 => ?_)
    · skip
      refine lv_goto (tgt := 788) hx hb d_la_law_249 (by decide) ?_
      exact law_end C0 (Nat.le_of_ble_eq_true rfl) (Nat.le_of_ble_eq_true rfl) hS (lv_sub hl [2, 6] rfl)
    · skip
      have hg : gCmp ((xs 1).toInt) ((xs 2).toInt) ((xs 3).toInt) := Classical.byContradiction (fun hg => by rw [if_neg hg] at c_234; omega)
      have ho := hoI hg
      refine lv_aload_n hx hb d_la_law_237 rfl (lv_at hl 5 rfl) ?_
      refine mi_iconst hx hb d_la_law_238 ?_
      refine mp_lald hx hb hK hw 1 ho rfl (0) (by omega) (by omega) (by decide) d_la_law_239 ?_
      rw [show (va_up (fun _ => (0 : Int)) 0 (0)) (0) = 0 from rfl]
      refine lv_iload hx hb d_la_law_240 (lv_at hl 0 rfl) ?_
      refine mi_i2l hx hb d_la_law_242 (by decide) ?_
      refine mi_lcmp_eq (tgt := 249) hx hb d_la_law_243 d_la_law_244 (by decide) (by decide) (by omega) (fun c_243 => ?_) (fun c_243 => ?_)
      · skip
        refine lv_goto (tgt := 788) hx hb d_la_law_249 (by decide) ?_
        exact law_end C0 (Nat.le_of_ble_eq_true rfl) (Nat.le_of_ble_eq_true rfl) hS (lv_sub hl [2, 6] rfl)
      · exact absurd c_243 (fun z => z rfl)
  · exact absurd c_227 (fun z => z rfl)
set_option maxHeartbeats 4000000 in
set_option maxRecDepth 100000 in
theorem law_c4 {p : Program} {l : Launch} {e : Env} {s : State} {m : MethodId} {below : List Frame} {meth : Method} {c : Code} {b : Nat} {xs : Nat → Int32} {D : va_G} {X : ClassId × ClassId × ClassId × ClassId} {lo t0 : Nat} {H : Heap} {locs : List Loc} {ls : Array Slot} {f : hM} {a am oa : Nat} (C : lwF p l s m meth c b xs D X lo t0) (hs0 : lwS X t0 f a am oa) (hw : hW D CL lo f H) (hS : va_S (fun q => lo ≤ q) s.heap H locs) (hl : lv_has ls 7 [(0, .ref b), (1, .ref a), (2, .ref am), (3, .ref oa), (4, .int (iI (0)))]) : W p l e room_1 s m #[Value.ref b] below meth c H locs 23 30042 (lw_Z below #[Value.ref b] s) (F0 m 372 ls []) := by
  have C0 := C
  obtain ⟨⟨hx, hb, hr, hml, hown, hts, hX, hbl, hlocks, hgv⟩, hK, hG, hl9, elo⟩ := C
  have hbA : ¬ (fun q : Nat => lo ≤ q) b := by show ¬ lo ≤ b; omega
  have ht : ∀ w ∈ TB, w.before #[Value.ref b] s = true := fun w hw => hts w (tb_l hw)
  have hown : s.vm.findClass "PacketOrderLaw" = some m.cls := hown
  have hlo : lo ≤ s.heap.size := by omega
  have hGO := Gv.ok lo t0
  have hNB := hG.1
  obtain ⟨⟨pb, pv, lc, lh, bc, bh, vc, vh, h0, hv4, hv9, hb5, hb8, hc1, hcz, hct, hh1, hhz, hht⟩, ⟨bm, A, hR⟩, ho⟩ := hs0
  refine lv_aload_n hx hb d_la_law_372 rfl (lv_at hl 1 rfl) ?_
  refine lv_aload_n hx hb d_la_law_373 rfl (lv_at hl 0 rfl) ?_
  refine lv_iload hx hb d_la_law_374 (lv_at hl 4 rfl) ?_
  refine mi_iconst hx hb d_la_law_376 ?_
  refine mi_iadd hx hb d_la_law_377 ?_
  refine ml_sld hx hb hX hbl hbA hS 1 (by decide) (by decide) (by decide) d_la_law_378 ?_
  refine lv_aload_n hx hb d_la_law_379 rfl (lv_at hl 0 rfl) ?_
  refine lv_iload hx hb d_la_law_380 (lv_at hl 4 rfl) ?_
  refine mi_iconst hx hb d_la_law_382 ?_
  refine mi_iadd hx hb d_la_law_383 ?_
  refine ml_sld hx hb hX hbl hbA hS 2 (by decide) (by decide) (by decide) d_la_law_384 ?_
  refine lv_aload_n hx hb d_la_law_385 rfl (lv_at hl 0 rfl) ?_
  refine lv_iload hx hb d_la_law_386 (lv_at hl 4 rfl) ?_
  refine mi_iconst hx hb d_la_law_388 ?_
  refine mi_iadd hx hb d_la_law_389 ?_
  refine ml_sld hx hb hX hbl hbA hS 3 (by decide) (by decide) (by decide) d_la_law_390 ?_
  refine lv_aload_n hx hb d_la_law_391 rfl (lv_at hl 0 rfl) ?_
  refine lv_iload hx hb d_la_law_392 (lv_at hl 4 rfl) ?_
  refine mi_iconst hx hb d_la_law_394 ?_
  refine mi_iadd hx hb d_la_law_395 ?_
  refine ml_sld hx hb hX hbl hbA hS 4 (by decide) (by decide) (by decide) d_la_law_396 ?_
  refine lv_aload_n hx hb d_la_law_397 rfl (lv_at hl 0 rfl) ?_
  refine lv_iload hx hb d_la_law_398 (lv_at hl 4 rfl) ?_
  refine mi_iconst hx hb d_la_law_400 ?_
  refine mi_iadd hx hb d_la_law_401 ?_
  refine ml_sld hx hb hX hbl hbA hS 5 (by decide) (by decide) (by decide) d_la_law_402 ?_
  refine lv_aload_n hx hb d_la_law_403 rfl (lv_at hl 0 rfl) ?_
  refine lv_iload hx hb d_la_law_404 (lv_at hl 4 rfl) ?_
  refine mi_bipush hx hb d_la_law_406 (by decide) ?_
  refine mi_iadd hx hb d_la_law_408 ?_
  refine ml_sld hx hb hX hbl hbA hS 6 (by decide) (by decide) (by decide) d_la_law_409 ?_
  refine lv_aload_n hx hb d_la_law_410 rfl (lv_at hl 3 rfl) ?_
  refine mq_calli (vx_runSW (As := [.ref a, .int (iI ((xs 1).toInt)), .int (iI ((xs 2).toInt)), .int (iI ((xs 3).toInt)), .int (iI ((xs 4).toInt)), .int (iI ((xs 5).toInt)), .int (iI ((xs 6).toInt)), .ref oa]) (rest := []) ⟨hx, hb, hml, hown, ht⟩ (c_la_change l hl9 D X lo t0 f a pb pv h0 lh bh vh hh1 hhz hht hb8 ((xs 1).toInt) ((xs 2).toInt) ((xs 3).toInt) ((xs 4).toInt) ((xs 5).toInt) ((xs 6).toInt) (iR_of (xs 1)) (iR_of (xs 2)) (iR_of (xs 3)) (iR_of (xs 4)) (iR_of (xs 5)) (iR_of (xs 6)) oa (fun _ => 0) ho) (vx_cwSW 8 ht (good_S (fun _ h => h) t_470 t_468 t_469 t_0) rfl rfl rfl (by decide +kernel) ⟨Nat.le_of_ble_eq_true rfl, Nat.le_of_ble_eq_true rfl⟩) (mq_preS hK hlo hGO hG hw hS) rfl rfl hl.1 rfl (lv_room (Nat.le_of_ble_eq_true rfl)) d_la_law_411 ⟨Nat.le_of_ble_eq_true rfl, Nat.le_of_ble_eq_true rfl⟩) hS (fun r1 f1 H locs hp hw hS => ?_)
  obtain ⟨rfl, hoI, hF1⟩ := hp
  have hR := moR.fn hR hF1 (fun q hq => by rcases List.mem_cons.mp hq with rfl | hq; exact Or.inl ⟨0, _, by decide, h0⟩; rcases List.mem_cons.mp hq with rfl | hq; exact Or.inl ⟨7, _, by decide, hh1⟩; rw [List.mem_singleton.mp hq]; exact Or.inr ⟨_, ho⟩)
  refine lv_istore (lv' := [(5, .int (iI (if gChg ((xs 1).toInt) ((xs 2).toInt) ((xs 3).toInt) ((xs 4).toInt) ((xs 5).toInt) ((xs 6).toInt) then 0 else 1))), (0, .ref b), (1, .ref a), (2, .ref am), (3, .ref oa), (4, .int (iI (0)))]) hx hb d_la_law_414 hl (by decide) rfl (fun ls hl => ?_)
  refine lv_aload_n hx hb d_la_law_416 rfl (lv_at hl 3 rfl) ?_
  refine lv_aload_n hx hb d_la_law_417 rfl (lv_at hl 1 rfl) ?_
  refine lv_iload hx hb d_la_law_418 (lv_at hl 5 rfl) ?_
  refine mi_iconst hx hb d_la_law_420 ?_
  refine mi_iadd hx hb d_la_law_421 ?_
  refine ml_sld hx hb hX hbl hbA hS 1 (by decide) (by decide) (by decide) d_la_law_422 ?_
  refine lv_aload_n hx hb d_la_law_423 rfl (lv_at hl 1 rfl) ?_
  refine lv_iload hx hb d_la_law_424 (lv_at hl 5 rfl) ?_
  refine mi_iconst hx hb d_la_law_426 ?_
  refine mi_iadd hx hb d_la_law_427 ?_
  refine ml_sld hx hb hX hbl hbA hS 2 (by decide) (by decide) (by decide) d_la_law_428 ?_
  refine lv_aload_n hx hb d_la_law_429 rfl (lv_at hl 1 rfl) ?_
  refine lv_iload hx hb d_la_law_430 (lv_at hl 5 rfl) ?_
  refine mi_iconst hx hb d_la_law_432 ?_
  refine mi_iadd hx hb d_la_law_433 ?_
  refine ml_sld hx hb hX hbl hbA hS 3 (by decide) (by decide) (by decide) d_la_law_434 ?_
  refine lv_aload_n hx hb d_la_law_435 rfl (lv_at hl 1 rfl) ?_
  refine lv_iload hx hb d_la_law_436 (lv_at hl 5 rfl) ?_
  refine mi_iconst hx hb d_la_law_438 ?_
  refine mi_iadd hx hb d_la_law_439 ?_
  refine ml_sld hx hb hX hbl hbA hS 4 (by decide) (by decide) (by decide) d_la_law_440 ?_
  refine lv_aload_n hx hb d_la_law_441 rfl (lv_at hl 1 rfl) ?_
  refine lv_iload hx hb d_la_law_442 (lv_at hl 5 rfl) ?_
  refine mi_iconst hx hb d_la_law_444 ?_
  refine mi_iadd hx hb d_la_law_445 ?_
  refine ml_sld hx hb hX hbl hbA hS 5 (by decide) (by decide) (by decide) d_la_law_446 ?_
  refine lv_aload_n hx hb d_la_law_447 rfl (lv_at hl 1 rfl) ?_
  refine lv_iload hx hb d_la_law_448 (lv_at hl 5 rfl) ?_
  refine mi_bipush hx hb d_la_law_450 (by decide) ?_
  refine mi_iadd hx hb d_la_law_452 ?_
  refine ml_sld hx hb hX hbl hbA hS 6 (by decide) (by decide) (by decide) d_la_law_453 ?_
  refine mq_calli (va_runV (As := [.int (iI ((xs 1).toInt)), .int (iI ((xs 2).toInt)), .int (iI ((xs 3).toInt)), .int (iI ((xs 4).toInt)), .int (iI ((xs 5).toInt)), .int (iI ((xs 6).toInt))]) (rest := []) ⟨hx, hb, hml, hown, ht⟩ (c_mo_change l D X lo (Gv lo t0) hGO f1 am bm (va_up (fun _ => (0 : Int)) 12 1) A (fun _ _ => (0 : Int)) hR 0 rfl (by decide) ((xs 1).toInt) ((xs 2).toInt) ((xs 3).toInt) ((xs 4).toInt) ((xs 5).toInt) ((xs 6).toInt) (iR_of (xs 1)) (iR_of (xs 2)) (iR_of (xs 3)) (iR_of (xs 4)) (iR_of (xs 5)) (iR_of (xs 6))) (cwV 6 ht (good_V (fun _ h => h) t_812 t_809 t_810 t_811 t_7) rfl rfl rfl (by decide +kernel) ⟨Nat.le_of_ble_eq_true rfl, Nat.le_of_ble_eq_true rfl⟩) (mq_preV hK hlo hGO hG hw hS (hW.recv hK hw (ci := 6) rfl hR.1)) rfl rfl hl.1 rfl (lv_room (Nat.le_of_ble_eq_true rfl)) d_la_law_454 ⟨Nat.le_of_ble_eq_true rfl, Nat.le_of_ble_eq_true rfl⟩) hS (fun r2 f2 H locs hp hw hS => ?_)
  obtain ⟨rfl, hF2, hR9⟩ := hp
  have hoI := fun z => Fr.keep hF2 (hoI z) (moR.out hR (hoI z) [15] (by decide))
  have hR := hR9
  rw [show (if gChg ((xs 1).toInt) ((xs 2).toInt) ((xs 3).toInt) ((xs 4).toInt) ((xs 5).toInt) ((xs 6).toInt) ∧ (0 : Nat) ≠ 32 then ((0 : Nat) : Int) + 1 else 0) = if gChg ((xs 1).toInt) ((xs 2).toInt) ((xs 3).toInt) ((xs 4).toInt) ((xs 5).toInt) ((xs 6).toInt) then 1 else 0 from by by_cases hg : gChg ((xs 1).toInt) ((xs 2).toInt) ((xs 3).toInt) ((xs 4).toInt) ((xs 5).toInt) ((xs 6).toInt); rw [if_pos ⟨hg, by decide⟩, if_pos hg]; rfl; rw [if_neg (fun z => hg z.1), if_neg hg]]
  refine lv_istore (lv' := [(6, .int (iI (if gChg ((xs 1).toInt) ((xs 2).toInt) ((xs 3).toInt) ((xs 4).toInt) ((xs 5).toInt) ((xs 6).toInt) then 1 else 0))), (5, .int (iI (if gChg ((xs 1).toInt) ((xs 2).toInt) ((xs 3).toInt) ((xs 4).toInt) ((xs 5).toInt) ((xs 6).toInt) then 0 else 1))), (0, .ref b), (1, .ref a), (2, .ref am), (3, .ref oa), (4, .int (iI (0)))]) hx hb d_la_law_457 hl (by decide) rfl (fun ls hl => ?_)
  refine lv_aload_n hx hb d_la_law_459 rfl (lv_at hl 4 rfl) ?_
  refine mq_calli (va_runV (As := []) (rest := []) ⟨hx, hb, hml, hown, ht⟩ (c_mo_thrown l D X lo (Gv lo t0) hGO f2 am bm (mChgV (va_up (fun _ => (0 : Int)) 12 1) 0 ((xs 1).toInt) ((xs 2).toInt) ((xs 3).toInt) ((xs 4).toInt) ((xs 5).toInt) ((xs 6).toInt)) hR.1) (cwV 0 ht (good_V (fun _ h => h) t_784 t_781 t_782 t_783 t_7) rfl rfl rfl (by decide +kernel) ⟨Nat.le_of_ble_eq_true rfl, Nat.le_of_ble_eq_true rfl⟩) (mq_preV hK hlo hGO hG hw hS (hW.recv hK hw (ci := 6) rfl hR.1)) rfl rfl hl.1 rfl (lv_room (Nat.le_of_ble_eq_true rfl)) d_la_law_460 ⟨Nat.le_of_ble_eq_true rfl, Nat.le_of_ble_eq_true rfl⟩) hS (fun r3 f3 H locs hp hw hS => ?_)
  obtain ⟨rfl, hF3, -⟩ := hp
  have hoI := fun z => Fr.keep hF3 (hoI z) List.not_mem_nil
  rw [show (mChgV (va_up (fun _ => (0 : Int)) 12 1) 0 ((xs 1).toInt) ((xs 2).toInt) ((xs 3).toInt) ((xs 4).toInt) ((xs 5).toInt) ((xs 6).toInt)) 0 = if gChg ((xs 1).toInt) ((xs 2).toInt) ((xs 3).toInt) ((xs 4).toInt) ((xs 5).toInt) ((xs 6).toInt) then 0 else 1 from by unfold mChgV; by_cases hg : gChg ((xs 1).toInt) ((xs 2).toInt) ((xs 3).toInt) ((xs 4).toInt) ((xs 5).toInt) ((xs 6).toInt); rw [if_pos hg, if_neg (by decide), if_pos hg]; rfl; rw [if_neg hg, if_neg hg]; rfl]
  refine lv_iload hx hb d_la_law_463 (lv_at hl 1 rfl) ?_
  refine mi_icmp_eq (tgt := 470) hx hb d_la_law_465 (by decide) (by split <;> decide) (by split <;> decide) (fun c_465 => ?_) (fun c_465 => ?_)
  · skip
    refine lv_iload hx hb d_la_law_470 (lv_at hl 1 rfl) ?_
    refine mi_if_ne (tgt := 487) hx hb d_la_law_472 (by decide) (by split <;> decide) (fun c_472 => ?_) (fun c_472 => ?_)
    · skip
      refine lv_goto (tgt := 788) hx hb d_la_law_487 (by decide) ?_
      exact law_end C0 (Nat.le_of_ble_eq_true rfl) (Nat.le_of_ble_eq_true rfl) hS (lv_sub hl [2, 6] rfl)
    · skip
      have hg : gChg ((xs 1).toInt) ((xs 2).toInt) ((xs 3).toInt) ((xs 4).toInt) ((xs 5).toInt) ((xs 6).toInt) := Classical.byContradiction (fun hg => by rw [if_neg hg] at c_472; omega)
      have ho := hoI hg
      refine lv_aload_n hx hb d_la_law_475 rfl (lv_at hl 5 rfl) ?_
      refine mi_iconst hx hb d_la_law_476 ?_
      refine mp_lald hx hb hK hw 1 ho rfl (0) (by omega) (by omega) (by decide) d_la_law_477 ?_
      rw [show (va_up (fun _ => (0 : Int)) 0 (1)) (0) = 1 from rfl]
      refine lv_iload hx hb d_la_law_478 (lv_at hl 0 rfl) ?_
      refine mi_i2l hx hb d_la_law_480 (by split <;> decide) ?_
      refine mi_lcmp_eq (tgt := 487) hx hb d_la_law_481 d_la_law_482 (by decide) (by decide) (by omega) (fun c_481 => ?_) (fun c_481 => ?_)
      · skip
        refine lv_goto (tgt := 788) hx hb d_la_law_487 (by decide) ?_
        exact law_end C0 (Nat.le_of_ble_eq_true rfl) (Nat.le_of_ble_eq_true rfl) hS (lv_sub hl [2, 6] rfl)
      · exact absurd c_481 (fun z => z (by rw [if_pos hg]))
  · exact absurd c_465 (fun z => z rfl)
set_option maxHeartbeats 4000000 in
set_option maxRecDepth 100000 in
theorem law_c2 {p : Program} {l : Launch} {e : Env} {s : State} {m : MethodId} {below : List Frame} {meth : Method} {c : Code} {b : Nat} {xs : Nat → Int32} {D : va_G} {X : ClassId × ClassId × ClassId × ClassId} {lo t0 : Nat} {H : Heap} {locs : List Loc} {ls : Array Slot} {f : hM} {a am oa : Nat} (C : lwF p l s m meth c b xs D X lo t0) (hs0 : lwS X t0 f a am oa) (hw : hW D CL lo f H) (hS : va_S (fun q => lo ≤ q) s.heap H locs) (hl : lv_has ls 7 [(0, .ref b), (1, .ref a), (2, .ref am), (3, .ref oa), (4, .int (iI (0)))]) : W p l e room_1 s m #[Value.ref b] below meth c H locs 23 30042 (lw_Z below #[Value.ref b] s) (F0 m 252 ls []) := by
  have C0 := C
  obtain ⟨⟨hx, hb, hr, hml, hown, hts, hX, hbl, hlocks, hgv⟩, hK, hG, hl9, elo⟩ := C
  have hbA : ¬ (fun q : Nat => lo ≤ q) b := by show ¬ lo ≤ b; omega
  have ht : ∀ w ∈ TB, w.before #[Value.ref b] s = true := fun w hw => hts w (tb_l hw)
  have hown : s.vm.findClass "PacketOrderLaw" = some m.cls := hown
  have hlo : lo ≤ s.heap.size := by omega
  have hGO := Gv.ok lo t0
  have hNB := hG.1
  obtain ⟨⟨pb, pv, lc, lh, bc, bh, vc, vh, h0, hv4, hv9, hb5, hb8, hc1, hcz, hct, hh1, hhz, hht⟩, ⟨bm, A, hR⟩, ho⟩ := hs0
  refine lv_aload_n hx hb d_la_law_252 rfl (lv_at hl 1 rfl) ?_
  refine lv_aload_n hx hb d_la_law_253 rfl (lv_at hl 0 rfl) ?_
  refine lv_iload hx hb d_la_law_254 (lv_at hl 4 rfl) ?_
  refine mi_iconst hx hb d_la_law_256 ?_
  refine mi_iadd hx hb d_la_law_257 ?_
  refine ml_sld hx hb hX hbl hbA hS 1 (by decide) (by decide) (by decide) d_la_law_258 ?_
  refine lv_aload_n hx hb d_la_law_259 rfl (lv_at hl 0 rfl) ?_
  refine lv_iload hx hb d_la_law_260 (lv_at hl 4 rfl) ?_
  refine mi_iconst hx hb d_la_law_262 ?_
  refine mi_iadd hx hb d_la_law_263 ?_
  refine ml_sld hx hb hX hbl hbA hS 2 (by decide) (by decide) (by decide) d_la_law_264 ?_
  refine lv_aload_n hx hb d_la_law_265 rfl (lv_at hl 0 rfl) ?_
  refine lv_iload hx hb d_la_law_266 (lv_at hl 4 rfl) ?_
  refine mi_iconst hx hb d_la_law_268 ?_
  refine mi_iadd hx hb d_la_law_269 ?_
  refine ml_sld hx hb hX hbl hbA hS 3 (by decide) (by decide) (by decide) d_la_law_270 ?_
  refine lv_aload_n hx hb d_la_law_271 rfl (lv_at hl 0 rfl) ?_
  refine lv_iload hx hb d_la_law_272 (lv_at hl 4 rfl) ?_
  refine mi_iconst hx hb d_la_law_274 ?_
  refine mi_iadd hx hb d_la_law_275 ?_
  refine ml_sld hx hb hX hbl hbA hS 4 (by decide) (by decide) (by decide) d_la_law_276 ?_
  refine mq_calli (vx_runSW (As := [.ref a, .int (iI ((xs 1).toInt)), .int (iI ((xs 2).toInt)), .int (iI ((xs 3).toInt)), .int (iI ((xs 4).toInt))]) (rest := []) ⟨hx, hb, hml, hown, ht⟩ (c_la_precincts l hl9 D X lo t0 f a pb pv h0 lc bc vc hc1 hcz hct hb5 ((xs 1).toInt) ((xs 2).toInt) ((xs 3).toInt) ((xs 4).toInt) (iR_of (xs 1)) (iR_of (xs 2)) (iR_of (xs 3)) (iR_of (xs 4))) (vx_cwSW 5 ht (good_S (fun _ h => h) t_418 t_416 t_417 t_0) rfl rfl rfl (by decide +kernel) ⟨Nat.le_of_ble_eq_true rfl, Nat.le_of_ble_eq_true rfl⟩) (mq_preS hK hlo hGO hG hw hS) rfl rfl hl.1 rfl (lv_room (Nat.le_of_ble_eq_true rfl)) d_la_law_277 ⟨Nat.le_of_ble_eq_true rfl, Nat.le_of_ble_eq_true rfl⟩) hS (fun r1 f1 H locs hp hw hS => ?_)
  obtain ⟨rfl, hF1⟩ := hp
  have hR := moR.fn hR (Fr.fn hF1) (fun q hq => absurd hq List.not_mem_nil)
  refine lv_istore (lv' := [(5, .int (iI (1))), (0, .ref b), (1, .ref a), (2, .ref am), (3, .ref oa), (4, .int (iI (0)))]) hx hb d_la_law_280 hl (by decide) rfl (fun ls hl => ?_)
  refine lv_aload_n hx hb d_la_law_282 rfl (lv_at hl 3 rfl) ?_
  refine lv_aload_n hx hb d_la_law_283 rfl (lv_at hl 1 rfl) ?_
  refine lv_iload hx hb d_la_law_284 (lv_at hl 5 rfl) ?_
  refine mi_iconst hx hb d_la_law_286 ?_
  refine mi_iadd hx hb d_la_law_287 ?_
  refine ml_sld hx hb hX hbl hbA hS 1 (by decide) (by decide) (by decide) d_la_law_288 ?_
  refine lv_aload_n hx hb d_la_law_289 rfl (lv_at hl 1 rfl) ?_
  refine lv_iload hx hb d_la_law_290 (lv_at hl 5 rfl) ?_
  refine mi_iconst hx hb d_la_law_292 ?_
  refine mi_iadd hx hb d_la_law_293 ?_
  refine ml_sld hx hb hX hbl hbA hS 2 (by decide) (by decide) (by decide) d_la_law_294 ?_
  refine lv_aload_n hx hb d_la_law_295 rfl (lv_at hl 1 rfl) ?_
  refine lv_iload hx hb d_la_law_296 (lv_at hl 5 rfl) ?_
  refine mi_iconst hx hb d_la_law_298 ?_
  refine mi_iadd hx hb d_la_law_299 ?_
  refine ml_sld hx hb hX hbl hbA hS 3 (by decide) (by decide) (by decide) d_la_law_300 ?_
  refine lv_aload_n hx hb d_la_law_301 rfl (lv_at hl 1 rfl) ?_
  refine lv_iload hx hb d_la_law_302 (lv_at hl 5 rfl) ?_
  refine mi_iconst hx hb d_la_law_304 ?_
  refine mi_iadd hx hb d_la_law_305 ?_
  refine ml_sld hx hb hX hbl hbA hS 4 (by decide) (by decide) (by decide) d_la_law_306 ?_
  refine mq_callv (va_runV (As := [.int (iI ((xs 1).toInt)), .int (iI ((xs 2).toInt)), .int (iI ((xs 3).toInt)), .int (iI ((xs 4).toInt))]) (rest := []) ⟨hx, hb, hml, hown, ht⟩ (c_mo_precincts l D X lo (Gv lo t0) hGO f1 am bm (va_up (fun _ => (0 : Int)) 12 1) A (fun _ _ => (0 : Int)) hR (by decide) (by decide) (fun _ => by decide) (fun _ => by decide) ((xs 1).toInt) ((xs 2).toInt) ((xs 3).toInt) ((xs 4).toInt) (iR_of (xs 1)) (iR_of (xs 2)) (iR_of (xs 3)) (iR_of (xs 4))) (cwV 4 ht (good_V (fun _ h => h) t_800 t_797 t_798 t_799 t_7) rfl rfl rfl (by decide +kernel) ⟨Nat.le_of_ble_eq_true rfl, Nat.le_of_ble_eq_true rfl⟩) (mq_preV hK hlo hGO hG hw hS (hW.recv hK hw (ci := 6) rfl hR.1)) rfl rfl hl.1 rfl (lv_room (Nat.le_of_ble_eq_true rfl)) d_la_law_307 ⟨Nat.le_of_ble_eq_true rfl, Nat.le_of_ble_eq_true rfl⟩) hS (fun f2 H locs hp hw hS => ?_)
  obtain ⟨-, hM⟩ := hp
  refine lv_aload_n hx hb d_la_law_310 rfl (lv_at hl 3 rfl) ?_
  refine mq_calli (va_runV (As := []) (rest := []) ⟨hx, hb, hml, hown, ht⟩ (c_mo_thrown l D X lo (Gv lo t0) hGO f2 am bm (mPreV (va_up (fun _ => (0 : Int)) 12 1) (fun _ _ => (0 : Int)) ((xs 1).toInt) ((xs 2).toInt) ((xs 3).toInt) ((xs 4).toInt)) hM.1) (cwV 0 ht (good_V (fun _ h => h) t_784 t_781 t_782 t_783 t_7) rfl rfl rfl (by decide +kernel) ⟨Nat.le_of_ble_eq_true rfl, Nat.le_of_ble_eq_true rfl⟩) (mq_preV hK hlo hGO hG hw hS (hW.recv hK hw (ci := 6) rfl hM.1)) rfl rfl hl.1 rfl (lv_room (Nat.le_of_ble_eq_true rfl)) d_la_law_311 ⟨Nat.le_of_ble_eq_true rfl, Nat.le_of_ble_eq_true rfl⟩) hS (fun r3 f3 H locs hp hw hS => ?_)
  obtain ⟨rfl, -, -⟩ := hp
  rw [show (mPreV (va_up (fun _ => (0 : Int)) 12 1) (fun _ _ => (0 : Int)) ((xs 1).toInt) ((xs 2).toInt) ((xs 3).toInt) ((xs 4).toInt)) 0 = 1 from by unfold mPreV; rw [if_neg (fun z => by have h1 := z.1; have h2 : (xs 1).toInt < 0 := z.2.1; omega)]; rfl]
  refine lv_iload hx hb d_la_law_314 (lv_at hl 0 rfl) ?_
  refine mi_icmp_eq (tgt := 321) hx hb d_la_law_316 (by decide) (by decide) (by decide) (fun c_316 => ?_) (fun c_316 => ?_)
  · skip
    refine lv_goto (tgt := 788) hx hb d_la_law_321 (by decide) ?_
    exact law_end C0 (Nat.le_of_ble_eq_true rfl) (Nat.le_of_ble_eq_true rfl) hS (lv_sub hl [1, 5] rfl)
  · exact absurd c_316 (fun z => z rfl)
set_option maxHeartbeats 4000000 in
set_option maxRecDepth 100000 in
theorem law_c5 {p : Program} {l : Launch} {e : Env} {s : State} {m : MethodId} {below : List Frame} {meth : Method} {c : Code} {b : Nat} {xs : Nat → Int32} {D : va_G} {X : ClassId × ClassId × ClassId × ClassId} {lo t0 : Nat} {H : Heap} {locs : List Loc} {ls : Array Slot} {f : hM} {a am oa : Nat} (C : lwF p l s m meth c b xs D X lo t0) (hs0 : lwS X t0 f a am oa) (hw : hW D CL lo f H) (hS : va_S (fun q => lo ≤ q) s.heap H locs) (hl : lv_has ls 7 [(0, .ref b), (1, .ref a), (2, .ref am), (3, .ref oa), (4, .int (iI (0)))]) : W p l e room_1 s m #[Value.ref b] below meth c H locs 23 30042 (lw_Z below #[Value.ref b] s) (F0 m 490 ls []) := by
  have C0 := C
  obtain ⟨⟨hx, hb, hr, hml, hown, hts, hX, hbl, hlocks, hgv⟩, hK, hG, hl9, elo⟩ := C
  have hbA : ¬ (fun q : Nat => lo ≤ q) b := by show ¬ lo ≤ b; omega
  have ht : ∀ w ∈ TB, w.before #[Value.ref b] s = true := fun w hw => hts w (tb_l hw)
  have hown : s.vm.findClass "PacketOrderLaw" = some m.cls := hown
  have hlo : lo ≤ s.heap.size := by omega
  have hGO := Gv.ok lo t0
  have hNB := hG.1
  obtain ⟨⟨pb, pv, lc, lh, bc, bh, vc, vh, h0, hv4, hv9, hb5, hb8, hc1, hcz, hct, hh1, hhz, hht⟩, ⟨bm, A, hR⟩, ho⟩ := hs0
  refine lv_aload_n hx hb d_la_law_490 rfl (lv_at hl 1 rfl) ?_
  refine mq_callv (va_runV (As := []) (rest := []) ⟨hx, hb, hml, hown, ht⟩ (c_po_clear0 l D X lo t0 f a pb pv h0 lh bh vh hh1 hhz hht hb8) (cwV 0 ht (good_V (fun _ h => h) t_173 t_170 t_171 t_172 t_1) rfl rfl rfl (by decide +kernel) ⟨Nat.le_of_ble_eq_true rfl, Nat.le_of_ble_eq_true rfl⟩) (mq_preV hK hlo hGO hG hw hS (hW.recv hK hw (ci := 0) rfl h0)) rfl rfl hl.1 rfl (lv_room (Nat.le_of_ble_eq_true rfl)) d_la_law_491 ⟨Nat.le_of_ble_eq_true rfl, Nat.le_of_ble_eq_true rfl⟩) hS (fun f1 H locs hp hw hS => ?_)
  have hR := moR.fn hR hp (fun q hq => by rcases List.mem_cons.mp hq with rfl | hq; exact Or.inl ⟨0, _, by decide, h0⟩; rw [List.mem_singleton.mp hq]; exact Or.inl ⟨7, _, by decide, hh1⟩)
  refine lv_aload_n hx hb d_la_law_494 rfl (lv_at hl 2 rfl) ?_
  refine mq_callv (va_runV (As := []) (rest := []) ⟨hx, hb, hml, hown, ht⟩ (c_mo_clear l D X lo (Gv lo t0) hGO f1 am bm (va_up (fun _ => (0 : Int)) 12 1) A (fun _ _ => (0 : Int)) hR) (cwV 0 ht (good_V (fun _ h => h) t_816 t_813 t_814 t_815 t_7) rfl rfl rfl (by decide +kernel) ⟨Nat.le_of_ble_eq_true rfl, Nat.le_of_ble_eq_true rfl⟩) (mq_preV hK hlo hGO hG hw hS (hW.recv hK hw (ci := 6) rfl hR.1)) rfl rfl hl.1 rfl (lv_room (Nat.le_of_ble_eq_true rfl)) d_la_law_495 ⟨Nat.le_of_ble_eq_true rfl, Nat.le_of_ble_eq_true rfl⟩) hS (fun f2 H locs hp hw hS => ?_)
  refine lv_goto (tgt := 788) hx hb d_la_law_498 (by decide) ?_
  exact law_end C0 (Nat.le_of_ble_eq_true rfl) (Nat.le_of_ble_eq_true rfl) hS (lv_sub hl [0, 4] rfl)
set_option maxHeartbeats 4000000 in
set_option maxRecDepth 100000 in
theorem law_c6 {p : Program} {l : Launch} {e : Env} {s : State} {m : MethodId} {below : List Frame} {meth : Method} {c : Code} {b : Nat} {xs : Nat → Int32} {D : va_G} {X : ClassId × ClassId × ClassId × ClassId} {lo t0 : Nat} {H : Heap} {locs : List Loc} {ls : Array Slot} {f : hM} {a am oa : Nat} (C : lwF p l s m meth c b xs D X lo t0) (hs0 : lwS X t0 f a am oa) (hw : hW D CL lo f H) (hS : va_S (fun q => lo ≤ q) s.heap H locs) (hl : lv_has ls 7 [(0, .ref b), (1, .ref a), (2, .ref am), (3, .ref oa), (4, .int (iI (0)))]) : W p l e room_1 s m #[Value.ref b] below meth c H locs 23 30042 (lw_Z below #[Value.ref b] s) (F0 m 501 ls []) := by
  have C0 := C
  obtain ⟨⟨hx, hb, hr, hml, hown, hts, hX, hbl, hlocks, hgv⟩, hK, hG, hl9, elo⟩ := C
  have hbA : ¬ (fun q : Nat => lo ≤ q) b := by show ¬ lo ≤ b; omega
  have ht : ∀ w ∈ TB, w.before #[Value.ref b] s = true := fun w hw => hts w (tb_l hw)
  have hown : s.vm.findClass "PacketOrderLaw" = some m.cls := hown
  have hlo : lo ≤ s.heap.size := by omega
  have hGO := Gv.ok lo t0
  have hNB := hG.1
  obtain ⟨⟨pb, pv, lc, lh, bc, bh, vc, vh, h0, hv4, hv9, hb5, hb8, hc1, hcz, hct, hh1, hhz, hht⟩, ⟨bm, A, hR⟩, ho⟩ := hs0
  refine lv_aload_n hx hb d_la_law_501 rfl (lv_at hl 1 rfl) ?_
  refine lv_aload_n hx hb d_la_law_502 rfl (lv_at hl 3 rfl) ?_
  refine mq_calli (vx_runSW (As := [.ref a, .ref oa]) (rest := []) ⟨hx, hb, hml, hown, ht⟩ (c_la_begin l hl9 D X lo t0 f a pb pv h0 hv4 oa) (vx_cwSW 2 ht (good_S (fun _ h => h) t_481 t_479 t_480 t_0) rfl rfl rfl (by decide +kernel) ⟨Nat.le_of_ble_eq_true rfl, Nat.le_of_ble_eq_true rfl⟩) (mq_preS hK hlo hGO hG hw hS) rfl rfl hl.1 rfl (lv_room (Nat.le_of_ble_eq_true rfl)) d_la_law_503 ⟨Nat.le_of_ble_eq_true rfl, Nat.le_of_ble_eq_true rfl⟩) hS (fun r1 f1 H locs hp hw hS => ?_)
  obtain ⟨rfl, hfe⟩ := hp
  rw [← hfe] at hR
  refine lv_istore (lv' := [(5, .int (iI (1))), (0, .ref b), (1, .ref a), (2, .ref am), (3, .ref oa), (4, .int (iI (0)))]) hx hb d_la_law_506 hl (by decide) rfl (fun ls hl => ?_)
  refine lv_aload_n hx hb d_la_law_508 rfl (lv_at hl 3 rfl) ?_
  refine mq_calli (va_runV (As := []) (rest := []) ⟨hx, hb, hml, hown, ht⟩ (c_mo_begin0 l D X lo (Gv lo t0) hGO f1 am bm (va_up (fun _ => (0 : Int)) 12 1) A (fun _ _ => (0 : Int)) hR rfl) (cwV 0 ht (good_V (fun _ h => h) t_820 t_817 t_818 t_819 t_7) rfl rfl rfl (by decide +kernel) ⟨Nat.le_of_ble_eq_true rfl, Nat.le_of_ble_eq_true rfl⟩) (mq_preV hK hlo hGO hG hw hS (hW.recv hK hw (ci := 6) rfl hR.1)) rfl rfl hl.1 rfl (lv_room (Nat.le_of_ble_eq_true rfl)) d_la_law_509 ⟨Nat.le_of_ble_eq_true rfl, Nat.le_of_ble_eq_true rfl⟩) hS (fun r2 f2 H locs hp hw hS => ?_)
  obtain ⟨rfl, -, hM⟩ := hp
  refine lv_istore (lv' := [(6, .int (iI (0))), (5, .int (iI (1))), (0, .ref b), (1, .ref a), (2, .ref am), (3, .ref oa), (4, .int (iI (0)))]) hx hb d_la_law_512 hl (by decide) rfl (fun ls hl => ?_)
  refine lv_aload_n hx hb d_la_law_514 rfl (lv_at hl 4 rfl) ?_
  refine mq_calli (va_runV (As := []) (rest := []) ⟨hx, hb, hml, hown, ht⟩ (c_mo_thrown l D X lo (Gv lo t0) hGO f2 am bm (va_up (va_up (fun _ => (0 : Int)) 12 1) 0 (1)) hM.1) (cwV 0 ht (good_V (fun _ h => h) t_784 t_781 t_782 t_783 t_7) rfl rfl rfl (by decide +kernel) ⟨Nat.le_of_ble_eq_true rfl, Nat.le_of_ble_eq_true rfl⟩) (mq_preV hK hlo hGO hG hw hS (hW.recv hK hw (ci := 6) rfl hM.1)) rfl rfl hl.1 rfl (lv_room (Nat.le_of_ble_eq_true rfl)) d_la_law_515 ⟨Nat.le_of_ble_eq_true rfl, Nat.le_of_ble_eq_true rfl⟩) hS (fun r3 f3 H locs hp hw hS => ?_)
  obtain ⟨rfl, -, -⟩ := hp
  rw [show (va_up (va_up (fun _ => (0 : Int)) 12 1) 0 (1)) 0 = 1 from rfl]
  refine lv_iload hx hb d_la_law_518 (lv_at hl 1 rfl) ?_
  refine mi_icmp_eq (tgt := 525) hx hb d_la_law_520 (by decide) (by decide) (by decide) (fun c_520 => ?_) (fun c_520 => ?_)
  · skip
    refine lv_iload hx hb d_la_law_525 (lv_at hl 1 rfl) ?_
    refine mi_if_ne (tgt := 542) hx hb d_la_law_527 (by decide) (by decide) (fun c_527 => ?_) (fun c_527 => ?_)
    · skip
      refine lv_goto (tgt := 788) hx hb d_la_law_542 (by decide) ?_
      exact law_end C0 (Nat.le_of_ble_eq_true rfl) (Nat.le_of_ble_eq_true rfl) hS (lv_sub hl [2, 6] rfl)
    · exact absurd c_527 (by omega)
  · exact absurd c_520 (fun z => z rfl)
set_option maxHeartbeats 4000000 in
set_option maxRecDepth 100000 in
theorem law_c7 {p : Program} {l : Launch} {e : Env} {s : State} {m : MethodId} {below : List Frame} {meth : Method} {c : Code} {b : Nat} {xs : Nat → Int32} {D : va_G} {X : ClassId × ClassId × ClassId × ClassId} {lo t0 : Nat} {H : Heap} {locs : List Loc} {ls : Array Slot} {f : hM} {a am oa : Nat} (C : lwF p l s m meth c b xs D X lo t0) (hs0 : lwS X t0 f a am oa) (hw : hW D CL lo f H) (hS : va_S (fun q => lo ≤ q) s.heap H locs) (hl : lv_has ls 7 [(0, .ref b), (1, .ref a), (2, .ref am), (3, .ref oa), (4, .int (iI (0)))]) : W p l e room_1 s m #[Value.ref b] below meth c H locs 23 30042 (lw_Z below #[Value.ref b] s) (F0 m 545 ls []) := by
  have C0 := C
  obtain ⟨⟨hx, hb, hr, hml, hown, hts, hX, hbl, hlocks, hgv⟩, hK, hG, hl9, elo⟩ := C
  have hbA : ¬ (fun q : Nat => lo ≤ q) b := by show ¬ lo ≤ b; omega
  have ht : ∀ w ∈ TB, w.before #[Value.ref b] s = true := fun w hw => hts w (tb_l hw)
  have hown : s.vm.findClass "PacketOrderLaw" = some m.cls := hown
  have hlo : lo ≤ s.heap.size := by omega
  have hGO := Gv.ok lo t0
  have hNB := hG.1
  obtain ⟨⟨pb, pv, lc, lh, bc, bh, vc, vh, h0, hv4, hv9, hb5, hb8, hc1, hcz, hct, hh1, hhz, hht⟩, ⟨bm, A, hR⟩, ho⟩ := hs0
  refine lv_aload_n hx hb d_la_law_545 rfl (lv_at hl 1 rfl) ?_
  refine lv_aload_n hx hb d_la_law_546 rfl (lv_at hl 3 rfl) ?_
  refine mq_calli (vx_runSW (As := [.ref a, .ref oa]) (rest := []) ⟨hx, hb, hml, hown, ht⟩ (c_la_next l hl9 D X lo t0 f a pb pv h0 hv9 oa) (vx_cwSW 2 ht (good_S (fun _ h => h) t_551 t_549 t_550 t_0) rfl rfl rfl (by decide +kernel) ⟨Nat.le_of_ble_eq_true rfl, Nat.le_of_ble_eq_true rfl⟩) (mq_preS hK hlo hGO hG hw hS) rfl rfl hl.1 rfl (lv_room (Nat.le_of_ble_eq_true rfl)) d_la_law_547 ⟨Nat.le_of_ble_eq_true rfl, Nat.le_of_ble_eq_true rfl⟩) hS (fun r1 f1 H locs hp hw hS => ?_)
  obtain ⟨rfl, hfe⟩ := hp
  rw [← hfe] at hR
  refine lv_istore (lv' := [(5, .int (iI (1))), (0, .ref b), (1, .ref a), (2, .ref am), (3, .ref oa), (4, .int (iI (0)))]) hx hb d_la_law_550 hl (by decide) rfl (fun ls hl => ?_)
  refine lv_aload_n hx hb d_la_law_552 rfl (lv_at hl 3 rfl) ?_
  refine mq_calli (va_runV (As := []) (rest := []) ⟨hx, hb, hml, hown, ht⟩ (c_mo_next0 l D X lo (Gv lo t0) hGO f1 am bm (va_up (fun _ => (0 : Int)) 12 1) A (fun _ _ => (0 : Int)) hR rfl) (cwV 0 ht (good_V (fun _ h => h) t_894 t_891 t_892 t_893 t_7) rfl rfl rfl (by decide +kernel) ⟨Nat.le_of_ble_eq_true rfl, Nat.le_of_ble_eq_true rfl⟩) (mq_preV hK hlo hGO hG hw hS (hW.recv hK hw (ci := 6) rfl hR.1)) rfl rfl hl.1 rfl (lv_room (Nat.le_of_ble_eq_true rfl)) d_la_law_553 ⟨Nat.le_of_ble_eq_true rfl, Nat.le_of_ble_eq_true rfl⟩) hS (fun r2 f2 H locs hp hw hS => ?_)
  obtain ⟨rfl, -, hM⟩ := hp
  refine lv_istore (lv' := [(6, .int (iI (0))), (5, .int (iI (1))), (0, .ref b), (1, .ref a), (2, .ref am), (3, .ref oa), (4, .int (iI (0)))]) hx hb d_la_law_556 hl (by decide) rfl (fun ls hl => ?_)
  refine lv_aload_n hx hb d_la_law_558 rfl (lv_at hl 4 rfl) ?_
  refine mq_calli (va_runV (As := []) (rest := []) ⟨hx, hb, hml, hown, ht⟩ (c_mo_thrown l D X lo (Gv lo t0) hGO f2 am bm (va_up (va_up (fun _ => (0 : Int)) 12 1) 0 (1)) hM.1) (cwV 0 ht (good_V (fun _ h => h) t_784 t_781 t_782 t_783 t_7) rfl rfl rfl (by decide +kernel) ⟨Nat.le_of_ble_eq_true rfl, Nat.le_of_ble_eq_true rfl⟩) (mq_preV hK hlo hGO hG hw hS (hW.recv hK hw (ci := 6) rfl hM.1)) rfl rfl hl.1 rfl (lv_room (Nat.le_of_ble_eq_true rfl)) d_la_law_559 ⟨Nat.le_of_ble_eq_true rfl, Nat.le_of_ble_eq_true rfl⟩) hS (fun r3 f3 H locs hp hw hS => ?_)
  obtain ⟨rfl, -, -⟩ := hp
  rw [show (va_up (va_up (fun _ => (0 : Int)) 12 1) 0 (1)) 0 = 1 from rfl]
  refine lv_iload hx hb d_la_law_562 (lv_at hl 1 rfl) ?_
  refine mi_icmp_eq (tgt := 569) hx hb d_la_law_564 (by decide) (by decide) (by decide) (fun c_564 => ?_) (fun c_564 => ?_)
  · skip
    refine lv_iload hx hb d_la_law_569 (lv_at hl 1 rfl) ?_
    refine mi_if_ne (tgt := 593) hx hb d_la_law_571 (by decide) (by decide) (fun c_571 => ?_) (fun c_571 => ?_)
    · skip
      refine lv_goto (tgt := 788) hx hb d_la_law_593 (by decide) ?_
      exact law_end C0 (Nat.le_of_ble_eq_true rfl) (Nat.le_of_ble_eq_true rfl) hS (lv_sub hl [2, 6] rfl)
    · exact absurd c_571 (by omega)
  · exact absurd c_564 (fun z => z rfl)
set_option maxHeartbeats 4000000 in
set_option maxRecDepth 100000 in
theorem law_c8 {p : Program} {l : Launch} {e : Env} {s : State} {m : MethodId} {below : List Frame} {meth : Method} {c : Code} {b : Nat} {xs : Nat → Int32} {D : va_G} {X : ClassId × ClassId × ClassId × ClassId} {lo t0 : Nat} {H : Heap} {locs : List Loc} {ls : Array Slot} {f : hM} {a am oa : Nat} (C : lwF p l s m meth c b xs D X lo t0) (hs0 : lwS X t0 f a am oa) (hw : hW D CL lo f H) (hS : va_S (fun q => lo ≤ q) s.heap H locs) (hl : lv_has ls 7 [(0, .ref b), (1, .ref a), (2, .ref am), (3, .ref oa), (4, .int (iI (0)))]) : W p l e room_1 s m #[Value.ref b] below meth c H locs 23 30042 (lw_Z below #[Value.ref b] s) (F0 m 596 ls []) := by
  have C0 := C
  obtain ⟨⟨hx, hb, hr, hml, hown, hts, hX, hbl, hlocks, hgv⟩, hK, hG, hl9, elo⟩ := C
  have hbA : ¬ (fun q : Nat => lo ≤ q) b := by show ¬ lo ≤ b; omega
  have ht : ∀ w ∈ TB, w.before #[Value.ref b] s = true := fun w hw => hts w (tb_l hw)
  have hown : s.vm.findClass "PacketOrderLaw" = some m.cls := hown
  have hlo : lo ≤ s.heap.size := by omega
  have hGO := Gv.ok lo t0
  have hNB := hG.1
  obtain ⟨⟨pb, pv, lc, lh, bc, bh, vc, vh, h0, hv4, hv9, hb5, hb8, hc1, hcz, hct, hh1, hhz, hht⟩, ⟨bm, A, hR⟩, ho⟩ := hs0
  refine lv_aload_n hx hb d_la_law_596 rfl (lv_at hl 1 rfl) ?_
  refine lv_aload_n hx hb d_la_law_597 rfl (lv_at hl 0 rfl) ?_
  refine lv_iload hx hb d_la_law_598 (lv_at hl 4 rfl) ?_
  refine mi_iconst hx hb d_la_law_600 ?_
  refine mi_iadd hx hb d_la_law_601 ?_
  refine ml_sld hx hb hX hbl hbA hS 1 (by decide) (by decide) (by decide) d_la_law_602 ?_
  refine lv_aload_n hx hb d_la_law_603 rfl (lv_at hl 3 rfl) ?_
  refine mq_calli (vx_runSW (As := [.ref a, .int (iI ((xs 1).toInt)), .ref oa]) (rest := []) ⟨hx, hb, hml, hown, ht⟩ (c_la_skip l hl9 D X lo t0 f a pb pv h0 hv9 ((xs 1).toInt) (iR_of (xs 1)) oa) (vx_cwSW 3 ht (good_S (fun _ h => h) t_627 t_625 t_626 t_0) rfl rfl rfl (by decide +kernel) ⟨Nat.le_of_ble_eq_true rfl, Nat.le_of_ble_eq_true rfl⟩) (mq_preS hK hlo hGO hG hw hS) rfl rfl hl.1 rfl (lv_room (Nat.le_of_ble_eq_true rfl)) d_la_law_604 ⟨Nat.le_of_ble_eq_true rfl, Nat.le_of_ble_eq_true rfl⟩) hS (fun r1 f1 H locs hp hw hS => ?_)
  obtain ⟨rfl, hfe⟩ := hp
  rw [← hfe] at hR
  refine lv_istore (lv' := [(5, .int (iI (if (xs 1).toInt < 0 then 1 else 2))), (0, .ref b), (1, .ref a), (2, .ref am), (3, .ref oa), (4, .int (iI (0)))]) hx hb d_la_law_607 hl (by decide) rfl (fun ls hl => ?_)
  refine lv_aload_n hx hb d_la_law_609 rfl (lv_at hl 3 rfl) ?_
  refine lv_aload_n hx hb d_la_law_610 rfl (lv_at hl 1 rfl) ?_
  refine lv_iload hx hb d_la_law_611 (lv_at hl 5 rfl) ?_
  refine mi_iconst hx hb d_la_law_613 ?_
  refine mi_iadd hx hb d_la_law_614 ?_
  refine ml_sld hx hb hX hbl hbA hS 1 (by decide) (by decide) (by decide) d_la_law_615 ?_
  refine mq_calli (va_runV (As := [.int (iI ((xs 1).toInt))]) (rest := []) ⟨hx, hb, hml, hown, ht⟩ (c_mo_skip0 l D X lo (Gv lo t0) hGO f1 am bm (va_up (fun _ => (0 : Int)) 12 1) A (fun _ _ => (0 : Int)) hR rfl ((xs 1).toInt) (iR_of (xs 1))) (cwV 1 ht (good_V (fun _ h => h) t_914 t_911 t_912 t_913 t_7) rfl rfl rfl (by decide +kernel) ⟨Nat.le_of_ble_eq_true rfl, Nat.le_of_ble_eq_true rfl⟩) (mq_preV hK hlo hGO hG hw hS (hW.recv hK hw (ci := 6) rfl hR.1)) rfl rfl hl.1 rfl (lv_room (Nat.le_of_ble_eq_true rfl)) d_la_law_616 ⟨Nat.le_of_ble_eq_true rfl, Nat.le_of_ble_eq_true rfl⟩) hS (fun r2 f2 H locs hp hw hS => ?_)
  obtain ⟨rfl, -, hM⟩ := hp
  refine lv_istore (lv' := [(6, .int (iI (0))), (5, .int (iI (if (xs 1).toInt < 0 then 1 else 2))), (0, .ref b), (1, .ref a), (2, .ref am), (3, .ref oa), (4, .int (iI (0)))]) hx hb d_la_law_619 hl (by decide) rfl (fun ls hl => ?_)
  refine lv_aload_n hx hb d_la_law_621 rfl (lv_at hl 4 rfl) ?_
  refine mq_calli (va_runV (As := []) (rest := []) ⟨hx, hb, hml, hown, ht⟩ (c_mo_thrown l D X lo (Gv lo t0) hGO f2 am bm (va_up (va_up (fun _ => (0 : Int)) 12 1) 0 (if (xs 1).toInt < 0 then 1 else 2)) hM.1) (cwV 0 ht (good_V (fun _ h => h) t_784 t_781 t_782 t_783 t_7) rfl rfl rfl (by decide +kernel) ⟨Nat.le_of_ble_eq_true rfl, Nat.le_of_ble_eq_true rfl⟩) (mq_preV hK hlo hGO hG hw hS (hW.recv hK hw (ci := 6) rfl hM.1)) rfl rfl hl.1 rfl (lv_room (Nat.le_of_ble_eq_true rfl)) d_la_law_622 ⟨Nat.le_of_ble_eq_true rfl, Nat.le_of_ble_eq_true rfl⟩) hS (fun r3 f3 H locs hp hw hS => ?_)
  obtain ⟨rfl, -, -⟩ := hp
  rw [show (va_up (va_up (fun _ => (0 : Int)) 12 1) 0 (if (xs 1).toInt < 0 then 1 else 2)) 0 = if (xs 1).toInt < 0 then 1 else 2 from rfl]
  refine lv_iload hx hb d_la_law_625 (lv_at hl 1 rfl) ?_
  refine mi_icmp_eq (tgt := 632) hx hb d_la_law_627 (by decide) (by split <;> decide) (by split <;> decide) (fun c_627 => ?_) (fun c_627 => ?_)
  · skip
    refine lv_iload hx hb d_la_law_632 (lv_at hl 1 rfl) ?_
    refine mi_if_ne (tgt := 649) hx hb d_la_law_634 (by decide) (by split <;> decide) (fun c_634 => ?_) (fun c_634 => ?_)
    · skip
      refine lv_goto (tgt := 788) hx hb d_la_law_649 (by decide) ?_
      exact law_end C0 (Nat.le_of_ble_eq_true rfl) (Nat.le_of_ble_eq_true rfl) hS (lv_sub hl [2, 6] rfl)
    · exact absurd c_634 (by split <;> omega)
  · exact absurd c_627 (fun z => z rfl)
set_option maxHeartbeats 4000000 in
set_option maxRecDepth 100000 in
theorem law_c9 {p : Program} {l : Launch} {e : Env} {s : State} {m : MethodId} {below : List Frame} {meth : Method} {c : Code} {b : Nat} {xs : Nat → Int32} {D : va_G} {X : ClassId × ClassId × ClassId × ClassId} {lo t0 : Nat} {H : Heap} {locs : List Loc} {ls : Array Slot} {f : hM} {a am oa : Nat} (C : lwF p l s m meth c b xs D X lo t0) (hs0 : lwS X t0 f a am oa) (hw : hW D CL lo f H) (hS : va_S (fun q => lo ≤ q) s.heap H locs) (hl : lv_has ls 7 [(0, .ref b), (1, .ref a), (2, .ref am), (3, .ref oa), (4, .int (iI (0)))]) : W p l e room_1 s m #[Value.ref b] below meth c H locs 23 30042 (lw_Z below #[Value.ref b] s) (F0 m 652 ls []) := by
  have C0 := C
  obtain ⟨⟨hx, hb, hr, hml, hown, hts, hX, hbl, hlocks, hgv⟩, hK, hG, hl9, elo⟩ := C
  have hbA : ¬ (fun q : Nat => lo ≤ q) b := by show ¬ lo ≤ b; omega
  have ht : ∀ w ∈ TB, w.before #[Value.ref b] s = true := fun w hw => hts w (tb_l hw)
  have hown : s.vm.findClass "PacketOrderLaw" = some m.cls := hown
  have hlo : lo ≤ s.heap.size := by omega
  have hGO := Gv.ok lo t0
  have hNB := hG.1
  obtain ⟨⟨pb, pv, lc, lh, bc, bh, vc, vh, h0, hv4, hv9, hb5, hb8, hc1, hcz, hct, hh1, hhz, hht⟩, ⟨bm, A, hR⟩, ho⟩ := hs0
  refine lv_aload_n hx hb d_la_law_652 rfl (lv_at hl 1 rfl) ?_
  refine lv_aload_n hx hb d_la_law_653 rfl (lv_at hl 0 rfl) ?_
  refine lv_iload hx hb d_la_law_654 (lv_at hl 4 rfl) ?_
  refine mi_iconst hx hb d_la_law_656 ?_
  refine mi_iadd hx hb d_la_law_657 ?_
  refine ml_sld hx hb hX hbl hbA hS 1 (by decide) (by decide) (by decide) d_la_law_658 ?_
  refine lv_aload_n hx hb d_la_law_659 rfl (lv_at hl 3 rfl) ?_
  refine mq_calli (vx_runSW (As := [.ref a, .int (iI ((xs 1).toInt)), .ref oa]) (rest := []) ⟨hx, hb, hml, hown, ht⟩ (c_la_packet l hl9 D X lo t0 f a pb pv h0 hv9 ((xs 1).toInt) (iR_of (xs 1)) oa) (vx_cwSW 3 ht (good_S (fun _ h => h) t_635 t_633 t_634 t_0) rfl rfl rfl (by decide +kernel) ⟨Nat.le_of_ble_eq_true rfl, Nat.le_of_ble_eq_true rfl⟩) (mq_preS hK hlo hGO hG hw hS) rfl rfl hl.1 rfl (lv_room (Nat.le_of_ble_eq_true rfl)) d_la_law_660 ⟨Nat.le_of_ble_eq_true rfl, Nat.le_of_ble_eq_true rfl⟩) hS (fun r1 f1 H locs hp hw hS => ?_)
  obtain ⟨rfl, hfe⟩ := hp
  rw [← hfe] at hR
  refine lv_istore (lv' := [(5, .int (iI (1))), (0, .ref b), (1, .ref a), (2, .ref am), (3, .ref oa), (4, .int (iI (0)))]) hx hb d_la_law_663 hl (by decide) rfl (fun ls hl => ?_)
  refine lv_aload_n hx hb d_la_law_665 rfl (lv_at hl 3 rfl) ?_
  refine lv_aload_n hx hb d_la_law_666 rfl (lv_at hl 1 rfl) ?_
  refine lv_iload hx hb d_la_law_667 (lv_at hl 5 rfl) ?_
  refine mi_iconst hx hb d_la_law_669 ?_
  refine mi_iadd hx hb d_la_law_670 ?_
  refine ml_sld hx hb hX hbl hbA hS 1 (by decide) (by decide) (by decide) d_la_law_671 ?_
  refine mq_calli (va_runV (As := [.int (iI ((xs 1).toInt))]) (rest := []) ⟨hx, hb, hml, hown, ht⟩ (c_mo_packet0 l D X lo (Gv lo t0) hGO f1 am bm (va_up (fun _ => (0 : Int)) 12 1) A (fun _ _ => (0 : Int)) hR rfl ((xs 1).toInt) (iR_of (xs 1))) (cwV 1 ht (good_V (fun _ h => h) t_918 t_915 t_916 t_917 t_7) rfl rfl rfl (by decide +kernel) ⟨Nat.le_of_ble_eq_true rfl, Nat.le_of_ble_eq_true rfl⟩) (mq_preV hK hlo hGO hG hw hS (hW.recv hK hw (ci := 6) rfl hR.1)) rfl rfl hl.1 rfl (lv_room (Nat.le_of_ble_eq_true rfl)) d_la_law_672 ⟨Nat.le_of_ble_eq_true rfl, Nat.le_of_ble_eq_true rfl⟩) hS (fun r2 f2 H locs hp hw hS => ?_)
  obtain ⟨rfl, -, hM⟩ := hp
  refine lv_istore (lv' := [(6, .int (iI (0))), (5, .int (iI (1))), (0, .ref b), (1, .ref a), (2, .ref am), (3, .ref oa), (4, .int (iI (0)))]) hx hb d_la_law_675 hl (by decide) rfl (fun ls hl => ?_)
  refine lv_aload_n hx hb d_la_law_677 rfl (lv_at hl 4 rfl) ?_
  refine mq_calli (va_runV (As := []) (rest := []) ⟨hx, hb, hml, hown, ht⟩ (c_mo_thrown l D X lo (Gv lo t0) hGO f2 am bm (va_up (va_up (fun _ => (0 : Int)) 12 1) 0 (1)) hM.1) (cwV 0 ht (good_V (fun _ h => h) t_784 t_781 t_782 t_783 t_7) rfl rfl rfl (by decide +kernel) ⟨Nat.le_of_ble_eq_true rfl, Nat.le_of_ble_eq_true rfl⟩) (mq_preV hK hlo hGO hG hw hS (hW.recv hK hw (ci := 6) rfl hM.1)) rfl rfl hl.1 rfl (lv_room (Nat.le_of_ble_eq_true rfl)) d_la_law_678 ⟨Nat.le_of_ble_eq_true rfl, Nat.le_of_ble_eq_true rfl⟩) hS (fun r3 f3 H locs hp hw hS => ?_)
  obtain ⟨rfl, -, -⟩ := hp
  rw [show (va_up (va_up (fun _ => (0 : Int)) 12 1) 0 (1)) 0 = 1 from rfl]
  refine lv_iload hx hb d_la_law_681 (lv_at hl 1 rfl) ?_
  refine mi_icmp_eq (tgt := 688) hx hb d_la_law_683 (by decide) (by decide) (by decide) (fun c_683 => ?_) (fun c_683 => ?_)
  · skip
    refine lv_iload hx hb d_la_law_688 (lv_at hl 1 rfl) ?_
    refine mi_if_ne (tgt := 705) hx hb d_la_law_690 (by decide) (by decide) (fun c_690 => ?_) (fun c_690 => ?_)
    · skip
      refine lv_goto (tgt := 788) hx hb d_la_law_705 (by decide) ?_
      exact law_end C0 (Nat.le_of_ble_eq_true rfl) (Nat.le_of_ble_eq_true rfl) hS (lv_sub hl [2, 6] rfl)
    · exact absurd c_690 (by omega)
  · exact absurd c_683 (fun z => z rfl)
set_option maxHeartbeats 4000000 in
set_option maxRecDepth 100000 in
theorem law_c10 {p : Program} {l : Launch} {e : Env} {s : State} {m : MethodId} {below : List Frame} {meth : Method} {c : Code} {b : Nat} {xs : Nat → Int32} {D : va_G} {X : ClassId × ClassId × ClassId × ClassId} {lo t0 : Nat} {H : Heap} {locs : List Loc} {ls : Array Slot} {f : hM} {a am oa : Nat} (C : lwF p l s m meth c b xs D X lo t0) (hs0 : lwS X t0 f a am oa) (hw : hW D CL lo f H) (hS : va_S (fun q => lo ≤ q) s.heap H locs) (hl : lv_has ls 7 [(0, .ref b), (1, .ref a), (2, .ref am), (3, .ref oa), (4, .int (iI (0)))]) : W p l e room_1 s m #[Value.ref b] below meth c H locs 23 30042 (lw_Z below #[Value.ref b] s) (F0 m 708 ls []) := by
  have C0 := C
  obtain ⟨⟨hx, hb, hr, hml, hown, hts, hX, hbl, hlocks, hgv⟩, hK, hG, hl9, elo⟩ := C
  have hbA : ¬ (fun q : Nat => lo ≤ q) b := by show ¬ lo ≤ b; omega
  have ht : ∀ w ∈ TB, w.before #[Value.ref b] s = true := fun w hw => hts w (tb_l hw)
  have hown : s.vm.findClass "PacketOrderLaw" = some m.cls := hown
  have hlo : lo ≤ s.heap.size := by omega
  have hGO := Gv.ok lo t0
  have hNB := hG.1
  obtain ⟨⟨pb, pv, lc, lh, bc, bh, vc, vh, h0, hv4, hv9, hb5, hb8, hc1, hcz, hct, hh1, hhz, hht⟩, ⟨bm, A, hR⟩, ho⟩ := hs0
  refine lv_aload_n hx hb d_la_law_708 rfl (lv_at hl 1 rfl) ?_
  refine lv_aload_n hx hb d_la_law_709 rfl (lv_at hl 0 rfl) ?_
  refine lv_iload hx hb d_la_law_710 (lv_at hl 4 rfl) ?_
  refine mi_iconst hx hb d_la_law_712 ?_
  refine mi_iadd hx hb d_la_law_713 ?_
  refine ml_sld hx hb hX hbl hbA hS 1 (by decide) (by decide) (by decide) d_la_law_714 ?_
  refine lv_aload_n hx hb d_la_law_715 rfl (lv_at hl 0 rfl) ?_
  refine lv_iload hx hb d_la_law_716 (lv_at hl 4 rfl) ?_
  refine mi_iconst hx hb d_la_law_718 ?_
  refine mi_iadd hx hb d_la_law_719 ?_
  refine ml_sld hx hb hX hbl hbA hS 2 (by decide) (by decide) (by decide) d_la_law_720 ?_
  refine lv_aload_n hx hb d_la_law_721 rfl (lv_at hl 0 rfl) ?_
  refine lv_iload hx hb d_la_law_722 (lv_at hl 4 rfl) ?_
  refine mi_iconst hx hb d_la_law_724 ?_
  refine mi_iadd hx hb d_la_law_725 ?_
  refine ml_sld hx hb hX hbl hbA hS 3 (by decide) (by decide) (by decide) d_la_law_726 ?_
  refine lv_aload_n hx hb d_la_law_727 rfl (lv_at hl 3 rfl) ?_
  refine mq_calli (vx_runSW (As := [.ref a, .int (iI ((xs 1).toInt)), .int (iI ((xs 2).toInt)), .int (iI ((xs 3).toInt)), .ref oa]) (rest := []) ⟨hx, hb, hml, hown, ht⟩ (c_la_came l hl9 D X lo t0 f a pb pv h0 hv9 ((xs 1).toInt) ((xs 2).toInt) ((xs 3).toInt) (iR_of (xs 1)) (iR_of (xs 2)) (iR_of (xs 3)) oa) (vx_cwSW 5 ht (good_S (fun _ h => h) t_654 t_652 t_653 t_0) rfl rfl rfl (by decide +kernel) ⟨Nat.le_of_ble_eq_true rfl, Nat.le_of_ble_eq_true rfl⟩) (mq_preS hK hlo hGO hG hw hS) rfl rfl hl.1 rfl (lv_room (Nat.le_of_ble_eq_true rfl)) d_la_law_728 ⟨Nat.le_of_ble_eq_true rfl, Nat.le_of_ble_eq_true rfl⟩) hS (fun r1 f1 H locs hp hw hS => ?_)
  obtain ⟨rfl, hfe⟩ := hp
  rw [← hfe] at hR
  refine lv_istore (lv' := [(5, .int (iI (1))), (0, .ref b), (1, .ref a), (2, .ref am), (3, .ref oa), (4, .int (iI (0)))]) hx hb d_la_law_731 hl (by decide) rfl (fun ls hl => ?_)
  refine lv_aload_n hx hb d_la_law_733 rfl (lv_at hl 3 rfl) ?_
  refine lv_aload_n hx hb d_la_law_734 rfl (lv_at hl 1 rfl) ?_
  refine lv_iload hx hb d_la_law_735 (lv_at hl 5 rfl) ?_
  refine mi_iconst hx hb d_la_law_737 ?_
  refine mi_iadd hx hb d_la_law_738 ?_
  refine ml_sld hx hb hX hbl hbA hS 1 (by decide) (by decide) (by decide) d_la_law_739 ?_
  refine lv_aload_n hx hb d_la_law_740 rfl (lv_at hl 1 rfl) ?_
  refine lv_iload hx hb d_la_law_741 (lv_at hl 5 rfl) ?_
  refine mi_iconst hx hb d_la_law_743 ?_
  refine mi_iadd hx hb d_la_law_744 ?_
  refine ml_sld hx hb hX hbl hbA hS 2 (by decide) (by decide) (by decide) d_la_law_745 ?_
  refine lv_aload_n hx hb d_la_law_746 rfl (lv_at hl 1 rfl) ?_
  refine lv_iload hx hb d_la_law_747 (lv_at hl 5 rfl) ?_
  refine mi_iconst hx hb d_la_law_749 ?_
  refine mi_iadd hx hb d_la_law_750 ?_
  refine ml_sld hx hb hX hbl hbA hS 3 (by decide) (by decide) (by decide) d_la_law_751 ?_
  refine mq_calli (va_runV (As := [.int (iI ((xs 1).toInt)), .int (iI ((xs 2).toInt)), .int (iI ((xs 3).toInt))]) (rest := []) ⟨hx, hb, hml, hown, ht⟩ (c_mo_came0 l D X lo (Gv lo t0) hGO f1 am bm (va_up (fun _ => (0 : Int)) 12 1) A (fun _ _ => (0 : Int)) hR rfl ((xs 1).toInt) ((xs 2).toInt) ((xs 3).toInt) (iR_of (xs 1)) (iR_of (xs 2)) (iR_of (xs 3))) (cwV 3 ht (good_V (fun _ h => h) t_922 t_919 t_920 t_921 t_7) rfl rfl rfl (by decide +kernel) ⟨Nat.le_of_ble_eq_true rfl, Nat.le_of_ble_eq_true rfl⟩) (mq_preV hK hlo hGO hG hw hS (hW.recv hK hw (ci := 6) rfl hR.1)) rfl rfl hl.1 rfl (lv_room (Nat.le_of_ble_eq_true rfl)) d_la_law_752 ⟨Nat.le_of_ble_eq_true rfl, Nat.le_of_ble_eq_true rfl⟩) hS (fun r2 f2 H locs hp hw hS => ?_)
  obtain ⟨rfl, -, hM⟩ := hp
  refine lv_istore (lv' := [(6, .int (iI (0))), (5, .int (iI (1))), (0, .ref b), (1, .ref a), (2, .ref am), (3, .ref oa), (4, .int (iI (0)))]) hx hb d_la_law_755 hl (by decide) rfl (fun ls hl => ?_)
  refine lv_aload_n hx hb d_la_law_757 rfl (lv_at hl 4 rfl) ?_
  refine mq_calli (va_runV (As := []) (rest := []) ⟨hx, hb, hml, hown, ht⟩ (c_mo_thrown l D X lo (Gv lo t0) hGO f2 am bm (va_up (va_up (fun _ => (0 : Int)) 12 1) 0 (1)) hM.1) (cwV 0 ht (good_V (fun _ h => h) t_784 t_781 t_782 t_783 t_7) rfl rfl rfl (by decide +kernel) ⟨Nat.le_of_ble_eq_true rfl, Nat.le_of_ble_eq_true rfl⟩) (mq_preV hK hlo hGO hG hw hS (hW.recv hK hw (ci := 6) rfl hM.1)) rfl rfl hl.1 rfl (lv_room (Nat.le_of_ble_eq_true rfl)) d_la_law_758 ⟨Nat.le_of_ble_eq_true rfl, Nat.le_of_ble_eq_true rfl⟩) hS (fun r3 f3 H locs hp hw hS => ?_)
  obtain ⟨rfl, -, -⟩ := hp
  rw [show (va_up (va_up (fun _ => (0 : Int)) 12 1) 0 (1)) 0 = 1 from rfl]
  refine lv_iload hx hb d_la_law_761 (lv_at hl 1 rfl) ?_
  refine mi_icmp_eq (tgt := 768) hx hb d_la_law_763 (by decide) (by decide) (by decide) (fun c_763 => ?_) (fun c_763 => ?_)
  · skip
    refine lv_iload hx hb d_la_law_768 (lv_at hl 1 rfl) ?_
    refine mi_if_ne (tgt := 785) hx hb d_la_law_770 (by decide) (by decide) (fun c_770 => ?_) (fun c_770 => ?_)
    · skip
      refine lv_goto (tgt := 788) hx hb d_la_law_785 (by decide) ?_
      exact law_end C0 (Nat.le_of_ble_eq_true rfl) (Nat.le_of_ble_eq_true rfl) hS (lv_sub hl [2, 6] rfl)
    · exact absurd c_770 (by omega)
  · exact absurd c_763 (fun z => z rfl)
