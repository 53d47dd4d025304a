/-! the law's helpers: a call on a fresh object, and what it threw -/
set_option maxHeartbeats 4000000 in
set_option maxRecDepth 100000 in
theorem c_la_tile (l : Launch) (hl9 : l.stackTraces = false) (D : va_G) (X : ClassId × ClassId × ClassId × ClassId) (lo t0 : Nat) (f : hM) (a : Nat) (b : Nat → Option Nat) (v : Nat → Int) (h0 : f a = some (eO 0 (oF sh_po b v))) (x0 y0 x1 y1 : Int) (r0 : iR x0) (r1 : iR y0) (r2 : iR x1) (r3 : iR y1) : Met l y_la_tile (Cond.codeWith y_la_tile b_la_tile 6 (some FieldType.int) [(0, 9, 12, 13)] :: TB) ({ frames := 7, cells := 1, slots := 6, locals := 130 } : Room) (va_Pc [.ref a, .int (iI (x0)), .int (iI (y0)), .int (iI (x1)), .int (iI (y1))] (Bq D CL (TYS X) lo (Gv lo t0) f)) (va_Qi (fun r f1 => r = iI (if gTile x0 y0 x1 y1 then 0 else 1) ∧ Fn [a] f f1) (Bq D CL (TYS X) lo (Gv lo t0)) (fun q => lo ≤ q)) 1 6 (fun q => lo ≤ q) := by
  refine mth (by decide) (Nat.le_of_ble_eq_true rfl) ?_
  intro p e s m args below meth cd ls hx hb hr hml hown ht hlocks hnm hK hlo hG hw hS hl hTab
  have hl : lv_has ls 6 [(0, .ref a), (1, .int (iI (x0))), (2, .int (iI (y0))), (3, .int (iI (x1))), (4, .int (iI (y1)))] := hl
  have hGO := Gv.ok lo t0
  have hNB := hG.1
  generalize hQ : MQ below _ args s _ _ _ = Q
  have hF : Fn [a] f f := Fn.rf
  refine lv_aload_n hx hb d_la_tile_0 rfl (lv_at hl 0 rfl) ?_
  refine lv_iload_n hx hb d_la_tile_1 rfl (lv_at hl 1 rfl) ?_
  refine lv_iload_n hx hb d_la_tile_2 rfl (lv_at hl 2 rfl) ?_
  refine lv_iload_n hx hb d_la_tile_3 rfl (lv_at hl 3 rfl) ?_
  refine lv_iload hx hb d_la_tile_4 (lv_at hl 4 rfl) ?_
  refine mx_callv (vx_runV (As := [.int (iI (x0)), .int (iI (y0)), .int (iI (x1)), .int (iI (y1))]) (rest := []) ⟨hx, hb, hml, hown, ht⟩ (c_po_tile l hl9 D X lo t0 f a b v h0 x0 y0 x1 y1 r0 r1 r2 r3) (cwV 4 ht (good_V (fun _ h => h) t_185 t_182 t_183 t_184 t_1) rfl rfl rfl (by decide +kernel) ⟨Nat.le_of_ble_eq_true rfl, Nat.le_of_ble_eq_true rfl⟩) (mq_preV hK hlo hGO hG hw hS (hW.recv hK hw (ci := 0) rfl h0)) rfl rfl hl.1 rfl (lv_room (Nat.le_of_ble_eq_true rfl)) d_la_tile_6 ⟨Nat.le_of_ble_eq_true rfl, Nat.le_of_ble_eq_true rfl⟩) hS (fun E9 ce9 q9 f1 H locs hE hw hS hce hcv hcl => ?_) (fun f1 H locs hp hw hS => ?_)
  · skip
    obtain ⟨rfl, hg, hfe⟩ := hE
    have hF : Fn [a] f f1 := hfe ▸ hF
    refine vx_catch (own := "PacketOrderLaw") (name := IAE) (E := IAE) hown [] ⟨0, 9, 12, 13⟩ [] (by rw [hTab]; rfl) (fun z hz => nomatch hz) (by decide) (by decide) (ht _ t_181) (va_Nw.use rfl (hNB _ n_188)) hce hcv hcl ?_
    refine W.eq (g2 := F0 m 12 ls [.ref q9]) rfl ?_
    refine lv_astore (lv' := [(5, .ref q9), (0, .ref a), (1, .int (iI (x0))), (2, .int (iI (y0))), (3, .int (iI (x1))), (4, .int (iI (y1)))]) hx hb d_la_tile_12 hl (by decide) rfl (fun ls hl => ?_)
    refine mi_iconst hx hb d_la_tile_14 ?_
    rw [← hQ]; exact mq_iret hx hb hr hlocks hK hlo hGO hG hw hS (Nat.le_of_ble_eq_true rfl) (Nat.le_of_ble_eq_true rfl) d_la_tile_15 ⟨by rw [if_neg hg], hF⟩
  · skip
    obtain ⟨hg, hF1, -⟩ := hp
    have hF := Fn.tr hF (Fr.fn hF1) (fun q hq => aOK.of hq)
    refine lv_goto (tgt := 16) hx hb d_la_tile_9 (by decide) ?_
    refine mi_iconst hx hb d_la_tile_16 ?_
    rw [← hQ]; exact mq_iret hx hb hr hlocks hK hlo hGO hG hw hS (Nat.le_of_ble_eq_true rfl) (Nat.le_of_ble_eq_true rfl) d_la_tile_17 ⟨by rw [if_pos hg], hF⟩
set_option maxHeartbeats 4000000 in
set_option maxRecDepth 100000 in
theorem c_la_layers (l : Launch) (hl9 : l.stackTraces = false) (D : va_G) (X : ClassId × ClassId × ClassId × ClassId) (lo t0 : Nat) (f : hM) (a : Nat) (b : Nat → Option Nat) (v : Nat → Int) (h0 : f a = some (eO 0 (oF sh_po b v))) (n k : Int) (rn : iR n) (rk : iR k) : Met l y_la_layers (Cond.codeWith y_la_layers b_la_layers 4 (some FieldType.int) [(0, 6, 9, 13)] :: TB) ({ frames := 7, cells := 1, slots := 6, locals := 130 } : Room) (va_Pc [.ref a, .int (iI (n)), .int (iI (k))] (Bq D CL (TYS X) lo (Gv lo t0) f)) (va_Qi (fun r f1 => r = iI (if gLay n k then 0 else 1) ∧ Fn [a] f f1) (Bq D CL (TYS X) lo (Gv lo t0)) (fun q => lo ≤ q)) 1 6 (fun q => lo ≤ q) := by
  refine mth (by decide) (Nat.le_of_ble_eq_true rfl) ?_
  intro p e s m args below meth cd ls hx hb hr hml hown ht hlocks hnm hK hlo hG hw hS hl hTab
  have hl : lv_has ls 4 [(0, .ref a), (1, .int (iI (n))), (2, .int (iI (k)))] := hl
  have hGO := Gv.ok lo t0
  have hNB := hG.1
  generalize hQ : MQ below _ args s _ _ _ = Q
  have hF : Fn [a] f f := Fn.rf
  refine lv_aload_n hx hb d_la_layers_0 rfl (lv_at hl 0 rfl) ?_
  refine lv_iload_n hx hb d_la_layers_1 rfl (lv_at hl 1 rfl) ?_
  refine lv_iload_n hx hb d_la_layers_2 rfl (lv_at hl 2 rfl) ?_
  refine mx_callv (vx_runV (As := [.int (iI (n)), .int (iI (k))]) (rest := []) ⟨hx, hb, hml, hown, ht⟩ (c_po_layers l hl9 D X lo t0 f a b v h0 n k rn rk) (cwV 2 ht (good_V (fun _ h => h) t_465 t_462 t_463 t_464 t_1) rfl rfl rfl (by decide +kernel) ⟨Nat.le_of_ble_eq_true rfl, Nat.le_of_ble_eq_true rfl⟩) (mq_preV hK hlo hGO hG hw hS (hW.recv hK hw (ci := 0) rfl h0)) rfl rfl hl.1 rfl (lv_room (Nat.le_of_ble_eq_true rfl)) d_la_layers_3 ⟨Nat.le_of_ble_eq_true rfl, Nat.le_of_ble_eq_true rfl⟩) hS (fun E9 ce9 q9 f1 H locs hE hw hS hce hcv hcl => ?_) (fun f1 H locs hp hw hS => ?_)
  · skip
    obtain ⟨rfl, hg, hF1⟩ := hE
    have hF := Fn.tr hF hF1 (fun q hq => aOK.of hq)
    refine vx_catch (own := "PacketOrderLaw") (name := IAE) (E := IAE) hown [] ⟨0, 6, 9, 13⟩ [] (by rw [hTab]; rfl) (fun z hz => nomatch hz) (by decide) (by decide) (ht _ t_181) (va_Nw.use rfl (hNB _ n_188)) hce hcv hcl ?_
    refine W.eq (g2 := F0 m 9 ls [.ref q9]) rfl ?_
    refine lv_astore_n (lv' := [(3, .ref q9), (0, .ref a), (1, .int (iI (n))), (2, .int (iI (k)))]) hx hb d_la_layers_9 rfl hl (by decide) rfl (fun ls hl => ?_)
    refine mi_iconst hx hb d_la_layers_10 ?_
    rw [← hQ]; exact mq_iret hx hb hr hlocks hK hlo hGO hG hw hS (Nat.le_of_ble_eq_true rfl) (Nat.le_of_ble_eq_true rfl) d_la_layers_11 ⟨by rw [if_neg hg], hF⟩
  · skip
    obtain ⟨hg, hF1⟩ := hp
    have hF := Fn.tr hF hF1 (fun q hq => aOK.of hq)
    refine lv_goto (tgt := 12) hx hb d_la_layers_6 (by decide) ?_
    refine mi_iconst hx hb d_la_layers_12 ?_
    rw [← hQ]; exact mq_iret hx hb hr hlocks hK hlo hGO hG hw hS (Nat.le_of_ble_eq_true rfl) (Nat.le_of_ble_eq_true rfl) d_la_layers_13 ⟨by rw [if_pos hg], hF⟩
set_option maxHeartbeats 4000000 in
set_option maxRecDepth 100000 in
theorem c_la_component (l : Launch) (hl9 : l.stackTraces = false) (D : va_G) (X : ClassId × ClassId × ClassId × ClassId) (lo t0 : Nat) (f : hM) (a : Nat) (b : Nat → Option Nat) (v : Nat → Int) (h0 : f a = some (eO 0 (oF sh_po b v))) (lq : Nat) (bq : Nat → Option Nat) (vq : Nat → Int) (hq1 : f lq = some (eO 7 (oF sh_al bq vq))) (hsz : vq 2 = 0) (hbt : bq 1 = some t0) (hb5 : b 5 = some lq) (x y n : Int) (rx : iR x) (ry : iR y) (rn : iR n) (oa : Nat) (go : Nat → Int) (ho : f oa = some (eJ X.2.1 1 go)) : Met l y_la_component (Cond.codeWith y_la_component b_la_component 6 (some FieldType.int) [(0, 12, 15, 13), (0, 12, 19, 19)] :: TB) ({ frames := 7, cells := 102, slots := 605, locals := 170 } : Room) (va_Pc [.ref a, .int (iI (x)), .int (iI (y)), .int (iI (n)), .ref oa] (Bq D CL (TYS X) lo (Gv lo t0) f)) (va_Qi (fun r f1 => r = iI (if gCmp x y n then 0 else 1) ∧ (gCmp x y n → f1 oa = some (eJ X.2.1 1 (va_up go 0 (0)))) ∧ Fn [a, lq, oa] f f1) (Bq D CL (TYS X) lo (Gv lo t0)) (fun q => lo ≤ q)) 102 605 (fun q => lo ≤ q) := by
  refine mth (by decide) (Nat.le_of_ble_eq_true rfl) ?_
  intro p e s m args below meth cd ls hx hb hr hml hown ht hlocks hnm hK hlo hG hw hS hl hTab
  have hl : lv_has ls 6 [(0, .ref a), (1, .int (iI (x))), (2, .int (iI (y))), (3, .int (iI (n))), (4, .ref oa)] := hl
  have hGO := Gv.ok lo t0
  have hNB := hG.1
  generalize hQ : MQ below _ args s _ _ _ = Q
  have hF : Fn [a, lq, oa] f f := Fn.rf
  have noa : oa ≠ a := ne_of ho h0 (by simp [eJ])
  have nol : oa ≠ lq := ne_of ho hq1 (by simp [eJ])
  have nin : oa ∉ [a, lq] := by simp only [List.mem_cons, List.not_mem_nil, or_false, not_or]; exact ⟨noa, nol⟩
  refine lv_aload hx hb d_la_component_0 (lv_at hl 4 rfl) ?_
  refine mi_iconst hx hb d_la_component_2 ?_
  refine lv_aload_n hx hb d_la_component_3 rfl (lv_at hl 0 rfl) ?_
  refine lv_iload_n hx hb d_la_component_4 rfl (lv_at hl 1 rfl) ?_
  refine lv_iload_n hx hb d_la_component_5 rfl (lv_at hl 2 rfl) ?_
  refine lv_iload_n hx hb d_la_component_6 rfl (lv_at hl 3 rfl) ?_
  refine mx_calli (vx_runV (As := [.int (iI (x)), .int (iI (y)), .int (iI (n))]) (rest := [.int (iI (0)), .ref oa]) ⟨hx, hb, hml, hown, ht⟩ (c_po_component0 l hl9 D X lo t0 f a b v h0 lq bq vq hq1 hsz hbt hb5 x y n rx ry rn) (cwV 3 ht (good_V (fun _ h => h) t_263 t_260 t_261 t_262 t_1) rfl rfl rfl (by decide +kernel) ⟨Nat.le_of_ble_eq_true rfl, Nat.le_of_ble_eq_true rfl⟩) (mq_preV hK hlo hGO hG hw hS (hW.recv hK hw (ci := 0) rfl h0)) rfl rfl hl.1 rfl (lv_room (Nat.le_of_ble_eq_true rfl)) d_la_component_7 ⟨Nat.le_of_ble_eq_true rfl, Nat.le_of_ble_eq_true rfl⟩) hS (fun E9 ce9 q9 f1 H locs hE hw hS hce hcv hcl => ?_) (fun r1 f1 H locs hp hw hS => ?_)
  · skip
    obtain ⟨rfl, hg, hF1⟩ := hE
    have hF := Fn.tr hF hF1 (fun q hq => aOK.of (List.mem_append_left [oa] hq))
    have ho := Fn.keep hF1 ho nin
    refine vx_catch (own := "PacketOrderLaw") (name := IAE) (E := IAE) hown [] ⟨0, 12, 15, 13⟩ [⟨0, 12, 19, 19⟩] (by rw [hTab]; rfl) (fun z hz => nomatch hz) (by decide) (by decide) (ht _ t_181) (va_Nw.use rfl (hNB _ n_188)) hce hcv hcl ?_
    refine W.eq (g2 := F0 m 15 ls [.ref q9]) rfl ?_
    refine lv_astore (lv' := [(5, .ref q9), (0, .ref a), (1, .int (iI (x))), (2, .int (iI (y))), (3, .int (iI (n))), (4, .ref oa)]) hx hb d_la_component_15 hl (by decide) rfl (fun ls hl => ?_)
    refine mi_iconst hx hb d_la_component_17 ?_
    rw [← hQ]; exact mq_iret hx hb hr hlocks hK hlo hGO hG hw hS (Nat.le_of_ble_eq_true rfl) (Nat.le_of_ble_eq_true rfl) d_la_component_18 ⟨by rw [if_neg hg], fun z => absurd z hg, hF⟩
  · skip
    obtain ⟨rfl, hg, hF1⟩ := hp
    have hF := Fn.tr hF hF1 (fun q hq => aOK.of (List.mem_append_left [oa] hq))
    have ho := Fn.keep hF1 ho nin
    refine mi_i2l hx hb d_la_component_10 (by decide) ?_
    refine mo_last hx hb hK hw hS 1 ho rfl (0) (by omega) (by omega) (by decide) d_la_component_11 (fun H locs f2 hf2 hw hS => ?_)
    have ho := eq_s hf2
    have hF := Fn.up hF hf2 (aOK.of (by simp))
    refine lv_goto (tgt := 23) hx hb d_la_component_12 (by decide) ?_
    refine mi_iconst hx hb d_la_component_23 ?_
    rw [← hQ]; exact mq_iret hx hb hr hlocks hK hlo hGO hG hw hS (Nat.le_of_ble_eq_true rfl) (Nat.le_of_ble_eq_true rfl) d_la_component_24 ⟨by rw [if_pos hg], fun _ => ho, hF⟩
set_option maxHeartbeats 4000000 in
set_option maxRecDepth 100000 in
theorem c_la_change (l : Launch) (hl9 : l.stackTraces = false) (D : va_G) (X : ClassId × ClassId × ClassId × ClassId) (lo t0 : Nat) (f : hM) (a : Nat) (b : Nat → Option Nat) (v : Nat → Int) (h0 : f a = some (eO 0 (oF sh_po b v))) (lq : Nat) (bq : Nat → Option Nat) (vq : Nat → Int) (hq1 : f lq = some (eO 7 (oF sh_al bq vq))) (hsz : vq 2 = 0) (hbt : bq 1 = some t0) (hb8 : b 8 = some lq) (p1 p2 p3 p4 p5 p6 : Int) (r1 : iR p1) (r2 : iR p2) (r3 : iR p3) (r4 : iR p4) (r5 : iR p5) (r6 : iR p6) (oa : Nat) (go : Nat → Int) (ho : f oa = some (eJ X.2.1 1 go)) : Met l y_la_change (Cond.codeWith y_la_change b_la_change 9 (some FieldType.int) [(0, 18, 21, 13), (0, 18, 25, 19)] :: TB) ({ frames := 7, cells := 2, slots := 16, locals := 170 } : Room) (va_Pc [.ref a, .int (iI (p1)), .int (iI (p2)), .int (iI (p3)), .int (iI (p4)), .int (iI (p5)), .int (iI (p6)), .ref oa] (Bq D CL (TYS X) lo (Gv lo t0) f)) (va_Qi (fun r f1 => r = iI (if gChg p1 p2 p3 p4 p5 p6 then 0 else 1) ∧ (gChg p1 p2 p3 p4 p5 p6 → f1 oa = some (eJ X.2.1 1 (va_up go 0 (1)))) ∧ Fn [a, lq, oa] f f1) (Bq D CL (TYS X) lo (Gv lo t0)) (fun q => lo ≤ q)) 2 16 (fun q => lo ≤ q) := by
  refine mth (by decide) (Nat.le_of_ble_eq_true rfl) ?_
  intro p e s m args below meth cd ls hx hb hr hml hown ht hlocks hnm hK hlo hG hw hS hl hTab
  have hl : lv_has ls 9 [(0, .ref a), (1, .int (iI (p1))), (2, .int (iI (p2))), (3, .int (iI (p3))), (4, .int (iI (p4))), (5, .int (iI (p5))), (6, .int (iI (p6))), (7, .ref oa)] := hl
  have hGO := Gv.ok lo t0
  have hNB := hG.1
  generalize hQ : MQ below _ args s _ _ _ = Q
  have hF : Fn [a, lq, oa] f f := Fn.rf
  have noa : oa ≠ a := ne_of ho h0 (by simp [eJ])
  have nol : oa ≠ lq := ne_of ho hq1 (by simp [eJ])
  have nin : oa ∉ [a, lq] := by simp only [List.mem_cons, List.not_mem_nil, or_false, not_or]; exact ⟨noa, nol⟩
  refine lv_aload hx hb d_la_change_0 (lv_at hl 7 rfl) ?_
  refine mi_iconst hx hb d_la_change_2 ?_
  refine lv_aload_n hx hb d_la_change_3 rfl (lv_at hl 0 rfl) ?_
  refine lv_iload_n hx hb d_la_change_4 rfl (lv_at hl 1 rfl) ?_
  refine lv_iload_n hx hb d_la_change_5 rfl (lv_at hl 2 rfl) ?_
  refine lv_iload_n hx hb d_la_change_6 rfl (lv_at hl 3 rfl) ?_
  refine lv_iload hx hb d_la_change_7 (lv_at hl 4 rfl) ?_
  refine lv_iload hx hb d_la_change_9 (lv_at hl 5 rfl) ?_
  refine lv_iload hx hb d_la_change_11 (lv_at hl 6 rfl) ?_
  refine mx_calli (vx_runV (As := [.int (iI (p1)), .int (iI (p2)), .int (iI (p3)), .int (iI (p4)), .int (iI (p5)), .int (iI (p6))]) (rest := [.int (iI (0)), .ref oa]) ⟨hx, hb, hml, hown, ht⟩ (c_po_change0 l hl9 D X lo t0 f a b v h0 lq bq vq hq1 hsz hbt hb8 p1 p2 p3 p4 p5 p6 r1 r2 r3 r4 r5 r6) (cwV 6 ht (good_V (fun _ h => h) t_474 t_471 t_472 t_473 t_1) rfl rfl rfl (by decide +kernel) ⟨Nat.le_of_ble_eq_true rfl, Nat.le_of_ble_eq_true rfl⟩) (mq_preV hK hlo hGO hG hw hS (hW.recv hK hw (ci := 0) rfl h0)) rfl rfl hl.1 rfl (lv_room (Nat.le_of_ble_eq_true rfl)) d_la_change_13 ⟨Nat.le_of_ble_eq_true rfl, Nat.le_of_ble_eq_true rfl⟩) hS (fun E9 ce9 q9 f1 H locs hE hw hS hce hcv hcl => ?_) (fun r1 f1 H locs hp hw hS => ?_)
  · skip
    obtain ⟨rfl, hg, hF1⟩ := hE
    have hF := Fn.tr hF hF1 (fun q hq => aOK.of (List.mem_append_left [oa] hq))
    have ho := Fn.keep hF1 ho nin
    refine vx_catch (own := "PacketOrderLaw") (name := IAE) (E := IAE) hown [] ⟨0, 18, 21, 13⟩ [⟨0, 18, 25, 19⟩] (by rw [hTab]; rfl) (fun z hz => nomatch hz) (by decide) (by decide) (ht _ t_181) (va_Nw.use rfl (hNB _ n_188)) hce hcv hcl ?_
    refine W.eq (g2 := F0 m 21 ls [.ref q9]) rfl ?_
    refine lv_astore (lv' := [(8, .ref q9), (0, .ref a), (1, .int (iI (p1))), (2, .int (iI (p2))), (3, .int (iI (p3))), (4, .int (iI (p4))), (5, .int (iI (p5))), (6, .int (iI (p6))), (7, .ref oa)]) hx hb d_la_change_21 hl (by decide) rfl (fun ls hl => ?_)
    refine mi_iconst hx hb d_la_change_23 ?_
    rw [← hQ]; exact mq_iret hx hb hr hlocks hK hlo hGO hG hw hS (Nat.le_of_ble_eq_true rfl) (Nat.le_of_ble_eq_true rfl) d_la_change_24 ⟨by rw [if_neg hg], fun z => absurd z hg, hF⟩
  · skip
    obtain ⟨rfl, hg, hF1⟩ := hp
    have hF := Fn.tr hF hF1 (fun q hq => aOK.of (List.mem_append_left [oa] hq))
    have ho := Fn.keep hF1 ho nin
    refine mi_i2l hx hb d_la_change_16 (by decide) ?_
    refine mo_last hx hb hK hw hS 1 ho rfl (0) (by omega) (by omega) (by decide) d_la_change_17 (fun H locs f2 hf2 hw hS => ?_)
    have ho := eq_s hf2
    have hF := Fn.up hF hf2 (aOK.of (by simp))
    refine lv_goto (tgt := 29) hx hb d_la_change_18 (by decide) ?_
    refine mi_iconst hx hb d_la_change_29 ?_
    rw [← hQ]; exact mq_iret hx hb hr hlocks hK hlo hGO hG hw hS (Nat.le_of_ble_eq_true rfl) (Nat.le_of_ble_eq_true rfl) d_la_change_30 ⟨by rw [if_pos hg], fun _ => ho, hF⟩
set_option maxHeartbeats 4000000 in
set_option maxRecDepth 100000 in
theorem c_la_precincts (l : Launch) (hl9 : l.stackTraces = false) (D : va_G) (X : ClassId × ClassId × ClassId × ClassId) (lo t0 : Nat) (f : hM) (a : Nat) (b : Nat → Option Nat) (v : Nat → Int) (h0 : f a = some (eO 0 (oF sh_po b v))) (lq : Nat) (bq : Nat → Option Nat) (vq : Nat → Int) (hq1 : f lq = some (eO 7 (oF sh_al bq vq))) (hsz : vq 2 = 0) (hbt : bq 1 = some t0) (hb5 : b 5 = some lq) (c r pw ph : Int) (rc : iR c) (rr : iR r) (rw9 : iR pw) (rh9 : iR ph) : Met l y_la_precincts (Cond.codeWith y_la_precincts b_la_precincts 6 (some FieldType.int) [(0, 9, 12, 24), (0, 9, 16, 13)] :: TB) ({ frames := 7, cells := 1, slots := 6, locals := 130 } : Room) (va_Pc [.ref a, .int (iI (c)), .int (iI (r)), .int (iI (pw)), .int (iI (ph))] (Bq D CL (TYS X) lo (Gv lo t0) f)) (va_Qi (fun r f1 => r = iI (1) ∧ Fr [] f f1) (Bq D CL (TYS X) lo (Gv lo t0)) (fun q => lo ≤ q)) 1 6 (fun q => lo ≤ q) := by
  refine mth (by decide) (Nat.le_of_ble_eq_true rfl) ?_
  intro p e s m args below meth cd ls hx hb hr hml hown ht hlocks hnm hK hlo hG hw hS hl hTab
  have hl : lv_has ls 6 [(0, .ref a), (1, .int (iI (c))), (2, .int (iI (r))), (3, .int (iI (pw))), (4, .int (iI (ph)))] := hl
  have hGO := Gv.ok lo t0
  have hNB := hG.1
  generalize hQ : MQ below _ args s _ _ _ = Q
  have hF : Fn [] f f := Fn.rf
  refine lv_aload_n hx hb d_la_precincts_0 rfl (lv_at hl 0 rfl) ?_
  refine lv_iload_n hx hb d_la_precincts_1 rfl (lv_at hl 1 rfl) ?_
  refine lv_iload_n hx hb d_la_precincts_2 rfl (lv_at hl 2 rfl) ?_
  refine lv_iload_n hx hb d_la_precincts_3 rfl (lv_at hl 3 rfl) ?_
  refine lv_iload hx hb d_la_precincts_4 (lv_at hl 4 rfl) ?_
  refine mx_callv (vx_runV (As := [.int (iI (c)), .int (iI (r)), .int (iI (pw)), .int (iI (ph))]) (rest := []) ⟨hx, hb, hml, hown, ht⟩ (c_po_precincts0 l hl9 D X lo t0 f a b v h0 lq bq vq hq1 hsz hbt hb5 c r pw ph rc rr rw9 rh9) (cwV 4 ht (good_V (fun _ h => h) t_423 t_420 t_421 t_422 t_1) rfl rfl rfl (by decide +kernel) ⟨Nat.le_of_ble_eq_true rfl, Nat.le_of_ble_eq_true rfl⟩) (mq_preV hK hlo hGO hG hw hS (hW.recv hK hw (ci := 0) rfl h0)) rfl rfl hl.1 rfl (lv_room (Nat.le_of_ble_eq_true rfl)) d_la_precincts_6 ⟨Nat.le_of_ble_eq_true rfl, Nat.le_of_ble_eq_true rfl⟩) hS (fun E9 ce9 q9 f1 H locs hE hw hS hce hcv hcl => ?_) (fun f1 H locs hp hw hS => ?_)
  · skip
    obtain ⟨rfl, hfe⟩ := hE
    refine vx_catch (own := "PacketOrderLaw") (name := NSE) (E := NSE) hown [] ⟨0, 9, 12, 24⟩ [⟨0, 9, 16, 13⟩] (by rw [hTab]; rfl) (fun z hz => nomatch hz) (by decide) (by decide) (ht _ t_419) (va_Nw.use rfl (hNB _ n_444)) hce hcv hcl ?_
    refine W.eq (g2 := F0 m 12 ls [.ref q9]) rfl ?_
    refine lv_astore (lv' := [(5, .ref q9), (0, .ref a), (1, .int (iI (c))), (2, .int (iI (r))), (3, .int (iI (pw))), (4, .int (iI (ph)))]) hx hb d_la_precincts_12 hl (by decide) rfl (fun ls hl => ?_)
    refine mi_iconst hx hb d_la_precincts_14 ?_
    rw [← hQ]; exact mq_iret hx hb hr hlocks hK hlo hGO hG hw hS (Nat.le_of_ble_eq_true rfl) (Nat.le_of_ble_eq_true rfl) d_la_precincts_15 ⟨rfl, hfe⟩
  · skip
    exact hp.elim
set_option maxHeartbeats 4000000 in
set_option maxRecDepth 100000 in
theorem c_la_begin (l : Launch) (hl9 : l.stackTraces = false) (D : va_G) (X : ClassId × ClassId × ClassId × ClassId) (lo t0 : Nat) (f : hM) (a : Nat) (b : Nat → Option Nat) (v : Nat → Int) (h0 : f a = some (eO 0 (oF sh_po b v))) (h4 : v 4 = 0) (oa : Nat) : Met l y_la_begin (Cond.codeWith y_la_begin b_la_begin 3 (some FieldType.int) [(0, 8, 11, 19), (0, 8, 14, 38)] :: TB) ({ frames := 7, cells := 1, slots := 6, locals := 130 } : Room) (va_Pc [.ref a, .ref oa] (Bq D CL (TYS X) lo (Gv lo t0) f)) (va_Qi (fun r f1 => r = iI (1) ∧ f1 = f) (Bq D CL (TYS X) lo (Gv lo t0)) (fun q => lo ≤ q)) 1 6 (fun q => lo ≤ q) := by
  refine mth (by decide) (Nat.le_of_ble_eq_true rfl) ?_
  intro p e s m args below meth cd ls hx hb hr hml hown ht hlocks hnm hK hlo hG hw hS hl hTab
  have hl : lv_has ls 3 [(0, .ref a), (1, .ref oa)] := hl
  have hGO := Gv.ok lo t0
  have hNB := hG.1
  generalize hQ : MQ below _ args s _ _ _ = Q
  have hF : Fn [] f f := Fn.rf
  refine lv_aload_n hx hb d_la_begin_0 rfl (lv_at hl 1 rfl) ?_
  refine mi_iconst hx hb d_la_begin_1 ?_
  refine lv_aload_n hx hb d_la_begin_2 rfl (lv_at hl 0 rfl) ?_
  refine mx_calli (vx_runV (As := []) (rest := [.int (iI (0)), .ref oa]) ⟨hx, hb, hml, hown, ht⟩ (c_po_begin0 l hl9 D X lo t0 f a b v h0 h4) (cwV 0 ht (good_V (fun _ h => h) t_486 t_483 t_484 t_485 t_1) rfl rfl rfl (by decide +kernel) ⟨Nat.le_of_ble_eq_true rfl, Nat.le_of_ble_eq_true rfl⟩) (mq_preV hK hlo hGO hG hw hS (hW.recv hK hw (ci := 0) rfl h0)) rfl rfl hl.1 rfl (lv_room (Nat.le_of_ble_eq_true rfl)) d_la_begin_3 ⟨Nat.le_of_ble_eq_true rfl, Nat.le_of_ble_eq_true rfl⟩) hS (fun E9 ce9 q9 f1 H locs hE hw hS hce hcv hcl => ?_) (fun r1 f1 H locs hp hw hS => ?_)
  · skip
    obtain ⟨rfl, hfe⟩ := hE
    refine vx_catch (own := "PacketOrderLaw") (name := ISE) (E := ISE) hown [] ⟨0, 8, 11, 19⟩ [⟨0, 8, 14, 38⟩] (by rw [hTab]; rfl) (fun z hz => nomatch hz) (by decide) (by decide) (ht _ t_259) (va_Nw.use rfl (hNB _ n_275)) hce hcv hcl ?_
    refine W.eq (g2 := F0 m 11 ls [.ref q9]) rfl ?_
    refine lv_astore_n (lv' := [(2, .ref q9), (0, .ref a), (1, .ref oa)]) hx hb d_la_begin_11 rfl hl (by decide) rfl (fun ls hl => ?_)
    refine mi_iconst hx hb d_la_begin_12 ?_
    rw [← hQ]; exact mq_iret hx hb hr hlocks hK hlo hGO hG hw hS (Nat.le_of_ble_eq_true rfl) (Nat.le_of_ble_eq_true rfl) d_la_begin_13 ⟨rfl, hfe⟩
  · skip
    exact hp.elim
set_option maxHeartbeats 4000000 in
set_option maxRecDepth 100000 in
theorem c_la_next (l : Launch) (hl9 : l.stackTraces = false) (D : va_G) (X : ClassId × ClassId × ClassId × ClassId) (lo t0 : Nat) (f : hM) (a : Nat) (b : Nat → Option Nat) (v : Nat → Int) (h0 : f a = some (eO 0 (oF sh_po b v))) (h9 : v 9 = 0) (oa : Nat) : Met l y_la_next (Cond.codeWith y_la_next b_la_next 3 (some FieldType.int) [(0, 15, 18, 19)] :: TB) ({ frames := 7, cells := 1, slots := 6, locals := 130 } : Room) (va_Pc [.ref a, .ref oa] (Bq D CL (TYS X) lo (Gv lo t0) f)) (va_Qi (fun r f1 => r = iI (1) ∧ f1 = f) (Bq D CL (TYS X) lo (Gv lo t0)) (fun q => lo ≤ q)) 1 6 (fun q => lo ≤ q) := by
  refine mth (by decide) (Nat.le_of_ble_eq_true rfl) ?_
  intro p e s m args below meth cd ls hx hb hr hml hown ht hlocks hnm hK hlo hG hw hS hl hTab
  have hl : lv_has ls 3 [(0, .ref a), (1, .ref oa)] := hl
  have hGO := Gv.ok lo t0
  have hNB := hG.1
  generalize hQ : MQ below _ args s _ _ _ = Q
  have hF : Fn [] f f := Fn.rf
  refine lv_aload_n hx hb d_la_next_0 rfl (lv_at hl 1 rfl) ?_
  refine mi_iconst hx hb d_la_next_1 ?_
  refine lv_aload_n hx hb d_la_next_2 rfl (lv_at hl 0 rfl) ?_
  refine mx_calli (vx_runV (As := []) (rest := [.int (iI (0)), .ref oa]) ⟨hx, hb, hml, hown, ht⟩ (c_po_next0 l hl9 D X lo t0 f a b v h0 h9) (cwV 0 ht (good_V (fun _ h => h) t_555 t_552 t_553 t_554 t_1) rfl rfl rfl (by decide +kernel) ⟨Nat.le_of_ble_eq_true rfl, Nat.le_of_ble_eq_true rfl⟩) (mq_preV hK hlo hGO hG hw hS (hW.recv hK hw (ci := 0) rfl h0)) rfl rfl hl.1 rfl (lv_room (Nat.le_of_ble_eq_true rfl)) d_la_next_3 ⟨Nat.le_of_ble_eq_true rfl, Nat.le_of_ble_eq_true rfl⟩) hS (fun E9 ce9 q9 f1 H locs hE hw hS hce hcv hcl => ?_) (fun r1 f1 H locs hp hw hS => ?_)
  · skip
    obtain ⟨rfl, hfe⟩ := hE
    refine vx_catch (own := "PacketOrderLaw") (name := ISE) (E := ISE) hown [] ⟨0, 15, 18, 19⟩ [] (by rw [hTab]; rfl) (fun z hz => nomatch hz) (by decide) (by decide) (ht _ t_259) (va_Nw.use rfl (hNB _ n_275)) hce hcv hcl ?_
    refine W.eq (g2 := F0 m 18 ls [.ref q9]) rfl ?_
    refine lv_astore_n (lv' := [(2, .ref q9), (0, .ref a), (1, .ref oa)]) hx hb d_la_next_18 rfl hl (by decide) rfl (fun ls hl => ?_)
    refine mi_iconst hx hb d_la_next_19 ?_
    rw [← hQ]; exact mq_iret hx hb hr hlocks hK hlo hGO hG hw hS (Nat.le_of_ble_eq_true rfl) (Nat.le_of_ble_eq_true rfl) d_la_next_20 ⟨rfl, hfe⟩
  · skip
    exact hp.elim
set_option maxHeartbeats 4000000 in
set_option maxRecDepth 100000 in
theorem c_la_skip (l : Launch) (hl9 : l.stackTraces = false) (D : va_G) (X : ClassId × ClassId × ClassId × ClassId) (lo t0 : Nat) (f : hM) (a : Nat) (b : Nat → Option Nat) (v : Nat → Int) (h0 : f a = some (eO 0 (oF sh_po b v))) (h9 : v 9 = 0) (n : Int) (rn : iR n) (oa : Nat) : Met l y_la_skip (Cond.codeWith y_la_skip b_la_skip 4 (some FieldType.int) [(0, 9, 12, 13), (0, 9, 15, 19)] :: TB) ({ frames := 7, cells := 1, slots := 6, locals := 130 } : Room) (va_Pc [.ref a, .int (iI (n)), .ref oa] (Bq D CL (TYS X) lo (Gv lo t0) f)) (va_Qi (fun r f1 => r = iI (if n < 0 then 1 else 2) ∧ f1 = f) (Bq D CL (TYS X) lo (Gv lo t0)) (fun q => lo ≤ q)) 1 6 (fun q => lo ≤ q) := by
  refine mth (by decide) (Nat.le_of_ble_eq_true rfl) ?_
  intro p e s m args below meth cd ls hx hb hr hml hown ht hlocks hnm hK hlo hG hw hS hl hTab
  have hl : lv_has ls 4 [(0, .ref a), (1, .int (iI (n))), (2, .ref oa)] := hl
  have hGO := Gv.ok lo t0
  have hNB := hG.1
  generalize hQ : MQ below _ args s _ _ _ = Q
  have hF : Fn [] f f := Fn.rf
  refine lv_aload_n hx hb d_la_skip_0 rfl (lv_at hl 2 rfl) ?_
  refine mi_iconst hx hb d_la_skip_1 ?_
  refine lv_aload_n hx hb d_la_skip_2 rfl (lv_at hl 0 rfl) ?_
  refine lv_iload_n hx hb d_la_skip_3 rfl (lv_at hl 1 rfl) ?_
  refine mx_calli (vx_runV (As := [.int (iI (n))]) (rest := [.int (iI (0)), .ref oa]) ⟨hx, hb, hml, hown, ht⟩ (c_po_skip0 l hl9 D X lo t0 f a b v h0 h9 n rn) (cwV 1 ht (good_V (fun _ h => h) t_631 t_628 t_629 t_630 t_1) rfl rfl rfl (by decide +kernel) ⟨Nat.le_of_ble_eq_true rfl, Nat.le_of_ble_eq_true rfl⟩) (mq_preV hK hlo hGO hG hw hS (hW.recv hK hw (ci := 0) rfl h0)) rfl rfl hl.1 rfl (lv_room (Nat.le_of_ble_eq_true rfl)) d_la_skip_4 ⟨Nat.le_of_ble_eq_true rfl, Nat.le_of_ble_eq_true rfl⟩) hS (fun E9 ce9 q9 f1 H locs hE hw hS hce hcv hcl => ?_) (fun r1 f1 H locs hp hw hS => ?_)
  · skip
    rcases hE with ⟨rfl, hg, hfe⟩ | ⟨rfl, hg, hfe⟩
    · skip
      refine vx_catch (own := "PacketOrderLaw") (name := IAE) (E := IAE) hown [] ⟨0, 9, 12, 13⟩ [⟨0, 9, 15, 19⟩] (by rw [hTab]; rfl) (fun z hz => nomatch hz) (by decide) (by decide) (ht _ t_181) (va_Nw.use rfl (hNB _ n_188)) hce hcv hcl ?_
      refine W.eq (g2 := F0 m 12 ls [.ref q9]) rfl ?_
      refine lv_astore_n (lv' := [(3, .ref q9), (0, .ref a), (1, .int (iI (n))), (2, .ref oa)]) hx hb d_la_skip_12 rfl hl (by decide) rfl (fun ls hl => ?_)
      refine mi_iconst hx hb d_la_skip_13 ?_
      rw [← hQ]; exact mq_iret hx hb hr hlocks hK hlo hGO hG hw hS (Nat.le_of_ble_eq_true rfl) (Nat.le_of_ble_eq_true rfl) d_la_skip_14 ⟨by rw [if_pos hg], hfe⟩
    · skip
      refine vx_catch (own := "PacketOrderLaw") (name := ISE) (E := ISE) hown [⟨0, 9, 12, 13⟩] ⟨0, 9, 15, 19⟩ [] (by rw [hTab]; rfl) (fun z hz => by rcases List.mem_cons.mp hz with rfl | hz <;> first | exact Or.inr ⟨by decide, IAE, ht _ t_181, hG.2.2.1 (ISE, IAE) (by simp)⟩ | cases hz) (by decide) (by decide) (ht _ t_259) (va_Nw.use rfl (hNB _ n_275)) hce hcv hcl ?_
      refine W.eq (g2 := F0 m 15 ls [.ref q9]) rfl ?_
      refine lv_astore_n (lv' := [(3, .ref q9), (0, .ref a), (1, .int (iI (n))), (2, .ref oa)]) hx hb d_la_skip_15 rfl hl (by decide) rfl (fun ls hl => ?_)
      refine mi_iconst hx hb d_la_skip_16 ?_
      rw [← hQ]; exact mq_iret hx hb hr hlocks hK hlo hGO hG hw hS (Nat.le_of_ble_eq_true rfl) (Nat.le_of_ble_eq_true rfl) d_la_skip_17 ⟨by rw [if_neg hg], hfe⟩
  · skip
    exact hp.elim
set_option maxHeartbeats 4000000 in
set_option maxRecDepth 100000 in
theorem c_la_packet (l : Launch) (hl9 : l.stackTraces = false) (D : va_G) (X : ClassId × ClassId × ClassId × ClassId) (lo t0 : Nat) (f : hM) (a : Nat) (b : Nat → Option Nat) (v : Nat → Int) (h0 : f a = some (eO 0 (oF sh_po b v))) (h9 : v 9 = 0) (n : Int) (rn : iR n) (oa : Nat) : Met l y_la_packet (Cond.codeWith y_la_packet b_la_packet 4 (some FieldType.int) [(0, 9, 12, 24)] :: TB) ({ frames := 7, cells := 1, slots := 6, locals := 130 } : Room) (va_Pc [.ref a, .int (iI (n)), .ref oa] (Bq D CL (TYS X) lo (Gv lo t0) f)) (va_Qi (fun r f1 => r = iI (1) ∧ f1 = f) (Bq D CL (TYS X) lo (Gv lo t0)) (fun q => lo ≤ q)) 1 6 (fun q => lo ≤ q) := by
  refine mth (by decide) (Nat.le_of_ble_eq_true rfl) ?_
  intro p e s m args below meth cd ls hx hb hr hml hown ht hlocks hnm hK hlo hG hw hS hl hTab
  have hl : lv_has ls 4 [(0, .ref a), (1, .int (iI (n))), (2, .ref oa)] := hl
  have hGO := Gv.ok lo t0
  have hNB := hG.1
  generalize hQ : MQ below _ args s _ _ _ = Q
  have hF : Fn [] f f := Fn.rf
  refine lv_aload_n hx hb d_la_packet_0 rfl (lv_at hl 2 rfl) ?_
  refine mi_iconst hx hb d_la_packet_1 ?_
  refine lv_aload_n hx hb d_la_packet_2 rfl (lv_at hl 0 rfl) ?_
  refine lv_iload_n hx hb d_la_packet_3 rfl (lv_at hl 1 rfl) ?_
  refine mx_calli (vx_runV (As := [.int (iI (n))]) (rest := [.int (iI (0)), .ref oa]) ⟨hx, hb, hml, hown, ht⟩ (c_po_packet0 l hl9 D X lo t0 f a b v h0 h9 n rn) (cwV 1 ht (good_V (fun _ h => h) t_639 t_636 t_637 t_638 t_1) rfl rfl rfl (by decide +kernel) ⟨Nat.le_of_ble_eq_true rfl, Nat.le_of_ble_eq_true rfl⟩) (mq_preV hK hlo hGO hG hw hS (hW.recv hK hw (ci := 0) rfl h0)) rfl rfl hl.1 rfl (lv_room (Nat.le_of_ble_eq_true rfl)) d_la_packet_4 ⟨Nat.le_of_ble_eq_true rfl, Nat.le_of_ble_eq_true rfl⟩) hS (fun E9 ce9 q9 f1 H locs hE hw hS hce hcv hcl => ?_) (fun r1 f1 H locs hp hw hS => ?_)
  · skip
    obtain ⟨rfl, hfe⟩ := hE
    refine vx_catch (own := "PacketOrderLaw") (name := NSE) (E := NSE) hown [] ⟨0, 9, 12, 24⟩ [] (by rw [hTab]; rfl) (fun z hz => nomatch hz) (by decide) (by decide) (ht _ t_419) (va_Nw.use rfl (hNB _ n_444)) hce hcv hcl ?_
    refine W.eq (g2 := F0 m 12 ls [.ref q9]) rfl ?_
    refine lv_astore_n (lv' := [(3, .ref q9), (0, .ref a), (1, .int (iI (n))), (2, .ref oa)]) hx hb d_la_packet_12 rfl hl (by decide) rfl (fun ls hl => ?_)
    refine mi_iconst hx hb d_la_packet_13 ?_
    rw [← hQ]; exact mq_iret hx hb hr hlocks hK hlo hGO hG hw hS (Nat.le_of_ble_eq_true rfl) (Nat.le_of_ble_eq_true rfl) d_la_packet_14 ⟨rfl, hfe⟩
  · skip
    exact hp.elim
set_option maxHeartbeats 4000000 in
set_option maxRecDepth 100000 in
theorem c_la_came (l : Launch) (hl9 : l.stackTraces = false) (D : va_G) (X : ClassId × ClassId × ClassId × ClassId) (lo t0 : Nat) (f : hM) (a : Nat) (b : Nat → Option Nat) (v : Nat → Int) (h0 : f a = some (eO 0 (oF sh_po b v))) (h9 : v 9 = 0) (n k j : Int) (rn : iR n) (rk : iR k) (rj : iR j) (oa : Nat) : Met l y_la_came (Cond.codeWith y_la_came b_la_came 6 (some FieldType.int) [(0, 12, 15, 24)] :: TB) ({ frames := 7, cells := 1, slots := 6, locals := 130 } : Room) (va_Pc [.ref a, .int (iI (n)), .int (iI (k)), .int (iI (j)), .ref oa] (Bq D CL (TYS X) lo (Gv lo t0) f)) (va_Qi (fun r f1 => r = iI (1) ∧ f1 = f) (Bq D CL (TYS X) lo (Gv lo t0)) (fun q => lo ≤ q)) 1 6 (fun q => lo ≤ q) := by
  refine mth (by decide) (Nat.le_of_ble_eq_true rfl) ?_
  intro p e s m args below meth cd ls hx hb hr hml hown ht hlocks hnm hK hlo hG hw hS hl hTab
  have hl : lv_has ls 6 [(0, .ref a), (1, .int (iI (n))), (2, .int (iI (k))), (3, .int (iI (j))), (4, .ref oa)] := hl
  have hGO := Gv.ok lo t0
  have hNB := hG.1
  generalize hQ : MQ below _ args s _ _ _ = Q
  have hF : Fn [] f f := Fn.rf
  refine lv_aload hx hb d_la_came_0 (lv_at hl 4 rfl) ?_
  refine mi_iconst hx hb d_la_came_2 ?_
  refine lv_aload_n hx hb d_la_came_3 rfl (lv_at hl 0 rfl) ?_
  refine lv_iload_n hx hb d_la_came_4 rfl (lv_at hl 1 rfl) ?_
  refine lv_iload_n hx hb d_la_came_5 rfl (lv_at hl 2 rfl) ?_
  refine lv_iload_n hx hb d_la_came_6 rfl (lv_at hl 3 rfl) ?_
  refine mx_calli (vx_runV (As := [.int (iI (n)), .int (iI (k)), .int (iI (j))]) (rest := [.int (iI (0)), .ref oa]) ⟨hx, hb, hml, hown, ht⟩ (c_po_came0 l hl9 D X lo t0 f a b v h0 h9 n k j rn rk rj) (cwV 3 ht (good_V (fun _ h => h) t_658 t_655 t_656 t_657 t_1) rfl rfl rfl (by decide +kernel) ⟨Nat.le_of_ble_eq_true rfl, Nat.le_of_ble_eq_true rfl⟩) (mq_preV hK hlo hGO hG hw hS (hW.recv hK hw (ci := 0) rfl h0)) rfl rfl hl.1 rfl (lv_room (Nat.le_of_ble_eq_true rfl)) d_la_came_7 ⟨Nat.le_of_ble_eq_true rfl, Nat.le_of_ble_eq_true rfl⟩) hS (fun E9 ce9 q9 f1 H locs hE hw hS hce hcv hcl => ?_) (fun r1 f1 H locs hp hw hS => ?_)
  · skip
    obtain ⟨rfl, hfe⟩ := hE
    refine vx_catch (own := "PacketOrderLaw") (name := NSE) (E := NSE) hown [] ⟨0, 12, 15, 24⟩ [] (by rw [hTab]; rfl) (fun z hz => nomatch hz) (by decide) (by decide) (ht _ t_419) (va_Nw.use rfl (hNB _ n_444)) hce hcv hcl ?_
    refine W.eq (g2 := F0 m 15 ls [.ref q9]) rfl ?_
    refine lv_astore (lv' := [(5, .ref q9), (0, .ref a), (1, .int (iI (n))), (2, .int (iI (k))), (3, .int (iI (j))), (4, .ref oa)]) hx hb d_la_came_15 hl (by decide) rfl (fun ls hl => ?_)
    refine mi_iconst hx hb d_la_came_17 ?_
    rw [← hQ]; exact mq_iret hx hb hr hlocks hK hlo hGO hG hw hS (Nat.le_of_ble_eq_true rfl) (Nat.le_of_ble_eq_true rfl) d_la_came_18 ⟨rfl, hfe⟩
  · skip
    exact hp.elim
