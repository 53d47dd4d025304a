/-! the class under proof: its constructor; layers, clear, change, precincts on a fresh object -/
/-- a fresh object: no tile, no sequence, two empty lists -/
def poFr (t0 : Nat) (f : hM) (a : Nat) : Prop := ∃ (b : Nat → Option Nat) (v : Nat → Int) (lc lh : Nat) (bc bh : Nat → Option Nat) (vc vh : Nat → Int), f a = some (eO 0 (oF sh_po b v)) ∧ v 4 = 0 ∧ v 9 = 0 ∧ b 5 = some lc ∧ b 8 = some lh ∧ f lc = some (eO 7 (oF sh_al bc vc)) ∧ vc 2 = 0 ∧ bc 1 = some t0 ∧ f lh = some (eO 7 (oF sh_al bh vh)) ∧ vh 2 = 0 ∧ bh 1 = some t0
set_option maxHeartbeats 4000000 in
set_option maxRecDepth 100000 in
theorem c_po_init (l : Launch) (D : va_G) (X : ClassId × ClassId × ClassId × ClassId) (lo t0 : Nat) (f : hM) (a : Nat) (h0 : f a = some (eO 0 (oF sh_po (fun _ => (none : Option Nat)) (fun _ => (0 : Int))))) : Met l y_po_init (Cond.code y_po_init b_po_init 1 (none) :: TB) ({ frames := 4, cells := 7, slots := 22, locals := 80 } : Room) (va_Pc [.ref a] (Bq D CL (TYS X) lo (Gv lo t0) f)) (va_Qv (fun f1 => Fn [a] f f1 ∧ poFr t0 f1 a) (Bq D CL (TYS X) lo (Gv lo t0)) (fun q => lo ≤ q)) 7 22 (fun q => lo ≤ q) := by
  refine mt (by decide) (Nat.le_of_ble_eq_true rfl) ?_
  intro p e s m args below meth cd ls hx hb hr hml hown ht hlocks hnm hK hlo hG hw hS hl
  have hl : lv_has ls 1 [(0, .ref a)] := hl
  have hGO := Gv.ok lo t0
  have hNB := hG.1
  generalize hQ : MQ below _ args s _ _ _ = Q
  have hF : Fn [a] f f := Fn.rf
  refine lv_aload_n hx hb d_po_init_0 rfl (lv_at hl 0 rfl) ?_
  refine W.objInit hx hb hown (ht _ t_29) (ht _ t_30) (ht _ t_31) rfl (by rw [hml]; exact hl.1) rfl d_po_init_1 (Nat.le_of_ble_eq_true rfl) (Nat.le_of_ble_eq_true rfl) ?_
  refine W.eq (g2 := F0 m 4 ls []) rfl ?_
  refine lv_aload_n hx hb d_po_init_4 rfl (lv_at hl 0 rfl) ?_
  refine mo_new (ci := 7) (sh := sh_al) hx hb ht in_al ty_al tyok_al hown (ht _ t_32) (ht _ t_33) (ht _ t_4) hK hw hS hlo rfl df_al (Nat.le_of_ble_eq_true rfl) (Nat.le_of_ble_eq_true rfl) d_po_init_5 (fun q5 H f1 hq5 hf1 hw hS => ?_)
  have ne_a_q5 : a ≠ q5 := ne_new h0 hq5
  have h0 := eq_q hf1 h0 hq5
  have hn5 := eq_s hf1
  have ok_q5 := Fn.new hF hq5
  have hF := Fn.up hF hf1 ok_q5
  refine lv_dup hx hb d_po_init_8 rfl ?_
  refine mq_callv (va_runI (As := []) (rest := [.ref q5, .ref a]) ⟨hx, hb, hml, hown, ht⟩ (c_al_init l D X lo t0 f1 q5 (fun _ => (none : Option Nat)) (fun _ => (0 : Int)) hn5) (cwI 0 ht (good_M (fun _ h => h) t_36) rfl rfl rfl (ht _ t_4) (ht _ t_34) (ht _ t_35) rfl (by decide +kernel) ⟨Nat.le_of_ble_eq_true rfl, Nat.le_of_ble_eq_true rfl⟩) (mq_preS hK hlo hGO hG hw hS) rfl rfl hl.1 rfl (lv_room (Nat.le_of_ble_eq_true rfl)) d_po_init_9 ⟨Nat.le_of_ble_eq_true rfl, Nat.le_of_ble_eq_true rfl⟩) hS (fun f2 H locs hp hw hS => ?_)
  obtain ⟨hF2, hn5⟩ := hp
  have h0 := Fn.keep (Fr.fn hF2) h0 (by simpa using ne_a_q5)
  have hF := Fn.tr hF (Fr.fn hF2) (fun q hq => by rw [List.mem_singleton.mp hq]; exact ok_q5)
  refine mo_putrF hx hb ht in_po ty_po tyok_po nm_po hown hK hw hS h0 rfl 5 (by decide) rfl (ht _ t_135) (fun _ h => h) rfl hnm rfl (tyok_po 5 (by decide)) rfl rfl d_po_init_12 (fun H locs f3 hf3 hw hS => ?_)
  have h0 := eq_s hf3
  have hn5 := eq_n hf3 hn5 ne_a_q5.symm
  have hF := Fn.up hF hf3 (aOK.of (by simp))
  refine lv_aload_n hx hb d_po_init_15 rfl (lv_at hl 0 rfl) ?_
  refine mo_new (ci := 7) (sh := sh_al) hx hb ht in_al ty_al tyok_al hown (ht _ t_32) (ht _ t_33) (ht _ t_4) hK hw hS hlo rfl df_al (Nat.le_of_ble_eq_true rfl) (Nat.le_of_ble_eq_true rfl) d_po_init_16 (fun q16 H f4 hq16 hf4 hw hS => ?_)
  have ne_a_q16 : a ≠ q16 := ne_new h0 hq16
  have ne_q5_q16 : q5 ≠ q16 := ne_new hn5 hq16
  have h0 := eq_q hf4 h0 hq16
  have hn5 := eq_q hf4 hn5 hq16
  have hn16 := eq_s hf4
  have ok_q16 := Fn.new hF hq16
  have hF := Fn.up hF hf4 ok_q16
  refine lv_dup hx hb d_po_init_19 rfl ?_
  refine mq_callv (va_runI (As := []) (rest := [.ref q16, .ref a]) ⟨hx, hb, hml, hown, ht⟩ (c_al_init l D X lo t0 f4 q16 (fun _ => (none : Option Nat)) (fun _ => (0 : Int)) hn16) (cwI 0 ht (good_M (fun _ h => h) t_36) rfl rfl rfl (ht _ t_4) (ht _ t_34) (ht _ t_35) rfl (by decide +kernel) ⟨Nat.le_of_ble_eq_true rfl, Nat.le_of_ble_eq_true rfl⟩) (mq_preS hK hlo hGO hG hw hS) rfl rfl hl.1 rfl (lv_room (Nat.le_of_ble_eq_true rfl)) d_po_init_20 ⟨Nat.le_of_ble_eq_true rfl, Nat.le_of_ble_eq_true rfl⟩) hS (fun f5 H locs hp hw hS => ?_)
  obtain ⟨hF5, hn16⟩ := hp
  have h0 := Fn.keep (Fr.fn hF5) h0 (by simpa using ne_a_q16)
  have hn5 := Fn.keep (Fr.fn hF5) hn5 (by simpa using ne_q5_q16)
  have hF := Fn.tr hF (Fr.fn hF5) (fun q hq => by rw [List.mem_singleton.mp hq]; exact ok_q16)
  refine mo_putrF hx hb ht in_po ty_po tyok_po nm_po hown hK hw hS h0 rfl 8 (by decide) rfl (ht _ t_138) (fun _ h => h) rfl hnm rfl (tyok_po 8 (by decide)) rfl rfl d_po_init_23 (fun H locs f6 hf6 hw hS => ?_)
  have h0 := eq_s hf6
  have hn5 := eq_n hf6 hn5 ne_a_q5.symm
  have hn16 := eq_n hf6 hn16 ne_a_q16.symm
  have hF := Fn.up hF hf6 (aOK.of (by simp))
  refine lv_aload_n hx hb d_po_init_26 rfl (lv_at hl 0 rfl) ?_
  refine mo_new (ci := 4) (sh := sh_ro) hx hb ht in_ro ty_ro tyok_ro hown (ht _ t_58) (ht _ t_59) (ht _ t_5) hK hw hS hlo rfl df_ro (Nat.le_of_ble_eq_true rfl) (Nat.le_of_ble_eq_true rfl) d_po_init_27 (fun q27 H f7 hq27 hf7 hw hS => ?_)
  have ne_a_q27 : a ≠ q27 := ne_new h0 hq27
  have ne_q5_q27 : q5 ≠ q27 := ne_new hn5 hq27
  have ne_q16_q27 : q16 ≠ q27 := ne_new hn16 hq27
  have h0 := eq_q hf7 h0 hq27
  have hn5 := eq_q hf7 hn5 hq27
  have hn16 := eq_q hf7 hn16 hq27
  have hn27 := eq_s hf7
  have ok_q27 := Fn.new hF hq27
  have hF := Fn.up hF hf7 ok_q27
  refine lv_dup hx hb d_po_init_30 rfl ?_
  refine mq_callv (va_runIN (As := []) (rest := [.ref q27, .ref a]) ⟨hx, hb, hml, hown, ht⟩ (c_ro_init l D X lo t0 f7 q27 (fun _ => (none : Option Nat)) (fun _ => (0 : Int)) hn27) ⟨va_cnB 0 ht (good_M (fun _ h => h) t_62) rfl rfl rfl (hNB _ n_60) (ht _ t_5) (by decide +kernel) ⟨Nat.le_of_ble_eq_true rfl, Nat.le_of_ble_eq_true rfl⟩, rfl, ht _ t_61⟩ (mq_preS hK hlo hGO hG hw hS) rfl rfl hl.1 rfl (lv_room (Nat.le_of_ble_eq_true rfl)) d_po_init_31 ⟨Nat.le_of_ble_eq_true rfl, Nat.le_of_ble_eq_true rfl⟩) hS (fun f8 H locs hp hw hS => ?_)
  obtain ⟨hF8, rlc, rks, rsp, hn27, rh1, rh2, rh3, rne⟩ := hp
  have h0 := Fn.keep hF8 h0 (by simpa using ne_a_q27)
  have hn5 := Fn.keep hF8 hn5 (by simpa using ne_q5_q27)
  have hn16 := Fn.keep hF8 hn16 (by simpa using ne_q16_q27)
  have hF := Fn.tr hF hF8 (fun q hq => by rw [List.mem_singleton.mp hq]; exact ok_q27)
  refine mo_putrF hx hb ht in_po ty_po tyok_po nm_po hown hK hw hS h0 rfl 12 (by decide) rfl (ht _ t_142) (fun _ h => h) rfl hnm rfl (tyok_po 12 (by decide)) rfl rfl d_po_init_34 (fun H locs f9 hf9 hw hS => ?_)
  have h0 := eq_s hf9
  have hn5 := eq_n hf9 hn5 ne_a_q5.symm
  have hn16 := eq_n hf9 hn16 ne_a_q16.symm
  have hn27 := eq_n hf9 hn27 ne_a_q27.symm
  have hF := Fn.up hF hf9 (aOK.of (by simp))
  refine lv_aload_n hx hb d_po_init_37 rfl (lv_at hl 0 rfl) ?_
  refine mi_iconst hx hb d_po_init_38 ?_
  refine mo_puti hx hb ht in_po ty_po tyok_po nm_po hown hK hw hS h0 rfl 6 (by decide) rfl (ht _ t_136) (fun _ h => h) rfl (tyok_po 6 (by decide)) rfl rfl d_po_init_39 (fun H locs f10 hf10 hw hS => ?_)
  have h0 := eq_s hf10
  have hn5 := eq_n hf10 hn5 ne_a_q5.symm
  have hn16 := eq_n hf10 hn16 ne_a_q16.symm
  have hn27 := eq_n hf10 hn27 ne_a_q27.symm
  have hF := Fn.up hF hf10 (aOK.of (by simp))
  refine lv_aload_n hx hb d_po_init_42 rfl (lv_at hl 0 rfl) ?_
  refine mo_new (ci := 1) (sh := sh_ch) hx hb ht in_ch ty_ch tyok_ch hown (ht _ t_99) (ht _ t_100) (ht _ t_6) hK hw hS hlo rfl df_ch (Nat.le_of_ble_eq_true rfl) (Nat.le_of_ble_eq_true rfl) d_po_init_43 (fun q43 H f11 hq43 hf11 hw hS => ?_)
  have ne_a_q43 : a ≠ q43 := ne_new h0 hq43
  have ne_q5_q43 : q5 ≠ q43 := ne_new hn5 hq43
  have ne_q16_q43 : q16 ≠ q43 := ne_new hn16 hq43
  have ne_q27_q43 : q27 ≠ q43 := ne_new hn27 hq43
  have h0 := eq_q hf11 h0 hq43
  have hn5 := eq_q hf11 hn5 hq43
  have hn16 := eq_q hf11 hn16 hq43
  have hn27 := eq_q hf11 hn27 hq43
  have hn43 := eq_s hf11
  have ok_q43 := Fn.new hF hq43
  have hF := Fn.up hF hf11 ok_q43
  refine lv_dup hx hb d_po_init_46 rfl ?_
  refine mi_iconst hx hb d_po_init_47 ?_
  refine mi_bipush hx hb d_po_init_48 (by decide) ?_
  refine mi_iconst hx hb d_po_init_50 ?_
  refine mi_bipush hx hb d_po_init_51 (by decide) ?_
  refine mi_sipush hx hb d_po_init_53 (by decide) ?_
  refine mi_iconst hx hb d_po_init_56 ?_
  refine mq_callv (va_runI (As := [.int (iI (0)), .int (iI (33)), .int (iI (0)), .int (iI (16)), .int (iI (255)), .int (iI (0))]) (rest := [.ref q43, .ref a]) ⟨hx, hb, hml, hown, ht⟩ (c_ch_init l D X lo t0 f11 q43 (fun _ => (none : Option Nat)) (fun _ => (0 : Int)) hn43 (0) (33) (0) (16) (255) (0)) (cwI 6 ht (good_M (fun _ h => h) t_103) rfl rfl rfl (ht _ t_6) (ht _ t_101) (ht _ t_102) rfl (by decide +kernel) ⟨Nat.le_of_ble_eq_true rfl, Nat.le_of_ble_eq_true rfl⟩) (mq_preS hK hlo hGO hG hw hS) rfl rfl hl.1 rfl (lv_room (Nat.le_of_ble_eq_true rfl)) d_po_init_57 ⟨Nat.le_of_ble_eq_true rfl, Nat.le_of_ble_eq_true rfl⟩) hS (fun f12 H locs hp hw hS => ?_)
  obtain ⟨hF12, hn43⟩ := hp
  have h0 := Fn.keep (Fr.fn hF12) h0 (by simpa using ne_a_q43)
  have hn5 := Fn.keep (Fr.fn hF12) hn5 (by simpa using ne_q5_q43)
  have hn16 := Fn.keep (Fr.fn hF12) hn16 (by simpa using ne_q16_q43)
  have hn27 := Fn.keep (Fr.fn hF12) hn27 (by simpa using ne_q27_q43)
  have hF := Fn.tr hF (Fr.fn hF12) (fun q hq => by rw [List.mem_singleton.mp hq]; exact ok_q43)
  refine mo_putr hx hb ht in_po ty_po tyok_po nm_po hown hK hw hS h0 rfl 7 (by decide) rfl (ht _ t_137) (fun _ h => h) rfl (tyok_po 7 (by decide)) rfl rfl d_po_init_60 (fun H locs f13 hf13 hw hS => ?_)
  have h0 := eq_s hf13
  have hn5 := eq_n hf13 hn5 ne_a_q5.symm
  have hn16 := eq_n hf13 hn16 ne_a_q16.symm
  have hn27 := eq_n hf13 hn27 ne_a_q27.symm
  have hn43 := eq_n hf13 hn43 ne_a_q43.symm
  have hF := Fn.up hF hf13 (aOK.of (by simp))
  rw [← hQ]; exact mq_vret hx hb hr hlocks hK hlo hGO hG hw hS (Nat.le_of_ble_eq_true rfl) (Nat.le_of_ble_eq_true rfl) d_po_init_63 ⟨hF, _, _, q5, q16, _, _, _, _, h0, rfl, rfl, rfl, rfl, hn5, rfl, rfl, hn16, rfl, rfl⟩
set_option maxHeartbeats 4000000 in
set_option maxRecDepth 100000 in
theorem c_po_layers (l : Launch) (hl9 : l.stackTraces = false) (D : va_G) (X : ClassId × ClassId × ClassId × ClassId) (lo t0 : Nat) (f : hM) (a : Nat) (b : Nat → Option Nat) (v : Nat → Int) (h0 : f a = some (eO 0 (oF sh_po b v))) (n r : Int) (rn : iR n) (rr : iR r) : vx_Met l y_po_layers (Cond.code y_po_layers b_po_layers 3 (none) :: TB) ({ frames := 6, cells := 1, slots := 6, locals := 90 } : Room) (va_Pc [.ref a, .int (iI (n)), .int (iI (r))] (Bq D CL (TYS X) lo (Gv lo t0) f)) (va_Qv (fun f1 => gLay n r ∧ Fn [a] f f1) (Bq D CL (TYS X) lo (Gv lo t0)) (fun q => lo ≤ q)) (XCm D CL lo (fun E f1 => E = IAE ∧ ¬ gLay n r ∧ Fn [a] f f1)) 1 6 (fun q => lo ≤ q) := by
  refine mtx (by decide) (Nat.le_of_ble_eq_true rfl) ?_
  intro p e s m args below meth cd ls hx hb hr hml hown ht hlocks hnm hK hlo hG hw hS hl hex
  have hl : lv_has ls 3 [(0, .ref a), (1, .int (iI (n))), (2, .int (iI (r)))] := hl
  have hGO := Gv.ok lo t0
  have hNB := hG.1
  generalize hQ : vx_MQ below _ _ args s _ _ _ = Q
  have hF : Fn [a] f f := Fn.rf
  refine lv_iload_n hx hb d_po_layers_0 rfl (lv_at hl 1 rfl) ?_
  refine mi_iconst hx hb d_po_layers_1 ?_
  refine mi_sipush hx hb d_po_layers_2 (by decide) ?_
  refine mq_calli (va_runS (As := [.int (iI (n)), .int (iI (1)), .int (iI (255))]) (rest := []) ⟨hx, hb, hml, hown, ht⟩ (c_po_isWithin l D X lo t0 f (n) (1) (255) rn (by decide) (by decide)) (cwS 3 ht (good_S (fun _ h => h) t_266 t_264 t_265 t_1) rfl rfl rfl (by decide +kernel) ⟨Nat.le_of_ble_eq_true rfl, Nat.le_of_ble_eq_true rfl⟩) (mq_preS hK hlo hGO hG hw hS) rfl rfl hl.1 rfl (lv_room (Nat.le_of_ble_eq_true rfl)) d_po_layers_5 ⟨Nat.le_of_ble_eq_true rfl, Nat.le_of_ble_eq_true rfl⟩) hS (fun r1 f1 H locs hp hw hS => ?_)
  obtain ⟨rfl, hF1⟩ := hp
  have h0 := Fr.keep hF1 h0 (by simp)
  have hF := Fn.tr hF (Fr.fn hF1) (fun q hq => absurd hq List.not_mem_nil)
  refine mi_if_ne (tgt := 21) hx hb d_po_layers_8 (by decide) (by split <;> decide) (fun c_8 => ?_) (fun c_8 => ?_)
  · skip
    refine lv_iload_n hx hb d_po_layers_21 rfl (lv_at hl 2 rfl) ?_
    refine mi_iconst hx hb d_po_layers_22 ?_
    refine mi_iconst hx hb d_po_layers_23 ?_
    refine mq_calli (va_runS (As := [.int (iI (r)), .int (iI (0)), .int (iI (4))]) (rest := []) ⟨hx, hb, hml, hown, ht⟩ (c_po_isWithin l D X lo t0 f1 (r) (0) (4) rr (by decide) (by decide)) (cwS 3 ht (good_S (fun _ h => h) t_266 t_264 t_265 t_1) rfl rfl rfl (by decide +kernel) ⟨Nat.le_of_ble_eq_true rfl, Nat.le_of_ble_eq_true rfl⟩) (mq_preS hK hlo hGO hG hw hS) rfl rfl hl.1 rfl (lv_room (Nat.le_of_ble_eq_true rfl)) d_po_layers_24 ⟨Nat.le_of_ble_eq_true rfl, Nat.le_of_ble_eq_true rfl⟩) hS (fun r2 f2 H locs hp hw hS => ?_)
    obtain ⟨rfl, hF2⟩ := hp
    have h0 := Fr.keep hF2 h0 (by simp)
    have hF := Fn.tr hF (Fr.fn hF2) (fun q hq => absurd hq List.not_mem_nil)
    refine mi_if_ne (tgt := 40) hx hb d_po_layers_27 (by decide) (by split <;> decide) (fun c_27 => ?_) (fun c_27 => ?_)
    · skip
      refine lv_aload_n hx hb d_po_layers_40 rfl (lv_at hl 0 rfl) ?_
      refine lv_iload_n hx hb d_po_layers_41 rfl (lv_at hl 1 rfl) ?_
      refine mo_puti hx hb ht in_po ty_po tyok_po nm_po hown hK hw hS h0 rfl 6 (by decide) rfl (ht _ t_136) (fun _ h => h) rfl (tyok_po 6 (by decide)) rfl rfl d_po_layers_42 (fun H locs f3 hf3 hw hS => ?_)
      have h0 := eq_s hf3
      have hF := Fn.up hF hf3 (aOK.of (by simp))
      refine lv_aload_n hx hb d_po_layers_45 rfl (lv_at hl 0 rfl) ?_
      refine mo_new (ci := 1) (sh := sh_ch) hx hb ht in_ch ty_ch tyok_ch hown (ht _ t_99) (ht _ t_100) (ht _ t_6) hK hw hS hlo rfl df_ch (Nat.le_of_ble_eq_true rfl) (Nat.le_of_ble_eq_true rfl) d_po_layers_46 (fun q46 H f4 hq46 hf4 hw hS => ?_)
      have ne_a_q46 : a ≠ q46 := ne_new h0 hq46
      have h0 := eq_q hf4 h0 hq46
      have hn46 := eq_s hf4
      have ok_q46 := Fn.new hF hq46
      have hF := Fn.up hF hf4 ok_q46
      refine lv_dup hx hb d_po_layers_49 rfl ?_
      refine mi_iconst hx hb d_po_layers_50 ?_
      refine mi_bipush hx hb d_po_layers_51 (by decide) ?_
      refine mi_iconst hx hb d_po_layers_53 ?_
      refine mi_bipush hx hb d_po_layers_54 (by decide) ?_
      refine mi_sipush hx hb d_po_layers_56 (by decide) ?_
      refine lv_iload_n hx hb d_po_layers_59 rfl (lv_at hl 2 rfl) ?_
      refine mq_callv (va_runI (As := [.int (iI (0)), .int (iI (33)), .int (iI (0)), .int (iI (16)), .int (iI (255)), .int (iI (r))]) (rest := [.ref q46, .ref a]) ⟨hx, hb, hml, hown, ht⟩ (c_ch_init l D X lo t0 f4 q46 (fun _ => (none : Option Nat)) (fun _ => (0 : Int)) hn46 (0) (33) (0) (16) (255) (r)) (cwI 6 ht (good_M (fun _ h => h) t_103) rfl rfl rfl (ht _ t_6) (ht _ t_101) (ht _ t_102) rfl (by decide +kernel) ⟨Nat.le_of_ble_eq_true rfl, Nat.le_of_ble_eq_true rfl⟩) (mq_preS hK hlo hGO hG hw hS) rfl rfl hl.1 rfl (lv_room (Nat.le_of_ble_eq_true rfl)) d_po_layers_60 ⟨Nat.le_of_ble_eq_true rfl, Nat.le_of_ble_eq_true rfl⟩) hS (fun f5 H locs hp hw hS => ?_)
      obtain ⟨hF5, hn46⟩ := hp
      have h0 := Fn.keep (Fr.fn hF5) h0 (by simpa using ne_a_q46)
      have hF := Fn.tr hF (Fr.fn hF5) (fun q hq => by rw [List.mem_singleton.mp hq]; exact ok_q46)
      refine mo_putr hx hb ht in_po ty_po tyok_po nm_po hown hK hw hS h0 rfl 7 (by decide) rfl (ht _ t_137) (fun _ h => h) rfl (tyok_po 7 (by decide)) rfl rfl d_po_layers_63 (fun H locs f6 hf6 hw hS => ?_)
      have h0 := eq_s hf6
      have hn46 := eq_n hf6 hn46 ne_a_q46.symm
      have hF := Fn.up hF hf6 (aOK.of (by simp))
      refine lv_aload_n hx hb d_po_layers_66 rfl (lv_at hl 0 rfl) ?_
      refine mi_iconst hx hb d_po_layers_67 ?_
      refine mo_puti hx hb ht in_po ty_po tyok_po nm_po hown hK hw hS h0 rfl 9 (by decide) rfl (ht _ t_139) (fun _ h => h) rfl (tyok_po 9 (by decide)) rfl rfl d_po_layers_68 (fun H locs f7 hf7 hw hS => ?_)
      have h0 := eq_s hf7
      have hn46 := eq_n hf7 hn46 ne_a_q46.symm
      have hF := Fn.up hF hf7 (aOK.of (by simp))
      rw [← hQ]; refine vx_ret ?_; exact mq_vret hx hb hr hlocks hK hlo hGO hG hw hS (Nat.le_of_ble_eq_true rfl) (Nat.le_of_ble_eq_true rfl) d_po_layers_71 ⟨(by split at c_8 <;> split at c_27 <;> omega), hF⟩
    · skip
      rw [← hQ]; exact mx_throw (text := "no such order") (names := ["java/lang/RuntimeException", "java/lang/Exception"]) hx hb hl9 hown (by decide +kernel) at_nm ht t_186 t_11 (by decide) at1_IAE at2_IAE at3_IAE hG hw hS (hl.1.trans hml.symm) d_po_layers_30 d_po_layers_33 d_po_layers_34 d_po_layers_36 d_po_layers_39 hex (Nat.le_of_ble_eq_true rfl) (Nat.le_of_ble_eq_true rfl) (Nat.le_of_ble_eq_true rfl) (Nat.le_of_ble_eq_true rfl) hlocks (Nat.le_of_ble_eq_true rfl) (Nat.le_of_ble_eq_true rfl) ⟨rfl, (by split at c_27 <;> omega), hF⟩
  · skip
    rw [← hQ]; exact mx_throw (text := "the layers are not 1 .. 255") (names := ["java/lang/RuntimeException", "java/lang/Exception"]) hx hb hl9 hown (by decide +kernel) at_nm ht t_186 t_11 (by decide) at1_IAE at2_IAE at3_IAE hG hw hS (hl.1.trans hml.symm) d_po_layers_11 d_po_layers_14 d_po_layers_15 d_po_layers_17 d_po_layers_20 hex (Nat.le_of_ble_eq_true rfl) (Nat.le_of_ble_eq_true rfl) (Nat.le_of_ble_eq_true rfl) (Nat.le_of_ble_eq_true rfl) hlocks (Nat.le_of_ble_eq_true rfl) (Nat.le_of_ble_eq_true rfl) ⟨rfl, (by split at c_8 <;> omega), hF⟩
set_option maxHeartbeats 4000000 in
set_option maxRecDepth 100000 in
theorem c_po_clear0 (l : Launch) (D : va_G) (X : ClassId × ClassId × ClassId × ClassId) (lo t0 : Nat) (f : hM) (a : Nat) (b : Nat → Option Nat) (v : Nat → Int) (h0 : f a = some (eO 0 (oF sh_po b v))) (lq : Nat) (bq : Nat → Option Nat) (vq : Nat → Int) (hq1 : f lq = some (eO 7 (oF sh_al bq vq))) (hsz : vq 2 = 0) (hbt : bq 1 = some t0) (hb8 : b 8 = some lq) : Met l y_po_clear (Cond.code y_po_clear b_po_clear 1 (none) :: TB) ({ frames := 1, cells := 0, slots := 0, locals := 40 } : Room) (va_Pc [.ref a] (Bq D CL (TYS X) lo (Gv lo t0) f)) (va_Qv (fun f1 => Fn [a, lq] f f1) (Bq D CL (TYS X) lo (Gv lo t0)) (fun q => lo ≤ q)) 0 0 (fun q => lo ≤ q) := by
  refine mt (by decide) (Nat.le_of_ble_eq_true rfl) ?_
  intro p e s m args below meth cd ls hx hb hr hml hown ht hlocks hnm hK hlo hG hw hS hl
  have hl : lv_has ls 1 [(0, .ref a)] := hl
  have hGO := Gv.ok lo t0
  have hNB := hG.1
  generalize hQ : MQ below _ args s _ _ _ = Q
  have hF : Fn [a, lq] f f := Fn.rf
  have nal : a ≠ lq := ne_of h0 hq1 (by simp)
  have ok_lq : aOK [a, lq] f lq := aOK.of (by simp)
  refine lv_aload_n hx hb d_po_clear_0 rfl (lv_at hl 0 rfl) ?_
  refine mo_getr hx hb ht in_po hown hK hw h0 rfl 8 (by decide) rfl hb8 (ht _ t_138) (fun _ h => h) d_po_clear_1 ?_
  refine mq_callv (va_runV (As := []) (rest := []) ⟨hx, hb, hml, hown, ht⟩ (c_al_clear_empty l D X lo t0 f lq bq vq hq1 t0 hbt hsz) (cwV 0 ht (good_V (fun _ h => h) t_177 t_174 t_175 t_176 t_4) rfl rfl rfl (by decide +kernel) ⟨Nat.le_of_ble_eq_true rfl, Nat.le_of_ble_eq_true rfl⟩) (mq_preV hK hlo hGO hG hw hS (hW.recv hK hw (ci := 7) rfl hq1)) rfl rfl hl.1 rfl (lv_room (Nat.le_of_ble_eq_true rfl)) d_po_clear_4 ⟨Nat.le_of_ble_eq_true rfl, Nat.le_of_ble_eq_true rfl⟩) hS (fun f1 H locs hp hw hS => ?_)
  obtain ⟨hF1, hq1⟩ := hp
  have h0 := Fn.keep (Fr.fn hF1) h0 (by simpa using nal)
  have hF := Fn.tr hF (Fr.fn hF1) (fun q hq => by rw [List.mem_singleton.mp hq]; exact ok_lq)
  refine lv_aload_n hx hb d_po_clear_7 rfl (lv_at hl 0 rfl) ?_
  refine mi_iconst hx hb d_po_clear_8 ?_
  refine mo_puti hx hb ht in_po ty_po tyok_po nm_po hown hK hw hS h0 rfl 9 (by decide) rfl (ht _ t_139) (fun _ h => h) rfl (tyok_po 9 (by decide)) rfl rfl d_po_clear_9 (fun H locs f2 hf2 hw hS => ?_)
  have h0 := eq_s hf2
  have hq1 := eq_n hf2 hq1 nal.symm
  have hF := Fn.up hF hf2 (aOK.of (by simp))
  rw [← hQ]; exact mq_vret hx hb hr hlocks hK hlo hGO hG hw hS (Nat.le_of_ble_eq_true rfl) (Nat.le_of_ble_eq_true rfl) d_po_clear_12 hF
set_option maxHeartbeats 4000000 in
set_option maxRecDepth 100000 in
theorem c_po_change0 (l : Launch) (hl9 : l.stackTraces = false) (D : va_G) (X : ClassId × ClassId × ClassId × ClassId) (lo t0 : Nat) (f : hM) (a : Nat) (b : Nat → Option Nat) (v : Nat → Int) (h0 : f a = some (eO 0 (oF sh_po b v))) (lq : Nat) (bq : Nat → Option Nat) (vq : Nat → Int) (hq1 : f lq = some (eO 7 (oF sh_al bq vq))) (hsz : vq 2 = 0) (hbt : bq 1 = some t0) (hb8 : b 8 = some lq) (p1 p2 p3 p4 p5 p6 : Int) (r1 : iR p1) (r2 : iR p2) (r3 : iR p3) (r4 : iR p4) (r5 : iR p5) (r6 : iR p6) : vx_Met l y_po_change (Cond.code y_po_change b_po_change 7 (some FieldType.int) :: TB) ({ frames := 6, cells := 2, slots := 16, locals := 130 } : Room) (va_Pc [.ref a, .int (iI (p1)), .int (iI (p2)), .int (iI (p3)), .int (iI (p4)), .int (iI (p5)), .int (iI (p6))] (Bq D CL (TYS X) lo (Gv lo t0) f)) (va_Qi (fun r f1 => r = iI 1 ∧ gChg p1 p2 p3 p4 p5 p6 ∧ Fn [a, lq] f f1) (Bq D CL (TYS X) lo (Gv lo t0)) (fun q => lo ≤ q)) (XCm D CL lo (fun E f1 => E = IAE ∧ ¬ gChg p1 p2 p3 p4 p5 p6 ∧ Fn [a, lq] f f1)) 2 16 (fun q => lo ≤ q) := by
  refine mtx (by decide) (Nat.le_of_ble_eq_true rfl) ?_
  intro p e s m args below meth cd ls hx hb hr hml hown ht hlocks hnm hK hlo hG hw hS hl hex
  have hl : lv_has ls 7 [(0, .ref a), (1, .int (iI (p1))), (2, .int (iI (p2))), (3, .int (iI (p3))), (4, .int (iI (p4))), (5, .int (iI (p5))), (6, .int (iI (p6)))] := hl
  have hGO := Gv.ok lo t0
  have hNB := hG.1
  generalize hQ : vx_MQ below _ _ args s _ _ _ = Q
  have hF : Fn [a, lq] f f := Fn.rf
  have nal : a ≠ lq := ne_of h0 hq1 (by simp)
  have ok_lq : aOK [a, lq] f lq := aOK.of (by simp)
  refine lv_iload_n hx hb d_po_change_0 rfl (lv_at hl 1 rfl) ?_
  refine mi_if_lt (tgt := 15) hx hb d_po_change_1 (by decide) r1 (fun c_1 => ?_) (fun c_1 => ?_)
  · skip
    rw [← hQ]; exact mx_throw (text := "no such levels") (names := ["java/lang/RuntimeException", "java/lang/Exception"]) hx hb hl9 hown (by decide +kernel) at_nm ht t_186 t_11 (by decide) at1_IAE at2_IAE at3_IAE hG hw hS (hl.1.trans hml.symm) d_po_change_15 d_po_change_18 d_po_change_19 d_po_change_21 d_po_change_24 hex (Nat.le_of_ble_eq_true rfl) (Nat.le_of_ble_eq_true rfl) (Nat.le_of_ble_eq_true rfl) (Nat.le_of_ble_eq_true rfl) hlocks (Nat.le_of_ble_eq_true rfl) (Nat.le_of_ble_eq_true rfl) ⟨rfl, (by omega), hF⟩
  · skip
    refine lv_iload_n hx hb d_po_change_4 rfl (lv_at hl 1 rfl) ?_
    refine lv_iload_n hx hb d_po_change_5 rfl (lv_at hl 2 rfl) ?_
    refine mi_icmp_ge (tgt := 15) hx hb d_po_change_6 (by decide) r1 r2 (fun c_6 => ?_) (fun c_6 => ?_)
    · skip
      rw [← hQ]; exact mx_throw (text := "no such levels") (names := ["java/lang/RuntimeException", "java/lang/Exception"]) hx hb hl9 hown (by decide +kernel) at_nm ht t_186 t_11 (by decide) at1_IAE at2_IAE at3_IAE hG hw hS (hl.1.trans hml.symm) d_po_change_15 d_po_change_18 d_po_change_19 d_po_change_21 d_po_change_24 hex (Nat.le_of_ble_eq_true rfl) (Nat.le_of_ble_eq_true rfl) (Nat.le_of_ble_eq_true rfl) (Nat.le_of_ble_eq_true rfl) hlocks (Nat.le_of_ble_eq_true rfl) (Nat.le_of_ble_eq_true rfl) ⟨rfl, (by omega), hF⟩
    · skip
      refine lv_iload_n hx hb d_po_change_9 rfl (lv_at hl 2 rfl) ?_
      refine mi_bipush hx hb d_po_change_10 (by decide) ?_
      refine mi_icmp_le (tgt := 25) hx hb d_po_change_12 (by decide) r2 (by decide) (fun c_12 => ?_) (fun c_12 => ?_)
      · skip
        refine lv_iload_n hx hb d_po_change_25 rfl (lv_at hl 3 rfl) ?_
        refine mi_if_lt (tgt := 42) hx hb d_po_change_26 (by decide) r3 (fun c_26 => ?_) (fun c_26 => ?_)
        · skip
          rw [← hQ]; exact mx_throw (text := "no such components") (names := ["java/lang/RuntimeException", "java/lang/Exception"]) hx hb hl9 hown (by decide +kernel) at_nm ht t_186 t_11 (by decide) at1_IAE at2_IAE at3_IAE hG hw hS (hl.1.trans hml.symm) d_po_change_42 d_po_change_45 d_po_change_46 d_po_change_48 d_po_change_51 hex (Nat.le_of_ble_eq_true rfl) (Nat.le_of_ble_eq_true rfl) (Nat.le_of_ble_eq_true rfl) (Nat.le_of_ble_eq_true rfl) hlocks (Nat.le_of_ble_eq_true rfl) (Nat.le_of_ble_eq_true rfl) ⟨rfl, (by omega), hF⟩
        · skip
          refine lv_iload_n hx hb d_po_change_29 rfl (lv_at hl 3 rfl) ?_
          refine lv_iload hx hb d_po_change_30 (lv_at hl 4 rfl) ?_
          refine mi_icmp_ge (tgt := 42) hx hb d_po_change_32 (by decide) r3 r4 (fun c_32 => ?_) (fun c_32 => ?_)
          · skip
            rw [← hQ]; exact mx_throw (text := "no such components") (names := ["java/lang/RuntimeException", "java/lang/Exception"]) hx hb hl9 hown (by decide +kernel) at_nm ht t_186 t_11 (by decide) at1_IAE at2_IAE at3_IAE hG hw hS (hl.1.trans hml.symm) d_po_change_42 d_po_change_45 d_po_change_46 d_po_change_48 d_po_change_51 hex (Nat.le_of_ble_eq_true rfl) (Nat.le_of_ble_eq_true rfl) (Nat.le_of_ble_eq_true rfl) (Nat.le_of_ble_eq_true rfl) hlocks (Nat.le_of_ble_eq_true rfl) (Nat.le_of_ble_eq_true rfl) ⟨rfl, (by omega), hF⟩
          · skip
            refine lv_iload hx hb d_po_change_35 (lv_at hl 4 rfl) ?_
            refine mi_bipush hx hb d_po_change_37 (by decide) ?_
            refine mi_icmp_le (tgt := 52) hx hb d_po_change_39 (by decide) r4 (by decide) (fun c_39 => ?_) (fun c_39 => ?_)
            · skip
              refine lv_iload hx hb d_po_change_52 (lv_at hl 5 rfl) ?_
              refine mi_iconst hx hb d_po_change_54 ?_
              refine mi_sipush hx hb d_po_change_55 (by decide) ?_
              refine mq_calli (va_runS (As := [.int (iI (p5)), .int (iI (1)), .int (iI (255))]) (rest := []) ⟨hx, hb, hml, hown, ht⟩ (c_po_isWithin l D X lo t0 f (p5) (1) (255) r5 (by decide) (by decide)) (cwS 3 ht (good_S (fun _ h => h) t_266 t_264 t_265 t_1) rfl rfl rfl (by decide +kernel) ⟨Nat.le_of_ble_eq_true rfl, Nat.le_of_ble_eq_true rfl⟩) (mq_preS hK hlo hGO hG hw hS) rfl rfl hl.1 rfl (lv_room (Nat.le_of_ble_eq_true rfl)) d_po_change_58 ⟨Nat.le_of_ble_eq_true rfl, Nat.le_of_ble_eq_true rfl⟩) hS (fun r1 f1 H locs hp hw hS => ?_)
              obtain ⟨rfl, hF1⟩ := hp
              have h0 := Fr.keep hF1 h0 (by simp)
              have hq1 := Fr.keep hF1 hq1 (by simp)
              have hF := Fn.tr hF (Fr.fn hF1) (fun q hq => absurd hq List.not_mem_nil)
              refine mi_if_ne (tgt := 74) hx hb d_po_change_61 (by decide) (by split <;> decide) (fun c_61 => ?_) (fun c_61 => ?_)
              · skip
                refine lv_iload hx hb d_po_change_74 (lv_at hl 6 rfl) ?_
                refine mi_iconst hx hb d_po_change_76 ?_
                refine mi_iconst hx hb d_po_change_77 ?_
                refine mq_calli (va_runS (As := [.int (iI (p6)), .int (iI (0)), .int (iI (4))]) (rest := []) ⟨hx, hb, hml, hown, ht⟩ (c_po_isWithin l D X lo t0 f1 (p6) (0) (4) r6 (by decide) (by decide)) (cwS 3 ht (good_S (fun _ h => h) t_266 t_264 t_265 t_1) rfl rfl rfl (by decide +kernel) ⟨Nat.le_of_ble_eq_true rfl, Nat.le_of_ble_eq_true rfl⟩) (mq_preS hK hlo hGO hG hw hS) rfl rfl hl.1 rfl (lv_room (Nat.le_of_ble_eq_true rfl)) d_po_change_78 ⟨Nat.le_of_ble_eq_true rfl, Nat.le_of_ble_eq_true rfl⟩) hS (fun r2 f2 H locs hp hw hS => ?_)
                obtain ⟨rfl, hF2⟩ := hp
                have h0 := Fr.keep hF2 h0 (by simp)
                have hq1 := Fr.keep hF2 hq1 (by simp)
                have hF := Fn.tr hF (Fr.fn hF2) (fun q hq => absurd hq List.not_mem_nil)
                refine mi_if_ne (tgt := 94) hx hb d_po_change_81 (by decide) (by split <;> decide) (fun c_81 => ?_) (fun c_81 => ?_)
                · skip
                  refine lv_aload_n hx hb d_po_change_94 rfl (lv_at hl 0 rfl) ?_
                  refine mo_getr hx hb ht in_po hown hK hw h0 rfl 8 (by decide) rfl hb8 (ht _ t_138) (fun _ h => h) d_po_change_95 ?_
                  refine mq_calli (va_runV (As := []) (rest := []) ⟨hx, hb, hml, hown, ht⟩ (c_al_size l D X lo t0 f2 lq bq vq hq1) (cwV 0 ht (good_V (fun _ h => h) t_272 t_269 t_270 t_271 t_4) rfl rfl rfl (by decide +kernel) ⟨Nat.le_of_ble_eq_true rfl, Nat.le_of_ble_eq_true rfl⟩) (mq_preV hK hlo hGO hG hw hS (hW.recv hK hw (ci := 7) rfl hq1)) rfl rfl hl.1 rfl (lv_room (Nat.le_of_ble_eq_true rfl)) d_po_change_98 ⟨Nat.le_of_ble_eq_true rfl, Nat.le_of_ble_eq_true rfl⟩) hS (fun r3 f3 H locs hp hw hS => ?_)
                  obtain ⟨rfl, hF3⟩ := hp
                  have h0 := Fr.keep hF3 h0 (by simp)
                  have hq1 := Fr.keep hF3 hq1 (by simp)
                  have hF := Fn.tr hF (Fr.fn hF3) (fun q hq => absurd hq List.not_mem_nil)
                  rw [show vq 2 = 0 from hsz]
                  refine mi_bipush hx hb d_po_change_101 (by decide) ?_
                  refine mi_icmp_lt (tgt := 116) hx hb d_po_change_103 (by decide) (by decide) (by decide) (fun c_103 => ?_) (fun c_103 => ?_)
                  · skip
                    refine lv_aload_n hx hb d_po_change_116 rfl (lv_at hl 0 rfl) ?_
                    refine mo_getr hx hb ht in_po hown hK hw h0 rfl 8 (by decide) rfl hb8 (ht _ t_138) (fun _ h => h) d_po_change_117 ?_
                    refine mo_new (ci := 1) (sh := sh_ch) hx hb ht in_ch ty_ch tyok_ch hown (ht _ t_99) (ht _ t_100) (ht _ t_6) hK hw hS hlo rfl df_ch (Nat.le_of_ble_eq_true rfl) (Nat.le_of_ble_eq_true rfl) d_po_change_120 (fun q120 H f4 hq120 hf4 hw hS => ?_)
                    have ne_a_q120 : a ≠ q120 := ne_new h0 hq120
                    have ne_lq_q120 : lq ≠ q120 := ne_new hq1 hq120
                    have h0 := eq_q hf4 h0 hq120
                    have hq1 := eq_q hf4 hq1 hq120
                    have hn120 := eq_s hf4
                    have ok_q120 := Fn.new hF hq120
                    have hF := Fn.up hF hf4 ok_q120
                    refine lv_dup hx hb d_po_change_123 rfl ?_
                    refine lv_iload_n hx hb d_po_change_124 rfl (lv_at hl 1 rfl) ?_
                    refine lv_iload_n hx hb d_po_change_125 rfl (lv_at hl 2 rfl) ?_
                    refine lv_iload_n hx hb d_po_change_126 rfl (lv_at hl 3 rfl) ?_
                    refine lv_iload hx hb d_po_change_127 (lv_at hl 4 rfl) ?_
                    refine lv_iload hx hb d_po_change_129 (lv_at hl 5 rfl) ?_
                    refine lv_iload hx hb d_po_change_131 (lv_at hl 6 rfl) ?_
                    refine mq_callv (va_runI (As := [.int (iI (p1)), .int (iI (p2)), .int (iI (p3)), .int (iI (p4)), .int (iI (p5)), .int (iI (p6))]) (rest := [.ref q120, .ref lq]) ⟨hx, hb, hml, hown, ht⟩ (c_ch_init l D X lo t0 f4 q120 (fun _ => (none : Option Nat)) (fun _ => (0 : Int)) hn120 (p1) (p2) (p3) (p4) (p5) (p6)) (cwI 6 ht (good_M (fun _ h => h) t_103) rfl rfl rfl (ht _ t_6) (ht _ t_101) (ht _ t_102) rfl (by decide +kernel) ⟨Nat.le_of_ble_eq_true rfl, Nat.le_of_ble_eq_true rfl⟩) (mq_preS hK hlo hGO hG hw hS) rfl rfl hl.1 rfl (lv_room (Nat.le_of_ble_eq_true rfl)) d_po_change_133 ⟨Nat.le_of_ble_eq_true rfl, Nat.le_of_ble_eq_true rfl⟩) hS (fun f5 H locs hp hw hS => ?_)
                    obtain ⟨hF5, hn120⟩ := hp
                    have h0 := Fn.keep (Fr.fn hF5) h0 (by simpa using ne_a_q120)
                    have hq1 := Fn.keep (Fr.fn hF5) hq1 (by simpa using ne_lq_q120)
                    have hF := Fn.tr hF (Fr.fn hF5) (fun q hq => by rw [List.mem_singleton.mp hq]; exact ok_q120)
                    refine mq_calli (va_runV (As := [.ref q120]) (rest := []) ⟨hx, hb, hml, hown, ht⟩ (c_al_add_first l D X lo t0 f5 lq bq vq hq1 hbt hsz q120 1 _ hn120 _ rfl n_931 ne_lq_q120.symm) (cwV 1 ht (good_V (fun _ h => h) t_362 t_359 t_360 t_361 t_4) rfl rfl rfl (by decide +kernel) ⟨Nat.le_of_ble_eq_true rfl, Nat.le_of_ble_eq_true rfl⟩) (mq_preV hK hlo hGO hG hw hS (hW.recv hK hw (ci := 7) rfl hq1)) rfl rfl hl.1 rfl (lv_room (Nat.le_of_ble_eq_true rfl)) d_po_change_136 ⟨Nat.le_of_ble_eq_true rfl, Nat.le_of_ble_eq_true rfl⟩) hS (fun r6 f6 H locs hp hw hS => ?_)
                    obtain ⟨rfl, q6, hq6, hF6, hq1, hn6⟩ := hp
                    have h0 := Fn.keep hF6 h0 (by simpa using nal)
                    have hn120 := Fn.keep hF6 hn120 (by simpa using ne_lq_q120.symm)
                    have hF := Fn.tr hF hF6 (fun q hq => by rw [List.mem_singleton.mp hq]; exact ok_lq)
                    refine lv_pop hx hb d_po_change_139 rfl ?_
                    refine lv_aload_n hx hb d_po_change_140 rfl (lv_at hl 0 rfl) ?_
                    refine mi_iconst hx hb d_po_change_141 ?_
                    refine mo_puti hx hb ht in_po ty_po tyok_po nm_po hown hK hw hS h0 rfl 9 (by decide) rfl (ht _ t_139) (fun _ h => h) rfl (tyok_po 9 (by decide)) rfl rfl d_po_change_142 (fun H locs f7 hf7 hw hS => ?_)
                    have h0 := eq_s hf7
                    have hq1 := eq_n hf7 hq1 nal.symm
                    have hn120 := eq_n hf7 hn120 ne_a_q120.symm
                    have hF := Fn.up hF hf7 (aOK.of (by simp))
                    refine lv_aload_n hx hb d_po_change_145 rfl (lv_at hl 0 rfl) ?_
                    refine mo_getr hx hb ht in_po hown hK hw h0 rfl 8 (by decide) rfl hb8 (ht _ t_138) (fun _ h => h) d_po_change_146 ?_
                    refine mq_calli (va_runV (As := []) (rest := []) ⟨hx, hb, hml, hown, ht⟩ (c_al_size l D X lo t0 f7 lq (va_up bq 1 (some q6)) (va_up (va_up vq 0 (vq 0 + 1)) 2 1) hq1) (cwV 0 ht (good_V (fun _ h => h) t_272 t_269 t_270 t_271 t_4) rfl rfl rfl (by decide +kernel) ⟨Nat.le_of_ble_eq_true rfl, Nat.le_of_ble_eq_true rfl⟩) (mq_preV hK hlo hGO hG hw hS (hW.recv hK hw (ci := 7) rfl hq1)) rfl rfl hl.1 rfl (lv_room (Nat.le_of_ble_eq_true rfl)) d_po_change_149 ⟨Nat.le_of_ble_eq_true rfl, Nat.le_of_ble_eq_true rfl⟩) hS (fun r8 f8 H locs hp hw hS => ?_)
                    obtain ⟨rfl, hF8⟩ := hp
                    have h0 := Fr.keep hF8 h0 (by simp)
                    have hq1 := Fr.keep hF8 hq1 (by simp)
                    have hn120 := Fr.keep hF8 hn120 (by simp)
                    have hF := Fn.tr hF (Fr.fn hF8) (fun q hq => absurd hq List.not_mem_nil)
                    rw [show (va_up (va_up vq 0 (vq 0 + 1)) 2 1) 2 = 1 from rfl]
                    rw [← hQ]; refine vx_ret ?_; exact mq_iret hx hb hr hlocks hK hlo hGO hG hw hS (Nat.le_of_ble_eq_true rfl) (Nat.le_of_ble_eq_true rfl) d_po_change_152 ⟨rfl, (by split at c_61 <;> split at c_81 <;> omega), hF⟩
                  · exact absurd c_103 (by omega)
                · skip
                  rw [← hQ]; exact mx_throw (text := "no such order") (names := ["java/lang/RuntimeException", "java/lang/Exception"]) hx hb hl9 hown (by decide +kernel) at_nm ht t_186 t_11 (by decide) at1_IAE at2_IAE at3_IAE hG hw hS (hl.1.trans hml.symm) d_po_change_84 d_po_change_87 d_po_change_88 d_po_change_90 d_po_change_93 hex (Nat.le_of_ble_eq_true rfl) (Nat.le_of_ble_eq_true rfl) (Nat.le_of_ble_eq_true rfl) (Nat.le_of_ble_eq_true rfl) hlocks (Nat.le_of_ble_eq_true rfl) (Nat.le_of_ble_eq_true rfl) ⟨rfl, (by split at c_81 <;> omega), hF⟩
              · skip
                rw [← hQ]; exact mx_throw (text := "no such layers") (names := ["java/lang/RuntimeException", "java/lang/Exception"]) hx hb hl9 hown (by decide +kernel) at_nm ht t_186 t_11 (by decide) at1_IAE at2_IAE at3_IAE hG hw hS (hl.1.trans hml.symm) d_po_change_64 d_po_change_67 d_po_change_68 d_po_change_70 d_po_change_73 hex (Nat.le_of_ble_eq_true rfl) (Nat.le_of_ble_eq_true rfl) (Nat.le_of_ble_eq_true rfl) (Nat.le_of_ble_eq_true rfl) hlocks (Nat.le_of_ble_eq_true rfl) (Nat.le_of_ble_eq_true rfl) ⟨rfl, (by split at c_61 <;> omega), hF⟩
            · skip
              rw [← hQ]; exact mx_throw (text := "no such components") (names := ["java/lang/RuntimeException", "java/lang/Exception"]) hx hb hl9 hown (by decide +kernel) at_nm ht t_186 t_11 (by decide) at1_IAE at2_IAE at3_IAE hG hw hS (hl.1.trans hml.symm) d_po_change_42 d_po_change_45 d_po_change_46 d_po_change_48 d_po_change_51 hex (Nat.le_of_ble_eq_true rfl) (Nat.le_of_ble_eq_true rfl) (Nat.le_of_ble_eq_true rfl) (Nat.le_of_ble_eq_true rfl) hlocks (Nat.le_of_ble_eq_true rfl) (Nat.le_of_ble_eq_true rfl) ⟨rfl, (by omega), hF⟩
      · skip
        rw [← hQ]; exact mx_throw (text := "no such levels") (names := ["java/lang/RuntimeException", "java/lang/Exception"]) hx hb hl9 hown (by decide +kernel) at_nm ht t_186 t_11 (by decide) at1_IAE at2_IAE at3_IAE hG hw hS (hl.1.trans hml.symm) d_po_change_15 d_po_change_18 d_po_change_19 d_po_change_21 d_po_change_24 hex (Nat.le_of_ble_eq_true rfl) (Nat.le_of_ble_eq_true rfl) (Nat.le_of_ble_eq_true rfl) (Nat.le_of_ble_eq_true rfl) hlocks (Nat.le_of_ble_eq_true rfl) (Nat.le_of_ble_eq_true rfl) ⟨rfl, (by omega), hF⟩
set_option maxHeartbeats 4000000 in
set_option maxRecDepth 100000 in
theorem c_po_levelOf0 (l : Launch) (D : va_G) (X : ClassId × ClassId × ClassId × ClassId) (lo t0 : Nat) (f : hM) (a : Nat) (b : Nat → Option Nat) (v : Nat → Int) (h0 : f a = some (eO 0 (oF sh_po b v))) (lq : Nat) (bq : Nat → Option Nat) (vq : Nat → Int) (hq1 : f lq = some (eO 7 (oF sh_al bq vq))) (hsz : vq 2 = 0) (hbt : bq 1 = some t0) (hb5 : b 5 = some lq) (c r : Int) (rc : iR c) (rr : iR r) : Met l y_po_levelOf (Cond.code y_po_levelOf b_po_levelOf 4 (some (FieldType.object "PacketOrder$Level")) :: TB) ({ frames := 1, cells := 0, slots := 0, locals := 30 } : Room) (va_Pc [.ref a, .int (iI (c)), .int (iI (r))] (Bq D CL (TYS X) lo (Gv lo t0) f)) (va_Qq (fun q f1 => q = none ∧ Fr [] f f1) (Bq D CL (TYS X) lo (Gv lo t0)) (fun q => lo ≤ q)) 0 0 (fun q => lo ≤ q) := by
  refine mt (by decide) (Nat.le_of_ble_eq_true rfl) ?_
  intro p e s m args below meth cd ls hx hb hr hml hown ht hlocks hnm hK hlo hG hw hS hl
  have hl : lv_has ls 4 [(0, .ref a), (1, .int (iI (c))), (2, .int (iI (r)))] := hl
  have hGO := Gv.ok lo t0
  have hNB := hG.1
  generalize hQ : MQ below _ args s _ _ _ = Q
  have hF : Fr [] f f := Fr.rf
  refine lv_iload_n hx hb d_po_levelOf_0 rfl (lv_at hl 1 rfl) ?_
  refine mi_if_lt (tgt := 15) hx hb d_po_levelOf_1 (by decide) rc (fun c_1 => ?_) (fun c_1 => ?_)
  · skip
    refine lv_null hx hb d_po_levelOf_15 ?_
    rw [← hQ]; exact mq_aret (r := none) hx hb hr (Or.inl ⟨_, rfl⟩) hlocks hK hlo hGO hG hw hS (Nat.le_of_ble_eq_true rfl) (Nat.le_of_ble_eq_true rfl) d_po_levelOf_16 ⟨rfl, hF⟩
  · skip
    refine lv_iload_n hx hb d_po_levelOf_4 rfl (lv_at hl 1 rfl) ?_
    refine lv_aload_n hx hb d_po_levelOf_5 rfl (lv_at hl 0 rfl) ?_
    refine mo_getr hx hb ht in_po hown hK hw h0 rfl 5 (by decide) rfl hb5 (ht _ t_135) (fun _ h => h) d_po_levelOf_6 ?_
    refine mq_calli (va_runV (As := []) (rest := [.int (iI (c))]) ⟨hx, hb, hml, hown, ht⟩ (c_al_size l D X lo t0 f lq bq vq hq1) (cwV 0 ht (good_V (fun _ h => h) t_272 t_269 t_270 t_271 t_4) rfl rfl rfl (by decide +kernel) ⟨Nat.le_of_ble_eq_true rfl, Nat.le_of_ble_eq_true rfl⟩) (mq_preV hK hlo hGO hG hw hS (hW.recv hK hw (ci := 7) rfl hq1)) rfl rfl hl.1 rfl (lv_room (Nat.le_of_ble_eq_true rfl)) d_po_levelOf_9 ⟨Nat.le_of_ble_eq_true rfl, Nat.le_of_ble_eq_true rfl⟩) hS (fun r1 f1 H locs hp hw hS => ?_)
    obtain ⟨rfl, hF1⟩ := hp
    have h0 := Fr.keep hF1 h0 (by simp)
    have hq1 := Fr.keep hF1 hq1 (by simp)
    have hF := Fr.tr hF hF1 (by simp)
    rw [show vq 2 = 0 from hsz]
    refine mi_icmp_lt (tgt := 17) hx hb d_po_levelOf_12 (by decide) rc (by decide) (fun c_12 => ?_) (fun c_12 => ?_)
    · exact absurd c_12 (by omega)
    · skip
      refine lv_null hx hb d_po_levelOf_15 ?_
      rw [← hQ]; exact mq_aret (r := none) hx hb hr (Or.inl ⟨_, rfl⟩) hlocks hK hlo hGO hG hw hS (Nat.le_of_ble_eq_true rfl) (Nat.le_of_ble_eq_true rfl) d_po_levelOf_16 ⟨rfl, hF⟩
set_option maxHeartbeats 4000000 in
set_option maxRecDepth 100000 in
theorem c_po_precincts0 (l : Launch) (hl9 : l.stackTraces = false) (D : va_G) (X : ClassId × ClassId × ClassId × ClassId) (lo t0 : Nat) (f : hM) (a : Nat) (b : Nat → Option Nat) (v : Nat → Int) (h0 : f a = some (eO 0 (oF sh_po b v))) (lq : Nat) (bq : Nat → Option Nat) (vq : Nat → Int) (hq1 : f lq = some (eO 7 (oF sh_al bq vq))) (hsz : vq 2 = 0) (hbt : bq 1 = some t0) (hb5 : b 5 = some lq) (c r pw ph : Int) (rc : iR c) (rr : iR r) (rw9 : iR pw) (rh9 : iR ph) : vx_Met l y_po_precincts (Cond.code y_po_precincts b_po_precincts 7 (none) :: TB) ({ frames := 6, cells := 1, slots := 6, locals := 90 } : Room) (va_Pc [.ref a, .int (iI (c)), .int (iI (r)), .int (iI (pw)), .int (iI (ph))] (Bq D CL (TYS X) lo (Gv lo t0) f)) (va_Qv (fun _ => False) (Bq D CL (TYS X) lo (Gv lo t0)) (fun q => lo ≤ q)) (XCm D CL lo (fun E f1 => E = NSE ∧ Fr [] f f1)) 1 6 (fun q => lo ≤ q) := by
  refine mtx (by decide) (Nat.le_of_ble_eq_true rfl) ?_
  intro p e s m args below meth cd ls hx hb hr hml hown ht hlocks hnm hK hlo hG hw hS hl hex
  have hl : lv_has ls 7 [(0, .ref a), (1, .int (iI (c))), (2, .int (iI (r))), (3, .int (iI (pw))), (4, .int (iI (ph)))] := hl
  have hGO := Gv.ok lo t0
  have hNB := hG.1
  generalize hQ : vx_MQ below _ _ args s _ _ _ = Q
  have hF : Fr [] f f := Fr.rf
  refine lv_aload_n hx hb d_po_precincts_0 rfl (lv_at hl 0 rfl) ?_
  refine lv_iload_n hx hb d_po_precincts_1 rfl (lv_at hl 1 rfl) ?_
  refine lv_iload_n hx hb d_po_precincts_2 rfl (lv_at hl 2 rfl) ?_
  refine mq_callq (va_runV (As := [.int (iI (c)), .int (iI (r))]) (rest := []) ⟨hx, hb, hml, hown, ht⟩ (c_po_levelOf0 l D X lo t0 f a b v h0 lq bq vq hq1 hsz hbt hb5 (c) (r) rc rr) (cwV 2 ht (good_V (fun _ h => h) t_427 t_424 t_426 s_4 t_1) rfl rfl rfl (by decide +kernel) ⟨Nat.le_of_ble_eq_true rfl, Nat.le_of_ble_eq_true rfl⟩) (mq_preV hK hlo hGO hG hw hS (hW.recv hK hw (ci := 0) rfl h0)) rfl rfl hl.1 rfl (lv_room (Nat.le_of_ble_eq_true rfl)) d_po_precincts_3 ⟨Nat.le_of_ble_eq_true rfl, Nat.le_of_ble_eq_true rfl⟩) hS (fun r1 f1 H locs hp hw hS => ?_)
  obtain ⟨rfl, hF1⟩ := hp
  have hF := Fr.tr hF hF1 (by simp)
  refine lv_astoreN (lv' := [(5, .null), (0, .ref a), (1, .int (iI (c))), (2, .int (iI (r))), (3, .int (iI (pw))), (4, .int (iI (ph)))]) hx hb d_po_precincts_6 hl (by decide) rfl (fun ls hl => ?_)
  refine lv_aloadN hx hb d_po_precincts_8 (lv_at hl 0 rfl) ?_
  refine lv_ifnonnullN hx hb d_po_precincts_10 ?_
  rw [← hQ]; exact mx_throwN (text := "no such level of a component") hx hb hl9 hown ht t_442 t_22 (by decide) hG hw hS (hl.1.trans hml.symm) d_po_precincts_13 d_po_precincts_16 d_po_precincts_17 d_po_precincts_19 d_po_precincts_22 hex (Nat.le_of_ble_eq_true rfl) (Nat.le_of_ble_eq_true rfl) (Nat.le_of_ble_eq_true rfl) (Nat.le_of_ble_eq_true rfl) hlocks (Nat.le_of_ble_eq_true rfl) (Nat.le_of_ble_eq_true rfl) ⟨rfl, hF⟩
