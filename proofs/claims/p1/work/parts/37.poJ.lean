/-! the class under proof: its constructor; layers, clear, change, precincts on a fresh object -/
/-- a fresh object: no tile, no sequence, two empty lists -/
def poFr (t0 : Nat) (f : hM) (a : Nat) : Prop := ∃ (b : Nat → Option Nat) (v : Nat → Int) (lc lh : Nat) (bc bh : Nat → Option Nat) (vc vh : Nat → Int), f a = some (eO 0 (oF sh_po b v)) ∧ v 4 = 0 ∧ v 9 = 0 ∧ b 5 = some lc ∧ b 8 = some lh ∧ f lc = some (eO 7 (oF sh_al bc vc)) ∧ vc 2 = 0 ∧ bc 1 = some t0 ∧ f lh = some (eO 7 (oF sh_al bh vh)) ∧ vh 2 = 0 ∧ bh 1 = some t0
set_option maxHeartbeats 4000000 in
set_option maxRecDepth 100000 in
theorem c_po_init (l : Launch) (D : va_G) (X : ClassId × ClassId × ClassId × ClassId) (lo t0 : Nat) (f : hM) (a : Nat) (h0 : f a = some (eO 0 (oF sh_po (fun _ => (none : Option Nat)) (fun _ => (0 : Int))))) : Met l y_po_init (Cond.code y_po_init b_po_init 1 (none) :: TB) ({ frames := 4, cells := 7, slots := 22, locals := 80 } : Room) (va_Pc [.ref a] (Bq D CL (TYS X) lo (Gv lo t0) f)) (va_Qv (fun f1 => Fn [a] f f1 ∧ poFr t0 f1 a) (Bq D CL (TYS X) lo (Gv lo t0)) (fun q => lo ≤ q)) 7 22 (fun q => lo ≤ q) := by
  refine mt (by decide) (Nat.le_of_ble_eq_true rfl) ?_
  intro p e s m args below meth cd ls hx hb hr hml hown ht hlocks hnm hK hlo hG hw hS hl
  have hl : lv_has ls 1 [(0, .ref a)] := hl
  have hGO := Gv.ok lo t0
  have hNB := hG.1
  generalize hQ : MQ below _ args s _ _ _ = Q
  have hF : Fn [a] f f := Fn.rf
  refine lv_aload_n hx hb d_po_init_0 rfl (lv_at hl 0 rfl) ?_
  refine W.objInit hx hb hown (ht _ t_29) (ht _ t_30) (ht _ t_31) rfl (by rw [hml]; exact hl.1) rfl d_po_init_1 (Nat.le_of_ble_eq_true rfl) (Nat.le_of_ble_eq_true rfl) ?_
  refine W.eq (g2 := F0 m 4 ls []) rfl ?_
  refine lv_aload_n hx hb d_po_init_4 rfl (lv_at hl 0 rfl) ?_
  refine mo_new (ci := 7) (sh := sh_al) hx hb ht in_al ty_al tyok_al hown (ht _ t_32) (ht _ t_33) (ht _ t_4) hK hw hS hlo rfl df_al (Nat.le_of_ble_eq_true rfl) (Nat.le_of_ble_eq_true rfl) d_po_init_5 (fun q5 H f1 hq5 hf1 hw hS => ?_)
  have ne_a_q5 : a ≠ q5 := ne_new h0 hq5
  have h0 := eq_q hf1 h0 hq5
  have hn5 := eq_s hf1
  have ok_q5 := Fn.new hF hq5
  have hF := Fn.up hF hf1 ok_q5
  refine lv_dup hx hb d_po_init_8 rfl ?_
  refine mq_callv (va_runI (As := []) (rest := [.ref q5, .ref a]) ⟨hx, hb, hml, hown, ht⟩ (c_al_init l D X lo t0 f1 q5 (fun _ => (none : Option Nat)) (fun _ => (0 : Int)) hn5) (cwI 0 ht (good_M (fun _ h => h) t_36) rfl rfl rfl (ht _ t_4) (ht _ t_34) (ht _ t_35) rfl (by decide +kernel) ⟨Nat.le_of_ble_eq_true rfl, Nat.le_of_ble_eq_true rfl⟩) (mq_preS hK hlo hGO hG hw hS) rfl rfl hl.1 rfl (lv_room (Nat.le_of_ble_eq_true rfl)) d_po_init_9 ⟨Nat.le_of_ble_eq_true rfl, Nat.le_of_ble_eq_true rfl⟩) hS (fun f2 H locs hp hw hS => ?_)
  obtain ⟨hF2, hn5⟩ := hp
  have h0 := Fn.keep (Fr.fn hF2) h0 (by simpa using ne_a_q5)
  have hF := Fn.tr hF (Fr.fn hF2) (fun q hq => by rw [List.mem_singleton.mp hq]; exact ok_q5)
  refine mo_putrF hx hb ht in_po ty_po tyok_po nm_po hown hK hw hS h0 rfl 5 (by decide) rfl (ht _ t_135) (fun _ h => h) rfl hnm rfl (tyok_po 5 (by decide)) rfl rfl d_po_init_12 (fun H locs f3 hf3 hw hS => ?_)
  have h0 := eq_s hf3
  have hn5 := eq_n hf3 hn5 ne_a_q5.symm
  have hF := Fn.up hF hf3 (aOK.of (by simp))
  refine lv_aload_n hx hb d_po_init_15 rfl (lv_at hl 0 rfl) ?_
  refine mo_new (ci := 7) (sh := sh_al) hx hb ht in_al ty_al tyok_al hown (ht _ t_32) (ht _ t_33) (ht _ t_4) hK hw hS hlo rfl df_al (Nat.le_of_ble_eq_true rfl) (Nat.le_of_ble_eq_true rfl) d_po_init_16 (fun q16 H f4 hq16 hf4 hw hS => ?_)
  have ne_a_q16 : a ≠ q16 := ne_new h0 hq16
  have ne_q5_q16 : q5 ≠ q16 := ne_new hn5 hq16
  have h0 := eq_q hf4 h0 hq16
  have hn5 := eq_q hf4 hn5 hq16
  have hn16 := eq_s hf4
  have ok_q16 := Fn.new hF hq16
  have hF := Fn.up hF hf4 ok_q16
  refine lv_dup hx hb d_po_init_19 rfl ?_
  refine mq_callv (va_runI (As := []) (rest := [.ref q16, .ref a]) ⟨hx, hb, hml, hown, ht⟩ (c_al_init l D X lo t0 f4 q16 (fun _ => (none : Option Nat)) (fun _ => (0 : Int)) hn16) (cwI 0 ht (good_M (fun _ h => h) t_36) rfl rfl rfl (ht _ t_4) (ht _ t_34) (ht _ t_35) rfl (by decide +kernel) ⟨Nat.le_of_ble_eq_true rfl, Nat.le_of_ble_eq_true rfl⟩) (mq_preS hK hlo hGO hG hw hS) rfl rfl hl.1 rfl (lv_room (Nat.le_of_ble_eq_true rfl)) d_po_init_20 ⟨Nat.le_of_ble_eq_true rfl, Nat.le_of_ble_eq_true rfl⟩) hS (fun f5 H locs hp hw hS => ?_)
  obtain ⟨hF5, hn16⟩ := hp
  have h0 := Fn.keep (Fr.fn hF5) h0 (by simpa using ne_a_q16)
  have hn5 := Fn.keep (Fr.fn hF5) hn5 (by simpa using ne_q5_q16)
  have hF := Fn.tr hF (Fr.fn hF5) (fun q hq => by rw [List.mem_singleton.mp hq]; exact ok_q16)
  refine mo_putrF hx hb ht in_po ty_po tyok_po nm_po hown hK hw hS h0 rfl 8 (by decide) rfl (ht _ t_138) (fun _ h => h) rfl hnm rfl (tyok_po 8 (by decide)) rfl rfl d_po_init_23 (fun H locs f6 hf6 hw hS => ?_)
  have h0 := eq_s hf6
  have hn5 := eq_n hf6 hn5 ne_a_q5.symm
  have hn16 := eq_n hf6 hn16 ne_a_q16.symm
  have hF := Fn.up hF hf6 (aOK.of (by simp))
  refine lv_aload_n hx hb d_po_init_26 rfl (lv_at hl 0 rfl) ?_
  refine mo_new (ci := 4) (sh := sh_ro) hx hb ht in_ro ty_ro tyok_ro hown (ht _ t_58) (ht _ t_59) (ht _ t_5) hK hw hS hlo rfl df_ro (Nat.le_of_ble_eq_true rfl) (Nat.le_of_ble_eq_true rfl) d_po_init_27 (fun q27 H f7 hq27 hf7 hw hS => ?_)
  have ne_a_q27 : a ≠ q27 := ne_new h0 hq27
  have ne_q5_q27 : q5 ≠ q27 := ne_new hn5 hq27
  have ne_q16_q27 : q16 ≠ q27 := ne_new hn16 hq27
  have h0 := eq_q hf7 h0 hq27
  have hn5 := eq_q hf7 hn5 hq27
  have hn16 := eq_q hf7 hn16 hq27
  have hn27 := eq_s hf7
  have ok_q27 := Fn.new hF hq27
  have hF := Fn.up hF hf7 ok_q27
  refine lv_dup hx hb d_po_init_30 rfl ?_
  refine mq_callv (va_runIN (As := []) (rest := [.ref q27, .ref a]) ⟨hx, hb, hml, hown, ht⟩ (c_ro_init l D X lo t0 f7 q27 (fun _ => (none : Option Nat)) (fun _ => (0 : Int)) hn27) ⟨va_cnB 0 ht (good_M (fun _ h => h) t_62) rfl rfl rfl (hNB _ n_60) (ht _ t_5) (by decide +kernel) ⟨Nat.le_of_ble_eq_true rfl, Nat.le_of_ble_eq_true rfl⟩, rfl, ht _ t_61⟩ (mq_preS hK hlo hGO hG hw hS) rfl rfl hl.1 rfl (lv_room (Nat.le_of_ble_eq_true rfl)) d_po_init_31 ⟨Nat.le_of_ble_eq_true rfl, Nat.le_of_ble_eq_true rfl⟩) hS (fun f8 H locs hp hw hS => ?_)
  obtain ⟨hF8, rlc, rks, rsp, hn27, rh1, rh2, rh3, rne⟩ := hp
  have h0 := Fn.keep hF8 h0 (by simpa using ne_a_q27)
  have hn5 := Fn.keep hF8 hn5 (by simpa using ne_q5_q27)
  have hn16 := Fn.keep hF8 hn16 (by simpa using ne_q16_q27)
  have hF := Fn.tr hF hF8 (fun q hq => by rw [List.mem_singleton.mp hq]; exact ok_q27)
  refine mo_putrF hx hb ht in_po ty_po tyok_po nm_po hown hK hw hS h0 rfl 12 (by decide) rfl (ht _ t_142) (fun _ h => h) rfl hnm rfl (tyok_po 12 (by decide)) rfl rfl d_po_init_34 (fun H locs f9 hf9 hw hS => ?_)
  have h0 := eq_s hf9
  have hn5 := eq_n hf9 hn5 ne_a_q5.symm
  have hn16 := eq_n hf9 hn16 ne_a_q16.symm
  have hn27 := eq_n hf9 hn27 ne_a_q27.symm
  have hF := Fn.up hF hf9 (aOK.of (by simp))
  refine lv_aload_n hx hb d_po_init_37 rfl (lv_at hl 0 rfl) ?_
  refine mi_iconst hx hb d_po_init_38 ?_
  refine mo_puti hx hb ht in_po ty_po tyok_po nm_po hown hK hw hS h0 rfl 6 (by decide) rfl (ht _ t_136) (fun _ h => h) rfl (tyok_po 6 (by decide)) rfl rfl d_po_init_39 (fun H locs f10 hf10 hw hS => ?_)
  have h0 := eq_s hf10
  have hn5 := eq_n hf10 hn5 ne_a_q5.symm
  have hn16 := eq_n hf10 hn16 ne_a_q16.symm
  have hn27 := eq_n hf10 hn27 ne_a_q27.symm
  have hF := Fn.up hF hf10 (aOK.of (by simp))
  refine lv_aload_n hx hb d_po_init_42 rfl (lv_at hl 0 rfl) ?_
  refine mo_new (ci := 1) (sh := sh_ch) hx hb ht in_ch ty_ch tyok_ch hown (ht _ t_99) (ht _ t_100) (ht _ t_6) hK hw hS hlo rfl df_ch (Nat.le_of_ble_eq_true rfl) (Nat.le_of_ble_eq_true rfl) d_po_init_43 (fun q43 H f11 hq43 hf11 hw hS => ?_)
  have ne_a_q43 : a ≠ q43 := ne_new h0 hq43
  have ne_q5_q43 : q5 ≠ q43 := ne_new hn5 hq43
  have ne_q16_q43 : q16 ≠ q43 := ne_new hn16 hq43
  have ne_q27_q43 : q27 ≠ q43 := ne_new hn27 hq43
  have h0 := eq_q hf11 h0 hq43
  have hn5 := eq_q hf11 hn5 hq43
  have hn16 := eq_q hf11 hn16 hq43
  have hn27 := eq_q hf11 hn27 hq43
  have hn43 := eq_s hf11
  have ok_q43 := Fn.new hF hq43
  have hF := Fn.up hF hf11 ok_q43
  refine lv_dup hx hb d_po_init_46 rfl ?_
  refine mi_iconst hx hb d_po_init_47 ?_
  refine mi_bipush hx hb d_po_init_48 (by decide) ?_
  refine mi_iconst hx hb d_po_init_50 ?_
  refine mi_bipush hx hb d_po_init_51 (by decide) ?_
  refine mi_sipush hx hb d_po_init_53 (by decide) ?_
  refine mi_iconst hx hb d_po_init_56 ?_
  refine mq_callv (va_runI (As := [.int (iI (0)), .int (iI (33)), .int (iI (0)), .int (iI (16)), .int (iI (255)), .int (iI (0))]) (rest := [.ref q43, .ref a]) ⟨hx, hb, hml, hown, ht⟩ (c_ch_init l D X lo t0 f11 q43 (fun _ => (none : Option Nat)) (fun _ => (0 : Int)) hn43 (0) (33) (0) (16) (255) (0)) (cwI 6 ht (good_M (fun _ h => h) t_103) rfl rfl rfl (ht _ t_6) (ht _ t_101) (ht _ t_102) rfl (by decide +kernel) ⟨Nat.le_of_ble_eq_true rfl, Nat.le_of_ble_eq_true rfl⟩) (mq_preS hK hlo hGO hG hw hS) rfl rfl hl.1 rfl (lv_room (Nat.le_of_ble_eq_true rfl)) d_po_init_57 ⟨Nat.le_of_ble_eq_true rfl, Nat.le_of_ble_eq_true rfl⟩) hS (fun f12 H locs hp hw hS => ?_)
  obtain ⟨hF12, hn43⟩ := hp
  have h0 := Fn.keep (Fr.fn hF12) h0 (by simpa using ne_a_q43)
  have hn5 := Fn.keep (Fr.fn hF12) hn5 (by simpa using ne_q5_q43)
  have hn16 := Fn.keep (Fr.fn hF12) hn16 (by simpa using ne_q16_q43)
  have hn27 := Fn.keep (Fr.fn hF12) hn27 (by simpa using ne_q27_q43)
  have hF := Fn.tr hF (Fr.fn hF12) (fun q hq => by rw [List.mem_singleton.mp hq]; exact ok_q43)
  refine mo_putr hx hb ht in_po ty_po tyok_po nm_po hown hK hw hS h0 rfl 7 (by decide) rfl (ht _ t_137) (fun _ h => h) rfl (tyok_po 7 (by decide)) rfl rfl d_po_init_60 (fun H locs f13 hf13 hw hS => ?_)
  have h0 := eq_s hf13
  have hn5 := eq_n hf13 hn5 ne_a_q5.symm
  have hn16 := eq_n hf13 hn16 ne_a_q16.symm
  have hn27 := eq_n hf13 hn27 ne_a_q27.symm
  have hn43 := eq_n hf13 hn43 ne_a_q43.symm
  have hF := Fn.up hF hf13 (aOK.of (by simp))
  rw [← hQ]; exact mq_vret hx hb hr hlocks hK hlo hGO hG hw hS (Nat.le_of_ble_eq_true rfl) (Nat.le_of_ble_eq_true rfl) d_po_init_63 ⟨hF, _, _, q5, q16, _, _, _, _, h0, rfl, rfl, rfl, rfl, hn5, rfl, rfl, hn16, rfl, rfl⟩
