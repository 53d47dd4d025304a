/-! ArrayList: contracts -/
set_option maxHeartbeats 4000000 in
set_option maxRecDepth 100000 in
theorem c_abc_init (l : Launch) (D : va_G) (X : ClassId × ClassId × ClassId × ClassId) (lo t0 : Nat) (f : hM) (a : Nat) (b : Nat → Option Nat) (v : Nat → Int) (h0 : f a = some (eO 7 (oF sh_al b v))) : Met l y_abc_init (Cond.code y_abc_init b_abc_init 1 (none) :: TB) ({ frames := 1, cells := 0, slots := 0, locals := 12 } : Room) (va_Pc [.ref a] (Bq D CL (TYS X) lo (Gv lo t0) f)) (va_Qv (fun f1 => Fr [a] f f1 ∧ f1 a = some (eO 7 (oF sh_al b v))) (Bq D CL (TYS X) lo (Gv lo t0)) (fun q => lo ≤ q)) 0 0 (fun q => lo ≤ q) := by
  refine mt (by decide) (Nat.le_of_ble_eq_true rfl) ?_
  intro p e s m args below meth cd ls hx hb hr hml hown ht hlocks hnm hK hlo hG hw hS hl
  have hl : lv_has ls 1 [(0, .ref a)] := hl
  have hGO := Gv.ok lo t0
  have hNB := hG.1
  generalize hQ : MQ below _ args s _ _ _ = Q
  have hF : Fr [a] f f := Fr.rf
  refine lv_aload_n hx hb d_abc_init_0 rfl (lv_at hl 0 rfl) ?_
  refine W.objInit hx hb hown (ht _ t_43) (ht _ t_30) (ht _ t_31) rfl (by rw [hml]; exact hl.1) rfl d_abc_init_1 (Nat.le_of_ble_eq_true rfl) (Nat.le_of_ble_eq_true rfl) ?_
  refine W.eq (g2 := F0 m 4 ls []) rfl ?_
  rw [← hQ]; exact mq_vret hx hb hr hlocks hK hlo hGO hG hw hS (Nat.le_of_ble_eq_true rfl) (Nat.le_of_ble_eq_true rfl) d_abc_init_4 ⟨hF, h0⟩
set_option maxHeartbeats 4000000 in
set_option maxRecDepth 100000 in
theorem c_abl_init (l : Launch) (D : va_G) (X : ClassId × ClassId × ClassId × ClassId) (lo t0 : Nat) (f : hM) (a : Nat) (b : Nat → Option Nat) (v : Nat → Int) (h0 : f a = some (eO 7 (oF sh_al b v))) : Met l y_abl_init (Cond.code y_abl_init b_abl_init 1 (none) :: TB) ({ frames := 2, cells := 0, slots := 0, locals := 32 } : Room) (va_Pc [.ref a] (Bq D CL (TYS X) lo (Gv lo t0) f)) (va_Qv (fun f1 => Fr [a] f f1 ∧ f1 a = some (eO 7 (oF sh_al b (va_up v 0 0)))) (Bq D CL (TYS X) lo (Gv lo t0)) (fun q => lo ≤ q)) 0 0 (fun q => lo ≤ q) := by
  refine mt (by decide) (Nat.le_of_ble_eq_true rfl) ?_
  intro p e s m args below meth cd ls hx hb hr hml hown ht hlocks hnm hK hlo hG hw hS hl
  have hl : lv_has ls 1 [(0, .ref a)] := hl
  have hGO := Gv.ok lo t0
  have hNB := hG.1
  generalize hQ : MQ below _ args s _ _ _ = Q
  have hF : Fr [a] f f := Fr.rf
  refine lv_aload_n hx hb d_abl_init_0 rfl (lv_at hl 0 rfl) ?_
  refine mq_callv (va_runI (As := []) (rest := []) ⟨hx, hb, hml, hown, ht⟩ (c_abc_init l D X lo t0 f a b v h0) (cwI 0 ht (good_M (fun _ h => h) t_42) rfl rfl rfl (ht _ t_2) (ht _ t_40) (ht _ t_41) rfl (by decide +kernel) ⟨Nat.le_of_ble_eq_true rfl, Nat.le_of_ble_eq_true rfl⟩) (mq_preS hK hlo hGO hG hw hS) rfl rfl hl.1 rfl (lv_room (Nat.le_of_ble_eq_true rfl)) d_abl_init_1 ⟨Nat.le_of_ble_eq_true rfl, Nat.le_of_ble_eq_true rfl⟩) hS (fun f1 H locs hp hw hS => ?_)
  obtain ⟨hF1, h0⟩ := hp
  have hF := Fr.tr hF hF1 (by simp)
  refine lv_aload_n hx hb d_abl_init_4 rfl (lv_at hl 0 rfl) ?_
  refine mi_iconst hx hb d_abl_init_5 ?_
  refine mo_puti hx hb ht in_al ty_al tyok_al nm_al hown hK hw hS h0 rfl 0 (by decide) rfl (ht _ t_48) (fun _ h => h) rfl (tyok_al 0 (by decide)) rfl rfl d_abl_init_6 (fun H locs f2 hf2 hw hS => ?_)
  have h0 := eq_s hf2
  have hF := Fr.up hF hf2 (by simp)
  rw [← hQ]; exact mq_vret hx hb hr hlocks hK hlo hGO hG hw hS (Nat.le_of_ble_eq_true rfl) (Nat.le_of_ble_eq_true rfl) d_abl_init_9 ⟨hF, h0⟩
set_option maxHeartbeats 4000000 in
set_option maxRecDepth 100000 in
theorem c_al_init (l : Launch) (D : va_G) (X : ClassId × ClassId × ClassId × ClassId) (lo t0 : Nat) (f : hM) (a : Nat) (b : Nat → Option Nat) (v : Nat → Int) (h0 : f a = some (eO 7 (oF sh_al b v))) : Met l y_al_init (Cond.code y_al_init b_al_init 1 (none) :: TB) ({ frames := 3, cells := 0, slots := 0, locals := 52 } : Room) (va_Pc [.ref a] (Bq D CL (TYS X) lo (Gv lo t0) f)) (va_Qv (fun f1 => Fr [a] f f1 ∧ f1 a = some (eO 7 (oF sh_al (va_up b 1 (some t0)) (va_up v 0 0)))) (Bq D CL (TYS X) lo (Gv lo t0)) (fun q => lo ≤ q)) 0 0 (fun q => lo ≤ q) := by
  refine mt (by decide) (Nat.le_of_ble_eq_true rfl) ?_
  intro p e s m args below meth cd ls hx hb hr hml hown ht hlocks hnm hK hlo hG hw hS hl
  have hl : lv_has ls 1 [(0, .ref a)] := hl
  have hGO := Gv.ok lo t0
  have hNB := hG.1
  generalize hQ : MQ below _ args s _ _ _ = Q
  have hF : Fr [a] f f := Fr.rf
  refine lv_aload_n hx hb d_al_init_0 rfl (lv_at hl 0 rfl) ?_
  refine mq_callv (va_runI (As := []) (rest := []) ⟨hx, hb, hml, hown, ht⟩ (c_abl_init l D X lo t0 f a b v h0) (cwI 0 ht (good_M (fun _ h => h) t_39) rfl rfl rfl (ht _ t_3) (ht _ t_37) (ht _ t_38) rfl (by decide +kernel) ⟨Nat.le_of_ble_eq_true rfl, Nat.le_of_ble_eq_true rfl⟩) (mq_preS hK hlo hGO hG hw hS) rfl rfl hl.1 rfl (lv_room (Nat.le_of_ble_eq_true rfl)) d_al_init_1 ⟨Nat.le_of_ble_eq_true rfl, Nat.le_of_ble_eq_true rfl⟩) hS (fun f1 H locs hp hw hS => ?_)
  obtain ⟨hF1, h0⟩ := hp
  have hF := Fr.tr hF hF1 (by simp)
  refine lv_aload_n hx hb d_al_init_4 rfl (lv_at hl 0 rfl) ?_
  refine va_gets hx hb hG.2.2.2.2.2.1 hS hown (ht _ t_44) (fun _ h => h) d_al_init_5 ?_
  refine mo_putr hx hb ht in_al ty_al tyok_al nm_al hown hK hw hS h0 rfl 1 (by decide) rfl (ht _ t_46) (fun _ h => h) rfl (tyok_al 1 (by decide)) rfl rfl d_al_init_8 (fun H locs f2 hf2 hw hS => ?_)
  have h0 := eq_s hf2
  have hF := Fr.up hF hf2 (by simp)
  rw [← hQ]; exact mq_vret hx hb hr hlocks hK hlo hGO hG hw hS (Nat.le_of_ble_eq_true rfl) (Nat.le_of_ble_eq_true rfl) d_al_init_11 ⟨hF, h0⟩
set_option maxHeartbeats 4000000 in
set_option maxRecDepth 100000 in
theorem c_al_size (l : Launch) (D : va_G) (X : ClassId × ClassId × ClassId × ClassId) (lo t0 : Nat) (f : hM) (a : Nat) (b : Nat → Option Nat) (v : Nat → Int) (h0 : f a = some (eO 7 (oF sh_al b v))) : Met l y_al_size (Cond.code y_al_size b_al_size 1 (some FieldType.int) :: TB) ({ frames := 0, cells := 0, slots := 0, locals := 0 } : Room) (va_Pc [.ref a] (Bq D CL (TYS X) lo (Gv lo t0) f)) (va_Qi (fun r f1 => r = iI (v 2) ∧ Fr [] f f1) (Bq D CL (TYS X) lo (Gv lo t0)) (fun q => lo ≤ q)) 0 0 (fun q => lo ≤ q) := by
  refine mt (by decide) (Nat.le_of_ble_eq_true rfl) ?_
  intro p e s m args below meth cd ls hx hb hr hml hown ht hlocks hnm hK hlo hG hw hS hl
  have hl : lv_has ls 1 [(0, .ref a)] := hl
  have hGO := Gv.ok lo t0
  have hNB := hG.1
  generalize hQ : MQ below _ args s _ _ _ = Q
  have hF : Fr [] f f := Fr.rf
  refine lv_aload_n hx hb d_al_size_0 rfl (lv_at hl 0 rfl) ?_
  refine mo_geti hx hb ht in_al hown hK hw h0 rfl 2 (by decide) rfl (ht _ t_47) (fun _ h => h) d_al_size_1 ?_
  rw [← hQ]; exact mq_iret hx hb hr hlocks hK hlo hGO hG hw hS (Nat.le_of_ble_eq_true rfl) (Nat.le_of_ble_eq_true rfl) d_al_size_4 ⟨rfl, hF⟩
