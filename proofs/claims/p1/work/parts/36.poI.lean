/-! the class under proof: constructors, layers, clear, change, precincts on a fresh object -/
set_option maxHeartbeats 4000000 in
set_option maxRecDepth 100000 in
theorem c_ch_init (l : Launch) (D : va_G) (X : ClassId × ClassId × ClassId × ClassId) (lo t0 : Nat) (f : hM) (a : Nat) (b : Nat → Option Nat) (v : Nat → Int) (h0 : f a = some (eO 1 (oF sh_ch b v))) (p1 p2 p3 p4 p5 p6 : Int) : Met l y_ch_init (Cond.code y_ch_init b_ch_init 7 (none) :: TB) ({ frames := 1, cells := 0, slots := 0, locals := 12 } : Room) (va_Pc [.ref a, .int (iI (p1)), .int (iI (p2)), .int (iI (p3)), .int (iI (p4)), .int (iI (p5)), .int (iI (p6))] (Bq D CL (TYS X) lo (Gv lo t0) f)) (va_Qv (fun f1 => Fr [a] f f1 ∧ f1 a = some (eO 1 (oF sh_ch b (va_up (va_up (va_up (va_up (va_up (va_up v 0 (p1)) 1 (p2)) 2 (p3)) 3 (p4)) 4 (p5)) 5 (p6))))) (Bq D CL (TYS X) lo (Gv lo t0)) (fun q => lo ≤ q)) 0 0 (fun q => lo ≤ q) := by
  refine mt (by decide) (Nat.le_of_ble_eq_true rfl) ?_
  intro p e s m args below meth cd ls hx hb hr hml hown ht hlocks hnm hK hlo hG hw hS hl
  have hl : lv_has ls 7 [(0, .ref a), (1, .int (iI (p1))), (2, .int (iI (p2))), (3, .int (iI (p3))), (4, .int (iI (p4))), (5, .int (iI (p5))), (6, .int (iI (p6)))] := hl
  have hGO := Gv.ok lo t0
  have hNB := hG.1
  generalize hQ : MQ below _ args s _ _ _ = Q
  have hF : Fr [a] f f := Fr.rf
  refine lv_aload_n hx hb d_ch_init_0 rfl (lv_at hl 0 rfl) ?_
  refine W.objInit hx hb hown (ht _ t_104) (ht _ t_30) (ht _ t_31) rfl (by rw [hml]; exact hl.1) rfl d_ch_init_1 (Nat.le_of_ble_eq_true rfl) (Nat.le_of_ble_eq_true rfl) ?_
  refine W.eq (g2 := F0 m 4 ls []) rfl ?_
  refine lv_aload_n hx hb d_ch_init_4 rfl (lv_at hl 0 rfl) ?_
  refine lv_iload_n hx hb d_ch_init_5 rfl (lv_at hl 1 rfl) ?_
  refine mo_putiF hx hb ht in_ch ty_ch tyok_ch nm_ch hown hK hw hS h0 rfl 0 (by decide) rfl (ht _ t_105) (fun _ h => h) rfl hnm rfl (tyok_ch 0 (by decide)) rfl rfl d_ch_init_6 (fun H locs f1 hf1 hw hS => ?_)
  have h0 := eq_s hf1
  have hF := Fr.up hF hf1 (by simp)
  refine lv_aload_n hx hb d_ch_init_9 rfl (lv_at hl 0 rfl) ?_
  refine lv_iload_n hx hb d_ch_init_10 rfl (lv_at hl 2 rfl) ?_
  refine mo_putiF hx hb ht in_ch ty_ch tyok_ch nm_ch hown hK hw hS h0 rfl 1 (by decide) rfl (ht _ t_107) (fun _ h => h) rfl hnm rfl (tyok_ch 1 (by decide)) rfl rfl d_ch_init_11 (fun H locs f2 hf2 hw hS => ?_)
  have h0 := eq_s hf2
  have hF := Fr.up hF hf2 (by simp)
  refine lv_aload_n hx hb d_ch_init_14 rfl (lv_at hl 0 rfl) ?_
  refine lv_iload_n hx hb d_ch_init_15 rfl (lv_at hl 3 rfl) ?_
  refine mo_putiF hx hb ht in_ch ty_ch tyok_ch nm_ch hown hK hw hS h0 rfl 2 (by decide) rfl (ht _ t_109) (fun _ h => h) rfl hnm rfl (tyok_ch 2 (by decide)) rfl rfl d_ch_init_16 (fun H locs f3 hf3 hw hS => ?_)
  have h0 := eq_s hf3
  have hF := Fr.up hF hf3 (by simp)
  refine lv_aload_n hx hb d_ch_init_19 rfl (lv_at hl 0 rfl) ?_
  refine lv_iload hx hb d_ch_init_20 (lv_at hl 4 rfl) ?_
  refine mo_putiF hx hb ht in_ch ty_ch tyok_ch nm_ch hown hK hw hS h0 rfl 3 (by decide) rfl (ht _ t_111) (fun _ h => h) rfl hnm rfl (tyok_ch 3 (by decide)) rfl rfl d_ch_init_22 (fun H locs f4 hf4 hw hS => ?_)
  have h0 := eq_s hf4
  have hF := Fr.up hF hf4 (by simp)
  refine lv_aload_n hx hb d_ch_init_25 rfl (lv_at hl 0 rfl) ?_
  refine lv_iload hx hb d_ch_init_26 (lv_at hl 5 rfl) ?_
  refine mo_putiF hx hb ht in_ch ty_ch tyok_ch nm_ch hown hK hw hS h0 rfl 4 (by decide) rfl (ht _ t_113) (fun _ h => h) rfl hnm rfl (tyok_ch 4 (by decide)) rfl rfl d_ch_init_28 (fun H locs f5 hf5 hw hS => ?_)
  have h0 := eq_s hf5
  have hF := Fr.up hF hf5 (by simp)
  refine lv_aload_n hx hb d_ch_init_31 rfl (lv_at hl 0 rfl) ?_
  refine lv_iload hx hb d_ch_init_32 (lv_at hl 6 rfl) ?_
  refine mo_putiF hx hb ht in_ch ty_ch tyok_ch nm_ch hown hK hw hS h0 rfl 5 (by decide) rfl (ht _ t_115) (fun _ h => h) rfl hnm rfl (tyok_ch 5 (by decide)) rfl rfl d_ch_init_34 (fun H locs f6 hf6 hw hS => ?_)
  have h0 := eq_s hf6
  have hF := Fr.up hF hf6 (by simp)
  rw [← hQ]; exact mq_vret hx hb hr hlocks hK hlo hGO hG hw hS (Nat.le_of_ble_eq_true rfl) (Nat.le_of_ble_eq_true rfl) d_ch_init_37 ⟨hF, h0⟩
set_option maxHeartbeats 4000000 in
set_option maxRecDepth 100000 in
theorem c_sp_init (l : Launch) (D : va_G) (X : ClassId × ClassId × ClassId × ClassId) (lo t0 : Nat) (f : hM) (a : Nat) (b : Nat → Option Nat) (v : Nat → Int) (h0 : f a = some (eO 5 (oF sh_sp b v))) (x y : Int) (rx : iR x) : Met l y_sp_init (Cond.code y_sp_init b_sp_init 3 (none) :: TB) ({ frames := 1, cells := 0, slots := 0, locals := 14 } : Room) (va_Pc [.ref a, .int (iI (x)), .int (iI (y))] (Bq D CL (TYS X) lo (Gv lo t0) f)) (va_Qv (fun f1 => Fr [a] f f1 ∧ f1 a = some (eO 5 (oF sh_sp b (va_up (va_up (va_up v 2 (15)) 0 (max (x) (1))) 1 (y))))) (Bq D CL (TYS X) lo (Gv lo t0)) (fun q => lo ≤ q)) 0 0 (fun q => lo ≤ q) := by
  refine mt (by decide) (Nat.le_of_ble_eq_true rfl) ?_
  intro p e s m args below meth cd ls hx hb hr hml hown ht hlocks hnm hK hlo hG hw hS hl
  have hl : lv_has ls 3 [(0, .ref a), (1, .int (iI (x))), (2, .int (iI (y)))] := hl
  have hGO := Gv.ok lo t0
  have hNB := hG.1
  generalize hQ : MQ below _ args s _ _ _ = Q
  have hF : Fr [a] f f := Fr.rf
  refine lv_aload_n hx hb d_sp_init_0 rfl (lv_at hl 0 rfl) ?_
  refine W.objInit hx hb hown (ht _ t_303) (ht _ t_30) (ht _ t_31) rfl (by rw [hml]; exact hl.1) rfl d_sp_init_1 (Nat.le_of_ble_eq_true rfl) (Nat.le_of_ble_eq_true rfl) ?_
  refine W.eq (g2 := F0 m 4 ls []) rfl ?_
  refine lv_aload_n hx hb d_sp_init_4 rfl (lv_at hl 0 rfl) ?_
  refine mi_bipush hx hb d_sp_init_5 (by decide) ?_
  refine mo_puti hx hb ht in_sp ty_sp tyok_sp nm_sp hown hK hw hS h0 rfl 2 (by decide) rfl (ht _ t_309) (fun _ h => h) rfl (tyok_sp 2 (by decide)) rfl rfl d_sp_init_7 (fun H locs f1 hf1 hw hS => ?_)
  have h0 := eq_s hf1
  have hF := Fr.up hF hf1 (by simp)
  refine lv_aload_n hx hb d_sp_init_10 rfl (lv_at hl 0 rfl) ?_
  refine lv_iload_n hx hb d_sp_init_11 rfl (lv_at hl 1 rfl) ?_
  refine mi_iconst hx hb d_sp_init_12 ?_
  refine mi_mmax hx hb (hml.trans hl.1.symm) hown (ht _ t_304) (ht _ t_305) (ht _ t_16) (ht _ t_306) (Nat.le_of_ble_eq_true rfl) (Nat.le_of_ble_eq_true rfl) (Nat.le_of_ble_eq_true rfl) (Nat.le_of_ble_eq_true rfl) rx (by decide) d_sp_init_13 ?_
  refine mo_putiF hx hb ht in_sp ty_sp tyok_sp nm_sp hown hK hw hS h0 rfl 0 (by decide) rfl (ht _ t_307) (fun _ h => h) rfl hnm rfl (tyok_sp 0 (by decide)) rfl rfl d_sp_init_16 (fun H locs f2 hf2 hw hS => ?_)
  have h0 := eq_s hf2
  have hF := Fr.up hF hf2 (by simp)
  refine lv_aload_n hx hb d_sp_init_19 rfl (lv_at hl 0 rfl) ?_
  refine lv_iload_n hx hb d_sp_init_20 rfl (lv_at hl 2 rfl) ?_
  refine mo_putiF hx hb ht in_sp ty_sp tyok_sp nm_sp hown hK hw hS h0 rfl 1 (by decide) rfl (ht _ t_308) (fun _ h => h) rfl hnm rfl (tyok_sp 1 (by decide)) rfl rfl d_sp_init_21 (fun H locs f3 hf3 hw hS => ?_)
  have h0 := eq_s hf3
  have hF := Fr.up hF hf3 (by simp)
  rw [← hQ]; exact mq_vret hx hb hr hlocks hK hlo hGO hG hw hS (Nat.le_of_ble_eq_true rfl) (Nat.le_of_ble_eq_true rfl) d_sp_init_24 ⟨hF, h0⟩
set_option maxHeartbeats 4000000 in
set_option maxRecDepth 100000 in
theorem c_le_init (l : Launch) (D : va_G) (X : ClassId × ClassId × ClassId × ClassId) (lo t0 : Nat) (f : hM) (a : Nat) (b : Nat → Option Nat) (v : Nat → Int) (h0 : f a = some (eO 3 (oF sh_le b v))) (x y : Int) (ax dn : Nat) : Met l y_le_init (Cond.code y_le_init b_le_init 5 (none) :: TB) ({ frames := 1, cells := 0, slots := 0, locals := 12 } : Room) (va_Pc [.ref a, .int (iI (x)), .int (iI (y)), .ref ax, .ref dn] (Bq D CL (TYS X) lo (Gv lo t0) f)) (va_Qv (fun f1 => Fr [a] f f1 ∧ f1 a = some (eO 3 (oF sh_le (va_up (va_up b 2 (some ax)) 3 (some dn)) (va_up (va_up v 0 (x)) 1 (y))))) (Bq D CL (TYS X) lo (Gv lo t0)) (fun q => lo ≤ q)) 0 0 (fun q => lo ≤ q) := by
  refine mt (by decide) (Nat.le_of_ble_eq_true rfl) ?_
  intro p e s m args below meth cd ls hx hb hr hml hown ht hlocks hnm hK hlo hG hw hS hl
  have hl : lv_has ls 5 [(0, .ref a), (1, .int (iI (x))), (2, .int (iI (y))), (3, .ref ax), (4, .ref dn)] := hl
  have hGO := Gv.ok lo t0
  have hNB := hG.1
  generalize hQ : MQ below _ args s _ _ _ = Q
  have hF : Fr [a] f f := Fr.rf
  refine lv_aload_n hx hb d_le_init_0 rfl (lv_at hl 0 rfl) ?_
  refine W.objInit hx hb hown (ht _ t_332) (ht _ t_30) (ht _ t_31) rfl (by rw [hml]; exact hl.1) rfl d_le_init_1 (Nat.le_of_ble_eq_true rfl) (Nat.le_of_ble_eq_true rfl) ?_
  refine W.eq (g2 := F0 m 4 ls []) rfl ?_
  refine lv_aload_n hx hb d_le_init_4 rfl (lv_at hl 0 rfl) ?_
  refine lv_iload_n hx hb d_le_init_5 rfl (lv_at hl 1 rfl) ?_
  refine mo_putiF hx hb ht in_le ty_le tyok_le nm_le hown hK hw hS h0 rfl 0 (by decide) rfl (ht _ t_333) (fun _ h => h) rfl hnm rfl (tyok_le 0 (by decide)) rfl rfl d_le_init_6 (fun H locs f1 hf1 hw hS => ?_)
  have h0 := eq_s hf1
  have hF := Fr.up hF hf1 (by simp)
  refine lv_aload_n hx hb d_le_init_9 rfl (lv_at hl 0 rfl) ?_
  refine lv_iload_n hx hb d_le_init_10 rfl (lv_at hl 2 rfl) ?_
  refine mo_putiF hx hb ht in_le ty_le tyok_le nm_le hown hK hw hS h0 rfl 1 (by decide) rfl (ht _ t_335) (fun _ h => h) rfl hnm rfl (tyok_le 1 (by decide)) rfl rfl d_le_init_11 (fun H locs f2 hf2 hw hS => ?_)
  have h0 := eq_s hf2
  have hF := Fr.up hF hf2 (by simp)
  refine lv_aload_n hx hb d_le_init_14 rfl (lv_at hl 0 rfl) ?_
  refine lv_aload_n hx hb d_le_init_15 rfl (lv_at hl 3 rfl) ?_
  refine mo_putrF hx hb ht in_le ty_le tyok_le nm_le hown hK hw hS h0 rfl 2 (by decide) rfl (ht _ t_337) (fun _ h => h) rfl hnm rfl (tyok_le 2 (by decide)) rfl rfl d_le_init_16 (fun H locs f3 hf3 hw hS => ?_)
  have h0 := eq_s hf3
  have hF := Fr.up hF hf3 (by simp)
  refine lv_aload_n hx hb d_le_init_19 rfl (lv_at hl 0 rfl) ?_
  refine lv_aload hx hb d_le_init_20 (lv_at hl 4 rfl) ?_
  refine mo_putrF hx hb ht in_le ty_le tyok_le nm_le hown hK hw hS h0 rfl 3 (by decide) rfl (ht _ t_339) (fun _ h => h) rfl hnm rfl (tyok_le 3 (by decide)) rfl rfl d_le_init_22 (fun H locs f4 hf4 hw hS => ?_)
  have h0 := eq_s hf4
  have hF := Fr.up hF hf4 (by simp)
  rw [← hQ]; exact mq_vret hx hb hr hlocks hK hlo hGO hG hw hS (Nat.le_of_ble_eq_true rfl) (Nat.le_of_ble_eq_true rfl) d_le_init_25 ⟨hF, h0⟩
set_option maxHeartbeats 4000000 in
set_option maxRecDepth 100000 in
theorem c_ro_init (l : Launch) (D : va_G) (X : ClassId × ClassId × ClassId × ClassId) (lo t0 : Nat) (f : hM) (a : Nat) (b : Nat → Option Nat) (v : Nat → Int) (h0 : f a = some (eO 4 (oF sh_ro b v))) : Met l y_ro_init (Cond.code y_ro_init b_ro_init 1 (none) :: TB) ({ frames := 1, cells := 3, slots := 0, locals := 12 } : Room) (va_Pc [.ref a] (Bq D CL (TYS X) lo (Gv lo t0) f)) (va_Qv (fun f1 => Fn [a] f f1 ∧ ∃ lc ks sp : Nat, f1 a = some (eO 4 (oF sh_ro (va_up (va_up (va_up b 0 (some lc)) 1 (some ks)) 2 (some sp)) (va_up v 9 (-1)))) ∧ f1 lc = some (eI X.1 0 (fun _ => 0)) ∧ f1 ks = some (eJ X.2.1 0 (fun _ => 0)) ∧ f1 sp = some (eJ X.2.1 0 (fun _ => 0)) ∧ ks ≠ sp) (Bq D CL (TYS X) lo (Gv lo t0)) (fun q => lo ≤ q)) 3 0 (fun q => lo ≤ q) := by
  refine mt (by decide) (Nat.le_of_ble_eq_true rfl) ?_
  intro p e s m args below meth cd ls hx hb hr hml hown ht hlocks hnm hK hlo hG hw hS hl
  have hl : lv_has ls 1 [(0, .ref a)] := hl
  have hGO := Gv.ok lo t0
  have hNB := hG.1
  generalize hQ : MQ below _ args s _ _ _ = Q
  have hF : Fn [a] f f := Fn.rf
  refine lv_aload_n hx hb d_ro_init_0 rfl (lv_at hl 0 rfl) ?_
  refine W.objInit hx hb hown (ht _ t_63) (ht _ t_30) (ht _ t_31) rfl (by rw [hml]; exact hl.1) rfl d_ro_init_1 (Nat.le_of_ble_eq_true rfl) (Nat.le_of_ble_eq_true rfl) ?_
  refine W.eq (g2 := F0 m 4 ls []) rfl ?_
  refine lv_aload_n hx hb d_ro_init_4 rfl (lv_at hl 0 rfl) ?_
  refine mi_iconst hx hb d_ro_init_5 ?_
  refine mo_newai hx hb (ht _ t_97) hK hw hS hlo 0 rfl (0) rfl (Nat.le_of_ble_eq_true rfl) (Nat.le_of_ble_eq_true rfl) (Nat.le_of_ble_eq_true rfl) d_ro_init_6 (fun q6 H f1 hq6 hf1 hw hS => ?_)
  have ne_a_q6 : a ≠ q6 := ne_new h0 hq6
  have h0 := eq_q hf1 h0 hq6
  have hn6 := eq_s hf1
  have ok_q6 := Fn.new hF hq6
  have hF := Fn.up hF hf1 ok_q6
  refine mo_putr hx hb ht in_ro ty_ro tyok_ro nm_ro hown hK hw hS h0 rfl 0 (by decide) rfl (ht _ t_64) (fun _ h => h) rfl (tyok_ro 0 (by decide)) rfl rfl d_ro_init_8 (fun H locs f2 hf2 hw hS => ?_)
  have h0 := eq_s hf2
  have hn6 := eq_n hf2 hn6 ne_a_q6.symm
  have hF := Fn.up hF hf2 (aOK.of (by simp))
  refine lv_aload_n hx hb d_ro_init_11 rfl (lv_at hl 0 rfl) ?_
  refine mi_iconst hx hb d_ro_init_12 ?_
  refine mo_newal hx hb (ht _ t_98) hK hw hS hlo 1 rfl (0) rfl (Nat.le_of_ble_eq_true rfl) (Nat.le_of_ble_eq_true rfl) (Nat.le_of_ble_eq_true rfl) d_ro_init_13 (fun q13 H f3 hq13 hf3 hw hS => ?_)
  have ne_a_q13 : a ≠ q13 := ne_new h0 hq13
  have ne_q6_q13 : q6 ≠ q13 := ne_new hn6 hq13
  have h0 := eq_q hf3 h0 hq13
  have hn6 := eq_q hf3 hn6 hq13
  have hn13 := eq_s hf3
  have ok_q13 := Fn.new hF hq13
  have hF := Fn.up hF hf3 ok_q13
  refine mo_putr hx hb ht in_ro ty_ro tyok_ro nm_ro hown hK hw hS h0 rfl 1 (by decide) rfl (ht _ t_65) (fun _ h => h) rfl (tyok_ro 1 (by decide)) rfl rfl d_ro_init_15 (fun H locs f4 hf4 hw hS => ?_)
  have h0 := eq_s hf4
  have hn6 := eq_n hf4 hn6 ne_a_q6.symm
  have hn13 := eq_n hf4 hn13 ne_a_q13.symm
  have hF := Fn.up hF hf4 (aOK.of (by simp))
  refine lv_aload_n hx hb d_ro_init_18 rfl (lv_at hl 0 rfl) ?_
  refine mi_iconst hx hb d_ro_init_19 ?_
  refine mo_newal hx hb (ht _ t_98) hK hw hS hlo 1 rfl (0) rfl (Nat.le_of_ble_eq_true rfl) (Nat.le_of_ble_eq_true rfl) (Nat.le_of_ble_eq_true rfl) d_ro_init_20 (fun q20 H f5 hq20 hf5 hw hS => ?_)
  have ne_a_q20 : a ≠ q20 := ne_new h0 hq20
  have ne_q6_q20 : q6 ≠ q20 := ne_new hn6 hq20
  have ne_q13_q20 : q13 ≠ q20 := ne_new hn13 hq20
  have h0 := eq_q hf5 h0 hq20
  have hn6 := eq_q hf5 hn6 hq20
  have hn13 := eq_q hf5 hn13 hq20
  have hn20 := eq_s hf5
  have ok_q20 := Fn.new hF hq20
  have hF := Fn.up hF hf5 ok_q20
  refine mo_putr hx hb ht in_ro ty_ro tyok_ro nm_ro hown hK hw hS h0 rfl 2 (by decide) rfl (ht _ t_66) (fun _ h => h) rfl (tyok_ro 2 (by decide)) rfl rfl d_ro_init_22 (fun H locs f6 hf6 hw hS => ?_)
  have h0 := eq_s hf6
  have hn6 := eq_n hf6 hn6 ne_a_q6.symm
  have hn13 := eq_n hf6 hn13 ne_a_q13.symm
  have hn20 := eq_n hf6 hn20 ne_a_q20.symm
  have hF := Fn.up hF hf6 (aOK.of (by simp))
  refine lv_aload_n hx hb d_ro_init_25 rfl (lv_at hl 0 rfl) ?_
  refine mi_iconst hx hb d_ro_init_26 ?_
  refine mo_puti hx hb ht in_ro ty_ro tyok_ro nm_ro hown hK hw hS h0 rfl 9 (by decide) rfl (ht _ t_74) (fun _ h => h) rfl (tyok_ro 9 (by decide)) rfl rfl d_ro_init_27 (fun H locs f7 hf7 hw hS => ?_)
  have h0 := eq_s hf7
  have hn6 := eq_n hf7 hn6 ne_a_q6.symm
  have hn13 := eq_n hf7 hn13 ne_a_q13.symm
  have hn20 := eq_n hf7 hn20 ne_a_q20.symm
  have hF := Fn.up hF hf7 (aOK.of (by simp))
  rw [← hQ]; exact mq_vret hx hb hr hlocks hK hlo hGO hG hw hS (Nat.le_of_ble_eq_true rfl) (Nat.le_of_ble_eq_true rfl) d_ro_init_30 ⟨hF, q6, q13, q20, h0, hn6, hn13, hn20, ne_q13_q20⟩
