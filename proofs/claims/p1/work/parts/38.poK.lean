/-! the class under proof: the constructor of Component, component on a fresh object -/
set_option maxHeartbeats 4000000 in
set_option maxRecDepth 100000 in
theorem c_co_init (l : Launch) (D : va_G) (X : ClassId × ClassId × ClassId × ClassId) (lo t0 : Nat) (f : hM) (a : Nat) (b : Nat → Option Nat) (v : Nat → Int) (h0 : f a = some (eO 2 (oF sh_co b v))) (p1 p2 p3 pn : Int) (r2 : iR p2) (r3 : iR p3) (k : Nat) (hk : pn = (k : Int)) (hk2 : k ≤ 32) : Met l y_co_init (Cond.code y_co_init b_co_init 6 (none) :: TB) ({ frames := 2, cells := 100, slots := 594, locals := 50 } : Room) (va_Pc [.ref a, .int (iI (p1)), .int (iI (p2)), .int (iI (p3)), .int (iI (pn))] (Bq D CL (TYS X) lo (Gv lo t0) f)) (va_Qv (fun f1 => Fn [a] f f1 ∧ ∃ vs, f1 a = some (eO 2 vs)) (Bq D CL (TYS X) lo (Gv lo t0)) (fun q => lo ≤ q)) 100 594 (fun q => lo ≤ q) := by
  refine mt (by decide) (Nat.le_of_ble_eq_true rfl) ?_
  intro p e s m args below meth cd ls hx hb hr hml hown ht hlocks hnm hK hlo hG hw hS hl
  have hl : lv_has ls 6 [(0, .ref a), (1, .int (iI (p1))), (2, .int (iI (p2))), (3, .int (iI (p3))), (4, .int (iI (pn)))] := hl
  have hGO := Gv.ok lo t0
  have hNB := hG.1
  generalize hQ : MQ below _ args s _ _ _ = Q
  have hF : Fn [a] f f := Fn.rf
  refine lv_aload_n hx hb d_co_init_0 rfl (lv_at hl 0 rfl) ?_
  refine W.objInit hx hb hown (ht _ t_294) (ht _ t_30) (ht _ t_31) rfl (by rw [hml]; exact hl.1) rfl d_co_init_1 (Nat.le_of_ble_eq_true rfl) (Nat.le_of_ble_eq_true rfl) ?_
  refine W.eq (g2 := F0 m 4 ls []) rfl ?_
  refine lv_aload_n hx hb d_co_init_4 rfl (lv_at hl 0 rfl) ?_
  refine lv_iload hx hb d_co_init_5 (lv_at hl 4 rfl) ?_
  refine mi_iconst hx hb d_co_init_7 ?_
  refine mi_iadd hx hb d_co_init_8 ?_
  refine mo_newq hx hb hown (ht _ t_295) (hNB _ n_296) hK hw hS hlo 2 rfl (k + 1) (by omega) (by omega) (show _ ≤ 100 from by omega) (show _ ≤ 594 from by omega) d_co_init_9 (fun q9 H f1 hq9 hf1 hw hS => ?_)
  have ne_a_q9 : a ≠ q9 := ne_new h0 hq9
  have h0 := eq_q hf1 h0 hq9
  have hn9 := eq_s hf1
  have ok_q9 := Fn.new hF hq9
  have hF := Fn.up hF hf1 ok_q9
  refine mo_putrF hx hb ht in_co ty_co tyok_co nm_co hown hK hw hS h0 rfl 0 (by decide) rfl (ht _ t_354) (fun _ h => h) rfl hnm rfl (tyok_co 0 (by decide)) rfl rfl d_co_init_12 (fun H locs f2 hf2 hw hS => ?_)
  have h0 := eq_s hf2
  have hn9 := eq_n hf2 hn9 ne_a_q9.symm
  have hF := Fn.up hF hf2 (aOK.of (by simp))
  refine mi_iconst hx hb d_co_init_15 ?_
  refine lv_istore (lv' := [(5, .int (iI (0))), (0, .ref a), (1, .int (iI (p1))), (2, .int (iI (p2))), (3, .int (iI (p3))), (4, .int (iI (pn)))]) hx hb d_co_init_16 hl (by decide) rfl (fun ls hl => ?_)
  have L18 : ∀ (n i : Nat) (ce : Nat) (sl : Nat) (g : Nat → Option Nat) (f1 : hM) (H : Heap) (locs : List Loc) (ls : Array Slot), n + i = k + 1 → ce + 3 * n ≤ 100 → sl + 17 * n ≤ 594 → hW D CL lo f1 H → va_S (fun q => lo ≤ q) s.heap H locs → f1 a = some (eO 2 (oF sh_co (va_up b 0 (some q9)) v)) → f1 q9 = some (eA X.2.2.1 (k + 1) g) → Fn [a] f f1 → lv_has ls 6 [(0, .ref a), (1, .int (iI (p1))), (2, .int (iI (p2))), (3, .int (iI (p3))), (4, .int (iI (pn))), (5, .int (iI ((i : Int))))] → W p l e ({ frames := 2, cells := 100, slots := 594, locals := 50 } : Room) s m args below meth cd H locs ce sl Q (F0 m 18 ls []) := by
    intro n
    induction n with
    | zero =>
      intro i ce sl g f1 H locs ls hrel hce hsl hw hS h0 hn9 hF hl
      refine lv_iload hx hb d_co_init_18 (lv_at hl 5 rfl) ?_
      refine lv_iload hx hb d_co_init_20 (lv_at hl 4 rfl) ?_
      refine mi_icmp_gt (tgt := 74) hx hb d_co_init_22 (by decide) (by omega) (by omega) (fun c_22 => ?_) (fun c_22 => ?_)
      · skip
        rw [← hQ]; exact mq_vret hx hb hr hlocks hK hlo hGO hG hw hS (by omega) (by omega) d_co_init_74 ⟨hF, _, h0⟩
      · exact absurd c_22 (by omega)
    | succ n ih =>
      intro i ce sl g f1 H locs ls hrel hce hsl hw hS h0 hn9 hF hl
      refine lv_iload hx hb d_co_init_18 (lv_at hl 5 rfl) ?_
      refine lv_iload hx hb d_co_init_20 (lv_at hl 4 rfl) ?_
      refine mi_icmp_gt (tgt := 74) hx hb d_co_init_22 (by decide) (by omega) (by omega) (fun c_22 => ?_) (fun c_22 => ?_)
      · exact absurd c_22 (by omega)
      · skip
        refine lv_aload_n hx hb d_co_init_25 rfl (lv_at hl 0 rfl) ?_
        refine mo_getr hx hb ht in_co hown hK hw h0 rfl 0 (by decide) rfl rfl (ht _ t_354) (fun _ h => h) d_co_init_26 ?_
        refine lv_iload hx hb d_co_init_29 (lv_at hl 5 rfl) ?_
        refine mo_new (ci := 3) (sh := sh_le) hx hb ht in_le ty_le tyok_le hown (ht _ t_295) (ht _ t_297) (ht _ t_14) hK hw hS hlo rfl df_le (show _ ≤ 100 from by omega) (show _ ≤ 594 from by omega) d_co_init_31 (fun q31 H f3 hq31 hf3 hw hS => ?_)
        have ne_a_q31 : a ≠ q31 := ne_new h0 hq31
        have ne_q9_q31 : q9 ≠ q31 := ne_new hn9 hq31
        have h0 := eq_q hf3 h0 hq31
        have hn9 := eq_q hf3 hn9 hq31
        have hn31 := eq_s hf3
        have ok_q31 := Fn.new hF hq31
        have hF := Fn.up hF hf3 ok_q31
        refine lv_dup hx hb d_co_init_34 rfl ?_
        refine lv_iload_n hx hb d_co_init_35 rfl (lv_at hl 1 rfl) ?_
        refine lv_iload hx hb d_co_init_36 (lv_at hl 5 rfl) ?_
        refine mo_new (ci := 5) (sh := sh_sp) hx hb ht in_sp ty_sp tyok_sp hown (ht _ t_298) (ht _ t_299) (ht _ t_15) hK hw hS hlo rfl df_sp (show _ ≤ 100 from by omega) (show _ ≤ 594 from by omega) d_co_init_38 (fun q38 H f4 hq38 hf4 hw hS => ?_)
        have ne_a_q38 : a ≠ q38 := ne_new h0 hq38
        have ne_q9_q38 : q9 ≠ q38 := ne_new hn9 hq38
        have ne_q31_q38 : q31 ≠ q38 := ne_new hn31 hq38
        have h0 := eq_q hf4 h0 hq38
        have hn9 := eq_q hf4 hn9 hq38
        have hn31 := eq_q hf4 hn31 hq38
        have hn38 := eq_s hf4
        have ok_q38 := Fn.new hF hq38
        have hF := Fn.up hF hf4 ok_q38
        refine lv_dup hx hb d_co_init_41 rfl ?_
        refine lv_iload_n hx hb d_co_init_42 rfl (lv_at hl 2 rfl) ?_
        refine lv_iload hx hb d_co_init_43 (lv_at hl 4 rfl) ?_
        refine lv_iload hx hb d_co_init_45 (lv_at hl 5 rfl) ?_
        refine mi_isub hx hb d_co_init_47 ?_
        refine mq_callv (va_runI (As := [.int (iI (p2)), .int (iI ((pn) - ((i : Int))))]) (rest := [.ref q38, .int (iI ((i : Int))), .int (iI (p1)), .ref q31, .ref q31, .int (iI ((i : Int))), .ref q9]) ⟨hx, hb, hml, hown, ht⟩ (c_sp_init l D X lo t0 f4 q38 (fun _ => (none : Option Nat)) (fun _ => (0 : Int)) hn38 (p2) ((pn) - ((i : Int))) r2) (cwI 2 ht (good_M (fun _ h => h) t_302) rfl rfl rfl (ht _ t_15) (ht _ t_300) (ht _ t_301) rfl (by decide +kernel) ⟨Nat.le_of_ble_eq_true rfl, Nat.le_of_ble_eq_true rfl⟩) (mq_preS hK hlo hGO hG hw hS) rfl rfl hl.1 rfl (lv_room (Nat.le_of_ble_eq_true rfl)) d_co_init_48 ⟨(show _ ≤ 100 from by omega), (show _ ≤ 594 from by omega)⟩) hS (fun f5 H locs hp hw hS => ?_)
        obtain ⟨hF5, hn38⟩ := hp
        have h0 := Fn.keep (Fr.fn hF5) h0 (by simpa using ne_a_q38)
        have hn9 := Fn.keep (Fr.fn hF5) hn9 (by simpa using ne_q9_q38)
        have hn31 := Fn.keep (Fr.fn hF5) hn31 (by simpa using ne_q31_q38)
        have hF := Fn.tr hF (Fr.fn hF5) (fun q hq => by rw [List.mem_singleton.mp hq]; exact ok_q38)
        refine mo_new (ci := 5) (sh := sh_sp) hx hb ht in_sp ty_sp tyok_sp hown (ht _ t_298) (ht _ t_299) (ht _ t_15) hK hw hS hlo rfl df_sp (show _ ≤ 100 from by omega) (show _ ≤ 594 from by omega) d_co_init_51 (fun q51 H f6 hq51 hf6 hw hS => ?_)
        have ne_a_q51 : a ≠ q51 := ne_new h0 hq51
        have ne_q9_q51 : q9 ≠ q51 := ne_new hn9 hq51
        have ne_q31_q51 : q31 ≠ q51 := ne_new hn31 hq51
        have ne_q38_q51 : q38 ≠ q51 := ne_new hn38 hq51
        have h0 := eq_q hf6 h0 hq51
        have hn9 := eq_q hf6 hn9 hq51
        have hn31 := eq_q hf6 hn31 hq51
        have hn38 := eq_q hf6 hn38 hq51
        have hn51 := eq_s hf6
        have ok_q51 := Fn.new hF hq51
        have hF := Fn.up hF hf6 ok_q51
        refine lv_dup hx hb d_co_init_54 rfl ?_
        refine lv_iload_n hx hb d_co_init_55 rfl (lv_at hl 3 rfl) ?_
        refine lv_iload hx hb d_co_init_56 (lv_at hl 4 rfl) ?_
        refine lv_iload hx hb d_co_init_58 (lv_at hl 5 rfl) ?_
        refine mi_isub hx hb d_co_init_60 ?_
        refine mq_callv (va_runI (As := [.int (iI (p3)), .int (iI ((pn) - ((i : Int))))]) (rest := [.ref q51, .ref q38, .int (iI ((i : Int))), .int (iI (p1)), .ref q31, .ref q31, .int (iI ((i : Int))), .ref q9]) ⟨hx, hb, hml, hown, ht⟩ (c_sp_init l D X lo t0 f6 q51 (fun _ => (none : Option Nat)) (fun _ => (0 : Int)) hn51 (p3) ((pn) - ((i : Int))) r3) (cwI 2 ht (good_M (fun _ h => h) t_302) rfl rfl rfl (ht _ t_15) (ht _ t_300) (ht _ t_301) rfl (by decide +kernel) ⟨Nat.le_of_ble_eq_true rfl, Nat.le_of_ble_eq_true rfl⟩) (mq_preS hK hlo hGO hG hw hS) rfl rfl hl.1 rfl (lv_room (Nat.le_of_ble_eq_true rfl)) d_co_init_61 ⟨(show _ ≤ 100 from by omega), (show _ ≤ 594 from by omega)⟩) hS (fun f7 H locs hp hw hS => ?_)
        obtain ⟨hF7, hn51⟩ := hp
        have h0 := Fn.keep (Fr.fn hF7) h0 (by simpa using ne_a_q51)
        have hn9 := Fn.keep (Fr.fn hF7) hn9 (by simpa using ne_q9_q51)
        have hn31 := Fn.keep (Fr.fn hF7) hn31 (by simpa using ne_q31_q51)
        have hn38 := Fn.keep (Fr.fn hF7) hn38 (by simpa using ne_q38_q51)
        have hF := Fn.tr hF (Fr.fn hF7) (fun q hq => by rw [List.mem_singleton.mp hq]; exact ok_q51)
        refine mq_callv (va_runI (As := [.int (iI (p1)), .int (iI ((i : Int))), .ref q38, .ref q51]) (rest := [.ref q31, .int (iI ((i : Int))), .ref q9]) ⟨hx, hb, hml, hown, ht⟩ (c_le_init l D X lo t0 f7 q31 (fun _ => (none : Option Nat)) (fun _ => (0 : Int)) hn31 (p1) ((i : Int)) q38 q51) (cwI 4 ht (good_M (fun _ h => h) t_331) rfl rfl rfl (ht _ t_14) (ht _ t_329) (ht _ t_330) rfl (by decide +kernel) ⟨Nat.le_of_ble_eq_true rfl, Nat.le_of_ble_eq_true rfl⟩) (mq_preS hK hlo hGO hG hw hS) rfl rfl hl.1 rfl (lv_room (Nat.le_of_ble_eq_true rfl)) d_co_init_64 ⟨(show _ ≤ 100 from by omega), (show _ ≤ 594 from by omega)⟩) hS (fun f8 H locs hp hw hS => ?_)
        obtain ⟨hF8, hn31⟩ := hp
        have h0 := Fn.keep (Fr.fn hF8) h0 (by simpa using ne_a_q31)
        have hn9 := Fn.keep (Fr.fn hF8) hn9 (by simpa using ne_q9_q31)
        have hn38 := Fn.keep (Fr.fn hF8) hn38 (by simpa using ne_q31_q38.symm)
        have hn51 := Fn.keep (Fr.fn hF8) hn51 (by simpa using ne_q31_q51.symm)
        have hF := Fn.tr hF (Fr.fn hF8) (fun q hq => by rw [List.mem_singleton.mp hq]; exact ok_q31)
        refine mo_aastq hx hb hK hw hS 2 3 hn9 rfl hn31 rfl (i) (by omega) (by omega) (by omega) d_co_init_67 (fun H locs f9 hf9 hw hS => ?_)
        have h0 := eq_n hf9 h0 ne_a_q9
        have hn9 := eq_s hf9
        have hn31 := eq_n hf9 hn31 ne_q9_q31.symm
        have hn38 := eq_n hf9 hn38 ne_q9_q38.symm
        have hn51 := eq_n hf9 hn51 ne_q9_q51.symm
        have hF := Fn.up hF hf9 ok_q9
        refine lv_iinc (v := iI (((i : Int)) + 1)) (lv' := [(5, .int (iI (((i : Int)) + 1))), (0, .ref a), (1, .int (iI (p1))), (2, .int (iI (p2))), (3, .int (iI (p3))), (4, .int (iI (pn)))]) hx hb d_co_init_68 hl (k := 5) rfl (by rw [← iI_add]; rfl) (by decide) rfl (fun ls hl => ?_)
        refine lv_goto (tgt := 18) hx hb d_co_init_71 (by decide) ?_
        exact ih (i + 1) _ _ _ _ _ _ ls (by omega) (by omega) (by omega) hw hS h0 hn9 hF (lv_sub hl [1, 2, 3, 4, 5, 0] rfl)
  exact L18 (k + 1) 0 _ _ _ _ _ _ ls (by omega) (by omega) (by omega) hw hS h0 hn9 hF (lv_sub hl [1, 2, 3, 4, 5, 0] rfl)
set_option maxHeartbeats 4000000 in
set_option maxRecDepth 100000 in
theorem c_po_component0 (l : Launch) (hl9 : l.stackTraces = false) (D : va_G) (X : ClassId × ClassId × ClassId × ClassId) (lo t0 : Nat) (f : hM) (a : Nat) (b : Nat → Option Nat) (v : Nat → Int) (h0 : f a = some (eO 0 (oF sh_po b v))) (lq : Nat) (bq : Nat → Option Nat) (vq : Nat → Int) (hq1 : f lq = some (eO 7 (oF sh_al bq vq))) (hsz : vq 2 = 0) (hbt : bq 1 = some t0) (hb5 : b 5 = some lq) (x y n : Int) (rx : iR x) (ry : iR y) (rn : iR n) : vx_Met l y_po_component (Cond.code y_po_component b_po_component 5 (some FieldType.int) :: TB) ({ frames := 6, cells := 102, slots := 605, locals := 130 } : Room) (va_Pc [.ref a, .int (iI (x)), .int (iI (y)), .int (iI (n))] (Bq D CL (TYS X) lo (Gv lo t0) f)) (va_Qi (fun r f1 => r = iI 0 ∧ gCmp x y n ∧ Fn [a, lq] f f1) (Bq D CL (TYS X) lo (Gv lo t0)) (fun q => lo ≤ q)) (XCm D CL lo (fun E f1 => E = IAE ∧ ¬ gCmp x y n ∧ Fn [a, lq] f f1)) 102 605 (fun q => lo ≤ q) := by
  refine mtx (by decide) (Nat.le_of_ble_eq_true rfl) ?_
  intro p e s m args below meth cd ls hx hb hr hml hown ht hlocks hnm hK hlo hG hw hS hl hex
  have hl : lv_has ls 5 [(0, .ref a), (1, .int (iI (x))), (2, .int (iI (y))), (3, .int (iI (n)))] := hl
  have hGO := Gv.ok lo t0
  have hNB := hG.1
  generalize hQ : vx_MQ below _ _ args s _ _ _ = Q
  have hF : Fn [a, lq] f f := Fn.rf
  have nal : a ≠ lq := ne_of h0 hq1 (by simp)
  have ok_lq : aOK [a, lq] f lq := aOK.of (by simp)
  refine lv_iload_n hx hb d_po_component_0 rfl (lv_at hl 1 rfl) ?_
  refine mi_iconst hx hb d_po_component_1 ?_
  refine mi_sipush hx hb d_po_component_2 (by decide) ?_
  refine mq_calli (va_runS (As := [.int (iI (x)), .int (iI (1)), .int (iI (255))]) (rest := []) ⟨hx, hb, hml, hown, ht⟩ (c_po_isWithin l D X lo t0 f (x) (1) (255) rx (by decide) (by decide)) (cwS 3 ht (good_S (fun _ h => h) t_266 t_264 t_265 t_1) rfl rfl rfl (by decide +kernel) ⟨Nat.le_of_ble_eq_true rfl, Nat.le_of_ble_eq_true rfl⟩) (mq_preS hK hlo hGO hG hw hS) rfl rfl hl.1 rfl (lv_room (Nat.le_of_ble_eq_true rfl)) d_po_component_5 ⟨Nat.le_of_ble_eq_true rfl, Nat.le_of_ble_eq_true rfl⟩) hS (fun r1 f1 H locs hp hw hS => ?_)
  obtain ⟨rfl, hF1⟩ := hp
  have h0 := Fr.keep hF1 h0 (by simp)
  have hq1 := Fr.keep hF1 hq1 (by simp)
  have hF := Fn.tr hF (Fr.fn hF1) (fun q hq => absurd hq List.not_mem_nil)
  refine mi_if_eq (tgt := 22) hx hb d_po_component_8 (by decide) (by split <;> decide) (fun c_8 => ?_) (fun c_8 => ?_)
  · skip
    rw [← hQ]; exact mx_throw (text := "a step is not 1 .. 255") (names := ["java/lang/RuntimeException", "java/lang/Exception"]) hx hb hl9 hown (by decide +kernel) at_nm ht t_186 t_11 (by decide) at1_IAE at2_IAE at3_IAE hG hw hS (hl.1.trans hml.symm) d_po_component_22 d_po_component_25 d_po_component_26 d_po_component_28 d_po_component_31 hex (Nat.le_of_ble_eq_true rfl) (Nat.le_of_ble_eq_true rfl) (Nat.le_of_ble_eq_true rfl) (Nat.le_of_ble_eq_true rfl) hlocks (Nat.le_of_ble_eq_true rfl) (Nat.le_of_ble_eq_true rfl) ⟨rfl, (by first | (split at c_19 <;> omega) | (split at c_8 <;> omega)), hF⟩
  · skip
    refine lv_iload_n hx hb d_po_component_11 rfl (lv_at hl 2 rfl) ?_
    refine mi_iconst hx hb d_po_component_12 ?_
    refine mi_sipush hx hb d_po_component_13 (by decide) ?_
    refine mq_calli (va_runS (As := [.int (iI (y)), .int (iI (1)), .int (iI (255))]) (rest := []) ⟨hx, hb, hml, hown, ht⟩ (c_po_isWithin l D X lo t0 f1 (y) (1) (255) ry (by decide) (by decide)) (cwS 3 ht (good_S (fun _ h => h) t_266 t_264 t_265 t_1) rfl rfl rfl (by decide +kernel) ⟨Nat.le_of_ble_eq_true rfl, Nat.le_of_ble_eq_true rfl⟩) (mq_preS hK hlo hGO hG hw hS) rfl rfl hl.1 rfl (lv_room (Nat.le_of_ble_eq_true rfl)) d_po_component_16 ⟨Nat.le_of_ble_eq_true rfl, Nat.le_of_ble_eq_true rfl⟩) hS (fun r2 f2 H locs hp hw hS => ?_)
    obtain ⟨rfl, hF2⟩ := hp
    have h0 := Fr.keep hF2 h0 (by simp)
    have hq1 := Fr.keep hF2 hq1 (by simp)
    have hF := Fn.tr hF (Fr.fn hF2) (fun q hq => absurd hq List.not_mem_nil)
    refine mi_if_ne (tgt := 32) hx hb d_po_component_19 (by decide) (by split <;> decide) (fun c_19 => ?_) (fun c_19 => ?_)
    · skip
      refine lv_iload_n hx hb d_po_component_32 rfl (lv_at hl 3 rfl) ?_
      refine mi_iconst hx hb d_po_component_33 ?_
      refine mi_bipush hx hb d_po_component_34 (by decide) ?_
      refine mq_calli (va_runS (As := [.int (iI (n)), .int (iI (0)), .int (iI (32))]) (rest := []) ⟨hx, hb, hml, hown, ht⟩ (c_po_isWithin l D X lo t0 f2 (n) (0) (32) rn (by decide) (by decide)) (cwS 3 ht (good_S (fun _ h => h) t_266 t_264 t_265 t_1) rfl rfl rfl (by decide +kernel) ⟨Nat.le_of_ble_eq_true rfl, Nat.le_of_ble_eq_true rfl⟩) (mq_preS hK hlo hGO hG hw hS) rfl rfl hl.1 rfl (lv_room (Nat.le_of_ble_eq_true rfl)) d_po_component_36 ⟨Nat.le_of_ble_eq_true rfl, Nat.le_of_ble_eq_true rfl⟩) hS (fun r3 f3 H locs hp hw hS => ?_)
      obtain ⟨rfl, hF3⟩ := hp
      have h0 := Fr.keep hF3 h0 (by simp)
      have hq1 := Fr.keep hF3 hq1 (by simp)
      have hF := Fn.tr hF (Fr.fn hF3) (fun q hq => absurd hq List.not_mem_nil)
      refine mi_if_ne (tgt := 52) hx hb d_po_component_39 (by decide) (by split <;> decide) (fun c_39 => ?_) (fun c_39 => ?_)
      · skip
        have hzn : 0 ≤ n ∧ n ≤ 32 := by split at c_39 <;> omega
        obtain ⟨k, hk⟩ := Int.eq_ofNat_of_zero_le hzn.1
        have hk2 : k ≤ 32 := by omega
        refine lv_aload_n hx hb d_po_component_52 rfl (lv_at hl 0 rfl) ?_
        refine mo_getr hx hb ht in_po hown hK hw h0 rfl 5 (by decide) rfl hb5 (ht _ t_135) (fun _ h => h) d_po_component_53 ?_
        refine mq_calli (va_runV (As := []) (rest := []) ⟨hx, hb, hml, hown, ht⟩ (c_al_size l D X lo t0 f3 lq bq vq hq1) (cwV 0 ht (good_V (fun _ h => h) t_272 t_269 t_270 t_271 t_4) rfl rfl rfl (by decide +kernel) ⟨Nat.le_of_ble_eq_true rfl, Nat.le_of_ble_eq_true rfl⟩) (mq_preV hK hlo hGO hG hw hS (hW.recv hK hw (ci := 7) rfl hq1)) rfl rfl hl.1 rfl (lv_room (Nat.le_of_ble_eq_true rfl)) d_po_component_56 ⟨Nat.le_of_ble_eq_true rfl, Nat.le_of_ble_eq_true rfl⟩) hS (fun r4 f4 H locs hp hw hS => ?_)
        obtain ⟨rfl, hF4⟩ := hp
        have h0 := Fr.keep hF4 h0 (by simp)
        have hq1 := Fr.keep hF4 hq1 (by simp)
        have hF := Fn.tr hF (Fr.fn hF4) (fun q hq => absurd hq List.not_mem_nil)
        rw [show vq 2 = 0 from hsz]
        refine lv_istore (lv' := [(4, .int (iI (0))), (0, .ref a), (1, .int (iI (x))), (2, .int (iI (y))), (3, .int (iI (n)))]) hx hb d_po_component_59 hl (by decide) rfl (fun ls hl => ?_)
        refine lv_iload hx hb d_po_component_61 (lv_at hl 0 rfl) ?_
        refine mi_bipush hx hb d_po_component_63 (by decide) ?_
        refine mi_icmp_lt (tgt := 78) hx hb d_po_component_65 (by decide) (by decide) (by decide) (fun c_65 => ?_) (fun c_65 => ?_)
        · skip
          refine lv_aload_n hx hb d_po_component_78 rfl (lv_at hl 1 rfl) ?_
          refine mo_getr hx hb ht in_po hown hK hw h0 rfl 5 (by decide) rfl hb5 (ht _ t_135) (fun _ h => h) d_po_component_79 ?_
          refine mo_new (ci := 2) (sh := sh_co) hx hb ht in_co ty_co tyok_co hown (ht _ t_289) (ht _ t_290) (ht _ t_13) hK hw hS hlo rfl df_co (Nat.le_of_ble_eq_true rfl) (Nat.le_of_ble_eq_true rfl) d_po_component_82 (fun q82 H f5 hq82 hf5 hw hS => ?_)
          have ne_a_q82 : a ≠ q82 := ne_new h0 hq82
          have ne_lq_q82 : lq ≠ q82 := ne_new hq1 hq82
          have h0 := eq_q hf5 h0 hq82
          have hq1 := eq_q hf5 hq1 hq82
          have hn82 := eq_s hf5
          have ok_q82 := Fn.new hF hq82
          have hF := Fn.up hF hf5 ok_q82
          refine lv_dup hx hb d_po_component_85 rfl ?_
          refine lv_iload hx hb d_po_component_86 (lv_at hl 0 rfl) ?_
          refine lv_iload_n hx hb d_po_component_88 rfl (lv_at hl 2 rfl) ?_
          refine lv_iload_n hx hb d_po_component_89 rfl (lv_at hl 3 rfl) ?_
          refine lv_iload_n hx hb d_po_component_90 rfl (lv_at hl 4 rfl) ?_
          refine mq_callv (va_runI (As := [.int (iI (0)), .int (iI (x)), .int (iI (y)), .int (iI (n))]) (rest := [.ref q82, .ref lq]) ⟨hx, hb, hml, hown, ht⟩ (c_co_init l D X lo t0 f5 q82 (fun _ => (none : Option Nat)) (fun _ => (0 : Int)) hn82 (0) (x) (y) (n) rx ry k hk hk2) (cwI 4 ht (good_M (fun _ h => h) t_293) rfl rfl rfl (ht _ t_13) (ht _ t_291) (ht _ t_292) rfl (by decide +kernel) ⟨Nat.le_of_ble_eq_true rfl, Nat.le_of_ble_eq_true rfl⟩) (mq_preS hK hlo hGO hG hw hS) rfl rfl hl.1 rfl (lv_room (Nat.le_of_ble_eq_true rfl)) d_po_component_91 ⟨Nat.le_of_ble_eq_true rfl, Nat.le_of_ble_eq_true rfl⟩) hS (fun f6 H locs hp hw hS => ?_)
          obtain ⟨hF6, vc9, hn82⟩ := hp
          have h0 := Fn.keep hF6 h0 (by simpa using ne_a_q82)
          have hq1 := Fn.keep hF6 hq1 (by simpa using ne_lq_q82)
          have hF := Fn.tr hF hF6 (fun q hq => by rw [List.mem_singleton.mp hq]; exact ok_q82)
          refine mq_calli (va_runV (As := [.ref q82]) (rest := []) ⟨hx, hb, hml, hown, ht⟩ (c_al_add_first l D X lo t0 f6 lq bq vq hq1 hbt hsz q82 2 _ hn82 _ rfl n_933 ne_lq_q82.symm) (cwV 1 ht (good_V (fun _ h => h) t_362 t_359 t_360 t_361 t_4) rfl rfl rfl (by decide +kernel) ⟨Nat.le_of_ble_eq_true rfl, Nat.le_of_ble_eq_true rfl⟩) (mq_preV hK hlo hGO hG hw hS (hW.recv hK hw (ci := 7) rfl hq1)) rfl rfl hl.1 rfl (lv_room (Nat.le_of_ble_eq_true rfl)) d_po_component_94 ⟨Nat.le_of_ble_eq_true rfl, Nat.le_of_ble_eq_true rfl⟩) hS (fun r7 f7 H locs hp hw hS => ?_)
          obtain ⟨rfl, q7, hq7, hF7, hq1, hn7⟩ := hp
          have h0 := Fn.keep hF7 h0 (by simpa using nal)
          have hn82 := Fn.keep hF7 hn82 (by simpa using ne_lq_q82.symm)
          have hF := Fn.tr hF hF7 (fun q hq => by rw [List.mem_singleton.mp hq]; exact ok_lq)
          refine lv_pop hx hb d_po_component_97 rfl ?_
          refine lv_aload_n hx hb d_po_component_98 rfl (lv_at hl 1 rfl) ?_
          refine mi_iconst hx hb d_po_component_99 ?_
          refine mo_puti hx hb ht in_po ty_po tyok_po nm_po hown hK hw hS h0 rfl 9 (by decide) rfl (ht _ t_139) (fun _ h => h) rfl (tyok_po 9 (by decide)) rfl rfl d_po_component_100 (fun H locs f8 hf8 hw hS => ?_)
          have h0 := eq_s hf8
          have hq1 := eq_n hf8 hq1 nal.symm
          have hn82 := eq_n hf8 hn82 ne_a_q82.symm
          have hF := Fn.up hF hf8 (aOK.of (by simp))
          refine lv_iload hx hb d_po_component_103 (lv_at hl 0 rfl) ?_
          rw [← hQ]; refine vx_ret ?_; exact mq_iret hx hb hr hlocks hK hlo hGO hG hw hS (Nat.le_of_ble_eq_true rfl) (Nat.le_of_ble_eq_true rfl) d_po_component_105 ⟨rfl, (by split at c_8 <;> split at c_19 <;> omega), hF⟩
        · exact absurd c_65 (by omega)
      · skip
        rw [← hQ]; exact mx_throw (text := "the levels are not 0 .. 32") (names := ["java/lang/RuntimeException", "java/lang/Exception"]) hx hb hl9 hown (by decide +kernel) at_nm ht t_186 t_11 (by decide) at1_IAE at2_IAE at3_IAE hG hw hS (hl.1.trans hml.symm) d_po_component_42 d_po_component_45 d_po_component_46 d_po_component_48 d_po_component_51 hex (Nat.le_of_ble_eq_true rfl) (Nat.le_of_ble_eq_true rfl) (Nat.le_of_ble_eq_true rfl) (Nat.le_of_ble_eq_true rfl) hlocks (Nat.le_of_ble_eq_true rfl) (Nat.le_of_ble_eq_true rfl) ⟨rfl, (by split at c_39 <;> omega), hF⟩
    · skip
      rw [← hQ]; exact mx_throw (text := "a step is not 1 .. 255") (names := ["java/lang/RuntimeException", "java/lang/Exception"]) hx hb hl9 hown (by decide +kernel) at_nm ht t_186 t_11 (by decide) at1_IAE at2_IAE at3_IAE hG hw hS (hl.1.trans hml.symm) d_po_component_22 d_po_component_25 d_po_component_26 d_po_component_28 d_po_component_31 hex (Nat.le_of_ble_eq_true rfl) (Nat.le_of_ble_eq_true rfl) (Nat.le_of_ble_eq_true rfl) (Nat.le_of_ble_eq_true rfl) hlocks (Nat.le_of_ble_eq_true rfl) (Nat.le_of_ble_eq_true rfl) ⟨rfl, (by first | (split at c_19 <;> omega) | (split at c_8 <;> omega)), hF⟩
