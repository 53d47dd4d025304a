/-! the class under proof: tile, begin, next, skip without a sequence -/
set_option maxHeartbeats 4000000 in
set_option maxRecDepth 100000 in
theorem c_po_tile (l : Launch) (hl9 : l.stackTraces = false) (D : va_G) (X : ClassId × ClassId × ClassId × ClassId) (lo t0 : Nat) (f : hM) (a : Nat) (b : Nat → Option Nat) (v : Nat → Int) (h0 : f a = some (eO 0 (oF sh_po b v))) (x0 y0 x1 y1 : Int) (r0 : iR x0) (r1 : iR y0) (r2 : iR x1) (r3 : iR y1) : vx_Met l y_po_tile (Cond.code y_po_tile b_po_tile 5 (none) :: TB) ({ frames := 6, cells := 1, slots := 6, locals := 90 } : Room) (va_Pc [.ref a, .int (iI (x0)), .int (iI (y0)), .int (iI (x1)), .int (iI (y1))] (Bq D CL (TYS X) lo (Gv lo t0) f)) (va_Qv (fun f1 => gTile x0 y0 x1 y1 ∧ Fr [a] f f1 ∧ f1 a = some (eO 0 (oF sh_po b (va_up (va_up (va_up (va_up (va_up (va_up v 0 x0) 1 y0) 2 x1) 3 y1) 4 1) 9 0)))) (Bq D CL (TYS X) lo (Gv lo t0)) (fun q => lo ≤ q)) (XCm D CL lo (fun E f1 => E = IAE ∧ ¬ gTile x0 y0 x1 y1 ∧ f1 = f)) 1 6 (fun q => lo ≤ q) := by
  refine mtx (by decide) (Nat.le_of_ble_eq_true rfl) ?_
  intro p e s m args below meth cd ls hx hb hr hml hown ht hlocks hnm hK hlo hG hw hS hl hex
  have hl : lv_has ls 5 [(0, .ref a), (1, .int (iI (x0))), (2, .int (iI (y0))), (3, .int (iI (x1))), (4, .int (iI (y1)))] := hl
  have hGO := Gv.ok lo t0
  have hNB := hG.1
  generalize hQ : vx_MQ below _ _ args s _ _ _ = Q
  have hF : Fr [a] f f := Fr.rf
  refine lv_iload_n hx hb d_po_tile_0 rfl (lv_at hl 1 rfl) ?_
  refine mi_if_lt (tgt := 23) hx hb d_po_tile_1 (by decide) r0 (fun c_1 => ?_) (fun c_1 => ?_)
  · skip
    rw [← hQ]; exact mx_throw (text := "the tile is not within 0 .. 32767") (names := ["java/lang/RuntimeException", "java/lang/Exception"]) hx hb hl9 hown (by decide +kernel) at_nm ht t_186 t_11 (by decide) at1_IAE at2_IAE at3_IAE hG hw hS (hl.1.trans hml.symm) d_po_tile_23 d_po_tile_26 d_po_tile_27 d_po_tile_29 d_po_tile_32 hex (Nat.le_of_ble_eq_true rfl) (Nat.le_of_ble_eq_true rfl) (Nat.le_of_ble_eq_true rfl) (Nat.le_of_ble_eq_true rfl) hlocks (Nat.le_of_ble_eq_true rfl) (Nat.le_of_ble_eq_true rfl) ⟨rfl, (by omega), rfl⟩
  · skip
    refine lv_iload_n hx hb d_po_tile_4 rfl (lv_at hl 2 rfl) ?_
    refine mi_if_lt (tgt := 23) hx hb d_po_tile_5 (by decide) r1 (fun c_5 => ?_) (fun c_5 => ?_)
    · skip
      rw [← hQ]; exact mx_throw (text := "the tile is not within 0 .. 32767") (names := ["java/lang/RuntimeException", "java/lang/Exception"]) hx hb hl9 hown (by decide +kernel) at_nm ht t_186 t_11 (by decide) at1_IAE at2_IAE at3_IAE hG hw hS (hl.1.trans hml.symm) d_po_tile_23 d_po_tile_26 d_po_tile_27 d_po_tile_29 d_po_tile_32 hex (Nat.le_of_ble_eq_true rfl) (Nat.le_of_ble_eq_true rfl) (Nat.le_of_ble_eq_true rfl) (Nat.le_of_ble_eq_true rfl) hlocks (Nat.le_of_ble_eq_true rfl) (Nat.le_of_ble_eq_true rfl) ⟨rfl, (by omega), rfl⟩
    · skip
      refine lv_iload_n hx hb d_po_tile_8 rfl (lv_at hl 3 rfl) ?_
      refine mi_sipush hx hb d_po_tile_9 (by decide) ?_
      refine mi_icmp_gt (tgt := 23) hx hb d_po_tile_12 (by decide) r2 (by decide) (fun c_12 => ?_) (fun c_12 => ?_)
      · skip
        rw [← hQ]; exact mx_throw (text := "the tile is not within 0 .. 32767") (names := ["java/lang/RuntimeException", "java/lang/Exception"]) hx hb hl9 hown (by decide +kernel) at_nm ht t_186 t_11 (by decide) at1_IAE at2_IAE at3_IAE hG hw hS (hl.1.trans hml.symm) d_po_tile_23 d_po_tile_26 d_po_tile_27 d_po_tile_29 d_po_tile_32 hex (Nat.le_of_ble_eq_true rfl) (Nat.le_of_ble_eq_true rfl) (Nat.le_of_ble_eq_true rfl) (Nat.le_of_ble_eq_true rfl) hlocks (Nat.le_of_ble_eq_true rfl) (Nat.le_of_ble_eq_true rfl) ⟨rfl, (by omega), rfl⟩
      · skip
        refine lv_iload hx hb d_po_tile_15 (lv_at hl 4 rfl) ?_
        refine mi_sipush hx hb d_po_tile_17 (by decide) ?_
        refine mi_icmp_le (tgt := 33) hx hb d_po_tile_20 (by decide) r3 (by decide) (fun c_20 => ?_) (fun c_20 => ?_)
        · skip
          refine lv_iload_n hx hb d_po_tile_33 rfl (lv_at hl 1 rfl) ?_
          refine lv_iload_n hx hb d_po_tile_34 rfl (lv_at hl 3 rfl) ?_
          refine mi_icmp_ge (tgt := 44) hx hb d_po_tile_35 (by decide) r0 r2 (fun c_35 => ?_) (fun c_35 => ?_)
          · skip
            rw [← hQ]; exact mx_throw (text := "the tile is empty") (names := ["java/lang/RuntimeException", "java/lang/Exception"]) hx hb hl9 hown (by decide +kernel) at_nm ht t_186 t_11 (by decide) at1_IAE at2_IAE at3_IAE hG hw hS (hl.1.trans hml.symm) d_po_tile_44 d_po_tile_47 d_po_tile_48 d_po_tile_50 d_po_tile_53 hex (Nat.le_of_ble_eq_true rfl) (Nat.le_of_ble_eq_true rfl) (Nat.le_of_ble_eq_true rfl) (Nat.le_of_ble_eq_true rfl) hlocks (Nat.le_of_ble_eq_true rfl) (Nat.le_of_ble_eq_true rfl) ⟨rfl, (by omega), rfl⟩
          · skip
            refine lv_iload_n hx hb d_po_tile_38 rfl (lv_at hl 2 rfl) ?_
            refine lv_iload hx hb d_po_tile_39 (lv_at hl 4 rfl) ?_
            refine mi_icmp_lt (tgt := 54) hx hb d_po_tile_41 (by decide) r1 r3 (fun c_41 => ?_) (fun c_41 => ?_)
            · skip
              refine lv_aload_n hx hb d_po_tile_54 rfl (lv_at hl 0 rfl) ?_
              refine lv_iload_n hx hb d_po_tile_55 rfl (lv_at hl 1 rfl) ?_
              refine mo_puti hx hb ht in_po ty_po tyok_po nm_po hown hK hw hS h0 rfl 0 (by decide) rfl (ht _ t_130) (fun _ h => h) rfl (tyok_po 0 (by decide)) rfl rfl d_po_tile_56 (fun H locs f1 hf1 hw hS => ?_)
              have h0 := eq_s hf1
              have hF := Fr.up hF hf1 (by simp)
              refine lv_aload_n hx hb d_po_tile_59 rfl (lv_at hl 0 rfl) ?_
              refine lv_iload_n hx hb d_po_tile_60 rfl (lv_at hl 2 rfl) ?_
              refine mo_puti hx hb ht in_po ty_po tyok_po nm_po hown hK hw hS h0 rfl 1 (by decide) rfl (ht _ t_131) (fun _ h => h) rfl (tyok_po 1 (by decide)) rfl rfl d_po_tile_61 (fun H locs f2 hf2 hw hS => ?_)
              have h0 := eq_s hf2
              have hF := Fr.up hF hf2 (by simp)
              refine lv_aload_n hx hb d_po_tile_64 rfl (lv_at hl 0 rfl) ?_
              refine lv_iload_n hx hb d_po_tile_65 rfl (lv_at hl 3 rfl) ?_
              refine mo_puti hx hb ht in_po ty_po tyok_po nm_po hown hK hw hS h0 rfl 2 (by decide) rfl (ht _ t_132) (fun _ h => h) rfl (tyok_po 2 (by decide)) rfl rfl d_po_tile_66 (fun H locs f3 hf3 hw hS => ?_)
              have h0 := eq_s hf3
              have hF := Fr.up hF hf3 (by simp)
              refine lv_aload_n hx hb d_po_tile_69 rfl (lv_at hl 0 rfl) ?_
              refine lv_iload hx hb d_po_tile_70 (lv_at hl 4 rfl) ?_
              refine mo_puti hx hb ht in_po ty_po tyok_po nm_po hown hK hw hS h0 rfl 3 (by decide) rfl (ht _ t_133) (fun _ h => h) rfl (tyok_po 3 (by decide)) rfl rfl d_po_tile_72 (fun H locs f4 hf4 hw hS => ?_)
              have h0 := eq_s hf4
              have hF := Fr.up hF hf4 (by simp)
              refine lv_aload_n hx hb d_po_tile_75 rfl (lv_at hl 0 rfl) ?_
              refine mi_iconst hx hb d_po_tile_76 ?_
              refine mo_puti hx hb ht in_po ty_po tyok_po nm_po hown hK hw hS h0 rfl 4 (by decide) rfl (ht _ t_134) (fun _ h => h) rfl (tyok_po 4 (by decide)) rfl rfl d_po_tile_77 (fun H locs f5 hf5 hw hS => ?_)
              have h0 := eq_s hf5
              have hF := Fr.up hF hf5 (by simp)
              refine lv_aload_n hx hb d_po_tile_80 rfl (lv_at hl 0 rfl) ?_
              refine mi_iconst hx hb d_po_tile_81 ?_
              refine mo_puti hx hb ht in_po ty_po tyok_po nm_po hown hK hw hS h0 rfl 9 (by decide) rfl (ht _ t_139) (fun _ h => h) rfl (tyok_po 9 (by decide)) rfl rfl d_po_tile_82 (fun H locs f6 hf6 hw hS => ?_)
              have h0 := eq_s hf6
              have hF := Fr.up hF hf6 (by simp)
              rw [← hQ]; refine vx_ret ?_; exact mq_vret hx hb hr hlocks hK hlo hGO hG hw hS (Nat.zero_le _) (Nat.zero_le _) d_po_tile_85 ⟨(by omega), hF, h0⟩
            · skip
              rw [← hQ]; exact mx_throw (text := "the tile is empty") (names := ["java/lang/RuntimeException", "java/lang/Exception"]) hx hb hl9 hown (by decide +kernel) at_nm ht t_186 t_11 (by decide) at1_IAE at2_IAE at3_IAE hG hw hS (hl.1.trans hml.symm) d_po_tile_44 d_po_tile_47 d_po_tile_48 d_po_tile_50 d_po_tile_53 hex (Nat.le_of_ble_eq_true rfl) (Nat.le_of_ble_eq_true rfl) (Nat.le_of_ble_eq_true rfl) (Nat.le_of_ble_eq_true rfl) hlocks (Nat.le_of_ble_eq_true rfl) (Nat.le_of_ble_eq_true rfl) ⟨rfl, (by omega), rfl⟩
        · skip
          rw [← hQ]; exact mx_throw (text := "the tile is not within 0 .. 32767") (names := ["java/lang/RuntimeException", "java/lang/Exception"]) hx hb hl9 hown (by decide +kernel) at_nm ht t_186 t_11 (by decide) at1_IAE at2_IAE at3_IAE hG hw hS (hl.1.trans hml.symm) d_po_tile_23 d_po_tile_26 d_po_tile_27 d_po_tile_29 d_po_tile_32 hex (Nat.le_of_ble_eq_true rfl) (Nat.le_of_ble_eq_true rfl) (Nat.le_of_ble_eq_true rfl) (Nat.le_of_ble_eq_true rfl) hlocks (Nat.le_of_ble_eq_true rfl) (Nat.le_of_ble_eq_true rfl) ⟨rfl, (by omega), rfl⟩
set_option maxHeartbeats 4000000 in
set_option maxRecDepth 100000 in
/-- begin without a tile -/
theorem c_po_begin0 (l : Launch) (hl9 : l.stackTraces = false) (D : va_G) (X : ClassId × ClassId × ClassId × ClassId) (lo t0 : Nat) (f : hM) (a : Nat) (b : Nat → Option Nat) (v : Nat → Int) (h0 : f a = some (eO 0 (oF sh_po b v))) (h4 : v 4 = 0) : vx_Met l y_po_begin (Cond.code y_po_begin b_po_begin 3 (some FieldType.int) :: TB) ({ frames := 6, cells := 1, slots := 6, locals := 90 } : Room) (va_Pc [.ref a] (Bq D CL (TYS X) lo (Gv lo t0) f)) (va_Qi (fun _ _ => False) (Bq D CL (TYS X) lo (Gv lo t0)) (fun q => lo ≤ q)) (XCm D CL lo (fun E f1 => E = ISE ∧ f1 = f)) 1 6 (fun q => lo ≤ q) := by
  refine mtx (by decide) (Nat.le_of_ble_eq_true rfl) ?_
  intro p e s m args below meth cd ls hx hb hr hml hown ht hlocks hnm hK hlo hG hw hS hl hex
  have hl : lv_has ls 3 [(0, .ref a)] := hl
  have hGO := Gv.ok lo t0
  have hNB := hG.1
  generalize hQ : vx_MQ below _ _ args s _ _ _ = Q
  have hF : Fr [a] f f := Fr.rf
  refine lv_aload_n hx hb d_po_begin_0 rfl (lv_at hl 0 rfl) ?_
  refine mo_geti hx hb ht in_po hown hK hw h0 rfl 4 (by decide) rfl (ht _ t_134) (fun _ h => h) d_po_begin_1 ?_
  refine mi_if_eq (tgt := 17) hx hb d_po_begin_4 (by decide) (by omega) (fun c_4 => ?_) (fun c_4 => ?_)
  · skip
    rw [← hQ]; exact mx_throw (text := "there is no tile, or no component") (names := ["java/lang/RuntimeException", "java/lang/Exception"]) hx hb hl9 hown (by decide +kernel) at_nm ht t_273 t_12 (by decide) at1_ISE at2_ISE at3_ISE hG hw hS (hl.1.trans hml.symm) d_po_begin_17 d_po_begin_20 d_po_begin_21 d_po_begin_23 d_po_begin_26 hex (Nat.le_of_ble_eq_true rfl) (Nat.le_of_ble_eq_true rfl) (Nat.le_of_ble_eq_true rfl) (Nat.le_of_ble_eq_true rfl) hlocks (Nat.le_of_ble_eq_true rfl) (Nat.le_of_ble_eq_true rfl) ⟨rfl, rfl⟩
  · exact absurd c_4 (by omega)
set_option maxHeartbeats 4000000 in
set_option maxRecDepth 100000 in
theorem c_po_next0 (l : Launch) (hl9 : l.stackTraces = false) (D : va_G) (X : ClassId × ClassId × ClassId × ClassId) (lo t0 : Nat) (f : hM) (a : Nat) (b : Nat → Option Nat) (v : Nat → Int) (h0 : f a = some (eO 0 (oF sh_po b v))) (h9 : v 9 = 0) : vx_Met l y_po_next (Cond.code y_po_next b_po_next 1 (some FieldType.boolean) :: TB) ({ frames := 6, cells := 1, slots := 6, locals := 90 } : Room) (va_Pc [.ref a] (Bq D CL (TYS X) lo (Gv lo t0) f)) (va_Qi (fun _ _ => False) (Bq D CL (TYS X) lo (Gv lo t0)) (fun q => lo ≤ q)) (XCm D CL lo (fun E f1 => E = ISE ∧ f1 = f)) 1 6 (fun q => lo ≤ q) := by
  refine mtx (by decide) (Nat.le_of_ble_eq_true rfl) ?_
  intro p e s m args below meth cd ls hx hb hr hml hown ht hlocks hnm hK hlo hG hw hS hl hex
  have hl : lv_has ls 1 [(0, .ref a)] := hl
  have hGO := Gv.ok lo t0
  have hNB := hG.1
  generalize hQ : vx_MQ below _ _ args s _ _ _ = Q
  have hF : Fr [a] f f := Fr.rf
  refine lv_aload_n hx hb d_po_next_0 rfl (lv_at hl 0 rfl) ?_
  refine mo_geti hx hb ht in_po hown hK hw h0 rfl 9 (by decide) rfl (ht _ t_139) (fun _ h => h) d_po_next_1 ?_
  refine mi_if_ne (tgt := 17) hx hb d_po_next_4 (by decide) (by omega) (fun c_4 => ?_) (fun c_4 => ?_)
  · exact absurd c_4 (by omega)
  · skip
    rw [← hQ]; exact mx_throw (text := "there is no sequence") (names := ["java/lang/RuntimeException", "java/lang/Exception"]) hx hb hl9 hown (by decide +kernel) at_nm ht t_273 t_12 (by decide) at1_ISE at2_ISE at3_ISE hG hw hS (hl.1.trans hml.symm) d_po_next_7 d_po_next_10 d_po_next_11 d_po_next_13 d_po_next_16 hex (Nat.le_of_ble_eq_true rfl) (Nat.le_of_ble_eq_true rfl) (Nat.le_of_ble_eq_true rfl) (Nat.le_of_ble_eq_true rfl) hlocks (Nat.le_of_ble_eq_true rfl) (Nat.le_of_ble_eq_true rfl) ⟨rfl, rfl⟩
set_option maxHeartbeats 4000000 in
set_option maxRecDepth 100000 in
theorem c_po_skip0 (l : Launch) (hl9 : l.stackTraces = false) (D : va_G) (X : ClassId × ClassId × ClassId × ClassId) (lo t0 : Nat) (f : hM) (a : Nat) (b : Nat → Option Nat) (v : Nat → Int) (h0 : f a = some (eO 0 (oF sh_po b v))) (h9 : v 9 = 0) (n : Int) (rn : iR n) : vx_Met l y_po_skip (Cond.code y_po_skip b_po_skip 2 (some FieldType.int) :: TB) ({ frames := 6, cells := 1, slots := 6, locals := 90 } : Room) (va_Pc [.ref a, .int (iI (n))] (Bq D CL (TYS X) lo (Gv lo t0) f)) (va_Qi (fun _ _ => False) (Bq D CL (TYS X) lo (Gv lo t0)) (fun q => lo ≤ q)) (XCm D CL lo (fun E f1 => (E = IAE ∧ n < 0 ∧ f1 = f) ∨ (E = ISE ∧ ¬ n < 0 ∧ f1 = f))) 1 6 (fun q => lo ≤ q) := by
  refine mtx (by decide) (Nat.le_of_ble_eq_true rfl) ?_
  intro p e s m args below meth cd ls hx hb hr hml hown ht hlocks hnm hK hlo hG hw hS hl hex
  have hl : lv_has ls 2 [(0, .ref a), (1, .int (iI (n)))] := hl
  have hGO := Gv.ok lo t0
  have hNB := hG.1
  generalize hQ : vx_MQ below _ _ args s _ _ _ = Q
  have hF : Fr [a] f f := Fr.rf
  refine lv_iload_n hx hb d_po_skip_0 rfl (lv_at hl 1 rfl) ?_
  refine mi_if_ge (tgt := 14) hx hb d_po_skip_1 (by decide) rn (fun c_1 => ?_) (fun c_1 => ?_)
  · skip
    refine lv_aload_n hx hb d_po_skip_14 rfl (lv_at hl 0 rfl) ?_
    refine mo_geti hx hb ht in_po hown hK hw h0 rfl 9 (by decide) rfl (ht _ t_139) (fun _ h => h) d_po_skip_15 ?_
    refine mi_if_ne (tgt := 31) hx hb d_po_skip_18 (by decide) (by omega) (fun c_18 => ?_) (fun c_18 => ?_)
    · exact absurd c_18 (by omega)
    · skip
      rw [← hQ]; exact mx_throw (text := "there is no sequence") (names := ["java/lang/RuntimeException", "java/lang/Exception"]) hx hb hl9 hown (by decide +kernel) at_nm ht t_273 t_12 (by decide) at1_ISE at2_ISE at3_ISE hG hw hS (hl.1.trans hml.symm) d_po_skip_21 d_po_skip_24 d_po_skip_25 d_po_skip_27 d_po_skip_30 hex (Nat.le_of_ble_eq_true rfl) (Nat.le_of_ble_eq_true rfl) (Nat.le_of_ble_eq_true rfl) (Nat.le_of_ble_eq_true rfl) hlocks (Nat.le_of_ble_eq_true rfl) (Nat.le_of_ble_eq_true rfl) (Or.inr ⟨rfl, by omega, rfl⟩)
  · skip
    rw [← hQ]; exact mx_throw (text := "the number of packets is below 0") (names := ["java/lang/RuntimeException", "java/lang/Exception"]) hx hb hl9 hown (by decide +kernel) at_nm ht t_186 t_11 (by decide) at1_IAE at2_IAE at3_IAE hG hw hS (hl.1.trans hml.symm) d_po_skip_4 d_po_skip_7 d_po_skip_8 d_po_skip_10 d_po_skip_13 hex (Nat.le_of_ble_eq_true rfl) (Nat.le_of_ble_eq_true rfl) (Nat.le_of_ble_eq_true rfl) (Nat.le_of_ble_eq_true rfl) hlocks (Nat.le_of_ble_eq_true rfl) (Nat.le_of_ble_eq_true rfl) (Or.inl ⟨rfl, by omega, rfl⟩)
set_option maxHeartbeats 4000000 in
set_option maxRecDepth 100000 in
theorem c_po_packet0 (l : Launch) (hl9 : l.stackTraces = false) (D : va_G) (X : ClassId × ClassId × ClassId × ClassId) (lo t0 : Nat) (f : hM) (a : Nat) (b : Nat → Option Nat) (v : Nat → Int) (h0 : f a = some (eO 0 (oF sh_po b v))) (h9 : v 9 = 0) (n : Int) (rn : iR n) : vx_Met l y_po_packet (Cond.code y_po_packet b_po_packet 3 (some FieldType.int) :: TB) ({ frames := 6, cells := 1, slots := 6, locals := 90 } : Room) (va_Pc [.ref a, .int (iI (n))] (Bq D CL (TYS X) lo (Gv lo t0) f)) (va_Qi (fun _ _ => False) (Bq D CL (TYS X) lo (Gv lo t0)) (fun q => lo ≤ q)) (XCm D CL lo (fun E f1 => E = NSE ∧ f1 = f)) 1 6 (fun q => lo ≤ q) := by
  refine mtx (by decide) (Nat.le_of_ble_eq_true rfl) ?_
  intro p e s m args below meth cd ls hx hb hr hml hown ht hlocks hnm hK hlo hG hw hS hl hex
  have hl : lv_has ls 3 [(0, .ref a), (1, .int (iI (n)))] := hl
  have hGO := Gv.ok lo t0
  have hNB := hG.1
  generalize hQ : vx_MQ below _ _ args s _ _ _ = Q
  have hF : Fr [a] f f := Fr.rf
  refine lv_aload_n hx hb d_po_packet_0 rfl (lv_at hl 0 rfl) ?_
  refine mo_geti hx hb ht in_po hown hK hw h0 rfl 9 (by decide) rfl (ht _ t_139) (fun _ h => h) d_po_packet_1 ?_
  refine mi_if_eq (tgt := 21) hx hb d_po_packet_4 (by decide) (by omega) (fun c_4 => ?_) (fun c_4 => ?_)
  · skip
    refine lv_null hx hb d_po_packet_21 ?_
    refine lv_astore_nN (lv' := [(2, .null), (0, .ref a), (1, .int (iI (n)))]) hx hb d_po_packet_22 rfl hl (by decide) rfl (fun ls hl => ?_)
    refine lv_aload_nN hx hb d_po_packet_23 rfl (lv_at hl 0 rfl) ?_
    refine lv_ifnonnullN hx hb d_po_packet_24 ?_
    rw [← hQ]; exact mx_throwN (text := "there is no sequence, or no packet came") hx hb hl9 hown ht t_442 t_22 (by decide) hG hw hS (hl.1.trans hml.symm) d_po_packet_27 d_po_packet_30 d_po_packet_31 d_po_packet_33 d_po_packet_36 hex (Nat.le_of_ble_eq_true rfl) (Nat.le_of_ble_eq_true rfl) (Nat.le_of_ble_eq_true rfl) (Nat.le_of_ble_eq_true rfl) hlocks (Nat.le_of_ble_eq_true rfl) (Nat.le_of_ble_eq_true rfl) ⟨rfl, rfl⟩
  · exact absurd c_4 (by omega)
set_option maxHeartbeats 4000000 in
set_option maxRecDepth 100000 in
theorem c_po_came0 (l : Launch) (hl9 : l.stackTraces = false) (D : va_G) (X : ClassId × ClassId × ClassId × ClassId) (lo t0 : Nat) (f : hM) (a : Nat) (b : Nat → Option Nat) (v : Nat → Int) (h0 : f a = some (eO 0 (oF sh_po b v))) (h9 : v 9 = 0) (n k j : Int) (rn : iR n) (rk : iR k) (rj : iR j) : vx_Met l y_po_came (Cond.code y_po_came b_po_came 5 (some FieldType.int) :: TB) ({ frames := 6, cells := 1, slots := 6, locals := 90 } : Room) (va_Pc [.ref a, .int (iI (n)), .int (iI (k)), .int (iI (j))] (Bq D CL (TYS X) lo (Gv lo t0) f)) (va_Qi (fun _ _ => False) (Bq D CL (TYS X) lo (Gv lo t0)) (fun q => lo ≤ q)) (XCm D CL lo (fun E f1 => E = NSE ∧ f1 = f)) 1 6 (fun q => lo ≤ q) := by
  refine mtx (by decide) (Nat.le_of_ble_eq_true rfl) ?_
  intro p e s m args below meth cd ls hx hb hr hml hown ht hlocks hnm hK hlo hG hw hS hl hex
  have hl : lv_has ls 5 [(0, .ref a), (1, .int (iI (n))), (2, .int (iI (k))), (3, .int (iI (j)))] := hl
  have hGO := Gv.ok lo t0
  have hNB := hG.1
  generalize hQ : vx_MQ below _ _ args s _ _ _ = Q
  have hF : Fr [a] f f := Fr.rf
  refine lv_aload_n hx hb d_po_came_0 rfl (lv_at hl 0 rfl) ?_
  refine mo_geti hx hb ht in_po hown hK hw h0 rfl 9 (by decide) rfl (ht _ t_139) (fun _ h => h) d_po_came_1 ?_
  refine mi_if_eq (tgt := 16) hx hb d_po_came_4 (by decide) (by omega) (fun c_4 => ?_) (fun c_4 => ?_)
  · skip
    refine lv_null hx hb d_po_came_16 ?_
    refine lv_astoreN (lv' := [(4, .null), (0, .ref a), (1, .int (iI (n))), (2, .int (iI (k))), (3, .int (iI (j)))]) hx hb d_po_came_17 hl (by decide) rfl (fun ls hl => ?_)
    refine lv_aloadN hx hb d_po_came_19 (lv_at hl 0 rfl) ?_
    refine lv_ifnullN (tgt := 37) hx hb d_po_came_21 (by decide) ?_
    rw [← hQ]; exact mx_throwN (text := "there is no sequence, or no such precinct") hx hb hl9 hown ht t_442 t_22 (by decide) hG hw hS (hl.1.trans hml.symm) d_po_came_37 d_po_came_40 d_po_came_41 d_po_came_43 d_po_came_46 hex (Nat.le_of_ble_eq_true rfl) (Nat.le_of_ble_eq_true rfl) (Nat.le_of_ble_eq_true rfl) (Nat.le_of_ble_eq_true rfl) hlocks (Nat.le_of_ble_eq_true rfl) (Nat.le_of_ble_eq_true rfl) ⟨rfl, rfl⟩
  · exact absurd c_4 (by omega)
set_option maxHeartbeats 4000000 in
set_option maxRecDepth 100000 in
theorem c_po_isWithin (l : Launch) (D : va_G) (X : ClassId × ClassId × ClassId × ClassId) (lo t0 : Nat) (f : hM) (x y z : Int) (rx : iR x) (ry : iR y) (rz : iR z) : Met l y_po_isWithin (Cond.code y_po_isWithin b_po_isWithin 3 (some FieldType.boolean) :: TB) ({ frames := 0, cells := 0, slots := 0, locals := 0 } : Room) (va_Pc [.int (iI (x)), .int (iI (y)), .int (iI (z))] (Bq D CL (TYS X) lo (Gv lo t0) f)) (va_Qi (fun r f1 => r = iI (if y ≤ x ∧ x ≤ z then 1 else 0) ∧ Fr [] f f1) (Bq D CL (TYS X) lo (Gv lo t0)) (fun q => lo ≤ q)) 0 0 (fun q => lo ≤ q) := by
  refine mt (by decide) (Nat.le_of_ble_eq_true rfl) ?_
  intro p e s m args below meth cd ls hx hb hr hml hown ht hlocks hnm hK hlo hG hw hS hl
  have hl : lv_has ls 3 [(0, .int (iI (x))), (1, .int (iI (y))), (2, .int (iI (z)))] := hl
  have hGO := Gv.ok lo t0
  have hNB := hG.1
  generalize hQ : MQ below _ args s _ _ _ = Q
  have hF : Fr [] f f := Fr.rf
  refine lv_iload_n hx hb d_po_isWithin_0 rfl (lv_at hl 0 rfl) ?_
  refine lv_iload_n hx hb d_po_isWithin_1 rfl (lv_at hl 1 rfl) ?_
  refine mi_icmp_lt (tgt := 14) hx hb d_po_isWithin_2 (by decide) rx ry (fun c_2 => ?_) (fun c_2 => ?_)
  · skip
    refine mi_iconst hx hb d_po_isWithin_14 ?_
    rw [← hQ]; exact mq_zret (z := 0) hx hb hr hlocks hK hlo hGO hG hw hS (Nat.zero_le _) (Nat.zero_le _) (Or.inl rfl) d_po_isWithin_15 ⟨congrArg iI (by split <;> omega), hF⟩
  · skip
    refine lv_iload_n hx hb d_po_isWithin_5 rfl (lv_at hl 0 rfl) ?_
    refine lv_iload_n hx hb d_po_isWithin_6 rfl (lv_at hl 2 rfl) ?_
    refine mi_icmp_gt (tgt := 14) hx hb d_po_isWithin_7 (by decide) rx rz (fun c_7 => ?_) (fun c_7 => ?_)
    · skip
      refine mi_iconst hx hb d_po_isWithin_14 ?_
      rw [← hQ]; exact mq_zret (z := 0) hx hb hr hlocks hK hlo hGO hG hw hS (Nat.zero_le _) (Nat.zero_le _) (Or.inl rfl) d_po_isWithin_15 ⟨congrArg iI (by split <;> omega), hF⟩
    · skip
      refine mi_iconst hx hb d_po_isWithin_10 ?_
      refine lv_goto (tgt := 15) hx hb d_po_isWithin_11 (by decide) ?_
      rw [← hQ]; exact mq_zret (z := 1) hx hb hr hlocks hK hlo hGO hG hw hS (Nat.zero_le _) (Nat.zero_le _) (Or.inr rfl) d_po_isWithin_15 ⟨congrArg iI (by split <;> omega), hF⟩
