/-! ArrayList: the first add, clear of an empty list -/
set_option maxHeartbeats 4000000 in
set_option maxRecDepth 100000 in
theorem c_al_grow2_first (l : Launch) (D : va_G) (X : ClassId × ClassId × ClassId × ClassId) (lo t0 : Nat) (f : hM) (a : Nat) (b : Nat → Option Nat) (v : Nat → Int) (h0 : f a = some (eO 7 (oF sh_al b v))) (hb1 : b 1 = some t0) : Met l y_al_grow_2 (Cond.code y_al_grow_2 b_al_grow_2 4 (some (FieldType.array (FieldType.object "java/lang/Object"))) :: TB) ({ frames := 1, cells := 1, slots := 10, locals := 20 } : Room) (va_Pc [.ref a, .int (iI (1))] (Bq D CL (TYS X) lo (Gv lo t0) f)) (va_Qq (fun r f1 => ∃ q, r = some q ∧ f q = none ∧ Fn [a] f f1 ∧ f1 a = some (eO 7 (oF sh_al (va_up b 1 (some q)) v)) ∧ f1 q = some (eA X.2.2.2 10 (fun _ => none))) (Bq D CL (TYS X) lo (Gv lo t0)) (fun q => lo ≤ q)) 1 10 (fun q => lo ≤ q) := by
  refine mt (by decide) (Nat.le_of_ble_eq_true rfl) ?_
  intro p e s m args below meth cd ls hx hb hr hml hown ht hlocks hnm hK hlo hG hw hS hl
  have hl : lv_has ls 4 [(0, .ref a), (1, .int (iI (1)))] := hl
  have hGO := Gv.ok lo t0
  have hNB := hG.1
  generalize hQ : MQ below _ args s _ _ _ = Q
  have hF : Fn [a] f f := Fn.rf
  refine lv_aload_n hx hb d_al_grow_2_0 rfl (lv_at hl 0 rfl) ?_
  refine mo_getr hx hb ht in_al hown hK hw h0 rfl 1 (by decide) rfl hb1 (ht _ t_46) (fun _ h => h) d_al_grow_2_1 ?_
  refine va_tlen (v := iI 0) hx hb hG.2.2.2.2.2.2 hS rfl d_al_grow_2_4 ?_
  refine lv_istore_n (lv' := [(2, .int (iI (0))), (0, .ref a), (1, .int (iI (1)))]) hx hb d_al_grow_2_5 rfl hl (by decide) rfl (fun ls hl => ?_)
  refine lv_iload_n hx hb d_al_grow_2_6 rfl (lv_at hl 0 rfl) ?_
  refine mi_if_gt (tgt := 20) hx hb d_al_grow_2_7 (by decide) (by decide) (fun c_7 => ?_) (fun c_7 => ?_)
  · exact absurd c_7 (by decide)
  · skip
    refine lv_aload_n hx hb d_al_grow_2_10 rfl (lv_at hl 1 rfl) ?_
    refine mo_getr hx hb ht in_al hown hK hw h0 rfl 1 (by decide) rfl hb1 (ht _ t_46) (fun _ h => h) d_al_grow_2_11 ?_
    refine va_gets hx hb hG.2.2.2.2.2.1 hS hown (ht _ t_44) (fun _ h => h) d_al_grow_2_14 ?_
    refine lv_acmp_eq (rx := some t0) (ry := some t0) (tgt := 45) hx hb d_al_grow_2_17 (by decide) (fun _ => ?_) (fun c9 => absurd rfl c9)
    refine lv_aload_n hx hb d_al_grow_2_45 rfl (lv_at hl 1 rfl) ?_
    refine mi_bipush hx hb d_al_grow_2_46 (by decide) ?_
    refine lv_iload_n hx hb d_al_grow_2_48 rfl (lv_at hl 2 rfl) ?_
    refine mi_mmax hx hb (hml.trans hl.1.symm) hown (ht _ t_414) (ht _ t_305) (ht _ t_16) (ht _ t_306) (Nat.le_of_ble_eq_true rfl) (Nat.le_of_ble_eq_true rfl) (Nat.le_of_ble_eq_true rfl) (Nat.le_of_ble_eq_true rfl) (by decide) (by decide) d_al_grow_2_49 ?_
    refine mo_newq hx hb hown (ht _ t_415) (hNB _ n_406) hK hw hS hlo 3 rfl (10) (by decide) (Nat.le_of_ble_eq_true rfl) (Nat.le_of_ble_eq_true rfl) (Nat.le_of_ble_eq_true rfl) d_al_grow_2_52 (fun q52 H f1 hq52 hf1 hw hS => ?_)
    have nq52 : q52 ≠ a := (ne_new h0 hq52).symm
    have h0 := eq_q hf1 h0 hq52
    have hn52 := eq_s hf1
    have ok_q52 := Fn.new hF hq52
    have hF := Fn.up hF hf1 ok_q52
    skip
    refine lv_dup_x1 hx hb d_al_grow_2_55 rfl rfl ?_
    refine mo_putr hx hb ht in_al ty_al tyok_al nm_al hown hK hw hS h0 rfl 1 (by decide) rfl (ht _ t_46) (fun _ h => h) rfl (tyok_al 1 (by decide)) rfl rfl d_al_grow_2_56 (fun H locs f2 hf2 hw hS => ?_)
    have h0 := eq_s hf2
    have hn52 := eq_n hf2 hn52 nq52
    have hF := Fn.up hF hf2 (aOK.of (by simp))
    rw [← hQ]; exact mq_aret (r := some q52) hx hb hr (Or.inr ⟨_, rfl⟩) hlocks hK hlo hGO hG hw hS (Nat.le_of_ble_eq_true rfl) (Nat.le_of_ble_eq_true rfl) d_al_grow_2_59 ⟨q52, rfl, hq52, hF, h0, hn52⟩
set_option maxHeartbeats 4000000 in
set_option maxRecDepth 100000 in
theorem c_al_grow_first (l : Launch) (D : va_G) (X : ClassId × ClassId × ClassId × ClassId) (lo t0 : Nat) (f : hM) (a : Nat) (b : Nat → Option Nat) (v : Nat → Int) (h0 : f a = some (eO 7 (oF sh_al b v))) (hb1 : b 1 = some t0) (hsz : v 2 = 0) : Met l y_al_grow (Cond.code y_al_grow b_al_grow 1 (some (FieldType.array (FieldType.object "java/lang/Object"))) :: TB) ({ frames := 2, cells := 1, slots := 10, locals := 43 } : Room) (va_Pc [.ref a] (Bq D CL (TYS X) lo (Gv lo t0) f)) (va_Qq (fun r f1 => ∃ q, r = some q ∧ f q = none ∧ Fn [a] f f1 ∧ f1 a = some (eO 7 (oF sh_al (va_up b 1 (some q)) v)) ∧ f1 q = some (eA X.2.2.2 10 (fun _ => none))) (Bq D CL (TYS X) lo (Gv lo t0)) (fun q => lo ≤ q)) 1 10 (fun q => lo ≤ q) := by
  refine mt (by decide) (Nat.le_of_ble_eq_true rfl) ?_
  intro p e s m args below meth cd ls hx hb hr hml hown ht hlocks hnm hK hlo hG hw hS hl
  have hl : lv_has ls 1 [(0, .ref a)] := hl
  have hGO := Gv.ok lo t0
  have hNB := hG.1
  generalize hQ : MQ below _ args s _ _ _ = Q
  have hF : Fn [a] f f := Fn.rf
  refine lv_aload_n hx hb d_al_grow_0 rfl (lv_at hl 0 rfl) ?_
  refine lv_aload_n hx hb d_al_grow_1 rfl (lv_at hl 0 rfl) ?_
  refine mo_geti hx hb ht in_al hown hK hw h0 rfl 2 (by decide) rfl (ht _ t_47) (fun _ h => h) d_al_grow_2 ?_
  refine mi_iconst hx hb d_al_grow_5 ?_
  refine mi_iadd hx hb d_al_grow_6 ?_
  rw [show (v 2) + (1) = 1 from (by rw [hsz]; rfl)]
  refine mq_callq (va_runV (As := [.int (iI (1))]) (rest := []) ⟨hx, hb, hml, hown, ht⟩ (c_al_grow2_first l D X lo t0 f a b v h0 hb1) (cwV 1 ht (good_V (fun _ h => h) t_374 t_371 t_373 s_3 t_4) rfl rfl rfl (by decide +kernel) ⟨Nat.le_of_ble_eq_true rfl, Nat.le_of_ble_eq_true rfl⟩) (mq_preV hK hlo hGO hG hw hS (hW.recv hK hw (ci := 7) rfl h0)) rfl rfl hl.1 rfl (lv_room (Nat.le_of_ble_eq_true rfl)) d_al_grow_7 ⟨Nat.le_of_ble_eq_true rfl, Nat.le_of_ble_eq_true rfl⟩) hS (fun r1 f1 H locs hp hw hS => ?_)
  obtain ⟨q1, rfl, hq1, hF1, h0, hn1⟩ := hp
  have hF := Fn.tr hF hF1 (fun q hq => aOK.of hq)
  rw [← hQ]; exact mq_aret (r := some q1) hx hb hr (Or.inr ⟨_, rfl⟩) hlocks hK hlo hGO hG hw hS (Nat.le_of_ble_eq_true rfl) (Nat.le_of_ble_eq_true rfl) d_al_grow_10 ⟨q1, rfl, hq1, hF, h0, hn1⟩
set_option maxHeartbeats 4000000 in
set_option maxRecDepth 100000 in
theorem c_al_add2_first (l : Launch) (D : va_G) (X : ClassId × ClassId × ClassId × ClassId) (lo t0 : Nat) (f : hM) (a : Nat) (b : Nat → Option Nat) (v : Nat → Int) (h0 : f a = some (eO 7 (oF sh_al b v))) (hb1 : b 1 = some t0) (hsz : v 2 = 0) (el ci : Nat) (vs : List Value) (hel : f el = some (eO ci vs)) (r9 : vw_C) (hr9 : CL[ci]? = some r9) (hca : Cond.castable r9.1 "java/lang/Object" ∈ NB) (hne : el ≠ a) : Met l y_al_add_2 (Cond.code y_al_add_2 b_al_add_2 4 (none) :: TB) ({ frames := 3, cells := 1, slots := 10, locals := 63 } : Room) (va_Pc [.ref a, .ref el, .ref t0, .int (iI (0))] (Bq D CL (TYS X) lo (Gv lo t0) f)) (va_Qv (fun f1 => ∃ q, f q = none ∧ Fn [a] f f1 ∧ f1 a = some (eO 7 (oF sh_al (va_up b 1 (some q)) (va_up v 2 ((0) + (1))))) ∧ f1 q = some (eA X.2.2.2 10 (va_up (fun _ => none) 0 (some el)))) (Bq D CL (TYS X) lo (Gv lo t0)) (fun q => lo ≤ q)) 1 10 (fun q => lo ≤ q) := by
  refine mt (by decide) (Nat.le_of_ble_eq_true rfl) ?_
  intro p e s m args below meth cd ls hx hb hr hml hown ht hlocks hnm hK hlo hG hw hS hl
  have hl : lv_has ls 4 [(0, .ref a), (1, .ref el), (2, .ref t0), (3, .int (iI (0)))] := hl
  have hGO := Gv.ok lo t0
  have hNB := hG.1
  generalize hQ : MQ below _ args s _ _ _ = Q
  have hF : Fn [a] f f := Fn.rf
  refine lv_iload_n hx hb d_al_add_2_0 rfl (lv_at hl 3 rfl) ?_
  refine lv_aload_n hx hb d_al_add_2_1 rfl (lv_at hl 2 rfl) ?_
  refine va_tlen (v := iI 0) hx hb hG.2.2.2.2.2.2 hS rfl d_al_add_2_2 ?_
  refine mi_icmp_ne (tgt := 11) hx hb d_al_add_2_3 (by decide) (by decide) (by decide) (fun c_3 => ?_) (fun c_3 => ?_)
  · exact absurd c_3 (by decide)
  · skip
    have h0old := h0
    refine lv_aload_n hx hb d_al_add_2_6 rfl (lv_at hl 0 rfl) ?_
    refine mq_callq (va_runV (As := []) (rest := []) ⟨hx, hb, hml, hown, ht⟩ (c_al_grow_first l D X lo t0 f a b v h0 hb1 hsz) (cwV 0 ht (good_V (fun _ h => h) t_370 t_367 t_369 s_2 t_4) rfl rfl rfl (by decide +kernel) ⟨Nat.le_of_ble_eq_true rfl, Nat.le_of_ble_eq_true rfl⟩) (mq_preV hK hlo hGO hG hw hS (hW.recv hK hw (ci := 7) rfl h0)) rfl rfl hl.1 rfl (lv_room (Nat.le_of_ble_eq_true rfl)) d_al_add_2_7 ⟨Nat.le_of_ble_eq_true rfl, Nat.le_of_ble_eq_true rfl⟩) hS (fun r1 f1 H locs hp hw hS => ?_)
    obtain ⟨q1, rfl, hq1, hF1, h0, hn1⟩ := hp
    have nqa : q1 ≠ a := fun z => by subst z; exact absurd hq1 (by rw [h0old]; simp)
    have nqe : q1 ≠ el := fun z => by subst z; exact absurd hq1 (by rw [hel]; simp)
    have hel := Fn.keep hF1 hel (by simpa using hne)
    have ok_q1 := Fn.new (S := [a]) hF hq1
    have hF := Fn.tr hF hF1 (fun q hq => aOK.of hq)
    refine lv_astore_n (lv' := [(2, .ref q1), (0, .ref a), (1, .ref el), (3, .int (iI (0)))]) hx hb d_al_add_2_10 rfl hl (by decide) rfl (fun ls hl => ?_)
    refine lv_aload_n hx hb d_al_add_2_11 rfl (lv_at hl 0 rfl) ?_
    refine lv_iload_n hx hb d_al_add_2_12 rfl (lv_at hl 3 rfl) ?_
    refine lv_aload_n hx hb d_al_add_2_13 rfl (lv_at hl 2 rfl) ?_
    refine mo_aastO hx hb hK hw hS 3 ci (hNB _ hca) hn1 rfl hel hr9 (0) rfl (by decide) (by decide) d_al_add_2_14 (fun H locs f2 hf2 hw hS => ?_)
    have h0 := eq_n hf2 h0 nqa.symm
    have hel := eq_n hf2 hel nqe.symm
    have hn1 := eq_s hf2
    have hF := Fn.up hF hf2 ok_q1
    refine lv_aload_n hx hb d_al_add_2_15 rfl (lv_at hl 1 rfl) ?_
    refine lv_iload_n hx hb d_al_add_2_16 rfl (lv_at hl 3 rfl) ?_
    refine mi_iconst hx hb d_al_add_2_17 ?_
    refine mi_iadd hx hb d_al_add_2_18 ?_
    refine mo_puti hx hb ht in_al ty_al tyok_al nm_al hown hK hw hS h0 rfl 2 (by decide) rfl (ht _ t_47) (fun _ h => h) rfl (tyok_al 2 (by decide)) rfl rfl d_al_add_2_19 (fun H locs f3 hf3 hw hS => ?_)
    have h0 := eq_s hf3
    have hel := eq_n hf3 hel hne
    have hn1 := eq_n hf3 hn1 nqa
    have hF := Fn.up hF hf3 (aOK.of (by simp))
    rw [← hQ]; exact mq_vret hx hb hr hlocks hK hlo hGO hG hw hS (Nat.le_of_ble_eq_true rfl) (Nat.le_of_ble_eq_true rfl) d_al_add_2_22 ⟨q1, hq1, hF, h0, hn1⟩
set_option maxHeartbeats 4000000 in
set_option maxRecDepth 100000 in
theorem c_al_add_first (l : Launch) (D : va_G) (X : ClassId × ClassId × ClassId × ClassId) (lo t0 : Nat) (f : hM) (a : Nat) (b : Nat → Option Nat) (v : Nat → Int) (h0 : f a = some (eO 7 (oF sh_al b v))) (hb1 : b 1 = some t0) (hsz : v 2 = 0) (el ci : Nat) (vs : List Value) (hel : f el = some (eO ci vs)) (r9 : vw_C) (hr9 : CL[ci]? = some r9) (hca : Cond.castable r9.1 "java/lang/Object" ∈ NB) (hne : el ≠ a) : Met l y_al_add (Cond.code y_al_add b_al_add 2 (some FieldType.boolean) :: TB) ({ frames := 4, cells := 1, slots := 10, locals := 90 } : Room) (va_Pc [.ref a, .ref el] (Bq D CL (TYS X) lo (Gv lo t0) f)) (va_Qi (fun r f1 => r = iI 1 ∧ ∃ q, f q = none ∧ Fn [a] f f1 ∧ f1 a = some (eO 7 (oF sh_al (va_up b 1 (some q)) (va_up (va_up v 0 (v 0 + 1)) 2 1))) ∧ f1 q = some (eA X.2.2.2 10 (va_up (fun _ => none) 0 (some el)))) (Bq D CL (TYS X) lo (Gv lo t0)) (fun q => lo ≤ q)) 1 10 (fun q => lo ≤ q) := by
  refine mt (by decide) (Nat.le_of_ble_eq_true rfl) ?_
  intro p e s m args below meth cd ls hx hb hr hml hown ht hlocks hnm hK hlo hG hw hS hl
  have hl : lv_has ls 2 [(0, .ref a), (1, .ref el)] := hl
  have hGO := Gv.ok lo t0
  have hNB := hG.1
  generalize hQ : MQ below _ args s _ _ _ = Q
  have hF : Fn [a] f f := Fn.rf
  refine lv_aload_n hx hb d_al_add_0 rfl (lv_at hl 0 rfl) ?_
  refine lv_dup hx hb d_al_add_1 rfl ?_
  refine mo_geti hx hb ht in_al hown hK hw h0 rfl 0 (by decide) rfl (ht _ t_49) (fun x9 h9 => u_same (ht _ t_50) x9 h9) d_al_add_2 ?_
  refine mi_iconst hx hb d_al_add_5 ?_
  refine mi_iadd hx hb d_al_add_6 ?_
  refine mo_puti hx hb ht in_al ty_al tyok_al nm_al hown hK hw hS h0 rfl 0 (by decide) rfl (ht _ t_49) (fun x9 h9 => u_same (ht _ t_50) x9 h9) rfl (tyok_al 0 (by decide)) rfl rfl d_al_add_7 (fun H locs f1 hf1 hw hS => ?_)
  have h0 := eq_s hf1
  have hel := eq_n hf1 hel hne
  have hF := Fn.up hF hf1 (aOK.of (by simp))
  refine lv_aload_n hx hb d_al_add_10 rfl (lv_at hl 0 rfl) ?_
  refine lv_aload_n hx hb d_al_add_11 rfl (lv_at hl 1 rfl) ?_
  refine lv_aload_n hx hb d_al_add_12 rfl (lv_at hl 0 rfl) ?_
  refine mo_getr hx hb ht in_al hown hK hw h0 rfl 1 (by decide) rfl hb1 (ht _ t_46) (fun _ h => h) d_al_add_13 ?_
  refine lv_aload_n hx hb d_al_add_16 rfl (lv_at hl 0 rfl) ?_
  refine mo_geti hx hb ht in_al hown hK hw h0 rfl 2 (by decide) rfl (ht _ t_47) (fun _ h => h) d_al_add_17 ?_
  rw [show (va_up v 0 ((v 0) + (1))) 2 = v 2 from rfl]
  rw [show v 2 = 0 from hsz]
  have h0old := h0
  refine mq_callv (va_runV (As := [.ref el, .ref t0, .int (iI (0))]) (rest := []) ⟨hx, hb, hml, hown, ht⟩ (c_al_add2_first l D X lo t0 f1 a b (va_up v 0 ((v 0) + (1))) h0 hb1 hsz el ci vs hel r9 hr9 hca hne) (cwV 3 ht (good_V (fun _ h => h) t_366 t_363 t_365 s_1 t_4) rfl rfl rfl (by decide +kernel) ⟨Nat.le_of_ble_eq_true rfl, Nat.le_of_ble_eq_true rfl⟩) (mq_preV hK hlo hGO hG hw hS (hW.recv hK hw (ci := 7) rfl h0)) rfl rfl hl.1 rfl (lv_room (Nat.le_of_ble_eq_true rfl)) d_al_add_20 ⟨Nat.le_of_ble_eq_true rfl, Nat.le_of_ble_eq_true rfl⟩) hS (fun f2 H locs hp hw hS => ?_)
  obtain ⟨q2, hq2, hF2, h0, hn2⟩ := hp
  have hq0 : f q2 = none := by
    cases h9 : f q2 with
    | none => rfl
    | some x =>
      exfalso
      by_cases z : q2 = a
      · subst z; rw [h0old] at hq2; cases hq2
      · have := hF q2 x (by simpa using z) h9; rw [hq2] at this; cases this
  have hF := Fn.tr hF hF2 (fun q hq => aOK.of hq)
  refine mi_iconst hx hb d_al_add_23 ?_
  rw [← hQ]; exact mq_zret (z := 1) hx hb hr hlocks hK hlo hGO hG hw hS (Nat.le_of_ble_eq_true rfl) (Nat.le_of_ble_eq_true rfl) (Or.inr rfl) d_al_add_24 ⟨rfl, q2, hq0, hF, h0, hn2⟩
set_option maxHeartbeats 4000000 in
set_option maxRecDepth 100000 in
theorem c_al_clear_empty (l : Launch) (D : va_G) (X : ClassId × ClassId × ClassId × ClassId) (lo t0 : Nat) (f : hM) (a : Nat) (b : Nat → Option Nat) (v : Nat → Int) (h0 : f a = some (eO 7 (oF sh_al b v))) (q1 : Nat) (hb1 : b 1 = some q1) (hsz : v 2 = 0) : Met l y_al_clear (Cond.code y_al_clear b_al_clear 4 (none) :: TB) ({ frames := 0, cells := 0, slots := 0, locals := 0 } : Room) (va_Pc [.ref a] (Bq D CL (TYS X) lo (Gv lo t0) f)) (va_Qv (fun f1 => Fr [a] f f1 ∧ f1 a = some (eO 7 (oF sh_al b (va_up (va_up v 0 (v 0 + 1)) 2 0)))) (Bq D CL (TYS X) lo (Gv lo t0)) (fun q => lo ≤ q)) 0 0 (fun q => lo ≤ q) := by
  refine mt (by decide) (Nat.le_of_ble_eq_true rfl) ?_
  intro p e s m args below meth cd ls hx hb hr hml hown ht hlocks hnm hK hlo hG hw hS hl
  have hl : lv_has ls 4 [(0, .ref a)] := hl
  have hGO := Gv.ok lo t0
  have hNB := hG.1
  generalize hQ : MQ below _ args s _ _ _ = Q
  have hF : Fr [a] f f := Fr.rf
  refine lv_aload_n hx hb d_al_clear_0 rfl (lv_at hl 0 rfl) ?_
  refine lv_dup hx hb d_al_clear_1 rfl ?_
  refine mo_geti hx hb ht in_al hown hK hw h0 rfl 0 (by decide) rfl (ht _ t_49) (fun x9 h9 => u_same (ht _ t_50) x9 h9) d_al_clear_2 ?_
  refine mi_iconst hx hb d_al_clear_5 ?_
  refine mi_iadd hx hb d_al_clear_6 ?_
  refine mo_puti hx hb ht in_al ty_al tyok_al nm_al hown hK hw hS h0 rfl 0 (by decide) rfl (ht _ t_49) (fun x9 h9 => u_same (ht _ t_50) x9 h9) rfl (tyok_al 0 (by decide)) rfl rfl d_al_clear_7 (fun H locs f1 hf1 hw hS => ?_)
  have h0 := eq_s hf1
  have hF := Fr.up hF hf1 (by simp)
  refine lv_aload_n hx hb d_al_clear_10 rfl (lv_at hl 0 rfl) ?_
  refine mo_getr hx hb ht in_al hown hK hw h0 rfl 1 (by decide) rfl hb1 (ht _ t_46) (fun _ h => h) d_al_clear_11 ?_
  refine lv_astore_n (lv' := [(1, .ref q1), (0, .ref a)]) hx hb d_al_clear_14 rfl hl (by decide) rfl (fun ls hl => ?_)
  refine lv_aload_n hx hb d_al_clear_15 rfl (lv_at hl 1 rfl) ?_
  refine mo_geti hx hb ht in_al hown hK hw h0 rfl 2 (by decide) rfl (ht _ t_47) (fun _ h => h) d_al_clear_16 ?_
  rw [show (va_up v 0 ((v 0) + (1))) 2 = v 2 from rfl]
  refine lv_istore_n (lv' := [(2, .int (iI (v 2))), (1, .ref q1), (0, .ref a)]) hx hb d_al_clear_19 rfl hl (by decide) rfl (fun ls hl => ?_)
  refine lv_aload_n hx hb d_al_clear_20 rfl (lv_at hl 2 rfl) ?_
  refine mi_iconst hx hb d_al_clear_21 ?_
  refine lv_dup_x1 hx hb d_al_clear_22 rfl rfl ?_
  refine mo_puti hx hb ht in_al ty_al tyok_al nm_al hown hK hw hS h0 rfl 2 (by decide) rfl (ht _ t_47) (fun _ h => h) rfl (tyok_al 2 (by decide)) rfl rfl d_al_clear_23 (fun H locs f2 hf2 hw hS => ?_)
  have h0 := eq_s hf2
  have hF := Fr.up hF hf2 (by simp)
  refine lv_istore_n (lv' := [(3, .int (iI (0))), (2, .int (iI (v 2))), (1, .ref q1), (0, .ref a)]) hx hb d_al_clear_26 rfl hl (by decide) rfl (fun ls hl => ?_)
  refine lv_iload_n hx hb d_al_clear_27 rfl (lv_at hl 0 rfl) ?_
  refine lv_iload_n hx hb d_al_clear_28 rfl (lv_at hl 1 rfl) ?_
  refine mi_icmp_ge (tgt := 42) hx hb d_al_clear_29 (by decide) (by decide) (by omega) (fun c_29 => ?_) (fun c_29 => ?_)
  · skip
    rw [← hQ]; exact mq_vret hx hb hr hlocks hK hlo hGO hG hw hS (Nat.le_of_ble_eq_true rfl) (Nat.le_of_ble_eq_true rfl) d_al_clear_42 ⟨hF, h0⟩
  · exact absurd c_29 (by omega)
