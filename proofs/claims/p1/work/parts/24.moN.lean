/-! the reference: its constructor -/
set_option maxHeartbeats 4000000 in
set_option maxRecDepth 100000 in
theorem c_mo_init (l : Launch) (D : va_G) (X : ClassId × ClassId × ClassId × ClassId) (lo : Nat) (G : State → Prop) (hGO : GOK lo G) (f : hM) (a : Nat) (h0 : f a = some (eO 6 (oF sh_mo (fun _ => (none : Option Nat)) (fun _ => (0 : Int))))) : Met l y_mo_init (Cond.code y_mo_init b_mo_init 1 (none) :: TB) ({ frames := 1, cells := 13, slots := 29968, locals := 12 } : Room) (va_Pc [.ref a] (Bq D CL (TYS X) lo G f)) (va_Qv (fun f1 => Fn [a] f f1 ∧ ∃ (b : Nat → Option Nat) (A : Nat → Nat), moR X f1 a b (va_up (fun _ => 0) 12 1) A (fun _ _ => 0)) (Bq D CL (TYS X) lo G) (fun q => lo ≤ q)) 13 29968 (fun q => lo ≤ q) := by
  refine mt (by decide) (Nat.le_of_ble_eq_true rfl) ?_
  intro p e s m args below meth cd ls hx hb hr hml hown ht hlocks hnm hK hlo hG hw hS hl
  have hl : lv_has ls 1 [(0, .ref a)] := hl
  generalize hQ : MQ below _ args s _ _ _ = Q
  have hF : Fn [a] f f := Fn.rf
  have hND : ([] : List Nat).Nodup := List.nodup_nil
  have hAL : ∀ x ∈ ([] : List Nat), f x ≠ none := fun x hx1 => absurd hx1 List.not_mem_nil
  refine lv_aload_n hx hb d_mo_init_0 rfl (lv_at hl 0 rfl) ?_
  refine W.objInit hx hb hown (ht _ t_665) (ht _ t_30) (ht _ t_31) rfl (by rw [hml]; exact hl.1) rfl d_mo_init_1 (Nat.le_of_ble_eq_true rfl) (Nat.le_of_ble_eq_true rfl) ?_
  refine W.eq (g2 := F0 m 4 ls []) rfl ?_
  refine lv_aload_n hx hb d_mo_init_4 rfl (lv_at hl 0 rfl) ?_
  refine mi_bipush hx hb d_mo_init_5 (by decide) ?_
  refine mo_newai hx hb (ht _ t_97) hK hw hS hlo 0 rfl (16) rfl (Nat.le_of_ble_eq_true rfl) (Nat.le_of_ble_eq_true rfl) (Nat.le_of_ble_eq_true rfl) d_mo_init_7 (fun q7 H f1 hq7 hf1 hw hS => ?_)
  have hND := nd_new hND hAL hq7
  have nq7 : q7 ≠ a := (ne_new h0 hq7).symm
  have h0 := eq_q hf1 h0 hq7
  have hn7 := eq_s hf1
  have ok_q7 := Fn.new hF hq7
  have hF := Fn.up hF hf1 ok_q7
  skip
  have hAL := al_new hAL hf1
  refine mo_putrF hx hb ht in_mo ty_mo tyok_mo nm_mo hown hK hw hS h0 rfl 7 (by decide) rfl (ht _ t_673) (fun _ h => h) rfl hnm rfl (tyok_mo 7 (by decide)) rfl rfl d_mo_init_9 (fun H locs f2 hf2 hw hS => ?_)
  have hn7 := eq_n hf2 hn7 nq7
  have h0 := eq_s hf2
  have hF := Fn.up hF hf2 (aOK.of (by simp))
  have hAL := al_up hAL hf2
  refine lv_aload_n hx hb d_mo_init_12 rfl (lv_at hl 0 rfl) ?_
  refine mi_bipush hx hb d_mo_init_13 (by decide) ?_
  refine mo_newai hx hb (ht _ t_97) hK hw hS hlo 0 rfl (16) rfl (Nat.le_of_ble_eq_true rfl) (Nat.le_of_ble_eq_true rfl) (Nat.le_of_ble_eq_true rfl) d_mo_init_15 (fun q15 H f3 hq15 hf3 hw hS => ?_)
  have hND := nd_new hND hAL hq15
  have nq15 : q15 ≠ a := (ne_new h0 hq15).symm
  have h0 := eq_q hf3 h0 hq15
  have hn7 := eq_q hf3 hn7 hq15
  have hn15 := eq_s hf3
  have ok_q15 := Fn.new hF hq15
  have hF := Fn.up hF hf3 ok_q15
  skip
  skip
  have hAL := al_new hAL hf3
  refine mo_putrF hx hb ht in_mo ty_mo tyok_mo nm_mo hown hK hw hS h0 rfl 8 (by decide) rfl (ht _ t_674) (fun _ h => h) rfl hnm rfl (tyok_mo 8 (by decide)) rfl rfl d_mo_init_17 (fun H locs f4 hf4 hw hS => ?_)
  have hn7 := eq_n hf4 hn7 nq7
  have hn15 := eq_n hf4 hn15 nq15
  have h0 := eq_s hf4
  have hF := Fn.up hF hf4 (aOK.of (by simp))
  have hAL := al_up hAL hf4
  refine lv_aload_n hx hb d_mo_init_20 rfl (lv_at hl 0 rfl) ?_
  refine mi_bipush hx hb d_mo_init_21 (by decide) ?_
  refine mo_newai hx hb (ht _ t_97) hK hw hS hlo 0 rfl (16) rfl (Nat.le_of_ble_eq_true rfl) (Nat.le_of_ble_eq_true rfl) (Nat.le_of_ble_eq_true rfl) d_mo_init_23 (fun q23 H f5 hq23 hf5 hw hS => ?_)
  have hND := nd_new hND hAL hq23
  have nq23 : q23 ≠ a := (ne_new h0 hq23).symm
  have h0 := eq_q hf5 h0 hq23
  have hn7 := eq_q hf5 hn7 hq23
  have hn15 := eq_q hf5 hn15 hq23
  have hn23 := eq_s hf5
  have ok_q23 := Fn.new hF hq23
  have hF := Fn.up hF hf5 ok_q23
  skip
  skip
  skip
  have hAL := al_new hAL hf5
  refine mo_putrF hx hb ht in_mo ty_mo tyok_mo nm_mo hown hK hw hS h0 rfl 9 (by decide) rfl (ht _ t_675) (fun _ h => h) rfl hnm rfl (tyok_mo 9 (by decide)) rfl rfl d_mo_init_25 (fun H locs f6 hf6 hw hS => ?_)
  have hn7 := eq_n hf6 hn7 nq7
  have hn15 := eq_n hf6 hn15 nq15
  have hn23 := eq_n hf6 hn23 nq23
  have h0 := eq_s hf6
  have hF := Fn.up hF hf6 (aOK.of (by simp))
  have hAL := al_up hAL hf6
  refine lv_aload_n hx hb d_mo_init_28 rfl (lv_at hl 0 rfl) ?_
  refine mi_sipush hx hb d_mo_init_29 (by decide) ?_
  refine mo_newai hx hb (ht _ t_97) hK hw hS hlo 0 rfl (528) rfl (Nat.le_of_ble_eq_true rfl) (Nat.le_of_ble_eq_true rfl) (Nat.le_of_ble_eq_true rfl) d_mo_init_32 (fun q32 H f7 hq32 hf7 hw hS => ?_)
  have hND := nd_new hND hAL hq32
  have nq32 : q32 ≠ a := (ne_new h0 hq32).symm
  have h0 := eq_q hf7 h0 hq32
  have hn7 := eq_q hf7 hn7 hq32
  have hn15 := eq_q hf7 hn15 hq32
  have hn23 := eq_q hf7 hn23 hq32
  have hn32 := eq_s hf7
  have ok_q32 := Fn.new hF hq32
  have hF := Fn.up hF hf7 ok_q32
  skip
  skip
  skip
  skip
  have hAL := al_new hAL hf7
  refine mo_putrF hx hb ht in_mo ty_mo tyok_mo nm_mo hown hK hw hS h0 rfl 10 (by decide) rfl (ht _ t_676) (fun _ h => h) rfl hnm rfl (tyok_mo 10 (by decide)) rfl rfl d_mo_init_34 (fun H locs f8 hf8 hw hS => ?_)
  have hn7 := eq_n hf8 hn7 nq7
  have hn15 := eq_n hf8 hn15 nq15
  have hn23 := eq_n hf8 hn23 nq23
  have hn32 := eq_n hf8 hn32 nq32
  have h0 := eq_s hf8
  have hF := Fn.up hF hf8 (aOK.of (by simp))
  have hAL := al_up hAL hf8
  refine lv_aload_n hx hb d_mo_init_37 rfl (lv_at hl 0 rfl) ?_
  refine mi_sipush hx hb d_mo_init_38 (by decide) ?_
  refine mo_newai hx hb (ht _ t_97) hK hw hS hlo 0 rfl (528) rfl (Nat.le_of_ble_eq_true rfl) (Nat.le_of_ble_eq_true rfl) (Nat.le_of_ble_eq_true rfl) d_mo_init_41 (fun q41 H f9 hq41 hf9 hw hS => ?_)
  have hND := nd_new hND hAL hq41
  have nq41 : q41 ≠ a := (ne_new h0 hq41).symm
  have h0 := eq_q hf9 h0 hq41
  have hn7 := eq_q hf9 hn7 hq41
  have hn15 := eq_q hf9 hn15 hq41
  have hn23 := eq_q hf9 hn23 hq41
  have hn32 := eq_q hf9 hn32 hq41
  have hn41 := eq_s hf9
  have ok_q41 := Fn.new hF hq41
  have hF := Fn.up hF hf9 ok_q41
  skip
  skip
  skip
  skip
  skip
  have hAL := al_new hAL hf9
  refine mo_putrF hx hb ht in_mo ty_mo tyok_mo nm_mo hown hK hw hS h0 rfl 11 (by decide) rfl (ht _ t_677) (fun _ h => h) rfl hnm rfl (tyok_mo 11 (by decide)) rfl rfl d_mo_init_43 (fun H locs f10 hf10 hw hS => ?_)
  have hn7 := eq_n hf10 hn7 nq7
  have hn15 := eq_n hf10 hn15 nq15
  have hn23 := eq_n hf10 hn23 nq23
  have hn32 := eq_n hf10 hn32 nq32
  have hn41 := eq_n hf10 hn41 nq41
  have h0 := eq_s hf10
  have hF := Fn.up hF hf10 (aOK.of (by simp))
  have hAL := al_up hAL hf10
  refine lv_aload_n hx hb d_mo_init_46 rfl (lv_at hl 0 rfl) ?_
  refine mi_iconst hx hb d_mo_init_47 ?_
  refine mo_puti hx hb ht in_mo ty_mo tyok_mo nm_mo hown hK hw hS h0 rfl 12 (by decide) rfl (ht _ t_678) (fun _ h => h) rfl (tyok_mo 12 (by decide)) rfl rfl d_mo_init_48 (fun H locs f11 hf11 hw hS => ?_)
  have hn7 := eq_n hf11 hn7 nq7
  have hn15 := eq_n hf11 hn15 nq15
  have hn23 := eq_n hf11 hn23 nq23
  have hn32 := eq_n hf11 hn32 nq32
  have hn41 := eq_n hf11 hn41 nq41
  have h0 := eq_s hf11
  have hF := Fn.up hF hf11 (aOK.of (by simp))
  have hAL := al_up hAL hf11
  refine lv_aload_n hx hb d_mo_init_51 rfl (lv_at hl 0 rfl) ?_
  refine mi_sipush hx hb d_mo_init_52 (by decide) ?_
  refine mo_newai hx hb (ht _ t_97) hK hw hS hlo 0 rfl (192) rfl (Nat.le_of_ble_eq_true rfl) (Nat.le_of_ble_eq_true rfl) (Nat.le_of_ble_eq_true rfl) d_mo_init_55 (fun q55 H f12 hq55 hf12 hw hS => ?_)
  have hND := nd_new hND hAL hq55
  have nq55 : q55 ≠ a := (ne_new h0 hq55).symm
  have h0 := eq_q hf12 h0 hq55
  have hn7 := eq_q hf12 hn7 hq55
  have hn15 := eq_q hf12 hn15 hq55
  have hn23 := eq_q hf12 hn23 hq55
  have hn32 := eq_q hf12 hn32 hq55
  have hn41 := eq_q hf12 hn41 hq55
  have hn55 := eq_s hf12
  have ok_q55 := Fn.new hF hq55
  have hF := Fn.up hF hf12 ok_q55
  skip
  skip
  skip
  skip
  skip
  skip
  have hAL := al_new hAL hf12
  refine mo_putrF hx hb ht in_mo ty_mo tyok_mo nm_mo hown hK hw hS h0 rfl 15 (by decide) rfl (ht _ t_681) (fun _ h => h) rfl hnm rfl (tyok_mo 15 (by decide)) rfl rfl d_mo_init_57 (fun H locs f13 hf13 hw hS => ?_)
  have hn7 := eq_n hf13 hn7 nq7
  have hn15 := eq_n hf13 hn15 nq15
  have hn23 := eq_n hf13 hn23 nq23
  have hn32 := eq_n hf13 hn32 nq32
  have hn41 := eq_n hf13 hn41 nq41
  have hn55 := eq_n hf13 hn55 nq55
  have h0 := eq_s hf13
  have hF := Fn.up hF hf13 (aOK.of (by simp))
  have hAL := al_up hAL hf13
  refine lv_aload_n hx hb d_mo_init_60 rfl (lv_at hl 0 rfl) ?_
  refine mi_sipush hx hb d_mo_init_61 (by decide) ?_
  refine mo_newai hx hb (ht _ t_97) hK hw hS hlo 0 rfl (4096) rfl (Nat.le_of_ble_eq_true rfl) (Nat.le_of_ble_eq_true rfl) (Nat.le_of_ble_eq_true rfl) d_mo_init_64 (fun q64 H f14 hq64 hf14 hw hS => ?_)
  have hND := nd_new hND hAL hq64
  have nq64 : q64 ≠ a := (ne_new h0 hq64).symm
  have h0 := eq_q hf14 h0 hq64
  have hn7 := eq_q hf14 hn7 hq64
  have hn15 := eq_q hf14 hn15 hq64
  have hn23 := eq_q hf14 hn23 hq64
  have hn32 := eq_q hf14 hn32 hq64
  have hn41 := eq_q hf14 hn41 hq64
  have hn55 := eq_q hf14 hn55 hq64
  have hn64 := eq_s hf14
  have ok_q64 := Fn.new hF hq64
  have hF := Fn.up hF hf14 ok_q64
  skip
  skip
  skip
  skip
  skip
  skip
  skip
  have hAL := al_new hAL hf14
  refine mo_putrF hx hb ht in_mo ty_mo tyok_mo nm_mo hown hK hw hS h0 rfl 18 (by decide) rfl (ht _ t_684) (fun _ h => h) rfl hnm rfl (tyok_mo 18 (by decide)) rfl rfl d_mo_init_66 (fun H locs f15 hf15 hw hS => ?_)
  have hn7 := eq_n hf15 hn7 nq7
  have hn15 := eq_n hf15 hn15 nq15
  have hn23 := eq_n hf15 hn23 nq23
  have hn32 := eq_n hf15 hn32 nq32
  have hn41 := eq_n hf15 hn41 nq41
  have hn55 := eq_n hf15 hn55 nq55
  have hn64 := eq_n hf15 hn64 nq64
  have h0 := eq_s hf15
  have hF := Fn.up hF hf15 (aOK.of (by simp))
  have hAL := al_up hAL hf15
  refine lv_aload_n hx hb d_mo_init_69 rfl (lv_at hl 0 rfl) ?_
  refine mi_sipush hx hb d_mo_init_70 (by decide) ?_
  refine mo_newai hx hb (ht _ t_97) hK hw hS hlo 0 rfl (4096) rfl (Nat.le_of_ble_eq_true rfl) (Nat.le_of_ble_eq_true rfl) (Nat.le_of_ble_eq_true rfl) d_mo_init_73 (fun q73 H f16 hq73 hf16 hw hS => ?_)
  have hND := nd_new hND hAL hq73
  have nq73 : q73 ≠ a := (ne_new h0 hq73).symm
  have h0 := eq_q hf16 h0 hq73
  have hn7 := eq_q hf16 hn7 hq73
  have hn15 := eq_q hf16 hn15 hq73
  have hn23 := eq_q hf16 hn23 hq73
  have hn32 := eq_q hf16 hn32 hq73
  have hn41 := eq_q hf16 hn41 hq73
  have hn55 := eq_q hf16 hn55 hq73
  have hn64 := eq_q hf16 hn64 hq73
  have hn73 := eq_s hf16
  have ok_q73 := Fn.new hF hq73
  have hF := Fn.up hF hf16 ok_q73
  skip
  skip
  skip
  skip
  skip
  skip
  skip
  skip
  have hAL := al_new hAL hf16
  refine mo_putrF hx hb ht in_mo ty_mo tyok_mo nm_mo hown hK hw hS h0 rfl 19 (by decide) rfl (ht _ t_685) (fun _ h => h) rfl hnm rfl (tyok_mo 19 (by decide)) rfl rfl d_mo_init_75 (fun H locs f17 hf17 hw hS => ?_)
  have hn7 := eq_n hf17 hn7 nq7
  have hn15 := eq_n hf17 hn15 nq15
  have hn23 := eq_n hf17 hn23 nq23
  have hn32 := eq_n hf17 hn32 nq32
  have hn41 := eq_n hf17 hn41 nq41
  have hn55 := eq_n hf17 hn55 nq55
  have hn64 := eq_n hf17 hn64 nq64
  have hn73 := eq_n hf17 hn73 nq73
  have h0 := eq_s hf17
  have hF := Fn.up hF hf17 (aOK.of (by simp))
  have hAL := al_up hAL hf17
  refine lv_aload_n hx hb d_mo_init_78 rfl (lv_at hl 0 rfl) ?_
  refine mi_sipush hx hb d_mo_init_79 (by decide) ?_
  refine mo_newai hx hb (ht _ t_97) hK hw hS hlo 0 rfl (4096) rfl (Nat.le_of_ble_eq_true rfl) (Nat.le_of_ble_eq_true rfl) (Nat.le_of_ble_eq_true rfl) d_mo_init_82 (fun q82 H f18 hq82 hf18 hw hS => ?_)
  have hND := nd_new hND hAL hq82
  have nq82 : q82 ≠ a := (ne_new h0 hq82).symm
  have h0 := eq_q hf18 h0 hq82
  have hn7 := eq_q hf18 hn7 hq82
  have hn15 := eq_q hf18 hn15 hq82
  have hn23 := eq_q hf18 hn23 hq82
  have hn32 := eq_q hf18 hn32 hq82
  have hn41 := eq_q hf18 hn41 hq82
  have hn55 := eq_q hf18 hn55 hq82
  have hn64 := eq_q hf18 hn64 hq82
  have hn73 := eq_q hf18 hn73 hq82
  have hn82 := eq_s hf18
  have ok_q82 := Fn.new hF hq82
  have hF := Fn.up hF hf18 ok_q82
  skip
  skip
  skip
  skip
  skip
  skip
  skip
  skip
  skip
  have hAL := al_new hAL hf18
  refine mo_putrF hx hb ht in_mo ty_mo tyok_mo nm_mo hown hK hw hS h0 rfl 20 (by decide) rfl (ht _ t_686) (fun _ h => h) rfl hnm rfl (tyok_mo 20 (by decide)) rfl rfl d_mo_init_84 (fun H locs f19 hf19 hw hS => ?_)
  have hn7 := eq_n hf19 hn7 nq7
  have hn15 := eq_n hf19 hn15 nq15
  have hn23 := eq_n hf19 hn23 nq23
  have hn32 := eq_n hf19 hn32 nq32
  have hn41 := eq_n hf19 hn41 nq41
  have hn55 := eq_n hf19 hn55 nq55
  have hn64 := eq_n hf19 hn64 nq64
  have hn73 := eq_n hf19 hn73 nq73
  have hn82 := eq_n hf19 hn82 nq82
  have h0 := eq_s hf19
  have hF := Fn.up hF hf19 (aOK.of (by simp))
  have hAL := al_up hAL hf19
  refine lv_aload_n hx hb d_mo_init_87 rfl (lv_at hl 0 rfl) ?_
  refine mi_sipush hx hb d_mo_init_88 (by decide) ?_
  refine mo_newal hx hb (ht _ t_98) hK hw hS hlo 1 rfl (4096) rfl (Nat.le_of_ble_eq_true rfl) (Nat.le_of_ble_eq_true rfl) (Nat.le_of_ble_eq_true rfl) d_mo_init_91 (fun q91 H f20 hq91 hf20 hw hS => ?_)
  have hND := nd_new hND hAL hq91
  have nq91 : q91 ≠ a := (ne_new h0 hq91).symm
  have h0 := eq_q hf20 h0 hq91
  have hn7 := eq_q hf20 hn7 hq91
  have hn15 := eq_q hf20 hn15 hq91
  have hn23 := eq_q hf20 hn23 hq91
  have hn32 := eq_q hf20 hn32 hq91
  have hn41 := eq_q hf20 hn41 hq91
  have hn55 := eq_q hf20 hn55 hq91
  have hn64 := eq_q hf20 hn64 hq91
  have hn73 := eq_q hf20 hn73 hq91
  have hn82 := eq_q hf20 hn82 hq91
  have hn91 := eq_s hf20
  have ok_q91 := Fn.new hF hq91
  have hF := Fn.up hF hf20 ok_q91
  skip
  skip
  skip
  skip
  skip
  skip
  skip
  skip
  skip
  skip
  have hAL := al_new hAL hf20
  refine mo_putrF hx hb ht in_mo ty_mo tyok_mo nm_mo hown hK hw hS h0 rfl 21 (by decide) rfl (ht _ t_687) (fun _ h => h) rfl hnm rfl (tyok_mo 21 (by decide)) rfl rfl d_mo_init_93 (fun H locs f21 hf21 hw hS => ?_)
  have hn7 := eq_n hf21 hn7 nq7
  have hn15 := eq_n hf21 hn15 nq15
  have hn23 := eq_n hf21 hn23 nq23
  have hn32 := eq_n hf21 hn32 nq32
  have hn41 := eq_n hf21 hn41 nq41
  have hn55 := eq_n hf21 hn55 nq55
  have hn64 := eq_n hf21 hn64 nq64
  have hn73 := eq_n hf21 hn73 nq73
  have hn82 := eq_n hf21 hn82 nq82
  have hn91 := eq_n hf21 hn91 nq91
  have h0 := eq_s hf21
  have hF := Fn.up hF hf21 (aOK.of (by simp))
  have hAL := al_up hAL hf21
  refine lv_aload_n hx hb d_mo_init_96 rfl (lv_at hl 0 rfl) ?_
  refine mi_sipush hx hb d_mo_init_97 (by decide) ?_
  refine mo_newal hx hb (ht _ t_98) hK hw hS hlo 1 rfl (4096) rfl (Nat.le_of_ble_eq_true rfl) (Nat.le_of_ble_eq_true rfl) (Nat.le_of_ble_eq_true rfl) d_mo_init_100 (fun q100 H f22 hq100 hf22 hw hS => ?_)
  have hND := nd_new hND hAL hq100
  have nq100 : q100 ≠ a := (ne_new h0 hq100).symm
  have h0 := eq_q hf22 h0 hq100
  have hn7 := eq_q hf22 hn7 hq100
  have hn15 := eq_q hf22 hn15 hq100
  have hn23 := eq_q hf22 hn23 hq100
  have hn32 := eq_q hf22 hn32 hq100
  have hn41 := eq_q hf22 hn41 hq100
  have hn55 := eq_q hf22 hn55 hq100
  have hn64 := eq_q hf22 hn64 hq100
  have hn73 := eq_q hf22 hn73 hq100
  have hn82 := eq_q hf22 hn82 hq100
  have hn91 := eq_q hf22 hn91 hq100
  have hn100 := eq_s hf22
  have ok_q100 := Fn.new hF hq100
  have hF := Fn.up hF hf22 ok_q100
  skip
  skip
  skip
  skip
  skip
  skip
  skip
  skip
  skip
  skip
  skip
  have hAL := al_new hAL hf22
  refine mo_putrF hx hb ht in_mo ty_mo tyok_mo nm_mo hown hK hw hS h0 rfl 22 (by decide) rfl (ht _ t_688) (fun _ h => h) rfl hnm rfl (tyok_mo 22 (by decide)) rfl rfl d_mo_init_102 (fun H locs f23 hf23 hw hS => ?_)
  have hn7 := eq_n hf23 hn7 nq7
  have hn15 := eq_n hf23 hn15 nq15
  have hn23 := eq_n hf23 hn23 nq23
  have hn32 := eq_n hf23 hn32 nq32
  have hn41 := eq_n hf23 hn41 nq41
  have hn55 := eq_n hf23 hn55 nq55
  have hn64 := eq_n hf23 hn64 nq64
  have hn73 := eq_n hf23 hn73 nq73
  have hn82 := eq_n hf23 hn82 nq82
  have hn91 := eq_n hf23 hn91 nq91
  have hn100 := eq_n hf23 hn100 nq100
  have h0 := eq_s hf23
  have hF := Fn.up hF hf23 (aOK.of (by simp))
  have hAL := al_up hAL hf23
  refine lv_aload_n hx hb d_mo_init_105 rfl (lv_at hl 0 rfl) ?_
  refine mi_sipush hx hb d_mo_init_106 (by decide) ?_
  refine mo_newai hx hb (ht _ t_97) hK hw hS hlo 0 rfl (4096) rfl (Nat.le_of_ble_eq_true rfl) (Nat.le_of_ble_eq_true rfl) (Nat.le_of_ble_eq_true rfl) d_mo_init_109 (fun q109 H f24 hq109 hf24 hw hS => ?_)
  have hND := nd_new hND hAL hq109
  have nq109 : q109 ≠ a := (ne_new h0 hq109).symm
  have h0 := eq_q hf24 h0 hq109
  have hn7 := eq_q hf24 hn7 hq109
  have hn15 := eq_q hf24 hn15 hq109
  have hn23 := eq_q hf24 hn23 hq109
  have hn32 := eq_q hf24 hn32 hq109
  have hn41 := eq_q hf24 hn41 hq109
  have hn55 := eq_q hf24 hn55 hq109
  have hn64 := eq_q hf24 hn64 hq109
  have hn73 := eq_q hf24 hn73 hq109
  have hn82 := eq_q hf24 hn82 hq109
  have hn91 := eq_q hf24 hn91 hq109
  have hn100 := eq_q hf24 hn100 hq109
  have hn109 := eq_s hf24
  have ok_q109 := Fn.new hF hq109
  have hF := Fn.up hF hf24 ok_q109
  skip
  skip
  skip
  skip
  skip
  skip
  skip
  skip
  skip
  skip
  skip
  skip
  have hAL := al_new hAL hf24
  refine mo_putrF hx hb ht in_mo ty_mo tyok_mo nm_mo hown hK hw hS h0 rfl 23 (by decide) rfl (ht _ t_689) (fun _ h => h) rfl hnm rfl (tyok_mo 23 (by decide)) rfl rfl d_mo_init_111 (fun H locs f25 hf25 hw hS => ?_)
  have hn7 := eq_n hf25 hn7 nq7
  have hn15 := eq_n hf25 hn15 nq15
  have hn23 := eq_n hf25 hn23 nq23
  have hn32 := eq_n hf25 hn32 nq32
  have hn41 := eq_n hf25 hn41 nq41
  have hn55 := eq_n hf25 hn55 nq55
  have hn64 := eq_n hf25 hn64 nq64
  have hn73 := eq_n hf25 hn73 nq73
  have hn82 := eq_n hf25 hn82 nq82
  have hn91 := eq_n hf25 hn91 nq91
  have hn100 := eq_n hf25 hn100 nq100
  have hn109 := eq_n hf25 hn109 nq109
  have h0 := eq_s hf25
  have hF := Fn.up hF hf25 (aOK.of (by simp))
  have hAL := al_up hAL hf25
  refine lv_aload_n hx hb d_mo_init_114 rfl (lv_at hl 0 rfl) ?_
  refine mi_sipush hx hb d_mo_init_115 (by decide) ?_
  refine mo_newai hx hb (ht _ t_97) hK hw hS hlo 0 rfl (4096) rfl (Nat.le_of_ble_eq_true rfl) (Nat.le_of_ble_eq_true rfl) (Nat.le_of_ble_eq_true rfl) d_mo_init_118 (fun q118 H f26 hq118 hf26 hw hS => ?_)
  have hND := nd_new hND hAL hq118
  have nq118 : q118 ≠ a := (ne_new h0 hq118).symm
  have h0 := eq_q hf26 h0 hq118
  have hn7 := eq_q hf26 hn7 hq118
  have hn15 := eq_q hf26 hn15 hq118
  have hn23 := eq_q hf26 hn23 hq118
  have hn32 := eq_q hf26 hn32 hq118
  have hn41 := eq_q hf26 hn41 hq118
  have hn55 := eq_q hf26 hn55 hq118
  have hn64 := eq_q hf26 hn64 hq118
  have hn73 := eq_q hf26 hn73 hq118
  have hn82 := eq_q hf26 hn82 hq118
  have hn91 := eq_q hf26 hn91 hq118
  have hn100 := eq_q hf26 hn100 hq118
  have hn109 := eq_q hf26 hn109 hq118
  have hn118 := eq_s hf26
  have ok_q118 := Fn.new hF hq118
  have hF := Fn.up hF hf26 ok_q118
  skip
  skip
  skip
  skip
  skip
  skip
  skip
  skip
  skip
  skip
  skip
  skip
  skip
  have hAL := al_new hAL hf26
  refine mo_putrF hx hb ht in_mo ty_mo tyok_mo nm_mo hown hK hw hS h0 rfl 24 (by decide) rfl (ht _ t_690) (fun _ h => h) rfl hnm rfl (tyok_mo 24 (by decide)) rfl rfl d_mo_init_120 (fun H locs f27 hf27 hw hS => ?_)
  have hn7 := eq_n hf27 hn7 nq7
  have hn15 := eq_n hf27 hn15 nq15
  have hn23 := eq_n hf27 hn23 nq23
  have hn32 := eq_n hf27 hn32 nq32
  have hn41 := eq_n hf27 hn41 nq41
  have hn55 := eq_n hf27 hn55 nq55
  have hn64 := eq_n hf27 hn64 nq64
  have hn73 := eq_n hf27 hn73 nq73
  have hn82 := eq_n hf27 hn82 nq82
  have hn91 := eq_n hf27 hn91 nq91
  have hn100 := eq_n hf27 hn100 nq100
  have hn109 := eq_n hf27 hn109 nq109
  have hn118 := eq_n hf27 hn118 nq118
  have h0 := eq_s hf27
  have hF := Fn.up hF hf27 (aOK.of (by simp))
  have hAL := al_up hAL hf27
  have hL9 : ([q7, q15, q23, q32, q41, q55, q64, q73, q82, q91, q100, q109, q118] : List Nat).Nodup := by
    have h9 := hND.perm (List.reverse_perm _).symm
    exact h9
  rw [← hQ]; exact mq_vret hx hb hr hlocks hK hlo hGO hG hw hS (Nat.le_of_ble_eq_true rfl) (Nat.le_of_ble_eq_true rfl) d_mo_init_123 ⟨hF, _, moA [q7, q15, q23, q32, q41, q55, q64, q73, q82, q91, q100, q109, q118], h0, fun q hq => by
    have e9 : q = (7, 16, false) ∨ q = (8, 16, false) ∨ q = (9, 16, false) ∨ q = (10, 528, false) ∨ q = (11, 528, false) ∨ q = (15, 192, false) ∨ q = (18, 4096, false) ∨ q = (19, 4096, false) ∨ q = (20, 4096, false) ∨ q = (21, 4096, true) ∨ q = (22, 4096, true) ∨ q = (23, 4096, false) ∨ q = (24, 4096, false) := (by revert q; decide)
    rcases e9 with rfl | rfl | rfl | rfl | rfl | rfl | rfl | rfl | rfl | rfl | rfl | rfl | rfl
    · exact ⟨rfl, hn7⟩
    · exact ⟨rfl, hn15⟩
    · exact ⟨rfl, hn23⟩
    · exact ⟨rfl, hn32⟩
    · exact ⟨rfl, hn41⟩
    · exact ⟨rfl, hn55⟩
    · exact ⟨rfl, hn64⟩
    · exact ⟨rfl, hn73⟩
    · exact ⟨rfl, hn82⟩
    · exact ⟨rfl, hn91⟩
    · exact ⟨rfl, hn100⟩
    · exact ⟨rfl, hn109⟩
    · exact ⟨rfl, hn118⟩
    , moA_inj hL9 rfl⟩
