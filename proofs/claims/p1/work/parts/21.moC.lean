/-! the reference: small methods -/
abbrev sh_mo : List Bool := [false, false, false, false, false, false, false, true, true, true, true, true, false, false, false, true, false, false, true, true, true, true, true, true, true, false, false, false, false, false, false, false, false, false, false, false, false, false]
set_option maxHeartbeats 4000000 in
set_option maxRecDepth 100000 in
theorem c_mo_thrown (l : Launch) (D : va_G) (tys : List (ClassId × FieldType)) (lo : Nat) (G : State → Prop) (hGO : GOK lo G) (f : hM) (a : Nat) (b : Nat → Option Nat) (v : Nat → Int) (h0 : f a = some (eO 6 (oF sh_mo b v))) : Met l y_mo_thrown (Cond.code y_mo_thrown b_mo_thrown 1 (some FieldType.int) :: TB) ({ frames := 0, cells := 0, slots := 0, locals := 0 } : Room) (va_Pc [.ref a] (Bq D CL tys lo G f)) (va_Qi (fun r f1 => r = iI (v 0) ∧ Fr [] f f1 ∧ f1 a = some (eO 6 (oF sh_mo b v))) (Bq D CL tys lo G) (fun q => lo ≤ q)) 0 0 (fun q => lo ≤ q) := by
  refine mt (by decide) (Nat.le_of_ble_eq_true rfl) ?_
  intro p e s m args below meth c ls hx hb hr hml hown ht hlocks hnm hK hlo hG hw hS hl
  have hl : lv_has ls 1 [(0, .ref a)] := hl
  generalize hQ : MQ below _ args s _ _ _ = Q
  have hF : Fr [] f f := Fr.rf
  refine lv_aload_n hx hb d_mo_thrown_0 rfl (lv_at hl 0 rfl) ?_
  refine mo_geti hx hb ht in_mo hown hK hw h0 rfl 0 (by decide) rfl (ht _ t_666) (fun _ h => h) d_mo_thrown_1 ?_
  rw [← hQ]; exact mq_iret hx hb hr hlocks hK hlo hGO hG hw hS (Nat.zero_le _) (Nat.zero_le _) d_mo_thrown_4 ⟨rfl, hF, h0⟩
set_option maxHeartbeats 4000000 in
set_option maxRecDepth 100000 in
/-- refuse: which of two refusals, the first one first -/
theorem c_mo_refuse (l : Launch) (D : va_G) (tys : List (ClassId × FieldType)) (lo : Nat) (G : State → Prop) (hGO : GOK lo G) (f : hM) (a : Nat) (b : Nat → Option Nat) (v : Nat → Int) (h0 : f a = some (eO 6 (oF sh_mo b v))) (x y : Int) (hx1 : x = 0 ∨ x = 1) (hy1 : y = 0 ∨ y = 1) : Met l y_mo_refuse (Cond.code y_mo_refuse b_mo_refuse 3 (some FieldType.boolean) :: TB) ({ frames := 0, cells := 0, slots := 0, locals := 0 } : Room) (va_Pc [.ref a, .int (iI (x)), .int (iI (y))] (Bq D CL tys lo G f)) (va_Qi (fun r f1 => r = iI (if x = 1 ∨ y = 1 then 1 else 0) ∧ Fr [a] f f1 ∧ f1 a = some (eO 6 (oF sh_mo b (va_up v 0 (if x = 1 then 1 else if y = 1 then 2 else 0))))) (Bq D CL tys lo G) (fun q => lo ≤ q)) 0 0 (fun q => lo ≤ q) := by
  refine mt (by decide) (Nat.le_of_ble_eq_true rfl) ?_
  intro p e s m args below meth c ls hx hb hr hml hown ht hlocks hnm hK hlo hG hw hS hl
  have hl : lv_has ls 3 [(0, .ref a), (1, .int (iI (x))), (2, .int (iI (y)))] := hl
  generalize hQ : MQ below _ args s _ _ _ = Q
  have hF : Fr [a] f f := Fr.rf
  refine lv_aload_n hx hb d_mo_refuse_0 rfl (lv_at hl 0 rfl) ?_
  have J18 : ∀ z : Int, z = (if x = 1 then 1 else if y = 1 then 2 else 0) → W p l e ({ frames := 0, cells := 0, slots := 0, locals := 0 } : Room) s m args below meth c s.heap [] 0 0 Q (F0 m 18 ls [.int (iI (z)), .ref a]) := by
    intro z h_z
    refine mo_puti hx hb ht in_mo ty_mo tyok_mo nm_mo hown hK hw hS h0 rfl 0 (by decide) rfl (ht _ t_666) (fun _ h => h) rfl (tyok_mo 0 (by decide)) rfl rfl d_mo_refuse_18 (fun H locs f1 hf1 hw hS => ?_)
    have h0 := eq_s hf1
    have hF := Fr.up hF hf1 (by simp)
    refine lv_aload_n hx hb d_mo_refuse_21 rfl (lv_at hl 0 rfl) ?_
    refine mo_geti hx hb ht in_mo hown hK hw h0 rfl 0 (by decide) rfl (ht _ t_666) (fun _ h => h) d_mo_refuse_22 ?_
    rw [show (va_up v 0 (z)) 0 = z from rfl]
    refine mi_if_le (tgt := 32) hx hb d_mo_refuse_25 (by decide) (by subst h_z; split <;> (try split) <;> decide) (fun c_25 => ?_) (fun c_25 => ?_)
    · skip
      refine mi_iconst hx hb d_mo_refuse_32 ?_
      rw [← hQ]; exact mq_zret (z := 0) hx hb hr hlocks hK hlo hGO hG hw hS (Nat.zero_le _) (Nat.zero_le _) (Or.inl rfl) d_mo_refuse_33 ⟨congrArg iI (by subst h_z; rcases hx1 with rfl | rfl <;> rcases hy1 with rfl | rfl <;> first | rfl | (simp at c_25)), hF, h_z ▸ h0⟩
    · skip
      refine mi_iconst hx hb d_mo_refuse_28 ?_
      refine lv_goto (tgt := 33) hx hb d_mo_refuse_29 (by decide) ?_
      rw [← hQ]; exact mq_zret (z := 1) hx hb hr hlocks hK hlo hGO hG hw hS (Nat.zero_le _) (Nat.zero_le _) (Or.inr rfl) d_mo_refuse_33 ⟨congrArg iI (by subst h_z; rcases hx1 with rfl | rfl <;> rcases hy1 with rfl | rfl <;> first | rfl | (simp at c_25)), hF, h_z ▸ h0⟩
  refine lv_iload_n hx hb d_mo_refuse_1 rfl (lv_at hl 1 rfl) ?_
  refine mi_if_eq (tgt := 9) hx hb d_mo_refuse_2 (by decide) (by rcases hx1 with rfl | rfl <;> decide) (fun c_2 => ?_) (fun c_2 => ?_)
  · skip
    refine lv_iload_n hx hb d_mo_refuse_9 rfl (lv_at hl 2 rfl) ?_
    refine mi_if_eq (tgt := 17) hx hb d_mo_refuse_10 (by decide) (by rcases hy1 with rfl | rfl <;> decide) (fun c_10 => ?_) (fun c_10 => ?_)
    · skip
      refine mi_iconst hx hb d_mo_refuse_17 ?_
      exact J18 _ (by rcases hx1 with rfl | rfl <;> rcases hy1 with rfl | rfl <;> first | rfl | omega)
    · skip
      refine mi_iconst hx hb d_mo_refuse_13 ?_
      refine lv_goto (tgt := 18) hx hb d_mo_refuse_14 (by decide) ?_
      exact J18 _ (by rcases hx1 with rfl | rfl <;> rcases hy1 with rfl | rfl <;> first | rfl | omega)
  · skip
    refine mi_iconst hx hb d_mo_refuse_5 ?_
    refine lv_goto (tgt := 18) hx hb d_mo_refuse_6 (by decide) ?_
    exact J18 _ (by rcases hx1 with rfl | rfl <;> rcases hy1 with rfl | rfl <;> first | rfl | omega)
abbrev gTile (x0 y0 x1 y1 : Int) : Prop := 0 ≤ x0 ∧ 0 ≤ y0 ∧ x0 < x1 ∧ y0 < y1 ∧ x1 ≤ 32767 ∧ y1 ≤ 32767
/-- the reference behind tile(..), its numbers by slots -/
def mTile (v : Nat → Int) (x0 y0 x1 y1 : Int) : Nat → Int := if gTile x0 y0 x1 y1 then (va_up (va_up (va_up (va_up (va_up (va_up (va_up v 0 0) 1 1) 2 x0) 3 y0) 4 x1) 5 y1) 16 0) else va_up v 0 1
set_option maxHeartbeats 4000000 in
set_option maxRecDepth 100000 in
theorem c_mo_tile (l : Launch) (D : va_G) (tys : List (ClassId × FieldType)) (lo : Nat) (G : State → Prop) (hGO : GOK lo G) (f : hM) (a : Nat) (b : Nat → Option Nat) (v : Nat → Int) (h0 : f a = some (eO 6 (oF sh_mo b v))) (x0 y0 x1 y1 : Int) (r0 : iR x0) (r1 : iR y0) (r2 : iR x1) (r3 : iR y1) : Met l y_mo_tile (Cond.code y_mo_tile b_mo_tile 6 (none) :: TB) ({ frames := 1, cells := 0, slots := 0, locals := 22 } : Room) (va_Pc [.ref a, .int (iI (x0)), .int (iI (y0)), .int (iI (x1)), .int (iI (y1))] (Bq D CL tys lo G f)) (va_Qv (fun f1 => Fr [a] f f1 ∧ f1 a = some (eO 6 (oF sh_mo b (mTile v x0 y0 x1 y1)))) (Bq D CL tys lo G) (fun q => lo ≤ q)) 0 0 (fun q => lo ≤ q) := by
  refine mt (by decide) (Nat.le_of_ble_eq_true rfl) ?_
  intro p e s m args below meth c ls hx hb hr hml hown ht hlocks hnm hK hlo hG hw hS hl
  have hl : lv_has ls 6 [(0, .ref a), (1, .int (iI (x0))), (2, .int (iI (y0))), (3, .int (iI (x1))), (4, .int (iI (y1)))] := hl
  generalize hQ : MQ below _ args s _ _ _ = Q
  have hF : Fr [a] f f := Fr.rf
  have J39 : ∀ g : Int, g = (if gTile x0 y0 x1 y1 then 1 else 0) → W p l e ({ frames := 1, cells := 0, slots := 0, locals := 22 } : Room) s m args below meth c s.heap [] 0 0 Q (F0 m 39 ls [.int (iI (g))]) := by
    intro g h_g
    refine lv_istore (lv' := [(5, .int (iI (g))), (0, .ref a), (1, .int (iI (x0))), (2, .int (iI (y0))), (3, .int (iI (x1))), (4, .int (iI (y1)))]) hx hb d_mo_tile_39 hl (by decide) rfl (fun ls hl => ?_)
    refine lv_aload_n hx hb d_mo_tile_41 rfl (lv_at hl 1 rfl) ?_
    have J52 : ∀ n : Int, n = (if gTile x0 y0 x1 y1 then 0 else 1) → W p l e ({ frames := 1, cells := 0, slots := 0, locals := 22 } : Room) s m args below meth c s.heap [] 0 0 Q (F0 m 52 ls [.int (iI (n)), .ref a]) := by
      intro n h_n
      refine mi_iconst hx hb d_mo_tile_52 ?_
      refine mq_calli (va_runV (As := [.int (iI (n)), .int (iI (0))]) (rest := []) ⟨hx, hb, hml, hown, ht⟩ (c_mo_refuse l D tys lo G hGO f a b v h0 (n) (0) (by split at h_n <;> omega) (Or.inl rfl)) (cwV 2 ht (good_V (fun _ h => h) t_792 t_789 t_791 s_19 t_7) rfl rfl rfl (by decide +kernel) ⟨Nat.le_of_ble_eq_true rfl, Nat.le_of_ble_eq_true rfl⟩) (mq_preV hK hlo hGO hG hw hS (hW.recv hK hw (ci := 6) rfl h0)) rfl rfl hl.1 rfl (lv_room (Nat.le_of_ble_eq_true rfl)) d_mo_tile_53 ⟨Nat.le_of_ble_eq_true rfl, Nat.le_of_ble_eq_true rfl⟩) hS (fun r1 f1 H locs hp hw hS => ?_)
      obtain ⟨rfl, hF1, h09⟩ := hp
      have hF := Fr.tr hF hF1 (by simp)
      have h0 := h09
      refine mi_if_eq (tgt := 60) hx hb d_mo_tile_56 (by decide) (by split <;> decide) (fun c_56 => ?_) (fun c_56 => ?_)
      · skip
        refine lv_aload_n hx hb d_mo_tile_60 rfl (lv_at hl 1 rfl) ?_
        refine mi_iconst hx hb d_mo_tile_61 ?_
        refine mo_puti hx hb ht in_mo ty_mo tyok_mo nm_mo hown hK hw hS h0 rfl 1 (by decide) rfl (ht _ t_667) (fun _ h => h) rfl (tyok_mo 1 (by decide)) rfl rfl d_mo_tile_62 (fun H locs f2 hf2 hw hS => ?_)
        have h0 := eq_s hf2
        have hF := Fr.up hF hf2 (by simp)
        refine lv_aload_n hx hb d_mo_tile_65 rfl (lv_at hl 1 rfl) ?_
        refine lv_iload_n hx hb d_mo_tile_66 rfl (lv_at hl 2 rfl) ?_
        refine mo_puti hx hb ht in_mo ty_mo tyok_mo nm_mo hown hK hw hS h0 rfl 2 (by decide) rfl (ht _ t_668) (fun _ h => h) rfl (tyok_mo 2 (by decide)) rfl rfl d_mo_tile_67 (fun H locs f3 hf3 hw hS => ?_)
        have h0 := eq_s hf3
        have hF := Fr.up hF hf3 (by simp)
        refine lv_aload_n hx hb d_mo_tile_70 rfl (lv_at hl 1 rfl) ?_
        refine lv_iload_n hx hb d_mo_tile_71 rfl (lv_at hl 3 rfl) ?_
        refine mo_puti hx hb ht in_mo ty_mo tyok_mo nm_mo hown hK hw hS h0 rfl 3 (by decide) rfl (ht _ t_669) (fun _ h => h) rfl (tyok_mo 3 (by decide)) rfl rfl d_mo_tile_72 (fun H locs f4 hf4 hw hS => ?_)
        have h0 := eq_s hf4
        have hF := Fr.up hF hf4 (by simp)
        refine lv_aload_n hx hb d_mo_tile_75 rfl (lv_at hl 1 rfl) ?_
        refine lv_iload_n hx hb d_mo_tile_76 rfl (lv_at hl 4 rfl) ?_
        refine mo_puti hx hb ht in_mo ty_mo tyok_mo nm_mo hown hK hw hS h0 rfl 4 (by decide) rfl (ht _ t_670) (fun _ h => h) rfl (tyok_mo 4 (by decide)) rfl rfl d_mo_tile_77 (fun H locs f5 hf5 hw hS => ?_)
        have h0 := eq_s hf5
        have hF := Fr.up hF hf5 (by simp)
        refine lv_aload_n hx hb d_mo_tile_80 rfl (lv_at hl 1 rfl) ?_
        refine lv_iload hx hb d_mo_tile_81 (lv_at hl 5 rfl) ?_
        refine mo_puti hx hb ht in_mo ty_mo tyok_mo nm_mo hown hK hw hS h0 rfl 5 (by decide) rfl (ht _ t_671) (fun _ h => h) rfl (tyok_mo 5 (by decide)) rfl rfl d_mo_tile_83 (fun H locs f6 hf6 hw hS => ?_)
        have h0 := eq_s hf6
        have hF := Fr.up hF hf6 (by simp)
        refine lv_aload_n hx hb d_mo_tile_86 rfl (lv_at hl 1 rfl) ?_
        refine mi_iconst hx hb d_mo_tile_87 ?_
        refine mo_puti hx hb ht in_mo ty_mo tyok_mo nm_mo hown hK hw hS h0 rfl 16 (by decide) rfl (ht _ t_682) (fun _ h => h) rfl (tyok_mo 16 (by decide)) rfl rfl d_mo_tile_88 (fun H locs f7 hf7 hw hS => ?_)
        have h0 := eq_s hf7
        have hF := Fr.up hF hf7 (by simp)
        have hg : gTile x0 y0 x1 y1 := Classical.byContradiction (fun hg => by rw [if_neg hg] at h_n; subst h_n; simp at c_56)
        rw [if_pos hg] at h_n
        subst h_n
        rw [← hQ]; exact mq_vret hx hb hr hlocks hK hlo hGO hG hw hS (Nat.zero_le _) (Nat.zero_le _) d_mo_tile_91 ⟨hF, by rw [h0]; unfold mTile; rw [if_pos hg]; rfl⟩
      · skip
        have hg : ¬ gTile x0 y0 x1 y1 := fun hg => by rw [if_pos hg] at h_n; subst h_n; simp at c_56
        rw [if_neg hg] at h_n
        subst h_n
        rw [← hQ]; exact mq_vret hx hb hr hlocks hK hlo hGO hG hw hS (Nat.zero_le _) (Nat.zero_le _) d_mo_tile_59 ⟨hF, by rw [h0]; unfold mTile; rw [if_neg hg]; rfl⟩
    refine lv_iload hx hb d_mo_tile_42 (lv_at hl 0 rfl) ?_
    refine mi_if_ne (tgt := 51) hx hb d_mo_tile_44 (by decide) (by split at h_g <;> omega) (fun c_44 => ?_) (fun c_44 => ?_)
    · skip
      refine mi_iconst hx hb d_mo_tile_51 ?_
      exact J52 _ (by split at h_g <;> split <;> omega)
    · skip
      refine mi_iconst hx hb d_mo_tile_47 ?_
      refine lv_goto (tgt := 52) hx hb d_mo_tile_48 (by decide) ?_
      exact J52 _ (by split at h_g <;> split <;> omega)
  refine lv_iload_n hx hb d_mo_tile_0 rfl (lv_at hl 1 rfl) ?_
  refine mi_if_lt (tgt := 38) hx hb d_mo_tile_1 (by decide) r0 (fun c_1 => ?_) (fun c_1 => ?_)
  · skip
    refine mi_iconst hx hb d_mo_tile_38 ?_
    exact J39 _ (by split <;> omega)
  · skip
    refine lv_iload_n hx hb d_mo_tile_4 rfl (lv_at hl 2 rfl) ?_
    refine mi_if_lt (tgt := 38) hx hb d_mo_tile_5 (by decide) r1 (fun c_5 => ?_) (fun c_5 => ?_)
    · skip
      refine mi_iconst hx hb d_mo_tile_38 ?_
      exact J39 _ (by split <;> omega)
    · skip
      refine lv_iload_n hx hb d_mo_tile_8 rfl (lv_at hl 1 rfl) ?_
      refine lv_iload_n hx hb d_mo_tile_9 rfl (lv_at hl 3 rfl) ?_
      refine mi_icmp_ge (tgt := 38) hx hb d_mo_tile_10 (by decide) r0 r2 (fun c_10 => ?_) (fun c_10 => ?_)
      · skip
        refine mi_iconst hx hb d_mo_tile_38 ?_
        exact J39 _ (by split <;> omega)
      · skip
        refine lv_iload_n hx hb d_mo_tile_13 rfl (lv_at hl 2 rfl) ?_
        refine lv_iload hx hb d_mo_tile_14 (lv_at hl 4 rfl) ?_
        refine mi_icmp_ge (tgt := 38) hx hb d_mo_tile_16 (by decide) r1 r3 (fun c_16 => ?_) (fun c_16 => ?_)
        · skip
          refine mi_iconst hx hb d_mo_tile_38 ?_
          exact J39 _ (by split <;> omega)
        · skip
          refine lv_iload_n hx hb d_mo_tile_19 rfl (lv_at hl 3 rfl) ?_
          refine mi_sipush hx hb d_mo_tile_20 (by decide) ?_
          refine mi_icmp_gt (tgt := 38) hx hb d_mo_tile_23 (by decide) r2 (by decide) (fun c_23 => ?_) (fun c_23 => ?_)
          · skip
            refine mi_iconst hx hb d_mo_tile_38 ?_
            exact J39 _ (by split <;> omega)
          · skip
            refine lv_iload hx hb d_mo_tile_26 (lv_at hl 4 rfl) ?_
            refine mi_sipush hx hb d_mo_tile_28 (by decide) ?_
            refine mi_icmp_gt (tgt := 38) hx hb d_mo_tile_31 (by decide) r3 (by decide) (fun c_31 => ?_) (fun c_31 => ?_)
            · skip
              refine mi_iconst hx hb d_mo_tile_38 ?_
              exact J39 _ (by split <;> omega)
            · skip
              refine mi_iconst hx hb d_mo_tile_34 ?_
              refine lv_goto (tgt := 39) hx hb d_mo_tile_35 (by decide) ?_
              exact J39 _ (by split <;> omega)
