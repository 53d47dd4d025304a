/-! the reference: small methods -/
set_option maxHeartbeats 4000000 in
set_option maxRecDepth 100000 in
theorem c_mo_thrown (l : Launch) (D : va_G) (X : ClassId × ClassId × ClassId × ClassId) (lo : Nat) (G : State → Prop) (hGO : GOK lo G) (f : hM) (a : Nat) (b : Nat → Option Nat) (v : Nat → Int) (h0 : f a = some (eO 6 (oF sh_mo b v))) : Met l y_mo_thrown (Cond.code y_mo_thrown b_mo_thrown 1 (some FieldType.int) :: TB) ({ frames := 0, cells := 0, slots := 0, locals := 0 } : Room) (va_Pc [.ref a] (Bq D CL (TYS X) lo G f)) (va_Qi (fun r f1 => r = iI (v 0) ∧ Fr [] f f1 ∧ f1 a = some (eO 6 (oF sh_mo b v))) (Bq D CL (TYS X) lo G) (fun q => lo ≤ q)) 0 0 (fun q => lo ≤ q) := by
  refine mt (by decide) (Nat.le_of_ble_eq_true rfl) ?_
  intro p e s m args below meth cd ls hx hb hr hml hown ht hlocks hnm hK hlo hG hw hS hl
  have hl : lv_has ls 1 [(0, .ref a)] := hl
  generalize hQ : MQ below _ args s _ _ _ = Q
  have hF : Fr [] f f := Fr.rf
  refine lv_aload_n hx hb d_mo_thrown_0 rfl (lv_at hl 0 rfl) ?_
  refine mo_geti hx hb ht in_mo hown hK hw h0 rfl 0 (by decide) rfl (ht _ t_666) (fun _ h => h) d_mo_thrown_1 ?_
  rw [← hQ]; exact mq_iret hx hb hr hlocks hK hlo hGO hG hw hS (Nat.zero_le _) (Nat.zero_le _) d_mo_thrown_4 ⟨rfl, hF, h0⟩
set_option maxHeartbeats 4000000 in
set_option maxRecDepth 100000 in
/-- refuse: which of two refusals, the first one first -/
theorem c_mo_refuse (l : Launch) (D : va_G) (X : ClassId × ClassId × ClassId × ClassId) (lo : Nat) (G : State → Prop) (hGO : GOK lo G) (f : hM) (a : Nat) (b : Nat → Option Nat) (v : Nat → Int) (h0 : f a = some (eO 6 (oF sh_mo b v))) (x y : Int) (hx1 : x = 0 ∨ x = 1) (hy1 : y = 0 ∨ y = 1) : Met l y_mo_refuse (Cond.code y_mo_refuse b_mo_refuse 3 (some FieldType.boolean) :: TB) ({ frames := 0, cells := 0, slots := 0, locals := 0 } : Room) (va_Pc [.ref a, .int (iI (x)), .int (iI (y))] (Bq D CL (TYS X) lo G f)) (va_Qi (fun r f1 => r = iI (if x = 1 ∨ y = 1 then 1 else 0) ∧ Fr [a] f f1 ∧ f1 a = some (eO 6 (oF sh_mo b (va_up v 0 (if x = 1 then 1 else if y = 1 then 2 else 0))))) (Bq D CL (TYS X) lo G) (fun q => lo ≤ q)) 0 0 (fun q => lo ≤ q) := by
  refine mt (by decide) (Nat.le_of_ble_eq_true rfl) ?_
  intro p e s m args below meth cd ls hx hb hr hml hown ht hlocks hnm hK hlo hG hw hS hl
  have hl : lv_has ls 3 [(0, .ref a), (1, .int (iI (x))), (2, .int (iI (y)))] := hl
  generalize hQ : MQ below _ args s _ _ _ = Q
  have hF : Fr [a] f f := Fr.rf
  refine lv_aload_n hx hb d_mo_refuse_0 rfl (lv_at hl 0 rfl) ?_
  have J18 : ∀ z : Int, z = (if x = 1 then 1 else if y = 1 then 2 else 0) → W p l e ({ frames := 0, cells := 0, slots := 0, locals := 0 } : Room) s m args below meth cd s.heap [] 0 0 Q (F0 m 18 ls [.int (iI (z)), .ref a]) := by
    intro z h_z
    refine mo_puti hx hb ht in_mo ty_mo tyok_mo nm_mo hown hK hw hS h0 rfl 0 (by decide) rfl (ht _ t_666) (fun _ h => h) rfl (tyok_mo 0 (by decide)) rfl rfl d_mo_refuse_18 (fun H locs f1 hf1 hw hS => ?_)
    have h0 := eq_s hf1
    have hF := Fr.up hF hf1 (by simp)
    refine lv_aload_n hx hb d_mo_refuse_21 rfl (lv_at hl 0 rfl) ?_
    refine mo_geti hx hb ht in_mo hown hK hw h0 rfl 0 (by decide) rfl (ht _ t_666) (fun _ h => h) d_mo_refuse_22 ?_
    rw [show (va_up v 0 (z)) 0 = z from rfl]
    refine mi_if_le (tgt := 32) hx hb d_mo_refuse_25 (by decide) (by subst h_z; split <;> (try split) <;> decide) (fun c_25 => ?_) (fun c_25 => ?_)
    · skip
      refine mi_iconst hx hb d_mo_refuse_32 ?_
      rw [← hQ]; exact mq_zret (z := 0) hx hb hr hlocks hK hlo hGO hG hw hS (Nat.zero_le _) (Nat.zero_le _) (Or.inl rfl) d_mo_refuse_33 ⟨congrArg iI (by subst h_z; rcases hx1 with rfl | rfl <;> rcases hy1 with rfl | rfl <;> first | rfl | (simp at c_25)), hF, h_z ▸ h0⟩
    · skip
      refine mi_iconst hx hb d_mo_refuse_28 ?_
      refine lv_goto (tgt := 33) hx hb d_mo_refuse_29 (by decide) ?_
      rw [← hQ]; exact mq_zret (z := 1) hx hb hr hlocks hK hlo hGO hG hw hS (Nat.zero_le _) (Nat.zero_le _) (Or.inr rfl) d_mo_refuse_33 ⟨congrArg iI (by subst h_z; rcases hx1 with rfl | rfl <;> rcases hy1 with rfl | rfl <;> first | rfl | (simp at c_25)), hF, h_z ▸ h0⟩
  refine lv_iload_n hx hb d_mo_refuse_1 rfl (lv_at hl 1 rfl) ?_
  refine mi_if_eq (tgt := 9) hx hb d_mo_refuse_2 (by decide) (by rcases hx1 with rfl | rfl <;> decide) (fun c_2 => ?_) (fun c_2 => ?_)
  · skip
    refine lv_iload_n hx hb d_mo_refuse_9 rfl (lv_at hl 2 rfl) ?_
    refine mi_if_eq (tgt := 17) hx hb d_mo_refuse_10 (by decide) (by rcases hy1 with rfl | rfl <;> decide) (fun c_10 => ?_) (fun c_10 => ?_)
    · skip
      refine mi_iconst hx hb d_mo_refuse_17 ?_
      exact J18 _ (by rcases hx1 with rfl | rfl <;> rcases hy1 with rfl | rfl <;> first | rfl | omega)
    · skip
      refine mi_iconst hx hb d_mo_refuse_13 ?_
      refine lv_goto (tgt := 18) hx hb d_mo_refuse_14 (by decide) ?_
      exact J18 _ (by rcases hx1 with rfl | rfl <;> rcases hy1 with rfl | rfl <;> first | rfl | omega)
  · skip
    refine mi_iconst hx hb d_mo_refuse_5 ?_
    refine lv_goto (tgt := 18) hx hb d_mo_refuse_6 (by decide) ?_
    exact J18 _ (by rcases hx1 with rfl | rfl <;> rcases hy1 with rfl | rfl <;> first | rfl | omega)
abbrev gTile (x0 y0 x1 y1 : Int) : Prop := 0 ≤ x0 ∧ 0 ≤ y0 ∧ x0 < x1 ∧ y0 < y1 ∧ x1 ≤ 32767 ∧ y1 ≤ 32767
/-- the reference behind tile(..), its numbers by slots -/
def mTile (v : Nat → Int) (x0 y0 x1 y1 : Int) : Nat → Int := if gTile x0 y0 x1 y1 then (va_up (va_up (va_up (va_up (va_up (va_up (va_up v 0 0) 1 1) 2 x0) 3 y0) 4 x1) 5 y1) 16 0) else va_up v 0 1
set_option maxHeartbeats 4000000 in
set_option maxRecDepth 100000 in
theorem c_mo_tile (l : Launch) (D : va_G) (X : ClassId × ClassId × ClassId × ClassId) (lo : Nat) (G : State → Prop) (hGO : GOK lo G) (f : hM) (a : Nat) (b : Nat → Option Nat) (v : Nat → Int) (h0 : f a = some (eO 6 (oF sh_mo b v))) (x0 y0 x1 y1 : Int) (r0 : iR x0) (r1 : iR y0) (r2 : iR x1) (r3 : iR y1) : Met l y_mo_tile (Cond.code y_mo_tile b_mo_tile 6 (none) :: TB) ({ frames := 1, cells := 0, slots := 0, locals := 22 } : Room) (va_Pc [.ref a, .int (iI (x0)), .int (iI (y0)), .int (iI (x1)), .int (iI (y1))] (Bq D CL (TYS X) lo G f)) (va_Qv (fun f1 => Fr [a] f f1 ∧ f1 a = some (eO 6 (oF sh_mo b (mTile v x0 y0 x1 y1)))) (Bq D CL (TYS X) lo G) (fun q => lo ≤ q)) 0 0 (fun q => lo ≤ q) := by
  refine mt (by decide) (Nat.le_of_ble_eq_true rfl) ?_
  intro p e s m args below meth cd ls hx hb hr hml hown ht hlocks hnm hK hlo hG hw hS hl
  have hl : lv_has ls 6 [(0, .ref a), (1, .int (iI (x0))), (2, .int (iI (y0))), (3, .int (iI (x1))), (4, .int (iI (y1)))] := hl
  generalize hQ : MQ below _ args s _ _ _ = Q
  have hF : Fr [a] f f := Fr.rf
  have J39 : ∀ g : Int, g = (if gTile x0 y0 x1 y1 then 1 else 0) → W p l e ({ frames := 1, cells := 0, slots := 0, locals := 22 } : Room) s m args below meth cd s.heap [] 0 0 Q (F0 m 39 ls [.int (iI (g))]) := by
    intro g h_g
    refine lv_istore (lv' := [(5, .int (iI (g))), (0, .ref a), (1, .int (iI (x0))), (2, .int (iI (y0))), (3, .int (iI (x1))), (4, .int (iI (y1)))]) hx hb d_mo_tile_39 hl (by decide) rfl (fun ls hl => ?_)
    refine lv_aload_n hx hb d_mo_tile_41 rfl (lv_at hl 1 rfl) ?_
    have J52 : ∀ n : Int, n = (if gTile x0 y0 x1 y1 then 0 else 1) → W p l e ({ frames := 1, cells := 0, slots := 0, locals := 22 } : Room) s m args below meth cd s.heap [] 0 0 Q (F0 m 52 ls [.int (iI (n)), .ref a]) := by
      intro n h_n
      refine mi_iconst hx hb d_mo_tile_52 ?_
      refine mq_calli (va_runV (As := [.int (iI (n)), .int (iI (0))]) (rest := []) ⟨hx, hb, hml, hown, ht⟩ (c_mo_refuse l D X lo G hGO f a b v h0 (n) (0) (by split at h_n <;> omega) (Or.inl rfl)) (cwV 2 ht (good_V (fun _ h => h) t_792 t_789 t_791 s_19 t_7) rfl rfl rfl (by decide +kernel) ⟨Nat.le_of_ble_eq_true rfl, Nat.le_of_ble_eq_true rfl⟩) (mq_preV hK hlo hGO hG hw hS (hW.recv hK hw (ci := 6) rfl h0)) rfl rfl hl.1 rfl (lv_room (Nat.le_of_ble_eq_true rfl)) d_mo_tile_53 ⟨Nat.le_of_ble_eq_true rfl, Nat.le_of_ble_eq_true rfl⟩) hS (fun r1 f1 H locs hp hw hS => ?_)
      obtain ⟨rfl, hF1, h09⟩ := hp
      have hF := Fr.tr hF hF1 (by simp)
      have h0 := h09
      refine mi_if_eq (tgt := 60) hx hb d_mo_tile_56 (by decide) (by split <;> decide) (fun c_56 => ?_) (fun c_56 => ?_)
      · skip
        refine lv_aload_n hx hb d_mo_tile_60 rfl (lv_at hl 1 rfl) ?_
        refine mi_iconst hx hb d_mo_tile_61 ?_
        refine mo_puti hx hb ht in_mo ty_mo tyok_mo nm_mo hown hK hw hS h0 rfl 1 (by decide) rfl (ht _ t_667) (fun _ h => h) rfl (tyok_mo 1 (by decide)) rfl rfl d_mo_tile_62 (fun H locs f2 hf2 hw hS => ?_)
        have h0 := eq_s hf2
        have hF := Fr.up hF hf2 (by simp)
        refine lv_aload_n hx hb d_mo_tile_65 rfl (lv_at hl 1 rfl) ?_
        refine lv_iload_n hx hb d_mo_tile_66 rfl (lv_at hl 2 rfl) ?_
        refine mo_puti hx hb ht in_mo ty_mo tyok_mo nm_mo hown hK hw hS h0 rfl 2 (by decide) rfl (ht _ t_668) (fun _ h => h) rfl (tyok_mo 2 (by decide)) rfl rfl d_mo_tile_67 (fun H locs f3 hf3 hw hS => ?_)
        have h0 := eq_s hf3
        have hF := Fr.up hF hf3 (by simp)
        refine lv_aload_n hx hb d_mo_tile_70 rfl (lv_at hl 1 rfl) ?_
        refine lv_iload_n hx hb d_mo_tile_71 rfl (lv_at hl 3 rfl) ?_
        refine mo_puti hx hb ht in_mo ty_mo tyok_mo nm_mo hown hK hw hS h0 rfl 3 (by decide) rfl (ht _ t_669) (fun _ h => h) rfl (tyok_mo 3 (by decide)) rfl rfl d_mo_tile_72 (fun H locs f4 hf4 hw hS => ?_)
        have h0 := eq_s hf4
        have hF := Fr.up hF hf4 (by simp)
        refine lv_aload_n hx hb d_mo_tile_75 rfl (lv_at hl 1 rfl) ?_
        refine lv_iload_n hx hb d_mo_tile_76 rfl (lv_at hl 4 rfl) ?_
        refine mo_puti hx hb ht in_mo ty_mo tyok_mo nm_mo hown hK hw hS h0 rfl 4 (by decide) rfl (ht _ t_670) (fun _ h => h) rfl (tyok_mo 4 (by decide)) rfl rfl d_mo_tile_77 (fun H locs f5 hf5 hw hS => ?_)
        have h0 := eq_s hf5
        have hF := Fr.up hF hf5 (by simp)
        refine lv_aload_n hx hb d_mo_tile_80 rfl (lv_at hl 1 rfl) ?_
        refine lv_iload hx hb d_mo_tile_81 (lv_at hl 5 rfl) ?_
        refine mo_puti hx hb ht in_mo ty_mo tyok_mo nm_mo hown hK hw hS h0 rfl 5 (by decide) rfl (ht _ t_671) (fun _ h => h) rfl (tyok_mo 5 (by decide)) rfl rfl d_mo_tile_83 (fun H locs f6 hf6 hw hS => ?_)
        have h0 := eq_s hf6
        have hF := Fr.up hF hf6 (by simp)
        refine lv_aload_n hx hb d_mo_tile_86 rfl (lv_at hl 1 rfl) ?_
        refine mi_iconst hx hb d_mo_tile_87 ?_
        refine mo_puti hx hb ht in_mo ty_mo tyok_mo nm_mo hown hK hw hS h0 rfl 16 (by decide) rfl (ht _ t_682) (fun _ h => h) rfl (tyok_mo 16 (by decide)) rfl rfl d_mo_tile_88 (fun H locs f7 hf7 hw hS => ?_)
        have h0 := eq_s hf7
        have hF := Fr.up hF hf7 (by simp)
        have hg : gTile x0 y0 x1 y1 := Classical.byContradiction (fun hg => by rw [if_neg hg] at h_n; subst h_n; simp at c_56)
        rw [if_pos hg] at h_n
        subst h_n
        rw [← hQ]; exact mq_vret hx hb hr hlocks hK hlo hGO hG hw hS (Nat.zero_le _) (Nat.zero_le _) d_mo_tile_91 ⟨hF, by rw [h0]; unfold mTile; rw [if_pos hg]; rfl⟩
      · skip
        have hg : ¬ gTile x0 y0 x1 y1 := fun hg => by rw [if_pos hg] at h_n; subst h_n; simp at c_56
        rw [if_neg hg] at h_n
        subst h_n
        rw [← hQ]; exact mq_vret hx hb hr hlocks hK hlo hGO hG hw hS (Nat.zero_le _) (Nat.zero_le _) d_mo_tile_59 ⟨hF, by rw [h0]; unfold mTile; rw [if_neg hg]; rfl⟩
    refine lv_iload hx hb d_mo_tile_42 (lv_at hl 0 rfl) ?_
    refine mi_if_ne (tgt := 51) hx hb d_mo_tile_44 (by decide) (by split at h_g <;> omega) (fun c_44 => ?_) (fun c_44 => ?_)
    · skip
      refine mi_iconst hx hb d_mo_tile_51 ?_
      exact J52 _ (by split at h_g <;> split <;> omega)
    · skip
      refine mi_iconst hx hb d_mo_tile_47 ?_
      refine lv_goto (tgt := 52) hx hb d_mo_tile_48 (by decide) ?_
      exact J52 _ (by split at h_g <;> split <;> omega)
  refine lv_iload_n hx hb d_mo_tile_0 rfl (lv_at hl 1 rfl) ?_
  refine mi_if_lt (tgt := 38) hx hb d_mo_tile_1 (by decide) r0 (fun c_1 => ?_) (fun c_1 => ?_)
  · skip
    refine mi_iconst hx hb d_mo_tile_38 ?_
    exact J39 _ (by split <;> omega)
  · skip
    refine lv_iload_n hx hb d_mo_tile_4 rfl (lv_at hl 2 rfl) ?_
    refine mi_if_lt (tgt := 38) hx hb d_mo_tile_5 (by decide) r1 (fun c_5 => ?_) (fun c_5 => ?_)
    · skip
      refine mi_iconst hx hb d_mo_tile_38 ?_
      exact J39 _ (by split <;> omega)
    · skip
      refine lv_iload_n hx hb d_mo_tile_8 rfl (lv_at hl 1 rfl) ?_
      refine lv_iload_n hx hb d_mo_tile_9 rfl (lv_at hl 3 rfl) ?_
      refine mi_icmp_ge (tgt := 38) hx hb d_mo_tile_10 (by decide) r0 r2 (fun c_10 => ?_) (fun c_10 => ?_)
      · skip
        refine mi_iconst hx hb d_mo_tile_38 ?_
        exact J39 _ (by split <;> omega)
      · skip
        refine lv_iload_n hx hb d_mo_tile_13 rfl (lv_at hl 2 rfl) ?_
        refine lv_iload hx hb d_mo_tile_14 (lv_at hl 4 rfl) ?_
        refine mi_icmp_ge (tgt := 38) hx hb d_mo_tile_16 (by decide) r1 r3 (fun c_16 => ?_) (fun c_16 => ?_)
        · skip
          refine mi_iconst hx hb d_mo_tile_38 ?_
          exact J39 _ (by split <;> omega)
        · skip
          refine lv_iload_n hx hb d_mo_tile_19 rfl (lv_at hl 3 rfl) ?_
          refine mi_sipush hx hb d_mo_tile_20 (by decide) ?_
          refine mi_icmp_gt (tgt := 38) hx hb d_mo_tile_23 (by decide) r2 (by decide) (fun c_23 => ?_) (fun c_23 => ?_)
          · skip
            refine mi_iconst hx hb d_mo_tile_38 ?_
            exact J39 _ (by split <;> omega)
          · skip
            refine lv_iload hx hb d_mo_tile_26 (lv_at hl 4 rfl) ?_
            refine mi_sipush hx hb d_mo_tile_28 (by decide) ?_
            refine mi_icmp_gt (tgt := 38) hx hb d_mo_tile_31 (by decide) r3 (by decide) (fun c_31 => ?_) (fun c_31 => ?_)
            · skip
              refine mi_iconst hx hb d_mo_tile_38 ?_
              exact J39 _ (by split <;> omega)
            · skip
              refine mi_iconst hx hb d_mo_tile_34 ?_
              refine lv_goto (tgt := 39) hx hb d_mo_tile_35 (by decide) ?_
              exact J39 _ (by split <;> omega)
set_option maxHeartbeats 4000000 in
set_option maxRecDepth 100000 in
theorem c_mo_clear (l : Launch) (D : va_G) (X : ClassId × ClassId × ClassId × ClassId) (lo : Nat) (G : State → Prop) (hGO : GOK lo G) (f : hM) (a : Nat) (b : Nat → Option Nat) (v : Nat → Int) (A : Nat → Nat) (g : Nat → Nat → Int) (hR : moR X f a b v A g) : Met l y_mo_clear (Cond.code y_mo_clear b_mo_clear 1 (none) :: TB) ({ frames := 0, cells := 0, slots := 0, locals := 0 } : Room) (va_Pc [.ref a] (Bq D CL (TYS X) lo G f)) (va_Qv (fun f1 => Fr [a] f f1 ∧ moR X f1 a b (va_up (va_up (va_up v 0 0) 14 0) 16 0) A g) (Bq D CL (TYS X) lo G) (fun q => lo ≤ q)) 0 0 (fun q => lo ≤ q) := by
  refine mt (by decide) (Nat.le_of_ble_eq_true rfl) ?_
  intro p e s m args below meth cd ls hx hb hr hml hown ht hlocks hnm hK hlo hG hw hS hl
  have hl : lv_has ls 1 [(0, .ref a)] := hl
  generalize hQ : MQ below _ args s _ _ _ = Q
  have hF : Fr [a] f f := Fr.rf
  have h0 := hR.1
  refine lv_aload_n hx hb d_mo_clear_0 rfl (lv_at hl 0 rfl) ?_
  refine mi_iconst hx hb d_mo_clear_1 ?_
  refine mo_puti hx hb ht in_mo ty_mo tyok_mo nm_mo hown hK hw hS h0 rfl 0 (by decide) rfl (ht _ t_666) (fun _ h => h) rfl (tyok_mo 0 (by decide)) rfl rfl d_mo_clear_2 (fun H locs f1 hf1 hw hS => ?_)
  have h0 := eq_s hf1
  have hF := Fr.up hF hf1 (by simp)
  refine lv_aload_n hx hb d_mo_clear_5 rfl (lv_at hl 0 rfl) ?_
  refine mi_iconst hx hb d_mo_clear_6 ?_
  refine mo_puti hx hb ht in_mo ty_mo tyok_mo nm_mo hown hK hw hS h0 rfl 14 (by decide) rfl (ht _ t_680) (fun _ h => h) rfl (tyok_mo 14 (by decide)) rfl rfl d_mo_clear_7 (fun H locs f2 hf2 hw hS => ?_)
  have h0 := eq_s hf2
  have hF := Fr.up hF hf2 (by simp)
  refine lv_aload_n hx hb d_mo_clear_10 rfl (lv_at hl 0 rfl) ?_
  refine mi_iconst hx hb d_mo_clear_11 ?_
  refine mo_puti hx hb ht in_mo ty_mo tyok_mo nm_mo hown hK hw hS h0 rfl 16 (by decide) rfl (ht _ t_682) (fun _ h => h) rfl (tyok_mo 16 (by decide)) rfl rfl d_mo_clear_12 (fun H locs f3 hf3 hw hS => ?_)
  have h0 := eq_s hf3
  have hF := Fr.up hF hf3 (by simp)
  rw [← hQ]; exact mq_vret hx hb hr hlocks hK hlo hGO hG hw hS (Nat.zero_le _) (Nat.zero_le _) d_mo_clear_15 ⟨hF, hR.fr [] (by simp) hF h0 (fun q _ hq => absurd hq List.not_mem_nil) (fun _ _ _ => rfl)⟩
abbrev gLay (n r : Int) : Prop := 1 ≤ n ∧ n ≤ 255 ∧ 0 ≤ r ∧ r ≤ 4
def mLay (v : Nat → Int) (n r : Int) : Nat → Int := if gLay n r then (va_up (va_up (va_up (va_up v 0 0) 12 n) 13 r) 16 0) else va_up v 0 1
set_option maxHeartbeats 4000000 in
set_option maxRecDepth 100000 in
theorem c_mo_layers (l : Launch) (D : va_G) (X : ClassId × ClassId × ClassId × ClassId) (lo : Nat) (G : State → Prop) (hGO : GOK lo G) (f : hM) (a : Nat) (b : Nat → Option Nat) (v : Nat → Int) (A : Nat → Nat) (g : Nat → Nat → Int) (hR : moR X f a b v A g) (n r : Int) (rn : iR n) (rr : iR r) : Met l y_mo_layers (Cond.code y_mo_layers b_mo_layers 3 (none) :: TB) ({ frames := 1, cells := 0, slots := 0, locals := 22 } : Room) (va_Pc [.ref a, .int (iI (n)), .int (iI (r))] (Bq D CL (TYS X) lo G f)) (va_Qv (fun f1 => Fr [a] f f1 ∧ moR X f1 a b (mLay v n r) A g) (Bq D CL (TYS X) lo G) (fun q => lo ≤ q)) 0 0 (fun q => lo ≤ q) := by
  refine mt (by decide) (Nat.le_of_ble_eq_true rfl) ?_
  intro p e s m args below meth cd ls hx hb hr hml hown ht hlocks hnm hK hlo hG hw hS hl
  have hl : lv_has ls 3 [(0, .ref a), (1, .int (iI (n))), (2, .int (iI (r)))] := hl
  generalize hQ : MQ below _ args s _ _ _ = Q
  have hF : Fr [a] f f := Fr.rf
  have h0 := hR.1
  refine lv_aload_n hx hb d_mo_layers_0 rfl (lv_at hl 0 rfl) ?_
  have J27 : ∀ k : Int, k = (if gLay n r then 0 else 1) → W p l e ({ frames := 1, cells := 0, slots := 0, locals := 22 } : Room) s m args below meth cd s.heap [] 0 0 Q (F0 m 27 ls [.int (iI (k)), .ref a]) := by
    intro k h_k
    refine mi_iconst hx hb d_mo_layers_27 ?_
    refine mq_calli (va_runV (As := [.int (iI (k)), .int (iI (0))]) (rest := []) ⟨hx, hb, hml, hown, ht⟩ (c_mo_refuse l D X lo G hGO f a b v h0 (k) (0) (by split at h_k <;> omega) (Or.inl rfl)) (cwV 2 ht (good_V (fun _ h => h) t_792 t_789 t_791 s_19 t_7) rfl rfl rfl (by decide +kernel) ⟨Nat.le_of_ble_eq_true rfl, Nat.le_of_ble_eq_true rfl⟩) (mq_preV hK hlo hGO hG hw hS (hW.recv hK hw (ci := 6) rfl h0)) rfl rfl hl.1 rfl (lv_room (Nat.le_of_ble_eq_true rfl)) d_mo_layers_28 ⟨Nat.le_of_ble_eq_true rfl, Nat.le_of_ble_eq_true rfl⟩) hS (fun r1 f1 H locs hp hw hS => ?_)
    obtain ⟨rfl, hF1, h09⟩ := hp
    have hF := Fr.tr hF hF1 (by simp)
    have h0 := h09
    refine mi_if_eq (tgt := 35) hx hb d_mo_layers_31 (by decide) (by split <;> decide) (fun c_31 => ?_) (fun c_31 => ?_)
    · skip
      refine lv_aload_n hx hb d_mo_layers_35 rfl (lv_at hl 0 rfl) ?_
      refine lv_iload_n hx hb d_mo_layers_36 rfl (lv_at hl 1 rfl) ?_
      refine mo_puti hx hb ht in_mo ty_mo tyok_mo nm_mo hown hK hw hS h0 rfl 12 (by decide) rfl (ht _ t_678) (fun _ h => h) rfl (tyok_mo 12 (by decide)) rfl rfl d_mo_layers_37 (fun H locs f2 hf2 hw hS => ?_)
      have h0 := eq_s hf2
      have hF := Fr.up hF hf2 (by simp)
      refine lv_aload_n hx hb d_mo_layers_40 rfl (lv_at hl 0 rfl) ?_
      refine lv_iload_n hx hb d_mo_layers_41 rfl (lv_at hl 2 rfl) ?_
      refine mo_puti hx hb ht in_mo ty_mo tyok_mo nm_mo hown hK hw hS h0 rfl 13 (by decide) rfl (ht _ t_679) (fun _ h => h) rfl (tyok_mo 13 (by decide)) rfl rfl d_mo_layers_42 (fun H locs f3 hf3 hw hS => ?_)
      have h0 := eq_s hf3
      have hF := Fr.up hF hf3 (by simp)
      refine lv_aload_n hx hb d_mo_layers_45 rfl (lv_at hl 0 rfl) ?_
      refine mi_iconst hx hb d_mo_layers_46 ?_
      refine mo_puti hx hb ht in_mo ty_mo tyok_mo nm_mo hown hK hw hS h0 rfl 16 (by decide) rfl (ht _ t_682) (fun _ h => h) rfl (tyok_mo 16 (by decide)) rfl rfl d_mo_layers_47 (fun H locs f4 hf4 hw hS => ?_)
      have h0 := eq_s hf4
      have hF := Fr.up hF hf4 (by simp)
      have hg : gLay n r := Classical.byContradiction (fun hg => by rw [if_neg hg] at h_k; subst h_k; simp at c_31)
      rw [if_pos hg] at h_k
      subst h_k
      rw [← hQ]; exact mq_vret hx hb hr hlocks hK hlo hGO hG hw hS (Nat.zero_le _) (Nat.zero_le _) d_mo_layers_50 ⟨hF, hR.fr [] (by simp) hF (by rw [h0]; unfold mLay; rw [if_pos hg]; rfl) (fun q _ hq => absurd hq List.not_mem_nil) (fun _ _ _ => rfl)⟩
    · skip
      have hg : ¬ gLay n r := fun hg => by rw [if_pos hg] at h_k; subst h_k; simp at c_31
      rw [if_neg hg] at h_k
      subst h_k
      rw [← hQ]; exact mq_vret hx hb hr hlocks hK hlo hGO hG hw hS (Nat.zero_le _) (Nat.zero_le _) d_mo_layers_34 ⟨hF, hR.fr [] (by simp) hF (by rw [h0]; unfold mLay; rw [if_neg hg]; rfl) (fun q _ hq => absurd hq List.not_mem_nil) (fun _ _ _ => rfl)⟩
  refine lv_iload_n hx hb d_mo_layers_1 rfl (lv_at hl 1 rfl) ?_
  refine mi_iconst hx hb d_mo_layers_2 ?_
  refine mi_icmp_lt (tgt := 22) hx hb d_mo_layers_3 (by decide) rn (by decide) (fun c_3 => ?_) (fun c_3 => ?_)
  · skip
    refine mi_iconst hx hb d_mo_layers_22 ?_
    refine lv_goto (tgt := 27) hx hb d_mo_layers_23 (by decide) ?_
    exact J27 _ (by split <;> omega)
  · skip
    refine lv_iload_n hx hb d_mo_layers_6 rfl (lv_at hl 1 rfl) ?_
    refine mi_sipush hx hb d_mo_layers_7 (by decide) ?_
    refine mi_icmp_gt (tgt := 22) hx hb d_mo_layers_10 (by decide) rn (by decide) (fun c_10 => ?_) (fun c_10 => ?_)
    · skip
      refine mi_iconst hx hb d_mo_layers_22 ?_
      refine lv_goto (tgt := 27) hx hb d_mo_layers_23 (by decide) ?_
      exact J27 _ (by split <;> omega)
    · skip
      refine lv_iload_n hx hb d_mo_layers_13 rfl (lv_at hl 2 rfl) ?_
      refine mi_if_lt (tgt := 22) hx hb d_mo_layers_14 (by decide) rr (fun c_14 => ?_) (fun c_14 => ?_)
      · skip
        refine mi_iconst hx hb d_mo_layers_22 ?_
        refine lv_goto (tgt := 27) hx hb d_mo_layers_23 (by decide) ?_
        exact J27 _ (by split <;> omega)
      · skip
        refine lv_iload_n hx hb d_mo_layers_17 rfl (lv_at hl 2 rfl) ?_
        refine mi_iconst hx hb d_mo_layers_18 ?_
        refine mi_icmp_le (tgt := 26) hx hb d_mo_layers_19 (by decide) rr (by decide) (fun c_19 => ?_) (fun c_19 => ?_)
        · skip
          refine mi_iconst hx hb d_mo_layers_26 ?_
          exact J27 _ (by split <;> omega)
        · skip
          refine mi_iconst hx hb d_mo_layers_22 ?_
          refine lv_goto (tgt := 27) hx hb d_mo_layers_23 (by decide) ?_
          exact J27 _ (by split <;> omega)
abbrev gChg (p1 p2 p3 p4 p5 p6 : Int) : Prop := 0 ≤ p1 ∧ p1 ≤ 32 ∧ p1 < p2 ∧ p2 ≤ 33 ∧ 0 ≤ p3 ∧ p3 ≤ 15 ∧ p3 < p4 ∧ p4 ≤ 16 ∧ 1 ≤ p5 ∧ p5 ≤ 255 ∧ 0 ≤ p6 ∧ p6 ≤ 4
def mChgV (v : Nat → Int) (nc : Nat) (p1 p2 p3 p4 p5 p6 : Int) : Nat → Int := if gChg p1 p2 p3 p4 p5 p6 then (if nc = 32 then va_up v 0 2 else (va_up (va_up (va_up v 0 0) 16 0) 14 ((nc : Int) + 1))) else va_up v 0 1
def mChgG (g : Nat → Nat → Int) (nc : Nat) (p1 p2 p3 p4 p5 p6 : Int) : Nat → Nat → Int := if gChg p1 p2 p3 p4 p5 p6 ∧ nc ≠ 32 then va_up g 15 (va_up (va_up (va_up (va_up (va_up (va_up (g 15) (6 * nc) p1) (6 * nc + 1) p2) (6 * nc + 2) p3) (6 * nc + 3) p4) (6 * nc + 4) p5) (6 * nc + 5) p6) else g
set_option maxHeartbeats 4000000 in
set_option maxRecDepth 100000 in
theorem c_mo_change (l : Launch) (D : va_G) (X : ClassId × ClassId × ClassId × ClassId) (lo : Nat) (G : State → Prop) (hGO : GOK lo G) (f : hM) (a : Nat) (b : Nat → Option Nat) (v : Nat → Int) (A : Nat → Nat) (g : Nat → Nat → Int) (hR : moR X f a b v A g) (nc : Nat) (hc : v 14 = (nc : Int)) (hc2 : nc ≤ 32) (p1 p2 p3 p4 p5 p6 : Int) (r1 : iR p1) (r2 : iR p2) (r3 : iR p3) (r4 : iR p4) (r5 : iR p5) (r6 : iR p6) : Met l y_mo_change (Cond.code y_mo_change b_mo_change 8 (some FieldType.int) :: TB) ({ frames := 1, cells := 0, slots := 0, locals := 22 } : Room) (va_Pc [.ref a, .int (iI (p1)), .int (iI (p2)), .int (iI (p3)), .int (iI (p4)), .int (iI (p5)), .int (iI (p6))] (Bq D CL (TYS X) lo G f)) (va_Qi (fun r f1 => r = iI (if gChg p1 p2 p3 p4 p5 p6 ∧ nc ≠ 32 then (nc : Int) + 1 else 0) ∧ Fr (a :: [15].map A) f f1 ∧ moR X f1 a b (mChgV v nc p1 p2 p3 p4 p5 p6) A (mChgG g nc p1 p2 p3 p4 p5 p6)) (Bq D CL (TYS X) lo G) (fun q => lo ≤ q)) 0 0 (fun q => lo ≤ q) := by
  refine mt (by decide) (Nat.le_of_ble_eq_true rfl) ?_
  intro p e s m args below meth cd ls hx hb hr hml hown ht hlocks hnm hK hlo hG hw hS hl
  have hl : lv_has ls 8 [(0, .ref a), (1, .int (iI (p1))), (2, .int (iI (p2))), (3, .int (iI (p3))), (4, .int (iI (p4))), (5, .int (iI (p5))), (6, .int (iI (p6)))] := hl
  generalize hQ : MQ below _ args s _ _ _ = Q
  have hF : Fr (a :: [15].map A) f f := Fr.rf
  have h0 := hR.1
  have h15 : f (A 15) = some (eI X.1 192 (g 15)) := (hR.2.1 (15, 192, false) (by decide)).2
  have b15 : b 15 = some (A 15) := (hR.2.1 (15, 192, false) (by decide)).1
  have n15 : A 15 ≠ a := hR.ne (by decide)
  have J74 : ∀ k : Int, k = (if gChg p1 p2 p3 p4 p5 p6 then 1 else 0) → W p l e ({ frames := 1, cells := 0, slots := 0, locals := 22 } : Room) s m args below meth cd s.heap [] 0 0 Q (F0 m 74 ls [.int (iI (k))]) := by
    intro k h_k
    refine lv_istore (lv' := [(7, .int (iI (k))), (0, .ref a), (1, .int (iI (p1))), (2, .int (iI (p2))), (3, .int (iI (p3))), (4, .int (iI (p4))), (5, .int (iI (p5))), (6, .int (iI (p6)))]) hx hb d_mo_change_74 hl (by decide) rfl (fun ls hl => ?_)
    refine lv_aload_n hx hb d_mo_change_76 rfl (lv_at hl 1 rfl) ?_
    have J87 : ∀ n : Int, n = (if gChg p1 p2 p3 p4 p5 p6 then 0 else 1) → W p l e ({ frames := 1, cells := 0, slots := 0, locals := 22 } : Room) s m args below meth cd s.heap [] 0 0 Q (F0 m 87 ls [.int (iI (n)), .ref a]) := by
      intro n h_n
      have J101 : ∀ i : Int, i = (if nc = 32 then 1 else 0) → W p l e ({ frames := 1, cells := 0, slots := 0, locals := 22 } : Room) s m args below meth cd s.heap [] 0 0 Q (F0 m 101 ls [.int (iI (i)), .int (iI (n)), .ref a]) := by
        intro i h_i
        refine mq_calli (va_runV (As := [.int (iI (n)), .int (iI (i))]) (rest := []) ⟨hx, hb, hml, hown, ht⟩ (c_mo_refuse l D X lo G hGO f a b v h0 (n) (i) (by split at h_n <;> omega) (by split at h_i <;> omega)) (cwV 2 ht (good_V (fun _ h => h) t_792 t_789 t_791 s_19 t_7) rfl rfl rfl (by decide +kernel) ⟨Nat.le_of_ble_eq_true rfl, Nat.le_of_ble_eq_true rfl⟩) (mq_preV hK hlo hGO hG hw hS (hW.recv hK hw (ci := 6) rfl h0)) rfl rfl hl.1 rfl (lv_room (Nat.le_of_ble_eq_true rfl)) d_mo_change_101 ⟨Nat.le_of_ble_eq_true rfl, Nat.le_of_ble_eq_true rfl⟩) hS (fun r1 f1 H locs hp hw hS => ?_)
        obtain ⟨rfl, hF1, h09⟩ := hp
        have h15 := Fr.keep hF1 h15 (by simpa using n15)
        have hF := Fr.tr hF hF1 (by simp)
        have h0 := h09
        refine mi_if_eq (tgt := 109) hx hb d_mo_change_104 (by decide) (by split <;> decide) (fun c_104 => ?_) (fun c_104 => ?_)
        · skip
          have hg : gChg p1 p2 p3 p4 p5 p6 := Classical.byContradiction (fun hg => by rw [if_neg hg] at h_n; subst h_n; simp at c_104)
          have hc3 : nc ≠ 32 := fun h3 => by rw [if_pos hg] at h_n; rw [if_pos h3] at h_i; subst h_n h_i; simp at c_104
          have hcl : nc < 32 := by omega
          refine lv_aload_n hx hb d_mo_change_109 rfl (lv_at hl 1 rfl) ?_
          refine mo_getr hx hb ht in_mo hown hK hw h0 rfl 15 (by decide) rfl b15 (ht _ t_681) (fun _ h => h) d_mo_change_110 ?_
          refine mi_bipush hx hb d_mo_change_113 (by decide) ?_
          refine lv_aload_n hx hb d_mo_change_115 rfl (lv_at hl 1 rfl) ?_
          refine mo_geti hx hb ht in_mo hown hK hw h0 rfl 14 (by decide) rfl (ht _ t_680) (fun _ h => h) d_mo_change_116 ?_
          rw [show (va_up v 0 (if n = 1 then 1 else if i = 1 then 2 else 0)) 14 = v 14 from rfl]
          refine mi_imul hx hb d_mo_change_119 ?_
          refine lv_iload_n hx hb d_mo_change_120 rfl (lv_at hl 2 rfl) ?_
          refine mo_iast hx hb hK hw hS 0 h15 rfl (6 * nc) (by omega) (by omega) (by decide) d_mo_change_121 (fun H locs f2 hf2 hw hS => ?_)
          have h0 := eq_n hf2 h0 n15.symm
          have h15 := eq_s hf2
          have hF := Fr.up hF hf2 (by simp)
          refine lv_aload_n hx hb d_mo_change_122 rfl (lv_at hl 1 rfl) ?_
          refine mo_getr hx hb ht in_mo hown hK hw h0 rfl 15 (by decide) rfl b15 (ht _ t_681) (fun _ h => h) d_mo_change_123 ?_
          refine mi_bipush hx hb d_mo_change_126 (by decide) ?_
          refine lv_aload_n hx hb d_mo_change_128 rfl (lv_at hl 1 rfl) ?_
          refine mo_geti hx hb ht in_mo hown hK hw h0 rfl 14 (by decide) rfl (ht _ t_680) (fun _ h => h) d_mo_change_129 ?_
          rw [show (va_up v 0 (if n = 1 then 1 else if i = 1 then 2 else 0)) 14 = v 14 from rfl]
          refine mi_imul hx hb d_mo_change_132 ?_
          refine mi_iconst hx hb d_mo_change_133 ?_
          refine mi_iadd hx hb d_mo_change_134 ?_
          refine lv_iload_n hx hb d_mo_change_135 rfl (lv_at hl 3 rfl) ?_
          refine mo_iast hx hb hK hw hS 0 h15 rfl (6 * nc + 1) (by omega) (by omega) (by decide) d_mo_change_136 (fun H locs f3 hf3 hw hS => ?_)
          have h0 := eq_n hf3 h0 n15.symm
          have h15 := eq_s hf3
          have hF := Fr.up hF hf3 (by simp)
          refine lv_aload_n hx hb d_mo_change_137 rfl (lv_at hl 1 rfl) ?_
          refine mo_getr hx hb ht in_mo hown hK hw h0 rfl 15 (by decide) rfl b15 (ht _ t_681) (fun _ h => h) d_mo_change_138 ?_
          refine mi_bipush hx hb d_mo_change_141 (by decide) ?_
          refine lv_aload_n hx hb d_mo_change_143 rfl (lv_at hl 1 rfl) ?_
          refine mo_geti hx hb ht in_mo hown hK hw h0 rfl 14 (by decide) rfl (ht _ t_680) (fun _ h => h) d_mo_change_144 ?_
          rw [show (va_up v 0 (if n = 1 then 1 else if i = 1 then 2 else 0)) 14 = v 14 from rfl]
          refine mi_imul hx hb d_mo_change_147 ?_
          refine mi_iconst hx hb d_mo_change_148 ?_
          refine mi_iadd hx hb d_mo_change_149 ?_
          refine lv_iload_n hx hb d_mo_change_150 rfl (lv_at hl 4 rfl) ?_
          refine mo_iast hx hb hK hw hS 0 h15 rfl (6 * nc + 2) (by omega) (by omega) (by decide) d_mo_change_151 (fun H locs f4 hf4 hw hS => ?_)
          have h0 := eq_n hf4 h0 n15.symm
          have h15 := eq_s hf4
          have hF := Fr.up hF hf4 (by simp)
          refine lv_aload_n hx hb d_mo_change_152 rfl (lv_at hl 1 rfl) ?_
          refine mo_getr hx hb ht in_mo hown hK hw h0 rfl 15 (by decide) rfl b15 (ht _ t_681) (fun _ h => h) d_mo_change_153 ?_
          refine mi_bipush hx hb d_mo_change_156 (by decide) ?_
          refine lv_aload_n hx hb d_mo_change_158 rfl (lv_at hl 1 rfl) ?_
          refine mo_geti hx hb ht in_mo hown hK hw h0 rfl 14 (by decide) rfl (ht _ t_680) (fun _ h => h) d_mo_change_159 ?_
          rw [show (va_up v 0 (if n = 1 then 1 else if i = 1 then 2 else 0)) 14 = v 14 from rfl]
          refine mi_imul hx hb d_mo_change_162 ?_
          refine mi_iconst hx hb d_mo_change_163 ?_
          refine mi_iadd hx hb d_mo_change_164 ?_
          refine lv_iload hx hb d_mo_change_165 (lv_at hl 5 rfl) ?_
          refine mo_iast hx hb hK hw hS 0 h15 rfl (6 * nc + 3) (by omega) (by omega) (by decide) d_mo_change_167 (fun H locs f5 hf5 hw hS => ?_)
          have h0 := eq_n hf5 h0 n15.symm
          have h15 := eq_s hf5
          have hF := Fr.up hF hf5 (by simp)
          refine lv_aload_n hx hb d_mo_change_168 rfl (lv_at hl 1 rfl) ?_
          refine mo_getr hx hb ht in_mo hown hK hw h0 rfl 15 (by decide) rfl b15 (ht _ t_681) (fun _ h => h) d_mo_change_169 ?_
          refine mi_bipush hx hb d_mo_change_172 (by decide) ?_
          refine lv_aload_n hx hb d_mo_change_174 rfl (lv_at hl 1 rfl) ?_
          refine mo_geti hx hb ht in_mo hown hK hw h0 rfl 14 (by decide) rfl (ht _ t_680) (fun _ h => h) d_mo_change_175 ?_
          rw [show (va_up v 0 (if n = 1 then 1 else if i = 1 then 2 else 0)) 14 = v 14 from rfl]
          refine mi_imul hx hb d_mo_change_178 ?_
          refine mi_iconst hx hb d_mo_change_179 ?_
          refine mi_iadd hx hb d_mo_change_180 ?_
          refine lv_iload hx hb d_mo_change_181 (lv_at hl 6 rfl) ?_
          refine mo_iast hx hb hK hw hS 0 h15 rfl (6 * nc + 4) (by omega) (by omega) (by decide) d_mo_change_183 (fun H locs f6 hf6 hw hS => ?_)
          have h0 := eq_n hf6 h0 n15.symm
          have h15 := eq_s hf6
          have hF := Fr.up hF hf6 (by simp)
          refine lv_aload_n hx hb d_mo_change_184 rfl (lv_at hl 1 rfl) ?_
          refine mo_getr hx hb ht in_mo hown hK hw h0 rfl 15 (by decide) rfl b15 (ht _ t_681) (fun _ h => h) d_mo_change_185 ?_
          refine mi_bipush hx hb d_mo_change_188 (by decide) ?_
          refine lv_aload_n hx hb d_mo_change_190 rfl (lv_at hl 1 rfl) ?_
          refine mo_geti hx hb ht in_mo hown hK hw h0 rfl 14 (by decide) rfl (ht _ t_680) (fun _ h => h) d_mo_change_191 ?_
          rw [show (va_up v 0 (if n = 1 then 1 else if i = 1 then 2 else 0)) 14 = v 14 from rfl]
          refine mi_imul hx hb d_mo_change_194 ?_
          refine mi_iconst hx hb d_mo_change_195 ?_
          refine mi_iadd hx hb d_mo_change_196 ?_
          refine lv_iload hx hb d_mo_change_197 (lv_at hl 7 rfl) ?_
          refine mo_iast hx hb hK hw hS 0 h15 rfl (6 * nc + 5) (by omega) (by omega) (by decide) d_mo_change_199 (fun H locs f7 hf7 hw hS => ?_)
          have h0 := eq_n hf7 h0 n15.symm
          have h15 := eq_s hf7
          have hF := Fr.up hF hf7 (by simp)
          refine lv_aload_n hx hb d_mo_change_200 rfl (lv_at hl 1 rfl) ?_
          refine mi_iconst hx hb d_mo_change_201 ?_
          refine mo_puti hx hb ht in_mo ty_mo tyok_mo nm_mo hown hK hw hS h0 rfl 16 (by decide) rfl (ht _ t_682) (fun _ h => h) rfl (tyok_mo 16 (by decide)) rfl rfl d_mo_change_202 (fun H locs f8 hf8 hw hS => ?_)
          have h0 := eq_s hf8
          have h15 := eq_n hf8 h15 n15
          have hF := Fr.up hF hf8 (by simp)
          refine lv_aload_n hx hb d_mo_change_205 rfl (lv_at hl 1 rfl) ?_
          refine lv_dup hx hb d_mo_change_206 rfl ?_
          refine mo_geti hx hb ht in_mo hown hK hw h0 rfl 14 (by decide) rfl (ht _ t_680) (fun _ h => h) d_mo_change_207 ?_
          rw [show (va_up (va_up v 0 (if n = 1 then 1 else if i = 1 then 2 else 0)) 16 (0)) 14 = v 14 from rfl]
          refine mi_iconst hx hb d_mo_change_210 ?_
          refine mi_iadd hx hb d_mo_change_211 ?_
          refine mo_puti hx hb ht in_mo ty_mo tyok_mo nm_mo hown hK hw hS h0 rfl 14 (by decide) rfl (ht _ t_680) (fun _ h => h) rfl (tyok_mo 14 (by decide)) rfl rfl d_mo_change_212 (fun H locs f9 hf9 hw hS => ?_)
          have h0 := eq_s hf9
          have h15 := eq_n hf9 h15 n15
          have hF := Fr.up hF hf9 (by simp)
          refine lv_aload_n hx hb d_mo_change_215 rfl (lv_at hl 1 rfl) ?_
          refine mo_geti hx hb ht in_mo hown hK hw h0 rfl 14 (by decide) rfl (ht _ t_680) (fun _ h => h) d_mo_change_216 ?_
          rw [show (va_up (va_up (va_up v 0 (if n = 1 then 1 else if i = 1 then 2 else 0)) 16 (0)) 14 ((v 14) + (1))) 14 = (v 14) + (1) from rfl]
          rw [if_pos hg] at h_n
          rw [if_neg hc3] at h_i
          subst h_n h_i
          rw [← hQ]; exact mq_iret hx hb hr hlocks hK hlo hGO hG hw hS (Nat.zero_le _) (Nat.zero_le _) d_mo_change_219 ⟨by rw [if_pos ⟨hg, hc3⟩, hc], hF, hR.fr [15] (by decide) hF (by rw [h0]; unfold mChgV; rw [if_pos hg, if_neg hc3]; show some (eO 6 (oF sh_mo b (va_up (va_up (va_up v 0 0) 16 0) 14 (v 14 + 1)))) = _; rw [hc]) (fun q hq hk => by obtain rfl : q = (15, 192, false) := (by revert q; decide); unfold mChgG; rw [if_pos ⟨hg, hc3⟩, va_up_self]; exact h15) (fun k _ hk => by unfold mChgG; rw [if_pos ⟨hg, hc3⟩, va_up_ne _ _ (by simpa using hk)])⟩
        · skip
          refine mi_iconst hx hb d_mo_change_107 ?_
          have hng : ¬ (gChg p1 p2 p3 p4 p5 p6 ∧ nc ≠ 32) := fun z => by rw [if_pos z.1] at h_n; rw [if_neg z.2] at h_i; subst h_n h_i; simp at c_104
          have hv9 : eO 6 (oF sh_mo b (va_up v 0 (if n = 1 then 1 else if i = 1 then 2 else 0))) = eO 6 (oF sh_mo b (mChgV v nc p1 p2 p3 p4 p5 p6)) := by
            unfold mChgV; by_cases hg : gChg p1 p2 p3 p4 p5 p6
            · have h3 : nc = 32 := Classical.byContradiction (fun z => hng ⟨hg, z⟩)
              rw [if_pos hg] at h_n ⊢; rw [if_pos h3] at h_i ⊢; subst h_n h_i; rfl
            · rw [if_neg hg] at h_n ⊢; subst h_n; rfl
          rw [← hQ]; exact mq_iret hx hb hr hlocks hK hlo hGO hG hw hS (Nat.zero_le _) (Nat.zero_le _) d_mo_change_108 ⟨by rw [if_neg hng], hF, hR.fr [15] (by decide) hF (by rw [h0, hv9]) (fun q hq hk => by obtain rfl : q = (15, 192, false) := (by revert q; decide); unfold mChgG; rw [if_neg hng]; exact h15) (fun k _ hk => by unfold mChgG; rw [if_neg hng])⟩
      refine lv_aload_n hx hb d_mo_change_87 rfl (lv_at hl 1 rfl) ?_
      refine mo_geti hx hb ht in_mo hown hK hw h0 rfl 14 (by decide) rfl (ht _ t_680) (fun _ h => h) d_mo_change_88 ?_
      refine mi_bipush hx hb d_mo_change_91 (by decide) ?_
      refine mi_icmp_ne (tgt := 100) hx hb d_mo_change_93 (by decide) (by omega) (by decide) (fun c_93 => ?_) (fun c_93 => ?_)
      · skip
        refine mi_iconst hx hb d_mo_change_100 ?_
        exact J101 _ (by split <;> omega)
      · skip
        refine mi_iconst hx hb d_mo_change_96 ?_
        refine lv_goto (tgt := 101) hx hb d_mo_change_97 (by decide) ?_
        exact J101 _ (by split <;> omega)
    refine lv_iload hx hb d_mo_change_77 (lv_at hl 0 rfl) ?_
    refine mi_if_ne (tgt := 86) hx hb d_mo_change_79 (by decide) (by split at h_k <;> omega) (fun c_79 => ?_) (fun c_79 => ?_)
    · skip
      refine mi_iconst hx hb d_mo_change_86 ?_
      exact J87 _ (by split at h_k <;> split <;> omega)
    · skip
      refine mi_iconst hx hb d_mo_change_82 ?_
      refine lv_goto (tgt := 87) hx hb d_mo_change_83 (by decide) ?_
      exact J87 _ (by split at h_k <;> split <;> omega)
  refine lv_iload_n hx hb d_mo_change_0 rfl (lv_at hl 1 rfl) ?_
  refine mi_if_lt (tgt := 73) hx hb d_mo_change_1 (by decide) r1 (fun c_1 => ?_) (fun c_1 => ?_)
  · skip
    refine mi_iconst hx hb d_mo_change_73 ?_
    exact J74 _ (by split <;> omega)
  · skip
    refine lv_iload_n hx hb d_mo_change_4 rfl (lv_at hl 1 rfl) ?_
    refine mi_bipush hx hb d_mo_change_5 (by decide) ?_
    refine mi_icmp_gt (tgt := 73) hx hb d_mo_change_7 (by decide) r1 (by decide) (fun c_7 => ?_) (fun c_7 => ?_)
    · skip
      refine mi_iconst hx hb d_mo_change_73 ?_
      exact J74 _ (by split <;> omega)
    · skip
      refine lv_iload_n hx hb d_mo_change_10 rfl (lv_at hl 2 rfl) ?_
      refine lv_iload_n hx hb d_mo_change_11 rfl (lv_at hl 1 rfl) ?_
      refine mi_icmp_le (tgt := 73) hx hb d_mo_change_12 (by decide) r2 r1 (fun c_12 => ?_) (fun c_12 => ?_)
      · skip
        refine mi_iconst hx hb d_mo_change_73 ?_
        exact J74 _ (by split <;> omega)
      · skip
        refine lv_iload_n hx hb d_mo_change_15 rfl (lv_at hl 2 rfl) ?_
        refine mi_bipush hx hb d_mo_change_16 (by decide) ?_
        refine mi_icmp_gt (tgt := 73) hx hb d_mo_change_18 (by decide) r2 (by decide) (fun c_18 => ?_) (fun c_18 => ?_)
        · skip
          refine mi_iconst hx hb d_mo_change_73 ?_
          exact J74 _ (by split <;> omega)
        · skip
          refine lv_iload_n hx hb d_mo_change_21 rfl (lv_at hl 3 rfl) ?_
          refine mi_if_lt (tgt := 73) hx hb d_mo_change_22 (by decide) r3 (fun c_22 => ?_) (fun c_22 => ?_)
          · skip
            refine mi_iconst hx hb d_mo_change_73 ?_
            exact J74 _ (by split <;> omega)
          · skip
            refine lv_iload_n hx hb d_mo_change_25 rfl (lv_at hl 3 rfl) ?_
            refine mi_bipush hx hb d_mo_change_26 (by decide) ?_
            refine mi_icmp_gt (tgt := 73) hx hb d_mo_change_28 (by decide) r3 (by decide) (fun c_28 => ?_) (fun c_28 => ?_)
            · skip
              refine mi_iconst hx hb d_mo_change_73 ?_
              exact J74 _ (by split <;> omega)
            · skip
              refine lv_iload hx hb d_mo_change_31 (lv_at hl 4 rfl) ?_
              refine lv_iload_n hx hb d_mo_change_33 rfl (lv_at hl 3 rfl) ?_
              refine mi_icmp_le (tgt := 73) hx hb d_mo_change_34 (by decide) r4 r3 (fun c_34 => ?_) (fun c_34 => ?_)
              · skip
                refine mi_iconst hx hb d_mo_change_73 ?_
                exact J74 _ (by split <;> omega)
              · skip
                refine lv_iload hx hb d_mo_change_37 (lv_at hl 4 rfl) ?_
                refine mi_bipush hx hb d_mo_change_39 (by decide) ?_
                refine mi_icmp_gt (tgt := 73) hx hb d_mo_change_41 (by decide) r4 (by decide) (fun c_41 => ?_) (fun c_41 => ?_)
                · skip
                  refine mi_iconst hx hb d_mo_change_73 ?_
                  exact J74 _ (by split <;> omega)
                · skip
                  refine lv_iload hx hb d_mo_change_44 (lv_at hl 5 rfl) ?_
                  refine mi_iconst hx hb d_mo_change_46 ?_
                  refine mi_icmp_lt (tgt := 73) hx hb d_mo_change_47 (by decide) r5 (by decide) (fun c_47 => ?_) (fun c_47 => ?_)
                  · skip
                    refine mi_iconst hx hb d_mo_change_73 ?_
                    exact J74 _ (by split <;> omega)
                  · skip
                    refine lv_iload hx hb d_mo_change_50 (lv_at hl 5 rfl) ?_
                    refine mi_sipush hx hb d_mo_change_52 (by decide) ?_
                    refine mi_icmp_gt (tgt := 73) hx hb d_mo_change_55 (by decide) r5 (by decide) (fun c_55 => ?_) (fun c_55 => ?_)
                    · skip
                      refine mi_iconst hx hb d_mo_change_73 ?_
                      exact J74 _ (by split <;> omega)
                    · skip
                      refine lv_iload hx hb d_mo_change_58 (lv_at hl 6 rfl) ?_
                      refine mi_if_lt (tgt := 73) hx hb d_mo_change_60 (by decide) r6 (fun c_60 => ?_) (fun c_60 => ?_)
                      · skip
                        refine mi_iconst hx hb d_mo_change_73 ?_
                        exact J74 _ (by split <;> omega)
                      · skip
                        refine lv_iload hx hb d_mo_change_63 (lv_at hl 6 rfl) ?_
                        refine mi_iconst hx hb d_mo_change_65 ?_
                        refine mi_icmp_gt (tgt := 73) hx hb d_mo_change_66 (by decide) r6 (by decide) (fun c_66 => ?_) (fun c_66 => ?_)
                        · skip
                          refine mi_iconst hx hb d_mo_change_73 ?_
                          exact J74 _ (by split <;> omega)
                        · skip
                          refine mi_iconst hx hb d_mo_change_69 ?_
                          refine lv_goto (tgt := 74) hx hb d_mo_change_70 (by decide) ?_
                          exact J74 _ (by split <;> omega)
