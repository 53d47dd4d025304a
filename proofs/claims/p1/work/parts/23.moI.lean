/-! the reference: its constructor; begin, next, skip, packet, came while there is no sequence -/
def moIx (k : Nat) : Nat := if k = 7 then 0 else if k = 8 then 1 else if k = 9 then 2 else if k = 10 then 3 else if k = 11 then 4 else if k = 15 then 5 else if k = 18 then 6 else if k = 19 then 7 else if k = 20 then 8 else if k = 21 then 9 else if k = 22 then 10 else if k = 23 then 11 else if k = 24 then 12 else 13
def moA (L : List Nat) (k : Nat) : Nat := L.getD (moIx k) 0
theorem moA_inj {L : List Nat} (hn : L.Nodup) (hl : L.length = 13) : ∀ k ∈ moSl, ∀ j ∈ moSl, moA L k = moA L j → k = j := by
  intro k hk j hj h
  have e1 : ∀ k ∈ moSl, moIx k < 13 := by decide
  have e2 : ∀ k ∈ moSl, ∀ j ∈ moSl, moIx k = moIx j → k = j := by decide
  have hk1 : moIx k < L.length := by rw [hl]; exact e1 k hk
  have hj1 : moIx j < L.length := by rw [hl]; exact e1 j hj
  unfold moA at h
  rw [List.getD_eq_getElem?_getD, List.getD_eq_getElem?_getD, List.getElem?_eq_getElem hk1, List.getElem?_eq_getElem hj1] at h
  exact e2 k hk j hj ((List.getElem_inj hn).mp h)
theorem al_up {L : List Nat} {f f1 : hM} {a : Nat} {e : va_E} (h : ∀ x ∈ L, f x ≠ none) (hf : f1 = va_up f a (some e)) : ∀ x ∈ L, f1 x ≠ none := by
  intro x hx1
  rw [hf]
  unfold va_up
  split
  · intro z; cases z
  · exact h x hx1
theorem al_new {L : List Nat} {f f1 : hM} {a : Nat} {e : va_E} (h : ∀ x ∈ L, f x ≠ none) (hf : f1 = va_up f a (some e)) : ∀ x ∈ a :: L, f1 x ≠ none := by
  intro x hx0
  rcases List.mem_cons.mp hx0 with hx2 | hx1
  · rw [hx2, hf, va_up_self]; intro z; cases z
  · exact al_up h hf x hx1
theorem nd_new {L : List Nat} {f : hM} {q : Nat} (hn : L.Nodup) (h : ∀ x ∈ L, f x ≠ none) (hq : f q = none) : (q :: L).Nodup := List.nodup_cons.mpr ⟨fun z => h q z hq, hn⟩
set_option maxHeartbeats 4000000 in
set_option maxRecDepth 100000 in
theorem c_mo_begin0 (l : Launch) (D : va_G) (X : ClassId × ClassId × ClassId × ClassId) (lo : Nat) (G : State → Prop) (hGO : GOK lo G) (f : hM) (a : Nat) (b : Nat → Option Nat) (v : Nat → Int) (A : Nat → Nat) (g : Nat → Nat → Int) (hR : moR X f a b v A g) (h1 : v 1 = 0) : Met l y_mo_begin (Cond.code y_mo_begin b_mo_begin 4 (some FieldType.int) :: TB) ({ frames := 1, cells := 0, slots := 0, locals := 22 } : Room) (va_Pc [.ref a] (Bq D CL (TYS X) lo G f)) (va_Qi (fun r f1 => r = iI 0 ∧ Fr [a] f f1 ∧ moR X f1 a b (va_up v 0 1) A g) (Bq D CL (TYS X) lo G) (fun q => lo ≤ q)) 0 0 (fun q => lo ≤ q) := by
  refine mt (by decide) (Nat.le_of_ble_eq_true rfl) ?_
  intro p e s m args below meth cd ls hx hb hr hml hown ht hlocks hnm hK hlo hG hw hS hl
  have hl : lv_has ls 4 [(0, .ref a)] := hl
  generalize hQ : MQ below _ args s _ _ _ = Q
  have hF : Fr [a] f f := Fr.rf
  have h0 := hR.1
  refine lv_aload_n hx hb d_mo_begin_0 rfl (lv_at hl 0 rfl) ?_
  refine mo_geti hx hb ht in_mo hown hK hw h0 rfl 1 (by decide) rfl (ht _ t_667) (fun _ h => h) d_mo_begin_1 ?_
  refine mi_if_eq (tgt := 14) hx hb d_mo_begin_4 (by decide) (by omega) (fun c_4 => ?_) (fun c_4 => ?_)
  · skip
    refine mi_iconst hx hb d_mo_begin_14 ?_
    refine lv_goto (tgt := 19) hx hb d_mo_begin_15 (by decide) ?_
    refine lv_istore_n (lv' := [(1, .int (iI (1))), (0, .ref a)]) hx hb d_mo_begin_19 rfl hl (by decide) rfl (fun ls hl => ?_)
    refine lv_aload_n hx hb d_mo_begin_20 rfl (lv_at hl 1 rfl) ?_
    refine lv_iload_n hx hb d_mo_begin_21 rfl (lv_at hl 0 rfl) ?_
    refine lv_iload_n hx hb d_mo_begin_22 rfl (lv_at hl 0 rfl) ?_
    refine mi_if_ne (tgt := 41) hx hb d_mo_begin_23 (by decide) (by decide) (fun c_23 => ?_) (fun c_23 => ?_)
    · skip
      refine mi_iconst hx hb d_mo_begin_41 ?_
      refine mq_calli (va_runV (As := [.int (iI (1)), .int (iI (0))]) (rest := []) ⟨hx, hb, hml, hown, ht⟩ (c_mo_refuse l D X lo G hGO f a b v h0 (1) (0) (Or.inr rfl) (Or.inl rfl)) (cwV 2 ht (good_V (fun _ h => h) t_792 t_789 t_791 s_19 t_7) rfl rfl rfl (by decide +kernel) ⟨Nat.le_of_ble_eq_true rfl, Nat.le_of_ble_eq_true rfl⟩) (mq_preV hK hlo hGO hG hw hS (hW.recv hK hw (ci := 6) rfl h0)) rfl rfl hl.1 rfl (lv_room (Nat.le_of_ble_eq_true rfl)) d_mo_begin_42 ⟨Nat.le_of_ble_eq_true rfl, Nat.le_of_ble_eq_true rfl⟩) hS (fun r1 f1 H locs hp hw hS => ?_)
      obtain ⟨rfl, hF1, h09⟩ := hp
      have hF := Fr.tr hF hF1 (by simp)
      have h0 := h09
      refine mi_if_eq (tgt := 50) hx hb d_mo_begin_45 (by decide) (by split <;> decide) (fun c_45 => ?_) (fun c_45 => ?_)
      · exact absurd c_45 (by decide)
      · skip
        refine mi_iconst hx hb d_mo_begin_48 ?_
        rw [← hQ]; exact mq_iret hx hb hr hlocks hK hlo hGO hG hw hS (Nat.zero_le _) (Nat.zero_le _) d_mo_begin_49 ⟨rfl, hF, hR.fr [] (by simp) hF h0 (fun q _ hq => absurd hq List.not_mem_nil) (fun _ _ _ => rfl)⟩
    · exact absurd c_23 (by decide)
  · exact absurd c_4 (by omega)
set_option maxHeartbeats 4000000 in
set_option maxRecDepth 100000 in
theorem c_mo_next0 (l : Launch) (D : va_G) (X : ClassId × ClassId × ClassId × ClassId) (lo : Nat) (G : State → Prop) (hGO : GOK lo G) (f : hM) (a : Nat) (b : Nat → Option Nat) (v : Nat → Int) (A : Nat → Nat) (g : Nat → Nat → Int) (hR : moR X f a b v A g) (h16 : v 16 = 0) : Met l y_mo_next (Cond.code y_mo_next b_mo_next 1 (some FieldType.boolean) :: TB) ({ frames := 1, cells := 0, slots := 0, locals := 22 } : Room) (va_Pc [.ref a] (Bq D CL (TYS X) lo G f)) (va_Qi (fun r f1 => r = iI 0 ∧ Fr [a] f f1 ∧ moR X f1 a b (va_up v 0 1) A g) (Bq D CL (TYS X) lo G) (fun q => lo ≤ q)) 0 0 (fun q => lo ≤ q) := by
  refine mt (by decide) (Nat.le_of_ble_eq_true rfl) ?_
  intro p e s m args below meth cd ls hx hb hr hml hown ht hlocks hnm hK hlo hG hw hS hl
  have hl : lv_has ls 1 [(0, .ref a)] := hl
  generalize hQ : MQ below _ args s _ _ _ = Q
  have hF : Fr [a] f f := Fr.rf
  have h0 := hR.1
  refine lv_aload_n hx hb d_mo_next_0 rfl (lv_at hl 0 rfl) ?_
  refine lv_aload_n hx hb d_mo_next_1 rfl (lv_at hl 0 rfl) ?_
  refine mo_geti hx hb ht in_mo hown hK hw h0 rfl 16 (by decide) rfl (ht _ t_682) (fun _ h => h) d_mo_next_2 ?_
  refine mi_if_ne (tgt := 12) hx hb d_mo_next_5 (by decide) (by omega) (fun c_5 => ?_) (fun c_5 => ?_)
  · exact absurd c_5 (by omega)
  · skip
    refine mi_iconst hx hb d_mo_next_8 ?_
    refine lv_goto (tgt := 13) hx hb d_mo_next_9 (by decide) ?_
    refine mi_iconst hx hb d_mo_next_13 ?_
    refine mq_calli (va_runV (As := [.int (iI (1)), .int (iI (0))]) (rest := []) ⟨hx, hb, hml, hown, ht⟩ (c_mo_refuse l D X lo G hGO f a b v h0 (1) (0) (Or.inr rfl) (Or.inl rfl)) (cwV 2 ht (good_V (fun _ h => h) t_792 t_789 t_791 s_19 t_7) rfl rfl rfl (by decide +kernel) ⟨Nat.le_of_ble_eq_true rfl, Nat.le_of_ble_eq_true rfl⟩) (mq_preV hK hlo hGO hG hw hS (hW.recv hK hw (ci := 6) rfl h0)) rfl rfl hl.1 rfl (lv_room (Nat.le_of_ble_eq_true rfl)) d_mo_next_14 ⟨Nat.le_of_ble_eq_true rfl, Nat.le_of_ble_eq_true rfl⟩) hS (fun r1 f1 H locs hp hw hS => ?_)
    obtain ⟨rfl, hF1, h09⟩ := hp
    have hF := Fr.tr hF hF1 (by simp)
    have h0 := h09
    refine mi_if_eq (tgt := 22) hx hb d_mo_next_17 (by decide) (by split <;> decide) (fun c_17 => ?_) (fun c_17 => ?_)
    · exact absurd c_17 (by decide)
    · skip
      refine mi_iconst hx hb d_mo_next_20 ?_
      rw [← hQ]; exact mq_zret (z := 0) hx hb hr hlocks hK hlo hGO hG hw hS (Nat.zero_le _) (Nat.zero_le _) (Or.inl rfl) d_mo_next_21 ⟨rfl, hF, hR.fr [] (by simp) hF h0 (fun q _ hq => absurd hq List.not_mem_nil) (fun _ _ _ => rfl)⟩
set_option maxHeartbeats 4000000 in
set_option maxRecDepth 100000 in
theorem c_mo_skip0 (l : Launch) (D : va_G) (X : ClassId × ClassId × ClassId × ClassId) (lo : Nat) (G : State → Prop) (hGO : GOK lo G) (f : hM) (a : Nat) (b : Nat → Option Nat) (v : Nat → Int) (A : Nat → Nat) (g : Nat → Nat → Int) (hR : moR X f a b v A g) (h16 : v 16 = 0) (n : Int) (rn : iR n) : Met l y_mo_skip (Cond.code y_mo_skip b_mo_skip 3 (some FieldType.int) :: TB) ({ frames := 1, cells := 0, slots := 0, locals := 22 } : Room) (va_Pc [.ref a, .int (iI (n))] (Bq D CL (TYS X) lo G f)) (va_Qi (fun r f1 => r = iI 0 ∧ Fr [a] f f1 ∧ moR X f1 a b (va_up v 0 (if n < 0 then 1 else 2)) A g) (Bq D CL (TYS X) lo G) (fun q => lo ≤ q)) 0 0 (fun q => lo ≤ q) := by
  refine mt (by decide) (Nat.le_of_ble_eq_true rfl) ?_
  intro p e s m args below meth cd ls hx hb hr hml hown ht hlocks hnm hK hlo hG hw hS hl
  have hl : lv_has ls 3 [(0, .ref a), (1, .int (iI (n)))] := hl
  generalize hQ : MQ below _ args s _ _ _ = Q
  have hF : Fr [a] f f := Fr.rf
  have h0 := hR.1
  refine lv_aload_n hx hb d_mo_skip_0 rfl (lv_at hl 0 rfl) ?_
  have J10 : ∀ k : Int, k = (if n < 0 then 1 else 0) → W p l e ({ frames := 1, cells := 0, slots := 0, locals := 22 } : Room) s m args below meth cd s.heap [] 0 0 Q (F0 m 10 ls [.int (iI (k)), .ref a]) := by
    intro k h_k
    refine lv_aload_n hx hb d_mo_skip_10 rfl (lv_at hl 0 rfl) ?_
    refine mo_geti hx hb ht in_mo hown hK hw h0 rfl 16 (by decide) rfl (ht _ t_682) (fun _ h => h) d_mo_skip_11 ?_
    refine mi_if_ne (tgt := 21) hx hb d_mo_skip_14 (by decide) (by omega) (fun c_14 => ?_) (fun c_14 => ?_)
    · exact absurd c_14 (by omega)
    · skip
      refine mi_iconst hx hb d_mo_skip_17 ?_
      refine lv_goto (tgt := 22) hx hb d_mo_skip_18 (by decide) ?_
      refine mq_calli (va_runV (As := [.int (iI (k)), .int (iI (1))]) (rest := []) ⟨hx, hb, hml, hown, ht⟩ (c_mo_refuse l D X lo G hGO f a b v h0 (k) (1) (by split at h_k <;> omega) (Or.inr rfl)) (cwV 2 ht (good_V (fun _ h => h) t_792 t_789 t_791 s_19 t_7) rfl rfl rfl (by decide +kernel) ⟨Nat.le_of_ble_eq_true rfl, Nat.le_of_ble_eq_true rfl⟩) (mq_preV hK hlo hGO hG hw hS (hW.recv hK hw (ci := 6) rfl h0)) rfl rfl hl.1 rfl (lv_room (Nat.le_of_ble_eq_true rfl)) d_mo_skip_22 ⟨Nat.le_of_ble_eq_true rfl, Nat.le_of_ble_eq_true rfl⟩) hS (fun r1 f1 H locs hp hw hS => ?_)
      obtain ⟨rfl, hF1, h09⟩ := hp
      have hF := Fr.tr hF hF1 (by simp)
      have h0 := h09
      refine mi_if_eq (tgt := 30) hx hb d_mo_skip_25 (by decide) (by split <;> decide) (fun c_25 => ?_) (fun c_25 => ?_)
      · exact absurd c_25 (by rw [if_pos (Or.inr rfl)]; decide)
      · skip
        refine mi_iconst hx hb d_mo_skip_28 ?_
        rw [← hQ]; exact mq_iret hx hb hr hlocks hK hlo hGO hG hw hS (Nat.zero_le _) (Nat.zero_le _) d_mo_skip_29 ⟨rfl, hF, hR.fr [] (by simp) hF (by rw [h0, h_k]; split <;> rfl) (fun q _ hq => absurd hq List.not_mem_nil) (fun _ _ _ => rfl)⟩
  refine lv_iload_n hx hb d_mo_skip_1 rfl (lv_at hl 1 rfl) ?_
  refine mi_if_ge (tgt := 9) hx hb d_mo_skip_2 (by decide) rn (fun c_2 => ?_) (fun c_2 => ?_)
  · skip
    refine mi_iconst hx hb d_mo_skip_9 ?_
    exact J10 _ (by split <;> omega)
  · skip
    refine mi_iconst hx hb d_mo_skip_5 ?_
    refine lv_goto (tgt := 10) hx hb d_mo_skip_6 (by decide) ?_
    exact J10 _ (by split <;> omega)
set_option maxHeartbeats 4000000 in
set_option maxRecDepth 100000 in
theorem c_mo_packet0 (l : Launch) (D : va_G) (X : ClassId × ClassId × ClassId × ClassId) (lo : Nat) (G : State → Prop) (hGO : GOK lo G) (f : hM) (a : Nat) (b : Nat → Option Nat) (v : Nat → Int) (A : Nat → Nat) (g : Nat → Nat → Int) (hR : moR X f a b v A g) (h16 : v 16 = 0) (n : Int) (rn : iR n) : Met l y_mo_packet (Cond.code y_mo_packet b_mo_packet 2 (some FieldType.int) :: TB) ({ frames := 1, cells := 0, slots := 0, locals := 22 } : Room) (va_Pc [.ref a, .int (iI (n))] (Bq D CL (TYS X) lo G f)) (va_Qi (fun r f1 => r = iI 0 ∧ Fr [a] f f1 ∧ moR X f1 a b (va_up v 0 1) A g) (Bq D CL (TYS X) lo G) (fun q => lo ≤ q)) 0 0 (fun q => lo ≤ q) := by
  refine mt (by decide) (Nat.le_of_ble_eq_true rfl) ?_
  intro p e s m args below meth cd ls hx hb hr hml hown ht hlocks hnm hK hlo hG hw hS hl
  have hl : lv_has ls 2 [(0, .ref a), (1, .int (iI (n)))] := hl
  generalize hQ : MQ below _ args s _ _ _ = Q
  have hF : Fr [a] f f := Fr.rf
  have h0 := hR.1
  refine lv_aload_n hx hb d_mo_packet_0 rfl (lv_at hl 0 rfl) ?_
  refine lv_aload_n hx hb d_mo_packet_1 rfl (lv_at hl 0 rfl) ?_
  refine mo_geti hx hb ht in_mo hown hK hw h0 rfl 16 (by decide) rfl (ht _ t_682) (fun _ h => h) d_mo_packet_2 ?_
  refine mi_if_eq (tgt := 24) hx hb d_mo_packet_5 (by decide) (by omega) (fun c_5 => ?_) (fun c_5 => ?_)
  · skip
    refine mi_iconst hx hb d_mo_packet_24 ?_
    refine lv_goto (tgt := 29) hx hb d_mo_packet_25 (by decide) ?_
    refine mi_iconst hx hb d_mo_packet_29 ?_
    refine mq_calli (va_runV (As := [.int (iI (1)), .int (iI (0))]) (rest := []) ⟨hx, hb, hml, hown, ht⟩ (c_mo_refuse l D X lo G hGO f a b v h0 (1) (0) (Or.inr rfl) (Or.inl rfl)) (cwV 2 ht (good_V (fun _ h => h) t_792 t_789 t_791 s_19 t_7) rfl rfl rfl (by decide +kernel) ⟨Nat.le_of_ble_eq_true rfl, Nat.le_of_ble_eq_true rfl⟩) (mq_preV hK hlo hGO hG hw hS (hW.recv hK hw (ci := 6) rfl h0)) rfl rfl hl.1 rfl (lv_room (Nat.le_of_ble_eq_true rfl)) d_mo_packet_30 ⟨Nat.le_of_ble_eq_true rfl, Nat.le_of_ble_eq_true rfl⟩) hS (fun r1 f1 H locs hp hw hS => ?_)
    obtain ⟨rfl, hF1, h09⟩ := hp
    have hF := Fr.tr hF hF1 (by simp)
    have h0 := h09
    refine mi_if_eq (tgt := 38) hx hb d_mo_packet_33 (by decide) (by split <;> decide) (fun c_33 => ?_) (fun c_33 => ?_)
    · exact absurd c_33 (by decide)
    · skip
      refine mi_iconst hx hb d_mo_packet_36 ?_
      rw [← hQ]; exact mq_iret hx hb hr hlocks hK hlo hGO hG hw hS (Nat.zero_le _) (Nat.zero_le _) d_mo_packet_37 ⟨rfl, hF, hR.fr [] (by simp) hF h0 (fun q _ hq => absurd hq List.not_mem_nil) (fun _ _ _ => rfl)⟩
  · exact absurd c_5 (by omega)
set_option maxHeartbeats 4000000 in
set_option maxRecDepth 100000 in
theorem c_mo_came0 (l : Launch) (D : va_G) (X : ClassId × ClassId × ClassId × ClassId) (lo : Nat) (G : State → Prop) (hGO : GOK lo G) (f : hM) (a : Nat) (b : Nat → Option Nat) (v : Nat → Int) (A : Nat → Nat) (g : Nat → Nat → Int) (hR : moR X f a b v A g) (h16 : v 16 = 0) (n k j : Int) (rn : iR n) (rk : iR k) (rj : iR j) : Met l y_mo_came (Cond.code y_mo_came b_mo_came 6 (some FieldType.int) :: TB) ({ frames := 1, cells := 0, slots := 0, locals := 22 } : Room) (va_Pc [.ref a, .int (iI (n)), .int (iI (k)), .int (iI (j))] (Bq D CL (TYS X) lo G f)) (va_Qi (fun r f1 => r = iI 0 ∧ Fr [a] f f1 ∧ moR X f1 a b (va_up v 0 1) A g) (Bq D CL (TYS X) lo G) (fun q => lo ≤ q)) 0 0 (fun q => lo ≤ q) := by
  refine mt (by decide) (Nat.le_of_ble_eq_true rfl) ?_
  intro p e s m args below meth cd ls hx hb hr hml hown ht hlocks hnm hK hlo hG hw hS hl
  have hl : lv_has ls 6 [(0, .ref a), (1, .int (iI (n))), (2, .int (iI (k))), (3, .int (iI (j)))] := hl
  generalize hQ : MQ below _ args s _ _ _ = Q
  have hF : Fr [a] f f := Fr.rf
  have h0 := hR.1
  refine mi_iconst hx hb d_mo_came_0 ?_
  refine lv_istore (lv' := [(4, .int (iI (-1))), (0, .ref a), (1, .int (iI (n))), (2, .int (iI (k))), (3, .int (iI (j)))]) hx hb d_mo_came_1 hl (by decide) rfl (fun ls hl => ?_)
  refine mi_iconst hx hb d_mo_came_3 ?_
  refine lv_istore (lv' := [(5, .int (iI (0))), (4, .int (iI (-1))), (0, .ref a), (1, .int (iI (n))), (2, .int (iI (k))), (3, .int (iI (j)))]) hx hb d_mo_came_4 hl (by decide) rfl (fun ls hl => ?_)
  refine lv_aload_n hx hb d_mo_came_6 rfl (lv_at hl 2 rfl) ?_
  refine mo_geti hx hb ht in_mo hown hK hw h0 rfl 16 (by decide) rfl (ht _ t_682) (fun _ h => h) d_mo_came_7 ?_
  refine mi_if_eq (tgt := 70) hx hb d_mo_came_10 (by decide) (by omega) (fun c_10 => ?_) (fun c_10 => ?_)
  · skip
    refine lv_aload_n hx hb d_mo_came_70 rfl (lv_at hl 2 rfl) ?_
    refine lv_iload hx hb d_mo_came_71 (lv_at hl 1 rfl) ?_
    refine mi_if_ge (tgt := 80) hx hb d_mo_came_73 (by decide) (by decide) (fun c_73 => ?_) (fun c_73 => ?_)
    · exact absurd c_73 (by decide)
    · skip
      refine mi_iconst hx hb d_mo_came_76 ?_
      refine lv_goto (tgt := 81) hx hb d_mo_came_77 (by decide) ?_
      refine mi_iconst hx hb d_mo_came_81 ?_
      refine mq_calli (va_runV (As := [.int (iI (1)), .int (iI (0))]) (rest := []) ⟨hx, hb, hml, hown, ht⟩ (c_mo_refuse l D X lo G hGO f a b v h0 (1) (0) (Or.inr rfl) (Or.inl rfl)) (cwV 2 ht (good_V (fun _ h => h) t_792 t_789 t_791 s_19 t_7) rfl rfl rfl (by decide +kernel) ⟨Nat.le_of_ble_eq_true rfl, Nat.le_of_ble_eq_true rfl⟩) (mq_preV hK hlo hGO hG hw hS (hW.recv hK hw (ci := 6) rfl h0)) rfl rfl hl.1 rfl (lv_room (Nat.le_of_ble_eq_true rfl)) d_mo_came_82 ⟨Nat.le_of_ble_eq_true rfl, Nat.le_of_ble_eq_true rfl⟩) hS (fun r1 f1 H locs hp hw hS => ?_)
      obtain ⟨rfl, hF1, h09⟩ := hp
      have hF := Fr.tr hF hF1 (by simp)
      have h0 := h09
      refine mi_if_eq (tgt := 90) hx hb d_mo_came_85 (by decide) (by split <;> decide) (fun c_85 => ?_) (fun c_85 => ?_)
      · exact absurd c_85 (by decide)
      · skip
        refine mi_iconst hx hb d_mo_came_88 ?_
        rw [← hQ]; exact mq_iret hx hb hr hlocks hK hlo hGO hG hw hS (Nat.zero_le _) (Nat.zero_le _) d_mo_came_89 ⟨rfl, hF, hR.fr [] (by simp) hF h0 (fun q _ hq => absurd hq List.not_mem_nil) (fun _ _ _ => rfl)⟩
  · exact absurd c_10 (by omega)
