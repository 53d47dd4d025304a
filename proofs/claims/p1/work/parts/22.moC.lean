/-! the reference: component, isLevel, precincts -/
def fl (g : Nat → Int) (s n : Nat) (x : Int) : Nat → Int := fun j => if s ≤ j ∧ j < s + n then x else g j
theorem fl_0 (g : Nat → Int) (s : Nat) (x : Int) : fl g s 0 x = g := by funext j; unfold fl; rw [if_neg (by omega)]
theorem fl_up (g : Nat → Int) (s n : Nat) (x : Int) : va_up (fl g s n x) (s + n) x = fl g s (n + 1) x := by
  funext j; unfold fl va_up
  by_cases h : j = s + n
  · rw [if_pos h, if_pos (by omega)]
  · rw [if_neg h]
    show (if s ≤ j ∧ j < s + n then x else g j) = _
    by_cases h2 : s ≤ j ∧ j < s + n
    · rw [if_pos h2, if_pos (by omega)]
    · rw [if_neg h2, if_neg (by omega)]
abbrev gCmp (x y z : Int) : Prop := 1 ≤ x ∧ x ≤ 255 ∧ 1 ≤ y ∧ y ≤ 255 ∧ 0 ≤ z ∧ z ≤ 32
def mCmpV (v : Nat → Int) (nc : Nat) (x y z : Int) : Nat → Int := if gCmp x y z then (if nc = 16 then va_up v 0 2 else (va_up (va_up (va_up v 0 0) 16 0) 6 ((nc : Int) + 1))) else va_up v 0 1
def mCmpG (g : Nat → Nat → Int) (nc : Nat) (x y z : Int) : Nat → Nat → Int := if gCmp x y z ∧ nc ≠ 16 then va_up (va_up (va_up (va_up (va_up g 7 (va_up (g 7) nc x)) 8 (va_up (g 8) nc y)) 9 (va_up (g 9) nc z)) 10 (fl (g 10) (33 * nc) 33 15)) 11 (fl (g 11) (33 * nc) 33 15) else g
set_option maxHeartbeats 4000000 in
set_option maxRecDepth 100000 in
theorem c_mo_component (l : Launch) (D : va_G) (X : ClassId × ClassId × ClassId × ClassId) (lo : Nat) (G : State → Prop) (hGO : GOK lo G) (f : hM) (a : Nat) (b : Nat → Option Nat) (v : Nat → Int) (A : Nat → Nat) (g : Nat → Nat → Int) (hR : moR X f a b v A g) (nc : Nat) (hc : v 6 = (nc : Int)) (hc2 : nc ≤ 16) (x y z : Int) (rx : iR x) (ry : iR y) (rz : iR z) : Met l y_mo_component (Cond.code y_mo_component b_mo_component 6 (some FieldType.int) :: TB) ({ frames := 1, cells := 0, slots := 0, locals := 22 } : Room) (va_Pc [.ref a, .int (iI (x)), .int (iI (y)), .int (iI (z))] (Bq D CL (TYS X) lo G f)) (va_Qi (fun r f1 => r = iI (if gCmp x y z ∧ nc ≠ 16 then (nc : Int) else 0) ∧ Fr (a :: [7, 8, 9, 10, 11].map A) f f1 ∧ moR X f1 a b (mCmpV v nc x y z) A (mCmpG g nc x y z)) (Bq D CL (TYS X) lo G) (fun q => lo ≤ q)) 0 0 (fun q => lo ≤ q) := by
  refine mt (by decide) (Nat.le_of_ble_eq_true rfl) ?_
  intro p e s m args below meth cd ls hx hb hr hml hown ht hlocks hnm hK hlo hG hw hS hl
  have hl : lv_has ls 6 [(0, .ref a), (1, .int (iI (x))), (2, .int (iI (y))), (3, .int (iI (z)))] := hl
  generalize hQ : MQ below _ args s _ _ _ = Q
  have hF : Fr (a :: [7, 8, 9, 10, 11].map A) f f := Fr.rf
  have h0 := hR.1
  have h7 : f (A 7) = some (eI X.1 16 (g 7)) := (hR.2.1 (7, 16, false) (by decide)).2
  have b7 : b 7 = some (A 7) := (hR.2.1 (7, 16, false) (by decide)).1
  have n7 : A 7 ≠ a := hR.ne (by decide)
  have h8 : f (A 8) = some (eI X.1 16 (g 8)) := (hR.2.1 (8, 16, false) (by decide)).2
  have b8 : b 8 = some (A 8) := (hR.2.1 (8, 16, false) (by decide)).1
  have n8 : A 8 ≠ a := hR.ne (by decide)
  have h9 : f (A 9) = some (eI X.1 16 (g 9)) := (hR.2.1 (9, 16, false) (by decide)).2
  have b9 : b 9 = some (A 9) := (hR.2.1 (9, 16, false) (by decide)).1
  have n9 : A 9 ≠ a := hR.ne (by decide)
  have h10 : f (A 10) = some (eI X.1 528 (g 10)) := (hR.2.1 (10, 528, false) (by decide)).2
  have b10 : b 10 = some (A 10) := (hR.2.1 (10, 528, false) (by decide)).1
  have n10 : A 10 ≠ a := hR.ne (by decide)
  have h11 : f (A 11) = some (eI X.1 528 (g 11)) := (hR.2.1 (11, 528, false) (by decide)).2
  have b11 : b 11 = some (A 11) := (hR.2.1 (11, 528, false) (by decide)).1
  have n11 : A 11 ≠ a := hR.ne (by decide)
  have J39 : ∀ k : Int, k = (if gCmp x y z then 1 else 0) → W p l e ({ frames := 1, cells := 0, slots := 0, locals := 22 } : Room) s m args below meth cd s.heap [] 0 0 Q (F0 m 39 ls [.int (iI (k))]) := by
    intro k h_k
    refine lv_istore (lv' := [(4, .int (iI (k))), (0, .ref a), (1, .int (iI (x))), (2, .int (iI (y))), (3, .int (iI (z)))]) hx hb d_mo_component_39 hl (by decide) rfl (fun ls hl => ?_)
    refine lv_aload_n hx hb d_mo_component_41 rfl (lv_at hl 1 rfl) ?_
    have J52 : ∀ nn : Int, nn = (if gCmp x y z then 0 else 1) → W p l e ({ frames := 1, cells := 0, slots := 0, locals := 22 } : Room) s m args below meth cd s.heap [] 0 0 Q (F0 m 52 ls [.int (iI (nn)), .ref a]) := by
      intro nn h_nn
      have J66 : ∀ ii : Int, ii = (if nc = 16 then 1 else 0) → W p l e ({ frames := 1, cells := 0, slots := 0, locals := 22 } : Room) s m args below meth cd s.heap [] 0 0 Q (F0 m 66 ls [.int (iI (ii)), .int (iI (nn)), .ref a]) := by
        intro ii h_ii
        refine mq_calli (va_runV (As := [.int (iI (nn)), .int (iI (ii))]) (rest := []) ⟨hx, hb, hml, hown, ht⟩ (c_mo_refuse l D X lo G hGO f a b v h0 (nn) (ii) (by split at h_nn <;> omega) (by split at h_ii <;> omega)) (cwV 2 ht (good_V (fun _ h => h) t_792 t_789 t_791 s_19 t_7) rfl rfl rfl (by decide +kernel) ⟨Nat.le_of_ble_eq_true rfl, Nat.le_of_ble_eq_true rfl⟩) (mq_preV hK hlo hGO hG hw hS (hW.recv hK hw (ci := 6) rfl h0)) rfl rfl hl.1 rfl (lv_room (Nat.le_of_ble_eq_true rfl)) d_mo_component_66 ⟨Nat.le_of_ble_eq_true rfl, Nat.le_of_ble_eq_true rfl⟩) hS (fun r1 f1 H locs hp hw hS => ?_)
        obtain ⟨rfl, hF1, h09⟩ := hp
        have h7 := Fr.keep hF1 h7 (by simpa using n7)
        have h8 := Fr.keep hF1 h8 (by simpa using n8)
        have h9 := Fr.keep hF1 h9 (by simpa using n9)
        have h10 := Fr.keep hF1 h10 (by simpa using n10)
        have h11 := Fr.keep hF1 h11 (by simpa using n11)
        have hF := Fr.tr hF hF1 (by simp)
        have h0 := h09
        refine mi_if_eq (tgt := 74) hx hb d_mo_component_69 (by decide) (by split <;> decide) (fun c_69 => ?_) (fun c_69 => ?_)
        · skip
          have hg : gCmp x y z := Classical.byContradiction (fun hg => by rw [if_neg hg] at h_nn; subst h_nn; simp at c_69)
          have hc3 : nc ≠ 16 := fun h3 => by rw [if_pos hg] at h_nn; rw [if_pos h3] at h_ii; subst h_nn h_ii; simp at c_69
          have hcl : nc < 16 := by omega
          refine lv_aload_n hx hb d_mo_component_74 rfl (lv_at hl 1 rfl) ?_
          refine mo_getr hx hb ht in_mo hown hK hw h0 rfl 7 (by decide) rfl b7 (ht _ t_673) (fun _ h => h) d_mo_component_75 ?_
          refine lv_aload_n hx hb d_mo_component_78 rfl (lv_at hl 1 rfl) ?_
          refine mo_geti hx hb ht in_mo hown hK hw h0 rfl 6 (by decide) rfl (ht _ t_672) (fun _ h => h) d_mo_component_79 ?_
          rw [show (va_up v 0 (if nn = 1 then 1 else if ii = 1 then 2 else 0)) 6 = v 6 from rfl]
          refine lv_iload_n hx hb d_mo_component_82 rfl (lv_at hl 2 rfl) ?_
          refine mo_iast hx hb hK hw hS 0 h7 rfl (nc) (by omega) (by omega) (by decide) d_mo_component_83 (fun H locs f2 hf2 hw hS => ?_)
          have h0 := eq_n hf2 h0 n7.symm
          have h7 := eq_s hf2
          have h8 := eq_n hf2 h8 (hR.nn 8 7 (by decide) (by decide) (by decide))
          have h9 := eq_n hf2 h9 (hR.nn 9 7 (by decide) (by decide) (by decide))
          have h10 := eq_n hf2 h10 (hR.nn 10 7 (by decide) (by decide) (by decide))
          have h11 := eq_n hf2 h11 (hR.nn 11 7 (by decide) (by decide) (by decide))
          have hF := Fr.up hF hf2 (by simp)
          refine lv_aload_n hx hb d_mo_component_84 rfl (lv_at hl 1 rfl) ?_
          refine mo_getr hx hb ht in_mo hown hK hw h0 rfl 8 (by decide) rfl b8 (ht _ t_674) (fun _ h => h) d_mo_component_85 ?_
          refine lv_aload_n hx hb d_mo_component_88 rfl (lv_at hl 1 rfl) ?_
          refine mo_geti hx hb ht in_mo hown hK hw h0 rfl 6 (by decide) rfl (ht _ t_672) (fun _ h => h) d_mo_component_89 ?_
          rw [show (va_up v 0 (if nn = 1 then 1 else if ii = 1 then 2 else 0)) 6 = v 6 from rfl]
          refine lv_iload_n hx hb d_mo_component_92 rfl (lv_at hl 3 rfl) ?_
          refine mo_iast hx hb hK hw hS 0 h8 rfl (nc) (by omega) (by omega) (by decide) d_mo_component_93 (fun H locs f3 hf3 hw hS => ?_)
          have h0 := eq_n hf3 h0 n8.symm
          have h7 := eq_n hf3 h7 (hR.nn 7 8 (by decide) (by decide) (by decide))
          have h8 := eq_s hf3
          have h9 := eq_n hf3 h9 (hR.nn 9 8 (by decide) (by decide) (by decide))
          have h10 := eq_n hf3 h10 (hR.nn 10 8 (by decide) (by decide) (by decide))
          have h11 := eq_n hf3 h11 (hR.nn 11 8 (by decide) (by decide) (by decide))
          have hF := Fr.up hF hf3 (by simp)
          refine lv_aload_n hx hb d_mo_component_94 rfl (lv_at hl 1 rfl) ?_
          refine mo_getr hx hb ht in_mo hown hK hw h0 rfl 9 (by decide) rfl b9 (ht _ t_675) (fun _ h => h) d_mo_component_95 ?_
          refine lv_aload_n hx hb d_mo_component_98 rfl (lv_at hl 1 rfl) ?_
          refine mo_geti hx hb ht in_mo hown hK hw h0 rfl 6 (by decide) rfl (ht _ t_672) (fun _ h => h) d_mo_component_99 ?_
          rw [show (va_up v 0 (if nn = 1 then 1 else if ii = 1 then 2 else 0)) 6 = v 6 from rfl]
          refine lv_iload_n hx hb d_mo_component_102 rfl (lv_at hl 4 rfl) ?_
          refine mo_iast hx hb hK hw hS 0 h9 rfl (nc) (by omega) (by omega) (by decide) d_mo_component_103 (fun H locs f4 hf4 hw hS => ?_)
          have h0 := eq_n hf4 h0 n9.symm
          have h7 := eq_n hf4 h7 (hR.nn 7 9 (by decide) (by decide) (by decide))
          have h8 := eq_n hf4 h8 (hR.nn 8 9 (by decide) (by decide) (by decide))
          have h9 := eq_s hf4
          have h10 := eq_n hf4 h10 (hR.nn 10 9 (by decide) (by decide) (by decide))
          have h11 := eq_n hf4 h11 (hR.nn 11 9 (by decide) (by decide) (by decide))
          have hF := Fr.up hF hf4 (by simp)
          refine mi_iconst hx hb d_mo_component_104 ?_
          refine lv_istore (lv' := [(5, .int (iI (0))), (4, .int (iI (k))), (0, .ref a), (1, .int (iI (x))), (2, .int (iI (y))), (3, .int (iI (z)))]) hx hb d_mo_component_105 hl (by decide) rfl (fun ls hl => ?_)
          have L107 : ∀ (n i : Nat) (f1 : hM) (H : Heap) (locs : List Loc) (ls : Array Slot), i + n = 33 → hW D CL lo f1 H → va_S (fun q => lo ≤ q) s.heap H locs → f1 a = some (eO 6 (oF sh_mo b (va_up v 0 (if nn = 1 then 1 else if ii = 1 then 2 else 0)))) → f1 (A 7) = some (eI X.1 16 (va_up (g 7) (nc) (x))) → f1 (A 8) = some (eI X.1 16 (va_up (g 8) (nc) (y))) → f1 (A 9) = some (eI X.1 16 (va_up (g 9) (nc) (z))) → f1 (A 10) = some (eI X.1 528 (fl (g 10) (33 * nc) i 15)) → f1 (A 11) = some (eI X.1 528 (fl (g 11) (33 * nc) i 15)) → Fr (a :: [7, 8, 9, 10, 11].map A) f f1 → lv_has ls 6 [(0, .ref a), (1, .int (iI (x))), (2, .int (iI (y))), (3, .int (iI (z))), (4, .int (iI (k))), (5, .int (iI ((i : Int))))] → W p l e ({ frames := 1, cells := 0, slots := 0, locals := 22 } : Room) s m args below meth cd H locs 0 0 Q (F0 m 107 ls []) := by
            intro n
            induction n with
            | zero =>
              intro i f1 H locs ls hrel hw hS h0 h7 h8 h9 h10 h11 hF hl
              refine lv_iload hx hb d_mo_component_107 (lv_at hl 5 rfl) ?_
              refine mi_bipush hx hb d_mo_component_109 (by decide) ?_
              refine mi_icmp_ge (tgt := 154) hx hb d_mo_component_111 (by decide) (by omega) (by decide) (fun c_111 => ?_) (fun c_111 => ?_)
              · skip
                refine lv_aload_n hx hb d_mo_component_154 rfl (lv_at hl 0 rfl) ?_
                refine mi_iconst hx hb d_mo_component_155 ?_
                refine mo_puti hx hb ht in_mo ty_mo tyok_mo nm_mo hown hK hw hS h0 rfl 16 (by decide) rfl (ht _ t_682) (fun _ h => h) rfl (tyok_mo 16 (by decide)) rfl rfl d_mo_component_156 (fun H locs f5 hf5 hw hS => ?_)
                have h0 := eq_s hf5
                have h7 := eq_n hf5 h7 n7
                have h8 := eq_n hf5 h8 n8
                have h9 := eq_n hf5 h9 n9
                have h10 := eq_n hf5 h10 n10
                have h11 := eq_n hf5 h11 n11
                have hF := Fr.up hF hf5 (by simp)
                refine lv_aload_n hx hb d_mo_component_159 rfl (lv_at hl 0 rfl) ?_
                refine lv_dup hx hb d_mo_component_160 rfl ?_
                refine mo_geti hx hb ht in_mo hown hK hw h0 rfl 6 (by decide) rfl (ht _ t_672) (fun _ h => h) d_mo_component_161 ?_
                rw [show (va_up (va_up v 0 (if nn = 1 then 1 else if ii = 1 then 2 else 0)) 16 (0)) 6 = v 6 from rfl]
                refine mi_iconst hx hb d_mo_component_164 ?_
                refine mi_iadd hx hb d_mo_component_165 ?_
                refine mo_puti hx hb ht in_mo ty_mo tyok_mo nm_mo hown hK hw hS h0 rfl 6 (by decide) rfl (ht _ t_672) (fun _ h => h) rfl (tyok_mo 6 (by decide)) rfl rfl d_mo_component_166 (fun H locs f6 hf6 hw hS => ?_)
                have h0 := eq_s hf6
                have h7 := eq_n hf6 h7 n7
                have h8 := eq_n hf6 h8 n8
                have h9 := eq_n hf6 h9 n9
                have h10 := eq_n hf6 h10 n10
                have h11 := eq_n hf6 h11 n11
                have hF := Fr.up hF hf6 (by simp)
                refine lv_aload_n hx hb d_mo_component_169 rfl (lv_at hl 0 rfl) ?_
                refine mo_geti hx hb ht in_mo hown hK hw h0 rfl 6 (by decide) rfl (ht _ t_672) (fun _ h => h) d_mo_component_170 ?_
                rw [show (va_up (va_up (va_up v 0 (if nn = 1 then 1 else if ii = 1 then 2 else 0)) 16 (0)) 6 ((v 6) + (1))) 6 = (v 6) + (1) from rfl]
                refine mi_iconst hx hb d_mo_component_173 ?_
                refine mi_isub hx hb d_mo_component_174 ?_
                have h33 : i = 33 := by omega
                subst h33
                rw [if_pos hg] at h_nn
                rw [if_neg hc3] at h_ii
                subst h_nn h_ii
                rw [← hQ]; exact mq_iret hx hb hr hlocks hK hlo hGO hG hw hS (Nat.zero_le _) (Nat.zero_le _) d_mo_component_175 ⟨by rw [if_pos ⟨hg, hc3⟩, hc]; congr 1; omega, hF, hR.fr [7, 8, 9, 10, 11] (by decide) hF (by rw [h0]; unfold mCmpV; rw [if_pos hg, if_neg hc3]; show some (eO 6 (oF sh_mo b (va_up (va_up (va_up v 0 0) 16 0) 6 (v 6 + 1)))) = _; rw [hc]) (fun q hq hk => by
                  have e9 : q = (7, 16, false) ∨ q = (8, 16, false) ∨ q = (9, 16, false) ∨ q = (10, 528, false) ∨ q = (11, 528, false) := (by revert q; decide)
                  unfold mCmpG; rw [if_pos ⟨hg, hc3⟩]
                  rcases e9 with rfl | rfl | rfl | rfl | rfl
                  · exact h7
                  · exact h8
                  · exact h9
                  · exact h10
                  · exact h11
                  ) (fun k _ hk => by unfold mCmpG; rw [if_pos ⟨hg, hc3⟩]; simp only [List.mem_cons, List.not_mem_nil, or_false, not_or] at hk; rw [va_up_ne _ _ hk.2.2.2.2, va_up_ne _ _ hk.2.2.2.1, va_up_ne _ _ hk.2.2.1, va_up_ne _ _ hk.2.1, va_up_ne _ _ hk.1])⟩
              · exact absurd c_111 (by omega)
            | succ n ih =>
              intro i f1 H locs ls hrel hw hS h0 h7 h8 h9 h10 h11 hF hl
              refine lv_iload hx hb d_mo_component_107 (lv_at hl 5 rfl) ?_
              refine mi_bipush hx hb d_mo_component_109 (by decide) ?_
              refine mi_icmp_ge (tgt := 154) hx hb d_mo_component_111 (by decide) (by omega) (by decide) (fun c_111 => ?_) (fun c_111 => ?_)
              · exact absurd c_111 (by omega)
              · skip
                refine lv_aload_n hx hb d_mo_component_114 rfl (lv_at hl 0 rfl) ?_
                refine mo_getr hx hb ht in_mo hown hK hw h0 rfl 10 (by decide) rfl b10 (ht _ t_676) (fun _ h => h) d_mo_component_115 ?_
                refine mi_bipush hx hb d_mo_component_118 (by decide) ?_
                refine lv_aload_n hx hb d_mo_component_120 rfl (lv_at hl 0 rfl) ?_
                refine mo_geti hx hb ht in_mo hown hK hw h0 rfl 6 (by decide) rfl (ht _ t_672) (fun _ h => h) d_mo_component_121 ?_
                rw [show (va_up v 0 (if nn = 1 then 1 else if ii = 1 then 2 else 0)) 6 = v 6 from rfl]
                refine mi_imul hx hb d_mo_component_124 ?_
                refine lv_iload hx hb d_mo_component_125 (lv_at hl 5 rfl) ?_
                refine mi_iadd hx hb d_mo_component_127 ?_
                refine mi_bipush hx hb d_mo_component_128 (by decide) ?_
                refine mo_iast hx hb hK hw hS 0 h10 rfl (33 * nc + i) (by omega) (by omega) (by decide) d_mo_component_130 (fun H locs f7 hf7 hw hS => ?_)
                have h0 := eq_n hf7 h0 n10.symm
                have h7 := eq_n hf7 h7 (hR.nn 7 10 (by decide) (by decide) (by decide))
                have h8 := eq_n hf7 h8 (hR.nn 8 10 (by decide) (by decide) (by decide))
                have h9 := eq_n hf7 h9 (hR.nn 9 10 (by decide) (by decide) (by decide))
                have h10 := eq_s hf7
                have h11 := eq_n hf7 h11 (hR.nn 11 10 (by decide) (by decide) (by decide))
                have hF := Fr.up hF hf7 (by simp)
                refine lv_aload_n hx hb d_mo_component_131 rfl (lv_at hl 0 rfl) ?_
                refine mo_getr hx hb ht in_mo hown hK hw h0 rfl 11 (by decide) rfl b11 (ht _ t_677) (fun _ h => h) d_mo_component_132 ?_
                refine mi_bipush hx hb d_mo_component_135 (by decide) ?_
                refine lv_aload_n hx hb d_mo_component_137 rfl (lv_at hl 0 rfl) ?_
                refine mo_geti hx hb ht in_mo hown hK hw h0 rfl 6 (by decide) rfl (ht _ t_672) (fun _ h => h) d_mo_component_138 ?_
                rw [show (va_up v 0 (if nn = 1 then 1 else if ii = 1 then 2 else 0)) 6 = v 6 from rfl]
                refine mi_imul hx hb d_mo_component_141 ?_
                refine lv_iload hx hb d_mo_component_142 (lv_at hl 5 rfl) ?_
                refine mi_iadd hx hb d_mo_component_144 ?_
                refine mi_bipush hx hb d_mo_component_145 (by decide) ?_
                refine mo_iast hx hb hK hw hS 0 h11 rfl (33 * nc + i) (by omega) (by omega) (by decide) d_mo_component_147 (fun H locs f8 hf8 hw hS => ?_)
                have h0 := eq_n hf8 h0 n11.symm
                have h7 := eq_n hf8 h7 (hR.nn 7 11 (by decide) (by decide) (by decide))
                have h8 := eq_n hf8 h8 (hR.nn 8 11 (by decide) (by decide) (by decide))
                have h9 := eq_n hf8 h9 (hR.nn 9 11 (by decide) (by decide) (by decide))
                have h10 := eq_n hf8 h10 (hR.nn 10 11 (by decide) (by decide) (by decide))
                have h11 := eq_s hf8
                have hF := Fr.up hF hf8 (by simp)
                refine lv_iinc (v := iI (((i : Int)) + 1)) (lv' := [(5, .int (iI (((i : Int)) + 1))), (0, .ref a), (1, .int (iI (x))), (2, .int (iI (y))), (3, .int (iI (z))), (4, .int (iI (k)))]) hx hb d_mo_component_148 hl (k := 5) rfl (by rw [← iI_add]; rfl) (by decide) rfl (fun ls hl => ?_)
                refine lv_goto (tgt := 107) hx hb d_mo_component_151 (by decide) ?_
                rw [fl_up] at h10 h11
                exact ih (i + 1) _ _ _ ls (by omega) hw hS h0 h7 h8 h9 h10 h11 hF (lv_sub hl [1, 2, 3, 4, 5, 0] rfl)
          rw [← fl_0 (g 10) (33 * nc) 15] at h10
          rw [← fl_0 (g 11) (33 * nc) 15] at h11
          exact L107 33 0 _ _ _ ls (by omega) hw hS h0 h7 h8 h9 h10 h11 hF (lv_sub hl [2, 3, 4, 5, 1, 0] rfl)
        · skip
          refine mi_iconst hx hb d_mo_component_72 ?_
          have hng : ¬ (gCmp x y z ∧ nc ≠ 16) := fun z9 => by rw [if_pos z9.1] at h_nn; rw [if_neg z9.2] at h_ii; subst h_nn h_ii; simp at c_69
          have hv9 : eO 6 (oF sh_mo b (va_up v 0 (if nn = 1 then 1 else if ii = 1 then 2 else 0))) = eO 6 (oF sh_mo b (mCmpV v nc x y z)) := by
            unfold mCmpV; by_cases hg : gCmp x y z
            · have h3 : nc = 16 := Classical.byContradiction (fun z9 => hng ⟨hg, z9⟩)
              rw [if_pos hg] at h_nn ⊢; rw [if_pos h3] at h_ii ⊢; subst h_nn h_ii; rfl
            · rw [if_neg hg] at h_nn ⊢; subst h_nn; rfl
          rw [← hQ]; exact mq_iret hx hb hr hlocks hK hlo hGO hG hw hS (Nat.zero_le _) (Nat.zero_le _) d_mo_component_73 ⟨by rw [if_neg hng], hF, hR.fr [7, 8, 9, 10, 11] (by decide) hF (by rw [h0, hv9]) (fun q hq hk => by
            have e9 : q = (7, 16, false) ∨ q = (8, 16, false) ∨ q = (9, 16, false) ∨ q = (10, 528, false) ∨ q = (11, 528, false) := (by revert q; decide)
            unfold mCmpG; rw [if_neg hng]
            rcases e9 with rfl | rfl | rfl | rfl | rfl
            · exact h7
            · exact h8
            · exact h9
            · exact h10
            · exact h11
            ) (fun k _ hk => by unfold mCmpG; rw [if_neg hng])⟩
      refine lv_aload_n hx hb d_mo_component_52 rfl (lv_at hl 1 rfl) ?_
      refine mo_geti hx hb ht in_mo hown hK hw h0 rfl 6 (by decide) rfl (ht _ t_672) (fun _ h => h) d_mo_component_53 ?_
      refine mi_bipush hx hb d_mo_component_56 (by decide) ?_
      refine mi_icmp_ne (tgt := 65) hx hb d_mo_component_58 (by decide) (by omega) (by decide) (fun c_58 => ?_) (fun c_58 => ?_)
      · skip
        refine mi_iconst hx hb d_mo_component_65 ?_
        exact J66 _ (by split <;> omega)
      · skip
        refine mi_iconst hx hb d_mo_component_61 ?_
        refine lv_goto (tgt := 66) hx hb d_mo_component_62 (by decide) ?_
        exact J66 _ (by split <;> omega)
    refine lv_iload hx hb d_mo_component_42 (lv_at hl 0 rfl) ?_
    refine mi_if_ne (tgt := 51) hx hb d_mo_component_44 (by decide) (by split at h_k <;> omega) (fun c_44 => ?_) (fun c_44 => ?_)
    · skip
      refine mi_iconst hx hb d_mo_component_51 ?_
      exact J52 _ (by split at h_k <;> split <;> omega)
    · skip
      refine mi_iconst hx hb d_mo_component_47 ?_
      refine lv_goto (tgt := 52) hx hb d_mo_component_48 (by decide) ?_
      exact J52 _ (by split at h_k <;> split <;> omega)
  refine lv_iload_n hx hb d_mo_component_0 rfl (lv_at hl 1 rfl) ?_
  refine mi_iconst hx hb d_mo_component_1 ?_
  refine mi_icmp_lt (tgt := 38) hx hb d_mo_component_2 (by decide) rx (by decide) (fun c_2 => ?_) (fun c_2 => ?_)
  · skip
    refine mi_iconst hx hb d_mo_component_38 ?_
    exact J39 _ (by split <;> omega)
  · skip
    refine lv_iload_n hx hb d_mo_component_5 rfl (lv_at hl 1 rfl) ?_
    refine mi_sipush hx hb d_mo_component_6 (by decide) ?_
    refine mi_icmp_gt (tgt := 38) hx hb d_mo_component_9 (by decide) rx (by decide) (fun c_9 => ?_) (fun c_9 => ?_)
    · skip
      refine mi_iconst hx hb d_mo_component_38 ?_
      exact J39 _ (by split <;> omega)
    · skip
      refine lv_iload_n hx hb d_mo_component_12 rfl (lv_at hl 2 rfl) ?_
      refine mi_iconst hx hb d_mo_component_13 ?_
      refine mi_icmp_lt (tgt := 38) hx hb d_mo_component_14 (by decide) ry (by decide) (fun c_14 => ?_) (fun c_14 => ?_)
      · skip
        refine mi_iconst hx hb d_mo_component_38 ?_
        exact J39 _ (by split <;> omega)
      · skip
        refine lv_iload_n hx hb d_mo_component_17 rfl (lv_at hl 2 rfl) ?_
        refine mi_sipush hx hb d_mo_component_18 (by decide) ?_
        refine mi_icmp_gt (tgt := 38) hx hb d_mo_component_21 (by decide) ry (by decide) (fun c_21 => ?_) (fun c_21 => ?_)
        · skip
          refine mi_iconst hx hb d_mo_component_38 ?_
          exact J39 _ (by split <;> omega)
        · skip
          refine lv_iload_n hx hb d_mo_component_24 rfl (lv_at hl 3 rfl) ?_
          refine mi_if_lt (tgt := 38) hx hb d_mo_component_25 (by decide) rz (fun c_25 => ?_) (fun c_25 => ?_)
          · skip
            refine mi_iconst hx hb d_mo_component_38 ?_
            exact J39 _ (by split <;> omega)
          · skip
            refine lv_iload_n hx hb d_mo_component_28 rfl (lv_at hl 3 rfl) ?_
            refine mi_bipush hx hb d_mo_component_29 (by decide) ?_
            refine mi_icmp_gt (tgt := 38) hx hb d_mo_component_31 (by decide) rz (by decide) (fun c_31 => ?_) (fun c_31 => ?_)
            · skip
              refine mi_iconst hx hb d_mo_component_38 ?_
              exact J39 _ (by split <;> omega)
            · skip
              refine mi_iconst hx hb d_mo_component_34 ?_
              refine lv_goto (tgt := 39) hx hb d_mo_component_35 (by decide) ?_
              exact J39 _ (by split <;> omega)
abbrev mLv (v : Nat → Int) (g : Nat → Nat → Int) (c r : Int) : Prop := 0 ≤ c ∧ c < v 6 ∧ 0 ≤ r ∧ r ≤ g 9 c.toNat
set_option maxHeartbeats 4000000 in
set_option maxRecDepth 100000 in
theorem c_mo_isLevel (l : Launch) (D : va_G) (X : ClassId × ClassId × ClassId × ClassId) (lo : Nat) (G : State → Prop) (hGO : GOK lo G) (f : hM) (a : Nat) (b : Nat → Option Nat) (v : Nat → Int) (A : Nat → Nat) (g : Nat → Nat → Int) (hR : moR X f a b v A g) (h6 : v 6 ≤ 16) (hg9 : ∀ j, iR (g 9 j)) (c r : Int) (rc : iR c) (rr : iR r) (r6 : iR (v 6)) : Met l y_mo_isLevel (Cond.code y_mo_isLevel b_mo_isLevel 3 (some FieldType.boolean) :: TB) ({ frames := 0, cells := 0, slots := 0, locals := 0 } : Room) (va_Pc [.ref a, .int (iI (c)), .int (iI (r))] (Bq D CL (TYS X) lo G f)) (va_Qi (fun z f1 => z = iI (if mLv v g c r then 1 else 0) ∧ Fr [] f f1) (Bq D CL (TYS X) lo G) (fun q => lo ≤ q)) 0 0 (fun q => lo ≤ q) := by
  refine mt (by decide) (Nat.le_of_ble_eq_true rfl) ?_
  intro p e s m args below meth cd ls hx hb hr hml hown ht hlocks hnm hK hlo hG hw hS hl
  have hl : lv_has ls 3 [(0, .ref a), (1, .int (iI (c))), (2, .int (iI (r)))] := hl
  generalize hQ : MQ below _ args s _ _ _ = Q
  have hF : Fr [] f f := Fr.rf
  have h0 := hR.1
  have h9 : f (A 9) = some (eI X.1 16 (g 9)) := (hR.2.1 (9, 16, false) (by decide)).2
  have b9 : b 9 = some (A 9) := (hR.2.1 (9, 16, false) (by decide)).1
  have n9 : A 9 ≠ a := hR.ne (by decide)
  refine lv_iload_n hx hb d_mo_isLevel_0 rfl (lv_at hl 1 rfl) ?_
  refine mi_if_lt (tgt := 44) hx hb d_mo_isLevel_1 (by decide) rc (fun c_1 => ?_) (fun c_1 => ?_)
  · skip
    refine mi_iconst hx hb d_mo_isLevel_44 ?_
    rw [← hQ]; exact mq_zret (z := 0) hx hb hr hlocks hK hlo hGO hG hw hS (Nat.zero_le _) (Nat.zero_le _) (Or.inl rfl) d_mo_isLevel_45 ⟨congrArg iI (by split <;> omega), hF⟩
  · skip
    refine lv_iload_n hx hb d_mo_isLevel_4 rfl (lv_at hl 1 rfl) ?_
    refine lv_aload_n hx hb d_mo_isLevel_5 rfl (lv_at hl 0 rfl) ?_
    refine mo_geti hx hb ht in_mo hown hK hw h0 rfl 6 (by decide) rfl (ht _ t_672) (fun _ h => h) d_mo_isLevel_6 ?_
    refine mi_icmp_ge (tgt := 44) hx hb d_mo_isLevel_9 (by decide) rc r6 (fun c_9 => ?_) (fun c_9 => ?_)
    · skip
      refine mi_iconst hx hb d_mo_isLevel_44 ?_
      rw [← hQ]; exact mq_zret (z := 0) hx hb hr hlocks hK hlo hGO hG hw hS (Nat.zero_le _) (Nat.zero_le _) (Or.inl rfl) d_mo_isLevel_45 ⟨congrArg iI (by split <;> omega), hF⟩
    · skip
      refine lv_iload_n hx hb d_mo_isLevel_12 rfl (lv_at hl 2 rfl) ?_
      refine mi_if_lt (tgt := 44) hx hb d_mo_isLevel_13 (by decide) rr (fun c_13 => ?_) (fun c_13 => ?_)
      · skip
        refine mi_iconst hx hb d_mo_isLevel_44 ?_
        rw [← hQ]; exact mq_zret (z := 0) hx hb hr hlocks hK hlo hGO hG hw hS (Nat.zero_le _) (Nat.zero_le _) (Or.inl rfl) d_mo_isLevel_45 ⟨congrArg iI (by split <;> omega), hF⟩
      · skip
        refine lv_iload_n hx hb d_mo_isLevel_16 rfl (lv_at hl 2 rfl) ?_
        refine lv_aload_n hx hb d_mo_isLevel_17 rfl (lv_at hl 0 rfl) ?_
        refine mo_getr hx hb ht in_mo hown hK hw h0 rfl 9 (by decide) rfl b9 (ht _ t_675) (fun _ h => h) d_mo_isLevel_18 ?_
        refine lv_iload_n hx hb d_mo_isLevel_21 rfl (lv_at hl 1 rfl) ?_
        refine mi_if_lt (tgt := 35) hx hb d_mo_isLevel_22 (by decide) rc (fun c_22 => ?_) (fun c_22 => ?_)
        · exact absurd c_22 (by omega)
        · skip
          refine lv_iload_n hx hb d_mo_isLevel_25 rfl (lv_at hl 1 rfl) ?_
          refine mi_bipush hx hb d_mo_isLevel_26 (by decide) ?_
          refine mi_icmp_ge (tgt := 35) hx hb d_mo_isLevel_28 (by decide) rc (by decide) (fun c_28 => ?_) (fun c_28 => ?_)
          · exact absurd c_28 (by omega)
          · skip
            refine lv_iload_n hx hb d_mo_isLevel_31 rfl (lv_at hl 1 rfl) ?_
            refine lv_goto (tgt := 36) hx hb d_mo_isLevel_32 (by decide) ?_
            refine mp_iald hx hb hK hw 0 h9 rfl (c.toNat) (by omega) (by omega) (by decide) d_mo_isLevel_36 ?_
            refine mi_icmp_gt (tgt := 44) hx hb d_mo_isLevel_37 (by decide) rr (hg9 _) (fun c_37 => ?_) (fun c_37 => ?_)
            · skip
              refine mi_iconst hx hb d_mo_isLevel_44 ?_
              rw [← hQ]; exact mq_zret (z := 0) hx hb hr hlocks hK hlo hGO hG hw hS (Nat.zero_le _) (Nat.zero_le _) (Or.inl rfl) d_mo_isLevel_45 ⟨congrArg iI (by split <;> omega), hF⟩
            · skip
              refine mi_iconst hx hb d_mo_isLevel_40 ?_
              refine lv_goto (tgt := 45) hx hb d_mo_isLevel_41 (by decide) ?_
              rw [← hQ]; exact mq_zret (z := 1) hx hb hr hlocks hK hlo hGO hG hw hS (Nat.zero_le _) (Nat.zero_le _) (Or.inr rfl) d_mo_isLevel_45 ⟨congrArg iI (by split <;> omega), hF⟩
abbrev gPre (r pw ph : Int) : Prop := 0 ≤ pw ∧ pw ≤ 15 ∧ 0 ≤ ph ∧ ph ≤ 15 ∧ (r = 0 ∨ (0 < pw ∧ 0 < ph))
def mPreV (v : Nat → Int) (g : Nat → Nat → Int) (c r pw ph : Int) : Nat → Int := if mLv v g c r then (if gPre r pw ph then va_up (va_up v 0 0) 16 0 else va_up v 0 2) else va_up v 0 1
def mPreG (v : Nat → Int) (g : Nat → Nat → Int) (c r pw ph : Int) : Nat → Nat → Int := if mLv v g c r ∧ gPre r pw ph then va_up (va_up g 10 (va_up (g 10) (33 * c + r).toNat pw)) 11 (va_up (g 11) (33 * c + r).toNat ph) else g
set_option maxHeartbeats 4000000 in
set_option maxRecDepth 100000 in
theorem c_mo_precincts (l : Launch) (D : va_G) (X : ClassId × ClassId × ClassId × ClassId) (lo : Nat) (G : State → Prop) (hGO : GOK lo G) (f : hM) (a : Nat) (b : Nat → Option Nat) (v : Nat → Int) (A : Nat → Nat) (g : Nat → Nat → Int) (hR : moR X f a b v A g) (h6 : v 6 ≤ 16) (r6 : iR (v 6)) (hg9 : ∀ j, iR (g 9 j)) (hg32 : ∀ j, g 9 j ≤ 32) (c r pw ph : Int) (rc : iR c) (rr : iR r) (rw9 : iR pw) (rh9 : iR ph) : Met l y_mo_precincts (Cond.code y_mo_precincts b_mo_precincts 6 (none) :: TB) ({ frames := 1, cells := 0, slots := 0, locals := 22 } : Room) (va_Pc [.ref a, .int (iI (c)), .int (iI (r)), .int (iI (pw)), .int (iI (ph))] (Bq D CL (TYS X) lo G f)) (va_Qv (fun f1 => Fr (a :: [10, 11].map A) f f1 ∧ moR X f1 a b (mPreV v g c r pw ph) A (mPreG v g c r pw ph)) (Bq D CL (TYS X) lo G) (fun q => lo ≤ q)) 0 0 (fun q => lo ≤ q) := by
  refine mt (by decide) (Nat.le_of_ble_eq_true rfl) ?_
  intro p e s m args below meth cd ls hx hb hr hml hown ht hlocks hnm hK hlo hG hw hS hl
  have hl : lv_has ls 6 [(0, .ref a), (1, .int (iI (c))), (2, .int (iI (r))), (3, .int (iI (pw))), (4, .int (iI (ph)))] := hl
  generalize hQ : MQ below _ args s _ _ _ = Q
  have hF : Fr (a :: [10, 11].map A) f f := Fr.rf
  have h0 := hR.1
  have h10 : f (A 10) = some (eI X.1 528 (g 10)) := (hR.2.1 (10, 528, false) (by decide)).2
  have b10 : b 10 = some (A 10) := (hR.2.1 (10, 528, false) (by decide)).1
  have n10 : A 10 ≠ a := hR.ne (by decide)
  have h11 : f (A 11) = some (eI X.1 528 (g 11)) := (hR.2.1 (11, 528, false) (by decide)).2
  have b11 : b 11 = some (A 11) := (hR.2.1 (11, 528, false) (by decide)).1
  have n11 : A 11 ≠ a := hR.ne (by decide)
  have J40 : ∀ k : Int, k = (if gPre r pw ph then 1 else 0) → W p l e ({ frames := 1, cells := 0, slots := 0, locals := 22 } : Room) s m args below meth cd s.heap [] 0 0 Q (F0 m 40 ls [.int (iI (k))]) := by
    intro k h_k
    refine lv_istore (lv' := [(5, .int (iI (k))), (0, .ref a), (1, .int (iI (c))), (2, .int (iI (r))), (3, .int (iI (pw))), (4, .int (iI (ph)))]) hx hb d_mo_precincts_40 hl (by decide) rfl (fun ls hl => ?_)
    refine lv_aload_n hx hb d_mo_precincts_42 rfl (lv_at hl 1 rfl) ?_
    refine lv_aload_n hx hb d_mo_precincts_43 rfl (lv_at hl 1 rfl) ?_
    refine lv_iload_n hx hb d_mo_precincts_44 rfl (lv_at hl 2 rfl) ?_
    refine lv_iload_n hx hb d_mo_precincts_45 rfl (lv_at hl 3 rfl) ?_
    refine mq_calli (va_runV (As := [.int (iI (c)), .int (iI (r))]) (rest := [.ref a]) ⟨hx, hb, hml, hown, ht⟩ (c_mo_isLevel l D X lo G hGO f a b v A g hR h6 hg9 c r rc rr r6) (cwV 2 ht (good_V (fun _ h => h) t_804 t_801 t_803 s_20 t_7) rfl rfl rfl (by decide +kernel) ⟨Nat.le_of_ble_eq_true rfl, Nat.le_of_ble_eq_true rfl⟩) (mq_preV hK hlo hGO hG hw hS (hW.recv hK hw (ci := 6) rfl h0)) rfl rfl hl.1 rfl (lv_room (Nat.le_of_ble_eq_true rfl)) d_mo_precincts_46 ⟨Nat.le_of_ble_eq_true rfl, Nat.le_of_ble_eq_true rfl⟩) hS (fun r1 f1 H locs hp hw hS => ?_)
    obtain ⟨rfl, hF1⟩ := hp
    have h0 := Fr.keep hF1 h0 (by simp)
    have h10 := Fr.keep hF1 h10 (by simp)
    have h11 := Fr.keep hF1 h11 (by simp)
    have hF := Fr.tr hF hF1 (by simp)
    have J57 : ∀ nn : Int, nn = (if mLv v g c r then 0 else 1) → W p l e ({ frames := 1, cells := 0, slots := 0, locals := 22 } : Room) s m args below meth cd H locs 0 0 Q (F0 m 57 ls [.int (iI (nn)), .ref a]) := by
      intro nn h_nn
      have J67 : ∀ ii : Int, ii = (if gPre r pw ph then 0 else 1) → W p l e ({ frames := 1, cells := 0, slots := 0, locals := 22 } : Room) s m args below meth cd H locs 0 0 Q (F0 m 67 ls [.int (iI (ii)), .int (iI (nn)), .ref a]) := by
        intro ii h_ii
        refine mq_calli (va_runV (As := [.int (iI (nn)), .int (iI (ii))]) (rest := []) ⟨hx, hb, hml, hown, ht⟩ (c_mo_refuse l D X lo G hGO f1 a b v h0 (nn) (ii) (by split at h_nn <;> omega) (by split at h_ii <;> omega)) (cwV 2 ht (good_V (fun _ h => h) t_792 t_789 t_791 s_19 t_7) rfl rfl rfl (by decide +kernel) ⟨Nat.le_of_ble_eq_true rfl, Nat.le_of_ble_eq_true rfl⟩) (mq_preV hK hlo hGO hG hw hS (hW.recv hK hw (ci := 6) rfl h0)) rfl rfl hl.1 rfl (lv_room (Nat.le_of_ble_eq_true rfl)) d_mo_precincts_67 ⟨Nat.le_of_ble_eq_true rfl, Nat.le_of_ble_eq_true rfl⟩) hS (fun r2 f2 H locs hp hw hS => ?_)
        obtain ⟨rfl, hF2, h09⟩ := hp
        have h10 := Fr.keep hF2 h10 (by simpa using n10)
        have h11 := Fr.keep hF2 h11 (by simpa using n11)
        have hF := Fr.tr hF hF2 (by simp)
        have h0 := h09
        refine mi_if_eq (tgt := 74) hx hb d_mo_precincts_70 (by decide) (by split <;> decide) (fun c_70 => ?_) (fun c_70 => ?_)
        · skip
          have hv : mLv v g c r := Classical.byContradiction (fun hg => by rw [if_neg hg] at h_nn; subst h_nn; simp at c_70)
          have hg : gPre r pw ph := Classical.byContradiction (fun hg => by rw [if_pos hv] at h_nn; rw [if_neg hg] at h_ii; subst h_nn h_ii; simp at c_70)
          have h9m := hg32 c.toNat
          refine lv_aload_n hx hb d_mo_precincts_74 rfl (lv_at hl 1 rfl) ?_
          refine mo_getr hx hb ht in_mo hown hK hw h0 rfl 10 (by decide) rfl b10 (ht _ t_676) (fun _ h => h) d_mo_precincts_75 ?_
          refine mi_bipush hx hb d_mo_precincts_78 (by decide) ?_
          refine lv_iload_n hx hb d_mo_precincts_80 rfl (lv_at hl 2 rfl) ?_
          refine mi_imul hx hb d_mo_precincts_81 ?_
          refine lv_iload_n hx hb d_mo_precincts_82 rfl (lv_at hl 3 rfl) ?_
          refine mi_iadd hx hb d_mo_precincts_83 ?_
          refine lv_iload_n hx hb d_mo_precincts_84 rfl (lv_at hl 4 rfl) ?_
          refine mo_iast hx hb hK hw hS 0 h10 rfl ((33 * c + r).toNat) (by omega) (by omega) (by decide) d_mo_precincts_85 (fun H locs f3 hf3 hw hS => ?_)
          have h0 := eq_n hf3 h0 n10.symm
          have h10 := eq_s hf3
          have h11 := eq_n hf3 h11 (hR.nn 11 10 (by decide) (by decide) (by decide))
          have hF := Fr.up hF hf3 (by simp)
          refine lv_aload_n hx hb d_mo_precincts_86 rfl (lv_at hl 1 rfl) ?_
          refine mo_getr hx hb ht in_mo hown hK hw h0 rfl 11 (by decide) rfl b11 (ht _ t_677) (fun _ h => h) d_mo_precincts_87 ?_
          refine mi_bipush hx hb d_mo_precincts_90 (by decide) ?_
          refine lv_iload_n hx hb d_mo_precincts_92 rfl (lv_at hl 2 rfl) ?_
          refine mi_imul hx hb d_mo_precincts_93 ?_
          refine lv_iload_n hx hb d_mo_precincts_94 rfl (lv_at hl 3 rfl) ?_
          refine mi_iadd hx hb d_mo_precincts_95 ?_
          refine lv_iload hx hb d_mo_precincts_96 (lv_at hl 5 rfl) ?_
          refine mo_iast hx hb hK hw hS 0 h11 rfl ((33 * c + r).toNat) (by omega) (by omega) (by decide) d_mo_precincts_98 (fun H locs f4 hf4 hw hS => ?_)
          have h0 := eq_n hf4 h0 n11.symm
          have h10 := eq_n hf4 h10 (hR.nn 10 11 (by decide) (by decide) (by decide))
          have h11 := eq_s hf4
          have hF := Fr.up hF hf4 (by simp)
          refine lv_aload_n hx hb d_mo_precincts_99 rfl (lv_at hl 1 rfl) ?_
          refine mi_iconst hx hb d_mo_precincts_100 ?_
          refine mo_puti hx hb ht in_mo ty_mo tyok_mo nm_mo hown hK hw hS h0 rfl 16 (by decide) rfl (ht _ t_682) (fun _ h => h) rfl (tyok_mo 16 (by decide)) rfl rfl d_mo_precincts_101 (fun H locs f5 hf5 hw hS => ?_)
          have h0 := eq_s hf5
          have h10 := eq_n hf5 h10 n10
          have h11 := eq_n hf5 h11 n11
          have hF := Fr.up hF hf5 (by simp)
          rw [if_pos hv] at h_nn
          rw [if_pos hg] at h_ii
          subst h_nn h_ii
          rw [← hQ]; exact mq_vret hx hb hr hlocks hK hlo hGO hG hw hS (Nat.zero_le _) (Nat.zero_le _) d_mo_precincts_104 ⟨hF, hR.fr [10, 11] (by decide) hF (by rw [h0]; unfold mPreV; rw [if_pos hv, if_pos hg]; rfl) (fun q hq hk => by
            have e9 : q = (10, 528, false) ∨ q = (11, 528, false) := (by revert q; decide)
            unfold mPreG; rw [if_pos ⟨hv, hg⟩]
            rcases e9 with rfl | rfl
            · exact h10
            · exact h11
            ) (fun k _ hk => by unfold mPreG; rw [if_pos ⟨hv, hg⟩]; simp only [List.mem_cons, List.not_mem_nil, or_false, not_or] at hk; rw [va_up_ne _ _ hk.2, va_up_ne _ _ hk.1])⟩
        · skip
          have hng : ¬ (mLv v g c r ∧ gPre r pw ph) := fun z9 => by rw [if_pos z9.1] at h_nn; rw [if_pos z9.2] at h_ii; subst h_nn h_ii; simp at c_70
          have hv9 : eO 6 (oF sh_mo b (va_up v 0 (if nn = 1 then 1 else if ii = 1 then 2 else 0))) = eO 6 (oF sh_mo b (mPreV v g c r pw ph)) := by
            unfold mPreV; by_cases hv : mLv v g c r
            · have h3 : ¬ gPre r pw ph := fun z9 => hng ⟨hv, z9⟩
              rw [if_pos hv] at h_nn ⊢; rw [if_neg h3] at h_ii ⊢; subst h_nn h_ii; rfl
            · rw [if_neg hv] at h_nn ⊢; subst h_nn; rfl
          rw [← hQ]; exact mq_vret hx hb hr hlocks hK hlo hGO hG hw hS (Nat.zero_le _) (Nat.zero_le _) d_mo_precincts_73 ⟨hF, hR.fr [10, 11] (by decide) hF (by rw [h0, hv9]) (fun q hq hk => by
            have e9 : q = (10, 528, false) ∨ q = (11, 528, false) := (by revert q; decide)
            unfold mPreG; rw [if_neg hng]
            rcases e9 with rfl | rfl
            · exact h10
            · exact h11
            ) (fun k _ hk => by unfold mPreG; rw [if_neg hng])⟩
      refine lv_iload hx hb d_mo_precincts_57 (lv_at hl 0 rfl) ?_
      refine mi_if_ne (tgt := 66) hx hb d_mo_precincts_59 (by decide) (by split at h_k <;> omega) (fun c_59 => ?_) (fun c_59 => ?_)
      · skip
        refine mi_iconst hx hb d_mo_precincts_66 ?_
        exact J67 _ (by split at h_k <;> split <;> omega)
      · skip
        refine mi_iconst hx hb d_mo_precincts_62 ?_
        refine lv_goto (tgt := 67) hx hb d_mo_precincts_63 (by decide) ?_
        exact J67 _ (by split at h_k <;> split <;> omega)
    refine mi_if_ne (tgt := 56) hx hb d_mo_precincts_49 (by decide) (by split <;> decide) (fun c_49 => ?_) (fun c_49 => ?_)
    · skip
      refine mi_iconst hx hb d_mo_precincts_56 ?_
      exact J57 _ (by split at c_49 <;> split <;> omega)
    · skip
      refine mi_iconst hx hb d_mo_precincts_52 ?_
      refine lv_goto (tgt := 57) hx hb d_mo_precincts_53 (by decide) ?_
      exact J57 _ (by split at c_49 <;> split <;> omega)
  refine lv_iload_n hx hb d_mo_precincts_0 rfl (lv_at hl 3 rfl) ?_
  refine mi_if_lt (tgt := 39) hx hb d_mo_precincts_1 (by decide) rw9 (fun c_1 => ?_) (fun c_1 => ?_)
  · skip
    refine mi_iconst hx hb d_mo_precincts_39 ?_
    exact J40 _ (by split <;> omega)
  · skip
    refine lv_iload_n hx hb d_mo_precincts_4 rfl (lv_at hl 3 rfl) ?_
    refine mi_bipush hx hb d_mo_precincts_5 (by decide) ?_
    refine mi_icmp_gt (tgt := 39) hx hb d_mo_precincts_7 (by decide) rw9 (by decide) (fun c_7 => ?_) (fun c_7 => ?_)
    · skip
      refine mi_iconst hx hb d_mo_precincts_39 ?_
      exact J40 _ (by split <;> omega)
    · skip
      refine lv_iload hx hb d_mo_precincts_10 (lv_at hl 4 rfl) ?_
      refine mi_if_lt (tgt := 39) hx hb d_mo_precincts_12 (by decide) rh9 (fun c_12 => ?_) (fun c_12 => ?_)
      · skip
        refine mi_iconst hx hb d_mo_precincts_39 ?_
        exact J40 _ (by split <;> omega)
      · skip
        refine lv_iload hx hb d_mo_precincts_15 (lv_at hl 4 rfl) ?_
        refine mi_bipush hx hb d_mo_precincts_17 (by decide) ?_
        refine mi_icmp_gt (tgt := 39) hx hb d_mo_precincts_19 (by decide) rh9 (by decide) (fun c_19 => ?_) (fun c_19 => ?_)
        · skip
          refine mi_iconst hx hb d_mo_precincts_39 ?_
          exact J40 _ (by split <;> omega)
        · skip
          refine lv_iload_n hx hb d_mo_precincts_22 rfl (lv_at hl 2 rfl) ?_
          refine mi_if_eq (tgt := 35) hx hb d_mo_precincts_23 (by decide) rr (fun c_23 => ?_) (fun c_23 => ?_)
          · skip
            refine mi_iconst hx hb d_mo_precincts_35 ?_
            refine lv_goto (tgt := 40) hx hb d_mo_precincts_36 (by decide) ?_
            exact J40 _ (by split <;> omega)
          · skip
            refine lv_iload_n hx hb d_mo_precincts_26 rfl (lv_at hl 3 rfl) ?_
            refine mi_if_le (tgt := 39) hx hb d_mo_precincts_27 (by decide) rw9 (fun c_27 => ?_) (fun c_27 => ?_)
            · skip
              refine mi_iconst hx hb d_mo_precincts_39 ?_
              exact J40 _ (by split <;> omega)
            · skip
              refine lv_iload hx hb d_mo_precincts_30 (lv_at hl 4 rfl) ?_
              refine mi_if_le (tgt := 39) hx hb d_mo_precincts_32 (by decide) rh9 (fun c_32 => ?_) (fun c_32 => ?_)
              · skip
                refine mi_iconst hx hb d_mo_precincts_39 ?_
                exact J40 _ (by split <;> omega)
              · skip
                refine mi_iconst hx hb d_mo_precincts_35 ?_
                refine lv_goto (tgt := 40) hx hb d_mo_precincts_36 (by decide) ?_
                exact J40 _ (by split <;> omega)
