/-! the law: from its entry to its switch -/
set_option maxHeartbeats 4000000 in
set_option maxRecDepth 100000 in
theorem law_head {p : Program} {l : Launch} {e : Env} {s : State} {m : MethodId} {below : List Frame} {meth : Method} {c : Code} {b : Nat} {xs : Nat → Int32} {D : va_G} {X : ClassId × ClassId × ClassId × ClassId} {lo t0 : Nat} {H : Heap} {locs : List Loc} {ls : Array Slot} {f : hM} {a am oa : Nat} (C : lwF p l s m meth c b xs D X lo t0) (hs0 : lwS X t0 f a am oa) (hw : hW D CL lo f H) (hS : va_S (fun q => lo ≤ q) s.heap H locs) (hl : lv_has ls 7 [(0, .ref b), (1, .ref a), (2, .ref am), (3, .ref oa), (4, .int (iI (0)))]) : W p l e room_1 s m #[Value.ref b] below meth c H locs 23 30042 (lw_Z below #[Value.ref b] s) (F0 m 23 ls []) := by
  have C0 := C
  obtain ⟨⟨hx, hb, hr, hml, hown, hts, hX, hbl, hlocks, hgv⟩, hK, hG, hl9, elo⟩ := C
  have hbA : ¬ (fun q : Nat => lo ≤ q) b := by show ¬ lo ≤ b; omega
  refine lv_iload hx hb d_la_law_23 (lv_at hl 4 rfl) ?_
  refine lv_aload_n hx hb d_la_law_25 rfl (lv_at hl 0 rfl) ?_
  refine ml_slen hx hb hX hbl hbA hS d_la_law_26 ?_
  refine mi_bipush hx hb d_la_law_27 (by decide) ?_
  refine mi_isub hx hb d_la_law_29 ?_
  refine mi_icmp_gt (tgt := 794) hx hb d_la_law_30 (by decide) (by decide) (by decide) (fun c9 => absurd c9 (by decide)) (fun c9 => ?_)
  refine lv_aload_n hx hb d_la_law_33 rfl (lv_at hl 0 rfl) ?_
  refine lv_iload hx hb d_la_law_34 (lv_at hl 4 rfl) ?_
  refine ml_sld hx hb hX hbl hbA hS 0 (by decide) (by decide) (by decide) d_la_law_36 ?_
  refine mi_bipush hx hb d_la_law_37 (by decide) ?_
  refine lv_iand hx hb d_la_law_39 ?_
  refine lv_topi (fun t et => ?_)
  by_cases k0 : t.toInt = 0
  · refine lv_tableIn (off := 60) (tgt := 100) hx hb d_la_law_40 (by rw [k0]; decide) (by rw [k0]; decide) (by rw [k0]; rfl) (by decide) ?_
    exact law_c0 C0 hs0 hw hS hl
  by_cases k1 : t.toInt = 1
  · refine lv_tableIn (off := 132) (tgt := 172) hx hb d_la_law_40 (by rw [k1]; decide) (by rw [k1]; decide) (by rw [k1]; rfl) (by decide) ?_
    exact law_c1 C0 hs0 hw hS hl
  by_cases k2 : t.toInt = 2
  · refine lv_tableIn (off := 212) (tgt := 252) hx hb d_la_law_40 (by rw [k2]; decide) (by rw [k2]; decide) (by rw [k2]; rfl) (by decide) ?_
    exact law_c2 C0 hs0 hw hS hl
  by_cases k3 : t.toInt = 3
  · refine lv_tableIn (off := 284) (tgt := 324) hx hb d_la_law_40 (by rw [k3]; decide) (by rw [k3]; decide) (by rw [k3]; rfl) (by decide) ?_
    exact law_c3 C0 hs0 hw hS hl
  by_cases k4 : t.toInt = 4
  · refine lv_tableIn (off := 332) (tgt := 372) hx hb d_la_law_40 (by rw [k4]; decide) (by rw [k4]; decide) (by rw [k4]; rfl) (by decide) ?_
    exact law_c4 C0 hs0 hw hS hl
  by_cases k5 : t.toInt = 5
  · refine lv_tableIn (off := 450) (tgt := 490) hx hb d_la_law_40 (by rw [k5]; decide) (by rw [k5]; decide) (by rw [k5]; rfl) (by decide) ?_
    exact law_c5 C0 hs0 hw hS hl
  by_cases k6 : t.toInt = 6
  · refine lv_tableIn (off := 461) (tgt := 501) hx hb d_la_law_40 (by rw [k6]; decide) (by rw [k6]; decide) (by rw [k6]; rfl) (by decide) ?_
    exact law_c6 C0 hs0 hw hS hl
  by_cases k7 : t.toInt = 7
  · refine lv_tableIn (off := 505) (tgt := 545) hx hb d_la_law_40 (by rw [k7]; decide) (by rw [k7]; decide) (by rw [k7]; rfl) (by decide) ?_
    exact law_c7 C0 hs0 hw hS hl
  by_cases k8 : t.toInt = 8
  · refine lv_tableIn (off := 556) (tgt := 596) hx hb d_la_law_40 (by rw [k8]; decide) (by rw [k8]; decide) (by rw [k8]; rfl) (by decide) ?_
    exact law_c8 C0 hs0 hw hS hl
  by_cases k9 : t.toInt = 9
  · refine lv_tableIn (off := 612) (tgt := 652) hx hb d_la_law_40 (by rw [k9]; decide) (by rw [k9]; decide) (by rw [k9]; rfl) (by decide) ?_
    exact law_c9 C0 hs0 hw hS hl
  by_cases k10 : t.toInt = 10
  · refine lv_tableIn (off := 668) (tgt := 708) hx hb d_la_law_40 (by rw [k10]; decide) (by rw [k10]; decide) (by rw [k10]; rfl) (by decide) ?_
    exact law_c10 C0 hs0 hw hS hl
  refine lv_tableOut (tgt := 788) hx hb d_la_law_40 (by omega) (by decide) ?_
  exact law_end C0 (Nat.le_of_ble_eq_true rfl) (Nat.le_of_ble_eq_true rfl) hS (lv_sub hl [0, 4] rfl)
