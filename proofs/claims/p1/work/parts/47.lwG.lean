/-! what the Statement gives at the start: classes, array classes, texts, statics -/
set_option maxHeartbeats 4000000 in
set_option maxRecDepth 100000 in
theorem start_str : ∀ q ∈ STR, Cond.stringRef q.1 q.2.1 q.2.2 ∈ tables_1 := by decide +kernel
theorem start_own : ∀ q ∈ STR, q.1 = "PacketOrder" := by decide +kernel
theorem wd {w : Cond} (k : Nat) (h : tables_1[k]? = some w) : w ∈ lw_tbl := List.mem_append_right _ (List.mem_of_getElem? h)
theorem nb_start {args : Array Value} {s : State} (hts : ∀ w ∈ lw_tbl, w.before args s = true) : ∀ w ∈ NB, va_Nw w s := by
  intro w hw
  have h := hts w (List.mem_filter.mp hw).1
  have hk := (List.mem_filter.mp hw).2
  unfold nbk at hk
  split at hk
  · exact va_Nw.of rfl h
  · exact va_Nw.of rfl h
  · exact va_Nw.of rfl h
  · exact va_Nw.of rfl h
  · exact va_AO.of h
  · cases hk
theorem arr_obj {args : Array Value} {s : State} {C : String} (h : (Cond.arrayOver (.object C)).before args s = true) : ∃ cA : ClassId, ArrOfT s cA (.object C) ∧ va_RA s cA (.object C) := by
  obtain ⟨comp, cA, kA, hcomp, hidx, hkA, hkindA, hnameA⟩ := Cond.arrayOver_spec h
  exact ⟨cA, fun N z => ⟨(fun k h => by cases h), kA, hkA, comp, hkindA⟩, kA, comp, hkA, hkindA, hcomp, hnameA⟩
theorem arr_prim {args : Array Value} {s : State} {t : FieldType} (h : (Cond.arrayClass t).before args s = true) (ho : ∀ C, t ≠ .object C) : ∃ c : ClassId, ArrOfT s c t ∧ va_RA s c t := by
  obtain ⟨c, k, comp, h1, h2, h3⟩ := Cond.arrayClass_spec h
  refine ⟨c, fun N z => ⟨(fun q hq => by cases hq), k, h2, comp, h3⟩, ?_⟩
  cases t <;> first | exact h1 | exact absurd rfl (ho _)
set_option maxHeartbeats 4000000 in
set_option maxRecDepth 100000 in
theorem start_given {p : Program} {s : State} {m : MethodId} {meth : Method} {c : Code} {b L : Nat} {xs : Nat → Int32} (C : lw_At p s m meth c b L xs) : ∃ (D : va_G) (X : ClassId × ClassId × ClassId × ClassId) (t0 : Nat), va_K D CL (TYS X) s ∧ Gv s.heap.size t0 s := by
  obtain ⟨hx, hb, hr, hml, hown, hts, hX, hbl, hlocks, hgv⟩ := C
  have ht : ∀ w ∈ TB, w.before #[Value.ref b] s = true := fun w hw => hts w (tb_l hw)
  have hn := nb_start hts
  obtain ⟨c0, i0, k0⟩ := u_known (C := R_po) (T := T_po) (N := 13) (n := 13) ht in_po (ht _ t_25)
  obtain ⟨c1, i1, k1⟩ := u_known (C := R_ch) (T := T_ch) (N := 6) (n := 6) ht in_ch (ht _ t_100)
  obtain ⟨c2, i2, k2⟩ := u_known (C := R_co) (T := T_co) (N := 1) (n := 1) ht in_co (ht _ t_290)
  obtain ⟨c3, i3, k3⟩ := u_known (C := R_le) (T := T_le) (N := 5) (n := 5) ht in_le (ht _ t_297)
  obtain ⟨c4, i4, k4⟩ := u_known (C := R_ro) (T := T_ro) (N := 10) (n := 10) ht in_ro (ht _ t_59)
  obtain ⟨c5, i5, k5⟩ := u_known (C := R_sp) (T := T_sp) (N := 6) (n := 6) ht in_sp (ht _ t_299)
  obtain ⟨c6, i6, k6⟩ := u_known (C := R_mo) (T := T_mo) (N := 38) (n := 38) ht in_mo (ht _ t_661)
  obtain ⟨c7, i7, k7⟩ := u_known (C := R_al) (T := T_al) (N := 3) (n := 3) ht in_al (ht _ t_33)
  obtain ⟨D, hKc⟩ : ∃ D : va_G, ∀ (k : Nat) (q : vw_C), CL[k]? = some q → u_Kn s q.1 q.2.1 q.2.2 (D.1 k) (D.2 k) := by
    refine ⟨(fun k => match k with | 0 => c0 | 1 => c1 | 2 => c2 | 3 => c3 | 4 => c4 | 5 => c5 | 6 => c6 | _ => c7, fun k => match k with | 0 => i0 | 1 => i1 | 2 => i2 | 3 => i3 | 4 => i4 | 5 => i5 | 6 => i6 | _ => i7), ?_⟩
    intro k q hq
    match k, hq with
    | 0, hq => cases hq; exact k0
    | 1, hq => cases hq; exact k1
    | 2, hq => cases hq; exact k2
    | 3, hq => cases hq; exact k3
    | 4, hq => cases hq; exact k4
    | 5, hq => cases hq; exact k5
    | 6, hq => cases hq; exact k6
    | 7, hq => cases hq; exact k7
    | k + 8, hq => simp [CL] at hq
  obtain ⟨x0, hx0⟩ := arr_prim (ht _ t_97) (fun _ h9 => by cases h9)
  obtain ⟨x1, hx1⟩ := arr_prim (ht _ t_98) (fun _ h9 => by cases h9)
  obtain ⟨x2, hx2⟩ := arr_obj (va_AO.use (A := #[]) (hn _ n_296))
  obtain ⟨x3, hx3⟩ := arr_obj (va_AO.use (A := #[]) (hn _ n_406))
  have hs := flat_of_before _ hgv
  have hA : ∀ a : Nat, a < s.heap.size → ¬ s.heap.size ≤ a := fun a h9 => Nat.not_le.mpr h9
  have hAL : (Cond.arrayOf (.static "java/util/ArrayList" sDE dDE) (.object "java/lang/Object")).before #[Value.ref b] s = true := hs _ (by decide +kernel)
  have hLL : (Cond.eq (.length (.static "java/util/ArrayList" sDE dDE)) (.int 0)).before #[Value.ref b] s = true := hs _ (by decide +kernel)
  obtain ⟨t0, ht0, hT0⟩ := va_Tof (f := fun _ => .null) (N := 0) (A := fun q => s.heap.size ≤ q) (by decide) hAL (va_eqt hLL) (fun j hj => absurd hj (Nat.not_lt_zero j)) hA
  refine ⟨D, (x0, x1, x2, x3), t0, ⟨hKc, fun k q hk => ?_⟩, hn, fun q hq => ?_, fun q hq => ?_, ?_, ?_, ?_, hT0⟩
  · match k, hk with
    | 0, hk => cases hk; exact hx0
    | 1, hk => cases hk; exact hx1
    | 2, hk => cases hk; exact hx2
    | 3, hk => cases hk; exact hx3
    | k + 4, hk => simp [TYS] at hk
  · have h9 := hts _ (List.mem_append_right _ (start_str q hq))
    have e9 := start_own q hq
    obtain ⟨cP, kP, hfc, -⟩ := Cond.instantiable_spec (ht _ t_25)
    obtain ⟨-, -, -, sa, -, -, -, -, -, hev⟩ := Cond.stringRef_spec (by rw [e9]; exact hfc) h9
    exact ⟨sa, h9, hev⟩
  · have hq9 : q = (ISE, IAE) ∨ q = (IAE, NSE) ∨ q = (UOE, ISE) := by simpa using hq
    rcases hq9 with rfl | rfl | rfl
    · exact va_Nc.of (args := #[Value.ref b]) (hs _ (by decide +kernel))
    · exact va_Nc.of (args := #[Value.ref b]) (hs _ (by decide +kernel))
    · exact va_Nc.of (args := #[Value.ref b]) (hs _ (by decide +kernel))
  · exact vx_Zqof (hts (.laysStatic Bundle.tN "UNASSIGNED_STACK" Bundle.steD) (wd 213 (by decide +kernel))) (ht _ t_8) (hs _ (by decide +kernel)) hA
  · exact vx_Zqof (hts (.laysStatic Bundle.tN "SUPPRESSED_SENTINEL" Bundle.listD) (wd 215 (by decide +kernel))) (ht _ t_8) (hs _ (by decide +kernel)) hA
  · exact va_Zref (hts (.laysStatic "java/util/ArrayList" "DEFAULTCAPACITY_EMPTY_ELEMENTDATA" dDE) (wd 45 (by decide +kernel))) (ht _ t_4) ht0 hA
