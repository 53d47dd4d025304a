/-! making objects and arrays; methods that make cells leave the old ones alone -/
abbrev Fn (S : List Nat) (f f1 : hM) : Prop := ∀ (q : Nat) (x : va_E), q ∉ S → f q = some x → f1 q = some x
abbrev aOK (S : List Nat) (f : hM) (a : Nat) : Prop := ∀ y : va_E, a ∉ S → f a ≠ some y
theorem aOK.of {S : List Nat} {f : hM} {a : Nat} (h : a ∈ S) : aOK S f a := fun _ hn => absurd h hn
theorem Fn.rf {S : List Nat} {f : hM} : Fn S f f := fun _ _ _ h => h
theorem Fr.fn {S : List Nat} {f f1 : hM} (h : Fr S f f1) : Fn S f f1 := fun q _ hn hq => (h q hn).trans hq
theorem Fn.new {S : List Nat} {f0 f : hM} {a : Nat} (h : Fn S f0 f) (ha : f a = none) : aOK S f0 a := fun y hn hy => by have := h a y hn hy; rw [ha] at this; cases this
theorem Fn.up {S : List Nat} {f0 f f1 : hM} {a : Nat} {e : va_E} (h : Fn S f0 f) (h1 : f1 = va_up f a (some e)) (ha : aOK S f0 a) : Fn S f0 f1 := fun q x hn hq => by
  rw [h1, va_up_ne _ _ (fun z => by subst z; exact ha x hn hq)]; exact h q x hn hq
theorem Fn.tr {S S1 : List Nat} {f0 f f1 : hM} (h : Fn S f0 f) (h1 : Fn S1 f f1) (hs : ∀ q ∈ S1, aOK S f0 q) : Fn S f0 f1 := fun q x hn hq => h1 q x (fun z => hs q z x hn hq) (h q x hn hq)
theorem Fn.keep {S : List Nat} {f f1 : hM} {b : Nat} {x : va_E} (h : Fn S f f1) (hb : f b = some x) (hn : b ∉ S) : f1 b = some x := h b x hn hb
theorem eq_q {f f1 : hM} {a b : Nat} {e x : va_E} (h : f1 = va_up f a (some e)) (hb : f b = some x) (ha : f a = none) : f1 b = some x := eq_n h hb (ne_new hb ha)
theorem lI_0 : lI 0 = 0 := rfl
section MN
variable {p : Program} {l : Launch} {e : Env} {R : Room} {s : State} {m : MethodId} {args : Array Value} {below : List Frame} {meth : Method} {c : Code} {H : Heap} {locs : List Loc} {cells slots : Nat} {Q : State → Prop}
variable {cc : ByteArray} {pc : Nat} {ls : Array Slot} {rest : List Value} {D : va_G} {cl : List vw_C} {lo a : Nat} {tys : List (ClassId × FieldType)} {f : hM} {H0 : Heap} {sh : List Bool} {b : Nat → Option Nat} {v : Nat → Int}
theorem mo_new (hx : p.tables.exec = Jvm.exec) (hb : c.code = cc) {own C : String} {T : u_T} {N ci index : Nat} {Ts : List Cond} (hts : ∀ w ∈ Ts, w.before args s = true) (hin : ∀ w ∈ u_ws C T N, w ∈ Ts) (ty : Nat → FieldType) (hty : ∀ k, k < N → parseFieldDescriptor (T k).2.2.1 = some (ty k)) (hown : s.vm.findClass own = some m.cls) (hcl : (Cond.classLink own index C).before args s = true) (hinst : (Cond.instantiable C N).before args s = true) (hini : (Cond.initialized C).before args s = true) (hK : va_K D cl tys s) (hw : hW D cl lo f H) (hS : va_S (fun q => lo ≤ q) H0 H locs) (hlo : lo ≤ H0.size) (hc : cl[ci]? = some (C, T, N)) (hfs : ∀ j, j < N → defaultValue (ty j) = vp_V (oF sh (fun _ => none) (fun _ => 0)) j) (hcells : cells + 1 ≤ R.cells) (hslots : slots + N ≤ R.slots) (hdg : decode cc pc = .ok (.new index, 3)) (kk : ∀ (q : Nat) (H1 : Heap) (f1 : hM), f q = none → f1 = va_up f q (some (eO ci (oF sh (fun _ => none) (fun _ => 0)))) → hW D cl lo f1 H1 → va_S (fun q => lo ≤ q) H0 H1 locs → W p l e R s m args below meth c H1 locs (cells + 1) (slots + N) Q (F0 m (pc + 3) ls (.ref q :: rest))) : W p l e R s m args below meth c H locs cells slots Q (F0 m pc ls rest) :=
  mp_new hx hb hts hin ty hty hown hcl hinst hini hK hw hS hlo hc hfs hcells hslots hdg (fun q H1 h1 h2 h3 => kk q H1 _ h1 rfl h2 h3)
theorem mo_newai (hx : p.tables.exec = Jvm.exec) (hb : c.code = cc) (harr : (Cond.arrayClass .int).before args s = true) (hK : va_K D cl tys s) (hw : hW D cl lo f H) (hS : va_S (fun q => lo ≤ q) H0 H locs) (hlo : lo ≤ H0.size) (t0 : Nat) {cA : ClassId} (htt : tys[t0]? = some (cA, .int)) {z : Int} (n : Nat) (hz : z = (n : Int)) (hn : n < 60000000) (hcells : cells + 1 ≤ R.cells) (hslots : slots + n ≤ R.slots) (hdg : decode cc pc = .ok (.newarray .int, 2)) (kk : ∀ (q : Nat) (H1 : Heap) (f1 : hM), f q = none → f1 = va_up f q (some (eI cA n (fun _ => 0))) → hW D cl lo f1 H1 → va_S (fun q => lo ≤ q) H0 H1 locs → W p l e R s m args below meth c H1 locs (cells + 1) (slots + n) Q (F0 m (pc + 2) ls (.ref q :: rest))) : W p l e R s m args below meth c H locs cells slots Q (F0 m pc ls (.int (iI z) :: rest)) := by
  subst hz
  obtain ⟨ws, hP, hD, hi⟩ := hw.list
  have g1 : ¬ iI (n : Int) < 0 := iI_neg (by omega)
  have g2 : (iI (n : Int)).toNatClampNeg = n := iI_clamp (by omega)
  have g4 : componentBytes .int = 4 := rfl
  have g3 : n * componentBytes .int ≤ 536870912 := by rw [g4]; omega
  have g5 : ∀ cA : ClassId, vp_cell cA (n, .inl (fun _ => iI 0)) = arrV cA n (fun _ => defaultValue .int) := fun cA => by show arrV cA n (fun _ => .int (iI 0)) = _; rw [iI_0]; rfl
  refine va_newa (atype := .int) (ty := .int) (N' := n) (a0 := (n, .inl (fun _ => iI 0))) hx hb harr rfl hK hP hD hS (fun q h => Nat.le_trans hlo h) g5 g1 g2 g3 hcells hslots hdg (fun q cA9 H1 hK1 hP1 hD1 hS1 => ?_)
  have e9 : cA9 = cA := by
    have h1 : s.vm.findClass ("[" ++ (FieldType.int).toString) = some cA := (hK.2 t0 (cA, .int) htt).2
    have h2 : s.vm.findClass ("[" ++ (FieldType.int).toString) = some cA9 := (hK1.2 tys.length (cA9, .int) (by rw [List.getElem?_append_right (Nat.le_refl _), Nat.sub_self]; rfl)).2
    exact Option.some.inj (h2.symm.trans h1)
  subst e9
  have hq : f q = none ∧ hW D cl lo (va_up f q (some (eI cA9 n (fun _ => 0)))) H1 := hw.push hi hP1 hD1
  exact kk q H1 _ hq.1 rfl hq.2 hS1
theorem mo_newal (hx : p.tables.exec = Jvm.exec) (hb : c.code = cc) (harr : (Cond.arrayClass .long).before args s = true) (hK : va_K D cl tys s) (hw : hW D cl lo f H) (hS : va_S (fun q => lo ≤ q) H0 H locs) (hlo : lo ≤ H0.size) (t0 : Nat) {cA : ClassId} (htt : tys[t0]? = some (cA, .long)) {z : Int} (n : Nat) (hz : z = (n : Int)) (hn : n < 60000000) (hcells : cells + 1 ≤ R.cells) (hslots : slots + n ≤ R.slots) (hdg : decode cc pc = .ok (.newarray .long, 2)) (kk : ∀ (q : Nat) (H1 : Heap) (f1 : hM), f q = none → f1 = va_up f q (some (eJ cA n (fun _ => 0))) → hW D cl lo f1 H1 → va_S (fun q => lo ≤ q) H0 H1 locs → W p l e R s m args below meth c H1 locs (cells + 1) (slots + n) Q (F0 m (pc + 2) ls (.ref q :: rest))) : W p l e R s m args below meth c H locs cells slots Q (F0 m pc ls (.int (iI z) :: rest)) := by
  subst hz
  obtain ⟨ws, hP, hD, hi⟩ := hw.list
  have g1 : ¬ iI (n : Int) < 0 := iI_neg (by omega)
  have g2 : (iI (n : Int)).toNatClampNeg = n := iI_clamp (by omega)
  have g4 : componentBytes .long = 8 := rfl
  have g3 : n * componentBytes .long ≤ 536870912 := by rw [g4]; omega
  have g5 : ∀ cA : ClassId, vp_cell cA (n, .inr (.inl (fun _ => lI 0))) = arrV cA n (fun _ => defaultValue .long) := fun cA => by show arrV cA n (fun _ => .long (lI 0)) = _; rw [lI_0]; rfl
  refine va_newa (atype := .long) (ty := .long) (N' := n) (a0 := (n, .inr (.inl (fun _ => lI 0)))) hx hb harr rfl hK hP hD hS (fun q h => Nat.le_trans hlo h) g5 g1 g2 g3 hcells hslots hdg (fun q cA9 H1 hK1 hP1 hD1 hS1 => ?_)
  have e9 : cA9 = cA := by
    have h1 : s.vm.findClass ("[" ++ (FieldType.long).toString) = some cA := (hK.2 t0 (cA, .long) htt).2
    have h2 : s.vm.findClass ("[" ++ (FieldType.long).toString) = some cA9 := (hK1.2 tys.length (cA9, .long) (by rw [List.getElem?_append_right (Nat.le_refl _), Nat.sub_self]; rfl)).2
    exact Option.some.inj (h2.symm.trans h1)
  subst e9
  have hq : f q = none ∧ hW D cl lo (va_up f q (some (eJ cA9 n (fun _ => 0)))) H1 := hw.push hi hP1 hD1
  exact kk q H1 _ hq.1 rfl hq.2 hS1
end MN
abbrev sh_po : List Bool := [false, false, false, false, false, true, false, true, true, false, false, false, true]
theorem df_po : ∀ j, j < 13 → defaultValue (ty_po j) = vp_V (oF sh_po (fun _ => none) (fun _ => 0)) j := by decide +kernel
abbrev sh_ch : List Bool := [false, false, false, false, false, false]
theorem df_ch : ∀ j, j < 6 → defaultValue (ty_ch j) = vp_V (oF sh_ch (fun _ => none) (fun _ => 0)) j := by decide +kernel
abbrev sh_co : List Bool := [true]
theorem df_co : ∀ j, j < 1 → defaultValue (ty_co j) = vp_V (oF sh_co (fun _ => none) (fun _ => 0)) j := by decide +kernel
abbrev sh_le : List Bool := [false, false, true, true, false]
theorem df_le : ∀ j, j < 5 → defaultValue (ty_le j) = vp_V (oF sh_le (fun _ => none) (fun _ => 0)) j := by decide +kernel
abbrev sh_ro : List Bool := [true, true, true, false, false, false, false, false, false, false]
theorem df_ro : ∀ j, j < 10 → defaultValue (ty_ro j) = vp_V (oF sh_ro (fun _ => none) (fun _ => 0)) j := by decide +kernel
abbrev sh_sp : List Bool := [false, false, false, false, false, false]
theorem df_sp : ∀ j, j < 6 → defaultValue (ty_sp j) = vp_V (oF sh_sp (fun _ => none) (fun _ => 0)) j := by decide +kernel
theorem df_mo : ∀ j, j < 38 → defaultValue (ty_mo j) = vp_V (oF sh_mo (fun _ => none) (fun _ => 0)) j := by decide +kernel
abbrev sh_al : List Bool := [false, true, false]
theorem df_al : ∀ j, j < 3 → defaultValue (ty_al j) = vp_V (oF sh_al (fun _ => none) (fun _ => 0)) j := by decide +kernel
