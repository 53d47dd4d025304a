/-! arrays of references -/
section MRF
variable {p : Program} {l : Launch} {e : Env} {R : Room} {s : State} {m : MethodId} {args : Array Value} {below : List Frame} {meth : Method} {c : Code} {H : Heap} {locs : List Loc} {cells slots : Nat} {Q : State → Prop}
variable {cc : ByteArray} {pc : Nat} {ls : Array Slot} {rest : List Value} {D : va_G} {cl : List vw_C} {lo a : Nat} {tys : List (ClassId × FieldType)} {f : hM} {H0 : Heap}
theorem mo_aastO (hx : p.tables.exec = Jvm.exec) (hb : c.code = cc) (hK : va_K D cl tys s) (hw : hW D cl lo f H) (hS : va_S (fun q => lo ≤ q) H0 H locs) (t0 ci : Nat) {r : vw_C} {E : String} (hca : va_Nw (.castable r.1 E) s) {cA : ClassId} {n v : Nat} {vs : List Value} {g : Nat → Option Nat} (he : f a = some (eA cA n g)) (ht : tys[t0]? = some (cA, .object E)) (hv : f v = some (eO ci vs)) (hc : cl[ci]? = some r) {z : Int} (k : Nat) (hz : z = (k : Int)) (hk : k < n) (hn : n < 2147483648) (hdg : decode cc pc = .ok (.aastore, 1)) (kk : ∀ (H1 : Heap) (locs1 : List Loc) (f1 : hM), f1 = va_up f a (some (eA cA n (va_up g k (some v)))) → hW D cl lo f1 H1 → va_S (fun q => lo ≤ q) H0 H1 locs1 → W p l e R s m args below meth c H1 locs1 cells slots Q (F0 m (pc + 1) ls rest)) : W p l e R s m args below meth c H locs cells slots Q (F0 m pc ls (.ref v :: .int (iI z) :: .ref a :: rest)) := by
  subst hz
  obtain ⟨ws, hP, hD, hi⟩ := hw.list
  obtain ⟨q0, h0⟩ := (hi _ _).mp he
  obtain ⟨qk, h1⟩ := (hi _ _).mp hv
  refine va_astqO hx hb hK hP hD hS q0 t0 qk ci h0 ht hca h1 hc (iI_in hk hn) hdg (fun H1 locs1 hP1 hD1 hS1 => kk H1 locs1 _ rfl (hw.set hD hi h0 ?_) hS1)
  rw [iI_clamp (by omega)] at hP1
  exact hP1
theorem mo_aastq (hx : p.tables.exec = Jvm.exec) (hb : c.code = cc) (hK : va_K D cl tys s) (hw : hW D cl lo f H) (hS : va_S (fun q => lo ≤ q) H0 H locs) (t0 ci : Nat) {r : vw_C}  {cA : ClassId} {n v : Nat} {vs : List Value} {g : Nat → Option Nat} (he : f a = some (eA cA n g)) (ht : tys[t0]? = some (cA, .object r.1)) (hv : f v = some (eO ci vs)) (hc : cl[ci]? = some r) {z : Int} (k : Nat) (hz : z = (k : Int)) (hk : k < n) (hn : n < 2147483648) (hdg : decode cc pc = .ok (.aastore, 1)) (kk : ∀ (H1 : Heap) (locs1 : List Loc) (f1 : hM), f1 = va_up f a (some (eA cA n (va_up g k (some v)))) → hW D cl lo f1 H1 → va_S (fun q => lo ≤ q) H0 H1 locs1 → W p l e R s m args below meth c H1 locs1 cells slots Q (F0 m (pc + 1) ls rest)) : W p l e R s m args below meth c H locs cells slots Q (F0 m pc ls (.ref v :: .int (iI z) :: .ref a :: rest)) := by
  subst hz
  obtain ⟨ws, hP, hD, hi⟩ := hw.list
  obtain ⟨q0, h0⟩ := (hi _ _).mp he
  obtain ⟨qk, h1⟩ := (hi _ _).mp hv
  refine va_astq hx hb hK hP hD hS q0 t0 qk ci h0 ht h1 hc (iI_in hk hn) hdg (fun H1 locs1 hP1 hD1 hS1 => kk H1 locs1 _ rfl (hw.set hD hi h0 ?_) hS1)
  rw [iI_clamp (by omega)] at hP1
  exact hP1
theorem mo_newq (hx : p.tables.exec = Jvm.exec) (hb : c.code = cc) {own C : String} {index : Nat} (hown : s.vm.findClass own = some m.cls) (hclink : (Cond.classLink own index C).before args s = true) (hover : va_AO C s) (hK : va_K D cl tys s) (hw : hW D cl lo f H) (hS : va_S (fun q => lo ≤ q) H0 H locs) (hlo : lo ≤ H0.size) (t0 : Nat) {cA : ClassId} (htt : tys[t0]? = some (cA, .object C)) {z : Int} (n : Nat) (hz : z = (n : Int)) (hn : n < 60000000) (hcells : cells + 1 ≤ R.cells) (hslots : slots + n ≤ R.slots) (hdg : decode cc pc = .ok (.anewarray index, 3)) (kk : ∀ (q : Nat) (H1 : Heap) (f1 : hM), f q = none → f1 = va_up f q (some (eA cA n (fun _ => none))) → hW D cl lo f1 H1 → va_S (fun q => lo ≤ q) H0 H1 locs → W p l e R s m args below meth c H1 locs (cells + 1) (slots + n) Q (F0 m (pc + 3) ls (.ref q :: rest))) : W p l e R s m args below meth c H locs cells slots Q (F0 m pc ls (.int (iI z) :: rest)) := by
  subst hz
  obtain ⟨ws, hP, hD, hi⟩ := hw.list
  have g1 : ¬ iI (n : Int) < 0 := iI_neg (by omega)
  have g2 : (iI (n : Int)).toNatClampNeg = n := iI_clamp (by omega)
  refine va_newq (N' := n) hx hb hown hclink hover hK hP hD hS (fun q h => Nat.le_trans hlo h) g1 g2 (by omega) hcells hslots hdg (fun q cA9 H1 hK1 hP1 hD1 hS1 => ?_)
  have e9 : cA9 = cA := by
    obtain ⟨_, _, _, _, _, h1⟩ := (hK.2 t0 (cA, .object C) htt).2
    obtain ⟨_, _, _, _, _, h2⟩ := (hK1.2 tys.length (cA9, .object C) (by rw [List.getElem?_append_right (Nat.le_refl _), Nat.sub_self]; rfl)).2
    exact Option.some.inj (h2.symm.trans h1)
  subst e9
  have hq : f q = none ∧ hW D cl lo (va_up f q (some (eA cA9 n (fun _ => none)))) H1 := hw.push hi hP1 hD1
  exact kk q H1 _ hq.1 rfl hq.2 hS1
end MRF
