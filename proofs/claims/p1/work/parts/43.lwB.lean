/-! the law: what its world keeps, its rows of the script, its end -/
theorem moR.fn {X : ClassId × ClassId × ClassId × ClassId} {f f1 : hM} {a : Nat} {b : Nat → Option Nat} {v : Nat → Int} {A : Nat → Nat} {g : Nat → Nat → Int} (h : moR X f a b v A g) {S : List Nat} (hF : Fn S f f1) (hS : ∀ q ∈ S, (∃ (c : Nat) (vs : List Value), c ≠ 6 ∧ f q = some (eO c vs)) ∨ ∃ g9, f q = some (eJ X.2.1 1 g9)) : moR X f1 a b v A g := by
  refine ⟨hF a _ (fun hm => ?_) h.1, fun q hq => ⟨(h.2.1 q hq).1, hF _ _ (fun hm => ?_) (h.2.1 q hq).2⟩, h.2.2⟩
  · rcases hS a hm with ⟨c, vs, hc, e⟩ | ⟨g9, e⟩
    · rw [h.1] at e
      cases e
      exact hc rfl
    · rw [h.1] at e
      unfold eJ at e
      cases e
  · have h2 := (h.2.1 q hq).2
    have hn : q.2.1 ≠ 1 := by
      have e : ∀ q ∈ moArr, q.2.1 ≠ 1 := by decide
      exact e q hq
    rcases hS _ hm with ⟨c, vs, hc, e⟩ | ⟨g9, e⟩
    · rw [h2] at e
      unfold eAr eJ eI at e
      split at e <;> cases e
    · rw [h2] at e
      unfold eAr eJ eI at e
      split at e
      · simp only [Option.some.injEq, Sum.inl.injEq, Prod.mk.injEq] at e
        exact hn e.2.1
      · simp at e
theorem moR.out {X : ClassId × ClassId × ClassId × ClassId} {f : hM} {a : Nat} {b : Nat → Option Nat} {v : Nat → Int} {A : Nat → Nat} {g : Nat → Nat → Int} (h : moR X f a b v A g) {oa : Nat} {g9 : Nat → Int} (ho : f oa = some (eJ X.2.1 1 g9)) (ks : List Nat) (hks : ∀ k ∈ ks, k ∈ moSl) : oa ∉ a :: ks.map A := by
  intro hm
  rcases List.mem_cons.mp hm with rfl | hm
  · rw [h.1] at ho
    unfold eJ at ho
    cases ho
  · obtain ⟨k, hk, rfl⟩ := List.mem_map.mp hm
    obtain ⟨q, hq, rfl⟩ : ∃ q ∈ moArr, q.1 = k := by
      have e : ∀ k ∈ moSl, ∃ q ∈ moArr, q.1 = k := by decide
      exact e k (hks k hk)
    have h2 := (h.2.1 q hq).2
    have hn : q.2.1 ≠ 1 := by
      have e : ∀ q ∈ moArr, q.2.1 ≠ 1 := by decide
      exact e q hq
    rw [h2] at ho
    unfold eAr eJ eI at ho
    split at ho
    · simp only [Option.some.injEq, Sum.inl.injEq, Prod.mk.injEq] at ho
      exact hn ho.2.1
    · simp at ho
section LW
variable {p : Program} {l : Launch} {e : Env} {R : Room} {s : State} {m : MethodId} {args : Array Value} {below : List Frame} {meth : Method} {c : Code} {H H0 : Heap} {locs : List Loc} {cells slots : Nat} {Q : State → Prop} {cc : ByteArray} {pc : Nat} {ls : Array Slot} {rest : List Value} {A : Nat → Prop}
theorem ml_sld (hx : p.tables.exec = Jvm.exec) (hb : c.code = cc) {b L : Nat} {xs : Nat → Int32} (hX : va_X b L xs s H0) (hbl : b < H0.size) (hbA : ¬ A b) (hS : va_S A H0 H locs) {z : Int} (k : Nat) (hz : z = (k : Int)) (hk : k < L) (hL : L < 2147483648) (hdg : decode cc pc = .ok (.iaload, 1)) (kk : W p l e R s m args below meth c H locs cells slots Q (F0 m (pc + 1) ls (.int (iI (xs k).toInt) :: rest))) : W p l e R s m args below meth c H locs cells slots Q (F0 m pc ls (.int (iI z) :: .ref b :: rest)) := by
  subst hz
  refine va_sld hx hb hX hbl hbA hS (iI_in hk hL) hdg ?_
  rw [iI_clamp (by omega)]
  rw [iI_of] at kk
  exact kk
theorem ml_slen (hx : p.tables.exec = Jvm.exec) (hb : c.code = cc) {b L : Nat} {xs : Nat → Int32} (hX : va_X b L xs s H0) (hbl : b < H0.size) (hbA : ¬ A b) (hS : va_S A H0 H locs) (hdg : decode cc pc = .ok (.arraylength, 1)) (kk : W p l e R s m args below meth c H locs cells slots Q (F0 m (pc + 1) ls (.int (iI (L : Int)) :: rest))) : W p l e R s m args below meth c H locs cells slots Q (F0 m pc ls (.ref b :: rest)) := by
  refine va_slen hx hb hX hbl hbA hS hdg ?_
  rw [iI_nat L]
  exact kk
end LW
/-- what is fixed through the law: its entry with a script of seven ints, classes, what is given, no stack traces -/
def lwF (p : Program) (l : Launch) (s : State) (m : MethodId) (meth : Method) (c : Code) (b : Nat) (xs : Nat → Int32) (D : va_G) (X : ClassId × ClassId × ClassId × ClassId) (lo t0 : Nat) : Prop := lw_At p s m meth c b 7 xs ∧ va_K D CL (TYS X) s ∧ Gv lo t0 s ∧ l.stackTraces = false ∧ lo = s.heap.size
/-- the law's world: a fresh object, a fresh reference, a row of one long -/
def lwS (X : ClassId × ClassId × ClassId × ClassId) (t0 : Nat) (f : hM) (a am oa : Nat) : Prop := poFr t0 f a ∧ (∃ (bm : Nat → Option Nat) (A : Nat → Nat), moR X f am bm (va_up (fun _ => 0) 12 1) A (fun _ _ => 0)) ∧ f oa = some (eJ X.2.1 1 (fun _ => 0))
set_option maxHeartbeats 4000000 in
set_option maxRecDepth 100000 in
theorem law_end {p : Program} {l : Launch} {e : Env} {s : State} {m : MethodId} {below : List Frame} {meth : Method} {c : Code} {b : Nat} {xs : Nat → Int32} {D : va_G} {X : ClassId × ClassId × ClassId × ClassId} {lo t0 : Nat} {H : Heap} {locs : List Loc} {ls : Array Slot} {ce sl : Nat} (C : lwF p l s m meth c b xs D X lo t0) (hc9 : ce ≤ 600002) (hs9 : sl ≤ 7302232) (hS : va_S (fun q => lo ≤ q) s.heap H locs) (hl : lv_has ls 7 [(0, .ref b), (4, .int (iI (0)))]) : W p l e room_1 s m #[Value.ref b] below meth c H locs ce sl (lw_Z below #[Value.ref b] s) (F0 m 788 ls []) := by
  have C0 := C
  obtain ⟨⟨hx, hb, hr, hml, hown, hts, hX, hbl, hlocks, hgv⟩, hK, hG, hl9, elo⟩ := C
  have hbA : ¬ (fun q : Nat => lo ≤ q) b := by show ¬ lo ≤ b; omega
  refine lv_iinc (v := iI ((0) + 7)) (lv' := [(4, .int (iI ((0) + 7))), (0, .ref b)]) hx hb d_la_law_788 hl (k := 1) rfl (by rw [← iI_add]; rfl) (by decide) rfl (fun ls hl => ?_)
  refine lv_goto (tgt := 23) hx hb d_la_law_791 (by decide) ?_
  refine lv_iload hx hb d_la_law_23 (lv_at hl 0 rfl) ?_
  refine lv_aload_n hx hb d_la_law_25 rfl (lv_at hl 1 rfl) ?_
  refine ml_slen hx hb hX hbl hbA hS d_la_law_26 ?_
  refine mi_bipush hx hb d_la_law_27 (by decide) ?_
  refine mi_isub hx hb d_la_law_29 ?_
  refine mi_icmp_gt (tgt := 794) hx hb d_la_law_30 (by decide) (by decide) (by decide) (fun c9 => ?_) (fun c9 => absurd (by decide) c9)
  refine lv_iconst (v := 1) hx hb d_la_law_794 (by decide) ?_
  refine va_forget (fun q hq => by have h9 : lo ≤ q.base := hS.2.2 q hq; omega) ?_
  refine W.widen (k := 600002) (n := 7302232) hc9 hs9 ?_
  exact lw_ret hx hb hr hlocks d_la_law_795
