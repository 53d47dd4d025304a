/-! the reference's state: its numbers v by slots, its arrays g by slots at the addresses A -/
abbrev TYS (X : ClassId × ClassId × ClassId × ClassId) : List (ClassId × FieldType) := [(X.1, .int), (X.2.1, .long), (X.2.2.1, .object "PacketOrder$Level"), (X.2.2.2, .object "java/lang/Object")]
abbrev sh_mo : List Bool := [false, false, false, false, false, false, false, true, true, true, true, true, false, false, false, true, false, false, true, true, true, true, true, true, true, false, false, false, false, false, false, false, false, false, false, false, false, false]
abbrev moArr : List (Nat × Nat × Bool) := [(7, 16, false), (8, 16, false), (9, 16, false), (10, 528, false), (11, 528, false), (15, 192, false), (18, 4096, false), (19, 4096, false), (20, 4096, false), (21, 4096, true), (22, 4096, true), (23, 4096, false), (24, 4096, false)]
abbrev moSl : List Nat := [7, 8, 9, 10, 11, 15, 18, 19, 20, 21, 22, 23, 24]
def eAr (X : ClassId × ClassId × ClassId × ClassId) (n : Nat) (j : Bool) (g : Nat → Int) : va_E := if j then eJ X.2.1 n g else eI X.1 n g
def moR (X : ClassId × ClassId × ClassId × ClassId) (f : hM) (a : Nat) (b : Nat → Option Nat) (v : Nat → Int) (A : Nat → Nat) (g : Nat → Nat → Int) : Prop :=
  f a = some (eO 6 (oF sh_mo b v)) ∧ (∀ q ∈ moArr, b q.1 = some (A q.1) ∧ f (A q.1) = some (eAr X q.2.1 q.2.2 (g q.1))) ∧ ∀ k ∈ moSl, ∀ j ∈ moSl, A k = A j → k = j
theorem moR.ne {X : ClassId × ClassId × ClassId × ClassId} {f : hM} {a : Nat} {b : Nat → Option Nat} {v : Nat → Int} {A : Nat → Nat} {g : Nat → Nat → Int} (h : moR X f a b v A g) {k : Nat} (hk : k ∈ moSl) : A k ≠ a := by
  have : ∃ q ∈ moArr, q.1 = k := by
    have e : ∀ k ∈ moSl, ∃ q ∈ moArr, q.1 = k := by decide
    exact e k hk
  obtain ⟨q, hq, rfl⟩ := this
  refine ne_of (h.2.1 q hq).2 h.1 ?_
  unfold eAr eJ eI
  split <;> simp
theorem moR.nn {X : ClassId × ClassId × ClassId × ClassId} {f : hM} {a : Nat} {b : Nat → Option Nat} {v : Nat → Int} {A : Nat → Nat} {g : Nat → Nat → Int} (h : moR X f a b v A g) (k j : Nat) (hk : k ∈ moSl) (hj : j ∈ moSl) (hn : k ≠ j) : A k ≠ A j := fun e => hn (h.2.2 k hk j hj e)
/-- what a method left alone is as before: ks are the arrays that it wrote -/
theorem moR.fr {X : ClassId × ClassId × ClassId × ClassId} {f f1 : hM} {a : Nat} {b : Nat → Option Nat} {v v1 : Nat → Int} {A : Nat → Nat} {g g1 : Nat → Nat → Int} (h : moR X f a b v A g) (ks : List Nat) (hks : ∀ k ∈ ks, k ∈ moSl) (hF : Fr (a :: ks.map A) f f1) (h0 : f1 a = some (eO 6 (oF sh_mo b v1)))
    (hw : ∀ q ∈ moArr, q.1 ∈ ks → f1 (A q.1) = some (eAr X q.2.1 q.2.2 (g1 q.1))) (hg : ∀ k ∈ moSl, k ∉ ks → g1 k = g k) : moR X f1 a b v1 A g1 := by
  refine ⟨h0, fun q hq => ⟨(h.2.1 q hq).1, ?_⟩, h.2.2⟩
  have hs : q.1 ∈ moSl := by
    have e : ∀ q ∈ moArr, q.1 ∈ moSl := by decide
    exact e q hq
  by_cases hk : q.1 ∈ ks
  · exact hw q hq hk
  · rw [hg _ hs hk, hF]
    · exact (h.2.1 q hq).2
    · intro hm
      rcases List.mem_cons.mp hm with z | z
      · exact h.ne hs z
      · obtain ⟨j, hj, e⟩ := List.mem_map.mp z
        exact hk (h.2.2 j (hks j hj) q.1 hs e ▸ hj)
