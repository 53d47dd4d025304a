/-! numbers: ints and longs by their mathematical values; worlds as maps from addresses to cells -/
def iI (z : Int) : Int32 := Int32.ofInt z
def lI (z : Int) : Int64 := Int64.ofInt z
abbrev iR (z : Int) : Prop := -2147483648 ≤ z ∧ z ≤ 2147483647
abbrev lR (z : Int) : Prop := -9223372036854775808 ≤ z ∧ z ≤ 9223372036854775807
theorem iI_add (a b : Int) : iI a + iI b = iI (a + b) := (Int32.ofInt_add a b).symm
theorem iI_sub (a b : Int) : iI a - iI b = iI (a - b) := (Int32.ofInt_sub a b).symm
theorem iI_mul (a b : Int) : iI a * iI b = iI (a * b) := (Int32.ofInt_mul a b).symm
theorem lI_add (a b : Int) : lI a + lI b = lI (a + b) := (Int64.ofInt_add a b).symm
theorem lI_sub (a b : Int) : lI a - lI b = lI (a - b) := (Int64.ofInt_sub a b).symm
theorem lI_mul (a b : Int) : lI a * lI b = lI (a * b) := (Int64.ofInt_mul a b).symm
theorem iI_of (x : Int32) : iI x.toInt = x := Int32.ofInt_toInt x
theorem lI_of (x : Int64) : lI x.toInt = x := Int64.ofInt_toInt x
theorem iR_of (x : Int32) : iR x.toInt := ⟨x.le_toInt, Int.le_of_lt_add_one x.toInt_lt⟩
theorem lR_of (x : Int64) : lR x.toInt := ⟨x.le_toInt, Int.le_of_lt_add_one x.toInt_lt⟩
theorem iI_toInt {z : Int} (h : iR z) : (iI z).toInt = z := Int32.toInt_ofInt_of_le h.1 (Int.lt_add_one_of_le h.2)
theorem lI_toInt {z : Int} (h : lR z) : (lI z).toInt = z := Int64.toInt_ofInt_of_le h.1 (Int.lt_add_one_of_le h.2)
theorem iI_lt {a b : Int} (ha : iR a) (hb : iR b) : iI a < iI b ↔ a < b := by
  rw [Int32.lt_iff_toInt_lt, iI_toInt ha, iI_toInt hb]
theorem iI_le {a b : Int} (ha : iR a) (hb : iR b) : iI a ≤ iI b ↔ a ≤ b := by
  rw [Int32.le_iff_toInt_le, iI_toInt ha, iI_toInt hb]
theorem iI_eq {a b : Int} (ha : iR a) (hb : iR b) : iI a = iI b ↔ a = b := by
  rw [← Int32.toInt_inj, iI_toInt ha, iI_toInt hb]
theorem lI_lt {a b : Int} (ha : lR a) (hb : lR b) : lI a < lI b ↔ a < b := by
  rw [Int64.lt_iff_toInt_lt, lI_toInt ha, lI_toInt hb]
theorem lI_le {a b : Int} (ha : lR a) (hb : lR b) : lI a ≤ lI b ↔ a ≤ b := by
  rw [Int64.le_iff_toInt_le, lI_toInt ha, lI_toInt hb]
theorem lI_eq {a b : Int} (ha : lR a) (hb : lR b) : lI a = lI b ↔ a = b := by
  rw [← Int64.toInt_inj, lI_toInt ha, lI_toInt hb]
theorem iI_0 : iI 0 = 0 := rfl
theorem iI_inj {a b : Int} (ha : iR a) (hb : iR b) (h : iI a = iI b) : a = b := (iI_eq ha hb).mp h
theorem iI_clamp {k : Nat} (h : k < 2147483648) : (iI (k : Int)).toNatClampNeg = k := by
  show (Int32.ofInt (k : Int)).toNatClampNeg = k
  rw [Int32.ofInt_eq_ofNat]
  exact Int32.toNatClampNeg_ofNat_of_lt h
theorem iI_nat (k : Nat) : Int32.ofNat k = iI (k : Int) := (Int32.ofInt_eq_ofNat).symm
theorem iI_nI (k : Nat) : nI k = iI (k : Int) := (Int32.ofInt_eq_ofNat).symm
theorem iI_in {k n : Nat} (h : k < n) (hn : n < 2147483648) : vp_in (iI (k : Int)) n := by
  rw [← iI_nI]; exact vp_in_nI h hn
theorem iI_neg {k : Nat} (h : k < 2147483648) : ¬ iI (k : Int) < 0 := by
  rw [← iI_0, iI_lt (by omega) (by omega)]; omega
theorem iI_l {a : Int} (h : iR a) : (iI a).toInt64 = lI a := by
  rw [← Int64.toInt_inj, Int32.toInt_toInt64, iI_toInt h, lI_toInt (by omega)]
theorem lI_i (a : Int) : (lI a).toInt32 = iI a := Int64.toInt32_ofInt
theorem iI_div {a b : Int} (ha : iR a) (hb : iR b) (h0 : 0 ≤ a) (h1 : 0 < b) : iI a / iI b = iI (a / b) := by
  have hq : 0 ≤ a / b := Int.ediv_nonneg h0 (by omega)
  have hl : a / b ≤ a := Int.ediv_le_self b h0
  rw [← Int32.toInt_inj, Int32.toInt_div_of_ne_right _ _ (fun h => by
    have := congrArg Int32.toInt h
    rw [iI_toInt hb] at this
    have h2 : (-1 : Int32).toInt = -1 := rfl
    rw [h2] at this
    omega), iI_toInt ha, iI_toInt hb, iI_toInt (by omega), Int.tdiv_eq_ediv_of_nonneg h0]
theorem iI_max {a b : Int} (ha : iR a) (hb : iR b) : (if iI a < iI b then iI b else iI a) = iI (max a b) := by
  by_cases h : a < b
  · rw [if_pos ((iI_lt ha hb).mpr h), Int.max_eq_right (by omega)]
  · rw [if_neg (fun q => h ((iI_lt ha hb).mp q)), Int.max_eq_left (by omega)]
theorem iI_min {a b : Int} (ha : iR a) (hb : iR b) : (if iI b < iI a then iI b else iI a) = iI (min a b) := by
  by_cases h : b < a
  · rw [if_pos ((iI_lt hb ha).mpr h), Int.min_eq_right (by omega)]
  · rw [if_neg (fun q => h ((iI_lt hb ha).mp q)), Int.min_eq_left (by omega)]
theorem lI_max {a b : Int} (ha : lR a) (hb : lR b) : (if lI b < lI a then lI a else lI b) = lI (max a b) := by
  by_cases h : b < a
  · rw [if_pos ((lI_lt hb ha).mpr h), Int.max_eq_left (by omega)]
  · rw [if_neg (fun q => h ((lI_lt hb ha).mp q)), Int.max_eq_right (by omega)]
theorem lI_min {a b : Int} (ha : lR a) (hb : lR b) : (if lI b < lI a then lI b else lI a) = lI (min a b) := by
  by_cases h : b < a
  · rw [if_pos ((lI_lt hb ha).mpr h), Int.min_eq_right (by omega)]
  · rw [if_neg (fun q => h ((lI_lt hb ha).mp q)), Int.min_eq_left (by omega)]
theorem lI_bv (a : Int) : (lI a).toBitVec = BitVec.ofInt 64 a := rfl
theorem lI_sh {k : Nat} (h : k < 64) : ((iI (k : Int)).toInt64 &&& 63) = lI (k : Int) := by
  have e : ∀ j : Nat, j < 64 → ((iI (j : Int)).toInt64 &&& 63) = lI (j : Int) := by decide +kernel
  exact e k h
theorem lI_smod {k : Nat} (h : k < 64) : ((lI (k : Int)).toBitVec.smod 64).toNat = k := by
  have e : ∀ j : Nat, j < 64 → ((lI (j : Int)).toBitVec.smod 64).toNat = j := by decide +kernel
  exact e k h
theorem lI_n (n : Nat) : (lI (n : Int)).toBitVec = BitVec.ofNat 64 n := by
  rw [lI_bv, BitVec.ofInt_natCast]
theorem lI_tn {n : Nat} (h : n < 18446744073709551616) : (lI (n : Int)).toBitVec.toNat = n := by
  rw [lI_n, BitVec.toNat_ofNat]; exact Nat.mod_eq_of_lt h
theorem lI_shl (n : Nat) {k : Nat} (h : k < 64) : lI (n : Int) <<< lI (k : Int) = lI ((n * 2 ^ k : Nat) : Int) := by
  apply Int64.toBitVec.inj
  apply BitVec.eq_of_toNat_eq
  rw [Int64.toBitVec_shiftLeft, BitVec.shiftLeft_eq', lI_smod h, lI_n, lI_n, BitVec.toNat_shiftLeft, BitVec.toNat_ofNat, BitVec.toNat_ofNat, Nat.shiftLeft_eq, Nat.mod_mul_mod]
theorem lI_shr {n : Nat} (hn : n < 9223372036854775808) {k : Nat} (h : k < 64) : lI (n : Int) >>> lI (k : Int) = lI ((n / 2 ^ k : Nat) : Int) := by
  have hq : n / 2 ^ k ≤ n := Nat.div_le_self _ _
  rw [← Int64.toInt_inj]
  show ((lI (n : Int)).toBitVec.sshiftRight' ((lI (k : Int)).toBitVec.smod 64)).toInt = _
  rw [BitVec.toInt_sshiftRight', lI_smod h]
  show (lI (n : Int)).toInt >>> k = _
  have hR : lR ((n / 2 ^ k : Nat) : Int) := by
    generalize n / 2 ^ k = q at hq ⊢
    omega
  rw [lI_toInt (by omega), lI_toInt hR, Int.shiftRight_eq_div_pow]
  exact (Int.natCast_ediv n (2 ^ k)).symm
theorem lI_or {a b : Nat} (i : Nat) (ha : a % 2 ^ i = 0) (hb : b < 2 ^ i) (h : a + b < 9223372036854775808) : lI (a : Int) ||| lI (b : Int) = lI ((a + b : Nat) : Int) := by
  apply Int64.toBitVec.inj
  apply BitVec.eq_of_toNat_eq
  rw [Int64.toBitVec_or, BitVec.toNat_or, lI_tn (by omega), lI_tn (by omega), lI_tn (by omega)]
  have e : a = 2 ^ i * (a / 2 ^ i) := by
    have := Nat.div_add_mod a (2 ^ i)
    omega
  rw [e, Nat.two_pow_add_eq_or_of_lt hb]
theorem lI_and {n : Nat} (k : Nat) (hk : k < 63) (h : n < 9223372036854775808) : lI (n : Int) &&& lI ((2 ^ k - 1 : Nat) : Int) = lI ((n % 2 ^ k : Nat) : Int) := by
  have h1 : 2 ^ k ≤ 2 ^ 62 := Nat.pow_le_pow_right (by decide) (by omega)
  have h3 : 0 < 2 ^ k := Nat.pow_pos (by decide)
  have h2 : n % 2 ^ k < 2 ^ k := Nat.mod_lt _ h3
  apply Int64.toBitVec.inj
  apply BitVec.eq_of_toNat_eq
  rw [Int64.toBitVec_and, BitVec.toNat_and, lI_tn (by omega), lI_tn (by omega), lI_tn (by omega), Nat.and_two_pow_sub_one_eq_mod]
/-! worlds as maps -/
abbrev hM : Type := Nat → Option va_E
def hW (D : va_G) (cl : List vw_C) (lo : Nat) (f : hM) (H : Heap) : Prop := ∀ (a : Nat) (e : va_E), f a = some e → lo ≤ a ∧ va_at D cl (a, e) H
def eI (cI : ClassId) (n : Nat) (g : Nat → Int) : va_E := .inl (cI, n, .inl (fun j => iI (g j)))
def eJ (cJ : ClassId) (n : Nat) (g : Nat → Int) : va_E := .inl (cJ, n, .inr (.inl (fun j => lI (g j))))
def eA (cA : ClassId) (n : Nat) (g : Nat → Option Nat) : va_E := .inl (cA, n, .inr (.inr (.inr (.inr g))))
abbrev eO (ci : Nat) (fs : List Value) : va_E := .inr (ci, fs)
theorem hW.list {D : va_G} {cl : List vw_C} {lo : Nat} {f : hM} {H : Heap} (h : hW D cl lo f H) : ∃ ws : va_W, va_P D cl ws H ∧ va_D (fun q => lo ≤ q) ws ∧ ∀ (a : Nat) (e : va_E), f a = some e ↔ ∃ k : Nat, ws[k]? = some (a, e) := by
  have hm : ∀ (a : Nat) (e : va_E), (a, e) ∈ (List.range H.size).filterMap (fun a => (f a).map (fun e => (a, e))) ↔ f a = some e := by
    intro a e
    constructor
    · intro hq
      obtain ⟨b, -, hb⟩ := List.mem_filterMap.mp hq
      cases hf : f b with
      | none => rw [hf] at hb; cases hb
      | some e' => rw [hf] at hb; cases hb; exact hf
    · intro hf
      have hl : a < H.size := (h a e hf).2.lt
      exact List.mem_filterMap.mpr ⟨a, List.mem_range.mpr hl, by rw [hf]; rfl⟩
  have hpw : ((List.range H.size).filterMap (fun a => (f a).map (fun e => (a, e)))).Pairwise (fun p q => p.1 < q.1) := by
    refine List.Pairwise.filterMap _ (fun a a' haa b hb b' hb' => ?_) List.pairwise_lt_range
    cases hf : f a with
    | none => rw [hf] at hb; cases hb
    | some e =>
      cases hf' : f a' with
      | none => rw [hf'] at hb'; cases hb'
      | some e' => rw [hf] at hb; rw [hf'] at hb'; cases hb; cases hb'; exact haa
  generalize (List.range H.size).filterMap (fun a => (f a).map (fun e => (a, e))) = ws at hm hpw
  have hk : ∀ (k : Nat) (q : Nat × va_E), ws[k]? = some q → f q.1 = some q.2 := fun k q hq => (hm q.1 q.2).mp (List.mem_of_getElem? hq)
  refine ⟨ws, fun k q hq => (h q.1 q.2 (hk k q hq)).2, ⟨fun i j x y hi hj hxy => ?_, fun k q hq => (h q.1 q.2 (hk k q hq)).1⟩, fun a e => ⟨fun hf => List.getElem?_of_mem ((hm a e).mpr hf), fun ⟨k, hq⟩ => hk k _ hq⟩⟩
  have hp := List.pairwise_iff_getElem.mp hpw
  obtain ⟨hil, rfl⟩ := List.getElem?_eq_some_iff.mp hi
  obtain ⟨hjl, rfl⟩ := List.getElem?_eq_some_iff.mp hj
  rcases Nat.lt_trichotomy i j with q | q | q
  · have := hp i j hil hjl q; omega
  · exact q
  · have := hp j i hjl hil q; omega
theorem hW.set {D : va_G} {cl : List vw_C} {lo : Nat} {f : hM} {H H1 : Heap} {ws : va_W} (h : hW D cl lo f H) (hD : va_D (fun q => lo ≤ q) ws) (hi : ∀ (a : Nat) (e : va_E), f a = some e ↔ ∃ k : Nat, ws[k]? = some (a, e)) {q0 a : Nat} {e0 e1 : va_E} (h0 : ws[q0]? = some (a, e0)) (hP1 : va_P D cl (ws.set q0 (a, e1)) H1) : hW D cl lo (va_up f a (some e1)) H1 := by
  have hl := (List.getElem?_eq_some_iff.mp h0).1
  intro b e hb
  by_cases hba : b = a
  · subst hba
    rw [va_up_self] at hb
    cases hb
    exact ⟨hD.2 q0 _ h0, hP1 q0 _ (List.getElem?_set_self hl)⟩
  · rw [va_up_ne _ _ hba] at hb
    obtain ⟨k, hk⟩ := (hi b e).mp hb
    refine ⟨(h b e hb).1, hP1 k (b, e) ?_⟩
    rw [List.getElem?_set_ne (fun q => ?_)]
    · exact hk
    · subst q
      rw [h0] at hk
      cases hk
      exact hba rfl
theorem hW.push {D : va_G} {cl : List vw_C} {lo : Nat} {f : hM} {H H1 : Heap} {ws : va_W} (h : hW D cl lo f H) (hi : ∀ (a : Nat) (e : va_E), f a = some e ↔ ∃ k : Nat, ws[k]? = some (a, e)) {q : Nat} {e1 : va_E} (hP1 : va_P D cl (ws ++ [(q, e1)]) H1) (hD1 : va_D (fun q => lo ≤ q) (ws ++ [(q, e1)])) : f q = none ∧ hW D cl lo (va_up f q (some e1)) H1 := by
  have hz : (ws ++ [(q, e1)])[ws.length]? = some (q, e1) := by simp
  have ho : ∀ (k : Nat) (x : Nat × va_E), ws[k]? = some x → (ws ++ [(q, e1)])[k]? = some x := fun k x hx => by
    rw [List.getElem?_append_left (List.getElem?_eq_some_iff.mp hx).1]; exact hx
  have hn : f q = none := by
    cases hf : f q with
    | none => rfl
    | some e =>
      obtain ⟨k, hk⟩ := (hi q e).mp hf
      have := hD1.1 k ws.length _ _ (ho k _ hk) hz rfl
      have hl := (List.getElem?_eq_some_iff.mp hk).1
      omega
  refine ⟨hn, fun b e hb => ?_⟩
  by_cases hba : b = q
  · subst hba
    rw [va_up_self] at hb
    cases hb
    exact ⟨hD1.2 _ _ hz, hP1 _ _ hz⟩
  · rw [va_up_ne _ _ hba] at hb
    obtain ⟨k, hk⟩ := (hi b e).mp hb
    exact ⟨(h b e hb).1, hP1 k _ (ho k _ hk)⟩
theorem hW.one {D : va_G} {cl : List vw_C} {lo : Nat} {f : hM} {H : Heap} (h : hW D cl lo f H) {a : Nat} {e : va_E} (he : f a = some e) : va_P D cl [(a, e)] H := by
  intro k q hk
  match k, hk with
  | 0, hk => cases hk; exact (h a e he).2
  | k + 1, hk => cases hk
theorem hW.recv {D : va_G} {cl : List vw_C} {lo : Nat} {f : hM} {H : Heap} {s : State} {tys : List (ClassId × FieldType)} (hK : va_K D cl tys s) (h : hW D cl lo f H) {a ci : Nat} {q : vw_C} {fs : List Value} (hc : cl[ci]? = some q) (he : f a = some (eO ci fs)) : ∃ cell : Cell, H[a]? = some cell ∧ cell.vm.isStatics = false ∧ s.vm.findClass q.1 = some cell.cls :=
  va_recv hK (h.one he) (q0 := 0) hc rfl
theorem up_s {f : hM} {a : Nat} {e : va_E} : va_up f a (some e) a = some e := va_up_self f a _
theorem up_n {f : hM} {a b : Nat} {e x : va_E} (hb : f b = some x) (h : b ≠ a) : va_up f a (some e) b = some x := by rw [va_up_ne _ _ h]; exact hb
theorem ne_of {f : hM} {a b : Nat} {x y : va_E} (ha : f a = some x) (hb : f b = some y) (h : x ≠ y) : a ≠ b := by
  intro e
  subst e
  rw [ha] at hb
  exact h (Option.some.inj hb)
theorem ne_new {f : hM} {a q : Nat} {x : va_E} (ha : f a = some x) (hq : f q = none) : a ≠ q := by
  intro e
  subst e
  rw [ha] at hq
  cases hq
