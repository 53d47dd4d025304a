/-! the law: its entry -/
theorem poFr.fn {t0 a : Nat} {f f1 : hM} {S : List Nat} (h : poFr t0 f a) (hF : Fn S f f1) (hS : ∀ q ∈ S, ∃ vs, f q = some (eO 6 vs)) : poFr t0 f1 a := by
  obtain ⟨b, v, lc, lh, bc, bh, vc, vh, h0, h4, h9, h5, h8, k1, k2, k3, j1, j2, j3⟩ := h
  have kk : ∀ (q c : Nat) (vs : List Value), c ≠ 6 → f q = some (eO c vs) → f1 q = some (eO c vs) := fun q c vs hc hq => hF q _ (fun hm => by
    obtain ⟨w, e⟩ := hS q hm
    rw [hq] at e
    cases e
    exact hc rfl) hq
  exact ⟨b, v, lc, lh, bc, bh, vc, vh, kk _ _ _ (by decide) h0, h4, h9, h5, h8, kk _ _ _ (by decide) k1, k2, k3, kk _ _ _ (by decide) j1, j2, j3⟩
set_option maxHeartbeats 4000000 in
set_option maxRecDepth 100000 in
theorem law_short {p : Program} {l : Launch} {e : Env} {s : State} {m : MethodId} {below : List Frame} {meth : Method} {c : Code} {b : Nat} {xs : Nat → Int32} {D : va_G} {X : ClassId × ClassId × ClassId × ClassId} {lo t0 : Nat} {H : Heap} {locs : List Loc} {ls : Array Slot} {ce sl L : Nat} (hL : L < 7) (elo : lo = s.heap.size) (C : lw_At p s m meth c b L xs) (hc9 : ce ≤ 600002) (hs9 : sl ≤ 7302232) (hS : va_S (fun q => lo ≤ q) s.heap H locs) (hl : lv_has ls 7 [(0, .ref b), (4, .int (iI (0)))]) : W p l e room_1 s m #[Value.ref b] below meth c H locs ce sl (lw_Z below #[Value.ref b] s) (F0 m 23 ls []) := by
  obtain ⟨hx, hb, hr, hml, hown, hts, hX, hbl, hlocks, hgv⟩ := C
  have hbA : ¬ (fun q : Nat => lo ≤ q) b := by show ¬ lo ≤ b; omega
  refine lv_iload hx hb d_la_law_23 (lv_at hl 1 rfl) ?_
  refine lv_aload_n hx hb d_la_law_25 rfl (lv_at hl 0 rfl) ?_
  refine ml_slen hx hb hX hbl hbA hS d_la_law_26 ?_
  refine mi_bipush hx hb d_la_law_27 (by decide) ?_
  refine mi_isub hx hb d_la_law_29 ?_
  refine mi_icmp_gt (tgt := 794) hx hb d_la_law_30 (by decide) (by decide) (by constructor <;> omega) (fun c9 => ?_) (fun c9 => absurd (by omega) c9)
  refine lv_iconst (v := 1) hx hb d_la_law_794 (by decide) ?_
  refine va_forget (fun q hq => by have h9 : lo ≤ q.base := hS.2.2 q hq; omega) ?_
  refine W.widen (k := 600002) (n := 7302232) hc9 hs9 ?_
  exact lw_ret hx hb hr hlocks d_la_law_795
set_option maxHeartbeats 4000000 in
set_option maxRecDepth 100000 in
theorem law_entry {p : Program} {l : Launch} {e : Env} {s : State} {m : MethodId} {below : List Frame} {meth : Method} {c : Code} {b : Nat} {xs : Nat → Int32} {D : va_G} {X : ClassId × ClassId × ClassId × ClassId} {lo t0 : Nat} {L : Nat} (C : lw_At p s m meth c b L xs) (hK : va_K D CL (TYS X) s) (hG : Gv lo t0 s) (elo : lo = s.heap.size) (kend : ∀ (f : hM) (a am oa : Nat) (H : Heap) (locs : List Loc) (ls : Array Slot), lwS X t0 f a am oa → hW D CL lo f H → va_S (fun q => lo ≤ q) s.heap H locs → lv_has ls 7 [(0, .ref b), (1, .ref a), (2, .ref am), (3, .ref oa), (4, .int (iI (0)))] → W p l e room_1 s m #[Value.ref b] below meth c H locs 23 30042 (lw_Z below #[Value.ref b] s) (F0 m 23 ls [])) : W p l e room_1 s m #[Value.ref b] below meth c s.heap [] 0 0 (lw_Z below #[Value.ref b] s) (entryFrame m ([Value.ref b] : List Value).toArray 7) := by
  obtain ⟨hx, hb, hr, hml, hown, hts, hX, hbl, hlocks, hgv⟩ := C
  have ht : ∀ w ∈ TB, w.before #[Value.ref b] s = true := fun w hw => hts w (tb_l hw)
  have hown : s.vm.findClass "PacketOrderLaw" = some m.cls := hown
  have hlo : lo ≤ s.heap.size := by omega
  have hGO := Gv.ok lo t0
  have hNB := hG.1
  have hS : va_S (fun q : Nat => lo ≤ q) s.heap s.heap [] := va_S.rf
  obtain ⟨f0, hf0⟩ : ∃ f0 : hM, f0 = fun _ => none := ⟨_, rfl⟩
  have hw : hW D CL lo f0 s.heap := fun a e9 h9 => by rw [hf0] at h9; cases h9
  have hF : Fn [] f0 f0 := Fn.rf
  have hl := lv_entry ([.ref b]) (n := 7) (Nat.le_of_ble_eq_true rfl)
  rw [lg_entry_eq]
  generalize (lg_sl ([.ref b]) ++ List.replicate (7 - (lg_sl ([.ref b])).length) Slot.unset).toArray = ls at hl ⊢
  have hl : lv_has ls 7 [(0, .ref b)] := hl
  refine mo_new (ci := 0) (sh := sh_po) hx hb ht in_po ty_po tyok_po hown (ht _ t_24) (ht _ t_25) (ht _ t_1) hK hw hS hlo rfl df_po (Nat.le_of_ble_eq_true rfl) (Nat.le_of_ble_eq_true rfl) d_la_law_0 (fun q0 H f1 hq0 hf1 hw hS => ?_)
  have hn0 := eq_s hf1
  have ok_q0 := Fn.new hF hq0
  have hF := Fn.up hF hf1 ok_q0
  refine lv_dup hx hb d_la_law_3 rfl ?_
  refine mq_callv (va_runI (As := []) (rest := [.ref q0]) ⟨hx, hb, hml, hown, ht⟩ (c_po_init l D X lo t0 f1 q0 hn0) (cwI 0 ht (good_M (fun _ h => h) t_28) rfl rfl rfl (ht _ t_1) (ht _ t_26) (ht _ t_27) rfl (by decide +kernel) ⟨Nat.le_of_ble_eq_true rfl, Nat.le_of_ble_eq_true rfl⟩) (mq_preS hK hlo hGO hG hw hS) rfl rfl hl.1 rfl (lv_room (Nat.le_of_ble_eq_true rfl)) d_la_law_4 ⟨Nat.le_of_ble_eq_true rfl, Nat.le_of_ble_eq_true rfl⟩) hS (fun f2 H locs hp hw hS => ?_)
  obtain ⟨hF2, hpo⟩ := hp
  have hF := Fn.tr hF hF2 (fun q hq => by rw [List.mem_singleton.mp hq]; exact ok_q0)
  refine lv_astore_n (lv' := [(1, .ref q0), (0, .ref b)]) hx hb d_la_law_7 rfl hl (by decide) rfl (fun ls hl => ?_)
  refine mo_new (ci := 6) (sh := sh_mo) hx hb ht in_mo ty_mo tyok_mo hown (ht _ t_660) (ht _ t_661) (ht _ t_7) hK hw hS hlo rfl df_mo (Nat.le_of_ble_eq_true rfl) (Nat.le_of_ble_eq_true rfl) d_la_law_8 (fun q8 H f3 hq8 hf3 hw hS => ?_)
  have hpo := poFr.fn (S := []) hpo (Fn.up Fn.rf hf3 (Fn.new Fn.rf hq8)) (fun q hq => absurd hq List.not_mem_nil)
  have hn8 := eq_s hf3
  have ok_q8 := Fn.new hF hq8
  have hF := Fn.up hF hf3 ok_q8
  refine lv_dup hx hb d_la_law_11 rfl ?_
  refine mq_callv (va_runI (As := []) (rest := [.ref q8]) ⟨hx, hb, hml, hown, ht⟩ (c_mo_init l D X lo (Gv lo t0) hGO f3 q8 hn8) (cwI 0 ht (good_M (fun _ h => h) t_664) rfl rfl rfl (ht _ t_7) (ht _ t_662) (ht _ t_663) rfl (by decide +kernel) ⟨Nat.le_of_ble_eq_true rfl, Nat.le_of_ble_eq_true rfl⟩) (mq_preS hK hlo hGO hG hw hS) rfl rfl hl.1 rfl (lv_room (Nat.le_of_ble_eq_true rfl)) d_la_law_12 ⟨Nat.le_of_ble_eq_true rfl, Nat.le_of_ble_eq_true rfl⟩) hS (fun f4 H locs hp hw hS => ?_)
  have hpo := poFr.fn hpo hp.1 (fun q hq => by rw [List.mem_singleton.mp hq]; exact ⟨_, hn8⟩)
  have hF := Fn.tr hF hp.1 (fun q hq => by rw [List.mem_singleton.mp hq]; exact ok_q8)
  obtain ⟨-, bm, A, hR⟩ := hp
  refine lv_astore_n (lv' := [(2, .ref q8), (1, .ref q0), (0, .ref b)]) hx hb d_la_law_15 rfl hl (by decide) rfl (fun ls hl => ?_)
  refine mi_iconst hx hb d_la_law_16 ?_
  refine mo_newal hx hb (ht _ t_98) hK hw hS hlo 1 rfl (1) rfl (Nat.le_of_ble_eq_true rfl) (Nat.le_of_ble_eq_true rfl) (Nat.le_of_ble_eq_true rfl) d_la_law_17 (fun q17 H f5 hq17 hf5 hw hS => ?_)
  have hpo := poFr.fn (S := []) hpo (Fn.up Fn.rf hf5 (Fn.new Fn.rf hq17)) (fun q hq => absurd hq List.not_mem_nil)
  have hR := moR.fn (S := []) hR (Fn.up Fn.rf hf5 (Fn.new Fn.rf hq17)) (fun q hq => absurd hq List.not_mem_nil)
  have hn17 := eq_s hf5
  have ok_q17 := Fn.new hF hq17
  have hF := Fn.up hF hf5 ok_q17
  refine lv_astore_n (lv' := [(3, .ref q17), (2, .ref q8), (1, .ref q0), (0, .ref b)]) hx hb d_la_law_19 rfl hl (by decide) rfl (fun ls hl => ?_)
  refine mi_iconst hx hb d_la_law_20 ?_
  refine lv_istore (lv' := [(4, .int (iI (0))), (3, .ref q17), (2, .ref q8), (1, .ref q0), (0, .ref b)]) hx hb d_la_law_21 hl (by decide) rfl (fun ls hl => ?_)
  refine W.widen (k := 23) (n := 30042) (Nat.le_of_ble_eq_true rfl) (Nat.le_of_ble_eq_true rfl) ?_
  exact kend _ q0 q8 q17 _ _ _ ⟨hpo, ⟨bm, A, hR⟩, hn17⟩ hw hS (lv_sub hl [4, 3, 2, 1, 0] rfl)
