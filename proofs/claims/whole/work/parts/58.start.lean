theorem xKnown {s : State} {args : Array Value} (hts : ∀ w ∈ lw_tbl, w.before args s = true) : ∀ k : Nat, ∃ y : ClassId × (Nat → Nat), ∀ q : vw_C, vwCl[k]? = some q → u_Kn s q.1 q.2.1 q.2.2 y.1 y.2
  | 0 => by
    obtain ⟨c, i, h⟩ := u_known (C := RJx4a65c) (T := TJx4a65c) (N := 3) (n := 3) hts (fun w hw => xt_lw (iw_Jx4a65c w hw)) (hts _ (xt_lw mm_89))
    exact ⟨(c, i), fun q hq => by cases hq; exact h⟩
  | 1 => by
    obtain ⟨c, i, h⟩ := u_known (C := RX0) (T := TX0) (N := 4) (n := 4) hts (fun w hw => xt_lw (iw_X0 w hw)) (hts _ (xt_lw mm_573))
    exact ⟨(c, i), fun q hq => by cases hq; exact h⟩
  | 2 => by
    obtain ⟨c, i, h⟩ := u_known (C := RX1) (T := TX1) (N := 5) (n := 5) hts (fun w hw => xt_lw (iw_X1 w hw)) (hts _ (xt_lw mm_166))
    exact ⟨(c, i), fun q hq => by cases hq; exact h⟩
  | 3 => by
    obtain ⟨c, i, h⟩ := u_known (C := RX2) (T := TX2) (N := 5) (n := 5) hts (fun w hw => xt_lw (iw_X2 w hw)) (hts _ (xt_lw mm_719))
    exact ⟨(c, i), fun q hq => by cases hq; exact h⟩
  | 4 => by
    obtain ⟨c, i, h⟩ := u_known (C := RX4) (T := TX4) (N := 2) (n := 2) hts (fun w hw => xt_lw (iw_X4 w hw)) (hts _ (xt_lw mm_115))
    exact ⟨(c, i), fun q hq => by cases hq; exact h⟩
  | 5 => by
    obtain ⟨c, i, h⟩ := u_known (C := RX5) (T := TX5) (N := 10) (n := 10) hts (fun w hw => xt_lw (iw_X5 w hw)) (hts _ (xt_lw mm_129))
    exact ⟨(c, i), fun q hq => by cases hq; exact h⟩
  | 6 => by
    obtain ⟨c, i, h⟩ := u_known (C := RX6) (T := TX6) (N := 6) (n := 6) hts (fun w hw => xt_lw (iw_X6 w hw)) (hts _ (xt_lw mm_407))
    exact ⟨(c, i), fun q hq => by cases hq; exact h⟩
  | 7 => by
    obtain ⟨c, i, h⟩ := u_known (C := RX7) (T := TX7) (N := 3) (n := 3) hts (fun w hw => xt_lw (iw_X7 w hw)) (hts _ (xt_lw mm_236))
    exact ⟨(c, i), fun q hq => by cases hq; exact h⟩
  | 8 => by
    obtain ⟨c, i, h⟩ := u_known (C := RX8) (T := TX8) (N := 5) (n := 5) hts (fun w hw => xt_lw (iw_X8 w hw)) (hts _ (xt_lw mm_351))
    exact ⟨(c, i), fun q hq => by cases hq; exact h⟩
  | 9 => by
    obtain ⟨c, i, h⟩ := u_known (C := RX9) (T := TX9) (N := 2) (n := 2) hts (fun w hw => xt_lw (iw_X9 w hw)) (hts _ (xt_lw mm_645))
    exact ⟨(c, i), fun q hq => by cases hq; exact h⟩
  | 10 => by
    obtain ⟨c, i, h⟩ := u_known (C := RX10) (T := TX10) (N := 11) (n := 11) hts (fun w hw => xt_lw (iw_X10 w hw)) (hts _ (xt_lw mm_81))
    exact ⟨(c, i), fun q hq => by cases hq; exact h⟩
  | 11 => by
    obtain ⟨c, i, h⟩ := u_known (C := RX11) (T := TX11) (N := 42) (n := 42) hts (fun w hw => xt_lw (iw_X11 w hw)) (hts _ (xt_lw mm_938))
    exact ⟨(c, i), fun q hq => by cases hq; exact h⟩
  | k + 12 => ⟨(0, fun _ => 0), fun q hq => by simp [vwCl] at hq⟩
theorem xPrim {s : State} {args : Array Value} {ty : FieldType} (hty : ty = .int ∨ ty = .boolean ∨ ty = .long) (h : (Cond.arrayClass ty).before args s = true) : ∃ cA : ClassId, ArrOfT s cA ty ∧ va_RA s cA ty := by
  obtain ⟨c, k, comp, h1, h2, h3⟩ := Cond.arrayClass_spec h
  exact ⟨c, fun n z => ⟨fun _ h => (by cases h), k, h2, comp, h3⟩, by rcases hty with rfl | rfl | rfl <;> exact h1⟩
theorem xObjA {s : State} {args : Array Value} (h : (Cond.arrayOver (.object "java/lang/Object")).before args s = true) : ∃ cA : ClassId, ArrOfT s cA (.object "java/lang/Object") ∧ va_RA s cA (.object "java/lang/Object") := by
  obtain ⟨comp, c, k, h1, -, h2, h3, h4⟩ := Cond.arrayOver_spec h
  exact ⟨c, fun n z => ⟨fun _ h => (by cases h), k, h2, comp, h3⟩, k, comp, h2, h3, h1, h4⟩
theorem xFs_words : ∀ q ∈ xFs, (Cond.declares q.2.1 ∈ lw_tbl ∧ Cond.interfaceMethod q.2.1.cls q.2.1.cls q.2.1.name q.2.1.desc ∈ lw_tbl) ∧ Cond.publicMethod q.2.2 ∈ lw_tbl ∧ Cond.unhidden q.1 q.2.1.name q.2.1.desc ∈ lw_tbl ∧ Cond.castable q.1 q.2.1.cls ∈ lw_tbl := by decide +kernel
theorem xCast_words : ∀ q ∈ vwCl, Cond.castable q.1 "java/lang/Object" ∈ lw_tbl := by decide +kernel
set_option maxRecDepth 100000 in
theorem xStart {s : State} {b : Nat} (hts : ∀ w ∈ lw_tbl, w.before #[Value.ref b] s = true) (hgv : (Jvm.Cond.and given_1 narrow_1).before #[Value.ref b] s = true) : ∃ (D : va_G) (G : Nat → Nat), G 0 = s.heap.size ∧ G 1 < G 0 ∧ xR D G (s.heap.size, fun _ => none) s s.heap := by
  have hs := flat_of_before _ hgv
  have har : (Cond.arrayOf (.static "java/util/ArrayList" "DEFAULTCAPACITY_EMPTY_ELEMENTDATA" "[Ljava/lang/Object;") (.object "java/lang/Object")).before #[Value.ref b] s = true := hs _ (by decide +kernel)
  have hle : (Cond.eq (.length (.static "java/util/ArrayList" "DEFAULTCAPACITY_EMPTY_ELEMENTDATA" "[Ljava/lang/Object;")) (.int 0)).before #[Value.ref b] s = true := hs _ (by decide +kernel)
  have hmi : (Cond.isRef (.mirror "[Ljava/lang/Object;")).before #[Value.ref b] s = true := hs _ (by decide +kernel)
  have hus : (Cond.isRef (.static Jvm.Bundle.tN "UNASSIGNED_STACK" Jvm.Bundle.steD)).before #[Value.ref b] s = true := hs _ (by decide +kernel)
  have hsu : (Cond.isRef (.static Jvm.Bundle.tN "SUPPRESSED_SENTINEL" Jvm.Bundle.listD)).before #[Value.ref b] s = true := hs _ (by decide +kernel)
  have hA : ∀ a : Nat, a < s.heap.size → ¬ s.heap.size ≤ a := fun a ha h => by omega
  obtain ⟨t, ht, cell, g1, g2, -, -, g3, -, g4⟩ := va_Tof (N := 0) (f := fun _ => .null) (A := fun q => s.heap.size ≤ q) (by decide) har (va_eqt hle) (fun j hj => absurd hj (Nat.not_lt_zero j)) hA
  obtain ⟨mi, hmi⟩ := va_Mi.of hmi
  obtain ⟨f, hf⟩ := Classical.axiomOfChoice (xKnown hts)
  obtain ⟨cI, hI⟩ := xPrim (ty := .int) (Or.inl rfl) (hts _ (xt_lw mm_127))
  obtain ⟨cZ, hZ⟩ := xPrim (ty := .boolean) (Or.inr (Or.inl rfl)) (hts _ (xt_lw mm_373))
  obtain ⟨cJ, hJ⟩ := xPrim (ty := .long) (Or.inr (Or.inr rfl)) (hts _ (xt_lw mm_1070))
  have hov : (Cond.arrayOver (.object "java/lang/Object")).before #[Value.ref b] s = true := hts _ (by decide +kernel)
  obtain ⟨cO, hO⟩ := xObjA hov
  refine ⟨(fun k => (f k).1, fun k => (f k).2), fun k => match k with | 0 => s.heap.size | 1 => t | 2 => cI | 3 => cZ | 4 => cJ | 5 => cO | _ => mi, rfl, (Array.getElem?_eq_some_iff.mp g1).1, rfl, Nat.le_refl _, ⟨fun k q hq => hf k q hq, fun k q hq => ?_⟩, ⟨va_Zof (hts _ (by decide +kernel)) (hts _ (xt_lw mm_58)) ht hA, fun q hq => ?_, fun q hq => va_Nw.of rfl (hts _ (xCast_words q hq)), hmi, va_Dc.of (hts _ (by decide +kernel)), va_AO.of hov, vx_Zqof (hts _ (by decide +kernel)) (hts _ (xt_lw mm_72)) hus hA, vx_Zqof (hts _ (by decide +kernel)) (hts _ (xt_lw mm_72)) hsu hA, g4, cell, g1, g2, g3⟩, fun a e h => by cases h⟩
  · match k, hq with
    | 0, hq => cases hq; exact hI
    | 1, hq => cases hq; exact hZ
    | 2, hq => cases hq; exact hJ
    | 3, hq => cases hq; exact hO
    | k + 4, hq => simp [xTy] at hq
  · obtain ⟨⟨w1, w2⟩, w3, w4, w5⟩ := xFs_words q hq
    exact va_Fw.of (hts _ w1) (hts _ w2) (hts _ w3) (hts _ w4) (hts _ w5)
/-- WHAT IS LEFT TO SHOW: about the functions alone -/
def xPure : Prop := ∀ (G : Nat → Nat) (h0 : xH), G 0 = h0.1 → G 1 < G 0 → h0.2 = (fun _ => none) → ∃ (x m out : Nat) (h1 h2 h3 h4 h5 : xH) (J : Nat → xH → Prop), nO h0 10 [.null, .null, .null, .null, .null, .null, .null, .null, .int 0, .int 0, .int 0] = some (x, h1) ∧ F_X10_init G h1 x = some h2 ∧ nO h2 11 [.int 0, .int 0, .int 0, .null, .null, .null, .null, .null, .null, .int 0, .int 0, .int 0, .long 0, .long 0, .long 0, .int 0, .null, .null, .null, .null, .null, .null, .null, .int 0, .int 0, .null, .int 0, .null, .null, .null, .null, .null, .null, .int 0, .null, .null, .null, .null, .null, .int 0, .null, .null] = some (m, h3) ∧ F_X11_init G h3 m = some h4 ∧ nAJ G h4 1 = some (out, h5) ∧ sJ J G x m out ∧ (∀ i h, J i h → J (i + 1) h) ∧ J 0 h5
set_option maxHeartbeats 4000000 in
set_option maxRecDepth 100000 in
theorem whole_start_of (hp : xPure) {p : Program} {e : Env} {s : State} {m : MethodId} {below : List Frame} {meth : Method} {c : Code} (l : Launch) (hlt : l.stackTraces = false) {b L : Nat} {xs : Nat → Int32} (hL : L ≤ 3072) (C0 : lw_At p s m meth c b L xs) : W p l e room_1 s m #[Value.ref b] below meth c s.heap [] 0 0 (lw_Z below #[Value.ref b] s) (entryFrame m ([Value.ref b] : List Value).toArray 7) := by
  obtain ⟨hx, hb, hr, hml, hown, htl, hX, hbl, hlk, hgv⟩ := id C0
  obtain ⟨D, G, hG0, hG1, hR⟩ := xStart htl hgv
  obtain ⟨xa, ma, out, h1, h2, h3, h4, h5, J, e1, e2, e3, e4, e5, hJ, hJ0, hj⟩ := hp G (s.heap.size, fun _ => none) hG0 hG1 rfl
  have hts : ∀ w ∈ xt, w.before #[Value.ref b] s = true := fun w hw => htl w (xt_lw hw)
  have hB : xB s := xB.of htl
  have hS : va_S (xA G) s.heap s.heap [] := va_S.rf
  have hl := lv_entry ([.ref b] : List Value) (n := 7) (Nat.le_of_ble_eq_true rfl)
  rw [lg_entry_eq]
  generalize (lg_sl ([.ref b] : List Value) ++ List.replicate (7 - (lg_sl ([.ref b] : List Value)).length) Slot.unset).toArray = ls at hl ⊢
  have hl : lv_has ls 7 [(0, va_rf (some b))] := hl
  refine x_newO (C := RX10) (T := TX10) (N := 11) (ci := 10) hx hb hts iw_X10 tyX10_ok hown mm_80 mm_81 mm_55 hR hS rfl (by decide) (by decide) (by decide) e1 dL_law_0 (fun H hR hS => ?_)
  refine lv_dup hx hb dL_law_3 xrf_cat ?_
  refine x_callIb (o := (some xa)) (As := []) (rest := [va_rf (some xa)]) (v := none) (k := 0) hx hb hml hown hts hB hR hS rfl (t_X10_init l D G h1 xa h2 e2) f_X10_init mm_82 mm_83 rfl rfl hl.1 rfl (by first | exact Nat.le_of_ble_eq_true rfl | simp [xrf_cat]) dL_law_4 (by decide) (by decide) rfl (fun H locs hR hS => ?_)
  refine x_astore_n (o := (some xa)) (lv' := [(1, va_rf (some xa)), (0, va_rf (some b))]) hx hb dL_law_7 rfl hl (by decide) (by first | rfl | simp [xrf_cat]) (fun ls hl => ?_)
  refine x_newO (C := RX11) (T := TX11) (N := 42) (ci := 11) hx hb hts iw_X11 tyX11_ok hown mm_937 mm_938 mm_62 hR hS rfl (by decide) (by decide) (by decide) e3 dL_law_8 (fun H hR hS => ?_)
  refine lv_dup hx hb dL_law_11 xrf_cat ?_
  refine x_callI (o := (some ma)) (As := []) (rest := [va_rf (some ma)]) (v := none) (k := 0) hx hb hml hown hts hR hS rfl (t_X11_init l D G h3 ma h4 e4) f_X11_init mm_939 mm_940 rfl rfl hl.1 rfl (by first | exact Nat.le_of_ble_eq_true rfl | simp [xrf_cat]) dL_law_12 (by decide) (by decide) rfl (fun H locs hR hS => ?_)
  refine x_astore_n (o := (some ma)) (lv' := [(2, va_rf (some ma)), (1, va_rf (some xa)), (0, va_rf (some b))]) hx hb dL_law_15 rfl hl (by decide) (by first | rfl | simp [xrf_cat]) (fun ls hl => ?_)
  refine lv_iconst (v := 1) hx hb dL_law_16 (by decide) ?_
  refine x_nAJ hx hb hts mm_1070 hR hS (by decide) (by decide) (by decide) (by decide) (by decide) e5 dL_law_17 (fun H hR hS => ?_)
  refine x_astore_n (o := (some out)) (lv' := [(3, va_rf (some out)), (2, va_rf (some ma)), (1, va_rf (some xa)), (0, va_rf (some b))]) hx hb dL_law_19 rfl hl (by decide) (by first | rfl | simp [xrf_cat]) (fun ls hl => ?_)
  refine lv_iconst (v := 0) hx hb dL_law_20 (by decide) ?_
  refine lv_istore (lv' := [(4, .int 0), (3, va_rf (some out)), (2, va_rf (some ma)), (1, va_rf (some xa)), (0, va_rf (some b))]) hx hb dL_law_21 hl (by decide) (by first | rfl | simp [xrf_cat]) (fun ls hl => ?_)
  refine W.widen (k := 50 + 20 * 0) (n := 30000 + 2000 * 0) (by decide) (by decide) ?_
  exact law_loop hlt hL hx hb hr hlk hml hown hts hB hX hbl hG0 hJ hJ0 (L + 7) 0 h5 0 (by omega) (by omega) nI_0.symm hj _ _ _ hR hS (lv_sub hl [4, 3, 2, 1, 0] rfl)
