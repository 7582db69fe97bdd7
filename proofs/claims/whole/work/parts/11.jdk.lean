def rm_J6_bitCount_0f7a4 : Room := { frames := 0, cells := 0, slots := 0, locals := 0 }
theorem f_J6_bitCount_0f7a4 : xM yJ6_bitCount_0f7a4 cJ6_bitCount_0f7a4 1 (some .int) 1 := ⟨mm_803, mm_79, by decide +kernel, by decide +kernel⟩
theorem dJ6_bitCount_0f7a4_0 : decode cJ6_bitCount_0f7a4 0 = .ok (.iload_n 0, 1) := by decide +kernel
theorem dJ6_bitCount_0f7a4_1 : decode cJ6_bitCount_0f7a4 1 = .ok (.iload_n 0, 1) := by decide +kernel
theorem dJ6_bitCount_0f7a4_2 : decode cJ6_bitCount_0f7a4 2 = .ok (.iconst 1, 1) := by decide +kernel
theorem dJ6_bitCount_0f7a4_3 : decode cJ6_bitCount_0f7a4 3 = .ok (.iushr, 1) := by decide +kernel
theorem dJ6_bitCount_0f7a4_4 : decode cJ6_bitCount_0f7a4 4 = .ok (.ldc_w 265, 3) := by decide +kernel
theorem dJ6_bitCount_0f7a4_7 : decode cJ6_bitCount_0f7a4 7 = .ok (.iand, 1) := by decide +kernel
theorem dJ6_bitCount_0f7a4_8 : decode cJ6_bitCount_0f7a4 8 = .ok (.isub, 1) := by decide +kernel
theorem dJ6_bitCount_0f7a4_9 : decode cJ6_bitCount_0f7a4 9 = .ok (.istore_n 0, 1) := by decide +kernel
theorem dJ6_bitCount_0f7a4_10 : decode cJ6_bitCount_0f7a4 10 = .ok (.iload_n 0, 1) := by decide +kernel
theorem dJ6_bitCount_0f7a4_11 : decode cJ6_bitCount_0f7a4 11 = .ok (.ldc_w 266, 3) := by decide +kernel
theorem dJ6_bitCount_0f7a4_14 : decode cJ6_bitCount_0f7a4 14 = .ok (.iand, 1) := by decide +kernel
theorem dJ6_bitCount_0f7a4_15 : decode cJ6_bitCount_0f7a4 15 = .ok (.iload_n 0, 1) := by decide +kernel
theorem dJ6_bitCount_0f7a4_16 : decode cJ6_bitCount_0f7a4 16 = .ok (.iconst 2, 1) := by decide +kernel
theorem dJ6_bitCount_0f7a4_17 : decode cJ6_bitCount_0f7a4 17 = .ok (.iushr, 1) := by decide +kernel
theorem dJ6_bitCount_0f7a4_18 : decode cJ6_bitCount_0f7a4 18 = .ok (.ldc_w 266, 3) := by decide +kernel
theorem dJ6_bitCount_0f7a4_21 : decode cJ6_bitCount_0f7a4 21 = .ok (.iand, 1) := by decide +kernel
theorem dJ6_bitCount_0f7a4_22 : decode cJ6_bitCount_0f7a4 22 = .ok (.iadd, 1) := by decide +kernel
theorem dJ6_bitCount_0f7a4_23 : decode cJ6_bitCount_0f7a4 23 = .ok (.istore_n 0, 1) := by decide +kernel
theorem dJ6_bitCount_0f7a4_24 : decode cJ6_bitCount_0f7a4 24 = .ok (.iload_n 0, 1) := by decide +kernel
theorem dJ6_bitCount_0f7a4_25 : decode cJ6_bitCount_0f7a4 25 = .ok (.iload_n 0, 1) := by decide +kernel
theorem dJ6_bitCount_0f7a4_26 : decode cJ6_bitCount_0f7a4 26 = .ok (.iconst 4, 1) := by decide +kernel
theorem dJ6_bitCount_0f7a4_27 : decode cJ6_bitCount_0f7a4 27 = .ok (.iushr, 1) := by decide +kernel
theorem dJ6_bitCount_0f7a4_28 : decode cJ6_bitCount_0f7a4 28 = .ok (.iadd, 1) := by decide +kernel
theorem dJ6_bitCount_0f7a4_29 : decode cJ6_bitCount_0f7a4 29 = .ok (.ldc_w 267, 3) := by decide +kernel
theorem dJ6_bitCount_0f7a4_32 : decode cJ6_bitCount_0f7a4 32 = .ok (.iand, 1) := by decide +kernel
theorem dJ6_bitCount_0f7a4_33 : decode cJ6_bitCount_0f7a4 33 = .ok (.istore_n 0, 1) := by decide +kernel
theorem dJ6_bitCount_0f7a4_34 : decode cJ6_bitCount_0f7a4 34 = .ok (.iload_n 0, 1) := by decide +kernel
theorem dJ6_bitCount_0f7a4_35 : decode cJ6_bitCount_0f7a4 35 = .ok (.iload_n 0, 1) := by decide +kernel
theorem dJ6_bitCount_0f7a4_36 : decode cJ6_bitCount_0f7a4 36 = .ok (.bipush 8, 2) := by decide +kernel
theorem dJ6_bitCount_0f7a4_38 : decode cJ6_bitCount_0f7a4 38 = .ok (.iushr, 1) := by decide +kernel
theorem dJ6_bitCount_0f7a4_39 : decode cJ6_bitCount_0f7a4 39 = .ok (.iadd, 1) := by decide +kernel
theorem dJ6_bitCount_0f7a4_40 : decode cJ6_bitCount_0f7a4 40 = .ok (.istore_n 0, 1) := by decide +kernel
theorem dJ6_bitCount_0f7a4_41 : decode cJ6_bitCount_0f7a4 41 = .ok (.iload_n 0, 1) := by decide +kernel
theorem dJ6_bitCount_0f7a4_42 : decode cJ6_bitCount_0f7a4 42 = .ok (.iload_n 0, 1) := by decide +kernel
theorem dJ6_bitCount_0f7a4_43 : decode cJ6_bitCount_0f7a4 43 = .ok (.bipush 16, 2) := by decide +kernel
theorem dJ6_bitCount_0f7a4_45 : decode cJ6_bitCount_0f7a4 45 = .ok (.iushr, 1) := by decide +kernel
theorem dJ6_bitCount_0f7a4_46 : decode cJ6_bitCount_0f7a4 46 = .ok (.iadd, 1) := by decide +kernel
theorem dJ6_bitCount_0f7a4_47 : decode cJ6_bitCount_0f7a4 47 = .ok (.istore_n 0, 1) := by decide +kernel
theorem dJ6_bitCount_0f7a4_48 : decode cJ6_bitCount_0f7a4 48 = .ok (.iload_n 0, 1) := by decide +kernel
theorem dJ6_bitCount_0f7a4_49 : decode cJ6_bitCount_0f7a4 49 = .ok (.bipush 63, 2) := by decide +kernel
theorem dJ6_bitCount_0f7a4_51 : decode cJ6_bitCount_0f7a4 51 = .ok (.iand, 1) := by decide +kernel
theorem dJ6_bitCount_0f7a4_52 : decode cJ6_bitCount_0f7a4 52 = .ok (.ireturn, 1) := by decide +kernel
def F_J6_bitCount_0f7a4 (x0 : Int32) : Option Int32 :=
  xl (x0 - ((((x0 : Int32).toUInt32 >>> ((1 : Int32).toUInt32 &&& Int32.toUInt32 31)).toInt32) &&& 1431655765)) fun v1 =>
  xl ((v1 &&& 858993459) + ((((v1 : Int32).toUInt32 >>> ((2 : Int32).toUInt32 &&& Int32.toUInt32 31)).toInt32) &&& 858993459)) fun v2 =>
  xl ((v2 + (((v2 : Int32).toUInt32 >>> ((4 : Int32).toUInt32 &&& Int32.toUInt32 31)).toInt32)) &&& 252645135) fun v3 =>
  xl (v3 + (((v3 : Int32).toUInt32 >>> ((8 : Int32).toUInt32 &&& Int32.toUInt32 31)).toInt32)) fun v4 =>
  xl (v4 + (((v4 : Int32).toUInt32 >>> ((16 : Int32).toUInt32 &&& Int32.toUInt32 31)).toInt32)) fun v5 =>
  some (v5 &&& 63)
set_option maxHeartbeats 4000000 in
set_option maxRecDepth 100000 in
theorem t_J6_bitCount_0f7a4 (l : Launch) (D : va_G) (G : Nat → Nat) (h : xH) (x0 : Int32) (r : Int32) (hF : F_J6_bitCount_0f7a4 x0 = some r) : xC l yJ6_bitCount_0f7a4 cJ6_bitCount_0f7a4 1 (some .int) (rm_J6_bitCount_0f7a4) D G h [.int x0] (some (.int r)) h := by
  refine xC_of (by decide) (by first | decide | exact Nat.le_of_ble_eq_true rfl) ?_
  intro p e s m args below meth c ls hx hb hr hlk hml hown hnm hts hR hS hl
  have hl : lv_has ls 1 [(0, .int x0)] := hl
  unfold F_J6_bitCount_0f7a4 at hF
  refine lv_iload_n hx hb dJ6_bitCount_0f7a4_0 rfl (lv_at hl 0 rfl) ?_
  refine lv_iload_n hx hb dJ6_bitCount_0f7a4_1 rfl (lv_at hl 0 rfl) ?_
  refine lv_iconst (v := 1) hx hb dJ6_bitCount_0f7a4_2 (by decide) ?_
  refine lv_iushr (v := ((x0 : Int32).toUInt32 >>> ((1 : Int32).toUInt32 &&& Int32.toUInt32 31)).toInt32) hx hb dJ6_bitCount_0f7a4_3 rfl ?_
  refine lv_ldcw hx hb hown (hts _ mm_804) dJ6_bitCount_0f7a4_4 ?_
  refine lv_iand hx hb dJ6_bitCount_0f7a4_7 ?_
  refine lv_isub hx hb dJ6_bitCount_0f7a4_8 ?_
  refine lv_topi (fun v1 ev1 => ?_)
  replace hF := xlet ev1 hF
  refine lv_istore_n (lv' := [(0, .int v1)]) hx hb dJ6_bitCount_0f7a4_9 rfl hl (by decide) (by first | rfl | (simp [xrf_cat, xcI, xcJ, xcA]; done) | (simp [xrf_cat, xcI, xcJ, xcA]; decide)) (fun ls hl => ?_)
  refine lv_iload_n hx hb dJ6_bitCount_0f7a4_10 rfl (lv_at hl 0 rfl) ?_
  refine lv_ldcw hx hb hown (hts _ mm_805) dJ6_bitCount_0f7a4_11 ?_
  refine lv_iand hx hb dJ6_bitCount_0f7a4_14 ?_
  refine lv_iload_n hx hb dJ6_bitCount_0f7a4_15 rfl (lv_at hl 0 rfl) ?_
  refine lv_iconst (v := 2) hx hb dJ6_bitCount_0f7a4_16 (by decide) ?_
  refine lv_iushr (v := ((v1 : Int32).toUInt32 >>> ((2 : Int32).toUInt32 &&& Int32.toUInt32 31)).toInt32) hx hb dJ6_bitCount_0f7a4_17 rfl ?_
  refine lv_ldcw hx hb hown (hts _ mm_805) dJ6_bitCount_0f7a4_18 ?_
  refine lv_iand hx hb dJ6_bitCount_0f7a4_21 ?_
  refine lv_iadd hx hb dJ6_bitCount_0f7a4_22 ?_
  refine lv_topi (fun v2 ev2 => ?_)
  replace hF := xlet ev2 hF
  refine lv_istore_n (lv' := [(0, .int v2)]) hx hb dJ6_bitCount_0f7a4_23 rfl hl (by decide) (by first | rfl | (simp [xrf_cat, xcI, xcJ, xcA]; done) | (simp [xrf_cat, xcI, xcJ, xcA]; decide)) (fun ls hl => ?_)
  refine lv_iload_n hx hb dJ6_bitCount_0f7a4_24 rfl (lv_at hl 0 rfl) ?_
  refine lv_iload_n hx hb dJ6_bitCount_0f7a4_25 rfl (lv_at hl 0 rfl) ?_
  refine lv_iconst (v := 4) hx hb dJ6_bitCount_0f7a4_26 (by decide) ?_
  refine lv_iushr (v := ((v2 : Int32).toUInt32 >>> ((4 : Int32).toUInt32 &&& Int32.toUInt32 31)).toInt32) hx hb dJ6_bitCount_0f7a4_27 rfl ?_
  refine lv_iadd hx hb dJ6_bitCount_0f7a4_28 ?_
  refine lv_ldcw hx hb hown (hts _ mm_806) dJ6_bitCount_0f7a4_29 ?_
  refine lv_iand hx hb dJ6_bitCount_0f7a4_32 ?_
  refine lv_topi (fun v3 ev3 => ?_)
  replace hF := xlet ev3 hF
  refine lv_istore_n (lv' := [(0, .int v3)]) hx hb dJ6_bitCount_0f7a4_33 rfl hl (by decide) (by first | rfl | (simp [xrf_cat, xcI, xcJ, xcA]; done) | (simp [xrf_cat, xcI, xcJ, xcA]; decide)) (fun ls hl => ?_)
  refine lv_iload_n hx hb dJ6_bitCount_0f7a4_34 rfl (lv_at hl 0 rfl) ?_
  refine lv_iload_n hx hb dJ6_bitCount_0f7a4_35 rfl (lv_at hl 0 rfl) ?_
  refine lv_bipush (v := 8) hx hb dJ6_bitCount_0f7a4_36 (by decide) ?_
  refine lv_iushr (v := ((v3 : Int32).toUInt32 >>> ((8 : Int32).toUInt32 &&& Int32.toUInt32 31)).toInt32) hx hb dJ6_bitCount_0f7a4_38 rfl ?_
  refine lv_iadd hx hb dJ6_bitCount_0f7a4_39 ?_
  refine lv_topi (fun v4 ev4 => ?_)
  replace hF := xlet ev4 hF
  refine lv_istore_n (lv' := [(0, .int v4)]) hx hb dJ6_bitCount_0f7a4_40 rfl hl (by decide) (by first | rfl | (simp [xrf_cat, xcI, xcJ, xcA]; done) | (simp [xrf_cat, xcI, xcJ, xcA]; decide)) (fun ls hl => ?_)
  refine lv_iload_n hx hb dJ6_bitCount_0f7a4_41 rfl (lv_at hl 0 rfl) ?_
  refine lv_iload_n hx hb dJ6_bitCount_0f7a4_42 rfl (lv_at hl 0 rfl) ?_
  refine lv_bipush (v := 16) hx hb dJ6_bitCount_0f7a4_43 (by decide) ?_
  refine lv_iushr (v := ((v4 : Int32).toUInt32 >>> ((16 : Int32).toUInt32 &&& Int32.toUInt32 31)).toInt32) hx hb dJ6_bitCount_0f7a4_45 rfl ?_
  refine lv_iadd hx hb dJ6_bitCount_0f7a4_46 ?_
  refine lv_topi (fun v5 ev5 => ?_)
  replace hF := xlet ev5 hF
  refine lv_istore_n (lv' := [(0, .int v5)]) hx hb dJ6_bitCount_0f7a4_47 rfl hl (by decide) (by first | rfl | (simp [xrf_cat, xcI, xcJ, xcA]; done) | (simp [xrf_cat, xcI, xcJ, xcA]; decide)) (fun ls hl => ?_)
  refine lv_iload_n hx hb dJ6_bitCount_0f7a4_48 rfl (lv_at hl 0 rfl) ?_
  refine lv_bipush (v := 63) hx hb dJ6_bitCount_0f7a4_49 (by decide) ?_
  refine lv_iand hx hb dJ6_bitCount_0f7a4_51 ?_
  cases hF
  exact x_iret hx hb hr rfl hlk hR hS (by decide) (by decide) dJ6_bitCount_0f7a4_52
def rm_J7_fill_53178 : Room := { frames := 0, cells := 0, slots := 0, locals := 0 }
theorem f_J7_fill_53178 : xM yJ7_fill_53178 cJ7_fill_53178 4 none 2 := ⟨mm_669, mm_66, by decide +kernel, by decide +kernel⟩
theorem dJ7_fill_53178_0 : decode cJ7_fill_53178 0 = .ok (.iconst 0, 1) := by decide +kernel
theorem dJ7_fill_53178_1 : decode cJ7_fill_53178 1 = .ok (.istore_n 2, 1) := by decide +kernel
theorem dJ7_fill_53178_2 : decode cJ7_fill_53178 2 = .ok (.aload_n 0, 1) := by decide +kernel
theorem dJ7_fill_53178_3 : decode cJ7_fill_53178 3 = .ok (.arraylength, 1) := by decide +kernel
theorem dJ7_fill_53178_4 : decode cJ7_fill_53178 4 = .ok (.istore_n 3, 1) := by decide +kernel
theorem dJ7_fill_53178_5 : decode cJ7_fill_53178 5 = .ok (.iload_n 2, 1) := by decide +kernel
theorem dJ7_fill_53178_6 : decode cJ7_fill_53178 6 = .ok (.iload_n 3, 1) := by decide +kernel
theorem dJ7_fill_53178_7 : decode cJ7_fill_53178 7 = .ok (.if_icmp .ge 13, 3) := by decide +kernel
theorem dJ7_fill_53178_10 : decode cJ7_fill_53178 10 = .ok (.aload_n 0, 1) := by decide +kernel
theorem dJ7_fill_53178_11 : decode cJ7_fill_53178 11 = .ok (.iload_n 2, 1) := by decide +kernel
theorem dJ7_fill_53178_12 : decode cJ7_fill_53178 12 = .ok (.iload_n 1, 1) := by decide +kernel
theorem dJ7_fill_53178_13 : decode cJ7_fill_53178 13 = .ok (.iastore, 1) := by decide +kernel
theorem dJ7_fill_53178_14 : decode cJ7_fill_53178 14 = .ok (.iinc 2 1, 3) := by decide +kernel
theorem dJ7_fill_53178_17 : decode cJ7_fill_53178 17 = .ok (.goto (-12), 3) := by decide +kernel
theorem dJ7_fill_53178_20 : decode cJ7_fill_53178 20 = .ok (.return_, 1) := by decide +kernel
def F_J7_fill_53178_5 (G : Nat → Nat) (a0 : Nat) (x1 : Int32) (x3 : Int32) : Nat → xH → Int32 → Option xH
  | 0, _, _ => none
  | n + 1, h, x2 =>
    if x3 ≤ x2 then
      some h
    else
    (stI 2 G h (some a0) x2 x1).bind fun h3 =>
    xl (x2 + 1) fun v4 =>
    F_J7_fill_53178_5 G a0 x1 x3 n h3 v4
set_option maxHeartbeats 4000000 in
set_option maxRecDepth 100000 in
theorem tl_J7_fill_53178_5 {p : Program} {l : Launch} {e : Env} {s : State} {m : MethodId} {args : Array Value} {below : List Frame} {meth : Method} {c : Code} {D : va_G} {h' : xH} (hx : p.tables.exec = Jvm.exec) (hb : c.code = cJ7_fill_53178) (hr : meth.sig.returnType = none) (hlk : meth.locks = false) (hml : c.maxLocals = 4) (hown : s.vm.findClass RJ7 = some m.cls) (hnm : meth.name = "fill") (hts : ∀ w ∈ xt, w.before args s = true) (G : Nat → Nat) (a0 : Nat) (x1 : Int32) (x3 : Int32) : ∀ (n : Nat) (h : xH) (x2 : Int32) (H : Heap) (locs : List Loc) (ls : Array Slot), F_J7_fill_53178_5 G a0 x1 x3 n h x2 = some h' → xR D G h s H → va_S (xA G) s.heap H locs → lv_has ls 4 [(0, va_rf (some a0)), (1, .int x1), (2, .int x2), (3, .int x3)] → W p l e rm_J7_fill_53178 s m args below meth c H locs 0 0 (MQ below (xQ D G none h') args s rm_J7_fill_53178.cells rm_J7_fill_53178.slots (xA G)) (F0 m 5 ls []) := by
  intro n
  induction n with
  | zero =>
    intro h x2 H locs ls hF
    rw [F_J7_fill_53178_5.eq_1] at hF
    cases hF
  | succ n ih =>
    intro h x2 H locs ls hF hR hS hl
    rw [F_J7_fill_53178_5.eq_2] at hF
    refine lv_iload_n hx hb dJ7_fill_53178_5 rfl (lv_at hl 2 rfl) ?_
    refine lv_iload_n hx hb dJ7_fill_53178_6 rfl (lv_at hl 3 rfl) ?_
    refine lv_icmp_ge (tgt := 20) hx hb dJ7_fill_53178_7 (by decide) (fun c2 => ?_) (fun c2 => ?_)
    · replace hF := xift c2 hF
      cases hF
      exact x_vret hx hb hr hlk hR hS (by decide) (by decide) dJ7_fill_53178_20
    · replace hF := xiff c2 hF
      refine x_aload_n (o := (some a0)) hx hb dJ7_fill_53178_10 rfl (lv_at hl 0 rfl) ?_
      refine lv_iload_n hx hb dJ7_fill_53178_11 rfl (lv_at hl 2 rfl) ?_
      refine lv_iload_n hx hb dJ7_fill_53178_12 rfl (lv_at hl 1 rfl) ?_
      replace hF := xbind hF; obtain ⟨h3, eh3, hF⟩ := hF
      refine x_ist (o := (some a0)) hx hb hR hS eh3 dJ7_fill_53178_13 (fun H locs hR hS => ?_)
      obtain ⟨v4, ev4⟩ : ∃ z : Int32, z = (x2 + 1) := ⟨_, rfl⟩
      replace hF := xlet ev4 hF
      refine lv_iinc (v := v4) (lv' := [(2, .int v4), (0, va_rf (some a0)), (1, .int x1), (3, .int x3)]) hx hb dJ7_fill_53178_14 hl (k := 2) rfl (by rw [ev4]; rfl) (by decide) (by first | rfl | (simp [xrf_cat, xcI, xcJ, xcA]; done) | (simp [xrf_cat, xcI, xcJ, xcA]; decide)) (fun ls hl => ?_)
      refine lv_goto (tgt := 5) hx hb dJ7_fill_53178_17 (by decide) ?_
      exact ih h3 v4 _ _ _ hF hR hS (lv_sub hl [1, 2, 0, 3] rfl)
def F_J7_fill_53178 (G : Nat → Nat) (h : xH) (a0 : Nat) (x1 : Int32) : Option xH :=
  (aln G h (some a0)).bind fun v1 =>
  F_J7_fill_53178_5 G a0 x1 v1 xN h 0
set_option maxHeartbeats 4000000 in
set_option maxRecDepth 100000 in
theorem t_J7_fill_53178 (l : Launch) (D : va_G) (G : Nat → Nat) (h : xH) (a0 : Nat) (x1 : Int32) (h' : xH) (hF : F_J7_fill_53178 G h a0 x1 = some h') : xC l yJ7_fill_53178 cJ7_fill_53178 4 none (rm_J7_fill_53178) D G h [.ref a0, .int x1] none h' := by
  refine xC_of (by decide) (by first | decide | exact Nat.le_of_ble_eq_true rfl) ?_
  intro p e s m args below meth c ls hx hb hr hlk hml hown hnm hts hR hS hl
  have hl : lv_has ls 4 [(0, va_rf (some a0)), (1, .int x1)] := hl
  unfold F_J7_fill_53178 at hF
  refine lv_iconst (v := 0) hx hb dJ7_fill_53178_0 (by decide) ?_
  refine lv_istore_n (lv' := [(2, .int 0), (0, va_rf (some a0)), (1, .int x1)]) hx hb dJ7_fill_53178_1 rfl hl (by decide) (by first | rfl | (simp [xrf_cat, xcI, xcJ, xcA]; done) | (simp [xrf_cat, xcI, xcJ, xcA]; decide)) (fun ls hl => ?_)
  refine x_aload_n (o := (some a0)) hx hb dJ7_fill_53178_2 rfl (lv_at hl 1 rfl) ?_
  replace hF := xbind hF; obtain ⟨v1, ev1, hF⟩ := hF
  refine x_aln (o := (some a0)) hx hb hR ev1 dJ7_fill_53178_3 ?_
  refine lv_istore_n (lv' := [(3, .int v1), (2, .int 0), (0, va_rf (some a0)), (1, .int x1)]) hx hb dJ7_fill_53178_4 rfl hl (by decide) (by first | rfl | (simp [xrf_cat, xcI, xcJ, xcA]; done) | (simp [xrf_cat, xcI, xcJ, xcA]; decide)) (fun ls hl => ?_)
  refine W.widen (k := 0) (n := 0) (by decide) (by decide) ?_
  exact tl_J7_fill_53178_5 hx hb hr hlk hml hown hnm hts G a0 x1 v1 _ h 0 _ _ _ hF hR hS (lv_sub hl [2, 3, 1, 0] rfl)
def rm_J3_checkIndex_8e157 : Room := { frames := 0, cells := 0, slots := 0, locals := 0 }
theorem f_J3_checkIndex_8e157 : xM yJ3_checkIndex_8e157 cJ3_checkIndex_8e157 3 (some .int) 3 := ⟨mm_342, mm_69, by decide +kernel, by decide +kernel⟩
theorem dJ3_checkIndex_8e157_0 : decode cJ3_checkIndex_8e157 0 = .ok (.iload_n 0, 1) := by decide +kernel
theorem dJ3_checkIndex_8e157_1 : decode cJ3_checkIndex_8e157 1 = .ok (.ifCond .lt 8, 3) := by decide +kernel
theorem dJ3_checkIndex_8e157_4 : decode cJ3_checkIndex_8e157 4 = .ok (.iload_n 0, 1) := by decide +kernel
theorem dJ3_checkIndex_8e157_5 : decode cJ3_checkIndex_8e157 5 = .ok (.iload_n 1, 1) := by decide +kernel
theorem dJ3_checkIndex_8e157_6 : decode cJ3_checkIndex_8e157 6 = .ok (.if_icmp .lt 10, 3) := by decide +kernel
theorem dJ3_checkIndex_8e157_9 : decode cJ3_checkIndex_8e157 9 = .ok (.aload_n 2, 1) := by decide +kernel
theorem dJ3_checkIndex_8e157_10 : decode cJ3_checkIndex_8e157 10 = .ok (.iload_n 0, 1) := by decide +kernel
theorem dJ3_checkIndex_8e157_11 : decode cJ3_checkIndex_8e157 11 = .ok (.iload_n 1, 1) := by decide +kernel
theorem dJ3_checkIndex_8e157_12 : decode cJ3_checkIndex_8e157 12 = .ok (.invokestatic 95, 3) := by decide +kernel
theorem dJ3_checkIndex_8e157_15 : decode cJ3_checkIndex_8e157 15 = .ok (.athrow, 1) := by decide +kernel
theorem dJ3_checkIndex_8e157_16 : decode cJ3_checkIndex_8e157 16 = .ok (.iload_n 0, 1) := by decide +kernel
theorem dJ3_checkIndex_8e157_17 : decode cJ3_checkIndex_8e157 17 = .ok (.ireturn, 1) := by decide +kernel
def F_J3_checkIndex_8e157 (x0 : Int32) (x1 : Int32) : Option Int32 :=
  if x0 < 0 then
    none
  else
  if x0 < x1 then
    some x0
  else
  none
set_option maxHeartbeats 4000000 in
set_option maxRecDepth 100000 in
theorem t_J3_checkIndex_8e157 (l : Launch) (D : va_G) (G : Nat → Nat) (h : xH) (x0 : Int32) (x1 : Int32) (r : Int32) (hF : F_J3_checkIndex_8e157 x0 x1 = some r) : xC l yJ3_checkIndex_8e157 cJ3_checkIndex_8e157 3 (some .int) (rm_J3_checkIndex_8e157) D G h [.int x0, .int x1, va_rf none] (some (.int r)) h := by
  refine xC_of (by decide) (by first | decide | exact Nat.le_of_ble_eq_true rfl) ?_
  intro p e s m args below meth c ls hx hb hr hlk hml hown hnm hts hR hS hl
  have hl : lv_has ls 3 [(0, .int x0), (1, .int x1), (2, va_rf none)] := hl
  unfold F_J3_checkIndex_8e157 at hF
  refine lv_iload_n hx hb dJ3_checkIndex_8e157_0 rfl (lv_at hl 0 rfl) ?_
  refine lv_if_lt (tgt := 9) hx hb dJ3_checkIndex_8e157_1 (by decide) (fun c1 => ?_) (fun c1 => ?_)
  · replace hF := xift c1 hF
    cases hF
  · replace hF := xiff c1 hF
    refine lv_iload_n hx hb dJ3_checkIndex_8e157_4 rfl (lv_at hl 0 rfl) ?_
    refine lv_iload_n hx hb dJ3_checkIndex_8e157_5 rfl (lv_at hl 1 rfl) ?_
    refine lv_icmp_lt (tgt := 16) hx hb dJ3_checkIndex_8e157_6 (by decide) (fun c2 => ?_) (fun c2 => ?_)
    · replace hF := xift c2 hF
      refine lv_iload_n hx hb dJ3_checkIndex_8e157_16 rfl (lv_at hl 0 rfl) ?_
      cases hF
      exact x_iret hx hb hr rfl hlk hR hS (by decide) (by decide) dJ3_checkIndex_8e157_17
    · replace hF := xiff c2 hF
      cases hF
def rm_J15_checkIndex_7cf53 : Room := { frames := 1, cells := 0, slots := 0, locals := 22 }
theorem f_J15_checkIndex_7cf53 : xM yJ15_checkIndex_7cf53 cJ15_checkIndex_7cf53 2 (some .int) 2 := ⟨mm_339, mm_68, by decide +kernel, by decide +kernel⟩
theorem dJ15_checkIndex_7cf53_0 : decode cJ15_checkIndex_7cf53 0 = .ok (.iload_n 0, 1) := by decide +kernel
theorem dJ15_checkIndex_7cf53_1 : decode cJ15_checkIndex_7cf53 1 = .ok (.iload_n 1, 1) := by decide +kernel
theorem dJ15_checkIndex_7cf53_2 : decode cJ15_checkIndex_7cf53 2 = .ok (.aconst_null, 1) := by decide +kernel
theorem dJ15_checkIndex_7cf53_3 : decode cJ15_checkIndex_7cf53 3 = .ok (.invokestatic 105, 3) := by decide +kernel
theorem dJ15_checkIndex_7cf53_6 : decode cJ15_checkIndex_7cf53 6 = .ok (.ireturn, 1) := by decide +kernel
def F_J15_checkIndex_7cf53 (x0 : Int32) (x1 : Int32) : Option Int32 :=
  (F_J3_checkIndex_8e157 x0 x1).bind fun v1 =>
  some v1
set_option maxHeartbeats 4000000 in
set_option maxRecDepth 100000 in
theorem t_J15_checkIndex_7cf53 (l : Launch) (D : va_G) (G : Nat → Nat) (h : xH) (x0 : Int32) (x1 : Int32) (r : Int32) (hF : F_J15_checkIndex_7cf53 x0 x1 = some r) : xC l yJ15_checkIndex_7cf53 cJ15_checkIndex_7cf53 2 (some .int) (rm_J15_checkIndex_7cf53) D G h [.int x0, .int x1] (some (.int r)) h := by
  refine xC_of (by decide) (by first | decide | exact Nat.le_of_ble_eq_true rfl) ?_
  intro p e s m args below meth c ls hx hb hr hlk hml hown hnm hts hR hS hl
  have hl : lv_has ls 2 [(0, .int x0), (1, .int x1)] := hl
  unfold F_J15_checkIndex_7cf53 at hF
  refine lv_iload_n hx hb dJ15_checkIndex_7cf53_0 rfl (lv_at hl 0 rfl) ?_
  refine lv_iload_n hx hb dJ15_checkIndex_7cf53_1 rfl (lv_at hl 1 rfl) ?_
  refine lv_null hx hb dJ15_checkIndex_7cf53_2 ?_
  replace hF := xbind hF; obtain ⟨v1, ev1, hF⟩ := hF
  refine x_callS (As := [.int x0, .int x1, va_rf none]) (rest := []) (v := (some (.int v1))) (k := 3) hx hb hml hown hts hR hS (t_J3_checkIndex_8e157 l D G h x0 x1 v1 ev1) f_J3_checkIndex_8e157 mm_340 mm_341 rfl hl.1 rfl (by first | exact Nat.le_of_ble_eq_true rfl | simp [xrf_cat, xcI, xcJ, xcA]) dJ15_checkIndex_7cf53_3 (by decide) (by decide) rfl (fun H locs hR hS => ?_)
  cases hF
  exact x_iret hx hb hr rfl hlk hR hS (by decide) (by decide) dJ15_checkIndex_7cf53_6
def rm_Jxa1e45_init_da8c8 : Room := { frames := 1, cells := 0, slots := 0, locals := 20 }
theorem f_Jxa1e45_init_da8c8 : xM yJxa1e45_init_da8c8 cJxa1e45_init_da8c8 1 none 0 := ⟨mm_98, mm_56, by decide +kernel, by decide +kernel⟩
theorem dJxa1e45_init_da8c8_0 : decode cJxa1e45_init_da8c8 0 = .ok (.aload_n 0, 1) := by decide +kernel
theorem dJxa1e45_init_da8c8_1 : decode cJxa1e45_init_da8c8 1 = .ok (.invokespecial 1, 3) := by decide +kernel
theorem dJxa1e45_init_da8c8_4 : decode cJxa1e45_init_da8c8 4 = .ok (.return_, 1) := by decide +kernel
def F_Jxa1e45_init_da8c8 (G : Nat → Nat) (h : xH) (a0 : Nat) : Option xH :=
  some h
set_option maxHeartbeats 4000000 in
set_option maxRecDepth 100000 in
theorem t_Jxa1e45_init_da8c8 (l : Launch) (D : va_G) (G : Nat → Nat) (h : xH) (a0 : Nat) (h' : xH) (hF : F_Jxa1e45_init_da8c8 G h a0 = some h') : xC l yJxa1e45_init_da8c8 cJxa1e45_init_da8c8 1 none (rm_Jxa1e45_init_da8c8) D G h [.ref a0] none h' := by
  refine xC_of (by decide) (by first | decide | exact Nat.le_of_ble_eq_true rfl) ?_
  intro p e s m args below meth c ls hx hb hr hlk hml hown hnm hts hR hS hl
  have hl : lv_has ls 1 [(0, va_rf (some a0))] := hl
  unfold F_Jxa1e45_init_da8c8 at hF
  refine x_aload_n (o := (some a0)) hx hb dJxa1e45_init_da8c8_0 rfl (lv_at hl 0 rfl) ?_
  refine x_oinit (o := (some a0)) hx hb hown (hml.trans hl.1.symm) hts mm_99 mm_86 mm_87 rfl dJxa1e45_init_da8c8_1 (by decide) (by decide) (by decide) ?_
  cases hF
  exact x_vret hx hb hr hlk hR hS (by decide) (by decide) dJxa1e45_init_da8c8_4
def rm_Jxc12de_init_da8c8 : Room := { frames := 2, cells := 0, slots := 0, locals := 40 }
theorem f_Jxc12de_init_da8c8 : xM yJxc12de_init_da8c8 cJxc12de_init_da8c8 1 none 0 := ⟨mm_95, mm_57, by decide +kernel, by decide +kernel⟩
theorem dJxc12de_init_da8c8_0 : decode cJxc12de_init_da8c8 0 = .ok (.aload_n 0, 1) := by decide +kernel
theorem dJxc12de_init_da8c8_1 : decode cJxc12de_init_da8c8 1 = .ok (.invokespecial 1, 3) := by decide +kernel
theorem dJxc12de_init_da8c8_4 : decode cJxc12de_init_da8c8 4 = .ok (.aload_n 0, 1) := by decide +kernel
theorem dJxc12de_init_da8c8_5 : decode cJxc12de_init_da8c8 5 = .ok (.iconst 0, 1) := by decide +kernel
theorem dJxc12de_init_da8c8_6 : decode cJxc12de_init_da8c8 6 = .ok (.putfield 7, 3) := by decide +kernel
theorem dJxc12de_init_da8c8_9 : decode cJxc12de_init_da8c8 9 = .ok (.return_, 1) := by decide +kernel
def F_Jxc12de_init_da8c8 (G : Nat → Nat) (h : xH) (a0 : Nat) : Option xH :=
  (F_Jxa1e45_init_da8c8 G h a0).bind fun h1 =>
  (xp G h1 (some a0) 0 0 (.int 0)).bind fun h2 =>
  some h2
set_option maxHeartbeats 4000000 in
set_option maxRecDepth 100000 in
theorem t_Jxc12de_init_da8c8 (l : Launch) (D : va_G) (G : Nat → Nat) (h : xH) (a0 : Nat) (h' : xH) (hF : F_Jxc12de_init_da8c8 G h a0 = some h') : xC l yJxc12de_init_da8c8 cJxc12de_init_da8c8 1 none (rm_Jxc12de_init_da8c8) D G h [.ref a0] none h' := by
  refine xC_of (by decide) (by first | decide | exact Nat.le_of_ble_eq_true rfl) ?_
  intro p e s m args below meth c ls hx hb hr hlk hml hown hnm hts hR hS hl
  have hl : lv_has ls 1 [(0, va_rf (some a0))] := hl
  unfold F_Jxc12de_init_da8c8 at hF
  refine x_aload_n (o := (some a0)) hx hb dJxc12de_init_da8c8_0 rfl (lv_at hl 0 rfl) ?_
  replace hF := xbind hF; obtain ⟨h1, eh1, hF⟩ := hF
  refine x_callI (o := (some a0)) (As := []) (rest := []) (v := none) (k := 0) hx hb hml hown hts hR hS rfl (t_Jxa1e45_init_da8c8 l D G h a0 h1 eh1) f_Jxa1e45_init_da8c8 mm_96 mm_97 rfl rfl hl.1 rfl (by first | exact Nat.le_of_ble_eq_true rfl | simp [xrf_cat, xcI, xcJ, xcA]) dJxc12de_init_da8c8_1 (by decide) (by decide) rfl (fun H locs hR hS => ?_)
  refine x_aload_n (o := (some a0)) hx hb dJxc12de_init_da8c8_4 rfl (lv_at hl 0 rfl) ?_
  refine lv_iconst (v := 0) hx hb dJxc12de_init_da8c8_5 (by decide) ?_
  replace hF := xbind hF; obtain ⟨h2, eh2, hF⟩ := hF
  refine x_put (o := (some a0)) (ci := 0) (C := RJx4a65c) (T := TJx4a65c) (N := 3) hx hb hts iw_Jx4a65c tyJx4a65c_ok nmJx4a65c hown hR hS rfl 0 (by decide) mm_104 (Or.inl rfl) rfl rfl rfl eh2 dJxc12de_init_da8c8_6 (fun H locs hR hS => ?_)
  cases hF
  exact x_vret hx hb hr hlk hR hS (by decide) (by decide) dJxc12de_init_da8c8_9
def rm_Jx4a65c_init_da8c8 : Room := { frames := 3, cells := 0, slots := 0, locals := 60 }
theorem f_Jx4a65c_init_da8c8 : xM yJx4a65c_init_da8c8 cJx4a65c_init_da8c8 1 none 0 := ⟨mm_92, mm_58, by decide +kernel, by decide +kernel⟩
theorem dJx4a65c_init_da8c8_0 : decode cJx4a65c_init_da8c8 0 = .ok (.aload_n 0, 1) := by decide +kernel
theorem dJx4a65c_init_da8c8_1 : decode cJx4a65c_init_da8c8 1 = .ok (.invokespecial 1, 3) := by decide +kernel
theorem dJx4a65c_init_da8c8_4 : decode cJx4a65c_init_da8c8 4 = .ok (.aload_n 0, 1) := by decide +kernel
theorem dJx4a65c_init_da8c8_5 : decode cJx4a65c_init_da8c8 5 = .ok (.getstatic 39, 3) := by decide +kernel
theorem dJx4a65c_init_da8c8_8 : decode cJx4a65c_init_da8c8 8 = .ok (.putfield 9, 3) := by decide +kernel
theorem dJx4a65c_init_da8c8_11 : decode cJx4a65c_init_da8c8 11 = .ok (.return_, 1) := by decide +kernel
def F_Jx4a65c_init_da8c8 (G : Nat → Nat) (h : xH) (a0 : Nat) : Option xH :=
  (F_Jxc12de_init_da8c8 G h a0).bind fun h1 =>
  (xp G h1 (some a0) 0 1 (va_rf (some (G 1)))).bind fun h2 =>
  some h2
set_option maxHeartbeats 4000000 in
set_option maxRecDepth 100000 in
theorem t_Jx4a65c_init_da8c8 (l : Launch) (D : va_G) (G : Nat → Nat) (h : xH) (a0 : Nat) (h' : xH) (hF : F_Jx4a65c_init_da8c8 G h a0 = some h') : xC l yJx4a65c_init_da8c8 cJx4a65c_init_da8c8 1 none (rm_Jx4a65c_init_da8c8) D G h [.ref a0] none h' := by
  refine xC_of (by decide) (by first | decide | exact Nat.le_of_ble_eq_true rfl) ?_
  intro p e s m args below meth c ls hx hb hr hlk hml hown hnm hts hR hS hl
  have hl : lv_has ls 1 [(0, va_rf (some a0))] := hl
  unfold F_Jx4a65c_init_da8c8 at hF
  refine x_aload_n (o := (some a0)) hx hb dJx4a65c_init_da8c8_0 rfl (lv_at hl 0 rfl) ?_
  replace hF := xbind hF; obtain ⟨h1, eh1, hF⟩ := hF
  refine x_callI (o := (some a0)) (As := []) (rest := []) (v := none) (k := 0) hx hb hml hown hts hR hS rfl (t_Jxc12de_init_da8c8 l D G h a0 h1 eh1) f_Jxc12de_init_da8c8 mm_93 mm_94 rfl rfl hl.1 rfl (by first | exact Nat.le_of_ble_eq_true rfl | simp [xrf_cat, xcI, xcJ, xcA]) dJx4a65c_init_da8c8_1 (by decide) (by decide) rfl (fun H locs hR hS => ?_)
  refine x_aload_n (o := (some a0)) hx hb dJx4a65c_init_da8c8_4 rfl (lv_at hl 0 rfl) ?_
  refine x_gets hx hb hown hts hR mm_100 dJx4a65c_init_da8c8_5 ?_
  replace hF := xbind hF; obtain ⟨h2, eh2, hF⟩ := hF
  refine x_put (o := (some a0)) (ci := 0) (C := RJx4a65c) (T := TJx4a65c) (N := 3) hx hb hts iw_Jx4a65c tyJx4a65c_ok nmJx4a65c hown hR hS rfl 1 (by decide) mm_102 (Or.inl rfl) rfl xnarRA xfitRA eh2 dJx4a65c_init_da8c8_8 (fun H locs hR hS => ?_)
  cases hF
  exact x_vret hx hb hr hlk hR hS (by decide) (by decide) dJx4a65c_init_da8c8_11
def rm_Jx4a65c_size_8abf5 : Room := { frames := 0, cells := 0, slots := 0, locals := 0 }
theorem f_Jx4a65c_size_8abf5 : xM yJx4a65c_size_8abf5 cJx4a65c_size_8abf5 1 (some .int) 0 := ⟨mm_234, mm_58, by decide +kernel, by decide +kernel⟩
theorem dJx4a65c_size_8abf5_0 : decode cJx4a65c_size_8abf5 0 = .ok (.aload_n 0, 1) := by decide +kernel
theorem dJx4a65c_size_8abf5_1 : decode cJx4a65c_size_8abf5 1 = .ok (.getfield 48, 3) := by decide +kernel
theorem dJx4a65c_size_8abf5_4 : decode cJx4a65c_size_8abf5 4 = .ok (.ireturn, 1) := by decide +kernel
def F_Jx4a65c_size_8abf5 (G : Nat → Nat) (h : xH) (a0 : Nat) : Option Int32 :=
  (gI h (some a0) 0 2).bind fun v1 =>
  some v1
set_option maxHeartbeats 4000000 in
set_option maxRecDepth 100000 in
theorem t_Jx4a65c_size_8abf5 (l : Launch) (D : va_G) (G : Nat → Nat) (h : xH) (a0 : Nat) (r : Int32) (hF : F_Jx4a65c_size_8abf5 G h a0 = some r) : xC l yJx4a65c_size_8abf5 cJx4a65c_size_8abf5 1 (some .int) (rm_Jx4a65c_size_8abf5) D G h [.ref a0] (some (.int r)) h := by
  refine xC_of (by decide) (by first | decide | exact Nat.le_of_ble_eq_true rfl) ?_
  intro p e s m args below meth c ls hx hb hr hlk hml hown hnm hts hR hS hl
  have hl : lv_has ls 1 [(0, va_rf (some a0))] := hl
  unfold F_Jx4a65c_size_8abf5 at hF
  refine x_aload_n (o := (some a0)) hx hb dJx4a65c_size_8abf5_0 rfl (lv_at hl 0 rfl) ?_
  replace hF := xbind hF; obtain ⟨v1, ev1, hF⟩ := hF
  refine x_getI (o := (some a0)) (ci := 0) (C := RJx4a65c) (T := TJx4a65c) (N := 3) hx hb hts iw_Jx4a65c hown hR rfl 2 (by decide) mm_103 (Or.inl rfl) ev1 dJx4a65c_size_8abf5_1 ?_
  cases hF
  exact x_iret hx hb hr rfl hlk hR hS (by decide) (by decide) dJx4a65c_size_8abf5_4
def rm_Jx4a65c_isEmpty_aae02 : Room := { frames := 0, cells := 0, slots := 0, locals := 0 }
theorem f_Jx4a65c_isEmpty_aae02 : xM yJx4a65c_isEmpty_aae02 cJx4a65c_isEmpty_aae02 1 (some .boolean) 0 := ⟨mm_930, mm_58, by decide +kernel, by decide +kernel⟩
theorem dJx4a65c_isEmpty_aae02_0 : decode cJx4a65c_isEmpty_aae02 0 = .ok (.aload_n 0, 1) := by decide +kernel
theorem dJx4a65c_isEmpty_aae02_1 : decode cJx4a65c_isEmpty_aae02 1 = .ok (.getfield 48, 3) := by decide +kernel
theorem dJx4a65c_isEmpty_aae02_4 : decode cJx4a65c_isEmpty_aae02 4 = .ok (.ifCond .ne 7, 3) := by decide +kernel
theorem dJx4a65c_isEmpty_aae02_7 : decode cJx4a65c_isEmpty_aae02 7 = .ok (.iconst 1, 1) := by decide +kernel
theorem dJx4a65c_isEmpty_aae02_8 : decode cJx4a65c_isEmpty_aae02 8 = .ok (.goto 4, 3) := by decide +kernel
theorem dJx4a65c_isEmpty_aae02_11 : decode cJx4a65c_isEmpty_aae02 11 = .ok (.iconst 0, 1) := by decide +kernel
theorem dJx4a65c_isEmpty_aae02_12 : decode cJx4a65c_isEmpty_aae02 12 = .ok (.ireturn, 1) := by decide +kernel
def F_Jx4a65c_isEmpty_aae02 (G : Nat → Nat) (h : xH) (a0 : Nat) : Option Int32 :=
  (gI h (some a0) 0 2).bind fun v1 =>
  if v1 = 0 then
    some 1
  else
  some 0
set_option maxHeartbeats 4000000 in
set_option maxRecDepth 100000 in
theorem t_Jx4a65c_isEmpty_aae02 (l : Launch) (D : va_G) (G : Nat → Nat) (h : xH) (a0 : Nat) (r : Int32) (hF : F_Jx4a65c_isEmpty_aae02 G h a0 = some r) : xC l yJx4a65c_isEmpty_aae02 cJx4a65c_isEmpty_aae02 1 (some .boolean) (rm_Jx4a65c_isEmpty_aae02) D G h [.ref a0] (some (.int r)) h := by
  refine xC_of (by decide) (by first | decide | exact Nat.le_of_ble_eq_true rfl) ?_
  intro p e s m args below meth c ls hx hb hr hlk hml hown hnm hts hR hS hl
  have hl : lv_has ls 1 [(0, va_rf (some a0))] := hl
  unfold F_Jx4a65c_isEmpty_aae02 at hF
  refine x_aload_n (o := (some a0)) hx hb dJx4a65c_isEmpty_aae02_0 rfl (lv_at hl 0 rfl) ?_
  replace hF := xbind hF; obtain ⟨v1, ev1, hF⟩ := hF
  refine x_getI (o := (some a0)) (ci := 0) (C := RJx4a65c) (T := TJx4a65c) (N := 3) hx hb hts iw_Jx4a65c hown hR rfl 2 (by decide) mm_103 (Or.inl rfl) ev1 dJx4a65c_isEmpty_aae02_1 ?_
  refine lv_if_ne (tgt := 11) hx hb dJx4a65c_isEmpty_aae02_4 (by decide) (fun c2 => ?_) (fun c2 => ?_)
  · replace hF := xiff c2 hF
    refine lv_iconst (v := 0) hx hb dJx4a65c_isEmpty_aae02_11 (by decide) ?_
    cases hF
    exact x_iret hx hb hr rfl hlk hR hS (by decide) (by decide) dJx4a65c_isEmpty_aae02_12
  · replace hF := xift c2 hF
    refine lv_iconst (v := 1) hx hb dJx4a65c_isEmpty_aae02_7 (by decide) ?_
    refine lv_goto (tgt := 12) hx hb dJx4a65c_isEmpty_aae02_8 (by decide) ?_
    cases hF
    exact x_iret hx hb hr rfl hlk hR hS (by decide) (by decide) dJx4a65c_isEmpty_aae02_12
def rm_Jx4a65c_elementData_915e3 : Room := { frames := 0, cells := 0, slots := 0, locals := 0 }
theorem f_Jx4a65c_elementData_915e3 : xM yJx4a65c_elementData_915e3 cJx4a65c_elementData_915e3 2 (some (.object "java/lang/Object")) 1 := ⟨mm_346, mm_58, by decide +kernel, by decide +kernel⟩
theorem dJx4a65c_elementData_915e3_0 : decode cJx4a65c_elementData_915e3 0 = .ok (.aload_n 0, 1) := by decide +kernel
theorem dJx4a65c_elementData_915e3_1 : decode cJx4a65c_elementData_915e3 1 = .ok (.getfield 9, 3) := by decide +kernel
theorem dJx4a65c_elementData_915e3_4 : decode cJx4a65c_elementData_915e3 4 = .ok (.iload_n 1, 1) := by decide +kernel
theorem dJx4a65c_elementData_915e3_5 : decode cJx4a65c_elementData_915e3 5 = .ok (.aaload, 1) := by decide +kernel
theorem dJx4a65c_elementData_915e3_6 : decode cJx4a65c_elementData_915e3 6 = .ok (.areturn, 1) := by decide +kernel
def F_Jx4a65c_elementData_915e3 (G : Nat → Nat) (h : xH) (a0 : Nat) (x1 : Int32) : Option (Option Nat) :=
  (gR h (some a0) 0 1).bind fun w1 =>
  (ldR G h w1 x1).bind fun w2 =>
  some w2
set_option maxHeartbeats 4000000 in
set_option maxRecDepth 100000 in
theorem t_Jx4a65c_elementData_915e3 (l : Launch) (D : va_G) (G : Nat → Nat) (h : xH) (a0 : Nat) (x1 : Int32) (r : Option Nat) (hF : F_Jx4a65c_elementData_915e3 G h a0 x1 = some r) : xC l yJx4a65c_elementData_915e3 cJx4a65c_elementData_915e3 2 (some (.object "java/lang/Object")) (rm_Jx4a65c_elementData_915e3) D G h [.ref a0, .int x1] (some (va_rf r)) h := by
  refine xC_of (by decide) (by first | decide | exact Nat.le_of_ble_eq_true rfl) ?_
  intro p e s m args below meth c ls hx hb hr hlk hml hown hnm hts hR hS hl
  have hl : lv_has ls 2 [(0, va_rf (some a0)), (1, .int x1)] := hl
  unfold F_Jx4a65c_elementData_915e3 at hF
  refine x_aload_n (o := (some a0)) hx hb dJx4a65c_elementData_915e3_0 rfl (lv_at hl 0 rfl) ?_
  replace hF := xbind hF; obtain ⟨w1, ew1, hF⟩ := hF
  refine x_getR (o := (some a0)) (ci := 0) (C := RJx4a65c) (T := TJx4a65c) (N := 3) hx hb hts iw_Jx4a65c hown hR rfl 1 (by decide) mm_102 (Or.inl rfl) ew1 dJx4a65c_elementData_915e3_1 ?_
  refine lv_iload_n hx hb dJx4a65c_elementData_915e3_4 rfl (lv_at hl 1 rfl) ?_
  replace hF := xbind hF; obtain ⟨w2, ew2, hF⟩ := hF
  refine x_ald (o := w1) hx hb hR ew2 dJx4a65c_elementData_915e3_5 ?_
  cases hF
  exact x_aret hx hb hr (Or.inl ⟨_, rfl⟩) hlk hR hS (by decide) (by decide) dJx4a65c_elementData_915e3_6
def rm_Jx4a65c_get_915e3 : Room := { frames := 2, cells := 0, slots := 0, locals := 43 }
theorem f_Jx4a65c_get_915e3 : xM yJx4a65c_get_915e3 cJx4a65c_get_915e3 2 (some (.object "java/lang/Object")) 1 := ⟨mm_336, mm_58, by decide +kernel, by decide +kernel⟩
theorem dJx4a65c_get_915e3_0 : decode cJx4a65c_get_915e3 0 = .ok (.iload_n 1, 1) := by decide +kernel
theorem dJx4a65c_get_915e3_1 : decode cJx4a65c_get_915e3 1 = .ok (.aload_n 0, 1) := by decide +kernel
theorem dJx4a65c_get_915e3_2 : decode cJx4a65c_get_915e3 2 = .ok (.getfield 48, 3) := by decide +kernel
theorem dJx4a65c_get_915e3_5 : decode cJx4a65c_get_915e3 5 = .ok (.invokestatic 118, 3) := by decide +kernel
theorem dJx4a65c_get_915e3_8 : decode cJx4a65c_get_915e3 8 = .ok (.pop, 1) := by decide +kernel
theorem dJx4a65c_get_915e3_9 : decode cJx4a65c_get_915e3 9 = .ok (.aload_n 0, 1) := by decide +kernel
theorem dJx4a65c_get_915e3_10 : decode cJx4a65c_get_915e3 10 = .ok (.iload_n 1, 1) := by decide +kernel
theorem dJx4a65c_get_915e3_11 : decode cJx4a65c_get_915e3 11 = .ok (.invokevirtual 123, 3) := by decide +kernel
theorem dJx4a65c_get_915e3_14 : decode cJx4a65c_get_915e3 14 = .ok (.areturn, 1) := by decide +kernel
def F_Jx4a65c_get_915e3 (G : Nat → Nat) (h : xH) (a0 : Nat) (x1 : Int32) : Option (Option Nat) :=
  (gI h (some a0) 0 2).bind fun v1 =>
  (F_J15_checkIndex_7cf53 x1 v1).bind fun v2 =>
  (xc h (some a0) 0).bind fun b4 =>
  (F_Jx4a65c_elementData_915e3 G h b4 x1).bind fun w3 =>
  some w3
set_option maxHeartbeats 4000000 in
set_option maxRecDepth 100000 in
theorem t_Jx4a65c_get_915e3 (l : Launch) (D : va_G) (G : Nat → Nat) (h : xH) (a0 : Nat) (x1 : Int32) (r : Option Nat) (hF : F_Jx4a65c_get_915e3 G h a0 x1 = some r) : xC l yJx4a65c_get_915e3 cJx4a65c_get_915e3 2 (some (.object "java/lang/Object")) (rm_Jx4a65c_get_915e3) D G h [.ref a0, .int x1] (some (va_rf r)) h := by
  refine xC_of (by decide) (by first | decide | exact Nat.le_of_ble_eq_true rfl) ?_
  intro p e s m args below meth c ls hx hb hr hlk hml hown hnm hts hR hS hl
  have hl : lv_has ls 2 [(0, va_rf (some a0)), (1, .int x1)] := hl
  unfold F_Jx4a65c_get_915e3 at hF
  refine lv_iload_n hx hb dJx4a65c_get_915e3_0 rfl (lv_at hl 1 rfl) ?_
  refine x_aload_n (o := (some a0)) hx hb dJx4a65c_get_915e3_1 rfl (lv_at hl 0 rfl) ?_
  replace hF := xbind hF; obtain ⟨v1, ev1, hF⟩ := hF
  refine x_getI (o := (some a0)) (ci := 0) (C := RJx4a65c) (T := TJx4a65c) (N := 3) hx hb hts iw_Jx4a65c hown hR rfl 2 (by decide) mm_103 (Or.inl rfl) ev1 dJx4a65c_get_915e3_2 ?_
  replace hF := xbind hF; obtain ⟨v2, ev2, hF⟩ := hF
  refine x_callS (As := [.int x1, .int v1]) (rest := []) (v := (some (.int v2))) (k := 2) hx hb hml hown hts hR hS (t_J15_checkIndex_7cf53 l D G h x1 v1 v2 ev2) f_J15_checkIndex_7cf53 mm_337 mm_338 rfl hl.1 rfl (by first | exact Nat.le_of_ble_eq_true rfl | simp [xrf_cat, xcI, xcJ, xcA]) dJx4a65c_get_915e3_5 (by decide) (by decide) rfl (fun H locs hR hS => ?_)
  refine lv_pop hx hb dJx4a65c_get_915e3_8 rfl ?_
  refine x_aload_n (o := (some a0)) hx hb dJx4a65c_get_915e3_9 rfl (lv_at hl 0 rfl) ?_
  refine lv_iload_n hx hb dJx4a65c_get_915e3_10 rfl (lv_at hl 1 rfl) ?_
  replace hF := xbind hF; obtain ⟨b4, eb4, hF⟩ := hF
  replace hF := xbind hF; obtain ⟨w3, ew3, hF⟩ := hF
  refine x_callV (o := (some a0)) (ci := 0) (As := [.int x1]) (rest := []) (v := (some (va_rf w3))) (k := 1) hx hb hml hown hts hR hS eb4 rfl rfl (t_Jx4a65c_elementData_915e3 l D G h b4 x1 w3 ew3) f_Jx4a65c_elementData_915e3 mm_343 mm_344 mm_345 rfl hl.1 rfl (by first | exact Nat.le_of_ble_eq_true rfl | simp [xrf_cat, xcI, xcJ, xcA]) dJx4a65c_get_915e3_11 (by decide) (by decide) rfl (fun H locs hR hS => ?_)
  cases hF
  exact x_aret hx hb hr (Or.inl ⟨_, rfl⟩) hlk hR hS (by decide) (by decide) dJx4a65c_get_915e3_14
