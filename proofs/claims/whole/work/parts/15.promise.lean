def rm_X6_init : Room := { frames := 1, cells := 1, slots := 601, locals := 20 }
theorem f_X6_init : xM yX6_init cX6_init 5 none 4 := ⟨mm_410, mm_71, by decide +kernel, by decide +kernel⟩
theorem dX6_init_0 : decode cX6_init 0 = .ok (.aload_n 0, 1) := by decide +kernel
theorem dX6_init_1 : decode cX6_init 1 = .ok (.invokespecial 3, 3) := by decide +kernel
theorem dX6_init_4 : decode cX6_init 4 = .ok (.aload_n 0, 1) := by decide +kernel
theorem dX6_init_5 : decode cX6_init 5 = .ok (.sipush 601, 3) := by decide +kernel
theorem dX6_init_8 : decode cX6_init 8 = .ok (.newarray .boolean, 2) := by decide +kernel
theorem dX6_init_10 : decode cX6_init 10 = .ok (.putfield 9, 3) := by decide +kernel
theorem dX6_init_13 : decode cX6_init 13 = .ok (.aload_n 0, 1) := by decide +kernel
theorem dX6_init_14 : decode cX6_init 14 = .ok (.aload_n 1, 1) := by decide +kernel
theorem dX6_init_15 : decode cX6_init 15 = .ok (.putfield 15, 3) := by decide +kernel
theorem dX6_init_18 : decode cX6_init 18 = .ok (.aload_n 0, 1) := by decide +kernel
theorem dX6_init_19 : decode cX6_init 19 = .ok (.iload_n 2, 1) := by decide +kernel
theorem dX6_init_20 : decode cX6_init 20 = .ok (.putfield 19, 3) := by decide +kernel
theorem dX6_init_23 : decode cX6_init 23 = .ok (.aload_n 0, 1) := by decide +kernel
theorem dX6_init_24 : decode cX6_init 24 = .ok (.iload_n 3, 1) := by decide +kernel
theorem dX6_init_25 : decode cX6_init 25 = .ok (.putfield 23, 3) := by decide +kernel
theorem dX6_init_28 : decode cX6_init 28 = .ok (.aload_n 0, 1) := by decide +kernel
theorem dX6_init_29 : decode cX6_init 29 = .ok (.iload 4, 2) := by decide +kernel
theorem dX6_init_31 : decode cX6_init 31 = .ok (.putfield 26, 3) := by decide +kernel
theorem dX6_init_34 : decode cX6_init 34 = .ok (.return_, 1) := by decide +kernel
def F_X6_init (G : Nat → Nat) (h : xH) (a0 : Nat) (a1 : Nat) (x2 : Int32) (x3 : Int32) (x4 : Int32) : Option xH :=
  (nAZ G h 601).bind fun (q1, h2) =>
  (xp G h2 (some a0) 6 4 (va_rf (some q1))).bind fun h3 =>
  (xp G h3 (some a0) 6 0 (va_rf (some a1))).bind fun h4 =>
  (xp G h4 (some a0) 6 1 (.int x2)).bind fun h5 =>
  (xp G h5 (some a0) 6 2 (.int x3)).bind fun h6 =>
  xg (x4 = 0 ∨ x4 = 1) <|
  (xp G h6 (some a0) 6 3 (.int x4)).bind fun h8 =>
  some h8
set_option maxHeartbeats 4000000 in
set_option maxRecDepth 100000 in
theorem t_X6_init (l : Launch) (D : va_G) (G : Nat → Nat) (h : xH) (a0 : Nat) (a1 : Nat) (x2 : Int32) (x3 : Int32) (x4 : Int32) (h' : xH) (hF : F_X6_init G h a0 a1 x2 x3 x4 = some h') : xC l yX6_init cX6_init 5 none (rm_X6_init) D G h [.ref a0, .ref a1, .int x2, .int x3, .int x4] none h' := by
  refine xC_of (by decide) (by first | decide | exact Nat.le_of_ble_eq_true rfl) ?_
  intro p e s m args below meth c ls hx hb hr hlk hml hown hnm hts hR hS hl
  have hl : lv_has ls 5 [(0, va_rf (some a0)), (1, va_rf (some a1)), (2, .int x2), (3, .int x3), (4, .int x4)] := hl
  unfold F_X6_init at hF
  refine x_aload_n (o := (some a0)) hx hb dX6_init_0 rfl (lv_at hl 0 rfl) ?_
  refine x_oinit (o := (some a0)) hx hb hown (hml.trans hl.1.symm) hts mm_411 mm_86 mm_87 rfl dX6_init_1 (by decide) (by decide) (by decide) ?_
  refine x_aload_n (o := (some a0)) hx hb dX6_init_4 rfl (lv_at hl 0 rfl) ?_
  refine lv_sipush (v := 601) hx hb dX6_init_5 (by decide) ?_
  replace hF := xbind hF; obtain ⟨⟨q1, h2⟩, eq1, hF⟩ := hF
  refine x_nAZ hx hb hts mm_373 hR hS (by decide) (by decide) (by decide) (by decide) (by decide) eq1 dX6_init_8 (fun H hR hS => ?_)
  replace hF := xbind hF; obtain ⟨h3, eh3, hF⟩ := hF
  refine x_putF (o := (some a0)) (ci := 6) (C := RX6) (T := TX6) (N := 6) hx hb hts iw_X6 tyX6_ok nmX6 hown hR hS rfl 4 (by decide) mm_418 (Or.inl rfl) rfl hnm rfl xnarRA xfitRA eh3 dX6_init_10 (fun H locs hR hS => ?_)
  refine x_aload_n (o := (some a0)) hx hb dX6_init_13 rfl (lv_at hl 0 rfl) ?_
  refine x_aload_n (o := (some a1)) hx hb dX6_init_14 rfl (lv_at hl 1 rfl) ?_
  replace hF := xbind hF; obtain ⟨h4, eh4, hF⟩ := hF
  refine x_putF (o := (some a0)) (ci := 6) (C := RX6) (T := TX6) (N := 6) hx hb hts iw_X6 tyX6_ok nmX6 hown hR hS rfl 0 (by decide) mm_412 (Or.inl rfl) rfl hnm rfl xnarR xfitR eh4 dX6_init_15 (fun H locs hR hS => ?_)
  refine x_aload_n (o := (some a0)) hx hb dX6_init_18 rfl (lv_at hl 0 rfl) ?_
  refine lv_iload_n hx hb dX6_init_19 rfl (lv_at hl 2 rfl) ?_
  replace hF := xbind hF; obtain ⟨h5, eh5, hF⟩ := hF
  refine x_putF (o := (some a0)) (ci := 6) (C := RX6) (T := TX6) (N := 6) hx hb hts iw_X6 tyX6_ok nmX6 hown hR hS rfl 1 (by decide) mm_415 (Or.inl rfl) rfl hnm rfl rfl rfl eh5 dX6_init_20 (fun H locs hR hS => ?_)
  refine x_aload_n (o := (some a0)) hx hb dX6_init_23 rfl (lv_at hl 0 rfl) ?_
  refine lv_iload_n hx hb dX6_init_24 rfl (lv_at hl 3 rfl) ?_
  replace hF := xbind hF; obtain ⟨h6, eh6, hF⟩ := hF
  refine x_putF (o := (some a0)) (ci := 6) (C := RX6) (T := TX6) (N := 6) hx hb hts iw_X6 tyX6_ok nmX6 hown hR hS rfl 2 (by decide) mm_416 (Or.inl rfl) rfl hnm rfl rfl rfl eh6 dX6_init_25 (fun H locs hR hS => ?_)
  refine x_aload_n (o := (some a0)) hx hb dX6_init_28 rfl (lv_at hl 0 rfl) ?_
  refine lv_iload hx hb dX6_init_29 (lv_at hl 4 rfl) ?_
  replace hF := xguard hF; obtain ⟨c7, hF⟩ := hF
  replace hF := xbind hF; obtain ⟨h8, eh8, hF⟩ := hF
  refine x_putF (o := (some a0)) (ci := 6) (C := RX6) (T := TX6) (N := 6) hx hb hts iw_X6 tyX6_ok nmX6 hown hR hS rfl 3 (by decide) mm_417 (Or.inl rfl) rfl hnm rfl (xnarZ c7) (xfitZ c7) eh8 dX6_init_31 (fun H locs hR hS => ?_)
  cases hF
  exact x_vret hx hb hr hlk hR hS (by decide) (by decide) dX6_init_34
def rm_X6_leaveOut : Room := { frames := 1, cells := 0, slots := 0, locals := 23 }
theorem f_X6_leaveOut : xM yX6_leaveOut cX6_leaveOut 4 (some .boolean) 2 := ⟨mm_444, mm_71, by decide +kernel, by decide +kernel⟩
theorem dX6_leaveOut_0 : decode cX6_leaveOut 0 = .ok (.aload_n 0, 1) := by decide +kernel
theorem dX6_leaveOut_1 : decode cX6_leaveOut 1 = .ok (.getfield 30, 3) := by decide +kernel
theorem dX6_leaveOut_4 : decode cX6_leaveOut 4 = .ok (.bipush 10, 2) := by decide +kernel
theorem dX6_leaveOut_6 : decode cX6_leaveOut 6 = .ok (.if_icmp .lt 5, 3) := by decide +kernel
theorem dX6_leaveOut_9 : decode cX6_leaveOut 9 = .ok (.iconst 0, 1) := by decide +kernel
theorem dX6_leaveOut_10 : decode cX6_leaveOut 10 = .ok (.ireturn, 1) := by decide +kernel
theorem dX6_leaveOut_11 : decode cX6_leaveOut 11 = .ok (.aload_n 0, 1) := by decide +kernel
theorem dX6_leaveOut_12 : decode cX6_leaveOut 12 = .ok (.dup, 1) := by decide +kernel
theorem dX6_leaveOut_13 : decode cX6_leaveOut 13 = .ok (.getfield 30, 3) := by decide +kernel
theorem dX6_leaveOut_16 : decode cX6_leaveOut 16 = .ok (.iconst 1, 1) := by decide +kernel
theorem dX6_leaveOut_17 : decode cX6_leaveOut 17 = .ok (.iadd, 1) := by decide +kernel
theorem dX6_leaveOut_18 : decode cX6_leaveOut 18 = .ok (.putfield 30, 3) := by decide +kernel
theorem dX6_leaveOut_21 : decode cX6_leaveOut 21 = .ok (.iload_n 1, 1) := by decide +kernel
theorem dX6_leaveOut_22 : decode cX6_leaveOut 22 = .ok (.iconst 0, 1) := by decide +kernel
theorem dX6_leaveOut_23 : decode cX6_leaveOut 23 = .ok (.invokestatic 33, 3) := by decide +kernel
theorem dX6_leaveOut_26 : decode cX6_leaveOut 26 = .ok (.istore_n 3, 1) := by decide +kernel
theorem dX6_leaveOut_27 : decode cX6_leaveOut 27 = .ok (.iload_n 3, 1) := by decide +kernel
theorem dX6_leaveOut_28 : decode cX6_leaveOut 28 = .ok (.iload_n 2, 1) := by decide +kernel
theorem dX6_leaveOut_29 : decode cX6_leaveOut 29 = .ok (.if_icmp .gt 23, 3) := by decide +kernel
theorem dX6_leaveOut_32 : decode cX6_leaveOut 32 = .ok (.iload_n 3, 1) := by decide +kernel
theorem dX6_leaveOut_33 : decode cX6_leaveOut 33 = .ok (.sipush 601, 3) := by decide +kernel
theorem dX6_leaveOut_36 : decode cX6_leaveOut 36 = .ok (.if_icmp .ge 16, 3) := by decide +kernel
theorem dX6_leaveOut_39 : decode cX6_leaveOut 39 = .ok (.aload_n 0, 1) := by decide +kernel
theorem dX6_leaveOut_40 : decode cX6_leaveOut 40 = .ok (.getfield 9, 3) := by decide +kernel
theorem dX6_leaveOut_43 : decode cX6_leaveOut 43 = .ok (.iload_n 3, 1) := by decide +kernel
theorem dX6_leaveOut_44 : decode cX6_leaveOut 44 = .ok (.iconst 1, 1) := by decide +kernel
theorem dX6_leaveOut_45 : decode cX6_leaveOut 45 = .ok (.bastore, 1) := by decide +kernel
theorem dX6_leaveOut_46 : decode cX6_leaveOut 46 = .ok (.iinc 3 1, 3) := by decide +kernel
theorem dX6_leaveOut_49 : decode cX6_leaveOut 49 = .ok (.goto (-22), 3) := by decide +kernel
theorem dX6_leaveOut_52 : decode cX6_leaveOut 52 = .ok (.iconst 1, 1) := by decide +kernel
theorem dX6_leaveOut_53 : decode cX6_leaveOut 53 = .ok (.ireturn, 1) := by decide +kernel
def F_X6_leaveOut_27 (G : Nat → Nat) (a0 : Nat) (x2 : Int32) : Nat → xH → Int32 → Option (Int32 × xH)
  | 0, _, _ => none
  | n + 1, h, x3 =>
    if x2 < x3 then
      some (1, h)
    else
    if 601 ≤ x3 then
      some (1, h)
    else
    (gR h (some a0) 6 4).bind fun w8 =>
    (stI 3 G h w8 x3 (vp_nar .boolean 1)).bind fun h9 =>
    xl (x3 + 1) fun v10 =>
    F_X6_leaveOut_27 G a0 x2 n h9 v10
set_option maxHeartbeats 4000000 in
set_option maxRecDepth 100000 in
theorem tl_X6_leaveOut_27 {p : Program} {l : Launch} {e : Env} {s : State} {m : MethodId} {args : Array Value} {below : List Frame} {meth : Method} {c : Code} {D : va_G} {r : Int32} {h' : xH} (hx : p.tables.exec = Jvm.exec) (hb : c.code = cX6_leaveOut) (hr : meth.sig.returnType = (some .boolean)) (hlk : meth.locks = false) (hml : c.maxLocals = 4) (hown : s.vm.findClass RX6 = some m.cls) (hnm : meth.name = "leaveOut") (hts : ∀ w ∈ xt, w.before args s = true) (G : Nat → Nat) (a0 : Nat) (x2 : Int32) : ∀ (n : Nat) (h : xH) (x3 : Int32) (H : Heap) (locs : List Loc) (ls : Array Slot), F_X6_leaveOut_27 G a0 x2 n h x3 = some (r, h') → xR D G h s H → va_S (xA G) s.heap H locs → lv_has ls 4 [(0, va_rf (some a0)), (2, .int x2), (3, .int x3)] → W p l e rm_X6_leaveOut s m args below meth c H locs 0 0 (MQ below (xQ D G (some (.int r)) h') args s rm_X6_leaveOut.cells rm_X6_leaveOut.slots (xA G)) (F0 m 27 ls []) := by
  intro n
  induction n with
  | zero =>
    intro h x3 H locs ls hF
    rw [F_X6_leaveOut_27.eq_1] at hF
    cases hF
  | succ n ih =>
    intro h x3 H locs ls hF hR hS hl
    rw [F_X6_leaveOut_27.eq_2] at hF
    refine lv_iload_n hx hb dX6_leaveOut_27 rfl (lv_at hl 2 rfl) ?_
    refine lv_iload_n hx hb dX6_leaveOut_28 rfl (lv_at hl 1 rfl) ?_
    refine lv_icmp_gt (tgt := 52) hx hb dX6_leaveOut_29 (by decide) (fun c6 => ?_) (fun c6 => ?_)
    · replace hF := xift c6 hF
      refine lv_iconst (v := 1) hx hb dX6_leaveOut_52 (by decide) ?_
      cases hF
      exact x_iret hx hb hr rfl hlk hR hS (by decide) (by decide) dX6_leaveOut_53
    · replace hF := xiff c6 hF
      refine lv_iload_n hx hb dX6_leaveOut_32 rfl (lv_at hl 2 rfl) ?_
      refine lv_sipush (v := 601) hx hb dX6_leaveOut_33 (by decide) ?_
      refine lv_icmp_ge (tgt := 52) hx hb dX6_leaveOut_36 (by decide) (fun c7 => ?_) (fun c7 => ?_)
      · replace hF := xift c7 hF
        refine lv_iconst (v := 1) hx hb dX6_leaveOut_52 (by decide) ?_
        cases hF
        exact x_iret hx hb hr rfl hlk hR hS (by decide) (by decide) dX6_leaveOut_53
      · replace hF := xiff c7 hF
        refine x_aload_n (o := (some a0)) hx hb dX6_leaveOut_39 rfl (lv_at hl 0 rfl) ?_
        replace hF := xbind hF; obtain ⟨w8, ew8, hF⟩ := hF
        refine x_getR (o := (some a0)) (ci := 6) (C := RX6) (T := TX6) (N := 6) hx hb hts iw_X6 hown hR rfl 4 (by decide) mm_418 (Or.inl rfl) ew8 dX6_leaveOut_40 ?_
        refine lv_iload_n hx hb dX6_leaveOut_43 rfl (lv_at hl 2 rfl) ?_
        refine lv_iconst (v := 1) hx hb dX6_leaveOut_44 (by decide) ?_
        replace hF := xbind hF; obtain ⟨h9, eh9, hF⟩ := hF
        refine x_zst (o := w8) hx hb hR hS eh9 dX6_leaveOut_45 (fun H locs hR hS => ?_)
        obtain ⟨v10, ev10⟩ : ∃ z : Int32, z = (x3 + 1) := ⟨_, rfl⟩
        replace hF := xlet ev10 hF
        refine lv_iinc (v := v10) (lv' := [(3, .int v10), (0, va_rf (some a0)), (2, .int x2)]) hx hb dX6_leaveOut_46 hl (k := 2) rfl (by rw [ev10]; rfl) (by decide) (by first | rfl | (simp [xrf_cat, xcI, xcJ, xcA]; done) | (simp [xrf_cat, xcI, xcJ, xcA]; decide)) (fun ls hl => ?_)
        refine lv_goto (tgt := 27) hx hb dX6_leaveOut_49 (by decide) ?_
        exact ih h9 v10 _ _ _ hF hR hS (lv_sub hl [1, 2, 0] rfl)
def F_X6_leaveOut (G : Nat → Nat) (h : xH) (a0 : Nat) (x1 : Int32) (x2 : Int32) : Option (Int32 × xH) :=
  (gI h (some a0) 6 5).bind fun v1 =>
  if v1 < 10 then
    (gI h (some a0) 6 5).bind fun v3 =>
    (xp G h (some a0) 6 5 (.int (v3 + 1))).bind fun h4 =>
    xl (xmax x1 0) fun v5 =>
    F_X6_leaveOut_27 G a0 x2 xN h4 v5
  else
  some (0, h)
set_option maxHeartbeats 4000000 in
set_option maxRecDepth 100000 in
theorem t_X6_leaveOut (l : Launch) (D : va_G) (G : Nat → Nat) (h : xH) (a0 : Nat) (x1 : Int32) (x2 : Int32) (r : Int32) (h' : xH) (hF : F_X6_leaveOut G h a0 x1 x2 = some (r, h')) : xC l yX6_leaveOut cX6_leaveOut 4 (some .boolean) (rm_X6_leaveOut) D G h [.ref a0, .int x1, .int x2] (some (.int r)) h' := by
  refine xC_of (by decide) (by first | decide | exact Nat.le_of_ble_eq_true rfl) ?_
  intro p e s m args below meth c ls hx hb hr hlk hml hown hnm hts hR hS hl
  have hl : lv_has ls 4 [(0, va_rf (some a0)), (1, .int x1), (2, .int x2)] := hl
  unfold F_X6_leaveOut at hF
  refine x_aload_n (o := (some a0)) hx hb dX6_leaveOut_0 rfl (lv_at hl 0 rfl) ?_
  replace hF := xbind hF; obtain ⟨v1, ev1, hF⟩ := hF
  refine x_getI (o := (some a0)) (ci := 6) (C := RX6) (T := TX6) (N := 6) hx hb hts iw_X6 hown hR rfl 5 (by decide) mm_419 (Or.inl rfl) ev1 dX6_leaveOut_1 ?_
  refine lv_bipush (v := 10) hx hb dX6_leaveOut_4 (by decide) ?_
  refine lv_icmp_lt (tgt := 11) hx hb dX6_leaveOut_6 (by decide) (fun c2 => ?_) (fun c2 => ?_)
  · replace hF := xift c2 hF
    refine x_aload_n (o := (some a0)) hx hb dX6_leaveOut_11 rfl (lv_at hl 0 rfl) ?_
    refine lv_dup hx hb dX6_leaveOut_12 xrf_cat ?_
    replace hF := xbind hF; obtain ⟨v3, ev3, hF⟩ := hF
    refine x_getI (o := (some a0)) (ci := 6) (C := RX6) (T := TX6) (N := 6) hx hb hts iw_X6 hown hR rfl 5 (by decide) mm_419 (Or.inl rfl) ev3 dX6_leaveOut_13 ?_
    refine lv_iconst (v := 1) hx hb dX6_leaveOut_16 (by decide) ?_
    refine lv_iadd hx hb dX6_leaveOut_17 ?_
    replace hF := xbind hF; obtain ⟨h4, eh4, hF⟩ := hF
    refine x_put (o := (some a0)) (ci := 6) (C := RX6) (T := TX6) (N := 6) hx hb hts iw_X6 tyX6_ok nmX6 hown hR hS rfl 5 (by decide) mm_419 (Or.inl rfl) rfl rfl rfl eh4 dX6_leaveOut_18 (fun H locs hR hS => ?_)
    refine lv_iload_n hx hb dX6_leaveOut_21 rfl (lv_at hl 1 rfl) ?_
    refine lv_iconst (v := 0) hx hb dX6_leaveOut_22 (by decide) ?_
    refine x_max hx hb (hml.trans hl.1.symm) hown hts mm_445 mm_280 mm_65 mm_281 (by decide) (by first | exact Nat.le_of_ble_eq_true rfl | simp [xrf_cat, xcI, xcJ, xcA]) (by decide) (by decide) dX6_leaveOut_23 ?_
    refine lv_topi (fun v5 ev5 => ?_)
    replace hF := xlet ev5 hF
    refine lv_istore_n (lv' := [(3, .int v5), (0, va_rf (some a0)), (1, .int x1), (2, .int x2)]) hx hb dX6_leaveOut_26 rfl hl (by decide) (by first | rfl | (simp [xrf_cat, xcI, xcJ, xcA]; done) | (simp [xrf_cat, xcI, xcJ, xcA]; decide)) (fun ls hl => ?_)
    refine W.widen (k := 0) (n := 0) (by decide) (by decide) ?_
    exact tl_X6_leaveOut_27 hx hb hr hlk hml hown hnm hts G a0 x2 _ h4 v5 _ _ _ hF hR hS (lv_sub hl [1, 3, 0] rfl)
  · replace hF := xiff c2 hF
    refine lv_iconst (v := 0) hx hb dX6_leaveOut_9 (by decide) ?_
    cases hF
    exact x_iret hx hb hr rfl hlk hR hS (by decide) (by decide) dX6_leaveOut_10
def rm_X6_slack : Room := { frames := 0, cells := 0, slots := 0, locals := 0 }
theorem f_X6_slack : xM yX6_slack cX6_slack 1 (some .int) 0 := ⟨mm_523, mm_71, by decide +kernel, by decide +kernel⟩
theorem dX6_slack_0 : decode cX6_slack 0 = .ok (.sipush 1000, 3) := by decide +kernel
theorem dX6_slack_3 : decode cX6_slack 3 = .ok (.aload_n 0, 1) := by decide +kernel
theorem dX6_slack_4 : decode cX6_slack 4 = .ok (.getfield 23, 3) := by decide +kernel
theorem dX6_slack_7 : decode cX6_slack 7 = .ok (.isub, 1) := by decide +kernel
theorem dX6_slack_8 : decode cX6_slack 8 = .ok (.ireturn, 1) := by decide +kernel
def F_X6_slack (G : Nat → Nat) (h : xH) (a0 : Nat) : Option Int32 :=
  (gI h (some a0) 6 2).bind fun v1 =>
  some (1000 - v1)
set_option maxHeartbeats 4000000 in
set_option maxRecDepth 100000 in
theorem t_X6_slack (l : Launch) (D : va_G) (G : Nat → Nat) (h : xH) (a0 : Nat) (r : Int32) (hF : F_X6_slack G h a0 = some r) : xC l yX6_slack cX6_slack 1 (some .int) (rm_X6_slack) D G h [.ref a0] (some (.int r)) h := by
  refine xC_of (by decide) (by first | decide | exact Nat.le_of_ble_eq_true rfl) ?_
  intro p e s m args below meth c ls hx hb hr hlk hml hown hnm hts hR hS hl
  have hl : lv_has ls 1 [(0, va_rf (some a0))] := hl
  unfold F_X6_slack at hF
  refine lv_sipush (v := 1000) hx hb dX6_slack_0 (by decide) ?_
  refine x_aload_n (o := (some a0)) hx hb dX6_slack_3 rfl (lv_at hl 0 rfl) ?_
  replace hF := xbind hF; obtain ⟨v1, ev1, hF⟩ := hF
  refine x_getI (o := (some a0)) (ci := 6) (C := RX6) (T := TX6) (N := 6) hx hb hts iw_X6 hown hR rfl 2 (by decide) mm_416 (Or.inl rfl) ev1 dX6_slack_4 ?_
  refine lv_isub hx hb dX6_slack_7 ?_
  cases hF
  exact x_iret hx hb hr rfl hlk hR hS (by decide) (by decide) dX6_slack_8
def rm_X6_leftOf : Room := { frames := 1, cells := 0, slots := 0, locals := 20 }
theorem f_X6_leftOf : xM yX6_leftOf cX6_leftOf 3 (some .int) 2 := ⟨mm_519, mm_71, by decide +kernel, by decide +kernel⟩
theorem dX6_leftOf_0 : decode cX6_leftOf 0 = .ok (.iload_n 1, 1) := by decide +kernel
theorem dX6_leftOf_1 : decode cX6_leftOf 1 = .ok (.i2l, 1) := by decide +kernel
theorem dX6_leftOf_2 : decode cX6_leftOf 2 = .ok (.aload_n 0, 1) := by decide +kernel
theorem dX6_leftOf_3 : decode cX6_leftOf 3 = .ok (.invokevirtual 98, 3) := by decide +kernel
theorem dX6_leftOf_6 : decode cX6_leftOf 6 = .ok (.i2l, 1) := by decide +kernel
theorem dX6_leftOf_7 : decode cX6_leftOf 7 = .ok (.lmul, 1) := by decide +kernel
theorem dX6_leftOf_8 : decode cX6_leftOf 8 = .ok (.ldc2_w 101, 3) := by decide +kernel
theorem dX6_leftOf_11 : decode cX6_leftOf 11 = .ok (.ldiv, 1) := by decide +kernel
theorem dX6_leftOf_12 : decode cX6_leftOf 12 = .ok (.l2i, 1) := by decide +kernel
theorem dX6_leftOf_13 : decode cX6_leftOf 13 = .ok (.iload_n 2, 1) := by decide +kernel
theorem dX6_leftOf_14 : decode cX6_leftOf 14 = .ok (.isub, 1) := by decide +kernel
theorem dX6_leftOf_15 : decode cX6_leftOf 15 = .ok (.ireturn, 1) := by decide +kernel
def F_X6_leftOf (G : Nat → Nat) (h : xH) (a0 : Nat) (x1 : Int32) (x2 : Int32) : Option Int32 :=
  (xc h (some a0) 6).bind fun b2 =>
  (F_X6_slack G h b2).bind fun v1 =>
  some (((((((x1 : Int32).toInt64) * ((v1 : Int32).toInt64)) / 1000) : Int64).toInt32) - x2)
set_option maxHeartbeats 4000000 in
set_option maxRecDepth 100000 in
theorem t_X6_leftOf (l : Launch) (D : va_G) (G : Nat → Nat) (h : xH) (a0 : Nat) (x1 : Int32) (x2 : Int32) (r : Int32) (hF : F_X6_leftOf G h a0 x1 x2 = some r) : xC l yX6_leftOf cX6_leftOf 3 (some .int) (rm_X6_leftOf) D G h [.ref a0, .int x1, .int x2] (some (.int r)) h := by
  refine xC_of (by decide) (by first | decide | exact Nat.le_of_ble_eq_true rfl) ?_
  intro p e s m args below meth c ls hx hb hr hlk hml hown hnm hts hR hS hl
  have hl : lv_has ls 3 [(0, va_rf (some a0)), (1, .int x1), (2, .int x2)] := hl
  unfold F_X6_leftOf at hF
  refine lv_iload_n hx hb dX6_leftOf_0 rfl (lv_at hl 1 rfl) ?_
  refine lv_i2l (v := ((x1 : Int32).toInt64)) hx hb dX6_leftOf_1 rfl ?_
  refine x_aload_n (o := (some a0)) hx hb dX6_leftOf_2 rfl (lv_at hl 0 rfl) ?_
  replace hF := xbind hF; obtain ⟨b2, eb2, hF⟩ := hF
  replace hF := xbind hF; obtain ⟨v1, ev1, hF⟩ := hF
  refine x_callV (o := (some a0)) (ci := 6) (As := []) (rest := [.long ((x1 : Int32).toInt64)]) (v := (some (.int v1))) (k := 0) hx hb hml hown hts hR hS eb2 rfl rfl (t_X6_slack l D G h b2 v1 ev1) f_X6_slack mm_520 mm_521 mm_522 rfl hl.1 rfl (by first | exact Nat.le_of_ble_eq_true rfl | simp [xrf_cat, xcI, xcJ, xcA]) dX6_leftOf_3 (by decide) (by decide) rfl (fun H locs hR hS => ?_)
  refine lv_i2l (v := ((v1 : Int32).toInt64)) hx hb dX6_leftOf_6 rfl ?_
  refine lv_lmul hx hb dX6_leftOf_7 ?_
  refine lv_ldc2 hx hb hown (hts _ mm_524) dX6_leftOf_8 ?_
  refine lv_ldiv hx hb dX6_leftOf_11 (by decide) ?_
  refine lv_l2i (v := ((((((x1 : Int32).toInt64) * ((v1 : Int32).toInt64)) / 1000) : Int64).toInt32)) hx hb dX6_leftOf_12 rfl ?_
  refine lv_iload_n hx hb dX6_leftOf_13 rfl (lv_at hl 2 rfl) ?_
  refine lv_isub hx hb dX6_leftOf_14 ?_
  cases hF
  exact x_iret hx hb hr rfl hlk hR hS (by decide) (by decide) dX6_leftOf_15
def rm_X6_firstOfSpan : Room := { frames := 1, cells := 0, slots := 0, locals := 23 }
theorem f_X6_firstOfSpan : xM yX6_firstOfSpan cX6_firstOfSpan 2 (some .int) 1 := ⟨mm_490, mm_71, by decide +kernel, by decide +kernel⟩
theorem dX6_firstOfSpan_0 : decode cX6_firstOfSpan 0 = .ok (.aload_n 0, 1) := by decide +kernel
theorem dX6_firstOfSpan_1 : decode cX6_firstOfSpan 1 = .ok (.getfield 26, 3) := by decide +kernel
theorem dX6_firstOfSpan_4 : decode cX6_firstOfSpan 4 = .ok (.ifCond .ne 16, 3) := by decide +kernel
theorem dX6_firstOfSpan_7 : decode cX6_firstOfSpan 7 = .ok (.iload_n 1, 1) := by decide +kernel
theorem dX6_firstOfSpan_8 : decode cX6_firstOfSpan 8 = .ok (.aload_n 0, 1) := by decide +kernel
theorem dX6_firstOfSpan_9 : decode cX6_firstOfSpan 9 = .ok (.getfield 19, 3) := by decide +kernel
theorem dX6_firstOfSpan_12 : decode cX6_firstOfSpan 12 = .ok (.isub, 1) := by decide +kernel
theorem dX6_firstOfSpan_13 : decode cX6_firstOfSpan 13 = .ok (.iconst 1, 1) := by decide +kernel
theorem dX6_firstOfSpan_14 : decode cX6_firstOfSpan 14 = .ok (.iadd, 1) := by decide +kernel
theorem dX6_firstOfSpan_15 : decode cX6_firstOfSpan 15 = .ok (.iconst 0, 1) := by decide +kernel
theorem dX6_firstOfSpan_16 : decode cX6_firstOfSpan 16 = .ok (.invokestatic 33, 3) := by decide +kernel
theorem dX6_firstOfSpan_19 : decode cX6_firstOfSpan 19 = .ok (.ireturn, 1) := by decide +kernel
theorem dX6_firstOfSpan_20 : decode cX6_firstOfSpan 20 = .ok (.aload_n 0, 1) := by decide +kernel
theorem dX6_firstOfSpan_21 : decode cX6_firstOfSpan 21 = .ok (.getfield 19, 3) := by decide +kernel
theorem dX6_firstOfSpan_24 : decode cX6_firstOfSpan 24 = .ok (.ifCond .le 14, 3) := by decide +kernel
theorem dX6_firstOfSpan_27 : decode cX6_firstOfSpan 27 = .ok (.iload_n 1, 1) := by decide +kernel
theorem dX6_firstOfSpan_28 : decode cX6_firstOfSpan 28 = .ok (.iload_n 1, 1) := by decide +kernel
theorem dX6_firstOfSpan_29 : decode cX6_firstOfSpan 29 = .ok (.aload_n 0, 1) := by decide +kernel
theorem dX6_firstOfSpan_30 : decode cX6_firstOfSpan 30 = .ok (.getfield 19, 3) := by decide +kernel
theorem dX6_firstOfSpan_33 : decode cX6_firstOfSpan 33 = .ok (.irem, 1) := by decide +kernel
theorem dX6_firstOfSpan_34 : decode cX6_firstOfSpan 34 = .ok (.isub, 1) := by decide +kernel
theorem dX6_firstOfSpan_35 : decode cX6_firstOfSpan 35 = .ok (.goto 4, 3) := by decide +kernel
theorem dX6_firstOfSpan_38 : decode cX6_firstOfSpan 38 = .ok (.iload_n 1, 1) := by decide +kernel
theorem dX6_firstOfSpan_39 : decode cX6_firstOfSpan 39 = .ok (.ireturn, 1) := by decide +kernel
def F_X6_firstOfSpan (G : Nat → Nat) (h : xH) (a0 : Nat) (x1 : Int32) : Option Int32 :=
  (gI h (some a0) 6 3).bind fun v1 =>
  if v1 = 0 then
    (gI h (some a0) 6 1).bind fun v7 =>
    some (xmax ((x1 - v7) + 1) 0)
  else
  (gI h (some a0) 6 1).bind fun v3 =>
  if v3 ≤ 0 then
    some x1
  else
  (gI h (some a0) 6 1).bind fun v5 =>
  xg (¬ v5 = 0) <|
  some (x1 - (x1 - x1 / v5 * v5))
set_option maxHeartbeats 4000000 in
set_option maxRecDepth 100000 in
theorem t_X6_firstOfSpan (l : Launch) (D : va_G) (G : Nat → Nat) (h : xH) (a0 : Nat) (x1 : Int32) (r : Int32) (hF : F_X6_firstOfSpan G h a0 x1 = some r) : xC l yX6_firstOfSpan cX6_firstOfSpan 2 (some .int) (rm_X6_firstOfSpan) D G h [.ref a0, .int x1] (some (.int r)) h := by
  refine xC_of (by decide) (by first | decide | exact Nat.le_of_ble_eq_true rfl) ?_
  intro p e s m args below meth c ls hx hb hr hlk hml hown hnm hts hR hS hl
  have hl : lv_has ls 2 [(0, va_rf (some a0)), (1, .int x1)] := hl
  unfold F_X6_firstOfSpan at hF
  refine x_aload_n (o := (some a0)) hx hb dX6_firstOfSpan_0 rfl (lv_at hl 0 rfl) ?_
  replace hF := xbind hF; obtain ⟨v1, ev1, hF⟩ := hF
  refine x_getI (o := (some a0)) (ci := 6) (C := RX6) (T := TX6) (N := 6) hx hb hts iw_X6 hown hR rfl 3 (by decide) mm_417 (Or.inl rfl) ev1 dX6_firstOfSpan_1 ?_
  refine lv_if_ne (tgt := 20) hx hb dX6_firstOfSpan_4 (by decide) (fun c2 => ?_) (fun c2 => ?_)
  · replace hF := xiff c2 hF
    refine x_aload_n (o := (some a0)) hx hb dX6_firstOfSpan_20 rfl (lv_at hl 0 rfl) ?_
    replace hF := xbind hF; obtain ⟨v3, ev3, hF⟩ := hF
    refine x_getI (o := (some a0)) (ci := 6) (C := RX6) (T := TX6) (N := 6) hx hb hts iw_X6 hown hR rfl 1 (by decide) mm_415 (Or.inl rfl) ev3 dX6_firstOfSpan_21 ?_
    refine lv_if_le (tgt := 38) hx hb dX6_firstOfSpan_24 (by decide) (fun c4 => ?_) (fun c4 => ?_)
    · replace hF := xift c4 hF
      refine lv_iload_n hx hb dX6_firstOfSpan_38 rfl (lv_at hl 1 rfl) ?_
      cases hF
      exact x_iret hx hb hr rfl hlk hR hS (by decide) (by decide) dX6_firstOfSpan_39
    · replace hF := xiff c4 hF
      refine lv_iload_n hx hb dX6_firstOfSpan_27 rfl (lv_at hl 1 rfl) ?_
      refine lv_iload_n hx hb dX6_firstOfSpan_28 rfl (lv_at hl 1 rfl) ?_
      refine x_aload_n (o := (some a0)) hx hb dX6_firstOfSpan_29 rfl (lv_at hl 0 rfl) ?_
      replace hF := xbind hF; obtain ⟨v5, ev5, hF⟩ := hF
      refine x_getI (o := (some a0)) (ci := 6) (C := RX6) (T := TX6) (N := 6) hx hb hts iw_X6 hown hR rfl 1 (by decide) mm_415 (Or.inl rfl) ev5 dX6_firstOfSpan_30 ?_
      replace hF := xguard hF; obtain ⟨c6, hF⟩ := hF
      refine lv_irem hx hb dX6_firstOfSpan_33 c6 ?_
      refine lv_isub hx hb dX6_firstOfSpan_34 ?_
      refine lv_goto (tgt := 39) hx hb dX6_firstOfSpan_35 (by decide) ?_
      cases hF
      exact x_iret hx hb hr rfl hlk hR hS (by decide) (by decide) dX6_firstOfSpan_39
  · replace hF := xift c2 hF
    refine lv_iload_n hx hb dX6_firstOfSpan_7 rfl (lv_at hl 1 rfl) ?_
    refine x_aload_n (o := (some a0)) hx hb dX6_firstOfSpan_8 rfl (lv_at hl 0 rfl) ?_
    replace hF := xbind hF; obtain ⟨v7, ev7, hF⟩ := hF
    refine x_getI (o := (some a0)) (ci := 6) (C := RX6) (T := TX6) (N := 6) hx hb hts iw_X6 hown hR rfl 1 (by decide) mm_415 (Or.inl rfl) ev7 dX6_firstOfSpan_9 ?_
    refine lv_isub hx hb dX6_firstOfSpan_12 ?_
    refine lv_iconst (v := 1) hx hb dX6_firstOfSpan_13 (by decide) ?_
    refine lv_iadd hx hb dX6_firstOfSpan_14 ?_
    refine lv_iconst (v := 0) hx hb dX6_firstOfSpan_15 (by decide) ?_
    refine x_max hx hb (hml.trans hl.1.symm) hown hts mm_445 mm_280 mm_65 mm_281 (by decide) (by first | exact Nat.le_of_ble_eq_true rfl | simp [xrf_cat, xcI, xcJ, xcA]) (by decide) (by decide) dX6_firstOfSpan_16 ?_
    cases hF
    exact x_iret hx hb hr rfl hlk hR hS (by decide) (by decide) dX6_firstOfSpan_19
def rm_X6_lastOfSpan : Room := { frames := 2, cells := 0, slots := 0, locals := 44 }
theorem f_X6_lastOfSpan : xM yX6_lastOfSpan cX6_lastOfSpan 2 (some .int) 1 := ⟨mm_494, mm_71, by decide +kernel, by decide +kernel⟩
theorem dX6_lastOfSpan_0 : decode cX6_lastOfSpan 0 = .ok (.aload_n 0, 1) := by decide +kernel
theorem dX6_lastOfSpan_1 : decode cX6_lastOfSpan 1 = .ok (.getfield 26, 3) := by decide +kernel
theorem dX6_lastOfSpan_4 : decode cX6_lastOfSpan 4 = .ok (.ifCond .eq 24, 3) := by decide +kernel
theorem dX6_lastOfSpan_7 : decode cX6_lastOfSpan 7 = .ok (.aload_n 0, 1) := by decide +kernel
theorem dX6_lastOfSpan_8 : decode cX6_lastOfSpan 8 = .ok (.iload_n 1, 1) := by decide +kernel
theorem dX6_lastOfSpan_9 : decode cX6_lastOfSpan 9 = .ok (.invokevirtual 43, 3) := by decide +kernel
theorem dX6_lastOfSpan_12 : decode cX6_lastOfSpan 12 = .ok (.aload_n 0, 1) := by decide +kernel
theorem dX6_lastOfSpan_13 : decode cX6_lastOfSpan 13 = .ok (.getfield 19, 3) := by decide +kernel
theorem dX6_lastOfSpan_16 : decode cX6_lastOfSpan 16 = .ok (.iadd, 1) := by decide +kernel
theorem dX6_lastOfSpan_17 : decode cX6_lastOfSpan 17 = .ok (.iconst 1, 1) := by decide +kernel
theorem dX6_lastOfSpan_18 : decode cX6_lastOfSpan 18 = .ok (.isub, 1) := by decide +kernel
theorem dX6_lastOfSpan_19 : decode cX6_lastOfSpan 19 = .ok (.sipush 600, 3) := by decide +kernel
theorem dX6_lastOfSpan_22 : decode cX6_lastOfSpan 22 = .ok (.invokestatic 90, 3) := by decide +kernel
theorem dX6_lastOfSpan_25 : decode cX6_lastOfSpan 25 = .ok (.goto 4, 3) := by decide +kernel
theorem dX6_lastOfSpan_28 : decode cX6_lastOfSpan 28 = .ok (.iload_n 1, 1) := by decide +kernel
theorem dX6_lastOfSpan_29 : decode cX6_lastOfSpan 29 = .ok (.ireturn, 1) := by decide +kernel
def F_X6_lastOfSpan (G : Nat → Nat) (h : xH) (a0 : Nat) (x1 : Int32) : Option Int32 :=
  (gI h (some a0) 6 3).bind fun v1 =>
  if v1 = 0 then
    some x1
  else
  (xc h (some a0) 6).bind fun b4 =>
  (F_X6_firstOfSpan G h b4 x1).bind fun v3 =>
  (gI h (some a0) 6 1).bind fun v5 =>
  some (xmin ((v3 + v5) - 1) 600)
set_option maxHeartbeats 4000000 in
set_option maxRecDepth 100000 in
theorem t_X6_lastOfSpan (l : Launch) (D : va_G) (G : Nat → Nat) (h : xH) (a0 : Nat) (x1 : Int32) (r : Int32) (hF : F_X6_lastOfSpan G h a0 x1 = some r) : xC l yX6_lastOfSpan cX6_lastOfSpan 2 (some .int) (rm_X6_lastOfSpan) D G h [.ref a0, .int x1] (some (.int r)) h := by
  refine xC_of (by decide) (by first | decide | exact Nat.le_of_ble_eq_true rfl) ?_
  intro p e s m args below meth c ls hx hb hr hlk hml hown hnm hts hR hS hl
  have hl : lv_has ls 2 [(0, va_rf (some a0)), (1, .int x1)] := hl
  unfold F_X6_lastOfSpan at hF
  refine x_aload_n (o := (some a0)) hx hb dX6_lastOfSpan_0 rfl (lv_at hl 0 rfl) ?_
  replace hF := xbind hF; obtain ⟨v1, ev1, hF⟩ := hF
  refine x_getI (o := (some a0)) (ci := 6) (C := RX6) (T := TX6) (N := 6) hx hb hts iw_X6 hown hR rfl 3 (by decide) mm_417 (Or.inl rfl) ev1 dX6_lastOfSpan_1 ?_
  refine lv_if_eq (tgt := 28) hx hb dX6_lastOfSpan_4 (by decide) (fun c2 => ?_) (fun c2 => ?_)
  · replace hF := xift c2 hF
    refine lv_iload_n hx hb dX6_lastOfSpan_28 rfl (lv_at hl 1 rfl) ?_
    cases hF
    exact x_iret hx hb hr rfl hlk hR hS (by decide) (by decide) dX6_lastOfSpan_29
  · replace hF := xiff c2 hF
    refine x_aload_n (o := (some a0)) hx hb dX6_lastOfSpan_7 rfl (lv_at hl 0 rfl) ?_
    refine lv_iload_n hx hb dX6_lastOfSpan_8 rfl (lv_at hl 1 rfl) ?_
    replace hF := xbind hF; obtain ⟨b4, eb4, hF⟩ := hF
    replace hF := xbind hF; obtain ⟨v3, ev3, hF⟩ := hF
    refine x_callV (o := (some a0)) (ci := 6) (As := [.int x1]) (rest := []) (v := (some (.int v3))) (k := 1) hx hb hml hown hts hR hS eb4 rfl rfl (t_X6_firstOfSpan l D G h b4 x1 v3 ev3) f_X6_firstOfSpan mm_487 mm_489 mm_7 rfl hl.1 rfl (by first | exact Nat.le_of_ble_eq_true rfl | simp [xrf_cat, xcI, xcJ, xcA]) dX6_lastOfSpan_9 (by decide) (by decide) rfl (fun H locs hR hS => ?_)
    refine x_aload_n (o := (some a0)) hx hb dX6_lastOfSpan_12 rfl (lv_at hl 0 rfl) ?_
    replace hF := xbind hF; obtain ⟨v5, ev5, hF⟩ := hF
    refine x_getI (o := (some a0)) (ci := 6) (C := RX6) (T := TX6) (N := 6) hx hb hts iw_X6 hown hR rfl 1 (by decide) mm_415 (Or.inl rfl) ev5 dX6_lastOfSpan_13 ?_
    refine lv_iadd hx hb dX6_lastOfSpan_16 ?_
    refine lv_iconst (v := 1) hx hb dX6_lastOfSpan_17 (by decide) ?_
    refine lv_isub hx hb dX6_lastOfSpan_18 ?_
    refine lv_sipush (v := 600) hx hb dX6_lastOfSpan_19 (by decide) ?_
    refine x_min hx hb (hml.trans hl.1.symm) hown hts mm_495 mm_313 mm_65 mm_314 (by decide) (by first | exact Nat.le_of_ble_eq_true rfl | simp [xrf_cat, xcI, xcJ, xcA]) (by decide) (by decide) dX6_lastOfSpan_22 ?_
    refine lv_goto (tgt := 29) hx hb dX6_lastOfSpan_25 (by decide) ?_
    cases hF
    exact x_iret hx hb hr rfl hlk hR hS (by decide) (by decide) dX6_lastOfSpan_29
def rm_X6_isIn : Room := { frames := 0, cells := 0, slots := 0, locals := 0 }
theorem f_X6_isIn : xM yX6_isIn cX6_isIn 2 (some .boolean) 1 := ⟨mm_503, mm_71, by decide +kernel, by decide +kernel⟩
theorem dX6_isIn_0 : decode cX6_isIn 0 = .ok (.iload_n 1, 1) := by decide +kernel
theorem dX6_isIn_1 : decode cX6_isIn 1 = .ok (.ifCond .lt 23, 3) := by decide +kernel
theorem dX6_isIn_4 : decode cX6_isIn 4 = .ok (.iload_n 1, 1) := by decide +kernel
theorem dX6_isIn_5 : decode cX6_isIn 5 = .ok (.sipush 601, 3) := by decide +kernel
theorem dX6_isIn_8 : decode cX6_isIn 8 = .ok (.if_icmp .ge 16, 3) := by decide +kernel
theorem dX6_isIn_11 : decode cX6_isIn 11 = .ok (.aload_n 0, 1) := by decide +kernel
theorem dX6_isIn_12 : decode cX6_isIn 12 = .ok (.getfield 9, 3) := by decide +kernel
theorem dX6_isIn_15 : decode cX6_isIn 15 = .ok (.iload_n 1, 1) := by decide +kernel
theorem dX6_isIn_16 : decode cX6_isIn 16 = .ok (.baload, 1) := by decide +kernel
theorem dX6_isIn_17 : decode cX6_isIn 17 = .ok (.ifCond .ne 7, 3) := by decide +kernel
theorem dX6_isIn_20 : decode cX6_isIn 20 = .ok (.iconst 1, 1) := by decide +kernel
theorem dX6_isIn_21 : decode cX6_isIn 21 = .ok (.goto 4, 3) := by decide +kernel
theorem dX6_isIn_24 : decode cX6_isIn 24 = .ok (.iconst 0, 1) := by decide +kernel
theorem dX6_isIn_25 : decode cX6_isIn 25 = .ok (.ireturn, 1) := by decide +kernel
def F_X6_isIn (G : Nat → Nat) (h : xH) (a0 : Nat) (x1 : Int32) : Option Int32 :=
  if x1 < 0 then
    some 0
  else
  if 601 ≤ x1 then
    some 0
  else
  (gR h (some a0) 6 4).bind fun w3 =>
  (ldI 3 G h w3 x1).bind fun v4 =>
  if v4 = 0 then
    some 1
  else
  some 0
set_option maxHeartbeats 4000000 in
set_option maxRecDepth 100000 in
theorem t_X6_isIn (l : Launch) (D : va_G) (G : Nat → Nat) (h : xH) (a0 : Nat) (x1 : Int32) (r : Int32) (hF : F_X6_isIn G h a0 x1 = some r) : xC l yX6_isIn cX6_isIn 2 (some .boolean) (rm_X6_isIn) D G h [.ref a0, .int x1] (some (.int r)) h := by
  refine xC_of (by decide) (by first | decide | exact Nat.le_of_ble_eq_true rfl) ?_
  intro p e s m args below meth c ls hx hb hr hlk hml hown hnm hts hR hS hl
  have hl : lv_has ls 2 [(0, va_rf (some a0)), (1, .int x1)] := hl
  unfold F_X6_isIn at hF
  refine lv_iload_n hx hb dX6_isIn_0 rfl (lv_at hl 1 rfl) ?_
  refine lv_if_lt (tgt := 24) hx hb dX6_isIn_1 (by decide) (fun c1 => ?_) (fun c1 => ?_)
  · replace hF := xift c1 hF
    refine lv_iconst (v := 0) hx hb dX6_isIn_24 (by decide) ?_
    cases hF
    exact x_iret hx hb hr rfl hlk hR hS (by decide) (by decide) dX6_isIn_25
  · replace hF := xiff c1 hF
    refine lv_iload_n hx hb dX6_isIn_4 rfl (lv_at hl 1 rfl) ?_
    refine lv_sipush (v := 601) hx hb dX6_isIn_5 (by decide) ?_
    refine lv_icmp_ge (tgt := 24) hx hb dX6_isIn_8 (by decide) (fun c2 => ?_) (fun c2 => ?_)
    · replace hF := xift c2 hF
      refine lv_iconst (v := 0) hx hb dX6_isIn_24 (by decide) ?_
      cases hF
      exact x_iret hx hb hr rfl hlk hR hS (by decide) (by decide) dX6_isIn_25
    · replace hF := xiff c2 hF
      refine x_aload_n (o := (some a0)) hx hb dX6_isIn_11 rfl (lv_at hl 0 rfl) ?_
      replace hF := xbind hF; obtain ⟨w3, ew3, hF⟩ := hF
      refine x_getR (o := (some a0)) (ci := 6) (C := RX6) (T := TX6) (N := 6) hx hb hts iw_X6 hown hR rfl 4 (by decide) mm_418 (Or.inl rfl) ew3 dX6_isIn_12 ?_
      refine lv_iload_n hx hb dX6_isIn_15 rfl (lv_at hl 1 rfl) ?_
      replace hF := xbind hF; obtain ⟨v4, ev4, hF⟩ := hF
      refine x_zld (o := w3) hx hb hR ev4 dX6_isIn_16 ?_
      refine lv_if_ne (tgt := 24) hx hb dX6_isIn_17 (by decide) (fun c5 => ?_) (fun c5 => ?_)
      · replace hF := xiff c5 hF
        refine lv_iconst (v := 0) hx hb dX6_isIn_24 (by decide) ?_
        cases hF
        exact x_iret hx hb hr rfl hlk hR hS (by decide) (by decide) dX6_isIn_25
      · replace hF := xift c5 hF
        refine lv_iconst (v := 1) hx hb dX6_isIn_20 (by decide) ?_
        refine lv_goto (tgt := 25) hx hb dX6_isIn_21 (by decide) ?_
        cases hF
        exact x_iret hx hb hr rfl hlk hR hS (by decide) (by decide) dX6_isIn_25
def rm_X6_asksAt : Room := { frames := 1, cells := 0, slots := 0, locals := 21 }
theorem f_X6_asksAt : xM yX6_asksAt cX6_asksAt 2 (some .int) 1 := ⟨mm_499, mm_71, by decide +kernel, by decide +kernel⟩
theorem dX6_asksAt_0 : decode cX6_asksAt 0 = .ok (.aload_n 0, 1) := by decide +kernel
theorem dX6_asksAt_1 : decode cX6_asksAt 1 = .ok (.iload_n 1, 1) := by decide +kernel
theorem dX6_asksAt_2 : decode cX6_asksAt 2 = .ok (.invokevirtual 82, 3) := by decide +kernel
theorem dX6_asksAt_5 : decode cX6_asksAt 5 = .ok (.ifCond .eq 14, 3) := by decide +kernel
theorem dX6_asksAt_8 : decode cX6_asksAt 8 = .ok (.aload_n 0, 1) := by decide +kernel
theorem dX6_asksAt_9 : decode cX6_asksAt 9 = .ok (.getfield 15, 3) := by decide +kernel
theorem dX6_asksAt_12 : decode cX6_asksAt 12 = .ok (.iload_n 1, 1) := by decide +kernel
theorem dX6_asksAt_13 : decode cX6_asksAt 13 = .ok (.invokevirtual 93, 3) := by decide +kernel
theorem dX6_asksAt_16 : decode cX6_asksAt 16 = .ok (.goto 4, 3) := by decide +kernel
theorem dX6_asksAt_19 : decode cX6_asksAt 19 = .ok (.iconst 0, 1) := by decide +kernel
theorem dX6_asksAt_20 : decode cX6_asksAt 20 = .ok (.ireturn, 1) := by decide +kernel
def F_X6_asksAt (G : Nat → Nat) (h : xH) (a0 : Nat) (x1 : Int32) : Option Int32 :=
  (xc h (some a0) 6).bind fun b2 =>
  (F_X6_isIn G h b2 x1).bind fun v1 =>
  if v1 = 0 then
    some 0
  else
  (gR h (some a0) 6 0).bind fun w4 =>
  (xc h w4 7).bind fun b6 =>
  (F_X7_asksAt G h b6 x1).bind fun v5 =>
  some v5
set_option maxHeartbeats 4000000 in
set_option maxRecDepth 100000 in
theorem t_X6_asksAt (l : Launch) (D : va_G) (G : Nat → Nat) (h : xH) (a0 : Nat) (x1 : Int32) (r : Int32) (hF : F_X6_asksAt G h a0 x1 = some r) : xC l yX6_asksAt cX6_asksAt 2 (some .int) (rm_X6_asksAt) D G h [.ref a0, .int x1] (some (.int r)) h := by
  refine xC_of (by decide) (by first | decide | exact Nat.le_of_ble_eq_true rfl) ?_
  intro p e s m args below meth c ls hx hb hr hlk hml hown hnm hts hR hS hl
  have hl : lv_has ls 2 [(0, va_rf (some a0)), (1, .int x1)] := hl
  unfold F_X6_asksAt at hF
  refine x_aload_n (o := (some a0)) hx hb dX6_asksAt_0 rfl (lv_at hl 0 rfl) ?_
  refine lv_iload_n hx hb dX6_asksAt_1 rfl (lv_at hl 1 rfl) ?_
  replace hF := xbind hF; obtain ⟨b2, eb2, hF⟩ := hF
  replace hF := xbind hF; obtain ⟨v1, ev1, hF⟩ := hF
  refine x_callV (o := (some a0)) (ci := 6) (As := [.int x1]) (rest := []) (v := (some (.int v1))) (k := 1) hx hb hml hown hts hR hS eb2 rfl rfl (t_X6_isIn l D G h b2 x1 v1 ev1) f_X6_isIn mm_500 mm_502 mm_10 rfl hl.1 rfl (by first | exact Nat.le_of_ble_eq_true rfl | simp [xrf_cat, xcI, xcJ, xcA]) dX6_asksAt_2 (by decide) (by decide) rfl (fun H locs hR hS => ?_)
  refine lv_if_eq (tgt := 19) hx hb dX6_asksAt_5 (by decide) (fun c3 => ?_) (fun c3 => ?_)
  · replace hF := xift c3 hF
    refine lv_iconst (v := 0) hx hb dX6_asksAt_19 (by decide) ?_
    cases hF
    exact x_iret hx hb hr rfl hlk hR hS (by decide) (by decide) dX6_asksAt_20
  · replace hF := xiff c3 hF
    refine x_aload_n (o := (some a0)) hx hb dX6_asksAt_8 rfl (lv_at hl 0 rfl) ?_
    replace hF := xbind hF; obtain ⟨w4, ew4, hF⟩ := hF
    refine x_getR (o := (some a0)) (ci := 6) (C := RX6) (T := TX6) (N := 6) hx hb hts iw_X6 hown hR rfl 0 (by decide) mm_412 (Or.inl rfl) ew4 dX6_asksAt_9 ?_
    refine lv_iload_n hx hb dX6_asksAt_12 rfl (lv_at hl 1 rfl) ?_
    replace hF := xbind hF; obtain ⟨b6, eb6, hF⟩ := hF
    replace hF := xbind hF; obtain ⟨v5, ev5, hF⟩ := hF
    refine x_callV (o := w4) (ci := 7) (As := [.int x1]) (rest := []) (v := (some (.int v5))) (k := 1) hx hb hml hown hts hR hS eb6 rfl rfl (t_X7_asksAt l D G h b6 x1 v5 ev5) f_X7_asksAt mm_504 mm_505 mm_506 rfl hl.1 rfl (by first | exact Nat.le_of_ble_eq_true rfl | simp [xrf_cat, xcI, xcJ, xcA]) dX6_asksAt_13 (by decide) (by decide) rfl (fun H locs hR hS => ?_)
    refine lv_goto (tgt := 20) hx hb dX6_asksAt_16 (by decide) ?_
    cases hF
    exact x_iret hx hb hr rfl hlk hR hS (by decide) (by decide) dX6_asksAt_20
def rm_X6_badAt : Room := { frames := 1, cells := 0, slots := 0, locals := 21 }
theorem f_X6_badAt : xM yX6_badAt cX6_badAt 2 (some .int) 1 := ⟨mm_511, mm_71, by decide +kernel, by decide +kernel⟩
theorem dX6_badAt_0 : decode cX6_badAt 0 = .ok (.aload_n 0, 1) := by decide +kernel
theorem dX6_badAt_1 : decode cX6_badAt 1 = .ok (.iload_n 1, 1) := by decide +kernel
theorem dX6_badAt_2 : decode cX6_badAt 2 = .ok (.invokevirtual 82, 3) := by decide +kernel
theorem dX6_badAt_5 : decode cX6_badAt 5 = .ok (.ifCond .eq 14, 3) := by decide +kernel
theorem dX6_badAt_8 : decode cX6_badAt 8 = .ok (.aload_n 0, 1) := by decide +kernel
theorem dX6_badAt_9 : decode cX6_badAt 9 = .ok (.getfield 15, 3) := by decide +kernel
theorem dX6_badAt_12 : decode cX6_badAt 12 = .ok (.iload_n 1, 1) := by decide +kernel
theorem dX6_badAt_13 : decode cX6_badAt 13 = .ok (.invokevirtual 94, 3) := by decide +kernel
theorem dX6_badAt_16 : decode cX6_badAt 16 = .ok (.goto 4, 3) := by decide +kernel
theorem dX6_badAt_19 : decode cX6_badAt 19 = .ok (.iconst 0, 1) := by decide +kernel
theorem dX6_badAt_20 : decode cX6_badAt 20 = .ok (.ireturn, 1) := by decide +kernel
def F_X6_badAt (G : Nat → Nat) (h : xH) (a0 : Nat) (x1 : Int32) : Option Int32 :=
  (xc h (some a0) 6).bind fun b2 =>
  (F_X6_isIn G h b2 x1).bind fun v1 =>
  if v1 = 0 then
    some 0
  else
  (gR h (some a0) 6 0).bind fun w4 =>
  (xc h w4 7).bind fun b6 =>
  (F_X7_badAt G h b6 x1).bind fun v5 =>
  some v5
set_option maxHeartbeats 4000000 in
set_option maxRecDepth 100000 in
theorem t_X6_badAt (l : Launch) (D : va_G) (G : Nat → Nat) (h : xH) (a0 : Nat) (x1 : Int32) (r : Int32) (hF : F_X6_badAt G h a0 x1 = some r) : xC l yX6_badAt cX6_badAt 2 (some .int) (rm_X6_badAt) D G h [.ref a0, .int x1] (some (.int r)) h := by
  refine xC_of (by decide) (by first | decide | exact Nat.le_of_ble_eq_true rfl) ?_
  intro p e s m args below meth c ls hx hb hr hlk hml hown hnm hts hR hS hl
  have hl : lv_has ls 2 [(0, va_rf (some a0)), (1, .int x1)] := hl
  unfold F_X6_badAt at hF
  refine x_aload_n (o := (some a0)) hx hb dX6_badAt_0 rfl (lv_at hl 0 rfl) ?_
  refine lv_iload_n hx hb dX6_badAt_1 rfl (lv_at hl 1 rfl) ?_
  replace hF := xbind hF; obtain ⟨b2, eb2, hF⟩ := hF
  replace hF := xbind hF; obtain ⟨v1, ev1, hF⟩ := hF
  refine x_callV (o := (some a0)) (ci := 6) (As := [.int x1]) (rest := []) (v := (some (.int v1))) (k := 1) hx hb hml hown hts hR hS eb2 rfl rfl (t_X6_isIn l D G h b2 x1 v1 ev1) f_X6_isIn mm_500 mm_502 mm_10 rfl hl.1 rfl (by first | exact Nat.le_of_ble_eq_true rfl | simp [xrf_cat, xcI, xcJ, xcA]) dX6_badAt_2 (by decide) (by decide) rfl (fun H locs hR hS => ?_)
  refine lv_if_eq (tgt := 19) hx hb dX6_badAt_5 (by decide) (fun c3 => ?_) (fun c3 => ?_)
  · replace hF := xift c3 hF
    refine lv_iconst (v := 0) hx hb dX6_badAt_19 (by decide) ?_
    cases hF
    exact x_iret hx hb hr rfl hlk hR hS (by decide) (by decide) dX6_badAt_20
  · replace hF := xiff c3 hF
    refine x_aload_n (o := (some a0)) hx hb dX6_badAt_8 rfl (lv_at hl 0 rfl) ?_
    replace hF := xbind hF; obtain ⟨w4, ew4, hF⟩ := hF
    refine x_getR (o := (some a0)) (ci := 6) (C := RX6) (T := TX6) (N := 6) hx hb hts iw_X6 hown hR rfl 0 (by decide) mm_412 (Or.inl rfl) ew4 dX6_badAt_9 ?_
    refine lv_iload_n hx hb dX6_badAt_12 rfl (lv_at hl 1 rfl) ?_
    replace hF := xbind hF; obtain ⟨b6, eb6, hF⟩ := hF
    replace hF := xbind hF; obtain ⟨v5, ev5, hF⟩ := hF
    refine x_callV (o := w4) (ci := 7) (As := [.int x1]) (rest := []) (v := (some (.int v5))) (k := 1) hx hb hml hown hts hR hS eb6 rfl rfl (t_X7_badAt l D G h b6 x1 v5 ev5) f_X7_badAt mm_512 mm_513 mm_514 rfl hl.1 rfl (by first | exact Nat.le_of_ble_eq_true rfl | simp [xrf_cat, xcI, xcJ, xcA]) dX6_badAt_13 (by decide) (by decide) rfl (fun H locs hR hS => ?_)
    refine lv_goto (tgt := 20) hx hb dX6_badAt_16 (by decide) ?_
    cases hF
    exact x_iret hx hb hr rfl hlk hR hS (by decide) (by decide) dX6_badAt_20
def rm_X6_asks : Room := { frames := 3, cells := 0, slots := 0, locals := 65 }
theorem f_X6_asks : xM yX6_asks cX6_asks 5 (some .int) 1 := ⟨mm_768, mm_71, by decide +kernel, by decide +kernel⟩
theorem dX6_asks_0 : decode cX6_asks 0 = .ok (.iconst 0, 1) := by decide +kernel
theorem dX6_asks_1 : decode cX6_asks 1 = .ok (.istore_n 2, 1) := by decide +kernel
theorem dX6_asks_2 : decode cX6_asks 2 = .ok (.aload_n 0, 1) := by decide +kernel
theorem dX6_asks_3 : decode cX6_asks 3 = .ok (.iload_n 1, 1) := by decide +kernel
theorem dX6_asks_4 : decode cX6_asks 4 = .ok (.invokevirtual 39, 3) := by decide +kernel
theorem dX6_asks_7 : decode cX6_asks 7 = .ok (.istore_n 3, 1) := by decide +kernel
theorem dX6_asks_8 : decode cX6_asks 8 = .ok (.aload_n 0, 1) := by decide +kernel
theorem dX6_asks_9 : decode cX6_asks 9 = .ok (.iload_n 1, 1) := by decide +kernel
theorem dX6_asks_10 : decode cX6_asks 10 = .ok (.invokevirtual 43, 3) := by decide +kernel
theorem dX6_asks_13 : decode cX6_asks 13 = .ok (.istore 4, 2) := by decide +kernel
theorem dX6_asks_15 : decode cX6_asks 15 = .ok (.iload 4, 2) := by decide +kernel
theorem dX6_asks_17 : decode cX6_asks 17 = .ok (.iload_n 3, 1) := by decide +kernel
theorem dX6_asks_18 : decode cX6_asks 18 = .ok (.if_icmp .gt 18, 3) := by decide +kernel
theorem dX6_asks_21 : decode cX6_asks 21 = .ok (.iload_n 2, 1) := by decide +kernel
theorem dX6_asks_22 : decode cX6_asks 22 = .ok (.aload_n 0, 1) := by decide +kernel
theorem dX6_asks_23 : decode cX6_asks 23 = .ok (.iload 4, 2) := by decide +kernel
theorem dX6_asks_25 : decode cX6_asks 25 = .ok (.invokevirtual 46, 3) := by decide +kernel
theorem dX6_asks_28 : decode cX6_asks 28 = .ok (.iadd, 1) := by decide +kernel
theorem dX6_asks_29 : decode cX6_asks 29 = .ok (.istore_n 2, 1) := by decide +kernel
theorem dX6_asks_30 : decode cX6_asks 30 = .ok (.iinc 4 1, 3) := by decide +kernel
theorem dX6_asks_33 : decode cX6_asks 33 = .ok (.goto (-18), 3) := by decide +kernel
theorem dX6_asks_36 : decode cX6_asks 36 = .ok (.iload_n 2, 1) := by decide +kernel
theorem dX6_asks_37 : decode cX6_asks 37 = .ok (.ireturn, 1) := by decide +kernel
def F_X6_asks_15 (G : Nat → Nat) (h : xH) (a0 : Nat) (x3 : Int32) : Nat → Int32 → Int32 → Option Int32
  | 0, _, _ => none
  | n + 1, x2, x4 =>
    if x3 < x4 then
      some x2
    else
    (xc h (some a0) 6).bind fun b7 =>
    (F_X6_asksAt G h b7 x4).bind fun v6 =>
    xl (x2 + v6) fun v8 =>
    xl (x4 + 1) fun v9 =>
    F_X6_asks_15 G h a0 x3 n v8 v9
set_option maxHeartbeats 4000000 in
set_option maxRecDepth 100000 in
theorem tl_X6_asks_15 {p : Program} {l : Launch} {e : Env} {s : State} {m : MethodId} {args : Array Value} {below : List Frame} {meth : Method} {c : Code} {D : va_G} {r : Int32} (hx : p.tables.exec = Jvm.exec) (hb : c.code = cX6_asks) (hr : meth.sig.returnType = (some .int)) (hlk : meth.locks = false) (hml : c.maxLocals = 5) (hown : s.vm.findClass RX6 = some m.cls) (hnm : meth.name = "asks") (hts : ∀ w ∈ xt, w.before args s = true) (G : Nat → Nat) (h : xH) (a0 : Nat) (x3 : Int32) : ∀ (n : Nat) (x2 : Int32) (x4 : Int32) (H : Heap) (locs : List Loc) (ls : Array Slot), F_X6_asks_15 G h a0 x3 n x2 x4 = some r → xR D G h s H → va_S (xA G) s.heap H locs → lv_has ls 5 [(0, va_rf (some a0)), (2, .int x2), (3, .int x3), (4, .int x4)] → W p l e rm_X6_asks s m args below meth c H locs 0 0 (MQ below (xQ D G (some (.int r)) h) args s rm_X6_asks.cells rm_X6_asks.slots (xA G)) (F0 m 15 ls []) := by
  intro n
  induction n with
  | zero =>
    intro x2 x4 H locs ls hF
    rw [F_X6_asks_15.eq_1] at hF
    cases hF
  | succ n ih =>
    intro x2 x4 H locs ls hF hR hS hl
    rw [F_X6_asks_15.eq_2] at hF
    refine lv_iload hx hb dX6_asks_15 (lv_at hl 3 rfl) ?_
    refine lv_iload_n hx hb dX6_asks_17 rfl (lv_at hl 2 rfl) ?_
    refine lv_icmp_gt (tgt := 36) hx hb dX6_asks_18 (by decide) (fun c5 => ?_) (fun c5 => ?_)
    · replace hF := xift c5 hF
      refine lv_iload_n hx hb dX6_asks_36 rfl (lv_at hl 1 rfl) ?_
      cases hF
      exact x_iret hx hb hr rfl hlk hR hS (by decide) (by decide) dX6_asks_37
    · replace hF := xiff c5 hF
      refine lv_iload_n hx hb dX6_asks_21 rfl (lv_at hl 1 rfl) ?_
      refine x_aload_n (o := (some a0)) hx hb dX6_asks_22 rfl (lv_at hl 0 rfl) ?_
      refine lv_iload hx hb dX6_asks_23 (lv_at hl 3 rfl) ?_
      replace hF := xbind hF; obtain ⟨b7, eb7, hF⟩ := hF
      replace hF := xbind hF; obtain ⟨v6, ev6, hF⟩ := hF
      refine x_callV (o := (some a0)) (ci := 6) (As := [.int x4]) (rest := [.int x2]) (v := (some (.int v6))) (k := 1) hx hb hml hown hts hR hS eb7 rfl rfl (t_X6_asksAt l D G h b7 x4 v6 ev6) f_X6_asksAt mm_496 mm_498 mm_9 rfl hl.1 rfl (by first | exact Nat.le_of_ble_eq_true rfl | simp [xrf_cat, xcI, xcJ, xcA]) dX6_asks_25 (by decide) (by decide) rfl (fun H locs hR hS => ?_)
      refine lv_iadd hx hb dX6_asks_28 ?_
      refine lv_topi (fun v8 ev8 => ?_)
      replace hF := xlet ev8 hF
      refine lv_istore_n (lv' := [(2, .int v8), (0, va_rf (some a0)), (3, .int x3), (4, .int x4)]) hx hb dX6_asks_29 rfl hl (by decide) (by first | rfl | (simp [xrf_cat, xcI, xcJ, xcA]; done) | (simp [xrf_cat, xcI, xcJ, xcA]; decide)) (fun ls hl => ?_)
      obtain ⟨v9, ev9⟩ : ∃ z : Int32, z = (x4 + 1) := ⟨_, rfl⟩
      replace hF := xlet ev9 hF
      refine lv_iinc (v := v9) (lv' := [(4, .int v9), (2, .int v8), (0, va_rf (some a0)), (3, .int x3)]) hx hb dX6_asks_30 hl (k := 3) rfl (by rw [ev9]; rfl) (by decide) (by first | rfl | (simp [xrf_cat, xcI, xcJ, xcA]; done) | (simp [xrf_cat, xcI, xcJ, xcA]; decide)) (fun ls hl => ?_)
      refine lv_goto (tgt := 15) hx hb dX6_asks_33 (by decide) ?_
      exact ih v8 v9 _ _ _ hF hR hS (lv_sub hl [2, 1, 3, 0] rfl)
def F_X6_asks (G : Nat → Nat) (h : xH) (a0 : Nat) (x1 : Int32) : Option Int32 :=
  (xc h (some a0) 6).bind fun b2 =>
  (F_X6_lastOfSpan G h b2 x1).bind fun v1 =>
  (xc h (some a0) 6).bind fun b4 =>
  (F_X6_firstOfSpan G h b4 x1).bind fun v3 =>
  F_X6_asks_15 G h a0 v1 xN 0 v3
set_option maxHeartbeats 4000000 in
set_option maxRecDepth 100000 in
theorem t_X6_asks (l : Launch) (D : va_G) (G : Nat → Nat) (h : xH) (a0 : Nat) (x1 : Int32) (r : Int32) (hF : F_X6_asks G h a0 x1 = some r) : xC l yX6_asks cX6_asks 5 (some .int) (rm_X6_asks) D G h [.ref a0, .int x1] (some (.int r)) h := by
  refine xC_of (by decide) (by first | decide | exact Nat.le_of_ble_eq_true rfl) ?_
  intro p e s m args below meth c ls hx hb hr hlk hml hown hnm hts hR hS hl
  have hl : lv_has ls 5 [(0, va_rf (some a0)), (1, .int x1)] := hl
  unfold F_X6_asks at hF
  refine lv_iconst (v := 0) hx hb dX6_asks_0 (by decide) ?_
  refine lv_istore_n (lv' := [(2, .int 0), (0, va_rf (some a0)), (1, .int x1)]) hx hb dX6_asks_1 rfl hl (by decide) (by first | rfl | (simp [xrf_cat, xcI, xcJ, xcA]; done) | (simp [xrf_cat, xcI, xcJ, xcA]; decide)) (fun ls hl => ?_)
  refine x_aload_n (o := (some a0)) hx hb dX6_asks_2 rfl (lv_at hl 1 rfl) ?_
  refine lv_iload_n hx hb dX6_asks_3 rfl (lv_at hl 2 rfl) ?_
  replace hF := xbind hF; obtain ⟨b2, eb2, hF⟩ := hF
  replace hF := xbind hF; obtain ⟨v1, ev1, hF⟩ := hF
  refine x_callV (o := (some a0)) (ci := 6) (As := [.int x1]) (rest := []) (v := (some (.int v1))) (k := 1) hx hb hml hown hts hR hS eb2 rfl rfl (t_X6_lastOfSpan l D G h b2 x1 v1 ev1) f_X6_lastOfSpan mm_491 mm_493 mm_8 rfl hl.1 rfl (by first | exact Nat.le_of_ble_eq_true rfl | simp [xrf_cat, xcI, xcJ, xcA]) dX6_asks_4 (by decide) (by decide) rfl (fun H locs hR hS => ?_)
  refine lv_istore_n (lv' := [(3, .int v1), (2, .int 0), (0, va_rf (some a0)), (1, .int x1)]) hx hb dX6_asks_7 rfl hl (by decide) (by first | rfl | (simp [xrf_cat, xcI, xcJ, xcA]; done) | (simp [xrf_cat, xcI, xcJ, xcA]; decide)) (fun ls hl => ?_)
  refine x_aload_n (o := (some a0)) hx hb dX6_asks_8 rfl (lv_at hl 2 rfl) ?_
  refine lv_iload_n hx hb dX6_asks_9 rfl (lv_at hl 3 rfl) ?_
  replace hF := xbind hF; obtain ⟨b4, eb4, hF⟩ := hF
  replace hF := xbind hF; obtain ⟨v3, ev3, hF⟩ := hF
  refine x_callV (o := (some a0)) (ci := 6) (As := [.int x1]) (rest := []) (v := (some (.int v3))) (k := 1) hx hb hml hown hts hR hS eb4 rfl rfl (t_X6_firstOfSpan l D G h b4 x1 v3 ev3) f_X6_firstOfSpan mm_487 mm_489 mm_7 rfl hl.1 rfl (by first | exact Nat.le_of_ble_eq_true rfl | simp [xrf_cat, xcI, xcJ, xcA]) dX6_asks_10 (by decide) (by decide) rfl (fun H locs hR hS => ?_)
  refine lv_istore (lv' := [(4, .int v3), (3, .int v1), (2, .int 0), (0, va_rf (some a0)), (1, .int x1)]) hx hb dX6_asks_13 hl (by decide) (by first | rfl | (simp [xrf_cat, xcI, xcJ, xcA]; done) | (simp [xrf_cat, xcI, xcJ, xcA]; decide)) (fun ls hl => ?_)
  refine W.widen (k := 0) (n := 0) (by decide) (by decide) ?_
  exact tl_X6_asks_15 hx hb hr hlk hml hown hnm hts G h a0 v1 _ 0 v3 _ _ _ hF hR hS (lv_sub hl [3, 2, 1, 0] rfl)
def rm_X6_bad : Room := { frames := 3, cells := 0, slots := 0, locals := 65 }
theorem f_X6_bad : xM yX6_bad cX6_bad 5 (some .int) 1 := ⟨mm_772, mm_71, by decide +kernel, by decide +kernel⟩
theorem dX6_bad_0 : decode cX6_bad 0 = .ok (.iconst 0, 1) := by decide +kernel
theorem dX6_bad_1 : decode cX6_bad 1 = .ok (.istore_n 2, 1) := by decide +kernel
theorem dX6_bad_2 : decode cX6_bad 2 = .ok (.aload_n 0, 1) := by decide +kernel
theorem dX6_bad_3 : decode cX6_bad 3 = .ok (.iload_n 1, 1) := by decide +kernel
theorem dX6_bad_4 : decode cX6_bad 4 = .ok (.invokevirtual 39, 3) := by decide +kernel
theorem dX6_bad_7 : decode cX6_bad 7 = .ok (.istore_n 3, 1) := by decide +kernel
theorem dX6_bad_8 : decode cX6_bad 8 = .ok (.aload_n 0, 1) := by decide +kernel
theorem dX6_bad_9 : decode cX6_bad 9 = .ok (.iload_n 1, 1) := by decide +kernel
theorem dX6_bad_10 : decode cX6_bad 10 = .ok (.invokevirtual 43, 3) := by decide +kernel
theorem dX6_bad_13 : decode cX6_bad 13 = .ok (.istore 4, 2) := by decide +kernel
theorem dX6_bad_15 : decode cX6_bad 15 = .ok (.iload 4, 2) := by decide +kernel
theorem dX6_bad_17 : decode cX6_bad 17 = .ok (.iload_n 3, 1) := by decide +kernel
theorem dX6_bad_18 : decode cX6_bad 18 = .ok (.if_icmp .gt 18, 3) := by decide +kernel
theorem dX6_bad_21 : decode cX6_bad 21 = .ok (.iload_n 2, 1) := by decide +kernel
theorem dX6_bad_22 : decode cX6_bad 22 = .ok (.aload_n 0, 1) := by decide +kernel
theorem dX6_bad_23 : decode cX6_bad 23 = .ok (.iload 4, 2) := by decide +kernel
theorem dX6_bad_25 : decode cX6_bad 25 = .ok (.invokevirtual 49, 3) := by decide +kernel
theorem dX6_bad_28 : decode cX6_bad 28 = .ok (.iadd, 1) := by decide +kernel
theorem dX6_bad_29 : decode cX6_bad 29 = .ok (.istore_n 2, 1) := by decide +kernel
theorem dX6_bad_30 : decode cX6_bad 30 = .ok (.iinc 4 1, 3) := by decide +kernel
theorem dX6_bad_33 : decode cX6_bad 33 = .ok (.goto (-18), 3) := by decide +kernel
theorem dX6_bad_36 : decode cX6_bad 36 = .ok (.iload_n 2, 1) := by decide +kernel
theorem dX6_bad_37 : decode cX6_bad 37 = .ok (.ireturn, 1) := by decide +kernel
def F_X6_bad_15 (G : Nat → Nat) (h : xH) (a0 : Nat) (x3 : Int32) : Nat → Int32 → Int32 → Option Int32
  | 0, _, _ => none
  | n + 1, x2, x4 =>
    if x3 < x4 then
      some x2
    else
    (xc h (some a0) 6).bind fun b7 =>
    (F_X6_badAt G h b7 x4).bind fun v6 =>
    xl (x2 + v6) fun v8 =>
    xl (x4 + 1) fun v9 =>
    F_X6_bad_15 G h a0 x3 n v8 v9
set_option maxHeartbeats 4000000 in
set_option maxRecDepth 100000 in
theorem tl_X6_bad_15 {p : Program} {l : Launch} {e : Env} {s : State} {m : MethodId} {args : Array Value} {below : List Frame} {meth : Method} {c : Code} {D : va_G} {r : Int32} (hx : p.tables.exec = Jvm.exec) (hb : c.code = cX6_bad) (hr : meth.sig.returnType = (some .int)) (hlk : meth.locks = false) (hml : c.maxLocals = 5) (hown : s.vm.findClass RX6 = some m.cls) (hnm : meth.name = "bad") (hts : ∀ w ∈ xt, w.before args s = true) (G : Nat → Nat) (h : xH) (a0 : Nat) (x3 : Int32) : ∀ (n : Nat) (x2 : Int32) (x4 : Int32) (H : Heap) (locs : List Loc) (ls : Array Slot), F_X6_bad_15 G h a0 x3 n x2 x4 = some r → xR D G h s H → va_S (xA G) s.heap H locs → lv_has ls 5 [(0, va_rf (some a0)), (2, .int x2), (3, .int x3), (4, .int x4)] → W p l e rm_X6_bad s m args below meth c H locs 0 0 (MQ below (xQ D G (some (.int r)) h) args s rm_X6_bad.cells rm_X6_bad.slots (xA G)) (F0 m 15 ls []) := by
  intro n
  induction n with
  | zero =>
    intro x2 x4 H locs ls hF
    rw [F_X6_bad_15.eq_1] at hF
    cases hF
  | succ n ih =>
    intro x2 x4 H locs ls hF hR hS hl
    rw [F_X6_bad_15.eq_2] at hF
    refine lv_iload hx hb dX6_bad_15 (lv_at hl 3 rfl) ?_
    refine lv_iload_n hx hb dX6_bad_17 rfl (lv_at hl 2 rfl) ?_
    refine lv_icmp_gt (tgt := 36) hx hb dX6_bad_18 (by decide) (fun c5 => ?_) (fun c5 => ?_)
    · replace hF := xift c5 hF
      refine lv_iload_n hx hb dX6_bad_36 rfl (lv_at hl 1 rfl) ?_
      cases hF
      exact x_iret hx hb hr rfl hlk hR hS (by decide) (by decide) dX6_bad_37
    · replace hF := xiff c5 hF
      refine lv_iload_n hx hb dX6_bad_21 rfl (lv_at hl 1 rfl) ?_
      refine x_aload_n (o := (some a0)) hx hb dX6_bad_22 rfl (lv_at hl 0 rfl) ?_
      refine lv_iload hx hb dX6_bad_23 (lv_at hl 3 rfl) ?_
      replace hF := xbind hF; obtain ⟨b7, eb7, hF⟩ := hF
      replace hF := xbind hF; obtain ⟨v6, ev6, hF⟩ := hF
      refine x_callV (o := (some a0)) (ci := 6) (As := [.int x4]) (rest := [.int x2]) (v := (some (.int v6))) (k := 1) hx hb hml hown hts hR hS eb7 rfl rfl (t_X6_badAt l D G h b7 x4 v6 ev6) f_X6_badAt mm_508 mm_510 mm_11 rfl hl.1 rfl (by first | exact Nat.le_of_ble_eq_true rfl | simp [xrf_cat, xcI, xcJ, xcA]) dX6_bad_25 (by decide) (by decide) rfl (fun H locs hR hS => ?_)
      refine lv_iadd hx hb dX6_bad_28 ?_
      refine lv_topi (fun v8 ev8 => ?_)
      replace hF := xlet ev8 hF
      refine lv_istore_n (lv' := [(2, .int v8), (0, va_rf (some a0)), (3, .int x3), (4, .int x4)]) hx hb dX6_bad_29 rfl hl (by decide) (by first | rfl | (simp [xrf_cat, xcI, xcJ, xcA]; done) | (simp [xrf_cat, xcI, xcJ, xcA]; decide)) (fun ls hl => ?_)
      obtain ⟨v9, ev9⟩ : ∃ z : Int32, z = (x4 + 1) := ⟨_, rfl⟩
      replace hF := xlet ev9 hF
      refine lv_iinc (v := v9) (lv' := [(4, .int v9), (2, .int v8), (0, va_rf (some a0)), (3, .int x3)]) hx hb dX6_bad_30 hl (k := 3) rfl (by rw [ev9]; rfl) (by decide) (by first | rfl | (simp [xrf_cat, xcI, xcJ, xcA]; done) | (simp [xrf_cat, xcI, xcJ, xcA]; decide)) (fun ls hl => ?_)
      refine lv_goto (tgt := 15) hx hb dX6_bad_33 (by decide) ?_
      exact ih v8 v9 _ _ _ hF hR hS (lv_sub hl [2, 1, 3, 0] rfl)
def F_X6_bad (G : Nat → Nat) (h : xH) (a0 : Nat) (x1 : Int32) : Option Int32 :=
  (xc h (some a0) 6).bind fun b2 =>
  (F_X6_lastOfSpan G h b2 x1).bind fun v1 =>
  (xc h (some a0) 6).bind fun b4 =>
  (F_X6_firstOfSpan G h b4 x1).bind fun v3 =>
  F_X6_bad_15 G h a0 v1 xN 0 v3
set_option maxHeartbeats 4000000 in
set_option maxRecDepth 100000 in
theorem t_X6_bad (l : Launch) (D : va_G) (G : Nat → Nat) (h : xH) (a0 : Nat) (x1 : Int32) (r : Int32) (hF : F_X6_bad G h a0 x1 = some r) : xC l yX6_bad cX6_bad 5 (some .int) (rm_X6_bad) D G h [.ref a0, .int x1] (some (.int r)) h := by
  refine xC_of (by decide) (by first | decide | exact Nat.le_of_ble_eq_true rfl) ?_
  intro p e s m args below meth c ls hx hb hr hlk hml hown hnm hts hR hS hl
  have hl : lv_has ls 5 [(0, va_rf (some a0)), (1, .int x1)] := hl
  unfold F_X6_bad at hF
  refine lv_iconst (v := 0) hx hb dX6_bad_0 (by decide) ?_
  refine lv_istore_n (lv' := [(2, .int 0), (0, va_rf (some a0)), (1, .int x1)]) hx hb dX6_bad_1 rfl hl (by decide) (by first | rfl | (simp [xrf_cat, xcI, xcJ, xcA]; done) | (simp [xrf_cat, xcI, xcJ, xcA]; decide)) (fun ls hl => ?_)
  refine x_aload_n (o := (some a0)) hx hb dX6_bad_2 rfl (lv_at hl 1 rfl) ?_
  refine lv_iload_n hx hb dX6_bad_3 rfl (lv_at hl 2 rfl) ?_
  replace hF := xbind hF; obtain ⟨b2, eb2, hF⟩ := hF
  replace hF := xbind hF; obtain ⟨v1, ev1, hF⟩ := hF
  refine x_callV (o := (some a0)) (ci := 6) (As := [.int x1]) (rest := []) (v := (some (.int v1))) (k := 1) hx hb hml hown hts hR hS eb2 rfl rfl (t_X6_lastOfSpan l D G h b2 x1 v1 ev1) f_X6_lastOfSpan mm_491 mm_493 mm_8 rfl hl.1 rfl (by first | exact Nat.le_of_ble_eq_true rfl | simp [xrf_cat, xcI, xcJ, xcA]) dX6_bad_4 (by decide) (by decide) rfl (fun H locs hR hS => ?_)
  refine lv_istore_n (lv' := [(3, .int v1), (2, .int 0), (0, va_rf (some a0)), (1, .int x1)]) hx hb dX6_bad_7 rfl hl (by decide) (by first | rfl | (simp [xrf_cat, xcI, xcJ, xcA]; done) | (simp [xrf_cat, xcI, xcJ, xcA]; decide)) (fun ls hl => ?_)
  refine x_aload_n (o := (some a0)) hx hb dX6_bad_8 rfl (lv_at hl 2 rfl) ?_
  refine lv_iload_n hx hb dX6_bad_9 rfl (lv_at hl 3 rfl) ?_
  replace hF := xbind hF; obtain ⟨b4, eb4, hF⟩ := hF
  replace hF := xbind hF; obtain ⟨v3, ev3, hF⟩ := hF
  refine x_callV (o := (some a0)) (ci := 6) (As := [.int x1]) (rest := []) (v := (some (.int v3))) (k := 1) hx hb hml hown hts hR hS eb4 rfl rfl (t_X6_firstOfSpan l D G h b4 x1 v3 ev3) f_X6_firstOfSpan mm_487 mm_489 mm_7 rfl hl.1 rfl (by first | exact Nat.le_of_ble_eq_true rfl | simp [xrf_cat, xcI, xcJ, xcA]) dX6_bad_10 (by decide) (by decide) rfl (fun H locs hR hS => ?_)
  refine lv_istore (lv' := [(4, .int v3), (3, .int v1), (2, .int 0), (0, va_rf (some a0)), (1, .int x1)]) hx hb dX6_bad_13 hl (by decide) (by first | rfl | (simp [xrf_cat, xcI, xcJ, xcA]; done) | (simp [xrf_cat, xcI, xcJ, xcA]; decide)) (fun ls hl => ?_)
  refine W.widen (k := 0) (n := 0) (by decide) (by decide) ?_
  exact tl_X6_bad_15 hx hb hr hlk hml hown hnm hts G h a0 v1 _ 0 v3 _ _ _ hF hR hS (lv_sub hl [3, 2, 1, 0] rfl)
def rm_X6_toCome : Room := { frames := 4, cells := 0, slots := 0, locals := 88 }
theorem f_X6_toCome : xM yX6_toCome cX6_toCome 6 (some .int) 2 := ⟨mm_763, mm_71, by decide +kernel, by decide +kernel⟩
theorem dX6_toCome_0 : decode cX6_toCome 0 = .ok (.iconst 0, 1) := by decide +kernel
theorem dX6_toCome_1 : decode cX6_toCome 1 = .ok (.istore_n 3, 1) := by decide +kernel
theorem dX6_toCome_2 : decode cX6_toCome 2 = .ok (.aload_n 0, 1) := by decide +kernel
theorem dX6_toCome_3 : decode cX6_toCome 3 = .ok (.iload_n 1, 1) := by decide +kernel
theorem dX6_toCome_4 : decode cX6_toCome 4 = .ok (.invokevirtual 39, 3) := by decide +kernel
theorem dX6_toCome_7 : decode cX6_toCome 7 = .ok (.istore 4, 2) := by decide +kernel
theorem dX6_toCome_9 : decode cX6_toCome 9 = .ok (.aload_n 0, 1) := by decide +kernel
theorem dX6_toCome_10 : decode cX6_toCome 10 = .ok (.iload_n 1, 1) := by decide +kernel
theorem dX6_toCome_11 : decode cX6_toCome 11 = .ok (.invokevirtual 43, 3) := by decide +kernel
theorem dX6_toCome_14 : decode cX6_toCome 14 = .ok (.istore 5, 2) := by decide +kernel
theorem dX6_toCome_16 : decode cX6_toCome 16 = .ok (.iload 5, 2) := by decide +kernel
theorem dX6_toCome_18 : decode cX6_toCome 18 = .ok (.iload 4, 2) := by decide +kernel
theorem dX6_toCome_20 : decode cX6_toCome 20 = .ok (.if_icmp .gt 31, 3) := by decide +kernel
theorem dX6_toCome_23 : decode cX6_toCome 23 = .ok (.aload_n 0, 1) := by decide +kernel
theorem dX6_toCome_24 : decode cX6_toCome 24 = .ok (.iload 5, 2) := by decide +kernel
theorem dX6_toCome_26 : decode cX6_toCome 26 = .ok (.invokevirtual 82, 3) := by decide +kernel
theorem dX6_toCome_29 : decode cX6_toCome 29 = .ok (.ifCond .eq 16, 3) := by decide +kernel
theorem dX6_toCome_32 : decode cX6_toCome 32 = .ok (.iload_n 3, 1) := by decide +kernel
theorem dX6_toCome_33 : decode cX6_toCome 33 = .ok (.aload_n 0, 1) := by decide +kernel
theorem dX6_toCome_34 : decode cX6_toCome 34 = .ok (.getfield 15, 3) := by decide +kernel
theorem dX6_toCome_37 : decode cX6_toCome 37 = .ok (.iload 5, 2) := by decide +kernel
theorem dX6_toCome_39 : decode cX6_toCome 39 = .ok (.iload_n 2, 1) := by decide +kernel
theorem dX6_toCome_40 : decode cX6_toCome 40 = .ok (.invokevirtual 95, 3) := by decide +kernel
theorem dX6_toCome_43 : decode cX6_toCome 43 = .ok (.iadd, 1) := by decide +kernel
theorem dX6_toCome_44 : decode cX6_toCome 44 = .ok (.istore_n 3, 1) := by decide +kernel
theorem dX6_toCome_45 : decode cX6_toCome 45 = .ok (.iinc 5 1, 3) := by decide +kernel
theorem dX6_toCome_48 : decode cX6_toCome 48 = .ok (.goto (-32), 3) := by decide +kernel
theorem dX6_toCome_51 : decode cX6_toCome 51 = .ok (.iload_n 3, 1) := by decide +kernel
theorem dX6_toCome_52 : decode cX6_toCome 52 = .ok (.ireturn, 1) := by decide +kernel
def F_X6_toCome_16 (G : Nat → Nat) (h : xH) (a0 : Nat) (x2 : Int32) (x4 : Int32) : Nat → Int32 → Int32 → Option Int32
  | 0, _, _ => none
  | n + 1, x3, x5 =>
    if x4 < x5 then
      some x3
    else
    (xc h (some a0) 6).bind fun b7 =>
    (F_X6_isIn G h b7 x5).bind fun v6 =>
    if v6 = 0 then
      xl (x5 + 1) fun v9 =>
      F_X6_toCome_16 G h a0 x2 x4 n x3 v9
    else
    (gR h (some a0) 6 0).bind fun w10 =>
    (xc h w10 7).bind fun b12 =>
    (F_X7_toComeAt G h b12 x5 x2).bind fun v11 =>
    xl (x3 + v11) fun v13 =>
    xl (x5 + 1) fun v14 =>
    F_X6_toCome_16 G h a0 x2 x4 n v13 v14
set_option maxHeartbeats 4000000 in
set_option maxRecDepth 100000 in
theorem tl_X6_toCome_16 {p : Program} {l : Launch} {e : Env} {s : State} {m : MethodId} {args : Array Value} {below : List Frame} {meth : Method} {c : Code} {D : va_G} {r : Int32} (hx : p.tables.exec = Jvm.exec) (hb : c.code = cX6_toCome) (hr : meth.sig.returnType = (some .int)) (hlk : meth.locks = false) (hml : c.maxLocals = 6) (hown : s.vm.findClass RX6 = some m.cls) (hnm : meth.name = "toCome") (hts : ∀ w ∈ xt, w.before args s = true) (G : Nat → Nat) (h : xH) (a0 : Nat) (x2 : Int32) (x4 : Int32) : ∀ (n : Nat) (x3 : Int32) (x5 : Int32) (H : Heap) (locs : List Loc) (ls : Array Slot), F_X6_toCome_16 G h a0 x2 x4 n x3 x5 = some r → xR D G h s H → va_S (xA G) s.heap H locs → lv_has ls 6 [(0, va_rf (some a0)), (2, .int x2), (3, .int x3), (4, .int x4), (5, .int x5)] → W p l e rm_X6_toCome s m args below meth c H locs 0 0 (MQ below (xQ D G (some (.int r)) h) args s rm_X6_toCome.cells rm_X6_toCome.slots (xA G)) (F0 m 16 ls []) := by
  intro n
  induction n with
  | zero =>
    intro x3 x5 H locs ls hF
    rw [F_X6_toCome_16.eq_1] at hF
    cases hF
  | succ n ih =>
    intro x3 x5 H locs ls hF hR hS hl
    rw [F_X6_toCome_16.eq_2] at hF
    refine lv_iload hx hb dX6_toCome_16 (lv_at hl 4 rfl) ?_
    refine lv_iload hx hb dX6_toCome_18 (lv_at hl 3 rfl) ?_
    refine lv_icmp_gt (tgt := 51) hx hb dX6_toCome_20 (by decide) (fun c5 => ?_) (fun c5 => ?_)
    · replace hF := xift c5 hF
      refine lv_iload_n hx hb dX6_toCome_51 rfl (lv_at hl 2 rfl) ?_
      cases hF
      exact x_iret hx hb hr rfl hlk hR hS (by decide) (by decide) dX6_toCome_52
    · replace hF := xiff c5 hF
      refine x_aload_n (o := (some a0)) hx hb dX6_toCome_23 rfl (lv_at hl 0 rfl) ?_
      refine lv_iload hx hb dX6_toCome_24 (lv_at hl 4 rfl) ?_
      replace hF := xbind hF; obtain ⟨b7, eb7, hF⟩ := hF
      replace hF := xbind hF; obtain ⟨v6, ev6, hF⟩ := hF
      refine x_callV (o := (some a0)) (ci := 6) (As := [.int x5]) (rest := []) (v := (some (.int v6))) (k := 1) hx hb hml hown hts hR hS eb7 rfl rfl (t_X6_isIn l D G h b7 x5 v6 ev6) f_X6_isIn mm_500 mm_502 mm_10 rfl hl.1 rfl (by first | exact Nat.le_of_ble_eq_true rfl | simp [xrf_cat, xcI, xcJ, xcA]) dX6_toCome_26 (by decide) (by decide) rfl (fun H locs hR hS => ?_)
      refine lv_if_eq (tgt := 45) hx hb dX6_toCome_29 (by decide) (fun c8 => ?_) (fun c8 => ?_)
      · replace hF := xift c8 hF
        obtain ⟨v9, ev9⟩ : ∃ z : Int32, z = (x5 + 1) := ⟨_, rfl⟩
        replace hF := xlet ev9 hF
        refine lv_iinc (v := v9) (lv' := [(5, .int v9), (0, va_rf (some a0)), (2, .int x2), (3, .int x3), (4, .int x4)]) hx hb dX6_toCome_45 hl (k := 4) rfl (by rw [ev9]; rfl) (by decide) (by first | rfl | (simp [xrf_cat, xcI, xcJ, xcA]; done) | (simp [xrf_cat, xcI, xcJ, xcA]; decide)) (fun ls hl => ?_)
        refine lv_goto (tgt := 16) hx hb dX6_toCome_48 (by decide) ?_
        exact ih x3 v9 _ _ _ hF hR hS (lv_sub hl [1, 2, 3, 4, 0] rfl)
      · replace hF := xiff c8 hF
        refine lv_iload_n hx hb dX6_toCome_32 rfl (lv_at hl 2 rfl) ?_
        refine x_aload_n (o := (some a0)) hx hb dX6_toCome_33 rfl (lv_at hl 0 rfl) ?_
        replace hF := xbind hF; obtain ⟨w10, ew10, hF⟩ := hF
        refine x_getR (o := (some a0)) (ci := 6) (C := RX6) (T := TX6) (N := 6) hx hb hts iw_X6 hown hR rfl 0 (by decide) mm_412 (Or.inl rfl) ew10 dX6_toCome_34 ?_
        refine lv_iload hx hb dX6_toCome_37 (lv_at hl 4 rfl) ?_
        refine lv_iload_n hx hb dX6_toCome_39 rfl (lv_at hl 1 rfl) ?_
        replace hF := xbind hF; obtain ⟨b12, eb12, hF⟩ := hF
        replace hF := xbind hF; obtain ⟨v11, ev11, hF⟩ := hF
        refine x_callV (o := w10) (ci := 7) (As := [.int x5, .int x2]) (rest := [.int x3]) (v := (some (.int v11))) (k := 2) hx hb hml hown hts hR hS eb12 rfl rfl (t_X7_toComeAt l D G h b12 x5 x2 v11 ev11) f_X7_toComeAt mm_764 mm_467 mm_468 rfl hl.1 rfl (by first | exact Nat.le_of_ble_eq_true rfl | simp [xrf_cat, xcI, xcJ, xcA]) dX6_toCome_40 (by decide) (by decide) rfl (fun H locs hR hS => ?_)
        refine lv_iadd hx hb dX6_toCome_43 ?_
        refine lv_topi (fun v13 ev13 => ?_)
        replace hF := xlet ev13 hF
        refine lv_istore_n (lv' := [(3, .int v13), (0, va_rf (some a0)), (2, .int x2), (4, .int x4), (5, .int x5)]) hx hb dX6_toCome_44 rfl hl (by decide) (by first | rfl | (simp [xrf_cat, xcI, xcJ, xcA]; done) | (simp [xrf_cat, xcI, xcJ, xcA]; decide)) (fun ls hl => ?_)
        obtain ⟨v14, ev14⟩ : ∃ z : Int32, z = (x5 + 1) := ⟨_, rfl⟩
        replace hF := xlet ev14 hF
        refine lv_iinc (v := v14) (lv' := [(5, .int v14), (3, .int v13), (0, va_rf (some a0)), (2, .int x2), (4, .int x4)]) hx hb dX6_toCome_45 hl (k := 4) rfl (by rw [ev14]; rfl) (by decide) (by first | rfl | (simp [xrf_cat, xcI, xcJ, xcA]; done) | (simp [xrf_cat, xcI, xcJ, xcA]; decide)) (fun ls hl => ?_)
        refine lv_goto (tgt := 16) hx hb dX6_toCome_48 (by decide) ?_
        exact ih v13 v14 _ _ _ hF hR hS (lv_sub hl [2, 3, 1, 4, 0] rfl)
def F_X6_toCome (G : Nat → Nat) (h : xH) (a0 : Nat) (x1 : Int32) (x2 : Int32) : Option Int32 :=
  (xc h (some a0) 6).bind fun b2 =>
  (F_X6_lastOfSpan G h b2 x1).bind fun v1 =>
  (xc h (some a0) 6).bind fun b4 =>
  (F_X6_firstOfSpan G h b4 x1).bind fun v3 =>
  F_X6_toCome_16 G h a0 x2 v1 xN 0 v3
set_option maxHeartbeats 4000000 in
set_option maxRecDepth 100000 in
theorem t_X6_toCome (l : Launch) (D : va_G) (G : Nat → Nat) (h : xH) (a0 : Nat) (x1 : Int32) (x2 : Int32) (r : Int32) (hF : F_X6_toCome G h a0 x1 x2 = some r) : xC l yX6_toCome cX6_toCome 6 (some .int) (rm_X6_toCome) D G h [.ref a0, .int x1, .int x2] (some (.int r)) h := by
  refine xC_of (by decide) (by first | decide | exact Nat.le_of_ble_eq_true rfl) ?_
  intro p e s m args below meth c ls hx hb hr hlk hml hown hnm hts hR hS hl
  have hl : lv_has ls 6 [(0, va_rf (some a0)), (1, .int x1), (2, .int x2)] := hl
  unfold F_X6_toCome at hF
  refine lv_iconst (v := 0) hx hb dX6_toCome_0 (by decide) ?_
  refine lv_istore_n (lv' := [(3, .int 0), (0, va_rf (some a0)), (1, .int x1), (2, .int x2)]) hx hb dX6_toCome_1 rfl hl (by decide) (by first | rfl | (simp [xrf_cat, xcI, xcJ, xcA]; done) | (simp [xrf_cat, xcI, xcJ, xcA]; decide)) (fun ls hl => ?_)
  refine x_aload_n (o := (some a0)) hx hb dX6_toCome_2 rfl (lv_at hl 1 rfl) ?_
  refine lv_iload_n hx hb dX6_toCome_3 rfl (lv_at hl 2 rfl) ?_
  replace hF := xbind hF; obtain ⟨b2, eb2, hF⟩ := hF
  replace hF := xbind hF; obtain ⟨v1, ev1, hF⟩ := hF
  refine x_callV (o := (some a0)) (ci := 6) (As := [.int x1]) (rest := []) (v := (some (.int v1))) (k := 1) hx hb hml hown hts hR hS eb2 rfl rfl (t_X6_lastOfSpan l D G h b2 x1 v1 ev1) f_X6_lastOfSpan mm_491 mm_493 mm_8 rfl hl.1 rfl (by first | exact Nat.le_of_ble_eq_true rfl | simp [xrf_cat, xcI, xcJ, xcA]) dX6_toCome_4 (by decide) (by decide) rfl (fun H locs hR hS => ?_)
  refine lv_istore (lv' := [(4, .int v1), (3, .int 0), (0, va_rf (some a0)), (1, .int x1), (2, .int x2)]) hx hb dX6_toCome_7 hl (by decide) (by first | rfl | (simp [xrf_cat, xcI, xcJ, xcA]; done) | (simp [xrf_cat, xcI, xcJ, xcA]; decide)) (fun ls hl => ?_)
  refine x_aload_n (o := (some a0)) hx hb dX6_toCome_9 rfl (lv_at hl 2 rfl) ?_
  refine lv_iload_n hx hb dX6_toCome_10 rfl (lv_at hl 3 rfl) ?_
  replace hF := xbind hF; obtain ⟨b4, eb4, hF⟩ := hF
  replace hF := xbind hF; obtain ⟨v3, ev3, hF⟩ := hF
  refine x_callV (o := (some a0)) (ci := 6) (As := [.int x1]) (rest := []) (v := (some (.int v3))) (k := 1) hx hb hml hown hts hR hS eb4 rfl rfl (t_X6_firstOfSpan l D G h b4 x1 v3 ev3) f_X6_firstOfSpan mm_487 mm_489 mm_7 rfl hl.1 rfl (by first | exact Nat.le_of_ble_eq_true rfl | simp [xrf_cat, xcI, xcJ, xcA]) dX6_toCome_11 (by decide) (by decide) rfl (fun H locs hR hS => ?_)
  refine lv_istore (lv' := [(5, .int v3), (4, .int v1), (3, .int 0), (0, va_rf (some a0)), (1, .int x1), (2, .int x2)]) hx hb dX6_toCome_14 hl (by decide) (by first | rfl | (simp [xrf_cat, xcI, xcJ, xcA]; done) | (simp [xrf_cat, xcI, xcJ, xcA]; decide)) (fun ls hl => ?_)
  refine W.widen (k := 0) (n := 0) (by decide) (by decide) ?_
  exact tl_X6_toCome_16 hx hb hr hlk hml hown hnm hts G h a0 x2 v1 _ 0 v3 _ _ _ hF hR hS (lv_sub hl [3, 5, 2, 1, 0] rfl)
def rm_X6_left : Room := { frames := 4, cells := 0, slots := 0, locals := 89 }
theorem f_X6_left : xM yX6_left cX6_left 2 (some .int) 1 := ⟨mm_907, mm_71, by decide +kernel, by decide +kernel⟩
theorem dX6_left_0 : decode cX6_left 0 = .ok (.aload_n 0, 1) := by decide +kernel
theorem dX6_left_1 : decode cX6_left 1 = .ok (.aload_n 0, 1) := by decide +kernel
theorem dX6_left_2 : decode cX6_left 2 = .ok (.iload_n 1, 1) := by decide +kernel
theorem dX6_left_3 : decode cX6_left 3 = .ok (.invokevirtual 52, 3) := by decide +kernel
theorem dX6_left_6 : decode cX6_left 6 = .ok (.aload_n 0, 1) := by decide +kernel
theorem dX6_left_7 : decode cX6_left 7 = .ok (.iload_n 1, 1) := by decide +kernel
theorem dX6_left_8 : decode cX6_left 8 = .ok (.invokevirtual 55, 3) := by decide +kernel
theorem dX6_left_11 : decode cX6_left 11 = .ok (.invokevirtual 58, 3) := by decide +kernel
theorem dX6_left_14 : decode cX6_left 14 = .ok (.ireturn, 1) := by decide +kernel
def F_X6_left (G : Nat → Nat) (h : xH) (a0 : Nat) (x1 : Int32) : Option Int32 :=
  (xc h (some a0) 6).bind fun b2 =>
  (F_X6_asks G h b2 x1).bind fun v1 =>
  (xc h (some a0) 6).bind fun b4 =>
  (F_X6_bad G h b4 x1).bind fun v3 =>
  (xc h (some a0) 6).bind fun b6 =>
  (F_X6_leftOf G h b6 v1 v3).bind fun v5 =>
  some v5
set_option maxHeartbeats 4000000 in
set_option maxRecDepth 100000 in
theorem t_X6_left (l : Launch) (D : va_G) (G : Nat → Nat) (h : xH) (a0 : Nat) (x1 : Int32) (r : Int32) (hF : F_X6_left G h a0 x1 = some r) : xC l yX6_left cX6_left 2 (some .int) (rm_X6_left) D G h [.ref a0, .int x1] (some (.int r)) h := by
  refine xC_of (by decide) (by first | decide | exact Nat.le_of_ble_eq_true rfl) ?_
  intro p e s m args below meth c ls hx hb hr hlk hml hown hnm hts hR hS hl
  have hl : lv_has ls 2 [(0, va_rf (some a0)), (1, .int x1)] := hl
  unfold F_X6_left at hF
  refine x_aload_n (o := (some a0)) hx hb dX6_left_0 rfl (lv_at hl 0 rfl) ?_
  refine x_aload_n (o := (some a0)) hx hb dX6_left_1 rfl (lv_at hl 0 rfl) ?_
  refine lv_iload_n hx hb dX6_left_2 rfl (lv_at hl 1 rfl) ?_
  replace hF := xbind hF; obtain ⟨b2, eb2, hF⟩ := hF
  replace hF := xbind hF; obtain ⟨v1, ev1, hF⟩ := hF
  refine x_callV (o := (some a0)) (ci := 6) (As := [.int x1]) (rest := [va_rf (some a0)]) (v := (some (.int v1))) (k := 1) hx hb hml hown hts hR hS eb2 rfl rfl (t_X6_asks l D G h b2 x1 v1 ev1) f_X6_asks mm_765 mm_766 mm_767 rfl hl.1 rfl (by first | exact Nat.le_of_ble_eq_true rfl | simp [xrf_cat, xcI, xcJ, xcA]) dX6_left_3 (by decide) (by decide) rfl (fun H locs hR hS => ?_)
  refine x_aload_n (o := (some a0)) hx hb dX6_left_6 rfl (lv_at hl 0 rfl) ?_
  refine lv_iload_n hx hb dX6_left_7 rfl (lv_at hl 1 rfl) ?_
  replace hF := xbind hF; obtain ⟨b4, eb4, hF⟩ := hF
  replace hF := xbind hF; obtain ⟨v3, ev3, hF⟩ := hF
  refine x_callV (o := (some a0)) (ci := 6) (As := [.int x1]) (rest := [.int v1, va_rf (some a0)]) (v := (some (.int v3))) (k := 1) hx hb hml hown hts hR hS eb4 rfl rfl (t_X6_bad l D G h b4 x1 v3 ev3) f_X6_bad mm_769 mm_770 mm_771 rfl hl.1 rfl (by first | exact Nat.le_of_ble_eq_true rfl | simp [xrf_cat, xcI, xcJ, xcA]) dX6_left_8 (by decide) (by decide) rfl (fun H locs hR hS => ?_)
  replace hF := xbind hF; obtain ⟨b6, eb6, hF⟩ := hF
  replace hF := xbind hF; obtain ⟨v5, ev5, hF⟩ := hF
  refine x_callV (o := (some a0)) (ci := 6) (As := [.int v1, .int v3]) (rest := []) (v := (some (.int v5))) (k := 2) hx hb hml hown hts hR hS eb6 rfl rfl (t_X6_leftOf l D G h b6 v1 v3 v5 ev5) f_X6_leftOf mm_516 mm_518 mm_12 rfl hl.1 rfl (by first | exact Nat.le_of_ble_eq_true rfl | simp [xrf_cat, xcI, xcJ, xcA]) dX6_left_11 (by decide) (by decide) rfl (fun H locs hR hS => ?_)
  cases hF
  exact x_iret hx hb hr rfl hlk hR hS (by decide) (by decide) dX6_left_14
def rm_X6_leastLeft : Room := { frames := 5, cells := 0, slots := 0, locals := 113 }
theorem f_X6_leastLeft : xM yX6_leastLeft cX6_leastLeft 4 (some .int) 2 := ⟨mm_759, mm_71, by decide +kernel, by decide +kernel⟩
theorem dX6_leastLeft_0 : decode cX6_leastLeft 0 = .ok (.aload_n 0, 1) := by decide +kernel
theorem dX6_leastLeft_1 : decode cX6_leastLeft 1 = .ok (.iload_n 1, 1) := by decide +kernel
theorem dX6_leastLeft_2 : decode cX6_leastLeft 2 = .ok (.iload_n 2, 1) := by decide +kernel
theorem dX6_leastLeft_3 : decode cX6_leastLeft 3 = .ok (.invokevirtual 61, 3) := by decide +kernel
theorem dX6_leastLeft_6 : decode cX6_leastLeft 6 = .ok (.istore_n 3, 1) := by decide +kernel
theorem dX6_leastLeft_7 : decode cX6_leastLeft 7 = .ok (.aload_n 0, 1) := by decide +kernel
theorem dX6_leastLeft_8 : decode cX6_leastLeft 8 = .ok (.aload_n 0, 1) := by decide +kernel
theorem dX6_leastLeft_9 : decode cX6_leastLeft 9 = .ok (.iload_n 1, 1) := by decide +kernel
theorem dX6_leastLeft_10 : decode cX6_leastLeft 10 = .ok (.invokevirtual 52, 3) := by decide +kernel
theorem dX6_leastLeft_13 : decode cX6_leastLeft 13 = .ok (.iload_n 3, 1) := by decide +kernel
theorem dX6_leastLeft_14 : decode cX6_leastLeft 14 = .ok (.iadd, 1) := by decide +kernel
theorem dX6_leastLeft_15 : decode cX6_leastLeft 15 = .ok (.aload_n 0, 1) := by decide +kernel
theorem dX6_leastLeft_16 : decode cX6_leastLeft 16 = .ok (.iload_n 1, 1) := by decide +kernel
theorem dX6_leastLeft_17 : decode cX6_leastLeft 17 = .ok (.invokevirtual 55, 3) := by decide +kernel
theorem dX6_leastLeft_20 : decode cX6_leastLeft 20 = .ok (.iload_n 3, 1) := by decide +kernel
theorem dX6_leastLeft_21 : decode cX6_leastLeft 21 = .ok (.iadd, 1) := by decide +kernel
theorem dX6_leastLeft_22 : decode cX6_leastLeft 22 = .ok (.invokevirtual 58, 3) := by decide +kernel
theorem dX6_leastLeft_25 : decode cX6_leastLeft 25 = .ok (.ireturn, 1) := by decide +kernel
def F_X6_leastLeft (G : Nat → Nat) (h : xH) (a0 : Nat) (x1 : Int32) (x2 : Int32) : Option Int32 :=
  (xc h (some a0) 6).bind fun b2 =>
  (F_X6_toCome G h b2 x1 x2).bind fun v1 =>
  (xc h (some a0) 6).bind fun b4 =>
  (F_X6_asks G h b4 x1).bind fun v3 =>
  (xc h (some a0) 6).bind fun b6 =>
  (F_X6_bad G h b6 x1).bind fun v5 =>
  (xc h (some a0) 6).bind fun b8 =>
  (F_X6_leftOf G h b8 (v3 + v1) (v5 + v1)).bind fun v7 =>
  some v7
set_option maxHeartbeats 4000000 in
set_option maxRecDepth 100000 in
theorem t_X6_leastLeft (l : Launch) (D : va_G) (G : Nat → Nat) (h : xH) (a0 : Nat) (x1 : Int32) (x2 : Int32) (r : Int32) (hF : F_X6_leastLeft G h a0 x1 x2 = some r) : xC l yX6_leastLeft cX6_leastLeft 4 (some .int) (rm_X6_leastLeft) D G h [.ref a0, .int x1, .int x2] (some (.int r)) h := by
  refine xC_of (by decide) (by first | decide | exact Nat.le_of_ble_eq_true rfl) ?_
  intro p e s m args below meth c ls hx hb hr hlk hml hown hnm hts hR hS hl
  have hl : lv_has ls 4 [(0, va_rf (some a0)), (1, .int x1), (2, .int x2)] := hl
  unfold F_X6_leastLeft at hF
  refine x_aload_n (o := (some a0)) hx hb dX6_leastLeft_0 rfl (lv_at hl 0 rfl) ?_
  refine lv_iload_n hx hb dX6_leastLeft_1 rfl (lv_at hl 1 rfl) ?_
  refine lv_iload_n hx hb dX6_leastLeft_2 rfl (lv_at hl 2 rfl) ?_
  replace hF := xbind hF; obtain ⟨b2, eb2, hF⟩ := hF
  replace hF := xbind hF; obtain ⟨v1, ev1, hF⟩ := hF
  refine x_callV (o := (some a0)) (ci := 6) (As := [.int x1, .int x2]) (rest := []) (v := (some (.int v1))) (k := 2) hx hb hml hown hts hR hS eb2 rfl rfl (t_X6_toCome l D G h b2 x1 x2 v1 ev1) f_X6_toCome mm_760 mm_762 mm_25 rfl hl.1 rfl (by first | exact Nat.le_of_ble_eq_true rfl | simp [xrf_cat, xcI, xcJ, xcA]) dX6_leastLeft_3 (by decide) (by decide) rfl (fun H locs hR hS => ?_)
  refine lv_istore_n (lv' := [(3, .int v1), (0, va_rf (some a0)), (1, .int x1), (2, .int x2)]) hx hb dX6_leastLeft_6 rfl hl (by decide) (by first | rfl | (simp [xrf_cat, xcI, xcJ, xcA]; done) | (simp [xrf_cat, xcI, xcJ, xcA]; decide)) (fun ls hl => ?_)
  refine x_aload_n (o := (some a0)) hx hb dX6_leastLeft_7 rfl (lv_at hl 1 rfl) ?_
  refine x_aload_n (o := (some a0)) hx hb dX6_leastLeft_8 rfl (lv_at hl 1 rfl) ?_
  refine lv_iload_n hx hb dX6_leastLeft_9 rfl (lv_at hl 2 rfl) ?_
  replace hF := xbind hF; obtain ⟨b4, eb4, hF⟩ := hF
  replace hF := xbind hF; obtain ⟨v3, ev3, hF⟩ := hF
  refine x_callV (o := (some a0)) (ci := 6) (As := [.int x1]) (rest := [va_rf (some a0)]) (v := (some (.int v3))) (k := 1) hx hb hml hown hts hR hS eb4 rfl rfl (t_X6_asks l D G h b4 x1 v3 ev3) f_X6_asks mm_765 mm_766 mm_767 rfl hl.1 rfl (by first | exact Nat.le_of_ble_eq_true rfl | simp [xrf_cat, xcI, xcJ, xcA]) dX6_leastLeft_10 (by decide) (by decide) rfl (fun H locs hR hS => ?_)
  refine lv_iload_n hx hb dX6_leastLeft_13 rfl (lv_at hl 0 rfl) ?_
  refine lv_iadd hx hb dX6_leastLeft_14 ?_
  refine x_aload_n (o := (some a0)) hx hb dX6_leastLeft_15 rfl (lv_at hl 1 rfl) ?_
  refine lv_iload_n hx hb dX6_leastLeft_16 rfl (lv_at hl 2 rfl) ?_
  replace hF := xbind hF; obtain ⟨b6, eb6, hF⟩ := hF
  replace hF := xbind hF; obtain ⟨v5, ev5, hF⟩ := hF
  refine x_callV (o := (some a0)) (ci := 6) (As := [.int x1]) (rest := [.int (v3 + v1), va_rf (some a0)]) (v := (some (.int v5))) (k := 1) hx hb hml hown hts hR hS eb6 rfl rfl (t_X6_bad l D G h b6 x1 v5 ev5) f_X6_bad mm_769 mm_770 mm_771 rfl hl.1 rfl (by first | exact Nat.le_of_ble_eq_true rfl | simp [xrf_cat, xcI, xcJ, xcA]) dX6_leastLeft_17 (by decide) (by decide) rfl (fun H locs hR hS => ?_)
  refine lv_iload_n hx hb dX6_leastLeft_20 rfl (lv_at hl 0 rfl) ?_
  refine lv_iadd hx hb dX6_leastLeft_21 ?_
  replace hF := xbind hF; obtain ⟨b8, eb8, hF⟩ := hF
  replace hF := xbind hF; obtain ⟨v7, ev7, hF⟩ := hF
  refine x_callV (o := (some a0)) (ci := 6) (As := [.int (v3 + v1), .int (v5 + v1)]) (rest := []) (v := (some (.int v7))) (k := 2) hx hb hml hown hts hR hS eb8 rfl rfl (t_X6_leftOf l D G h b8 (v3 + v1) (v5 + v1) v7 ev7) f_X6_leftOf mm_516 mm_518 mm_12 rfl hl.1 rfl (by first | exact Nat.le_of_ble_eq_true rfl | simp [xrf_cat, xcI, xcJ, xcA]) dX6_leastLeft_22 (by decide) (by decide) rfl (fun H locs hR hS => ?_)
  cases hF
  exact x_iret hx hb hr rfl hlk hR hS (by decide) (by decide) dX6_leastLeft_25
def rm_X6_mostLeft : Room := { frames := 5, cells := 0, slots := 0, locals := 113 }
theorem f_X6_mostLeft : xM yX6_mostLeft cX6_mostLeft 3 (some .int) 2 := ⟨mm_911, mm_71, by decide +kernel, by decide +kernel⟩
theorem dX6_mostLeft_0 : decode cX6_mostLeft 0 = .ok (.aload_n 0, 1) := by decide +kernel
theorem dX6_mostLeft_1 : decode cX6_mostLeft 1 = .ok (.aload_n 0, 1) := by decide +kernel
theorem dX6_mostLeft_2 : decode cX6_mostLeft 2 = .ok (.iload_n 1, 1) := by decide +kernel
theorem dX6_mostLeft_3 : decode cX6_mostLeft 3 = .ok (.invokevirtual 52, 3) := by decide +kernel
theorem dX6_mostLeft_6 : decode cX6_mostLeft 6 = .ok (.aload_n 0, 1) := by decide +kernel
theorem dX6_mostLeft_7 : decode cX6_mostLeft 7 = .ok (.iload_n 1, 1) := by decide +kernel
theorem dX6_mostLeft_8 : decode cX6_mostLeft 8 = .ok (.iload_n 2, 1) := by decide +kernel
theorem dX6_mostLeft_9 : decode cX6_mostLeft 9 = .ok (.invokevirtual 61, 3) := by decide +kernel
theorem dX6_mostLeft_12 : decode cX6_mostLeft 12 = .ok (.iadd, 1) := by decide +kernel
theorem dX6_mostLeft_13 : decode cX6_mostLeft 13 = .ok (.aload_n 0, 1) := by decide +kernel
theorem dX6_mostLeft_14 : decode cX6_mostLeft 14 = .ok (.iload_n 1, 1) := by decide +kernel
theorem dX6_mostLeft_15 : decode cX6_mostLeft 15 = .ok (.invokevirtual 55, 3) := by decide +kernel
theorem dX6_mostLeft_18 : decode cX6_mostLeft 18 = .ok (.invokevirtual 58, 3) := by decide +kernel
theorem dX6_mostLeft_21 : decode cX6_mostLeft 21 = .ok (.ireturn, 1) := by decide +kernel
def F_X6_mostLeft (G : Nat → Nat) (h : xH) (a0 : Nat) (x1 : Int32) (x2 : Int32) : Option Int32 :=
  (xc h (some a0) 6).bind fun b2 =>
  (F_X6_asks G h b2 x1).bind fun v1 =>
  (xc h (some a0) 6).bind fun b4 =>
  (F_X6_toCome G h b4 x1 x2).bind fun v3 =>
  (xc h (some a0) 6).bind fun b6 =>
  (F_X6_bad G h b6 x1).bind fun v5 =>
  (xc h (some a0) 6).bind fun b8 =>
  (F_X6_leftOf G h b8 (v1 + v3) v5).bind fun v7 =>
  some v7
set_option maxHeartbeats 4000000 in
set_option maxRecDepth 100000 in
theorem t_X6_mostLeft (l : Launch) (D : va_G) (G : Nat → Nat) (h : xH) (a0 : Nat) (x1 : Int32) (x2 : Int32) (r : Int32) (hF : F_X6_mostLeft G h a0 x1 x2 = some r) : xC l yX6_mostLeft cX6_mostLeft 3 (some .int) (rm_X6_mostLeft) D G h [.ref a0, .int x1, .int x2] (some (.int r)) h := by
  refine xC_of (by decide) (by first | decide | exact Nat.le_of_ble_eq_true rfl) ?_
  intro p e s m args below meth c ls hx hb hr hlk hml hown hnm hts hR hS hl
  have hl : lv_has ls 3 [(0, va_rf (some a0)), (1, .int x1), (2, .int x2)] := hl
  unfold F_X6_mostLeft at hF
  refine x_aload_n (o := (some a0)) hx hb dX6_mostLeft_0 rfl (lv_at hl 0 rfl) ?_
  refine x_aload_n (o := (some a0)) hx hb dX6_mostLeft_1 rfl (lv_at hl 0 rfl) ?_
  refine lv_iload_n hx hb dX6_mostLeft_2 rfl (lv_at hl 1 rfl) ?_
  replace hF := xbind hF; obtain ⟨b2, eb2, hF⟩ := hF
  replace hF := xbind hF; obtain ⟨v1, ev1, hF⟩ := hF
  refine x_callV (o := (some a0)) (ci := 6) (As := [.int x1]) (rest := [va_rf (some a0)]) (v := (some (.int v1))) (k := 1) hx hb hml hown hts hR hS eb2 rfl rfl (t_X6_asks l D G h b2 x1 v1 ev1) f_X6_asks mm_765 mm_766 mm_767 rfl hl.1 rfl (by first | exact Nat.le_of_ble_eq_true rfl | simp [xrf_cat, xcI, xcJ, xcA]) dX6_mostLeft_3 (by decide) (by decide) rfl (fun H locs hR hS => ?_)
  refine x_aload_n (o := (some a0)) hx hb dX6_mostLeft_6 rfl (lv_at hl 0 rfl) ?_
  refine lv_iload_n hx hb dX6_mostLeft_7 rfl (lv_at hl 1 rfl) ?_
  refine lv_iload_n hx hb dX6_mostLeft_8 rfl (lv_at hl 2 rfl) ?_
  replace hF := xbind hF; obtain ⟨b4, eb4, hF⟩ := hF
  replace hF := xbind hF; obtain ⟨v3, ev3, hF⟩ := hF
  refine x_callV (o := (some a0)) (ci := 6) (As := [.int x1, .int x2]) (rest := [.int v1, va_rf (some a0)]) (v := (some (.int v3))) (k := 2) hx hb hml hown hts hR hS eb4 rfl rfl (t_X6_toCome l D G h b4 x1 x2 v3 ev3) f_X6_toCome mm_760 mm_762 mm_25 rfl hl.1 rfl (by first | exact Nat.le_of_ble_eq_true rfl | simp [xrf_cat, xcI, xcJ, xcA]) dX6_mostLeft_9 (by decide) (by decide) rfl (fun H locs hR hS => ?_)
  refine lv_iadd hx hb dX6_mostLeft_12 ?_
  refine x_aload_n (o := (some a0)) hx hb dX6_mostLeft_13 rfl (lv_at hl 0 rfl) ?_
  refine lv_iload_n hx hb dX6_mostLeft_14 rfl (lv_at hl 1 rfl) ?_
  replace hF := xbind hF; obtain ⟨b6, eb6, hF⟩ := hF
  replace hF := xbind hF; obtain ⟨v5, ev5, hF⟩ := hF
  refine x_callV (o := (some a0)) (ci := 6) (As := [.int x1]) (rest := [.int (v1 + v3), va_rf (some a0)]) (v := (some (.int v5))) (k := 1) hx hb hml hown hts hR hS eb6 rfl rfl (t_X6_bad l D G h b6 x1 v5 ev5) f_X6_bad mm_769 mm_770 mm_771 rfl hl.1 rfl (by first | exact Nat.le_of_ble_eq_true rfl | simp [xrf_cat, xcI, xcJ, xcA]) dX6_mostLeft_15 (by decide) (by decide) rfl (fun H locs hR hS => ?_)
  replace hF := xbind hF; obtain ⟨b8, eb8, hF⟩ := hF
  replace hF := xbind hF; obtain ⟨v7, ev7, hF⟩ := hF
  refine x_callV (o := (some a0)) (ci := 6) (As := [.int (v1 + v3), .int v5]) (rest := []) (v := (some (.int v7))) (k := 2) hx hb hml hown hts hR hS eb8 rfl rfl (t_X6_leftOf l D G h b8 (v1 + v3) v5 v7 ev7) f_X6_leftOf mm_516 mm_518 mm_12 rfl hl.1 rfl (by first | exact Nat.le_of_ble_eq_true rfl | simp [xrf_cat, xcI, xcJ, xcA]) dX6_mostLeft_18 (by decide) (by decide) rfl (fun H locs hR hS => ?_)
  cases hF
  exact x_iret hx hb hr rfl hlk hR hS (by decide) (by decide) dX6_mostLeft_21
def rm_X6_verdict : Room := { frames := 6, cells := 0, slots := 0, locals := 136 }
theorem f_X6_verdict : xM yX6_verdict cX6_verdict 3 (some .int) 2 := ⟨mm_915, mm_71, by decide +kernel, by decide +kernel⟩
theorem dX6_verdict_0 : decode cX6_verdict 0 = .ok (.aload_n 0, 1) := by decide +kernel
theorem dX6_verdict_1 : decode cX6_verdict 1 = .ok (.iload_n 1, 1) := by decide +kernel
theorem dX6_verdict_2 : decode cX6_verdict 2 = .ok (.iload_n 2, 1) := by decide +kernel
theorem dX6_verdict_3 : decode cX6_verdict 3 = .ok (.invokevirtual 64, 3) := by decide +kernel
theorem dX6_verdict_6 : decode cX6_verdict 6 = .ok (.ifCond .lt 5, 3) := by decide +kernel
theorem dX6_verdict_9 : decode cX6_verdict 9 = .ok (.iconst 1, 1) := by decide +kernel
theorem dX6_verdict_10 : decode cX6_verdict 10 = .ok (.ireturn, 1) := by decide +kernel
theorem dX6_verdict_11 : decode cX6_verdict 11 = .ok (.aload_n 0, 1) := by decide +kernel
theorem dX6_verdict_12 : decode cX6_verdict 12 = .ok (.iload_n 1, 1) := by decide +kernel
theorem dX6_verdict_13 : decode cX6_verdict 13 = .ok (.iload_n 2, 1) := by decide +kernel
theorem dX6_verdict_14 : decode cX6_verdict 14 = .ok (.invokevirtual 67, 3) := by decide +kernel
theorem dX6_verdict_17 : decode cX6_verdict 17 = .ok (.ifCond .ge 7, 3) := by decide +kernel
theorem dX6_verdict_20 : decode cX6_verdict 20 = .ok (.iconst 2, 1) := by decide +kernel
theorem dX6_verdict_21 : decode cX6_verdict 21 = .ok (.goto 4, 3) := by decide +kernel
theorem dX6_verdict_24 : decode cX6_verdict 24 = .ok (.iconst 0, 1) := by decide +kernel
theorem dX6_verdict_25 : decode cX6_verdict 25 = .ok (.ireturn, 1) := by decide +kernel
def F_X6_verdict (G : Nat → Nat) (h : xH) (a0 : Nat) (x1 : Int32) (x2 : Int32) : Option Int32 :=
  (xc h (some a0) 6).bind fun b2 =>
  (F_X6_leastLeft G h b2 x1 x2).bind fun v1 =>
  if v1 < 0 then
    (xc h (some a0) 6).bind fun b5 =>
    (F_X6_mostLeft G h b5 x1 x2).bind fun v4 =>
    if 0 ≤ v4 then
      some 0
    else
    some 2
  else
  some 1
set_option maxHeartbeats 4000000 in
set_option maxRecDepth 100000 in
theorem t_X6_verdict (l : Launch) (D : va_G) (G : Nat → Nat) (h : xH) (a0 : Nat) (x1 : Int32) (x2 : Int32) (r : Int32) (hF : F_X6_verdict G h a0 x1 x2 = some r) : xC l yX6_verdict cX6_verdict 3 (some .int) (rm_X6_verdict) D G h [.ref a0, .int x1, .int x2] (some (.int r)) h := by
  refine xC_of (by decide) (by first | decide | exact Nat.le_of_ble_eq_true rfl) ?_
  intro p e s m args below meth c ls hx hb hr hlk hml hown hnm hts hR hS hl
  have hl : lv_has ls 3 [(0, va_rf (some a0)), (1, .int x1), (2, .int x2)] := hl
  unfold F_X6_verdict at hF
  refine x_aload_n (o := (some a0)) hx hb dX6_verdict_0 rfl (lv_at hl 0 rfl) ?_
  refine lv_iload_n hx hb dX6_verdict_1 rfl (lv_at hl 1 rfl) ?_
  refine lv_iload_n hx hb dX6_verdict_2 rfl (lv_at hl 2 rfl) ?_
  replace hF := xbind hF; obtain ⟨b2, eb2, hF⟩ := hF
  replace hF := xbind hF; obtain ⟨v1, ev1, hF⟩ := hF
  refine x_callV (o := (some a0)) (ci := 6) (As := [.int x1, .int x2]) (rest := []) (v := (some (.int v1))) (k := 2) hx hb hml hown hts hR hS eb2 rfl rfl (t_X6_leastLeft l D G h b2 x1 x2 v1 ev1) f_X6_leastLeft mm_916 mm_757 mm_758 rfl hl.1 rfl (by first | exact Nat.le_of_ble_eq_true rfl | simp [xrf_cat, xcI, xcJ, xcA]) dX6_verdict_3 (by decide) (by decide) rfl (fun H locs hR hS => ?_)
  refine lv_if_lt (tgt := 11) hx hb dX6_verdict_6 (by decide) (fun c3 => ?_) (fun c3 => ?_)
  · replace hF := xift c3 hF
    refine x_aload_n (o := (some a0)) hx hb dX6_verdict_11 rfl (lv_at hl 0 rfl) ?_
    refine lv_iload_n hx hb dX6_verdict_12 rfl (lv_at hl 1 rfl) ?_
    refine lv_iload_n hx hb dX6_verdict_13 rfl (lv_at hl 2 rfl) ?_
    replace hF := xbind hF; obtain ⟨b5, eb5, hF⟩ := hF
    replace hF := xbind hF; obtain ⟨v4, ev4, hF⟩ := hF
    refine x_callV (o := (some a0)) (ci := 6) (As := [.int x1, .int x2]) (rest := []) (v := (some (.int v4))) (k := 2) hx hb hml hown hts hR hS eb5 rfl rfl (t_X6_mostLeft l D G h b5 x1 x2 v4 ev4) f_X6_mostLeft mm_917 mm_909 mm_910 rfl hl.1 rfl (by first | exact Nat.le_of_ble_eq_true rfl | simp [xrf_cat, xcI, xcJ, xcA]) dX6_verdict_14 (by decide) (by decide) rfl (fun H locs hR hS => ?_)
    refine lv_if_ge (tgt := 24) hx hb dX6_verdict_17 (by decide) (fun c6 => ?_) (fun c6 => ?_)
    · replace hF := xift c6 hF
      refine lv_iconst (v := 0) hx hb dX6_verdict_24 (by decide) ?_
      cases hF
      exact x_iret hx hb hr rfl hlk hR hS (by decide) (by decide) dX6_verdict_25
    · replace hF := xiff c6 hF
      refine lv_iconst (v := 2) hx hb dX6_verdict_20 (by decide) ?_
      refine lv_goto (tgt := 25) hx hb dX6_verdict_21 (by decide) ?_
      cases hF
      exact x_iret hx hb hr rfl hlk hR hS (by decide) (by decide) dX6_verdict_25
  · replace hF := xiff c3 hF
    refine lv_iconst (v := 1) hx hb dX6_verdict_9 (by decide) ?_
    cases hF
    exact x_iret hx hb hr rfl hlk hR hS (by decide) (by decide) dX6_verdict_10
def rm_X6_settledFrom : Room := { frames := 4, cells := 0, slots := 0, locals := 86 }
theorem f_X6_settledFrom : xM yX6_settledFrom cX6_settledFrom 4 (some .int) 1 := ⟨mm_921, mm_71, by decide +kernel, by decide +kernel⟩
theorem dX6_settledFrom_0 : decode cX6_settledFrom 0 = .ok (.aload_n 0, 1) := by decide +kernel
theorem dX6_settledFrom_1 : decode cX6_settledFrom 1 = .ok (.getfield 15, 3) := by decide +kernel
theorem dX6_settledFrom_4 : decode cX6_settledFrom 4 = .ok (.getfield 70, 3) := by decide +kernel
theorem dX6_settledFrom_7 : decode cX6_settledFrom 7 = .ok (.invokeinterface 76 1, 5) := by decide +kernel
theorem dX6_settledFrom_12 : decode cX6_settledFrom 12 = .ok (.ifCond .eq 5, 3) := by decide +kernel
theorem dX6_settledFrom_15 : decode cX6_settledFrom 15 = .ok (.iconst 0, 1) := by decide +kernel
theorem dX6_settledFrom_16 : decode cX6_settledFrom 16 = .ok (.ireturn, 1) := by decide +kernel
theorem dX6_settledFrom_17 : decode cX6_settledFrom 17 = .ok (.aload_n 0, 1) := by decide +kernel
theorem dX6_settledFrom_18 : decode cX6_settledFrom 18 = .ok (.iload_n 1, 1) := by decide +kernel
theorem dX6_settledFrom_19 : decode cX6_settledFrom 19 = .ok (.invokevirtual 43, 3) := by decide +kernel
theorem dX6_settledFrom_22 : decode cX6_settledFrom 22 = .ok (.istore_n 2, 1) := by decide +kernel
theorem dX6_settledFrom_23 : decode cX6_settledFrom 23 = .ok (.aload_n 0, 1) := by decide +kernel
theorem dX6_settledFrom_24 : decode cX6_settledFrom 24 = .ok (.iload_n 1, 1) := by decide +kernel
theorem dX6_settledFrom_25 : decode cX6_settledFrom 25 = .ok (.invokevirtual 39, 3) := by decide +kernel
theorem dX6_settledFrom_28 : decode cX6_settledFrom 28 = .ok (.istore_n 3, 1) := by decide +kernel
theorem dX6_settledFrom_29 : decode cX6_settledFrom 29 = .ok (.iload_n 3, 1) := by decide +kernel
theorem dX6_settledFrom_30 : decode cX6_settledFrom 30 = .ok (.iload_n 2, 1) := by decide +kernel
theorem dX6_settledFrom_31 : decode cX6_settledFrom 31 = .ok (.if_icmp .lt 29, 3) := by decide +kernel
theorem dX6_settledFrom_34 : decode cX6_settledFrom 34 = .ok (.aload_n 0, 1) := by decide +kernel
theorem dX6_settledFrom_35 : decode cX6_settledFrom 35 = .ok (.iload_n 3, 1) := by decide +kernel
theorem dX6_settledFrom_36 : decode cX6_settledFrom 36 = .ok (.invokevirtual 82, 3) := by decide +kernel
theorem dX6_settledFrom_39 : decode cX6_settledFrom 39 = .ok (.ifCond .eq 15, 3) := by decide +kernel
theorem dX6_settledFrom_42 : decode cX6_settledFrom 42 = .ok (.iload_n 3, 1) := by decide +kernel
theorem dX6_settledFrom_43 : decode cX6_settledFrom 43 = .ok (.aload_n 0, 1) := by decide +kernel
theorem dX6_settledFrom_44 : decode cX6_settledFrom 44 = .ok (.getfield 15, 3) := by decide +kernel
theorem dX6_settledFrom_47 : decode cX6_settledFrom 47 = .ok (.invokevirtual 86, 3) := by decide +kernel
theorem dX6_settledFrom_50 : decode cX6_settledFrom 50 = .ok (.iadd, 1) := by decide +kernel
theorem dX6_settledFrom_51 : decode cX6_settledFrom 51 = .ok (.iconst 1, 1) := by decide +kernel
theorem dX6_settledFrom_52 : decode cX6_settledFrom 52 = .ok (.iadd, 1) := by decide +kernel
theorem dX6_settledFrom_53 : decode cX6_settledFrom 53 = .ok (.ireturn, 1) := by decide +kernel
theorem dX6_settledFrom_54 : decode cX6_settledFrom 54 = .ok (.iinc 3 (-1), 3) := by decide +kernel
theorem dX6_settledFrom_57 : decode cX6_settledFrom 57 = .ok (.goto (-28), 3) := by decide +kernel
theorem dX6_settledFrom_60 : decode cX6_settledFrom 60 = .ok (.iconst 0, 1) := by decide +kernel
theorem dX6_settledFrom_61 : decode cX6_settledFrom 61 = .ok (.ireturn, 1) := by decide +kernel
def F_X6_settledFrom_29 (G : Nat → Nat) (h : xH) (a0 : Nat) (x2 : Int32) : Nat → Int32 → Option Int32
  | 0, _ => none
  | n + 1, x3 =>
    if x3 < x2 then
      some 0
    else
    (xc h (some a0) 6).bind fun b12 =>
    (F_X6_isIn G h b12 x3).bind fun v11 =>
    if v11 = 0 then
      xl (x3 + (-1)) fun v14 =>
      F_X6_settledFrom_29 G h a0 x2 n v14
    else
    (gR h (some a0) 6 0).bind fun w15 =>
    (xc h w15 7).bind fun b17 =>
    (F_X7_latest G h b17).bind fun v16 =>
    some ((x3 + v16) + 1)
set_option maxHeartbeats 4000000 in
set_option maxRecDepth 100000 in
theorem tl_X6_settledFrom_29 {p : Program} {l : Launch} {e : Env} {s : State} {m : MethodId} {args : Array Value} {below : List Frame} {meth : Method} {c : Code} {D : va_G} {r : Int32} (hx : p.tables.exec = Jvm.exec) (hb : c.code = cX6_settledFrom) (hr : meth.sig.returnType = (some .int)) (hlk : meth.locks = false) (hml : c.maxLocals = 4) (hown : s.vm.findClass RX6 = some m.cls) (hnm : meth.name = "settledFrom") (hts : ∀ w ∈ xt, w.before args s = true) (G : Nat → Nat) (h : xH) (a0 : Nat) (x2 : Int32) : ∀ (n : Nat) (x3 : Int32) (H : Heap) (locs : List Loc) (ls : Array Slot), F_X6_settledFrom_29 G h a0 x2 n x3 = some r → xR D G h s H → va_S (xA G) s.heap H locs → lv_has ls 4 [(0, va_rf (some a0)), (2, .int x2), (3, .int x3)] → W p l e rm_X6_settledFrom s m args below meth c H locs 0 0 (MQ below (xQ D G (some (.int r)) h) args s rm_X6_settledFrom.cells rm_X6_settledFrom.slots (xA G)) (F0 m 29 ls []) := by
  intro n
  induction n with
  | zero =>
    intro x3 H locs ls hF
    rw [F_X6_settledFrom_29.eq_1] at hF
    cases hF
  | succ n ih =>
    intro x3 H locs ls hF hR hS hl
    rw [F_X6_settledFrom_29.eq_2] at hF
    refine lv_iload_n hx hb dX6_settledFrom_29 rfl (lv_at hl 2 rfl) ?_
    refine lv_iload_n hx hb dX6_settledFrom_30 rfl (lv_at hl 1 rfl) ?_
    refine lv_icmp_lt (tgt := 60) hx hb dX6_settledFrom_31 (by decide) (fun c10 => ?_) (fun c10 => ?_)
    · replace hF := xift c10 hF
      refine lv_iconst (v := 0) hx hb dX6_settledFrom_60 (by decide) ?_
      cases hF
      exact x_iret hx hb hr rfl hlk hR hS (by decide) (by decide) dX6_settledFrom_61
    · replace hF := xiff c10 hF
      refine x_aload_n (o := (some a0)) hx hb dX6_settledFrom_34 rfl (lv_at hl 0 rfl) ?_
      refine lv_iload_n hx hb dX6_settledFrom_35 rfl (lv_at hl 2 rfl) ?_
      replace hF := xbind hF; obtain ⟨b12, eb12, hF⟩ := hF
      replace hF := xbind hF; obtain ⟨v11, ev11, hF⟩ := hF
      refine x_callV (o := (some a0)) (ci := 6) (As := [.int x3]) (rest := []) (v := (some (.int v11))) (k := 1) hx hb hml hown hts hR hS eb12 rfl rfl (t_X6_isIn l D G h b12 x3 v11 ev11) f_X6_isIn mm_500 mm_502 mm_10 rfl hl.1 rfl (by first | exact Nat.le_of_ble_eq_true rfl | simp [xrf_cat, xcI, xcJ, xcA]) dX6_settledFrom_36 (by decide) (by decide) rfl (fun H locs hR hS => ?_)
      refine lv_if_eq (tgt := 54) hx hb dX6_settledFrom_39 (by decide) (fun c13 => ?_) (fun c13 => ?_)
      · replace hF := xift c13 hF
        obtain ⟨v14, ev14⟩ : ∃ z : Int32, z = (x3 + (-1)) := ⟨_, rfl⟩
        replace hF := xlet ev14 hF
        refine lv_iinc (v := v14) (lv' := [(3, .int v14), (0, va_rf (some a0)), (2, .int x2)]) hx hb dX6_settledFrom_54 hl (k := 2) rfl (by rw [ev14]; rfl) (by decide) (by first | rfl | (simp [xrf_cat, xcI, xcJ, xcA]; done) | (simp [xrf_cat, xcI, xcJ, xcA]; decide)) (fun ls hl => ?_)
        refine lv_goto (tgt := 29) hx hb dX6_settledFrom_57 (by decide) ?_
        exact ih v14 _ _ _ hF hR hS (lv_sub hl [1, 2, 0] rfl)
      · replace hF := xiff c13 hF
        refine lv_iload_n hx hb dX6_settledFrom_42 rfl (lv_at hl 2 rfl) ?_
        refine x_aload_n (o := (some a0)) hx hb dX6_settledFrom_43 rfl (lv_at hl 0 rfl) ?_
        replace hF := xbind hF; obtain ⟨w15, ew15, hF⟩ := hF
        refine x_getR (o := (some a0)) (ci := 6) (C := RX6) (T := TX6) (N := 6) hx hb hts iw_X6 hown hR rfl 0 (by decide) mm_412 (Or.inl rfl) ew15 dX6_settledFrom_44 ?_
        replace hF := xbind hF; obtain ⟨b17, eb17, hF⟩ := hF
        replace hF := xbind hF; obtain ⟨v16, ev16, hF⟩ := hF
        refine x_callV (o := w15) (ci := 7) (As := []) (rest := [.int x3]) (v := (some (.int v16))) (k := 0) hx hb hml hown hts hR hS eb17 rfl rfl (t_X7_latest l D G h b17 v16 ev16) f_X7_latest mm_931 mm_932 mm_933 rfl hl.1 rfl (by first | exact Nat.le_of_ble_eq_true rfl | simp [xrf_cat, xcI, xcJ, xcA]) dX6_settledFrom_47 (by decide) (by decide) rfl (fun H locs hR hS => ?_)
        refine lv_iadd hx hb dX6_settledFrom_50 ?_
        refine lv_iconst (v := 1) hx hb dX6_settledFrom_51 (by decide) ?_
        refine lv_iadd hx hb dX6_settledFrom_52 ?_
        cases hF
        exact x_iret hx hb hr rfl hlk hR hS (by decide) (by decide) dX6_settledFrom_53
def F_X6_settledFrom (G : Nat → Nat) (h : xH) (a0 : Nat) (x1 : Int32) : Option Int32 :=
  (gR h (some a0) 6 0).bind fun w1 =>
  (gR h w1 7 0).bind fun w2 =>
  (xc h w2 0).bind fun b4 =>
  (F_Jx4a65c_isEmpty_aae02 G h b4).bind fun v3 =>
  if v3 = 0 then
    (xc h (some a0) 6).bind fun b7 =>
    (F_X6_firstOfSpan G h b7 x1).bind fun v6 =>
    (xc h (some a0) 6).bind fun b9 =>
    (F_X6_lastOfSpan G h b9 x1).bind fun v8 =>
    F_X6_settledFrom_29 G h a0 v6 xN v8
  else
  some 0
set_option maxHeartbeats 4000000 in
set_option maxRecDepth 100000 in
theorem t_X6_settledFrom (l : Launch) (D : va_G) (G : Nat → Nat) (h : xH) (a0 : Nat) (x1 : Int32) (r : Int32) (hF : F_X6_settledFrom G h a0 x1 = some r) : xC l yX6_settledFrom cX6_settledFrom 4 (some .int) (rm_X6_settledFrom) D G h [.ref a0, .int x1] (some (.int r)) h := by
  refine xC_of (by decide) (by first | decide | exact Nat.le_of_ble_eq_true rfl) ?_
  intro p e s m args below meth c ls hx hb hr hlk hml hown hnm hts hR hS hl
  have hl : lv_has ls 4 [(0, va_rf (some a0)), (1, .int x1)] := hl
  unfold F_X6_settledFrom at hF
  refine x_aload_n (o := (some a0)) hx hb dX6_settledFrom_0 rfl (lv_at hl 0 rfl) ?_
  replace hF := xbind hF; obtain ⟨w1, ew1, hF⟩ := hF
  refine x_getR (o := (some a0)) (ci := 6) (C := RX6) (T := TX6) (N := 6) hx hb hts iw_X6 hown hR rfl 0 (by decide) mm_412 (Or.inl rfl) ew1 dX6_settledFrom_1 ?_
  replace hF := xbind hF; obtain ⟨w2, ew2, hF⟩ := hF
  refine x_getR (o := w1) (ci := 7) (C := RX7) (T := TX7) (N := 3) hx hb hts iw_X7 hown hR rfl 0 (by decide) mm_245 (Or.inl rfl) ew2 dX6_settledFrom_4 ?_
  replace hF := xbind hF; obtain ⟨b4, eb4, hF⟩ := hF
  replace hF := xbind hF; obtain ⟨v3, ev3, hF⟩ := hF
  refine x_callF (o := w2) (ci := 0) (As := []) (rest := []) (v := (some (.int v3))) (k := 0) hx hb hml hown hts hR hS eb4 rfl (by decide +kernel) (t_Jx4a65c_isEmpty_aae02 l D G h b4 v3 ev3) f_Jx4a65c_isEmpty_aae02 mm_923 mm_928 mm_926 (by decide +kernel) rfl hl.1 rfl (by first | exact Nat.le_of_ble_eq_true rfl | simp [xrf_cat, xcI, xcJ, xcA]) dX6_settledFrom_7 (by decide) (by decide) rfl (fun H locs hR hS => ?_)
  refine lv_if_eq (tgt := 17) hx hb dX6_settledFrom_12 (by decide) (fun c5 => ?_) (fun c5 => ?_)
  · replace hF := xift c5 hF
    refine x_aload_n (o := (some a0)) hx hb dX6_settledFrom_17 rfl (lv_at hl 0 rfl) ?_
    refine lv_iload_n hx hb dX6_settledFrom_18 rfl (lv_at hl 1 rfl) ?_
    replace hF := xbind hF; obtain ⟨b7, eb7, hF⟩ := hF
    replace hF := xbind hF; obtain ⟨v6, ev6, hF⟩ := hF
    refine x_callV (o := (some a0)) (ci := 6) (As := [.int x1]) (rest := []) (v := (some (.int v6))) (k := 1) hx hb hml hown hts hR hS eb7 rfl rfl (t_X6_firstOfSpan l D G h b7 x1 v6 ev6) f_X6_firstOfSpan mm_487 mm_489 mm_7 rfl hl.1 rfl (by first | exact Nat.le_of_ble_eq_true rfl | simp [xrf_cat, xcI, xcJ, xcA]) dX6_settledFrom_19 (by decide) (by decide) rfl (fun H locs hR hS => ?_)
    refine lv_istore_n (lv' := [(2, .int v6), (0, va_rf (some a0)), (1, .int x1)]) hx hb dX6_settledFrom_22 rfl hl (by decide) (by first | rfl | (simp [xrf_cat, xcI, xcJ, xcA]; done) | (simp [xrf_cat, xcI, xcJ, xcA]; decide)) (fun ls hl => ?_)
    refine x_aload_n (o := (some a0)) hx hb dX6_settledFrom_23 rfl (lv_at hl 1 rfl) ?_
    refine lv_iload_n hx hb dX6_settledFrom_24 rfl (lv_at hl 2 rfl) ?_
    replace hF := xbind hF; obtain ⟨b9, eb9, hF⟩ := hF
    replace hF := xbind hF; obtain ⟨v8, ev8, hF⟩ := hF
    refine x_callV (o := (some a0)) (ci := 6) (As := [.int x1]) (rest := []) (v := (some (.int v8))) (k := 1) hx hb hml hown hts hR hS eb9 rfl rfl (t_X6_lastOfSpan l D G h b9 x1 v8 ev8) f_X6_lastOfSpan mm_491 mm_493 mm_8 rfl hl.1 rfl (by first | exact Nat.le_of_ble_eq_true rfl | simp [xrf_cat, xcI, xcJ, xcA]) dX6_settledFrom_25 (by decide) (by decide) rfl (fun H locs hR hS => ?_)
    refine lv_istore_n (lv' := [(3, .int v8), (2, .int v6), (0, va_rf (some a0)), (1, .int x1)]) hx hb dX6_settledFrom_28 rfl hl (by decide) (by first | rfl | (simp [xrf_cat, xcI, xcJ, xcA]; done) | (simp [xrf_cat, xcI, xcJ, xcA]; decide)) (fun ls hl => ?_)
    refine W.widen (k := 0) (n := 0) (by decide) (by decide) ?_
    exact tl_X6_settledFrom_29 hx hb hr hlk hml hown hnm hts G h a0 v6 _ v8 _ _ _ hF hR hS (lv_sub hl [2, 1, 0] rfl)
  · replace hF := xiff c5 hF
    refine lv_iconst (v := 0) hx hb dX6_settledFrom_15 (by decide) ?_
    cases hF
    exact x_iret hx hb hr rfl hlk hR hS (by decide) (by decide) dX6_settledFrom_16
def rm_X6_firstBroken : Room := { frames := 3, cells := 0, slots := 0, locals := 65 }
theorem f_X6_firstBroken : xM yX6_firstBroken cX6_firstBroken 9 (some .int) 1 := ⟨mm_486, mm_71, by decide +kernel, by decide +kernel⟩
theorem dX6_firstBroken_0 : decode cX6_firstBroken 0 = .ok (.iconst 0, 1) := by decide +kernel
theorem dX6_firstBroken_1 : decode cX6_firstBroken 1 = .ok (.istore_n 2, 1) := by decide +kernel
theorem dX6_firstBroken_2 : decode cX6_firstBroken 2 = .ok (.iconst 0, 1) := by decide +kernel
theorem dX6_firstBroken_3 : decode cX6_firstBroken 3 = .ok (.istore_n 3, 1) := by decide +kernel
theorem dX6_firstBroken_4 : decode cX6_firstBroken 4 = .ok (.aload_n 0, 1) := by decide +kernel
theorem dX6_firstBroken_5 : decode cX6_firstBroken 5 = .ok (.iload_n 1, 1) := by decide +kernel
theorem dX6_firstBroken_6 : decode cX6_firstBroken 6 = .ok (.invokevirtual 43, 3) := by decide +kernel
theorem dX6_firstBroken_9 : decode cX6_firstBroken 9 = .ok (.istore 4, 2) := by decide +kernel
theorem dX6_firstBroken_11 : decode cX6_firstBroken 11 = .ok (.iload 4, 2) := by decide +kernel
theorem dX6_firstBroken_13 : decode cX6_firstBroken 13 = .ok (.istore 5, 2) := by decide +kernel
theorem dX6_firstBroken_15 : decode cX6_firstBroken 15 = .ok (.iload_n 1, 1) := by decide +kernel
theorem dX6_firstBroken_16 : decode cX6_firstBroken 16 = .ok (.istore 6, 2) := by decide +kernel
theorem dX6_firstBroken_18 : decode cX6_firstBroken 18 = .ok (.iload 6, 2) := by decide +kernel
theorem dX6_firstBroken_20 : decode cX6_firstBroken 20 = .ok (.sipush 600, 3) := by decide +kernel
theorem dX6_firstBroken_23 : decode cX6_firstBroken 23 = .ok (.if_icmp .gt 99, 3) := by decide +kernel
theorem dX6_firstBroken_26 : decode cX6_firstBroken 26 = .ok (.aload_n 0, 1) := by decide +kernel
theorem dX6_firstBroken_27 : decode cX6_firstBroken 27 = .ok (.iload 6, 2) := by decide +kernel
theorem dX6_firstBroken_29 : decode cX6_firstBroken 29 = .ok (.invokevirtual 43, 3) := by decide +kernel
theorem dX6_firstBroken_32 : decode cX6_firstBroken 32 = .ok (.istore 7, 2) := by decide +kernel
theorem dX6_firstBroken_34 : decode cX6_firstBroken 34 = .ok (.aload_n 0, 1) := by decide +kernel
theorem dX6_firstBroken_35 : decode cX6_firstBroken 35 = .ok (.iload 6, 2) := by decide +kernel
theorem dX6_firstBroken_37 : decode cX6_firstBroken 37 = .ok (.invokevirtual 39, 3) := by decide +kernel
theorem dX6_firstBroken_40 : decode cX6_firstBroken 40 = .ok (.istore 8, 2) := by decide +kernel
theorem dX6_firstBroken_42 : decode cX6_firstBroken 42 = .ok (.iload 5, 2) := by decide +kernel
theorem dX6_firstBroken_44 : decode cX6_firstBroken 44 = .ok (.iload 8, 2) := by decide +kernel
theorem dX6_firstBroken_46 : decode cX6_firstBroken 46 = .ok (.if_icmp .gt 27, 3) := by decide +kernel
theorem dX6_firstBroken_49 : decode cX6_firstBroken 49 = .ok (.iload_n 2, 1) := by decide +kernel
theorem dX6_firstBroken_50 : decode cX6_firstBroken 50 = .ok (.aload_n 0, 1) := by decide +kernel
theorem dX6_firstBroken_51 : decode cX6_firstBroken 51 = .ok (.iload 5, 2) := by decide +kernel
theorem dX6_firstBroken_53 : decode cX6_firstBroken 53 = .ok (.invokevirtual 46, 3) := by decide +kernel
theorem dX6_firstBroken_56 : decode cX6_firstBroken 56 = .ok (.iadd, 1) := by decide +kernel
theorem dX6_firstBroken_57 : decode cX6_firstBroken 57 = .ok (.istore_n 2, 1) := by decide +kernel
theorem dX6_firstBroken_58 : decode cX6_firstBroken 58 = .ok (.iload_n 3, 1) := by decide +kernel
theorem dX6_firstBroken_59 : decode cX6_firstBroken 59 = .ok (.aload_n 0, 1) := by decide +kernel
theorem dX6_firstBroken_60 : decode cX6_firstBroken 60 = .ok (.iload 5, 2) := by decide +kernel
theorem dX6_firstBroken_62 : decode cX6_firstBroken 62 = .ok (.invokevirtual 49, 3) := by decide +kernel
theorem dX6_firstBroken_65 : decode cX6_firstBroken 65 = .ok (.iadd, 1) := by decide +kernel
theorem dX6_firstBroken_66 : decode cX6_firstBroken 66 = .ok (.istore_n 3, 1) := by decide +kernel
theorem dX6_firstBroken_67 : decode cX6_firstBroken 67 = .ok (.iinc 5 1, 3) := by decide +kernel
theorem dX6_firstBroken_70 : decode cX6_firstBroken 70 = .ok (.goto (-28), 3) := by decide +kernel
theorem dX6_firstBroken_73 : decode cX6_firstBroken 73 = .ok (.iload 4, 2) := by decide +kernel
theorem dX6_firstBroken_75 : decode cX6_firstBroken 75 = .ok (.iload 7, 2) := by decide +kernel
theorem dX6_firstBroken_77 : decode cX6_firstBroken 77 = .ok (.if_icmp .ge 27, 3) := by decide +kernel
theorem dX6_firstBroken_80 : decode cX6_firstBroken 80 = .ok (.iload_n 2, 1) := by decide +kernel
theorem dX6_firstBroken_81 : decode cX6_firstBroken 81 = .ok (.aload_n 0, 1) := by decide +kernel
theorem dX6_firstBroken_82 : decode cX6_firstBroken 82 = .ok (.iload 4, 2) := by decide +kernel
theorem dX6_firstBroken_84 : decode cX6_firstBroken 84 = .ok (.invokevirtual 46, 3) := by decide +kernel
theorem dX6_firstBroken_87 : decode cX6_firstBroken 87 = .ok (.isub, 1) := by decide +kernel
theorem dX6_firstBroken_88 : decode cX6_firstBroken 88 = .ok (.istore_n 2, 1) := by decide +kernel
theorem dX6_firstBroken_89 : decode cX6_firstBroken 89 = .ok (.iload_n 3, 1) := by decide +kernel
theorem dX6_firstBroken_90 : decode cX6_firstBroken 90 = .ok (.aload_n 0, 1) := by decide +kernel
theorem dX6_firstBroken_91 : decode cX6_firstBroken 91 = .ok (.iload 4, 2) := by decide +kernel
theorem dX6_firstBroken_93 : decode cX6_firstBroken 93 = .ok (.invokevirtual 49, 3) := by decide +kernel
theorem dX6_firstBroken_96 : decode cX6_firstBroken 96 = .ok (.isub, 1) := by decide +kernel
theorem dX6_firstBroken_97 : decode cX6_firstBroken 97 = .ok (.istore_n 3, 1) := by decide +kernel
theorem dX6_firstBroken_98 : decode cX6_firstBroken 98 = .ok (.iinc 4 1, 3) := by decide +kernel
theorem dX6_firstBroken_101 : decode cX6_firstBroken 101 = .ok (.goto (-28), 3) := by decide +kernel
theorem dX6_firstBroken_104 : decode cX6_firstBroken 104 = .ok (.aload_n 0, 1) := by decide +kernel
theorem dX6_firstBroken_105 : decode cX6_firstBroken 105 = .ok (.iload_n 2, 1) := by decide +kernel
theorem dX6_firstBroken_106 : decode cX6_firstBroken 106 = .ok (.iload_n 3, 1) := by decide +kernel
theorem dX6_firstBroken_107 : decode cX6_firstBroken 107 = .ok (.invokevirtual 58, 3) := by decide +kernel
theorem dX6_firstBroken_110 : decode cX6_firstBroken 110 = .ok (.ifCond .ge 6, 3) := by decide +kernel
theorem dX6_firstBroken_113 : decode cX6_firstBroken 113 = .ok (.iload 6, 2) := by decide +kernel
theorem dX6_firstBroken_115 : decode cX6_firstBroken 115 = .ok (.ireturn, 1) := by decide +kernel
theorem dX6_firstBroken_116 : decode cX6_firstBroken 116 = .ok (.iinc 6 1, 3) := by decide +kernel
theorem dX6_firstBroken_119 : decode cX6_firstBroken 119 = .ok (.goto (-101), 3) := by decide +kernel
theorem dX6_firstBroken_122 : decode cX6_firstBroken 122 = .ok (.iconst (-1), 1) := by decide +kernel
theorem dX6_firstBroken_123 : decode cX6_firstBroken 123 = .ok (.ireturn, 1) := by decide +kernel
def F_X6_firstBroken_73 (G : Nat → Nat) (h : xH) (a0 : Nat) (x5 : Int32) (x6 : Int32) (x7 : Int32) (k18 : Int32 → Int32 → Int32 → Int32 → Int32 → Option Int32) : Nat → Int32 → Int32 → Int32 → Option Int32
  | 0, _, _, _ => none
  | n + 1, x2, x3, x4 =>
    if x7 ≤ x4 then
      (xc h (some a0) 6).bind fun b11 =>
      (F_X6_leftOf G h b11 x2 x3).bind fun v10 =>
      if 0 ≤ v10 then
        xl (x6 + 1) fun v13 =>
        k18 x2 x3 x4 x5 v13
      else
      some x6
    else
    (xc h (some a0) 6).bind fun b15 =>
    (F_X6_asksAt G h b15 x4).bind fun v14 =>
    xl (x2 - v14) fun v16 =>
    (xc h (some a0) 6).bind fun b18 =>
    (F_X6_badAt G h b18 x4).bind fun v17 =>
    xl (x3 - v17) fun v19 =>
    xl (x4 + 1) fun v20 =>
    F_X6_firstBroken_73 G h a0 x5 x6 x7 k18 n v16 v19 v20
set_option maxHeartbeats 4000000 in
set_option maxRecDepth 100000 in
theorem tl_X6_firstBroken_73 {p : Program} {l : Launch} {e : Env} {s : State} {m : MethodId} {args : Array Value} {below : List Frame} {meth : Method} {c : Code} {D : va_G} {r : Int32} (hx : p.tables.exec = Jvm.exec) (hb : c.code = cX6_firstBroken) (hr : meth.sig.returnType = (some .int)) (hlk : meth.locks = false) (hml : c.maxLocals = 9) (hown : s.vm.findClass RX6 = some m.cls) (hnm : meth.name = "firstBroken") (hts : ∀ w ∈ xt, w.before args s = true) (G : Nat → Nat) (h : xH) (a0 : Nat) (x5 : Int32) (x6 : Int32) (x7 : Int32) (k18 : Int32 → Int32 → Int32 → Int32 → Int32 → Option Int32) (hk18 : ∀ (x2' : Int32) (x3' : Int32) (x4' : Int32) (x5' : Int32) (x6' : Int32) (H : Heap) (locs : List Loc) (ls : Array Slot), k18 x2' x3' x4' x5' x6' = some r → xR D G h s H → va_S (xA G) s.heap H locs → lv_has ls 9 [(0, va_rf (some a0)), (2, .int x2'), (3, .int x3'), (4, .int x4'), (5, .int x5'), (6, .int x6')] → W p l e rm_X6_firstBroken s m args below meth c H locs 0 0 (MQ below (xQ D G (some (.int r)) h) args s rm_X6_firstBroken.cells rm_X6_firstBroken.slots (xA G)) (F0 m 18 ls [])) : ∀ (n : Nat) (x2 : Int32) (x3 : Int32) (x4 : Int32) (H : Heap) (locs : List Loc) (ls : Array Slot), F_X6_firstBroken_73 G h a0 x5 x6 x7 k18 n x2 x3 x4 = some r → xR D G h s H → va_S (xA G) s.heap H locs → lv_has ls 9 [(0, va_rf (some a0)), (2, .int x2), (3, .int x3), (4, .int x4), (5, .int x5), (6, .int x6), (7, .int x7)] → W p l e rm_X6_firstBroken s m args below meth c H locs 0 0 (MQ below (xQ D G (some (.int r)) h) args s rm_X6_firstBroken.cells rm_X6_firstBroken.slots (xA G)) (F0 m 73 ls []) := by
  intro n
  induction n with
  | zero =>
    intro x2 x3 x4 H locs ls hF
    rw [F_X6_firstBroken_73.eq_1] at hF
    cases hF
  | succ n ih =>
    intro x2 x3 x4 H locs ls hF hR hS hl
    rw [F_X6_firstBroken_73.eq_2] at hF
    refine lv_iload hx hb dX6_firstBroken_73 (lv_at hl 3 rfl) ?_
    refine lv_iload hx hb dX6_firstBroken_75 (lv_at hl 6 rfl) ?_
    refine lv_icmp_ge (tgt := 104) hx hb dX6_firstBroken_77 (by decide) (fun c9 => ?_) (fun c9 => ?_)
    · replace hF := xift c9 hF
      refine x_aload_n (o := (some a0)) hx hb dX6_firstBroken_104 rfl (lv_at hl 0 rfl) ?_
      refine lv_iload_n hx hb dX6_firstBroken_105 rfl (lv_at hl 1 rfl) ?_
      refine lv_iload_n hx hb dX6_firstBroken_106 rfl (lv_at hl 2 rfl) ?_
      replace hF := xbind hF; obtain ⟨b11, eb11, hF⟩ := hF
      replace hF := xbind hF; obtain ⟨v10, ev10, hF⟩ := hF
      refine x_callV (o := (some a0)) (ci := 6) (As := [.int x2, .int x3]) (rest := []) (v := (some (.int v10))) (k := 2) hx hb hml hown hts hR hS eb11 rfl rfl (t_X6_leftOf l D G h b11 x2 x3 v10 ev10) f_X6_leftOf mm_516 mm_518 mm_12 rfl hl.1 rfl (by first | exact Nat.le_of_ble_eq_true rfl | simp [xrf_cat, xcI, xcJ, xcA]) dX6_firstBroken_107 (by decide) (by decide) rfl (fun H locs hR hS => ?_)
      refine lv_if_ge (tgt := 116) hx hb dX6_firstBroken_110 (by decide) (fun c12 => ?_) (fun c12 => ?_)
      · replace hF := xift c12 hF
        obtain ⟨v13, ev13⟩ : ∃ z : Int32, z = (x6 + 1) := ⟨_, rfl⟩
        replace hF := xlet ev13 hF
        refine lv_iinc (v := v13) (lv' := [(6, .int v13), (0, va_rf (some a0)), (2, .int x2), (3, .int x3), (4, .int x4), (5, .int x5), (7, .int x7)]) hx hb dX6_firstBroken_116 hl (k := 5) rfl (by rw [ev13]; rfl) (by decide) (by first | rfl | (simp [xrf_cat, xcI, xcJ, xcA]; done) | (simp [xrf_cat, xcI, xcJ, xcA]; decide)) (fun ls hl => ?_)
        refine lv_goto (tgt := 18) hx hb dX6_firstBroken_119 (by decide) ?_
        exact hk18 x2 x3 x4 x5 v13 _ _ _ hF hR hS (lv_sub hl [1, 2, 3, 4, 5, 0] rfl)
      · replace hF := xiff c12 hF
        refine lv_iload hx hb dX6_firstBroken_113 (lv_at hl 5 rfl) ?_
        cases hF
        exact x_iret hx hb hr rfl hlk hR hS (by decide) (by decide) dX6_firstBroken_115
    · replace hF := xiff c9 hF
      refine lv_iload_n hx hb dX6_firstBroken_80 rfl (lv_at hl 1 rfl) ?_
      refine x_aload_n (o := (some a0)) hx hb dX6_firstBroken_81 rfl (lv_at hl 0 rfl) ?_
      refine lv_iload hx hb dX6_firstBroken_82 (lv_at hl 3 rfl) ?_
      replace hF := xbind hF; obtain ⟨b15, eb15, hF⟩ := hF
      replace hF := xbind hF; obtain ⟨v14, ev14, hF⟩ := hF
      refine x_callV (o := (some a0)) (ci := 6) (As := [.int x4]) (rest := [.int x2]) (v := (some (.int v14))) (k := 1) hx hb hml hown hts hR hS eb15 rfl rfl (t_X6_asksAt l D G h b15 x4 v14 ev14) f_X6_asksAt mm_496 mm_498 mm_9 rfl hl.1 rfl (by first | exact Nat.le_of_ble_eq_true rfl | simp [xrf_cat, xcI, xcJ, xcA]) dX6_firstBroken_84 (by decide) (by decide) rfl (fun H locs hR hS => ?_)
      refine lv_isub hx hb dX6_firstBroken_87 ?_
      refine lv_topi (fun v16 ev16 => ?_)
      replace hF := xlet ev16 hF
      refine lv_istore_n (lv' := [(2, .int v16), (0, va_rf (some a0)), (3, .int x3), (4, .int x4), (5, .int x5), (6, .int x6), (7, .int x7)]) hx hb dX6_firstBroken_88 rfl hl (by decide) (by first | rfl | (simp [xrf_cat, xcI, xcJ, xcA]; done) | (simp [xrf_cat, xcI, xcJ, xcA]; decide)) (fun ls hl => ?_)
      refine lv_iload_n hx hb dX6_firstBroken_89 rfl (lv_at hl 2 rfl) ?_
      refine x_aload_n (o := (some a0)) hx hb dX6_firstBroken_90 rfl (lv_at hl 1 rfl) ?_
      refine lv_iload hx hb dX6_firstBroken_91 (lv_at hl 3 rfl) ?_
      replace hF := xbind hF; obtain ⟨b18, eb18, hF⟩ := hF
      replace hF := xbind hF; obtain ⟨v17, ev17, hF⟩ := hF
      refine x_callV (o := (some a0)) (ci := 6) (As := [.int x4]) (rest := [.int x3]) (v := (some (.int v17))) (k := 1) hx hb hml hown hts hR hS eb18 rfl rfl (t_X6_badAt l D G h b18 x4 v17 ev17) f_X6_badAt mm_508 mm_510 mm_11 rfl hl.1 rfl (by first | exact Nat.le_of_ble_eq_true rfl | simp [xrf_cat, xcI, xcJ, xcA]) dX6_firstBroken_93 (by decide) (by decide) rfl (fun H locs hR hS => ?_)
      refine lv_isub hx hb dX6_firstBroken_96 ?_
      refine lv_topi (fun v19 ev19 => ?_)
      replace hF := xlet ev19 hF
      refine lv_istore_n (lv' := [(3, .int v19), (2, .int v16), (0, va_rf (some a0)), (4, .int x4), (5, .int x5), (6, .int x6), (7, .int x7)]) hx hb dX6_firstBroken_97 rfl hl (by decide) (by first | rfl | (simp [xrf_cat, xcI, xcJ, xcA]; done) | (simp [xrf_cat, xcI, xcJ, xcA]; decide)) (fun ls hl => ?_)
      obtain ⟨v20, ev20⟩ : ∃ z : Int32, z = (x4 + 1) := ⟨_, rfl⟩
      replace hF := xlet ev20 hF
      refine lv_iinc (v := v20) (lv' := [(4, .int v20), (3, .int v19), (2, .int v16), (0, va_rf (some a0)), (5, .int x5), (6, .int x6), (7, .int x7)]) hx hb dX6_firstBroken_98 hl (k := 3) rfl (by rw [ev20]; rfl) (by decide) (by first | rfl | (simp [xrf_cat, xcI, xcJ, xcA]; done) | (simp [xrf_cat, xcI, xcJ, xcA]; decide)) (fun ls hl => ?_)
      refine lv_goto (tgt := 73) hx hb dX6_firstBroken_101 (by decide) ?_
      exact ih v16 v19 v20 _ _ _ hF hR hS (lv_sub hl [3, 2, 1, 0, 4, 5, 6] rfl)
def F_X6_firstBroken_42 (G : Nat → Nat) (h : xH) (a0 : Nat) (x4 : Int32) (x6 : Int32) (x7 : Int32) (x8 : Int32) (k18 : Int32 → Int32 → Int32 → Int32 → Int32 → Option Int32) : Nat → Int32 → Int32 → Int32 → Option Int32
  | 0, _, _, _ => none
  | n + 1, x2, x3, x5 =>
    if x8 < x5 then
      F_X6_firstBroken_73 G h a0 x5 x6 x7 k18 xN x2 x3 x4
    else
    (xc h (some a0) 6).bind fun b22 =>
    (F_X6_asksAt G h b22 x5).bind fun v21 =>
    xl (x2 + v21) fun v23 =>
    (xc h (some a0) 6).bind fun b25 =>
    (F_X6_badAt G h b25 x5).bind fun v24 =>
    xl (x3 + v24) fun v26 =>
    xl (x5 + 1) fun v27 =>
    F_X6_firstBroken_42 G h a0 x4 x6 x7 x8 k18 n v23 v26 v27
set_option maxHeartbeats 4000000 in
set_option maxRecDepth 100000 in
theorem tl_X6_firstBroken_42 {p : Program} {l : Launch} {e : Env} {s : State} {m : MethodId} {args : Array Value} {below : List Frame} {meth : Method} {c : Code} {D : va_G} {r : Int32} (hx : p.tables.exec = Jvm.exec) (hb : c.code = cX6_firstBroken) (hr : meth.sig.returnType = (some .int)) (hlk : meth.locks = false) (hml : c.maxLocals = 9) (hown : s.vm.findClass RX6 = some m.cls) (hnm : meth.name = "firstBroken") (hts : ∀ w ∈ xt, w.before args s = true) (G : Nat → Nat) (h : xH) (a0 : Nat) (x4 : Int32) (x6 : Int32) (x7 : Int32) (x8 : Int32) (k18 : Int32 → Int32 → Int32 → Int32 → Int32 → Option Int32) (hk18 : ∀ (x2' : Int32) (x3' : Int32) (x4' : Int32) (x5' : Int32) (x6' : Int32) (H : Heap) (locs : List Loc) (ls : Array Slot), k18 x2' x3' x4' x5' x6' = some r → xR D G h s H → va_S (xA G) s.heap H locs → lv_has ls 9 [(0, va_rf (some a0)), (2, .int x2'), (3, .int x3'), (4, .int x4'), (5, .int x5'), (6, .int x6')] → W p l e rm_X6_firstBroken s m args below meth c H locs 0 0 (MQ below (xQ D G (some (.int r)) h) args s rm_X6_firstBroken.cells rm_X6_firstBroken.slots (xA G)) (F0 m 18 ls [])) : ∀ (n : Nat) (x2 : Int32) (x3 : Int32) (x5 : Int32) (H : Heap) (locs : List Loc) (ls : Array Slot), F_X6_firstBroken_42 G h a0 x4 x6 x7 x8 k18 n x2 x3 x5 = some r → xR D G h s H → va_S (xA G) s.heap H locs → lv_has ls 9 [(0, va_rf (some a0)), (2, .int x2), (3, .int x3), (4, .int x4), (5, .int x5), (6, .int x6), (7, .int x7), (8, .int x8)] → W p l e rm_X6_firstBroken s m args below meth c H locs 0 0 (MQ below (xQ D G (some (.int r)) h) args s rm_X6_firstBroken.cells rm_X6_firstBroken.slots (xA G)) (F0 m 42 ls []) := by
  intro n
  induction n with
  | zero =>
    intro x2 x3 x5 H locs ls hF
    rw [F_X6_firstBroken_42.eq_1] at hF
    cases hF
  | succ n ih =>
    intro x2 x3 x5 H locs ls hF hR hS hl
    rw [F_X6_firstBroken_42.eq_2] at hF
    refine lv_iload hx hb dX6_firstBroken_42 (lv_at hl 4 rfl) ?_
    refine lv_iload hx hb dX6_firstBroken_44 (lv_at hl 7 rfl) ?_
    refine lv_icmp_gt (tgt := 73) hx hb dX6_firstBroken_46 (by decide) (fun c8 => ?_) (fun c8 => ?_)
    · replace hF := xift c8 hF
      refine W.widen (k := 0) (n := 0) (by decide) (by decide) ?_
      exact tl_X6_firstBroken_73 hx hb hr hlk hml hown hnm hts G h a0 x5 x6 x7 k18 hk18 _ x2 x3 x4 _ _ _ hF hR hS (lv_sub hl [0, 1, 2, 3, 4, 5, 6] rfl)
    · replace hF := xiff c8 hF
      refine lv_iload_n hx hb dX6_firstBroken_49 rfl (lv_at hl 1 rfl) ?_
      refine x_aload_n (o := (some a0)) hx hb dX6_firstBroken_50 rfl (lv_at hl 0 rfl) ?_
      refine lv_iload hx hb dX6_firstBroken_51 (lv_at hl 4 rfl) ?_
      replace hF := xbind hF; obtain ⟨b22, eb22, hF⟩ := hF
      replace hF := xbind hF; obtain ⟨v21, ev21, hF⟩ := hF
      refine x_callV (o := (some a0)) (ci := 6) (As := [.int x5]) (rest := [.int x2]) (v := (some (.int v21))) (k := 1) hx hb hml hown hts hR hS eb22 rfl rfl (t_X6_asksAt l D G h b22 x5 v21 ev21) f_X6_asksAt mm_496 mm_498 mm_9 rfl hl.1 rfl (by first | exact Nat.le_of_ble_eq_true rfl | simp [xrf_cat, xcI, xcJ, xcA]) dX6_firstBroken_53 (by decide) (by decide) rfl (fun H locs hR hS => ?_)
      refine lv_iadd hx hb dX6_firstBroken_56 ?_
      refine lv_topi (fun v23 ev23 => ?_)
      replace hF := xlet ev23 hF
      refine lv_istore_n (lv' := [(2, .int v23), (0, va_rf (some a0)), (3, .int x3), (4, .int x4), (5, .int x5), (6, .int x6), (7, .int x7), (8, .int x8)]) hx hb dX6_firstBroken_57 rfl hl (by decide) (by first | rfl | (simp [xrf_cat, xcI, xcJ, xcA]; done) | (simp [xrf_cat, xcI, xcJ, xcA]; decide)) (fun ls hl => ?_)
      refine lv_iload_n hx hb dX6_firstBroken_58 rfl (lv_at hl 2 rfl) ?_
      refine x_aload_n (o := (some a0)) hx hb dX6_firstBroken_59 rfl (lv_at hl 1 rfl) ?_
      refine lv_iload hx hb dX6_firstBroken_60 (lv_at hl 4 rfl) ?_
      replace hF := xbind hF; obtain ⟨b25, eb25, hF⟩ := hF
      replace hF := xbind hF; obtain ⟨v24, ev24, hF⟩ := hF
      refine x_callV (o := (some a0)) (ci := 6) (As := [.int x5]) (rest := [.int x3]) (v := (some (.int v24))) (k := 1) hx hb hml hown hts hR hS eb25 rfl rfl (t_X6_badAt l D G h b25 x5 v24 ev24) f_X6_badAt mm_508 mm_510 mm_11 rfl hl.1 rfl (by first | exact Nat.le_of_ble_eq_true rfl | simp [xrf_cat, xcI, xcJ, xcA]) dX6_firstBroken_62 (by decide) (by decide) rfl (fun H locs hR hS => ?_)
      refine lv_iadd hx hb dX6_firstBroken_65 ?_
      refine lv_topi (fun v26 ev26 => ?_)
      replace hF := xlet ev26 hF
      refine lv_istore_n (lv' := [(3, .int v26), (2, .int v23), (0, va_rf (some a0)), (4, .int x4), (5, .int x5), (6, .int x6), (7, .int x7), (8, .int x8)]) hx hb dX6_firstBroken_66 rfl hl (by decide) (by first | rfl | (simp [xrf_cat, xcI, xcJ, xcA]; done) | (simp [xrf_cat, xcI, xcJ, xcA]; decide)) (fun ls hl => ?_)
      obtain ⟨v27, ev27⟩ : ∃ z : Int32, z = (x5 + 1) := ⟨_, rfl⟩
      replace hF := xlet ev27 hF
      refine lv_iinc (v := v27) (lv' := [(5, .int v27), (3, .int v26), (2, .int v23), (0, va_rf (some a0)), (4, .int x4), (6, .int x6), (7, .int x7), (8, .int x8)]) hx hb dX6_firstBroken_67 hl (k := 4) rfl (by rw [ev27]; rfl) (by decide) (by first | rfl | (simp [xrf_cat, xcI, xcJ, xcA]; done) | (simp [xrf_cat, xcI, xcJ, xcA]; decide)) (fun ls hl => ?_)
      refine lv_goto (tgt := 42) hx hb dX6_firstBroken_70 (by decide) ?_
      exact ih v23 v26 v27 _ _ _ hF hR hS (lv_sub hl [3, 2, 1, 4, 0, 5, 6, 7] rfl)
def F_X6_firstBroken_18 (G : Nat → Nat) (h : xH) (a0 : Nat) : Nat → Int32 → Int32 → Int32 → Int32 → Int32 → Option Int32
  | 0, _, _, _, _, _ => none
  | n + 1, x2, x3, x4, x5, x6 =>
    if 600 < x6 then
      some (-1)
    else
    (xc h (some a0) 6).bind fun b5 =>
    (F_X6_firstOfSpan G h b5 x6).bind fun v4 =>
    (xc h (some a0) 6).bind fun b7 =>
    (F_X6_lastOfSpan G h b7 x6).bind fun v6 =>
    F_X6_firstBroken_42 G h a0 x4 x6 v4 v6 (fun x2' x3' x4' x5' x6' => F_X6_firstBroken_18 G h a0 n x2' x3' x4' x5' x6') xN x2 x3 x5
set_option maxHeartbeats 4000000 in
set_option maxRecDepth 100000 in
theorem tl_X6_firstBroken_18 {p : Program} {l : Launch} {e : Env} {s : State} {m : MethodId} {args : Array Value} {below : List Frame} {meth : Method} {c : Code} {D : va_G} {r : Int32} (hx : p.tables.exec = Jvm.exec) (hb : c.code = cX6_firstBroken) (hr : meth.sig.returnType = (some .int)) (hlk : meth.locks = false) (hml : c.maxLocals = 9) (hown : s.vm.findClass RX6 = some m.cls) (hnm : meth.name = "firstBroken") (hts : ∀ w ∈ xt, w.before args s = true) (G : Nat → Nat) (h : xH) (a0 : Nat) : ∀ (n : Nat) (x2 : Int32) (x3 : Int32) (x4 : Int32) (x5 : Int32) (x6 : Int32) (H : Heap) (locs : List Loc) (ls : Array Slot), F_X6_firstBroken_18 G h a0 n x2 x3 x4 x5 x6 = some r → xR D G h s H → va_S (xA G) s.heap H locs → lv_has ls 9 [(0, va_rf (some a0)), (2, .int x2), (3, .int x3), (4, .int x4), (5, .int x5), (6, .int x6)] → W p l e rm_X6_firstBroken s m args below meth c H locs 0 0 (MQ below (xQ D G (some (.int r)) h) args s rm_X6_firstBroken.cells rm_X6_firstBroken.slots (xA G)) (F0 m 18 ls []) := by
  intro n
  induction n with
  | zero =>
    intro x2 x3 x4 x5 x6 H locs ls hF
    rw [F_X6_firstBroken_18.eq_1] at hF
    cases hF
  | succ n ih =>
    intro x2 x3 x4 x5 x6 H locs ls hF hR hS hl
    rw [F_X6_firstBroken_18.eq_2] at hF
    refine lv_iload hx hb dX6_firstBroken_18 (lv_at hl 5 rfl) ?_
    refine lv_sipush (v := 600) hx hb dX6_firstBroken_20 (by decide) ?_
    refine lv_icmp_gt (tgt := 122) hx hb dX6_firstBroken_23 (by decide) (fun c3 => ?_) (fun c3 => ?_)
    · replace hF := xift c3 hF
      refine lv_iconst (v := (-1)) hx hb dX6_firstBroken_122 (by decide) ?_
      cases hF
      exact x_iret hx hb hr rfl hlk hR hS (by decide) (by decide) dX6_firstBroken_123
    · replace hF := xiff c3 hF
      refine x_aload_n (o := (some a0)) hx hb dX6_firstBroken_26 rfl (lv_at hl 0 rfl) ?_
      refine lv_iload hx hb dX6_firstBroken_27 (lv_at hl 5 rfl) ?_
      replace hF := xbind hF; obtain ⟨b5, eb5, hF⟩ := hF
      replace hF := xbind hF; obtain ⟨v4, ev4, hF⟩ := hF
      refine x_callV (o := (some a0)) (ci := 6) (As := [.int x6]) (rest := []) (v := (some (.int v4))) (k := 1) hx hb hml hown hts hR hS eb5 rfl rfl (t_X6_firstOfSpan l D G h b5 x6 v4 ev4) f_X6_firstOfSpan mm_487 mm_489 mm_7 rfl hl.1 rfl (by first | exact Nat.le_of_ble_eq_true rfl | simp [xrf_cat, xcI, xcJ, xcA]) dX6_firstBroken_29 (by decide) (by decide) rfl (fun H locs hR hS => ?_)
      refine lv_istore (lv' := [(7, .int v4), (0, va_rf (some a0)), (2, .int x2), (3, .int x3), (4, .int x4), (5, .int x5), (6, .int x6)]) hx hb dX6_firstBroken_32 hl (by decide) (by first | rfl | (simp [xrf_cat, xcI, xcJ, xcA]; done) | (simp [xrf_cat, xcI, xcJ, xcA]; decide)) (fun ls hl => ?_)
      refine x_aload_n (o := (some a0)) hx hb dX6_firstBroken_34 rfl (lv_at hl 1 rfl) ?_
      refine lv_iload hx hb dX6_firstBroken_35 (lv_at hl 6 rfl) ?_
      replace hF := xbind hF; obtain ⟨b7, eb7, hF⟩ := hF
      replace hF := xbind hF; obtain ⟨v6, ev6, hF⟩ := hF
      refine x_callV (o := (some a0)) (ci := 6) (As := [.int x6]) (rest := []) (v := (some (.int v6))) (k := 1) hx hb hml hown hts hR hS eb7 rfl rfl (t_X6_lastOfSpan l D G h b7 x6 v6 ev6) f_X6_lastOfSpan mm_491 mm_493 mm_8 rfl hl.1 rfl (by first | exact Nat.le_of_ble_eq_true rfl | simp [xrf_cat, xcI, xcJ, xcA]) dX6_firstBroken_37 (by decide) (by decide) rfl (fun H locs hR hS => ?_)
      refine lv_istore (lv' := [(8, .int v6), (7, .int v4), (0, va_rf (some a0)), (2, .int x2), (3, .int x3), (4, .int x4), (5, .int x5), (6, .int x6)]) hx hb dX6_firstBroken_40 hl (by decide) (by first | rfl | (simp [xrf_cat, xcI, xcJ, xcA]; done) | (simp [xrf_cat, xcI, xcJ, xcA]; decide)) (fun ls hl => ?_)
      refine W.widen (k := 0) (n := 0) (by decide) (by decide) ?_
      exact tl_X6_firstBroken_42 hx hb hr hlk hml hown hnm hts G h a0 x4 x6 v4 v6 (fun x2' x3' x4' x5' x6' => F_X6_firstBroken_18 G h a0 n x2' x3' x4' x5' x6') (fun x2' x3' x4' x5' x6' H locs ls => ih x2' x3' x4' x5' x6' H locs ls) _ x2 x3 x5 _ _ _ hF hR hS (lv_sub hl [2, 3, 4, 5, 6, 7, 1, 0] rfl)
def F_X6_firstBroken (G : Nat → Nat) (h : xH) (a0 : Nat) (x1 : Int32) : Option Int32 :=
  (xc h (some a0) 6).bind fun b2 =>
  (F_X6_firstOfSpan G h b2 x1).bind fun v1 =>
  F_X6_firstBroken_18 G h a0 xN 0 0 v1 v1 x1
set_option maxHeartbeats 4000000 in
set_option maxRecDepth 100000 in
theorem t_X6_firstBroken (l : Launch) (D : va_G) (G : Nat → Nat) (h : xH) (a0 : Nat) (x1 : Int32) (r : Int32) (hF : F_X6_firstBroken G h a0 x1 = some r) : xC l yX6_firstBroken cX6_firstBroken 9 (some .int) (rm_X6_firstBroken) D G h [.ref a0, .int x1] (some (.int r)) h := by
  refine xC_of (by decide) (by first | decide | exact Nat.le_of_ble_eq_true rfl) ?_
  intro p e s m args below meth c ls hx hb hr hlk hml hown hnm hts hR hS hl
  have hl : lv_has ls 9 [(0, va_rf (some a0)), (1, .int x1)] := hl
  unfold F_X6_firstBroken at hF
  refine lv_iconst (v := 0) hx hb dX6_firstBroken_0 (by decide) ?_
  refine lv_istore_n (lv' := [(2, .int 0), (0, va_rf (some a0)), (1, .int x1)]) hx hb dX6_firstBroken_1 rfl hl (by decide) (by first | rfl | (simp [xrf_cat, xcI, xcJ, xcA]; done) | (simp [xrf_cat, xcI, xcJ, xcA]; decide)) (fun ls hl => ?_)
  refine lv_iconst (v := 0) hx hb dX6_firstBroken_2 (by decide) ?_
  refine lv_istore_n (lv' := [(3, .int 0), (2, .int 0), (0, va_rf (some a0)), (1, .int x1)]) hx hb dX6_firstBroken_3 rfl hl (by decide) (by first | rfl | (simp [xrf_cat, xcI, xcJ, xcA]; done) | (simp [xrf_cat, xcI, xcJ, xcA]; decide)) (fun ls hl => ?_)
  refine x_aload_n (o := (some a0)) hx hb dX6_firstBroken_4 rfl (lv_at hl 2 rfl) ?_
  refine lv_iload_n hx hb dX6_firstBroken_5 rfl (lv_at hl 3 rfl) ?_
  replace hF := xbind hF; obtain ⟨b2, eb2, hF⟩ := hF
  replace hF := xbind hF; obtain ⟨v1, ev1, hF⟩ := hF
  refine x_callV (o := (some a0)) (ci := 6) (As := [.int x1]) (rest := []) (v := (some (.int v1))) (k := 1) hx hb hml hown hts hR hS eb2 rfl rfl (t_X6_firstOfSpan l D G h b2 x1 v1 ev1) f_X6_firstOfSpan mm_487 mm_489 mm_7 rfl hl.1 rfl (by first | exact Nat.le_of_ble_eq_true rfl | simp [xrf_cat, xcI, xcJ, xcA]) dX6_firstBroken_6 (by decide) (by decide) rfl (fun H locs hR hS => ?_)
  refine lv_istore (lv' := [(4, .int v1), (3, .int 0), (2, .int 0), (0, va_rf (some a0)), (1, .int x1)]) hx hb dX6_firstBroken_9 hl (by decide) (by first | rfl | (simp [xrf_cat, xcI, xcJ, xcA]; done) | (simp [xrf_cat, xcI, xcJ, xcA]; decide)) (fun ls hl => ?_)
  refine lv_iload hx hb dX6_firstBroken_11 (lv_at hl 0 rfl) ?_
  refine lv_istore (lv' := [(5, .int v1), (4, .int v1), (3, .int 0), (2, .int 0), (0, va_rf (some a0)), (1, .int x1)]) hx hb dX6_firstBroken_13 hl (by decide) (by first | rfl | (simp [xrf_cat, xcI, xcJ, xcA]; done) | (simp [xrf_cat, xcI, xcJ, xcA]; decide)) (fun ls hl => ?_)
  refine lv_iload_n hx hb dX6_firstBroken_15 rfl (lv_at hl 5 rfl) ?_
  refine lv_istore (lv' := [(6, .int x1), (5, .int v1), (4, .int v1), (3, .int 0), (2, .int 0), (0, va_rf (some a0)), (1, .int x1)]) hx hb dX6_firstBroken_16 hl (by decide) (by first | rfl | (simp [xrf_cat, xcI, xcJ, xcA]; done) | (simp [xrf_cat, xcI, xcJ, xcA]; decide)) (fun ls hl => ?_)
  refine W.widen (k := 0) (n := 0) (by decide) (by decide) ?_
  exact tl_X6_firstBroken_18 hx hb hr hlk hml hown hnm hts G h a0 _ 0 0 v1 v1 x1 _ _ _ hF hR hS (lv_sub hl [5, 4, 3, 2, 1, 0] rfl)
