def rm_X11_part : Room := { frames := 0, cells := 0, slots := 0, locals := 0 }
theorem f_X11_part : xM yX11_part cX11_part 2 (some .int) 1 := ⟨mm_1159, mm_62, by decide +kernel, by decide +kernel⟩
theorem dX11_part_0 : decode cX11_part 0 = .ok (.aload_n 0, 1) := by decide +kernel
theorem dX11_part_1 : decode cX11_part 1 = .ok (.iconst 0, 1) := by decide +kernel
theorem dX11_part_2 : decode cX11_part 2 = .ok (.putfield 93, 3) := by decide +kernel
theorem dX11_part_5 : decode cX11_part 5 = .ok (.iload_n 1, 1) := by decide +kernel
theorem dX11_part_6 : decode cX11_part 6 = .ok (.ifCond .lt 18, 3) := by decide +kernel
theorem dX11_part_9 : decode cX11_part 9 = .ok (.iload_n 1, 1) := by decide +kernel
theorem dX11_part_10 : decode cX11_part 10 = .ok (.ldc 170, 2) := by decide +kernel
theorem dX11_part_12 : decode cX11_part 12 = .ok (.if_icmp .gt 12, 3) := by decide +kernel
theorem dX11_part_15 : decode cX11_part 15 = .ok (.aload_n 0, 1) := by decide +kernel
theorem dX11_part_16 : decode cX11_part 16 = .ok (.getfield 171, 3) := by decide +kernel
theorem dX11_part_19 : decode cX11_part 19 = .ok (.bipush 10, 2) := by decide +kernel
theorem dX11_part_21 : decode cX11_part 21 = .ok (.if_icmp .ne 5, 3) := by decide +kernel
theorem dX11_part_24 : decode cX11_part 24 = .ok (.iconst (-1), 1) := by decide +kernel
theorem dX11_part_25 : decode cX11_part 25 = .ok (.ireturn, 1) := by decide +kernel
theorem dX11_part_26 : decode cX11_part 26 = .ok (.aload_n 0, 1) := by decide +kernel
theorem dX11_part_27 : decode cX11_part 27 = .ok (.getfield 50, 3) := by decide +kernel
theorem dX11_part_30 : decode cX11_part 30 = .ok (.aload_n 0, 1) := by decide +kernel
theorem dX11_part_31 : decode cX11_part 31 = .ok (.getfield 171, 3) := by decide +kernel
theorem dX11_part_34 : decode cX11_part 34 = .ok (.iload_n 1, 1) := by decide +kernel
theorem dX11_part_35 : decode cX11_part 35 = .ok (.iastore, 1) := by decide +kernel
theorem dX11_part_36 : decode cX11_part 36 = .ok (.aload_n 0, 1) := by decide +kernel
theorem dX11_part_37 : decode cX11_part 37 = .ok (.dup, 1) := by decide +kernel
theorem dX11_part_38 : decode cX11_part 38 = .ok (.getfield 171, 3) := by decide +kernel
theorem dX11_part_41 : decode cX11_part 41 = .ok (.iconst 1, 1) := by decide +kernel
theorem dX11_part_42 : decode cX11_part 42 = .ok (.iadd, 1) := by decide +kernel
theorem dX11_part_43 : decode cX11_part 43 = .ok (.putfield 171, 3) := by decide +kernel
theorem dX11_part_46 : decode cX11_part 46 = .ok (.aload_n 0, 1) := by decide +kernel
theorem dX11_part_47 : decode cX11_part 47 = .ok (.getfield 171, 3) := by decide +kernel
theorem dX11_part_50 : decode cX11_part 50 = .ok (.ireturn, 1) := by decide +kernel
def F_X11_part (G : Nat → Nat) (h : xH) (a0 : Nat) (x1 : Int32) : Option (Int32 × xH) :=
  (xp G h (some a0) 11 0 (.int 0)).bind fun h1 =>
  if x1 < 0 then
    some ((-1), h1)
  else
  if 100000 < x1 then
    some ((-1), h1)
  else
  (gI h1 (some a0) 11 24).bind fun v4 =>
  if v4 = 10 then
    some ((-1), h1)
  else
  (gR h1 (some a0) 11 25).bind fun w6 =>
  (gI h1 (some a0) 11 24).bind fun v7 =>
  (stI 2 G h1 w6 v7 x1).bind fun h8 =>
  (gI h8 (some a0) 11 24).bind fun v9 =>
  (xp G h8 (some a0) 11 24 (.int (v9 + 1))).bind fun h10 =>
  (gI h10 (some a0) 11 24).bind fun v11 =>
  some (v11, h10)
set_option maxHeartbeats 4000000 in
set_option maxRecDepth 100000 in
theorem t_X11_part (l : Launch) (D : va_G) (G : Nat → Nat) (h : xH) (a0 : Nat) (x1 : Int32) (r : Int32) (h' : xH) (hF : F_X11_part G h a0 x1 = some (r, h')) : xC l yX11_part cX11_part 2 (some .int) (rm_X11_part) D G h [.ref a0, .int x1] (some (.int r)) h' := by
  refine xC_of (by decide) (by first | decide | exact Nat.le_of_ble_eq_true rfl) ?_
  intro p e s m args below meth c ls hx hb hr hlk hml hown hnm hts hR hS hl
  have hl : lv_has ls 2 [(0, va_rf (some a0)), (1, .int x1)] := hl
  unfold F_X11_part at hF
  refine x_aload_n (o := (some a0)) hx hb dX11_part_0 rfl (lv_at hl 0 rfl) ?_
  refine lv_iconst (v := 0) hx hb dX11_part_1 (by decide) ?_
  replace hF := xbind hF; obtain ⟨h1, eh1, hF⟩ := hF
  refine x_put (o := (some a0)) (ci := 11) (C := RX11) (T := TX11) (N := 42) hx hb hts iw_X11 tyX11_ok nmX11 hown hR hS rfl 0 (by decide) mm_943 (Or.inl rfl) rfl rfl rfl eh1 dX11_part_2 (fun H locs hR hS => ?_)
  refine lv_iload_n hx hb dX11_part_5 rfl (lv_at hl 1 rfl) ?_
  refine lv_if_lt (tgt := 24) hx hb dX11_part_6 (by decide) (fun c2 => ?_) (fun c2 => ?_)
  · replace hF := xift c2 hF
    refine lv_iconst (v := (-1)) hx hb dX11_part_24 (by decide) ?_
    cases hF
    exact x_iret hx hb hr rfl hlk hR hS (by decide) (by decide) dX11_part_25
  · replace hF := xiff c2 hF
    refine lv_iload_n hx hb dX11_part_9 rfl (lv_at hl 1 rfl) ?_
    refine lv_ldc hx hb hown (hts _ mm_1160) dX11_part_10 ?_
    refine lv_icmp_gt (tgt := 24) hx hb dX11_part_12 (by decide) (fun c3 => ?_) (fun c3 => ?_)
    · replace hF := xift c3 hF
      refine lv_iconst (v := (-1)) hx hb dX11_part_24 (by decide) ?_
      cases hF
      exact x_iret hx hb hr rfl hlk hR hS (by decide) (by decide) dX11_part_25
    · replace hF := xiff c3 hF
      refine x_aload_n (o := (some a0)) hx hb dX11_part_15 rfl (lv_at hl 0 rfl) ?_
      replace hF := xbind hF; obtain ⟨v4, ev4, hF⟩ := hF
      refine x_getI (o := (some a0)) (ci := 11) (C := RX11) (T := TX11) (N := 42) hx hb hts iw_X11 hown hR rfl 24 (by decide) mm_967 (Or.inl rfl) ev4 dX11_part_16 ?_
      refine lv_bipush (v := 10) hx hb dX11_part_19 (by decide) ?_
      refine lv_icmp_ne (tgt := 26) hx hb dX11_part_21 (by decide) (fun c5 => ?_) (fun c5 => ?_)
      · replace hF := xiff c5 hF
        refine x_aload_n (o := (some a0)) hx hb dX11_part_26 rfl (lv_at hl 0 rfl) ?_
        replace hF := xbind hF; obtain ⟨w6, ew6, hF⟩ := hF
        refine x_getR (o := (some a0)) (ci := 11) (C := RX11) (T := TX11) (N := 42) hx hb hts iw_X11 hown hR rfl 25 (by decide) mm_968 (Or.inl rfl) ew6 dX11_part_27 ?_
        refine x_aload_n (o := (some a0)) hx hb dX11_part_30 rfl (lv_at hl 0 rfl) ?_
        replace hF := xbind hF; obtain ⟨v7, ev7, hF⟩ := hF
        refine x_getI (o := (some a0)) (ci := 11) (C := RX11) (T := TX11) (N := 42) hx hb hts iw_X11 hown hR rfl 24 (by decide) mm_967 (Or.inl rfl) ev7 dX11_part_31 ?_
        refine lv_iload_n hx hb dX11_part_34 rfl (lv_at hl 1 rfl) ?_
        replace hF := xbind hF; obtain ⟨h8, eh8, hF⟩ := hF
        refine x_ist (o := w6) hx hb hR hS eh8 dX11_part_35 (fun H locs hR hS => ?_)
        refine x_aload_n (o := (some a0)) hx hb dX11_part_36 rfl (lv_at hl 0 rfl) ?_
        refine lv_dup hx hb dX11_part_37 xrf_cat ?_
        replace hF := xbind hF; obtain ⟨v9, ev9, hF⟩ := hF
        refine x_getI (o := (some a0)) (ci := 11) (C := RX11) (T := TX11) (N := 42) hx hb hts iw_X11 hown hR rfl 24 (by decide) mm_967 (Or.inl rfl) ev9 dX11_part_38 ?_
        refine lv_iconst (v := 1) hx hb dX11_part_41 (by decide) ?_
        refine lv_iadd hx hb dX11_part_42 ?_
        replace hF := xbind hF; obtain ⟨h10, eh10, hF⟩ := hF
        refine x_put (o := (some a0)) (ci := 11) (C := RX11) (T := TX11) (N := 42) hx hb hts iw_X11 tyX11_ok nmX11 hown hR hS rfl 24 (by decide) mm_967 (Or.inl rfl) rfl rfl rfl eh10 dX11_part_43 (fun H locs hR hS => ?_)
        refine x_aload_n (o := (some a0)) hx hb dX11_part_46 rfl (lv_at hl 0 rfl) ?_
        replace hF := xbind hF; obtain ⟨v11, ev11, hF⟩ := hF
        refine x_getI (o := (some a0)) (ci := 11) (C := RX11) (T := TX11) (N := 42) hx hb hts iw_X11 hown hR rfl 24 (by decide) mm_967 (Or.inl rfl) ev11 dX11_part_47 ?_
        cases hF
        exact x_iret hx hb hr rfl hlk hR hS (by decide) (by decide) dX11_part_50
      · replace hF := xift c5 hF
        refine lv_iconst (v := (-1)) hx hb dX11_part_24 (by decide) ?_
        cases hF
        exact x_iret hx hb hr rfl hlk hR hS (by decide) (by decide) dX11_part_25
def rm_X11_marks : Room := { frames := 0, cells := 0, slots := 0, locals := 0 }
theorem f_X11_marks : xM yX11_marks cX11_marks 7 (some .long) 3 := ⟨mm_1168, mm_62, by decide +kernel, by decide +kernel⟩
theorem dX11_marks_0 : decode cX11_marks 0 = .ok (.lconst 0, 1) := by decide +kernel
theorem dX11_marks_1 : decode cX11_marks 1 = .ok (.lstore 4, 2) := by decide +kernel
theorem dX11_marks_3 : decode cX11_marks 3 = .ok (.iconst 0, 1) := by decide +kernel
theorem dX11_marks_4 : decode cX11_marks 4 = .ok (.istore 6, 2) := by decide +kernel
theorem dX11_marks_6 : decode cX11_marks 6 = .ok (.iload 6, 2) := by decide +kernel
theorem dX11_marks_8 : decode cX11_marks 8 = .ok (.iload_n 3, 1) := by decide +kernel
theorem dX11_marks_9 : decode cX11_marks 9 = .ok (.if_icmp .ge 70, 3) := by decide +kernel
theorem dX11_marks_12 : decode cX11_marks 12 = .ok (.lload 4, 2) := by decide +kernel
theorem dX11_marks_14 : decode cX11_marks 14 = .ok (.iload_n 2, 1) := by decide +kernel
theorem dX11_marks_15 : decode cX11_marks 15 = .ok (.ifCond .eq 30, 3) := by decide +kernel
theorem dX11_marks_18 : decode cX11_marks 18 = .ok (.aload_n 0, 1) := by decide +kernel
theorem dX11_marks_19 : decode cX11_marks 19 = .ok (.getfield 50, 3) := by decide +kernel
theorem dX11_marks_22 : decode cX11_marks 22 = .ok (.iload 6, 2) := by decide +kernel
theorem dX11_marks_24 : decode cX11_marks 24 = .ok (.iaload, 1) := by decide +kernel
theorem dX11_marks_25 : decode cX11_marks 25 = .ok (.iload_n 1, 1) := by decide +kernel
theorem dX11_marks_26 : decode cX11_marks 26 = .ok (.if_icmp .ge 14, 3) := by decide +kernel
theorem dX11_marks_29 : decode cX11_marks 29 = .ok (.aload_n 0, 1) := by decide +kernel
theorem dX11_marks_30 : decode cX11_marks 30 = .ok (.getfield 50, 3) := by decide +kernel
theorem dX11_marks_33 : decode cX11_marks 33 = .ok (.iload 6, 2) := by decide +kernel
theorem dX11_marks_35 : decode cX11_marks 35 = .ok (.iaload, 1) := by decide +kernel
theorem dX11_marks_36 : decode cX11_marks 36 = .ok (.i2l, 1) := by decide +kernel
theorem dX11_marks_37 : decode cX11_marks 37 = .ok (.goto 33, 3) := by decide +kernel
theorem dX11_marks_40 : decode cX11_marks 40 = .ok (.iload_n 1, 1) := by decide +kernel
theorem dX11_marks_41 : decode cX11_marks 41 = .ok (.i2l, 1) := by decide +kernel
theorem dX11_marks_42 : decode cX11_marks 42 = .ok (.goto 28, 3) := by decide +kernel
theorem dX11_marks_45 : decode cX11_marks 45 = .ok (.aload_n 0, 1) := by decide +kernel
theorem dX11_marks_46 : decode cX11_marks 46 = .ok (.getfield 50, 3) := by decide +kernel
theorem dX11_marks_49 : decode cX11_marks 49 = .ok (.iload 6, 2) := by decide +kernel
theorem dX11_marks_51 : decode cX11_marks 51 = .ok (.iaload, 1) := by decide +kernel
theorem dX11_marks_52 : decode cX11_marks 52 = .ok (.iload_n 1, 1) := by decide +kernel
theorem dX11_marks_53 : decode cX11_marks 53 = .ok (.if_icmp .le 16, 3) := by decide +kernel
theorem dX11_marks_56 : decode cX11_marks 56 = .ok (.aload_n 0, 1) := by decide +kernel
theorem dX11_marks_57 : decode cX11_marks 57 = .ok (.getfield 50, 3) := by decide +kernel
theorem dX11_marks_60 : decode cX11_marks 60 = .ok (.iload 6, 2) := by decide +kernel
theorem dX11_marks_62 : decode cX11_marks 62 = .ok (.iaload, 1) := by decide +kernel
theorem dX11_marks_63 : decode cX11_marks 63 = .ok (.iload_n 1, 1) := by decide +kernel
theorem dX11_marks_64 : decode cX11_marks 64 = .ok (.isub, 1) := by decide +kernel
theorem dX11_marks_65 : decode cX11_marks 65 = .ok (.i2l, 1) := by decide +kernel
theorem dX11_marks_66 : decode cX11_marks 66 = .ok (.goto 4, 3) := by decide +kernel
theorem dX11_marks_69 : decode cX11_marks 69 = .ok (.lconst 0, 1) := by decide +kernel
theorem dX11_marks_70 : decode cX11_marks 70 = .ok (.ladd, 1) := by decide +kernel
theorem dX11_marks_71 : decode cX11_marks 71 = .ok (.lstore 4, 2) := by decide +kernel
theorem dX11_marks_73 : decode cX11_marks 73 = .ok (.iinc 6 1, 3) := by decide +kernel
theorem dX11_marks_76 : decode cX11_marks 76 = .ok (.goto (-70), 3) := by decide +kernel
theorem dX11_marks_79 : decode cX11_marks 79 = .ok (.lload 4, 2) := by decide +kernel
theorem dX11_marks_81 : decode cX11_marks 81 = .ok (.lreturn, 1) := by decide +kernel
def F_X11_marks_6 (G : Nat → Nat) (h : xH) (a0 : Nat) (x1 : Int32) (x2 : Int32) (x3 : Int32) : Nat → Int64 → Int32 → Option Int64
  | 0, _, _ => none
  | n + 1, y4, x6 =>
    if x3 ≤ x6 then
      some y4
    else
    if x2 = 0 then
      (gR h (some a0) 11 25).bind fun w3 =>
      (ldI 2 G h w3 x6).bind fun v4 =>
      if v4 ≤ x1 then
        xl (y4 + 0) fun v6 =>
        xl (x6 + 1) fun v7 =>
        F_X11_marks_6 G h a0 x1 x2 x3 n v6 v7
      else
      (gR h (some a0) 11 25).bind fun w8 =>
      (ldI 2 G h w8 x6).bind fun v9 =>
      xl (y4 + (((v9 - x1) : Int32).toInt64)) fun v10 =>
      xl (x6 + 1) fun v11 =>
      F_X11_marks_6 G h a0 x1 x2 x3 n v10 v11
    else
    (gR h (some a0) 11 25).bind fun w12 =>
    (ldI 2 G h w12 x6).bind fun v13 =>
    if x1 ≤ v13 then
      xl (y4 + ((x1 : Int32).toInt64)) fun v15 =>
      xl (x6 + 1) fun v16 =>
      F_X11_marks_6 G h a0 x1 x2 x3 n v15 v16
    else
    (gR h (some a0) 11 25).bind fun w17 =>
    (ldI 2 G h w17 x6).bind fun v18 =>
    xl (y4 + ((v18 : Int32).toInt64)) fun v19 =>
    xl (x6 + 1) fun v20 =>
    F_X11_marks_6 G h a0 x1 x2 x3 n v19 v20
set_option maxHeartbeats 4000000 in
set_option maxRecDepth 100000 in
theorem tl_X11_marks_6 {p : Program} {l : Launch} {e : Env} {s : State} {m : MethodId} {args : Array Value} {below : List Frame} {meth : Method} {c : Code} {D : va_G} {r : Int64} (hx : p.tables.exec = Jvm.exec) (hb : c.code = cX11_marks) (hr : meth.sig.returnType = (some .long)) (hlk : meth.locks = false) (hml : c.maxLocals = 7) (hown : s.vm.findClass RX11 = some m.cls) (hnm : meth.name = "marks") (hts : ∀ w ∈ xt, w.before args s = true) (G : Nat → Nat) (h : xH) (a0 : Nat) (x1 : Int32) (x2 : Int32) (x3 : Int32) : ∀ (n : Nat) (y4 : Int64) (x6 : Int32) (H : Heap) (locs : List Loc) (ls : Array Slot), F_X11_marks_6 G h a0 x1 x2 x3 n y4 x6 = some r → xR D G h s H → va_S (xA G) s.heap H locs → lv_has ls 7 [(0, va_rf (some a0)), (1, .int x1), (2, .int x2), (3, .int x3), (4, .long y4), (6, .int x6)] → W p l e rm_X11_marks s m args below meth c H locs 0 0 (MQ below (xQ D G (some (.long r)) h) args s rm_X11_marks.cells rm_X11_marks.slots (xA G)) (F0 m 6 ls []) := by
  intro n
  induction n with
  | zero =>
    intro y4 x6 H locs ls hF
    rw [F_X11_marks_6.eq_1] at hF
    cases hF
  | succ n ih =>
    intro y4 x6 H locs ls hF hR hS hl
    rw [F_X11_marks_6.eq_2] at hF
    refine lv_iload hx hb dX11_marks_6 (lv_at hl 5 rfl) ?_
    refine lv_iload_n hx hb dX11_marks_8 rfl (lv_at hl 3 rfl) ?_
    refine lv_icmp_ge (tgt := 79) hx hb dX11_marks_9 (by decide) (fun c1 => ?_) (fun c1 => ?_)
    · replace hF := xift c1 hF
      refine lv_lload hx hb dX11_marks_79 (lv_at hl 4 rfl) ?_
      cases hF
      exact x_lret hx hb hr hlk hR hS (by decide) (by decide) dX11_marks_81
    · replace hF := xiff c1 hF
      refine lv_lload hx hb dX11_marks_12 (lv_at hl 4 rfl) ?_
      refine lv_iload_n hx hb dX11_marks_14 rfl (lv_at hl 2 rfl) ?_
      refine lv_if_eq (tgt := 45) hx hb dX11_marks_15 (by decide) (fun c2 => ?_) (fun c2 => ?_)
      · replace hF := xift c2 hF
        refine x_aload_n (o := (some a0)) hx hb dX11_marks_45 rfl (lv_at hl 0 rfl) ?_
        replace hF := xbind hF; obtain ⟨w3, ew3, hF⟩ := hF
        refine x_getR (o := (some a0)) (ci := 11) (C := RX11) (T := TX11) (N := 42) hx hb hts iw_X11 hown hR rfl 25 (by decide) mm_968 (Or.inl rfl) ew3 dX11_marks_46 ?_
        refine lv_iload hx hb dX11_marks_49 (lv_at hl 5 rfl) ?_
        replace hF := xbind hF; obtain ⟨v4, ev4, hF⟩ := hF
        refine x_ild (o := w3) hx hb hR ev4 dX11_marks_51 ?_
        refine lv_iload_n hx hb dX11_marks_52 rfl (lv_at hl 1 rfl) ?_
        refine lv_icmp_le (tgt := 69) hx hb dX11_marks_53 (by decide) (fun c5 => ?_) (fun c5 => ?_)
        · replace hF := xift c5 hF
          refine lv_lconst (v := 0) hx hb dX11_marks_69 (by decide) ?_
          refine lv_ladd hx hb dX11_marks_70 ?_
          refine lv_topl (fun v6 ev6 => ?_)
          replace hF := xlet ev6 hF
          refine lv_lstore (lv' := [(4, .long v6), (0, va_rf (some a0)), (1, .int x1), (2, .int x2), (3, .int x3), (6, .int x6)]) hx hb dX11_marks_71 hl (by decide) (by first | rfl | (simp [xrf_cat, xcI, xcJ, xcA]; done) | (simp [xrf_cat, xcI, xcJ, xcA]; decide)) (fun ls hl => ?_)
          obtain ⟨v7, ev7⟩ : ∃ z : Int32, z = (x6 + 1) := ⟨_, rfl⟩
          replace hF := xlet ev7 hF
          refine lv_iinc (v := v7) (lv' := [(6, .int v7), (4, .long v6), (0, va_rf (some a0)), (1, .int x1), (2, .int x2), (3, .int x3)]) hx hb dX11_marks_73 hl (k := 5) rfl (by rw [ev7]; rfl) (by decide) (by first | rfl | (simp [xrf_cat, xcI, xcJ, xcA]; done) | (simp [xrf_cat, xcI, xcJ, xcA]; decide)) (fun ls hl => ?_)
          refine lv_goto (tgt := 6) hx hb dX11_marks_76 (by decide) ?_
          exact ih v6 v7 _ _ _ hF hR hS (lv_sub hl [2, 3, 4, 5, 1, 0] rfl)
        · replace hF := xiff c5 hF
          refine x_aload_n (o := (some a0)) hx hb dX11_marks_56 rfl (lv_at hl 0 rfl) ?_
          replace hF := xbind hF; obtain ⟨w8, ew8, hF⟩ := hF
          refine x_getR (o := (some a0)) (ci := 11) (C := RX11) (T := TX11) (N := 42) hx hb hts iw_X11 hown hR rfl 25 (by decide) mm_968 (Or.inl rfl) ew8 dX11_marks_57 ?_
          refine lv_iload hx hb dX11_marks_60 (lv_at hl 5 rfl) ?_
          replace hF := xbind hF; obtain ⟨v9, ev9, hF⟩ := hF
          refine x_ild (o := w8) hx hb hR ev9 dX11_marks_62 ?_
          refine lv_iload_n hx hb dX11_marks_63 rfl (lv_at hl 1 rfl) ?_
          refine lv_isub hx hb dX11_marks_64 ?_
          refine lv_i2l (v := (((v9 - x1) : Int32).toInt64)) hx hb dX11_marks_65 rfl ?_
          refine lv_goto (tgt := 70) hx hb dX11_marks_66 (by decide) ?_
          refine lv_ladd hx hb dX11_marks_70 ?_
          refine lv_topl (fun v10 ev10 => ?_)
          replace hF := xlet ev10 hF
          refine lv_lstore (lv' := [(4, .long v10), (0, va_rf (some a0)), (1, .int x1), (2, .int x2), (3, .int x3), (6, .int x6)]) hx hb dX11_marks_71 hl (by decide) (by first | rfl | (simp [xrf_cat, xcI, xcJ, xcA]; done) | (simp [xrf_cat, xcI, xcJ, xcA]; decide)) (fun ls hl => ?_)
          obtain ⟨v11, ev11⟩ : ∃ z : Int32, z = (x6 + 1) := ⟨_, rfl⟩
          replace hF := xlet ev11 hF
          refine lv_iinc (v := v11) (lv' := [(6, .int v11), (4, .long v10), (0, va_rf (some a0)), (1, .int x1), (2, .int x2), (3, .int x3)]) hx hb dX11_marks_73 hl (k := 5) rfl (by rw [ev11]; rfl) (by decide) (by first | rfl | (simp [xrf_cat, xcI, xcJ, xcA]; done) | (simp [xrf_cat, xcI, xcJ, xcA]; decide)) (fun ls hl => ?_)
          refine lv_goto (tgt := 6) hx hb dX11_marks_76 (by decide) ?_
          exact ih v10 v11 _ _ _ hF hR hS (lv_sub hl [2, 3, 4, 5, 1, 0] rfl)
      · replace hF := xiff c2 hF
        refine x_aload_n (o := (some a0)) hx hb dX11_marks_18 rfl (lv_at hl 0 rfl) ?_
        replace hF := xbind hF; obtain ⟨w12, ew12, hF⟩ := hF
        refine x_getR (o := (some a0)) (ci := 11) (C := RX11) (T := TX11) (N := 42) hx hb hts iw_X11 hown hR rfl 25 (by decide) mm_968 (Or.inl rfl) ew12 dX11_marks_19 ?_
        refine lv_iload hx hb dX11_marks_22 (lv_at hl 5 rfl) ?_
        replace hF := xbind hF; obtain ⟨v13, ev13, hF⟩ := hF
        refine x_ild (o := w12) hx hb hR ev13 dX11_marks_24 ?_
        refine lv_iload_n hx hb dX11_marks_25 rfl (lv_at hl 1 rfl) ?_
        refine lv_icmp_ge (tgt := 40) hx hb dX11_marks_26 (by decide) (fun c14 => ?_) (fun c14 => ?_)
        · replace hF := xift c14 hF
          refine lv_iload_n hx hb dX11_marks_40 rfl (lv_at hl 1 rfl) ?_
          refine lv_i2l (v := ((x1 : Int32).toInt64)) hx hb dX11_marks_41 rfl ?_
          refine lv_goto (tgt := 70) hx hb dX11_marks_42 (by decide) ?_
          refine lv_ladd hx hb dX11_marks_70 ?_
          refine lv_topl (fun v15 ev15 => ?_)
          replace hF := xlet ev15 hF
          refine lv_lstore (lv' := [(4, .long v15), (0, va_rf (some a0)), (1, .int x1), (2, .int x2), (3, .int x3), (6, .int x6)]) hx hb dX11_marks_71 hl (by decide) (by first | rfl | (simp [xrf_cat, xcI, xcJ, xcA]; done) | (simp [xrf_cat, xcI, xcJ, xcA]; decide)) (fun ls hl => ?_)
          obtain ⟨v16, ev16⟩ : ∃ z : Int32, z = (x6 + 1) := ⟨_, rfl⟩
          replace hF := xlet ev16 hF
          refine lv_iinc (v := v16) (lv' := [(6, .int v16), (4, .long v15), (0, va_rf (some a0)), (1, .int x1), (2, .int x2), (3, .int x3)]) hx hb dX11_marks_73 hl (k := 5) rfl (by rw [ev16]; rfl) (by decide) (by first | rfl | (simp [xrf_cat, xcI, xcJ, xcA]; done) | (simp [xrf_cat, xcI, xcJ, xcA]; decide)) (fun ls hl => ?_)
          refine lv_goto (tgt := 6) hx hb dX11_marks_76 (by decide) ?_
          exact ih v15 v16 _ _ _ hF hR hS (lv_sub hl [2, 3, 4, 5, 1, 0] rfl)
        · replace hF := xiff c14 hF
          refine x_aload_n (o := (some a0)) hx hb dX11_marks_29 rfl (lv_at hl 0 rfl) ?_
          replace hF := xbind hF; obtain ⟨w17, ew17, hF⟩ := hF
          refine x_getR (o := (some a0)) (ci := 11) (C := RX11) (T := TX11) (N := 42) hx hb hts iw_X11 hown hR rfl 25 (by decide) mm_968 (Or.inl rfl) ew17 dX11_marks_30 ?_
          refine lv_iload hx hb dX11_marks_33 (lv_at hl 5 rfl) ?_
          replace hF := xbind hF; obtain ⟨v18, ev18, hF⟩ := hF
          refine x_ild (o := w17) hx hb hR ev18 dX11_marks_35 ?_
          refine lv_i2l (v := ((v18 : Int32).toInt64)) hx hb dX11_marks_36 rfl ?_
          refine lv_goto (tgt := 70) hx hb dX11_marks_37 (by decide) ?_
          refine lv_ladd hx hb dX11_marks_70 ?_
          refine lv_topl (fun v19 ev19 => ?_)
          replace hF := xlet ev19 hF
          refine lv_lstore (lv' := [(4, .long v19), (0, va_rf (some a0)), (1, .int x1), (2, .int x2), (3, .int x3), (6, .int x6)]) hx hb dX11_marks_71 hl (by decide) (by first | rfl | (simp [xrf_cat, xcI, xcJ, xcA]; done) | (simp [xrf_cat, xcI, xcJ, xcA]; decide)) (fun ls hl => ?_)
          obtain ⟨v20, ev20⟩ : ∃ z : Int32, z = (x6 + 1) := ⟨_, rfl⟩
          replace hF := xlet ev20 hF
          refine lv_iinc (v := v20) (lv' := [(6, .int v20), (4, .long v19), (0, va_rf (some a0)), (1, .int x1), (2, .int x2), (3, .int x3)]) hx hb dX11_marks_73 hl (k := 5) rfl (by rw [ev20]; rfl) (by decide) (by first | rfl | (simp [xrf_cat, xcI, xcJ, xcA]; done) | (simp [xrf_cat, xcI, xcJ, xcA]; decide)) (fun ls hl => ?_)
          refine lv_goto (tgt := 6) hx hb dX11_marks_76 (by decide) ?_
          exact ih v19 v20 _ _ _ hF hR hS (lv_sub hl [2, 3, 4, 5, 1, 0] rfl)
def F_X11_marks (G : Nat → Nat) (h : xH) (a0 : Nat) (x1 : Int32) (x2 : Int32) (x3 : Int32) : Option Int64 :=
  F_X11_marks_6 G h a0 x1 x2 x3 xN 0 0
set_option maxHeartbeats 4000000 in
set_option maxRecDepth 100000 in
theorem t_X11_marks (l : Launch) (D : va_G) (G : Nat → Nat) (h : xH) (a0 : Nat) (x1 : Int32) (x2 : Int32) (x3 : Int32) (r : Int64) (hF : F_X11_marks G h a0 x1 x2 x3 = some r) : xC l yX11_marks cX11_marks 7 (some .long) (rm_X11_marks) D G h [.ref a0, .int x1, .int x2, .int x3] (some (.long r)) h := by
  refine xC_of (by decide) (by first | decide | exact Nat.le_of_ble_eq_true rfl) ?_
  intro p e s m args below meth c ls hx hb hr hlk hml hown hnm hts hR hS hl
  have hl : lv_has ls 7 [(0, va_rf (some a0)), (1, .int x1), (2, .int x2), (3, .int x3)] := hl
  unfold F_X11_marks at hF
  refine lv_lconst (v := 0) hx hb dX11_marks_0 (by decide) ?_
  refine lv_lstore (lv' := [(4, .long 0), (0, va_rf (some a0)), (1, .int x1), (2, .int x2), (3, .int x3)]) hx hb dX11_marks_1 hl (by decide) (by first | rfl | (simp [xrf_cat, xcI, xcJ, xcA]; done) | (simp [xrf_cat, xcI, xcJ, xcA]; decide)) (fun ls hl => ?_)
  refine lv_iconst (v := 0) hx hb dX11_marks_3 (by decide) ?_
  refine lv_istore (lv' := [(6, .int 0), (4, .long 0), (0, va_rf (some a0)), (1, .int x1), (2, .int x2), (3, .int x3)]) hx hb dX11_marks_4 hl (by decide) (by first | rfl | (simp [xrf_cat, xcI, xcJ, xcA]; done) | (simp [xrf_cat, xcI, xcJ, xcA]; decide)) (fun ls hl => ?_)
  refine W.widen (k := 0) (n := 0) (by decide) (by decide) ?_
  exact tl_X11_marks_6 hx hb hr hlk hml hown hnm hts G h a0 x1 x2 x3 _ 0 0 _ _ _ hF hR hS (lv_sub hl [2, 3, 4, 5, 1, 0] rfl)
def rm_X11_made : Room := { frames := 1, cells := 0, slots := 0, locals := 26 }
theorem f_X11_made : xM yX11_made cX11_made 9 (some .int) 3 := ⟨mm_1164, mm_62, by decide +kernel, by decide +kernel⟩
theorem dX11_made_0 : decode cX11_made 0 = .ok (.aload_n 0, 1) := by decide +kernel
theorem dX11_made_1 : decode cX11_made 1 = .ok (.iconst 0, 1) := by decide +kernel
theorem dX11_made_2 : decode cX11_made 2 = .ok (.putfield 93, 3) := by decide +kernel
theorem dX11_made_5 : decode cX11_made 5 = .ok (.aload_n 0, 1) := by decide +kernel
theorem dX11_made_6 : decode cX11_made 6 = .ok (.getfield 171, 3) := by decide +kernel
theorem dX11_made_9 : decode cX11_made 9 = .ok (.istore 4, 2) := by decide +kernel
theorem dX11_made_11 : decode cX11_made 11 = .ok (.aload_n 0, 1) := by decide +kernel
theorem dX11_made_12 : decode cX11_made 12 = .ok (.iconst 0, 1) := by decide +kernel
theorem dX11_made_13 : decode cX11_made 13 = .ok (.putfield 171, 3) := by decide +kernel
theorem dX11_made_16 : decode cX11_made 16 = .ok (.iload 4, 2) := by decide +kernel
theorem dX11_made_18 : decode cX11_made 18 = .ok (.ifCond .le 37, 3) := by decide +kernel
theorem dX11_made_21 : decode cX11_made 21 = .ok (.iload_n 2, 1) := by decide +kernel
theorem dX11_made_22 : decode cX11_made 22 = .ok (.iconst 1, 1) := by decide +kernel
theorem dX11_made_23 : decode cX11_made 23 = .ok (.if_icmp .lt 32, 3) := by decide +kernel
theorem dX11_made_26 : decode cX11_made 26 = .ok (.iload_n 2, 1) := by decide +kernel
theorem dX11_made_27 : decode cX11_made 27 = .ok (.iload 4, 2) := by decide +kernel
theorem dX11_made_29 : decode cX11_made 29 = .ok (.if_icmp .gt 26, 3) := by decide +kernel
theorem dX11_made_32 : decode cX11_made 32 = .ok (.iload_n 3, 1) := by decide +kernel
theorem dX11_made_33 : decode cX11_made 33 = .ok (.ifCond .lt 22, 3) := by decide +kernel
theorem dX11_made_36 : decode cX11_made 36 = .ok (.iload_n 3, 1) := by decide +kernel
theorem dX11_made_37 : decode cX11_made 37 = .ok (.iconst 1, 1) := by decide +kernel
theorem dX11_made_38 : decode cX11_made 38 = .ok (.if_icmp .gt 17, 3) := by decide +kernel
theorem dX11_made_41 : decode cX11_made 41 = .ok (.iload_n 1, 1) := by decide +kernel
theorem dX11_made_42 : decode cX11_made 42 = .ok (.ifCond .lt 13, 3) := by decide +kernel
theorem dX11_made_45 : decode cX11_made 45 = .ok (.iload_n 1, 1) := by decide +kernel
theorem dX11_made_46 : decode cX11_made 46 = .ok (.ldc 170, 2) := by decide +kernel
theorem dX11_made_48 : decode cX11_made 48 = .ok (.if_icmp .gt 7, 3) := by decide +kernel
theorem dX11_made_51 : decode cX11_made 51 = .ok (.iconst 1, 1) := by decide +kernel
theorem dX11_made_52 : decode cX11_made 52 = .ok (.goto 4, 3) := by decide +kernel
theorem dX11_made_55 : decode cX11_made 55 = .ok (.iconst 0, 1) := by decide +kernel
theorem dX11_made_56 : decode cX11_made 56 = .ok (.istore 5, 2) := by decide +kernel
theorem dX11_made_58 : decode cX11_made 58 = .ok (.iconst 0, 1) := by decide +kernel
theorem dX11_made_59 : decode cX11_made 59 = .ok (.istore 6, 2) := by decide +kernel
theorem dX11_made_61 : decode cX11_made 61 = .ok (.iload 6, 2) := by decide +kernel
theorem dX11_made_63 : decode cX11_made 63 = .ok (.iload 4, 2) := by decide +kernel
theorem dX11_made_65 : decode cX11_made 65 = .ok (.if_icmp .ge 32, 3) := by decide +kernel
theorem dX11_made_68 : decode cX11_made 68 = .ok (.iload 5, 2) := by decide +kernel
theorem dX11_made_70 : decode cX11_made 70 = .ok (.ifCond .eq 18, 3) := by decide +kernel
theorem dX11_made_73 : decode cX11_made 73 = .ok (.aload_n 0, 1) := by decide +kernel
theorem dX11_made_74 : decode cX11_made 74 = .ok (.getfield 50, 3) := by decide +kernel
theorem dX11_made_77 : decode cX11_made 77 = .ok (.iload 6, 2) := by decide +kernel
theorem dX11_made_79 : decode cX11_made 79 = .ok (.iaload, 1) := by decide +kernel
theorem dX11_made_80 : decode cX11_made 80 = .ok (.iload_n 1, 1) := by decide +kernel
theorem dX11_made_81 : decode cX11_made 81 = .ok (.if_icmp .gt 7, 3) := by decide +kernel
theorem dX11_made_84 : decode cX11_made 84 = .ok (.iconst 1, 1) := by decide +kernel
theorem dX11_made_85 : decode cX11_made 85 = .ok (.goto 4, 3) := by decide +kernel
theorem dX11_made_88 : decode cX11_made 88 = .ok (.iconst 0, 1) := by decide +kernel
theorem dX11_made_89 : decode cX11_made 89 = .ok (.istore 5, 2) := by decide +kernel
theorem dX11_made_91 : decode cX11_made 91 = .ok (.iinc 6 1, 3) := by decide +kernel
theorem dX11_made_94 : decode cX11_made 94 = .ok (.goto (-33), 3) := by decide +kernel
theorem dX11_made_97 : decode cX11_made 97 = .ok (.iload 5, 2) := by decide +kernel
theorem dX11_made_99 : decode cX11_made 99 = .ok (.ifCond .ne 5, 3) := by decide +kernel
theorem dX11_made_102 : decode cX11_made 102 = .ok (.iconst (-1), 1) := by decide +kernel
theorem dX11_made_103 : decode cX11_made 103 = .ok (.ireturn, 1) := by decide +kernel
theorem dX11_made_104 : decode cX11_made 104 = .ok (.iload 4, 2) := by decide +kernel
theorem dX11_made_106 : decode cX11_made 106 = .ok (.iload_n 2, 1) := by decide +kernel
theorem dX11_made_107 : decode cX11_made 107 = .ok (.isub, 1) := by decide +kernel
theorem dX11_made_108 : decode cX11_made 108 = .ok (.iconst 1, 1) := by decide +kernel
theorem dX11_made_109 : decode cX11_made 109 = .ok (.iadd, 1) := by decide +kernel
theorem dX11_made_110 : decode cX11_made 110 = .ok (.i2l, 1) := by decide +kernel
theorem dX11_made_111 : decode cX11_made 111 = .ok (.lstore 6, 2) := by decide +kernel
theorem dX11_made_113 : decode cX11_made 113 = .ok (.iload_n 3, 1) := by decide +kernel
theorem dX11_made_114 : decode cX11_made 114 = .ok (.ifCond .ne 7, 3) := by decide +kernel
theorem dX11_made_117 : decode cX11_made 117 = .ok (.iconst 0, 1) := by decide +kernel
theorem dX11_made_118 : decode cX11_made 118 = .ok (.goto 4, 3) := by decide +kernel
theorem dX11_made_121 : decode cX11_made 121 = .ok (.iload_n 1, 1) := by decide +kernel
theorem dX11_made_122 : decode cX11_made 122 = .ok (.istore 8, 2) := by decide +kernel
theorem dX11_made_124 : decode cX11_made 124 = .ok (.iload_n 3, 1) := by decide +kernel
theorem dX11_made_125 : decode cX11_made 125 = .ok (.ifCond .ne 32, 3) := by decide +kernel
theorem dX11_made_128 : decode cX11_made 128 = .ok (.aload_n 0, 1) := by decide +kernel
theorem dX11_made_129 : decode cX11_made 129 = .ok (.iload 8, 2) := by decide +kernel
theorem dX11_made_131 : decode cX11_made 131 = .ok (.iconst 0, 1) := by decide +kernel
theorem dX11_made_132 : decode cX11_made 132 = .ok (.iload 4, 2) := by decide +kernel
theorem dX11_made_134 : decode cX11_made 134 = .ok (.invokevirtual 174, 3) := by decide +kernel
theorem dX11_made_137 : decode cX11_made 137 = .ok (.lload 6, 2) := by decide +kernel
theorem dX11_made_139 : decode cX11_made 139 = .ok (.lconst 1, 1) := by decide +kernel
theorem dX11_made_140 : decode cX11_made 140 = .ok (.lsub, 1) := by decide +kernel
theorem dX11_made_141 : decode cX11_made 141 = .ok (.iload_n 1, 1) := by decide +kernel
theorem dX11_made_142 : decode cX11_made 142 = .ok (.iload 8, 2) := by decide +kernel
theorem dX11_made_144 : decode cX11_made 144 = .ok (.isub, 1) := by decide +kernel
theorem dX11_made_145 : decode cX11_made 145 = .ok (.i2l, 1) := by decide +kernel
theorem dX11_made_146 : decode cX11_made 146 = .ok (.lmul, 1) := by decide +kernel
theorem dX11_made_147 : decode cX11_made 147 = .ok (.lcmp, 1) := by decide +kernel
theorem dX11_made_148 : decode cX11_made 148 = .ok (.ifCond .le 34, 3) := by decide +kernel
theorem dX11_made_151 : decode cX11_made 151 = .ok (.iinc 8 1, 3) := by decide +kernel
theorem dX11_made_154 : decode cX11_made 154 = .ok (.goto (-26), 3) := by decide +kernel
theorem dX11_made_157 : decode cX11_made 157 = .ok (.aload_n 0, 1) := by decide +kernel
theorem dX11_made_158 : decode cX11_made 158 = .ok (.iload 8, 2) := by decide +kernel
theorem dX11_made_160 : decode cX11_made 160 = .ok (.iconst 1, 1) := by decide +kernel
theorem dX11_made_161 : decode cX11_made 161 = .ok (.iload 4, 2) := by decide +kernel
theorem dX11_made_163 : decode cX11_made 163 = .ok (.invokevirtual 174, 3) := by decide +kernel
theorem dX11_made_166 : decode cX11_made 166 = .ok (.lload 6, 2) := by decide +kernel
theorem dX11_made_168 : decode cX11_made 168 = .ok (.iload 8, 2) := by decide +kernel
theorem dX11_made_170 : decode cX11_made 170 = .ok (.i2l, 1) := by decide +kernel
theorem dX11_made_171 : decode cX11_made 171 = .ok (.lmul, 1) := by decide +kernel
theorem dX11_made_172 : decode cX11_made 172 = .ok (.lcmp, 1) := by decide +kernel
theorem dX11_made_173 : decode cX11_made 173 = .ok (.ifCond .ge 9, 3) := by decide +kernel
theorem dX11_made_176 : decode cX11_made 176 = .ok (.iinc 8 (-1), 3) := by decide +kernel
theorem dX11_made_179 : decode cX11_made 179 = .ok (.goto (-22), 3) := by decide +kernel
theorem dX11_made_182 : decode cX11_made 182 = .ok (.iload 8, 2) := by decide +kernel
theorem dX11_made_184 : decode cX11_made 184 = .ok (.ireturn, 1) := by decide +kernel
def F_X11_made_157 (G : Nat → Nat) (h : xH) (a0 : Nat) (x4 : Int32) (y6 : Int64) : Nat → Int32 → Option (Int32 × xH)
  | 0, _ => none
  | n + 1, x8 =>
    (xc h (some a0) 11).bind fun b11 =>
    (F_X11_marks G h b11 x8 1 x4).bind fun v10 =>
    if 0 ≤ (lg_cmp v10 (y6 * ((x8 : Int32).toInt64))) then
      some (x8, h)
    else
    xl (x8 + (-1)) fun v13 =>
    F_X11_made_157 G h a0 x4 y6 n v13
set_option maxHeartbeats 4000000 in
set_option maxRecDepth 100000 in
theorem tl_X11_made_157 {p : Program} {l : Launch} {e : Env} {s : State} {m : MethodId} {args : Array Value} {below : List Frame} {meth : Method} {c : Code} {D : va_G} {r : Int32} {h' : xH} (hx : p.tables.exec = Jvm.exec) (hb : c.code = cX11_made) (hr : meth.sig.returnType = (some .int)) (hlk : meth.locks = false) (hml : c.maxLocals = 9) (hown : s.vm.findClass RX11 = some m.cls) (hnm : meth.name = "made") (hts : ∀ w ∈ xt, w.before args s = true) (G : Nat → Nat) (h : xH) (a0 : Nat) (x4 : Int32) (y6 : Int64) : ∀ (n : Nat) (x8 : Int32) (H : Heap) (locs : List Loc) (ls : Array Slot), F_X11_made_157 G h a0 x4 y6 n x8 = some (r, h') → xR D G h s H → va_S (xA G) s.heap H locs → lv_has ls 9 [(0, va_rf (some a0)), (4, .int x4), (6, .long y6), (8, .int x8)] → W p l e rm_X11_made s m args below meth c H locs 0 0 (MQ below (xQ D G (some (.int r)) h') args s rm_X11_made.cells rm_X11_made.slots (xA G)) (F0 m 157 ls []) := by
  intro n
  induction n with
  | zero =>
    intro x8 H locs ls hF
    rw [F_X11_made_157.eq_1] at hF
    cases hF
  | succ n ih =>
    intro x8 H locs ls hF hR hS hl
    rw [F_X11_made_157.eq_2] at hF
    refine x_aload_n (o := (some a0)) hx hb dX11_made_157 rfl (lv_at hl 0 rfl) ?_
    refine lv_iload hx hb dX11_made_158 (lv_at hl 3 rfl) ?_
    refine lv_iconst (v := 1) hx hb dX11_made_160 (by decide) ?_
    refine lv_iload hx hb dX11_made_161 (lv_at hl 1 rfl) ?_
    replace hF := xbind hF; obtain ⟨b11, eb11, hF⟩ := hF
    replace hF := xbind hF; obtain ⟨v10, ev10, hF⟩ := hF
    refine x_callV (o := (some a0)) (ci := 11) (As := [.int x8, .int 1, .int x4]) (rest := []) (v := (some (.long v10))) (k := 3) hx hb hml hown hts hR hS eb11 rfl rfl (t_X11_marks l D G h b11 x8 1 x4 v10 ev10) f_X11_marks mm_1165 mm_1167 mm_43 rfl hl.1 rfl (by first | exact Nat.le_of_ble_eq_true rfl | simp [xrf_cat, xcI, xcJ, xcA]) dX11_made_163 (by decide) (by decide) rfl (fun H locs hR hS => ?_)
    refine lv_lload hx hb dX11_made_166 (lv_at hl 2 rfl) ?_
    refine lv_iload hx hb dX11_made_168 (lv_at hl 3 rfl) ?_
    refine lv_i2l (v := ((x8 : Int32).toInt64)) hx hb dX11_made_170 rfl ?_
    refine lv_lmul hx hb dX11_made_171 ?_
    refine W.lcmp hx hb dX11_made_172 ?_
    refine lv_if_ge (tgt := 182) hx hb dX11_made_173 (by decide) (fun c12 => ?_) (fun c12 => ?_)
    · replace hF := xift c12 hF
      refine lv_iload hx hb dX11_made_182 (lv_at hl 3 rfl) ?_
      cases hF
      exact x_iret hx hb hr rfl hlk hR hS (by decide) (by decide) dX11_made_184
    · replace hF := xiff c12 hF
      obtain ⟨v13, ev13⟩ : ∃ z : Int32, z = (x8 + (-1)) := ⟨_, rfl⟩
      replace hF := xlet ev13 hF
      refine lv_iinc (v := v13) (lv' := [(8, .int v13), (0, va_rf (some a0)), (4, .int x4), (6, .long y6)]) hx hb dX11_made_176 hl (k := 3) rfl (by rw [ev13]; rfl) (by decide) (by first | rfl | (simp [xrf_cat, xcI, xcJ, xcA]; done) | (simp [xrf_cat, xcI, xcJ, xcA]; decide)) (fun ls hl => ?_)
      refine lv_goto (tgt := 157) hx hb dX11_made_179 (by decide) ?_
      exact ih v13 _ _ _ hF hR hS (lv_sub hl [1, 2, 3, 0] rfl)
def F_X11_made_128 (G : Nat → Nat) (h : xH) (a0 : Nat) (x1 : Int32) (x4 : Int32) (y6 : Int64) : Nat → Int32 → Option (Int32 × xH)
  | 0, _ => none
  | n + 1, x8 =>
    (xc h (some a0) 11).bind fun b15 =>
    (F_X11_marks G h b15 x8 0 x4).bind fun v14 =>
    if (lg_cmp v14 ((y6 - 1) * (((x1 - x8) : Int32).toInt64))) ≤ 0 then
      some (x8, h)
    else
    xl (x8 + 1) fun v17 =>
    F_X11_made_128 G h a0 x1 x4 y6 n v17
set_option maxHeartbeats 4000000 in
set_option maxRecDepth 100000 in
theorem tl_X11_made_128 {p : Program} {l : Launch} {e : Env} {s : State} {m : MethodId} {args : Array Value} {below : List Frame} {meth : Method} {c : Code} {D : va_G} {r : Int32} {h' : xH} (hx : p.tables.exec = Jvm.exec) (hb : c.code = cX11_made) (hr : meth.sig.returnType = (some .int)) (hlk : meth.locks = false) (hml : c.maxLocals = 9) (hown : s.vm.findClass RX11 = some m.cls) (hnm : meth.name = "made") (hts : ∀ w ∈ xt, w.before args s = true) (G : Nat → Nat) (h : xH) (a0 : Nat) (x1 : Int32) (x4 : Int32) (y6 : Int64) : ∀ (n : Nat) (x8 : Int32) (H : Heap) (locs : List Loc) (ls : Array Slot), F_X11_made_128 G h a0 x1 x4 y6 n x8 = some (r, h') → xR D G h s H → va_S (xA G) s.heap H locs → lv_has ls 9 [(0, va_rf (some a0)), (1, .int x1), (4, .int x4), (6, .long y6), (8, .int x8)] → W p l e rm_X11_made s m args below meth c H locs 0 0 (MQ below (xQ D G (some (.int r)) h') args s rm_X11_made.cells rm_X11_made.slots (xA G)) (F0 m 128 ls []) := by
  intro n
  induction n with
  | zero =>
    intro x8 H locs ls hF
    rw [F_X11_made_128.eq_1] at hF
    cases hF
  | succ n ih =>
    intro x8 H locs ls hF hR hS hl
    rw [F_X11_made_128.eq_2] at hF
    refine x_aload_n (o := (some a0)) hx hb dX11_made_128 rfl (lv_at hl 0 rfl) ?_
    refine lv_iload hx hb dX11_made_129 (lv_at hl 4 rfl) ?_
    refine lv_iconst (v := 0) hx hb dX11_made_131 (by decide) ?_
    refine lv_iload hx hb dX11_made_132 (lv_at hl 2 rfl) ?_
    replace hF := xbind hF; obtain ⟨b15, eb15, hF⟩ := hF
    replace hF := xbind hF; obtain ⟨v14, ev14, hF⟩ := hF
    refine x_callV (o := (some a0)) (ci := 11) (As := [.int x8, .int 0, .int x4]) (rest := []) (v := (some (.long v14))) (k := 3) hx hb hml hown hts hR hS eb15 rfl rfl (t_X11_marks l D G h b15 x8 0 x4 v14 ev14) f_X11_marks mm_1165 mm_1167 mm_43 rfl hl.1 rfl (by first | exact Nat.le_of_ble_eq_true rfl | simp [xrf_cat, xcI, xcJ, xcA]) dX11_made_134 (by decide) (by decide) rfl (fun H locs hR hS => ?_)
    refine lv_lload hx hb dX11_made_137 (lv_at hl 3 rfl) ?_
    refine lv_lconst (v := 1) hx hb dX11_made_139 (by decide) ?_
    refine lv_lsub hx hb dX11_made_140 ?_
    refine lv_iload_n hx hb dX11_made_141 rfl (lv_at hl 1 rfl) ?_
    refine lv_iload hx hb dX11_made_142 (lv_at hl 4 rfl) ?_
    refine lv_isub hx hb dX11_made_144 ?_
    refine lv_i2l (v := (((x1 - x8) : Int32).toInt64)) hx hb dX11_made_145 rfl ?_
    refine lv_lmul hx hb dX11_made_146 ?_
    refine W.lcmp hx hb dX11_made_147 ?_
    refine lv_if_le (tgt := 182) hx hb dX11_made_148 (by decide) (fun c16 => ?_) (fun c16 => ?_)
    · replace hF := xift c16 hF
      refine lv_iload hx hb dX11_made_182 (lv_at hl 4 rfl) ?_
      cases hF
      exact x_iret hx hb hr rfl hlk hR hS (by decide) (by decide) dX11_made_184
    · replace hF := xiff c16 hF
      obtain ⟨v17, ev17⟩ : ∃ z : Int32, z = (x8 + 1) := ⟨_, rfl⟩
      replace hF := xlet ev17 hF
      refine lv_iinc (v := v17) (lv' := [(8, .int v17), (0, va_rf (some a0)), (1, .int x1), (4, .int x4), (6, .long y6)]) hx hb dX11_made_151 hl (k := 4) rfl (by rw [ev17]; rfl) (by decide) (by first | rfl | (simp [xrf_cat, xcI, xcJ, xcA]; done) | (simp [xrf_cat, xcI, xcJ, xcA]; decide)) (fun ls hl => ?_)
      refine lv_goto (tgt := 128) hx hb dX11_made_154 (by decide) ?_
      exact ih v17 _ _ _ hF hR hS (lv_sub hl [1, 2, 3, 4, 0] rfl)
def F_X11_made_61 (G : Nat → Nat) (h : xH) (a0 : Nat) (x1 : Int32) (x2 : Int32) (x3 : Int32) (x4 : Int32) : Nat → Int32 → Int32 → Option (Int32 × xH)
  | 0, _, _ => none
  | n + 1, x5, x6 =>
    if x4 ≤ x6 then
      if x5 = 0 then
        some ((-1), h)
      else
      xl ((((x4 - x2) + 1) : Int32).toInt64) fun v7 =>
      if x3 = 0 then
        if x3 = 0 then
          F_X11_made_128 G h a0 x1 x4 v7 xN 0
        else
        F_X11_made_157 G h a0 x4 v7 xN 0
      else
      if x3 = 0 then
        F_X11_made_128 G h a0 x1 x4 v7 xN x1
      else
      F_X11_made_157 G h a0 x4 v7 xN x1
    else
    if x5 = 0 then
      xl (x6 + 1) fun v20 =>
      F_X11_made_61 G h a0 x1 x2 x3 x4 n 0 v20
    else
    (gR h (some a0) 11 25).bind fun w21 =>
    (ldI 2 G h w21 x6).bind fun v22 =>
    if x1 < v22 then
      xl (x6 + 1) fun v24 =>
      F_X11_made_61 G h a0 x1 x2 x3 x4 n 0 v24
    else
    xl (x6 + 1) fun v25 =>
    F_X11_made_61 G h a0 x1 x2 x3 x4 n 1 v25
set_option maxHeartbeats 4000000 in
set_option maxRecDepth 100000 in
theorem tl_X11_made_61 {p : Program} {l : Launch} {e : Env} {s : State} {m : MethodId} {args : Array Value} {below : List Frame} {meth : Method} {c : Code} {D : va_G} {r : Int32} {h' : xH} (hx : p.tables.exec = Jvm.exec) (hb : c.code = cX11_made) (hr : meth.sig.returnType = (some .int)) (hlk : meth.locks = false) (hml : c.maxLocals = 9) (hown : s.vm.findClass RX11 = some m.cls) (hnm : meth.name = "made") (hts : ∀ w ∈ xt, w.before args s = true) (G : Nat → Nat) (h : xH) (a0 : Nat) (x1 : Int32) (x2 : Int32) (x3 : Int32) (x4 : Int32) : ∀ (n : Nat) (x5 : Int32) (x6 : Int32) (H : Heap) (locs : List Loc) (ls : Array Slot), F_X11_made_61 G h a0 x1 x2 x3 x4 n x5 x6 = some (r, h') → xR D G h s H → va_S (xA G) s.heap H locs → lv_has ls 9 [(0, va_rf (some a0)), (1, .int x1), (2, .int x2), (3, .int x3), (4, .int x4), (5, .int x5), (6, .int x6)] → W p l e rm_X11_made s m args below meth c H locs 0 0 (MQ below (xQ D G (some (.int r)) h') args s rm_X11_made.cells rm_X11_made.slots (xA G)) (F0 m 61 ls []) := by
  intro n
  induction n with
  | zero =>
    intro x5 x6 H locs ls hF
    rw [F_X11_made_61.eq_1] at hF
    cases hF
  | succ n ih =>
    intro x5 x6 H locs ls hF hR hS hl
    rw [F_X11_made_61.eq_2] at hF
    refine lv_iload hx hb dX11_made_61 (lv_at hl 6 rfl) ?_
    refine lv_iload hx hb dX11_made_63 (lv_at hl 4 rfl) ?_
    refine lv_icmp_ge (tgt := 97) hx hb dX11_made_65 (by decide) (fun c5 => ?_) (fun c5 => ?_)
    · replace hF := xift c5 hF
      refine lv_iload hx hb dX11_made_97 (lv_at hl 5 rfl) ?_
      refine lv_if_ne (tgt := 104) hx hb dX11_made_99 (by decide) (fun c6 => ?_) (fun c6 => ?_)
      · replace hF := xiff c6 hF
        refine lv_iload hx hb dX11_made_104 (lv_at hl 4 rfl) ?_
        refine lv_iload_n hx hb dX11_made_106 rfl (lv_at hl 2 rfl) ?_
        refine lv_isub hx hb dX11_made_107 ?_
        refine lv_iconst (v := 1) hx hb dX11_made_108 (by decide) ?_
        refine lv_iadd hx hb dX11_made_109 ?_
        refine lv_i2l (v := ((((x4 - x2) + 1) : Int32).toInt64)) hx hb dX11_made_110 rfl ?_
        refine lv_topl (fun v7 ev7 => ?_)
        replace hF := xlet ev7 hF
        refine lv_lstore (lv' := [(6, .long v7), (0, va_rf (some a0)), (1, .int x1), (2, .int x2), (3, .int x3), (4, .int x4), (5, .int x5)]) hx hb dX11_made_111 hl (by decide) (by first | rfl | (simp [xrf_cat, xcI, xcJ, xcA]; done) | (simp [xrf_cat, xcI, xcJ, xcA]; decide)) (fun ls hl => ?_)
        refine lv_iload_n hx hb dX11_made_113 rfl (lv_at hl 4 rfl) ?_
        refine lv_if_ne (tgt := 121) hx hb dX11_made_114 (by decide) (fun c8 => ?_) (fun c8 => ?_)
        · replace hF := xiff c8 hF
          refine lv_iload_n hx hb dX11_made_121 rfl (lv_at hl 2 rfl) ?_
          refine lv_istore (lv' := [(8, .int x1), (6, .long v7), (0, va_rf (some a0)), (1, .int x1), (2, .int x2), (3, .int x3), (4, .int x4), (5, .int x5)]) hx hb dX11_made_122 hl (by decide) (by first | rfl | (simp [xrf_cat, xcI, xcJ, xcA]; done) | (simp [xrf_cat, xcI, xcJ, xcA]; decide)) (fun ls hl => ?_)
          refine lv_iload_n hx hb dX11_made_124 rfl (lv_at hl 5 rfl) ?_
          refine lv_if_ne (tgt := 157) hx hb dX11_made_125 (by decide) (fun c9 => ?_) (fun c9 => ?_)
          · replace hF := xiff c9 hF
            refine W.widen (k := 0) (n := 0) (by decide) (by decide) ?_
            exact tl_X11_made_157 hx hb hr hlk hml hown hnm hts G h a0 x4 v7 _ x1 _ _ _ hF hR hS (lv_sub hl [2, 6, 1, 0] rfl)
          · replace hF := xift c9 hF
            refine W.widen (k := 0) (n := 0) (by decide) (by decide) ?_
            exact tl_X11_made_128 hx hb hr hlk hml hown hnm hts G h a0 x1 x4 v7 _ x1 _ _ _ hF hR hS (lv_sub hl [2, 3, 6, 1, 0] rfl)
        · replace hF := xift c8 hF
          refine lv_iconst (v := 0) hx hb dX11_made_117 (by decide) ?_
          refine lv_goto (tgt := 122) hx hb dX11_made_118 (by decide) ?_
          refine lv_istore (lv' := [(8, .int 0), (6, .long v7), (0, va_rf (some a0)), (1, .int x1), (2, .int x2), (3, .int x3), (4, .int x4), (5, .int x5)]) hx hb dX11_made_122 hl (by decide) (by first | rfl | (simp [xrf_cat, xcI, xcJ, xcA]; done) | (simp [xrf_cat, xcI, xcJ, xcA]; decide)) (fun ls hl => ?_)
          refine lv_iload_n hx hb dX11_made_124 rfl (lv_at hl 5 rfl) ?_
          refine lv_if_ne (tgt := 157) hx hb dX11_made_125 (by decide) (fun c18 => ?_) (fun c18 => ?_)
          · replace hF := xiff c18 hF
            refine W.widen (k := 0) (n := 0) (by decide) (by decide) ?_
            exact tl_X11_made_157 hx hb hr hlk hml hown hnm hts G h a0 x4 v7 _ 0 _ _ _ hF hR hS (lv_sub hl [2, 6, 1, 0] rfl)
          · replace hF := xift c18 hF
            refine W.widen (k := 0) (n := 0) (by decide) (by decide) ?_
            exact tl_X11_made_128 hx hb hr hlk hml hown hnm hts G h a0 x1 x4 v7 _ 0 _ _ _ hF hR hS (lv_sub hl [2, 3, 6, 1, 0] rfl)
      · replace hF := xift c6 hF
        refine lv_iconst (v := (-1)) hx hb dX11_made_102 (by decide) ?_
        cases hF
        exact x_iret hx hb hr rfl hlk hR hS (by decide) (by decide) dX11_made_103
    · replace hF := xiff c5 hF
      refine lv_iload hx hb dX11_made_68 (lv_at hl 5 rfl) ?_
      refine lv_if_eq (tgt := 88) hx hb dX11_made_70 (by decide) (fun c19 => ?_) (fun c19 => ?_)
      · replace hF := xift c19 hF
        refine lv_iconst (v := 0) hx hb dX11_made_88 (by decide) ?_
        refine lv_istore (lv' := [(5, .int 0), (0, va_rf (some a0)), (1, .int x1), (2, .int x2), (3, .int x3), (4, .int x4), (6, .int x6)]) hx hb dX11_made_89 hl (by decide) (by first | rfl | (simp [xrf_cat, xcI, xcJ, xcA]; done) | (simp [xrf_cat, xcI, xcJ, xcA]; decide)) (fun ls hl => ?_)
        obtain ⟨v20, ev20⟩ : ∃ z : Int32, z = (x6 + 1) := ⟨_, rfl⟩
        replace hF := xlet ev20 hF
        refine lv_iinc (v := v20) (lv' := [(6, .int v20), (5, .int 0), (0, va_rf (some a0)), (1, .int x1), (2, .int x2), (3, .int x3), (4, .int x4)]) hx hb dX11_made_91 hl (k := 6) rfl (by rw [ev20]; rfl) (by decide) (by first | rfl | (simp [xrf_cat, xcI, xcJ, xcA]; done) | (simp [xrf_cat, xcI, xcJ, xcA]; decide)) (fun ls hl => ?_)
        refine lv_goto (tgt := 61) hx hb dX11_made_94 (by decide) ?_
        exact ih 0 v20 _ _ _ hF hR hS (lv_sub hl [2, 3, 4, 5, 6, 1, 0] rfl)
      · replace hF := xiff c19 hF
        refine x_aload_n (o := (some a0)) hx hb dX11_made_73 rfl (lv_at hl 0 rfl) ?_
        replace hF := xbind hF; obtain ⟨w21, ew21, hF⟩ := hF
        refine x_getR (o := (some a0)) (ci := 11) (C := RX11) (T := TX11) (N := 42) hx hb hts iw_X11 hown hR rfl 25 (by decide) mm_968 (Or.inl rfl) ew21 dX11_made_74 ?_
        refine lv_iload hx hb dX11_made_77 (lv_at hl 6 rfl) ?_
        replace hF := xbind hF; obtain ⟨v22, ev22, hF⟩ := hF
        refine x_ild (o := w21) hx hb hR ev22 dX11_made_79 ?_
        refine lv_iload_n hx hb dX11_made_80 rfl (lv_at hl 1 rfl) ?_
        refine lv_icmp_gt (tgt := 88) hx hb dX11_made_81 (by decide) (fun c23 => ?_) (fun c23 => ?_)
        · replace hF := xift c23 hF
          refine lv_iconst (v := 0) hx hb dX11_made_88 (by decide) ?_
          refine lv_istore (lv' := [(5, .int 0), (0, va_rf (some a0)), (1, .int x1), (2, .int x2), (3, .int x3), (4, .int x4), (6, .int x6)]) hx hb dX11_made_89 hl (by decide) (by first | rfl | (simp [xrf_cat, xcI, xcJ, xcA]; done) | (simp [xrf_cat, xcI, xcJ, xcA]; decide)) (fun ls hl => ?_)
          obtain ⟨v24, ev24⟩ : ∃ z : Int32, z = (x6 + 1) := ⟨_, rfl⟩
          replace hF := xlet ev24 hF
          refine lv_iinc (v := v24) (lv' := [(6, .int v24), (5, .int 0), (0, va_rf (some a0)), (1, .int x1), (2, .int x2), (3, .int x3), (4, .int x4)]) hx hb dX11_made_91 hl (k := 6) rfl (by rw [ev24]; rfl) (by decide) (by first | rfl | (simp [xrf_cat, xcI, xcJ, xcA]; done) | (simp [xrf_cat, xcI, xcJ, xcA]; decide)) (fun ls hl => ?_)
          refine lv_goto (tgt := 61) hx hb dX11_made_94 (by decide) ?_
          exact ih 0 v24 _ _ _ hF hR hS (lv_sub hl [2, 3, 4, 5, 6, 1, 0] rfl)
        · replace hF := xiff c23 hF
          refine lv_iconst (v := 1) hx hb dX11_made_84 (by decide) ?_
          refine lv_goto (tgt := 89) hx hb dX11_made_85 (by decide) ?_
          refine lv_istore (lv' := [(5, .int 1), (0, va_rf (some a0)), (1, .int x1), (2, .int x2), (3, .int x3), (4, .int x4), (6, .int x6)]) hx hb dX11_made_89 hl (by decide) (by first | rfl | (simp [xrf_cat, xcI, xcJ, xcA]; done) | (simp [xrf_cat, xcI, xcJ, xcA]; decide)) (fun ls hl => ?_)
          obtain ⟨v25, ev25⟩ : ∃ z : Int32, z = (x6 + 1) := ⟨_, rfl⟩
          replace hF := xlet ev25 hF
          refine lv_iinc (v := v25) (lv' := [(6, .int v25), (5, .int 1), (0, va_rf (some a0)), (1, .int x1), (2, .int x2), (3, .int x3), (4, .int x4)]) hx hb dX11_made_91 hl (k := 6) rfl (by rw [ev25]; rfl) (by decide) (by first | rfl | (simp [xrf_cat, xcI, xcJ, xcA]; done) | (simp [xrf_cat, xcI, xcJ, xcA]; decide)) (fun ls hl => ?_)
          refine lv_goto (tgt := 61) hx hb dX11_made_94 (by decide) ?_
          exact ih 1 v25 _ _ _ hF hR hS (lv_sub hl [2, 3, 4, 5, 6, 1, 0] rfl)
def F_X11_made (G : Nat → Nat) (h : xH) (a0 : Nat) (x1 : Int32) (x2 : Int32) (x3 : Int32) : Option (Int32 × xH) :=
  (xp G h (some a0) 11 0 (.int 0)).bind fun h1 =>
  (gI h1 (some a0) 11 24).bind fun v2 =>
  (xp G h1 (some a0) 11 24 (.int 0)).bind fun h3 =>
  if v2 ≤ 0 then
    F_X11_made_61 G h3 a0 x1 x2 x3 v2 xN 0 0
  else
  if x2 < 1 then
    F_X11_made_61 G h3 a0 x1 x2 x3 v2 xN 0 0
  else
  if v2 < x2 then
    F_X11_made_61 G h3 a0 x1 x2 x3 v2 xN 0 0
  else
  if x3 < 0 then
    F_X11_made_61 G h3 a0 x1 x2 x3 v2 xN 0 0
  else
  if 1 < x3 then
    F_X11_made_61 G h3 a0 x1 x2 x3 v2 xN 0 0
  else
  if x1 < 0 then
    F_X11_made_61 G h3 a0 x1 x2 x3 v2 xN 0 0
  else
  if 100000 < x1 then
    F_X11_made_61 G h3 a0 x1 x2 x3 v2 xN 0 0
  else
  F_X11_made_61 G h3 a0 x1 x2 x3 v2 xN 1 0
set_option maxHeartbeats 4000000 in
set_option maxRecDepth 100000 in
theorem t_X11_made (l : Launch) (D : va_G) (G : Nat → Nat) (h : xH) (a0 : Nat) (x1 : Int32) (x2 : Int32) (x3 : Int32) (r : Int32) (h' : xH) (hF : F_X11_made G h a0 x1 x2 x3 = some (r, h')) : xC l yX11_made cX11_made 9 (some .int) (rm_X11_made) D G h [.ref a0, .int x1, .int x2, .int x3] (some (.int r)) h' := by
  refine xC_of (by decide) (by first | decide | exact Nat.le_of_ble_eq_true rfl) ?_
  intro p e s m args below meth c ls hx hb hr hlk hml hown hnm hts hR hS hl
  have hl : lv_has ls 9 [(0, va_rf (some a0)), (1, .int x1), (2, .int x2), (3, .int x3)] := hl
  unfold F_X11_made at hF
  refine x_aload_n (o := (some a0)) hx hb dX11_made_0 rfl (lv_at hl 0 rfl) ?_
  refine lv_iconst (v := 0) hx hb dX11_made_1 (by decide) ?_
  replace hF := xbind hF; obtain ⟨h1, eh1, hF⟩ := hF
  refine x_put (o := (some a0)) (ci := 11) (C := RX11) (T := TX11) (N := 42) hx hb hts iw_X11 tyX11_ok nmX11 hown hR hS rfl 0 (by decide) mm_943 (Or.inl rfl) rfl rfl rfl eh1 dX11_made_2 (fun H locs hR hS => ?_)
  refine x_aload_n (o := (some a0)) hx hb dX11_made_5 rfl (lv_at hl 0 rfl) ?_
  replace hF := xbind hF; obtain ⟨v2, ev2, hF⟩ := hF
  refine x_getI (o := (some a0)) (ci := 11) (C := RX11) (T := TX11) (N := 42) hx hb hts iw_X11 hown hR rfl 24 (by decide) mm_967 (Or.inl rfl) ev2 dX11_made_6 ?_
  refine lv_istore (lv' := [(4, .int v2), (0, va_rf (some a0)), (1, .int x1), (2, .int x2), (3, .int x3)]) hx hb dX11_made_9 hl (by decide) (by first | rfl | (simp [xrf_cat, xcI, xcJ, xcA]; done) | (simp [xrf_cat, xcI, xcJ, xcA]; decide)) (fun ls hl => ?_)
  refine x_aload_n (o := (some a0)) hx hb dX11_made_11 rfl (lv_at hl 1 rfl) ?_
  refine lv_iconst (v := 0) hx hb dX11_made_12 (by decide) ?_
  replace hF := xbind hF; obtain ⟨h3, eh3, hF⟩ := hF
  refine x_put (o := (some a0)) (ci := 11) (C := RX11) (T := TX11) (N := 42) hx hb hts iw_X11 tyX11_ok nmX11 hown hR hS rfl 24 (by decide) mm_967 (Or.inl rfl) rfl rfl rfl eh3 dX11_made_13 (fun H locs hR hS => ?_)
  refine lv_iload hx hb dX11_made_16 (lv_at hl 0 rfl) ?_
  refine lv_if_le (tgt := 55) hx hb dX11_made_18 (by decide) (fun c4 => ?_) (fun c4 => ?_)
  · replace hF := xift c4 hF
    refine lv_iconst (v := 0) hx hb dX11_made_55 (by decide) ?_
    refine lv_istore (lv' := [(5, .int 0), (4, .int v2), (0, va_rf (some a0)), (1, .int x1), (2, .int x2), (3, .int x3)]) hx hb dX11_made_56 hl (by decide) (by first | rfl | (simp [xrf_cat, xcI, xcJ, xcA]; done) | (simp [xrf_cat, xcI, xcJ, xcA]; decide)) (fun ls hl => ?_)
    refine lv_iconst (v := 0) hx hb dX11_made_58 (by decide) ?_
    refine lv_istore (lv' := [(6, .int 0), (5, .int 0), (4, .int v2), (0, va_rf (some a0)), (1, .int x1), (2, .int x2), (3, .int x3)]) hx hb dX11_made_59 hl (by decide) (by first | rfl | (simp [xrf_cat, xcI, xcJ, xcA]; done) | (simp [xrf_cat, xcI, xcJ, xcA]; decide)) (fun ls hl => ?_)
    refine W.widen (k := 0) (n := 0) (by decide) (by decide) ?_
    exact tl_X11_made_61 hx hb hr hlk hml hown hnm hts G h3 a0 x1 x2 x3 v2 _ 0 0 _ _ _ hF hR hS (lv_sub hl [3, 4, 5, 6, 2, 1, 0] rfl)
  · replace hF := xiff c4 hF
    refine lv_iload_n hx hb dX11_made_21 rfl (lv_at hl 3 rfl) ?_
    refine lv_iconst (v := 1) hx hb dX11_made_22 (by decide) ?_
    refine lv_icmp_lt (tgt := 55) hx hb dX11_made_23 (by decide) (fun c26 => ?_) (fun c26 => ?_)
    · replace hF := xift c26 hF
      refine lv_iconst (v := 0) hx hb dX11_made_55 (by decide) ?_
      refine lv_istore (lv' := [(5, .int 0), (4, .int v2), (0, va_rf (some a0)), (1, .int x1), (2, .int x2), (3, .int x3)]) hx hb dX11_made_56 hl (by decide) (by first | rfl | (simp [xrf_cat, xcI, xcJ, xcA]; done) | (simp [xrf_cat, xcI, xcJ, xcA]; decide)) (fun ls hl => ?_)
      refine lv_iconst (v := 0) hx hb dX11_made_58 (by decide) ?_
      refine lv_istore (lv' := [(6, .int 0), (5, .int 0), (4, .int v2), (0, va_rf (some a0)), (1, .int x1), (2, .int x2), (3, .int x3)]) hx hb dX11_made_59 hl (by decide) (by first | rfl | (simp [xrf_cat, xcI, xcJ, xcA]; done) | (simp [xrf_cat, xcI, xcJ, xcA]; decide)) (fun ls hl => ?_)
      refine W.widen (k := 0) (n := 0) (by decide) (by decide) ?_
      exact tl_X11_made_61 hx hb hr hlk hml hown hnm hts G h3 a0 x1 x2 x3 v2 _ 0 0 _ _ _ hF hR hS (lv_sub hl [3, 4, 5, 6, 2, 1, 0] rfl)
    · replace hF := xiff c26 hF
      refine lv_iload_n hx hb dX11_made_26 rfl (lv_at hl 3 rfl) ?_
      refine lv_iload hx hb dX11_made_27 (lv_at hl 0 rfl) ?_
      refine lv_icmp_gt (tgt := 55) hx hb dX11_made_29 (by decide) (fun c27 => ?_) (fun c27 => ?_)
      · replace hF := xift c27 hF
        refine lv_iconst (v := 0) hx hb dX11_made_55 (by decide) ?_
        refine lv_istore (lv' := [(5, .int 0), (4, .int v2), (0, va_rf (some a0)), (1, .int x1), (2, .int x2), (3, .int x3)]) hx hb dX11_made_56 hl (by decide) (by first | rfl | (simp [xrf_cat, xcI, xcJ, xcA]; done) | (simp [xrf_cat, xcI, xcJ, xcA]; decide)) (fun ls hl => ?_)
        refine lv_iconst (v := 0) hx hb dX11_made_58 (by decide) ?_
        refine lv_istore (lv' := [(6, .int 0), (5, .int 0), (4, .int v2), (0, va_rf (some a0)), (1, .int x1), (2, .int x2), (3, .int x3)]) hx hb dX11_made_59 hl (by decide) (by first | rfl | (simp [xrf_cat, xcI, xcJ, xcA]; done) | (simp [xrf_cat, xcI, xcJ, xcA]; decide)) (fun ls hl => ?_)
        refine W.widen (k := 0) (n := 0) (by decide) (by decide) ?_
        exact tl_X11_made_61 hx hb hr hlk hml hown hnm hts G h3 a0 x1 x2 x3 v2 _ 0 0 _ _ _ hF hR hS (lv_sub hl [3, 4, 5, 6, 2, 1, 0] rfl)
      · replace hF := xiff c27 hF
        refine lv_iload_n hx hb dX11_made_32 rfl (lv_at hl 4 rfl) ?_
        refine lv_if_lt (tgt := 55) hx hb dX11_made_33 (by decide) (fun c28 => ?_) (fun c28 => ?_)
        · replace hF := xift c28 hF
          refine lv_iconst (v := 0) hx hb dX11_made_55 (by decide) ?_
          refine lv_istore (lv' := [(5, .int 0), (4, .int v2), (0, va_rf (some a0)), (1, .int x1), (2, .int x2), (3, .int x3)]) hx hb dX11_made_56 hl (by decide) (by first | rfl | (simp [xrf_cat, xcI, xcJ, xcA]; done) | (simp [xrf_cat, xcI, xcJ, xcA]; decide)) (fun ls hl => ?_)
          refine lv_iconst (v := 0) hx hb dX11_made_58 (by decide) ?_
          refine lv_istore (lv' := [(6, .int 0), (5, .int 0), (4, .int v2), (0, va_rf (some a0)), (1, .int x1), (2, .int x2), (3, .int x3)]) hx hb dX11_made_59 hl (by decide) (by first | rfl | (simp [xrf_cat, xcI, xcJ, xcA]; done) | (simp [xrf_cat, xcI, xcJ, xcA]; decide)) (fun ls hl => ?_)
          refine W.widen (k := 0) (n := 0) (by decide) (by decide) ?_
          exact tl_X11_made_61 hx hb hr hlk hml hown hnm hts G h3 a0 x1 x2 x3 v2 _ 0 0 _ _ _ hF hR hS (lv_sub hl [3, 4, 5, 6, 2, 1, 0] rfl)
        · replace hF := xiff c28 hF
          refine lv_iload_n hx hb dX11_made_36 rfl (lv_at hl 4 rfl) ?_
          refine lv_iconst (v := 1) hx hb dX11_made_37 (by decide) ?_
          refine lv_icmp_gt (tgt := 55) hx hb dX11_made_38 (by decide) (fun c29 => ?_) (fun c29 => ?_)
          · replace hF := xift c29 hF
            refine lv_iconst (v := 0) hx hb dX11_made_55 (by decide) ?_
            refine lv_istore (lv' := [(5, .int 0), (4, .int v2), (0, va_rf (some a0)), (1, .int x1), (2, .int x2), (3, .int x3)]) hx hb dX11_made_56 hl (by decide) (by first | rfl | (simp [xrf_cat, xcI, xcJ, xcA]; done) | (simp [xrf_cat, xcI, xcJ, xcA]; decide)) (fun ls hl => ?_)
            refine lv_iconst (v := 0) hx hb dX11_made_58 (by decide) ?_
            refine lv_istore (lv' := [(6, .int 0), (5, .int 0), (4, .int v2), (0, va_rf (some a0)), (1, .int x1), (2, .int x2), (3, .int x3)]) hx hb dX11_made_59 hl (by decide) (by first | rfl | (simp [xrf_cat, xcI, xcJ, xcA]; done) | (simp [xrf_cat, xcI, xcJ, xcA]; decide)) (fun ls hl => ?_)
            refine W.widen (k := 0) (n := 0) (by decide) (by decide) ?_
            exact tl_X11_made_61 hx hb hr hlk hml hown hnm hts G h3 a0 x1 x2 x3 v2 _ 0 0 _ _ _ hF hR hS (lv_sub hl [3, 4, 5, 6, 2, 1, 0] rfl)
          · replace hF := xiff c29 hF
            refine lv_iload_n hx hb dX11_made_41 rfl (lv_at hl 2 rfl) ?_
            refine lv_if_lt (tgt := 55) hx hb dX11_made_42 (by decide) (fun c30 => ?_) (fun c30 => ?_)
            · replace hF := xift c30 hF
              refine lv_iconst (v := 0) hx hb dX11_made_55 (by decide) ?_
              refine lv_istore (lv' := [(5, .int 0), (4, .int v2), (0, va_rf (some a0)), (1, .int x1), (2, .int x2), (3, .int x3)]) hx hb dX11_made_56 hl (by decide) (by first | rfl | (simp [xrf_cat, xcI, xcJ, xcA]; done) | (simp [xrf_cat, xcI, xcJ, xcA]; decide)) (fun ls hl => ?_)
              refine lv_iconst (v := 0) hx hb dX11_made_58 (by decide) ?_
              refine lv_istore (lv' := [(6, .int 0), (5, .int 0), (4, .int v2), (0, va_rf (some a0)), (1, .int x1), (2, .int x2), (3, .int x3)]) hx hb dX11_made_59 hl (by decide) (by first | rfl | (simp [xrf_cat, xcI, xcJ, xcA]; done) | (simp [xrf_cat, xcI, xcJ, xcA]; decide)) (fun ls hl => ?_)
              refine W.widen (k := 0) (n := 0) (by decide) (by decide) ?_
              exact tl_X11_made_61 hx hb hr hlk hml hown hnm hts G h3 a0 x1 x2 x3 v2 _ 0 0 _ _ _ hF hR hS (lv_sub hl [3, 4, 5, 6, 2, 1, 0] rfl)
            · replace hF := xiff c30 hF
              refine lv_iload_n hx hb dX11_made_45 rfl (lv_at hl 2 rfl) ?_
              refine lv_ldc hx hb hown (hts _ mm_1160) dX11_made_46 ?_
              refine lv_icmp_gt (tgt := 55) hx hb dX11_made_48 (by decide) (fun c31 => ?_) (fun c31 => ?_)
              · replace hF := xift c31 hF
                refine lv_iconst (v := 0) hx hb dX11_made_55 (by decide) ?_
                refine lv_istore (lv' := [(5, .int 0), (4, .int v2), (0, va_rf (some a0)), (1, .int x1), (2, .int x2), (3, .int x3)]) hx hb dX11_made_56 hl (by decide) (by first | rfl | (simp [xrf_cat, xcI, xcJ, xcA]; done) | (simp [xrf_cat, xcI, xcJ, xcA]; decide)) (fun ls hl => ?_)
                refine lv_iconst (v := 0) hx hb dX11_made_58 (by decide) ?_
                refine lv_istore (lv' := [(6, .int 0), (5, .int 0), (4, .int v2), (0, va_rf (some a0)), (1, .int x1), (2, .int x2), (3, .int x3)]) hx hb dX11_made_59 hl (by decide) (by first | rfl | (simp [xrf_cat, xcI, xcJ, xcA]; done) | (simp [xrf_cat, xcI, xcJ, xcA]; decide)) (fun ls hl => ?_)
                refine W.widen (k := 0) (n := 0) (by decide) (by decide) ?_
                exact tl_X11_made_61 hx hb hr hlk hml hown hnm hts G h3 a0 x1 x2 x3 v2 _ 0 0 _ _ _ hF hR hS (lv_sub hl [3, 4, 5, 6, 2, 1, 0] rfl)
              · replace hF := xiff c31 hF
                refine lv_iconst (v := 1) hx hb dX11_made_51 (by decide) ?_
                refine lv_goto (tgt := 56) hx hb dX11_made_52 (by decide) ?_
                refine lv_istore (lv' := [(5, .int 1), (4, .int v2), (0, va_rf (some a0)), (1, .int x1), (2, .int x2), (3, .int x3)]) hx hb dX11_made_56 hl (by decide) (by first | rfl | (simp [xrf_cat, xcI, xcJ, xcA]; done) | (simp [xrf_cat, xcI, xcJ, xcA]; decide)) (fun ls hl => ?_)
                refine lv_iconst (v := 0) hx hb dX11_made_58 (by decide) ?_
                refine lv_istore (lv' := [(6, .int 0), (5, .int 1), (4, .int v2), (0, va_rf (some a0)), (1, .int x1), (2, .int x2), (3, .int x3)]) hx hb dX11_made_59 hl (by decide) (by first | rfl | (simp [xrf_cat, xcI, xcJ, xcA]; done) | (simp [xrf_cat, xcI, xcJ, xcA]; decide)) (fun ls hl => ?_)
                refine W.widen (k := 0) (n := 0) (by decide) (by decide) ?_
                exact tl_X11_made_61 hx hb hr hlk hml hown hnm hts G h3 a0 x1 x2 x3 v2 _ 1 0 _ _ _ hF hR hS (lv_sub hl [3, 4, 5, 6, 2, 1, 0] rfl)
def rm_X11_isAlarm : Room := { frames := 0, cells := 0, slots := 0, locals := 0 }
theorem f_X11_isAlarm : xM yX11_isAlarm cX11_isAlarm 2 (some .boolean) 1 := ⟨mm_1180, mm_62, by decide +kernel, by decide +kernel⟩
theorem dX11_isAlarm_0 : decode cX11_isAlarm 0 = .ok (.iload_n 1, 1) := by decide +kernel
theorem dX11_isAlarm_1 : decode cX11_isAlarm 1 = .ok (.ifCond .lt 15, 3) := by decide +kernel
theorem dX11_isAlarm_4 : decode cX11_isAlarm 4 = .ok (.iload_n 1, 1) := by decide +kernel
theorem dX11_isAlarm_5 : decode cX11_isAlarm 5 = .ok (.aload_n 0, 1) := by decide +kernel
theorem dX11_isAlarm_6 : decode cX11_isAlarm 6 = .ok (.getfield 178, 3) := by decide +kernel
theorem dX11_isAlarm_9 : decode cX11_isAlarm 9 = .ok (.if_icmp .ge 7, 3) := by decide +kernel
theorem dX11_isAlarm_12 : decode cX11_isAlarm 12 = .ok (.iconst 1, 1) := by decide +kernel
theorem dX11_isAlarm_13 : decode cX11_isAlarm 13 = .ok (.goto 4, 3) := by decide +kernel
theorem dX11_isAlarm_16 : decode cX11_isAlarm 16 = .ok (.iconst 0, 1) := by decide +kernel
theorem dX11_isAlarm_17 : decode cX11_isAlarm 17 = .ok (.ireturn, 1) := by decide +kernel
def F_X11_isAlarm (G : Nat → Nat) (h : xH) (a0 : Nat) (x1 : Int32) : Option Int32 :=
  if x1 < 0 then
    some 0
  else
  (gI h (some a0) 11 26).bind fun v2 =>
  if v2 ≤ x1 then
    some 0
  else
  some 1
set_option maxHeartbeats 4000000 in
set_option maxRecDepth 100000 in
theorem t_X11_isAlarm (l : Launch) (D : va_G) (G : Nat → Nat) (h : xH) (a0 : Nat) (x1 : Int32) (r : Int32) (hF : F_X11_isAlarm G h a0 x1 = some r) : xC l yX11_isAlarm cX11_isAlarm 2 (some .boolean) (rm_X11_isAlarm) D G h [.ref a0, .int x1] (some (.int r)) h := by
  refine xC_of (by decide) (by first | decide | exact Nat.le_of_ble_eq_true rfl) ?_
  intro p e s m args below meth c ls hx hb hr hlk hml hown hnm hts hR hS hl
  have hl : lv_has ls 2 [(0, va_rf (some a0)), (1, .int x1)] := hl
  unfold F_X11_isAlarm at hF
  refine lv_iload_n hx hb dX11_isAlarm_0 rfl (lv_at hl 1 rfl) ?_
  refine lv_if_lt (tgt := 16) hx hb dX11_isAlarm_1 (by decide) (fun c1 => ?_) (fun c1 => ?_)
  · replace hF := xift c1 hF
    refine lv_iconst (v := 0) hx hb dX11_isAlarm_16 (by decide) ?_
    cases hF
    exact x_iret hx hb hr rfl hlk hR hS (by decide) (by decide) dX11_isAlarm_17
  · replace hF := xiff c1 hF
    refine lv_iload_n hx hb dX11_isAlarm_4 rfl (lv_at hl 1 rfl) ?_
    refine x_aload_n (o := (some a0)) hx hb dX11_isAlarm_5 rfl (lv_at hl 0 rfl) ?_
    replace hF := xbind hF; obtain ⟨v2, ev2, hF⟩ := hF
    refine x_getI (o := (some a0)) (ci := 11) (C := RX11) (T := TX11) (N := 42) hx hb hts iw_X11 hown hR rfl 26 (by decide) mm_969 (Or.inl rfl) ev2 dX11_isAlarm_6 ?_
    refine lv_icmp_ge (tgt := 16) hx hb dX11_isAlarm_9 (by decide) (fun c3 => ?_) (fun c3 => ?_)
    · replace hF := xift c3 hF
      refine lv_iconst (v := 0) hx hb dX11_isAlarm_16 (by decide) ?_
      cases hF
      exact x_iret hx hb hr rfl hlk hR hS (by decide) (by decide) dX11_isAlarm_17
    · replace hF := xiff c3 hF
      refine lv_iconst (v := 1) hx hb dX11_isAlarm_12 (by decide) ?_
      refine lv_goto (tgt := 17) hx hb dX11_isAlarm_13 (by decide) ?_
      cases hF
      exact x_iret hx hb hr rfl hlk hR hS (by decide) (by decide) dX11_isAlarm_17
def rm_X11_isWorse : Room := { frames := 0, cells := 0, slots := 0, locals := 0 }
theorem f_X11_isWorse : xM yX11_isWorse cX11_isWorse 7 (some .boolean) 4 := ⟨mm_1188, mm_62, by decide +kernel, by decide +kernel⟩
theorem dX11_isWorse_0 : decode cX11_isWorse 0 = .ok (.ldc2_w 181, 3) := by decide +kernel
theorem dX11_isWorse_3 : decode cX11_isWorse 3 = .ok (.lload 5, 2) := by decide +kernel
theorem dX11_isWorse_5 : decode cX11_isWorse 5 = .ok (.lmul, 1) := by decide +kernel
theorem dX11_isWorse_6 : decode cX11_isWorse 6 = .ok (.iload_n 2, 1) := by decide +kernel
theorem dX11_isWorse_7 : decode cX11_isWorse 7 = .ok (.i2l, 1) := by decide +kernel
theorem dX11_isWorse_8 : decode cX11_isWorse 8 = .ok (.sipush 1000, 3) := by decide +kernel
theorem dX11_isWorse_11 : decode cX11_isWorse 11 = .ok (.aload_n 0, 1) := by decide +kernel
theorem dX11_isWorse_12 : decode cX11_isWorse 12 = .ok (.getfield 35, 3) := by decide +kernel
theorem dX11_isWorse_15 : decode cX11_isWorse 15 = .ok (.iload_n 1, 1) := by decide +kernel
theorem dX11_isWorse_16 : decode cX11_isWorse 16 = .ok (.iaload, 1) := by decide +kernel
theorem dX11_isWorse_17 : decode cX11_isWorse 17 = .ok (.isub, 1) := by decide +kernel
theorem dX11_isWorse_18 : decode cX11_isWorse 18 = .ok (.i2l, 1) := by decide +kernel
theorem dX11_isWorse_19 : decode cX11_isWorse 19 = .ok (.lmul, 1) := by decide +kernel
theorem dX11_isWorse_20 : decode cX11_isWorse 20 = .ok (.lload_n 3, 1) := by decide +kernel
theorem dX11_isWorse_21 : decode cX11_isWorse 21 = .ok (.lmul, 1) := by decide +kernel
theorem dX11_isWorse_22 : decode cX11_isWorse 22 = .ok (.lcmp, 1) := by decide +kernel
theorem dX11_isWorse_23 : decode cX11_isWorse 23 = .ok (.ifCond .le 7, 3) := by decide +kernel
theorem dX11_isWorse_26 : decode cX11_isWorse 26 = .ok (.iconst 1, 1) := by decide +kernel
theorem dX11_isWorse_27 : decode cX11_isWorse 27 = .ok (.goto 4, 3) := by decide +kernel
theorem dX11_isWorse_30 : decode cX11_isWorse 30 = .ok (.iconst 0, 1) := by decide +kernel
theorem dX11_isWorse_31 : decode cX11_isWorse 31 = .ok (.ireturn, 1) := by decide +kernel
def F_X11_isWorse (G : Nat → Nat) (h : xH) (a0 : Nat) (x1 : Int32) (x2 : Int32) (y3 : Int64) (y5 : Int64) : Option Int32 :=
  (gR h (some a0) 11 18).bind fun w1 =>
  (ldI 2 G h w1 x1).bind fun v2 =>
  if (lg_cmp (10000 * y5) ((((x2 : Int32).toInt64) * (((1000 - v2) : Int32).toInt64)) * y3)) ≤ 0 then
    some 0
  else
  some 1
set_option maxHeartbeats 4000000 in
set_option maxRecDepth 100000 in
theorem t_X11_isWorse (l : Launch) (D : va_G) (G : Nat → Nat) (h : xH) (a0 : Nat) (x1 : Int32) (x2 : Int32) (y3 : Int64) (y5 : Int64) (r : Int32) (hF : F_X11_isWorse G h a0 x1 x2 y3 y5 = some r) : xC l yX11_isWorse cX11_isWorse 7 (some .boolean) (rm_X11_isWorse) D G h [.ref a0, .int x1, .int x2, .long y3, .long y5] (some (.int r)) h := by
  refine xC_of (by decide) (by first | decide | exact Nat.le_of_ble_eq_true rfl) ?_
  intro p e s m args below meth c ls hx hb hr hlk hml hown hnm hts hR hS hl
  have hl : lv_has ls 7 [(0, va_rf (some a0)), (1, .int x1), (2, .int x2), (3, .long y3), (5, .long y5)] := hl
  unfold F_X11_isWorse at hF
  refine lv_ldc2 hx hb hown (hts _ mm_1189) dX11_isWorse_0 ?_
  refine lv_lload hx hb dX11_isWorse_3 (lv_at hl 4 rfl) ?_
  refine lv_lmul hx hb dX11_isWorse_5 ?_
  refine lv_iload_n hx hb dX11_isWorse_6 rfl (lv_at hl 2 rfl) ?_
  refine lv_i2l (v := ((x2 : Int32).toInt64)) hx hb dX11_isWorse_7 rfl ?_
  refine lv_sipush (v := 1000) hx hb dX11_isWorse_8 (by decide) ?_
  refine x_aload_n (o := (some a0)) hx hb dX11_isWorse_11 rfl (lv_at hl 0 rfl) ?_
  replace hF := xbind hF; obtain ⟨w1, ew1, hF⟩ := hF
  refine x_getR (o := (some a0)) (ci := 11) (C := RX11) (T := TX11) (N := 42) hx hb hts iw_X11 hown hR rfl 18 (by decide) mm_961 (Or.inl rfl) ew1 dX11_isWorse_12 ?_
  refine lv_iload_n hx hb dX11_isWorse_15 rfl (lv_at hl 1 rfl) ?_
  replace hF := xbind hF; obtain ⟨v2, ev2, hF⟩ := hF
  refine x_ild (o := w1) hx hb hR ev2 dX11_isWorse_16 ?_
  refine lv_isub hx hb dX11_isWorse_17 ?_
  refine lv_i2l (v := (((1000 - v2) : Int32).toInt64)) hx hb dX11_isWorse_18 rfl ?_
  refine lv_lmul hx hb dX11_isWorse_19 ?_
  refine lv_lload_n hx hb dX11_isWorse_20 rfl (lv_at hl 3 rfl) ?_
  refine lv_lmul hx hb dX11_isWorse_21 ?_
  refine W.lcmp hx hb dX11_isWorse_22 ?_
  refine lv_if_le (tgt := 30) hx hb dX11_isWorse_23 (by decide) (fun c3 => ?_) (fun c3 => ?_)
  · replace hF := xift c3 hF
    refine lv_iconst (v := 0) hx hb dX11_isWorse_30 (by decide) ?_
    cases hF
    exact x_iret hx hb hr rfl hlk hR hS (by decide) (by decide) dX11_isWorse_31
  · replace hF := xiff c3 hF
    refine lv_iconst (v := 1) hx hb dX11_isWorse_26 (by decide) ?_
    refine lv_goto (tgt := 31) hx hb dX11_isWorse_27 (by decide) ?_
    cases hF
    exact x_iret hx hb hr rfl hlk hR hS (by decide) (by decide) dX11_isWorse_31
def rm_X11_isWorseIn : Room := { frames := 2, cells := 0, slots := 0, locals := 47 }
theorem f_X11_isWorseIn : xM yX11_isWorseIn cX11_isWorseIn 5 (some .boolean) 4 := ⟨mm_1184, mm_62, by decide +kernel, by decide +kernel⟩
theorem dX11_isWorseIn_0 : decode cX11_isWorseIn 0 = .ok (.aload_n 0, 1) := by decide +kernel
theorem dX11_isWorseIn_1 : decode cX11_isWorseIn 1 = .ok (.aload_n 0, 1) := by decide +kernel
theorem dX11_isWorseIn_2 : decode cX11_isWorseIn 2 = .ok (.getfield 29, 3) := by decide +kernel
theorem dX11_isWorseIn_5 : decode cX11_isWorseIn 5 = .ok (.iload_n 1, 1) := by decide +kernel
theorem dX11_isWorseIn_6 : decode cX11_isWorseIn 6 = .ok (.iaload, 1) := by decide +kernel
theorem dX11_isWorseIn_7 : decode cX11_isWorseIn 7 = .ok (.iload 4, 2) := by decide +kernel
theorem dX11_isWorseIn_9 : decode cX11_isWorseIn 9 = .ok (.iload_n 2, 1) := by decide +kernel
theorem dX11_isWorseIn_10 : decode cX11_isWorseIn 10 = .ok (.isub, 1) := by decide +kernel
theorem dX11_isWorseIn_11 : decode cX11_isWorseIn 11 = .ok (.iconst 1, 1) := by decide +kernel
theorem dX11_isWorseIn_12 : decode cX11_isWorseIn 12 = .ok (.iadd, 1) := by decide +kernel
theorem dX11_isWorseIn_13 : decode cX11_isWorseIn 13 = .ok (.iload 4, 2) := by decide +kernel
theorem dX11_isWorseIn_15 : decode cX11_isWorseIn 15 = .ok (.invokevirtual 130, 3) := by decide +kernel
theorem dX11_isWorseIn_18 : decode cX11_isWorseIn 18 = .ok (.aload_n 0, 1) := by decide +kernel
theorem dX11_isWorseIn_19 : decode cX11_isWorseIn 19 = .ok (.iload_n 1, 1) := by decide +kernel
theorem dX11_isWorseIn_20 : decode cX11_isWorseIn 20 = .ok (.iload_n 3, 1) := by decide +kernel
theorem dX11_isWorseIn_21 : decode cX11_isWorseIn 21 = .ok (.aload_n 0, 1) := by decide +kernel
theorem dX11_isWorseIn_22 : decode cX11_isWorseIn 22 = .ok (.getfield 116, 3) := by decide +kernel
theorem dX11_isWorseIn_25 : decode cX11_isWorseIn 25 = .ok (.aload_n 0, 1) := by decide +kernel
theorem dX11_isWorseIn_26 : decode cX11_isWorseIn 26 = .ok (.getfield 120, 3) := by decide +kernel
theorem dX11_isWorseIn_29 : decode cX11_isWorseIn 29 = .ok (.invokevirtual 183, 3) := by decide +kernel
theorem dX11_isWorseIn_32 : decode cX11_isWorseIn 32 = .ok (.ireturn, 1) := by decide +kernel
def F_X11_isWorseIn (G : Nat → Nat) (h : xH) (a0 : Nat) (x1 : Int32) (x2 : Int32) (x3 : Int32) (x4 : Int32) : Option (Int32 × xH) :=
  (gR h (some a0) 11 16).bind fun w1 =>
  (ldI 2 G h w1 x1).bind fun v2 =>
  (xc h (some a0) 11).bind fun b4 =>
  (F_X11_sums G h b4 v2 ((x4 - x2) + 1) x4).bind fun h3 =>
  (gJ h3 (some a0) 11 12).bind fun v5 =>
  (gJ h3 (some a0) 11 13).bind fun v6 =>
  (xc h3 (some a0) 11).bind fun b8 =>
  (F_X11_isWorse G h3 b8 x1 x3 v5 v6).bind fun v7 =>
  xg (v7 = 0 ∨ v7 = 1) <|
  some (v7, h3)
set_option maxHeartbeats 4000000 in
set_option maxRecDepth 100000 in
theorem t_X11_isWorseIn (l : Launch) (D : va_G) (G : Nat → Nat) (h : xH) (a0 : Nat) (x1 : Int32) (x2 : Int32) (x3 : Int32) (x4 : Int32) (r : Int32) (h' : xH) (hF : F_X11_isWorseIn G h a0 x1 x2 x3 x4 = some (r, h')) : xC l yX11_isWorseIn cX11_isWorseIn 5 (some .boolean) (rm_X11_isWorseIn) D G h [.ref a0, .int x1, .int x2, .int x3, .int x4] (some (.int r)) h' := by
  refine xC_of (by decide) (by first | decide | exact Nat.le_of_ble_eq_true rfl) ?_
  intro p e s m args below meth c ls hx hb hr hlk hml hown hnm hts hR hS hl
  have hl : lv_has ls 5 [(0, va_rf (some a0)), (1, .int x1), (2, .int x2), (3, .int x3), (4, .int x4)] := hl
  unfold F_X11_isWorseIn at hF
  refine x_aload_n (o := (some a0)) hx hb dX11_isWorseIn_0 rfl (lv_at hl 0 rfl) ?_
  refine x_aload_n (o := (some a0)) hx hb dX11_isWorseIn_1 rfl (lv_at hl 0 rfl) ?_
  replace hF := xbind hF; obtain ⟨w1, ew1, hF⟩ := hF
  refine x_getR (o := (some a0)) (ci := 11) (C := RX11) (T := TX11) (N := 42) hx hb hts iw_X11 hown hR rfl 16 (by decide) mm_959 (Or.inl rfl) ew1 dX11_isWorseIn_2 ?_
  refine lv_iload_n hx hb dX11_isWorseIn_5 rfl (lv_at hl 1 rfl) ?_
  replace hF := xbind hF; obtain ⟨v2, ev2, hF⟩ := hF
  refine x_ild (o := w1) hx hb hR ev2 dX11_isWorseIn_6 ?_
  refine lv_iload hx hb dX11_isWorseIn_7 (lv_at hl 4 rfl) ?_
  refine lv_iload_n hx hb dX11_isWorseIn_9 rfl (lv_at hl 2 rfl) ?_
  refine lv_isub hx hb dX11_isWorseIn_10 ?_
  refine lv_iconst (v := 1) hx hb dX11_isWorseIn_11 (by decide) ?_
  refine lv_iadd hx hb dX11_isWorseIn_12 ?_
  refine lv_iload hx hb dX11_isWorseIn_13 (lv_at hl 4 rfl) ?_
  replace hF := xbind hF; obtain ⟨b4, eb4, hF⟩ := hF
  replace hF := xbind hF; obtain ⟨h3, eh3, hF⟩ := hF
  refine x_callV (o := (some a0)) (ci := 11) (As := [.int v2, .int ((x4 - x2) + 1), .int x4]) (rest := []) (v := none) (k := 3) hx hb hml hown hts hR hS eb4 rfl rfl (t_X11_sums l D G h b4 v2 ((x4 - x2) + 1) x4 h3 eh3) f_X11_sums mm_1099 mm_1101 mm_33 rfl hl.1 rfl (by first | exact Nat.le_of_ble_eq_true rfl | simp [xrf_cat, xcI, xcJ, xcA]) dX11_isWorseIn_15 (by decide) (by decide) rfl (fun H locs hR hS => ?_)
  refine x_aload_n (o := (some a0)) hx hb dX11_isWorseIn_18 rfl (lv_at hl 0 rfl) ?_
  refine lv_iload_n hx hb dX11_isWorseIn_19 rfl (lv_at hl 1 rfl) ?_
  refine lv_iload_n hx hb dX11_isWorseIn_20 rfl (lv_at hl 3 rfl) ?_
  refine x_aload_n (o := (some a0)) hx hb dX11_isWorseIn_21 rfl (lv_at hl 0 rfl) ?_
  replace hF := xbind hF; obtain ⟨v5, ev5, hF⟩ := hF
  refine x_getJ (o := (some a0)) (ci := 11) (C := RX11) (T := TX11) (N := 42) hx hb hts iw_X11 hown hR rfl 12 (by decide) mm_955 (Or.inl rfl) ev5 dX11_isWorseIn_22 ?_
  refine x_aload_n (o := (some a0)) hx hb dX11_isWorseIn_25 rfl (lv_at hl 0 rfl) ?_
  replace hF := xbind hF; obtain ⟨v6, ev6, hF⟩ := hF
  refine x_getJ (o := (some a0)) (ci := 11) (C := RX11) (T := TX11) (N := 42) hx hb hts iw_X11 hown hR rfl 13 (by decide) mm_956 (Or.inl rfl) ev6 dX11_isWorseIn_26 ?_
  replace hF := xbind hF; obtain ⟨b8, eb8, hF⟩ := hF
  replace hF := xbind hF; obtain ⟨v7, ev7, hF⟩ := hF
  refine x_callV (o := (some a0)) (ci := 11) (As := [.int x1, .int x3, .long v5, .long v6]) (rest := []) (v := (some (.int v7))) (k := 4) hx hb hml hown hts hR hS eb8 rfl rfl (t_X11_isWorse l D G h3 b8 x1 x3 v5 v6 v7 ev7) f_X11_isWorse mm_1185 mm_1187 mm_46 rfl hl.1 rfl (by first | exact Nat.le_of_ble_eq_true rfl | simp [xrf_cat, xcI, xcJ, xcA]) dX11_isWorseIn_29 (by decide) (by decide) rfl (fun H locs hR hS => ?_)
  replace hF := xguard hF; obtain ⟨c9, hF⟩ := hF
  cases hF
  exact x_iret hx hb hr (xnarZ c9) hlk hR hS (by decide) (by decide) dX11_isWorseIn_32
def rm_X11_rings : Room := { frames := 3, cells := 0, slots := 0, locals := 71 }
theorem f_X11_rings : xM yX11_rings cX11_rings 4 (some .int) 2 := ⟨mm_1176, mm_62, by decide +kernel, by decide +kernel⟩
theorem dX11_rings_0 : decode cX11_rings 0 = .ok (.aload_n 0, 1) := by decide +kernel
theorem dX11_rings_1 : decode cX11_rings 1 = .ok (.iconst 0, 1) := by decide +kernel
theorem dX11_rings_2 : decode cX11_rings 2 = .ok (.putfield 93, 3) := by decide +kernel
theorem dX11_rings_5 : decode cX11_rings 5 = .ok (.aload_n 0, 1) := by decide +kernel
theorem dX11_rings_6 : decode cX11_rings 6 = .ok (.iload_n 1, 1) := by decide +kernel
theorem dX11_rings_7 : decode cX11_rings 7 = .ok (.invokevirtual 187, 3) := by decide +kernel
theorem dX11_rings_10 : decode cX11_rings 10 = .ok (.ifCond .eq 14, 3) := by decide +kernel
theorem dX11_rings_13 : decode cX11_rings 13 = .ok (.iload_n 2, 1) := by decide +kernel
theorem dX11_rings_14 : decode cX11_rings 14 = .ok (.ifCond .lt 10, 3) := by decide +kernel
theorem dX11_rings_17 : decode cX11_rings 17 = .ok (.iload_n 2, 1) := by decide +kernel
theorem dX11_rings_18 : decode cX11_rings 18 = .ok (.sipush 600, 3) := by decide +kernel
theorem dX11_rings_21 : decode cX11_rings 21 = .ok (.if_icmp .le 5, 3) := by decide +kernel
theorem dX11_rings_24 : decode cX11_rings 24 = .ok (.iconst (-1), 1) := by decide +kernel
theorem dX11_rings_25 : decode cX11_rings 25 = .ok (.ireturn, 1) := by decide +kernel
theorem dX11_rings_26 : decode cX11_rings 26 = .ok (.aload_n 0, 1) := by decide +kernel
theorem dX11_rings_27 : decode cX11_rings 27 = .ok (.getfield 53, 3) := by decide +kernel
theorem dX11_rings_30 : decode cX11_rings 30 = .ok (.iload_n 1, 1) := by decide +kernel
theorem dX11_rings_31 : decode cX11_rings 31 = .ok (.iaload, 1) := by decide +kernel
theorem dX11_rings_32 : decode cX11_rings 32 = .ok (.istore_n 3, 1) := by decide +kernel
theorem dX11_rings_33 : decode cX11_rings 33 = .ok (.aload_n 0, 1) := by decide +kernel
theorem dX11_rings_34 : decode cX11_rings 34 = .ok (.iload_n 3, 1) := by decide +kernel
theorem dX11_rings_35 : decode cX11_rings 35 = .ok (.aload_n 0, 1) := by decide +kernel
theorem dX11_rings_36 : decode cX11_rings 36 = .ok (.getfield 56, 3) := by decide +kernel
theorem dX11_rings_39 : decode cX11_rings 39 = .ok (.iload_n 1, 1) := by decide +kernel
theorem dX11_rings_40 : decode cX11_rings 40 = .ok (.iaload, 1) := by decide +kernel
theorem dX11_rings_41 : decode cX11_rings 41 = .ok (.aload_n 0, 1) := by decide +kernel
theorem dX11_rings_42 : decode cX11_rings 42 = .ok (.getfield 62, 3) := by decide +kernel
theorem dX11_rings_45 : decode cX11_rings 45 = .ok (.iload_n 1, 1) := by decide +kernel
theorem dX11_rings_46 : decode cX11_rings 46 = .ok (.iaload, 1) := by decide +kernel
theorem dX11_rings_47 : decode cX11_rings 47 = .ok (.iload_n 2, 1) := by decide +kernel
theorem dX11_rings_48 : decode cX11_rings 48 = .ok (.invokevirtual 190, 3) := by decide +kernel
theorem dX11_rings_51 : decode cX11_rings 51 = .ok (.ifCond .eq 28, 3) := by decide +kernel
theorem dX11_rings_54 : decode cX11_rings 54 = .ok (.aload_n 0, 1) := by decide +kernel
theorem dX11_rings_55 : decode cX11_rings 55 = .ok (.iload_n 3, 1) := by decide +kernel
theorem dX11_rings_56 : decode cX11_rings 56 = .ok (.aload_n 0, 1) := by decide +kernel
theorem dX11_rings_57 : decode cX11_rings 57 = .ok (.getfield 59, 3) := by decide +kernel
theorem dX11_rings_60 : decode cX11_rings 60 = .ok (.iload_n 1, 1) := by decide +kernel
theorem dX11_rings_61 : decode cX11_rings 61 = .ok (.iaload, 1) := by decide +kernel
theorem dX11_rings_62 : decode cX11_rings 62 = .ok (.aload_n 0, 1) := by decide +kernel
theorem dX11_rings_63 : decode cX11_rings 63 = .ok (.getfield 62, 3) := by decide +kernel
theorem dX11_rings_66 : decode cX11_rings 66 = .ok (.iload_n 1, 1) := by decide +kernel
theorem dX11_rings_67 : decode cX11_rings 67 = .ok (.iaload, 1) := by decide +kernel
theorem dX11_rings_68 : decode cX11_rings 68 = .ok (.iload_n 2, 1) := by decide +kernel
theorem dX11_rings_69 : decode cX11_rings 69 = .ok (.invokevirtual 190, 3) := by decide +kernel
theorem dX11_rings_72 : decode cX11_rings 72 = .ok (.ifCond .eq 7, 3) := by decide +kernel
theorem dX11_rings_75 : decode cX11_rings 75 = .ok (.iconst 1, 1) := by decide +kernel
theorem dX11_rings_76 : decode cX11_rings 76 = .ok (.goto 4, 3) := by decide +kernel
theorem dX11_rings_79 : decode cX11_rings 79 = .ok (.iconst 0, 1) := by decide +kernel
theorem dX11_rings_80 : decode cX11_rings 80 = .ok (.ireturn, 1) := by decide +kernel
def F_X11_rings (G : Nat → Nat) (h : xH) (a0 : Nat) (x1 : Int32) (x2 : Int32) : Option (Int32 × xH) :=
  (xp G h (some a0) 11 0 (.int 0)).bind fun h1 =>
  (xc h1 (some a0) 11).bind fun b3 =>
  (F_X11_isAlarm G h1 b3 x1).bind fun v2 =>
  if v2 = 0 then
    some ((-1), h1)
  else
  if x2 < 0 then
    some ((-1), h1)
  else
  if x2 ≤ 600 then
    (gR h1 (some a0) 11 27).bind fun w7 =>
    (ldI 2 G h1 w7 x1).bind fun v8 =>
    (gR h1 (some a0) 11 28).bind fun w9 =>
    (ldI 2 G h1 w9 x1).bind fun v10 =>
    (gR h1 (some a0) 11 30).bind fun w11 =>
    (ldI 2 G h1 w11 x1).bind fun v12 =>
    (xc h1 (some a0) 11).bind fun b15 =>
    (F_X11_isWorseIn G h1 b15 v8 v10 v12 x2).bind fun (v13, h14) =>
    if v13 = 0 then
      some (0, h14)
    else
    (gR h14 (some a0) 11 29).bind fun w17 =>
    (ldI 2 G h14 w17 x1).bind fun v18 =>
    (gR h14 (some a0) 11 30).bind fun w19 =>
    (ldI 2 G h14 w19 x1).bind fun v20 =>
    (xc h14 (some a0) 11).bind fun b23 =>
    (F_X11_isWorseIn G h14 b23 v8 v18 v20 x2).bind fun (v21, h22) =>
    if v21 = 0 then
      some (0, h22)
    else
    some (1, h22)
  else
  some ((-1), h1)
set_option maxHeartbeats 4000000 in
set_option maxRecDepth 100000 in
theorem t_X11_rings (l : Launch) (D : va_G) (G : Nat → Nat) (h : xH) (a0 : Nat) (x1 : Int32) (x2 : Int32) (r : Int32) (h' : xH) (hF : F_X11_rings G h a0 x1 x2 = some (r, h')) : xC l yX11_rings cX11_rings 4 (some .int) (rm_X11_rings) D G h [.ref a0, .int x1, .int x2] (some (.int r)) h' := by
  refine xC_of (by decide) (by first | decide | exact Nat.le_of_ble_eq_true rfl) ?_
  intro p e s m args below meth c ls hx hb hr hlk hml hown hnm hts hR hS hl
  have hl : lv_has ls 4 [(0, va_rf (some a0)), (1, .int x1), (2, .int x2)] := hl
  unfold F_X11_rings at hF
  refine x_aload_n (o := (some a0)) hx hb dX11_rings_0 rfl (lv_at hl 0 rfl) ?_
  refine lv_iconst (v := 0) hx hb dX11_rings_1 (by decide) ?_
  replace hF := xbind hF; obtain ⟨h1, eh1, hF⟩ := hF
  refine x_put (o := (some a0)) (ci := 11) (C := RX11) (T := TX11) (N := 42) hx hb hts iw_X11 tyX11_ok nmX11 hown hR hS rfl 0 (by decide) mm_943 (Or.inl rfl) rfl rfl rfl eh1 dX11_rings_2 (fun H locs hR hS => ?_)
  refine x_aload_n (o := (some a0)) hx hb dX11_rings_5 rfl (lv_at hl 0 rfl) ?_
  refine lv_iload_n hx hb dX11_rings_6 rfl (lv_at hl 1 rfl) ?_
  replace hF := xbind hF; obtain ⟨b3, eb3, hF⟩ := hF
  replace hF := xbind hF; obtain ⟨v2, ev2, hF⟩ := hF
  refine x_callV (o := (some a0)) (ci := 11) (As := [.int x1]) (rest := []) (v := (some (.int v2))) (k := 1) hx hb hml hown hts hR hS eb3 rfl rfl (t_X11_isAlarm l D G h1 b3 x1 v2 ev2) f_X11_isAlarm mm_1177 mm_1179 mm_44 rfl hl.1 rfl (by first | exact Nat.le_of_ble_eq_true rfl | simp [xrf_cat, xcI, xcJ, xcA]) dX11_rings_7 (by decide) (by decide) rfl (fun H locs hR hS => ?_)
  refine lv_if_eq (tgt := 24) hx hb dX11_rings_10 (by decide) (fun c4 => ?_) (fun c4 => ?_)
  · replace hF := xift c4 hF
    refine lv_iconst (v := (-1)) hx hb dX11_rings_24 (by decide) ?_
    cases hF
    exact x_iret hx hb hr rfl hlk hR hS (by decide) (by decide) dX11_rings_25
  · replace hF := xiff c4 hF
    refine lv_iload_n hx hb dX11_rings_13 rfl (lv_at hl 2 rfl) ?_
    refine lv_if_lt (tgt := 24) hx hb dX11_rings_14 (by decide) (fun c5 => ?_) (fun c5 => ?_)
    · replace hF := xift c5 hF
      refine lv_iconst (v := (-1)) hx hb dX11_rings_24 (by decide) ?_
      cases hF
      exact x_iret hx hb hr rfl hlk hR hS (by decide) (by decide) dX11_rings_25
    · replace hF := xiff c5 hF
      refine lv_iload_n hx hb dX11_rings_17 rfl (lv_at hl 2 rfl) ?_
      refine lv_sipush (v := 600) hx hb dX11_rings_18 (by decide) ?_
      refine lv_icmp_le (tgt := 26) hx hb dX11_rings_21 (by decide) (fun c6 => ?_) (fun c6 => ?_)
      · replace hF := xift c6 hF
        refine x_aload_n (o := (some a0)) hx hb dX11_rings_26 rfl (lv_at hl 0 rfl) ?_
        replace hF := xbind hF; obtain ⟨w7, ew7, hF⟩ := hF
        refine x_getR (o := (some a0)) (ci := 11) (C := RX11) (T := TX11) (N := 42) hx hb hts iw_X11 hown hR rfl 27 (by decide) mm_970 (Or.inl rfl) ew7 dX11_rings_27 ?_
        refine lv_iload_n hx hb dX11_rings_30 rfl (lv_at hl 1 rfl) ?_
        replace hF := xbind hF; obtain ⟨v8, ev8, hF⟩ := hF
        refine x_ild (o := w7) hx hb hR ev8 dX11_rings_31 ?_
        refine lv_istore_n (lv' := [(3, .int v8), (0, va_rf (some a0)), (1, .int x1), (2, .int x2)]) hx hb dX11_rings_32 rfl hl (by decide) (by first | rfl | (simp [xrf_cat, xcI, xcJ, xcA]; done) | (simp [xrf_cat, xcI, xcJ, xcA]; decide)) (fun ls hl => ?_)
        refine x_aload_n (o := (some a0)) hx hb dX11_rings_33 rfl (lv_at hl 1 rfl) ?_
        refine lv_iload_n hx hb dX11_rings_34 rfl (lv_at hl 0 rfl) ?_
        refine x_aload_n (o := (some a0)) hx hb dX11_rings_35 rfl (lv_at hl 1 rfl) ?_
        replace hF := xbind hF; obtain ⟨w9, ew9, hF⟩ := hF
        refine x_getR (o := (some a0)) (ci := 11) (C := RX11) (T := TX11) (N := 42) hx hb hts iw_X11 hown hR rfl 28 (by decide) mm_971 (Or.inl rfl) ew9 dX11_rings_36 ?_
        refine lv_iload_n hx hb dX11_rings_39 rfl (lv_at hl 2 rfl) ?_
        replace hF := xbind hF; obtain ⟨v10, ev10, hF⟩ := hF
        refine x_ild (o := w9) hx hb hR ev10 dX11_rings_40 ?_
        refine x_aload_n (o := (some a0)) hx hb dX11_rings_41 rfl (lv_at hl 1 rfl) ?_
        replace hF := xbind hF; obtain ⟨w11, ew11, hF⟩ := hF
        refine x_getR (o := (some a0)) (ci := 11) (C := RX11) (T := TX11) (N := 42) hx hb hts iw_X11 hown hR rfl 30 (by decide) mm_973 (Or.inl rfl) ew11 dX11_rings_42 ?_
        refine lv_iload_n hx hb dX11_rings_45 rfl (lv_at hl 2 rfl) ?_
        replace hF := xbind hF; obtain ⟨v12, ev12, hF⟩ := hF
        refine x_ild (o := w11) hx hb hR ev12 dX11_rings_46 ?_
        refine lv_iload_n hx hb dX11_rings_47 rfl (lv_at hl 3 rfl) ?_
        replace hF := xbind hF; obtain ⟨b15, eb15, hF⟩ := hF
        replace hF := xbind hF; obtain ⟨⟨v13, h14⟩, ev13, hF⟩ := hF
        refine x_callV (o := (some a0)) (ci := 11) (As := [.int v8, .int v10, .int v12, .int x2]) (rest := []) (v := (some (.int v13))) (k := 4) hx hb hml hown hts hR hS eb15 rfl rfl (t_X11_isWorseIn l D G h1 b15 v8 v10 v12 x2 v13 h14 ev13) f_X11_isWorseIn mm_1181 mm_1183 mm_45 rfl hl.1 rfl (by first | exact Nat.le_of_ble_eq_true rfl | simp [xrf_cat, xcI, xcJ, xcA]) dX11_rings_48 (by decide) (by decide) rfl (fun H locs hR hS => ?_)
        refine lv_if_eq (tgt := 79) hx hb dX11_rings_51 (by decide) (fun c16 => ?_) (fun c16 => ?_)
        · replace hF := xift c16 hF
          refine lv_iconst (v := 0) hx hb dX11_rings_79 (by decide) ?_
          cases hF
          exact x_iret hx hb hr rfl hlk hR hS (by decide) (by decide) dX11_rings_80
        · replace hF := xiff c16 hF
          refine x_aload_n (o := (some a0)) hx hb dX11_rings_54 rfl (lv_at hl 1 rfl) ?_
          refine lv_iload_n hx hb dX11_rings_55 rfl (lv_at hl 0 rfl) ?_
          refine x_aload_n (o := (some a0)) hx hb dX11_rings_56 rfl (lv_at hl 1 rfl) ?_
          replace hF := xbind hF; obtain ⟨w17, ew17, hF⟩ := hF
          refine x_getR (o := (some a0)) (ci := 11) (C := RX11) (T := TX11) (N := 42) hx hb hts iw_X11 hown hR rfl 29 (by decide) mm_972 (Or.inl rfl) ew17 dX11_rings_57 ?_
          refine lv_iload_n hx hb dX11_rings_60 rfl (lv_at hl 2 rfl) ?_
          replace hF := xbind hF; obtain ⟨v18, ev18, hF⟩ := hF
          refine x_ild (o := w17) hx hb hR ev18 dX11_rings_61 ?_
          refine x_aload_n (o := (some a0)) hx hb dX11_rings_62 rfl (lv_at hl 1 rfl) ?_
          replace hF := xbind hF; obtain ⟨w19, ew19, hF⟩ := hF
          refine x_getR (o := (some a0)) (ci := 11) (C := RX11) (T := TX11) (N := 42) hx hb hts iw_X11 hown hR rfl 30 (by decide) mm_973 (Or.inl rfl) ew19 dX11_rings_63 ?_
          refine lv_iload_n hx hb dX11_rings_66 rfl (lv_at hl 2 rfl) ?_
          replace hF := xbind hF; obtain ⟨v20, ev20, hF⟩ := hF
          refine x_ild (o := w19) hx hb hR ev20 dX11_rings_67 ?_
          refine lv_iload_n hx hb dX11_rings_68 rfl (lv_at hl 3 rfl) ?_
          replace hF := xbind hF; obtain ⟨b23, eb23, hF⟩ := hF
          replace hF := xbind hF; obtain ⟨⟨v21, h22⟩, ev21, hF⟩ := hF
          refine x_callV (o := (some a0)) (ci := 11) (As := [.int v8, .int v18, .int v20, .int x2]) (rest := []) (v := (some (.int v21))) (k := 4) hx hb hml hown hts hR hS eb23 rfl rfl (t_X11_isWorseIn l D G h14 b23 v8 v18 v20 x2 v21 h22 ev21) f_X11_isWorseIn mm_1181 mm_1183 mm_45 rfl hl.1 rfl (by first | exact Nat.le_of_ble_eq_true rfl | simp [xrf_cat, xcI, xcJ, xcA]) dX11_rings_69 (by decide) (by decide) rfl (fun H locs hR hS => ?_)
          refine lv_if_eq (tgt := 79) hx hb dX11_rings_72 (by decide) (fun c24 => ?_) (fun c24 => ?_)
          · replace hF := xift c24 hF
            refine lv_iconst (v := 0) hx hb dX11_rings_79 (by decide) ?_
            cases hF
            exact x_iret hx hb hr rfl hlk hR hS (by decide) (by decide) dX11_rings_80
          · replace hF := xiff c24 hF
            refine lv_iconst (v := 1) hx hb dX11_rings_75 (by decide) ?_
            refine lv_goto (tgt := 80) hx hb dX11_rings_76 (by decide) ?_
            cases hF
            exact x_iret hx hb hr rfl hlk hR hS (by decide) (by decide) dX11_rings_80
      · replace hF := xiff c6 hF
        refine lv_iconst (v := (-1)) hx hb dX11_rings_24 (by decide) ?_
        cases hF
        exact x_iret hx hb hr rfl hlk hR hS (by decide) (by decide) dX11_rings_25
def rm_X11_isSteadyWorse : Room := { frames := 1, cells := 0, slots := 0, locals := 26 }
theorem f_X11_isSteadyWorse : xM yX11_isSteadyWorse cX11_isSteadyWorse 10 (some .boolean) 6 := ⟨mm_1201, mm_62, by decide +kernel, by decide +kernel⟩
theorem dX11_isSteadyWorse_0 : decode cX11_isSteadyWorse 0 = .ok (.iload 4, 2) := by decide +kernel
theorem dX11_isSteadyWorse_2 : decode cX11_isSteadyWorse 2 = .ok (.iload_n 2, 1) := by decide +kernel
theorem dX11_isSteadyWorse_3 : decode cX11_isSteadyWorse 3 = .ok (.isub, 1) := by decide +kernel
theorem dX11_isSteadyWorse_4 : decode cX11_isSteadyWorse 4 = .ok (.iconst 1, 1) := by decide +kernel
theorem dX11_isSteadyWorse_5 : decode cX11_isSteadyWorse 5 = .ok (.iadd, 1) := by decide +kernel
theorem dX11_isSteadyWorse_6 : decode cX11_isSteadyWorse 6 = .ok (.ifCond .ge 7, 3) := by decide +kernel
theorem dX11_isSteadyWorse_9 : decode cX11_isSteadyWorse 9 = .ok (.iconst 0, 1) := by decide +kernel
theorem dX11_isSteadyWorse_10 : decode cX11_isSteadyWorse 10 = .ok (.goto 9, 3) := by decide +kernel
theorem dX11_isSteadyWorse_13 : decode cX11_isSteadyWorse 13 = .ok (.iload 4, 2) := by decide +kernel
theorem dX11_isSteadyWorse_15 : decode cX11_isSteadyWorse 15 = .ok (.iload_n 2, 1) := by decide +kernel
theorem dX11_isSteadyWorse_16 : decode cX11_isSteadyWorse 16 = .ok (.isub, 1) := by decide +kernel
theorem dX11_isSteadyWorse_17 : decode cX11_isSteadyWorse 17 = .ok (.iconst 1, 1) := by decide +kernel
theorem dX11_isSteadyWorse_18 : decode cX11_isSteadyWorse 18 = .ok (.iadd, 1) := by decide +kernel
theorem dX11_isSteadyWorse_19 : decode cX11_isSteadyWorse 19 = .ok (.istore 7, 2) := by decide +kernel
theorem dX11_isSteadyWorse_21 : decode cX11_isSteadyWorse 21 = .ok (.iconst 0, 1) := by decide +kernel
theorem dX11_isSteadyWorse_22 : decode cX11_isSteadyWorse 22 = .ok (.istore 8, 2) := by decide +kernel
theorem dX11_isSteadyWorse_24 : decode cX11_isSteadyWorse 24 = .ok (.iload 7, 2) := by decide +kernel
theorem dX11_isSteadyWorse_26 : decode cX11_isSteadyWorse 26 = .ok (.istore 9, 2) := by decide +kernel
theorem dX11_isSteadyWorse_28 : decode cX11_isSteadyWorse 28 = .ok (.iload 9, 2) := by decide +kernel
theorem dX11_isSteadyWorse_30 : decode cX11_isSteadyWorse 30 = .ok (.iload 4, 2) := by decide +kernel
theorem dX11_isSteadyWorse_32 : decode cX11_isSteadyWorse 32 = .ok (.if_icmp .gt 27, 3) := by decide +kernel
theorem dX11_isSteadyWorse_35 : decode cX11_isSteadyWorse 35 = .ok (.iload 8, 2) := by decide +kernel
theorem dX11_isSteadyWorse_37 : decode cX11_isSteadyWorse 37 = .ok (.iload 9, 2) := by decide +kernel
theorem dX11_isSteadyWorse_39 : decode cX11_isSteadyWorse 39 = .ok (.iload 5, 2) := by decide +kernel
theorem dX11_isSteadyWorse_41 : decode cX11_isSteadyWorse 41 = .ok (.if_icmp .lt 8, 3) := by decide +kernel
theorem dX11_isSteadyWorse_44 : decode cX11_isSteadyWorse 44 = .ok (.iload 6, 2) := by decide +kernel
theorem dX11_isSteadyWorse_46 : decode cX11_isSteadyWorse 46 = .ok (.goto 4, 3) := by decide +kernel
theorem dX11_isSteadyWorse_49 : decode cX11_isSteadyWorse 49 = .ok (.iconst 0, 1) := by decide +kernel
theorem dX11_isSteadyWorse_50 : decode cX11_isSteadyWorse 50 = .ok (.iadd, 1) := by decide +kernel
theorem dX11_isSteadyWorse_51 : decode cX11_isSteadyWorse 51 = .ok (.istore 8, 2) := by decide +kernel
theorem dX11_isSteadyWorse_53 : decode cX11_isSteadyWorse 53 = .ok (.iinc 9 1, 3) := by decide +kernel
theorem dX11_isSteadyWorse_56 : decode cX11_isSteadyWorse 56 = .ok (.goto (-28), 3) := by decide +kernel
theorem dX11_isSteadyWorse_59 : decode cX11_isSteadyWorse 59 = .ok (.aload_n 0, 1) := by decide +kernel
theorem dX11_isSteadyWorse_60 : decode cX11_isSteadyWorse 60 = .ok (.iload_n 1, 1) := by decide +kernel
theorem dX11_isSteadyWorse_61 : decode cX11_isSteadyWorse 61 = .ok (.iload_n 3, 1) := by decide +kernel
theorem dX11_isSteadyWorse_62 : decode cX11_isSteadyWorse 62 = .ok (.ldc2_w 194, 3) := by decide +kernel
theorem dX11_isSteadyWorse_65 : decode cX11_isSteadyWorse 65 = .ok (.iload 4, 2) := by decide +kernel
theorem dX11_isSteadyWorse_67 : decode cX11_isSteadyWorse 67 = .ok (.iload 7, 2) := by decide +kernel
theorem dX11_isSteadyWorse_69 : decode cX11_isSteadyWorse 69 = .ok (.isub, 1) := by decide +kernel
theorem dX11_isSteadyWorse_70 : decode cX11_isSteadyWorse 70 = .ok (.iconst 1, 1) := by decide +kernel
theorem dX11_isSteadyWorse_71 : decode cX11_isSteadyWorse 71 = .ok (.iadd, 1) := by decide +kernel
theorem dX11_isSteadyWorse_72 : decode cX11_isSteadyWorse 72 = .ok (.i2l, 1) := by decide +kernel
theorem dX11_isSteadyWorse_73 : decode cX11_isSteadyWorse 73 = .ok (.lmul, 1) := by decide +kernel
theorem dX11_isSteadyWorse_74 : decode cX11_isSteadyWorse 74 = .ok (.iload 8, 2) := by decide +kernel
theorem dX11_isSteadyWorse_76 : decode cX11_isSteadyWorse 76 = .ok (.i2l, 1) := by decide +kernel
theorem dX11_isSteadyWorse_77 : decode cX11_isSteadyWorse 77 = .ok (.invokevirtual 183, 3) := by decide +kernel
theorem dX11_isSteadyWorse_80 : decode cX11_isSteadyWorse 80 = .ok (.ireturn, 1) := by decide +kernel
def F_X11_isSteadyWorse_28 (G : Nat → Nat) (h : xH) (a0 : Nat) (x1 : Int32) (x3 : Int32) (x4 : Int32) (x5 : Int32) (x6 : Int32) (x7 : Int32) : Nat → Int32 → Int32 → Option Int32
  | 0, _, _ => none
  | n + 1, x8, x9 =>
    if x4 < x9 then
      (xc h (some a0) 11).bind fun b5 =>
      (F_X11_isWorse G h b5 x1 x3 (10 * ((((x4 - x7) + 1) : Int32).toInt64)) ((x8 : Int32).toInt64)).bind fun v4 =>
      xg (v4 = 0 ∨ v4 = 1) <|
      some v4
    else
    if x9 < x5 then
      xl (x8 + 0) fun v8 =>
      xl (x9 + 1) fun v9 =>
      F_X11_isSteadyWorse_28 G h a0 x1 x3 x4 x5 x6 x7 n v8 v9
    else
    xl (x8 + x6) fun v10 =>
    xl (x9 + 1) fun v11 =>
    F_X11_isSteadyWorse_28 G h a0 x1 x3 x4 x5 x6 x7 n v10 v11
set_option maxHeartbeats 4000000 in
set_option maxRecDepth 100000 in
theorem tl_X11_isSteadyWorse_28 {p : Program} {l : Launch} {e : Env} {s : State} {m : MethodId} {args : Array Value} {below : List Frame} {meth : Method} {c : Code} {D : va_G} {r : Int32} (hx : p.tables.exec = Jvm.exec) (hb : c.code = cX11_isSteadyWorse) (hr : meth.sig.returnType = (some .boolean)) (hlk : meth.locks = false) (hml : c.maxLocals = 10) (hown : s.vm.findClass RX11 = some m.cls) (hnm : meth.name = "isSteadyWorse") (hts : ∀ w ∈ xt, w.before args s = true) (G : Nat → Nat) (h : xH) (a0 : Nat) (x1 : Int32) (x3 : Int32) (x4 : Int32) (x5 : Int32) (x6 : Int32) (x7 : Int32) : ∀ (n : Nat) (x8 : Int32) (x9 : Int32) (H : Heap) (locs : List Loc) (ls : Array Slot), F_X11_isSteadyWorse_28 G h a0 x1 x3 x4 x5 x6 x7 n x8 x9 = some r → xR D G h s H → va_S (xA G) s.heap H locs → lv_has ls 10 [(0, va_rf (some a0)), (1, .int x1), (3, .int x3), (4, .int x4), (5, .int x5), (6, .int x6), (7, .int x7), (8, .int x8), (9, .int x9)] → W p l e rm_X11_isSteadyWorse s m args below meth c H locs 0 0 (MQ below (xQ D G (some (.int r)) h) args s rm_X11_isSteadyWorse.cells rm_X11_isSteadyWorse.slots (xA G)) (F0 m 28 ls []) := by
  intro n
  induction n with
  | zero =>
    intro x8 x9 H locs ls hF
    rw [F_X11_isSteadyWorse_28.eq_1] at hF
    cases hF
  | succ n ih =>
    intro x8 x9 H locs ls hF hR hS hl
    rw [F_X11_isSteadyWorse_28.eq_2] at hF
    refine lv_iload hx hb dX11_isSteadyWorse_28 (lv_at hl 8 rfl) ?_
    refine lv_iload hx hb dX11_isSteadyWorse_30 (lv_at hl 3 rfl) ?_
    refine lv_icmp_gt (tgt := 59) hx hb dX11_isSteadyWorse_32 (by decide) (fun c3 => ?_) (fun c3 => ?_)
    · replace hF := xift c3 hF
      refine x_aload_n (o := (some a0)) hx hb dX11_isSteadyWorse_59 rfl (lv_at hl 0 rfl) ?_
      refine lv_iload_n hx hb dX11_isSteadyWorse_60 rfl (lv_at hl 1 rfl) ?_
      refine lv_iload_n hx hb dX11_isSteadyWorse_61 rfl (lv_at hl 2 rfl) ?_
      refine lv_ldc2 hx hb hown (hts _ mm_1202) dX11_isSteadyWorse_62 ?_
      refine lv_iload hx hb dX11_isSteadyWorse_65 (lv_at hl 3 rfl) ?_
      refine lv_iload hx hb dX11_isSteadyWorse_67 (lv_at hl 6 rfl) ?_
      refine lv_isub hx hb dX11_isSteadyWorse_69 ?_
      refine lv_iconst (v := 1) hx hb dX11_isSteadyWorse_70 (by decide) ?_
      refine lv_iadd hx hb dX11_isSteadyWorse_71 ?_
      refine lv_i2l (v := ((((x4 - x7) + 1) : Int32).toInt64)) hx hb dX11_isSteadyWorse_72 rfl ?_
      refine lv_lmul hx hb dX11_isSteadyWorse_73 ?_
      refine lv_iload hx hb dX11_isSteadyWorse_74 (lv_at hl 7 rfl) ?_
      refine lv_i2l (v := ((x8 : Int32).toInt64)) hx hb dX11_isSteadyWorse_76 rfl ?_
      replace hF := xbind hF; obtain ⟨b5, eb5, hF⟩ := hF
      replace hF := xbind hF; obtain ⟨v4, ev4, hF⟩ := hF
      refine x_callV (o := (some a0)) (ci := 11) (As := [.int x1, .int x3, .long (10 * ((((x4 - x7) + 1) : Int32).toInt64)), .long ((x8 : Int32).toInt64)]) (rest := []) (v := (some (.int v4))) (k := 4) hx hb hml hown hts hR hS eb5 rfl rfl (t_X11_isWorse l D G h b5 x1 x3 (10 * ((((x4 - x7) + 1) : Int32).toInt64)) ((x8 : Int32).toInt64) v4 ev4) f_X11_isWorse mm_1185 mm_1187 mm_46 rfl hl.1 rfl (by first | exact Nat.le_of_ble_eq_true rfl | simp [xrf_cat, xcI, xcJ, xcA]) dX11_isSteadyWorse_77 (by decide) (by decide) rfl (fun H locs hR hS => ?_)
      replace hF := xguard hF; obtain ⟨c6, hF⟩ := hF
      cases hF
      exact x_iret hx hb hr (xnarZ c6) hlk hR hS (by decide) (by decide) dX11_isSteadyWorse_80
    · replace hF := xiff c3 hF
      refine lv_iload hx hb dX11_isSteadyWorse_35 (lv_at hl 7 rfl) ?_
      refine lv_iload hx hb dX11_isSteadyWorse_37 (lv_at hl 8 rfl) ?_
      refine lv_iload hx hb dX11_isSteadyWorse_39 (lv_at hl 4 rfl) ?_
      refine lv_icmp_lt (tgt := 49) hx hb dX11_isSteadyWorse_41 (by decide) (fun c7 => ?_) (fun c7 => ?_)
      · replace hF := xift c7 hF
        refine lv_iconst (v := 0) hx hb dX11_isSteadyWorse_49 (by decide) ?_
        refine lv_iadd hx hb dX11_isSteadyWorse_50 ?_
        refine lv_topi (fun v8 ev8 => ?_)
        replace hF := xlet ev8 hF
        refine lv_istore (lv' := [(8, .int v8), (0, va_rf (some a0)), (1, .int x1), (3, .int x3), (4, .int x4), (5, .int x5), (6, .int x6), (7, .int x7), (9, .int x9)]) hx hb dX11_isSteadyWorse_51 hl (by decide) (by first | rfl | (simp [xrf_cat, xcI, xcJ, xcA]; done) | (simp [xrf_cat, xcI, xcJ, xcA]; decide)) (fun ls hl => ?_)
        obtain ⟨v9, ev9⟩ : ∃ z : Int32, z = (x9 + 1) := ⟨_, rfl⟩
        replace hF := xlet ev9 hF
        refine lv_iinc (v := v9) (lv' := [(9, .int v9), (8, .int v8), (0, va_rf (some a0)), (1, .int x1), (3, .int x3), (4, .int x4), (5, .int x5), (6, .int x6), (7, .int x7)]) hx hb dX11_isSteadyWorse_53 hl (k := 8) rfl (by rw [ev9]; rfl) (by decide) (by first | rfl | (simp [xrf_cat, xcI, xcJ, xcA]; done) | (simp [xrf_cat, xcI, xcJ, xcA]; decide)) (fun ls hl => ?_)
        refine lv_goto (tgt := 28) hx hb dX11_isSteadyWorse_56 (by decide) ?_
        exact ih v8 v9 _ _ _ hF hR hS (lv_sub hl [2, 3, 4, 5, 6, 7, 8, 1, 0] rfl)
      · replace hF := xiff c7 hF
        refine lv_iload hx hb dX11_isSteadyWorse_44 (lv_at hl 5 rfl) ?_
        refine lv_goto (tgt := 50) hx hb dX11_isSteadyWorse_46 (by decide) ?_
        refine lv_iadd hx hb dX11_isSteadyWorse_50 ?_
        refine lv_topi (fun v10 ev10 => ?_)
        replace hF := xlet ev10 hF
        refine lv_istore (lv' := [(8, .int v10), (0, va_rf (some a0)), (1, .int x1), (3, .int x3), (4, .int x4), (5, .int x5), (6, .int x6), (7, .int x7), (9, .int x9)]) hx hb dX11_isSteadyWorse_51 hl (by decide) (by first | rfl | (simp [xrf_cat, xcI, xcJ, xcA]; done) | (simp [xrf_cat, xcI, xcJ, xcA]; decide)) (fun ls hl => ?_)
        obtain ⟨v11, ev11⟩ : ∃ z : Int32, z = (x9 + 1) := ⟨_, rfl⟩
        replace hF := xlet ev11 hF
        refine lv_iinc (v := v11) (lv' := [(9, .int v11), (8, .int v10), (0, va_rf (some a0)), (1, .int x1), (3, .int x3), (4, .int x4), (5, .int x5), (6, .int x6), (7, .int x7)]) hx hb dX11_isSteadyWorse_53 hl (k := 8) rfl (by rw [ev11]; rfl) (by decide) (by first | rfl | (simp [xrf_cat, xcI, xcJ, xcA]; done) | (simp [xrf_cat, xcI, xcJ, xcA]; decide)) (fun ls hl => ?_)
        refine lv_goto (tgt := 28) hx hb dX11_isSteadyWorse_56 (by decide) ?_
        exact ih v10 v11 _ _ _ hF hR hS (lv_sub hl [2, 3, 4, 5, 6, 7, 8, 1, 0] rfl)
def F_X11_isSteadyWorse (G : Nat → Nat) (h : xH) (a0 : Nat) (x1 : Int32) (x2 : Int32) (x3 : Int32) (x4 : Int32) (x5 : Int32) (x6 : Int32) : Option Int32 :=
  if 0 ≤ ((x4 - x2) + 1) then
    xl ((x4 - x2) + 1) fun v2 =>
    F_X11_isSteadyWorse_28 G h a0 x1 x3 x4 x5 x6 v2 xN 0 v2
  else
  F_X11_isSteadyWorse_28 G h a0 x1 x3 x4 x5 x6 0 xN 0 0
set_option maxHeartbeats 4000000 in
set_option maxRecDepth 100000 in
theorem t_X11_isSteadyWorse (l : Launch) (D : va_G) (G : Nat → Nat) (h : xH) (a0 : Nat) (x1 : Int32) (x2 : Int32) (x3 : Int32) (x4 : Int32) (x5 : Int32) (x6 : Int32) (r : Int32) (hF : F_X11_isSteadyWorse G h a0 x1 x2 x3 x4 x5 x6 = some r) : xC l yX11_isSteadyWorse cX11_isSteadyWorse 10 (some .boolean) (rm_X11_isSteadyWorse) D G h [.ref a0, .int x1, .int x2, .int x3, .int x4, .int x5, .int x6] (some (.int r)) h := by
  refine xC_of (by decide) (by first | decide | exact Nat.le_of_ble_eq_true rfl) ?_
  intro p e s m args below meth c ls hx hb hr hlk hml hown hnm hts hR hS hl
  have hl : lv_has ls 10 [(0, va_rf (some a0)), (1, .int x1), (2, .int x2), (3, .int x3), (4, .int x4), (5, .int x5), (6, .int x6)] := hl
  unfold F_X11_isSteadyWorse at hF
  refine lv_iload hx hb dX11_isSteadyWorse_0 (lv_at hl 4 rfl) ?_
  refine lv_iload_n hx hb dX11_isSteadyWorse_2 rfl (lv_at hl 2 rfl) ?_
  refine lv_isub hx hb dX11_isSteadyWorse_3 ?_
  refine lv_iconst (v := 1) hx hb dX11_isSteadyWorse_4 (by decide) ?_
  refine lv_iadd hx hb dX11_isSteadyWorse_5 ?_
  refine lv_if_ge (tgt := 13) hx hb dX11_isSteadyWorse_6 (by decide) (fun c1 => ?_) (fun c1 => ?_)
  · replace hF := xift c1 hF
    refine lv_iload hx hb dX11_isSteadyWorse_13 (lv_at hl 4 rfl) ?_
    refine lv_iload_n hx hb dX11_isSteadyWorse_15 rfl (lv_at hl 2 rfl) ?_
    refine lv_isub hx hb dX11_isSteadyWorse_16 ?_
    refine lv_iconst (v := 1) hx hb dX11_isSteadyWorse_17 (by decide) ?_
    refine lv_iadd hx hb dX11_isSteadyWorse_18 ?_
    refine lv_topi (fun v2 ev2 => ?_)
    replace hF := xlet ev2 hF
    refine lv_istore (lv' := [(7, .int v2), (0, va_rf (some a0)), (1, .int x1), (2, .int x2), (3, .int x3), (4, .int x4), (5, .int x5), (6, .int x6)]) hx hb dX11_isSteadyWorse_19 hl (by decide) (by first | rfl | (simp [xrf_cat, xcI, xcJ, xcA]; done) | (simp [xrf_cat, xcI, xcJ, xcA]; decide)) (fun ls hl => ?_)
    refine lv_iconst (v := 0) hx hb dX11_isSteadyWorse_21 (by decide) ?_
    refine lv_istore (lv' := [(8, .int 0), (7, .int v2), (0, va_rf (some a0)), (1, .int x1), (2, .int x2), (3, .int x3), (4, .int x4), (5, .int x5), (6, .int x6)]) hx hb dX11_isSteadyWorse_22 hl (by decide) (by first | rfl | (simp [xrf_cat, xcI, xcJ, xcA]; done) | (simp [xrf_cat, xcI, xcJ, xcA]; decide)) (fun ls hl => ?_)
    refine lv_iload hx hb dX11_isSteadyWorse_24 (lv_at hl 1 rfl) ?_
    refine lv_istore (lv' := [(9, .int v2), (8, .int 0), (7, .int v2), (0, va_rf (some a0)), (1, .int x1), (2, .int x2), (3, .int x3), (4, .int x4), (5, .int x5), (6, .int x6)]) hx hb dX11_isSteadyWorse_26 hl (by decide) (by first | rfl | (simp [xrf_cat, xcI, xcJ, xcA]; done) | (simp [xrf_cat, xcI, xcJ, xcA]; decide)) (fun ls hl => ?_)
    refine W.widen (k := 0) (n := 0) (by decide) (by decide) ?_
    exact tl_X11_isSteadyWorse_28 hx hb hr hlk hml hown hnm hts G h a0 x1 x3 x4 x5 x6 v2 _ 0 v2 _ _ _ hF hR hS (lv_sub hl [3, 4, 6, 7, 8, 9, 2, 1, 0] rfl)
  · replace hF := xiff c1 hF
    refine lv_iconst (v := 0) hx hb dX11_isSteadyWorse_9 (by decide) ?_
    refine lv_goto (tgt := 19) hx hb dX11_isSteadyWorse_10 (by decide) ?_
    refine lv_istore (lv' := [(7, .int 0), (0, va_rf (some a0)), (1, .int x1), (2, .int x2), (3, .int x3), (4, .int x4), (5, .int x5), (6, .int x6)]) hx hb dX11_isSteadyWorse_19 hl (by decide) (by first | rfl | (simp [xrf_cat, xcI, xcJ, xcA]; done) | (simp [xrf_cat, xcI, xcJ, xcA]; decide)) (fun ls hl => ?_)
    refine lv_iconst (v := 0) hx hb dX11_isSteadyWorse_21 (by decide) ?_
    refine lv_istore (lv' := [(8, .int 0), (7, .int 0), (0, va_rf (some a0)), (1, .int x1), (2, .int x2), (3, .int x3), (4, .int x4), (5, .int x5), (6, .int x6)]) hx hb dX11_isSteadyWorse_22 hl (by decide) (by first | rfl | (simp [xrf_cat, xcI, xcJ, xcA]; done) | (simp [xrf_cat, xcI, xcJ, xcA]; decide)) (fun ls hl => ?_)
    refine lv_iload hx hb dX11_isSteadyWorse_24 (lv_at hl 1 rfl) ?_
    refine lv_istore (lv' := [(9, .int 0), (8, .int 0), (7, .int 0), (0, va_rf (some a0)), (1, .int x1), (2, .int x2), (3, .int x3), (4, .int x4), (5, .int x5), (6, .int x6)]) hx hb dX11_isSteadyWorse_26 hl (by decide) (by first | rfl | (simp [xrf_cat, xcI, xcJ, xcA]; done) | (simp [xrf_cat, xcI, xcJ, xcA]; decide)) (fun ls hl => ?_)
    refine W.widen (k := 0) (n := 0) (by decide) (by decide) ?_
    exact tl_X11_isSteadyWorse_28 hx hb hr hlk hml hown hnm hts G h a0 x1 x3 x4 x5 x6 0 _ 0 0 _ _ _ hF hR hS (lv_sub hl [3, 4, 6, 7, 8, 9, 2, 1, 0] rfl)
def rm_X11_soonestOf : Room := { frames := 2, cells := 0, slots := 0, locals := 55 }
theorem f_X11_soonestOf : xM yX11_soonestOf cX11_soonestOf 9 (some .int) 6 := ⟨mm_1197, mm_62, by decide +kernel, by decide +kernel⟩
theorem dX11_soonestOf_0 : decode cX11_soonestOf 0 = .ok (.iload 5, 2) := by decide +kernel
theorem dX11_soonestOf_2 : decode cX11_soonestOf 2 = .ok (.iload_n 2, 1) := by decide +kernel
theorem dX11_soonestOf_3 : decode cX11_soonestOf 3 = .ok (.iadd, 1) := by decide +kernel
theorem dX11_soonestOf_4 : decode cX11_soonestOf 4 = .ok (.sipush 599, 3) := by decide +kernel
theorem dX11_soonestOf_7 : decode cX11_soonestOf 7 = .ok (.if_icmp .ge 10, 3) := by decide +kernel
theorem dX11_soonestOf_10 : decode cX11_soonestOf 10 = .ok (.iload 5, 2) := by decide +kernel
theorem dX11_soonestOf_12 : decode cX11_soonestOf 12 = .ok (.iload_n 2, 1) := by decide +kernel
theorem dX11_soonestOf_13 : decode cX11_soonestOf 13 = .ok (.iadd, 1) := by decide +kernel
theorem dX11_soonestOf_14 : decode cX11_soonestOf 14 = .ok (.goto 6, 3) := by decide +kernel
theorem dX11_soonestOf_17 : decode cX11_soonestOf 17 = .ok (.sipush 599, 3) := by decide +kernel
theorem dX11_soonestOf_20 : decode cX11_soonestOf 20 = .ok (.istore 7, 2) := by decide +kernel
theorem dX11_soonestOf_22 : decode cX11_soonestOf 22 = .ok (.iconst 0, 1) := by decide +kernel
theorem dX11_soonestOf_23 : decode cX11_soonestOf 23 = .ok (.istore 8, 2) := by decide +kernel
theorem dX11_soonestOf_25 : decode cX11_soonestOf 25 = .ok (.iload 8, 2) := by decide +kernel
theorem dX11_soonestOf_27 : decode cX11_soonestOf 27 = .ok (.iload 7, 2) := by decide +kernel
theorem dX11_soonestOf_29 : decode cX11_soonestOf 29 = .ok (.if_icmp .gt 46, 3) := by decide +kernel
theorem dX11_soonestOf_32 : decode cX11_soonestOf 32 = .ok (.aload_n 0, 1) := by decide +kernel
theorem dX11_soonestOf_33 : decode cX11_soonestOf 33 = .ok (.iload_n 1, 1) := by decide +kernel
theorem dX11_soonestOf_34 : decode cX11_soonestOf 34 = .ok (.iload_n 3, 1) := by decide +kernel
theorem dX11_soonestOf_35 : decode cX11_soonestOf 35 = .ok (.iload 4, 2) := by decide +kernel
theorem dX11_soonestOf_37 : decode cX11_soonestOf 37 = .ok (.iload 8, 2) := by decide +kernel
theorem dX11_soonestOf_39 : decode cX11_soonestOf 39 = .ok (.iload 5, 2) := by decide +kernel
theorem dX11_soonestOf_41 : decode cX11_soonestOf 41 = .ok (.iload 6, 2) := by decide +kernel
theorem dX11_soonestOf_43 : decode cX11_soonestOf 43 = .ok (.invokevirtual 196, 3) := by decide +kernel
theorem dX11_soonestOf_46 : decode cX11_soonestOf 46 = .ok (.ifCond .eq 23, 3) := by decide +kernel
theorem dX11_soonestOf_49 : decode cX11_soonestOf 49 = .ok (.aload_n 0, 1) := by decide +kernel
theorem dX11_soonestOf_50 : decode cX11_soonestOf 50 = .ok (.iload_n 1, 1) := by decide +kernel
theorem dX11_soonestOf_51 : decode cX11_soonestOf 51 = .ok (.iload_n 2, 1) := by decide +kernel
theorem dX11_soonestOf_52 : decode cX11_soonestOf 52 = .ok (.iload 4, 2) := by decide +kernel
theorem dX11_soonestOf_54 : decode cX11_soonestOf 54 = .ok (.iload 8, 2) := by decide +kernel
theorem dX11_soonestOf_56 : decode cX11_soonestOf 56 = .ok (.iload 5, 2) := by decide +kernel
theorem dX11_soonestOf_58 : decode cX11_soonestOf 58 = .ok (.iload 6, 2) := by decide +kernel
theorem dX11_soonestOf_60 : decode cX11_soonestOf 60 = .ok (.invokevirtual 196, 3) := by decide +kernel
theorem dX11_soonestOf_63 : decode cX11_soonestOf 63 = .ok (.ifCond .eq 6, 3) := by decide +kernel
theorem dX11_soonestOf_66 : decode cX11_soonestOf 66 = .ok (.iload 8, 2) := by decide +kernel
theorem dX11_soonestOf_68 : decode cX11_soonestOf 68 = .ok (.ireturn, 1) := by decide +kernel
theorem dX11_soonestOf_69 : decode cX11_soonestOf 69 = .ok (.iinc 8 1, 3) := by decide +kernel
theorem dX11_soonestOf_72 : decode cX11_soonestOf 72 = .ok (.goto (-47), 3) := by decide +kernel
theorem dX11_soonestOf_75 : decode cX11_soonestOf 75 = .ok (.iconst (-1), 1) := by decide +kernel
theorem dX11_soonestOf_76 : decode cX11_soonestOf 76 = .ok (.ireturn, 1) := by decide +kernel
def F_X11_soonestOf_25 (G : Nat → Nat) (h : xH) (a0 : Nat) (x1 : Int32) (x2 : Int32) (x3 : Int32) (x4 : Int32) (x5 : Int32) (x6 : Int32) (x7 : Int32) : Nat → Int32 → Option Int32
  | 0, _ => none
  | n + 1, x8 =>
    if x7 < x8 then
      some (-1)
    else
    (xc h (some a0) 11).bind fun b4 =>
    (F_X11_isSteadyWorse G h b4 x1 x3 x4 x8 x5 x6).bind fun v3 =>
    if v3 = 0 then
      xl (x8 + 1) fun v6 =>
      F_X11_soonestOf_25 G h a0 x1 x2 x3 x4 x5 x6 x7 n v6
    else
    (xc h (some a0) 11).bind fun b8 =>
    (F_X11_isSteadyWorse G h b8 x1 x2 x4 x8 x5 x6).bind fun v7 =>
    if v7 = 0 then
      xl (x8 + 1) fun v10 =>
      F_X11_soonestOf_25 G h a0 x1 x2 x3 x4 x5 x6 x7 n v10
    else
    some x8
set_option maxHeartbeats 4000000 in
set_option maxRecDepth 100000 in
theorem tl_X11_soonestOf_25 {p : Program} {l : Launch} {e : Env} {s : State} {m : MethodId} {args : Array Value} {below : List Frame} {meth : Method} {c : Code} {D : va_G} {r : Int32} (hx : p.tables.exec = Jvm.exec) (hb : c.code = cX11_soonestOf) (hr : meth.sig.returnType = (some .int)) (hlk : meth.locks = false) (hml : c.maxLocals = 9) (hown : s.vm.findClass RX11 = some m.cls) (hnm : meth.name = "soonestOf") (hts : ∀ w ∈ xt, w.before args s = true) (G : Nat → Nat) (h : xH) (a0 : Nat) (x1 : Int32) (x2 : Int32) (x3 : Int32) (x4 : Int32) (x5 : Int32) (x6 : Int32) (x7 : Int32) : ∀ (n : Nat) (x8 : Int32) (H : Heap) (locs : List Loc) (ls : Array Slot), F_X11_soonestOf_25 G h a0 x1 x2 x3 x4 x5 x6 x7 n x8 = some r → xR D G h s H → va_S (xA G) s.heap H locs → lv_has ls 9 [(0, va_rf (some a0)), (1, .int x1), (2, .int x2), (3, .int x3), (4, .int x4), (5, .int x5), (6, .int x6), (7, .int x7), (8, .int x8)] → W p l e rm_X11_soonestOf s m args below meth c H locs 0 0 (MQ below (xQ D G (some (.int r)) h) args s rm_X11_soonestOf.cells rm_X11_soonestOf.slots (xA G)) (F0 m 25 ls []) := by
  intro n
  induction n with
  | zero =>
    intro x8 H locs ls hF
    rw [F_X11_soonestOf_25.eq_1] at hF
    cases hF
  | succ n ih =>
    intro x8 H locs ls hF hR hS hl
    rw [F_X11_soonestOf_25.eq_2] at hF
    refine lv_iload hx hb dX11_soonestOf_25 (lv_at hl 8 rfl) ?_
    refine lv_iload hx hb dX11_soonestOf_27 (lv_at hl 7 rfl) ?_
    refine lv_icmp_gt (tgt := 75) hx hb dX11_soonestOf_29 (by decide) (fun c2 => ?_) (fun c2 => ?_)
    · replace hF := xift c2 hF
      refine lv_iconst (v := (-1)) hx hb dX11_soonestOf_75 (by decide) ?_
      cases hF
      exact x_iret hx hb hr rfl hlk hR hS (by decide) (by decide) dX11_soonestOf_76
    · replace hF := xiff c2 hF
      refine x_aload_n (o := (some a0)) hx hb dX11_soonestOf_32 rfl (lv_at hl 0 rfl) ?_
      refine lv_iload_n hx hb dX11_soonestOf_33 rfl (lv_at hl 1 rfl) ?_
      refine lv_iload_n hx hb dX11_soonestOf_34 rfl (lv_at hl 3 rfl) ?_
      refine lv_iload hx hb dX11_soonestOf_35 (lv_at hl 4 rfl) ?_
      refine lv_iload hx hb dX11_soonestOf_37 (lv_at hl 8 rfl) ?_
      refine lv_iload hx hb dX11_soonestOf_39 (lv_at hl 5 rfl) ?_
      refine lv_iload hx hb dX11_soonestOf_41 (lv_at hl 6 rfl) ?_
      replace hF := xbind hF; obtain ⟨b4, eb4, hF⟩ := hF
      replace hF := xbind hF; obtain ⟨v3, ev3, hF⟩ := hF
      refine x_callV (o := (some a0)) (ci := 11) (As := [.int x1, .int x3, .int x4, .int x8, .int x5, .int x6]) (rest := []) (v := (some (.int v3))) (k := 6) hx hb hml hown hts hR hS eb4 rfl rfl (t_X11_isSteadyWorse l D G h b4 x1 x3 x4 x8 x5 x6 v3 ev3) f_X11_isSteadyWorse mm_1198 mm_1200 mm_48 rfl hl.1 rfl (by first | exact Nat.le_of_ble_eq_true rfl | simp [xrf_cat, xcI, xcJ, xcA]) dX11_soonestOf_43 (by decide) (by decide) rfl (fun H locs hR hS => ?_)
      refine lv_if_eq (tgt := 69) hx hb dX11_soonestOf_46 (by decide) (fun c5 => ?_) (fun c5 => ?_)
      · replace hF := xift c5 hF
        obtain ⟨v6, ev6⟩ : ∃ z : Int32, z = (x8 + 1) := ⟨_, rfl⟩
        replace hF := xlet ev6 hF
        refine lv_iinc (v := v6) (lv' := [(8, .int v6), (0, va_rf (some a0)), (1, .int x1), (2, .int x2), (3, .int x3), (4, .int x4), (5, .int x5), (6, .int x6), (7, .int x7)]) hx hb dX11_soonestOf_69 hl (k := 8) rfl (by rw [ev6]; rfl) (by decide) (by first | rfl | (simp [xrf_cat, xcI, xcJ, xcA]; done) | (simp [xrf_cat, xcI, xcJ, xcA]; decide)) (fun ls hl => ?_)
        refine lv_goto (tgt := 25) hx hb dX11_soonestOf_72 (by decide) ?_
        exact ih v6 _ _ _ hF hR hS (lv_sub hl [1, 2, 3, 4, 5, 6, 7, 8, 0] rfl)
      · replace hF := xiff c5 hF
        refine x_aload_n (o := (some a0)) hx hb dX11_soonestOf_49 rfl (lv_at hl 0 rfl) ?_
        refine lv_iload_n hx hb dX11_soonestOf_50 rfl (lv_at hl 1 rfl) ?_
        refine lv_iload_n hx hb dX11_soonestOf_51 rfl (lv_at hl 2 rfl) ?_
        refine lv_iload hx hb dX11_soonestOf_52 (lv_at hl 4 rfl) ?_
        refine lv_iload hx hb dX11_soonestOf_54 (lv_at hl 8 rfl) ?_
        refine lv_iload hx hb dX11_soonestOf_56 (lv_at hl 5 rfl) ?_
        refine lv_iload hx hb dX11_soonestOf_58 (lv_at hl 6 rfl) ?_
        replace hF := xbind hF; obtain ⟨b8, eb8, hF⟩ := hF
        replace hF := xbind hF; obtain ⟨v7, ev7, hF⟩ := hF
        refine x_callV (o := (some a0)) (ci := 11) (As := [.int x1, .int x2, .int x4, .int x8, .int x5, .int x6]) (rest := []) (v := (some (.int v7))) (k := 6) hx hb hml hown hts hR hS eb8 rfl rfl (t_X11_isSteadyWorse l D G h b8 x1 x2 x4 x8 x5 x6 v7 ev7) f_X11_isSteadyWorse mm_1198 mm_1200 mm_48 rfl hl.1 rfl (by first | exact Nat.le_of_ble_eq_true rfl | simp [xrf_cat, xcI, xcJ, xcA]) dX11_soonestOf_60 (by decide) (by decide) rfl (fun H locs hR hS => ?_)
        refine lv_if_eq (tgt := 69) hx hb dX11_soonestOf_63 (by decide) (fun c9 => ?_) (fun c9 => ?_)
        · replace hF := xift c9 hF
          obtain ⟨v10, ev10⟩ : ∃ z : Int32, z = (x8 + 1) := ⟨_, rfl⟩
          replace hF := xlet ev10 hF
          refine lv_iinc (v := v10) (lv' := [(8, .int v10), (0, va_rf (some a0)), (1, .int x1), (2, .int x2), (3, .int x3), (4, .int x4), (5, .int x5), (6, .int x6), (7, .int x7)]) hx hb dX11_soonestOf_69 hl (k := 8) rfl (by rw [ev10]; rfl) (by decide) (by first | rfl | (simp [xrf_cat, xcI, xcJ, xcA]; done) | (simp [xrf_cat, xcI, xcJ, xcA]; decide)) (fun ls hl => ?_)
          refine lv_goto (tgt := 25) hx hb dX11_soonestOf_72 (by decide) ?_
          exact ih v10 _ _ _ hF hR hS (lv_sub hl [1, 2, 3, 4, 5, 6, 7, 8, 0] rfl)
        · replace hF := xiff c9 hF
          refine lv_iload hx hb dX11_soonestOf_66 (lv_at hl 8 rfl) ?_
          cases hF
          exact x_iret hx hb hr rfl hlk hR hS (by decide) (by decide) dX11_soonestOf_68
def F_X11_soonestOf (G : Nat → Nat) (h : xH) (a0 : Nat) (x1 : Int32) (x2 : Int32) (x3 : Int32) (x4 : Int32) (x5 : Int32) (x6 : Int32) : Option Int32 :=
  if 599 ≤ (x5 + x2) then
    F_X11_soonestOf_25 G h a0 x1 x2 x3 x4 x5 x6 599 xN 0
  else
  xl (x5 + x2) fun v11 =>
  F_X11_soonestOf_25 G h a0 x1 x2 x3 x4 x5 x6 v11 xN 0
set_option maxHeartbeats 4000000 in
set_option maxRecDepth 100000 in
theorem t_X11_soonestOf (l : Launch) (D : va_G) (G : Nat → Nat) (h : xH) (a0 : Nat) (x1 : Int32) (x2 : Int32) (x3 : Int32) (x4 : Int32) (x5 : Int32) (x6 : Int32) (r : Int32) (hF : F_X11_soonestOf G h a0 x1 x2 x3 x4 x5 x6 = some r) : xC l yX11_soonestOf cX11_soonestOf 9 (some .int) (rm_X11_soonestOf) D G h [.ref a0, .int x1, .int x2, .int x3, .int x4, .int x5, .int x6] (some (.int r)) h := by
  refine xC_of (by decide) (by first | decide | exact Nat.le_of_ble_eq_true rfl) ?_
  intro p e s m args below meth c ls hx hb hr hlk hml hown hnm hts hR hS hl
  have hl : lv_has ls 9 [(0, va_rf (some a0)), (1, .int x1), (2, .int x2), (3, .int x3), (4, .int x4), (5, .int x5), (6, .int x6)] := hl
  unfold F_X11_soonestOf at hF
  refine lv_iload hx hb dX11_soonestOf_0 (lv_at hl 5 rfl) ?_
  refine lv_iload_n hx hb dX11_soonestOf_2 rfl (lv_at hl 2 rfl) ?_
  refine lv_iadd hx hb dX11_soonestOf_3 ?_
  refine lv_sipush (v := 599) hx hb dX11_soonestOf_4 (by decide) ?_
  refine lv_icmp_ge (tgt := 17) hx hb dX11_soonestOf_7 (by decide) (fun c1 => ?_) (fun c1 => ?_)
  · replace hF := xift c1 hF
    refine lv_sipush (v := 599) hx hb dX11_soonestOf_17 (by decide) ?_
    refine lv_istore (lv' := [(7, .int 599), (0, va_rf (some a0)), (1, .int x1), (2, .int x2), (3, .int x3), (4, .int x4), (5, .int x5), (6, .int x6)]) hx hb dX11_soonestOf_20 hl (by decide) (by first | rfl | (simp [xrf_cat, xcI, xcJ, xcA]; done) | (simp [xrf_cat, xcI, xcJ, xcA]; decide)) (fun ls hl => ?_)
    refine lv_iconst (v := 0) hx hb dX11_soonestOf_22 (by decide) ?_
    refine lv_istore (lv' := [(8, .int 0), (7, .int 599), (0, va_rf (some a0)), (1, .int x1), (2, .int x2), (3, .int x3), (4, .int x4), (5, .int x5), (6, .int x6)]) hx hb dX11_soonestOf_23 hl (by decide) (by first | rfl | (simp [xrf_cat, xcI, xcJ, xcA]; done) | (simp [xrf_cat, xcI, xcJ, xcA]; decide)) (fun ls hl => ?_)
    refine W.widen (k := 0) (n := 0) (by decide) (by decide) ?_
    exact tl_X11_soonestOf_25 hx hb hr hlk hml hown hnm hts G h a0 x1 x2 x3 x4 x5 x6 599 _ 0 _ _ _ hF hR hS (lv_sub hl [2, 3, 4, 5, 6, 7, 8, 1, 0] rfl)
  · replace hF := xiff c1 hF
    refine lv_iload hx hb dX11_soonestOf_10 (lv_at hl 5 rfl) ?_
    refine lv_iload_n hx hb dX11_soonestOf_12 rfl (lv_at hl 2 rfl) ?_
    refine lv_iadd hx hb dX11_soonestOf_13 ?_
    refine lv_goto (tgt := 20) hx hb dX11_soonestOf_14 (by decide) ?_
    refine lv_topi (fun v11 ev11 => ?_)
    replace hF := xlet ev11 hF
    refine lv_istore (lv' := [(7, .int v11), (0, va_rf (some a0)), (1, .int x1), (2, .int x2), (3, .int x3), (4, .int x4), (5, .int x5), (6, .int x6)]) hx hb dX11_soonestOf_20 hl (by decide) (by first | rfl | (simp [xrf_cat, xcI, xcJ, xcA]; done) | (simp [xrf_cat, xcI, xcJ, xcA]; decide)) (fun ls hl => ?_)
    refine lv_iconst (v := 0) hx hb dX11_soonestOf_22 (by decide) ?_
    refine lv_istore (lv' := [(8, .int 0), (7, .int v11), (0, va_rf (some a0)), (1, .int x1), (2, .int x2), (3, .int x3), (4, .int x4), (5, .int x5), (6, .int x6)]) hx hb dX11_soonestOf_23 hl (by decide) (by first | rfl | (simp [xrf_cat, xcI, xcJ, xcA]; done) | (simp [xrf_cat, xcI, xcJ, xcA]; decide)) (fun ls hl => ?_)
    refine W.widen (k := 0) (n := 0) (by decide) (by decide) ?_
    exact tl_X11_soonestOf_25 hx hb hr hlk hml hown hnm hts G h a0 x1 x2 x3 x4 x5 x6 v11 _ 0 _ _ _ hF hR hS (lv_sub hl [2, 3, 4, 5, 6, 7, 8, 1, 0] rfl)
def rm_X11_soonest : Room := { frames := 3, cells := 0, slots := 0, locals := 83 }
theorem f_X11_soonest : xM yX11_soonest cX11_soonest 6 (some .int) 4 := ⟨mm_1193, mm_62, by decide +kernel, by decide +kernel⟩
theorem dX11_soonest_0 : decode cX11_soonest 0 = .ok (.aload_n 0, 1) := by decide +kernel
theorem dX11_soonest_1 : decode cX11_soonest 1 = .ok (.iconst 0, 1) := by decide +kernel
theorem dX11_soonest_2 : decode cX11_soonest 2 = .ok (.putfield 93, 3) := by decide +kernel
theorem dX11_soonest_5 : decode cX11_soonest 5 = .ok (.aload_n 0, 1) := by decide +kernel
theorem dX11_soonest_6 : decode cX11_soonest 6 = .ok (.iload_n 1, 1) := by decide +kernel
theorem dX11_soonest_7 : decode cX11_soonest 7 = .ok (.invokevirtual 187, 3) := by decide +kernel
theorem dX11_soonest_10 : decode cX11_soonest 10 = .ok (.ifCond .eq 35, 3) := by decide +kernel
theorem dX11_soonest_13 : decode cX11_soonest 13 = .ok (.iload_n 2, 1) := by decide +kernel
theorem dX11_soonest_14 : decode cX11_soonest 14 = .ok (.ifCond .lt 31, 3) := by decide +kernel
theorem dX11_soonest_17 : decode cX11_soonest 17 = .ok (.iload_n 2, 1) := by decide +kernel
theorem dX11_soonest_18 : decode cX11_soonest 18 = .ok (.sipush 300, 3) := by decide +kernel
theorem dX11_soonest_21 : decode cX11_soonest 21 = .ok (.if_icmp .gt 24, 3) := by decide +kernel
theorem dX11_soonest_24 : decode cX11_soonest 24 = .ok (.iload_n 3, 1) := by decide +kernel
theorem dX11_soonest_25 : decode cX11_soonest 25 = .ok (.ifCond .lt 20, 3) := by decide +kernel
theorem dX11_soonest_28 : decode cX11_soonest 28 = .ok (.iload_n 3, 1) := by decide +kernel
theorem dX11_soonest_29 : decode cX11_soonest 29 = .ok (.bipush 10, 2) := by decide +kernel
theorem dX11_soonest_31 : decode cX11_soonest 31 = .ok (.if_icmp .gt 14, 3) := by decide +kernel
theorem dX11_soonest_34 : decode cX11_soonest 34 = .ok (.iload 4, 2) := by decide +kernel
theorem dX11_soonest_36 : decode cX11_soonest 36 = .ok (.ifCond .lt 9, 3) := by decide +kernel
theorem dX11_soonest_39 : decode cX11_soonest 39 = .ok (.iload 4, 2) := by decide +kernel
theorem dX11_soonest_41 : decode cX11_soonest 41 = .ok (.iconst 1, 1) := by decide +kernel
theorem dX11_soonest_42 : decode cX11_soonest 42 = .ok (.if_icmp .le 5, 3) := by decide +kernel
theorem dX11_soonest_45 : decode cX11_soonest 45 = .ok (.iconst (-1), 1) := by decide +kernel
theorem dX11_soonest_46 : decode cX11_soonest 46 = .ok (.ireturn, 1) := by decide +kernel
theorem dX11_soonest_47 : decode cX11_soonest 47 = .ok (.aload_n 0, 1) := by decide +kernel
theorem dX11_soonest_48 : decode cX11_soonest 48 = .ok (.aload_n 0, 1) := by decide +kernel
theorem dX11_soonest_49 : decode cX11_soonest 49 = .ok (.getfield 53, 3) := by decide +kernel
theorem dX11_soonest_52 : decode cX11_soonest 52 = .ok (.iload_n 1, 1) := by decide +kernel
theorem dX11_soonest_53 : decode cX11_soonest 53 = .ok (.iaload, 1) := by decide +kernel
theorem dX11_soonest_54 : decode cX11_soonest 54 = .ok (.aload_n 0, 1) := by decide +kernel
theorem dX11_soonest_55 : decode cX11_soonest 55 = .ok (.getfield 56, 3) := by decide +kernel
theorem dX11_soonest_58 : decode cX11_soonest 58 = .ok (.iload_n 1, 1) := by decide +kernel
theorem dX11_soonest_59 : decode cX11_soonest 59 = .ok (.iaload, 1) := by decide +kernel
theorem dX11_soonest_60 : decode cX11_soonest 60 = .ok (.aload_n 0, 1) := by decide +kernel
theorem dX11_soonest_61 : decode cX11_soonest 61 = .ok (.getfield 59, 3) := by decide +kernel
theorem dX11_soonest_64 : decode cX11_soonest 64 = .ok (.iload_n 1, 1) := by decide +kernel
theorem dX11_soonest_65 : decode cX11_soonest 65 = .ok (.iaload, 1) := by decide +kernel
theorem dX11_soonest_66 : decode cX11_soonest 66 = .ok (.aload_n 0, 1) := by decide +kernel
theorem dX11_soonest_67 : decode cX11_soonest 67 = .ok (.getfield 62, 3) := by decide +kernel
theorem dX11_soonest_70 : decode cX11_soonest 70 = .ok (.iload_n 1, 1) := by decide +kernel
theorem dX11_soonest_71 : decode cX11_soonest 71 = .ok (.iaload, 1) := by decide +kernel
theorem dX11_soonest_72 : decode cX11_soonest 72 = .ok (.iload_n 2, 1) := by decide +kernel
theorem dX11_soonest_73 : decode cX11_soonest 73 = .ok (.iload_n 3, 1) := by decide +kernel
theorem dX11_soonest_74 : decode cX11_soonest 74 = .ok (.invokevirtual 200, 3) := by decide +kernel
theorem dX11_soonest_77 : decode cX11_soonest 77 = .ok (.istore 5, 2) := by decide +kernel
theorem dX11_soonest_79 : decode cX11_soonest 79 = .ok (.iload 5, 2) := by decide +kernel
theorem dX11_soonest_81 : decode cX11_soonest 81 = .ok (.ifCond .lt 8, 3) := by decide +kernel
theorem dX11_soonest_84 : decode cX11_soonest 84 = .ok (.iload 4, 2) := by decide +kernel
theorem dX11_soonest_86 : decode cX11_soonest 86 = .ok (.ifCond .ne 8, 3) := by decide +kernel
theorem dX11_soonest_89 : decode cX11_soonest 89 = .ok (.iload 5, 2) := by decide +kernel
theorem dX11_soonest_91 : decode cX11_soonest 91 = .ok (.goto 11, 3) := by decide +kernel
theorem dX11_soonest_94 : decode cX11_soonest 94 = .ok (.iload_n 3, 1) := by decide +kernel
theorem dX11_soonest_95 : decode cX11_soonest 95 = .ok (.iload 5, 2) := by decide +kernel
theorem dX11_soonest_97 : decode cX11_soonest 97 = .ok (.iload_n 2, 1) := by decide +kernel
theorem dX11_soonest_98 : decode cX11_soonest 98 = .ok (.isub, 1) := by decide +kernel
theorem dX11_soonest_99 : decode cX11_soonest 99 = .ok (.iconst 1, 1) := by decide +kernel
theorem dX11_soonest_100 : decode cX11_soonest 100 = .ok (.iadd, 1) := by decide +kernel
theorem dX11_soonest_101 : decode cX11_soonest 101 = .ok (.imul, 1) := by decide +kernel
theorem dX11_soonest_102 : decode cX11_soonest 102 = .ok (.ireturn, 1) := by decide +kernel
def F_X11_soonest (G : Nat → Nat) (h : xH) (a0 : Nat) (x1 : Int32) (x2 : Int32) (x3 : Int32) (x4 : Int32) : Option (Int32 × xH) :=
  (xp G h (some a0) 11 0 (.int 0)).bind fun h1 =>
  (xc h1 (some a0) 11).bind fun b3 =>
  (F_X11_isAlarm G h1 b3 x1).bind fun v2 =>
  if v2 = 0 then
    some ((-1), h1)
  else
  if x2 < 0 then
    some ((-1), h1)
  else
  if 300 < x2 then
    some ((-1), h1)
  else
  if x3 < 0 then
    some ((-1), h1)
  else
  if 10 < x3 then
    some ((-1), h1)
  else
  if x4 < 0 then
    some ((-1), h1)
  else
  if x4 ≤ 1 then
    (gR h1 (some a0) 11 27).bind fun w11 =>
    (ldI 2 G h1 w11 x1).bind fun v12 =>
    (gR h1 (some a0) 11 28).bind fun w13 =>
    (ldI 2 G h1 w13 x1).bind fun v14 =>
    (gR h1 (some a0) 11 29).bind fun w15 =>
    (ldI 2 G h1 w15 x1).bind fun v16 =>
    (gR h1 (some a0) 11 30).bind fun w17 =>
    (ldI 2 G h1 w17 x1).bind fun v18 =>
    (xc h1 (some a0) 11).bind fun b20 =>
    (F_X11_soonestOf G h1 b20 v12 v14 v16 v18 x2 x3).bind fun v19 =>
    if v19 < 0 then
      some (v19, h1)
    else
    if x4 = 0 then
      some (v19, h1)
    else
    some ((x3 * ((v19 - x2) + 1)), h1)
  else
  some ((-1), h1)
set_option maxHeartbeats 4000000 in
set_option maxRecDepth 100000 in
theorem t_X11_soonest (l : Launch) (D : va_G) (G : Nat → Nat) (h : xH) (a0 : Nat) (x1 : Int32) (x2 : Int32) (x3 : Int32) (x4 : Int32) (r : Int32) (h' : xH) (hF : F_X11_soonest G h a0 x1 x2 x3 x4 = some (r, h')) : xC l yX11_soonest cX11_soonest 6 (some .int) (rm_X11_soonest) D G h [.ref a0, .int x1, .int x2, .int x3, .int x4] (some (.int r)) h' := by
  refine xC_of (by decide) (by first | decide | exact Nat.le_of_ble_eq_true rfl) ?_
  intro p e s m args below meth c ls hx hb hr hlk hml hown hnm hts hR hS hl
  have hl : lv_has ls 6 [(0, va_rf (some a0)), (1, .int x1), (2, .int x2), (3, .int x3), (4, .int x4)] := hl
  unfold F_X11_soonest at hF
  refine x_aload_n (o := (some a0)) hx hb dX11_soonest_0 rfl (lv_at hl 0 rfl) ?_
  refine lv_iconst (v := 0) hx hb dX11_soonest_1 (by decide) ?_
  replace hF := xbind hF; obtain ⟨h1, eh1, hF⟩ := hF
  refine x_put (o := (some a0)) (ci := 11) (C := RX11) (T := TX11) (N := 42) hx hb hts iw_X11 tyX11_ok nmX11 hown hR hS rfl 0 (by decide) mm_943 (Or.inl rfl) rfl rfl rfl eh1 dX11_soonest_2 (fun H locs hR hS => ?_)
  refine x_aload_n (o := (some a0)) hx hb dX11_soonest_5 rfl (lv_at hl 0 rfl) ?_
  refine lv_iload_n hx hb dX11_soonest_6 rfl (lv_at hl 1 rfl) ?_
  replace hF := xbind hF; obtain ⟨b3, eb3, hF⟩ := hF
  replace hF := xbind hF; obtain ⟨v2, ev2, hF⟩ := hF
  refine x_callV (o := (some a0)) (ci := 11) (As := [.int x1]) (rest := []) (v := (some (.int v2))) (k := 1) hx hb hml hown hts hR hS eb3 rfl rfl (t_X11_isAlarm l D G h1 b3 x1 v2 ev2) f_X11_isAlarm mm_1177 mm_1179 mm_44 rfl hl.1 rfl (by first | exact Nat.le_of_ble_eq_true rfl | simp [xrf_cat, xcI, xcJ, xcA]) dX11_soonest_7 (by decide) (by decide) rfl (fun H locs hR hS => ?_)
  refine lv_if_eq (tgt := 45) hx hb dX11_soonest_10 (by decide) (fun c4 => ?_) (fun c4 => ?_)
  · replace hF := xift c4 hF
    refine lv_iconst (v := (-1)) hx hb dX11_soonest_45 (by decide) ?_
    cases hF
    exact x_iret hx hb hr rfl hlk hR hS (by decide) (by decide) dX11_soonest_46
  · replace hF := xiff c4 hF
    refine lv_iload_n hx hb dX11_soonest_13 rfl (lv_at hl 2 rfl) ?_
    refine lv_if_lt (tgt := 45) hx hb dX11_soonest_14 (by decide) (fun c5 => ?_) (fun c5 => ?_)
    · replace hF := xift c5 hF
      refine lv_iconst (v := (-1)) hx hb dX11_soonest_45 (by decide) ?_
      cases hF
      exact x_iret hx hb hr rfl hlk hR hS (by decide) (by decide) dX11_soonest_46
    · replace hF := xiff c5 hF
      refine lv_iload_n hx hb dX11_soonest_17 rfl (lv_at hl 2 rfl) ?_
      refine lv_sipush (v := 300) hx hb dX11_soonest_18 (by decide) ?_
      refine lv_icmp_gt (tgt := 45) hx hb dX11_soonest_21 (by decide) (fun c6 => ?_) (fun c6 => ?_)
      · replace hF := xift c6 hF
        refine lv_iconst (v := (-1)) hx hb dX11_soonest_45 (by decide) ?_
        cases hF
        exact x_iret hx hb hr rfl hlk hR hS (by decide) (by decide) dX11_soonest_46
      · replace hF := xiff c6 hF
        refine lv_iload_n hx hb dX11_soonest_24 rfl (lv_at hl 3 rfl) ?_
        refine lv_if_lt (tgt := 45) hx hb dX11_soonest_25 (by decide) (fun c7 => ?_) (fun c7 => ?_)
        · replace hF := xift c7 hF
          refine lv_iconst (v := (-1)) hx hb dX11_soonest_45 (by decide) ?_
          cases hF
          exact x_iret hx hb hr rfl hlk hR hS (by decide) (by decide) dX11_soonest_46
        · replace hF := xiff c7 hF
          refine lv_iload_n hx hb dX11_soonest_28 rfl (lv_at hl 3 rfl) ?_
          refine lv_bipush (v := 10) hx hb dX11_soonest_29 (by decide) ?_
          refine lv_icmp_gt (tgt := 45) hx hb dX11_soonest_31 (by decide) (fun c8 => ?_) (fun c8 => ?_)
          · replace hF := xift c8 hF
            refine lv_iconst (v := (-1)) hx hb dX11_soonest_45 (by decide) ?_
            cases hF
            exact x_iret hx hb hr rfl hlk hR hS (by decide) (by decide) dX11_soonest_46
          · replace hF := xiff c8 hF
            refine lv_iload hx hb dX11_soonest_34 (lv_at hl 4 rfl) ?_
            refine lv_if_lt (tgt := 45) hx hb dX11_soonest_36 (by decide) (fun c9 => ?_) (fun c9 => ?_)
            · replace hF := xift c9 hF
              refine lv_iconst (v := (-1)) hx hb dX11_soonest_45 (by decide) ?_
              cases hF
              exact x_iret hx hb hr rfl hlk hR hS (by decide) (by decide) dX11_soonest_46
            · replace hF := xiff c9 hF
              refine lv_iload hx hb dX11_soonest_39 (lv_at hl 4 rfl) ?_
              refine lv_iconst (v := 1) hx hb dX11_soonest_41 (by decide) ?_
              refine lv_icmp_le (tgt := 47) hx hb dX11_soonest_42 (by decide) (fun c10 => ?_) (fun c10 => ?_)
              · replace hF := xift c10 hF
                refine x_aload_n (o := (some a0)) hx hb dX11_soonest_47 rfl (lv_at hl 0 rfl) ?_
                refine x_aload_n (o := (some a0)) hx hb dX11_soonest_48 rfl (lv_at hl 0 rfl) ?_
                replace hF := xbind hF; obtain ⟨w11, ew11, hF⟩ := hF
                refine x_getR (o := (some a0)) (ci := 11) (C := RX11) (T := TX11) (N := 42) hx hb hts iw_X11 hown hR rfl 27 (by decide) mm_970 (Or.inl rfl) ew11 dX11_soonest_49 ?_
                refine lv_iload_n hx hb dX11_soonest_52 rfl (lv_at hl 1 rfl) ?_
                replace hF := xbind hF; obtain ⟨v12, ev12, hF⟩ := hF
                refine x_ild (o := w11) hx hb hR ev12 dX11_soonest_53 ?_
                refine x_aload_n (o := (some a0)) hx hb dX11_soonest_54 rfl (lv_at hl 0 rfl) ?_
                replace hF := xbind hF; obtain ⟨w13, ew13, hF⟩ := hF
                refine x_getR (o := (some a0)) (ci := 11) (C := RX11) (T := TX11) (N := 42) hx hb hts iw_X11 hown hR rfl 28 (by decide) mm_971 (Or.inl rfl) ew13 dX11_soonest_55 ?_
                refine lv_iload_n hx hb dX11_soonest_58 rfl (lv_at hl 1 rfl) ?_
                replace hF := xbind hF; obtain ⟨v14, ev14, hF⟩ := hF
                refine x_ild (o := w13) hx hb hR ev14 dX11_soonest_59 ?_
                refine x_aload_n (o := (some a0)) hx hb dX11_soonest_60 rfl (lv_at hl 0 rfl) ?_
                replace hF := xbind hF; obtain ⟨w15, ew15, hF⟩ := hF
                refine x_getR (o := (some a0)) (ci := 11) (C := RX11) (T := TX11) (N := 42) hx hb hts iw_X11 hown hR rfl 29 (by decide) mm_972 (Or.inl rfl) ew15 dX11_soonest_61 ?_
                refine lv_iload_n hx hb dX11_soonest_64 rfl (lv_at hl 1 rfl) ?_
                replace hF := xbind hF; obtain ⟨v16, ev16, hF⟩ := hF
                refine x_ild (o := w15) hx hb hR ev16 dX11_soonest_65 ?_
                refine x_aload_n (o := (some a0)) hx hb dX11_soonest_66 rfl (lv_at hl 0 rfl) ?_
                replace hF := xbind hF; obtain ⟨w17, ew17, hF⟩ := hF
                refine x_getR (o := (some a0)) (ci := 11) (C := RX11) (T := TX11) (N := 42) hx hb hts iw_X11 hown hR rfl 30 (by decide) mm_973 (Or.inl rfl) ew17 dX11_soonest_67 ?_
                refine lv_iload_n hx hb dX11_soonest_70 rfl (lv_at hl 1 rfl) ?_
                replace hF := xbind hF; obtain ⟨v18, ev18, hF⟩ := hF
                refine x_ild (o := w17) hx hb hR ev18 dX11_soonest_71 ?_
                refine lv_iload_n hx hb dX11_soonest_72 rfl (lv_at hl 2 rfl) ?_
                refine lv_iload_n hx hb dX11_soonest_73 rfl (lv_at hl 3 rfl) ?_
                replace hF := xbind hF; obtain ⟨b20, eb20, hF⟩ := hF
                replace hF := xbind hF; obtain ⟨v19, ev19, hF⟩ := hF
                refine x_callV (o := (some a0)) (ci := 11) (As := [.int v12, .int v14, .int v16, .int v18, .int x2, .int x3]) (rest := []) (v := (some (.int v19))) (k := 6) hx hb hml hown hts hR hS eb20 rfl rfl (t_X11_soonestOf l D G h1 b20 v12 v14 v16 v18 x2 x3 v19 ev19) f_X11_soonestOf mm_1194 mm_1196 mm_47 rfl hl.1 rfl (by first | exact Nat.le_of_ble_eq_true rfl | simp [xrf_cat, xcI, xcJ, xcA]) dX11_soonest_74 (by decide) (by decide) rfl (fun H locs hR hS => ?_)
                refine lv_istore (lv' := [(5, .int v19), (0, va_rf (some a0)), (1, .int x1), (2, .int x2), (3, .int x3), (4, .int x4)]) hx hb dX11_soonest_77 hl (by decide) (by first | rfl | (simp [xrf_cat, xcI, xcJ, xcA]; done) | (simp [xrf_cat, xcI, xcJ, xcA]; decide)) (fun ls hl => ?_)
                refine lv_iload hx hb dX11_soonest_79 (lv_at hl 0 rfl) ?_
                refine lv_if_lt (tgt := 89) hx hb dX11_soonest_81 (by decide) (fun c21 => ?_) (fun c21 => ?_)
                · replace hF := xift c21 hF
                  refine lv_iload hx hb dX11_soonest_89 (lv_at hl 0 rfl) ?_
                  refine lv_goto (tgt := 102) hx hb dX11_soonest_91 (by decide) ?_
                  cases hF
                  exact x_iret hx hb hr rfl hlk hR hS (by decide) (by decide) dX11_soonest_102
                · replace hF := xiff c21 hF
                  refine lv_iload hx hb dX11_soonest_84 (lv_at hl 5 rfl) ?_
                  refine lv_if_ne (tgt := 94) hx hb dX11_soonest_86 (by decide) (fun c22 => ?_) (fun c22 => ?_)
                  · replace hF := xiff c22 hF
                    refine lv_iload_n hx hb dX11_soonest_94 rfl (lv_at hl 4 rfl) ?_
                    refine lv_iload hx hb dX11_soonest_95 (lv_at hl 0 rfl) ?_
                    refine lv_iload_n hx hb dX11_soonest_97 rfl (lv_at hl 3 rfl) ?_
                    refine lv_isub hx hb dX11_soonest_98 ?_
                    refine lv_iconst (v := 1) hx hb dX11_soonest_99 (by decide) ?_
                    refine lv_iadd hx hb dX11_soonest_100 ?_
                    refine lv_imul hx hb dX11_soonest_101 ?_
                    cases hF
                    exact x_iret hx hb hr rfl hlk hR hS (by decide) (by decide) dX11_soonest_102
                  · replace hF := xift c22 hF
                    refine lv_iload hx hb dX11_soonest_89 (lv_at hl 0 rfl) ?_
                    refine lv_goto (tgt := 102) hx hb dX11_soonest_91 (by decide) ?_
                    cases hF
                    exact x_iret hx hb hr rfl hlk hR hS (by decide) (by decide) dX11_soonest_102
              · replace hF := xiff c10 hF
                refine lv_iconst (v := (-1)) hx hb dX11_soonest_45 (by decide) ?_
                cases hF
                exact x_iret hx hb hr rfl hlk hR hS (by decide) (by decide) dX11_soonest_46
