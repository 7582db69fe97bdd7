def rm_X7_init : Room := { frames := 4, cells := 3, slots := 1205, locals := 80 }
theorem f_X7_init : xM yX7_init cX7_init 1 none 0 := ⟨mm_239, mm_63, by decide +kernel, by decide +kernel⟩
theorem dX7_init_0 : decode cX7_init 0 = .ok (.aload_n 0, 1) := by decide +kernel
theorem dX7_init_1 : decode cX7_init 1 = .ok (.invokespecial 3, 3) := by decide +kernel
theorem dX7_init_4 : decode cX7_init 4 = .ok (.aload_n 0, 1) := by decide +kernel
theorem dX7_init_5 : decode cX7_init 5 = .ok (.new 9, 3) := by decide +kernel
theorem dX7_init_8 : decode cX7_init 8 = .ok (.dup, 1) := by decide +kernel
theorem dX7_init_9 : decode cX7_init 9 = .ok (.invokespecial 11, 3) := by decide +kernel
theorem dX7_init_12 : decode cX7_init 12 = .ok (.putfield 12, 3) := by decide +kernel
theorem dX7_init_15 : decode cX7_init 15 = .ok (.aload_n 0, 1) := by decide +kernel
theorem dX7_init_16 : decode cX7_init 16 = .ok (.sipush 601, 3) := by decide +kernel
theorem dX7_init_19 : decode cX7_init 19 = .ok (.newarray .int, 2) := by decide +kernel
theorem dX7_init_21 : decode cX7_init 21 = .ok (.putfield 18, 3) := by decide +kernel
theorem dX7_init_24 : decode cX7_init 24 = .ok (.aload_n 0, 1) := by decide +kernel
theorem dX7_init_25 : decode cX7_init 25 = .ok (.sipush 601, 3) := by decide +kernel
theorem dX7_init_28 : decode cX7_init 28 = .ok (.newarray .int, 2) := by decide +kernel
theorem dX7_init_30 : decode cX7_init 30 = .ok (.putfield 22, 3) := by decide +kernel
theorem dX7_init_33 : decode cX7_init 33 = .ok (.return_, 1) := by decide +kernel
def F_X7_init (G : Nat → Nat) (h : xH) (a0 : Nat) : Option xH :=
  (nO h 0 [.int 0, .null, .int 0]).bind fun (q1, h2) =>
  (F_Jx4a65c_init_da8c8 G h2 q1).bind fun h3 =>
  (xp G h3 (some a0) 7 0 (va_rf (some q1))).bind fun h4 =>
  (nAI G h4 601).bind fun (q5, h6) =>
  (xp G h6 (some a0) 7 1 (va_rf (some q5))).bind fun h7 =>
  (nAI G h7 601).bind fun (q8, h9) =>
  (xp G h9 (some a0) 7 2 (va_rf (some q8))).bind fun h10 =>
  some h10
set_option maxHeartbeats 4000000 in
set_option maxRecDepth 100000 in
theorem t_X7_init (l : Launch) (D : va_G) (G : Nat → Nat) (h : xH) (a0 : Nat) (h' : xH) (hF : F_X7_init G h a0 = some h') : xC l yX7_init cX7_init 1 none (rm_X7_init) D G h [.ref a0] none h' := by
  refine xC_of (by decide) (by first | decide | exact Nat.le_of_ble_eq_true rfl) ?_
  intro p e s m args below meth c ls hx hb hr hlk hml hown hnm hts hR hS hl
  have hl : lv_has ls 1 [(0, va_rf (some a0))] := hl
  unfold F_X7_init at hF
  refine x_aload_n (o := (some a0)) hx hb dX7_init_0 rfl (lv_at hl 0 rfl) ?_
  refine x_oinit (o := (some a0)) hx hb hown (hml.trans hl.1.symm) hts mm_240 mm_86 mm_87 rfl dX7_init_1 (by decide) (by decide) (by decide) ?_
  refine x_aload_n (o := (some a0)) hx hb dX7_init_4 rfl (lv_at hl 0 rfl) ?_
  replace hF := xbind hF; obtain ⟨⟨q1, h2⟩, eq1, hF⟩ := hF
  refine x_newO (C := RJx4a65c) (T := TJx4a65c) (N := 3) (ci := 0) hx hb hts iw_Jx4a65c tyJx4a65c_ok hown mm_241 mm_89 mm_58 hR hS rfl (by decide) (by decide) (by decide) eq1 dX7_init_5 (fun H hR hS => ?_)
  refine lv_dup hx hb dX7_init_8 xrf_cat ?_
  replace hF := xbind hF; obtain ⟨h3, eh3, hF⟩ := hF
  refine x_callI (o := (some q1)) (As := []) (rest := [va_rf (some q1), va_rf (some a0)]) (v := none) (k := 0) hx hb hml hown hts hR hS rfl (t_Jx4a65c_init_da8c8 l D G h2 q1 h3 eh3) f_Jx4a65c_init_da8c8 mm_242 mm_91 rfl rfl hl.1 rfl (by first | exact Nat.le_of_ble_eq_true rfl | simp [xrf_cat, xcI, xcJ, xcA]) dX7_init_9 (by decide) (by decide) rfl (fun H locs hR hS => ?_)
  replace hF := xbind hF; obtain ⟨h4, eh4, hF⟩ := hF
  refine x_putF (o := (some a0)) (ci := 7) (C := RX7) (T := TX7) (N := 3) hx hb hts iw_X7 tyX7_ok nmX7 hown hR hS rfl 0 (by decide) mm_243 (Or.inl rfl) rfl hnm rfl xnarR xfitR eh4 dX7_init_12 (fun H locs hR hS => ?_)
  refine x_aload_n (o := (some a0)) hx hb dX7_init_15 rfl (lv_at hl 0 rfl) ?_
  refine lv_sipush (v := 601) hx hb dX7_init_16 (by decide) ?_
  replace hF := xbind hF; obtain ⟨⟨q5, h6⟩, eq5, hF⟩ := hF
  refine x_nAI hx hb hts mm_127 hR hS (by decide) (by decide) (by decide) (by decide) (by decide) eq5 dX7_init_19 (fun H hR hS => ?_)
  replace hF := xbind hF; obtain ⟨h7, eh7, hF⟩ := hF
  refine x_putF (o := (some a0)) (ci := 7) (C := RX7) (T := TX7) (N := 3) hx hb hts iw_X7 tyX7_ok nmX7 hown hR hS rfl 1 (by decide) mm_246 (Or.inl rfl) rfl hnm rfl xnarRA xfitRA eh7 dX7_init_21 (fun H locs hR hS => ?_)
  refine x_aload_n (o := (some a0)) hx hb dX7_init_24 rfl (lv_at hl 0 rfl) ?_
  refine lv_sipush (v := 601) hx hb dX7_init_25 (by decide) ?_
  replace hF := xbind hF; obtain ⟨⟨q8, h9⟩, eq8, hF⟩ := hF
  refine x_nAI hx hb hts mm_127 hR hS (by decide) (by decide) (by decide) (by decide) (by decide) eq8 dX7_init_28 (fun H hR hS => ?_)
  replace hF := xbind hF; obtain ⟨h10, eh10, hF⟩ := hF
  refine x_putF (o := (some a0)) (ci := 7) (C := RX7) (T := TX7) (N := 3) hx hb hts iw_X7 tyX7_ok nmX7 hown hR hS rfl 2 (by decide) mm_247 (Or.inl rfl) rfl hnm rfl xnarRA xfitRA eh10 dX7_init_30 (fun H locs hR hS => ?_)
  cases hF
  exact x_vret hx hb hr hlk hR hS (by decide) (by decide) dX7_init_33
def rm_X7_add : Room := { frames := 0, cells := 0, slots := 0, locals := 0 }
theorem f_X7_add : xM yX7_add cX7_add 4 none 3 := ⟨mm_397, mm_63, by decide +kernel, by decide +kernel⟩
theorem dX7_add_0 : decode cX7_add 0 = .ok (.iload_n 1, 1) := by decide +kernel
theorem dX7_add_1 : decode cX7_add 1 = .ok (.ifCond .lt 30, 3) := by decide +kernel
theorem dX7_add_4 : decode cX7_add 4 = .ok (.iload_n 1, 1) := by decide +kernel
theorem dX7_add_5 : decode cX7_add 5 = .ok (.sipush 601, 3) := by decide +kernel
theorem dX7_add_8 : decode cX7_add 8 = .ok (.if_icmp .ge 23, 3) := by decide +kernel
theorem dX7_add_11 : decode cX7_add 11 = .ok (.aload_n 0, 1) := by decide +kernel
theorem dX7_add_12 : decode cX7_add 12 = .ok (.getfield 18, 3) := by decide +kernel
theorem dX7_add_15 : decode cX7_add 15 = .ok (.iload_n 1, 1) := by decide +kernel
theorem dX7_add_16 : decode cX7_add 16 = .ok (.dup2, 1) := by decide +kernel
theorem dX7_add_17 : decode cX7_add 17 = .ok (.iaload, 1) := by decide +kernel
theorem dX7_add_18 : decode cX7_add 18 = .ok (.iload_n 2, 1) := by decide +kernel
theorem dX7_add_19 : decode cX7_add 19 = .ok (.iadd, 1) := by decide +kernel
theorem dX7_add_20 : decode cX7_add 20 = .ok (.iastore, 1) := by decide +kernel
theorem dX7_add_21 : decode cX7_add 21 = .ok (.aload_n 0, 1) := by decide +kernel
theorem dX7_add_22 : decode cX7_add 22 = .ok (.getfield 22, 3) := by decide +kernel
theorem dX7_add_25 : decode cX7_add 25 = .ok (.iload_n 1, 1) := by decide +kernel
theorem dX7_add_26 : decode cX7_add 26 = .ok (.dup2, 1) := by decide +kernel
theorem dX7_add_27 : decode cX7_add 27 = .ok (.iaload, 1) := by decide +kernel
theorem dX7_add_28 : decode cX7_add 28 = .ok (.iload_n 3, 1) := by decide +kernel
theorem dX7_add_29 : decode cX7_add 29 = .ok (.iadd, 1) := by decide +kernel
theorem dX7_add_30 : decode cX7_add 30 = .ok (.iastore, 1) := by decide +kernel
theorem dX7_add_31 : decode cX7_add 31 = .ok (.return_, 1) := by decide +kernel
def F_X7_add (G : Nat → Nat) (h : xH) (a0 : Nat) (x1 : Int32) (x2 : Int32) (x3 : Int32) : Option xH :=
  if x1 < 0 then
    some h
  else
  if 601 ≤ x1 then
    some h
  else
  (gR h (some a0) 7 1).bind fun w3 =>
  (ldI 2 G h w3 x1).bind fun v4 =>
  (stI 2 G h w3 x1 (v4 + x2)).bind fun h5 =>
  (gR h5 (some a0) 7 2).bind fun w6 =>
  (ldI 2 G h5 w6 x1).bind fun v7 =>
  (stI 2 G h5 w6 x1 (v7 + x3)).bind fun h8 =>
  some h8
set_option maxHeartbeats 4000000 in
set_option maxRecDepth 100000 in
theorem t_X7_add (l : Launch) (D : va_G) (G : Nat → Nat) (h : xH) (a0 : Nat) (x1 : Int32) (x2 : Int32) (x3 : Int32) (h' : xH) (hF : F_X7_add G h a0 x1 x2 x3 = some h') : xC l yX7_add cX7_add 4 none (rm_X7_add) D G h [.ref a0, .int x1, .int x2, .int x3] none h' := by
  refine xC_of (by decide) (by first | decide | exact Nat.le_of_ble_eq_true rfl) ?_
  intro p e s m args below meth c ls hx hb hr hlk hml hown hnm hts hR hS hl
  have hl : lv_has ls 4 [(0, va_rf (some a0)), (1, .int x1), (2, .int x2), (3, .int x3)] := hl
  unfold F_X7_add at hF
  refine lv_iload_n hx hb dX7_add_0 rfl (lv_at hl 1 rfl) ?_
  refine lv_if_lt (tgt := 31) hx hb dX7_add_1 (by decide) (fun c1 => ?_) (fun c1 => ?_)
  · replace hF := xift c1 hF
    cases hF
    exact x_vret hx hb hr hlk hR hS (by decide) (by decide) dX7_add_31
  · replace hF := xiff c1 hF
    refine lv_iload_n hx hb dX7_add_4 rfl (lv_at hl 1 rfl) ?_
    refine lv_sipush (v := 601) hx hb dX7_add_5 (by decide) ?_
    refine lv_icmp_ge (tgt := 31) hx hb dX7_add_8 (by decide) (fun c2 => ?_) (fun c2 => ?_)
    · replace hF := xift c2 hF
      cases hF
      exact x_vret hx hb hr hlk hR hS (by decide) (by decide) dX7_add_31
    · replace hF := xiff c2 hF
      refine x_aload_n (o := (some a0)) hx hb dX7_add_11 rfl (lv_at hl 0 rfl) ?_
      replace hF := xbind hF; obtain ⟨w3, ew3, hF⟩ := hF
      refine x_getR (o := (some a0)) (ci := 7) (C := RX7) (T := TX7) (N := 3) hx hb hts iw_X7 hown hR rfl 1 (by decide) mm_246 (Or.inl rfl) ew3 dX7_add_12 ?_
      refine lv_iload_n hx hb dX7_add_15 rfl (lv_at hl 1 rfl) ?_
      refine lv_dup2_11 hx hb dX7_add_16 rfl xrf_cat ?_
      replace hF := xbind hF; obtain ⟨v4, ev4, hF⟩ := hF
      refine x_ild (o := w3) hx hb hR ev4 dX7_add_17 ?_
      refine lv_iload_n hx hb dX7_add_18 rfl (lv_at hl 2 rfl) ?_
      refine lv_iadd hx hb dX7_add_19 ?_
      replace hF := xbind hF; obtain ⟨h5, eh5, hF⟩ := hF
      refine x_ist (o := w3) hx hb hR hS eh5 dX7_add_20 (fun H locs hR hS => ?_)
      refine x_aload_n (o := (some a0)) hx hb dX7_add_21 rfl (lv_at hl 0 rfl) ?_
      replace hF := xbind hF; obtain ⟨w6, ew6, hF⟩ := hF
      refine x_getR (o := (some a0)) (ci := 7) (C := RX7) (T := TX7) (N := 3) hx hb hts iw_X7 hown hR rfl 2 (by decide) mm_247 (Or.inl rfl) ew6 dX7_add_22 ?_
      refine lv_iload_n hx hb dX7_add_25 rfl (lv_at hl 1 rfl) ?_
      refine lv_dup2_11 hx hb dX7_add_26 rfl xrf_cat ?_
      replace hF := xbind hF; obtain ⟨v7, ev7, hF⟩ := hF
      refine x_ild (o := w6) hx hb hR ev7 dX7_add_27 ?_
      refine lv_iload_n hx hb dX7_add_28 rfl (lv_at hl 3 rfl) ?_
      refine lv_iadd hx hb dX7_add_29 ?_
      replace hF := xbind hF; obtain ⟨h8, eh8, hF⟩ := hF
      refine x_ist (o := w6) hx hb hR hS eh8 dX7_add_30 (fun H locs hR hS => ?_)
      cases hF
      exact x_vret hx hb hr hlk hR hS (by decide) (by decide) dX7_add_31
def rm_X7_total : Room := { frames := 1, cells := 0, slots := 0, locals := 23 }
theorem f_X7_total : xM yX7_total cX7_total 5 (some .int) 3 := ⟨mm_456, mm_63, by decide +kernel, by decide +kernel⟩
theorem dX7_total_0 : decode cX7_total 0 = .ok (.iconst 0, 1) := by decide +kernel
theorem dX7_total_1 : decode cX7_total 1 = .ok (.istore_n 3, 1) := by decide +kernel
theorem dX7_total_2 : decode cX7_total 2 = .ok (.iload_n 1, 1) := by decide +kernel
theorem dX7_total_3 : decode cX7_total 3 = .ok (.iconst 0, 1) := by decide +kernel
theorem dX7_total_4 : decode cX7_total 4 = .ok (.invokestatic 29, 3) := by decide +kernel
theorem dX7_total_7 : decode cX7_total 7 = .ok (.istore 4, 2) := by decide +kernel
theorem dX7_total_9 : decode cX7_total 9 = .ok (.iload 4, 2) := by decide +kernel
theorem dX7_total_11 : decode cX7_total 11 = .ok (.iload_n 2, 1) := by decide +kernel
theorem dX7_total_12 : decode cX7_total 12 = .ok (.if_icmp .gt 23, 3) := by decide +kernel
theorem dX7_total_15 : decode cX7_total 15 = .ok (.iload 4, 2) := by decide +kernel
theorem dX7_total_17 : decode cX7_total 17 = .ok (.aload_n 0, 1) := by decide +kernel
theorem dX7_total_18 : decode cX7_total 18 = .ok (.arraylength, 1) := by decide +kernel
theorem dX7_total_19 : decode cX7_total 19 = .ok (.if_icmp .ge 16, 3) := by decide +kernel
theorem dX7_total_22 : decode cX7_total 22 = .ok (.iload_n 3, 1) := by decide +kernel
theorem dX7_total_23 : decode cX7_total 23 = .ok (.aload_n 0, 1) := by decide +kernel
theorem dX7_total_24 : decode cX7_total 24 = .ok (.iload 4, 2) := by decide +kernel
theorem dX7_total_26 : decode cX7_total 26 = .ok (.iaload, 1) := by decide +kernel
theorem dX7_total_27 : decode cX7_total 27 = .ok (.iadd, 1) := by decide +kernel
theorem dX7_total_28 : decode cX7_total 28 = .ok (.istore_n 3, 1) := by decide +kernel
theorem dX7_total_29 : decode cX7_total 29 = .ok (.iinc 4 1, 3) := by decide +kernel
theorem dX7_total_32 : decode cX7_total 32 = .ok (.goto (-23), 3) := by decide +kernel
theorem dX7_total_35 : decode cX7_total 35 = .ok (.iload_n 3, 1) := by decide +kernel
theorem dX7_total_36 : decode cX7_total 36 = .ok (.ireturn, 1) := by decide +kernel
def F_X7_total_9 (G : Nat → Nat) (h : xH) (a0 : Nat) (x2 : Int32) : Nat → Int32 → Int32 → Option Int32
  | 0, _, _ => none
  | n + 1, x3, x4 =>
    if x2 < x4 then
      some x3
    else
    (aln G h (some a0)).bind fun v3 =>
    if v3 ≤ x4 then
      some x3
    else
    (ldI 2 G h (some a0) x4).bind fun v5 =>
    xl (x3 + v5) fun v6 =>
    xl (x4 + 1) fun v7 =>
    F_X7_total_9 G h a0 x2 n v6 v7
set_option maxHeartbeats 4000000 in
set_option maxRecDepth 100000 in
theorem tl_X7_total_9 {p : Program} {l : Launch} {e : Env} {s : State} {m : MethodId} {args : Array Value} {below : List Frame} {meth : Method} {c : Code} {D : va_G} {r : Int32} (hx : p.tables.exec = Jvm.exec) (hb : c.code = cX7_total) (hr : meth.sig.returnType = (some .int)) (hlk : meth.locks = false) (hml : c.maxLocals = 5) (hown : s.vm.findClass RX7 = some m.cls) (hnm : meth.name = "total") (hts : ∀ w ∈ xt, w.before args s = true) (G : Nat → Nat) (h : xH) (a0 : Nat) (x2 : Int32) : ∀ (n : Nat) (x3 : Int32) (x4 : Int32) (H : Heap) (locs : List Loc) (ls : Array Slot), F_X7_total_9 G h a0 x2 n x3 x4 = some r → xR D G h s H → va_S (xA G) s.heap H locs → lv_has ls 5 [(0, va_rf (some a0)), (2, .int x2), (3, .int x3), (4, .int x4)] → W p l e rm_X7_total s m args below meth c H locs 0 0 (MQ below (xQ D G (some (.int r)) h) args s rm_X7_total.cells rm_X7_total.slots (xA G)) (F0 m 9 ls []) := by
  intro n
  induction n with
  | zero =>
    intro x3 x4 H locs ls hF
    rw [F_X7_total_9.eq_1] at hF
    cases hF
  | succ n ih =>
    intro x3 x4 H locs ls hF hR hS hl
    rw [F_X7_total_9.eq_2] at hF
    refine lv_iload hx hb dX7_total_9 (lv_at hl 3 rfl) ?_
    refine lv_iload_n hx hb dX7_total_11 rfl (lv_at hl 1 rfl) ?_
    refine lv_icmp_gt (tgt := 35) hx hb dX7_total_12 (by decide) (fun c2 => ?_) (fun c2 => ?_)
    · replace hF := xift c2 hF
      refine lv_iload_n hx hb dX7_total_35 rfl (lv_at hl 2 rfl) ?_
      cases hF
      exact x_iret hx hb hr rfl hlk hR hS (by decide) (by decide) dX7_total_36
    · replace hF := xiff c2 hF
      refine lv_iload hx hb dX7_total_15 (lv_at hl 3 rfl) ?_
      refine x_aload_n (o := (some a0)) hx hb dX7_total_17 rfl (lv_at hl 0 rfl) ?_
      replace hF := xbind hF; obtain ⟨v3, ev3, hF⟩ := hF
      refine x_aln (o := (some a0)) hx hb hR ev3 dX7_total_18 ?_
      refine lv_icmp_ge (tgt := 35) hx hb dX7_total_19 (by decide) (fun c4 => ?_) (fun c4 => ?_)
      · replace hF := xift c4 hF
        refine lv_iload_n hx hb dX7_total_35 rfl (lv_at hl 2 rfl) ?_
        cases hF
        exact x_iret hx hb hr rfl hlk hR hS (by decide) (by decide) dX7_total_36
      · replace hF := xiff c4 hF
        refine lv_iload_n hx hb dX7_total_22 rfl (lv_at hl 2 rfl) ?_
        refine x_aload_n (o := (some a0)) hx hb dX7_total_23 rfl (lv_at hl 0 rfl) ?_
        refine lv_iload hx hb dX7_total_24 (lv_at hl 3 rfl) ?_
        replace hF := xbind hF; obtain ⟨v5, ev5, hF⟩ := hF
        refine x_ild (o := (some a0)) hx hb hR ev5 dX7_total_26 ?_
        refine lv_iadd hx hb dX7_total_27 ?_
        refine lv_topi (fun v6 ev6 => ?_)
        replace hF := xlet ev6 hF
        refine lv_istore_n (lv' := [(3, .int v6), (0, va_rf (some a0)), (2, .int x2), (4, .int x4)]) hx hb dX7_total_28 rfl hl (by decide) (by first | rfl | (simp [xrf_cat, xcI, xcJ, xcA]; done) | (simp [xrf_cat, xcI, xcJ, xcA]; decide)) (fun ls hl => ?_)
        obtain ⟨v7, ev7⟩ : ∃ z : Int32, z = (x4 + 1) := ⟨_, rfl⟩
        replace hF := xlet ev7 hF
        refine lv_iinc (v := v7) (lv' := [(4, .int v7), (3, .int v6), (0, va_rf (some a0)), (2, .int x2)]) hx hb dX7_total_29 hl (k := 3) rfl (by rw [ev7]; rfl) (by decide) (by first | rfl | (simp [xrf_cat, xcI, xcJ, xcA]; done) | (simp [xrf_cat, xcI, xcJ, xcA]; decide)) (fun ls hl => ?_)
        refine lv_goto (tgt := 9) hx hb dX7_total_32 (by decide) ?_
        exact ih v6 v7 _ _ _ hF hR hS (lv_sub hl [2, 3, 1, 0] rfl)
def F_X7_total (G : Nat → Nat) (h : xH) (a0 : Nat) (x1 : Int32) (x2 : Int32) : Option Int32 :=
  xl (xmax x1 0) fun v1 =>
  F_X7_total_9 G h a0 x2 xN 0 v1
set_option maxHeartbeats 4000000 in
set_option maxRecDepth 100000 in
theorem t_X7_total (l : Launch) (D : va_G) (G : Nat → Nat) (h : xH) (a0 : Nat) (x1 : Int32) (x2 : Int32) (r : Int32) (hF : F_X7_total G h a0 x1 x2 = some r) : xC l yX7_total cX7_total 5 (some .int) (rm_X7_total) D G h [.ref a0, .int x1, .int x2] (some (.int r)) h := by
  refine xC_of (by decide) (by first | decide | exact Nat.le_of_ble_eq_true rfl) ?_
  intro p e s m args below meth c ls hx hb hr hlk hml hown hnm hts hR hS hl
  have hl : lv_has ls 5 [(0, va_rf (some a0)), (1, .int x1), (2, .int x2)] := hl
  unfold F_X7_total at hF
  refine lv_iconst (v := 0) hx hb dX7_total_0 (by decide) ?_
  refine lv_istore_n (lv' := [(3, .int 0), (0, va_rf (some a0)), (1, .int x1), (2, .int x2)]) hx hb dX7_total_1 rfl hl (by decide) (by first | rfl | (simp [xrf_cat, xcI, xcJ, xcA]; done) | (simp [xrf_cat, xcI, xcJ, xcA]; decide)) (fun ls hl => ?_)
  refine lv_iload_n hx hb dX7_total_2 rfl (lv_at hl 2 rfl) ?_
  refine lv_iconst (v := 0) hx hb dX7_total_3 (by decide) ?_
  refine x_max hx hb (hml.trans hl.1.symm) hown hts mm_457 mm_280 mm_65 mm_281 (by decide) (by first | exact Nat.le_of_ble_eq_true rfl | simp [xrf_cat, xcI, xcJ, xcA]) (by decide) (by decide) dX7_total_4 ?_
  refine lv_topi (fun v1 ev1 => ?_)
  replace hF := xlet ev1 hF
  refine lv_istore (lv' := [(4, .int v1), (3, .int 0), (0, va_rf (some a0)), (1, .int x1), (2, .int x2)]) hx hb dX7_total_7 hl (by decide) (by first | rfl | (simp [xrf_cat, xcI, xcJ, xcA]; done) | (simp [xrf_cat, xcI, xcJ, xcA]; decide)) (fun ls hl => ?_)
  refine W.widen (k := 0) (n := 0) (by decide) (by decide) ?_
  exact tl_X7_total_9 hx hb hr hlk hml hown hnm hts G h a0 x2 _ 0 v1 _ _ _ hF hR hS (lv_sub hl [2, 4, 1, 0] rfl)
def rm_X7_asksIn : Room := { frames := 2, cells := 0, slots := 0, locals := 47 }
theorem f_X7_asksIn : xM yX7_asksIn cX7_asksIn 3 (some .int) 2 := ⟨mm_453, mm_63, by decide +kernel, by decide +kernel⟩
theorem dX7_asksIn_0 : decode cX7_asksIn 0 = .ok (.aload_n 0, 1) := by decide +kernel
theorem dX7_asksIn_1 : decode cX7_asksIn 1 = .ok (.getfield 18, 3) := by decide +kernel
theorem dX7_asksIn_4 : decode cX7_asksIn 4 = .ok (.iload_n 1, 1) := by decide +kernel
theorem dX7_asksIn_5 : decode cX7_asksIn 5 = .ok (.iload_n 2, 1) := by decide +kernel
theorem dX7_asksIn_6 : decode cX7_asksIn 6 = .ok (.invokestatic 25, 3) := by decide +kernel
theorem dX7_asksIn_9 : decode cX7_asksIn 9 = .ok (.ireturn, 1) := by decide +kernel
def F_X7_asksIn (G : Nat → Nat) (h : xH) (a0 : Nat) (x1 : Int32) (x2 : Int32) : Option Int32 :=
  (gR h (some a0) 7 1).bind fun w1 =>
  w1.bind fun b2 =>
  (F_X7_total G h b2 x1 x2).bind fun v3 =>
  some v3
set_option maxHeartbeats 4000000 in
set_option maxRecDepth 100000 in
theorem t_X7_asksIn (l : Launch) (D : va_G) (G : Nat → Nat) (h : xH) (a0 : Nat) (x1 : Int32) (x2 : Int32) (r : Int32) (hF : F_X7_asksIn G h a0 x1 x2 = some r) : xC l yX7_asksIn cX7_asksIn 3 (some .int) (rm_X7_asksIn) D G h [.ref a0, .int x1, .int x2] (some (.int r)) h := by
  refine xC_of (by decide) (by first | decide | exact Nat.le_of_ble_eq_true rfl) ?_
  intro p e s m args below meth c ls hx hb hr hlk hml hown hnm hts hR hS hl
  have hl : lv_has ls 3 [(0, va_rf (some a0)), (1, .int x1), (2, .int x2)] := hl
  unfold F_X7_asksIn at hF
  refine x_aload_n (o := (some a0)) hx hb dX7_asksIn_0 rfl (lv_at hl 0 rfl) ?_
  replace hF := xbind hF; obtain ⟨w1, ew1, hF⟩ := hF
  refine x_getR (o := (some a0)) (ci := 7) (C := RX7) (T := TX7) (N := 3) hx hb hts iw_X7 hown hR rfl 1 (by decide) mm_246 (Or.inl rfl) ew1 dX7_asksIn_1 ?_
  refine lv_iload_n hx hb dX7_asksIn_4 rfl (lv_at hl 1 rfl) ?_
  refine lv_iload_n hx hb dX7_asksIn_5 rfl (lv_at hl 2 rfl) ?_
  replace hF := xbind hF; obtain ⟨b2, eb2, hF⟩ := hF
  subst eb2
  replace hF := xbind hF; obtain ⟨v3, ev3, hF⟩ := hF
  refine x_callS (As := [.ref b2, .int x1, .int x2]) (rest := []) (v := (some (.int v3))) (k := 3) hx hb hml hown hts hR hS (t_X7_total l D G h b2 x1 x2 v3 ev3) f_X7_total mm_454 mm_455 rfl hl.1 rfl (by first | exact Nat.le_of_ble_eq_true rfl | simp [xrf_cat, xcI, xcJ, xcA]) dX7_asksIn_6 (by decide) (by decide) rfl (fun H locs hR hS => ?_)
  cases hF
  exact x_iret hx hb hr rfl hlk hR hS (by decide) (by decide) dX7_asksIn_9
def rm_X7_badIn : Room := { frames := 2, cells := 0, slots := 0, locals := 47 }
theorem f_X7_badIn : xM yX7_badIn cX7_badIn 3 (some .int) 2 := ⟨mm_461, mm_63, by decide +kernel, by decide +kernel⟩
theorem dX7_badIn_0 : decode cX7_badIn 0 = .ok (.aload_n 0, 1) := by decide +kernel
theorem dX7_badIn_1 : decode cX7_badIn 1 = .ok (.getfield 22, 3) := by decide +kernel
theorem dX7_badIn_4 : decode cX7_badIn 4 = .ok (.iload_n 1, 1) := by decide +kernel
theorem dX7_badIn_5 : decode cX7_badIn 5 = .ok (.iload_n 2, 1) := by decide +kernel
theorem dX7_badIn_6 : decode cX7_badIn 6 = .ok (.invokestatic 25, 3) := by decide +kernel
theorem dX7_badIn_9 : decode cX7_badIn 9 = .ok (.ireturn, 1) := by decide +kernel
def F_X7_badIn (G : Nat → Nat) (h : xH) (a0 : Nat) (x1 : Int32) (x2 : Int32) : Option Int32 :=
  (gR h (some a0) 7 2).bind fun w1 =>
  w1.bind fun b2 =>
  (F_X7_total G h b2 x1 x2).bind fun v3 =>
  some v3
set_option maxHeartbeats 4000000 in
set_option maxRecDepth 100000 in
theorem t_X7_badIn (l : Launch) (D : va_G) (G : Nat → Nat) (h : xH) (a0 : Nat) (x1 : Int32) (x2 : Int32) (r : Int32) (hF : F_X7_badIn G h a0 x1 x2 = some r) : xC l yX7_badIn cX7_badIn 3 (some .int) (rm_X7_badIn) D G h [.ref a0, .int x1, .int x2] (some (.int r)) h := by
  refine xC_of (by decide) (by first | decide | exact Nat.le_of_ble_eq_true rfl) ?_
  intro p e s m args below meth c ls hx hb hr hlk hml hown hnm hts hR hS hl
  have hl : lv_has ls 3 [(0, va_rf (some a0)), (1, .int x1), (2, .int x2)] := hl
  unfold F_X7_badIn at hF
  refine x_aload_n (o := (some a0)) hx hb dX7_badIn_0 rfl (lv_at hl 0 rfl) ?_
  replace hF := xbind hF; obtain ⟨w1, ew1, hF⟩ := hF
  refine x_getR (o := (some a0)) (ci := 7) (C := RX7) (T := TX7) (N := 3) hx hb hts iw_X7 hown hR rfl 2 (by decide) mm_247 (Or.inl rfl) ew1 dX7_badIn_1 ?_
  refine lv_iload_n hx hb dX7_badIn_4 rfl (lv_at hl 1 rfl) ?_
  refine lv_iload_n hx hb dX7_badIn_5 rfl (lv_at hl 2 rfl) ?_
  replace hF := xbind hF; obtain ⟨b2, eb2, hF⟩ := hF
  subst eb2
  replace hF := xbind hF; obtain ⟨v3, ev3, hF⟩ := hF
  refine x_callS (As := [.ref b2, .int x1, .int x2]) (rest := []) (v := (some (.int v3))) (k := 3) hx hb hml hown hts hR hS (t_X7_total l D G h b2 x1 x2 v3 ev3) f_X7_total mm_454 mm_455 rfl hl.1 rfl (by first | exact Nat.le_of_ble_eq_true rfl | simp [xrf_cat, xcI, xcJ, xcA]) dX7_badIn_6 (by decide) (by decide) rfl (fun H locs hR hS => ?_)
  cases hF
  exact x_iret hx hb hr rfl hlk hR hS (by decide) (by decide) dX7_badIn_9
def rm_X7_asksAt : Room := { frames := 0, cells := 0, slots := 0, locals := 0 }
theorem f_X7_asksAt : xM yX7_asksAt cX7_asksAt 2 (some .int) 1 := ⟨mm_507, mm_63, by decide +kernel, by decide +kernel⟩
theorem dX7_asksAt_0 : decode cX7_asksAt 0 = .ok (.iload_n 1, 1) := by decide +kernel
theorem dX7_asksAt_1 : decode cX7_asksAt 1 = .ok (.ifCond .lt 19, 3) := by decide +kernel
theorem dX7_asksAt_4 : decode cX7_asksAt 4 = .ok (.iload_n 1, 1) := by decide +kernel
theorem dX7_asksAt_5 : decode cX7_asksAt 5 = .ok (.sipush 601, 3) := by decide +kernel
theorem dX7_asksAt_8 : decode cX7_asksAt 8 = .ok (.if_icmp .ge 12, 3) := by decide +kernel
theorem dX7_asksAt_11 : decode cX7_asksAt 11 = .ok (.aload_n 0, 1) := by decide +kernel
theorem dX7_asksAt_12 : decode cX7_asksAt 12 = .ok (.getfield 18, 3) := by decide +kernel
theorem dX7_asksAt_15 : decode cX7_asksAt 15 = .ok (.iload_n 1, 1) := by decide +kernel
theorem dX7_asksAt_16 : decode cX7_asksAt 16 = .ok (.iaload, 1) := by decide +kernel
theorem dX7_asksAt_17 : decode cX7_asksAt 17 = .ok (.goto 4, 3) := by decide +kernel
theorem dX7_asksAt_20 : decode cX7_asksAt 20 = .ok (.iconst 0, 1) := by decide +kernel
theorem dX7_asksAt_21 : decode cX7_asksAt 21 = .ok (.ireturn, 1) := by decide +kernel
def F_X7_asksAt (G : Nat → Nat) (h : xH) (a0 : Nat) (x1 : Int32) : Option Int32 :=
  if x1 < 0 then
    some 0
  else
  if 601 ≤ x1 then
    some 0
  else
  (gR h (some a0) 7 1).bind fun w3 =>
  (ldI 2 G h w3 x1).bind fun v4 =>
  some v4
set_option maxHeartbeats 4000000 in
set_option maxRecDepth 100000 in
theorem t_X7_asksAt (l : Launch) (D : va_G) (G : Nat → Nat) (h : xH) (a0 : Nat) (x1 : Int32) (r : Int32) (hF : F_X7_asksAt G h a0 x1 = some r) : xC l yX7_asksAt cX7_asksAt 2 (some .int) (rm_X7_asksAt) D G h [.ref a0, .int x1] (some (.int r)) h := by
  refine xC_of (by decide) (by first | decide | exact Nat.le_of_ble_eq_true rfl) ?_
  intro p e s m args below meth c ls hx hb hr hlk hml hown hnm hts hR hS hl
  have hl : lv_has ls 2 [(0, va_rf (some a0)), (1, .int x1)] := hl
  unfold F_X7_asksAt at hF
  refine lv_iload_n hx hb dX7_asksAt_0 rfl (lv_at hl 1 rfl) ?_
  refine lv_if_lt (tgt := 20) hx hb dX7_asksAt_1 (by decide) (fun c1 => ?_) (fun c1 => ?_)
  · replace hF := xift c1 hF
    refine lv_iconst (v := 0) hx hb dX7_asksAt_20 (by decide) ?_
    cases hF
    exact x_iret hx hb hr rfl hlk hR hS (by decide) (by decide) dX7_asksAt_21
  · replace hF := xiff c1 hF
    refine lv_iload_n hx hb dX7_asksAt_4 rfl (lv_at hl 1 rfl) ?_
    refine lv_sipush (v := 601) hx hb dX7_asksAt_5 (by decide) ?_
    refine lv_icmp_ge (tgt := 20) hx hb dX7_asksAt_8 (by decide) (fun c2 => ?_) (fun c2 => ?_)
    · replace hF := xift c2 hF
      refine lv_iconst (v := 0) hx hb dX7_asksAt_20 (by decide) ?_
      cases hF
      exact x_iret hx hb hr rfl hlk hR hS (by decide) (by decide) dX7_asksAt_21
    · replace hF := xiff c2 hF
      refine x_aload_n (o := (some a0)) hx hb dX7_asksAt_11 rfl (lv_at hl 0 rfl) ?_
      replace hF := xbind hF; obtain ⟨w3, ew3, hF⟩ := hF
      refine x_getR (o := (some a0)) (ci := 7) (C := RX7) (T := TX7) (N := 3) hx hb hts iw_X7 hown hR rfl 1 (by decide) mm_246 (Or.inl rfl) ew3 dX7_asksAt_12 ?_
      refine lv_iload_n hx hb dX7_asksAt_15 rfl (lv_at hl 1 rfl) ?_
      replace hF := xbind hF; obtain ⟨v4, ev4, hF⟩ := hF
      refine x_ild (o := w3) hx hb hR ev4 dX7_asksAt_16 ?_
      refine lv_goto (tgt := 21) hx hb dX7_asksAt_17 (by decide) ?_
      cases hF
      exact x_iret hx hb hr rfl hlk hR hS (by decide) (by decide) dX7_asksAt_21
def rm_X7_badAt : Room := { frames := 0, cells := 0, slots := 0, locals := 0 }
theorem f_X7_badAt : xM yX7_badAt cX7_badAt 2 (some .int) 1 := ⟨mm_515, mm_63, by decide +kernel, by decide +kernel⟩
theorem dX7_badAt_0 : decode cX7_badAt 0 = .ok (.iload_n 1, 1) := by decide +kernel
theorem dX7_badAt_1 : decode cX7_badAt 1 = .ok (.ifCond .lt 19, 3) := by decide +kernel
theorem dX7_badAt_4 : decode cX7_badAt 4 = .ok (.iload_n 1, 1) := by decide +kernel
theorem dX7_badAt_5 : decode cX7_badAt 5 = .ok (.sipush 601, 3) := by decide +kernel
theorem dX7_badAt_8 : decode cX7_badAt 8 = .ok (.if_icmp .ge 12, 3) := by decide +kernel
theorem dX7_badAt_11 : decode cX7_badAt 11 = .ok (.aload_n 0, 1) := by decide +kernel
theorem dX7_badAt_12 : decode cX7_badAt 12 = .ok (.getfield 22, 3) := by decide +kernel
theorem dX7_badAt_15 : decode cX7_badAt 15 = .ok (.iload_n 1, 1) := by decide +kernel
theorem dX7_badAt_16 : decode cX7_badAt 16 = .ok (.iaload, 1) := by decide +kernel
theorem dX7_badAt_17 : decode cX7_badAt 17 = .ok (.goto 4, 3) := by decide +kernel
theorem dX7_badAt_20 : decode cX7_badAt 20 = .ok (.iconst 0, 1) := by decide +kernel
theorem dX7_badAt_21 : decode cX7_badAt 21 = .ok (.ireturn, 1) := by decide +kernel
def F_X7_badAt (G : Nat → Nat) (h : xH) (a0 : Nat) (x1 : Int32) : Option Int32 :=
  if x1 < 0 then
    some 0
  else
  if 601 ≤ x1 then
    some 0
  else
  (gR h (some a0) 7 2).bind fun w3 =>
  (ldI 2 G h w3 x1).bind fun v4 =>
  some v4
set_option maxHeartbeats 4000000 in
set_option maxRecDepth 100000 in
theorem t_X7_badAt (l : Launch) (D : va_G) (G : Nat → Nat) (h : xH) (a0 : Nat) (x1 : Int32) (r : Int32) (hF : F_X7_badAt G h a0 x1 = some r) : xC l yX7_badAt cX7_badAt 2 (some .int) (rm_X7_badAt) D G h [.ref a0, .int x1] (some (.int r)) h := by
  refine xC_of (by decide) (by first | decide | exact Nat.le_of_ble_eq_true rfl) ?_
  intro p e s m args below meth c ls hx hb hr hlk hml hown hnm hts hR hS hl
  have hl : lv_has ls 2 [(0, va_rf (some a0)), (1, .int x1)] := hl
  unfold F_X7_badAt at hF
  refine lv_iload_n hx hb dX7_badAt_0 rfl (lv_at hl 1 rfl) ?_
  refine lv_if_lt (tgt := 20) hx hb dX7_badAt_1 (by decide) (fun c1 => ?_) (fun c1 => ?_)
  · replace hF := xift c1 hF
    refine lv_iconst (v := 0) hx hb dX7_badAt_20 (by decide) ?_
    cases hF
    exact x_iret hx hb hr rfl hlk hR hS (by decide) (by decide) dX7_badAt_21
  · replace hF := xiff c1 hF
    refine lv_iload_n hx hb dX7_badAt_4 rfl (lv_at hl 1 rfl) ?_
    refine lv_sipush (v := 601) hx hb dX7_badAt_5 (by decide) ?_
    refine lv_icmp_ge (tgt := 20) hx hb dX7_badAt_8 (by decide) (fun c2 => ?_) (fun c2 => ?_)
    · replace hF := xift c2 hF
      refine lv_iconst (v := 0) hx hb dX7_badAt_20 (by decide) ?_
      cases hF
      exact x_iret hx hb hr rfl hlk hR hS (by decide) (by decide) dX7_badAt_21
    · replace hF := xiff c2 hF
      refine x_aload_n (o := (some a0)) hx hb dX7_badAt_11 rfl (lv_at hl 0 rfl) ?_
      replace hF := xbind hF; obtain ⟨w3, ew3, hF⟩ := hF
      refine x_getR (o := (some a0)) (ci := 7) (C := RX7) (T := TX7) (N := 3) hx hb hts iw_X7 hown hR rfl 2 (by decide) mm_247 (Or.inl rfl) ew3 dX7_badAt_12 ?_
      refine lv_iload_n hx hb dX7_badAt_15 rfl (lv_at hl 1 rfl) ?_
      replace hF := xbind hF; obtain ⟨v4, ev4, hF⟩ := hF
      refine x_ild (o := w3) hx hb hR ev4 dX7_badAt_16 ?_
      refine lv_goto (tgt := 21) hx hb dX7_badAt_17 (by decide) ?_
      cases hF
      exact x_iret hx hb hr rfl hlk hR hS (by decide) (by decide) dX7_badAt_21
def rm_X7_toComeAt : Room := { frames := 3, cells := 0, slots := 0, locals := 64 }
theorem f_X7_toComeAt : xM yX7_toComeAt cX7_toComeAt 5 (some .int) 2 := ⟨mm_469, mm_63, by decide +kernel, by decide +kernel⟩
theorem dX7_toComeAt_0 : decode cX7_toComeAt 0 = .ok (.iconst 0, 1) := by decide +kernel
theorem dX7_toComeAt_1 : decode cX7_toComeAt 1 = .ok (.istore_n 3, 1) := by decide +kernel
theorem dX7_toComeAt_2 : decode cX7_toComeAt 2 = .ok (.iconst 0, 1) := by decide +kernel
theorem dX7_toComeAt_3 : decode cX7_toComeAt 3 = .ok (.istore 4, 2) := by decide +kernel
theorem dX7_toComeAt_5 : decode cX7_toComeAt 5 = .ok (.iload 4, 2) := by decide +kernel
theorem dX7_toComeAt_7 : decode cX7_toComeAt 7 = .ok (.aload_n 0, 1) := by decide +kernel
theorem dX7_toComeAt_8 : decode cX7_toComeAt 8 = .ok (.getfield 12, 3) := by decide +kernel
theorem dX7_toComeAt_11 : decode cX7_toComeAt 11 = .ok (.invokeinterface 38 1, 5) := by decide +kernel
theorem dX7_toComeAt_16 : decode cX7_toComeAt 16 = .ok (.if_icmp .ge 31, 3) := by decide +kernel
theorem dX7_toComeAt_19 : decode cX7_toComeAt 19 = .ok (.iload_n 3, 1) := by decide +kernel
theorem dX7_toComeAt_20 : decode cX7_toComeAt 20 = .ok (.aload_n 0, 1) := by decide +kernel
theorem dX7_toComeAt_21 : decode cX7_toComeAt 21 = .ok (.getfield 12, 3) := by decide +kernel
theorem dX7_toComeAt_24 : decode cX7_toComeAt 24 = .ok (.iload 4, 2) := by decide +kernel
theorem dX7_toComeAt_26 : decode cX7_toComeAt 26 = .ok (.invokeinterface 44 2, 5) := by decide +kernel
theorem dX7_toComeAt_31 : decode cX7_toComeAt 31 = .ok (.checkcast 48, 3) := by decide +kernel
theorem dX7_toComeAt_34 : decode cX7_toComeAt 34 = .ok (.iload_n 1, 1) := by decide +kernel
theorem dX7_toComeAt_35 : decode cX7_toComeAt 35 = .ok (.iload_n 2, 1) := by decide +kernel
theorem dX7_toComeAt_36 : decode cX7_toComeAt 36 = .ok (.invokevirtual 50, 3) := by decide +kernel
theorem dX7_toComeAt_39 : decode cX7_toComeAt 39 = .ok (.iadd, 1) := by decide +kernel
theorem dX7_toComeAt_40 : decode cX7_toComeAt 40 = .ok (.istore_n 3, 1) := by decide +kernel
theorem dX7_toComeAt_41 : decode cX7_toComeAt 41 = .ok (.iinc 4 1, 3) := by decide +kernel
theorem dX7_toComeAt_44 : decode cX7_toComeAt 44 = .ok (.goto (-39), 3) := by decide +kernel
theorem dX7_toComeAt_47 : decode cX7_toComeAt 47 = .ok (.iload_n 3, 1) := by decide +kernel
theorem dX7_toComeAt_48 : decode cX7_toComeAt 48 = .ok (.ireturn, 1) := by decide +kernel
def F_X7_toComeAt_5 (G : Nat → Nat) (h : xH) (a0 : Nat) (x1 : Int32) (x2 : Int32) : Nat → Int32 → Int32 → Option Int32
  | 0, _, _ => none
  | n + 1, x3, x4 =>
    (gR h (some a0) 7 0).bind fun w1 =>
    (xc h w1 0).bind fun b3 =>
    (F_Jx4a65c_size_8abf5 G h b3).bind fun v2 =>
    if v2 ≤ x4 then
      some x3
    else
    (gR h (some a0) 7 0).bind fun w5 =>
    (xc h w5 0).bind fun b7 =>
    (F_Jx4a65c_get_915e3 G h b7 x4).bind fun w6 =>
    xk h w6 8 <|
    (xc h w6 8).bind fun b10 =>
    (F_X8_toCome G h b10 x1 x2).bind fun v9 =>
    xl (x3 + v9) fun v11 =>
    xl (x4 + 1) fun v12 =>
    F_X7_toComeAt_5 G h a0 x1 x2 n v11 v12
set_option maxHeartbeats 4000000 in
set_option maxRecDepth 100000 in
theorem tl_X7_toComeAt_5 {p : Program} {l : Launch} {e : Env} {s : State} {m : MethodId} {args : Array Value} {below : List Frame} {meth : Method} {c : Code} {D : va_G} {r : Int32} (hx : p.tables.exec = Jvm.exec) (hb : c.code = cX7_toComeAt) (hr : meth.sig.returnType = (some .int)) (hlk : meth.locks = false) (hml : c.maxLocals = 5) (hown : s.vm.findClass RX7 = some m.cls) (hnm : meth.name = "toComeAt") (hts : ∀ w ∈ xt, w.before args s = true) (G : Nat → Nat) (h : xH) (a0 : Nat) (x1 : Int32) (x2 : Int32) : ∀ (n : Nat) (x3 : Int32) (x4 : Int32) (H : Heap) (locs : List Loc) (ls : Array Slot), F_X7_toComeAt_5 G h a0 x1 x2 n x3 x4 = some r → xR D G h s H → va_S (xA G) s.heap H locs → lv_has ls 5 [(0, va_rf (some a0)), (1, .int x1), (2, .int x2), (3, .int x3), (4, .int x4)] → W p l e rm_X7_toComeAt s m args below meth c H locs 0 0 (MQ below (xQ D G (some (.int r)) h) args s rm_X7_toComeAt.cells rm_X7_toComeAt.slots (xA G)) (F0 m 5 ls []) := by
  intro n
  induction n with
  | zero =>
    intro x3 x4 H locs ls hF
    rw [F_X7_toComeAt_5.eq_1] at hF
    cases hF
  | succ n ih =>
    intro x3 x4 H locs ls hF hR hS hl
    rw [F_X7_toComeAt_5.eq_2] at hF
    refine lv_iload hx hb dX7_toComeAt_5 (lv_at hl 4 rfl) ?_
    refine x_aload_n (o := (some a0)) hx hb dX7_toComeAt_7 rfl (lv_at hl 0 rfl) ?_
    replace hF := xbind hF; obtain ⟨w1, ew1, hF⟩ := hF
    refine x_getR (o := (some a0)) (ci := 7) (C := RX7) (T := TX7) (N := 3) hx hb hts iw_X7 hown hR rfl 0 (by decide) mm_243 (Or.inl rfl) ew1 dX7_toComeAt_8 ?_
    replace hF := xbind hF; obtain ⟨b3, eb3, hF⟩ := hF
    replace hF := xbind hF; obtain ⟨v2, ev2, hF⟩ := hF
    refine x_callF (o := w1) (ci := 0) (As := []) (rest := [.int x4]) (v := (some (.int v2))) (k := 0) hx hb hml hown hts hR hS eb3 rfl (by decide +kernel) (t_Jx4a65c_size_8abf5 l D G h b3 v2 ev2) f_Jx4a65c_size_8abf5 mm_471 mm_232 mm_230 (by decide +kernel) rfl hl.1 rfl (by first | exact Nat.le_of_ble_eq_true rfl | simp [xrf_cat, xcI, xcJ, xcA]) dX7_toComeAt_11 (by decide) (by decide) rfl (fun H locs hR hS => ?_)
    refine lv_icmp_ge (tgt := 47) hx hb dX7_toComeAt_16 (by decide) (fun c4 => ?_) (fun c4 => ?_)
    · replace hF := xift c4 hF
      refine lv_iload_n hx hb dX7_toComeAt_47 rfl (lv_at hl 3 rfl) ?_
      cases hF
      exact x_iret hx hb hr rfl hlk hR hS (by decide) (by decide) dX7_toComeAt_48
    · replace hF := xiff c4 hF
      refine lv_iload_n hx hb dX7_toComeAt_19 rfl (lv_at hl 3 rfl) ?_
      refine x_aload_n (o := (some a0)) hx hb dX7_toComeAt_20 rfl (lv_at hl 0 rfl) ?_
      replace hF := xbind hF; obtain ⟨w5, ew5, hF⟩ := hF
      refine x_getR (o := (some a0)) (ci := 7) (C := RX7) (T := TX7) (N := 3) hx hb hts iw_X7 hown hR rfl 0 (by decide) mm_243 (Or.inl rfl) ew5 dX7_toComeAt_21 ?_
      refine lv_iload hx hb dX7_toComeAt_24 (lv_at hl 4 rfl) ?_
      replace hF := xbind hF; obtain ⟨b7, eb7, hF⟩ := hF
      replace hF := xbind hF; obtain ⟨w6, ew6, hF⟩ := hF
      refine x_callF (o := w5) (ci := 0) (As := [.int x4]) (rest := [.int x3]) (v := (some (va_rf w6))) (k := 1) hx hb hml hown hts hR hS eb7 rfl (by decide +kernel) (t_Jx4a65c_get_915e3 l D G h b7 x4 w6 ew6) f_Jx4a65c_get_915e3 mm_473 mm_334 mm_332 (by decide +kernel) rfl hl.1 rfl (by first | exact Nat.le_of_ble_eq_true rfl | simp [xrf_cat, xcI, xcJ, xcA]) dX7_toComeAt_26 (by decide) (by decide) rfl (fun H locs hR hS => ?_)
      replace hF := xkguard hF; obtain ⟨c8, hF⟩ := hF
      refine x_cast (o := w6) (ci := 8) hx hb hown hts hR rfl mm_474 c8 dX7_toComeAt_31 ?_
      refine lv_iload_n hx hb dX7_toComeAt_34 rfl (lv_at hl 1 rfl) ?_
      refine lv_iload_n hx hb dX7_toComeAt_35 rfl (lv_at hl 2 rfl) ?_
      replace hF := xbind hF; obtain ⟨b10, eb10, hF⟩ := hF
      replace hF := xbind hF; obtain ⟨v9, ev9, hF⟩ := hF
      refine x_callV (o := w6) (ci := 8) (As := [.int x1, .int x2]) (rest := [.int x3]) (v := (some (.int v9))) (k := 2) hx hb hml hown hts hR hS eb10 rfl rfl (t_X8_toCome l D G h b10 x1 x2 v9 ev9) f_X8_toCome mm_475 mm_476 mm_477 rfl hl.1 rfl (by first | exact Nat.le_of_ble_eq_true rfl | simp [xrf_cat, xcI, xcJ, xcA]) dX7_toComeAt_36 (by decide) (by decide) rfl (fun H locs hR hS => ?_)
      refine lv_iadd hx hb dX7_toComeAt_39 ?_
      refine lv_topi (fun v11 ev11 => ?_)
      replace hF := xlet ev11 hF
      refine lv_istore_n (lv' := [(3, .int v11), (0, va_rf (some a0)), (1, .int x1), (2, .int x2), (4, .int x4)]) hx hb dX7_toComeAt_40 rfl hl (by decide) (by first | rfl | (simp [xrf_cat, xcI, xcJ, xcA]; done) | (simp [xrf_cat, xcI, xcJ, xcA]; decide)) (fun ls hl => ?_)
      obtain ⟨v12, ev12⟩ : ∃ z : Int32, z = (x4 + 1) := ⟨_, rfl⟩
      replace hF := xlet ev12 hF
      refine lv_iinc (v := v12) (lv' := [(4, .int v12), (3, .int v11), (0, va_rf (some a0)), (1, .int x1), (2, .int x2)]) hx hb dX7_toComeAt_41 hl (k := 4) rfl (by rw [ev12]; rfl) (by decide) (by first | rfl | (simp [xrf_cat, xcI, xcJ, xcA]; done) | (simp [xrf_cat, xcI, xcJ, xcA]; decide)) (fun ls hl => ?_)
      refine lv_goto (tgt := 5) hx hb dX7_toComeAt_44 (by decide) ?_
      exact ih v11 v12 _ _ _ hF hR hS (lv_sub hl [2, 3, 4, 1, 0] rfl)
def F_X7_toComeAt (G : Nat → Nat) (h : xH) (a0 : Nat) (x1 : Int32) (x2 : Int32) : Option Int32 :=
  F_X7_toComeAt_5 G h a0 x1 x2 xN 0 0
set_option maxHeartbeats 4000000 in
set_option maxRecDepth 100000 in
theorem t_X7_toComeAt (l : Launch) (D : va_G) (G : Nat → Nat) (h : xH) (a0 : Nat) (x1 : Int32) (x2 : Int32) (r : Int32) (hF : F_X7_toComeAt G h a0 x1 x2 = some r) : xC l yX7_toComeAt cX7_toComeAt 5 (some .int) (rm_X7_toComeAt) D G h [.ref a0, .int x1, .int x2] (some (.int r)) h := by
  refine xC_of (by decide) (by first | decide | exact Nat.le_of_ble_eq_true rfl) ?_
  intro p e s m args below meth c ls hx hb hr hlk hml hown hnm hts hR hS hl
  have hl : lv_has ls 5 [(0, va_rf (some a0)), (1, .int x1), (2, .int x2)] := hl
  unfold F_X7_toComeAt at hF
  refine lv_iconst (v := 0) hx hb dX7_toComeAt_0 (by decide) ?_
  refine lv_istore_n (lv' := [(3, .int 0), (0, va_rf (some a0)), (1, .int x1), (2, .int x2)]) hx hb dX7_toComeAt_1 rfl hl (by decide) (by first | rfl | (simp [xrf_cat, xcI, xcJ, xcA]; done) | (simp [xrf_cat, xcI, xcJ, xcA]; decide)) (fun ls hl => ?_)
  refine lv_iconst (v := 0) hx hb dX7_toComeAt_2 (by decide) ?_
  refine lv_istore (lv' := [(4, .int 0), (3, .int 0), (0, va_rf (some a0)), (1, .int x1), (2, .int x2)]) hx hb dX7_toComeAt_3 hl (by decide) (by first | rfl | (simp [xrf_cat, xcI, xcJ, xcA]; done) | (simp [xrf_cat, xcI, xcJ, xcA]; decide)) (fun ls hl => ?_)
  refine W.widen (k := 0) (n := 0) (by decide) (by decide) ?_
  exact tl_X7_toComeAt_5 hx hb hr hlk hml hown hnm hts G h a0 x1 x2 _ 0 0 _ _ _ hF hR hS (lv_sub hl [2, 3, 4, 1, 0] rfl)
def rm_X7_toComeIn : Room := { frames := 4, cells := 0, slots := 0, locals := 88 }
theorem f_X7_toComeIn : xM yX7_toComeIn cX7_toComeIn 6 (some .int) 3 := ⟨mm_465, mm_63, by decide +kernel, by decide +kernel⟩
theorem dX7_toComeIn_0 : decode cX7_toComeIn 0 = .ok (.iconst 0, 1) := by decide +kernel
theorem dX7_toComeIn_1 : decode cX7_toComeIn 1 = .ok (.istore 4, 2) := by decide +kernel
theorem dX7_toComeIn_3 : decode cX7_toComeIn 3 = .ok (.iload_n 1, 1) := by decide +kernel
theorem dX7_toComeIn_4 : decode cX7_toComeIn 4 = .ok (.iconst 0, 1) := by decide +kernel
theorem dX7_toComeIn_5 : decode cX7_toComeIn 5 = .ok (.invokestatic 29, 3) := by decide +kernel
theorem dX7_toComeIn_8 : decode cX7_toComeIn 8 = .ok (.istore 5, 2) := by decide +kernel
theorem dX7_toComeIn_10 : decode cX7_toComeIn 10 = .ok (.iload 5, 2) := by decide +kernel
theorem dX7_toComeIn_12 : decode cX7_toComeIn 12 = .ok (.iload_n 2, 1) := by decide +kernel
theorem dX7_toComeIn_13 : decode cX7_toComeIn 13 = .ok (.if_icmp .gt 29, 3) := by decide +kernel
theorem dX7_toComeIn_16 : decode cX7_toComeIn 16 = .ok (.iload 5, 2) := by decide +kernel
theorem dX7_toComeIn_18 : decode cX7_toComeIn 18 = .ok (.sipush 600, 3) := by decide +kernel
theorem dX7_toComeIn_21 : decode cX7_toComeIn 21 = .ok (.if_icmp .gt 21, 3) := by decide +kernel
theorem dX7_toComeIn_24 : decode cX7_toComeIn 24 = .ok (.iload 4, 2) := by decide +kernel
theorem dX7_toComeIn_26 : decode cX7_toComeIn 26 = .ok (.aload_n 0, 1) := by decide +kernel
theorem dX7_toComeIn_27 : decode cX7_toComeIn 27 = .ok (.iload 5, 2) := by decide +kernel
theorem dX7_toComeIn_29 : decode cX7_toComeIn 29 = .ok (.iload_n 3, 1) := by decide +kernel
theorem dX7_toComeIn_30 : decode cX7_toComeIn 30 = .ok (.invokevirtual 35, 3) := by decide +kernel
theorem dX7_toComeIn_33 : decode cX7_toComeIn 33 = .ok (.iadd, 1) := by decide +kernel
theorem dX7_toComeIn_34 : decode cX7_toComeIn 34 = .ok (.istore 4, 2) := by decide +kernel
theorem dX7_toComeIn_36 : decode cX7_toComeIn 36 = .ok (.iinc 5 1, 3) := by decide +kernel
theorem dX7_toComeIn_39 : decode cX7_toComeIn 39 = .ok (.goto (-29), 3) := by decide +kernel
theorem dX7_toComeIn_42 : decode cX7_toComeIn 42 = .ok (.iload 4, 2) := by decide +kernel
theorem dX7_toComeIn_44 : decode cX7_toComeIn 44 = .ok (.ireturn, 1) := by decide +kernel
def F_X7_toComeIn_10 (G : Nat → Nat) (h : xH) (a0 : Nat) (x2 : Int32) (x3 : Int32) : Nat → Int32 → Int32 → Option Int32
  | 0, _, _ => none
  | n + 1, x4, x5 =>
    if x2 < x5 then
      some x4
    else
    if 600 < x5 then
      some x4
    else
    (xc h (some a0) 7).bind fun b5 =>
    (F_X7_toComeAt G h b5 x5 x3).bind fun v4 =>
    xl (x4 + v4) fun v6 =>
    xl (x5 + 1) fun v7 =>
    F_X7_toComeIn_10 G h a0 x2 x3 n v6 v7
set_option maxHeartbeats 4000000 in
set_option maxRecDepth 100000 in
theorem tl_X7_toComeIn_10 {p : Program} {l : Launch} {e : Env} {s : State} {m : MethodId} {args : Array Value} {below : List Frame} {meth : Method} {c : Code} {D : va_G} {r : Int32} (hx : p.tables.exec = Jvm.exec) (hb : c.code = cX7_toComeIn) (hr : meth.sig.returnType = (some .int)) (hlk : meth.locks = false) (hml : c.maxLocals = 6) (hown : s.vm.findClass RX7 = some m.cls) (hnm : meth.name = "toComeIn") (hts : ∀ w ∈ xt, w.before args s = true) (G : Nat → Nat) (h : xH) (a0 : Nat) (x2 : Int32) (x3 : Int32) : ∀ (n : Nat) (x4 : Int32) (x5 : Int32) (H : Heap) (locs : List Loc) (ls : Array Slot), F_X7_toComeIn_10 G h a0 x2 x3 n x4 x5 = some r → xR D G h s H → va_S (xA G) s.heap H locs → lv_has ls 6 [(0, va_rf (some a0)), (2, .int x2), (3, .int x3), (4, .int x4), (5, .int x5)] → W p l e rm_X7_toComeIn s m args below meth c H locs 0 0 (MQ below (xQ D G (some (.int r)) h) args s rm_X7_toComeIn.cells rm_X7_toComeIn.slots (xA G)) (F0 m 10 ls []) := by
  intro n
  induction n with
  | zero =>
    intro x4 x5 H locs ls hF
    rw [F_X7_toComeIn_10.eq_1] at hF
    cases hF
  | succ n ih =>
    intro x4 x5 H locs ls hF hR hS hl
    rw [F_X7_toComeIn_10.eq_2] at hF
    refine lv_iload hx hb dX7_toComeIn_10 (lv_at hl 4 rfl) ?_
    refine lv_iload_n hx hb dX7_toComeIn_12 rfl (lv_at hl 1 rfl) ?_
    refine lv_icmp_gt (tgt := 42) hx hb dX7_toComeIn_13 (by decide) (fun c2 => ?_) (fun c2 => ?_)
    · replace hF := xift c2 hF
      refine lv_iload hx hb dX7_toComeIn_42 (lv_at hl 3 rfl) ?_
      cases hF
      exact x_iret hx hb hr rfl hlk hR hS (by decide) (by decide) dX7_toComeIn_44
    · replace hF := xiff c2 hF
      refine lv_iload hx hb dX7_toComeIn_16 (lv_at hl 4 rfl) ?_
      refine lv_sipush (v := 600) hx hb dX7_toComeIn_18 (by decide) ?_
      refine lv_icmp_gt (tgt := 42) hx hb dX7_toComeIn_21 (by decide) (fun c3 => ?_) (fun c3 => ?_)
      · replace hF := xift c3 hF
        refine lv_iload hx hb dX7_toComeIn_42 (lv_at hl 3 rfl) ?_
        cases hF
        exact x_iret hx hb hr rfl hlk hR hS (by decide) (by decide) dX7_toComeIn_44
      · replace hF := xiff c3 hF
        refine lv_iload hx hb dX7_toComeIn_24 (lv_at hl 3 rfl) ?_
        refine x_aload_n (o := (some a0)) hx hb dX7_toComeIn_26 rfl (lv_at hl 0 rfl) ?_
        refine lv_iload hx hb dX7_toComeIn_27 (lv_at hl 4 rfl) ?_
        refine lv_iload_n hx hb dX7_toComeIn_29 rfl (lv_at hl 2 rfl) ?_
        replace hF := xbind hF; obtain ⟨b5, eb5, hF⟩ := hF
        replace hF := xbind hF; obtain ⟨v4, ev4, hF⟩ := hF
        refine x_callV (o := (some a0)) (ci := 7) (As := [.int x5, .int x3]) (rest := [.int x4]) (v := (some (.int v4))) (k := 2) hx hb hml hown hts hR hS eb5 rfl rfl (t_X7_toComeAt l D G h b5 x5 x3 v4 ev4) f_X7_toComeAt mm_466 mm_467 mm_468 rfl hl.1 rfl (by first | exact Nat.le_of_ble_eq_true rfl | simp [xrf_cat, xcI, xcJ, xcA]) dX7_toComeIn_30 (by decide) (by decide) rfl (fun H locs hR hS => ?_)
        refine lv_iadd hx hb dX7_toComeIn_33 ?_
        refine lv_topi (fun v6 ev6 => ?_)
        replace hF := xlet ev6 hF
        refine lv_istore (lv' := [(4, .int v6), (0, va_rf (some a0)), (2, .int x2), (3, .int x3), (5, .int x5)]) hx hb dX7_toComeIn_34 hl (by decide) (by first | rfl | (simp [xrf_cat, xcI, xcJ, xcA]; done) | (simp [xrf_cat, xcI, xcJ, xcA]; decide)) (fun ls hl => ?_)
        obtain ⟨v7, ev7⟩ : ∃ z : Int32, z = (x5 + 1) := ⟨_, rfl⟩
        replace hF := xlet ev7 hF
        refine lv_iinc (v := v7) (lv' := [(5, .int v7), (4, .int v6), (0, va_rf (some a0)), (2, .int x2), (3, .int x3)]) hx hb dX7_toComeIn_36 hl (k := 4) rfl (by rw [ev7]; rfl) (by decide) (by first | rfl | (simp [xrf_cat, xcI, xcJ, xcA]; done) | (simp [xrf_cat, xcI, xcJ, xcA]; decide)) (fun ls hl => ?_)
        refine lv_goto (tgt := 10) hx hb dX7_toComeIn_39 (by decide) ?_
        exact ih v6 v7 _ _ _ hF hR hS (lv_sub hl [2, 3, 4, 1, 0] rfl)
def F_X7_toComeIn (G : Nat → Nat) (h : xH) (a0 : Nat) (x1 : Int32) (x2 : Int32) (x3 : Int32) : Option Int32 :=
  xl (xmax x1 0) fun v1 =>
  F_X7_toComeIn_10 G h a0 x2 x3 xN 0 v1
set_option maxHeartbeats 4000000 in
set_option maxRecDepth 100000 in
theorem t_X7_toComeIn (l : Launch) (D : va_G) (G : Nat → Nat) (h : xH) (a0 : Nat) (x1 : Int32) (x2 : Int32) (x3 : Int32) (r : Int32) (hF : F_X7_toComeIn G h a0 x1 x2 x3 = some r) : xC l yX7_toComeIn cX7_toComeIn 6 (some .int) (rm_X7_toComeIn) D G h [.ref a0, .int x1, .int x2, .int x3] (some (.int r)) h := by
  refine xC_of (by decide) (by first | decide | exact Nat.le_of_ble_eq_true rfl) ?_
  intro p e s m args below meth c ls hx hb hr hlk hml hown hnm hts hR hS hl
  have hl : lv_has ls 6 [(0, va_rf (some a0)), (1, .int x1), (2, .int x2), (3, .int x3)] := hl
  unfold F_X7_toComeIn at hF
  refine lv_iconst (v := 0) hx hb dX7_toComeIn_0 (by decide) ?_
  refine lv_istore (lv' := [(4, .int 0), (0, va_rf (some a0)), (1, .int x1), (2, .int x2), (3, .int x3)]) hx hb dX7_toComeIn_1 hl (by decide) (by first | rfl | (simp [xrf_cat, xcI, xcJ, xcA]; done) | (simp [xrf_cat, xcI, xcJ, xcA]; decide)) (fun ls hl => ?_)
  refine lv_iload_n hx hb dX7_toComeIn_3 rfl (lv_at hl 2 rfl) ?_
  refine lv_iconst (v := 0) hx hb dX7_toComeIn_4 (by decide) ?_
  refine x_max hx hb (hml.trans hl.1.symm) hown hts mm_457 mm_280 mm_65 mm_281 (by decide) (by first | exact Nat.le_of_ble_eq_true rfl | simp [xrf_cat, xcI, xcJ, xcA]) (by decide) (by decide) dX7_toComeIn_5 ?_
  refine lv_topi (fun v1 ev1 => ?_)
  replace hF := xlet ev1 hF
  refine lv_istore (lv' := [(5, .int v1), (4, .int 0), (0, va_rf (some a0)), (1, .int x1), (2, .int x2), (3, .int x3)]) hx hb dX7_toComeIn_8 hl (by decide) (by first | rfl | (simp [xrf_cat, xcI, xcJ, xcA]; done) | (simp [xrf_cat, xcI, xcJ, xcA]; decide)) (fun ls hl => ?_)
  refine W.widen (k := 0) (n := 0) (by decide) (by decide) ?_
  exact tl_X7_toComeIn_10 hx hb hr hlk hml hown hnm hts G h a0 x2 x3 _ 0 v1 _ _ _ hF hR hS (lv_sub hl [2, 4, 5, 1, 0] rfl)
def rm_X7_latest : Room := { frames := 3, cells := 0, slots := 0, locals := 64 }
theorem f_X7_latest : xM yX7_latest cX7_latest 3 (some .int) 0 := ⟨mm_934, mm_63, by decide +kernel, by decide +kernel⟩
theorem dX7_latest_0 : decode cX7_latest 0 = .ok (.iconst 0, 1) := by decide +kernel
theorem dX7_latest_1 : decode cX7_latest 1 = .ok (.istore_n 1, 1) := by decide +kernel
theorem dX7_latest_2 : decode cX7_latest 2 = .ok (.iconst 0, 1) := by decide +kernel
theorem dX7_latest_3 : decode cX7_latest 3 = .ok (.istore_n 2, 1) := by decide +kernel
theorem dX7_latest_4 : decode cX7_latest 4 = .ok (.iload_n 2, 1) := by decide +kernel
theorem dX7_latest_5 : decode cX7_latest 5 = .ok (.aload_n 0, 1) := by decide +kernel
theorem dX7_latest_6 : decode cX7_latest 6 = .ok (.getfield 12, 3) := by decide +kernel
theorem dX7_latest_9 : decode cX7_latest 9 = .ok (.invokeinterface 38 1, 5) := by decide +kernel
theorem dX7_latest_14 : decode cX7_latest 14 = .ok (.if_icmp .ge 30, 3) := by decide +kernel
theorem dX7_latest_17 : decode cX7_latest 17 = .ok (.iload_n 1, 1) := by decide +kernel
theorem dX7_latest_18 : decode cX7_latest 18 = .ok (.aload_n 0, 1) := by decide +kernel
theorem dX7_latest_19 : decode cX7_latest 19 = .ok (.getfield 12, 3) := by decide +kernel
theorem dX7_latest_22 : decode cX7_latest 22 = .ok (.iload_n 2, 1) := by decide +kernel
theorem dX7_latest_23 : decode cX7_latest 23 = .ok (.invokeinterface 44 2, 5) := by decide +kernel
theorem dX7_latest_28 : decode cX7_latest 28 = .ok (.checkcast 48, 3) := by decide +kernel
theorem dX7_latest_31 : decode cX7_latest 31 = .ok (.getfield 53, 3) := by decide +kernel
theorem dX7_latest_34 : decode cX7_latest 34 = .ok (.invokestatic 29, 3) := by decide +kernel
theorem dX7_latest_37 : decode cX7_latest 37 = .ok (.istore_n 1, 1) := by decide +kernel
theorem dX7_latest_38 : decode cX7_latest 38 = .ok (.iinc 2 1, 3) := by decide +kernel
theorem dX7_latest_41 : decode cX7_latest 41 = .ok (.goto (-37), 3) := by decide +kernel
theorem dX7_latest_44 : decode cX7_latest 44 = .ok (.iload_n 1, 1) := by decide +kernel
theorem dX7_latest_45 : decode cX7_latest 45 = .ok (.ireturn, 1) := by decide +kernel
def F_X7_latest_4 (G : Nat → Nat) (h : xH) (a0 : Nat) : Nat → Int32 → Int32 → Option Int32
  | 0, _, _ => none
  | n + 1, x1, x2 =>
    (gR h (some a0) 7 0).bind fun w1 =>
    (xc h w1 0).bind fun b3 =>
    (F_Jx4a65c_size_8abf5 G h b3).bind fun v2 =>
    if v2 ≤ x2 then
      some x1
    else
    (gR h (some a0) 7 0).bind fun w5 =>
    (xc h w5 0).bind fun b7 =>
    (F_Jx4a65c_get_915e3 G h b7 x2).bind fun w6 =>
    xk h w6 8 <|
    (gI h w6 8 0).bind fun v9 =>
    xl (xmax x1 v9) fun v10 =>
    xl (x2 + 1) fun v11 =>
    F_X7_latest_4 G h a0 n v10 v11
set_option maxHeartbeats 4000000 in
set_option maxRecDepth 100000 in
theorem tl_X7_latest_4 {p : Program} {l : Launch} {e : Env} {s : State} {m : MethodId} {args : Array Value} {below : List Frame} {meth : Method} {c : Code} {D : va_G} {r : Int32} (hx : p.tables.exec = Jvm.exec) (hb : c.code = cX7_latest) (hr : meth.sig.returnType = (some .int)) (hlk : meth.locks = false) (hml : c.maxLocals = 3) (hown : s.vm.findClass RX7 = some m.cls) (hnm : meth.name = "latest") (hts : ∀ w ∈ xt, w.before args s = true) (G : Nat → Nat) (h : xH) (a0 : Nat) : ∀ (n : Nat) (x1 : Int32) (x2 : Int32) (H : Heap) (locs : List Loc) (ls : Array Slot), F_X7_latest_4 G h a0 n x1 x2 = some r → xR D G h s H → va_S (xA G) s.heap H locs → lv_has ls 3 [(0, va_rf (some a0)), (1, .int x1), (2, .int x2)] → W p l e rm_X7_latest s m args below meth c H locs 0 0 (MQ below (xQ D G (some (.int r)) h) args s rm_X7_latest.cells rm_X7_latest.slots (xA G)) (F0 m 4 ls []) := by
  intro n
  induction n with
  | zero =>
    intro x1 x2 H locs ls hF
    rw [F_X7_latest_4.eq_1] at hF
    cases hF
  | succ n ih =>
    intro x1 x2 H locs ls hF hR hS hl
    rw [F_X7_latest_4.eq_2] at hF
    refine lv_iload_n hx hb dX7_latest_4 rfl (lv_at hl 2 rfl) ?_
    refine x_aload_n (o := (some a0)) hx hb dX7_latest_5 rfl (lv_at hl 0 rfl) ?_
    replace hF := xbind hF; obtain ⟨w1, ew1, hF⟩ := hF
    refine x_getR (o := (some a0)) (ci := 7) (C := RX7) (T := TX7) (N := 3) hx hb hts iw_X7 hown hR rfl 0 (by decide) mm_243 (Or.inl rfl) ew1 dX7_latest_6 ?_
    replace hF := xbind hF; obtain ⟨b3, eb3, hF⟩ := hF
    replace hF := xbind hF; obtain ⟨v2, ev2, hF⟩ := hF
    refine x_callF (o := w1) (ci := 0) (As := []) (rest := [.int x2]) (v := (some (.int v2))) (k := 0) hx hb hml hown hts hR hS eb3 rfl (by decide +kernel) (t_Jx4a65c_size_8abf5 l D G h b3 v2 ev2) f_Jx4a65c_size_8abf5 mm_471 mm_232 mm_230 (by decide +kernel) rfl hl.1 rfl (by first | exact Nat.le_of_ble_eq_true rfl | simp [xrf_cat, xcI, xcJ, xcA]) dX7_latest_9 (by decide) (by decide) rfl (fun H locs hR hS => ?_)
    refine lv_icmp_ge (tgt := 44) hx hb dX7_latest_14 (by decide) (fun c4 => ?_) (fun c4 => ?_)
    · replace hF := xift c4 hF
      refine lv_iload_n hx hb dX7_latest_44 rfl (lv_at hl 1 rfl) ?_
      cases hF
      exact x_iret hx hb hr rfl hlk hR hS (by decide) (by decide) dX7_latest_45
    · replace hF := xiff c4 hF
      refine lv_iload_n hx hb dX7_latest_17 rfl (lv_at hl 1 rfl) ?_
      refine x_aload_n (o := (some a0)) hx hb dX7_latest_18 rfl (lv_at hl 0 rfl) ?_
      replace hF := xbind hF; obtain ⟨w5, ew5, hF⟩ := hF
      refine x_getR (o := (some a0)) (ci := 7) (C := RX7) (T := TX7) (N := 3) hx hb hts iw_X7 hown hR rfl 0 (by decide) mm_243 (Or.inl rfl) ew5 dX7_latest_19 ?_
      refine lv_iload_n hx hb dX7_latest_22 rfl (lv_at hl 2 rfl) ?_
      replace hF := xbind hF; obtain ⟨b7, eb7, hF⟩ := hF
      replace hF := xbind hF; obtain ⟨w6, ew6, hF⟩ := hF
      refine x_callF (o := w5) (ci := 0) (As := [.int x2]) (rest := [.int x1]) (v := (some (va_rf w6))) (k := 1) hx hb hml hown hts hR hS eb7 rfl (by decide +kernel) (t_Jx4a65c_get_915e3 l D G h b7 x2 w6 ew6) f_Jx4a65c_get_915e3 mm_473 mm_334 mm_332 (by decide +kernel) rfl hl.1 rfl (by first | exact Nat.le_of_ble_eq_true rfl | simp [xrf_cat, xcI, xcJ, xcA]) dX7_latest_23 (by decide) (by decide) rfl (fun H locs hR hS => ?_)
      replace hF := xkguard hF; obtain ⟨c8, hF⟩ := hF
      refine x_cast (o := w6) (ci := 8) hx hb hown hts hR rfl mm_474 c8 dX7_latest_28 ?_
      replace hF := xbind hF; obtain ⟨v9, ev9, hF⟩ := hF
      refine x_getI (o := w6) (ci := 8) (C := RX8) (T := TX8) (N := 5) hx hb hts iw_X8 hown hR rfl 0 (by decide) mm_357 (Or.inl rfl) ev9 dX7_latest_31 ?_
      refine x_max hx hb (hml.trans hl.1.symm) hown hts mm_457 mm_280 mm_65 mm_281 (by decide) (by first | exact Nat.le_of_ble_eq_true rfl | simp [xrf_cat, xcI, xcJ, xcA]) (by decide) (by decide) dX7_latest_34 ?_
      refine lv_topi (fun v10 ev10 => ?_)
      replace hF := xlet ev10 hF
      refine lv_istore_n (lv' := [(1, .int v10), (0, va_rf (some a0)), (2, .int x2)]) hx hb dX7_latest_37 rfl hl (by decide) (by first | rfl | (simp [xrf_cat, xcI, xcJ, xcA]; done) | (simp [xrf_cat, xcI, xcJ, xcA]; decide)) (fun ls hl => ?_)
      obtain ⟨v11, ev11⟩ : ∃ z : Int32, z = (x2 + 1) := ⟨_, rfl⟩
      replace hF := xlet ev11 hF
      refine lv_iinc (v := v11) (lv' := [(2, .int v11), (1, .int v10), (0, va_rf (some a0))]) hx hb dX7_latest_38 hl (k := 2) rfl (by rw [ev11]; rfl) (by decide) (by first | rfl | (simp [xrf_cat, xcI, xcJ, xcA]; done) | (simp [xrf_cat, xcI, xcJ, xcA]; decide)) (fun ls hl => ?_)
      refine lv_goto (tgt := 4) hx hb dX7_latest_41 (by decide) ?_
      exact ih v10 v11 _ _ _ hF hR hS (lv_sub hl [2, 1, 0] rfl)
def F_X7_latest (G : Nat → Nat) (h : xH) (a0 : Nat) : Option Int32 :=
  F_X7_latest_4 G h a0 xN 0 0
set_option maxHeartbeats 4000000 in
set_option maxRecDepth 100000 in
theorem t_X7_latest (l : Launch) (D : va_G) (G : Nat → Nat) (h : xH) (a0 : Nat) (r : Int32) (hF : F_X7_latest G h a0 = some r) : xC l yX7_latest cX7_latest 3 (some .int) (rm_X7_latest) D G h [.ref a0] (some (.int r)) h := by
  refine xC_of (by decide) (by first | decide | exact Nat.le_of_ble_eq_true rfl) ?_
  intro p e s m args below meth c ls hx hb hr hlk hml hown hnm hts hR hS hl
  have hl : lv_has ls 3 [(0, va_rf (some a0))] := hl
  unfold F_X7_latest at hF
  refine lv_iconst (v := 0) hx hb dX7_latest_0 (by decide) ?_
  refine lv_istore_n (lv' := [(1, .int 0), (0, va_rf (some a0))]) hx hb dX7_latest_1 rfl hl (by decide) (by first | rfl | (simp [xrf_cat, xcI, xcJ, xcA]; done) | (simp [xrf_cat, xcI, xcJ, xcA]; decide)) (fun ls hl => ?_)
  refine lv_iconst (v := 0) hx hb dX7_latest_2 (by decide) ?_
  refine lv_istore_n (lv' := [(2, .int 0), (1, .int 0), (0, va_rf (some a0))]) hx hb dX7_latest_3 rfl hl (by decide) (by first | rfl | (simp [xrf_cat, xcI, xcJ, xcA]; done) | (simp [xrf_cat, xcI, xcJ, xcA]; decide)) (fun ls hl => ?_)
  refine W.widen (k := 0) (n := 0) (by decide) (by decide) ?_
  exact tl_X7_latest_4 hx hb hr hlk hml hown hnm hts G h a0 _ 0 0 _ _ _ hF hR hS (lv_sub hl [2, 1, 0] rfl)
def rm_X8_take : Room := { frames := 1, cells := 0, slots := 0, locals := 23 }
theorem f_X8_take : xM yX8_take cX8_take 5 none 4 := ⟨mm_393, mm_70, by decide +kernel, by decide +kernel⟩
theorem dX8_take_0 : decode cX8_take 0 = .ok (.iload_n 1, 1) := by decide +kernel
theorem dX8_take_1 : decode cX8_take 1 = .ok (.ifCond .lt 49, 3) := by decide +kernel
theorem dX8_take_4 : decode cX8_take 4 = .ok (.iload_n 1, 1) := by decide +kernel
theorem dX8_take_5 : decode cX8_take 5 = .ok (.sipush 200, 3) := by decide +kernel
theorem dX8_take_8 : decode cX8_take 8 = .ok (.if_icmp .ge 42, 3) := by decide +kernel
theorem dX8_take_11 : decode cX8_take 11 = .ok (.iload_n 2, 1) := by decide +kernel
theorem dX8_take_12 : decode cX8_take 12 = .ok (.ifCond .lt 38, 3) := by decide +kernel
theorem dX8_take_15 : decode cX8_take 15 = .ok (.iload_n 2, 1) := by decide +kernel
theorem dX8_take_16 : decode cX8_take 16 = .ok (.sipush 601, 3) := by decide +kernel
theorem dX8_take_19 : decode cX8_take 19 = .ok (.if_icmp .ge 31, 3) := by decide +kernel
theorem dX8_take_22 : decode cX8_take 22 = .ok (.aload_n 0, 1) := by decide +kernel
theorem dX8_take_23 : decode cX8_take 23 = .ok (.getfield 15, 3) := by decide +kernel
theorem dX8_take_26 : decode cX8_take 26 = .ok (.iload_n 1, 1) := by decide +kernel
theorem dX8_take_27 : decode cX8_take 27 = .ok (.iconst 1, 1) := by decide +kernel
theorem dX8_take_28 : decode cX8_take 28 = .ok (.bastore, 1) := by decide +kernel
theorem dX8_take_29 : decode cX8_take 29 = .ok (.aload_n 0, 1) := by decide +kernel
theorem dX8_take_30 : decode cX8_take 30 = .ok (.getfield 9, 3) := by decide +kernel
theorem dX8_take_33 : decode cX8_take 33 = .ok (.iload_n 2, 1) := by decide +kernel
theorem dX8_take_34 : decode cX8_take 34 = .ok (.dup2, 1) := by decide +kernel
theorem dX8_take_35 : decode cX8_take 35 = .ok (.iaload, 1) := by decide +kernel
theorem dX8_take_36 : decode cX8_take 36 = .ok (.iload_n 3, 1) := by decide +kernel
theorem dX8_take_37 : decode cX8_take 37 = .ok (.iadd, 1) := by decide +kernel
theorem dX8_take_38 : decode cX8_take 38 = .ok (.iastore, 1) := by decide +kernel
theorem dX8_take_39 : decode cX8_take 39 = .ok (.aload_n 0, 1) := by decide +kernel
theorem dX8_take_40 : decode cX8_take 40 = .ok (.getfield 19, 3) := by decide +kernel
theorem dX8_take_43 : decode cX8_take 43 = .ok (.iload_n 2, 1) := by decide +kernel
theorem dX8_take_44 : decode cX8_take 44 = .ok (.iload_n 3, 1) := by decide +kernel
theorem dX8_take_45 : decode cX8_take 45 = .ok (.iload 4, 2) := by decide +kernel
theorem dX8_take_47 : decode cX8_take 47 = .ok (.invokevirtual 34, 3) := by decide +kernel
theorem dX8_take_50 : decode cX8_take 50 = .ok (.return_, 1) := by decide +kernel
def F_X8_take (G : Nat → Nat) (h : xH) (a0 : Nat) (x1 : Int32) (x2 : Int32) (x3 : Int32) (x4 : Int32) : Option xH :=
  if x1 < 0 then
    some h
  else
  if 200 ≤ x1 then
    some h
  else
  if x2 < 0 then
    some h
  else
  if 601 ≤ x2 then
    some h
  else
  (gR h (some a0) 8 4).bind fun w5 =>
  (stI 3 G h w5 x1 (vp_nar .boolean 1)).bind fun h6 =>
  (gR h6 (some a0) 8 3).bind fun w7 =>
  (ldI 2 G h6 w7 x2).bind fun v8 =>
  (stI 2 G h6 w7 x2 (v8 + x3)).bind fun h9 =>
  (gR h9 (some a0) 8 1).bind fun w10 =>
  (xc h9 w10 7).bind fun b12 =>
  (F_X7_add G h9 b12 x2 x3 x4).bind fun h11 =>
  some h11
set_option maxHeartbeats 4000000 in
set_option maxRecDepth 100000 in
theorem t_X8_take (l : Launch) (D : va_G) (G : Nat → Nat) (h : xH) (a0 : Nat) (x1 : Int32) (x2 : Int32) (x3 : Int32) (x4 : Int32) (h' : xH) (hF : F_X8_take G h a0 x1 x2 x3 x4 = some h') : xC l yX8_take cX8_take 5 none (rm_X8_take) D G h [.ref a0, .int x1, .int x2, .int x3, .int x4] none h' := by
  refine xC_of (by decide) (by first | decide | exact Nat.le_of_ble_eq_true rfl) ?_
  intro p e s m args below meth c ls hx hb hr hlk hml hown hnm hts hR hS hl
  have hl : lv_has ls 5 [(0, va_rf (some a0)), (1, .int x1), (2, .int x2), (3, .int x3), (4, .int x4)] := hl
  unfold F_X8_take at hF
  refine lv_iload_n hx hb dX8_take_0 rfl (lv_at hl 1 rfl) ?_
  refine lv_if_lt (tgt := 50) hx hb dX8_take_1 (by decide) (fun c1 => ?_) (fun c1 => ?_)
  · replace hF := xift c1 hF
    cases hF
    exact x_vret hx hb hr hlk hR hS (by decide) (by decide) dX8_take_50
  · replace hF := xiff c1 hF
    refine lv_iload_n hx hb dX8_take_4 rfl (lv_at hl 1 rfl) ?_
    refine lv_sipush (v := 200) hx hb dX8_take_5 (by decide) ?_
    refine lv_icmp_ge (tgt := 50) hx hb dX8_take_8 (by decide) (fun c2 => ?_) (fun c2 => ?_)
    · replace hF := xift c2 hF
      cases hF
      exact x_vret hx hb hr hlk hR hS (by decide) (by decide) dX8_take_50
    · replace hF := xiff c2 hF
      refine lv_iload_n hx hb dX8_take_11 rfl (lv_at hl 2 rfl) ?_
      refine lv_if_lt (tgt := 50) hx hb dX8_take_12 (by decide) (fun c3 => ?_) (fun c3 => ?_)
      · replace hF := xift c3 hF
        cases hF
        exact x_vret hx hb hr hlk hR hS (by decide) (by decide) dX8_take_50
      · replace hF := xiff c3 hF
        refine lv_iload_n hx hb dX8_take_15 rfl (lv_at hl 2 rfl) ?_
        refine lv_sipush (v := 601) hx hb dX8_take_16 (by decide) ?_
        refine lv_icmp_ge (tgt := 50) hx hb dX8_take_19 (by decide) (fun c4 => ?_) (fun c4 => ?_)
        · replace hF := xift c4 hF
          cases hF
          exact x_vret hx hb hr hlk hR hS (by decide) (by decide) dX8_take_50
        · replace hF := xiff c4 hF
          refine x_aload_n (o := (some a0)) hx hb dX8_take_22 rfl (lv_at hl 0 rfl) ?_
          replace hF := xbind hF; obtain ⟨w5, ew5, hF⟩ := hF
          refine x_getR (o := (some a0)) (ci := 8) (C := RX8) (T := TX8) (N := 5) hx hb hts iw_X8 hown hR rfl 4 (by decide) mm_361 (Or.inl rfl) ew5 dX8_take_23 ?_
          refine lv_iload_n hx hb dX8_take_26 rfl (lv_at hl 1 rfl) ?_
          refine lv_iconst (v := 1) hx hb dX8_take_27 (by decide) ?_
          replace hF := xbind hF; obtain ⟨h6, eh6, hF⟩ := hF
          refine x_zst (o := w5) hx hb hR hS eh6 dX8_take_28 (fun H locs hR hS => ?_)
          refine x_aload_n (o := (some a0)) hx hb dX8_take_29 rfl (lv_at hl 0 rfl) ?_
          replace hF := xbind hF; obtain ⟨w7, ew7, hF⟩ := hF
          refine x_getR (o := (some a0)) (ci := 8) (C := RX8) (T := TX8) (N := 5) hx hb hts iw_X8 hown hR rfl 3 (by decide) mm_360 (Or.inl rfl) ew7 dX8_take_30 ?_
          refine lv_iload_n hx hb dX8_take_33 rfl (lv_at hl 2 rfl) ?_
          refine lv_dup2_11 hx hb dX8_take_34 rfl xrf_cat ?_
          replace hF := xbind hF; obtain ⟨v8, ev8, hF⟩ := hF
          refine x_ild (o := w7) hx hb hR ev8 dX8_take_35 ?_
          refine lv_iload_n hx hb dX8_take_36 rfl (lv_at hl 3 rfl) ?_
          refine lv_iadd hx hb dX8_take_37 ?_
          replace hF := xbind hF; obtain ⟨h9, eh9, hF⟩ := hF
          refine x_ist (o := w7) hx hb hR hS eh9 dX8_take_38 (fun H locs hR hS => ?_)
          refine x_aload_n (o := (some a0)) hx hb dX8_take_39 rfl (lv_at hl 0 rfl) ?_
          replace hF := xbind hF; obtain ⟨w10, ew10, hF⟩ := hF
          refine x_getR (o := (some a0)) (ci := 8) (C := RX8) (T := TX8) (N := 5) hx hb hts iw_X8 hown hR rfl 1 (by decide) mm_358 (Or.inl rfl) ew10 dX8_take_40 ?_
          refine lv_iload_n hx hb dX8_take_43 rfl (lv_at hl 2 rfl) ?_
          refine lv_iload_n hx hb dX8_take_44 rfl (lv_at hl 3 rfl) ?_
          refine lv_iload hx hb dX8_take_45 (lv_at hl 4 rfl) ?_
          replace hF := xbind hF; obtain ⟨b12, eb12, hF⟩ := hF
          replace hF := xbind hF; obtain ⟨h11, eh11, hF⟩ := hF
          refine x_callV (o := w10) (ci := 7) (As := [.int x2, .int x3, .int x4]) (rest := []) (v := none) (k := 3) hx hb hml hown hts hR hS eb12 rfl rfl (t_X7_add l D G h9 b12 x2 x3 x4 h11 eh11) f_X7_add mm_394 mm_395 mm_396 rfl hl.1 rfl (by first | exact Nat.le_of_ble_eq_true rfl | simp [xrf_cat, xcI, xcJ, xcA]) dX8_take_47 (by decide) (by decide) rfl (fun H locs hR hS => ?_)
          cases hF
          exact x_vret hx hb hr hlk hR hS (by decide) (by decide) dX8_take_50
