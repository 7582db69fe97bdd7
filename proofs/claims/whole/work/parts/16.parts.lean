def rm_X4_init : Room := { frames := 1, cells := 1, slots := 10, locals := 20 }
theorem f_X4_init : xM yX4_init cX4_init 1 none 0 := ⟨mm_118, mm_59, by decide +kernel, by decide +kernel⟩
theorem dX4_init_0 : decode cX4_init 0 = .ok (.aload_n 0, 1) := by decide +kernel
theorem dX4_init_1 : decode cX4_init 1 = .ok (.invokespecial 3, 3) := by decide +kernel
theorem dX4_init_4 : decode cX4_init 4 = .ok (.aload_n 0, 1) := by decide +kernel
theorem dX4_init_5 : decode cX4_init 5 = .ok (.bipush 10, 2) := by decide +kernel
theorem dX4_init_7 : decode cX4_init 7 = .ok (.newarray .int, 2) := by decide +kernel
theorem dX4_init_9 : decode cX4_init 9 = .ok (.putfield 9, 3) := by decide +kernel
theorem dX4_init_12 : decode cX4_init 12 = .ok (.return_, 1) := by decide +kernel
def F_X4_init (G : Nat → Nat) (h : xH) (a0 : Nat) : Option xH :=
  (nAI G h 10).bind fun (q1, h2) =>
  (xp G h2 (some a0) 4 0 (va_rf (some q1))).bind fun h3 =>
  some h3
set_option maxHeartbeats 4000000 in
set_option maxRecDepth 100000 in
theorem t_X4_init (l : Launch) (D : va_G) (G : Nat → Nat) (h : xH) (a0 : Nat) (h' : xH) (hF : F_X4_init G h a0 = some h') : xC l yX4_init cX4_init 1 none (rm_X4_init) D G h [.ref a0] none h' := by
  refine xC_of (by decide) (by first | decide | exact Nat.le_of_ble_eq_true rfl) ?_
  intro p e s m args below meth c ls hx hb hr hlk hml hown hnm hts hR hS hl
  have hl : lv_has ls 1 [(0, va_rf (some a0))] := hl
  unfold F_X4_init at hF
  refine x_aload_n (o := (some a0)) hx hb dX4_init_0 rfl (lv_at hl 0 rfl) ?_
  refine x_oinit (o := (some a0)) hx hb hown (hml.trans hl.1.symm) hts mm_119 mm_86 mm_87 rfl dX4_init_1 (by decide) (by decide) (by decide) ?_
  refine x_aload_n (o := (some a0)) hx hb dX4_init_4 rfl (lv_at hl 0 rfl) ?_
  refine lv_bipush (v := 10) hx hb dX4_init_5 (by decide) ?_
  replace hF := xbind hF; obtain ⟨⟨q1, h2⟩, eq1, hF⟩ := hF
  refine x_nAI hx hb hts mm_127 hR hS (by decide) (by decide) (by decide) (by decide) (by decide) eq1 dX4_init_7 (fun H hR hS => ?_)
  replace hF := xbind hF; obtain ⟨h3, eh3, hF⟩ := hF
  refine x_putF (o := (some a0)) (ci := 4) (C := RX4) (T := TX4) (N := 2) hx hb hts iw_X4 tyX4_ok nmX4 hown hR hS rfl 0 (by decide) mm_120 (Or.inl rfl) rfl hnm rfl xnarRA xfitRA eh3 dX4_init_9 (fun H locs hR hS => ?_)
  cases hF
  exact x_vret hx hb hr hlk hR hS (by decide) (by decide) dX4_init_12
def rm_X4_size : Room := { frames := 0, cells := 0, slots := 0, locals := 0 }
theorem f_X4_size : xM yX4_size cX4_size 1 (some .int) 0 := ⟨mm_541, mm_59, by decide +kernel, by decide +kernel⟩
theorem dX4_size_0 : decode cX4_size 0 = .ok (.aload_n 0, 1) := by decide +kernel
theorem dX4_size_1 : decode cX4_size 1 = .ok (.getfield 15, 3) := by decide +kernel
theorem dX4_size_4 : decode cX4_size 4 = .ok (.ireturn, 1) := by decide +kernel
def F_X4_size (G : Nat → Nat) (h : xH) (a0 : Nat) : Option Int32 :=
  (gI h (some a0) 4 1).bind fun v1 =>
  some v1
set_option maxHeartbeats 4000000 in
set_option maxRecDepth 100000 in
theorem t_X4_size (l : Launch) (D : va_G) (G : Nat → Nat) (h : xH) (a0 : Nat) (r : Int32) (hF : F_X4_size G h a0 = some r) : xC l yX4_size cX4_size 1 (some .int) (rm_X4_size) D G h [.ref a0] (some (.int r)) h := by
  refine xC_of (by decide) (by first | decide | exact Nat.le_of_ble_eq_true rfl) ?_
  intro p e s m args below meth c ls hx hb hr hlk hml hown hnm hts hR hS hl
  have hl : lv_has ls 1 [(0, va_rf (some a0))] := hl
  unfold F_X4_size at hF
  refine x_aload_n (o := (some a0)) hx hb dX4_size_0 rfl (lv_at hl 0 rfl) ?_
  replace hF := xbind hF; obtain ⟨v1, ev1, hF⟩ := hF
  refine x_getI (o := (some a0)) (ci := 4) (C := RX4) (T := TX4) (N := 2) hx hb hts iw_X4 hown hR rfl 1 (by decide) mm_121 (Or.inl rfl) ev1 dX4_size_1 ?_
  cases hF
  exact x_iret hx hb hr rfl hlk hR hS (by decide) (by decide) dX4_size_4
def rm_X4_clear : Room := { frames := 0, cells := 0, slots := 0, locals := 0 }
theorem f_X4_clear : xM yX4_clear cX4_clear 1 none 0 := ⟨mm_567, mm_59, by decide +kernel, by decide +kernel⟩
theorem dX4_clear_0 : decode cX4_clear 0 = .ok (.aload_n 0, 1) := by decide +kernel
theorem dX4_clear_1 : decode cX4_clear 1 = .ok (.iconst 0, 1) := by decide +kernel
theorem dX4_clear_2 : decode cX4_clear 2 = .ok (.putfield 15, 3) := by decide +kernel
theorem dX4_clear_5 : decode cX4_clear 5 = .ok (.return_, 1) := by decide +kernel
def F_X4_clear (G : Nat → Nat) (h : xH) (a0 : Nat) : Option xH :=
  (xp G h (some a0) 4 1 (.int 0)).bind fun h1 =>
  some h1
set_option maxHeartbeats 4000000 in
set_option maxRecDepth 100000 in
theorem t_X4_clear (l : Launch) (D : va_G) (G : Nat → Nat) (h : xH) (a0 : Nat) (h' : xH) (hF : F_X4_clear G h a0 = some h') : xC l yX4_clear cX4_clear 1 none (rm_X4_clear) D G h [.ref a0] none h' := by
  refine xC_of (by decide) (by first | decide | exact Nat.le_of_ble_eq_true rfl) ?_
  intro p e s m args below meth c ls hx hb hr hlk hml hown hnm hts hR hS hl
  have hl : lv_has ls 1 [(0, va_rf (some a0))] := hl
  unfold F_X4_clear at hF
  refine x_aload_n (o := (some a0)) hx hb dX4_clear_0 rfl (lv_at hl 0 rfl) ?_
  refine lv_iconst (v := 0) hx hb dX4_clear_1 (by decide) ?_
  replace hF := xbind hF; obtain ⟨h1, eh1, hF⟩ := hF
  refine x_put (o := (some a0)) (ci := 4) (C := RX4) (T := TX4) (N := 2) hx hb hts iw_X4 tyX4_ok nmX4 hown hR hS rfl 1 (by decide) mm_121 (Or.inl rfl) rfl rfl rfl eh1 dX4_clear_2 (fun H locs hR hS => ?_)
  cases hF
  exact x_vret hx hb hr hlk hR hS (by decide) (by decide) dX4_clear_5
def rm_X4_add : Room := { frames := 0, cells := 0, slots := 0, locals := 0 }
theorem f_X4_add : xM yX4_add cX4_add 2 (some .int) 1 := ⟨mm_533, mm_59, by decide +kernel, by decide +kernel⟩
theorem dX4_add_0 : decode cX4_add 0 = .ok (.aload_n 0, 1) := by decide +kernel
theorem dX4_add_1 : decode cX4_add 1 = .ok (.getfield 15, 3) := by decide +kernel
theorem dX4_add_4 : decode cX4_add 4 = .ok (.ifCond .lt 12, 3) := by decide +kernel
theorem dX4_add_7 : decode cX4_add 7 = .ok (.aload_n 0, 1) := by decide +kernel
theorem dX4_add_8 : decode cX4_add 8 = .ok (.getfield 15, 3) := by decide +kernel
theorem dX4_add_11 : decode cX4_add 11 = .ok (.bipush 10, 2) := by decide +kernel
theorem dX4_add_13 : decode cX4_add 13 = .ok (.if_icmp .lt 5, 3) := by decide +kernel
theorem dX4_add_16 : decode cX4_add 16 = .ok (.iconst (-1), 1) := by decide +kernel
theorem dX4_add_17 : decode cX4_add 17 = .ok (.ireturn, 1) := by decide +kernel
theorem dX4_add_18 : decode cX4_add 18 = .ok (.aload_n 0, 1) := by decide +kernel
theorem dX4_add_19 : decode cX4_add 19 = .ok (.getfield 9, 3) := by decide +kernel
theorem dX4_add_22 : decode cX4_add 22 = .ok (.aload_n 0, 1) := by decide +kernel
theorem dX4_add_23 : decode cX4_add 23 = .ok (.getfield 15, 3) := by decide +kernel
theorem dX4_add_26 : decode cX4_add 26 = .ok (.iload_n 1, 1) := by decide +kernel
theorem dX4_add_27 : decode cX4_add 27 = .ok (.iastore, 1) := by decide +kernel
theorem dX4_add_28 : decode cX4_add 28 = .ok (.aload_n 0, 1) := by decide +kernel
theorem dX4_add_29 : decode cX4_add 29 = .ok (.dup, 1) := by decide +kernel
theorem dX4_add_30 : decode cX4_add 30 = .ok (.getfield 15, 3) := by decide +kernel
theorem dX4_add_33 : decode cX4_add 33 = .ok (.iconst 1, 1) := by decide +kernel
theorem dX4_add_34 : decode cX4_add 34 = .ok (.iadd, 1) := by decide +kernel
theorem dX4_add_35 : decode cX4_add 35 = .ok (.putfield 15, 3) := by decide +kernel
theorem dX4_add_38 : decode cX4_add 38 = .ok (.aload_n 0, 1) := by decide +kernel
theorem dX4_add_39 : decode cX4_add 39 = .ok (.getfield 15, 3) := by decide +kernel
theorem dX4_add_42 : decode cX4_add 42 = .ok (.ireturn, 1) := by decide +kernel
def F_X4_add (G : Nat → Nat) (h : xH) (a0 : Nat) (x1 : Int32) : Option (Int32 × xH) :=
  (gI h (some a0) 4 1).bind fun v1 =>
  if v1 < 0 then
    some ((-1), h)
  else
  (gI h (some a0) 4 1).bind fun v3 =>
  if v3 < 10 then
    (gR h (some a0) 4 0).bind fun w5 =>
    (gI h (some a0) 4 1).bind fun v6 =>
    (stI 2 G h w5 v6 x1).bind fun h7 =>
    (gI h7 (some a0) 4 1).bind fun v8 =>
    (xp G h7 (some a0) 4 1 (.int (v8 + 1))).bind fun h9 =>
    (gI h9 (some a0) 4 1).bind fun v10 =>
    some (v10, h9)
  else
  some ((-1), h)
set_option maxHeartbeats 4000000 in
set_option maxRecDepth 100000 in
theorem t_X4_add (l : Launch) (D : va_G) (G : Nat → Nat) (h : xH) (a0 : Nat) (x1 : Int32) (r : Int32) (h' : xH) (hF : F_X4_add G h a0 x1 = some (r, h')) : xC l yX4_add cX4_add 2 (some .int) (rm_X4_add) D G h [.ref a0, .int x1] (some (.int r)) h' := by
  refine xC_of (by decide) (by first | decide | exact Nat.le_of_ble_eq_true rfl) ?_
  intro p e s m args below meth c ls hx hb hr hlk hml hown hnm hts hR hS hl
  have hl : lv_has ls 2 [(0, va_rf (some a0)), (1, .int x1)] := hl
  unfold F_X4_add at hF
  refine x_aload_n (o := (some a0)) hx hb dX4_add_0 rfl (lv_at hl 0 rfl) ?_
  replace hF := xbind hF; obtain ⟨v1, ev1, hF⟩ := hF
  refine x_getI (o := (some a0)) (ci := 4) (C := RX4) (T := TX4) (N := 2) hx hb hts iw_X4 hown hR rfl 1 (by decide) mm_121 (Or.inl rfl) ev1 dX4_add_1 ?_
  refine lv_if_lt (tgt := 16) hx hb dX4_add_4 (by decide) (fun c2 => ?_) (fun c2 => ?_)
  · replace hF := xift c2 hF
    refine lv_iconst (v := (-1)) hx hb dX4_add_16 (by decide) ?_
    cases hF
    exact x_iret hx hb hr rfl hlk hR hS (by decide) (by decide) dX4_add_17
  · replace hF := xiff c2 hF
    refine x_aload_n (o := (some a0)) hx hb dX4_add_7 rfl (lv_at hl 0 rfl) ?_
    replace hF := xbind hF; obtain ⟨v3, ev3, hF⟩ := hF
    refine x_getI (o := (some a0)) (ci := 4) (C := RX4) (T := TX4) (N := 2) hx hb hts iw_X4 hown hR rfl 1 (by decide) mm_121 (Or.inl rfl) ev3 dX4_add_8 ?_
    refine lv_bipush (v := 10) hx hb dX4_add_11 (by decide) ?_
    refine lv_icmp_lt (tgt := 18) hx hb dX4_add_13 (by decide) (fun c4 => ?_) (fun c4 => ?_)
    · replace hF := xift c4 hF
      refine x_aload_n (o := (some a0)) hx hb dX4_add_18 rfl (lv_at hl 0 rfl) ?_
      replace hF := xbind hF; obtain ⟨w5, ew5, hF⟩ := hF
      refine x_getR (o := (some a0)) (ci := 4) (C := RX4) (T := TX4) (N := 2) hx hb hts iw_X4 hown hR rfl 0 (by decide) mm_120 (Or.inl rfl) ew5 dX4_add_19 ?_
      refine x_aload_n (o := (some a0)) hx hb dX4_add_22 rfl (lv_at hl 0 rfl) ?_
      replace hF := xbind hF; obtain ⟨v6, ev6, hF⟩ := hF
      refine x_getI (o := (some a0)) (ci := 4) (C := RX4) (T := TX4) (N := 2) hx hb hts iw_X4 hown hR rfl 1 (by decide) mm_121 (Or.inl rfl) ev6 dX4_add_23 ?_
      refine lv_iload_n hx hb dX4_add_26 rfl (lv_at hl 1 rfl) ?_
      replace hF := xbind hF; obtain ⟨h7, eh7, hF⟩ := hF
      refine x_ist (o := w5) hx hb hR hS eh7 dX4_add_27 (fun H locs hR hS => ?_)
      refine x_aload_n (o := (some a0)) hx hb dX4_add_28 rfl (lv_at hl 0 rfl) ?_
      refine lv_dup hx hb dX4_add_29 xrf_cat ?_
      replace hF := xbind hF; obtain ⟨v8, ev8, hF⟩ := hF
      refine x_getI (o := (some a0)) (ci := 4) (C := RX4) (T := TX4) (N := 2) hx hb hts iw_X4 hown hR rfl 1 (by decide) mm_121 (Or.inl rfl) ev8 dX4_add_30 ?_
      refine lv_iconst (v := 1) hx hb dX4_add_33 (by decide) ?_
      refine lv_iadd hx hb dX4_add_34 ?_
      replace hF := xbind hF; obtain ⟨h9, eh9, hF⟩ := hF
      refine x_put (o := (some a0)) (ci := 4) (C := RX4) (T := TX4) (N := 2) hx hb hts iw_X4 tyX4_ok nmX4 hown hR hS rfl 1 (by decide) mm_121 (Or.inl rfl) rfl rfl rfl eh9 dX4_add_35 (fun H locs hR hS => ?_)
      refine x_aload_n (o := (some a0)) hx hb dX4_add_38 rfl (lv_at hl 0 rfl) ?_
      replace hF := xbind hF; obtain ⟨v10, ev10, hF⟩ := hF
      refine x_getI (o := (some a0)) (ci := 4) (C := RX4) (T := TX4) (N := 2) hx hb hts iw_X4 hown hR rfl 1 (by decide) mm_121 (Or.inl rfl) ev10 dX4_add_39 ?_
      cases hF
      exact x_iret hx hb hr rfl hlk hR hS (by decide) (by decide) dX4_add_42
    · replace hF := xiff c4 hF
      refine lv_iconst (v := (-1)) hx hb dX4_add_16 (by decide) ?_
      cases hF
      exact x_iret hx hb hr rfl hlk hR hS (by decide) (by decide) dX4_add_17
def rm_X4_fitInto : Room := { frames := 0, cells := 0, slots := 0, locals := 0 }
theorem f_X4_fitInto : xM yX4_fitInto cX4_fitInto 3 (some .boolean) 1 := ⟨mm_545, mm_59, by decide +kernel, by decide +kernel⟩
theorem dX4_fitInto_0 : decode cX4_fitInto 0 = .ok (.iconst 0, 1) := by decide +kernel
theorem dX4_fitInto_1 : decode cX4_fitInto 1 = .ok (.istore_n 2, 1) := by decide +kernel
theorem dX4_fitInto_2 : decode cX4_fitInto 2 = .ok (.iload_n 2, 1) := by decide +kernel
theorem dX4_fitInto_3 : decode cX4_fitInto 3 = .ok (.aload_n 0, 1) := by decide +kernel
theorem dX4_fitInto_4 : decode cX4_fitInto 4 = .ok (.getfield 15, 3) := by decide +kernel
theorem dX4_fitInto_7 : decode cX4_fitInto 7 = .ok (.if_icmp .ge 27, 3) := by decide +kernel
theorem dX4_fitInto_10 : decode cX4_fitInto 10 = .ok (.iload_n 2, 1) := by decide +kernel
theorem dX4_fitInto_11 : decode cX4_fitInto 11 = .ok (.bipush 10, 2) := by decide +kernel
theorem dX4_fitInto_13 : decode cX4_fitInto 13 = .ok (.if_icmp .ge 21, 3) := by decide +kernel
theorem dX4_fitInto_16 : decode cX4_fitInto 16 = .ok (.aload_n 0, 1) := by decide +kernel
theorem dX4_fitInto_17 : decode cX4_fitInto 17 = .ok (.getfield 9, 3) := by decide +kernel
theorem dX4_fitInto_20 : decode cX4_fitInto 20 = .ok (.iload_n 2, 1) := by decide +kernel
theorem dX4_fitInto_21 : decode cX4_fitInto 21 = .ok (.iaload, 1) := by decide +kernel
theorem dX4_fitInto_22 : decode cX4_fitInto 22 = .ok (.iload_n 1, 1) := by decide +kernel
theorem dX4_fitInto_23 : decode cX4_fitInto 23 = .ok (.if_icmp .le 5, 3) := by decide +kernel
theorem dX4_fitInto_26 : decode cX4_fitInto 26 = .ok (.iconst 0, 1) := by decide +kernel
theorem dX4_fitInto_27 : decode cX4_fitInto 27 = .ok (.ireturn, 1) := by decide +kernel
theorem dX4_fitInto_28 : decode cX4_fitInto 28 = .ok (.iinc 2 1, 3) := by decide +kernel
theorem dX4_fitInto_31 : decode cX4_fitInto 31 = .ok (.goto (-29), 3) := by decide +kernel
theorem dX4_fitInto_34 : decode cX4_fitInto 34 = .ok (.iconst 1, 1) := by decide +kernel
theorem dX4_fitInto_35 : decode cX4_fitInto 35 = .ok (.ireturn, 1) := by decide +kernel
def F_X4_fitInto_2 (G : Nat → Nat) (h : xH) (a0 : Nat) (x1 : Int32) : Nat → Int32 → Option Int32
  | 0, _ => none
  | n + 1, x2 =>
    (gI h (some a0) 4 1).bind fun v1 =>
    if v1 ≤ x2 then
      some 1
    else
    if 10 ≤ x2 then
      some 1
    else
    (gR h (some a0) 4 0).bind fun w4 =>
    (ldI 2 G h w4 x2).bind fun v5 =>
    if v5 ≤ x1 then
      xl (x2 + 1) fun v7 =>
      F_X4_fitInto_2 G h a0 x1 n v7
    else
    some 0
set_option maxHeartbeats 4000000 in
set_option maxRecDepth 100000 in
theorem tl_X4_fitInto_2 {p : Program} {l : Launch} {e : Env} {s : State} {m : MethodId} {args : Array Value} {below : List Frame} {meth : Method} {c : Code} {D : va_G} {r : Int32} (hx : p.tables.exec = Jvm.exec) (hb : c.code = cX4_fitInto) (hr : meth.sig.returnType = (some .boolean)) (hlk : meth.locks = false) (hml : c.maxLocals = 3) (hown : s.vm.findClass RX4 = some m.cls) (hnm : meth.name = "fitInto") (hts : ∀ w ∈ xt, w.before args s = true) (G : Nat → Nat) (h : xH) (a0 : Nat) (x1 : Int32) : ∀ (n : Nat) (x2 : Int32) (H : Heap) (locs : List Loc) (ls : Array Slot), F_X4_fitInto_2 G h a0 x1 n x2 = some r → xR D G h s H → va_S (xA G) s.heap H locs → lv_has ls 3 [(0, va_rf (some a0)), (1, .int x1), (2, .int x2)] → W p l e rm_X4_fitInto s m args below meth c H locs 0 0 (MQ below (xQ D G (some (.int r)) h) args s rm_X4_fitInto.cells rm_X4_fitInto.slots (xA G)) (F0 m 2 ls []) := by
  intro n
  induction n with
  | zero =>
    intro x2 H locs ls hF
    rw [F_X4_fitInto_2.eq_1] at hF
    cases hF
  | succ n ih =>
    intro x2 H locs ls hF hR hS hl
    rw [F_X4_fitInto_2.eq_2] at hF
    refine lv_iload_n hx hb dX4_fitInto_2 rfl (lv_at hl 2 rfl) ?_
    refine x_aload_n (o := (some a0)) hx hb dX4_fitInto_3 rfl (lv_at hl 0 rfl) ?_
    replace hF := xbind hF; obtain ⟨v1, ev1, hF⟩ := hF
    refine x_getI (o := (some a0)) (ci := 4) (C := RX4) (T := TX4) (N := 2) hx hb hts iw_X4 hown hR rfl 1 (by decide) mm_121 (Or.inl rfl) ev1 dX4_fitInto_4 ?_
    refine lv_icmp_ge (tgt := 34) hx hb dX4_fitInto_7 (by decide) (fun c2 => ?_) (fun c2 => ?_)
    · replace hF := xift c2 hF
      refine lv_iconst (v := 1) hx hb dX4_fitInto_34 (by decide) ?_
      cases hF
      exact x_iret hx hb hr rfl hlk hR hS (by decide) (by decide) dX4_fitInto_35
    · replace hF := xiff c2 hF
      refine lv_iload_n hx hb dX4_fitInto_10 rfl (lv_at hl 2 rfl) ?_
      refine lv_bipush (v := 10) hx hb dX4_fitInto_11 (by decide) ?_
      refine lv_icmp_ge (tgt := 34) hx hb dX4_fitInto_13 (by decide) (fun c3 => ?_) (fun c3 => ?_)
      · replace hF := xift c3 hF
        refine lv_iconst (v := 1) hx hb dX4_fitInto_34 (by decide) ?_
        cases hF
        exact x_iret hx hb hr rfl hlk hR hS (by decide) (by decide) dX4_fitInto_35
      · replace hF := xiff c3 hF
        refine x_aload_n (o := (some a0)) hx hb dX4_fitInto_16 rfl (lv_at hl 0 rfl) ?_
        replace hF := xbind hF; obtain ⟨w4, ew4, hF⟩ := hF
        refine x_getR (o := (some a0)) (ci := 4) (C := RX4) (T := TX4) (N := 2) hx hb hts iw_X4 hown hR rfl 0 (by decide) mm_120 (Or.inl rfl) ew4 dX4_fitInto_17 ?_
        refine lv_iload_n hx hb dX4_fitInto_20 rfl (lv_at hl 2 rfl) ?_
        replace hF := xbind hF; obtain ⟨v5, ev5, hF⟩ := hF
        refine x_ild (o := w4) hx hb hR ev5 dX4_fitInto_21 ?_
        refine lv_iload_n hx hb dX4_fitInto_22 rfl (lv_at hl 1 rfl) ?_
        refine lv_icmp_le (tgt := 28) hx hb dX4_fitInto_23 (by decide) (fun c6 => ?_) (fun c6 => ?_)
        · replace hF := xift c6 hF
          obtain ⟨v7, ev7⟩ : ∃ z : Int32, z = (x2 + 1) := ⟨_, rfl⟩
          replace hF := xlet ev7 hF
          refine lv_iinc (v := v7) (lv' := [(2, .int v7), (0, va_rf (some a0)), (1, .int x1)]) hx hb dX4_fitInto_28 hl (k := 2) rfl (by rw [ev7]; rfl) (by decide) (by first | rfl | (simp [xrf_cat, xcI, xcJ, xcA]; done) | (simp [xrf_cat, xcI, xcJ, xcA]; decide)) (fun ls hl => ?_)
          refine lv_goto (tgt := 2) hx hb dX4_fitInto_31 (by decide) ?_
          exact ih v7 _ _ _ hF hR hS (lv_sub hl [1, 2, 0] rfl)
        · replace hF := xiff c6 hF
          refine lv_iconst (v := 0) hx hb dX4_fitInto_26 (by decide) ?_
          cases hF
          exact x_iret hx hb hr rfl hlk hR hS (by decide) (by decide) dX4_fitInto_27
def F_X4_fitInto (G : Nat → Nat) (h : xH) (a0 : Nat) (x1 : Int32) : Option Int32 :=
  F_X4_fitInto_2 G h a0 x1 xN 0
set_option maxHeartbeats 4000000 in
set_option maxRecDepth 100000 in
theorem t_X4_fitInto (l : Launch) (D : va_G) (G : Nat → Nat) (h : xH) (a0 : Nat) (x1 : Int32) (r : Int32) (hF : F_X4_fitInto G h a0 x1 = some r) : xC l yX4_fitInto cX4_fitInto 3 (some .boolean) (rm_X4_fitInto) D G h [.ref a0, .int x1] (some (.int r)) h := by
  refine xC_of (by decide) (by first | decide | exact Nat.le_of_ble_eq_true rfl) ?_
  intro p e s m args below meth c ls hx hb hr hlk hml hown hnm hts hR hS hl
  have hl : lv_has ls 3 [(0, va_rf (some a0)), (1, .int x1)] := hl
  unfold F_X4_fitInto at hF
  refine lv_iconst (v := 0) hx hb dX4_fitInto_0 (by decide) ?_
  refine lv_istore_n (lv' := [(2, .int 0), (0, va_rf (some a0)), (1, .int x1)]) hx hb dX4_fitInto_1 rfl hl (by decide) (by first | rfl | (simp [xrf_cat, xcI, xcJ, xcA]; done) | (simp [xrf_cat, xcI, xcJ, xcA]; decide)) (fun ls hl => ?_)
  refine W.widen (k := 0) (n := 0) (by decide) (by decide) ?_
  exact tl_X4_fitInto_2 hx hb hr hlk hml hown hnm hts G h a0 x1 _ 0 _ _ _ hF hR hS (lv_sub hl [1, 2, 0] rfl)
def rm_X4_canMeet : Room := { frames := 1, cells := 0, slots := 0, locals := 23 }
theorem f_X4_canMeet : xM yX4_canMeet cX4_canMeet 7 (some .boolean) 4 := ⟨mm_558, mm_59, by decide +kernel, by decide +kernel⟩
theorem dX4_canMeet_0 : decode cX4_canMeet 0 = .ok (.iconst 0, 1) := by decide +kernel
theorem dX4_canMeet_1 : decode cX4_canMeet 1 = .ok (.istore 5, 2) := by decide +kernel
theorem dX4_canMeet_3 : decode cX4_canMeet 3 = .ok (.iconst 0, 1) := by decide +kernel
theorem dX4_canMeet_4 : decode cX4_canMeet 4 = .ok (.istore 6, 2) := by decide +kernel
theorem dX4_canMeet_6 : decode cX4_canMeet 6 = .ok (.iload 6, 2) := by decide +kernel
theorem dX4_canMeet_8 : decode cX4_canMeet 8 = .ok (.aload_n 0, 1) := by decide +kernel
theorem dX4_canMeet_9 : decode cX4_canMeet 9 = .ok (.getfield 15, 3) := by decide +kernel
theorem dX4_canMeet_12 : decode cX4_canMeet 12 = .ok (.if_icmp .ge 49, 3) := by decide +kernel
theorem dX4_canMeet_15 : decode cX4_canMeet 15 = .ok (.iload 6, 2) := by decide +kernel
theorem dX4_canMeet_17 : decode cX4_canMeet 17 = .ok (.bipush 10, 2) := by decide +kernel
theorem dX4_canMeet_19 : decode cX4_canMeet 19 = .ok (.if_icmp .ge 42, 3) := by decide +kernel
theorem dX4_canMeet_22 : decode cX4_canMeet 22 = .ok (.iload 5, 2) := by decide +kernel
theorem dX4_canMeet_24 : decode cX4_canMeet 24 = .ok (.iload 4, 2) := by decide +kernel
theorem dX4_canMeet_26 : decode cX4_canMeet 26 = .ok (.ifCond .eq 15, 3) := by decide +kernel
theorem dX4_canMeet_29 : decode cX4_canMeet 29 = .ok (.iload_n 1, 1) := by decide +kernel
theorem dX4_canMeet_30 : decode cX4_canMeet 30 = .ok (.aload_n 0, 1) := by decide +kernel
theorem dX4_canMeet_31 : decode cX4_canMeet 31 = .ok (.getfield 9, 3) := by decide +kernel
theorem dX4_canMeet_34 : decode cX4_canMeet 34 = .ok (.iload 6, 2) := by decide +kernel
theorem dX4_canMeet_36 : decode cX4_canMeet 36 = .ok (.iaload, 1) := by decide +kernel
theorem dX4_canMeet_37 : decode cX4_canMeet 37 = .ok (.isub, 1) := by decide +kernel
theorem dX4_canMeet_38 : decode cX4_canMeet 38 = .ok (.goto 10, 3) := by decide +kernel
theorem dX4_canMeet_41 : decode cX4_canMeet 41 = .ok (.aload_n 0, 1) := by decide +kernel
theorem dX4_canMeet_42 : decode cX4_canMeet 42 = .ok (.getfield 9, 3) := by decide +kernel
theorem dX4_canMeet_45 : decode cX4_canMeet 45 = .ok (.iload 6, 2) := by decide +kernel
theorem dX4_canMeet_47 : decode cX4_canMeet 47 = .ok (.iaload, 1) := by decide +kernel
theorem dX4_canMeet_48 : decode cX4_canMeet 48 = .ok (.iload_n 2, 1) := by decide +kernel
theorem dX4_canMeet_49 : decode cX4_canMeet 49 = .ok (.invokestatic 28, 3) := by decide +kernel
theorem dX4_canMeet_52 : decode cX4_canMeet 52 = .ok (.iadd, 1) := by decide +kernel
theorem dX4_canMeet_53 : decode cX4_canMeet 53 = .ok (.istore 5, 2) := by decide +kernel
theorem dX4_canMeet_55 : decode cX4_canMeet 55 = .ok (.iinc 6 1, 3) := by decide +kernel
theorem dX4_canMeet_58 : decode cX4_canMeet 58 = .ok (.goto (-52), 3) := by decide +kernel
theorem dX4_canMeet_61 : decode cX4_canMeet 61 = .ok (.iload 5, 2) := by decide +kernel
theorem dX4_canMeet_63 : decode cX4_canMeet 63 = .ok (.iload_n 3, 1) := by decide +kernel
theorem dX4_canMeet_64 : decode cX4_canMeet 64 = .ok (.iload_n 2, 1) := by decide +kernel
theorem dX4_canMeet_65 : decode cX4_canMeet 65 = .ok (.imul, 1) := by decide +kernel
theorem dX4_canMeet_66 : decode cX4_canMeet 66 = .ok (.if_icmp .lt 7, 3) := by decide +kernel
theorem dX4_canMeet_69 : decode cX4_canMeet 69 = .ok (.iconst 1, 1) := by decide +kernel
theorem dX4_canMeet_70 : decode cX4_canMeet 70 = .ok (.goto 4, 3) := by decide +kernel
theorem dX4_canMeet_73 : decode cX4_canMeet 73 = .ok (.iconst 0, 1) := by decide +kernel
theorem dX4_canMeet_74 : decode cX4_canMeet 74 = .ok (.ireturn, 1) := by decide +kernel
def F_X4_canMeet_6 (G : Nat → Nat) (h : xH) (a0 : Nat) (x1 : Int32) (x2 : Int32) (x3 : Int32) (x4 : Int32) : Nat → Int32 → Int32 → Option Int32
  | 0, _, _ => none
  | n + 1, x5, x6 =>
    (gI h (some a0) 4 1).bind fun v1 =>
    if v1 ≤ x6 then
      if x5 < (x3 * x2) then
        some 0
      else
      some 1
    else
    if 10 ≤ x6 then
      if x5 < (x3 * x2) then
        some 0
      else
      some 1
    else
    if x4 = 0 then
      (gR h (some a0) 4 0).bind fun w7 =>
      (ldI 2 G h w7 x6).bind fun v8 =>
      xl (x5 + (xmin v8 x2)) fun v9 =>
      xl (x6 + 1) fun v10 =>
      F_X4_canMeet_6 G h a0 x1 x2 x3 x4 n v9 v10
    else
    (gR h (some a0) 4 0).bind fun w11 =>
    (ldI 2 G h w11 x6).bind fun v12 =>
    xl (x5 + (xmin (x1 - v12) x2)) fun v13 =>
    xl (x6 + 1) fun v14 =>
    F_X4_canMeet_6 G h a0 x1 x2 x3 x4 n v13 v14
set_option maxHeartbeats 4000000 in
set_option maxRecDepth 100000 in
theorem tl_X4_canMeet_6 {p : Program} {l : Launch} {e : Env} {s : State} {m : MethodId} {args : Array Value} {below : List Frame} {meth : Method} {c : Code} {D : va_G} {r : Int32} (hx : p.tables.exec = Jvm.exec) (hb : c.code = cX4_canMeet) (hr : meth.sig.returnType = (some .boolean)) (hlk : meth.locks = false) (hml : c.maxLocals = 7) (hown : s.vm.findClass RX4 = some m.cls) (hnm : meth.name = "canMeet") (hts : ∀ w ∈ xt, w.before args s = true) (G : Nat → Nat) (h : xH) (a0 : Nat) (x1 : Int32) (x2 : Int32) (x3 : Int32) (x4 : Int32) : ∀ (n : Nat) (x5 : Int32) (x6 : Int32) (H : Heap) (locs : List Loc) (ls : Array Slot), F_X4_canMeet_6 G h a0 x1 x2 x3 x4 n x5 x6 = some r → xR D G h s H → va_S (xA G) s.heap H locs → lv_has ls 7 [(0, va_rf (some a0)), (1, .int x1), (2, .int x2), (3, .int x3), (4, .int x4), (5, .int x5), (6, .int x6)] → W p l e rm_X4_canMeet s m args below meth c H locs 0 0 (MQ below (xQ D G (some (.int r)) h) args s rm_X4_canMeet.cells rm_X4_canMeet.slots (xA G)) (F0 m 6 ls []) := by
  intro n
  induction n with
  | zero =>
    intro x5 x6 H locs ls hF
    rw [F_X4_canMeet_6.eq_1] at hF
    cases hF
  | succ n ih =>
    intro x5 x6 H locs ls hF hR hS hl
    rw [F_X4_canMeet_6.eq_2] at hF
    refine lv_iload hx hb dX4_canMeet_6 (lv_at hl 6 rfl) ?_
    refine x_aload_n (o := (some a0)) hx hb dX4_canMeet_8 rfl (lv_at hl 0 rfl) ?_
    replace hF := xbind hF; obtain ⟨v1, ev1, hF⟩ := hF
    refine x_getI (o := (some a0)) (ci := 4) (C := RX4) (T := TX4) (N := 2) hx hb hts iw_X4 hown hR rfl 1 (by decide) mm_121 (Or.inl rfl) ev1 dX4_canMeet_9 ?_
    refine lv_icmp_ge (tgt := 61) hx hb dX4_canMeet_12 (by decide) (fun c2 => ?_) (fun c2 => ?_)
    · replace hF := xift c2 hF
      refine lv_iload hx hb dX4_canMeet_61 (lv_at hl 5 rfl) ?_
      refine lv_iload_n hx hb dX4_canMeet_63 rfl (lv_at hl 3 rfl) ?_
      refine lv_iload_n hx hb dX4_canMeet_64 rfl (lv_at hl 2 rfl) ?_
      refine lv_imul hx hb dX4_canMeet_65 ?_
      refine lv_icmp_lt (tgt := 73) hx hb dX4_canMeet_66 (by decide) (fun c3 => ?_) (fun c3 => ?_)
      · replace hF := xift c3 hF
        refine lv_iconst (v := 0) hx hb dX4_canMeet_73 (by decide) ?_
        cases hF
        exact x_iret hx hb hr rfl hlk hR hS (by decide) (by decide) dX4_canMeet_74
      · replace hF := xiff c3 hF
        refine lv_iconst (v := 1) hx hb dX4_canMeet_69 (by decide) ?_
        refine lv_goto (tgt := 74) hx hb dX4_canMeet_70 (by decide) ?_
        cases hF
        exact x_iret hx hb hr rfl hlk hR hS (by decide) (by decide) dX4_canMeet_74
    · replace hF := xiff c2 hF
      refine lv_iload hx hb dX4_canMeet_15 (lv_at hl 6 rfl) ?_
      refine lv_bipush (v := 10) hx hb dX4_canMeet_17 (by decide) ?_
      refine lv_icmp_ge (tgt := 61) hx hb dX4_canMeet_19 (by decide) (fun c4 => ?_) (fun c4 => ?_)
      · replace hF := xift c4 hF
        refine lv_iload hx hb dX4_canMeet_61 (lv_at hl 5 rfl) ?_
        refine lv_iload_n hx hb dX4_canMeet_63 rfl (lv_at hl 3 rfl) ?_
        refine lv_iload_n hx hb dX4_canMeet_64 rfl (lv_at hl 2 rfl) ?_
        refine lv_imul hx hb dX4_canMeet_65 ?_
        refine lv_icmp_lt (tgt := 73) hx hb dX4_canMeet_66 (by decide) (fun c5 => ?_) (fun c5 => ?_)
        · replace hF := xift c5 hF
          refine lv_iconst (v := 0) hx hb dX4_canMeet_73 (by decide) ?_
          cases hF
          exact x_iret hx hb hr rfl hlk hR hS (by decide) (by decide) dX4_canMeet_74
        · replace hF := xiff c5 hF
          refine lv_iconst (v := 1) hx hb dX4_canMeet_69 (by decide) ?_
          refine lv_goto (tgt := 74) hx hb dX4_canMeet_70 (by decide) ?_
          cases hF
          exact x_iret hx hb hr rfl hlk hR hS (by decide) (by decide) dX4_canMeet_74
      · replace hF := xiff c4 hF
        refine lv_iload hx hb dX4_canMeet_22 (lv_at hl 5 rfl) ?_
        refine lv_iload hx hb dX4_canMeet_24 (lv_at hl 4 rfl) ?_
        refine lv_if_eq (tgt := 41) hx hb dX4_canMeet_26 (by decide) (fun c6 => ?_) (fun c6 => ?_)
        · replace hF := xift c6 hF
          refine x_aload_n (o := (some a0)) hx hb dX4_canMeet_41 rfl (lv_at hl 0 rfl) ?_
          replace hF := xbind hF; obtain ⟨w7, ew7, hF⟩ := hF
          refine x_getR (o := (some a0)) (ci := 4) (C := RX4) (T := TX4) (N := 2) hx hb hts iw_X4 hown hR rfl 0 (by decide) mm_120 (Or.inl rfl) ew7 dX4_canMeet_42 ?_
          refine lv_iload hx hb dX4_canMeet_45 (lv_at hl 6 rfl) ?_
          replace hF := xbind hF; obtain ⟨v8, ev8, hF⟩ := hF
          refine x_ild (o := w7) hx hb hR ev8 dX4_canMeet_47 ?_
          refine lv_iload_n hx hb dX4_canMeet_48 rfl (lv_at hl 2 rfl) ?_
          refine x_min hx hb (hml.trans hl.1.symm) hown hts mm_559 mm_313 mm_65 mm_314 (by decide) (by first | exact Nat.le_of_ble_eq_true rfl | simp [xrf_cat, xcI, xcJ, xcA]) (by decide) (by decide) dX4_canMeet_49 ?_
          refine lv_iadd hx hb dX4_canMeet_52 ?_
          refine lv_topi (fun v9 ev9 => ?_)
          replace hF := xlet ev9 hF
          refine lv_istore (lv' := [(5, .int v9), (0, va_rf (some a0)), (1, .int x1), (2, .int x2), (3, .int x3), (4, .int x4), (6, .int x6)]) hx hb dX4_canMeet_53 hl (by decide) (by first | rfl | (simp [xrf_cat, xcI, xcJ, xcA]; done) | (simp [xrf_cat, xcI, xcJ, xcA]; decide)) (fun ls hl => ?_)
          obtain ⟨v10, ev10⟩ : ∃ z : Int32, z = (x6 + 1) := ⟨_, rfl⟩
          replace hF := xlet ev10 hF
          refine lv_iinc (v := v10) (lv' := [(6, .int v10), (5, .int v9), (0, va_rf (some a0)), (1, .int x1), (2, .int x2), (3, .int x3), (4, .int x4)]) hx hb dX4_canMeet_55 hl (k := 6) rfl (by rw [ev10]; rfl) (by decide) (by first | rfl | (simp [xrf_cat, xcI, xcJ, xcA]; done) | (simp [xrf_cat, xcI, xcJ, xcA]; decide)) (fun ls hl => ?_)
          refine lv_goto (tgt := 6) hx hb dX4_canMeet_58 (by decide) ?_
          exact ih v9 v10 _ _ _ hF hR hS (lv_sub hl [2, 3, 4, 5, 6, 1, 0] rfl)
        · replace hF := xiff c6 hF
          refine lv_iload_n hx hb dX4_canMeet_29 rfl (lv_at hl 1 rfl) ?_
          refine x_aload_n (o := (some a0)) hx hb dX4_canMeet_30 rfl (lv_at hl 0 rfl) ?_
          replace hF := xbind hF; obtain ⟨w11, ew11, hF⟩ := hF
          refine x_getR (o := (some a0)) (ci := 4) (C := RX4) (T := TX4) (N := 2) hx hb hts iw_X4 hown hR rfl 0 (by decide) mm_120 (Or.inl rfl) ew11 dX4_canMeet_31 ?_
          refine lv_iload hx hb dX4_canMeet_34 (lv_at hl 6 rfl) ?_
          replace hF := xbind hF; obtain ⟨v12, ev12, hF⟩ := hF
          refine x_ild (o := w11) hx hb hR ev12 dX4_canMeet_36 ?_
          refine lv_isub hx hb dX4_canMeet_37 ?_
          refine lv_goto (tgt := 48) hx hb dX4_canMeet_38 (by decide) ?_
          refine lv_iload_n hx hb dX4_canMeet_48 rfl (lv_at hl 2 rfl) ?_
          refine x_min hx hb (hml.trans hl.1.symm) hown hts mm_559 mm_313 mm_65 mm_314 (by decide) (by first | exact Nat.le_of_ble_eq_true rfl | simp [xrf_cat, xcI, xcJ, xcA]) (by decide) (by decide) dX4_canMeet_49 ?_
          refine lv_iadd hx hb dX4_canMeet_52 ?_
          refine lv_topi (fun v13 ev13 => ?_)
          replace hF := xlet ev13 hF
          refine lv_istore (lv' := [(5, .int v13), (0, va_rf (some a0)), (1, .int x1), (2, .int x2), (3, .int x3), (4, .int x4), (6, .int x6)]) hx hb dX4_canMeet_53 hl (by decide) (by first | rfl | (simp [xrf_cat, xcI, xcJ, xcA]; done) | (simp [xrf_cat, xcI, xcJ, xcA]; decide)) (fun ls hl => ?_)
          obtain ⟨v14, ev14⟩ : ∃ z : Int32, z = (x6 + 1) := ⟨_, rfl⟩
          replace hF := xlet ev14 hF
          refine lv_iinc (v := v14) (lv' := [(6, .int v14), (5, .int v13), (0, va_rf (some a0)), (1, .int x1), (2, .int x2), (3, .int x3), (4, .int x4)]) hx hb dX4_canMeet_55 hl (k := 6) rfl (by rw [ev14]; rfl) (by decide) (by first | rfl | (simp [xrf_cat, xcI, xcJ, xcA]; done) | (simp [xrf_cat, xcI, xcJ, xcA]; decide)) (fun ls hl => ?_)
          refine lv_goto (tgt := 6) hx hb dX4_canMeet_58 (by decide) ?_
          exact ih v13 v14 _ _ _ hF hR hS (lv_sub hl [2, 3, 4, 5, 6, 1, 0] rfl)
def F_X4_canMeet (G : Nat → Nat) (h : xH) (a0 : Nat) (x1 : Int32) (x2 : Int32) (x3 : Int32) (x4 : Int32) : Option Int32 :=
  F_X4_canMeet_6 G h a0 x1 x2 x3 x4 xN 0 0
set_option maxHeartbeats 4000000 in
set_option maxRecDepth 100000 in
theorem t_X4_canMeet (l : Launch) (D : va_G) (G : Nat → Nat) (h : xH) (a0 : Nat) (x1 : Int32) (x2 : Int32) (x3 : Int32) (x4 : Int32) (r : Int32) (hF : F_X4_canMeet G h a0 x1 x2 x3 x4 = some r) : xC l yX4_canMeet cX4_canMeet 7 (some .boolean) (rm_X4_canMeet) D G h [.ref a0, .int x1, .int x2, .int x3, .int x4] (some (.int r)) h := by
  refine xC_of (by decide) (by first | decide | exact Nat.le_of_ble_eq_true rfl) ?_
  intro p e s m args below meth c ls hx hb hr hlk hml hown hnm hts hR hS hl
  have hl : lv_has ls 7 [(0, va_rf (some a0)), (1, .int x1), (2, .int x2), (3, .int x3), (4, .int x4)] := hl
  unfold F_X4_canMeet at hF
  refine lv_iconst (v := 0) hx hb dX4_canMeet_0 (by decide) ?_
  refine lv_istore (lv' := [(5, .int 0), (0, va_rf (some a0)), (1, .int x1), (2, .int x2), (3, .int x3), (4, .int x4)]) hx hb dX4_canMeet_1 hl (by decide) (by first | rfl | (simp [xrf_cat, xcI, xcJ, xcA]; done) | (simp [xrf_cat, xcI, xcJ, xcA]; decide)) (fun ls hl => ?_)
  refine lv_iconst (v := 0) hx hb dX4_canMeet_3 (by decide) ?_
  refine lv_istore (lv' := [(6, .int 0), (5, .int 0), (0, va_rf (some a0)), (1, .int x1), (2, .int x2), (3, .int x3), (4, .int x4)]) hx hb dX4_canMeet_4 hl (by decide) (by first | rfl | (simp [xrf_cat, xcI, xcJ, xcA]; done) | (simp [xrf_cat, xcI, xcJ, xcA]; decide)) (fun ls hl => ?_)
  refine W.widen (k := 0) (n := 0) (by decide) (by decide) ?_
  exact tl_X4_canMeet_6 hx hb hr hlk hml hown hnm hts G h a0 x1 x2 x3 x4 _ 0 0 _ _ _ hF hR hS (lv_sub hl [2, 3, 4, 5, 6, 1, 0] rfl)
def rm_X4_mostMeeting : Room := { frames := 2, cells := 0, slots := 0, locals := 49 }
theorem f_X4_mostMeeting : xM yX4_mostMeeting cX4_mostMeeting 6 (some .int) 3 := ⟨mm_553, mm_59, by decide +kernel, by decide +kernel⟩
theorem dX4_mostMeeting_0 : decode cX4_mostMeeting 0 = .ok (.iconst 0, 1) := by decide +kernel
theorem dX4_mostMeeting_1 : decode cX4_mostMeeting 1 = .ok (.istore 4, 2) := by decide +kernel
theorem dX4_mostMeeting_3 : decode cX4_mostMeeting 3 = .ok (.ldc 23, 2) := by decide +kernel
theorem dX4_mostMeeting_5 : decode cX4_mostMeeting 5 = .ok (.istore 5, 2) := by decide +kernel
theorem dX4_mostMeeting_7 : decode cX4_mostMeeting 7 = .ok (.iload 5, 2) := by decide +kernel
theorem dX4_mostMeeting_9 : decode cX4_mostMeeting 9 = .ok (.ifCond .le 43, 3) := by decide +kernel
theorem dX4_mostMeeting_12 : decode cX4_mostMeeting 12 = .ok (.iload 4, 2) := by decide +kernel
theorem dX4_mostMeeting_14 : decode cX4_mostMeeting 14 = .ok (.iload 5, 2) := by decide +kernel
theorem dX4_mostMeeting_16 : decode cX4_mostMeeting 16 = .ok (.iadd, 1) := by decide +kernel
theorem dX4_mostMeeting_17 : decode cX4_mostMeeting 17 = .ok (.iload_n 1, 1) := by decide +kernel
theorem dX4_mostMeeting_18 : decode cX4_mostMeeting 18 = .ok (.if_icmp .gt 25, 3) := by decide +kernel
theorem dX4_mostMeeting_21 : decode cX4_mostMeeting 21 = .ok (.aload_n 0, 1) := by decide +kernel
theorem dX4_mostMeeting_22 : decode cX4_mostMeeting 22 = .ok (.iload_n 1, 1) := by decide +kernel
theorem dX4_mostMeeting_23 : decode cX4_mostMeeting 23 = .ok (.iload 4, 2) := by decide +kernel
theorem dX4_mostMeeting_25 : decode cX4_mostMeeting 25 = .ok (.iload 5, 2) := by decide +kernel
theorem dX4_mostMeeting_27 : decode cX4_mostMeeting 27 = .ok (.iadd, 1) := by decide +kernel
theorem dX4_mostMeeting_28 : decode cX4_mostMeeting 28 = .ok (.iload_n 2, 1) := by decide +kernel
theorem dX4_mostMeeting_29 : decode cX4_mostMeeting 29 = .ok (.iload_n 3, 1) := by decide +kernel
theorem dX4_mostMeeting_30 : decode cX4_mostMeeting 30 = .ok (.invokevirtual 24, 3) := by decide +kernel
theorem dX4_mostMeeting_33 : decode cX4_mostMeeting 33 = .ok (.ifCond .eq 10, 3) := by decide +kernel
theorem dX4_mostMeeting_36 : decode cX4_mostMeeting 36 = .ok (.iload 4, 2) := by decide +kernel
theorem dX4_mostMeeting_38 : decode cX4_mostMeeting 38 = .ok (.iload 5, 2) := by decide +kernel
theorem dX4_mostMeeting_40 : decode cX4_mostMeeting 40 = .ok (.iadd, 1) := by decide +kernel
theorem dX4_mostMeeting_41 : decode cX4_mostMeeting 41 = .ok (.istore 4, 2) := by decide +kernel
theorem dX4_mostMeeting_43 : decode cX4_mostMeeting 43 = .ok (.iload 5, 2) := by decide +kernel
theorem dX4_mostMeeting_45 : decode cX4_mostMeeting 45 = .ok (.iconst 1, 1) := by decide +kernel
theorem dX4_mostMeeting_46 : decode cX4_mostMeeting 46 = .ok (.ishr, 1) := by decide +kernel
theorem dX4_mostMeeting_47 : decode cX4_mostMeeting 47 = .ok (.istore 5, 2) := by decide +kernel
theorem dX4_mostMeeting_49 : decode cX4_mostMeeting 49 = .ok (.goto (-42), 3) := by decide +kernel
theorem dX4_mostMeeting_52 : decode cX4_mostMeeting 52 = .ok (.iload 4, 2) := by decide +kernel
theorem dX4_mostMeeting_54 : decode cX4_mostMeeting 54 = .ok (.ireturn, 1) := by decide +kernel
def F_X4_mostMeeting_7 (G : Nat → Nat) (h : xH) (a0 : Nat) (x1 : Int32) (x2 : Int32) (x3 : Int32) : Nat → Int32 → Int32 → Option Int32
  | 0, _, _ => none
  | n + 1, x4, x5 =>
    if x5 ≤ 0 then
      some x4
    else
    if x1 < (x4 + x5) then
      xl (x5 >>> (1 &&& 31)) fun v3 =>
      F_X4_mostMeeting_7 G h a0 x1 x2 x3 n x4 v3
    else
    (xc h (some a0) 4).bind fun b5 =>
    (F_X4_canMeet G h b5 x1 (x4 + x5) x2 x3).bind fun v4 =>
    if v4 = 0 then
      xl (x5 >>> (1 &&& 31)) fun v7 =>
      F_X4_mostMeeting_7 G h a0 x1 x2 x3 n x4 v7
    else
    xl (x4 + x5) fun v8 =>
    xl (x5 >>> (1 &&& 31)) fun v9 =>
    F_X4_mostMeeting_7 G h a0 x1 x2 x3 n v8 v9
set_option maxHeartbeats 4000000 in
set_option maxRecDepth 100000 in
theorem tl_X4_mostMeeting_7 {p : Program} {l : Launch} {e : Env} {s : State} {m : MethodId} {args : Array Value} {below : List Frame} {meth : Method} {c : Code} {D : va_G} {r : Int32} (hx : p.tables.exec = Jvm.exec) (hb : c.code = cX4_mostMeeting) (hr : meth.sig.returnType = (some .int)) (hlk : meth.locks = false) (hml : c.maxLocals = 6) (hown : s.vm.findClass RX4 = some m.cls) (hnm : meth.name = "mostMeeting") (hts : ∀ w ∈ xt, w.before args s = true) (G : Nat → Nat) (h : xH) (a0 : Nat) (x1 : Int32) (x2 : Int32) (x3 : Int32) : ∀ (n : Nat) (x4 : Int32) (x5 : Int32) (H : Heap) (locs : List Loc) (ls : Array Slot), F_X4_mostMeeting_7 G h a0 x1 x2 x3 n x4 x5 = some r → xR D G h s H → va_S (xA G) s.heap H locs → lv_has ls 6 [(0, va_rf (some a0)), (1, .int x1), (2, .int x2), (3, .int x3), (4, .int x4), (5, .int x5)] → W p l e rm_X4_mostMeeting s m args below meth c H locs 0 0 (MQ below (xQ D G (some (.int r)) h) args s rm_X4_mostMeeting.cells rm_X4_mostMeeting.slots (xA G)) (F0 m 7 ls []) := by
  intro n
  induction n with
  | zero =>
    intro x4 x5 H locs ls hF
    rw [F_X4_mostMeeting_7.eq_1] at hF
    cases hF
  | succ n ih =>
    intro x4 x5 H locs ls hF hR hS hl
    rw [F_X4_mostMeeting_7.eq_2] at hF
    refine lv_iload hx hb dX4_mostMeeting_7 (lv_at hl 5 rfl) ?_
    refine lv_if_le (tgt := 52) hx hb dX4_mostMeeting_9 (by decide) (fun c1 => ?_) (fun c1 => ?_)
    · replace hF := xift c1 hF
      refine lv_iload hx hb dX4_mostMeeting_52 (lv_at hl 4 rfl) ?_
      cases hF
      exact x_iret hx hb hr rfl hlk hR hS (by decide) (by decide) dX4_mostMeeting_54
    · replace hF := xiff c1 hF
      refine lv_iload hx hb dX4_mostMeeting_12 (lv_at hl 4 rfl) ?_
      refine lv_iload hx hb dX4_mostMeeting_14 (lv_at hl 5 rfl) ?_
      refine lv_iadd hx hb dX4_mostMeeting_16 ?_
      refine lv_iload_n hx hb dX4_mostMeeting_17 rfl (lv_at hl 1 rfl) ?_
      refine lv_icmp_gt (tgt := 43) hx hb dX4_mostMeeting_18 (by decide) (fun c2 => ?_) (fun c2 => ?_)
      · replace hF := xift c2 hF
        refine lv_iload hx hb dX4_mostMeeting_43 (lv_at hl 5 rfl) ?_
        refine lv_iconst (v := 1) hx hb dX4_mostMeeting_45 (by decide) ?_
        refine lv_ishr hx hb dX4_mostMeeting_46 ?_
        refine lv_topi (fun v3 ev3 => ?_)
        replace hF := xlet ev3 hF
        refine lv_istore (lv' := [(5, .int v3), (0, va_rf (some a0)), (1, .int x1), (2, .int x2), (3, .int x3), (4, .int x4)]) hx hb dX4_mostMeeting_47 hl (by decide) (by first | rfl | (simp [xrf_cat, xcI, xcJ, xcA]; done) | (simp [xrf_cat, xcI, xcJ, xcA]; decide)) (fun ls hl => ?_)
        refine lv_goto (tgt := 7) hx hb dX4_mostMeeting_49 (by decide) ?_
        exact ih x4 v3 _ _ _ hF hR hS (lv_sub hl [1, 2, 3, 4, 5, 0] rfl)
      · replace hF := xiff c2 hF
        refine x_aload_n (o := (some a0)) hx hb dX4_mostMeeting_21 rfl (lv_at hl 0 rfl) ?_
        refine lv_iload_n hx hb dX4_mostMeeting_22 rfl (lv_at hl 1 rfl) ?_
        refine lv_iload hx hb dX4_mostMeeting_23 (lv_at hl 4 rfl) ?_
        refine lv_iload hx hb dX4_mostMeeting_25 (lv_at hl 5 rfl) ?_
        refine lv_iadd hx hb dX4_mostMeeting_27 ?_
        refine lv_iload_n hx hb dX4_mostMeeting_28 rfl (lv_at hl 2 rfl) ?_
        refine lv_iload_n hx hb dX4_mostMeeting_29 rfl (lv_at hl 3 rfl) ?_
        replace hF := xbind hF; obtain ⟨b5, eb5, hF⟩ := hF
        replace hF := xbind hF; obtain ⟨v4, ev4, hF⟩ := hF
        refine x_callV (o := (some a0)) (ci := 4) (As := [.int x1, .int (x4 + x5), .int x2, .int x3]) (rest := []) (v := (some (.int v4))) (k := 4) hx hb hml hown hts hR hS eb5 rfl rfl (t_X4_canMeet l D G h b5 x1 (x4 + x5) x2 x3 v4 ev4) f_X4_canMeet mm_555 mm_557 mm_14 rfl hl.1 rfl (by first | exact Nat.le_of_ble_eq_true rfl | simp [xrf_cat, xcI, xcJ, xcA]) dX4_mostMeeting_30 (by decide) (by decide) rfl (fun H locs hR hS => ?_)
        refine lv_if_eq (tgt := 43) hx hb dX4_mostMeeting_33 (by decide) (fun c6 => ?_) (fun c6 => ?_)
        · replace hF := xift c6 hF
          refine lv_iload hx hb dX4_mostMeeting_43 (lv_at hl 5 rfl) ?_
          refine lv_iconst (v := 1) hx hb dX4_mostMeeting_45 (by decide) ?_
          refine lv_ishr hx hb dX4_mostMeeting_46 ?_
          refine lv_topi (fun v7 ev7 => ?_)
          replace hF := xlet ev7 hF
          refine lv_istore (lv' := [(5, .int v7), (0, va_rf (some a0)), (1, .int x1), (2, .int x2), (3, .int x3), (4, .int x4)]) hx hb dX4_mostMeeting_47 hl (by decide) (by first | rfl | (simp [xrf_cat, xcI, xcJ, xcA]; done) | (simp [xrf_cat, xcI, xcJ, xcA]; decide)) (fun ls hl => ?_)
          refine lv_goto (tgt := 7) hx hb dX4_mostMeeting_49 (by decide) ?_
          exact ih x4 v7 _ _ _ hF hR hS (lv_sub hl [1, 2, 3, 4, 5, 0] rfl)
        · replace hF := xiff c6 hF
          refine lv_iload hx hb dX4_mostMeeting_36 (lv_at hl 4 rfl) ?_
          refine lv_iload hx hb dX4_mostMeeting_38 (lv_at hl 5 rfl) ?_
          refine lv_iadd hx hb dX4_mostMeeting_40 ?_
          refine lv_topi (fun v8 ev8 => ?_)
          replace hF := xlet ev8 hF
          refine lv_istore (lv' := [(4, .int v8), (0, va_rf (some a0)), (1, .int x1), (2, .int x2), (3, .int x3), (5, .int x5)]) hx hb dX4_mostMeeting_41 hl (by decide) (by first | rfl | (simp [xrf_cat, xcI, xcJ, xcA]; done) | (simp [xrf_cat, xcI, xcJ, xcA]; decide)) (fun ls hl => ?_)
          refine lv_iload hx hb dX4_mostMeeting_43 (lv_at hl 5 rfl) ?_
          refine lv_iconst (v := 1) hx hb dX4_mostMeeting_45 (by decide) ?_
          refine lv_ishr hx hb dX4_mostMeeting_46 ?_
          refine lv_topi (fun v9 ev9 => ?_)
          replace hF := xlet ev9 hF
          refine lv_istore (lv' := [(5, .int v9), (4, .int v8), (0, va_rf (some a0)), (1, .int x1), (2, .int x2), (3, .int x3)]) hx hb dX4_mostMeeting_47 hl (by decide) (by first | rfl | (simp [xrf_cat, xcI, xcJ, xcA]; done) | (simp [xrf_cat, xcI, xcJ, xcA]; decide)) (fun ls hl => ?_)
          refine lv_goto (tgt := 7) hx hb dX4_mostMeeting_49 (by decide) ?_
          exact ih v8 v9 _ _ _ hF hR hS (lv_sub hl [2, 3, 4, 5, 1, 0] rfl)
def F_X4_mostMeeting (G : Nat → Nat) (h : xH) (a0 : Nat) (x1 : Int32) (x2 : Int32) (x3 : Int32) : Option Int32 :=
  F_X4_mostMeeting_7 G h a0 x1 x2 x3 xN 0 65536
set_option maxHeartbeats 4000000 in
set_option maxRecDepth 100000 in
theorem t_X4_mostMeeting (l : Launch) (D : va_G) (G : Nat → Nat) (h : xH) (a0 : Nat) (x1 : Int32) (x2 : Int32) (x3 : Int32) (r : Int32) (hF : F_X4_mostMeeting G h a0 x1 x2 x3 = some r) : xC l yX4_mostMeeting cX4_mostMeeting 6 (some .int) (rm_X4_mostMeeting) D G h [.ref a0, .int x1, .int x2, .int x3] (some (.int r)) h := by
  refine xC_of (by decide) (by first | decide | exact Nat.le_of_ble_eq_true rfl) ?_
  intro p e s m args below meth c ls hx hb hr hlk hml hown hnm hts hR hS hl
  have hl : lv_has ls 6 [(0, va_rf (some a0)), (1, .int x1), (2, .int x2), (3, .int x3)] := hl
  unfold F_X4_mostMeeting at hF
  refine lv_iconst (v := 0) hx hb dX4_mostMeeting_0 (by decide) ?_
  refine lv_istore (lv' := [(4, .int 0), (0, va_rf (some a0)), (1, .int x1), (2, .int x2), (3, .int x3)]) hx hb dX4_mostMeeting_1 hl (by decide) (by first | rfl | (simp [xrf_cat, xcI, xcJ, xcA]; done) | (simp [xrf_cat, xcI, xcJ, xcA]; decide)) (fun ls hl => ?_)
  refine lv_ldc hx hb hown (hts _ mm_554) dX4_mostMeeting_3 ?_
  refine lv_istore (lv' := [(5, .int 65536), (4, .int 0), (0, va_rf (some a0)), (1, .int x1), (2, .int x2), (3, .int x3)]) hx hb dX4_mostMeeting_5 hl (by decide) (by first | rfl | (simp [xrf_cat, xcI, xcJ, xcA]; done) | (simp [xrf_cat, xcI, xcJ, xcA]; decide)) (fun ls hl => ?_)
  refine W.widen (k := 0) (n := 0) (by decide) (by decide) ?_
  exact tl_X4_mostMeeting_7 hx hb hr hlk hml hown hnm hts G h a0 x1 x2 x3 _ 0 65536 _ _ _ hF hR hS (lv_sub hl [2, 3, 4, 5, 1, 0] rfl)
def rm_X4_leastBad : Room := { frames := 3, cells := 0, slots := 0, locals := 74 }
theorem f_X4_leastBad : xM yX4_leastBad cX4_leastBad 3 (some .int) 2 := ⟨mm_549, mm_59, by decide +kernel, by decide +kernel⟩
theorem dX4_leastBad_0 : decode cX4_leastBad 0 = .ok (.iload_n 1, 1) := by decide +kernel
theorem dX4_leastBad_1 : decode cX4_leastBad 1 = .ok (.aload_n 0, 1) := by decide +kernel
theorem dX4_leastBad_2 : decode cX4_leastBad 2 = .ok (.iload_n 1, 1) := by decide +kernel
theorem dX4_leastBad_3 : decode cX4_leastBad 3 = .ok (.iload_n 2, 1) := by decide +kernel
theorem dX4_leastBad_4 : decode cX4_leastBad 4 = .ok (.iconst 1, 1) := by decide +kernel
theorem dX4_leastBad_5 : decode cX4_leastBad 5 = .ok (.invokevirtual 19, 3) := by decide +kernel
theorem dX4_leastBad_8 : decode cX4_leastBad 8 = .ok (.isub, 1) := by decide +kernel
theorem dX4_leastBad_9 : decode cX4_leastBad 9 = .ok (.ireturn, 1) := by decide +kernel
def F_X4_leastBad (G : Nat → Nat) (h : xH) (a0 : Nat) (x1 : Int32) (x2 : Int32) : Option Int32 :=
  (xc h (some a0) 4).bind fun b2 =>
  (F_X4_mostMeeting G h b2 x1 x2 1).bind fun v1 =>
  some (x1 - v1)
set_option maxHeartbeats 4000000 in
set_option maxRecDepth 100000 in
theorem t_X4_leastBad (l : Launch) (D : va_G) (G : Nat → Nat) (h : xH) (a0 : Nat) (x1 : Int32) (x2 : Int32) (r : Int32) (hF : F_X4_leastBad G h a0 x1 x2 = some r) : xC l yX4_leastBad cX4_leastBad 3 (some .int) (rm_X4_leastBad) D G h [.ref a0, .int x1, .int x2] (some (.int r)) h := by
  refine xC_of (by decide) (by first | decide | exact Nat.le_of_ble_eq_true rfl) ?_
  intro p e s m args below meth c ls hx hb hr hlk hml hown hnm hts hR hS hl
  have hl : lv_has ls 3 [(0, va_rf (some a0)), (1, .int x1), (2, .int x2)] := hl
  unfold F_X4_leastBad at hF
  refine lv_iload_n hx hb dX4_leastBad_0 rfl (lv_at hl 1 rfl) ?_
  refine x_aload_n (o := (some a0)) hx hb dX4_leastBad_1 rfl (lv_at hl 0 rfl) ?_
  refine lv_iload_n hx hb dX4_leastBad_2 rfl (lv_at hl 1 rfl) ?_
  refine lv_iload_n hx hb dX4_leastBad_3 rfl (lv_at hl 2 rfl) ?_
  refine lv_iconst (v := 1) hx hb dX4_leastBad_4 (by decide) ?_
  replace hF := xbind hF; obtain ⟨b2, eb2, hF⟩ := hF
  replace hF := xbind hF; obtain ⟨v1, ev1, hF⟩ := hF
  refine x_callV (o := (some a0)) (ci := 4) (As := [.int x1, .int x2, .int 1]) (rest := [.int x1]) (v := (some (.int v1))) (k := 3) hx hb hml hown hts hR hS eb2 rfl rfl (t_X4_mostMeeting l D G h b2 x1 x2 1 v1 ev1) f_X4_mostMeeting mm_550 mm_552 mm_13 rfl hl.1 rfl (by first | exact Nat.le_of_ble_eq_true rfl | simp [xrf_cat, xcI, xcJ, xcA]) dX4_leastBad_5 (by decide) (by decide) rfl (fun H locs hR hS => ?_)
  refine lv_isub hx hb dX4_leastBad_8 ?_
  cases hF
  exact x_iret hx hb hr rfl hlk hR hS (by decide) (by decide) dX4_leastBad_9
def rm_X4_greatestBad : Room := { frames := 3, cells := 0, slots := 0, locals := 74 }
theorem f_X4_greatestBad : xM yX4_greatestBad cX4_greatestBad 3 (some .int) 2 := ⟨mm_563, mm_59, by decide +kernel, by decide +kernel⟩
theorem dX4_greatestBad_0 : decode cX4_greatestBad 0 = .ok (.aload_n 0, 1) := by decide +kernel
theorem dX4_greatestBad_1 : decode cX4_greatestBad 1 = .ok (.iload_n 1, 1) := by decide +kernel
theorem dX4_greatestBad_2 : decode cX4_greatestBad 2 = .ok (.aload_n 0, 1) := by decide +kernel
theorem dX4_greatestBad_3 : decode cX4_greatestBad 3 = .ok (.getfield 15, 3) := by decide +kernel
theorem dX4_greatestBad_6 : decode cX4_greatestBad 6 = .ok (.iload_n 2, 1) := by decide +kernel
theorem dX4_greatestBad_7 : decode cX4_greatestBad 7 = .ok (.isub, 1) := by decide +kernel
theorem dX4_greatestBad_8 : decode cX4_greatestBad 8 = .ok (.iconst 1, 1) := by decide +kernel
theorem dX4_greatestBad_9 : decode cX4_greatestBad 9 = .ok (.iadd, 1) := by decide +kernel
theorem dX4_greatestBad_10 : decode cX4_greatestBad 10 = .ok (.iconst 0, 1) := by decide +kernel
theorem dX4_greatestBad_11 : decode cX4_greatestBad 11 = .ok (.invokevirtual 19, 3) := by decide +kernel
theorem dX4_greatestBad_14 : decode cX4_greatestBad 14 = .ok (.ireturn, 1) := by decide +kernel
def F_X4_greatestBad (G : Nat → Nat) (h : xH) (a0 : Nat) (x1 : Int32) (x2 : Int32) : Option Int32 :=
  (gI h (some a0) 4 1).bind fun v1 =>
  (xc h (some a0) 4).bind fun b3 =>
  (F_X4_mostMeeting G h b3 x1 ((v1 - x2) + 1) 0).bind fun v2 =>
  some v2
set_option maxHeartbeats 4000000 in
set_option maxRecDepth 100000 in
theorem t_X4_greatestBad (l : Launch) (D : va_G) (G : Nat → Nat) (h : xH) (a0 : Nat) (x1 : Int32) (x2 : Int32) (r : Int32) (hF : F_X4_greatestBad G h a0 x1 x2 = some r) : xC l yX4_greatestBad cX4_greatestBad 3 (some .int) (rm_X4_greatestBad) D G h [.ref a0, .int x1, .int x2] (some (.int r)) h := by
  refine xC_of (by decide) (by first | decide | exact Nat.le_of_ble_eq_true rfl) ?_
  intro p e s m args below meth c ls hx hb hr hlk hml hown hnm hts hR hS hl
  have hl : lv_has ls 3 [(0, va_rf (some a0)), (1, .int x1), (2, .int x2)] := hl
  unfold F_X4_greatestBad at hF
  refine x_aload_n (o := (some a0)) hx hb dX4_greatestBad_0 rfl (lv_at hl 0 rfl) ?_
  refine lv_iload_n hx hb dX4_greatestBad_1 rfl (lv_at hl 1 rfl) ?_
  refine x_aload_n (o := (some a0)) hx hb dX4_greatestBad_2 rfl (lv_at hl 0 rfl) ?_
  replace hF := xbind hF; obtain ⟨v1, ev1, hF⟩ := hF
  refine x_getI (o := (some a0)) (ci := 4) (C := RX4) (T := TX4) (N := 2) hx hb hts iw_X4 hown hR rfl 1 (by decide) mm_121 (Or.inl rfl) ev1 dX4_greatestBad_3 ?_
  refine lv_iload_n hx hb dX4_greatestBad_6 rfl (lv_at hl 2 rfl) ?_
  refine lv_isub hx hb dX4_greatestBad_7 ?_
  refine lv_iconst (v := 1) hx hb dX4_greatestBad_8 (by decide) ?_
  refine lv_iadd hx hb dX4_greatestBad_9 ?_
  refine lv_iconst (v := 0) hx hb dX4_greatestBad_10 (by decide) ?_
  replace hF := xbind hF; obtain ⟨b3, eb3, hF⟩ := hF
  replace hF := xbind hF; obtain ⟨v2, ev2, hF⟩ := hF
  refine x_callV (o := (some a0)) (ci := 4) (As := [.int x1, .int ((v1 - x2) + 1), .int 0]) (rest := []) (v := (some (.int v2))) (k := 3) hx hb hml hown hts hR hS eb3 rfl rfl (t_X4_mostMeeting l D G h b3 x1 ((v1 - x2) + 1) 0 v2 ev2) f_X4_mostMeeting mm_550 mm_552 mm_13 rfl hl.1 rfl (by first | exact Nat.le_of_ble_eq_true rfl | simp [xrf_cat, xcI, xcJ, xcA]) dX4_greatestBad_11 (by decide) (by decide) rfl (fun H locs hR hS => ?_)
  cases hF
  exact x_iret hx hb hr rfl hlk hR hS (by decide) (by decide) dX4_greatestBad_14
