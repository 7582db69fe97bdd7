def rm_X10_broken : Room := { frames := 4, cells := 0, slots := 0, locals := 93 }
theorem f_X10_broken : xM yX10_broken cX10_broken 4 (some .int) 2 := ⟨mm_482, mm_55, by decide +kernel, by decide +kernel⟩
theorem dX10_broken_0 : decode cX10_broken 0 = .ok (.aload_n 0, 1) := by decide +kernel
theorem dX10_broken_1 : decode cX10_broken 1 = .ok (.iload_n 1, 1) := by decide +kernel
theorem dX10_broken_2 : decode cX10_broken 2 = .ok (.invokevirtual 103, 3) := by decide +kernel
theorem dX10_broken_5 : decode cX10_broken 5 = .ok (.astore_n 3, 1) := by decide +kernel
theorem dX10_broken_6 : decode cX10_broken 6 = .ok (.aload_n 3, 1) := by decide +kernel
theorem dX10_broken_7 : decode cX10_broken 7 = .ok (.ifnull 14, 3) := by decide +kernel
theorem dX10_broken_10 : decode cX10_broken 10 = .ok (.iload_n 2, 1) := by decide +kernel
theorem dX10_broken_11 : decode cX10_broken 11 = .ok (.iconst 0, 1) := by decide +kernel
theorem dX10_broken_12 : decode cX10_broken 12 = .ok (.sipush 600, 3) := by decide +kernel
theorem dX10_broken_15 : decode cX10_broken 15 = .ok (.invokestatic 66, 3) := by decide +kernel
theorem dX10_broken_18 : decode cX10_broken 18 = .ok (.ifCond .ne 5, 3) := by decide +kernel
theorem dX10_broken_21 : decode cX10_broken 21 = .ok (.iconst (-1), 1) := by decide +kernel
theorem dX10_broken_22 : decode cX10_broken 22 = .ok (.ireturn, 1) := by decide +kernel
theorem dX10_broken_23 : decode cX10_broken 23 = .ok (.aload_n 3, 1) := by decide +kernel
theorem dX10_broken_24 : decode cX10_broken 24 = .ok (.iload_n 2, 1) := by decide +kernel
theorem dX10_broken_25 : decode cX10_broken 25 = .ok (.invokevirtual 147, 3) := by decide +kernel
theorem dX10_broken_28 : decode cX10_broken 28 = .ok (.ireturn, 1) := by decide +kernel
def F_X10_broken (G : Nat → Nat) (h : xH) (a0 : Nat) (x1 : Int32) (x2 : Int32) : Option Int32 :=
  (xc h (some a0) 10).bind fun b2 =>
  (F_X10_promiseAt G h b2 x1).bind fun w1 =>
  if w1 = none then
    some (-1)
  else
  (F_X10_within x2 0 600).bind fun v4 =>
  if v4 = 0 then
    some (-1)
  else
  (xc h w1 6).bind fun b7 =>
  (F_X6_firstBroken G h b7 x2).bind fun v6 =>
  some v6
set_option maxHeartbeats 4000000 in
set_option maxRecDepth 100000 in
theorem t_X10_broken (l : Launch) (D : va_G) (G : Nat → Nat) (h : xH) (a0 : Nat) (x1 : Int32) (x2 : Int32) (r : Int32) (hF : F_X10_broken G h a0 x1 x2 = some r) : xC l yX10_broken cX10_broken 4 (some .int) (rm_X10_broken) D G h [.ref a0, .int x1, .int x2] (some (.int r)) h := by
  refine xC_of (by decide) (by first | decide | exact Nat.le_of_ble_eq_true rfl) ?_
  intro p e s m args below meth c ls hx hb hr hlk hml hown hnm hts hR hS hl
  have hl : lv_has ls 4 [(0, va_rf (some a0)), (1, .int x1), (2, .int x2)] := hl
  unfold F_X10_broken at hF
  refine x_aload_n (o := (some a0)) hx hb dX10_broken_0 rfl (lv_at hl 0 rfl) ?_
  refine lv_iload_n hx hb dX10_broken_1 rfl (lv_at hl 1 rfl) ?_
  replace hF := xbind hF; obtain ⟨b2, eb2, hF⟩ := hF
  replace hF := xbind hF; obtain ⟨w1, ew1, hF⟩ := hF
  refine x_callV (o := (some a0)) (ci := 10) (As := [.int x1]) (rest := []) (v := (some (va_rf w1))) (k := 1) hx hb hml hown hts hR hS eb2 rfl rfl (t_X10_promiseAt l D G h b2 x1 w1 ew1) f_X10_promiseAt mm_437 mm_439 mm_6 rfl hl.1 rfl (by first | exact Nat.le_of_ble_eq_true rfl | simp [xrf_cat, xcI, xcJ, xcA]) dX10_broken_2 (by decide) (by decide) rfl (fun H locs hR hS => ?_)
  refine x_astore_n (o := w1) (lv' := [(3, va_rf w1), (0, va_rf (some a0)), (1, .int x1), (2, .int x2)]) hx hb dX10_broken_5 rfl hl (by decide) (by first | rfl | (simp [xrf_cat, xcI, xcJ, xcA]; done) | (simp [xrf_cat, xcI, xcJ, xcA]; decide)) (fun ls hl => ?_)
  refine x_aload_n (o := w1) hx hb dX10_broken_6 rfl (lv_at hl 0 rfl) ?_
  refine x_ifnull (o := w1) (tgt := 21) hx hb dX10_broken_7 (by decide) (fun c3 => ?_) (fun c3 => ?_)
  · replace hF := xift c3 hF
    refine lv_iconst (v := (-1)) hx hb dX10_broken_21 (by decide) ?_
    cases hF
    exact x_iret hx hb hr rfl hlk hR hS (by decide) (by decide) dX10_broken_22
  · replace hF := xiff c3 hF
    refine lv_iload_n hx hb dX10_broken_10 rfl (lv_at hl 3 rfl) ?_
    refine lv_iconst (v := 0) hx hb dX10_broken_11 (by decide) ?_
    refine lv_sipush (v := 600) hx hb dX10_broken_12 (by decide) ?_
    replace hF := xbind hF; obtain ⟨v4, ev4, hF⟩ := hF
    refine x_callS (As := [.int x2, .int 0, .int 600]) (rest := []) (v := (some (.int v4))) (k := 3) hx hb hml hown hts hR hS (t_X10_within l D G h x2 0 600 v4 ev4) f_X10_within mm_347 mm_348 rfl hl.1 rfl (by first | exact Nat.le_of_ble_eq_true rfl | simp [xrf_cat, xcI, xcJ, xcA]) dX10_broken_15 (by decide) (by decide) rfl (fun H locs hR hS => ?_)
    refine lv_if_ne (tgt := 23) hx hb dX10_broken_18 (by decide) (fun c5 => ?_) (fun c5 => ?_)
    · replace hF := xiff c5 hF
      refine x_aload_n (o := w1) hx hb dX10_broken_23 rfl (lv_at hl 0 rfl) ?_
      refine lv_iload_n hx hb dX10_broken_24 rfl (lv_at hl 3 rfl) ?_
      replace hF := xbind hF; obtain ⟨b7, eb7, hF⟩ := hF
      replace hF := xbind hF; obtain ⟨v6, ev6, hF⟩ := hF
      refine x_callV (o := w1) (ci := 6) (As := [.int x2]) (rest := []) (v := (some (.int v6))) (k := 1) hx hb hml hown hts hR hS eb7 rfl rfl (t_X6_firstBroken l D G h b7 x2 v6 ev6) f_X6_firstBroken mm_483 mm_484 mm_485 rfl hl.1 rfl (by first | exact Nat.le_of_ble_eq_true rfl | simp [xrf_cat, xcI, xcJ, xcA]) dX10_broken_25 (by decide) (by decide) rfl (fun H locs hR hS => ?_)
      cases hF
      exact x_iret hx hb hr rfl hlk hR hS (by decide) (by decide) dX10_broken_28
    · replace hF := xift c5 hF
      refine lv_iconst (v := (-1)) hx hb dX10_broken_21 (by decide) ?_
      cases hF
      exact x_iret hx hb hr rfl hlk hR hS (by decide) (by decide) dX10_broken_22
def rm_X10_part : Room := { frames := 1, cells := 0, slots := 0, locals := 22 }
theorem f_X10_part : xM yX10_part cX10_part 2 (some .int) 1 := ⟨mm_528, mm_55, by decide +kernel, by decide +kernel⟩
theorem dX10_part_0 : decode cX10_part 0 = .ok (.iload_n 1, 1) := by decide +kernel
theorem dX10_part_1 : decode cX10_part 1 = .ok (.iconst 0, 1) := by decide +kernel
theorem dX10_part_2 : decode cX10_part 2 = .ok (.ldc 150, 2) := by decide +kernel
theorem dX10_part_4 : decode cX10_part 4 = .ok (.invokestatic 66, 3) := by decide +kernel
theorem dX10_part_7 : decode cX10_part 7 = .ok (.ifCond .eq 14, 3) := by decide +kernel
theorem dX10_part_10 : decode cX10_part 10 = .ok (.aload_n 0, 1) := by decide +kernel
theorem dX10_part_11 : decode cX10_part 11 = .ok (.getfield 31, 3) := by decide +kernel
theorem dX10_part_14 : decode cX10_part 14 = .ok (.iload_n 1, 1) := by decide +kernel
theorem dX10_part_15 : decode cX10_part 15 = .ok (.invokevirtual 151, 3) := by decide +kernel
theorem dX10_part_18 : decode cX10_part 18 = .ok (.goto 4, 3) := by decide +kernel
theorem dX10_part_21 : decode cX10_part 21 = .ok (.iconst (-1), 1) := by decide +kernel
theorem dX10_part_22 : decode cX10_part 22 = .ok (.ireturn, 1) := by decide +kernel
def F_X10_part (G : Nat → Nat) (h : xH) (a0 : Nat) (x1 : Int32) : Option (Int32 × xH) :=
  (F_X10_within x1 0 100000).bind fun v1 =>
  if v1 = 0 then
    some ((-1), h)
  else
  (gR h (some a0) 10 5).bind fun w3 =>
  (xc h w3 4).bind fun b6 =>
  (F_X4_add G h b6 x1).bind fun (v4, h5) =>
  some (v4, h5)
set_option maxHeartbeats 4000000 in
set_option maxRecDepth 100000 in
theorem t_X10_part (l : Launch) (D : va_G) (G : Nat → Nat) (h : xH) (a0 : Nat) (x1 : Int32) (r : Int32) (h' : xH) (hF : F_X10_part G h a0 x1 = some (r, h')) : xC l yX10_part cX10_part 2 (some .int) (rm_X10_part) D G h [.ref a0, .int x1] (some (.int r)) h' := by
  refine xC_of (by decide) (by first | decide | exact Nat.le_of_ble_eq_true rfl) ?_
  intro p e s m args below meth c ls hx hb hr hlk hml hown hnm hts hR hS hl
  have hl : lv_has ls 2 [(0, va_rf (some a0)), (1, .int x1)] := hl
  unfold F_X10_part at hF
  refine lv_iload_n hx hb dX10_part_0 rfl (lv_at hl 1 rfl) ?_
  refine lv_iconst (v := 0) hx hb dX10_part_1 (by decide) ?_
  refine lv_ldc hx hb hown (hts _ mm_529) dX10_part_2 ?_
  replace hF := xbind hF; obtain ⟨v1, ev1, hF⟩ := hF
  refine x_callS (As := [.int x1, .int 0, .int 100000]) (rest := []) (v := (some (.int v1))) (k := 3) hx hb hml hown hts hR hS (t_X10_within l D G h x1 0 100000 v1 ev1) f_X10_within mm_347 mm_348 rfl hl.1 rfl (by first | exact Nat.le_of_ble_eq_true rfl | simp [xrf_cat, xcI, xcJ, xcA]) dX10_part_4 (by decide) (by decide) rfl (fun H locs hR hS => ?_)
  refine lv_if_eq (tgt := 21) hx hb dX10_part_7 (by decide) (fun c2 => ?_) (fun c2 => ?_)
  · replace hF := xift c2 hF
    refine lv_iconst (v := (-1)) hx hb dX10_part_21 (by decide) ?_
    cases hF
    exact x_iret hx hb hr rfl hlk hR hS (by decide) (by decide) dX10_part_22
  · replace hF := xiff c2 hF
    refine x_aload_n (o := (some a0)) hx hb dX10_part_10 rfl (lv_at hl 0 rfl) ?_
    replace hF := xbind hF; obtain ⟨w3, ew3, hF⟩ := hF
    refine x_getR (o := (some a0)) (ci := 10) (C := RX10) (T := TX10) (N := 11) hx hb hts iw_X10 hown hR rfl 5 (by decide) mm_192 (Or.inl rfl) ew3 dX10_part_11 ?_
    refine lv_iload_n hx hb dX10_part_14 rfl (lv_at hl 1 rfl) ?_
    replace hF := xbind hF; obtain ⟨b6, eb6, hF⟩ := hF
    replace hF := xbind hF; obtain ⟨⟨v4, h5⟩, ev4, hF⟩ := hF
    refine x_callV (o := w3) (ci := 4) (As := [.int x1]) (rest := []) (v := (some (.int v4))) (k := 1) hx hb hml hown hts hR hS eb6 rfl rfl (t_X4_add l D G h b6 x1 v4 h5 ev4) f_X4_add mm_530 mm_531 mm_532 rfl hl.1 rfl (by first | exact Nat.le_of_ble_eq_true rfl | simp [xrf_cat, xcI, xcJ, xcA]) dX10_part_15 (by decide) (by decide) rfl (fun H locs hR hS => ?_)
    refine lv_goto (tgt := 22) hx hb dX10_part_18 (by decide) ?_
    cases hF
    exact x_iret hx hb hr rfl hlk hR hS (by decide) (by decide) dX10_part_22
def rm_X10_made : Room := { frames := 4, cells := 0, slots := 0, locals := 96 }
theorem f_X10_made : xM yX10_made cX10_made 5 (some .int) 3 := ⟨mm_537, mm_55, by decide +kernel, by decide +kernel⟩
theorem dX10_made_0 : decode cX10_made 0 = .ok (.iconst (-1), 1) := by decide +kernel
theorem dX10_made_1 : decode cX10_made 1 = .ok (.istore 4, 2) := by decide +kernel
theorem dX10_made_3 : decode cX10_made 3 = .ok (.iload_n 1, 1) := by decide +kernel
theorem dX10_made_4 : decode cX10_made 4 = .ok (.iconst 0, 1) := by decide +kernel
theorem dX10_made_5 : decode cX10_made 5 = .ok (.ldc 150, 2) := by decide +kernel
theorem dX10_made_7 : decode cX10_made 7 = .ok (.invokestatic 66, 3) := by decide +kernel
theorem dX10_made_10 : decode cX10_made 10 = .ok (.ifCond .eq 63, 3) := by decide +kernel
theorem dX10_made_13 : decode cX10_made 13 = .ok (.iload_n 2, 1) := by decide +kernel
theorem dX10_made_14 : decode cX10_made 14 = .ok (.iconst 1, 1) := by decide +kernel
theorem dX10_made_15 : decode cX10_made 15 = .ok (.aload_n 0, 1) := by decide +kernel
theorem dX10_made_16 : decode cX10_made 16 = .ok (.getfield 31, 3) := by decide +kernel
theorem dX10_made_19 : decode cX10_made 19 = .ok (.invokevirtual 153, 3) := by decide +kernel
theorem dX10_made_22 : decode cX10_made 22 = .ok (.invokestatic 66, 3) := by decide +kernel
theorem dX10_made_25 : decode cX10_made 25 = .ok (.ifCond .eq 48, 3) := by decide +kernel
theorem dX10_made_28 : decode cX10_made 28 = .ok (.aload_n 0, 1) := by decide +kernel
theorem dX10_made_29 : decode cX10_made 29 = .ok (.getfield 31, 3) := by decide +kernel
theorem dX10_made_32 : decode cX10_made 32 = .ok (.iload_n 1, 1) := by decide +kernel
theorem dX10_made_33 : decode cX10_made 33 = .ok (.invokevirtual 154, 3) := by decide +kernel
theorem dX10_made_36 : decode cX10_made 36 = .ok (.ifCond .eq 37, 3) := by decide +kernel
theorem dX10_made_39 : decode cX10_made 39 = .ok (.iload_n 3, 1) := by decide +kernel
theorem dX10_made_40 : decode cX10_made 40 = .ok (.ifCond .ne 17, 3) := by decide +kernel
theorem dX10_made_43 : decode cX10_made 43 = .ok (.aload_n 0, 1) := by decide +kernel
theorem dX10_made_44 : decode cX10_made 44 = .ok (.getfield 31, 3) := by decide +kernel
theorem dX10_made_47 : decode cX10_made 47 = .ok (.iload_n 1, 1) := by decide +kernel
theorem dX10_made_48 : decode cX10_made 48 = .ok (.iload_n 2, 1) := by decide +kernel
theorem dX10_made_49 : decode cX10_made 49 = .ok (.invokevirtual 158, 3) := by decide +kernel
theorem dX10_made_52 : decode cX10_made 52 = .ok (.istore 4, 2) := by decide +kernel
theorem dX10_made_54 : decode cX10_made 54 = .ok (.goto 19, 3) := by decide +kernel
theorem dX10_made_57 : decode cX10_made 57 = .ok (.iload_n 3, 1) := by decide +kernel
theorem dX10_made_58 : decode cX10_made 58 = .ok (.iconst 1, 1) := by decide +kernel
theorem dX10_made_59 : decode cX10_made 59 = .ok (.if_icmp .ne 14, 3) := by decide +kernel
theorem dX10_made_62 : decode cX10_made 62 = .ok (.aload_n 0, 1) := by decide +kernel
theorem dX10_made_63 : decode cX10_made 63 = .ok (.getfield 31, 3) := by decide +kernel
theorem dX10_made_66 : decode cX10_made 66 = .ok (.iload_n 1, 1) := by decide +kernel
theorem dX10_made_67 : decode cX10_made 67 = .ok (.iload_n 2, 1) := by decide +kernel
theorem dX10_made_68 : decode cX10_made 68 = .ok (.invokevirtual 161, 3) := by decide +kernel
theorem dX10_made_71 : decode cX10_made 71 = .ok (.istore 4, 2) := by decide +kernel
theorem dX10_made_73 : decode cX10_made 73 = .ok (.aload_n 0, 1) := by decide +kernel
theorem dX10_made_74 : decode cX10_made 74 = .ok (.getfield 31, 3) := by decide +kernel
theorem dX10_made_77 : decode cX10_made 77 = .ok (.invokevirtual 164, 3) := by decide +kernel
theorem dX10_made_80 : decode cX10_made 80 = .ok (.iload 4, 2) := by decide +kernel
theorem dX10_made_82 : decode cX10_made 82 = .ok (.ireturn, 1) := by decide +kernel
def F_X10_made (G : Nat → Nat) (h : xH) (a0 : Nat) (x1 : Int32) (x2 : Int32) (x3 : Int32) : Option (Int32 × xH) :=
  (F_X10_within x1 0 100000).bind fun v1 =>
  if v1 = 0 then
    (gR h (some a0) 10 5).bind fun w3 =>
    (xc h w3 4).bind fun b5 =>
    (F_X4_clear G h b5).bind fun h4 =>
    some ((-1), h4)
  else
  (gR h (some a0) 10 5).bind fun w6 =>
  (xc h w6 4).bind fun b8 =>
  (F_X4_size G h b8).bind fun v7 =>
  (F_X10_within x2 1 v7).bind fun v9 =>
  if v9 = 0 then
    (gR h (some a0) 10 5).bind fun w11 =>
    (xc h w11 4).bind fun b13 =>
    (F_X4_clear G h b13).bind fun h12 =>
    some ((-1), h12)
  else
  (gR h (some a0) 10 5).bind fun w14 =>
  (xc h w14 4).bind fun b16 =>
  (F_X4_fitInto G h b16 x1).bind fun v15 =>
  if v15 = 0 then
    (gR h (some a0) 10 5).bind fun w18 =>
    (xc h w18 4).bind fun b20 =>
    (F_X4_clear G h b20).bind fun h19 =>
    some ((-1), h19)
  else
  if x3 = 0 then
    (gR h (some a0) 10 5).bind fun w32 =>
    (xc h w32 4).bind fun b34 =>
    (F_X4_leastBad G h b34 x1 x2).bind fun v33 =>
    (gR h (some a0) 10 5).bind fun w35 =>
    (xc h w35 4).bind fun b37 =>
    (F_X4_clear G h b37).bind fun h36 =>
    some (v33, h36)
  else
  if x3 = 1 then
    (gR h (some a0) 10 5).bind fun w26 =>
    (xc h w26 4).bind fun b28 =>
    (F_X4_greatestBad G h b28 x1 x2).bind fun v27 =>
    (gR h (some a0) 10 5).bind fun w29 =>
    (xc h w29 4).bind fun b31 =>
    (F_X4_clear G h b31).bind fun h30 =>
    some (v27, h30)
  else
  (gR h (some a0) 10 5).bind fun w23 =>
  (xc h w23 4).bind fun b25 =>
  (F_X4_clear G h b25).bind fun h24 =>
  some ((-1), h24)
set_option maxHeartbeats 4000000 in
set_option maxRecDepth 100000 in
theorem t_X10_made (l : Launch) (D : va_G) (G : Nat → Nat) (h : xH) (a0 : Nat) (x1 : Int32) (x2 : Int32) (x3 : Int32) (r : Int32) (h' : xH) (hF : F_X10_made G h a0 x1 x2 x3 = some (r, h')) : xC l yX10_made cX10_made 5 (some .int) (rm_X10_made) D G h [.ref a0, .int x1, .int x2, .int x3] (some (.int r)) h' := by
  refine xC_of (by decide) (by first | decide | exact Nat.le_of_ble_eq_true rfl) ?_
  intro p e s m args below meth c ls hx hb hr hlk hml hown hnm hts hR hS hl
  have hl : lv_has ls 5 [(0, va_rf (some a0)), (1, .int x1), (2, .int x2), (3, .int x3)] := hl
  unfold F_X10_made at hF
  refine lv_iconst (v := (-1)) hx hb dX10_made_0 (by decide) ?_
  refine lv_istore (lv' := [(4, .int (-1)), (0, va_rf (some a0)), (1, .int x1), (2, .int x2), (3, .int x3)]) hx hb dX10_made_1 hl (by decide) (by first | rfl | (simp [xrf_cat, xcI, xcJ, xcA]; done) | (simp [xrf_cat, xcI, xcJ, xcA]; decide)) (fun ls hl => ?_)
  refine lv_iload_n hx hb dX10_made_3 rfl (lv_at hl 2 rfl) ?_
  refine lv_iconst (v := 0) hx hb dX10_made_4 (by decide) ?_
  refine lv_ldc hx hb hown (hts _ mm_529) dX10_made_5 ?_
  replace hF := xbind hF; obtain ⟨v1, ev1, hF⟩ := hF
  refine x_callS (As := [.int x1, .int 0, .int 100000]) (rest := []) (v := (some (.int v1))) (k := 3) hx hb hml hown hts hR hS (t_X10_within l D G h x1 0 100000 v1 ev1) f_X10_within mm_347 mm_348 rfl hl.1 rfl (by first | exact Nat.le_of_ble_eq_true rfl | simp [xrf_cat, xcI, xcJ, xcA]) dX10_made_7 (by decide) (by decide) rfl (fun H locs hR hS => ?_)
  refine lv_if_eq (tgt := 73) hx hb dX10_made_10 (by decide) (fun c2 => ?_) (fun c2 => ?_)
  · replace hF := xift c2 hF
    refine x_aload_n (o := (some a0)) hx hb dX10_made_73 rfl (lv_at hl 1 rfl) ?_
    replace hF := xbind hF; obtain ⟨w3, ew3, hF⟩ := hF
    refine x_getR (o := (some a0)) (ci := 10) (C := RX10) (T := TX10) (N := 11) hx hb hts iw_X10 hown hR rfl 5 (by decide) mm_192 (Or.inl rfl) ew3 dX10_made_74 ?_
    replace hF := xbind hF; obtain ⟨b5, eb5, hF⟩ := hF
    replace hF := xbind hF; obtain ⟨h4, eh4, hF⟩ := hF
    refine x_callV (o := w3) (ci := 4) (As := []) (rest := []) (v := none) (k := 0) hx hb hml hown hts hR hS eb5 rfl rfl (t_X4_clear l D G h b5 h4 eh4) f_X4_clear mm_564 mm_565 mm_566 rfl hl.1 rfl (by first | exact Nat.le_of_ble_eq_true rfl | simp [xrf_cat, xcI, xcJ, xcA]) dX10_made_77 (by decide) (by decide) rfl (fun H locs hR hS => ?_)
    refine lv_iload hx hb dX10_made_80 (lv_at hl 0 rfl) ?_
    cases hF
    exact x_iret hx hb hr rfl hlk hR hS (by decide) (by decide) dX10_made_82
  · replace hF := xiff c2 hF
    refine lv_iload_n hx hb dX10_made_13 rfl (lv_at hl 3 rfl) ?_
    refine lv_iconst (v := 1) hx hb dX10_made_14 (by decide) ?_
    refine x_aload_n (o := (some a0)) hx hb dX10_made_15 rfl (lv_at hl 1 rfl) ?_
    replace hF := xbind hF; obtain ⟨w6, ew6, hF⟩ := hF
    refine x_getR (o := (some a0)) (ci := 10) (C := RX10) (T := TX10) (N := 11) hx hb hts iw_X10 hown hR rfl 5 (by decide) mm_192 (Or.inl rfl) ew6 dX10_made_16 ?_
    replace hF := xbind hF; obtain ⟨b8, eb8, hF⟩ := hF
    replace hF := xbind hF; obtain ⟨v7, ev7, hF⟩ := hF
    refine x_callV (o := w6) (ci := 4) (As := []) (rest := [.int 1, .int x2]) (v := (some (.int v7))) (k := 0) hx hb hml hown hts hR hS eb8 rfl rfl (t_X4_size l D G h b8 v7 ev7) f_X4_size mm_538 mm_539 mm_540 rfl hl.1 rfl (by first | exact Nat.le_of_ble_eq_true rfl | simp [xrf_cat, xcI, xcJ, xcA]) dX10_made_19 (by decide) (by decide) rfl (fun H locs hR hS => ?_)
    replace hF := xbind hF; obtain ⟨v9, ev9, hF⟩ := hF
    refine x_callS (As := [.int x2, .int 1, .int v7]) (rest := []) (v := (some (.int v9))) (k := 3) hx hb hml hown hts hR hS (t_X10_within l D G h x2 1 v7 v9 ev9) f_X10_within mm_347 mm_348 rfl hl.1 rfl (by first | exact Nat.le_of_ble_eq_true rfl | simp [xrf_cat, xcI, xcJ, xcA]) dX10_made_22 (by decide) (by decide) rfl (fun H locs hR hS => ?_)
    refine lv_if_eq (tgt := 73) hx hb dX10_made_25 (by decide) (fun c10 => ?_) (fun c10 => ?_)
    · replace hF := xift c10 hF
      refine x_aload_n (o := (some a0)) hx hb dX10_made_73 rfl (lv_at hl 1 rfl) ?_
      replace hF := xbind hF; obtain ⟨w11, ew11, hF⟩ := hF
      refine x_getR (o := (some a0)) (ci := 10) (C := RX10) (T := TX10) (N := 11) hx hb hts iw_X10 hown hR rfl 5 (by decide) mm_192 (Or.inl rfl) ew11 dX10_made_74 ?_
      replace hF := xbind hF; obtain ⟨b13, eb13, hF⟩ := hF
      replace hF := xbind hF; obtain ⟨h12, eh12, hF⟩ := hF
      refine x_callV (o := w11) (ci := 4) (As := []) (rest := []) (v := none) (k := 0) hx hb hml hown hts hR hS eb13 rfl rfl (t_X4_clear l D G h b13 h12 eh12) f_X4_clear mm_564 mm_565 mm_566 rfl hl.1 rfl (by first | exact Nat.le_of_ble_eq_true rfl | simp [xrf_cat, xcI, xcJ, xcA]) dX10_made_77 (by decide) (by decide) rfl (fun H locs hR hS => ?_)
      refine lv_iload hx hb dX10_made_80 (lv_at hl 0 rfl) ?_
      cases hF
      exact x_iret hx hb hr rfl hlk hR hS (by decide) (by decide) dX10_made_82
    · replace hF := xiff c10 hF
      refine x_aload_n (o := (some a0)) hx hb dX10_made_28 rfl (lv_at hl 1 rfl) ?_
      replace hF := xbind hF; obtain ⟨w14, ew14, hF⟩ := hF
      refine x_getR (o := (some a0)) (ci := 10) (C := RX10) (T := TX10) (N := 11) hx hb hts iw_X10 hown hR rfl 5 (by decide) mm_192 (Or.inl rfl) ew14 dX10_made_29 ?_
      refine lv_iload_n hx hb dX10_made_32 rfl (lv_at hl 2 rfl) ?_
      replace hF := xbind hF; obtain ⟨b16, eb16, hF⟩ := hF
      replace hF := xbind hF; obtain ⟨v15, ev15, hF⟩ := hF
      refine x_callV (o := w14) (ci := 4) (As := [.int x1]) (rest := []) (v := (some (.int v15))) (k := 1) hx hb hml hown hts hR hS eb16 rfl rfl (t_X4_fitInto l D G h b16 x1 v15 ev15) f_X4_fitInto mm_542 mm_543 mm_544 rfl hl.1 rfl (by first | exact Nat.le_of_ble_eq_true rfl | simp [xrf_cat, xcI, xcJ, xcA]) dX10_made_33 (by decide) (by decide) rfl (fun H locs hR hS => ?_)
      refine lv_if_eq (tgt := 73) hx hb dX10_made_36 (by decide) (fun c17 => ?_) (fun c17 => ?_)
      · replace hF := xift c17 hF
        refine x_aload_n (o := (some a0)) hx hb dX10_made_73 rfl (lv_at hl 1 rfl) ?_
        replace hF := xbind hF; obtain ⟨w18, ew18, hF⟩ := hF
        refine x_getR (o := (some a0)) (ci := 10) (C := RX10) (T := TX10) (N := 11) hx hb hts iw_X10 hown hR rfl 5 (by decide) mm_192 (Or.inl rfl) ew18 dX10_made_74 ?_
        replace hF := xbind hF; obtain ⟨b20, eb20, hF⟩ := hF
        replace hF := xbind hF; obtain ⟨h19, eh19, hF⟩ := hF
        refine x_callV (o := w18) (ci := 4) (As := []) (rest := []) (v := none) (k := 0) hx hb hml hown hts hR hS eb20 rfl rfl (t_X4_clear l D G h b20 h19 eh19) f_X4_clear mm_564 mm_565 mm_566 rfl hl.1 rfl (by first | exact Nat.le_of_ble_eq_true rfl | simp [xrf_cat, xcI, xcJ, xcA]) dX10_made_77 (by decide) (by decide) rfl (fun H locs hR hS => ?_)
        refine lv_iload hx hb dX10_made_80 (lv_at hl 0 rfl) ?_
        cases hF
        exact x_iret hx hb hr rfl hlk hR hS (by decide) (by decide) dX10_made_82
      · replace hF := xiff c17 hF
        refine lv_iload_n hx hb dX10_made_39 rfl (lv_at hl 4 rfl) ?_
        refine lv_if_ne (tgt := 57) hx hb dX10_made_40 (by decide) (fun c21 => ?_) (fun c21 => ?_)
        · replace hF := xiff c21 hF
          refine lv_iload_n hx hb dX10_made_57 rfl (lv_at hl 4 rfl) ?_
          refine lv_iconst (v := 1) hx hb dX10_made_58 (by decide) ?_
          refine lv_icmp_ne (tgt := 73) hx hb dX10_made_59 (by decide) (fun c22 => ?_) (fun c22 => ?_)
          · replace hF := xiff c22 hF
            refine x_aload_n (o := (some a0)) hx hb dX10_made_73 rfl (lv_at hl 1 rfl) ?_
            replace hF := xbind hF; obtain ⟨w23, ew23, hF⟩ := hF
            refine x_getR (o := (some a0)) (ci := 10) (C := RX10) (T := TX10) (N := 11) hx hb hts iw_X10 hown hR rfl 5 (by decide) mm_192 (Or.inl rfl) ew23 dX10_made_74 ?_
            replace hF := xbind hF; obtain ⟨b25, eb25, hF⟩ := hF
            replace hF := xbind hF; obtain ⟨h24, eh24, hF⟩ := hF
            refine x_callV (o := w23) (ci := 4) (As := []) (rest := []) (v := none) (k := 0) hx hb hml hown hts hR hS eb25 rfl rfl (t_X4_clear l D G h b25 h24 eh24) f_X4_clear mm_564 mm_565 mm_566 rfl hl.1 rfl (by first | exact Nat.le_of_ble_eq_true rfl | simp [xrf_cat, xcI, xcJ, xcA]) dX10_made_77 (by decide) (by decide) rfl (fun H locs hR hS => ?_)
            refine lv_iload hx hb dX10_made_80 (lv_at hl 0 rfl) ?_
            cases hF
            exact x_iret hx hb hr rfl hlk hR hS (by decide) (by decide) dX10_made_82
          · replace hF := xift c22 hF
            refine x_aload_n (o := (some a0)) hx hb dX10_made_62 rfl (lv_at hl 1 rfl) ?_
            replace hF := xbind hF; obtain ⟨w26, ew26, hF⟩ := hF
            refine x_getR (o := (some a0)) (ci := 10) (C := RX10) (T := TX10) (N := 11) hx hb hts iw_X10 hown hR rfl 5 (by decide) mm_192 (Or.inl rfl) ew26 dX10_made_63 ?_
            refine lv_iload_n hx hb dX10_made_66 rfl (lv_at hl 2 rfl) ?_
            refine lv_iload_n hx hb dX10_made_67 rfl (lv_at hl 3 rfl) ?_
            replace hF := xbind hF; obtain ⟨b28, eb28, hF⟩ := hF
            replace hF := xbind hF; obtain ⟨v27, ev27, hF⟩ := hF
            refine x_callV (o := w26) (ci := 4) (As := [.int x1, .int x2]) (rest := []) (v := (some (.int v27))) (k := 2) hx hb hml hown hts hR hS eb28 rfl rfl (t_X4_greatestBad l D G h b28 x1 x2 v27 ev27) f_X4_greatestBad mm_560 mm_561 mm_562 rfl hl.1 rfl (by first | exact Nat.le_of_ble_eq_true rfl | simp [xrf_cat, xcI, xcJ, xcA]) dX10_made_68 (by decide) (by decide) rfl (fun H locs hR hS => ?_)
            refine lv_istore (lv' := [(4, .int v27), (0, va_rf (some a0)), (1, .int x1), (2, .int x2), (3, .int x3)]) hx hb dX10_made_71 hl (by decide) (by first | rfl | (simp [xrf_cat, xcI, xcJ, xcA]; done) | (simp [xrf_cat, xcI, xcJ, xcA]; decide)) (fun ls hl => ?_)
            refine x_aload_n (o := (some a0)) hx hb dX10_made_73 rfl (lv_at hl 1 rfl) ?_
            replace hF := xbind hF; obtain ⟨w29, ew29, hF⟩ := hF
            refine x_getR (o := (some a0)) (ci := 10) (C := RX10) (T := TX10) (N := 11) hx hb hts iw_X10 hown hR rfl 5 (by decide) mm_192 (Or.inl rfl) ew29 dX10_made_74 ?_
            replace hF := xbind hF; obtain ⟨b31, eb31, hF⟩ := hF
            replace hF := xbind hF; obtain ⟨h30, eh30, hF⟩ := hF
            refine x_callV (o := w29) (ci := 4) (As := []) (rest := []) (v := none) (k := 0) hx hb hml hown hts hR hS eb31 rfl rfl (t_X4_clear l D G h b31 h30 eh30) f_X4_clear mm_564 mm_565 mm_566 rfl hl.1 rfl (by first | exact Nat.le_of_ble_eq_true rfl | simp [xrf_cat, xcI, xcJ, xcA]) dX10_made_77 (by decide) (by decide) rfl (fun H locs hR hS => ?_)
            refine lv_iload hx hb dX10_made_80 (lv_at hl 0 rfl) ?_
            cases hF
            exact x_iret hx hb hr rfl hlk hR hS (by decide) (by decide) dX10_made_82
        · replace hF := xift c21 hF
          refine x_aload_n (o := (some a0)) hx hb dX10_made_43 rfl (lv_at hl 1 rfl) ?_
          replace hF := xbind hF; obtain ⟨w32, ew32, hF⟩ := hF
          refine x_getR (o := (some a0)) (ci := 10) (C := RX10) (T := TX10) (N := 11) hx hb hts iw_X10 hown hR rfl 5 (by decide) mm_192 (Or.inl rfl) ew32 dX10_made_44 ?_
          refine lv_iload_n hx hb dX10_made_47 rfl (lv_at hl 2 rfl) ?_
          refine lv_iload_n hx hb dX10_made_48 rfl (lv_at hl 3 rfl) ?_
          replace hF := xbind hF; obtain ⟨b34, eb34, hF⟩ := hF
          replace hF := xbind hF; obtain ⟨v33, ev33, hF⟩ := hF
          refine x_callV (o := w32) (ci := 4) (As := [.int x1, .int x2]) (rest := []) (v := (some (.int v33))) (k := 2) hx hb hml hown hts hR hS eb34 rfl rfl (t_X4_leastBad l D G h b34 x1 x2 v33 ev33) f_X4_leastBad mm_546 mm_547 mm_548 rfl hl.1 rfl (by first | exact Nat.le_of_ble_eq_true rfl | simp [xrf_cat, xcI, xcJ, xcA]) dX10_made_49 (by decide) (by decide) rfl (fun H locs hR hS => ?_)
          refine lv_istore (lv' := [(4, .int v33), (0, va_rf (some a0)), (1, .int x1), (2, .int x2), (3, .int x3)]) hx hb dX10_made_52 hl (by decide) (by first | rfl | (simp [xrf_cat, xcI, xcJ, xcA]; done) | (simp [xrf_cat, xcI, xcJ, xcA]; decide)) (fun ls hl => ?_)
          refine lv_goto (tgt := 73) hx hb dX10_made_54 (by decide) ?_
          refine x_aload_n (o := (some a0)) hx hb dX10_made_73 rfl (lv_at hl 1 rfl) ?_
          replace hF := xbind hF; obtain ⟨w35, ew35, hF⟩ := hF
          refine x_getR (o := (some a0)) (ci := 10) (C := RX10) (T := TX10) (N := 11) hx hb hts iw_X10 hown hR rfl 5 (by decide) mm_192 (Or.inl rfl) ew35 dX10_made_74 ?_
          replace hF := xbind hF; obtain ⟨b37, eb37, hF⟩ := hF
          replace hF := xbind hF; obtain ⟨h36, eh36, hF⟩ := hF
          refine x_callV (o := w35) (ci := 4) (As := []) (rest := []) (v := none) (k := 0) hx hb hml hown hts hR hS eb37 rfl rfl (t_X4_clear l D G h b37 h36 eh36) f_X4_clear mm_564 mm_565 mm_566 rfl hl.1 rfl (by first | exact Nat.le_of_ble_eq_true rfl | simp [xrf_cat, xcI, xcJ, xcA]) dX10_made_77 (by decide) (by decide) rfl (fun H locs hR hS => ?_)
          refine lv_iload hx hb dX10_made_80 (lv_at hl 0 rfl) ?_
          cases hF
          exact x_iret hx hb hr rfl hlk hR hS (by decide) (by decide) dX10_made_82
def rm_X10_alarm : Room := { frames := 7, cells := 2, slots := 68, locals := 171 }
theorem f_X10_alarm : xM yX10_alarm cX10_alarm 6 (some .int) 4 := ⟨mm_571, mm_55, by decide +kernel, by decide +kernel⟩
theorem dX10_alarm_0 : decode cX10_alarm 0 = .ok (.aload_n 0, 1) := by decide +kernel
theorem dX10_alarm_1 : decode cX10_alarm 1 = .ok (.iload_n 1, 1) := by decide +kernel
theorem dX10_alarm_2 : decode cX10_alarm 2 = .ok (.invokevirtual 103, 3) := by decide +kernel
theorem dX10_alarm_5 : decode cX10_alarm 5 = .ok (.astore 5, 2) := by decide +kernel
theorem dX10_alarm_7 : decode cX10_alarm 7 = .ok (.aload 5, 2) := by decide +kernel
theorem dX10_alarm_9 : decode cX10_alarm 9 = .ok (.ifnull 49, 3) := by decide +kernel
theorem dX10_alarm_12 : decode cX10_alarm 12 = .ok (.iload_n 2, 1) := by decide +kernel
theorem dX10_alarm_13 : decode cX10_alarm 13 = .ok (.iconst 1, 1) := by decide +kernel
theorem dX10_alarm_14 : decode cX10_alarm 14 = .ok (.sipush 200, 3) := by decide +kernel
theorem dX10_alarm_17 : decode cX10_alarm 17 = .ok (.invokestatic 66, 3) := by decide +kernel
theorem dX10_alarm_20 : decode cX10_alarm 20 = .ok (.ifCond .eq 38, 3) := by decide +kernel
theorem dX10_alarm_23 : decode cX10_alarm 23 = .ok (.iload_n 3, 1) := by decide +kernel
theorem dX10_alarm_24 : decode cX10_alarm 24 = .ok (.iconst 1, 1) := by decide +kernel
theorem dX10_alarm_25 : decode cX10_alarm 25 = .ok (.iload_n 2, 1) := by decide +kernel
theorem dX10_alarm_26 : decode cX10_alarm 26 = .ok (.invokestatic 66, 3) := by decide +kernel
theorem dX10_alarm_29 : decode cX10_alarm 29 = .ok (.ifCond .eq 29, 3) := by decide +kernel
theorem dX10_alarm_32 : decode cX10_alarm 32 = .ok (.iload 4, 2) := by decide +kernel
theorem dX10_alarm_34 : decode cX10_alarm 34 = .ok (.iconst 1, 1) := by decide +kernel
theorem dX10_alarm_35 : decode cX10_alarm 35 = .ok (.sipush 1000, 3) := by decide +kernel
theorem dX10_alarm_38 : decode cX10_alarm 38 = .ok (.invokestatic 66, 3) := by decide +kernel
theorem dX10_alarm_41 : decode cX10_alarm 41 = .ok (.ifCond .eq 17, 3) := by decide +kernel
theorem dX10_alarm_44 : decode cX10_alarm 44 = .ok (.aload_n 0, 1) := by decide +kernel
theorem dX10_alarm_45 : decode cX10_alarm 45 = .ok (.getfield 22, 3) := by decide +kernel
theorem dX10_alarm_48 : decode cX10_alarm 48 = .ok (.invokeinterface 49 1, 5) := by decide +kernel
theorem dX10_alarm_53 : decode cX10_alarm 53 = .ok (.bipush 8, 2) := by decide +kernel
theorem dX10_alarm_55 : decode cX10_alarm 55 = .ok (.if_icmp .lt 5, 3) := by decide +kernel
theorem dX10_alarm_58 : decode cX10_alarm 58 = .ok (.iconst (-1), 1) := by decide +kernel
theorem dX10_alarm_59 : decode cX10_alarm 59 = .ok (.ireturn, 1) := by decide +kernel
theorem dX10_alarm_60 : decode cX10_alarm 60 = .ok (.aload_n 0, 1) := by decide +kernel
theorem dX10_alarm_61 : decode cX10_alarm 61 = .ok (.getfield 22, 3) := by decide +kernel
theorem dX10_alarm_64 : decode cX10_alarm 64 = .ok (.new 167, 3) := by decide +kernel
theorem dX10_alarm_67 : decode cX10_alarm 67 = .ok (.dup, 1) := by decide +kernel
theorem dX10_alarm_68 : decode cX10_alarm 68 = .ok (.aload 5, 2) := by decide +kernel
theorem dX10_alarm_70 : decode cX10_alarm 70 = .ok (.iload_n 2, 1) := by decide +kernel
theorem dX10_alarm_71 : decode cX10_alarm 71 = .ok (.iload_n 3, 1) := by decide +kernel
theorem dX10_alarm_72 : decode cX10_alarm 72 = .ok (.iload 4, 2) := by decide +kernel
theorem dX10_alarm_74 : decode cX10_alarm 74 = .ok (.invokespecial 169, 3) := by decide +kernel
theorem dX10_alarm_77 : decode cX10_alarm 77 = .ok (.invokeinterface 58 2, 5) := by decide +kernel
theorem dX10_alarm_82 : decode cX10_alarm 82 = .ok (.pop, 1) := by decide +kernel
theorem dX10_alarm_83 : decode cX10_alarm 83 = .ok (.aload_n 0, 1) := by decide +kernel
theorem dX10_alarm_84 : decode cX10_alarm 84 = .ok (.getfield 22, 3) := by decide +kernel
theorem dX10_alarm_87 : decode cX10_alarm 87 = .ok (.invokeinterface 49 1, 5) := by decide +kernel
theorem dX10_alarm_92 : decode cX10_alarm 92 = .ok (.iconst 1, 1) := by decide +kernel
theorem dX10_alarm_93 : decode cX10_alarm 93 = .ok (.isub, 1) := by decide +kernel
theorem dX10_alarm_94 : decode cX10_alarm 94 = .ok (.ireturn, 1) := by decide +kernel
def F_X10_alarm (G : Nat → Nat) (h : xH) (a0 : Nat) (x1 : Int32) (x2 : Int32) (x3 : Int32) (x4 : Int32) : Option (Int32 × xH) :=
  (xc h (some a0) 10).bind fun b2 =>
  (F_X10_promiseAt G h b2 x1).bind fun w1 =>
  if w1 = none then
    some ((-1), h)
  else
  (F_X10_within x2 1 200).bind fun v4 =>
  if v4 = 0 then
    some ((-1), h)
  else
  (F_X10_within x3 1 x2).bind fun v6 =>
  if v6 = 0 then
    some ((-1), h)
  else
  (F_X10_within x4 1 1000).bind fun v8 =>
  if v8 = 0 then
    some ((-1), h)
  else
  (gR h (some a0) 10 3).bind fun w10 =>
  (xc h w10 0).bind fun b12 =>
  (F_Jx4a65c_size_8abf5 G h b12).bind fun v11 =>
  if v11 < 8 then
    (gR h (some a0) 10 3).bind fun w14 =>
    (nO h 1 [.null, .int 0, .int 0, .int 0]).bind fun (q15, h16) =>
    w1.bind fun b17 =>
    (F_X0_init G h16 q15 b17 x2 x3 x4).bind fun h18 =>
    (xc h18 w14 0).bind fun b21 =>
    (F_Jx4a65c_add_9ea2d G h18 b21 q15).bind fun (v19, h20) =>
    (gR h20 (some a0) 10 3).bind fun w22 =>
    (xc h20 w22 0).bind fun b24 =>
    (F_Jx4a65c_size_8abf5 G h20 b24).bind fun v23 =>
    some ((v23 - 1), h20)
  else
  some ((-1), h)
set_option maxHeartbeats 4000000 in
set_option maxRecDepth 100000 in
theorem t_X10_alarm (l : Launch) (D : va_G) (G : Nat → Nat) (h : xH) (a0 : Nat) (x1 : Int32) (x2 : Int32) (x3 : Int32) (x4 : Int32) (r : Int32) (h' : xH) (hF : F_X10_alarm G h a0 x1 x2 x3 x4 = some (r, h')) : xC l yX10_alarm cX10_alarm 6 (some .int) (rm_X10_alarm) D G h [.ref a0, .int x1, .int x2, .int x3, .int x4] (some (.int r)) h' := by
  refine xC_of (by decide) (by first | decide | exact Nat.le_of_ble_eq_true rfl) ?_
  intro p e s m args below meth c ls hx hb hr hlk hml hown hnm hts hR hS hl
  have hl : lv_has ls 6 [(0, va_rf (some a0)), (1, .int x1), (2, .int x2), (3, .int x3), (4, .int x4)] := hl
  unfold F_X10_alarm at hF
  refine x_aload_n (o := (some a0)) hx hb dX10_alarm_0 rfl (lv_at hl 0 rfl) ?_
  refine lv_iload_n hx hb dX10_alarm_1 rfl (lv_at hl 1 rfl) ?_
  replace hF := xbind hF; obtain ⟨b2, eb2, hF⟩ := hF
  replace hF := xbind hF; obtain ⟨w1, ew1, hF⟩ := hF
  refine x_callV (o := (some a0)) (ci := 10) (As := [.int x1]) (rest := []) (v := (some (va_rf w1))) (k := 1) hx hb hml hown hts hR hS eb2 rfl rfl (t_X10_promiseAt l D G h b2 x1 w1 ew1) f_X10_promiseAt mm_437 mm_439 mm_6 rfl hl.1 rfl (by first | exact Nat.le_of_ble_eq_true rfl | simp [xrf_cat, xcI, xcJ, xcA]) dX10_alarm_2 (by decide) (by decide) rfl (fun H locs hR hS => ?_)
  refine x_astore (o := w1) (lv' := [(5, va_rf w1), (0, va_rf (some a0)), (1, .int x1), (2, .int x2), (3, .int x3), (4, .int x4)]) hx hb dX10_alarm_5 hl (by decide) (by first | rfl | (simp [xrf_cat, xcI, xcJ, xcA]; done) | (simp [xrf_cat, xcI, xcJ, xcA]; decide)) (fun ls hl => ?_)
  refine x_aload (o := w1) hx hb dX10_alarm_7 (lv_at hl 0 rfl) ?_
  refine x_ifnull (o := w1) (tgt := 58) hx hb dX10_alarm_9 (by decide) (fun c3 => ?_) (fun c3 => ?_)
  · replace hF := xift c3 hF
    refine lv_iconst (v := (-1)) hx hb dX10_alarm_58 (by decide) ?_
    cases hF
    exact x_iret hx hb hr rfl hlk hR hS (by decide) (by decide) dX10_alarm_59
  · replace hF := xiff c3 hF
    refine lv_iload_n hx hb dX10_alarm_12 rfl (lv_at hl 3 rfl) ?_
    refine lv_iconst (v := 1) hx hb dX10_alarm_13 (by decide) ?_
    refine lv_sipush (v := 200) hx hb dX10_alarm_14 (by decide) ?_
    replace hF := xbind hF; obtain ⟨v4, ev4, hF⟩ := hF
    refine x_callS (As := [.int x2, .int 1, .int 200]) (rest := []) (v := (some (.int v4))) (k := 3) hx hb hml hown hts hR hS (t_X10_within l D G h x2 1 200 v4 ev4) f_X10_within mm_347 mm_348 rfl hl.1 rfl (by first | exact Nat.le_of_ble_eq_true rfl | simp [xrf_cat, xcI, xcJ, xcA]) dX10_alarm_17 (by decide) (by decide) rfl (fun H locs hR hS => ?_)
    refine lv_if_eq (tgt := 58) hx hb dX10_alarm_20 (by decide) (fun c5 => ?_) (fun c5 => ?_)
    · replace hF := xift c5 hF
      refine lv_iconst (v := (-1)) hx hb dX10_alarm_58 (by decide) ?_
      cases hF
      exact x_iret hx hb hr rfl hlk hR hS (by decide) (by decide) dX10_alarm_59
    · replace hF := xiff c5 hF
      refine lv_iload_n hx hb dX10_alarm_23 rfl (lv_at hl 4 rfl) ?_
      refine lv_iconst (v := 1) hx hb dX10_alarm_24 (by decide) ?_
      refine lv_iload_n hx hb dX10_alarm_25 rfl (lv_at hl 3 rfl) ?_
      replace hF := xbind hF; obtain ⟨v6, ev6, hF⟩ := hF
      refine x_callS (As := [.int x3, .int 1, .int x2]) (rest := []) (v := (some (.int v6))) (k := 3) hx hb hml hown hts hR hS (t_X10_within l D G h x3 1 x2 v6 ev6) f_X10_within mm_347 mm_348 rfl hl.1 rfl (by first | exact Nat.le_of_ble_eq_true rfl | simp [xrf_cat, xcI, xcJ, xcA]) dX10_alarm_26 (by decide) (by decide) rfl (fun H locs hR hS => ?_)
      refine lv_if_eq (tgt := 58) hx hb dX10_alarm_29 (by decide) (fun c7 => ?_) (fun c7 => ?_)
      · replace hF := xift c7 hF
        refine lv_iconst (v := (-1)) hx hb dX10_alarm_58 (by decide) ?_
        cases hF
        exact x_iret hx hb hr rfl hlk hR hS (by decide) (by decide) dX10_alarm_59
      · replace hF := xiff c7 hF
        refine lv_iload hx hb dX10_alarm_32 (lv_at hl 5 rfl) ?_
        refine lv_iconst (v := 1) hx hb dX10_alarm_34 (by decide) ?_
        refine lv_sipush (v := 1000) hx hb dX10_alarm_35 (by decide) ?_
        replace hF := xbind hF; obtain ⟨v8, ev8, hF⟩ := hF
        refine x_callS (As := [.int x4, .int 1, .int 1000]) (rest := []) (v := (some (.int v8))) (k := 3) hx hb hml hown hts hR hS (t_X10_within l D G h x4 1 1000 v8 ev8) f_X10_within mm_347 mm_348 rfl hl.1 rfl (by first | exact Nat.le_of_ble_eq_true rfl | simp [xrf_cat, xcI, xcJ, xcA]) dX10_alarm_38 (by decide) (by decide) rfl (fun H locs hR hS => ?_)
        refine lv_if_eq (tgt := 58) hx hb dX10_alarm_41 (by decide) (fun c9 => ?_) (fun c9 => ?_)
        · replace hF := xift c9 hF
          refine lv_iconst (v := (-1)) hx hb dX10_alarm_58 (by decide) ?_
          cases hF
          exact x_iret hx hb hr rfl hlk hR hS (by decide) (by decide) dX10_alarm_59
        · replace hF := xiff c9 hF
          refine x_aload_n (o := (some a0)) hx hb dX10_alarm_44 rfl (lv_at hl 1 rfl) ?_
          replace hF := xbind hF; obtain ⟨w10, ew10, hF⟩ := hF
          refine x_getR (o := (some a0)) (ci := 10) (C := RX10) (T := TX10) (N := 11) hx hb hts iw_X10 hown hR rfl 3 (by decide) mm_190 (Or.inl rfl) ew10 dX10_alarm_45 ?_
          replace hF := xbind hF; obtain ⟨b12, eb12, hF⟩ := hF
          replace hF := xbind hF; obtain ⟨v11, ev11, hF⟩ := hF
          refine x_callF (o := w10) (ci := 0) (As := []) (rest := []) (v := (some (.int v11))) (k := 0) hx hb hml hown hts hR hS eb12 rfl (by decide +kernel) (t_Jx4a65c_size_8abf5 l D G h b12 v11 ev11) f_Jx4a65c_size_8abf5 mm_226 mm_232 mm_230 (by decide +kernel) rfl hl.1 rfl (by first | exact Nat.le_of_ble_eq_true rfl | simp [xrf_cat, xcI, xcJ, xcA]) dX10_alarm_48 (by decide) (by decide) rfl (fun H locs hR hS => ?_)
          refine lv_bipush (v := 8) hx hb dX10_alarm_53 (by decide) ?_
          refine lv_icmp_lt (tgt := 60) hx hb dX10_alarm_55 (by decide) (fun c13 => ?_) (fun c13 => ?_)
          · replace hF := xift c13 hF
            refine x_aload_n (o := (some a0)) hx hb dX10_alarm_60 rfl (lv_at hl 1 rfl) ?_
            replace hF := xbind hF; obtain ⟨w14, ew14, hF⟩ := hF
            refine x_getR (o := (some a0)) (ci := 10) (C := RX10) (T := TX10) (N := 11) hx hb hts iw_X10 hown hR rfl 3 (by decide) mm_190 (Or.inl rfl) ew14 dX10_alarm_61 ?_
            replace hF := xbind hF; obtain ⟨⟨q15, h16⟩, eq15, hF⟩ := hF
            refine x_newO (C := RX0) (T := TX0) (N := 4) (ci := 1) hx hb hts iw_X0 tyX0_ok hown mm_572 mm_573 mm_76 hR hS rfl (by decide) (by decide) (by decide) eq15 dX10_alarm_64 (fun H hR hS => ?_)
            refine lv_dup hx hb dX10_alarm_67 xrf_cat ?_
            refine x_aload (o := w1) hx hb dX10_alarm_68 (lv_at hl 0 rfl) ?_
            refine lv_iload_n hx hb dX10_alarm_70 rfl (lv_at hl 3 rfl) ?_
            refine lv_iload_n hx hb dX10_alarm_71 rfl (lv_at hl 4 rfl) ?_
            refine lv_iload hx hb dX10_alarm_72 (lv_at hl 5 rfl) ?_
            replace hF := xbind hF; obtain ⟨b17, eb17, hF⟩ := hF
            subst eb17
            replace hF := xbind hF; obtain ⟨h18, eh18, hF⟩ := hF
            refine x_callI (o := (some q15)) (As := [.ref b17, .int x2, .int x3, .int x4]) (rest := [va_rf (some q15), va_rf w14]) (v := none) (k := 4) hx hb hml hown hts hR hS rfl (t_X0_init l D G h16 q15 b17 x2 x3 x4 h18 eh18) f_X0_init mm_574 mm_575 rfl rfl hl.1 rfl (by first | exact Nat.le_of_ble_eq_true rfl | simp [xrf_cat, xcI, xcJ, xcA]) dX10_alarm_74 (by decide) (by decide) rfl (fun H locs hR hS => ?_)
            replace hF := xbind hF; obtain ⟨b21, eb21, hF⟩ := hF
            replace hF := xbind hF; obtain ⟨⟨v19, h20⟩, ev19, hF⟩ := hF
            refine x_callF (o := w14) (ci := 0) (As := [.ref q15]) (rest := []) (v := (some (.int v19))) (k := 1) hx hb hml hown hts hR hS eb21 rfl (by decide +kernel) (t_Jx4a65c_add_9ea2d l D G h18 b21 q15 v19 h20 ev19) f_Jx4a65c_add_9ea2d mm_256 mm_261 mm_259 (by decide +kernel) rfl hl.1 rfl (by first | exact Nat.le_of_ble_eq_true rfl | simp [xrf_cat, xcI, xcJ, xcA]) dX10_alarm_77 (by decide) (by decide) rfl (fun H locs hR hS => ?_)
            refine lv_pop hx hb dX10_alarm_82 rfl ?_
            refine x_aload_n (o := (some a0)) hx hb dX10_alarm_83 rfl (lv_at hl 1 rfl) ?_
            replace hF := xbind hF; obtain ⟨w22, ew22, hF⟩ := hF
            refine x_getR (o := (some a0)) (ci := 10) (C := RX10) (T := TX10) (N := 11) hx hb hts iw_X10 hown hR rfl 3 (by decide) mm_190 (Or.inl rfl) ew22 dX10_alarm_84 ?_
            replace hF := xbind hF; obtain ⟨b24, eb24, hF⟩ := hF
            replace hF := xbind hF; obtain ⟨v23, ev23, hF⟩ := hF
            refine x_callF (o := w22) (ci := 0) (As := []) (rest := []) (v := (some (.int v23))) (k := 0) hx hb hml hown hts hR hS eb24 rfl (by decide +kernel) (t_Jx4a65c_size_8abf5 l D G h20 b24 v23 ev23) f_Jx4a65c_size_8abf5 mm_226 mm_232 mm_230 (by decide +kernel) rfl hl.1 rfl (by first | exact Nat.le_of_ble_eq_true rfl | simp [xrf_cat, xcI, xcJ, xcA]) dX10_alarm_87 (by decide) (by decide) rfl (fun H locs hR hS => ?_)
            refine lv_iconst (v := 1) hx hb dX10_alarm_92 (by decide) ?_
            refine lv_isub hx hb dX10_alarm_93 ?_
            cases hF
            exact x_iret hx hb hr rfl hlk hR hS (by decide) (by decide) dX10_alarm_94
          · replace hF := xiff c13 hF
            refine lv_iconst (v := (-1)) hx hb dX10_alarm_58 (by decide) ?_
            cases hF
            exact x_iret hx hb hr rfl hlk hR hS (by decide) (by decide) dX10_alarm_59
def rm_X10_rings : Room := { frames := 5, cells := 0, slots := 0, locals := 118 }
theorem f_X10_rings : xM yX10_rings cX10_rings 4 (some .int) 2 := ⟨mm_595, mm_55, by decide +kernel, by decide +kernel⟩
theorem dX10_rings_0 : decode cX10_rings 0 = .ok (.aload_n 0, 1) := by decide +kernel
theorem dX10_rings_1 : decode cX10_rings 1 = .ok (.iload_n 1, 1) := by decide +kernel
theorem dX10_rings_2 : decode cX10_rings 2 = .ok (.invokevirtual 172, 3) := by decide +kernel
theorem dX10_rings_5 : decode cX10_rings 5 = .ok (.astore_n 3, 1) := by decide +kernel
theorem dX10_rings_6 : decode cX10_rings 6 = .ok (.aload_n 3, 1) := by decide +kernel
theorem dX10_rings_7 : decode cX10_rings 7 = .ok (.ifnull 14, 3) := by decide +kernel
theorem dX10_rings_10 : decode cX10_rings 10 = .ok (.iload_n 2, 1) := by decide +kernel
theorem dX10_rings_11 : decode cX10_rings 11 = .ok (.iconst 0, 1) := by decide +kernel
theorem dX10_rings_12 : decode cX10_rings 12 = .ok (.sipush 600, 3) := by decide +kernel
theorem dX10_rings_15 : decode cX10_rings 15 = .ok (.invokestatic 66, 3) := by decide +kernel
theorem dX10_rings_18 : decode cX10_rings 18 = .ok (.ifCond .ne 5, 3) := by decide +kernel
theorem dX10_rings_21 : decode cX10_rings 21 = .ok (.iconst (-1), 1) := by decide +kernel
theorem dX10_rings_22 : decode cX10_rings 22 = .ok (.ireturn, 1) := by decide +kernel
theorem dX10_rings_23 : decode cX10_rings 23 = .ok (.aload_n 3, 1) := by decide +kernel
theorem dX10_rings_24 : decode cX10_rings 24 = .ok (.aload_n 3, 1) := by decide +kernel
theorem dX10_rings_25 : decode cX10_rings 25 = .ok (.getfield 176, 3) := by decide +kernel
theorem dX10_rings_28 : decode cX10_rings 28 = .ok (.getfield 180, 3) := by decide +kernel
theorem dX10_rings_31 : decode cX10_rings 31 = .ok (.iload_n 2, 1) := by decide +kernel
theorem dX10_rings_32 : decode cX10_rings 32 = .ok (.invokevirtual 184, 3) := by decide +kernel
theorem dX10_rings_35 : decode cX10_rings 35 = .ok (.ifCond .eq 7, 3) := by decide +kernel
theorem dX10_rings_38 : decode cX10_rings 38 = .ok (.iconst 1, 1) := by decide +kernel
theorem dX10_rings_39 : decode cX10_rings 39 = .ok (.goto 4, 3) := by decide +kernel
theorem dX10_rings_42 : decode cX10_rings 42 = .ok (.iconst 0, 1) := by decide +kernel
theorem dX10_rings_43 : decode cX10_rings 43 = .ok (.ireturn, 1) := by decide +kernel
def F_X10_rings (G : Nat → Nat) (h : xH) (a0 : Nat) (x1 : Int32) (x2 : Int32) : Option Int32 :=
  (xc h (some a0) 10).bind fun b2 =>
  (F_X10_alarmAt G h b2 x1).bind fun w1 =>
  if w1 = none then
    some (-1)
  else
  (F_X10_within x2 0 600).bind fun v4 =>
  if v4 = 0 then
    some (-1)
  else
  (gR h w1 1 0).bind fun w6 =>
  (gR h w6 6 0).bind fun w7 =>
  w7.bind fun b8 =>
  (xc h w1 1).bind fun b10 =>
  (F_X0_ringsIn G h b10 b8 x2).bind fun v9 =>
  if v9 = 0 then
    some 0
  else
  some 1
set_option maxHeartbeats 4000000 in
set_option maxRecDepth 100000 in
theorem t_X10_rings (l : Launch) (D : va_G) (G : Nat → Nat) (h : xH) (a0 : Nat) (x1 : Int32) (x2 : Int32) (r : Int32) (hF : F_X10_rings G h a0 x1 x2 = some r) : xC l yX10_rings cX10_rings 4 (some .int) (rm_X10_rings) D G h [.ref a0, .int x1, .int x2] (some (.int r)) h := by
  refine xC_of (by decide) (by first | decide | exact Nat.le_of_ble_eq_true rfl) ?_
  intro p e s m args below meth c ls hx hb hr hlk hml hown hnm hts hR hS hl
  have hl : lv_has ls 4 [(0, va_rf (some a0)), (1, .int x1), (2, .int x2)] := hl
  unfold F_X10_rings at hF
  refine x_aload_n (o := (some a0)) hx hb dX10_rings_0 rfl (lv_at hl 0 rfl) ?_
  refine lv_iload_n hx hb dX10_rings_1 rfl (lv_at hl 1 rfl) ?_
  replace hF := xbind hF; obtain ⟨b2, eb2, hF⟩ := hF
  replace hF := xbind hF; obtain ⟨w1, ew1, hF⟩ := hF
  refine x_callV (o := (some a0)) (ci := 10) (As := [.int x1]) (rest := []) (v := (some (va_rf w1))) (k := 1) hx hb hml hown hts hR hS eb2 rfl rfl (t_X10_alarmAt l D G h b2 x1 w1 ew1) f_X10_alarmAt mm_596 mm_598 mm_15 rfl hl.1 rfl (by first | exact Nat.le_of_ble_eq_true rfl | simp [xrf_cat, xcI, xcJ, xcA]) dX10_rings_2 (by decide) (by decide) rfl (fun H locs hR hS => ?_)
  refine x_astore_n (o := w1) (lv' := [(3, va_rf w1), (0, va_rf (some a0)), (1, .int x1), (2, .int x2)]) hx hb dX10_rings_5 rfl hl (by decide) (by first | rfl | (simp [xrf_cat, xcI, xcJ, xcA]; done) | (simp [xrf_cat, xcI, xcJ, xcA]; decide)) (fun ls hl => ?_)
  refine x_aload_n (o := w1) hx hb dX10_rings_6 rfl (lv_at hl 0 rfl) ?_
  refine x_ifnull (o := w1) (tgt := 21) hx hb dX10_rings_7 (by decide) (fun c3 => ?_) (fun c3 => ?_)
  · replace hF := xift c3 hF
    refine lv_iconst (v := (-1)) hx hb dX10_rings_21 (by decide) ?_
    cases hF
    exact x_iret hx hb hr rfl hlk hR hS (by decide) (by decide) dX10_rings_22
  · replace hF := xiff c3 hF
    refine lv_iload_n hx hb dX10_rings_10 rfl (lv_at hl 3 rfl) ?_
    refine lv_iconst (v := 0) hx hb dX10_rings_11 (by decide) ?_
    refine lv_sipush (v := 600) hx hb dX10_rings_12 (by decide) ?_
    replace hF := xbind hF; obtain ⟨v4, ev4, hF⟩ := hF
    refine x_callS (As := [.int x2, .int 0, .int 600]) (rest := []) (v := (some (.int v4))) (k := 3) hx hb hml hown hts hR hS (t_X10_within l D G h x2 0 600 v4 ev4) f_X10_within mm_347 mm_348 rfl hl.1 rfl (by first | exact Nat.le_of_ble_eq_true rfl | simp [xrf_cat, xcI, xcJ, xcA]) dX10_rings_15 (by decide) (by decide) rfl (fun H locs hR hS => ?_)
    refine lv_if_ne (tgt := 23) hx hb dX10_rings_18 (by decide) (fun c5 => ?_) (fun c5 => ?_)
    · replace hF := xiff c5 hF
      refine x_aload_n (o := w1) hx hb dX10_rings_23 rfl (lv_at hl 0 rfl) ?_
      refine x_aload_n (o := w1) hx hb dX10_rings_24 rfl (lv_at hl 0 rfl) ?_
      replace hF := xbind hF; obtain ⟨w6, ew6, hF⟩ := hF
      refine x_getR (o := w1) (ci := 1) (C := RX0) (T := TX0) (N := 4) hx hb hts iw_X0 hown hR rfl 0 (by decide) mm_579 (Or.inl rfl) ew6 dX10_rings_25 ?_
      replace hF := xbind hF; obtain ⟨w7, ew7, hF⟩ := hF
      refine x_getR (o := w6) (ci := 6) (C := RX6) (T := TX6) (N := 6) hx hb hts iw_X6 hown hR rfl 0 (by decide) mm_414 (Or.inl rfl) ew7 dX10_rings_28 ?_
      refine lv_iload_n hx hb dX10_rings_31 rfl (lv_at hl 3 rfl) ?_
      replace hF := xbind hF; obtain ⟨b8, eb8, hF⟩ := hF
      subst eb8
      replace hF := xbind hF; obtain ⟨b10, eb10, hF⟩ := hF
      replace hF := xbind hF; obtain ⟨v9, ev9, hF⟩ := hF
      refine x_callV (o := w1) (ci := 1) (As := [.ref b8, .int x2]) (rest := []) (v := (some (.int v9))) (k := 2) hx hb hml hown hts hR hS eb10 rfl rfl (t_X0_ringsIn l D G h b10 b8 x2 v9 ev9) f_X0_ringsIn mm_600 mm_601 mm_602 rfl hl.1 rfl (by first | exact Nat.le_of_ble_eq_true rfl | simp [xrf_cat, xcI, xcJ, xcA]) dX10_rings_32 (by decide) (by decide) rfl (fun H locs hR hS => ?_)
      refine lv_if_eq (tgt := 42) hx hb dX10_rings_35 (by decide) (fun c11 => ?_) (fun c11 => ?_)
      · replace hF := xift c11 hF
        refine lv_iconst (v := 0) hx hb dX10_rings_42 (by decide) ?_
        cases hF
        exact x_iret hx hb hr rfl hlk hR hS (by decide) (by decide) dX10_rings_43
      · replace hF := xiff c11 hF
        refine lv_iconst (v := 1) hx hb dX10_rings_38 (by decide) ?_
        refine lv_goto (tgt := 43) hx hb dX10_rings_39 (by decide) ?_
        cases hF
        exact x_iret hx hb hr rfl hlk hR hS (by decide) (by decide) dX10_rings_43
    · replace hF := xift c5 hF
      refine lv_iconst (v := (-1)) hx hb dX10_rings_21 (by decide) ?_
      cases hF
      exact x_iret hx hb hr rfl hlk hR hS (by decide) (by decide) dX10_rings_22
def rm_X10_soonest : Room := { frames := 5, cells := 1, slots := 2, locals := 118 }
theorem f_X10_soonest : xM yX10_soonest cX10_soonest 8 (some .int) 4 := ⟨mm_640, mm_55, by decide +kernel, by decide +kernel⟩
theorem dX10_soonest_0 : decode cX10_soonest 0 = .ok (.aload_n 0, 1) := by decide +kernel
theorem dX10_soonest_1 : decode cX10_soonest 1 = .ok (.iload_n 1, 1) := by decide +kernel
theorem dX10_soonest_2 : decode cX10_soonest 2 = .ok (.invokevirtual 172, 3) := by decide +kernel
theorem dX10_soonest_5 : decode cX10_soonest 5 = .ok (.astore 5, 2) := by decide +kernel
theorem dX10_soonest_7 : decode cX10_soonest 7 = .ok (.aload 5, 2) := by decide +kernel
theorem dX10_soonest_9 : decode cX10_soonest 9 = .ok (.ifnull 21, 3) := by decide +kernel
theorem dX10_soonest_12 : decode cX10_soonest 12 = .ok (.iload_n 2, 1) := by decide +kernel
theorem dX10_soonest_13 : decode cX10_soonest 13 = .ok (.iload_n 3, 1) := by decide +kernel
theorem dX10_soonest_14 : decode cX10_soonest 14 = .ok (.invokestatic 188, 3) := by decide +kernel
theorem dX10_soonest_17 : decode cX10_soonest 17 = .ok (.ifCond .eq 13, 3) := by decide +kernel
theorem dX10_soonest_20 : decode cX10_soonest 20 = .ok (.iload 4, 2) := by decide +kernel
theorem dX10_soonest_22 : decode cX10_soonest 22 = .ok (.iconst 0, 1) := by decide +kernel
theorem dX10_soonest_23 : decode cX10_soonest 23 = .ok (.iconst 1, 1) := by decide +kernel
theorem dX10_soonest_24 : decode cX10_soonest 24 = .ok (.invokestatic 66, 3) := by decide +kernel
theorem dX10_soonest_27 : decode cX10_soonest 27 = .ok (.ifCond .ne 5, 3) := by decide +kernel
theorem dX10_soonest_30 : decode cX10_soonest 30 = .ok (.iconst (-1), 1) := by decide +kernel
theorem dX10_soonest_31 : decode cX10_soonest 31 = .ok (.ireturn, 1) := by decide +kernel
theorem dX10_soonest_32 : decode cX10_soonest 32 = .ok (.new 191, 3) := by decide +kernel
theorem dX10_soonest_35 : decode cX10_soonest 35 = .ok (.dup, 1) := by decide +kernel
theorem dX10_soonest_36 : decode cX10_soonest 36 = .ok (.iload_n 2, 1) := by decide +kernel
theorem dX10_soonest_37 : decode cX10_soonest 37 = .ok (.iload_n 3, 1) := by decide +kernel
theorem dX10_soonest_38 : decode cX10_soonest 38 = .ok (.invokespecial 193, 3) := by decide +kernel
theorem dX10_soonest_41 : decode cX10_soonest 41 = .ok (.astore 6, 2) := by decide +kernel
theorem dX10_soonest_43 : decode cX10_soonest 43 = .ok (.iconst 0, 1) := by decide +kernel
theorem dX10_soonest_44 : decode cX10_soonest 44 = .ok (.istore 7, 2) := by decide +kernel
theorem dX10_soonest_46 : decode cX10_soonest 46 = .ok (.iload 7, 2) := by decide +kernel
theorem dX10_soonest_48 : decode cX10_soonest 48 = .ok (.sipush 599, 3) := by decide +kernel
theorem dX10_soonest_51 : decode cX10_soonest 51 = .ok (.if_icmp .gt 40, 3) := by decide +kernel
theorem dX10_soonest_54 : decode cX10_soonest 54 = .ok (.aload 5, 2) := by decide +kernel
theorem dX10_soonest_56 : decode cX10_soonest 56 = .ok (.aload 6, 2) := by decide +kernel
theorem dX10_soonest_58 : decode cX10_soonest 58 = .ok (.iload 7, 2) := by decide +kernel
theorem dX10_soonest_60 : decode cX10_soonest 60 = .ok (.invokevirtual 184, 3) := by decide +kernel
theorem dX10_soonest_63 : decode cX10_soonest 63 = .ok (.ifCond .eq 22, 3) := by decide +kernel
theorem dX10_soonest_66 : decode cX10_soonest 66 = .ok (.iload 4, 2) := by decide +kernel
theorem dX10_soonest_68 : decode cX10_soonest 68 = .ok (.ifCond .ne 8, 3) := by decide +kernel
theorem dX10_soonest_71 : decode cX10_soonest 71 = .ok (.iload 7, 2) := by decide +kernel
theorem dX10_soonest_73 : decode cX10_soonest 73 = .ok (.goto 11, 3) := by decide +kernel
theorem dX10_soonest_76 : decode cX10_soonest 76 = .ok (.aload 6, 2) := by decide +kernel
theorem dX10_soonest_78 : decode cX10_soonest 78 = .ok (.iconst 0, 1) := by decide +kernel
theorem dX10_soonest_79 : decode cX10_soonest 79 = .ok (.iload 7, 2) := by decide +kernel
theorem dX10_soonest_81 : decode cX10_soonest 81 = .ok (.invokevirtual 196, 3) := by decide +kernel
theorem dX10_soonest_84 : decode cX10_soonest 84 = .ok (.ireturn, 1) := by decide +kernel
theorem dX10_soonest_85 : decode cX10_soonest 85 = .ok (.iinc 7 1, 3) := by decide +kernel
theorem dX10_soonest_88 : decode cX10_soonest 88 = .ok (.goto (-42), 3) := by decide +kernel
theorem dX10_soonest_91 : decode cX10_soonest 91 = .ok (.iconst (-1), 1) := by decide +kernel
theorem dX10_soonest_92 : decode cX10_soonest 92 = .ok (.ireturn, 1) := by decide +kernel
def F_X10_soonest_46 (G : Nat → Nat) (h : xH) (x4 : Int32) (o5 : Option Nat) (a6 : Nat) : Nat → Int32 → Option (Int32 × xH)
  | 0, _ => none
  | n + 1, x7 =>
    if 599 < x7 then
      some ((-1), h)
    else
    (xc h o5 1).bind fun b13 =>
    (F_X0_ringsIn G h b13 a6 x7).bind fun v12 =>
    if v12 = 0 then
      xl (x7 + 1) fun v15 =>
      F_X10_soonest_46 G h x4 o5 a6 n v15
    else
    if x4 = 0 then
      some (x7, h)
    else
    (xc h (some a6) 9).bind fun b18 =>
    (F_X9_badIn G h b18 0 x7).bind fun v17 =>
    some (v17, h)
set_option maxHeartbeats 4000000 in
set_option maxRecDepth 100000 in
theorem tl_X10_soonest_46 {p : Program} {l : Launch} {e : Env} {s : State} {m : MethodId} {args : Array Value} {below : List Frame} {meth : Method} {c : Code} {D : va_G} {r : Int32} {h' : xH} (hx : p.tables.exec = Jvm.exec) (hb : c.code = cX10_soonest) (hr : meth.sig.returnType = (some .int)) (hlk : meth.locks = false) (hml : c.maxLocals = 8) (hown : s.vm.findClass RX10 = some m.cls) (hnm : meth.name = "soonest") (hts : ∀ w ∈ xt, w.before args s = true) (G : Nat → Nat) (h : xH) (x4 : Int32) (o5 : Option Nat) (a6 : Nat) : ∀ (n : Nat) (x7 : Int32) (H : Heap) (locs : List Loc) (ls : Array Slot), F_X10_soonest_46 G h x4 o5 a6 n x7 = some (r, h') → xR D G h s H → va_S (xA G) s.heap H locs → lv_has ls 8 [(4, .int x4), (5, va_rf o5), (6, va_rf (some a6)), (7, .int x7)] → W p l e rm_X10_soonest s m args below meth c H locs 1 2 (MQ below (xQ D G (some (.int r)) h') args s rm_X10_soonest.cells rm_X10_soonest.slots (xA G)) (F0 m 46 ls []) := by
  intro n
  induction n with
  | zero =>
    intro x7 H locs ls hF
    rw [F_X10_soonest_46.eq_1] at hF
    cases hF
  | succ n ih =>
    intro x7 H locs ls hF hR hS hl
    rw [F_X10_soonest_46.eq_2] at hF
    refine lv_iload hx hb dX10_soonest_46 (lv_at hl 3 rfl) ?_
    refine lv_sipush (v := 599) hx hb dX10_soonest_48 (by decide) ?_
    refine lv_icmp_gt (tgt := 91) hx hb dX10_soonest_51 (by decide) (fun c11 => ?_) (fun c11 => ?_)
    · replace hF := xift c11 hF
      refine lv_iconst (v := (-1)) hx hb dX10_soonest_91 (by decide) ?_
      cases hF
      exact x_iret hx hb hr rfl hlk hR hS (by decide) (by decide) dX10_soonest_92
    · replace hF := xiff c11 hF
      refine x_aload (o := o5) hx hb dX10_soonest_54 (lv_at hl 1 rfl) ?_
      refine x_aload (o := (some a6)) hx hb dX10_soonest_56 (lv_at hl 2 rfl) ?_
      refine lv_iload hx hb dX10_soonest_58 (lv_at hl 3 rfl) ?_
      replace hF := xbind hF; obtain ⟨b13, eb13, hF⟩ := hF
      replace hF := xbind hF; obtain ⟨v12, ev12, hF⟩ := hF
      refine x_callV (o := o5) (ci := 1) (As := [.ref a6, .int x7]) (rest := []) (v := (some (.int v12))) (k := 2) hx hb hml hown hts hR hS eb13 rfl rfl (t_X0_ringsIn l D G h b13 a6 x7 v12 ev12) f_X0_ringsIn mm_600 mm_601 mm_602 rfl hl.1 rfl (by first | exact Nat.le_of_ble_eq_true rfl | simp [xrf_cat, xcI, xcJ, xcA]) dX10_soonest_60 (by decide) (by decide) rfl (fun H locs hR hS => ?_)
      refine lv_if_eq (tgt := 85) hx hb dX10_soonest_63 (by decide) (fun c14 => ?_) (fun c14 => ?_)
      · replace hF := xift c14 hF
        obtain ⟨v15, ev15⟩ : ∃ z : Int32, z = (x7 + 1) := ⟨_, rfl⟩
        replace hF := xlet ev15 hF
        refine lv_iinc (v := v15) (lv' := [(7, .int v15), (4, .int x4), (5, va_rf o5), (6, va_rf (some a6))]) hx hb dX10_soonest_85 hl (k := 3) rfl (by rw [ev15]; rfl) (by decide) (by first | rfl | (simp [xrf_cat, xcI, xcJ, xcA]; done) | (simp [xrf_cat, xcI, xcJ, xcA]; decide)) (fun ls hl => ?_)
        refine lv_goto (tgt := 46) hx hb dX10_soonest_88 (by decide) ?_
        exact ih v15 _ _ _ hF hR hS (lv_sub hl [1, 2, 3, 0] rfl)
      · replace hF := xiff c14 hF
        refine lv_iload hx hb dX10_soonest_66 (lv_at hl 0 rfl) ?_
        refine lv_if_ne (tgt := 76) hx hb dX10_soonest_68 (by decide) (fun c16 => ?_) (fun c16 => ?_)
        · replace hF := xiff c16 hF
          refine x_aload (o := (some a6)) hx hb dX10_soonest_76 (lv_at hl 2 rfl) ?_
          refine lv_iconst (v := 0) hx hb dX10_soonest_78 (by decide) ?_
          refine lv_iload hx hb dX10_soonest_79 (lv_at hl 3 rfl) ?_
          replace hF := xbind hF; obtain ⟨b18, eb18, hF⟩ := hF
          replace hF := xbind hF; obtain ⟨v17, ev17, hF⟩ := hF
          refine x_callV (o := (some a6)) (ci := 9) (As := [.int 0, .int x7]) (rest := []) (v := (some (.int v17))) (k := 2) hx hb hml hown hts hR hS eb18 rfl rfl (t_X9_badIn l D G h b18 0 x7 v17 ev17) f_X9_badIn mm_658 mm_632 mm_1256 rfl hl.1 rfl (by first | exact Nat.le_of_ble_eq_true rfl | simp [xrf_cat, xcI, xcJ, xcA]) dX10_soonest_81 (by decide) (by decide) rfl (fun H locs hR hS => ?_)
          cases hF
          exact x_iret hx hb hr rfl hlk hR hS (by decide) (by decide) dX10_soonest_84
        · replace hF := xift c16 hF
          refine lv_iload hx hb dX10_soonest_71 (lv_at hl 3 rfl) ?_
          refine lv_goto (tgt := 84) hx hb dX10_soonest_73 (by decide) ?_
          cases hF
          exact x_iret hx hb hr rfl hlk hR hS (by decide) (by decide) dX10_soonest_84
def F_X10_soonest (G : Nat → Nat) (h : xH) (a0 : Nat) (x1 : Int32) (x2 : Int32) (x3 : Int32) (x4 : Int32) : Option (Int32 × xH) :=
  (xc h (some a0) 10).bind fun b2 =>
  (F_X10_alarmAt G h b2 x1).bind fun w1 =>
  if w1 = none then
    some ((-1), h)
  else
  (F_X10_isSteady x2 x3).bind fun v4 =>
  if v4 = 0 then
    some ((-1), h)
  else
  (F_X10_within x4 0 1).bind fun v6 =>
  if v6 = 0 then
    some ((-1), h)
  else
  (nO h 9 [.int 0, .int 0]).bind fun (q8, h9) =>
  (F_X9_init G h9 q8 x2 x3).bind fun h10 =>
  F_X10_soonest_46 G h10 x4 w1 q8 xN 0
set_option maxHeartbeats 4000000 in
set_option maxRecDepth 100000 in
theorem t_X10_soonest (l : Launch) (D : va_G) (G : Nat → Nat) (h : xH) (a0 : Nat) (x1 : Int32) (x2 : Int32) (x3 : Int32) (x4 : Int32) (r : Int32) (h' : xH) (hF : F_X10_soonest G h a0 x1 x2 x3 x4 = some (r, h')) : xC l yX10_soonest cX10_soonest 8 (some .int) (rm_X10_soonest) D G h [.ref a0, .int x1, .int x2, .int x3, .int x4] (some (.int r)) h' := by
  refine xC_of (by decide) (by first | decide | exact Nat.le_of_ble_eq_true rfl) ?_
  intro p e s m args below meth c ls hx hb hr hlk hml hown hnm hts hR hS hl
  have hl : lv_has ls 8 [(0, va_rf (some a0)), (1, .int x1), (2, .int x2), (3, .int x3), (4, .int x4)] := hl
  unfold F_X10_soonest at hF
  refine x_aload_n (o := (some a0)) hx hb dX10_soonest_0 rfl (lv_at hl 0 rfl) ?_
  refine lv_iload_n hx hb dX10_soonest_1 rfl (lv_at hl 1 rfl) ?_
  replace hF := xbind hF; obtain ⟨b2, eb2, hF⟩ := hF
  replace hF := xbind hF; obtain ⟨w1, ew1, hF⟩ := hF
  refine x_callV (o := (some a0)) (ci := 10) (As := [.int x1]) (rest := []) (v := (some (va_rf w1))) (k := 1) hx hb hml hown hts hR hS eb2 rfl rfl (t_X10_alarmAt l D G h b2 x1 w1 ew1) f_X10_alarmAt mm_596 mm_598 mm_15 rfl hl.1 rfl (by first | exact Nat.le_of_ble_eq_true rfl | simp [xrf_cat, xcI, xcJ, xcA]) dX10_soonest_2 (by decide) (by decide) rfl (fun H locs hR hS => ?_)
  refine x_astore (o := w1) (lv' := [(5, va_rf w1), (0, va_rf (some a0)), (1, .int x1), (2, .int x2), (3, .int x3), (4, .int x4)]) hx hb dX10_soonest_5 hl (by decide) (by first | rfl | (simp [xrf_cat, xcI, xcJ, xcA]; done) | (simp [xrf_cat, xcI, xcJ, xcA]; decide)) (fun ls hl => ?_)
  refine x_aload (o := w1) hx hb dX10_soonest_7 (lv_at hl 0 rfl) ?_
  refine x_ifnull (o := w1) (tgt := 30) hx hb dX10_soonest_9 (by decide) (fun c3 => ?_) (fun c3 => ?_)
  · replace hF := xift c3 hF
    refine lv_iconst (v := (-1)) hx hb dX10_soonest_30 (by decide) ?_
    cases hF
    exact x_iret hx hb hr rfl hlk hR hS (by decide) (by decide) dX10_soonest_31
  · replace hF := xiff c3 hF
    refine lv_iload_n hx hb dX10_soonest_12 rfl (lv_at hl 3 rfl) ?_
    refine lv_iload_n hx hb dX10_soonest_13 rfl (lv_at hl 4 rfl) ?_
    replace hF := xbind hF; obtain ⟨v4, ev4, hF⟩ := hF
    refine x_callS (As := [.int x2, .int x3]) (rest := []) (v := (some (.int v4))) (k := 2) hx hb hml hown hts hR hS (t_X10_isSteady l D G h x2 x3 v4 ev4) f_X10_isSteady mm_641 mm_642 rfl hl.1 rfl (by first | exact Nat.le_of_ble_eq_true rfl | simp [xrf_cat, xcI, xcJ, xcA]) dX10_soonest_14 (by decide) (by decide) rfl (fun H locs hR hS => ?_)
    refine lv_if_eq (tgt := 30) hx hb dX10_soonest_17 (by decide) (fun c5 => ?_) (fun c5 => ?_)
    · replace hF := xift c5 hF
      refine lv_iconst (v := (-1)) hx hb dX10_soonest_30 (by decide) ?_
      cases hF
      exact x_iret hx hb hr rfl hlk hR hS (by decide) (by decide) dX10_soonest_31
    · replace hF := xiff c5 hF
      refine lv_iload hx hb dX10_soonest_20 (lv_at hl 5 rfl) ?_
      refine lv_iconst (v := 0) hx hb dX10_soonest_22 (by decide) ?_
      refine lv_iconst (v := 1) hx hb dX10_soonest_23 (by decide) ?_
      replace hF := xbind hF; obtain ⟨v6, ev6, hF⟩ := hF
      refine x_callS (As := [.int x4, .int 0, .int 1]) (rest := []) (v := (some (.int v6))) (k := 3) hx hb hml hown hts hR hS (t_X10_within l D G h x4 0 1 v6 ev6) f_X10_within mm_347 mm_348 rfl hl.1 rfl (by first | exact Nat.le_of_ble_eq_true rfl | simp [xrf_cat, xcI, xcJ, xcA]) dX10_soonest_24 (by decide) (by decide) rfl (fun H locs hR hS => ?_)
      refine lv_if_ne (tgt := 32) hx hb dX10_soonest_27 (by decide) (fun c7 => ?_) (fun c7 => ?_)
      · replace hF := xiff c7 hF
        replace hF := xbind hF; obtain ⟨⟨q8, h9⟩, eq8, hF⟩ := hF
        refine x_newO (C := RX9) (T := TX9) (N := 2) (ci := 9) hx hb hts iw_X9 tyX9_ok hown mm_644 mm_645 mm_77 hR hS rfl (by decide) (by decide) (by decide) eq8 dX10_soonest_32 (fun H hR hS => ?_)
        refine lv_dup hx hb dX10_soonest_35 xrf_cat ?_
        refine lv_iload_n hx hb dX10_soonest_36 rfl (lv_at hl 3 rfl) ?_
        refine lv_iload_n hx hb dX10_soonest_37 rfl (lv_at hl 4 rfl) ?_
        replace hF := xbind hF; obtain ⟨h10, eh10, hF⟩ := hF
        refine x_callI (o := (some q8)) (As := [.int x2, .int x3]) (rest := [va_rf (some q8)]) (v := none) (k := 2) hx hb hml hown hts hR hS rfl (t_X9_init l D G h9 q8 x2 x3 h10 eh10) f_X9_init mm_646 mm_647 rfl rfl hl.1 rfl (by first | exact Nat.le_of_ble_eq_true rfl | simp [xrf_cat, xcI, xcJ, xcA]) dX10_soonest_38 (by decide) (by decide) rfl (fun H locs hR hS => ?_)
        refine x_astore (o := (some q8)) (lv' := [(6, va_rf (some q8)), (5, va_rf w1), (0, va_rf (some a0)), (1, .int x1), (2, .int x2), (3, .int x3), (4, .int x4)]) hx hb dX10_soonest_41 hl (by decide) (by first | rfl | (simp [xrf_cat, xcI, xcJ, xcA]; done) | (simp [xrf_cat, xcI, xcJ, xcA]; decide)) (fun ls hl => ?_)
        refine lv_iconst (v := 0) hx hb dX10_soonest_43 (by decide) ?_
        refine lv_istore (lv' := [(7, .int 0), (6, va_rf (some q8)), (5, va_rf w1), (0, va_rf (some a0)), (1, .int x1), (2, .int x2), (3, .int x3), (4, .int x4)]) hx hb dX10_soonest_44 hl (by decide) (by first | rfl | (simp [xrf_cat, xcI, xcJ, xcA]; done) | (simp [xrf_cat, xcI, xcJ, xcA]; decide)) (fun ls hl => ?_)
        refine W.widen (k := 1) (n := 2) (by decide) (by decide) ?_
        exact tl_X10_soonest_46 hx hb hr hlk hml hown hnm hts G h10 x4 w1 q8 _ 0 _ _ _ hF hR hS (lv_sub hl [7, 2, 1, 0] rfl)
      · replace hF := xift c7 hF
        refine lv_iconst (v := (-1)) hx hb dX10_soonest_30 (by decide) ?_
        cases hF
        exact x_iret hx hb hr rfl hlk hR hS (by decide) (by decide) dX10_soonest_31
def rm_X10_best : Room := { frames := 6, cells := 1, slots := 2, locals := 146 }
theorem f_X10_best : xM yX10_best cX10_best 6 (some .int) 4 := ⟨mm_662, mm_55, by decide +kernel, by decide +kernel⟩
theorem dX10_best_0 : decode cX10_best 0 = .ok (.aload_n 0, 1) := by decide +kernel
theorem dX10_best_1 : decode cX10_best 1 = .ok (.iload_n 1, 1) := by decide +kernel
theorem dX10_best_2 : decode cX10_best 2 = .ok (.invokevirtual 103, 3) := by decide +kernel
theorem dX10_best_5 : decode cX10_best 5 = .ok (.astore 5, 2) := by decide +kernel
theorem dX10_best_7 : decode cX10_best 7 = .ok (.aload 5, 2) := by decide +kernel
theorem dX10_best_9 : decode cX10_best 9 = .ok (.ifnull 22, 3) := by decide +kernel
theorem dX10_best_12 : decode cX10_best 12 = .ok (.iload_n 2, 1) := by decide +kernel
theorem dX10_best_13 : decode cX10_best 13 = .ok (.iload_n 3, 1) := by decide +kernel
theorem dX10_best_14 : decode cX10_best 14 = .ok (.invokestatic 188, 3) := by decide +kernel
theorem dX10_best_17 : decode cX10_best 17 = .ok (.ifCond .eq 14, 3) := by decide +kernel
theorem dX10_best_20 : decode cX10_best 20 = .ok (.iload 4, 2) := by decide +kernel
theorem dX10_best_22 : decode cX10_best 22 = .ok (.iconst 0, 1) := by decide +kernel
theorem dX10_best_23 : decode cX10_best 23 = .ok (.ldc 150, 2) := by decide +kernel
theorem dX10_best_25 : decode cX10_best 25 = .ok (.invokestatic 66, 3) := by decide +kernel
theorem dX10_best_28 : decode cX10_best 28 = .ok (.ifCond .ne 5, 3) := by decide +kernel
theorem dX10_best_31 : decode cX10_best 31 = .ok (.iconst (-1), 1) := by decide +kernel
theorem dX10_best_32 : decode cX10_best 32 = .ok (.ireturn, 1) := by decide +kernel
theorem dX10_best_33 : decode cX10_best 33 = .ok (.aload_n 0, 1) := by decide +kernel
theorem dX10_best_34 : decode cX10_best 34 = .ok (.getfield 45, 3) := by decide +kernel
theorem dX10_best_37 : decode cX10_best 37 = .ok (.aload 5, 2) := by decide +kernel
theorem dX10_best_39 : decode cX10_best 39 = .ok (.new 191, 3) := by decide +kernel
theorem dX10_best_42 : decode cX10_best 42 = .ok (.dup, 1) := by decide +kernel
theorem dX10_best_43 : decode cX10_best 43 = .ok (.iload_n 2, 1) := by decide +kernel
theorem dX10_best_44 : decode cX10_best 44 = .ok (.iload_n 3, 1) := by decide +kernel
theorem dX10_best_45 : decode cX10_best 45 = .ok (.invokespecial 193, 3) := by decide +kernel
theorem dX10_best_48 : decode cX10_best 48 = .ok (.iload 4, 2) := by decide +kernel
theorem dX10_best_50 : decode cX10_best 50 = .ok (.aload_n 0, 1) := by decide +kernel
theorem dX10_best_51 : decode cX10_best 51 = .ok (.getfield 80, 3) := by decide +kernel
theorem dX10_best_54 : decode cX10_best 54 = .ok (.invokevirtual 197, 3) := by decide +kernel
theorem dX10_best_57 : decode cX10_best 57 = .ok (.ireturn, 1) := by decide +kernel
def F_X10_best (G : Nat → Nat) (h : xH) (a0 : Nat) (x1 : Int32) (x2 : Int32) (x3 : Int32) (x4 : Int32) : Option (Int32 × xH) :=
  (xc h (some a0) 10).bind fun b2 =>
  (F_X10_promiseAt G h b2 x1).bind fun w1 =>
  if w1 = none then
    some ((-1), h)
  else
  (F_X10_isSteady x2 x3).bind fun v4 =>
  if v4 = 0 then
    some ((-1), h)
  else
  (F_X10_within x4 0 100000).bind fun v6 =>
  if v6 = 0 then
    some ((-1), h)
  else
  (gR h (some a0) 10 7).bind fun w8 =>
  (nO h 9 [.int 0, .int 0]).bind fun (q9, h10) =>
  (F_X9_init G h10 q9 x2 x3).bind fun h11 =>
  (gI h11 (some a0) 10 8).bind fun v12 =>
  w1.bind fun b13 =>
  (xc h11 w8 2).bind fun b16 =>
  (F_X1_find G h11 b16 b13 q9 x4 v12).bind fun (v14, h15) =>
  some (v14, h15)
set_option maxHeartbeats 4000000 in
set_option maxRecDepth 100000 in
theorem t_X10_best (l : Launch) (D : va_G) (G : Nat → Nat) (h : xH) (a0 : Nat) (x1 : Int32) (x2 : Int32) (x3 : Int32) (x4 : Int32) (r : Int32) (h' : xH) (hF : F_X10_best G h a0 x1 x2 x3 x4 = some (r, h')) : xC l yX10_best cX10_best 6 (some .int) (rm_X10_best) D G h [.ref a0, .int x1, .int x2, .int x3, .int x4] (some (.int r)) h' := by
  refine xC_of (by decide) (by first | decide | exact Nat.le_of_ble_eq_true rfl) ?_
  intro p e s m args below meth c ls hx hb hr hlk hml hown hnm hts hR hS hl
  have hl : lv_has ls 6 [(0, va_rf (some a0)), (1, .int x1), (2, .int x2), (3, .int x3), (4, .int x4)] := hl
  unfold F_X10_best at hF
  refine x_aload_n (o := (some a0)) hx hb dX10_best_0 rfl (lv_at hl 0 rfl) ?_
  refine lv_iload_n hx hb dX10_best_1 rfl (lv_at hl 1 rfl) ?_
  replace hF := xbind hF; obtain ⟨b2, eb2, hF⟩ := hF
  replace hF := xbind hF; obtain ⟨w1, ew1, hF⟩ := hF
  refine x_callV (o := (some a0)) (ci := 10) (As := [.int x1]) (rest := []) (v := (some (va_rf w1))) (k := 1) hx hb hml hown hts hR hS eb2 rfl rfl (t_X10_promiseAt l D G h b2 x1 w1 ew1) f_X10_promiseAt mm_437 mm_439 mm_6 rfl hl.1 rfl (by first | exact Nat.le_of_ble_eq_true rfl | simp [xrf_cat, xcI, xcJ, xcA]) dX10_best_2 (by decide) (by decide) rfl (fun H locs hR hS => ?_)
  refine x_astore (o := w1) (lv' := [(5, va_rf w1), (0, va_rf (some a0)), (1, .int x1), (2, .int x2), (3, .int x3), (4, .int x4)]) hx hb dX10_best_5 hl (by decide) (by first | rfl | (simp [xrf_cat, xcI, xcJ, xcA]; done) | (simp [xrf_cat, xcI, xcJ, xcA]; decide)) (fun ls hl => ?_)
  refine x_aload (o := w1) hx hb dX10_best_7 (lv_at hl 0 rfl) ?_
  refine x_ifnull (o := w1) (tgt := 31) hx hb dX10_best_9 (by decide) (fun c3 => ?_) (fun c3 => ?_)
  · replace hF := xift c3 hF
    refine lv_iconst (v := (-1)) hx hb dX10_best_31 (by decide) ?_
    cases hF
    exact x_iret hx hb hr rfl hlk hR hS (by decide) (by decide) dX10_best_32
  · replace hF := xiff c3 hF
    refine lv_iload_n hx hb dX10_best_12 rfl (lv_at hl 3 rfl) ?_
    refine lv_iload_n hx hb dX10_best_13 rfl (lv_at hl 4 rfl) ?_
    replace hF := xbind hF; obtain ⟨v4, ev4, hF⟩ := hF
    refine x_callS (As := [.int x2, .int x3]) (rest := []) (v := (some (.int v4))) (k := 2) hx hb hml hown hts hR hS (t_X10_isSteady l D G h x2 x3 v4 ev4) f_X10_isSteady mm_641 mm_642 rfl hl.1 rfl (by first | exact Nat.le_of_ble_eq_true rfl | simp [xrf_cat, xcI, xcJ, xcA]) dX10_best_14 (by decide) (by decide) rfl (fun H locs hR hS => ?_)
    refine lv_if_eq (tgt := 31) hx hb dX10_best_17 (by decide) (fun c5 => ?_) (fun c5 => ?_)
    · replace hF := xift c5 hF
      refine lv_iconst (v := (-1)) hx hb dX10_best_31 (by decide) ?_
      cases hF
      exact x_iret hx hb hr rfl hlk hR hS (by decide) (by decide) dX10_best_32
    · replace hF := xiff c5 hF
      refine lv_iload hx hb dX10_best_20 (lv_at hl 5 rfl) ?_
      refine lv_iconst (v := 0) hx hb dX10_best_22 (by decide) ?_
      refine lv_ldc hx hb hown (hts _ mm_529) dX10_best_23 ?_
      replace hF := xbind hF; obtain ⟨v6, ev6, hF⟩ := hF
      refine x_callS (As := [.int x4, .int 0, .int 100000]) (rest := []) (v := (some (.int v6))) (k := 3) hx hb hml hown hts hR hS (t_X10_within l D G h x4 0 100000 v6 ev6) f_X10_within mm_347 mm_348 rfl hl.1 rfl (by first | exact Nat.le_of_ble_eq_true rfl | simp [xrf_cat, xcI, xcJ, xcA]) dX10_best_25 (by decide) (by decide) rfl (fun H locs hR hS => ?_)
      refine lv_if_ne (tgt := 33) hx hb dX10_best_28 (by decide) (fun c7 => ?_) (fun c7 => ?_)
      · replace hF := xiff c7 hF
        refine x_aload_n (o := (some a0)) hx hb dX10_best_33 rfl (lv_at hl 1 rfl) ?_
        replace hF := xbind hF; obtain ⟨w8, ew8, hF⟩ := hF
        refine x_getR (o := (some a0)) (ci := 10) (C := RX10) (T := TX10) (N := 11) hx hb hts iw_X10 hown hR rfl 7 (by decide) mm_194 (Or.inl rfl) ew8 dX10_best_34 ?_
        refine x_aload (o := w1) hx hb dX10_best_37 (lv_at hl 0 rfl) ?_
        replace hF := xbind hF; obtain ⟨⟨q9, h10⟩, eq9, hF⟩ := hF
        refine x_newO (C := RX9) (T := TX9) (N := 2) (ci := 9) hx hb hts iw_X9 tyX9_ok hown mm_644 mm_645 mm_77 hR hS rfl (by decide) (by decide) (by decide) eq9 dX10_best_39 (fun H hR hS => ?_)
        refine lv_dup hx hb dX10_best_42 xrf_cat ?_
        refine lv_iload_n hx hb dX10_best_43 rfl (lv_at hl 3 rfl) ?_
        refine lv_iload_n hx hb dX10_best_44 rfl (lv_at hl 4 rfl) ?_
        replace hF := xbind hF; obtain ⟨h11, eh11, hF⟩ := hF
        refine x_callI (o := (some q9)) (As := [.int x2, .int x3]) (rest := [va_rf (some q9), va_rf w1, va_rf w8]) (v := none) (k := 2) hx hb hml hown hts hR hS rfl (t_X9_init l D G h10 q9 x2 x3 h11 eh11) f_X9_init mm_646 mm_647 rfl rfl hl.1 rfl (by first | exact Nat.le_of_ble_eq_true rfl | simp [xrf_cat, xcI, xcJ, xcA]) dX10_best_45 (by decide) (by decide) rfl (fun H locs hR hS => ?_)
        refine lv_iload hx hb dX10_best_48 (lv_at hl 5 rfl) ?_
        refine x_aload_n (o := (some a0)) hx hb dX10_best_50 rfl (lv_at hl 1 rfl) ?_
        replace hF := xbind hF; obtain ⟨v12, ev12, hF⟩ := hF
        refine x_getI (o := (some a0)) (ci := 10) (C := RX10) (T := TX10) (N := 11) hx hb hts iw_X10 hown hR rfl 8 (by decide) mm_195 (Or.inl rfl) ev12 dX10_best_51 ?_
        replace hF := xbind hF; obtain ⟨b13, eb13, hF⟩ := hF
        subst eb13
        replace hF := xbind hF; obtain ⟨b16, eb16, hF⟩ := hF
        replace hF := xbind hF; obtain ⟨⟨v14, h15⟩, ev14, hF⟩ := hF
        refine x_callV (o := w8) (ci := 2) (As := [.ref b13, .ref q9, .int x4, .int v12]) (rest := []) (v := (some (.int v14))) (k := 4) hx hb hml hown hts hR hS eb16 rfl rfl (t_X1_find l D G h11 b16 b13 q9 x4 v12 v14 h15 ev14) f_X1_find mm_663 mm_664 mm_665 rfl hl.1 rfl (by first | exact Nat.le_of_ble_eq_true rfl | simp [xrf_cat, xcI, xcJ, xcA]) dX10_best_54 (by decide) (by decide) rfl (fun H locs hR hS => ?_)
        cases hF
        exact x_iret hx hb hr rfl hlk hR hS (by decide) (by decide) dX10_best_57
      · replace hF := xift c7 hF
        refine lv_iconst (v := (-1)) hx hb dX10_best_31 (by decide) ?_
        cases hF
        exact x_iret hx hb hr rfl hlk hR hS (by decide) (by decide) dX10_best_32
def rm_X10_change : Room := { frames := 7, cells := 2, slots := 69, locals := 171 }
theorem f_X10_change : xM yX10_change cX10_change 4 (some .int) 3 := ⟨mm_717, mm_55, by decide +kernel, by decide +kernel⟩
theorem dX10_change_0 : decode cX10_change 0 = .ok (.aload_n 0, 1) := by decide +kernel
theorem dX10_change_1 : decode cX10_change 1 = .ok (.iload_n 1, 1) := by decide +kernel
theorem dX10_change_2 : decode cX10_change 2 = .ok (.invokevirtual 103, 3) := by decide +kernel
theorem dX10_change_5 : decode cX10_change 5 = .ok (.ifnull 38, 3) := by decide +kernel
theorem dX10_change_8 : decode cX10_change 8 = .ok (.iload_n 2, 1) := by decide +kernel
theorem dX10_change_9 : decode cX10_change 9 = .ok (.iconst 0, 1) := by decide +kernel
theorem dX10_change_10 : decode cX10_change 10 = .ok (.ldc 150, 2) := by decide +kernel
theorem dX10_change_12 : decode cX10_change 12 = .ok (.invokestatic 66, 3) := by decide +kernel
theorem dX10_change_15 : decode cX10_change 15 = .ok (.ifCond .eq 28, 3) := by decide +kernel
theorem dX10_change_18 : decode cX10_change 18 = .ok (.iload_n 3, 1) := by decide +kernel
theorem dX10_change_19 : decode cX10_change 19 = .ok (.iconst 0, 1) := by decide +kernel
theorem dX10_change_20 : decode cX10_change 20 = .ok (.sipush 1000, 3) := by decide +kernel
theorem dX10_change_23 : decode cX10_change 23 = .ok (.invokestatic 66, 3) := by decide +kernel
theorem dX10_change_26 : decode cX10_change 26 = .ok (.ifCond .eq 17, 3) := by decide +kernel
theorem dX10_change_29 : decode cX10_change 29 = .ok (.aload_n 0, 1) := by decide +kernel
theorem dX10_change_30 : decode cX10_change 30 = .ok (.getfield 25, 3) := by decide +kernel
theorem dX10_change_33 : decode cX10_change 33 = .ok (.invokeinterface 49 1, 5) := by decide +kernel
theorem dX10_change_38 : decode cX10_change 38 = .ok (.bipush 40, 2) := by decide +kernel
theorem dX10_change_40 : decode cX10_change 40 = .ok (.if_icmp .lt 5, 3) := by decide +kernel
theorem dX10_change_43 : decode cX10_change 43 = .ok (.iconst (-1), 1) := by decide +kernel
theorem dX10_change_44 : decode cX10_change 44 = .ok (.ireturn, 1) := by decide +kernel
theorem dX10_change_45 : decode cX10_change 45 = .ok (.aload_n 0, 1) := by decide +kernel
theorem dX10_change_46 : decode cX10_change 46 = .ok (.getfield 25, 3) := by decide +kernel
theorem dX10_change_49 : decode cX10_change 49 = .ok (.new 201, 3) := by decide +kernel
theorem dX10_change_52 : decode cX10_change 52 = .ok (.dup, 1) := by decide +kernel
theorem dX10_change_53 : decode cX10_change 53 = .ok (.iload_n 1, 1) := by decide +kernel
theorem dX10_change_54 : decode cX10_change 54 = .ok (.iload_n 2, 1) := by decide +kernel
theorem dX10_change_55 : decode cX10_change 55 = .ok (.iload_n 3, 1) := by decide +kernel
theorem dX10_change_56 : decode cX10_change 56 = .ok (.invokespecial 203, 3) := by decide +kernel
theorem dX10_change_59 : decode cX10_change 59 = .ok (.invokeinterface 58 2, 5) := by decide +kernel
theorem dX10_change_64 : decode cX10_change 64 = .ok (.pop, 1) := by decide +kernel
theorem dX10_change_65 : decode cX10_change 65 = .ok (.aload_n 0, 1) := by decide +kernel
theorem dX10_change_66 : decode cX10_change 66 = .ok (.getfield 25, 3) := by decide +kernel
theorem dX10_change_69 : decode cX10_change 69 = .ok (.invokeinterface 49 1, 5) := by decide +kernel
theorem dX10_change_74 : decode cX10_change 74 = .ok (.iconst 1, 1) := by decide +kernel
theorem dX10_change_75 : decode cX10_change 75 = .ok (.isub, 1) := by decide +kernel
theorem dX10_change_76 : decode cX10_change 76 = .ok (.ireturn, 1) := by decide +kernel
def F_X10_change (G : Nat → Nat) (h : xH) (a0 : Nat) (x1 : Int32) (x2 : Int32) (x3 : Int32) : Option (Int32 × xH) :=
  (xc h (some a0) 10).bind fun b2 =>
  (F_X10_promiseAt G h b2 x1).bind fun w1 =>
  if w1 = none then
    some ((-1), h)
  else
  (F_X10_within x2 0 100000).bind fun v4 =>
  if v4 = 0 then
    some ((-1), h)
  else
  (F_X10_within x3 0 1000).bind fun v6 =>
  if v6 = 0 then
    some ((-1), h)
  else
  (gR h (some a0) 10 4).bind fun w8 =>
  (xc h w8 0).bind fun b10 =>
  (F_Jx4a65c_size_8abf5 G h b10).bind fun v9 =>
  if v9 < 40 then
    (gR h (some a0) 10 4).bind fun w12 =>
    (nO h 3 [.int 0, .int 0, .int 0, .int 0, .int 0]).bind fun (q13, h14) =>
    (F_X2_init G h14 q13 x1 x2 x3).bind fun h15 =>
    (xc h15 w12 0).bind fun b18 =>
    (F_Jx4a65c_add_9ea2d G h15 b18 q13).bind fun (v16, h17) =>
    (gR h17 (some a0) 10 4).bind fun w19 =>
    (xc h17 w19 0).bind fun b21 =>
    (F_Jx4a65c_size_8abf5 G h17 b21).bind fun v20 =>
    some ((v20 - 1), h17)
  else
  some ((-1), h)
set_option maxHeartbeats 4000000 in
set_option maxRecDepth 100000 in
theorem t_X10_change (l : Launch) (D : va_G) (G : Nat → Nat) (h : xH) (a0 : Nat) (x1 : Int32) (x2 : Int32) (x3 : Int32) (r : Int32) (h' : xH) (hF : F_X10_change G h a0 x1 x2 x3 = some (r, h')) : xC l yX10_change cX10_change 4 (some .int) (rm_X10_change) D G h [.ref a0, .int x1, .int x2, .int x3] (some (.int r)) h' := by
  refine xC_of (by decide) (by first | decide | exact Nat.le_of_ble_eq_true rfl) ?_
  intro p e s m args below meth c ls hx hb hr hlk hml hown hnm hts hR hS hl
  have hl : lv_has ls 4 [(0, va_rf (some a0)), (1, .int x1), (2, .int x2), (3, .int x3)] := hl
  unfold F_X10_change at hF
  refine x_aload_n (o := (some a0)) hx hb dX10_change_0 rfl (lv_at hl 0 rfl) ?_
  refine lv_iload_n hx hb dX10_change_1 rfl (lv_at hl 1 rfl) ?_
  replace hF := xbind hF; obtain ⟨b2, eb2, hF⟩ := hF
  replace hF := xbind hF; obtain ⟨w1, ew1, hF⟩ := hF
  refine x_callV (o := (some a0)) (ci := 10) (As := [.int x1]) (rest := []) (v := (some (va_rf w1))) (k := 1) hx hb hml hown hts hR hS eb2 rfl rfl (t_X10_promiseAt l D G h b2 x1 w1 ew1) f_X10_promiseAt mm_437 mm_439 mm_6 rfl hl.1 rfl (by first | exact Nat.le_of_ble_eq_true rfl | simp [xrf_cat, xcI, xcJ, xcA]) dX10_change_2 (by decide) (by decide) rfl (fun H locs hR hS => ?_)
  refine x_ifnull (o := w1) (tgt := 43) hx hb dX10_change_5 (by decide) (fun c3 => ?_) (fun c3 => ?_)
  · replace hF := xift c3 hF
    refine lv_iconst (v := (-1)) hx hb dX10_change_43 (by decide) ?_
    cases hF
    exact x_iret hx hb hr rfl hlk hR hS (by decide) (by decide) dX10_change_44
  · replace hF := xiff c3 hF
    refine lv_iload_n hx hb dX10_change_8 rfl (lv_at hl 2 rfl) ?_
    refine lv_iconst (v := 0) hx hb dX10_change_9 (by decide) ?_
    refine lv_ldc hx hb hown (hts _ mm_529) dX10_change_10 ?_
    replace hF := xbind hF; obtain ⟨v4, ev4, hF⟩ := hF
    refine x_callS (As := [.int x2, .int 0, .int 100000]) (rest := []) (v := (some (.int v4))) (k := 3) hx hb hml hown hts hR hS (t_X10_within l D G h x2 0 100000 v4 ev4) f_X10_within mm_347 mm_348 rfl hl.1 rfl (by first | exact Nat.le_of_ble_eq_true rfl | simp [xrf_cat, xcI, xcJ, xcA]) dX10_change_12 (by decide) (by decide) rfl (fun H locs hR hS => ?_)
    refine lv_if_eq (tgt := 43) hx hb dX10_change_15 (by decide) (fun c5 => ?_) (fun c5 => ?_)
    · replace hF := xift c5 hF
      refine lv_iconst (v := (-1)) hx hb dX10_change_43 (by decide) ?_
      cases hF
      exact x_iret hx hb hr rfl hlk hR hS (by decide) (by decide) dX10_change_44
    · replace hF := xiff c5 hF
      refine lv_iload_n hx hb dX10_change_18 rfl (lv_at hl 3 rfl) ?_
      refine lv_iconst (v := 0) hx hb dX10_change_19 (by decide) ?_
      refine lv_sipush (v := 1000) hx hb dX10_change_20 (by decide) ?_
      replace hF := xbind hF; obtain ⟨v6, ev6, hF⟩ := hF
      refine x_callS (As := [.int x3, .int 0, .int 1000]) (rest := []) (v := (some (.int v6))) (k := 3) hx hb hml hown hts hR hS (t_X10_within l D G h x3 0 1000 v6 ev6) f_X10_within mm_347 mm_348 rfl hl.1 rfl (by first | exact Nat.le_of_ble_eq_true rfl | simp [xrf_cat, xcI, xcJ, xcA]) dX10_change_23 (by decide) (by decide) rfl (fun H locs hR hS => ?_)
      refine lv_if_eq (tgt := 43) hx hb dX10_change_26 (by decide) (fun c7 => ?_) (fun c7 => ?_)
      · replace hF := xift c7 hF
        refine lv_iconst (v := (-1)) hx hb dX10_change_43 (by decide) ?_
        cases hF
        exact x_iret hx hb hr rfl hlk hR hS (by decide) (by decide) dX10_change_44
      · replace hF := xiff c7 hF
        refine x_aload_n (o := (some a0)) hx hb dX10_change_29 rfl (lv_at hl 0 rfl) ?_
        replace hF := xbind hF; obtain ⟨w8, ew8, hF⟩ := hF
        refine x_getR (o := (some a0)) (ci := 10) (C := RX10) (T := TX10) (N := 11) hx hb hts iw_X10 hown hR rfl 4 (by decide) mm_191 (Or.inl rfl) ew8 dX10_change_30 ?_
        replace hF := xbind hF; obtain ⟨b10, eb10, hF⟩ := hF
        replace hF := xbind hF; obtain ⟨v9, ev9, hF⟩ := hF
        refine x_callF (o := w8) (ci := 0) (As := []) (rest := []) (v := (some (.int v9))) (k := 0) hx hb hml hown hts hR hS eb10 rfl (by decide +kernel) (t_Jx4a65c_size_8abf5 l D G h b10 v9 ev9) f_Jx4a65c_size_8abf5 mm_226 mm_232 mm_230 (by decide +kernel) rfl hl.1 rfl (by first | exact Nat.le_of_ble_eq_true rfl | simp [xrf_cat, xcI, xcJ, xcA]) dX10_change_33 (by decide) (by decide) rfl (fun H locs hR hS => ?_)
        refine lv_bipush (v := 40) hx hb dX10_change_38 (by decide) ?_
        refine lv_icmp_lt (tgt := 45) hx hb dX10_change_40 (by decide) (fun c11 => ?_) (fun c11 => ?_)
        · replace hF := xift c11 hF
          refine x_aload_n (o := (some a0)) hx hb dX10_change_45 rfl (lv_at hl 0 rfl) ?_
          replace hF := xbind hF; obtain ⟨w12, ew12, hF⟩ := hF
          refine x_getR (o := (some a0)) (ci := 10) (C := RX10) (T := TX10) (N := 11) hx hb hts iw_X10 hown hR rfl 4 (by decide) mm_191 (Or.inl rfl) ew12 dX10_change_46 ?_
          replace hF := xbind hF; obtain ⟨⟨q13, h14⟩, eq13, hF⟩ := hF
          refine x_newO (C := RX2) (T := TX2) (N := 5) (ci := 3) hx hb hts iw_X2 tyX2_ok hown mm_718 mm_719 mm_78 hR hS rfl (by decide) (by decide) (by decide) eq13 dX10_change_49 (fun H hR hS => ?_)
          refine lv_dup hx hb dX10_change_52 xrf_cat ?_
          refine lv_iload_n hx hb dX10_change_53 rfl (lv_at hl 1 rfl) ?_
          refine lv_iload_n hx hb dX10_change_54 rfl (lv_at hl 2 rfl) ?_
          refine lv_iload_n hx hb dX10_change_55 rfl (lv_at hl 3 rfl) ?_
          replace hF := xbind hF; obtain ⟨h15, eh15, hF⟩ := hF
          refine x_callI (o := (some q13)) (As := [.int x1, .int x2, .int x3]) (rest := [va_rf (some q13), va_rf w12]) (v := none) (k := 3) hx hb hml hown hts hR hS rfl (t_X2_init l D G h14 q13 x1 x2 x3 h15 eh15) f_X2_init mm_720 mm_721 rfl rfl hl.1 rfl (by first | exact Nat.le_of_ble_eq_true rfl | simp [xrf_cat, xcI, xcJ, xcA]) dX10_change_56 (by decide) (by decide) rfl (fun H locs hR hS => ?_)
          replace hF := xbind hF; obtain ⟨b18, eb18, hF⟩ := hF
          replace hF := xbind hF; obtain ⟨⟨v16, h17⟩, ev16, hF⟩ := hF
          refine x_callF (o := w12) (ci := 0) (As := [.ref q13]) (rest := []) (v := (some (.int v16))) (k := 1) hx hb hml hown hts hR hS eb18 rfl (by decide +kernel) (t_Jx4a65c_add_9ea2d l D G h15 b18 q13 v16 h17 ev16) f_Jx4a65c_add_9ea2d mm_256 mm_261 mm_259 (by decide +kernel) rfl hl.1 rfl (by first | exact Nat.le_of_ble_eq_true rfl | simp [xrf_cat, xcI, xcJ, xcA]) dX10_change_59 (by decide) (by decide) rfl (fun H locs hR hS => ?_)
          refine lv_pop hx hb dX10_change_64 rfl ?_
          refine x_aload_n (o := (some a0)) hx hb dX10_change_65 rfl (lv_at hl 0 rfl) ?_
          replace hF := xbind hF; obtain ⟨w19, ew19, hF⟩ := hF
          refine x_getR (o := (some a0)) (ci := 10) (C := RX10) (T := TX10) (N := 11) hx hb hts iw_X10 hown hR rfl 4 (by decide) mm_191 (Or.inl rfl) ew19 dX10_change_66 ?_
          replace hF := xbind hF; obtain ⟨b21, eb21, hF⟩ := hF
          replace hF := xbind hF; obtain ⟨v20, ev20, hF⟩ := hF
          refine x_callF (o := w19) (ci := 0) (As := []) (rest := []) (v := (some (.int v20))) (k := 0) hx hb hml hown hts hR hS eb21 rfl (by decide +kernel) (t_Jx4a65c_size_8abf5 l D G h17 b21 v20 ev20) f_Jx4a65c_size_8abf5 mm_226 mm_232 mm_230 (by decide +kernel) rfl hl.1 rfl (by first | exact Nat.le_of_ble_eq_true rfl | simp [xrf_cat, xcI, xcJ, xcA]) dX10_change_69 (by decide) (by decide) rfl (fun H locs hR hS => ?_)
          refine lv_iconst (v := 1) hx hb dX10_change_74 (by decide) ?_
          refine lv_isub hx hb dX10_change_75 ?_
          cases hF
          exact x_iret hx hb hr rfl hlk hR hS (by decide) (by decide) dX10_change_76
        · replace hF := xiff c11 hF
          refine lv_iconst (v := (-1)) hx hb dX10_change_43 (by decide) ?_
          cases hF
          exact x_iret hx hb hr rfl hlk hR hS (by decide) (by decide) dX10_change_44
def rm_X10_roomOf : Room := { frames := 6, cells := 0, slots := 0, locals := 136 }
theorem f_X10_roomOf : xM yX10_roomOf cX10_roomOf 6 (some .int) 1 := ⟨mm_755, mm_55, by decide +kernel, by decide +kernel⟩
theorem dX10_roomOf_0 : decode cX10_roomOf 0 = .ok (.aload_n 0, 1) := by decide +kernel
theorem dX10_roomOf_1 : decode cX10_roomOf 1 = .ok (.iload_n 1, 1) := by decide +kernel
theorem dX10_roomOf_2 : decode cX10_roomOf 2 = .ok (.invokevirtual 103, 3) := by decide +kernel
theorem dX10_roomOf_5 : decode cX10_roomOf 5 = .ok (.astore_n 2, 1) := by decide +kernel
theorem dX10_roomOf_6 : decode cX10_roomOf 6 = .ok (.aload_n 2, 1) := by decide +kernel
theorem dX10_roomOf_7 : decode cX10_roomOf 7 = .ok (.ifnonnull 5, 3) := by decide +kernel
theorem dX10_roomOf_10 : decode cX10_roomOf 10 = .ok (.iconst (-1), 1) := by decide +kernel
theorem dX10_roomOf_11 : decode cX10_roomOf 11 = .ok (.ireturn, 1) := by decide +kernel
theorem dX10_roomOf_12 : decode cX10_roomOf 12 = .ok (.aload_n 2, 1) := by decide +kernel
theorem dX10_roomOf_13 : decode cX10_roomOf 13 = .ok (.aload_n 0, 1) := by decide +kernel
theorem dX10_roomOf_14 : decode cX10_roomOf 14 = .ok (.getfield 80, 3) := by decide +kernel
theorem dX10_roomOf_17 : decode cX10_roomOf 17 = .ok (.aload_n 0, 1) := by decide +kernel
theorem dX10_roomOf_18 : decode cX10_roomOf 18 = .ok (.getfield 80, 3) := by decide +kernel
theorem dX10_roomOf_21 : decode cX10_roomOf 21 = .ok (.invokevirtual 129, 3) := by decide +kernel
theorem dX10_roomOf_24 : decode cX10_roomOf 24 = .ok (.istore_n 3, 1) := by decide +kernel
theorem dX10_roomOf_25 : decode cX10_roomOf 25 = .ok (.iconst 0, 1) := by decide +kernel
theorem dX10_roomOf_26 : decode cX10_roomOf 26 = .ok (.istore 4, 2) := by decide +kernel
theorem dX10_roomOf_28 : decode cX10_roomOf 28 = .ok (.iload 4, 2) := by decide +kernel
theorem dX10_roomOf_30 : decode cX10_roomOf 30 = .ok (.aload_n 0, 1) := by decide +kernel
theorem dX10_roomOf_31 : decode cX10_roomOf 31 = .ok (.getfield 25, 3) := by decide +kernel
theorem dX10_roomOf_34 : decode cX10_roomOf 34 = .ok (.invokeinterface 49 1, 5) := by decide +kernel
theorem dX10_roomOf_39 : decode cX10_roomOf 39 = .ok (.if_icmp .ge 51, 3) := by decide +kernel
theorem dX10_roomOf_42 : decode cX10_roomOf 42 = .ok (.aload_n 0, 1) := by decide +kernel
theorem dX10_roomOf_43 : decode cX10_roomOf 43 = .ok (.getfield 25, 3) := by decide +kernel
theorem dX10_roomOf_46 : decode cX10_roomOf 46 = .ok (.iload 4, 2) := by decide +kernel
theorem dX10_roomOf_48 : decode cX10_roomOf 48 = .ok (.invokeinterface 225 2, 5) := by decide +kernel
theorem dX10_roomOf_53 : decode cX10_roomOf 53 = .ok (.checkcast 201, 3) := by decide +kernel
theorem dX10_roomOf_56 : decode cX10_roomOf 56 = .ok (.astore 5, 2) := by decide +kernel
theorem dX10_roomOf_58 : decode cX10_roomOf 58 = .ok (.aload 5, 2) := by decide +kernel
theorem dX10_roomOf_60 : decode cX10_roomOf 60 = .ok (.getfield 213, 3) := by decide +kernel
theorem dX10_roomOf_63 : decode cX10_roomOf 63 = .ok (.iload_n 1, 1) := by decide +kernel
theorem dX10_roomOf_64 : decode cX10_roomOf 64 = .ok (.if_icmp .ne 20, 3) := by decide +kernel
theorem dX10_roomOf_67 : decode cX10_roomOf 67 = .ok (.aload 5, 2) := by decide +kernel
theorem dX10_roomOf_69 : decode cX10_roomOf 69 = .ok (.getfield 210, 3) := by decide +kernel
theorem dX10_roomOf_72 : decode cX10_roomOf 72 = .ok (.iconst 1, 1) := by decide +kernel
theorem dX10_roomOf_73 : decode cX10_roomOf 73 = .ok (.if_icmp .ne 11, 3) := by decide +kernel
theorem dX10_roomOf_76 : decode cX10_roomOf 76 = .ok (.iload_n 3, 1) := by decide +kernel
theorem dX10_roomOf_77 : decode cX10_roomOf 77 = .ok (.aload 5, 2) := by decide +kernel
theorem dX10_roomOf_79 : decode cX10_roomOf 79 = .ok (.getfield 218, 3) := by decide +kernel
theorem dX10_roomOf_82 : decode cX10_roomOf 82 = .ok (.isub, 1) := by decide +kernel
theorem dX10_roomOf_83 : decode cX10_roomOf 83 = .ok (.istore_n 3, 1) := by decide +kernel
theorem dX10_roomOf_84 : decode cX10_roomOf 84 = .ok (.iinc 4 1, 3) := by decide +kernel
theorem dX10_roomOf_87 : decode cX10_roomOf 87 = .ok (.goto (-59), 3) := by decide +kernel
theorem dX10_roomOf_90 : decode cX10_roomOf 90 = .ok (.iload_n 3, 1) := by decide +kernel
theorem dX10_roomOf_91 : decode cX10_roomOf 91 = .ok (.ireturn, 1) := by decide +kernel
def F_X10_roomOf_28 (G : Nat → Nat) (h : xH) (a0 : Nat) (x1 : Int32) : Nat → Int32 → Int32 → Option Int32
  | 0, _, _ => none
  | n + 1, x3, x4 =>
    (gR h (some a0) 10 4).bind fun w8 =>
    (xc h w8 0).bind fun b10 =>
    (F_Jx4a65c_size_8abf5 G h b10).bind fun v9 =>
    if v9 ≤ x4 then
      some x3
    else
    (gR h (some a0) 10 4).bind fun w12 =>
    (xc h w12 0).bind fun b14 =>
    (F_Jx4a65c_get_915e3 G h b14 x4).bind fun w13 =>
    xk h w13 3 <|
    (gI h w13 3 0).bind fun v16 =>
    if v16 = x1 then
      (gI h w13 3 3).bind fun v19 =>
      if v19 = 1 then
        (gI h w13 3 1).bind fun v22 =>
        xl (x3 - v22) fun v23 =>
        xl (x4 + 1) fun v24 =>
        F_X10_roomOf_28 G h a0 x1 n v23 v24
      else
      xl (x4 + 1) fun v21 =>
      F_X10_roomOf_28 G h a0 x1 n x3 v21
    else
    xl (x4 + 1) fun v18 =>
    F_X10_roomOf_28 G h a0 x1 n x3 v18
set_option maxHeartbeats 4000000 in
set_option maxRecDepth 100000 in
theorem tl_X10_roomOf_28 {p : Program} {l : Launch} {e : Env} {s : State} {m : MethodId} {args : Array Value} {below : List Frame} {meth : Method} {c : Code} {D : va_G} {r : Int32} (hx : p.tables.exec = Jvm.exec) (hb : c.code = cX10_roomOf) (hr : meth.sig.returnType = (some .int)) (hlk : meth.locks = false) (hml : c.maxLocals = 6) (hown : s.vm.findClass RX10 = some m.cls) (hnm : meth.name = "roomOf") (hts : ∀ w ∈ xt, w.before args s = true) (G : Nat → Nat) (h : xH) (a0 : Nat) (x1 : Int32) : ∀ (n : Nat) (x3 : Int32) (x4 : Int32) (H : Heap) (locs : List Loc) (ls : Array Slot), F_X10_roomOf_28 G h a0 x1 n x3 x4 = some r → xR D G h s H → va_S (xA G) s.heap H locs → lv_has ls 6 [(0, va_rf (some a0)), (1, .int x1), (3, .int x3), (4, .int x4)] → W p l e rm_X10_roomOf s m args below meth c H locs 0 0 (MQ below (xQ D G (some (.int r)) h) args s rm_X10_roomOf.cells rm_X10_roomOf.slots (xA G)) (F0 m 28 ls []) := by
  intro n
  induction n with
  | zero =>
    intro x3 x4 H locs ls hF
    rw [F_X10_roomOf_28.eq_1] at hF
    cases hF
  | succ n ih =>
    intro x3 x4 H locs ls hF hR hS hl
    rw [F_X10_roomOf_28.eq_2] at hF
    refine lv_iload hx hb dX10_roomOf_28 (lv_at hl 3 rfl) ?_
    refine x_aload_n (o := (some a0)) hx hb dX10_roomOf_30 rfl (lv_at hl 0 rfl) ?_
    replace hF := xbind hF; obtain ⟨w8, ew8, hF⟩ := hF
    refine x_getR (o := (some a0)) (ci := 10) (C := RX10) (T := TX10) (N := 11) hx hb hts iw_X10 hown hR rfl 4 (by decide) mm_191 (Or.inl rfl) ew8 dX10_roomOf_31 ?_
    replace hF := xbind hF; obtain ⟨b10, eb10, hF⟩ := hF
    replace hF := xbind hF; obtain ⟨v9, ev9, hF⟩ := hF
    refine x_callF (o := w8) (ci := 0) (As := []) (rest := [.int x4]) (v := (some (.int v9))) (k := 0) hx hb hml hown hts hR hS eb10 rfl (by decide +kernel) (t_Jx4a65c_size_8abf5 l D G h b10 v9 ev9) f_Jx4a65c_size_8abf5 mm_226 mm_232 mm_230 (by decide +kernel) rfl hl.1 rfl (by first | exact Nat.le_of_ble_eq_true rfl | simp [xrf_cat, xcI, xcJ, xcA]) dX10_roomOf_34 (by decide) (by decide) rfl (fun H locs hR hS => ?_)
    refine lv_icmp_ge (tgt := 90) hx hb dX10_roomOf_39 (by decide) (fun c11 => ?_) (fun c11 => ?_)
    · replace hF := xift c11 hF
      refine lv_iload_n hx hb dX10_roomOf_90 rfl (lv_at hl 2 rfl) ?_
      cases hF
      exact x_iret hx hb hr rfl hlk hR hS (by decide) (by decide) dX10_roomOf_91
    · replace hF := xiff c11 hF
      refine x_aload_n (o := (some a0)) hx hb dX10_roomOf_42 rfl (lv_at hl 0 rfl) ?_
      replace hF := xbind hF; obtain ⟨w12, ew12, hF⟩ := hF
      refine x_getR (o := (some a0)) (ci := 10) (C := RX10) (T := TX10) (N := 11) hx hb hts iw_X10 hown hR rfl 4 (by decide) mm_191 (Or.inl rfl) ew12 dX10_roomOf_43 ?_
      refine lv_iload hx hb dX10_roomOf_46 (lv_at hl 3 rfl) ?_
      replace hF := xbind hF; obtain ⟨b14, eb14, hF⟩ := hF
      replace hF := xbind hF; obtain ⟨w13, ew13, hF⟩ := hF
      refine x_callF (o := w12) (ci := 0) (As := [.int x4]) (rest := []) (v := (some (va_rf w13))) (k := 1) hx hb hml hown hts hR hS eb14 rfl (by decide +kernel) (t_Jx4a65c_get_915e3 l D G h b14 x4 w13 ew13) f_Jx4a65c_get_915e3 mm_329 mm_334 mm_332 (by decide +kernel) rfl hl.1 rfl (by first | exact Nat.le_of_ble_eq_true rfl | simp [xrf_cat, xcI, xcJ, xcA]) dX10_roomOf_48 (by decide) (by decide) rfl (fun H locs hR hS => ?_)
      replace hF := xkguard hF; obtain ⟨c15, hF⟩ := hF
      refine x_cast (o := w13) (ci := 3) hx hb hown hts hR rfl mm_718 c15 dX10_roomOf_53 ?_
      refine x_astore (o := w13) (lv' := [(5, va_rf w13), (0, va_rf (some a0)), (1, .int x1), (3, .int x3), (4, .int x4)]) hx hb dX10_roomOf_56 hl (by decide) (by first | rfl | (simp [xrf_cat, xcI, xcJ, xcA]; done) | (simp [xrf_cat, xcI, xcJ, xcA]; decide)) (fun ls hl => ?_)
      refine x_aload (o := w13) hx hb dX10_roomOf_58 (lv_at hl 0 rfl) ?_
      replace hF := xbind hF; obtain ⟨v16, ev16, hF⟩ := hF
      refine x_getI (o := w13) (ci := 3) (C := RX2) (T := TX2) (N := 5) hx hb hts iw_X2 hown hR rfl 0 (by decide) mm_725 (Or.inl rfl) ev16 dX10_roomOf_60 ?_
      refine lv_iload_n hx hb dX10_roomOf_63 rfl (lv_at hl 2 rfl) ?_
      refine lv_icmp_ne (tgt := 84) hx hb dX10_roomOf_64 (by decide) (fun c17 => ?_) (fun c17 => ?_)
      · replace hF := xiff c17 hF
        obtain ⟨v18, ev18⟩ : ∃ z : Int32, z = (x4 + 1) := ⟨_, rfl⟩
        replace hF := xlet ev18 hF
        refine lv_iinc (v := v18) (lv' := [(4, .int v18), (5, va_rf w13), (0, va_rf (some a0)), (1, .int x1), (3, .int x3)]) hx hb dX10_roomOf_84 hl (k := 4) rfl (by rw [ev18]; rfl) (by decide) (by first | rfl | (simp [xrf_cat, xcI, xcJ, xcA]; done) | (simp [xrf_cat, xcI, xcJ, xcA]; decide)) (fun ls hl => ?_)
        refine lv_goto (tgt := 28) hx hb dX10_roomOf_87 (by decide) ?_
        exact ih x3 v18 _ _ _ hF hR hS (lv_sub hl [2, 3, 4, 0] rfl)
      · replace hF := xift c17 hF
        refine x_aload (o := w13) hx hb dX10_roomOf_67 (lv_at hl 0 rfl) ?_
        replace hF := xbind hF; obtain ⟨v19, ev19, hF⟩ := hF
        refine x_getI (o := w13) (ci := 3) (C := RX2) (T := TX2) (N := 5) hx hb hts iw_X2 hown hR rfl 3 (by decide) mm_731 (Or.inl rfl) ev19 dX10_roomOf_69 ?_
        refine lv_iconst (v := 1) hx hb dX10_roomOf_72 (by decide) ?_
        refine lv_icmp_ne (tgt := 84) hx hb dX10_roomOf_73 (by decide) (fun c20 => ?_) (fun c20 => ?_)
        · replace hF := xiff c20 hF
          obtain ⟨v21, ev21⟩ : ∃ z : Int32, z = (x4 + 1) := ⟨_, rfl⟩
          replace hF := xlet ev21 hF
          refine lv_iinc (v := v21) (lv' := [(4, .int v21), (5, va_rf w13), (0, va_rf (some a0)), (1, .int x1), (3, .int x3)]) hx hb dX10_roomOf_84 hl (k := 4) rfl (by rw [ev21]; rfl) (by decide) (by first | rfl | (simp [xrf_cat, xcI, xcJ, xcA]; done) | (simp [xrf_cat, xcI, xcJ, xcA]; decide)) (fun ls hl => ?_)
          refine lv_goto (tgt := 28) hx hb dX10_roomOf_87 (by decide) ?_
          exact ih x3 v21 _ _ _ hF hR hS (lv_sub hl [2, 3, 4, 0] rfl)
        · replace hF := xift c20 hF
          refine lv_iload_n hx hb dX10_roomOf_76 rfl (lv_at hl 3 rfl) ?_
          refine x_aload (o := w13) hx hb dX10_roomOf_77 (lv_at hl 0 rfl) ?_
          replace hF := xbind hF; obtain ⟨v22, ev22, hF⟩ := hF
          refine x_getI (o := w13) (ci := 3) (C := RX2) (T := TX2) (N := 5) hx hb hts iw_X2 hown hR rfl 1 (by decide) mm_727 (Or.inl rfl) ev22 dX10_roomOf_79 ?_
          refine lv_isub hx hb dX10_roomOf_82 ?_
          refine lv_topi (fun v23 ev23 => ?_)
          replace hF := xlet ev23 hF
          refine lv_istore_n (lv' := [(3, .int v23), (5, va_rf w13), (0, va_rf (some a0)), (1, .int x1), (4, .int x4)]) hx hb dX10_roomOf_83 rfl hl (by decide) (by first | rfl | (simp [xrf_cat, xcI, xcJ, xcA]; done) | (simp [xrf_cat, xcI, xcJ, xcA]; decide)) (fun ls hl => ?_)
          obtain ⟨v24, ev24⟩ : ∃ z : Int32, z = (x4 + 1) := ⟨_, rfl⟩
          replace hF := xlet ev24 hF
          refine lv_iinc (v := v24) (lv' := [(4, .int v24), (3, .int v23), (5, va_rf w13), (0, va_rf (some a0)), (1, .int x1)]) hx hb dX10_roomOf_84 hl (k := 4) rfl (by rw [ev24]; rfl) (by decide) (by first | rfl | (simp [xrf_cat, xcI, xcJ, xcA]; done) | (simp [xrf_cat, xcI, xcJ, xcA]; decide)) (fun ls hl => ?_)
          refine lv_goto (tgt := 28) hx hb dX10_roomOf_87 (by decide) ?_
          exact ih v23 v24 _ _ _ hF hR hS (lv_sub hl [3, 4, 1, 0] rfl)
def F_X10_roomOf (G : Nat → Nat) (h : xH) (a0 : Nat) (x1 : Int32) : Option Int32 :=
  (xc h (some a0) 10).bind fun b2 =>
  (F_X10_promiseAt G h b2 x1).bind fun w1 =>
  if w1 = none then
    some (-1)
  else
  (gI h (some a0) 10 8).bind fun v4 =>
  (gI h (some a0) 10 8).bind fun v5 =>
  (xc h w1 6).bind fun b7 =>
  (F_X6_leastLeft G h b7 v4 v5).bind fun v6 =>
  F_X10_roomOf_28 G h a0 x1 xN v6 0
set_option maxHeartbeats 4000000 in
set_option maxRecDepth 100000 in
theorem t_X10_roomOf (l : Launch) (D : va_G) (G : Nat → Nat) (h : xH) (a0 : Nat) (x1 : Int32) (r : Int32) (hF : F_X10_roomOf G h a0 x1 = some r) : xC l yX10_roomOf cX10_roomOf 6 (some .int) (rm_X10_roomOf) D G h [.ref a0, .int x1] (some (.int r)) h := by
  refine xC_of (by decide) (by first | decide | exact Nat.le_of_ble_eq_true rfl) ?_
  intro p e s m args below meth c ls hx hb hr hlk hml hown hnm hts hR hS hl
  have hl : lv_has ls 6 [(0, va_rf (some a0)), (1, .int x1)] := hl
  unfold F_X10_roomOf at hF
  refine x_aload_n (o := (some a0)) hx hb dX10_roomOf_0 rfl (lv_at hl 0 rfl) ?_
  refine lv_iload_n hx hb dX10_roomOf_1 rfl (lv_at hl 1 rfl) ?_
  replace hF := xbind hF; obtain ⟨b2, eb2, hF⟩ := hF
  replace hF := xbind hF; obtain ⟨w1, ew1, hF⟩ := hF
  refine x_callV (o := (some a0)) (ci := 10) (As := [.int x1]) (rest := []) (v := (some (va_rf w1))) (k := 1) hx hb hml hown hts hR hS eb2 rfl rfl (t_X10_promiseAt l D G h b2 x1 w1 ew1) f_X10_promiseAt mm_437 mm_439 mm_6 rfl hl.1 rfl (by first | exact Nat.le_of_ble_eq_true rfl | simp [xrf_cat, xcI, xcJ, xcA]) dX10_roomOf_2 (by decide) (by decide) rfl (fun H locs hR hS => ?_)
  refine x_astore_n (o := w1) (lv' := [(2, va_rf w1), (0, va_rf (some a0)), (1, .int x1)]) hx hb dX10_roomOf_5 rfl hl (by decide) (by first | rfl | (simp [xrf_cat, xcI, xcJ, xcA]; done) | (simp [xrf_cat, xcI, xcJ, xcA]; decide)) (fun ls hl => ?_)
  refine x_aload_n (o := w1) hx hb dX10_roomOf_6 rfl (lv_at hl 0 rfl) ?_
  refine x_ifnonnull (o := w1) (tgt := 12) hx hb dX10_roomOf_7 (by decide) (fun c3 => ?_) (fun c3 => ?_)
  · replace hF := xiff c3 hF
    refine x_aload_n (o := w1) hx hb dX10_roomOf_12 rfl (lv_at hl 0 rfl) ?_
    refine x_aload_n (o := (some a0)) hx hb dX10_roomOf_13 rfl (lv_at hl 1 rfl) ?_
    replace hF := xbind hF; obtain ⟨v4, ev4, hF⟩ := hF
    refine x_getI (o := (some a0)) (ci := 10) (C := RX10) (T := TX10) (N := 11) hx hb hts iw_X10 hown hR rfl 8 (by decide) mm_195 (Or.inl rfl) ev4 dX10_roomOf_14 ?_
    refine x_aload_n (o := (some a0)) hx hb dX10_roomOf_17 rfl (lv_at hl 1 rfl) ?_
    replace hF := xbind hF; obtain ⟨v5, ev5, hF⟩ := hF
    refine x_getI (o := (some a0)) (ci := 10) (C := RX10) (T := TX10) (N := 11) hx hb hts iw_X10 hown hR rfl 8 (by decide) mm_195 (Or.inl rfl) ev5 dX10_roomOf_18 ?_
    replace hF := xbind hF; obtain ⟨b7, eb7, hF⟩ := hF
    replace hF := xbind hF; obtain ⟨v6, ev6, hF⟩ := hF
    refine x_callV (o := w1) (ci := 6) (As := [.int v4, .int v5]) (rest := []) (v := (some (.int v6))) (k := 2) hx hb hml hown hts hR hS eb7 rfl rfl (t_X6_leastLeft l D G h b7 v4 v5 v6 ev6) f_X6_leastLeft mm_756 mm_757 mm_758 rfl hl.1 rfl (by first | exact Nat.le_of_ble_eq_true rfl | simp [xrf_cat, xcI, xcJ, xcA]) dX10_roomOf_21 (by decide) (by decide) rfl (fun H locs hR hS => ?_)
    refine lv_istore_n (lv' := [(3, .int v6), (2, va_rf w1), (0, va_rf (some a0)), (1, .int x1)]) hx hb dX10_roomOf_24 rfl hl (by decide) (by first | rfl | (simp [xrf_cat, xcI, xcJ, xcA]; done) | (simp [xrf_cat, xcI, xcJ, xcA]; decide)) (fun ls hl => ?_)
    refine lv_iconst (v := 0) hx hb dX10_roomOf_25 (by decide) ?_
    refine lv_istore (lv' := [(4, .int 0), (3, .int v6), (2, va_rf w1), (0, va_rf (some a0)), (1, .int x1)]) hx hb dX10_roomOf_26 hl (by decide) (by first | rfl | (simp [xrf_cat, xcI, xcJ, xcA]; done) | (simp [xrf_cat, xcI, xcJ, xcA]; decide)) (fun ls hl => ?_)
    refine W.widen (k := 0) (n := 0) (by decide) (by decide) ?_
    exact tl_X10_roomOf_28 hx hb hr hlk hml hown hnm hts G h a0 x1 _ v6 0 _ _ _ hF hR hS (lv_sub hl [3, 4, 1, 0] rfl)
  · replace hF := xift c3 hF
    refine lv_iconst (v := (-1)) hx hb dX10_roomOf_10 (by decide) ?_
    cases hF
    exact x_iret hx hb hr rfl hlk hR hS (by decide) (by decide) dX10_roomOf_11
def rm_X10_let : Room := { frames := 7, cells := 0, slots := 0, locals := 161 }
theorem f_X10_let : xM yX10_let cX10_let 3 (some .boolean) 1 := ⟨mm_747, mm_55, by decide +kernel, by decide +kernel⟩
theorem dX10_let_0 : decode cX10_let 0 = .ok (.aload_n 0, 1) := by decide +kernel
theorem dX10_let_1 : decode cX10_let 1 = .ok (.iload_n 1, 1) := by decide +kernel
theorem dX10_let_2 : decode cX10_let 2 = .ok (.invokevirtual 206, 3) := by decide +kernel
theorem dX10_let_5 : decode cX10_let 5 = .ok (.astore_n 2, 1) := by decide +kernel
theorem dX10_let_6 : decode cX10_let 6 = .ok (.aload_n 2, 1) := by decide +kernel
theorem dX10_let_7 : decode cX10_let 7 = .ok (.ifnull 25, 3) := by decide +kernel
theorem dX10_let_10 : decode cX10_let 10 = .ok (.aload_n 2, 1) := by decide +kernel
theorem dX10_let_11 : decode cX10_let 11 = .ok (.getfield 210, 3) := by decide +kernel
theorem dX10_let_14 : decode cX10_let 14 = .ok (.ifCond .ne 18, 3) := by decide +kernel
theorem dX10_let_17 : decode cX10_let 17 = .ok (.aload_n 0, 1) := by decide +kernel
theorem dX10_let_18 : decode cX10_let 18 = .ok (.aload_n 2, 1) := by decide +kernel
theorem dX10_let_19 : decode cX10_let 19 = .ok (.getfield 213, 3) := by decide +kernel
theorem dX10_let_22 : decode cX10_let 22 = .ok (.invokevirtual 215, 3) := by decide +kernel
theorem dX10_let_25 : decode cX10_let 25 = .ok (.aload_n 2, 1) := by decide +kernel
theorem dX10_let_26 : decode cX10_let 26 = .ok (.getfield 218, 3) := by decide +kernel
theorem dX10_let_29 : decode cX10_let 29 = .ok (.if_icmp .ge 5, 3) := by decide +kernel
theorem dX10_let_32 : decode cX10_let 32 = .ok (.iconst 0, 1) := by decide +kernel
theorem dX10_let_33 : decode cX10_let 33 = .ok (.ireturn, 1) := by decide +kernel
theorem dX10_let_34 : decode cX10_let 34 = .ok (.aload_n 2, 1) := by decide +kernel
theorem dX10_let_35 : decode cX10_let 35 = .ok (.iconst 1, 1) := by decide +kernel
theorem dX10_let_36 : decode cX10_let 36 = .ok (.putfield 210, 3) := by decide +kernel
theorem dX10_let_39 : decode cX10_let 39 = .ok (.iconst 1, 1) := by decide +kernel
theorem dX10_let_40 : decode cX10_let 40 = .ok (.ireturn, 1) := by decide +kernel
def F_X10_let (G : Nat → Nat) (h : xH) (a0 : Nat) (x1 : Int32) : Option (Int32 × xH) :=
  (xc h (some a0) 10).bind fun b2 =>
  (F_X10_changeAt G h b2 x1).bind fun w1 =>
  if w1 = none then
    some (0, h)
  else
  (gI h w1 3 3).bind fun v4 =>
  if v4 = 0 then
    (gI h w1 3 0).bind fun v6 =>
    (xc h (some a0) 10).bind fun b8 =>
    (F_X10_roomOf G h b8 v6).bind fun v7 =>
    (gI h w1 3 1).bind fun v9 =>
    if v9 ≤ v7 then
      (xp G h w1 3 3 (.int 1)).bind fun h11 =>
      some (1, h11)
    else
    some (0, h)
  else
  some (0, h)
set_option maxHeartbeats 4000000 in
set_option maxRecDepth 100000 in
theorem t_X10_let (l : Launch) (D : va_G) (G : Nat → Nat) (h : xH) (a0 : Nat) (x1 : Int32) (r : Int32) (h' : xH) (hF : F_X10_let G h a0 x1 = some (r, h')) : xC l yX10_let cX10_let 3 (some .boolean) (rm_X10_let) D G h [.ref a0, .int x1] (some (.int r)) h' := by
  refine xC_of (by decide) (by first | decide | exact Nat.le_of_ble_eq_true rfl) ?_
  intro p e s m args below meth c ls hx hb hr hlk hml hown hnm hts hR hS hl
  have hl : lv_has ls 3 [(0, va_rf (some a0)), (1, .int x1)] := hl
  unfold F_X10_let at hF
  refine x_aload_n (o := (some a0)) hx hb dX10_let_0 rfl (lv_at hl 0 rfl) ?_
  refine lv_iload_n hx hb dX10_let_1 rfl (lv_at hl 1 rfl) ?_
  replace hF := xbind hF; obtain ⟨b2, eb2, hF⟩ := hF
  replace hF := xbind hF; obtain ⟨w1, ew1, hF⟩ := hF
  refine x_callV (o := (some a0)) (ci := 10) (As := [.int x1]) (rest := []) (v := (some (va_rf w1))) (k := 1) hx hb hml hown hts hR hS eb2 rfl rfl (t_X10_changeAt l D G h b2 x1 w1 ew1) f_X10_changeAt mm_748 mm_750 mm_23 rfl hl.1 rfl (by first | exact Nat.le_of_ble_eq_true rfl | simp [xrf_cat, xcI, xcJ, xcA]) dX10_let_2 (by decide) (by decide) rfl (fun H locs hR hS => ?_)
  refine x_astore_n (o := w1) (lv' := [(2, va_rf w1), (0, va_rf (some a0)), (1, .int x1)]) hx hb dX10_let_5 rfl hl (by decide) (by first | rfl | (simp [xrf_cat, xcI, xcJ, xcA]; done) | (simp [xrf_cat, xcI, xcJ, xcA]; decide)) (fun ls hl => ?_)
  refine x_aload_n (o := w1) hx hb dX10_let_6 rfl (lv_at hl 0 rfl) ?_
  refine x_ifnull (o := w1) (tgt := 32) hx hb dX10_let_7 (by decide) (fun c3 => ?_) (fun c3 => ?_)
  · replace hF := xift c3 hF
    refine lv_iconst (v := 0) hx hb dX10_let_32 (by decide) ?_
    cases hF
    exact x_iret hx hb hr rfl hlk hR hS (by decide) (by decide) dX10_let_33
  · replace hF := xiff c3 hF
    refine x_aload_n (o := w1) hx hb dX10_let_10 rfl (lv_at hl 0 rfl) ?_
    replace hF := xbind hF; obtain ⟨v4, ev4, hF⟩ := hF
    refine x_getI (o := w1) (ci := 3) (C := RX2) (T := TX2) (N := 5) hx hb hts iw_X2 hown hR rfl 3 (by decide) mm_731 (Or.inl rfl) ev4 dX10_let_11 ?_
    refine lv_if_ne (tgt := 32) hx hb dX10_let_14 (by decide) (fun c5 => ?_) (fun c5 => ?_)
    · replace hF := xiff c5 hF
      refine lv_iconst (v := 0) hx hb dX10_let_32 (by decide) ?_
      cases hF
      exact x_iret hx hb hr rfl hlk hR hS (by decide) (by decide) dX10_let_33
    · replace hF := xift c5 hF
      refine x_aload_n (o := (some a0)) hx hb dX10_let_17 rfl (lv_at hl 1 rfl) ?_
      refine x_aload_n (o := w1) hx hb dX10_let_18 rfl (lv_at hl 0 rfl) ?_
      replace hF := xbind hF; obtain ⟨v6, ev6, hF⟩ := hF
      refine x_getI (o := w1) (ci := 3) (C := RX2) (T := TX2) (N := 5) hx hb hts iw_X2 hown hR rfl 0 (by decide) mm_725 (Or.inl rfl) ev6 dX10_let_19 ?_
      replace hF := xbind hF; obtain ⟨b8, eb8, hF⟩ := hF
      replace hF := xbind hF; obtain ⟨v7, ev7, hF⟩ := hF
      refine x_callV (o := (some a0)) (ci := 10) (As := [.int v6]) (rest := []) (v := (some (.int v7))) (k := 1) hx hb hml hown hts hR hS eb8 rfl rfl (t_X10_roomOf l D G h b8 v6 v7 ev7) f_X10_roomOf mm_752 mm_754 mm_24 rfl hl.1 rfl (by first | exact Nat.le_of_ble_eq_true rfl | simp [xrf_cat, xcI, xcJ, xcA]) dX10_let_22 (by decide) (by decide) rfl (fun H locs hR hS => ?_)
      refine x_aload_n (o := w1) hx hb dX10_let_25 rfl (lv_at hl 0 rfl) ?_
      replace hF := xbind hF; obtain ⟨v9, ev9, hF⟩ := hF
      refine x_getI (o := w1) (ci := 3) (C := RX2) (T := TX2) (N := 5) hx hb hts iw_X2 hown hR rfl 1 (by decide) mm_727 (Or.inl rfl) ev9 dX10_let_26 ?_
      refine lv_icmp_ge (tgt := 34) hx hb dX10_let_29 (by decide) (fun c10 => ?_) (fun c10 => ?_)
      · replace hF := xift c10 hF
        refine x_aload_n (o := w1) hx hb dX10_let_34 rfl (lv_at hl 0 rfl) ?_
        refine lv_iconst (v := 1) hx hb dX10_let_35 (by decide) ?_
        replace hF := xbind hF; obtain ⟨h11, eh11, hF⟩ := hF
        refine x_put (o := w1) (ci := 3) (C := RX2) (T := TX2) (N := 5) hx hb hts iw_X2 tyX2_ok nmX2 hown hR hS rfl 3 (by decide) mm_731 (Or.inl rfl) rfl rfl rfl eh11 dX10_let_36 (fun H locs hR hS => ?_)
        refine lv_iconst (v := 1) hx hb dX10_let_39 (by decide) ?_
        cases hF
        exact x_iret hx hb hr rfl hlk hR hS (by decide) (by decide) dX10_let_40
      · replace hF := xiff c10 hF
        refine lv_iconst (v := 0) hx hb dX10_let_32 (by decide) ?_
        cases hF
        exact x_iret hx hb hr rfl hlk hR hS (by decide) (by decide) dX10_let_33
def rm_X10_settle : Room := { frames := 4, cells := 0, slots := 0, locals := 85 }
theorem f_X10_settle : xM yX10_settle cX10_settle 4 (some .boolean) 2 := ⟨mm_776, mm_55, by decide +kernel, by decide +kernel⟩
theorem dX10_settle_0 : decode cX10_settle 0 = .ok (.aload_n 0, 1) := by decide +kernel
theorem dX10_settle_1 : decode cX10_settle 1 = .ok (.iload_n 1, 1) := by decide +kernel
theorem dX10_settle_2 : decode cX10_settle 2 = .ok (.invokevirtual 206, 3) := by decide +kernel
theorem dX10_settle_5 : decode cX10_settle 5 = .ok (.astore_n 3, 1) := by decide +kernel
theorem dX10_settle_6 : decode cX10_settle 6 = .ok (.aload_n 3, 1) := by decide +kernel
theorem dX10_settle_7 : decode cX10_settle 7 = .ok (.ifnull 21, 3) := by decide +kernel
theorem dX10_settle_10 : decode cX10_settle 10 = .ok (.aload_n 3, 1) := by decide +kernel
theorem dX10_settle_11 : decode cX10_settle 11 = .ok (.getfield 210, 3) := by decide +kernel
theorem dX10_settle_14 : decode cX10_settle 14 = .ok (.iconst 1, 1) := by decide +kernel
theorem dX10_settle_15 : decode cX10_settle 15 = .ok (.if_icmp .ne 13, 3) := by decide +kernel
theorem dX10_settle_18 : decode cX10_settle 18 = .ok (.iload_n 2, 1) := by decide +kernel
theorem dX10_settle_19 : decode cX10_settle 19 = .ok (.iconst 0, 1) := by decide +kernel
theorem dX10_settle_20 : decode cX10_settle 20 = .ok (.ldc 150, 2) := by decide +kernel
theorem dX10_settle_22 : decode cX10_settle 22 = .ok (.invokestatic 66, 3) := by decide +kernel
theorem dX10_settle_25 : decode cX10_settle 25 = .ok (.ifCond .ne 5, 3) := by decide +kernel
theorem dX10_settle_28 : decode cX10_settle 28 = .ok (.iconst 0, 1) := by decide +kernel
theorem dX10_settle_29 : decode cX10_settle 29 = .ok (.ireturn, 1) := by decide +kernel
theorem dX10_settle_30 : decode cX10_settle 30 = .ok (.aload_n 3, 1) := by decide +kernel
theorem dX10_settle_31 : decode cX10_settle 31 = .ok (.iconst 2, 1) := by decide +kernel
theorem dX10_settle_32 : decode cX10_settle 32 = .ok (.putfield 210, 3) := by decide +kernel
theorem dX10_settle_35 : decode cX10_settle 35 = .ok (.aload_n 3, 1) := by decide +kernel
theorem dX10_settle_36 : decode cX10_settle 36 = .ok (.iload_n 2, 1) := by decide +kernel
theorem dX10_settle_37 : decode cX10_settle 37 = .ok (.putfield 221, 3) := by decide +kernel
theorem dX10_settle_40 : decode cX10_settle 40 = .ok (.iconst 1, 1) := by decide +kernel
theorem dX10_settle_41 : decode cX10_settle 41 = .ok (.ireturn, 1) := by decide +kernel
def F_X10_settle (G : Nat → Nat) (h : xH) (a0 : Nat) (x1 : Int32) (x2 : Int32) : Option (Int32 × xH) :=
  (xc h (some a0) 10).bind fun b2 =>
  (F_X10_changeAt G h b2 x1).bind fun w1 =>
  if w1 = none then
    some (0, h)
  else
  (gI h w1 3 3).bind fun v4 =>
  if v4 = 1 then
    (F_X10_within x2 0 100000).bind fun v6 =>
    if v6 = 0 then
      some (0, h)
    else
    (xp G h w1 3 3 (.int 2)).bind fun h8 =>
    (xp G h8 w1 3 4 (.int x2)).bind fun h9 =>
    some (1, h9)
  else
  some (0, h)
set_option maxHeartbeats 4000000 in
set_option maxRecDepth 100000 in
theorem t_X10_settle (l : Launch) (D : va_G) (G : Nat → Nat) (h : xH) (a0 : Nat) (x1 : Int32) (x2 : Int32) (r : Int32) (h' : xH) (hF : F_X10_settle G h a0 x1 x2 = some (r, h')) : xC l yX10_settle cX10_settle 4 (some .boolean) (rm_X10_settle) D G h [.ref a0, .int x1, .int x2] (some (.int r)) h' := by
  refine xC_of (by decide) (by first | decide | exact Nat.le_of_ble_eq_true rfl) ?_
  intro p e s m args below meth c ls hx hb hr hlk hml hown hnm hts hR hS hl
  have hl : lv_has ls 4 [(0, va_rf (some a0)), (1, .int x1), (2, .int x2)] := hl
  unfold F_X10_settle at hF
  refine x_aload_n (o := (some a0)) hx hb dX10_settle_0 rfl (lv_at hl 0 rfl) ?_
  refine lv_iload_n hx hb dX10_settle_1 rfl (lv_at hl 1 rfl) ?_
  replace hF := xbind hF; obtain ⟨b2, eb2, hF⟩ := hF
  replace hF := xbind hF; obtain ⟨w1, ew1, hF⟩ := hF
  refine x_callV (o := (some a0)) (ci := 10) (As := [.int x1]) (rest := []) (v := (some (va_rf w1))) (k := 1) hx hb hml hown hts hR hS eb2 rfl rfl (t_X10_changeAt l D G h b2 x1 w1 ew1) f_X10_changeAt mm_748 mm_750 mm_23 rfl hl.1 rfl (by first | exact Nat.le_of_ble_eq_true rfl | simp [xrf_cat, xcI, xcJ, xcA]) dX10_settle_2 (by decide) (by decide) rfl (fun H locs hR hS => ?_)
  refine x_astore_n (o := w1) (lv' := [(3, va_rf w1), (0, va_rf (some a0)), (1, .int x1), (2, .int x2)]) hx hb dX10_settle_5 rfl hl (by decide) (by first | rfl | (simp [xrf_cat, xcI, xcJ, xcA]; done) | (simp [xrf_cat, xcI, xcJ, xcA]; decide)) (fun ls hl => ?_)
  refine x_aload_n (o := w1) hx hb dX10_settle_6 rfl (lv_at hl 0 rfl) ?_
  refine x_ifnull (o := w1) (tgt := 28) hx hb dX10_settle_7 (by decide) (fun c3 => ?_) (fun c3 => ?_)
  · replace hF := xift c3 hF
    refine lv_iconst (v := 0) hx hb dX10_settle_28 (by decide) ?_
    cases hF
    exact x_iret hx hb hr rfl hlk hR hS (by decide) (by decide) dX10_settle_29
  · replace hF := xiff c3 hF
    refine x_aload_n (o := w1) hx hb dX10_settle_10 rfl (lv_at hl 0 rfl) ?_
    replace hF := xbind hF; obtain ⟨v4, ev4, hF⟩ := hF
    refine x_getI (o := w1) (ci := 3) (C := RX2) (T := TX2) (N := 5) hx hb hts iw_X2 hown hR rfl 3 (by decide) mm_731 (Or.inl rfl) ev4 dX10_settle_11 ?_
    refine lv_iconst (v := 1) hx hb dX10_settle_14 (by decide) ?_
    refine lv_icmp_ne (tgt := 28) hx hb dX10_settle_15 (by decide) (fun c5 => ?_) (fun c5 => ?_)
    · replace hF := xiff c5 hF
      refine lv_iconst (v := 0) hx hb dX10_settle_28 (by decide) ?_
      cases hF
      exact x_iret hx hb hr rfl hlk hR hS (by decide) (by decide) dX10_settle_29
    · replace hF := xift c5 hF
      refine lv_iload_n hx hb dX10_settle_18 rfl (lv_at hl 3 rfl) ?_
      refine lv_iconst (v := 0) hx hb dX10_settle_19 (by decide) ?_
      refine lv_ldc hx hb hown (hts _ mm_529) dX10_settle_20 ?_
      replace hF := xbind hF; obtain ⟨v6, ev6, hF⟩ := hF
      refine x_callS (As := [.int x2, .int 0, .int 100000]) (rest := []) (v := (some (.int v6))) (k := 3) hx hb hml hown hts hR hS (t_X10_within l D G h x2 0 100000 v6 ev6) f_X10_within mm_347 mm_348 rfl hl.1 rfl (by first | exact Nat.le_of_ble_eq_true rfl | simp [xrf_cat, xcI, xcJ, xcA]) dX10_settle_22 (by decide) (by decide) rfl (fun H locs hR hS => ?_)
      refine lv_if_ne (tgt := 30) hx hb dX10_settle_25 (by decide) (fun c7 => ?_) (fun c7 => ?_)
      · replace hF := xiff c7 hF
        refine x_aload_n (o := w1) hx hb dX10_settle_30 rfl (lv_at hl 0 rfl) ?_
        refine lv_iconst (v := 2) hx hb dX10_settle_31 (by decide) ?_
        replace hF := xbind hF; obtain ⟨h8, eh8, hF⟩ := hF
        refine x_put (o := w1) (ci := 3) (C := RX2) (T := TX2) (N := 5) hx hb hts iw_X2 tyX2_ok nmX2 hown hR hS rfl 3 (by decide) mm_731 (Or.inl rfl) rfl rfl rfl eh8 dX10_settle_32 (fun H locs hR hS => ?_)
        refine x_aload_n (o := w1) hx hb dX10_settle_35 rfl (lv_at hl 0 rfl) ?_
        refine lv_iload_n hx hb dX10_settle_36 rfl (lv_at hl 3 rfl) ?_
        replace hF := xbind hF; obtain ⟨h9, eh9, hF⟩ := hF
        refine x_put (o := w1) (ci := 3) (C := RX2) (T := TX2) (N := 5) hx hb hts iw_X2 tyX2_ok nmX2 hown hR hS rfl 4 (by decide) mm_732 (Or.inl rfl) rfl rfl rfl eh9 dX10_settle_37 (fun H locs hR hS => ?_)
        refine lv_iconst (v := 1) hx hb dX10_settle_40 (by decide) ?_
        cases hF
        exact x_iret hx hb hr rfl hlk hR hS (by decide) (by decide) dX10_settle_41
      · replace hF := xift c7 hF
        refine lv_iconst (v := 0) hx hb dX10_settle_28 (by decide) ?_
        cases hF
        exact x_iret hx hb hr rfl hlk hR hS (by decide) (by decide) dX10_settle_29
def rm_X10_plan : Room := { frames := 35, cells := 0, slots := 0, locals := 1366 }
theorem f_X10_plan : xM yX10_plan cX10_plan 4 (some .int) 1 := ⟨mm_780, mm_55, by decide +kernel, by decide +kernel⟩
theorem dX10_plan_0 : decode cX10_plan 0 = .ok (.aload_n 0, 1) := by decide +kernel
theorem dX10_plan_1 : decode cX10_plan 1 = .ok (.iload_n 1, 1) := by decide +kernel
theorem dX10_plan_2 : decode cX10_plan 2 = .ok (.invokevirtual 103, 3) := by decide +kernel
theorem dX10_plan_5 : decode cX10_plan 5 = .ok (.ifnonnull 5, 3) := by decide +kernel
theorem dX10_plan_8 : decode cX10_plan 8 = .ok (.iconst (-1), 1) := by decide +kernel
theorem dX10_plan_9 : decode cX10_plan 9 = .ok (.ireturn, 1) := by decide +kernel
theorem dX10_plan_10 : decode cX10_plan 10 = .ok (.aload_n 0, 1) := by decide +kernel
theorem dX10_plan_11 : decode cX10_plan 11 = .ok (.getfield 38, 3) := by decide +kernel
theorem dX10_plan_14 : decode cX10_plan 14 = .ok (.invokevirtual 224, 3) := by decide +kernel
theorem dX10_plan_17 : decode cX10_plan 17 = .ok (.iconst 0, 1) := by decide +kernel
theorem dX10_plan_18 : decode cX10_plan 18 = .ok (.istore_n 2, 1) := by decide +kernel
theorem dX10_plan_19 : decode cX10_plan 19 = .ok (.iload_n 2, 1) := by decide +kernel
theorem dX10_plan_20 : decode cX10_plan 20 = .ok (.aload_n 0, 1) := by decide +kernel
theorem dX10_plan_21 : decode cX10_plan 21 = .ok (.getfield 25, 3) := by decide +kernel
theorem dX10_plan_24 : decode cX10_plan 24 = .ok (.invokeinterface 49 1, 5) := by decide +kernel
theorem dX10_plan_29 : decode cX10_plan 29 = .ok (.if_icmp .ge 54, 3) := by decide +kernel
theorem dX10_plan_32 : decode cX10_plan 32 = .ok (.aload_n 0, 1) := by decide +kernel
theorem dX10_plan_33 : decode cX10_plan 33 = .ok (.getfield 25, 3) := by decide +kernel
theorem dX10_plan_36 : decode cX10_plan 36 = .ok (.iload_n 2, 1) := by decide +kernel
theorem dX10_plan_37 : decode cX10_plan 37 = .ok (.invokeinterface 225 2, 5) := by decide +kernel
theorem dX10_plan_42 : decode cX10_plan 42 = .ok (.checkcast 201, 3) := by decide +kernel
theorem dX10_plan_45 : decode cX10_plan 45 = .ok (.astore_n 3, 1) := by decide +kernel
theorem dX10_plan_46 : decode cX10_plan 46 = .ok (.aload_n 3, 1) := by decide +kernel
theorem dX10_plan_47 : decode cX10_plan 47 = .ok (.getfield 213, 3) := by decide +kernel
theorem dX10_plan_50 : decode cX10_plan 50 = .ok (.iload_n 1, 1) := by decide +kernel
theorem dX10_plan_51 : decode cX10_plan 51 = .ok (.if_icmp .ne 26, 3) := by decide +kernel
theorem dX10_plan_54 : decode cX10_plan 54 = .ok (.aload_n 3, 1) := by decide +kernel
theorem dX10_plan_55 : decode cX10_plan 55 = .ok (.getfield 210, 3) := by decide +kernel
theorem dX10_plan_58 : decode cX10_plan 58 = .ok (.ifCond .ne 19, 3) := by decide +kernel
theorem dX10_plan_61 : decode cX10_plan 61 = .ok (.aload_n 0, 1) := by decide +kernel
theorem dX10_plan_62 : decode cX10_plan 62 = .ok (.getfield 38, 3) := by decide +kernel
theorem dX10_plan_65 : decode cX10_plan 65 = .ok (.iload_n 2, 1) := by decide +kernel
theorem dX10_plan_66 : decode cX10_plan 66 = .ok (.aload_n 3, 1) := by decide +kernel
theorem dX10_plan_67 : decode cX10_plan 67 = .ok (.getfield 218, 3) := by decide +kernel
theorem dX10_plan_70 : decode cX10_plan 70 = .ok (.aload_n 3, 1) := by decide +kernel
theorem dX10_plan_71 : decode cX10_plan 71 = .ok (.getfield 229, 3) := by decide +kernel
theorem dX10_plan_74 : decode cX10_plan 74 = .ok (.invokevirtual 232, 3) := by decide +kernel
theorem dX10_plan_77 : decode cX10_plan 77 = .ok (.iinc 2 1, 3) := by decide +kernel
theorem dX10_plan_80 : decode cX10_plan 80 = .ok (.goto (-61), 3) := by decide +kernel
theorem dX10_plan_83 : decode cX10_plan 83 = .ok (.aload_n 0, 1) := by decide +kernel
theorem dX10_plan_84 : decode cX10_plan 84 = .ok (.getfield 38, 3) := by decide +kernel
theorem dX10_plan_87 : decode cX10_plan 87 = .ok (.aload_n 0, 1) := by decide +kernel
theorem dX10_plan_88 : decode cX10_plan 88 = .ok (.iload_n 1, 1) := by decide +kernel
theorem dX10_plan_89 : decode cX10_plan 89 = .ok (.invokevirtual 215, 3) := by decide +kernel
theorem dX10_plan_92 : decode cX10_plan 92 = .ok (.invokevirtual 235, 3) := by decide +kernel
theorem dX10_plan_95 : decode cX10_plan 95 = .ok (.ireturn, 1) := by decide +kernel
def F_X10_plan_19 (G : Nat → Nat) (a0 : Nat) (x1 : Int32) : Nat → xH → Int32 → Option (Int32 × xH)
  | 0, _, _ => none
  | n + 1, h, x2 =>
    (gR h (some a0) 10 4).bind fun w7 =>
    (xc h w7 0).bind fun b9 =>
    (F_Jx4a65c_size_8abf5 G h b9).bind fun v8 =>
    if v8 ≤ x2 then
      (gR h (some a0) 10 6).bind fun w11 =>
      (xc h (some a0) 10).bind fun b13 =>
      (F_X10_roomOf G h b13 x1).bind fun v12 =>
      (xc h w11 5).bind fun b16 =>
      (F_X5_choose G h b16 v12).bind fun (v14, h15) =>
      some (v14, h15)
    else
    (gR h (some a0) 10 4).bind fun w17 =>
    (xc h w17 0).bind fun b19 =>
    (F_Jx4a65c_get_915e3 G h b19 x2).bind fun w18 =>
    xk h w18 3 <|
    (gI h w18 3 0).bind fun v21 =>
    if v21 = x1 then
      (gI h w18 3 3).bind fun v24 =>
      if v24 = 0 then
        (gR h (some a0) 10 6).bind fun w27 =>
        (gI h w18 3 1).bind fun v28 =>
        (gI h w18 3 2).bind fun v29 =>
        (xc h w27 5).bind fun b31 =>
        (F_X5_offer G h b31 x2 v28 v29).bind fun h30 =>
        xl (x2 + 1) fun v32 =>
        F_X10_plan_19 G a0 x1 n h30 v32
      else
      xl (x2 + 1) fun v26 =>
      F_X10_plan_19 G a0 x1 n h v26
    else
    xl (x2 + 1) fun v23 =>
    F_X10_plan_19 G a0 x1 n h v23
set_option maxHeartbeats 4000000 in
set_option maxRecDepth 100000 in
theorem tl_X10_plan_19 {p : Program} {l : Launch} {e : Env} {s : State} {m : MethodId} {args : Array Value} {below : List Frame} {meth : Method} {c : Code} {D : va_G} {r : Int32} {h' : xH} (hx : p.tables.exec = Jvm.exec) (hb : c.code = cX10_plan) (hr : meth.sig.returnType = (some .int)) (hlk : meth.locks = false) (hml : c.maxLocals = 4) (hown : s.vm.findClass RX10 = some m.cls) (hnm : meth.name = "plan") (hts : ∀ w ∈ xt, w.before args s = true) (G : Nat → Nat) (a0 : Nat) (x1 : Int32) : ∀ (n : Nat) (h : xH) (x2 : Int32) (H : Heap) (locs : List Loc) (ls : Array Slot), F_X10_plan_19 G a0 x1 n h x2 = some (r, h') → xR D G h s H → va_S (xA G) s.heap H locs → lv_has ls 4 [(0, va_rf (some a0)), (1, .int x1), (2, .int x2)] → W p l e rm_X10_plan s m args below meth c H locs 0 0 (MQ below (xQ D G (some (.int r)) h') args s rm_X10_plan.cells rm_X10_plan.slots (xA G)) (F0 m 19 ls []) := by
  intro n
  induction n with
  | zero =>
    intro h x2 H locs ls hF
    rw [F_X10_plan_19.eq_1] at hF
    cases hF
  | succ n ih =>
    intro h x2 H locs ls hF hR hS hl
    rw [F_X10_plan_19.eq_2] at hF
    refine lv_iload_n hx hb dX10_plan_19 rfl (lv_at hl 2 rfl) ?_
    refine x_aload_n (o := (some a0)) hx hb dX10_plan_20 rfl (lv_at hl 0 rfl) ?_
    replace hF := xbind hF; obtain ⟨w7, ew7, hF⟩ := hF
    refine x_getR (o := (some a0)) (ci := 10) (C := RX10) (T := TX10) (N := 11) hx hb hts iw_X10 hown hR rfl 4 (by decide) mm_191 (Or.inl rfl) ew7 dX10_plan_21 ?_
    replace hF := xbind hF; obtain ⟨b9, eb9, hF⟩ := hF
    replace hF := xbind hF; obtain ⟨v8, ev8, hF⟩ := hF
    refine x_callF (o := w7) (ci := 0) (As := []) (rest := [.int x2]) (v := (some (.int v8))) (k := 0) hx hb hml hown hts hR hS eb9 rfl (by decide +kernel) (t_Jx4a65c_size_8abf5 l D G h b9 v8 ev8) f_Jx4a65c_size_8abf5 mm_226 mm_232 mm_230 (by decide +kernel) rfl hl.1 rfl (by first | exact Nat.le_of_ble_eq_true rfl | simp [xrf_cat, xcI, xcJ, xcA]) dX10_plan_24 (by decide) (by decide) rfl (fun H locs hR hS => ?_)
    refine lv_icmp_ge (tgt := 83) hx hb dX10_plan_29 (by decide) (fun c10 => ?_) (fun c10 => ?_)
    · replace hF := xift c10 hF
      refine x_aload_n (o := (some a0)) hx hb dX10_plan_83 rfl (lv_at hl 0 rfl) ?_
      replace hF := xbind hF; obtain ⟨w11, ew11, hF⟩ := hF
      refine x_getR (o := (some a0)) (ci := 10) (C := RX10) (T := TX10) (N := 11) hx hb hts iw_X10 hown hR rfl 6 (by decide) mm_193 (Or.inl rfl) ew11 dX10_plan_84 ?_
      refine x_aload_n (o := (some a0)) hx hb dX10_plan_87 rfl (lv_at hl 0 rfl) ?_
      refine lv_iload_n hx hb dX10_plan_88 rfl (lv_at hl 1 rfl) ?_
      replace hF := xbind hF; obtain ⟨b13, eb13, hF⟩ := hF
      replace hF := xbind hF; obtain ⟨v12, ev12, hF⟩ := hF
      refine x_callV (o := (some a0)) (ci := 10) (As := [.int x1]) (rest := [va_rf w11]) (v := (some (.int v12))) (k := 1) hx hb hml hown hts hR hS eb13 rfl rfl (t_X10_roomOf l D G h b13 x1 v12 ev12) f_X10_roomOf mm_752 mm_754 mm_24 rfl hl.1 rfl (by first | exact Nat.le_of_ble_eq_true rfl | simp [xrf_cat, xcI, xcJ, xcA]) dX10_plan_89 (by decide) (by decide) rfl (fun H locs hR hS => ?_)
      replace hF := xbind hF; obtain ⟨b16, eb16, hF⟩ := hF
      replace hF := xbind hF; obtain ⟨⟨v14, h15⟩, ev14, hF⟩ := hF
      refine x_callV (o := w11) (ci := 5) (As := [.int v12]) (rest := []) (v := (some (.int v14))) (k := 1) hx hb hml hown hts hR hS eb16 rfl rfl (t_X5_choose l D G h b16 v12 v14 h15 ev14) f_X5_choose mm_789 mm_790 mm_791 rfl hl.1 rfl (by first | exact Nat.le_of_ble_eq_true rfl | simp [xrf_cat, xcI, xcJ, xcA]) dX10_plan_92 (by decide) (by decide) rfl (fun H locs hR hS => ?_)
      cases hF
      exact x_iret hx hb hr rfl hlk hR hS (by decide) (by decide) dX10_plan_95
    · replace hF := xiff c10 hF
      refine x_aload_n (o := (some a0)) hx hb dX10_plan_32 rfl (lv_at hl 0 rfl) ?_
      replace hF := xbind hF; obtain ⟨w17, ew17, hF⟩ := hF
      refine x_getR (o := (some a0)) (ci := 10) (C := RX10) (T := TX10) (N := 11) hx hb hts iw_X10 hown hR rfl 4 (by decide) mm_191 (Or.inl rfl) ew17 dX10_plan_33 ?_
      refine lv_iload_n hx hb dX10_plan_36 rfl (lv_at hl 2 rfl) ?_
      replace hF := xbind hF; obtain ⟨b19, eb19, hF⟩ := hF
      replace hF := xbind hF; obtain ⟨w18, ew18, hF⟩ := hF
      refine x_callF (o := w17) (ci := 0) (As := [.int x2]) (rest := []) (v := (some (va_rf w18))) (k := 1) hx hb hml hown hts hR hS eb19 rfl (by decide +kernel) (t_Jx4a65c_get_915e3 l D G h b19 x2 w18 ew18) f_Jx4a65c_get_915e3 mm_329 mm_334 mm_332 (by decide +kernel) rfl hl.1 rfl (by first | exact Nat.le_of_ble_eq_true rfl | simp [xrf_cat, xcI, xcJ, xcA]) dX10_plan_37 (by decide) (by decide) rfl (fun H locs hR hS => ?_)
      replace hF := xkguard hF; obtain ⟨c20, hF⟩ := hF
      refine x_cast (o := w18) (ci := 3) hx hb hown hts hR rfl mm_718 c20 dX10_plan_42 ?_
      refine x_astore_n (o := w18) (lv' := [(3, va_rf w18), (0, va_rf (some a0)), (1, .int x1), (2, .int x2)]) hx hb dX10_plan_45 rfl hl (by decide) (by first | rfl | (simp [xrf_cat, xcI, xcJ, xcA]; done) | (simp [xrf_cat, xcI, xcJ, xcA]; decide)) (fun ls hl => ?_)
      refine x_aload_n (o := w18) hx hb dX10_plan_46 rfl (lv_at hl 0 rfl) ?_
      replace hF := xbind hF; obtain ⟨v21, ev21, hF⟩ := hF
      refine x_getI (o := w18) (ci := 3) (C := RX2) (T := TX2) (N := 5) hx hb hts iw_X2 hown hR rfl 0 (by decide) mm_725 (Or.inl rfl) ev21 dX10_plan_47 ?_
      refine lv_iload_n hx hb dX10_plan_50 rfl (lv_at hl 2 rfl) ?_
      refine lv_icmp_ne (tgt := 77) hx hb dX10_plan_51 (by decide) (fun c22 => ?_) (fun c22 => ?_)
      · replace hF := xiff c22 hF
        obtain ⟨v23, ev23⟩ : ∃ z : Int32, z = (x2 + 1) := ⟨_, rfl⟩
        replace hF := xlet ev23 hF
        refine lv_iinc (v := v23) (lv' := [(2, .int v23), (3, va_rf w18), (0, va_rf (some a0)), (1, .int x1)]) hx hb dX10_plan_77 hl (k := 3) rfl (by rw [ev23]; rfl) (by decide) (by first | rfl | (simp [xrf_cat, xcI, xcJ, xcA]; done) | (simp [xrf_cat, xcI, xcJ, xcA]; decide)) (fun ls hl => ?_)
        refine lv_goto (tgt := 19) hx hb dX10_plan_80 (by decide) ?_
        exact ih h v23 _ _ _ hF hR hS (lv_sub hl [2, 3, 0] rfl)
      · replace hF := xift c22 hF
        refine x_aload_n (o := w18) hx hb dX10_plan_54 rfl (lv_at hl 0 rfl) ?_
        replace hF := xbind hF; obtain ⟨v24, ev24, hF⟩ := hF
        refine x_getI (o := w18) (ci := 3) (C := RX2) (T := TX2) (N := 5) hx hb hts iw_X2 hown hR rfl 3 (by decide) mm_731 (Or.inl rfl) ev24 dX10_plan_55 ?_
        refine lv_if_ne (tgt := 77) hx hb dX10_plan_58 (by decide) (fun c25 => ?_) (fun c25 => ?_)
        · replace hF := xiff c25 hF
          obtain ⟨v26, ev26⟩ : ∃ z : Int32, z = (x2 + 1) := ⟨_, rfl⟩
          replace hF := xlet ev26 hF
          refine lv_iinc (v := v26) (lv' := [(2, .int v26), (3, va_rf w18), (0, va_rf (some a0)), (1, .int x1)]) hx hb dX10_plan_77 hl (k := 3) rfl (by rw [ev26]; rfl) (by decide) (by first | rfl | (simp [xrf_cat, xcI, xcJ, xcA]; done) | (simp [xrf_cat, xcI, xcJ, xcA]; decide)) (fun ls hl => ?_)
          refine lv_goto (tgt := 19) hx hb dX10_plan_80 (by decide) ?_
          exact ih h v26 _ _ _ hF hR hS (lv_sub hl [2, 3, 0] rfl)
        · replace hF := xift c25 hF
          refine x_aload_n (o := (some a0)) hx hb dX10_plan_61 rfl (lv_at hl 1 rfl) ?_
          replace hF := xbind hF; obtain ⟨w27, ew27, hF⟩ := hF
          refine x_getR (o := (some a0)) (ci := 10) (C := RX10) (T := TX10) (N := 11) hx hb hts iw_X10 hown hR rfl 6 (by decide) mm_193 (Or.inl rfl) ew27 dX10_plan_62 ?_
          refine lv_iload_n hx hb dX10_plan_65 rfl (lv_at hl 3 rfl) ?_
          refine x_aload_n (o := w18) hx hb dX10_plan_66 rfl (lv_at hl 0 rfl) ?_
          replace hF := xbind hF; obtain ⟨v28, ev28, hF⟩ := hF
          refine x_getI (o := w18) (ci := 3) (C := RX2) (T := TX2) (N := 5) hx hb hts iw_X2 hown hR rfl 1 (by decide) mm_727 (Or.inl rfl) ev28 dX10_plan_67 ?_
          refine x_aload_n (o := w18) hx hb dX10_plan_70 rfl (lv_at hl 0 rfl) ?_
          replace hF := xbind hF; obtain ⟨v29, ev29, hF⟩ := hF
          refine x_getI (o := w18) (ci := 3) (C := RX2) (T := TX2) (N := 5) hx hb hts iw_X2 hown hR rfl 2 (by decide) mm_729 (Or.inl rfl) ev29 dX10_plan_71 ?_
          replace hF := xbind hF; obtain ⟨b31, eb31, hF⟩ := hF
          replace hF := xbind hF; obtain ⟨h30, eh30, hF⟩ := hF
          refine x_callV (o := w27) (ci := 5) (As := [.int x2, .int v28, .int v29]) (rest := []) (v := none) (k := 3) hx hb hml hown hts hR hS eb31 rfl rfl (t_X5_offer l D G h b31 x2 v28 v29 h30 eh30) f_X5_offer mm_785 mm_786 mm_787 rfl hl.1 rfl (by first | exact Nat.le_of_ble_eq_true rfl | simp [xrf_cat, xcI, xcJ, xcA]) dX10_plan_74 (by decide) (by decide) rfl (fun H locs hR hS => ?_)
          obtain ⟨v32, ev32⟩ : ∃ z : Int32, z = (x2 + 1) := ⟨_, rfl⟩
          replace hF := xlet ev32 hF
          refine lv_iinc (v := v32) (lv' := [(2, .int v32), (3, va_rf w18), (0, va_rf (some a0)), (1, .int x1)]) hx hb dX10_plan_77 hl (k := 3) rfl (by rw [ev32]; rfl) (by decide) (by first | rfl | (simp [xrf_cat, xcI, xcJ, xcA]; done) | (simp [xrf_cat, xcI, xcJ, xcA]; decide)) (fun ls hl => ?_)
          refine lv_goto (tgt := 19) hx hb dX10_plan_80 (by decide) ?_
          exact ih h30 v32 _ _ _ hF hR hS (lv_sub hl [2, 3, 0] rfl)
def F_X10_plan (G : Nat → Nat) (h : xH) (a0 : Nat) (x1 : Int32) : Option (Int32 × xH) :=
  (xc h (some a0) 10).bind fun b2 =>
  (F_X10_promiseAt G h b2 x1).bind fun w1 =>
  if w1 = none then
    some ((-1), h)
  else
  (gR h (some a0) 10 6).bind fun w4 =>
  (xc h w4 5).bind fun b6 =>
  (F_X5_clear G h b6).bind fun h5 =>
  F_X10_plan_19 G a0 x1 xN h5 0
set_option maxHeartbeats 4000000 in
set_option maxRecDepth 100000 in
theorem t_X10_plan (l : Launch) (D : va_G) (G : Nat → Nat) (h : xH) (a0 : Nat) (x1 : Int32) (r : Int32) (h' : xH) (hF : F_X10_plan G h a0 x1 = some (r, h')) : xC l yX10_plan cX10_plan 4 (some .int) (rm_X10_plan) D G h [.ref a0, .int x1] (some (.int r)) h' := by
  refine xC_of (by decide) (by first | decide | exact Nat.le_of_ble_eq_true rfl) ?_
  intro p e s m args below meth c ls hx hb hr hlk hml hown hnm hts hR hS hl
  have hl : lv_has ls 4 [(0, va_rf (some a0)), (1, .int x1)] := hl
  unfold F_X10_plan at hF
  refine x_aload_n (o := (some a0)) hx hb dX10_plan_0 rfl (lv_at hl 0 rfl) ?_
  refine lv_iload_n hx hb dX10_plan_1 rfl (lv_at hl 1 rfl) ?_
  replace hF := xbind hF; obtain ⟨b2, eb2, hF⟩ := hF
  replace hF := xbind hF; obtain ⟨w1, ew1, hF⟩ := hF
  refine x_callV (o := (some a0)) (ci := 10) (As := [.int x1]) (rest := []) (v := (some (va_rf w1))) (k := 1) hx hb hml hown hts hR hS eb2 rfl rfl (t_X10_promiseAt l D G h b2 x1 w1 ew1) f_X10_promiseAt mm_437 mm_439 mm_6 rfl hl.1 rfl (by first | exact Nat.le_of_ble_eq_true rfl | simp [xrf_cat, xcI, xcJ, xcA]) dX10_plan_2 (by decide) (by decide) rfl (fun H locs hR hS => ?_)
  refine x_ifnonnull (o := w1) (tgt := 10) hx hb dX10_plan_5 (by decide) (fun c3 => ?_) (fun c3 => ?_)
  · replace hF := xiff c3 hF
    refine x_aload_n (o := (some a0)) hx hb dX10_plan_10 rfl (lv_at hl 0 rfl) ?_
    replace hF := xbind hF; obtain ⟨w4, ew4, hF⟩ := hF
    refine x_getR (o := (some a0)) (ci := 10) (C := RX10) (T := TX10) (N := 11) hx hb hts iw_X10 hown hR rfl 6 (by decide) mm_193 (Or.inl rfl) ew4 dX10_plan_11 ?_
    replace hF := xbind hF; obtain ⟨b6, eb6, hF⟩ := hF
    replace hF := xbind hF; obtain ⟨h5, eh5, hF⟩ := hF
    refine x_callV (o := w4) (ci := 5) (As := []) (rest := []) (v := none) (k := 0) hx hb hml hown hts hR hS eb6 rfl rfl (t_X5_clear l D G h b6 h5 eh5) f_X5_clear mm_781 mm_782 mm_783 rfl hl.1 rfl (by first | exact Nat.le_of_ble_eq_true rfl | simp [xrf_cat, xcI, xcJ, xcA]) dX10_plan_14 (by decide) (by decide) rfl (fun H locs hR hS => ?_)
    refine lv_iconst (v := 0) hx hb dX10_plan_17 (by decide) ?_
    refine lv_istore_n (lv' := [(2, .int 0), (0, va_rf (some a0)), (1, .int x1)]) hx hb dX10_plan_18 rfl hl (by decide) (by first | rfl | (simp [xrf_cat, xcI, xcJ, xcA]; done) | (simp [xrf_cat, xcI, xcJ, xcA]; decide)) (fun ls hl => ?_)
    refine W.widen (k := 0) (n := 0) (by decide) (by decide) ?_
    exact tl_X10_plan_19 hx hb hr hlk hml hown hnm hts G a0 x1 _ h5 0 _ _ _ hF hR hS (lv_sub hl [1, 2, 0] rfl)
  · replace hF := xift c3 hF
    refine lv_iconst (v := (-1)) hx hb dX10_plan_8 (by decide) ?_
    cases hF
    exact x_iret hx hb hr rfl hlk hR hS (by decide) (by decide) dX10_plan_9
def rm_X10_planned : Room := { frames := 1, cells := 0, slots := 0, locals := 21 }
theorem f_X10_planned : xM yX10_planned cX10_planned 2 (some .int) 1 := ⟨mm_822, mm_55, by decide +kernel, by decide +kernel⟩
theorem dX10_planned_0 : decode cX10_planned 0 = .ok (.aload_n 0, 1) := by decide +kernel
theorem dX10_planned_1 : decode cX10_planned 1 = .ok (.getfield 38, 3) := by decide +kernel
theorem dX10_planned_4 : decode cX10_planned 4 = .ok (.iload_n 1, 1) := by decide +kernel
theorem dX10_planned_5 : decode cX10_planned 5 = .ok (.invokevirtual 238, 3) := by decide +kernel
theorem dX10_planned_8 : decode cX10_planned 8 = .ok (.ireturn, 1) := by decide +kernel
def F_X10_planned (G : Nat → Nat) (h : xH) (a0 : Nat) (x1 : Int32) : Option Int32 :=
  (gR h (some a0) 10 6).bind fun w1 =>
  (xc h w1 5).bind fun b3 =>
  (F_X5_chosenAt G h b3 x1).bind fun v2 =>
  some v2
set_option maxHeartbeats 4000000 in
set_option maxRecDepth 100000 in
theorem t_X10_planned (l : Launch) (D : va_G) (G : Nat → Nat) (h : xH) (a0 : Nat) (x1 : Int32) (r : Int32) (hF : F_X10_planned G h a0 x1 = some r) : xC l yX10_planned cX10_planned 2 (some .int) (rm_X10_planned) D G h [.ref a0, .int x1] (some (.int r)) h := by
  refine xC_of (by decide) (by first | decide | exact Nat.le_of_ble_eq_true rfl) ?_
  intro p e s m args below meth c ls hx hb hr hlk hml hown hnm hts hR hS hl
  have hl : lv_has ls 2 [(0, va_rf (some a0)), (1, .int x1)] := hl
  unfold F_X10_planned at hF
  refine x_aload_n (o := (some a0)) hx hb dX10_planned_0 rfl (lv_at hl 0 rfl) ?_
  replace hF := xbind hF; obtain ⟨w1, ew1, hF⟩ := hF
  refine x_getR (o := (some a0)) (ci := 10) (C := RX10) (T := TX10) (N := 11) hx hb hts iw_X10 hown hR rfl 6 (by decide) mm_193 (Or.inl rfl) ew1 dX10_planned_1 ?_
  refine lv_iload_n hx hb dX10_planned_4 rfl (lv_at hl 1 rfl) ?_
  replace hF := xbind hF; obtain ⟨b3, eb3, hF⟩ := hF
  replace hF := xbind hF; obtain ⟨v2, ev2, hF⟩ := hF
  refine x_callV (o := w1) (ci := 5) (As := [.int x1]) (rest := []) (v := (some (.int v2))) (k := 1) hx hb hml hown hts hR hS eb3 rfl rfl (t_X5_chosenAt l D G h b3 x1 v2 ev2) f_X5_chosenAt mm_823 mm_824 mm_825 rfl hl.1 rfl (by first | exact Nat.le_of_ble_eq_true rfl | simp [xrf_cat, xcI, xcJ, xcA]) dX10_planned_5 (by decide) (by decide) rfl (fun H locs hR hS => ?_)
  cases hF
  exact x_iret hx hb hr rfl hlk hR hS (by decide) (by decide) dX10_planned_8
def rm_X10_look : Room := { frames := 4, cells := 0, slots := 0, locals := 85 }
theorem f_X10_look : xM yX10_look cX10_look 4 (some .int) 2 := ⟨mm_830, mm_55, by decide +kernel, by decide +kernel⟩
theorem dX10_look_0 : decode cX10_look 0 = .ok (.aload_n 0, 1) := by decide +kernel
theorem dX10_look_1 : decode cX10_look 1 = .ok (.iload_n 1, 1) := by decide +kernel
theorem dX10_look_2 : decode cX10_look 2 = .ok (.invokevirtual 206, 3) := by decide +kernel
theorem dX10_look_5 : decode cX10_look 5 = .ok (.astore_n 3, 1) := by decide +kernel
theorem dX10_look_6 : decode cX10_look 6 = .ok (.aload_n 3, 1) := by decide +kernel
theorem dX10_look_7 : decode cX10_look 7 = .ok (.ifnonnull 5, 3) := by decide +kernel
theorem dX10_look_10 : decode cX10_look 10 = .ok (.iconst (-1), 1) := by decide +kernel
theorem dX10_look_11 : decode cX10_look 11 = .ok (.ireturn, 1) := by decide +kernel
theorem dX10_look_12 : decode cX10_look 12 = .ok (.iload_n 2, 1) := by decide +kernel
theorem dX10_look_13 : decode cX10_look 13 = .ok (.tableswitch 60 0 4 #[35, 40, 45, 50, 55], 35) := by decide +kernel
theorem dX10_look_48 : decode cX10_look 48 = .ok (.aload_n 3, 1) := by decide +kernel
theorem dX10_look_49 : decode cX10_look 49 = .ok (.getfield 210, 3) := by decide +kernel
theorem dX10_look_52 : decode cX10_look 52 = .ok (.ireturn, 1) := by decide +kernel
theorem dX10_look_53 : decode cX10_look 53 = .ok (.aload_n 3, 1) := by decide +kernel
theorem dX10_look_54 : decode cX10_look 54 = .ok (.getfield 213, 3) := by decide +kernel
theorem dX10_look_57 : decode cX10_look 57 = .ok (.ireturn, 1) := by decide +kernel
theorem dX10_look_58 : decode cX10_look 58 = .ok (.aload_n 3, 1) := by decide +kernel
theorem dX10_look_59 : decode cX10_look 59 = .ok (.getfield 218, 3) := by decide +kernel
theorem dX10_look_62 : decode cX10_look 62 = .ok (.ireturn, 1) := by decide +kernel
theorem dX10_look_63 : decode cX10_look 63 = .ok (.aload_n 3, 1) := by decide +kernel
theorem dX10_look_64 : decode cX10_look 64 = .ok (.getfield 229, 3) := by decide +kernel
theorem dX10_look_67 : decode cX10_look 67 = .ok (.ireturn, 1) := by decide +kernel
theorem dX10_look_68 : decode cX10_look 68 = .ok (.aload_n 3, 1) := by decide +kernel
theorem dX10_look_69 : decode cX10_look 69 = .ok (.getfield 221, 3) := by decide +kernel
theorem dX10_look_72 : decode cX10_look 72 = .ok (.ireturn, 1) := by decide +kernel
theorem dX10_look_73 : decode cX10_look 73 = .ok (.iconst (-1), 1) := by decide +kernel
theorem dX10_look_74 : decode cX10_look 74 = .ok (.ireturn, 1) := by decide +kernel
def F_X10_look (G : Nat → Nat) (h : xH) (a0 : Nat) (x1 : Int32) (x2 : Int32) : Option Int32 :=
  (xc h (some a0) 10).bind fun b2 =>
  (F_X10_changeAt G h b2 x1).bind fun w1 =>
  if w1 = none then
    some (-1)
  else
  if x2 = 0 then
    (gI h w1 3 3).bind fun v5 =>
    some v5
  else
  if x2 = 1 then
    (gI h w1 3 0).bind fun v7 =>
    some v7
  else
  if x2 = 2 then
    (gI h w1 3 1).bind fun v9 =>
    some v9
  else
  if x2 = 3 then
    (gI h w1 3 2).bind fun v11 =>
    some v11
  else
  if x2 = 4 then
    (gI h w1 3 4).bind fun v13 =>
    some v13
  else
  some (-1)
set_option maxHeartbeats 4000000 in
set_option maxRecDepth 100000 in
theorem t_X10_look (l : Launch) (D : va_G) (G : Nat → Nat) (h : xH) (a0 : Nat) (x1 : Int32) (x2 : Int32) (r : Int32) (hF : F_X10_look G h a0 x1 x2 = some r) : xC l yX10_look cX10_look 4 (some .int) (rm_X10_look) D G h [.ref a0, .int x1, .int x2] (some (.int r)) h := by
  refine xC_of (by decide) (by first | decide | exact Nat.le_of_ble_eq_true rfl) ?_
  intro p e s m args below meth c ls hx hb hr hlk hml hown hnm hts hR hS hl
  have hl : lv_has ls 4 [(0, va_rf (some a0)), (1, .int x1), (2, .int x2)] := hl
  unfold F_X10_look at hF
  refine x_aload_n (o := (some a0)) hx hb dX10_look_0 rfl (lv_at hl 0 rfl) ?_
  refine lv_iload_n hx hb dX10_look_1 rfl (lv_at hl 1 rfl) ?_
  replace hF := xbind hF; obtain ⟨b2, eb2, hF⟩ := hF
  replace hF := xbind hF; obtain ⟨w1, ew1, hF⟩ := hF
  refine x_callV (o := (some a0)) (ci := 10) (As := [.int x1]) (rest := []) (v := (some (va_rf w1))) (k := 1) hx hb hml hown hts hR hS eb2 rfl rfl (t_X10_changeAt l D G h b2 x1 w1 ew1) f_X10_changeAt mm_748 mm_750 mm_23 rfl hl.1 rfl (by first | exact Nat.le_of_ble_eq_true rfl | simp [xrf_cat, xcI, xcJ, xcA]) dX10_look_2 (by decide) (by decide) rfl (fun H locs hR hS => ?_)
  refine x_astore_n (o := w1) (lv' := [(3, va_rf w1), (0, va_rf (some a0)), (1, .int x1), (2, .int x2)]) hx hb dX10_look_5 rfl hl (by decide) (by first | rfl | (simp [xrf_cat, xcI, xcJ, xcA]; done) | (simp [xrf_cat, xcI, xcJ, xcA]; decide)) (fun ls hl => ?_)
  refine x_aload_n (o := w1) hx hb dX10_look_6 rfl (lv_at hl 0 rfl) ?_
  refine x_ifnonnull (o := w1) (tgt := 12) hx hb dX10_look_7 (by decide) (fun c3 => ?_) (fun c3 => ?_)
  · replace hF := xiff c3 hF
    refine lv_iload_n hx hb dX10_look_12 rfl (lv_at hl 3 rfl) ?_
    by_cases c4 : x2 = 0
    · replace hF := xift c4 hF
      refine lv_tableIn (off := 35) (tgt := 48) hx hb dX10_look_13 (by rw [c4]; decide) (by rw [c4]; decide) (by rw [c4]; rfl) (by decide) ?_
      refine x_aload_n (o := w1) hx hb dX10_look_48 rfl (lv_at hl 0 rfl) ?_
      replace hF := xbind hF; obtain ⟨v5, ev5, hF⟩ := hF
      refine x_getI (o := w1) (ci := 3) (C := RX2) (T := TX2) (N := 5) hx hb hts iw_X2 hown hR rfl 3 (by decide) mm_731 (Or.inl rfl) ev5 dX10_look_49 ?_
      cases hF
      exact x_iret hx hb hr rfl hlk hR hS (by decide) (by decide) dX10_look_52
    replace hF := xiff c4 hF
    by_cases c6 : x2 = 1
    · replace hF := xift c6 hF
      refine lv_tableIn (off := 40) (tgt := 53) hx hb dX10_look_13 (by rw [c6]; decide) (by rw [c6]; decide) (by rw [c6]; rfl) (by decide) ?_
      refine x_aload_n (o := w1) hx hb dX10_look_53 rfl (lv_at hl 0 rfl) ?_
      replace hF := xbind hF; obtain ⟨v7, ev7, hF⟩ := hF
      refine x_getI (o := w1) (ci := 3) (C := RX2) (T := TX2) (N := 5) hx hb hts iw_X2 hown hR rfl 0 (by decide) mm_725 (Or.inl rfl) ev7 dX10_look_54 ?_
      cases hF
      exact x_iret hx hb hr rfl hlk hR hS (by decide) (by decide) dX10_look_57
    replace hF := xiff c6 hF
    by_cases c8 : x2 = 2
    · replace hF := xift c8 hF
      refine lv_tableIn (off := 45) (tgt := 58) hx hb dX10_look_13 (by rw [c8]; decide) (by rw [c8]; decide) (by rw [c8]; rfl) (by decide) ?_
      refine x_aload_n (o := w1) hx hb dX10_look_58 rfl (lv_at hl 0 rfl) ?_
      replace hF := xbind hF; obtain ⟨v9, ev9, hF⟩ := hF
      refine x_getI (o := w1) (ci := 3) (C := RX2) (T := TX2) (N := 5) hx hb hts iw_X2 hown hR rfl 1 (by decide) mm_727 (Or.inl rfl) ev9 dX10_look_59 ?_
      cases hF
      exact x_iret hx hb hr rfl hlk hR hS (by decide) (by decide) dX10_look_62
    replace hF := xiff c8 hF
    by_cases c10 : x2 = 3
    · replace hF := xift c10 hF
      refine lv_tableIn (off := 50) (tgt := 63) hx hb dX10_look_13 (by rw [c10]; decide) (by rw [c10]; decide) (by rw [c10]; rfl) (by decide) ?_
      refine x_aload_n (o := w1) hx hb dX10_look_63 rfl (lv_at hl 0 rfl) ?_
      replace hF := xbind hF; obtain ⟨v11, ev11, hF⟩ := hF
      refine x_getI (o := w1) (ci := 3) (C := RX2) (T := TX2) (N := 5) hx hb hts iw_X2 hown hR rfl 2 (by decide) mm_729 (Or.inl rfl) ev11 dX10_look_64 ?_
      cases hF
      exact x_iret hx hb hr rfl hlk hR hS (by decide) (by decide) dX10_look_67
    replace hF := xiff c10 hF
    by_cases c12 : x2 = 4
    · replace hF := xift c12 hF
      refine lv_tableIn (off := 55) (tgt := 68) hx hb dX10_look_13 (by rw [c12]; decide) (by rw [c12]; decide) (by rw [c12]; rfl) (by decide) ?_
      refine x_aload_n (o := w1) hx hb dX10_look_68 rfl (lv_at hl 0 rfl) ?_
      replace hF := xbind hF; obtain ⟨v13, ev13, hF⟩ := hF
      refine x_getI (o := w1) (ci := 3) (C := RX2) (T := TX2) (N := 5) hx hb hts iw_X2 hown hR rfl 4 (by decide) mm_732 (Or.inl rfl) ev13 dX10_look_69 ?_
      cases hF
      exact x_iret hx hb hr rfl hlk hR hS (by decide) (by decide) dX10_look_72
    replace hF := xiff c12 hF
    refine lv_tableOut (tgt := 73) hx hb dX10_look_13 (by have := lv_neT c4 (a := 0) (by decide); have := lv_neT c6 (a := 1) (by decide); have := lv_neT c8 (a := 2) (by decide); have := lv_neT c10 (a := 3) (by decide); have := lv_neT c12 (a := 4) (by decide); omega) (by decide) ?_
    refine lv_iconst (v := (-1)) hx hb dX10_look_73 (by decide) ?_
    cases hF
    exact x_iret hx hb hr rfl hlk hR hS (by decide) (by decide) dX10_look_74
  · replace hF := xift c3 hF
    refine lv_iconst (v := (-1)) hx hb dX10_look_10 (by decide) ?_
    cases hF
    exact x_iret hx hb hr rfl hlk hR hS (by decide) (by decide) dX10_look_11
def rm_X10_desk : Room := { frames := 1, cells := 0, slots := 0, locals := 20 }
theorem f_X10_desk : xM yX10_desk cX10_desk 2 (some .int) 1 := ⟨mm_834, mm_55, by decide +kernel, by decide +kernel⟩
theorem dX10_desk_0 : decode cX10_desk 0 = .ok (.iload_n 1, 1) := by decide +kernel
theorem dX10_desk_1 : decode cX10_desk 1 = .ok (.tableswitch 124 0 8 #[51, 61, 71, 76, 86, 91, 96, 106, 116], 51) := by decide +kernel
theorem dX10_desk_52 : decode cX10_desk 52 = .ok (.aload_n 0, 1) := by decide +kernel
theorem dX10_desk_53 : decode cX10_desk 53 = .ok (.getfield 12, 3) := by decide +kernel
theorem dX10_desk_56 : decode cX10_desk 56 = .ok (.invokeinterface 49 1, 5) := by decide +kernel
theorem dX10_desk_61 : decode cX10_desk 61 = .ok (.ireturn, 1) := by decide +kernel
theorem dX10_desk_62 : decode cX10_desk 62 = .ok (.aload_n 0, 1) := by decide +kernel
theorem dX10_desk_63 : decode cX10_desk 63 = .ok (.getfield 16, 3) := by decide +kernel
theorem dX10_desk_66 : decode cX10_desk 66 = .ok (.invokeinterface 49 1, 5) := by decide +kernel
theorem dX10_desk_71 : decode cX10_desk 71 = .ok (.ireturn, 1) := by decide +kernel
theorem dX10_desk_72 : decode cX10_desk 72 = .ok (.aload_n 0, 1) := by decide +kernel
theorem dX10_desk_73 : decode cX10_desk 73 = .ok (.getfield 80, 3) := by decide +kernel
theorem dX10_desk_76 : decode cX10_desk 76 = .ok (.ireturn, 1) := by decide +kernel
theorem dX10_desk_77 : decode cX10_desk 77 = .ok (.aload_n 0, 1) := by decide +kernel
theorem dX10_desk_78 : decode cX10_desk 78 = .ok (.getfield 19, 3) := by decide +kernel
theorem dX10_desk_81 : decode cX10_desk 81 = .ok (.invokeinterface 49 1, 5) := by decide +kernel
theorem dX10_desk_86 : decode cX10_desk 86 = .ok (.ireturn, 1) := by decide +kernel
theorem dX10_desk_87 : decode cX10_desk 87 = .ok (.aload_n 0, 1) := by decide +kernel
theorem dX10_desk_88 : decode cX10_desk 88 = .ok (.getfield 92, 3) := by decide +kernel
theorem dX10_desk_91 : decode cX10_desk 91 = .ok (.ireturn, 1) := by decide +kernel
theorem dX10_desk_92 : decode cX10_desk 92 = .ok (.aload_n 0, 1) := by decide +kernel
theorem dX10_desk_93 : decode cX10_desk 93 = .ok (.getfield 95, 3) := by decide +kernel
theorem dX10_desk_96 : decode cX10_desk 96 = .ok (.ireturn, 1) := by decide +kernel
theorem dX10_desk_97 : decode cX10_desk 97 = .ok (.aload_n 0, 1) := by decide +kernel
theorem dX10_desk_98 : decode cX10_desk 98 = .ok (.getfield 22, 3) := by decide +kernel
theorem dX10_desk_101 : decode cX10_desk 101 = .ok (.invokeinterface 49 1, 5) := by decide +kernel
theorem dX10_desk_106 : decode cX10_desk 106 = .ok (.ireturn, 1) := by decide +kernel
theorem dX10_desk_107 : decode cX10_desk 107 = .ok (.aload_n 0, 1) := by decide +kernel
theorem dX10_desk_108 : decode cX10_desk 108 = .ok (.getfield 25, 3) := by decide +kernel
theorem dX10_desk_111 : decode cX10_desk 111 = .ok (.invokeinterface 49 1, 5) := by decide +kernel
theorem dX10_desk_116 : decode cX10_desk 116 = .ok (.ireturn, 1) := by decide +kernel
theorem dX10_desk_117 : decode cX10_desk 117 = .ok (.aload_n 0, 1) := by decide +kernel
theorem dX10_desk_118 : decode cX10_desk 118 = .ok (.getfield 31, 3) := by decide +kernel
theorem dX10_desk_121 : decode cX10_desk 121 = .ok (.invokevirtual 153, 3) := by decide +kernel
theorem dX10_desk_124 : decode cX10_desk 124 = .ok (.ireturn, 1) := by decide +kernel
theorem dX10_desk_125 : decode cX10_desk 125 = .ok (.iconst (-1), 1) := by decide +kernel
theorem dX10_desk_126 : decode cX10_desk 126 = .ok (.ireturn, 1) := by decide +kernel
def F_X10_desk (G : Nat → Nat) (h : xH) (a0 : Nat) (x1 : Int32) : Option Int32 :=
  if x1 = 0 then
    (gR h (some a0) 10 0).bind fun w2 =>
    (xc h w2 0).bind fun b4 =>
    (F_Jx4a65c_size_8abf5 G h b4).bind fun v3 =>
    some v3
  else
  if x1 = 1 then
    (gR h (some a0) 10 1).bind fun w6 =>
    (xc h w6 0).bind fun b8 =>
    (F_Jx4a65c_size_8abf5 G h b8).bind fun v7 =>
    some v7
  else
  if x1 = 2 then
    (gI h (some a0) 10 8).bind fun v10 =>
    some v10
  else
  if x1 = 3 then
    (gR h (some a0) 10 2).bind fun w12 =>
    (xc h w12 0).bind fun b14 =>
    (F_Jx4a65c_size_8abf5 G h b14).bind fun v13 =>
    some v13
  else
  if x1 = 4 then
    (gI h (some a0) 10 9).bind fun v16 =>
    some v16
  else
  if x1 = 5 then
    (gI h (some a0) 10 10).bind fun v18 =>
    some v18
  else
  if x1 = 6 then
    (gR h (some a0) 10 3).bind fun w20 =>
    (xc h w20 0).bind fun b22 =>
    (F_Jx4a65c_size_8abf5 G h b22).bind fun v21 =>
    some v21
  else
  if x1 = 7 then
    (gR h (some a0) 10 4).bind fun w24 =>
    (xc h w24 0).bind fun b26 =>
    (F_Jx4a65c_size_8abf5 G h b26).bind fun v25 =>
    some v25
  else
  if x1 = 8 then
    (gR h (some a0) 10 5).bind fun w28 =>
    (xc h w28 4).bind fun b30 =>
    (F_X4_size G h b30).bind fun v29 =>
    some v29
  else
  some (-1)
set_option maxHeartbeats 4000000 in
set_option maxRecDepth 100000 in
theorem t_X10_desk (l : Launch) (D : va_G) (G : Nat → Nat) (h : xH) (a0 : Nat) (x1 : Int32) (r : Int32) (hF : F_X10_desk G h a0 x1 = some r) : xC l yX10_desk cX10_desk 2 (some .int) (rm_X10_desk) D G h [.ref a0, .int x1] (some (.int r)) h := by
  refine xC_of (by decide) (by first | decide | exact Nat.le_of_ble_eq_true rfl) ?_
  intro p e s m args below meth c ls hx hb hr hlk hml hown hnm hts hR hS hl
  have hl : lv_has ls 2 [(0, va_rf (some a0)), (1, .int x1)] := hl
  unfold F_X10_desk at hF
  refine lv_iload_n hx hb dX10_desk_0 rfl (lv_at hl 1 rfl) ?_
  by_cases c1 : x1 = 0
  · replace hF := xift c1 hF
    refine lv_tableIn (off := 51) (tgt := 52) hx hb dX10_desk_1 (by rw [c1]; decide) (by rw [c1]; decide) (by rw [c1]; rfl) (by decide) ?_
    refine x_aload_n (o := (some a0)) hx hb dX10_desk_52 rfl (lv_at hl 0 rfl) ?_
    replace hF := xbind hF; obtain ⟨w2, ew2, hF⟩ := hF
    refine x_getR (o := (some a0)) (ci := 10) (C := RX10) (T := TX10) (N := 11) hx hb hts iw_X10 hown hR rfl 0 (by decide) mm_187 (Or.inl rfl) ew2 dX10_desk_53 ?_
    replace hF := xbind hF; obtain ⟨b4, eb4, hF⟩ := hF
    replace hF := xbind hF; obtain ⟨v3, ev3, hF⟩ := hF
    refine x_callF (o := w2) (ci := 0) (As := []) (rest := []) (v := (some (.int v3))) (k := 0) hx hb hml hown hts hR hS eb4 rfl (by decide +kernel) (t_Jx4a65c_size_8abf5 l D G h b4 v3 ev3) f_Jx4a65c_size_8abf5 mm_226 mm_232 mm_230 (by decide +kernel) rfl hl.1 rfl (by first | exact Nat.le_of_ble_eq_true rfl | simp [xrf_cat, xcI, xcJ, xcA]) dX10_desk_56 (by decide) (by decide) rfl (fun H locs hR hS => ?_)
    cases hF
    exact x_iret hx hb hr rfl hlk hR hS (by decide) (by decide) dX10_desk_61
  replace hF := xiff c1 hF
  by_cases c5 : x1 = 1
  · replace hF := xift c5 hF
    refine lv_tableIn (off := 61) (tgt := 62) hx hb dX10_desk_1 (by rw [c5]; decide) (by rw [c5]; decide) (by rw [c5]; rfl) (by decide) ?_
    refine x_aload_n (o := (some a0)) hx hb dX10_desk_62 rfl (lv_at hl 0 rfl) ?_
    replace hF := xbind hF; obtain ⟨w6, ew6, hF⟩ := hF
    refine x_getR (o := (some a0)) (ci := 10) (C := RX10) (T := TX10) (N := 11) hx hb hts iw_X10 hown hR rfl 1 (by decide) mm_188 (Or.inl rfl) ew6 dX10_desk_63 ?_
    replace hF := xbind hF; obtain ⟨b8, eb8, hF⟩ := hF
    replace hF := xbind hF; obtain ⟨v7, ev7, hF⟩ := hF
    refine x_callF (o := w6) (ci := 0) (As := []) (rest := []) (v := (some (.int v7))) (k := 0) hx hb hml hown hts hR hS eb8 rfl (by decide +kernel) (t_Jx4a65c_size_8abf5 l D G h b8 v7 ev7) f_Jx4a65c_size_8abf5 mm_226 mm_232 mm_230 (by decide +kernel) rfl hl.1 rfl (by first | exact Nat.le_of_ble_eq_true rfl | simp [xrf_cat, xcI, xcJ, xcA]) dX10_desk_66 (by decide) (by decide) rfl (fun H locs hR hS => ?_)
    cases hF
    exact x_iret hx hb hr rfl hlk hR hS (by decide) (by decide) dX10_desk_71
  replace hF := xiff c5 hF
  by_cases c9 : x1 = 2
  · replace hF := xift c9 hF
    refine lv_tableIn (off := 71) (tgt := 72) hx hb dX10_desk_1 (by rw [c9]; decide) (by rw [c9]; decide) (by rw [c9]; rfl) (by decide) ?_
    refine x_aload_n (o := (some a0)) hx hb dX10_desk_72 rfl (lv_at hl 0 rfl) ?_
    replace hF := xbind hF; obtain ⟨v10, ev10, hF⟩ := hF
    refine x_getI (o := (some a0)) (ci := 10) (C := RX10) (T := TX10) (N := 11) hx hb hts iw_X10 hown hR rfl 8 (by decide) mm_195 (Or.inl rfl) ev10 dX10_desk_73 ?_
    cases hF
    exact x_iret hx hb hr rfl hlk hR hS (by decide) (by decide) dX10_desk_76
  replace hF := xiff c9 hF
  by_cases c11 : x1 = 3
  · replace hF := xift c11 hF
    refine lv_tableIn (off := 76) (tgt := 77) hx hb dX10_desk_1 (by rw [c11]; decide) (by rw [c11]; decide) (by rw [c11]; rfl) (by decide) ?_
    refine x_aload_n (o := (some a0)) hx hb dX10_desk_77 rfl (lv_at hl 0 rfl) ?_
    replace hF := xbind hF; obtain ⟨w12, ew12, hF⟩ := hF
    refine x_getR (o := (some a0)) (ci := 10) (C := RX10) (T := TX10) (N := 11) hx hb hts iw_X10 hown hR rfl 2 (by decide) mm_189 (Or.inl rfl) ew12 dX10_desk_78 ?_
    replace hF := xbind hF; obtain ⟨b14, eb14, hF⟩ := hF
    replace hF := xbind hF; obtain ⟨v13, ev13, hF⟩ := hF
    refine x_callF (o := w12) (ci := 0) (As := []) (rest := []) (v := (some (.int v13))) (k := 0) hx hb hml hown hts hR hS eb14 rfl (by decide +kernel) (t_Jx4a65c_size_8abf5 l D G h b14 v13 ev13) f_Jx4a65c_size_8abf5 mm_226 mm_232 mm_230 (by decide +kernel) rfl hl.1 rfl (by first | exact Nat.le_of_ble_eq_true rfl | simp [xrf_cat, xcI, xcJ, xcA]) dX10_desk_81 (by decide) (by decide) rfl (fun H locs hR hS => ?_)
    cases hF
    exact x_iret hx hb hr rfl hlk hR hS (by decide) (by decide) dX10_desk_86
  replace hF := xiff c11 hF
  by_cases c15 : x1 = 4
  · replace hF := xift c15 hF
    refine lv_tableIn (off := 86) (tgt := 87) hx hb dX10_desk_1 (by rw [c15]; decide) (by rw [c15]; decide) (by rw [c15]; rfl) (by decide) ?_
    refine x_aload_n (o := (some a0)) hx hb dX10_desk_87 rfl (lv_at hl 0 rfl) ?_
    replace hF := xbind hF; obtain ⟨v16, ev16, hF⟩ := hF
    refine x_getI (o := (some a0)) (ci := 10) (C := RX10) (T := TX10) (N := 11) hx hb hts iw_X10 hown hR rfl 9 (by decide) mm_196 (Or.inl rfl) ev16 dX10_desk_88 ?_
    cases hF
    exact x_iret hx hb hr rfl hlk hR hS (by decide) (by decide) dX10_desk_91
  replace hF := xiff c15 hF
  by_cases c17 : x1 = 5
  · replace hF := xift c17 hF
    refine lv_tableIn (off := 91) (tgt := 92) hx hb dX10_desk_1 (by rw [c17]; decide) (by rw [c17]; decide) (by rw [c17]; rfl) (by decide) ?_
    refine x_aload_n (o := (some a0)) hx hb dX10_desk_92 rfl (lv_at hl 0 rfl) ?_
    replace hF := xbind hF; obtain ⟨v18, ev18, hF⟩ := hF
    refine x_getI (o := (some a0)) (ci := 10) (C := RX10) (T := TX10) (N := 11) hx hb hts iw_X10 hown hR rfl 10 (by decide) mm_197 (Or.inl rfl) ev18 dX10_desk_93 ?_
    cases hF
    exact x_iret hx hb hr rfl hlk hR hS (by decide) (by decide) dX10_desk_96
  replace hF := xiff c17 hF
  by_cases c19 : x1 = 6
  · replace hF := xift c19 hF
    refine lv_tableIn (off := 96) (tgt := 97) hx hb dX10_desk_1 (by rw [c19]; decide) (by rw [c19]; decide) (by rw [c19]; rfl) (by decide) ?_
    refine x_aload_n (o := (some a0)) hx hb dX10_desk_97 rfl (lv_at hl 0 rfl) ?_
    replace hF := xbind hF; obtain ⟨w20, ew20, hF⟩ := hF
    refine x_getR (o := (some a0)) (ci := 10) (C := RX10) (T := TX10) (N := 11) hx hb hts iw_X10 hown hR rfl 3 (by decide) mm_190 (Or.inl rfl) ew20 dX10_desk_98 ?_
    replace hF := xbind hF; obtain ⟨b22, eb22, hF⟩ := hF
    replace hF := xbind hF; obtain ⟨v21, ev21, hF⟩ := hF
    refine x_callF (o := w20) (ci := 0) (As := []) (rest := []) (v := (some (.int v21))) (k := 0) hx hb hml hown hts hR hS eb22 rfl (by decide +kernel) (t_Jx4a65c_size_8abf5 l D G h b22 v21 ev21) f_Jx4a65c_size_8abf5 mm_226 mm_232 mm_230 (by decide +kernel) rfl hl.1 rfl (by first | exact Nat.le_of_ble_eq_true rfl | simp [xrf_cat, xcI, xcJ, xcA]) dX10_desk_101 (by decide) (by decide) rfl (fun H locs hR hS => ?_)
    cases hF
    exact x_iret hx hb hr rfl hlk hR hS (by decide) (by decide) dX10_desk_106
  replace hF := xiff c19 hF
  by_cases c23 : x1 = 7
  · replace hF := xift c23 hF
    refine lv_tableIn (off := 106) (tgt := 107) hx hb dX10_desk_1 (by rw [c23]; decide) (by rw [c23]; decide) (by rw [c23]; rfl) (by decide) ?_
    refine x_aload_n (o := (some a0)) hx hb dX10_desk_107 rfl (lv_at hl 0 rfl) ?_
    replace hF := xbind hF; obtain ⟨w24, ew24, hF⟩ := hF
    refine x_getR (o := (some a0)) (ci := 10) (C := RX10) (T := TX10) (N := 11) hx hb hts iw_X10 hown hR rfl 4 (by decide) mm_191 (Or.inl rfl) ew24 dX10_desk_108 ?_
    replace hF := xbind hF; obtain ⟨b26, eb26, hF⟩ := hF
    replace hF := xbind hF; obtain ⟨v25, ev25, hF⟩ := hF
    refine x_callF (o := w24) (ci := 0) (As := []) (rest := []) (v := (some (.int v25))) (k := 0) hx hb hml hown hts hR hS eb26 rfl (by decide +kernel) (t_Jx4a65c_size_8abf5 l D G h b26 v25 ev25) f_Jx4a65c_size_8abf5 mm_226 mm_232 mm_230 (by decide +kernel) rfl hl.1 rfl (by first | exact Nat.le_of_ble_eq_true rfl | simp [xrf_cat, xcI, xcJ, xcA]) dX10_desk_111 (by decide) (by decide) rfl (fun H locs hR hS => ?_)
    cases hF
    exact x_iret hx hb hr rfl hlk hR hS (by decide) (by decide) dX10_desk_116
  replace hF := xiff c23 hF
  by_cases c27 : x1 = 8
  · replace hF := xift c27 hF
    refine lv_tableIn (off := 116) (tgt := 117) hx hb dX10_desk_1 (by rw [c27]; decide) (by rw [c27]; decide) (by rw [c27]; rfl) (by decide) ?_
    refine x_aload_n (o := (some a0)) hx hb dX10_desk_117 rfl (lv_at hl 0 rfl) ?_
    replace hF := xbind hF; obtain ⟨w28, ew28, hF⟩ := hF
    refine x_getR (o := (some a0)) (ci := 10) (C := RX10) (T := TX10) (N := 11) hx hb hts iw_X10 hown hR rfl 5 (by decide) mm_192 (Or.inl rfl) ew28 dX10_desk_118 ?_
    replace hF := xbind hF; obtain ⟨b30, eb30, hF⟩ := hF
    replace hF := xbind hF; obtain ⟨v29, ev29, hF⟩ := hF
    refine x_callV (o := w28) (ci := 4) (As := []) (rest := []) (v := (some (.int v29))) (k := 0) hx hb hml hown hts hR hS eb30 rfl rfl (t_X4_size l D G h b30 v29 ev29) f_X4_size mm_538 mm_539 mm_540 rfl hl.1 rfl (by first | exact Nat.le_of_ble_eq_true rfl | simp [xrf_cat, xcI, xcJ, xcA]) dX10_desk_121 (by decide) (by decide) rfl (fun H locs hR hS => ?_)
    cases hF
    exact x_iret hx hb hr rfl hlk hR hS (by decide) (by decide) dX10_desk_124
  replace hF := xiff c27 hF
  refine lv_tableOut (tgt := 125) hx hb dX10_desk_1 (by have := lv_neT c1 (a := 0) (by decide); have := lv_neT c5 (a := 1) (by decide); have := lv_neT c9 (a := 2) (by decide); have := lv_neT c11 (a := 3) (by decide); have := lv_neT c15 (a := 4) (by decide); have := lv_neT c17 (a := 5) (by decide); have := lv_neT c19 (a := 6) (by decide); have := lv_neT c23 (a := 7) (by decide); have := lv_neT c27 (a := 8) (by decide); omega) (by decide) ?_
  refine lv_iconst (v := (-1)) hx hb dX10_desk_125 (by decide) ?_
  cases hF
  exact x_iret hx hb hr rfl hlk hR hS (by decide) (by decide) dX10_desk_126
