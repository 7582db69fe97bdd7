def rm_X1_init : Room := { frames := 1, cells := 3, slots := 1729, locals := 20 }
theorem f_X1_init : xM yX1_init cX1_init 1 none 0 := ⟨mm_169, mm_61, by decide +kernel, by decide +kernel⟩
theorem dX1_init_0 : decode cX1_init 0 = .ok (.aload_n 0, 1) := by decide +kernel
theorem dX1_init_1 : decode cX1_init 1 = .ok (.invokespecial 5, 3) := by decide +kernel
theorem dX1_init_4 : decode cX1_init 4 = .ok (.aload_n 0, 1) := by decide +kernel
theorem dX1_init_5 : decode cX1_init 5 = .ok (.bipush 13, 2) := by decide +kernel
theorem dX1_init_7 : decode cX1_init 7 = .ok (.newarray .int, 2) := by decide +kernel
theorem dX1_init_9 : decode cX1_init 9 = .ok (.putfield 11, 3) := by decide +kernel
theorem dX1_init_12 : decode cX1_init 12 = .ok (.aload_n 0, 1) := by decide +kernel
theorem dX1_init_13 : decode cX1_init 13 = .ok (.bipush 78, 2) := by decide +kernel
theorem dX1_init_15 : decode cX1_init 15 = .ok (.newarray .int, 2) := by decide +kernel
theorem dX1_init_17 : decode cX1_init 17 = .ok (.putfield 15, 3) := by decide +kernel
theorem dX1_init_20 : decode cX1_init 20 = .ok (.aload_n 0, 1) := by decide +kernel
theorem dX1_init_21 : decode cX1_init 21 = .ok (.sipush 1638, 3) := by decide +kernel
theorem dX1_init_24 : decode cX1_init 24 = .ok (.newarray .int, 2) := by decide +kernel
theorem dX1_init_26 : decode cX1_init 26 = .ok (.putfield 18, 3) := by decide +kernel
theorem dX1_init_29 : decode cX1_init 29 = .ok (.return_, 1) := by decide +kernel
def F_X1_init (G : Nat → Nat) (h : xH) (a0 : Nat) : Option xH :=
  (nAI G h 13).bind fun (q1, h2) =>
  (xp G h2 (some a0) 2 0 (va_rf (some q1))).bind fun h3 =>
  (nAI G h3 78).bind fun (q4, h5) =>
  (xp G h5 (some a0) 2 1 (va_rf (some q4))).bind fun h6 =>
  (nAI G h6 1638).bind fun (q7, h8) =>
  (xp G h8 (some a0) 2 2 (va_rf (some q7))).bind fun h9 =>
  some h9
set_option maxHeartbeats 4000000 in
set_option maxRecDepth 100000 in
theorem t_X1_init (l : Launch) (D : va_G) (G : Nat → Nat) (h : xH) (a0 : Nat) (h' : xH) (hF : F_X1_init G h a0 = some h') : xC l yX1_init cX1_init 1 none (rm_X1_init) D G h [.ref a0] none h' := by
  refine xC_of (by decide) (by first | decide | exact Nat.le_of_ble_eq_true rfl) ?_
  intro p e s m args below meth c ls hx hb hr hlk hml hown hnm hts hR hS hl
  have hl : lv_has ls 1 [(0, va_rf (some a0))] := hl
  unfold F_X1_init at hF
  refine x_aload_n (o := (some a0)) hx hb dX1_init_0 rfl (lv_at hl 0 rfl) ?_
  refine x_oinit (o := (some a0)) hx hb hown (hml.trans hl.1.symm) hts mm_170 mm_86 mm_87 rfl dX1_init_1 (by decide) (by decide) (by decide) ?_
  refine x_aload_n (o := (some a0)) hx hb dX1_init_4 rfl (lv_at hl 0 rfl) ?_
  refine lv_bipush (v := 13) hx hb dX1_init_5 (by decide) ?_
  replace hF := xbind hF; obtain ⟨⟨q1, h2⟩, eq1, hF⟩ := hF
  refine x_nAI hx hb hts mm_127 hR hS (by decide) (by decide) (by decide) (by decide) (by decide) eq1 dX1_init_7 (fun H hR hS => ?_)
  replace hF := xbind hF; obtain ⟨h3, eh3, hF⟩ := hF
  refine x_putF (o := (some a0)) (ci := 2) (C := RX1) (T := TX1) (N := 5) hx hb hts iw_X1 tyX1_ok nmX1 hown hR hS rfl 0 (by decide) mm_171 (Or.inl rfl) rfl hnm rfl xnarRA xfitRA eh3 dX1_init_9 (fun H locs hR hS => ?_)
  refine x_aload_n (o := (some a0)) hx hb dX1_init_12 rfl (lv_at hl 0 rfl) ?_
  refine lv_bipush (v := 78) hx hb dX1_init_13 (by decide) ?_
  replace hF := xbind hF; obtain ⟨⟨q4, h5⟩, eq4, hF⟩ := hF
  refine x_nAI hx hb hts mm_127 hR hS (by decide) (by decide) (by decide) (by decide) (by decide) eq4 dX1_init_15 (fun H hR hS => ?_)
  replace hF := xbind hF; obtain ⟨h6, eh6, hF⟩ := hF
  refine x_putF (o := (some a0)) (ci := 2) (C := RX1) (T := TX1) (N := 5) hx hb hts iw_X1 tyX1_ok nmX1 hown hR hS rfl 1 (by decide) mm_172 (Or.inl rfl) rfl hnm rfl xnarRA xfitRA eh6 dX1_init_17 (fun H locs hR hS => ?_)
  refine x_aload_n (o := (some a0)) hx hb dX1_init_20 rfl (lv_at hl 0 rfl) ?_
  refine lv_sipush (v := 1638) hx hb dX1_init_21 (by decide) ?_
  replace hF := xbind hF; obtain ⟨⟨q7, h8⟩, eq7, hF⟩ := hF
  refine x_nAI hx hb hts mm_127 hR hS (by decide) (by decide) (by decide) (by decide) (by decide) eq7 dX1_init_24 (fun H hR hS => ?_)
  replace hF := xbind hF; obtain ⟨h9, eh9, hF⟩ := hF
  refine x_putF (o := (some a0)) (ci := 2) (C := RX1) (T := TX1) (N := 5) hx hb hts iw_X1 tyX1_ok nmX1 hown hR hS rfl 2 (by decide) mm_173 (Or.inl rfl) rfl hnm rfl xnarRA xfitRA eh9 dX1_init_26 (fun H locs hR hS => ?_)
  cases hF
  exact x_vret hx hb hr hlk hR hS (by decide) (by decide) dX1_init_29
def rm_X1_pairOf : Room := { frames := 0, cells := 0, slots := 0, locals := 0 }
theorem f_X1_pairOf : xM yX1_pairOf cX1_pairOf 2 (some .int) 2 := ⟨mm_699, mm_61, by decide +kernel, by decide +kernel⟩
theorem dX1_pairOf_0 : decode cX1_pairOf 0 = .ok (.iload_n 0, 1) := by decide +kernel
theorem dX1_pairOf_1 : decode cX1_pairOf 1 = .ok (.iload_n 0, 1) := by decide +kernel
theorem dX1_pairOf_2 : decode cX1_pairOf 2 = .ok (.iconst 1, 1) := by decide +kernel
theorem dX1_pairOf_3 : decode cX1_pairOf 3 = .ok (.isub, 1) := by decide +kernel
theorem dX1_pairOf_4 : decode cX1_pairOf 4 = .ok (.imul, 1) := by decide +kernel
theorem dX1_pairOf_5 : decode cX1_pairOf 5 = .ok (.iconst 2, 1) := by decide +kernel
theorem dX1_pairOf_6 : decode cX1_pairOf 6 = .ok (.idiv, 1) := by decide +kernel
theorem dX1_pairOf_7 : decode cX1_pairOf 7 = .ok (.iload_n 1, 1) := by decide +kernel
theorem dX1_pairOf_8 : decode cX1_pairOf 8 = .ok (.iadd, 1) := by decide +kernel
theorem dX1_pairOf_9 : decode cX1_pairOf 9 = .ok (.iconst 1, 1) := by decide +kernel
theorem dX1_pairOf_10 : decode cX1_pairOf 10 = .ok (.isub, 1) := by decide +kernel
theorem dX1_pairOf_11 : decode cX1_pairOf 11 = .ok (.ireturn, 1) := by decide +kernel
def F_X1_pairOf (x0 : Int32) (x1 : Int32) : Option Int32 :=
  some ((((x0 * (x0 - 1)) / 2) + x1) - 1)
set_option maxHeartbeats 4000000 in
set_option maxRecDepth 100000 in
theorem t_X1_pairOf (l : Launch) (D : va_G) (G : Nat → Nat) (h : xH) (x0 : Int32) (x1 : Int32) (r : Int32) (hF : F_X1_pairOf x0 x1 = some r) : xC l yX1_pairOf cX1_pairOf 2 (some .int) (rm_X1_pairOf) D G h [.int x0, .int x1] (some (.int r)) h := by
  refine xC_of (by decide) (by first | decide | exact Nat.le_of_ble_eq_true rfl) ?_
  intro p e s m args below meth c ls hx hb hr hlk hml hown hnm hts hR hS hl
  have hl : lv_has ls 2 [(0, .int x0), (1, .int x1)] := hl
  unfold F_X1_pairOf at hF
  refine lv_iload_n hx hb dX1_pairOf_0 rfl (lv_at hl 0 rfl) ?_
  refine lv_iload_n hx hb dX1_pairOf_1 rfl (lv_at hl 0 rfl) ?_
  refine lv_iconst (v := 1) hx hb dX1_pairOf_2 (by decide) ?_
  refine lv_isub hx hb dX1_pairOf_3 ?_
  refine lv_imul hx hb dX1_pairOf_4 ?_
  refine lv_iconst (v := 2) hx hb dX1_pairOf_5 (by decide) ?_
  refine lv_idiv hx hb dX1_pairOf_6 (by decide) ?_
  refine lv_iload_n hx hb dX1_pairOf_7 rfl (lv_at hl 1 rfl) ?_
  refine lv_iadd hx hb dX1_pairOf_8 ?_
  refine lv_iconst (v := 1) hx hb dX1_pairOf_9 (by decide) ?_
  refine lv_isub hx hb dX1_pairOf_10 ?_
  cases hF
  exact x_iret hx hb hr rfl hlk hR hS (by decide) (by decide) dX1_pairOf_11
def rm_X1_levelOf : Room := { frames := 1, cells := 0, slots := 0, locals := 23 }
theorem f_X1_levelOf : xM yX1_levelOf cX1_levelOf 3 (some .int) 2 := ⟨mm_687, mm_61, by decide +kernel, by decide +kernel⟩
theorem dX1_levelOf_0 : decode cX1_levelOf 0 = .ok (.iload_n 2, 1) := by decide +kernel
theorem dX1_levelOf_1 : decode cX1_levelOf 1 = .ok (.ifCond .gt 5, 3) := by decide +kernel
theorem dX1_levelOf_4 : decode cX1_levelOf 4 = .ok (.iconst 0, 1) := by decide +kernel
theorem dX1_levelOf_5 : decode cX1_levelOf 5 = .ok (.ireturn, 1) := by decide +kernel
theorem dX1_levelOf_6 : decode cX1_levelOf 6 = .ok (.lload_n 0, 1) := by decide +kernel
theorem dX1_levelOf_7 : decode cX1_levelOf 7 = .ok (.lconst 0, 1) := by decide +kernel
theorem dX1_levelOf_8 : decode cX1_levelOf 8 = .ok (.lcmp, 1) := by decide +kernel
theorem dX1_levelOf_9 : decode cX1_levelOf 9 = .ok (.ifCond .gt 6, 3) := by decide +kernel
theorem dX1_levelOf_12 : decode cX1_levelOf 12 = .ok (.bipush 20, 2) := by decide +kernel
theorem dX1_levelOf_14 : decode cX1_levelOf 14 = .ok (.ireturn, 1) := by decide +kernel
theorem dX1_levelOf_15 : decode cX1_levelOf 15 = .ok (.ldc2_w 79, 3) := by decide +kernel
theorem dX1_levelOf_18 : decode cX1_levelOf 18 = .ok (.iload_n 2, 1) := by decide +kernel
theorem dX1_levelOf_19 : decode cX1_levelOf 19 = .ok (.i2l, 1) := by decide +kernel
theorem dX1_levelOf_20 : decode cX1_levelOf 20 = .ok (.lmul, 1) := by decide +kernel
theorem dX1_levelOf_21 : decode cX1_levelOf 21 = .ok (.lconst 1, 1) := by decide +kernel
theorem dX1_levelOf_22 : decode cX1_levelOf 22 = .ok (.lsub, 1) := by decide +kernel
theorem dX1_levelOf_23 : decode cX1_levelOf 23 = .ok (.lload_n 0, 1) := by decide +kernel
theorem dX1_levelOf_24 : decode cX1_levelOf 24 = .ok (.ldiv, 1) := by decide +kernel
theorem dX1_levelOf_25 : decode cX1_levelOf 25 = .ok (.ldc2_w 81, 3) := by decide +kernel
theorem dX1_levelOf_28 : decode cX1_levelOf 28 = .ok (.invokestatic 83, 3) := by decide +kernel
theorem dX1_levelOf_31 : decode cX1_levelOf 31 = .ok (.l2i, 1) := by decide +kernel
theorem dX1_levelOf_32 : decode cX1_levelOf 32 = .ok (.ireturn, 1) := by decide +kernel
def F_X1_levelOf (y0 : Int64) (x2 : Int32) : Option Int32 :=
  if 0 < x2 then
    if 0 < (lg_cmp y0 0) then
      xg (¬ y0 = 0) <|
      some (((xminJ (((1000 * ((x2 : Int32).toInt64)) - 1) / y0) 20) : Int64).toInt32)
    else
    some 20
  else
  some 0
set_option maxHeartbeats 4000000 in
set_option maxRecDepth 100000 in
theorem t_X1_levelOf (l : Launch) (D : va_G) (G : Nat → Nat) (h : xH) (y0 : Int64) (x2 : Int32) (r : Int32) (hF : F_X1_levelOf y0 x2 = some r) : xC l yX1_levelOf cX1_levelOf 3 (some .int) (rm_X1_levelOf) D G h [.long y0, .int x2] (some (.int r)) h := by
  refine xC_of (by decide) (by first | decide | exact Nat.le_of_ble_eq_true rfl) ?_
  intro p e s m args below meth c ls hx hb hr hlk hml hown hnm hts hR hS hl
  have hl : lv_has ls 3 [(0, .long y0), (2, .int x2)] := hl
  unfold F_X1_levelOf at hF
  refine lv_iload_n hx hb dX1_levelOf_0 rfl (lv_at hl 1 rfl) ?_
  refine lv_if_gt (tgt := 6) hx hb dX1_levelOf_1 (by decide) (fun c1 => ?_) (fun c1 => ?_)
  · replace hF := xift c1 hF
    refine lv_lload_n hx hb dX1_levelOf_6 rfl (lv_at hl 0 rfl) ?_
    refine lv_lconst (v := 0) hx hb dX1_levelOf_7 (by decide) ?_
    refine W.lcmp hx hb dX1_levelOf_8 ?_
    refine lv_if_gt (tgt := 15) hx hb dX1_levelOf_9 (by decide) (fun c2 => ?_) (fun c2 => ?_)
    · replace hF := xift c2 hF
      refine lv_ldc2 hx hb hown (hts _ mm_688) dX1_levelOf_15 ?_
      refine lv_iload_n hx hb dX1_levelOf_18 rfl (lv_at hl 1 rfl) ?_
      refine lv_i2l (v := ((x2 : Int32).toInt64)) hx hb dX1_levelOf_19 rfl ?_
      refine lv_lmul hx hb dX1_levelOf_20 ?_
      refine lv_lconst (v := 1) hx hb dX1_levelOf_21 (by decide) ?_
      refine lv_lsub hx hb dX1_levelOf_22 ?_
      refine lv_lload_n hx hb dX1_levelOf_23 rfl (lv_at hl 0 rfl) ?_
      replace hF := xguard hF; obtain ⟨c3, hF⟩ := hF
      refine lv_ldiv hx hb dX1_levelOf_24 c3 ?_
      refine lv_ldc2 hx hb hown (hts _ mm_689) dX1_levelOf_25 ?_
      refine x_minJ hx hb (hml.trans hl.1.symm) hown hts mm_690 mm_691 mm_65 mm_692 (by decide) (by first | exact Nat.le_of_ble_eq_true rfl | simp [xrf_cat, xcI, xcJ, xcA]) (by decide) (by decide) dX1_levelOf_28 ?_
      refine lv_l2i (v := (((xminJ (((1000 * ((x2 : Int32).toInt64)) - 1) / y0) 20) : Int64).toInt32)) hx hb dX1_levelOf_31 rfl ?_
      cases hF
      exact x_iret hx hb hr rfl hlk hR hS (by decide) (by decide) dX1_levelOf_32
    · replace hF := xiff c2 hF
      refine lv_bipush (v := 20) hx hb dX1_levelOf_12 (by decide) ?_
      cases hF
      exact x_iret hx hb hr rfl hlk hR hS (by decide) (by decide) dX1_levelOf_14
  · replace hF := xiff c1 hF
    refine lv_iconst (v := 0) hx hb dX1_levelOf_4 (by decide) ?_
    cases hF
    exact x_iret hx hb hr rfl hlk hR hS (by decide) (by decide) dX1_levelOf_5
def rm_X1_measure : Room := { frames := 3, cells := 0, slots := 0, locals := 69 }
theorem f_X1_measure : xM yX1_measure cX1_measure 8 (some .boolean) 3 := ⟨mm_680, mm_61, by decide +kernel, by decide +kernel⟩
theorem dX1_measure_0 : decode cX1_measure 0 = .ok (.iconst 0, 1) := by decide +kernel
theorem dX1_measure_1 : decode cX1_measure 1 = .ok (.istore 4, 2) := by decide +kernel
theorem dX1_measure_3 : decode cX1_measure 3 = .ok (.iconst 0, 1) := by decide +kernel
theorem dX1_measure_4 : decode cX1_measure 4 = .ok (.istore 5, 2) := by decide +kernel
theorem dX1_measure_6 : decode cX1_measure 6 = .ok (.iconst 1, 1) := by decide +kernel
theorem dX1_measure_7 : decode cX1_measure 7 = .ok (.istore 6, 2) := by decide +kernel
theorem dX1_measure_9 : decode cX1_measure 9 = .ok (.iload 6, 2) := by decide +kernel
theorem dX1_measure_11 : decode cX1_measure 11 = .ok (.bipush 12, 2) := by decide +kernel
theorem dX1_measure_13 : decode cX1_measure 13 = .ok (.if_icmp .gt 65, 3) := by decide +kernel
theorem dX1_measure_16 : decode cX1_measure 16 = .ok (.iload_n 3, 1) := by decide +kernel
theorem dX1_measure_17 : decode cX1_measure 17 = .ok (.iload 6, 2) := by decide +kernel
theorem dX1_measure_19 : decode cX1_measure 19 = .ok (.isub, 1) := by decide +kernel
theorem dX1_measure_20 : decode cX1_measure 20 = .ok (.iconst 1, 1) := by decide +kernel
theorem dX1_measure_21 : decode cX1_measure 21 = .ok (.iadd, 1) := by decide +kernel
theorem dX1_measure_22 : decode cX1_measure 22 = .ok (.istore 7, 2) := by decide +kernel
theorem dX1_measure_24 : decode cX1_measure 24 = .ok (.iload 4, 2) := by decide +kernel
theorem dX1_measure_26 : decode cX1_measure 26 = .ok (.aload_n 1, 1) := by decide +kernel
theorem dX1_measure_27 : decode cX1_measure 27 = .ok (.iload 7, 2) := by decide +kernel
theorem dX1_measure_29 : decode cX1_measure 29 = .ok (.iload 7, 2) := by decide +kernel
theorem dX1_measure_31 : decode cX1_measure 31 = .ok (.invokeinterface 69 3, 5) := by decide +kernel
theorem dX1_measure_36 : decode cX1_measure 36 = .ok (.iadd, 1) := by decide +kernel
theorem dX1_measure_37 : decode cX1_measure 37 = .ok (.istore 4, 2) := by decide +kernel
theorem dX1_measure_39 : decode cX1_measure 39 = .ok (.iload 5, 2) := by decide +kernel
theorem dX1_measure_41 : decode cX1_measure 41 = .ok (.aload_n 1, 1) := by decide +kernel
theorem dX1_measure_42 : decode cX1_measure 42 = .ok (.iload 7, 2) := by decide +kernel
theorem dX1_measure_44 : decode cX1_measure 44 = .ok (.iload 7, 2) := by decide +kernel
theorem dX1_measure_46 : decode cX1_measure 46 = .ok (.invokeinterface 74 3, 5) := by decide +kernel
theorem dX1_measure_51 : decode cX1_measure 51 = .ok (.iadd, 1) := by decide +kernel
theorem dX1_measure_52 : decode cX1_measure 52 = .ok (.istore 5, 2) := by decide +kernel
theorem dX1_measure_54 : decode cX1_measure 54 = .ok (.aload_n 0, 1) := by decide +kernel
theorem dX1_measure_55 : decode cX1_measure 55 = .ok (.getfield 11, 3) := by decide +kernel
theorem dX1_measure_58 : decode cX1_measure 58 = .ok (.iload 6, 2) := by decide +kernel
theorem dX1_measure_60 : decode cX1_measure 60 = .ok (.iload_n 2, 1) := by decide +kernel
theorem dX1_measure_61 : decode cX1_measure 61 = .ok (.i2l, 1) := by decide +kernel
theorem dX1_measure_62 : decode cX1_measure 62 = .ok (.iload 4, 2) := by decide +kernel
theorem dX1_measure_64 : decode cX1_measure 64 = .ok (.i2l, 1) := by decide +kernel
theorem dX1_measure_65 : decode cX1_measure 65 = .ok (.lmul, 1) := by decide +kernel
theorem dX1_measure_66 : decode cX1_measure 66 = .ok (.iload 5, 2) := by decide +kernel
theorem dX1_measure_68 : decode cX1_measure 68 = .ok (.invokestatic 75, 3) := by decide +kernel
theorem dX1_measure_71 : decode cX1_measure 71 = .ok (.iastore, 1) := by decide +kernel
theorem dX1_measure_72 : decode cX1_measure 72 = .ok (.iinc 6 1, 3) := by decide +kernel
theorem dX1_measure_75 : decode cX1_measure 75 = .ok (.goto (-66), 3) := by decide +kernel
theorem dX1_measure_78 : decode cX1_measure 78 = .ok (.iload 5, 2) := by decide +kernel
theorem dX1_measure_80 : decode cX1_measure 80 = .ok (.ifCond .le 7, 3) := by decide +kernel
theorem dX1_measure_83 : decode cX1_measure 83 = .ok (.iconst 1, 1) := by decide +kernel
theorem dX1_measure_84 : decode cX1_measure 84 = .ok (.goto 4, 3) := by decide +kernel
theorem dX1_measure_87 : decode cX1_measure 87 = .ok (.iconst 0, 1) := by decide +kernel
theorem dX1_measure_88 : decode cX1_measure 88 = .ok (.ireturn, 1) := by decide +kernel
def F_X1_measure_9 (G : Nat → Nat) (a0 : Nat) (a1 : Nat) (x2 : Int32) (x3 : Int32) : Nat → xH → Int32 → Int32 → Int32 → Option (Int32 × xH)
  | 0, _, _, _, _ => none
  | n + 1, h, x4, x5, x6 =>
    if 12 < x6 then
      if x5 ≤ 0 then
        some (0, h)
      else
      some (1, h)
    else
    xl ((x3 - x6) + 1) fun v3 =>
    (xI h (some a1) 7 9 (fun z => F_X7_asksIn G h z v3 v3) (fun z => F_X9_asksIn G h z v3 v3)).bind fun v4 =>
    xl (x4 + v4) fun v5 =>
    (xI h (some a1) 7 9 (fun z => F_X7_badIn G h z v3 v3) (fun z => F_X9_badIn G h z v3 v3)).bind fun v6 =>
    xl (x5 + v6) fun v7 =>
    (gR h (some a0) 2 0).bind fun w8 =>
    (F_X1_levelOf (((x2 : Int32).toInt64) * ((v5 : Int32).toInt64)) v7).bind fun v9 =>
    (stI 2 G h w8 x6 v9).bind fun h10 =>
    xl (x6 + 1) fun v11 =>
    F_X1_measure_9 G a0 a1 x2 x3 n h10 v5 v7 v11
set_option maxHeartbeats 4000000 in
set_option maxRecDepth 100000 in
theorem tl_X1_measure_9 {p : Program} {l : Launch} {e : Env} {s : State} {m : MethodId} {args : Array Value} {below : List Frame} {meth : Method} {c : Code} {D : va_G} {r : Int32} {h' : xH} (hx : p.tables.exec = Jvm.exec) (hb : c.code = cX1_measure) (hr : meth.sig.returnType = (some .boolean)) (hlk : meth.locks = false) (hml : c.maxLocals = 8) (hown : s.vm.findClass RX1 = some m.cls) (hnm : meth.name = "measure") (hts : ∀ w ∈ xt, w.before args s = true) (G : Nat → Nat) (a0 : Nat) (a1 : Nat) (x2 : Int32) (x3 : Int32) : ∀ (n : Nat) (h : xH) (x4 : Int32) (x5 : Int32) (x6 : Int32) (H : Heap) (locs : List Loc) (ls : Array Slot), F_X1_measure_9 G a0 a1 x2 x3 n h x4 x5 x6 = some (r, h') → xR D G h s H → va_S (xA G) s.heap H locs → lv_has ls 8 [(0, va_rf (some a0)), (1, va_rf (some a1)), (2, .int x2), (3, .int x3), (4, .int x4), (5, .int x5), (6, .int x6)] → W p l e rm_X1_measure s m args below meth c H locs 0 0 (MQ below (xQ D G (some (.int r)) h') args s rm_X1_measure.cells rm_X1_measure.slots (xA G)) (F0 m 9 ls []) := by
  intro n
  induction n with
  | zero =>
    intro h x4 x5 x6 H locs ls hF
    rw [F_X1_measure_9.eq_1] at hF
    cases hF
  | succ n ih =>
    intro h x4 x5 x6 H locs ls hF hR hS hl
    rw [F_X1_measure_9.eq_2] at hF
    refine lv_iload hx hb dX1_measure_9 (lv_at hl 6 rfl) ?_
    refine lv_bipush (v := 12) hx hb dX1_measure_11 (by decide) ?_
    refine lv_icmp_gt (tgt := 78) hx hb dX1_measure_13 (by decide) (fun c1 => ?_) (fun c1 => ?_)
    · replace hF := xift c1 hF
      refine lv_iload hx hb dX1_measure_78 (lv_at hl 5 rfl) ?_
      refine lv_if_le (tgt := 87) hx hb dX1_measure_80 (by decide) (fun c2 => ?_) (fun c2 => ?_)
      · replace hF := xift c2 hF
        refine lv_iconst (v := 0) hx hb dX1_measure_87 (by decide) ?_
        cases hF
        exact x_iret hx hb hr rfl hlk hR hS (by decide) (by decide) dX1_measure_88
      · replace hF := xiff c2 hF
        refine lv_iconst (v := 1) hx hb dX1_measure_83 (by decide) ?_
        refine lv_goto (tgt := 88) hx hb dX1_measure_84 (by decide) ?_
        cases hF
        exact x_iret hx hb hr rfl hlk hR hS (by decide) (by decide) dX1_measure_88
    · replace hF := xiff c1 hF
      refine lv_iload_n hx hb dX1_measure_16 rfl (lv_at hl 3 rfl) ?_
      refine lv_iload hx hb dX1_measure_17 (lv_at hl 6 rfl) ?_
      refine lv_isub hx hb dX1_measure_19 ?_
      refine lv_iconst (v := 1) hx hb dX1_measure_20 (by decide) ?_
      refine lv_iadd hx hb dX1_measure_21 ?_
      refine lv_topi (fun v3 ev3 => ?_)
      replace hF := xlet ev3 hF
      refine lv_istore (lv' := [(7, .int v3), (0, va_rf (some a0)), (1, va_rf (some a1)), (2, .int x2), (3, .int x3), (4, .int x4), (5, .int x5), (6, .int x6)]) hx hb dX1_measure_22 hl (by decide) (by first | rfl | (simp [xrf_cat, xcI, xcJ, xcA]; done) | (simp [xrf_cat, xcI, xcJ, xcA]; decide)) (fun ls hl => ?_)
      refine lv_iload hx hb dX1_measure_24 (lv_at hl 5 rfl) ?_
      refine x_aload_n (o := (some a1)) hx hb dX1_measure_26 rfl (lv_at hl 2 rfl) ?_
      refine lv_iload hx hb dX1_measure_27 (lv_at hl 0 rfl) ?_
      refine lv_iload hx hb dX1_measure_29 (lv_at hl 0 rfl) ?_
      replace hF := xbind hF; obtain ⟨v4, ev4, hF⟩ := hF
      refine x_callF2 (o := (some a1)) (As := [.int v3, .int v3]) (rest := [.int x4]) (v := (some (.int v4))) (k := 2) hx hb hml hown hts hR hS rfl rfl (by decide +kernel) (by decide +kernel) (xI_or ev4 (fun z e => t_X7_asksIn l D G h z v3 v3 v4 e) (fun z e => t_X9_asksIn l D G h z v3 v3 v4 e)) f_X7_asksIn f_X9_asksIn mm_682 mm_451 mm_619 mm_613 mm_617 (by decide +kernel) rfl rfl rfl rfl rfl hl.1 rfl (by first | exact Nat.le_of_ble_eq_true rfl | simp [xrf_cat, xcI, xcJ, xcA]) dX1_measure_31 (by decide) (by decide) (by decide) rfl (fun H locs hR hS => ?_)
      refine lv_iadd hx hb dX1_measure_36 ?_
      refine lv_topi (fun v5 ev5 => ?_)
      replace hF := xlet ev5 hF
      refine lv_istore (lv' := [(4, .int v5), (7, .int v3), (0, va_rf (some a0)), (1, va_rf (some a1)), (2, .int x2), (3, .int x3), (5, .int x5), (6, .int x6)]) hx hb dX1_measure_37 hl (by decide) (by first | rfl | (simp [xrf_cat, xcI, xcJ, xcA]; done) | (simp [xrf_cat, xcI, xcJ, xcA]; decide)) (fun ls hl => ?_)
      refine lv_iload hx hb dX1_measure_39 (lv_at hl 6 rfl) ?_
      refine x_aload_n (o := (some a1)) hx hb dX1_measure_41 rfl (lv_at hl 3 rfl) ?_
      refine lv_iload hx hb dX1_measure_42 (lv_at hl 1 rfl) ?_
      refine lv_iload hx hb dX1_measure_44 (lv_at hl 1 rfl) ?_
      replace hF := xbind hF; obtain ⟨v6, ev6, hF⟩ := hF
      refine x_callF2 (o := (some a1)) (As := [.int v3, .int v3]) (rest := [.int x5]) (v := (some (.int v6))) (k := 2) hx hb hml hown hts hR hS rfl rfl (by decide +kernel) (by decide +kernel) (xI_or ev6 (fun z e => t_X7_badIn l D G h z v3 v3 v6 e) (fun z e => t_X9_badIn l D G h z v3 v3 v6 e)) f_X7_badIn f_X9_badIn mm_684 mm_459 mm_632 mm_627 mm_630 (by decide +kernel) rfl rfl rfl rfl rfl hl.1 rfl (by first | exact Nat.le_of_ble_eq_true rfl | simp [xrf_cat, xcI, xcJ, xcA]) dX1_measure_46 (by decide) (by decide) (by decide) rfl (fun H locs hR hS => ?_)
      refine lv_iadd hx hb dX1_measure_51 ?_
      refine lv_topi (fun v7 ev7 => ?_)
      replace hF := xlet ev7 hF
      refine lv_istore (lv' := [(5, .int v7), (4, .int v5), (7, .int v3), (0, va_rf (some a0)), (1, va_rf (some a1)), (2, .int x2), (3, .int x3), (6, .int x6)]) hx hb dX1_measure_52 hl (by decide) (by first | rfl | (simp [xrf_cat, xcI, xcJ, xcA]; done) | (simp [xrf_cat, xcI, xcJ, xcA]; decide)) (fun ls hl => ?_)
      refine x_aload_n (o := (some a0)) hx hb dX1_measure_54 rfl (lv_at hl 3 rfl) ?_
      replace hF := xbind hF; obtain ⟨w8, ew8, hF⟩ := hF
      refine x_getR (o := (some a0)) (ci := 2) (C := RX1) (T := TX1) (N := 5) hx hb hts iw_X1 hown hR rfl 0 (by decide) mm_171 (Or.inl rfl) ew8 dX1_measure_55 ?_
      refine lv_iload hx hb dX1_measure_58 (lv_at hl 7 rfl) ?_
      refine lv_iload_n hx hb dX1_measure_60 rfl (lv_at hl 5 rfl) ?_
      refine lv_i2l (v := ((x2 : Int32).toInt64)) hx hb dX1_measure_61 rfl ?_
      refine lv_iload hx hb dX1_measure_62 (lv_at hl 1 rfl) ?_
      refine lv_i2l (v := ((v5 : Int32).toInt64)) hx hb dX1_measure_64 rfl ?_
      refine lv_lmul hx hb dX1_measure_65 ?_
      refine lv_iload hx hb dX1_measure_66 (lv_at hl 0 rfl) ?_
      replace hF := xbind hF; obtain ⟨v9, ev9, hF⟩ := hF
      refine x_callS (As := [.long (((x2 : Int32).toInt64) * ((v5 : Int32).toInt64)), .int v7]) (rest := [.int x6, va_rf w8]) (v := (some (.int v9))) (k := 2) hx hb hml hown hts hR hS (t_X1_levelOf l D G h (((x2 : Int32).toInt64) * ((v5 : Int32).toInt64)) v7 v9 ev9) f_X1_levelOf mm_685 mm_686 rfl hl.1 rfl (by first | exact Nat.le_of_ble_eq_true rfl | simp [xrf_cat, xcI, xcJ, xcA]) dX1_measure_68 (by decide) (by decide) rfl (fun H locs hR hS => ?_)
      replace hF := xbind hF; obtain ⟨h10, eh10, hF⟩ := hF
      refine x_ist (o := w8) hx hb hR hS eh10 dX1_measure_71 (fun H locs hR hS => ?_)
      obtain ⟨v11, ev11⟩ : ∃ z : Int32, z = (x6 + 1) := ⟨_, rfl⟩
      replace hF := xlet ev11 hF
      refine lv_iinc (v := v11) (lv' := [(6, .int v11), (5, .int v7), (4, .int v5), (7, .int v3), (0, va_rf (some a0)), (1, va_rf (some a1)), (2, .int x2), (3, .int x3)]) hx hb dX1_measure_72 hl (k := 7) rfl (by rw [ev11]; rfl) (by decide) (by first | rfl | (simp [xrf_cat, xcI, xcJ, xcA]; done) | (simp [xrf_cat, xcI, xcJ, xcA]; decide)) (fun ls hl => ?_)
      refine lv_goto (tgt := 9) hx hb dX1_measure_75 (by decide) ?_
      exact ih h10 v5 v7 v11 _ _ _ hF hR hS (lv_sub hl [4, 5, 6, 7, 2, 1, 0] rfl)
def F_X1_measure (G : Nat → Nat) (h : xH) (a0 : Nat) (a1 : Nat) (x2 : Int32) (x3 : Int32) : Option (Int32 × xH) :=
  F_X1_measure_9 G a0 a1 x2 x3 xN h 0 0 1
set_option maxHeartbeats 4000000 in
set_option maxRecDepth 100000 in
theorem t_X1_measure (l : Launch) (D : va_G) (G : Nat → Nat) (h : xH) (a0 : Nat) (a1 : Nat) (x2 : Int32) (x3 : Int32) (r : Int32) (h' : xH) (hF : F_X1_measure G h a0 a1 x2 x3 = some (r, h')) : xC l yX1_measure cX1_measure 8 (some .boolean) (rm_X1_measure) D G h [.ref a0, .ref a1, .int x2, .int x3] (some (.int r)) h' := by
  refine xC_of (by decide) (by first | decide | exact Nat.le_of_ble_eq_true rfl) ?_
  intro p e s m args below meth c ls hx hb hr hlk hml hown hnm hts hR hS hl
  have hl : lv_has ls 8 [(0, va_rf (some a0)), (1, va_rf (some a1)), (2, .int x2), (3, .int x3)] := hl
  unfold F_X1_measure at hF
  refine lv_iconst (v := 0) hx hb dX1_measure_0 (by decide) ?_
  refine lv_istore (lv' := [(4, .int 0), (0, va_rf (some a0)), (1, va_rf (some a1)), (2, .int x2), (3, .int x3)]) hx hb dX1_measure_1 hl (by decide) (by first | rfl | (simp [xrf_cat, xcI, xcJ, xcA]; done) | (simp [xrf_cat, xcI, xcJ, xcA]; decide)) (fun ls hl => ?_)
  refine lv_iconst (v := 0) hx hb dX1_measure_3 (by decide) ?_
  refine lv_istore (lv' := [(5, .int 0), (4, .int 0), (0, va_rf (some a0)), (1, va_rf (some a1)), (2, .int x2), (3, .int x3)]) hx hb dX1_measure_4 hl (by decide) (by first | rfl | (simp [xrf_cat, xcI, xcJ, xcA]; done) | (simp [xrf_cat, xcI, xcJ, xcA]; decide)) (fun ls hl => ?_)
  refine lv_iconst (v := 1) hx hb dX1_measure_6 (by decide) ?_
  refine lv_istore (lv' := [(6, .int 1), (5, .int 0), (4, .int 0), (0, va_rf (some a0)), (1, va_rf (some a1)), (2, .int x2), (3, .int x3)]) hx hb dX1_measure_7 hl (by decide) (by first | rfl | (simp [xrf_cat, xcI, xcJ, xcA]; done) | (simp [xrf_cat, xcI, xcJ, xcA]; decide)) (fun ls hl => ?_)
  refine W.widen (k := 0) (n := 0) (by decide) (by decide) ?_
  exact tl_X1_measure_9 hx hb hr hlk hml hown hnm hts G a0 a1 x2 x3 _ h 0 0 1 _ _ _ hF hR hS (lv_sub hl [3, 4, 5, 6, 2, 1, 0] rfl)
def rm_X1_noteReached : Room := { frames := 1, cells := 0, slots := 0, locals := 23 }
theorem f_X1_noteReached : xM yX1_noteReached cX1_noteReached 4 none 0 := ⟨mm_696, mm_61, by decide +kernel, by decide +kernel⟩
theorem dX1_noteReached_0 : decode cX1_noteReached 0 = .ok (.iconst 1, 1) := by decide +kernel
theorem dX1_noteReached_1 : decode cX1_noteReached 1 = .ok (.istore_n 1, 1) := by decide +kernel
theorem dX1_noteReached_2 : decode cX1_noteReached 2 = .ok (.iload_n 1, 1) := by decide +kernel
theorem dX1_noteReached_3 : decode cX1_noteReached 3 = .ok (.bipush 12, 2) := by decide +kernel
theorem dX1_noteReached_5 : decode cX1_noteReached 5 = .ok (.if_icmp .gt 68, 3) := by decide +kernel
theorem dX1_noteReached_8 : decode cX1_noteReached 8 = .ok (.iconst 1, 1) := by decide +kernel
theorem dX1_noteReached_9 : decode cX1_noteReached 9 = .ok (.istore_n 2, 1) := by decide +kernel
theorem dX1_noteReached_10 : decode cX1_noteReached 10 = .ok (.iload_n 2, 1) := by decide +kernel
theorem dX1_noteReached_11 : decode cX1_noteReached 11 = .ok (.iload_n 1, 1) := by decide +kernel
theorem dX1_noteReached_12 : decode cX1_noteReached 12 = .ok (.if_icmp .gt 55, 3) := by decide +kernel
theorem dX1_noteReached_15 : decode cX1_noteReached 15 = .ok (.iload_n 1, 1) := by decide +kernel
theorem dX1_noteReached_16 : decode cX1_noteReached 16 = .ok (.iload_n 2, 1) := by decide +kernel
theorem dX1_noteReached_17 : decode cX1_noteReached 17 = .ok (.invokestatic 86, 3) := by decide +kernel
theorem dX1_noteReached_20 : decode cX1_noteReached 20 = .ok (.istore_n 3, 1) := by decide +kernel
theorem dX1_noteReached_21 : decode cX1_noteReached 21 = .ok (.iload_n 3, 1) := by decide +kernel
theorem dX1_noteReached_22 : decode cX1_noteReached 22 = .ok (.ifCond .lt 39, 3) := by decide +kernel
theorem dX1_noteReached_25 : decode cX1_noteReached 25 = .ok (.iload_n 3, 1) := by decide +kernel
theorem dX1_noteReached_26 : decode cX1_noteReached 26 = .ok (.bipush 78, 2) := by decide +kernel
theorem dX1_noteReached_28 : decode cX1_noteReached 28 = .ok (.if_icmp .ge 33, 3) := by decide +kernel
theorem dX1_noteReached_31 : decode cX1_noteReached 31 = .ok (.aload_n 0, 1) := by decide +kernel
theorem dX1_noteReached_32 : decode cX1_noteReached 32 = .ok (.getfield 15, 3) := by decide +kernel
theorem dX1_noteReached_35 : decode cX1_noteReached 35 = .ok (.iload_n 3, 1) := by decide +kernel
theorem dX1_noteReached_36 : decode cX1_noteReached 36 = .ok (.aload_n 0, 1) := by decide +kernel
theorem dX1_noteReached_37 : decode cX1_noteReached 37 = .ok (.getfield 15, 3) := by decide +kernel
theorem dX1_noteReached_40 : decode cX1_noteReached 40 = .ok (.iload_n 3, 1) := by decide +kernel
theorem dX1_noteReached_41 : decode cX1_noteReached 41 = .ok (.iaload, 1) := by decide +kernel
theorem dX1_noteReached_42 : decode cX1_noteReached 42 = .ok (.aload_n 0, 1) := by decide +kernel
theorem dX1_noteReached_43 : decode cX1_noteReached 43 = .ok (.getfield 11, 3) := by decide +kernel
theorem dX1_noteReached_46 : decode cX1_noteReached 46 = .ok (.iload_n 1, 1) := by decide +kernel
theorem dX1_noteReached_47 : decode cX1_noteReached 47 = .ok (.iaload, 1) := by decide +kernel
theorem dX1_noteReached_48 : decode cX1_noteReached 48 = .ok (.aload_n 0, 1) := by decide +kernel
theorem dX1_noteReached_49 : decode cX1_noteReached 49 = .ok (.getfield 11, 3) := by decide +kernel
theorem dX1_noteReached_52 : decode cX1_noteReached 52 = .ok (.iload_n 2, 1) := by decide +kernel
theorem dX1_noteReached_53 : decode cX1_noteReached 53 = .ok (.iaload, 1) := by decide +kernel
theorem dX1_noteReached_54 : decode cX1_noteReached 54 = .ok (.invokestatic 57, 3) := by decide +kernel
theorem dX1_noteReached_57 : decode cX1_noteReached 57 = .ok (.invokestatic 89, 3) := by decide +kernel
theorem dX1_noteReached_60 : decode cX1_noteReached 60 = .ok (.iastore, 1) := by decide +kernel
theorem dX1_noteReached_61 : decode cX1_noteReached 61 = .ok (.iinc 2 1, 3) := by decide +kernel
theorem dX1_noteReached_64 : decode cX1_noteReached 64 = .ok (.goto (-54), 3) := by decide +kernel
theorem dX1_noteReached_67 : decode cX1_noteReached 67 = .ok (.iinc 1 1, 3) := by decide +kernel
theorem dX1_noteReached_70 : decode cX1_noteReached 70 = .ok (.goto (-68), 3) := by decide +kernel
theorem dX1_noteReached_73 : decode cX1_noteReached 73 = .ok (.return_, 1) := by decide +kernel
def F_X1_noteReached_10 (G : Nat → Nat) (a0 : Nat) (x1 : Int32) (k2 : xH → Int32 → Option xH) : Nat → xH → Int32 → Option xH
  | 0, _, _ => none
  | n + 1, h, x2 =>
    if x1 < x2 then
      xl (x1 + 1) fun v3 =>
      k2 h v3
    else
    (F_X1_pairOf x1 x2).bind fun v4 =>
    if v4 < 0 then
      xl (x2 + 1) fun v6 =>
      F_X1_noteReached_10 G a0 x1 k2 n h v6
    else
    if 78 ≤ v4 then
      xl (x2 + 1) fun v8 =>
      F_X1_noteReached_10 G a0 x1 k2 n h v8
    else
    (gR h (some a0) 2 1).bind fun w9 =>
    (gR h (some a0) 2 1).bind fun w10 =>
    (ldI 2 G h w10 v4).bind fun v11 =>
    (gR h (some a0) 2 0).bind fun w12 =>
    (ldI 2 G h w12 x1).bind fun v13 =>
    (gR h (some a0) 2 0).bind fun w14 =>
    (ldI 2 G h w14 x2).bind fun v15 =>
    (stI 2 G h w9 v4 (xmax v11 (xmin v13 v15))).bind fun h16 =>
    xl (x2 + 1) fun v17 =>
    F_X1_noteReached_10 G a0 x1 k2 n h16 v17
set_option maxHeartbeats 4000000 in
set_option maxRecDepth 100000 in
theorem tl_X1_noteReached_10 {p : Program} {l : Launch} {e : Env} {s : State} {m : MethodId} {args : Array Value} {below : List Frame} {meth : Method} {c : Code} {D : va_G} {h' : xH} (hx : p.tables.exec = Jvm.exec) (hb : c.code = cX1_noteReached) (hr : meth.sig.returnType = none) (hlk : meth.locks = false) (hml : c.maxLocals = 4) (hown : s.vm.findClass RX1 = some m.cls) (hnm : meth.name = "noteReached") (hts : ∀ w ∈ xt, w.before args s = true) (G : Nat → Nat) (a0 : Nat) (x1 : Int32) (k2 : xH → Int32 → Option xH) (hk2 : ∀ (g' : xH) (x1' : Int32) (H : Heap) (locs : List Loc) (ls : Array Slot), k2 g' x1' = some h' → xR D G g' s H → va_S (xA G) s.heap H locs → lv_has ls 4 [(0, va_rf (some a0)), (1, .int x1')] → W p l e rm_X1_noteReached s m args below meth c H locs 0 0 (MQ below (xQ D G none h') args s rm_X1_noteReached.cells rm_X1_noteReached.slots (xA G)) (F0 m 2 ls [])) : ∀ (n : Nat) (h : xH) (x2 : Int32) (H : Heap) (locs : List Loc) (ls : Array Slot), F_X1_noteReached_10 G a0 x1 k2 n h x2 = some h' → xR D G h s H → va_S (xA G) s.heap H locs → lv_has ls 4 [(0, va_rf (some a0)), (1, .int x1), (2, .int x2)] → W p l e rm_X1_noteReached s m args below meth c H locs 0 0 (MQ below (xQ D G none h') args s rm_X1_noteReached.cells rm_X1_noteReached.slots (xA G)) (F0 m 10 ls []) := by
  intro n
  induction n with
  | zero =>
    intro h x2 H locs ls hF
    rw [F_X1_noteReached_10.eq_1] at hF
    cases hF
  | succ n ih =>
    intro h x2 H locs ls hF hR hS hl
    rw [F_X1_noteReached_10.eq_2] at hF
    refine lv_iload_n hx hb dX1_noteReached_10 rfl (lv_at hl 2 rfl) ?_
    refine lv_iload_n hx hb dX1_noteReached_11 rfl (lv_at hl 1 rfl) ?_
    refine lv_icmp_gt (tgt := 67) hx hb dX1_noteReached_12 (by decide) (fun c2 => ?_) (fun c2 => ?_)
    · replace hF := xift c2 hF
      obtain ⟨v3, ev3⟩ : ∃ z : Int32, z = (x1 + 1) := ⟨_, rfl⟩
      replace hF := xlet ev3 hF
      refine lv_iinc (v := v3) (lv' := [(1, .int v3), (0, va_rf (some a0)), (2, .int x2)]) hx hb dX1_noteReached_67 hl (k := 1) rfl (by rw [ev3]; rfl) (by decide) (by first | rfl | (simp [xrf_cat, xcI, xcJ, xcA]; done) | (simp [xrf_cat, xcI, xcJ, xcA]; decide)) (fun ls hl => ?_)
      refine lv_goto (tgt := 2) hx hb dX1_noteReached_70 (by decide) ?_
      exact hk2 h v3 _ _ _ hF hR hS (lv_sub hl [1, 0] rfl)
    · replace hF := xiff c2 hF
      refine lv_iload_n hx hb dX1_noteReached_15 rfl (lv_at hl 1 rfl) ?_
      refine lv_iload_n hx hb dX1_noteReached_16 rfl (lv_at hl 2 rfl) ?_
      replace hF := xbind hF; obtain ⟨v4, ev4, hF⟩ := hF
      refine x_callS (As := [.int x1, .int x2]) (rest := []) (v := (some (.int v4))) (k := 2) hx hb hml hown hts hR hS (t_X1_pairOf l D G h x1 x2 v4 ev4) f_X1_pairOf mm_697 mm_698 rfl hl.1 rfl (by first | exact Nat.le_of_ble_eq_true rfl | simp [xrf_cat, xcI, xcJ, xcA]) dX1_noteReached_17 (by decide) (by decide) rfl (fun H locs hR hS => ?_)
      refine lv_istore_n (lv' := [(3, .int v4), (0, va_rf (some a0)), (1, .int x1), (2, .int x2)]) hx hb dX1_noteReached_20 rfl hl (by decide) (by first | rfl | (simp [xrf_cat, xcI, xcJ, xcA]; done) | (simp [xrf_cat, xcI, xcJ, xcA]; decide)) (fun ls hl => ?_)
      refine lv_iload_n hx hb dX1_noteReached_21 rfl (lv_at hl 0 rfl) ?_
      refine lv_if_lt (tgt := 61) hx hb dX1_noteReached_22 (by decide) (fun c5 => ?_) (fun c5 => ?_)
      · replace hF := xift c5 hF
        obtain ⟨v6, ev6⟩ : ∃ z : Int32, z = (x2 + 1) := ⟨_, rfl⟩
        replace hF := xlet ev6 hF
        refine lv_iinc (v := v6) (lv' := [(2, .int v6), (3, .int v4), (0, va_rf (some a0)), (1, .int x1)]) hx hb dX1_noteReached_61 hl (k := 3) rfl (by rw [ev6]; rfl) (by decide) (by first | rfl | (simp [xrf_cat, xcI, xcJ, xcA]; done) | (simp [xrf_cat, xcI, xcJ, xcA]; decide)) (fun ls hl => ?_)
        refine lv_goto (tgt := 10) hx hb dX1_noteReached_64 (by decide) ?_
        exact ih h v6 _ _ _ hF hR hS (lv_sub hl [2, 3, 0] rfl)
      · replace hF := xiff c5 hF
        refine lv_iload_n hx hb dX1_noteReached_25 rfl (lv_at hl 0 rfl) ?_
        refine lv_bipush (v := 78) hx hb dX1_noteReached_26 (by decide) ?_
        refine lv_icmp_ge (tgt := 61) hx hb dX1_noteReached_28 (by decide) (fun c7 => ?_) (fun c7 => ?_)
        · replace hF := xift c7 hF
          obtain ⟨v8, ev8⟩ : ∃ z : Int32, z = (x2 + 1) := ⟨_, rfl⟩
          replace hF := xlet ev8 hF
          refine lv_iinc (v := v8) (lv' := [(2, .int v8), (3, .int v4), (0, va_rf (some a0)), (1, .int x1)]) hx hb dX1_noteReached_61 hl (k := 3) rfl (by rw [ev8]; rfl) (by decide) (by first | rfl | (simp [xrf_cat, xcI, xcJ, xcA]; done) | (simp [xrf_cat, xcI, xcJ, xcA]; decide)) (fun ls hl => ?_)
          refine lv_goto (tgt := 10) hx hb dX1_noteReached_64 (by decide) ?_
          exact ih h v8 _ _ _ hF hR hS (lv_sub hl [2, 3, 0] rfl)
        · replace hF := xiff c7 hF
          refine x_aload_n (o := (some a0)) hx hb dX1_noteReached_31 rfl (lv_at hl 1 rfl) ?_
          replace hF := xbind hF; obtain ⟨w9, ew9, hF⟩ := hF
          refine x_getR (o := (some a0)) (ci := 2) (C := RX1) (T := TX1) (N := 5) hx hb hts iw_X1 hown hR rfl 1 (by decide) mm_172 (Or.inl rfl) ew9 dX1_noteReached_32 ?_
          refine lv_iload_n hx hb dX1_noteReached_35 rfl (lv_at hl 0 rfl) ?_
          refine x_aload_n (o := (some a0)) hx hb dX1_noteReached_36 rfl (lv_at hl 1 rfl) ?_
          replace hF := xbind hF; obtain ⟨w10, ew10, hF⟩ := hF
          refine x_getR (o := (some a0)) (ci := 2) (C := RX1) (T := TX1) (N := 5) hx hb hts iw_X1 hown hR rfl 1 (by decide) mm_172 (Or.inl rfl) ew10 dX1_noteReached_37 ?_
          refine lv_iload_n hx hb dX1_noteReached_40 rfl (lv_at hl 0 rfl) ?_
          replace hF := xbind hF; obtain ⟨v11, ev11, hF⟩ := hF
          refine x_ild (o := w10) hx hb hR ev11 dX1_noteReached_41 ?_
          refine x_aload_n (o := (some a0)) hx hb dX1_noteReached_42 rfl (lv_at hl 1 rfl) ?_
          replace hF := xbind hF; obtain ⟨w12, ew12, hF⟩ := hF
          refine x_getR (o := (some a0)) (ci := 2) (C := RX1) (T := TX1) (N := 5) hx hb hts iw_X1 hown hR rfl 0 (by decide) mm_171 (Or.inl rfl) ew12 dX1_noteReached_43 ?_
          refine lv_iload_n hx hb dX1_noteReached_46 rfl (lv_at hl 2 rfl) ?_
          replace hF := xbind hF; obtain ⟨v13, ev13, hF⟩ := hF
          refine x_ild (o := w12) hx hb hR ev13 dX1_noteReached_47 ?_
          refine x_aload_n (o := (some a0)) hx hb dX1_noteReached_48 rfl (lv_at hl 1 rfl) ?_
          replace hF := xbind hF; obtain ⟨w14, ew14, hF⟩ := hF
          refine x_getR (o := (some a0)) (ci := 2) (C := RX1) (T := TX1) (N := 5) hx hb hts iw_X1 hown hR rfl 0 (by decide) mm_171 (Or.inl rfl) ew14 dX1_noteReached_49 ?_
          refine lv_iload_n hx hb dX1_noteReached_52 rfl (lv_at hl 3 rfl) ?_
          replace hF := xbind hF; obtain ⟨v15, ev15, hF⟩ := hF
          refine x_ild (o := w14) hx hb hR ev15 dX1_noteReached_53 ?_
          refine x_min hx hb (hml.trans hl.1.symm) hown hts mm_675 mm_313 mm_65 mm_314 (by decide) (by first | exact Nat.le_of_ble_eq_true rfl | simp [xrf_cat, xcI, xcJ, xcA]) (by decide) (by decide) dX1_noteReached_54 ?_
          refine x_max hx hb (hml.trans hl.1.symm) hown hts mm_700 mm_280 mm_65 mm_281 (by decide) (by first | exact Nat.le_of_ble_eq_true rfl | simp [xrf_cat, xcI, xcJ, xcA]) (by decide) (by decide) dX1_noteReached_57 ?_
          replace hF := xbind hF; obtain ⟨h16, eh16, hF⟩ := hF
          refine x_ist (o := w9) hx hb hR hS eh16 dX1_noteReached_60 (fun H locs hR hS => ?_)
          obtain ⟨v17, ev17⟩ : ∃ z : Int32, z = (x2 + 1) := ⟨_, rfl⟩
          replace hF := xlet ev17 hF
          refine lv_iinc (v := v17) (lv' := [(2, .int v17), (3, .int v4), (0, va_rf (some a0)), (1, .int x1)]) hx hb dX1_noteReached_61 hl (k := 3) rfl (by rw [ev17]; rfl) (by decide) (by first | rfl | (simp [xrf_cat, xcI, xcJ, xcA]; done) | (simp [xrf_cat, xcI, xcJ, xcA]; decide)) (fun ls hl => ?_)
          refine lv_goto (tgt := 10) hx hb dX1_noteReached_64 (by decide) ?_
          exact ih h16 v17 _ _ _ hF hR hS (lv_sub hl [2, 3, 0] rfl)
def F_X1_noteReached_2 (G : Nat → Nat) (a0 : Nat) : Nat → xH → Int32 → Option xH
  | 0, _, _ => none
  | n + 1, h, x1 =>
    if 12 < x1 then
      some h
    else
    F_X1_noteReached_10 G a0 x1 (fun h' x1' => F_X1_noteReached_2 G a0 n h' x1') xN h 1
set_option maxHeartbeats 4000000 in
set_option maxRecDepth 100000 in
theorem tl_X1_noteReached_2 {p : Program} {l : Launch} {e : Env} {s : State} {m : MethodId} {args : Array Value} {below : List Frame} {meth : Method} {c : Code} {D : va_G} {h' : xH} (hx : p.tables.exec = Jvm.exec) (hb : c.code = cX1_noteReached) (hr : meth.sig.returnType = none) (hlk : meth.locks = false) (hml : c.maxLocals = 4) (hown : s.vm.findClass RX1 = some m.cls) (hnm : meth.name = "noteReached") (hts : ∀ w ∈ xt, w.before args s = true) (G : Nat → Nat) (a0 : Nat) : ∀ (n : Nat) (h : xH) (x1 : Int32) (H : Heap) (locs : List Loc) (ls : Array Slot), F_X1_noteReached_2 G a0 n h x1 = some h' → xR D G h s H → va_S (xA G) s.heap H locs → lv_has ls 4 [(0, va_rf (some a0)), (1, .int x1)] → W p l e rm_X1_noteReached s m args below meth c H locs 0 0 (MQ below (xQ D G none h') args s rm_X1_noteReached.cells rm_X1_noteReached.slots (xA G)) (F0 m 2 ls []) := by
  intro n
  induction n with
  | zero =>
    intro h x1 H locs ls hF
    rw [F_X1_noteReached_2.eq_1] at hF
    cases hF
  | succ n ih =>
    intro h x1 H locs ls hF hR hS hl
    rw [F_X1_noteReached_2.eq_2] at hF
    refine lv_iload_n hx hb dX1_noteReached_2 rfl (lv_at hl 1 rfl) ?_
    refine lv_bipush (v := 12) hx hb dX1_noteReached_3 (by decide) ?_
    refine lv_icmp_gt (tgt := 73) hx hb dX1_noteReached_5 (by decide) (fun c1 => ?_) (fun c1 => ?_)
    · replace hF := xift c1 hF
      cases hF
      exact x_vret hx hb hr hlk hR hS (by decide) (by decide) dX1_noteReached_73
    · replace hF := xiff c1 hF
      refine lv_iconst (v := 1) hx hb dX1_noteReached_8 (by decide) ?_
      refine lv_istore_n (lv' := [(2, .int 1), (0, va_rf (some a0)), (1, .int x1)]) hx hb dX1_noteReached_9 rfl hl (by decide) (by first | rfl | (simp [xrf_cat, xcI, xcJ, xcA]; done) | (simp [xrf_cat, xcI, xcJ, xcA]; decide)) (fun ls hl => ?_)
      refine W.widen (k := 0) (n := 0) (by decide) (by decide) ?_
      exact tl_X1_noteReached_10 hx hb hr hlk hml hown hnm hts G a0 x1 (fun h' x1' => F_X1_noteReached_2 G a0 n h' x1') (fun h' x1' H locs ls => ih h' x1' H locs ls) _ h 1 _ _ _ hF hR hS (lv_sub hl [1, 2, 0] rfl)
def F_X1_noteReached (G : Nat → Nat) (h : xH) (a0 : Nat) : Option xH :=
  F_X1_noteReached_2 G a0 xN h 1
set_option maxHeartbeats 4000000 in
set_option maxRecDepth 100000 in
theorem t_X1_noteReached (l : Launch) (D : va_G) (G : Nat → Nat) (h : xH) (a0 : Nat) (h' : xH) (hF : F_X1_noteReached G h a0 = some h') : xC l yX1_noteReached cX1_noteReached 4 none (rm_X1_noteReached) D G h [.ref a0] none h' := by
  refine xC_of (by decide) (by first | decide | exact Nat.le_of_ble_eq_true rfl) ?_
  intro p e s m args below meth c ls hx hb hr hlk hml hown hnm hts hR hS hl
  have hl : lv_has ls 4 [(0, va_rf (some a0))] := hl
  unfold F_X1_noteReached at hF
  refine lv_iconst (v := 1) hx hb dX1_noteReached_0 (by decide) ?_
  refine lv_istore_n (lv' := [(1, .int 1), (0, va_rf (some a0))]) hx hb dX1_noteReached_1 rfl hl (by decide) (by first | rfl | (simp [xrf_cat, xcI, xcJ, xcA]; done) | (simp [xrf_cat, xcI, xcJ, xcA]; decide)) (fun ls hl => ?_)
  refine W.widen (k := 0) (n := 0) (by decide) (by decide) ?_
  exact tl_X1_noteReached_2 hx hb hr hlk hml hown hnm hts G a0 _ h 1 _ _ _ hF hR hS (lv_sub hl [1, 0] rfl)
def rm_X1_noteRings : Room := { frames := 1, cells := 0, slots := 0, locals := 23 }
theorem f_X1_noteRings : xM yX1_noteRings cX1_noteRings 4 none 0 := ⟨mm_704, mm_61, by decide +kernel, by decide +kernel⟩
theorem dX1_noteRings_0 : decode cX1_noteRings 0 = .ok (.iconst 1, 1) := by decide +kernel
theorem dX1_noteRings_1 : decode cX1_noteRings 1 = .ok (.istore_n 1, 1) := by decide +kernel
theorem dX1_noteRings_2 : decode cX1_noteRings 2 = .ok (.iload_n 1, 1) := by decide +kernel
theorem dX1_noteRings_3 : decode cX1_noteRings 3 = .ok (.bipush 12, 2) := by decide +kernel
theorem dX1_noteRings_5 : decode cX1_noteRings 5 = .ok (.if_icmp .gt 70, 3) := by decide +kernel
theorem dX1_noteRings_8 : decode cX1_noteRings 8 = .ok (.iconst 1, 1) := by decide +kernel
theorem dX1_noteRings_9 : decode cX1_noteRings 9 = .ok (.istore_n 2, 1) := by decide +kernel
theorem dX1_noteRings_10 : decode cX1_noteRings 10 = .ok (.iload_n 2, 1) := by decide +kernel
theorem dX1_noteRings_11 : decode cX1_noteRings 11 = .ok (.iload_n 1, 1) := by decide +kernel
theorem dX1_noteRings_12 : decode cX1_noteRings 12 = .ok (.if_icmp .gt 57, 3) := by decide +kernel
theorem dX1_noteRings_15 : decode cX1_noteRings 15 = .ok (.iload_n 1, 1) := by decide +kernel
theorem dX1_noteRings_16 : decode cX1_noteRings 16 = .ok (.iload_n 2, 1) := by decide +kernel
theorem dX1_noteRings_17 : decode cX1_noteRings 17 = .ok (.invokestatic 86, 3) := by decide +kernel
theorem dX1_noteRings_20 : decode cX1_noteRings 20 = .ok (.bipush 21, 2) := by decide +kernel
theorem dX1_noteRings_22 : decode cX1_noteRings 22 = .ok (.imul, 1) := by decide +kernel
theorem dX1_noteRings_23 : decode cX1_noteRings 23 = .ok (.aload_n 0, 1) := by decide +kernel
theorem dX1_noteRings_24 : decode cX1_noteRings 24 = .ok (.getfield 11, 3) := by decide +kernel
theorem dX1_noteRings_27 : decode cX1_noteRings 27 = .ok (.iload_n 1, 1) := by decide +kernel
theorem dX1_noteRings_28 : decode cX1_noteRings 28 = .ok (.iaload, 1) := by decide +kernel
theorem dX1_noteRings_29 : decode cX1_noteRings 29 = .ok (.aload_n 0, 1) := by decide +kernel
theorem dX1_noteRings_30 : decode cX1_noteRings 30 = .ok (.getfield 11, 3) := by decide +kernel
theorem dX1_noteRings_33 : decode cX1_noteRings 33 = .ok (.iload_n 2, 1) := by decide +kernel
theorem dX1_noteRings_34 : decode cX1_noteRings 34 = .ok (.iaload, 1) := by decide +kernel
theorem dX1_noteRings_35 : decode cX1_noteRings 35 = .ok (.invokestatic 57, 3) := by decide +kernel
theorem dX1_noteRings_38 : decode cX1_noteRings 38 = .ok (.iadd, 1) := by decide +kernel
theorem dX1_noteRings_39 : decode cX1_noteRings 39 = .ok (.istore_n 3, 1) := by decide +kernel
theorem dX1_noteRings_40 : decode cX1_noteRings 40 = .ok (.iload_n 3, 1) := by decide +kernel
theorem dX1_noteRings_41 : decode cX1_noteRings 41 = .ok (.ifCond .lt 22, 3) := by decide +kernel
theorem dX1_noteRings_44 : decode cX1_noteRings 44 = .ok (.iload_n 3, 1) := by decide +kernel
theorem dX1_noteRings_45 : decode cX1_noteRings 45 = .ok (.aload_n 0, 1) := by decide +kernel
theorem dX1_noteRings_46 : decode cX1_noteRings 46 = .ok (.getfield 18, 3) := by decide +kernel
theorem dX1_noteRings_49 : decode cX1_noteRings 49 = .ok (.arraylength, 1) := by decide +kernel
theorem dX1_noteRings_50 : decode cX1_noteRings 50 = .ok (.if_icmp .ge 13, 3) := by decide +kernel
theorem dX1_noteRings_53 : decode cX1_noteRings 53 = .ok (.aload_n 0, 1) := by decide +kernel
theorem dX1_noteRings_54 : decode cX1_noteRings 54 = .ok (.getfield 18, 3) := by decide +kernel
theorem dX1_noteRings_57 : decode cX1_noteRings 57 = .ok (.iload_n 3, 1) := by decide +kernel
theorem dX1_noteRings_58 : decode cX1_noteRings 58 = .ok (.dup2, 1) := by decide +kernel
theorem dX1_noteRings_59 : decode cX1_noteRings 59 = .ok (.iaload, 1) := by decide +kernel
theorem dX1_noteRings_60 : decode cX1_noteRings 60 = .ok (.iconst 1, 1) := by decide +kernel
theorem dX1_noteRings_61 : decode cX1_noteRings 61 = .ok (.iadd, 1) := by decide +kernel
theorem dX1_noteRings_62 : decode cX1_noteRings 62 = .ok (.iastore, 1) := by decide +kernel
theorem dX1_noteRings_63 : decode cX1_noteRings 63 = .ok (.iinc 2 1, 3) := by decide +kernel
theorem dX1_noteRings_66 : decode cX1_noteRings 66 = .ok (.goto (-56), 3) := by decide +kernel
theorem dX1_noteRings_69 : decode cX1_noteRings 69 = .ok (.iinc 1 1, 3) := by decide +kernel
theorem dX1_noteRings_72 : decode cX1_noteRings 72 = .ok (.goto (-70), 3) := by decide +kernel
theorem dX1_noteRings_75 : decode cX1_noteRings 75 = .ok (.return_, 1) := by decide +kernel
def F_X1_noteRings_10 (G : Nat → Nat) (a0 : Nat) (x1 : Int32) (k2 : xH → Int32 → Option xH) : Nat → xH → Int32 → Option xH
  | 0, _, _ => none
  | n + 1, h, x2 =>
    if x1 < x2 then
      xl (x1 + 1) fun v3 =>
      k2 h v3
    else
    (F_X1_pairOf x1 x2).bind fun v4 =>
    (gR h (some a0) 2 0).bind fun w5 =>
    (ldI 2 G h w5 x1).bind fun v6 =>
    (gR h (some a0) 2 0).bind fun w7 =>
    (ldI 2 G h w7 x2).bind fun v8 =>
    xl ((v4 * 21) + (xmin v6 v8)) fun v9 =>
    if v9 < 0 then
      xl (x2 + 1) fun v11 =>
      F_X1_noteRings_10 G a0 x1 k2 n h v11
    else
    (gR h (some a0) 2 2).bind fun w12 =>
    (aln G h w12).bind fun v13 =>
    if v13 ≤ v9 then
      xl (x2 + 1) fun v15 =>
      F_X1_noteRings_10 G a0 x1 k2 n h v15
    else
    (gR h (some a0) 2 2).bind fun w16 =>
    (ldI 2 G h w16 v9).bind fun v17 =>
    (stI 2 G h w16 v9 (v17 + 1)).bind fun h18 =>
    xl (x2 + 1) fun v19 =>
    F_X1_noteRings_10 G a0 x1 k2 n h18 v19
set_option maxHeartbeats 4000000 in
set_option maxRecDepth 100000 in
theorem tl_X1_noteRings_10 {p : Program} {l : Launch} {e : Env} {s : State} {m : MethodId} {args : Array Value} {below : List Frame} {meth : Method} {c : Code} {D : va_G} {h' : xH} (hx : p.tables.exec = Jvm.exec) (hb : c.code = cX1_noteRings) (hr : meth.sig.returnType = none) (hlk : meth.locks = false) (hml : c.maxLocals = 4) (hown : s.vm.findClass RX1 = some m.cls) (hnm : meth.name = "noteRings") (hts : ∀ w ∈ xt, w.before args s = true) (G : Nat → Nat) (a0 : Nat) (x1 : Int32) (k2 : xH → Int32 → Option xH) (hk2 : ∀ (g' : xH) (x1' : Int32) (H : Heap) (locs : List Loc) (ls : Array Slot), k2 g' x1' = some h' → xR D G g' s H → va_S (xA G) s.heap H locs → lv_has ls 4 [(0, va_rf (some a0)), (1, .int x1')] → W p l e rm_X1_noteRings s m args below meth c H locs 0 0 (MQ below (xQ D G none h') args s rm_X1_noteRings.cells rm_X1_noteRings.slots (xA G)) (F0 m 2 ls [])) : ∀ (n : Nat) (h : xH) (x2 : Int32) (H : Heap) (locs : List Loc) (ls : Array Slot), F_X1_noteRings_10 G a0 x1 k2 n h x2 = some h' → xR D G h s H → va_S (xA G) s.heap H locs → lv_has ls 4 [(0, va_rf (some a0)), (1, .int x1), (2, .int x2)] → W p l e rm_X1_noteRings s m args below meth c H locs 0 0 (MQ below (xQ D G none h') args s rm_X1_noteRings.cells rm_X1_noteRings.slots (xA G)) (F0 m 10 ls []) := by
  intro n
  induction n with
  | zero =>
    intro h x2 H locs ls hF
    rw [F_X1_noteRings_10.eq_1] at hF
    cases hF
  | succ n ih =>
    intro h x2 H locs ls hF hR hS hl
    rw [F_X1_noteRings_10.eq_2] at hF
    refine lv_iload_n hx hb dX1_noteRings_10 rfl (lv_at hl 2 rfl) ?_
    refine lv_iload_n hx hb dX1_noteRings_11 rfl (lv_at hl 1 rfl) ?_
    refine lv_icmp_gt (tgt := 69) hx hb dX1_noteRings_12 (by decide) (fun c2 => ?_) (fun c2 => ?_)
    · replace hF := xift c2 hF
      obtain ⟨v3, ev3⟩ : ∃ z : Int32, z = (x1 + 1) := ⟨_, rfl⟩
      replace hF := xlet ev3 hF
      refine lv_iinc (v := v3) (lv' := [(1, .int v3), (0, va_rf (some a0)), (2, .int x2)]) hx hb dX1_noteRings_69 hl (k := 1) rfl (by rw [ev3]; rfl) (by decide) (by first | rfl | (simp [xrf_cat, xcI, xcJ, xcA]; done) | (simp [xrf_cat, xcI, xcJ, xcA]; decide)) (fun ls hl => ?_)
      refine lv_goto (tgt := 2) hx hb dX1_noteRings_72 (by decide) ?_
      exact hk2 h v3 _ _ _ hF hR hS (lv_sub hl [1, 0] rfl)
    · replace hF := xiff c2 hF
      refine lv_iload_n hx hb dX1_noteRings_15 rfl (lv_at hl 1 rfl) ?_
      refine lv_iload_n hx hb dX1_noteRings_16 rfl (lv_at hl 2 rfl) ?_
      replace hF := xbind hF; obtain ⟨v4, ev4, hF⟩ := hF
      refine x_callS (As := [.int x1, .int x2]) (rest := []) (v := (some (.int v4))) (k := 2) hx hb hml hown hts hR hS (t_X1_pairOf l D G h x1 x2 v4 ev4) f_X1_pairOf mm_697 mm_698 rfl hl.1 rfl (by first | exact Nat.le_of_ble_eq_true rfl | simp [xrf_cat, xcI, xcJ, xcA]) dX1_noteRings_17 (by decide) (by decide) rfl (fun H locs hR hS => ?_)
      refine lv_bipush (v := 21) hx hb dX1_noteRings_20 (by decide) ?_
      refine lv_imul hx hb dX1_noteRings_22 ?_
      refine x_aload_n (o := (some a0)) hx hb dX1_noteRings_23 rfl (lv_at hl 0 rfl) ?_
      replace hF := xbind hF; obtain ⟨w5, ew5, hF⟩ := hF
      refine x_getR (o := (some a0)) (ci := 2) (C := RX1) (T := TX1) (N := 5) hx hb hts iw_X1 hown hR rfl 0 (by decide) mm_171 (Or.inl rfl) ew5 dX1_noteRings_24 ?_
      refine lv_iload_n hx hb dX1_noteRings_27 rfl (lv_at hl 1 rfl) ?_
      replace hF := xbind hF; obtain ⟨v6, ev6, hF⟩ := hF
      refine x_ild (o := w5) hx hb hR ev6 dX1_noteRings_28 ?_
      refine x_aload_n (o := (some a0)) hx hb dX1_noteRings_29 rfl (lv_at hl 0 rfl) ?_
      replace hF := xbind hF; obtain ⟨w7, ew7, hF⟩ := hF
      refine x_getR (o := (some a0)) (ci := 2) (C := RX1) (T := TX1) (N := 5) hx hb hts iw_X1 hown hR rfl 0 (by decide) mm_171 (Or.inl rfl) ew7 dX1_noteRings_30 ?_
      refine lv_iload_n hx hb dX1_noteRings_33 rfl (lv_at hl 2 rfl) ?_
      replace hF := xbind hF; obtain ⟨v8, ev8, hF⟩ := hF
      refine x_ild (o := w7) hx hb hR ev8 dX1_noteRings_34 ?_
      refine x_min hx hb (hml.trans hl.1.symm) hown hts mm_675 mm_313 mm_65 mm_314 (by decide) (by first | exact Nat.le_of_ble_eq_true rfl | simp [xrf_cat, xcI, xcJ, xcA]) (by decide) (by decide) dX1_noteRings_35 ?_
      refine lv_iadd hx hb dX1_noteRings_38 ?_
      refine lv_topi (fun v9 ev9 => ?_)
      replace hF := xlet ev9 hF
      refine lv_istore_n (lv' := [(3, .int v9), (0, va_rf (some a0)), (1, .int x1), (2, .int x2)]) hx hb dX1_noteRings_39 rfl hl (by decide) (by first | rfl | (simp [xrf_cat, xcI, xcJ, xcA]; done) | (simp [xrf_cat, xcI, xcJ, xcA]; decide)) (fun ls hl => ?_)
      refine lv_iload_n hx hb dX1_noteRings_40 rfl (lv_at hl 0 rfl) ?_
      refine lv_if_lt (tgt := 63) hx hb dX1_noteRings_41 (by decide) (fun c10 => ?_) (fun c10 => ?_)
      · replace hF := xift c10 hF
        obtain ⟨v11, ev11⟩ : ∃ z : Int32, z = (x2 + 1) := ⟨_, rfl⟩
        replace hF := xlet ev11 hF
        refine lv_iinc (v := v11) (lv' := [(2, .int v11), (3, .int v9), (0, va_rf (some a0)), (1, .int x1)]) hx hb dX1_noteRings_63 hl (k := 3) rfl (by rw [ev11]; rfl) (by decide) (by first | rfl | (simp [xrf_cat, xcI, xcJ, xcA]; done) | (simp [xrf_cat, xcI, xcJ, xcA]; decide)) (fun ls hl => ?_)
        refine lv_goto (tgt := 10) hx hb dX1_noteRings_66 (by decide) ?_
        exact ih h v11 _ _ _ hF hR hS (lv_sub hl [2, 3, 0] rfl)
      · replace hF := xiff c10 hF
        refine lv_iload_n hx hb dX1_noteRings_44 rfl (lv_at hl 0 rfl) ?_
        refine x_aload_n (o := (some a0)) hx hb dX1_noteRings_45 rfl (lv_at hl 1 rfl) ?_
        replace hF := xbind hF; obtain ⟨w12, ew12, hF⟩ := hF
        refine x_getR (o := (some a0)) (ci := 2) (C := RX1) (T := TX1) (N := 5) hx hb hts iw_X1 hown hR rfl 2 (by decide) mm_173 (Or.inl rfl) ew12 dX1_noteRings_46 ?_
        replace hF := xbind hF; obtain ⟨v13, ev13, hF⟩ := hF
        refine x_aln (o := w12) hx hb hR ev13 dX1_noteRings_49 ?_
        refine lv_icmp_ge (tgt := 63) hx hb dX1_noteRings_50 (by decide) (fun c14 => ?_) (fun c14 => ?_)
        · replace hF := xift c14 hF
          obtain ⟨v15, ev15⟩ : ∃ z : Int32, z = (x2 + 1) := ⟨_, rfl⟩
          replace hF := xlet ev15 hF
          refine lv_iinc (v := v15) (lv' := [(2, .int v15), (3, .int v9), (0, va_rf (some a0)), (1, .int x1)]) hx hb dX1_noteRings_63 hl (k := 3) rfl (by rw [ev15]; rfl) (by decide) (by first | rfl | (simp [xrf_cat, xcI, xcJ, xcA]; done) | (simp [xrf_cat, xcI, xcJ, xcA]; decide)) (fun ls hl => ?_)
          refine lv_goto (tgt := 10) hx hb dX1_noteRings_66 (by decide) ?_
          exact ih h v15 _ _ _ hF hR hS (lv_sub hl [2, 3, 0] rfl)
        · replace hF := xiff c14 hF
          refine x_aload_n (o := (some a0)) hx hb dX1_noteRings_53 rfl (lv_at hl 1 rfl) ?_
          replace hF := xbind hF; obtain ⟨w16, ew16, hF⟩ := hF
          refine x_getR (o := (some a0)) (ci := 2) (C := RX1) (T := TX1) (N := 5) hx hb hts iw_X1 hown hR rfl 2 (by decide) mm_173 (Or.inl rfl) ew16 dX1_noteRings_54 ?_
          refine lv_iload_n hx hb dX1_noteRings_57 rfl (lv_at hl 0 rfl) ?_
          refine lv_dup2_11 hx hb dX1_noteRings_58 rfl xrf_cat ?_
          replace hF := xbind hF; obtain ⟨v17, ev17, hF⟩ := hF
          refine x_ild (o := w16) hx hb hR ev17 dX1_noteRings_59 ?_
          refine lv_iconst (v := 1) hx hb dX1_noteRings_60 (by decide) ?_
          refine lv_iadd hx hb dX1_noteRings_61 ?_
          replace hF := xbind hF; obtain ⟨h18, eh18, hF⟩ := hF
          refine x_ist (o := w16) hx hb hR hS eh18 dX1_noteRings_62 (fun H locs hR hS => ?_)
          obtain ⟨v19, ev19⟩ : ∃ z : Int32, z = (x2 + 1) := ⟨_, rfl⟩
          replace hF := xlet ev19 hF
          refine lv_iinc (v := v19) (lv' := [(2, .int v19), (3, .int v9), (0, va_rf (some a0)), (1, .int x1)]) hx hb dX1_noteRings_63 hl (k := 3) rfl (by rw [ev19]; rfl) (by decide) (by first | rfl | (simp [xrf_cat, xcI, xcJ, xcA]; done) | (simp [xrf_cat, xcI, xcJ, xcA]; decide)) (fun ls hl => ?_)
          refine lv_goto (tgt := 10) hx hb dX1_noteRings_66 (by decide) ?_
          exact ih h18 v19 _ _ _ hF hR hS (lv_sub hl [2, 3, 0] rfl)
def F_X1_noteRings_2 (G : Nat → Nat) (a0 : Nat) : Nat → xH → Int32 → Option xH
  | 0, _, _ => none
  | n + 1, h, x1 =>
    if 12 < x1 then
      some h
    else
    F_X1_noteRings_10 G a0 x1 (fun h' x1' => F_X1_noteRings_2 G a0 n h' x1') xN h 1
set_option maxHeartbeats 4000000 in
set_option maxRecDepth 100000 in
theorem tl_X1_noteRings_2 {p : Program} {l : Launch} {e : Env} {s : State} {m : MethodId} {args : Array Value} {below : List Frame} {meth : Method} {c : Code} {D : va_G} {h' : xH} (hx : p.tables.exec = Jvm.exec) (hb : c.code = cX1_noteRings) (hr : meth.sig.returnType = none) (hlk : meth.locks = false) (hml : c.maxLocals = 4) (hown : s.vm.findClass RX1 = some m.cls) (hnm : meth.name = "noteRings") (hts : ∀ w ∈ xt, w.before args s = true) (G : Nat → Nat) (a0 : Nat) : ∀ (n : Nat) (h : xH) (x1 : Int32) (H : Heap) (locs : List Loc) (ls : Array Slot), F_X1_noteRings_2 G a0 n h x1 = some h' → xR D G h s H → va_S (xA G) s.heap H locs → lv_has ls 4 [(0, va_rf (some a0)), (1, .int x1)] → W p l e rm_X1_noteRings s m args below meth c H locs 0 0 (MQ below (xQ D G none h') args s rm_X1_noteRings.cells rm_X1_noteRings.slots (xA G)) (F0 m 2 ls []) := by
  intro n
  induction n with
  | zero =>
    intro h x1 H locs ls hF
    rw [F_X1_noteRings_2.eq_1] at hF
    cases hF
  | succ n ih =>
    intro h x1 H locs ls hF hR hS hl
    rw [F_X1_noteRings_2.eq_2] at hF
    refine lv_iload_n hx hb dX1_noteRings_2 rfl (lv_at hl 1 rfl) ?_
    refine lv_bipush (v := 12) hx hb dX1_noteRings_3 (by decide) ?_
    refine lv_icmp_gt (tgt := 75) hx hb dX1_noteRings_5 (by decide) (fun c1 => ?_) (fun c1 => ?_)
    · replace hF := xift c1 hF
      cases hF
      exact x_vret hx hb hr hlk hR hS (by decide) (by decide) dX1_noteRings_75
    · replace hF := xiff c1 hF
      refine lv_iconst (v := 1) hx hb dX1_noteRings_8 (by decide) ?_
      refine lv_istore_n (lv' := [(2, .int 1), (0, va_rf (some a0)), (1, .int x1)]) hx hb dX1_noteRings_9 rfl hl (by decide) (by first | rfl | (simp [xrf_cat, xcI, xcJ, xcA]; done) | (simp [xrf_cat, xcI, xcJ, xcA]; decide)) (fun ls hl => ?_)
      refine W.widen (k := 0) (n := 0) (by decide) (by decide) ?_
      exact tl_X1_noteRings_10 hx hb hr hlk hml hown hnm hts G a0 x1 (fun h' x1' => F_X1_noteRings_2 G a0 n h' x1') (fun h' x1' H locs ls => ih h' x1' H locs ls) _ h 1 _ _ _ hF hR hS (lv_sub hl [1, 2, 0] rfl)
def F_X1_noteRings (G : Nat → Nat) (h : xH) (a0 : Nat) : Option xH :=
  F_X1_noteRings_2 G a0 xN h 1
set_option maxHeartbeats 4000000 in
set_option maxRecDepth 100000 in
theorem t_X1_noteRings (l : Launch) (D : va_G) (G : Nat → Nat) (h : xH) (a0 : Nat) (h' : xH) (hF : F_X1_noteRings G h a0 = some h') : xC l yX1_noteRings cX1_noteRings 4 none (rm_X1_noteRings) D G h [.ref a0] none h' := by
  refine xC_of (by decide) (by first | decide | exact Nat.le_of_ble_eq_true rfl) ?_
  intro p e s m args below meth c ls hx hb hr hlk hml hown hnm hts hR hS hl
  have hl : lv_has ls 4 [(0, va_rf (some a0))] := hl
  unfold F_X1_noteRings at hF
  refine lv_iconst (v := 1) hx hb dX1_noteRings_0 (by decide) ?_
  refine lv_istore_n (lv' := [(1, .int 1), (0, va_rf (some a0))]) hx hb dX1_noteRings_1 rfl hl (by decide) (by first | rfl | (simp [xrf_cat, xcI, xcJ, xcA]; done) | (simp [xrf_cat, xcI, xcJ, xcA]; decide)) (fun ls hl => ?_)
  refine W.widen (k := 0) (n := 0) (by decide) (by decide) ?_
  exact tl_X1_noteRings_2 hx hb hr hlk hml hown hnm hts G a0 _ h 1 _ _ _ hF hR hS (lv_sub hl [1, 0] rfl)
def rm_X1_chooseRate : Room := { frames := 0, cells := 0, slots := 0, locals := 0 }
theorem f_X1_chooseRate : xM yX1_chooseRate cX1_chooseRate 4 none 1 := ⟨mm_712, mm_61, by decide +kernel, by decide +kernel⟩
theorem dX1_chooseRate_0 : decode cX1_chooseRate 0 = .ok (.aload_n 0, 1) := by decide +kernel
theorem dX1_chooseRate_1 : decode cX1_chooseRate 1 = .ok (.iconst 0, 1) := by decide +kernel
theorem dX1_chooseRate_2 : decode cX1_chooseRate 2 = .ok (.putfield 96, 3) := by decide +kernel
theorem dX1_chooseRate_5 : decode cX1_chooseRate 5 = .ok (.aload_n 0, 1) := by decide +kernel
theorem dX1_chooseRate_6 : decode cX1_chooseRate 6 = .ok (.sipush 602, 3) := by decide +kernel
theorem dX1_chooseRate_9 : decode cX1_chooseRate 9 = .ok (.putfield 99, 3) := by decide +kernel
theorem dX1_chooseRate_12 : decode cX1_chooseRate 12 = .ok (.iload_n 1, 1) := by decide +kernel
theorem dX1_chooseRate_13 : decode cX1_chooseRate 13 = .ok (.ifCond .lt 9, 3) := by decide +kernel
theorem dX1_chooseRate_16 : decode cX1_chooseRate 16 = .ok (.iload_n 1, 1) := by decide +kernel
theorem dX1_chooseRate_17 : decode cX1_chooseRate 17 = .ok (.bipush 78, 2) := by decide +kernel
theorem dX1_chooseRate_19 : decode cX1_chooseRate 19 = .ok (.if_icmp .lt 4, 3) := by decide +kernel
theorem dX1_chooseRate_22 : decode cX1_chooseRate 22 = .ok (.return_, 1) := by decide +kernel
theorem dX1_chooseRate_23 : decode cX1_chooseRate 23 = .ok (.iconst 0, 1) := by decide +kernel
theorem dX1_chooseRate_24 : decode cX1_chooseRate 24 = .ok (.istore_n 2, 1) := by decide +kernel
theorem dX1_chooseRate_25 : decode cX1_chooseRate 25 = .ok (.bipush 20, 2) := by decide +kernel
theorem dX1_chooseRate_27 : decode cX1_chooseRate 27 = .ok (.istore_n 3, 1) := by decide +kernel
theorem dX1_chooseRate_28 : decode cX1_chooseRate 28 = .ok (.iload_n 3, 1) := by decide +kernel
theorem dX1_chooseRate_29 : decode cX1_chooseRate 29 = .ok (.ifCond .le 51, 3) := by decide +kernel
theorem dX1_chooseRate_32 : decode cX1_chooseRate 32 = .ok (.iload_n 2, 1) := by decide +kernel
theorem dX1_chooseRate_33 : decode cX1_chooseRate 33 = .ok (.aload_n 0, 1) := by decide +kernel
theorem dX1_chooseRate_34 : decode cX1_chooseRate 34 = .ok (.getfield 18, 3) := by decide +kernel
theorem dX1_chooseRate_37 : decode cX1_chooseRate 37 = .ok (.iload_n 1, 1) := by decide +kernel
theorem dX1_chooseRate_38 : decode cX1_chooseRate 38 = .ok (.bipush 21, 2) := by decide +kernel
theorem dX1_chooseRate_40 : decode cX1_chooseRate 40 = .ok (.imul, 1) := by decide +kernel
theorem dX1_chooseRate_41 : decode cX1_chooseRate 41 = .ok (.iload_n 3, 1) := by decide +kernel
theorem dX1_chooseRate_42 : decode cX1_chooseRate 42 = .ok (.iadd, 1) := by decide +kernel
theorem dX1_chooseRate_43 : decode cX1_chooseRate 43 = .ok (.iaload, 1) := by decide +kernel
theorem dX1_chooseRate_44 : decode cX1_chooseRate 44 = .ok (.iadd, 1) := by decide +kernel
theorem dX1_chooseRate_45 : decode cX1_chooseRate 45 = .ok (.istore_n 2, 1) := by decide +kernel
theorem dX1_chooseRate_46 : decode cX1_chooseRate 46 = .ok (.iload_n 3, 1) := by decide +kernel
theorem dX1_chooseRate_47 : decode cX1_chooseRate 47 = .ok (.aload_n 0, 1) := by decide +kernel
theorem dX1_chooseRate_48 : decode cX1_chooseRate 48 = .ok (.getfield 15, 3) := by decide +kernel
theorem dX1_chooseRate_51 : decode cX1_chooseRate 51 = .ok (.iload_n 1, 1) := by decide +kernel
theorem dX1_chooseRate_52 : decode cX1_chooseRate 52 = .ok (.iaload, 1) := by decide +kernel
theorem dX1_chooseRate_53 : decode cX1_chooseRate 53 = .ok (.if_icmp .gt 21, 3) := by decide +kernel
theorem dX1_chooseRate_56 : decode cX1_chooseRate 56 = .ok (.iload_n 2, 1) := by decide +kernel
theorem dX1_chooseRate_57 : decode cX1_chooseRate 57 = .ok (.aload_n 0, 1) := by decide +kernel
theorem dX1_chooseRate_58 : decode cX1_chooseRate 58 = .ok (.getfield 99, 3) := by decide +kernel
theorem dX1_chooseRate_61 : decode cX1_chooseRate 61 = .ok (.if_icmp .gt 13, 3) := by decide +kernel
theorem dX1_chooseRate_64 : decode cX1_chooseRate 64 = .ok (.aload_n 0, 1) := by decide +kernel
theorem dX1_chooseRate_65 : decode cX1_chooseRate 65 = .ok (.iload_n 2, 1) := by decide +kernel
theorem dX1_chooseRate_66 : decode cX1_chooseRate 66 = .ok (.putfield 99, 3) := by decide +kernel
theorem dX1_chooseRate_69 : decode cX1_chooseRate 69 = .ok (.aload_n 0, 1) := by decide +kernel
theorem dX1_chooseRate_70 : decode cX1_chooseRate 70 = .ok (.iload_n 3, 1) := by decide +kernel
theorem dX1_chooseRate_71 : decode cX1_chooseRate 71 = .ok (.putfield 96, 3) := by decide +kernel
theorem dX1_chooseRate_74 : decode cX1_chooseRate 74 = .ok (.iinc 3 (-1), 3) := by decide +kernel
theorem dX1_chooseRate_77 : decode cX1_chooseRate 77 = .ok (.goto (-49), 3) := by decide +kernel
theorem dX1_chooseRate_80 : decode cX1_chooseRate 80 = .ok (.return_, 1) := by decide +kernel
def F_X1_chooseRate_28 (G : Nat → Nat) (a0 : Nat) (x1 : Int32) : Nat → xH → Int32 → Int32 → Option xH
  | 0, _, _, _ => none
  | n + 1, h, x2, x3 =>
    if x3 ≤ 0 then
      some h
    else
    (gR h (some a0) 2 2).bind fun w6 =>
    (ldI 2 G h w6 ((x1 * 21) + x3)).bind fun v7 =>
    xl (x2 + v7) fun v8 =>
    (gR h (some a0) 2 1).bind fun w9 =>
    (ldI 2 G h w9 x1).bind fun v10 =>
    if v10 < x3 then
      xl (x3 + (-1)) fun v12 =>
      F_X1_chooseRate_28 G a0 x1 n h v8 v12
    else
    (gI h (some a0) 2 4).bind fun v13 =>
    if v13 < v8 then
      xl (x3 + (-1)) fun v15 =>
      F_X1_chooseRate_28 G a0 x1 n h v8 v15
    else
    (xp G h (some a0) 2 4 (.int v8)).bind fun h16 =>
    (xp G h16 (some a0) 2 3 (.int x3)).bind fun h17 =>
    xl (x3 + (-1)) fun v18 =>
    F_X1_chooseRate_28 G a0 x1 n h17 v8 v18
set_option maxHeartbeats 4000000 in
set_option maxRecDepth 100000 in
theorem tl_X1_chooseRate_28 {p : Program} {l : Launch} {e : Env} {s : State} {m : MethodId} {args : Array Value} {below : List Frame} {meth : Method} {c : Code} {D : va_G} {h' : xH} (hx : p.tables.exec = Jvm.exec) (hb : c.code = cX1_chooseRate) (hr : meth.sig.returnType = none) (hlk : meth.locks = false) (hml : c.maxLocals = 4) (hown : s.vm.findClass RX1 = some m.cls) (hnm : meth.name = "chooseRate") (hts : ∀ w ∈ xt, w.before args s = true) (G : Nat → Nat) (a0 : Nat) (x1 : Int32) : ∀ (n : Nat) (h : xH) (x2 : Int32) (x3 : Int32) (H : Heap) (locs : List Loc) (ls : Array Slot), F_X1_chooseRate_28 G a0 x1 n h x2 x3 = some h' → xR D G h s H → va_S (xA G) s.heap H locs → lv_has ls 4 [(0, va_rf (some a0)), (1, .int x1), (2, .int x2), (3, .int x3)] → W p l e rm_X1_chooseRate s m args below meth c H locs 0 0 (MQ below (xQ D G none h') args s rm_X1_chooseRate.cells rm_X1_chooseRate.slots (xA G)) (F0 m 28 ls []) := by
  intro n
  induction n with
  | zero =>
    intro h x2 x3 H locs ls hF
    rw [F_X1_chooseRate_28.eq_1] at hF
    cases hF
  | succ n ih =>
    intro h x2 x3 H locs ls hF hR hS hl
    rw [F_X1_chooseRate_28.eq_2] at hF
    refine lv_iload_n hx hb dX1_chooseRate_28 rfl (lv_at hl 3 rfl) ?_
    refine lv_if_le (tgt := 80) hx hb dX1_chooseRate_29 (by decide) (fun c5 => ?_) (fun c5 => ?_)
    · replace hF := xift c5 hF
      cases hF
      exact x_vret hx hb hr hlk hR hS (by decide) (by decide) dX1_chooseRate_80
    · replace hF := xiff c5 hF
      refine lv_iload_n hx hb dX1_chooseRate_32 rfl (lv_at hl 2 rfl) ?_
      refine x_aload_n (o := (some a0)) hx hb dX1_chooseRate_33 rfl (lv_at hl 0 rfl) ?_
      replace hF := xbind hF; obtain ⟨w6, ew6, hF⟩ := hF
      refine x_getR (o := (some a0)) (ci := 2) (C := RX1) (T := TX1) (N := 5) hx hb hts iw_X1 hown hR rfl 2 (by decide) mm_173 (Or.inl rfl) ew6 dX1_chooseRate_34 ?_
      refine lv_iload_n hx hb dX1_chooseRate_37 rfl (lv_at hl 1 rfl) ?_
      refine lv_bipush (v := 21) hx hb dX1_chooseRate_38 (by decide) ?_
      refine lv_imul hx hb dX1_chooseRate_40 ?_
      refine lv_iload_n hx hb dX1_chooseRate_41 rfl (lv_at hl 3 rfl) ?_
      refine lv_iadd hx hb dX1_chooseRate_42 ?_
      replace hF := xbind hF; obtain ⟨v7, ev7, hF⟩ := hF
      refine x_ild (o := w6) hx hb hR ev7 dX1_chooseRate_43 ?_
      refine lv_iadd hx hb dX1_chooseRate_44 ?_
      refine lv_topi (fun v8 ev8 => ?_)
      replace hF := xlet ev8 hF
      refine lv_istore_n (lv' := [(2, .int v8), (0, va_rf (some a0)), (1, .int x1), (3, .int x3)]) hx hb dX1_chooseRate_45 rfl hl (by decide) (by first | rfl | (simp [xrf_cat, xcI, xcJ, xcA]; done) | (simp [xrf_cat, xcI, xcJ, xcA]; decide)) (fun ls hl => ?_)
      refine lv_iload_n hx hb dX1_chooseRate_46 rfl (lv_at hl 3 rfl) ?_
      refine x_aload_n (o := (some a0)) hx hb dX1_chooseRate_47 rfl (lv_at hl 1 rfl) ?_
      replace hF := xbind hF; obtain ⟨w9, ew9, hF⟩ := hF
      refine x_getR (o := (some a0)) (ci := 2) (C := RX1) (T := TX1) (N := 5) hx hb hts iw_X1 hown hR rfl 1 (by decide) mm_172 (Or.inl rfl) ew9 dX1_chooseRate_48 ?_
      refine lv_iload_n hx hb dX1_chooseRate_51 rfl (lv_at hl 2 rfl) ?_
      replace hF := xbind hF; obtain ⟨v10, ev10, hF⟩ := hF
      refine x_ild (o := w9) hx hb hR ev10 dX1_chooseRate_52 ?_
      refine lv_icmp_gt (tgt := 74) hx hb dX1_chooseRate_53 (by decide) (fun c11 => ?_) (fun c11 => ?_)
      · replace hF := xift c11 hF
        obtain ⟨v12, ev12⟩ : ∃ z : Int32, z = (x3 + (-1)) := ⟨_, rfl⟩
        replace hF := xlet ev12 hF
        refine lv_iinc (v := v12) (lv' := [(3, .int v12), (2, .int v8), (0, va_rf (some a0)), (1, .int x1)]) hx hb dX1_chooseRate_74 hl (k := 3) rfl (by rw [ev12]; rfl) (by decide) (by first | rfl | (simp [xrf_cat, xcI, xcJ, xcA]; done) | (simp [xrf_cat, xcI, xcJ, xcA]; decide)) (fun ls hl => ?_)
        refine lv_goto (tgt := 28) hx hb dX1_chooseRate_77 (by decide) ?_
        exact ih h v8 v12 _ _ _ hF hR hS (lv_sub hl [2, 3, 1, 0] rfl)
      · replace hF := xiff c11 hF
        refine lv_iload_n hx hb dX1_chooseRate_56 rfl (lv_at hl 0 rfl) ?_
        refine x_aload_n (o := (some a0)) hx hb dX1_chooseRate_57 rfl (lv_at hl 1 rfl) ?_
        replace hF := xbind hF; obtain ⟨v13, ev13, hF⟩ := hF
        refine x_getI (o := (some a0)) (ci := 2) (C := RX1) (T := TX1) (N := 5) hx hb hts iw_X1 hown hR rfl 4 (by decide) mm_175 (Or.inl rfl) ev13 dX1_chooseRate_58 ?_
        refine lv_icmp_gt (tgt := 74) hx hb dX1_chooseRate_61 (by decide) (fun c14 => ?_) (fun c14 => ?_)
        · replace hF := xift c14 hF
          obtain ⟨v15, ev15⟩ : ∃ z : Int32, z = (x3 + (-1)) := ⟨_, rfl⟩
          replace hF := xlet ev15 hF
          refine lv_iinc (v := v15) (lv' := [(3, .int v15), (2, .int v8), (0, va_rf (some a0)), (1, .int x1)]) hx hb dX1_chooseRate_74 hl (k := 3) rfl (by rw [ev15]; rfl) (by decide) (by first | rfl | (simp [xrf_cat, xcI, xcJ, xcA]; done) | (simp [xrf_cat, xcI, xcJ, xcA]; decide)) (fun ls hl => ?_)
          refine lv_goto (tgt := 28) hx hb dX1_chooseRate_77 (by decide) ?_
          exact ih h v8 v15 _ _ _ hF hR hS (lv_sub hl [2, 3, 1, 0] rfl)
        · replace hF := xiff c14 hF
          refine x_aload_n (o := (some a0)) hx hb dX1_chooseRate_64 rfl (lv_at hl 1 rfl) ?_
          refine lv_iload_n hx hb dX1_chooseRate_65 rfl (lv_at hl 0 rfl) ?_
          replace hF := xbind hF; obtain ⟨h16, eh16, hF⟩ := hF
          refine x_put (o := (some a0)) (ci := 2) (C := RX1) (T := TX1) (N := 5) hx hb hts iw_X1 tyX1_ok nmX1 hown hR hS rfl 4 (by decide) mm_175 (Or.inl rfl) rfl rfl rfl eh16 dX1_chooseRate_66 (fun H locs hR hS => ?_)
          refine x_aload_n (o := (some a0)) hx hb dX1_chooseRate_69 rfl (lv_at hl 1 rfl) ?_
          refine lv_iload_n hx hb dX1_chooseRate_70 rfl (lv_at hl 3 rfl) ?_
          replace hF := xbind hF; obtain ⟨h17, eh17, hF⟩ := hF
          refine x_put (o := (some a0)) (ci := 2) (C := RX1) (T := TX1) (N := 5) hx hb hts iw_X1 tyX1_ok nmX1 hown hR hS rfl 3 (by decide) mm_174 (Or.inl rfl) rfl rfl rfl eh17 dX1_chooseRate_71 (fun H locs hR hS => ?_)
          obtain ⟨v18, ev18⟩ : ∃ z : Int32, z = (x3 + (-1)) := ⟨_, rfl⟩
          replace hF := xlet ev18 hF
          refine lv_iinc (v := v18) (lv' := [(3, .int v18), (2, .int v8), (0, va_rf (some a0)), (1, .int x1)]) hx hb dX1_chooseRate_74 hl (k := 3) rfl (by rw [ev18]; rfl) (by decide) (by first | rfl | (simp [xrf_cat, xcI, xcJ, xcA]; done) | (simp [xrf_cat, xcI, xcJ, xcA]; decide)) (fun ls hl => ?_)
          refine lv_goto (tgt := 28) hx hb dX1_chooseRate_77 (by decide) ?_
          exact ih h17 v8 v18 _ _ _ hF hR hS (lv_sub hl [2, 3, 1, 0] rfl)
def F_X1_chooseRate (G : Nat → Nat) (h : xH) (a0 : Nat) (x1 : Int32) : Option xH :=
  (xp G h (some a0) 2 3 (.int 0)).bind fun h1 =>
  (xp G h1 (some a0) 2 4 (.int 602)).bind fun h2 =>
  if x1 < 0 then
    some h2
  else
  if x1 < 78 then
    F_X1_chooseRate_28 G a0 x1 xN h2 0 20
  else
  some h2
set_option maxHeartbeats 4000000 in
set_option maxRecDepth 100000 in
theorem t_X1_chooseRate (l : Launch) (D : va_G) (G : Nat → Nat) (h : xH) (a0 : Nat) (x1 : Int32) (h' : xH) (hF : F_X1_chooseRate G h a0 x1 = some h') : xC l yX1_chooseRate cX1_chooseRate 4 none (rm_X1_chooseRate) D G h [.ref a0, .int x1] none h' := by
  refine xC_of (by decide) (by first | decide | exact Nat.le_of_ble_eq_true rfl) ?_
  intro p e s m args below meth c ls hx hb hr hlk hml hown hnm hts hR hS hl
  have hl : lv_has ls 4 [(0, va_rf (some a0)), (1, .int x1)] := hl
  unfold F_X1_chooseRate at hF
  refine x_aload_n (o := (some a0)) hx hb dX1_chooseRate_0 rfl (lv_at hl 0 rfl) ?_
  refine lv_iconst (v := 0) hx hb dX1_chooseRate_1 (by decide) ?_
  replace hF := xbind hF; obtain ⟨h1, eh1, hF⟩ := hF
  refine x_put (o := (some a0)) (ci := 2) (C := RX1) (T := TX1) (N := 5) hx hb hts iw_X1 tyX1_ok nmX1 hown hR hS rfl 3 (by decide) mm_174 (Or.inl rfl) rfl rfl rfl eh1 dX1_chooseRate_2 (fun H locs hR hS => ?_)
  refine x_aload_n (o := (some a0)) hx hb dX1_chooseRate_5 rfl (lv_at hl 0 rfl) ?_
  refine lv_sipush (v := 602) hx hb dX1_chooseRate_6 (by decide) ?_
  replace hF := xbind hF; obtain ⟨h2, eh2, hF⟩ := hF
  refine x_put (o := (some a0)) (ci := 2) (C := RX1) (T := TX1) (N := 5) hx hb hts iw_X1 tyX1_ok nmX1 hown hR hS rfl 4 (by decide) mm_175 (Or.inl rfl) rfl rfl rfl eh2 dX1_chooseRate_9 (fun H locs hR hS => ?_)
  refine lv_iload_n hx hb dX1_chooseRate_12 rfl (lv_at hl 1 rfl) ?_
  refine lv_if_lt (tgt := 22) hx hb dX1_chooseRate_13 (by decide) (fun c3 => ?_) (fun c3 => ?_)
  · replace hF := xift c3 hF
    cases hF
    exact x_vret hx hb hr hlk hR hS (by decide) (by decide) dX1_chooseRate_22
  · replace hF := xiff c3 hF
    refine lv_iload_n hx hb dX1_chooseRate_16 rfl (lv_at hl 1 rfl) ?_
    refine lv_bipush (v := 78) hx hb dX1_chooseRate_17 (by decide) ?_
    refine lv_icmp_lt (tgt := 23) hx hb dX1_chooseRate_19 (by decide) (fun c4 => ?_) (fun c4 => ?_)
    · replace hF := xift c4 hF
      refine lv_iconst (v := 0) hx hb dX1_chooseRate_23 (by decide) ?_
      refine lv_istore_n (lv' := [(2, .int 0), (0, va_rf (some a0)), (1, .int x1)]) hx hb dX1_chooseRate_24 rfl hl (by decide) (by first | rfl | (simp [xrf_cat, xcI, xcJ, xcA]; done) | (simp [xrf_cat, xcI, xcJ, xcA]; decide)) (fun ls hl => ?_)
      refine lv_bipush (v := 20) hx hb dX1_chooseRate_25 (by decide) ?_
      refine lv_istore_n (lv' := [(3, .int 20), (2, .int 0), (0, va_rf (some a0)), (1, .int x1)]) hx hb dX1_chooseRate_27 rfl hl (by decide) (by first | rfl | (simp [xrf_cat, xcI, xcJ, xcA]; done) | (simp [xrf_cat, xcI, xcJ, xcA]; decide)) (fun ls hl => ?_)
      refine W.widen (k := 0) (n := 0) (by decide) (by decide) ?_
      exact tl_X1_chooseRate_28 hx hb hr hlk hml hown hnm hts G a0 x1 _ h2 0 20 _ _ _ hF hR hS (lv_sub hl [2, 3, 1, 0] rfl)
    · replace hF := xiff c4 hF
      cases hF
      exact x_vret hx hb hr hlk hR hS (by decide) (by decide) dX1_chooseRate_22
def rm_X1_choose : Room := { frames := 1, cells := 0, slots := 0, locals := 23 }
theorem f_X1_choose : xM yX1_choose cX1_choose 5 (some .int) 0 := ⟨mm_708, mm_61, by decide +kernel, by decide +kernel⟩
theorem dX1_choose_0 : decode cX1_choose 0 = .ok (.iconst (-1), 1) := by decide +kernel
theorem dX1_choose_1 : decode cX1_choose 1 = .ok (.istore_n 1, 1) := by decide +kernel
theorem dX1_choose_2 : decode cX1_choose 2 = .ok (.sipush 602, 3) := by decide +kernel
theorem dX1_choose_5 : decode cX1_choose 5 = .ok (.istore_n 2, 1) := by decide +kernel
theorem dX1_choose_6 : decode cX1_choose 6 = .ok (.iconst 1, 1) := by decide +kernel
theorem dX1_choose_7 : decode cX1_choose 7 = .ok (.istore_n 3, 1) := by decide +kernel
theorem dX1_choose_8 : decode cX1_choose 8 = .ok (.iload_n 3, 1) := by decide +kernel
theorem dX1_choose_9 : decode cX1_choose 9 = .ok (.bipush 12, 2) := by decide +kernel
theorem dX1_choose_11 : decode cX1_choose 11 = .ok (.if_icmp .gt 74, 3) := by decide +kernel
theorem dX1_choose_14 : decode cX1_choose 14 = .ok (.iconst 1, 1) := by decide +kernel
theorem dX1_choose_15 : decode cX1_choose 15 = .ok (.istore 4, 2) := by decide +kernel
theorem dX1_choose_17 : decode cX1_choose 17 = .ok (.iload 4, 2) := by decide +kernel
theorem dX1_choose_19 : decode cX1_choose 19 = .ok (.iload_n 3, 1) := by decide +kernel
theorem dX1_choose_20 : decode cX1_choose 20 = .ok (.if_icmp .gt 59, 3) := by decide +kernel
theorem dX1_choose_23 : decode cX1_choose 23 = .ok (.aload_n 0, 1) := by decide +kernel
theorem dX1_choose_24 : decode cX1_choose 24 = .ok (.iload_n 3, 1) := by decide +kernel
theorem dX1_choose_25 : decode cX1_choose 25 = .ok (.iload 4, 2) := by decide +kernel
theorem dX1_choose_27 : decode cX1_choose 27 = .ok (.invokestatic 86, 3) := by decide +kernel
theorem dX1_choose_30 : decode cX1_choose 30 = .ok (.invokevirtual 92, 3) := by decide +kernel
theorem dX1_choose_33 : decode cX1_choose 33 = .ok (.aload_n 0, 1) := by decide +kernel
theorem dX1_choose_34 : decode cX1_choose 34 = .ok (.getfield 96, 3) := by decide +kernel
theorem dX1_choose_37 : decode cX1_choose 37 = .ok (.ifCond .le 36, 3) := by decide +kernel
theorem dX1_choose_40 : decode cX1_choose 40 = .ok (.aload_n 0, 1) := by decide +kernel
theorem dX1_choose_41 : decode cX1_choose 41 = .ok (.getfield 99, 3) := by decide +kernel
theorem dX1_choose_44 : decode cX1_choose 44 = .ok (.iload_n 2, 1) := by decide +kernel
theorem dX1_choose_45 : decode cX1_choose 45 = .ok (.if_icmp .ge 28, 3) := by decide +kernel
theorem dX1_choose_48 : decode cX1_choose 48 = .ok (.aload_n 0, 1) := by decide +kernel
theorem dX1_choose_49 : decode cX1_choose 49 = .ok (.getfield 99, 3) := by decide +kernel
theorem dX1_choose_52 : decode cX1_choose 52 = .ok (.istore_n 2, 1) := by decide +kernel
theorem dX1_choose_53 : decode cX1_choose 53 = .ok (.ldc 102, 2) := by decide +kernel
theorem dX1_choose_55 : decode cX1_choose 55 = .ok (.iload_n 3, 1) := by decide +kernel
theorem dX1_choose_56 : decode cX1_choose 56 = .ok (.imul, 1) := by decide +kernel
theorem dX1_choose_57 : decode cX1_choose 57 = .ok (.sipush 1000, 3) := by decide +kernel
theorem dX1_choose_60 : decode cX1_choose 60 = .ok (.iload 4, 2) := by decide +kernel
theorem dX1_choose_62 : decode cX1_choose 62 = .ok (.imul, 1) := by decide +kernel
theorem dX1_choose_63 : decode cX1_choose 63 = .ok (.iadd, 1) := by decide +kernel
theorem dX1_choose_64 : decode cX1_choose 64 = .ok (.bipush 10, 2) := by decide +kernel
theorem dX1_choose_66 : decode cX1_choose 66 = .ok (.aload_n 0, 1) := by decide +kernel
theorem dX1_choose_67 : decode cX1_choose 67 = .ok (.getfield 96, 3) := by decide +kernel
theorem dX1_choose_70 : decode cX1_choose 70 = .ok (.imul, 1) := by decide +kernel
theorem dX1_choose_71 : decode cX1_choose 71 = .ok (.iadd, 1) := by decide +kernel
theorem dX1_choose_72 : decode cX1_choose 72 = .ok (.istore_n 1, 1) := by decide +kernel
theorem dX1_choose_73 : decode cX1_choose 73 = .ok (.iinc 4 1, 3) := by decide +kernel
theorem dX1_choose_76 : decode cX1_choose 76 = .ok (.goto (-59), 3) := by decide +kernel
theorem dX1_choose_79 : decode cX1_choose 79 = .ok (.iinc 3 1, 3) := by decide +kernel
theorem dX1_choose_82 : decode cX1_choose 82 = .ok (.goto (-74), 3) := by decide +kernel
theorem dX1_choose_85 : decode cX1_choose 85 = .ok (.iload_n 1, 1) := by decide +kernel
theorem dX1_choose_86 : decode cX1_choose 86 = .ok (.ireturn, 1) := by decide +kernel
def F_X1_choose_17 (G : Nat → Nat) (a0 : Nat) (x3 : Int32) (k8 : xH → Int32 → Int32 → Int32 → Option (Int32 × xH)) : Nat → xH → Int32 → Int32 → Int32 → Option (Int32 × xH)
  | 0, _, _, _, _ => none
  | n + 1, h, x1, x2, x4 =>
    if x3 < x4 then
      xl (x3 + 1) fun v3 =>
      k8 h x1 x2 v3
    else
    (F_X1_pairOf x3 x4).bind fun v4 =>
    (xc h (some a0) 2).bind fun b6 =>
    (F_X1_chooseRate G h b6 v4).bind fun h5 =>
    (gI h5 (some a0) 2 3).bind fun v7 =>
    if v7 ≤ 0 then
      xl (x4 + 1) fun v9 =>
      F_X1_choose_17 G a0 x3 k8 n h5 x1 x2 v9
    else
    (gI h5 (some a0) 2 4).bind fun v10 =>
    if x2 ≤ v10 then
      xl (x4 + 1) fun v12 =>
      F_X1_choose_17 G a0 x3 k8 n h5 x1 x2 v12
    else
    (gI h5 (some a0) 2 4).bind fun v13 =>
    (gI h5 (some a0) 2 3).bind fun v14 =>
    xl (((1000000 * x3) + (1000 * x4)) + (10 * v14)) fun v15 =>
    xl (x4 + 1) fun v16 =>
    F_X1_choose_17 G a0 x3 k8 n h5 v15 v13 v16
set_option maxHeartbeats 4000000 in
set_option maxRecDepth 100000 in
theorem tl_X1_choose_17 {p : Program} {l : Launch} {e : Env} {s : State} {m : MethodId} {args : Array Value} {below : List Frame} {meth : Method} {c : Code} {D : va_G} {r : Int32} {h' : xH} (hx : p.tables.exec = Jvm.exec) (hb : c.code = cX1_choose) (hr : meth.sig.returnType = (some .int)) (hlk : meth.locks = false) (hml : c.maxLocals = 5) (hown : s.vm.findClass RX1 = some m.cls) (hnm : meth.name = "choose") (hts : ∀ w ∈ xt, w.before args s = true) (G : Nat → Nat) (a0 : Nat) (x3 : Int32) (k8 : xH → Int32 → Int32 → Int32 → Option (Int32 × xH)) (hk8 : ∀ (g' : xH) (x1' : Int32) (x2' : Int32) (x3' : Int32) (H : Heap) (locs : List Loc) (ls : Array Slot), k8 g' x1' x2' x3' = some (r, h') → xR D G g' s H → va_S (xA G) s.heap H locs → lv_has ls 5 [(0, va_rf (some a0)), (1, .int x1'), (2, .int x2'), (3, .int x3')] → W p l e rm_X1_choose s m args below meth c H locs 0 0 (MQ below (xQ D G (some (.int r)) h') args s rm_X1_choose.cells rm_X1_choose.slots (xA G)) (F0 m 8 ls [])) : ∀ (n : Nat) (h : xH) (x1 : Int32) (x2 : Int32) (x4 : Int32) (H : Heap) (locs : List Loc) (ls : Array Slot), F_X1_choose_17 G a0 x3 k8 n h x1 x2 x4 = some (r, h') → xR D G h s H → va_S (xA G) s.heap H locs → lv_has ls 5 [(0, va_rf (some a0)), (1, .int x1), (2, .int x2), (3, .int x3), (4, .int x4)] → W p l e rm_X1_choose s m args below meth c H locs 0 0 (MQ below (xQ D G (some (.int r)) h') args s rm_X1_choose.cells rm_X1_choose.slots (xA G)) (F0 m 17 ls []) := by
  intro n
  induction n with
  | zero =>
    intro h x1 x2 x4 H locs ls hF
    rw [F_X1_choose_17.eq_1] at hF
    cases hF
  | succ n ih =>
    intro h x1 x2 x4 H locs ls hF hR hS hl
    rw [F_X1_choose_17.eq_2] at hF
    refine lv_iload hx hb dX1_choose_17 (lv_at hl 4 rfl) ?_
    refine lv_iload_n hx hb dX1_choose_19 rfl (lv_at hl 3 rfl) ?_
    refine lv_icmp_gt (tgt := 79) hx hb dX1_choose_20 (by decide) (fun c2 => ?_) (fun c2 => ?_)
    · replace hF := xift c2 hF
      obtain ⟨v3, ev3⟩ : ∃ z : Int32, z = (x3 + 1) := ⟨_, rfl⟩
      replace hF := xlet ev3 hF
      refine lv_iinc (v := v3) (lv' := [(3, .int v3), (0, va_rf (some a0)), (1, .int x1), (2, .int x2), (4, .int x4)]) hx hb dX1_choose_79 hl (k := 3) rfl (by rw [ev3]; rfl) (by decide) (by first | rfl | (simp [xrf_cat, xcI, xcJ, xcA]; done) | (simp [xrf_cat, xcI, xcJ, xcA]; decide)) (fun ls hl => ?_)
      refine lv_goto (tgt := 8) hx hb dX1_choose_82 (by decide) ?_
      exact hk8 h x1 x2 v3 _ _ _ hF hR hS (lv_sub hl [1, 2, 3, 0] rfl)
    · replace hF := xiff c2 hF
      refine x_aload_n (o := (some a0)) hx hb dX1_choose_23 rfl (lv_at hl 0 rfl) ?_
      refine lv_iload_n hx hb dX1_choose_24 rfl (lv_at hl 3 rfl) ?_
      refine lv_iload hx hb dX1_choose_25 (lv_at hl 4 rfl) ?_
      replace hF := xbind hF; obtain ⟨v4, ev4, hF⟩ := hF
      refine x_callS (As := [.int x3, .int x4]) (rest := [va_rf (some a0)]) (v := (some (.int v4))) (k := 2) hx hb hml hown hts hR hS (t_X1_pairOf l D G h x3 x4 v4 ev4) f_X1_pairOf mm_697 mm_698 rfl hl.1 rfl (by first | exact Nat.le_of_ble_eq_true rfl | simp [xrf_cat, xcI, xcJ, xcA]) dX1_choose_27 (by decide) (by decide) rfl (fun H locs hR hS => ?_)
      replace hF := xbind hF; obtain ⟨b6, eb6, hF⟩ := hF
      replace hF := xbind hF; obtain ⟨h5, eh5, hF⟩ := hF
      refine x_callV (o := (some a0)) (ci := 2) (As := [.int v4]) (rest := []) (v := none) (k := 1) hx hb hml hown hts hR hS eb6 rfl rfl (t_X1_chooseRate l D G h b6 v4 h5 eh5) f_X1_chooseRate mm_709 mm_711 mm_22 rfl hl.1 rfl (by first | exact Nat.le_of_ble_eq_true rfl | simp [xrf_cat, xcI, xcJ, xcA]) dX1_choose_30 (by decide) (by decide) rfl (fun H locs hR hS => ?_)
      refine x_aload_n (o := (some a0)) hx hb dX1_choose_33 rfl (lv_at hl 0 rfl) ?_
      replace hF := xbind hF; obtain ⟨v7, ev7, hF⟩ := hF
      refine x_getI (o := (some a0)) (ci := 2) (C := RX1) (T := TX1) (N := 5) hx hb hts iw_X1 hown hR rfl 3 (by decide) mm_174 (Or.inl rfl) ev7 dX1_choose_34 ?_
      refine lv_if_le (tgt := 73) hx hb dX1_choose_37 (by decide) (fun c8 => ?_) (fun c8 => ?_)
      · replace hF := xift c8 hF
        obtain ⟨v9, ev9⟩ : ∃ z : Int32, z = (x4 + 1) := ⟨_, rfl⟩
        replace hF := xlet ev9 hF
        refine lv_iinc (v := v9) (lv' := [(4, .int v9), (0, va_rf (some a0)), (1, .int x1), (2, .int x2), (3, .int x3)]) hx hb dX1_choose_73 hl (k := 4) rfl (by rw [ev9]; rfl) (by decide) (by first | rfl | (simp [xrf_cat, xcI, xcJ, xcA]; done) | (simp [xrf_cat, xcI, xcJ, xcA]; decide)) (fun ls hl => ?_)
        refine lv_goto (tgt := 17) hx hb dX1_choose_76 (by decide) ?_
        exact ih h5 x1 x2 v9 _ _ _ hF hR hS (lv_sub hl [1, 2, 3, 4, 0] rfl)
      · replace hF := xiff c8 hF
        refine x_aload_n (o := (some a0)) hx hb dX1_choose_40 rfl (lv_at hl 0 rfl) ?_
        replace hF := xbind hF; obtain ⟨v10, ev10, hF⟩ := hF
        refine x_getI (o := (some a0)) (ci := 2) (C := RX1) (T := TX1) (N := 5) hx hb hts iw_X1 hown hR rfl 4 (by decide) mm_175 (Or.inl rfl) ev10 dX1_choose_41 ?_
        refine lv_iload_n hx hb dX1_choose_44 rfl (lv_at hl 2 rfl) ?_
        refine lv_icmp_ge (tgt := 73) hx hb dX1_choose_45 (by decide) (fun c11 => ?_) (fun c11 => ?_)
        · replace hF := xift c11 hF
          obtain ⟨v12, ev12⟩ : ∃ z : Int32, z = (x4 + 1) := ⟨_, rfl⟩
          replace hF := xlet ev12 hF
          refine lv_iinc (v := v12) (lv' := [(4, .int v12), (0, va_rf (some a0)), (1, .int x1), (2, .int x2), (3, .int x3)]) hx hb dX1_choose_73 hl (k := 4) rfl (by rw [ev12]; rfl) (by decide) (by first | rfl | (simp [xrf_cat, xcI, xcJ, xcA]; done) | (simp [xrf_cat, xcI, xcJ, xcA]; decide)) (fun ls hl => ?_)
          refine lv_goto (tgt := 17) hx hb dX1_choose_76 (by decide) ?_
          exact ih h5 x1 x2 v12 _ _ _ hF hR hS (lv_sub hl [1, 2, 3, 4, 0] rfl)
        · replace hF := xiff c11 hF
          refine x_aload_n (o := (some a0)) hx hb dX1_choose_48 rfl (lv_at hl 0 rfl) ?_
          replace hF := xbind hF; obtain ⟨v13, ev13, hF⟩ := hF
          refine x_getI (o := (some a0)) (ci := 2) (C := RX1) (T := TX1) (N := 5) hx hb hts iw_X1 hown hR rfl 4 (by decide) mm_175 (Or.inl rfl) ev13 dX1_choose_49 ?_
          refine lv_istore_n (lv' := [(2, .int v13), (0, va_rf (some a0)), (1, .int x1), (3, .int x3), (4, .int x4)]) hx hb dX1_choose_52 rfl hl (by decide) (by first | rfl | (simp [xrf_cat, xcI, xcJ, xcA]; done) | (simp [xrf_cat, xcI, xcJ, xcA]; decide)) (fun ls hl => ?_)
          refine lv_ldc hx hb hown (hts _ mm_713) dX1_choose_53 ?_
          refine lv_iload_n hx hb dX1_choose_55 rfl (lv_at hl 3 rfl) ?_
          refine lv_imul hx hb dX1_choose_56 ?_
          refine lv_sipush (v := 1000) hx hb dX1_choose_57 (by decide) ?_
          refine lv_iload hx hb dX1_choose_60 (lv_at hl 4 rfl) ?_
          refine lv_imul hx hb dX1_choose_62 ?_
          refine lv_iadd hx hb dX1_choose_63 ?_
          refine lv_bipush (v := 10) hx hb dX1_choose_64 (by decide) ?_
          refine x_aload_n (o := (some a0)) hx hb dX1_choose_66 rfl (lv_at hl 1 rfl) ?_
          replace hF := xbind hF; obtain ⟨v14, ev14, hF⟩ := hF
          refine x_getI (o := (some a0)) (ci := 2) (C := RX1) (T := TX1) (N := 5) hx hb hts iw_X1 hown hR rfl 3 (by decide) mm_174 (Or.inl rfl) ev14 dX1_choose_67 ?_
          refine lv_imul hx hb dX1_choose_70 ?_
          refine lv_iadd hx hb dX1_choose_71 ?_
          refine lv_topi (fun v15 ev15 => ?_)
          replace hF := xlet ev15 hF
          refine lv_istore_n (lv' := [(1, .int v15), (2, .int v13), (0, va_rf (some a0)), (3, .int x3), (4, .int x4)]) hx hb dX1_choose_72 rfl hl (by decide) (by first | rfl | (simp [xrf_cat, xcI, xcJ, xcA]; done) | (simp [xrf_cat, xcI, xcJ, xcA]; decide)) (fun ls hl => ?_)
          obtain ⟨v16, ev16⟩ : ∃ z : Int32, z = (x4 + 1) := ⟨_, rfl⟩
          replace hF := xlet ev16 hF
          refine lv_iinc (v := v16) (lv' := [(4, .int v16), (1, .int v15), (2, .int v13), (0, va_rf (some a0)), (3, .int x3)]) hx hb dX1_choose_73 hl (k := 4) rfl (by rw [ev16]; rfl) (by decide) (by first | rfl | (simp [xrf_cat, xcI, xcJ, xcA]; done) | (simp [xrf_cat, xcI, xcJ, xcA]; decide)) (fun ls hl => ?_)
          refine lv_goto (tgt := 17) hx hb dX1_choose_76 (by decide) ?_
          exact ih h5 v15 v13 v16 _ _ _ hF hR hS (lv_sub hl [3, 1, 2, 4, 0] rfl)
def F_X1_choose_8 (G : Nat → Nat) (a0 : Nat) : Nat → xH → Int32 → Int32 → Int32 → Option (Int32 × xH)
  | 0, _, _, _, _ => none
  | n + 1, h, x1, x2, x3 =>
    if 12 < x3 then
      some (x1, h)
    else
    F_X1_choose_17 G a0 x3 (fun h' x1' x2' x3' => F_X1_choose_8 G a0 n h' x1' x2' x3') xN h x1 x2 1
set_option maxHeartbeats 4000000 in
set_option maxRecDepth 100000 in
theorem tl_X1_choose_8 {p : Program} {l : Launch} {e : Env} {s : State} {m : MethodId} {args : Array Value} {below : List Frame} {meth : Method} {c : Code} {D : va_G} {r : Int32} {h' : xH} (hx : p.tables.exec = Jvm.exec) (hb : c.code = cX1_choose) (hr : meth.sig.returnType = (some .int)) (hlk : meth.locks = false) (hml : c.maxLocals = 5) (hown : s.vm.findClass RX1 = some m.cls) (hnm : meth.name = "choose") (hts : ∀ w ∈ xt, w.before args s = true) (G : Nat → Nat) (a0 : Nat) : ∀ (n : Nat) (h : xH) (x1 : Int32) (x2 : Int32) (x3 : Int32) (H : Heap) (locs : List Loc) (ls : Array Slot), F_X1_choose_8 G a0 n h x1 x2 x3 = some (r, h') → xR D G h s H → va_S (xA G) s.heap H locs → lv_has ls 5 [(0, va_rf (some a0)), (1, .int x1), (2, .int x2), (3, .int x3)] → W p l e rm_X1_choose s m args below meth c H locs 0 0 (MQ below (xQ D G (some (.int r)) h') args s rm_X1_choose.cells rm_X1_choose.slots (xA G)) (F0 m 8 ls []) := by
  intro n
  induction n with
  | zero =>
    intro h x1 x2 x3 H locs ls hF
    rw [F_X1_choose_8.eq_1] at hF
    cases hF
  | succ n ih =>
    intro h x1 x2 x3 H locs ls hF hR hS hl
    rw [F_X1_choose_8.eq_2] at hF
    refine lv_iload_n hx hb dX1_choose_8 rfl (lv_at hl 3 rfl) ?_
    refine lv_bipush (v := 12) hx hb dX1_choose_9 (by decide) ?_
    refine lv_icmp_gt (tgt := 85) hx hb dX1_choose_11 (by decide) (fun c1 => ?_) (fun c1 => ?_)
    · replace hF := xift c1 hF
      refine lv_iload_n hx hb dX1_choose_85 rfl (lv_at hl 1 rfl) ?_
      cases hF
      exact x_iret hx hb hr rfl hlk hR hS (by decide) (by decide) dX1_choose_86
    · replace hF := xiff c1 hF
      refine lv_iconst (v := 1) hx hb dX1_choose_14 (by decide) ?_
      refine lv_istore (lv' := [(4, .int 1), (0, va_rf (some a0)), (1, .int x1), (2, .int x2), (3, .int x3)]) hx hb dX1_choose_15 hl (by decide) (by first | rfl | (simp [xrf_cat, xcI, xcJ, xcA]; done) | (simp [xrf_cat, xcI, xcJ, xcA]; decide)) (fun ls hl => ?_)
      refine W.widen (k := 0) (n := 0) (by decide) (by decide) ?_
      exact tl_X1_choose_17 hx hb hr hlk hml hown hnm hts G a0 x3 (fun h' x1' x2' x3' => F_X1_choose_8 G a0 n h' x1' x2' x3') (fun h' x1' x2' x3' H locs ls => ih h' x1' x2' x3' H locs ls) _ h x1 x2 1 _ _ _ hF hR hS (lv_sub hl [1, 2, 3, 4, 0] rfl)
def F_X1_choose (G : Nat → Nat) (h : xH) (a0 : Nat) : Option (Int32 × xH) :=
  F_X1_choose_8 G a0 xN h (-1) 602 1
set_option maxHeartbeats 4000000 in
set_option maxRecDepth 100000 in
theorem t_X1_choose (l : Launch) (D : va_G) (G : Nat → Nat) (h : xH) (a0 : Nat) (r : Int32) (h' : xH) (hF : F_X1_choose G h a0 = some (r, h')) : xC l yX1_choose cX1_choose 5 (some .int) (rm_X1_choose) D G h [.ref a0] (some (.int r)) h' := by
  refine xC_of (by decide) (by first | decide | exact Nat.le_of_ble_eq_true rfl) ?_
  intro p e s m args below meth c ls hx hb hr hlk hml hown hnm hts hR hS hl
  have hl : lv_has ls 5 [(0, va_rf (some a0))] := hl
  unfold F_X1_choose at hF
  refine lv_iconst (v := (-1)) hx hb dX1_choose_0 (by decide) ?_
  refine lv_istore_n (lv' := [(1, .int (-1)), (0, va_rf (some a0))]) hx hb dX1_choose_1 rfl hl (by decide) (by first | rfl | (simp [xrf_cat, xcI, xcJ, xcA]; done) | (simp [xrf_cat, xcI, xcJ, xcA]; decide)) (fun ls hl => ?_)
  refine lv_sipush (v := 602) hx hb dX1_choose_2 (by decide) ?_
  refine lv_istore_n (lv' := [(2, .int 602), (1, .int (-1)), (0, va_rf (some a0))]) hx hb dX1_choose_5 rfl hl (by decide) (by first | rfl | (simp [xrf_cat, xcI, xcJ, xcA]; done) | (simp [xrf_cat, xcI, xcJ, xcA]; decide)) (fun ls hl => ?_)
  refine lv_iconst (v := 1) hx hb dX1_choose_6 (by decide) ?_
  refine lv_istore_n (lv' := [(3, .int 1), (2, .int 602), (1, .int (-1)), (0, va_rf (some a0))]) hx hb dX1_choose_7 rfl hl (by decide) (by first | rfl | (simp [xrf_cat, xcI, xcJ, xcA]; done) | (simp [xrf_cat, xcI, xcJ, xcA]; decide)) (fun ls hl => ?_)
  refine W.widen (k := 0) (n := 0) (by decide) (by decide) ?_
  exact tl_X1_choose_8 hx hb hr hlk hml hown hnm hts G a0 _ h (-1) 602 1 _ _ _ hF hR hS (lv_sub hl [3, 2, 1, 0] rfl)
def rm_X1_noteHistory : Room := { frames := 4, cells := 0, slots := 0, locals := 96 }
theorem f_X1_noteHistory : xM yX1_noteHistory cX1_noteHistory 6 none 3 := ⟨mm_674, mm_61, by decide +kernel, by decide +kernel⟩
theorem dX1_noteHistory_0 : decode cX1_noteHistory 0 = .ok (.aload_n 1, 1) := by decide +kernel
theorem dX1_noteHistory_1 : decode cX1_noteHistory 1 = .ok (.getfield 51, 3) := by decide +kernel
theorem dX1_noteHistory_4 : decode cX1_noteHistory 4 = .ok (.bipush 12, 2) := by decide +kernel
theorem dX1_noteHistory_6 : decode cX1_noteHistory 6 = .ok (.iadd, 1) := by decide +kernel
theorem dX1_noteHistory_7 : decode cX1_noteHistory 7 = .ok (.sipush 599, 3) := by decide +kernel
theorem dX1_noteHistory_10 : decode cX1_noteHistory 10 = .ok (.invokestatic 57, 3) := by decide +kernel
theorem dX1_noteHistory_13 : decode cX1_noteHistory 13 = .ok (.istore 4, 2) := by decide +kernel
theorem dX1_noteHistory_15 : decode cX1_noteHistory 15 = .ok (.aload_n 1, 1) := by decide +kernel
theorem dX1_noteHistory_16 : decode cX1_noteHistory 16 = .ok (.getfield 51, 3) := by decide +kernel
theorem dX1_noteHistory_19 : decode cX1_noteHistory 19 = .ok (.istore 5, 2) := by decide +kernel
theorem dX1_noteHistory_21 : decode cX1_noteHistory 21 = .ok (.iload 5, 2) := by decide +kernel
theorem dX1_noteHistory_23 : decode cX1_noteHistory 23 = .ok (.iload 4, 2) := by decide +kernel
theorem dX1_noteHistory_25 : decode cX1_noteHistory 25 = .ok (.if_icmp .gt 35, 3) := by decide +kernel
theorem dX1_noteHistory_28 : decode cX1_noteHistory 28 = .ok (.aload_n 1, 1) := by decide +kernel
theorem dX1_noteHistory_29 : decode cX1_noteHistory 29 = .ok (.iconst 0, 1) := by decide +kernel
theorem dX1_noteHistory_30 : decode cX1_noteHistory 30 = .ok (.iload 5, 2) := by decide +kernel
theorem dX1_noteHistory_32 : decode cX1_noteHistory 32 = .ok (.invokevirtual 63, 3) := by decide +kernel
theorem dX1_noteHistory_35 : decode cX1_noteHistory 35 = .ok (.iload_n 3, 1) := by decide +kernel
theorem dX1_noteHistory_36 : decode cX1_noteHistory 36 = .ok (.if_icmp .gt 24, 3) := by decide +kernel
theorem dX1_noteHistory_39 : decode cX1_noteHistory 39 = .ok (.aload_n 0, 1) := by decide +kernel
theorem dX1_noteHistory_40 : decode cX1_noteHistory 40 = .ok (.aload_n 1, 1) := by decide +kernel
theorem dX1_noteHistory_41 : decode cX1_noteHistory 41 = .ok (.iload_n 2, 1) := by decide +kernel
theorem dX1_noteHistory_42 : decode cX1_noteHistory 42 = .ok (.iload 5, 2) := by decide +kernel
theorem dX1_noteHistory_44 : decode cX1_noteHistory 44 = .ok (.invokevirtual 41, 3) := by decide +kernel
theorem dX1_noteHistory_47 : decode cX1_noteHistory 47 = .ok (.ifCond .eq 7, 3) := by decide +kernel
theorem dX1_noteHistory_50 : decode cX1_noteHistory 50 = .ok (.aload_n 0, 1) := by decide +kernel
theorem dX1_noteHistory_51 : decode cX1_noteHistory 51 = .ok (.invokevirtual 66, 3) := by decide +kernel
theorem dX1_noteHistory_54 : decode cX1_noteHistory 54 = .ok (.iinc 5 1, 3) := by decide +kernel
theorem dX1_noteHistory_57 : decode cX1_noteHistory 57 = .ok (.goto (-36), 3) := by decide +kernel
theorem dX1_noteHistory_60 : decode cX1_noteHistory 60 = .ok (.return_, 1) := by decide +kernel
def F_X1_noteHistory_21 (G : Nat → Nat) (a0 : Nat) (a1 : Nat) (x2 : Int32) (x3 : Int32) (x4 : Int32) : Nat → xH → Int32 → Option xH
  | 0, _, _ => none
  | n + 1, h, x5 =>
    if x4 < x5 then
      some h
    else
    (xc h (some a1) 9).bind fun b6 =>
    (F_X9_badIn G h b6 0 x5).bind fun v5 =>
    if x3 < v5 then
      some h
    else
    (xc h (some a0) 2).bind fun b10 =>
    (F_X1_measure G h b10 a1 x2 x5).bind fun (v8, h9) =>
    if v8 = 0 then
      xl (x5 + 1) fun v12 =>
      F_X1_noteHistory_21 G a0 a1 x2 x3 x4 n h9 v12
    else
    (xc h9 (some a0) 2).bind fun b14 =>
    (F_X1_noteReached G h9 b14).bind fun h13 =>
    xl (x5 + 1) fun v15 =>
    F_X1_noteHistory_21 G a0 a1 x2 x3 x4 n h13 v15
set_option maxHeartbeats 4000000 in
set_option maxRecDepth 100000 in
theorem tl_X1_noteHistory_21 {p : Program} {l : Launch} {e : Env} {s : State} {m : MethodId} {args : Array Value} {below : List Frame} {meth : Method} {c : Code} {D : va_G} {h' : xH} (hx : p.tables.exec = Jvm.exec) (hb : c.code = cX1_noteHistory) (hr : meth.sig.returnType = none) (hlk : meth.locks = false) (hml : c.maxLocals = 6) (hown : s.vm.findClass RX1 = some m.cls) (hnm : meth.name = "noteHistory") (hts : ∀ w ∈ xt, w.before args s = true) (G : Nat → Nat) (a0 : Nat) (a1 : Nat) (x2 : Int32) (x3 : Int32) (x4 : Int32) : ∀ (n : Nat) (h : xH) (x5 : Int32) (H : Heap) (locs : List Loc) (ls : Array Slot), F_X1_noteHistory_21 G a0 a1 x2 x3 x4 n h x5 = some h' → xR D G h s H → va_S (xA G) s.heap H locs → lv_has ls 6 [(0, va_rf (some a0)), (1, va_rf (some a1)), (2, .int x2), (3, .int x3), (4, .int x4), (5, .int x5)] → W p l e rm_X1_noteHistory s m args below meth c H locs 0 0 (MQ below (xQ D G none h') args s rm_X1_noteHistory.cells rm_X1_noteHistory.slots (xA G)) (F0 m 21 ls []) := by
  intro n
  induction n with
  | zero =>
    intro h x5 H locs ls hF
    rw [F_X1_noteHistory_21.eq_1] at hF
    cases hF
  | succ n ih =>
    intro h x5 H locs ls hF hR hS hl
    rw [F_X1_noteHistory_21.eq_2] at hF
    refine lv_iload hx hb dX1_noteHistory_21 (lv_at hl 5 rfl) ?_
    refine lv_iload hx hb dX1_noteHistory_23 (lv_at hl 4 rfl) ?_
    refine lv_icmp_gt (tgt := 60) hx hb dX1_noteHistory_25 (by decide) (fun c4 => ?_) (fun c4 => ?_)
    · replace hF := xift c4 hF
      cases hF
      exact x_vret hx hb hr hlk hR hS (by decide) (by decide) dX1_noteHistory_60
    · replace hF := xiff c4 hF
      refine x_aload_n (o := (some a1)) hx hb dX1_noteHistory_28 rfl (lv_at hl 1 rfl) ?_
      refine lv_iconst (v := 0) hx hb dX1_noteHistory_29 (by decide) ?_
      refine lv_iload hx hb dX1_noteHistory_30 (lv_at hl 5 rfl) ?_
      replace hF := xbind hF; obtain ⟨b6, eb6, hF⟩ := hF
      replace hF := xbind hF; obtain ⟨v5, ev5, hF⟩ := hF
      refine x_callV (o := (some a1)) (ci := 9) (As := [.int 0, .int x5]) (rest := []) (v := (some (.int v5))) (k := 2) hx hb hml hown hts hR hS eb6 rfl rfl (t_X9_badIn l D G h b6 0 x5 v5 ev5) f_X9_badIn mm_676 mm_632 mm_1256 rfl hl.1 rfl (by first | exact Nat.le_of_ble_eq_true rfl | simp [xrf_cat, xcI, xcJ, xcA]) dX1_noteHistory_32 (by decide) (by decide) rfl (fun H locs hR hS => ?_)
      refine lv_iload_n hx hb dX1_noteHistory_35 rfl (lv_at hl 3 rfl) ?_
      refine lv_icmp_gt (tgt := 60) hx hb dX1_noteHistory_36 (by decide) (fun c7 => ?_) (fun c7 => ?_)
      · replace hF := xift c7 hF
        cases hF
        exact x_vret hx hb hr hlk hR hS (by decide) (by decide) dX1_noteHistory_60
      · replace hF := xiff c7 hF
        refine x_aload_n (o := (some a0)) hx hb dX1_noteHistory_39 rfl (lv_at hl 0 rfl) ?_
        refine x_aload_n (o := (some a1)) hx hb dX1_noteHistory_40 rfl (lv_at hl 1 rfl) ?_
        refine lv_iload_n hx hb dX1_noteHistory_41 rfl (lv_at hl 2 rfl) ?_
        refine lv_iload hx hb dX1_noteHistory_42 (lv_at hl 5 rfl) ?_
        replace hF := xbind hF; obtain ⟨b10, eb10, hF⟩ := hF
        replace hF := xbind hF; obtain ⟨⟨v8, h9⟩, ev8, hF⟩ := hF
        refine x_callV (o := (some a0)) (ci := 2) (As := [.ref a1, .int x2, .int x5]) (rest := []) (v := (some (.int v8))) (k := 3) hx hb hml hown hts hR hS eb10 rfl rfl (t_X1_measure l D G h b10 a1 x2 x5 v8 h9 ev8) f_X1_measure mm_677 mm_679 mm_18 rfl hl.1 rfl (by first | exact Nat.le_of_ble_eq_true rfl | simp [xrf_cat, xcI, xcJ, xcA]) dX1_noteHistory_44 (by decide) (by decide) rfl (fun H locs hR hS => ?_)
        refine lv_if_eq (tgt := 54) hx hb dX1_noteHistory_47 (by decide) (fun c11 => ?_) (fun c11 => ?_)
        · replace hF := xift c11 hF
          obtain ⟨v12, ev12⟩ : ∃ z : Int32, z = (x5 + 1) := ⟨_, rfl⟩
          replace hF := xlet ev12 hF
          refine lv_iinc (v := v12) (lv' := [(5, .int v12), (0, va_rf (some a0)), (1, va_rf (some a1)), (2, .int x2), (3, .int x3), (4, .int x4)]) hx hb dX1_noteHistory_54 hl (k := 5) rfl (by rw [ev12]; rfl) (by decide) (by first | rfl | (simp [xrf_cat, xcI, xcJ, xcA]; done) | (simp [xrf_cat, xcI, xcJ, xcA]; decide)) (fun ls hl => ?_)
          refine lv_goto (tgt := 21) hx hb dX1_noteHistory_57 (by decide) ?_
          exact ih h9 v12 _ _ _ hF hR hS (lv_sub hl [1, 2, 3, 4, 5, 0] rfl)
        · replace hF := xiff c11 hF
          refine x_aload_n (o := (some a0)) hx hb dX1_noteHistory_50 rfl (lv_at hl 0 rfl) ?_
          replace hF := xbind hF; obtain ⟨b14, eb14, hF⟩ := hF
          replace hF := xbind hF; obtain ⟨h13, eh13, hF⟩ := hF
          refine x_callV (o := (some a0)) (ci := 2) (As := []) (rest := []) (v := none) (k := 0) hx hb hml hown hts hR hS eb14 rfl rfl (t_X1_noteReached l D G h9 b14 h13 eh13) f_X1_noteReached mm_693 mm_695 mm_19 rfl hl.1 rfl (by first | exact Nat.le_of_ble_eq_true rfl | simp [xrf_cat, xcI, xcJ, xcA]) dX1_noteHistory_51 (by decide) (by decide) rfl (fun H locs hR hS => ?_)
          obtain ⟨v15, ev15⟩ : ∃ z : Int32, z = (x5 + 1) := ⟨_, rfl⟩
          replace hF := xlet ev15 hF
          refine lv_iinc (v := v15) (lv' := [(5, .int v15), (0, va_rf (some a0)), (1, va_rf (some a1)), (2, .int x2), (3, .int x3), (4, .int x4)]) hx hb dX1_noteHistory_54 hl (k := 5) rfl (by rw [ev15]; rfl) (by decide) (by first | rfl | (simp [xrf_cat, xcI, xcJ, xcA]; done) | (simp [xrf_cat, xcI, xcJ, xcA]; decide)) (fun ls hl => ?_)
          refine lv_goto (tgt := 21) hx hb dX1_noteHistory_57 (by decide) ?_
          exact ih h13 v15 _ _ _ hF hR hS (lv_sub hl [1, 2, 3, 4, 5, 0] rfl)
def F_X1_noteHistory (G : Nat → Nat) (h : xH) (a0 : Nat) (a1 : Nat) (x2 : Int32) (x3 : Int32) : Option xH :=
  (gI h (some a1) 9 0).bind fun v1 =>
  xl (xmin (v1 + 12) 599) fun v2 =>
  (gI h (some a1) 9 0).bind fun v3 =>
  F_X1_noteHistory_21 G a0 a1 x2 x3 v2 xN h v3
set_option maxHeartbeats 4000000 in
set_option maxRecDepth 100000 in
theorem t_X1_noteHistory (l : Launch) (D : va_G) (G : Nat → Nat) (h : xH) (a0 : Nat) (a1 : Nat) (x2 : Int32) (x3 : Int32) (h' : xH) (hF : F_X1_noteHistory G h a0 a1 x2 x3 = some h') : xC l yX1_noteHistory cX1_noteHistory 6 none (rm_X1_noteHistory) D G h [.ref a0, .ref a1, .int x2, .int x3] none h' := by
  refine xC_of (by decide) (by first | decide | exact Nat.le_of_ble_eq_true rfl) ?_
  intro p e s m args below meth c ls hx hb hr hlk hml hown hnm hts hR hS hl
  have hl : lv_has ls 6 [(0, va_rf (some a0)), (1, va_rf (some a1)), (2, .int x2), (3, .int x3)] := hl
  unfold F_X1_noteHistory at hF
  refine x_aload_n (o := (some a1)) hx hb dX1_noteHistory_0 rfl (lv_at hl 1 rfl) ?_
  replace hF := xbind hF; obtain ⟨v1, ev1, hF⟩ := hF
  refine x_getI (o := (some a1)) (ci := 9) (C := RX9) (T := TX9) (N := 2) hx hb hts iw_X9 hown hR rfl 0 (by decide) mm_651 (Or.inl rfl) ev1 dX1_noteHistory_1 ?_
  refine lv_bipush (v := 12) hx hb dX1_noteHistory_4 (by decide) ?_
  refine lv_iadd hx hb dX1_noteHistory_6 ?_
  refine lv_sipush (v := 599) hx hb dX1_noteHistory_7 (by decide) ?_
  refine x_min hx hb (hml.trans hl.1.symm) hown hts mm_675 mm_313 mm_65 mm_314 (by decide) (by first | exact Nat.le_of_ble_eq_true rfl | simp [xrf_cat, xcI, xcJ, xcA]) (by decide) (by decide) dX1_noteHistory_10 ?_
  refine lv_topi (fun v2 ev2 => ?_)
  replace hF := xlet ev2 hF
  refine lv_istore (lv' := [(4, .int v2), (0, va_rf (some a0)), (1, va_rf (some a1)), (2, .int x2), (3, .int x3)]) hx hb dX1_noteHistory_13 hl (by decide) (by first | rfl | (simp [xrf_cat, xcI, xcJ, xcA]; done) | (simp [xrf_cat, xcI, xcJ, xcA]; decide)) (fun ls hl => ?_)
  refine x_aload_n (o := (some a1)) hx hb dX1_noteHistory_15 rfl (lv_at hl 2 rfl) ?_
  replace hF := xbind hF; obtain ⟨v3, ev3, hF⟩ := hF
  refine x_getI (o := (some a1)) (ci := 9) (C := RX9) (T := TX9) (N := 2) hx hb hts iw_X9 hown hR rfl 0 (by decide) mm_651 (Or.inl rfl) ev3 dX1_noteHistory_16 ?_
  refine lv_istore (lv' := [(5, .int v3), (4, .int v2), (0, va_rf (some a0)), (1, va_rf (some a1)), (2, .int x2), (3, .int x3)]) hx hb dX1_noteHistory_19 hl (by decide) (by first | rfl | (simp [xrf_cat, xcI, xcJ, xcA]; done) | (simp [xrf_cat, xcI, xcJ, xcA]; decide)) (fun ls hl => ?_)
  refine W.widen (k := 0) (n := 0) (by decide) (by decide) ?_
  exact tl_X1_noteHistory_21 hx hb hr hlk hml hown hnm hts G a0 a1 x2 x3 v2 _ h v3 _ _ _ hF hR hS (lv_sub hl [2, 3, 4, 5, 1, 0] rfl)
def rm_X1_find : Room := { frames := 5, cells := 0, slots := 0, locals := 121 }
theorem f_X1_find : xM yX1_find cX1_find 6 (some .int) 4 := ⟨mm_666, mm_61, by decide +kernel, by decide +kernel⟩
theorem dX1_find_0 : decode cX1_find 0 = .ok (.aload_n 0, 1) := by decide +kernel
theorem dX1_find_1 : decode cX1_find 1 = .ok (.getfield 15, 3) := by decide +kernel
theorem dX1_find_4 : decode cX1_find 4 = .ok (.iconst 0, 1) := by decide +kernel
theorem dX1_find_5 : decode cX1_find 5 = .ok (.invokestatic 21, 3) := by decide +kernel
theorem dX1_find_8 : decode cX1_find 8 = .ok (.aload_n 0, 1) := by decide +kernel
theorem dX1_find_9 : decode cX1_find 9 = .ok (.getfield 18, 3) := by decide +kernel
theorem dX1_find_12 : decode cX1_find 12 = .ok (.iconst 0, 1) := by decide +kernel
theorem dX1_find_13 : decode cX1_find 13 = .ok (.invokestatic 21, 3) := by decide +kernel
theorem dX1_find_16 : decode cX1_find 16 = .ok (.aload_n 0, 1) := by decide +kernel
theorem dX1_find_17 : decode cX1_find 17 = .ok (.aload_n 2, 1) := by decide +kernel
theorem dX1_find_18 : decode cX1_find 18 = .ok (.aload_n 1, 1) := by decide +kernel
theorem dX1_find_19 : decode cX1_find 19 = .ok (.invokevirtual 27, 3) := by decide +kernel
theorem dX1_find_22 : decode cX1_find 22 = .ok (.iload_n 3, 1) := by decide +kernel
theorem dX1_find_23 : decode cX1_find 23 = .ok (.invokevirtual 33, 3) := by decide +kernel
theorem dX1_find_26 : decode cX1_find 26 = .ok (.iconst 0, 1) := by decide +kernel
theorem dX1_find_27 : decode cX1_find 27 = .ok (.istore 5, 2) := by decide +kernel
theorem dX1_find_29 : decode cX1_find 29 = .ok (.iload 5, 2) := by decide +kernel
theorem dX1_find_31 : decode cX1_find 31 = .ok (.iload 4, 2) := by decide +kernel
theorem dX1_find_33 : decode cX1_find 33 = .ok (.if_icmp .gt 30, 3) := by decide +kernel
theorem dX1_find_36 : decode cX1_find 36 = .ok (.aload_n 0, 1) := by decide +kernel
theorem dX1_find_37 : decode cX1_find 37 = .ok (.aload_n 1, 1) := by decide +kernel
theorem dX1_find_38 : decode cX1_find 38 = .ok (.getfield 37, 3) := by decide +kernel
theorem dX1_find_41 : decode cX1_find 41 = .ok (.aload_n 1, 1) := by decide +kernel
theorem dX1_find_42 : decode cX1_find 42 = .ok (.invokevirtual 27, 3) := by decide +kernel
theorem dX1_find_45 : decode cX1_find 45 = .ok (.iload 5, 2) := by decide +kernel
theorem dX1_find_47 : decode cX1_find 47 = .ok (.invokevirtual 41, 3) := by decide +kernel
theorem dX1_find_50 : decode cX1_find 50 = .ok (.ifCond .eq 7, 3) := by decide +kernel
theorem dX1_find_53 : decode cX1_find 53 = .ok (.aload_n 0, 1) := by decide +kernel
theorem dX1_find_54 : decode cX1_find 54 = .ok (.invokevirtual 45, 3) := by decide +kernel
theorem dX1_find_57 : decode cX1_find 57 = .ok (.iinc 5 1, 3) := by decide +kernel
theorem dX1_find_60 : decode cX1_find 60 = .ok (.goto (-31), 3) := by decide +kernel
theorem dX1_find_63 : decode cX1_find 63 = .ok (.aload_n 0, 1) := by decide +kernel
theorem dX1_find_64 : decode cX1_find 64 = .ok (.invokevirtual 48, 3) := by decide +kernel
theorem dX1_find_67 : decode cX1_find 67 = .ok (.ireturn, 1) := by decide +kernel
def F_X1_find_29 (G : Nat → Nat) (a0 : Nat) (a1 : Nat) (x4 : Int32) : Nat → xH → Int32 → Option (Int32 × xH)
  | 0, _, _ => none
  | n + 1, h, x5 =>
    if x4 < x5 then
      (xc h (some a0) 2).bind fun b14 =>
      (F_X1_choose G h b14).bind fun (v12, h13) =>
      some (v12, h13)
    else
    (gR h (some a1) 6 0).bind fun w15 =>
    (xc h (some a1) 6).bind fun b17 =>
    (F_X6_slack G h b17).bind fun v16 =>
    w15.bind fun b18 =>
    (xc h (some a0) 2).bind fun b21 =>
    (F_X1_measure G h b21 b18 v16 x5).bind fun (v19, h20) =>
    if v19 = 0 then
      xl (x5 + 1) fun v23 =>
      F_X1_find_29 G a0 a1 x4 n h20 v23
    else
    (xc h20 (some a0) 2).bind fun b25 =>
    (F_X1_noteRings G h20 b25).bind fun h24 =>
    xl (x5 + 1) fun v26 =>
    F_X1_find_29 G a0 a1 x4 n h24 v26
set_option maxHeartbeats 4000000 in
set_option maxRecDepth 100000 in
theorem tl_X1_find_29 {p : Program} {l : Launch} {e : Env} {s : State} {m : MethodId} {args : Array Value} {below : List Frame} {meth : Method} {c : Code} {D : va_G} {r : Int32} {h' : xH} (hx : p.tables.exec = Jvm.exec) (hb : c.code = cX1_find) (hr : meth.sig.returnType = (some .int)) (hlk : meth.locks = false) (hml : c.maxLocals = 6) (hown : s.vm.findClass RX1 = some m.cls) (hnm : meth.name = "find") (hts : ∀ w ∈ xt, w.before args s = true) (G : Nat → Nat) (a0 : Nat) (a1 : Nat) (x4 : Int32) : ∀ (n : Nat) (h : xH) (x5 : Int32) (H : Heap) (locs : List Loc) (ls : Array Slot), F_X1_find_29 G a0 a1 x4 n h x5 = some (r, h') → xR D G h s H → va_S (xA G) s.heap H locs → lv_has ls 6 [(0, va_rf (some a0)), (1, va_rf (some a1)), (4, .int x4), (5, .int x5)] → W p l e rm_X1_find s m args below meth c H locs 0 0 (MQ below (xQ D G (some (.int r)) h') args s rm_X1_find.cells rm_X1_find.slots (xA G)) (F0 m 29 ls []) := by
  intro n
  induction n with
  | zero =>
    intro h x5 H locs ls hF
    rw [F_X1_find_29.eq_1] at hF
    cases hF
  | succ n ih =>
    intro h x5 H locs ls hF hR hS hl
    rw [F_X1_find_29.eq_2] at hF
    refine lv_iload hx hb dX1_find_29 (lv_at hl 3 rfl) ?_
    refine lv_iload hx hb dX1_find_31 (lv_at hl 2 rfl) ?_
    refine lv_icmp_gt (tgt := 63) hx hb dX1_find_33 (by decide) (fun c11 => ?_) (fun c11 => ?_)
    · replace hF := xift c11 hF
      refine x_aload_n (o := (some a0)) hx hb dX1_find_63 rfl (lv_at hl 0 rfl) ?_
      replace hF := xbind hF; obtain ⟨b14, eb14, hF⟩ := hF
      replace hF := xbind hF; obtain ⟨⟨v12, h13⟩, ev12, hF⟩ := hF
      refine x_callV (o := (some a0)) (ci := 2) (As := []) (rest := []) (v := (some (.int v12))) (k := 0) hx hb hml hown hts hR hS eb14 rfl rfl (t_X1_choose l D G h b14 v12 h13 ev12) f_X1_choose mm_705 mm_707 mm_21 rfl hl.1 rfl (by first | exact Nat.le_of_ble_eq_true rfl | simp [xrf_cat, xcI, xcJ, xcA]) dX1_find_64 (by decide) (by decide) rfl (fun H locs hR hS => ?_)
      cases hF
      exact x_iret hx hb hr rfl hlk hR hS (by decide) (by decide) dX1_find_67
    · replace hF := xiff c11 hF
      refine x_aload_n (o := (some a0)) hx hb dX1_find_36 rfl (lv_at hl 0 rfl) ?_
      refine x_aload_n (o := (some a1)) hx hb dX1_find_37 rfl (lv_at hl 1 rfl) ?_
      replace hF := xbind hF; obtain ⟨w15, ew15, hF⟩ := hF
      refine x_getR (o := (some a1)) (ci := 6) (C := RX6) (T := TX6) (N := 6) hx hb hts iw_X6 hown hR rfl 0 (by decide) mm_413 (Or.inl rfl) ew15 dX1_find_38 ?_
      refine x_aload_n (o := (some a1)) hx hb dX1_find_41 rfl (lv_at hl 1 rfl) ?_
      replace hF := xbind hF; obtain ⟨b17, eb17, hF⟩ := hF
      replace hF := xbind hF; obtain ⟨v16, ev16, hF⟩ := hF
      refine x_callV (o := (some a1)) (ci := 6) (As := []) (rest := [va_rf w15, va_rf (some a0)]) (v := (some (.int v16))) (k := 0) hx hb hml hown hts hR hS eb17 rfl rfl (t_X6_slack l D G h b17 v16 ev16) f_X6_slack mm_670 mm_521 mm_522 rfl hl.1 rfl (by first | exact Nat.le_of_ble_eq_true rfl | simp [xrf_cat, xcI, xcJ, xcA]) dX1_find_42 (by decide) (by decide) rfl (fun H locs hR hS => ?_)
      refine lv_iload hx hb dX1_find_45 (lv_at hl 3 rfl) ?_
      replace hF := xbind hF; obtain ⟨b18, eb18, hF⟩ := hF
      subst eb18
      replace hF := xbind hF; obtain ⟨b21, eb21, hF⟩ := hF
      replace hF := xbind hF; obtain ⟨⟨v19, h20⟩, ev19, hF⟩ := hF
      refine x_callV (o := (some a0)) (ci := 2) (As := [.ref b18, .int v16, .int x5]) (rest := []) (v := (some (.int v19))) (k := 3) hx hb hml hown hts hR hS eb21 rfl rfl (t_X1_measure l D G h b21 b18 v16 x5 v19 h20 ev19) f_X1_measure mm_677 mm_679 mm_18 rfl hl.1 rfl (by first | exact Nat.le_of_ble_eq_true rfl | simp [xrf_cat, xcI, xcJ, xcA]) dX1_find_47 (by decide) (by decide) rfl (fun H locs hR hS => ?_)
      refine lv_if_eq (tgt := 57) hx hb dX1_find_50 (by decide) (fun c22 => ?_) (fun c22 => ?_)
      · replace hF := xift c22 hF
        obtain ⟨v23, ev23⟩ : ∃ z : Int32, z = (x5 + 1) := ⟨_, rfl⟩
        replace hF := xlet ev23 hF
        refine lv_iinc (v := v23) (lv' := [(5, .int v23), (0, va_rf (some a0)), (1, va_rf (some a1)), (4, .int x4)]) hx hb dX1_find_57 hl (k := 3) rfl (by rw [ev23]; rfl) (by decide) (by first | rfl | (simp [xrf_cat, xcI, xcJ, xcA]; done) | (simp [xrf_cat, xcI, xcJ, xcA]; decide)) (fun ls hl => ?_)
        refine lv_goto (tgt := 29) hx hb dX1_find_60 (by decide) ?_
        exact ih h20 v23 _ _ _ hF hR hS (lv_sub hl [1, 2, 3, 0] rfl)
      · replace hF := xiff c22 hF
        refine x_aload_n (o := (some a0)) hx hb dX1_find_53 rfl (lv_at hl 0 rfl) ?_
        replace hF := xbind hF; obtain ⟨b25, eb25, hF⟩ := hF
        replace hF := xbind hF; obtain ⟨h24, eh24, hF⟩ := hF
        refine x_callV (o := (some a0)) (ci := 2) (As := []) (rest := []) (v := none) (k := 0) hx hb hml hown hts hR hS eb25 rfl rfl (t_X1_noteRings l D G h20 b25 h24 eh24) f_X1_noteRings mm_701 mm_703 mm_20 rfl hl.1 rfl (by first | exact Nat.le_of_ble_eq_true rfl | simp [xrf_cat, xcI, xcJ, xcA]) dX1_find_54 (by decide) (by decide) rfl (fun H locs hR hS => ?_)
        obtain ⟨v26, ev26⟩ : ∃ z : Int32, z = (x5 + 1) := ⟨_, rfl⟩
        replace hF := xlet ev26 hF
        refine lv_iinc (v := v26) (lv' := [(5, .int v26), (0, va_rf (some a0)), (1, va_rf (some a1)), (4, .int x4)]) hx hb dX1_find_57 hl (k := 3) rfl (by rw [ev26]; rfl) (by decide) (by first | rfl | (simp [xrf_cat, xcI, xcJ, xcA]; done) | (simp [xrf_cat, xcI, xcJ, xcA]; decide)) (fun ls hl => ?_)
        refine lv_goto (tgt := 29) hx hb dX1_find_60 (by decide) ?_
        exact ih h24 v26 _ _ _ hF hR hS (lv_sub hl [1, 2, 3, 0] rfl)
def F_X1_find (G : Nat → Nat) (h : xH) (a0 : Nat) (a1 : Nat) (a2 : Nat) (x3 : Int32) (x4 : Int32) : Option (Int32 × xH) :=
  (gR h (some a0) 2 1).bind fun w1 =>
  w1.bind fun b2 =>
  (F_J7_fill_53178 G h b2 0).bind fun h3 =>
  (gR h3 (some a0) 2 2).bind fun w4 =>
  w4.bind fun b5 =>
  (F_J7_fill_53178 G h3 b5 0).bind fun h6 =>
  (xc h6 (some a1) 6).bind fun b8 =>
  (F_X6_slack G h6 b8).bind fun v7 =>
  (xc h6 (some a0) 2).bind fun b10 =>
  (F_X1_noteHistory G h6 b10 a2 v7 x3).bind fun h9 =>
  F_X1_find_29 G a0 a1 x4 xN h9 0
set_option maxHeartbeats 4000000 in
set_option maxRecDepth 100000 in
theorem t_X1_find (l : Launch) (D : va_G) (G : Nat → Nat) (h : xH) (a0 : Nat) (a1 : Nat) (a2 : Nat) (x3 : Int32) (x4 : Int32) (r : Int32) (h' : xH) (hF : F_X1_find G h a0 a1 a2 x3 x4 = some (r, h')) : xC l yX1_find cX1_find 6 (some .int) (rm_X1_find) D G h [.ref a0, .ref a1, .ref a2, .int x3, .int x4] (some (.int r)) h' := by
  refine xC_of (by decide) (by first | decide | exact Nat.le_of_ble_eq_true rfl) ?_
  intro p e s m args below meth c ls hx hb hr hlk hml hown hnm hts hR hS hl
  have hl : lv_has ls 6 [(0, va_rf (some a0)), (1, va_rf (some a1)), (2, va_rf (some a2)), (3, .int x3), (4, .int x4)] := hl
  unfold F_X1_find at hF
  refine x_aload_n (o := (some a0)) hx hb dX1_find_0 rfl (lv_at hl 0 rfl) ?_
  replace hF := xbind hF; obtain ⟨w1, ew1, hF⟩ := hF
  refine x_getR (o := (some a0)) (ci := 2) (C := RX1) (T := TX1) (N := 5) hx hb hts iw_X1 hown hR rfl 1 (by decide) mm_172 (Or.inl rfl) ew1 dX1_find_1 ?_
  refine lv_iconst (v := 0) hx hb dX1_find_4 (by decide) ?_
  replace hF := xbind hF; obtain ⟨b2, eb2, hF⟩ := hF
  subst eb2
  replace hF := xbind hF; obtain ⟨h3, eh3, hF⟩ := hF
  refine x_callS (As := [.ref b2, .int 0]) (rest := []) (v := none) (k := 2) hx hb hml hown hts hR hS (t_J7_fill_53178 l D G h b2 0 h3 eh3) f_J7_fill_53178 mm_667 mm_668 rfl hl.1 rfl (by first | exact Nat.le_of_ble_eq_true rfl | simp [xrf_cat, xcI, xcJ, xcA]) dX1_find_5 (by decide) (by decide) rfl (fun H locs hR hS => ?_)
  refine x_aload_n (o := (some a0)) hx hb dX1_find_8 rfl (lv_at hl 0 rfl) ?_
  replace hF := xbind hF; obtain ⟨w4, ew4, hF⟩ := hF
  refine x_getR (o := (some a0)) (ci := 2) (C := RX1) (T := TX1) (N := 5) hx hb hts iw_X1 hown hR rfl 2 (by decide) mm_173 (Or.inl rfl) ew4 dX1_find_9 ?_
  refine lv_iconst (v := 0) hx hb dX1_find_12 (by decide) ?_
  replace hF := xbind hF; obtain ⟨b5, eb5, hF⟩ := hF
  subst eb5
  replace hF := xbind hF; obtain ⟨h6, eh6, hF⟩ := hF
  refine x_callS (As := [.ref b5, .int 0]) (rest := []) (v := none) (k := 2) hx hb hml hown hts hR hS (t_J7_fill_53178 l D G h3 b5 0 h6 eh6) f_J7_fill_53178 mm_667 mm_668 rfl hl.1 rfl (by first | exact Nat.le_of_ble_eq_true rfl | simp [xrf_cat, xcI, xcJ, xcA]) dX1_find_13 (by decide) (by decide) rfl (fun H locs hR hS => ?_)
  refine x_aload_n (o := (some a0)) hx hb dX1_find_16 rfl (lv_at hl 0 rfl) ?_
  refine x_aload_n (o := (some a2)) hx hb dX1_find_17 rfl (lv_at hl 2 rfl) ?_
  refine x_aload_n (o := (some a1)) hx hb dX1_find_18 rfl (lv_at hl 1 rfl) ?_
  replace hF := xbind hF; obtain ⟨b8, eb8, hF⟩ := hF
  replace hF := xbind hF; obtain ⟨v7, ev7, hF⟩ := hF
  refine x_callV (o := (some a1)) (ci := 6) (As := []) (rest := [va_rf (some a2), va_rf (some a0)]) (v := (some (.int v7))) (k := 0) hx hb hml hown hts hR hS eb8 rfl rfl (t_X6_slack l D G h6 b8 v7 ev7) f_X6_slack mm_670 mm_521 mm_522 rfl hl.1 rfl (by first | exact Nat.le_of_ble_eq_true rfl | simp [xrf_cat, xcI, xcJ, xcA]) dX1_find_19 (by decide) (by decide) rfl (fun H locs hR hS => ?_)
  refine lv_iload_n hx hb dX1_find_22 rfl (lv_at hl 3 rfl) ?_
  replace hF := xbind hF; obtain ⟨b10, eb10, hF⟩ := hF
  replace hF := xbind hF; obtain ⟨h9, eh9, hF⟩ := hF
  refine x_callV (o := (some a0)) (ci := 2) (As := [.ref a2, .int v7, .int x3]) (rest := []) (v := none) (k := 3) hx hb hml hown hts hR hS eb10 rfl rfl (t_X1_noteHistory l D G h6 b10 a2 v7 x3 h9 eh9) f_X1_noteHistory mm_671 mm_673 mm_17 rfl hl.1 rfl (by first | exact Nat.le_of_ble_eq_true rfl | simp [xrf_cat, xcI, xcJ, xcA]) dX1_find_23 (by decide) (by decide) rfl (fun H locs hR hS => ?_)
  refine lv_iconst (v := 0) hx hb dX1_find_26 (by decide) ?_
  refine lv_istore (lv' := [(5, .int 0), (0, va_rf (some a0)), (1, va_rf (some a1)), (2, va_rf (some a2)), (3, .int x3), (4, .int x4)]) hx hb dX1_find_27 hl (by decide) (by first | rfl | (simp [xrf_cat, xcI, xcJ, xcA]; done) | (simp [xrf_cat, xcI, xcJ, xcA]; decide)) (fun ls hl => ?_)
  refine W.widen (k := 0) (n := 0) (by decide) (by decide) ?_
  exact tl_X1_find_29 hx hb hr hlk hml hown hnm hts G a0 a1 x4 _ h9 0 _ _ _ hF hR hS (lv_sub hl [1, 2, 5, 0] rfl)
