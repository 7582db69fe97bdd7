def rm_X9_init : Room := { frames := 1, cells := 0, slots := 0, locals := 20 }
theorem f_X9_init : xM yX9_init cX9_init 3 none 2 := ⟨mm_648, mm_77, by decide +kernel, by decide +kernel⟩
theorem dX9_init_0 : decode cX9_init 0 = .ok (.aload_n 0, 1) := by decide +kernel
theorem dX9_init_1 : decode cX9_init 1 = .ok (.invokespecial 3, 3) := by decide +kernel
theorem dX9_init_4 : decode cX9_init 4 = .ok (.aload_n 0, 1) := by decide +kernel
theorem dX9_init_5 : decode cX9_init 5 = .ok (.iload_n 1, 1) := by decide +kernel
theorem dX9_init_6 : decode cX9_init 6 = .ok (.putfield 9, 3) := by decide +kernel
theorem dX9_init_9 : decode cX9_init 9 = .ok (.aload_n 0, 1) := by decide +kernel
theorem dX9_init_10 : decode cX9_init 10 = .ok (.iload_n 2, 1) := by decide +kernel
theorem dX9_init_11 : decode cX9_init 11 = .ok (.putfield 15, 3) := by decide +kernel
theorem dX9_init_14 : decode cX9_init 14 = .ok (.return_, 1) := by decide +kernel
def F_X9_init (G : Nat → Nat) (h : xH) (a0 : Nat) (x1 : Int32) (x2 : Int32) : Option xH :=
  (xp G h (some a0) 9 0 (.int x1)).bind fun h1 =>
  (xp G h1 (some a0) 9 1 (.int x2)).bind fun h2 =>
  some h2
set_option maxHeartbeats 4000000 in
set_option maxRecDepth 100000 in
theorem t_X9_init (l : Launch) (D : va_G) (G : Nat → Nat) (h : xH) (a0 : Nat) (x1 : Int32) (x2 : Int32) (h' : xH) (hF : F_X9_init G h a0 x1 x2 = some h') : xC l yX9_init cX9_init 3 none (rm_X9_init) D G h [.ref a0, .int x1, .int x2] none h' := by
  refine xC_of (by decide) (by first | decide | exact Nat.le_of_ble_eq_true rfl) ?_
  intro p e s m args below meth c ls hx hb hr hlk hml hown hnm hts hR hS hl
  have hl : lv_has ls 3 [(0, va_rf (some a0)), (1, .int x1), (2, .int x2)] := hl
  unfold F_X9_init at hF
  refine x_aload_n (o := (some a0)) hx hb dX9_init_0 rfl (lv_at hl 0 rfl) ?_
  refine x_oinit (o := (some a0)) hx hb hown (hml.trans hl.1.symm) hts mm_649 mm_86 mm_87 rfl dX9_init_1 (by decide) (by decide) (by decide) ?_
  refine x_aload_n (o := (some a0)) hx hb dX9_init_4 rfl (lv_at hl 0 rfl) ?_
  refine lv_iload_n hx hb dX9_init_5 rfl (lv_at hl 1 rfl) ?_
  replace hF := xbind hF; obtain ⟨h1, eh1, hF⟩ := hF
  refine x_putF (o := (some a0)) (ci := 9) (C := RX9) (T := TX9) (N := 2) hx hb hts iw_X9 tyX9_ok nmX9 hown hR hS rfl 0 (by decide) mm_650 (Or.inl rfl) rfl hnm rfl rfl rfl eh1 dX9_init_6 (fun H locs hR hS => ?_)
  refine x_aload_n (o := (some a0)) hx hb dX9_init_9 rfl (lv_at hl 0 rfl) ?_
  refine lv_iload_n hx hb dX9_init_10 rfl (lv_at hl 2 rfl) ?_
  replace hF := xbind hF; obtain ⟨h2, eh2, hF⟩ := hF
  refine x_putF (o := (some a0)) (ci := 9) (C := RX9) (T := TX9) (N := 2) hx hb hts iw_X9 tyX9_ok nmX9 hown hR hS rfl 1 (by decide) mm_652 (Or.inl rfl) rfl hnm rfl rfl rfl eh2 dX9_init_11 (fun H locs hR hS => ?_)
  cases hF
  exact x_vret hx hb hr hlk hR hS (by decide) (by decide) dX9_init_14
def rm_X9_asksIn : Room := { frames := 1, cells := 0, slots := 0, locals := 23 }
theorem f_X9_asksIn : xM yX9_asksIn cX9_asksIn 3 (some .int) 2 := ⟨mm_621, mm_77, by decide +kernel, by decide +kernel⟩
theorem dX9_asksIn_0 : decode cX9_asksIn 0 = .ok (.bipush 10, 2) := by decide +kernel
theorem dX9_asksIn_2 : decode cX9_asksIn 2 = .ok (.iload_n 2, 1) := by decide +kernel
theorem dX9_asksIn_3 : decode cX9_asksIn 3 = .ok (.iload_n 1, 1) := by decide +kernel
theorem dX9_asksIn_4 : decode cX9_asksIn 4 = .ok (.iconst 0, 1) := by decide +kernel
theorem dX9_asksIn_5 : decode cX9_asksIn 5 = .ok (.invokestatic 18, 3) := by decide +kernel
theorem dX9_asksIn_8 : decode cX9_asksIn 8 = .ok (.isub, 1) := by decide +kernel
theorem dX9_asksIn_9 : decode cX9_asksIn 9 = .ok (.iconst 1, 1) := by decide +kernel
theorem dX9_asksIn_10 : decode cX9_asksIn 10 = .ok (.iadd, 1) := by decide +kernel
theorem dX9_asksIn_11 : decode cX9_asksIn 11 = .ok (.iconst 0, 1) := by decide +kernel
theorem dX9_asksIn_12 : decode cX9_asksIn 12 = .ok (.invokestatic 18, 3) := by decide +kernel
theorem dX9_asksIn_15 : decode cX9_asksIn 15 = .ok (.imul, 1) := by decide +kernel
theorem dX9_asksIn_16 : decode cX9_asksIn 16 = .ok (.ireturn, 1) := by decide +kernel
def F_X9_asksIn (G : Nat → Nat) (h : xH) (a0 : Nat) (x1 : Int32) (x2 : Int32) : Option Int32 :=
  some (10 * (xmax ((x2 - (xmax x1 0)) + 1) 0))
set_option maxHeartbeats 4000000 in
set_option maxRecDepth 100000 in
theorem t_X9_asksIn (l : Launch) (D : va_G) (G : Nat → Nat) (h : xH) (a0 : Nat) (x1 : Int32) (x2 : Int32) (r : Int32) (hF : F_X9_asksIn G h a0 x1 x2 = some r) : xC l yX9_asksIn cX9_asksIn 3 (some .int) (rm_X9_asksIn) D G h [.ref a0, .int x1, .int x2] (some (.int r)) h := by
  refine xC_of (by decide) (by first | decide | exact Nat.le_of_ble_eq_true rfl) ?_
  intro p e s m args below meth c ls hx hb hr hlk hml hown hnm hts hR hS hl
  have hl : lv_has ls 3 [(0, va_rf (some a0)), (1, .int x1), (2, .int x2)] := hl
  unfold F_X9_asksIn at hF
  refine lv_bipush (v := 10) hx hb dX9_asksIn_0 (by decide) ?_
  refine lv_iload_n hx hb dX9_asksIn_2 rfl (lv_at hl 2 rfl) ?_
  refine lv_iload_n hx hb dX9_asksIn_3 rfl (lv_at hl 1 rfl) ?_
  refine lv_iconst (v := 0) hx hb dX9_asksIn_4 (by decide) ?_
  refine x_max hx hb (hml.trans hl.1.symm) hown hts mm_622 mm_280 mm_65 mm_281 (by decide) (by first | exact Nat.le_of_ble_eq_true rfl | simp [xrf_cat, xcI, xcJ, xcA]) (by decide) (by decide) dX9_asksIn_5 ?_
  refine lv_isub hx hb dX9_asksIn_8 ?_
  refine lv_iconst (v := 1) hx hb dX9_asksIn_9 (by decide) ?_
  refine lv_iadd hx hb dX9_asksIn_10 ?_
  refine lv_iconst (v := 0) hx hb dX9_asksIn_11 (by decide) ?_
  refine x_max hx hb (hml.trans hl.1.symm) hown hts mm_622 mm_280 mm_65 mm_281 (by decide) (by first | exact Nat.le_of_ble_eq_true rfl | simp [xrf_cat, xcI, xcJ, xcA]) (by decide) (by decide) dX9_asksIn_12 ?_
  refine lv_imul hx hb dX9_asksIn_15 ?_
  cases hF
  exact x_iret hx hb hr rfl hlk hR hS (by decide) (by decide) dX9_asksIn_16
def rm_X9_badIn : Room := { frames := 1, cells := 0, slots := 0, locals := 23 }
theorem f_X9_badIn : xM yX9_badIn cX9_badIn 3 (some .int) 2 := ⟨mm_634, mm_77, by decide +kernel, by decide +kernel⟩
theorem dX9_badIn_0 : decode cX9_badIn 0 = .ok (.aload_n 0, 1) := by decide +kernel
theorem dX9_badIn_1 : decode cX9_badIn 1 = .ok (.getfield 15, 3) := by decide +kernel
theorem dX9_badIn_4 : decode cX9_badIn 4 = .ok (.iload_n 2, 1) := by decide +kernel
theorem dX9_badIn_5 : decode cX9_badIn 5 = .ok (.iload_n 1, 1) := by decide +kernel
theorem dX9_badIn_6 : decode cX9_badIn 6 = .ok (.aload_n 0, 1) := by decide +kernel
theorem dX9_badIn_7 : decode cX9_badIn 7 = .ok (.getfield 9, 3) := by decide +kernel
theorem dX9_badIn_10 : decode cX9_badIn 10 = .ok (.invokestatic 18, 3) := by decide +kernel
theorem dX9_badIn_13 : decode cX9_badIn 13 = .ok (.isub, 1) := by decide +kernel
theorem dX9_badIn_14 : decode cX9_badIn 14 = .ok (.iconst 1, 1) := by decide +kernel
theorem dX9_badIn_15 : decode cX9_badIn 15 = .ok (.iadd, 1) := by decide +kernel
theorem dX9_badIn_16 : decode cX9_badIn 16 = .ok (.iconst 0, 1) := by decide +kernel
theorem dX9_badIn_17 : decode cX9_badIn 17 = .ok (.invokestatic 18, 3) := by decide +kernel
theorem dX9_badIn_20 : decode cX9_badIn 20 = .ok (.imul, 1) := by decide +kernel
theorem dX9_badIn_21 : decode cX9_badIn 21 = .ok (.ireturn, 1) := by decide +kernel
def F_X9_badIn (G : Nat → Nat) (h : xH) (a0 : Nat) (x1 : Int32) (x2 : Int32) : Option Int32 :=
  (gI h (some a0) 9 1).bind fun v1 =>
  (gI h (some a0) 9 0).bind fun v2 =>
  some (v1 * (xmax ((x2 - (xmax x1 v2)) + 1) 0))
set_option maxHeartbeats 4000000 in
set_option maxRecDepth 100000 in
theorem t_X9_badIn (l : Launch) (D : va_G) (G : Nat → Nat) (h : xH) (a0 : Nat) (x1 : Int32) (x2 : Int32) (r : Int32) (hF : F_X9_badIn G h a0 x1 x2 = some r) : xC l yX9_badIn cX9_badIn 3 (some .int) (rm_X9_badIn) D G h [.ref a0, .int x1, .int x2] (some (.int r)) h := by
  refine xC_of (by decide) (by first | decide | exact Nat.le_of_ble_eq_true rfl) ?_
  intro p e s m args below meth c ls hx hb hr hlk hml hown hnm hts hR hS hl
  have hl : lv_has ls 3 [(0, va_rf (some a0)), (1, .int x1), (2, .int x2)] := hl
  unfold F_X9_badIn at hF
  refine x_aload_n (o := (some a0)) hx hb dX9_badIn_0 rfl (lv_at hl 0 rfl) ?_
  replace hF := xbind hF; obtain ⟨v1, ev1, hF⟩ := hF
  refine x_getI (o := (some a0)) (ci := 9) (C := RX9) (T := TX9) (N := 2) hx hb hts iw_X9 hown hR rfl 1 (by decide) mm_652 (Or.inl rfl) ev1 dX9_badIn_1 ?_
  refine lv_iload_n hx hb dX9_badIn_4 rfl (lv_at hl 2 rfl) ?_
  refine lv_iload_n hx hb dX9_badIn_5 rfl (lv_at hl 1 rfl) ?_
  refine x_aload_n (o := (some a0)) hx hb dX9_badIn_6 rfl (lv_at hl 0 rfl) ?_
  replace hF := xbind hF; obtain ⟨v2, ev2, hF⟩ := hF
  refine x_getI (o := (some a0)) (ci := 9) (C := RX9) (T := TX9) (N := 2) hx hb hts iw_X9 hown hR rfl 0 (by decide) mm_650 (Or.inl rfl) ev2 dX9_badIn_7 ?_
  refine x_max hx hb (hml.trans hl.1.symm) hown hts mm_622 mm_280 mm_65 mm_281 (by decide) (by first | exact Nat.le_of_ble_eq_true rfl | simp [xrf_cat, xcI, xcJ, xcA]) (by decide) (by decide) dX9_badIn_10 ?_
  refine lv_isub hx hb dX9_badIn_13 ?_
  refine lv_iconst (v := 1) hx hb dX9_badIn_14 (by decide) ?_
  refine lv_iadd hx hb dX9_badIn_15 ?_
  refine lv_iconst (v := 0) hx hb dX9_badIn_16 (by decide) ?_
  refine x_max hx hb (hml.trans hl.1.symm) hown hts mm_622 mm_280 mm_65 mm_281 (by decide) (by first | exact Nat.le_of_ble_eq_true rfl | simp [xrf_cat, xcI, xcJ, xcA]) (by decide) (by decide) dX9_badIn_17 ?_
  refine lv_imul hx hb dX9_badIn_20 ?_
  cases hF
  exact x_iret hx hb hr rfl hlk hR hS (by decide) (by decide) dX9_badIn_21
def rm_X0_init : Room := { frames := 1, cells := 0, slots := 0, locals := 20 }
theorem f_X0_init : xM yX0_init cX0_init 5 none 4 := ⟨mm_576, mm_76, by decide +kernel, by decide +kernel⟩
theorem dX0_init_0 : decode cX0_init 0 = .ok (.aload_n 0, 1) := by decide +kernel
theorem dX0_init_1 : decode cX0_init 1 = .ok (.invokespecial 1, 3) := by decide +kernel
theorem dX0_init_4 : decode cX0_init 4 = .ok (.aload_n 0, 1) := by decide +kernel
theorem dX0_init_5 : decode cX0_init 5 = .ok (.aload_n 1, 1) := by decide +kernel
theorem dX0_init_6 : decode cX0_init 6 = .ok (.putfield 7, 3) := by decide +kernel
theorem dX0_init_9 : decode cX0_init 9 = .ok (.aload_n 0, 1) := by decide +kernel
theorem dX0_init_10 : decode cX0_init 10 = .ok (.iload_n 2, 1) := by decide +kernel
theorem dX0_init_11 : decode cX0_init 11 = .ok (.putfield 13, 3) := by decide +kernel
theorem dX0_init_14 : decode cX0_init 14 = .ok (.aload_n 0, 1) := by decide +kernel
theorem dX0_init_15 : decode cX0_init 15 = .ok (.iload_n 3, 1) := by decide +kernel
theorem dX0_init_16 : decode cX0_init 16 = .ok (.putfield 17, 3) := by decide +kernel
theorem dX0_init_19 : decode cX0_init 19 = .ok (.aload_n 0, 1) := by decide +kernel
theorem dX0_init_20 : decode cX0_init 20 = .ok (.iload 4, 2) := by decide +kernel
theorem dX0_init_22 : decode cX0_init 22 = .ok (.putfield 20, 3) := by decide +kernel
theorem dX0_init_25 : decode cX0_init 25 = .ok (.return_, 1) := by decide +kernel
def F_X0_init (G : Nat → Nat) (h : xH) (a0 : Nat) (a1 : Nat) (x2 : Int32) (x3 : Int32) (x4 : Int32) : Option xH :=
  (xp G h (some a0) 1 0 (va_rf (some a1))).bind fun h1 =>
  (xp G h1 (some a0) 1 1 (.int x2)).bind fun h2 =>
  (xp G h2 (some a0) 1 2 (.int x3)).bind fun h3 =>
  (xp G h3 (some a0) 1 3 (.int x4)).bind fun h4 =>
  some h4
set_option maxHeartbeats 4000000 in
set_option maxRecDepth 100000 in
theorem t_X0_init (l : Launch) (D : va_G) (G : Nat → Nat) (h : xH) (a0 : Nat) (a1 : Nat) (x2 : Int32) (x3 : Int32) (x4 : Int32) (h' : xH) (hF : F_X0_init G h a0 a1 x2 x3 x4 = some h') : xC l yX0_init cX0_init 5 none (rm_X0_init) D G h [.ref a0, .ref a1, .int x2, .int x3, .int x4] none h' := by
  refine xC_of (by decide) (by first | decide | exact Nat.le_of_ble_eq_true rfl) ?_
  intro p e s m args below meth c ls hx hb hr hlk hml hown hnm hts hR hS hl
  have hl : lv_has ls 5 [(0, va_rf (some a0)), (1, va_rf (some a1)), (2, .int x2), (3, .int x3), (4, .int x4)] := hl
  unfold F_X0_init at hF
  refine x_aload_n (o := (some a0)) hx hb dX0_init_0 rfl (lv_at hl 0 rfl) ?_
  refine x_oinit (o := (some a0)) hx hb hown (hml.trans hl.1.symm) hts mm_577 mm_86 mm_87 rfl dX0_init_1 (by decide) (by decide) (by decide) ?_
  refine x_aload_n (o := (some a0)) hx hb dX0_init_4 rfl (lv_at hl 0 rfl) ?_
  refine x_aload_n (o := (some a1)) hx hb dX0_init_5 rfl (lv_at hl 1 rfl) ?_
  replace hF := xbind hF; obtain ⟨h1, eh1, hF⟩ := hF
  refine x_putF (o := (some a0)) (ci := 1) (C := RX0) (T := TX0) (N := 4) hx hb hts iw_X0 tyX0_ok nmX0 hown hR hS rfl 0 (by decide) mm_578 (Or.inl rfl) rfl hnm rfl xnarR xfitR eh1 dX0_init_6 (fun H locs hR hS => ?_)
  refine x_aload_n (o := (some a0)) hx hb dX0_init_9 rfl (lv_at hl 0 rfl) ?_
  refine lv_iload_n hx hb dX0_init_10 rfl (lv_at hl 2 rfl) ?_
  replace hF := xbind hF; obtain ⟨h2, eh2, hF⟩ := hF
  refine x_putF (o := (some a0)) (ci := 1) (C := RX0) (T := TX0) (N := 4) hx hb hts iw_X0 tyX0_ok nmX0 hown hR hS rfl 1 (by decide) mm_580 (Or.inl rfl) rfl hnm rfl rfl rfl eh2 dX0_init_11 (fun H locs hR hS => ?_)
  refine x_aload_n (o := (some a0)) hx hb dX0_init_14 rfl (lv_at hl 0 rfl) ?_
  refine lv_iload_n hx hb dX0_init_15 rfl (lv_at hl 3 rfl) ?_
  replace hF := xbind hF; obtain ⟨h3, eh3, hF⟩ := hF
  refine x_putF (o := (some a0)) (ci := 1) (C := RX0) (T := TX0) (N := 4) hx hb hts iw_X0 tyX0_ok nmX0 hown hR hS rfl 2 (by decide) mm_581 (Or.inl rfl) rfl hnm rfl rfl rfl eh3 dX0_init_16 (fun H locs hR hS => ?_)
  refine x_aload_n (o := (some a0)) hx hb dX0_init_19 rfl (lv_at hl 0 rfl) ?_
  refine lv_iload hx hb dX0_init_20 (lv_at hl 4 rfl) ?_
  replace hF := xbind hF; obtain ⟨h4, eh4, hF⟩ := hF
  refine x_putF (o := (some a0)) (ci := 1) (C := RX0) (T := TX0) (N := 4) hx hb hts iw_X0 tyX0_ok nmX0 hown hR hS rfl 3 (by decide) mm_582 (Or.inl rfl) rfl hnm rfl rfl rfl eh4 dX0_init_22 (fun H locs hR hS => ?_)
  cases hF
  exact x_vret hx hb hr hlk hR hS (by decide) (by decide) dX0_init_25
def rm_X0_isOver : Room := { frames := 3, cells := 0, slots := 0, locals := 69 }
theorem f_X0_isOver : xM yX0_isOver cX0_isOver 8 (some .boolean) 3 := ⟨mm_607, mm_76, by decide +kernel, by decide +kernel⟩
theorem dX0_isOver_0 : decode cX0_isOver 0 = .ok (.aload_n 1, 1) := by decide +kernel
theorem dX0_isOver_1 : decode cX0_isOver 1 = .ok (.iload_n 2, 1) := by decide +kernel
theorem dX0_isOver_2 : decode cX0_isOver 2 = .ok (.iload_n 3, 1) := by decide +kernel
theorem dX0_isOver_3 : decode cX0_isOver 3 = .ok (.isub, 1) := by decide +kernel
theorem dX0_isOver_4 : decode cX0_isOver 4 = .ok (.iconst 1, 1) := by decide +kernel
theorem dX0_isOver_5 : decode cX0_isOver 5 = .ok (.iadd, 1) := by decide +kernel
theorem dX0_isOver_6 : decode cX0_isOver 6 = .ok (.iload_n 2, 1) := by decide +kernel
theorem dX0_isOver_7 : decode cX0_isOver 7 = .ok (.invokeinterface 27 3, 5) := by decide +kernel
theorem dX0_isOver_12 : decode cX0_isOver 12 = .ok (.i2l, 1) := by decide +kernel
theorem dX0_isOver_13 : decode cX0_isOver 13 = .ok (.lstore 4, 2) := by decide +kernel
theorem dX0_isOver_15 : decode cX0_isOver 15 = .ok (.aload_n 1, 1) := by decide +kernel
theorem dX0_isOver_16 : decode cX0_isOver 16 = .ok (.iload_n 2, 1) := by decide +kernel
theorem dX0_isOver_17 : decode cX0_isOver 17 = .ok (.iload_n 3, 1) := by decide +kernel
theorem dX0_isOver_18 : decode cX0_isOver 18 = .ok (.isub, 1) := by decide +kernel
theorem dX0_isOver_19 : decode cX0_isOver 19 = .ok (.iconst 1, 1) := by decide +kernel
theorem dX0_isOver_20 : decode cX0_isOver 20 = .ok (.iadd, 1) := by decide +kernel
theorem dX0_isOver_21 : decode cX0_isOver 21 = .ok (.iload_n 2, 1) := by decide +kernel
theorem dX0_isOver_22 : decode cX0_isOver 22 = .ok (.invokeinterface 33 3, 5) := by decide +kernel
theorem dX0_isOver_27 : decode cX0_isOver 27 = .ok (.i2l, 1) := by decide +kernel
theorem dX0_isOver_28 : decode cX0_isOver 28 = .ok (.lstore 6, 2) := by decide +kernel
theorem dX0_isOver_30 : decode cX0_isOver 30 = .ok (.ldc2_w 36, 3) := by decide +kernel
theorem dX0_isOver_33 : decode cX0_isOver 33 = .ok (.lload 6, 2) := by decide +kernel
theorem dX0_isOver_35 : decode cX0_isOver 35 = .ok (.lmul, 1) := by decide +kernel
theorem dX0_isOver_36 : decode cX0_isOver 36 = .ok (.aload_n 0, 1) := by decide +kernel
theorem dX0_isOver_37 : decode cX0_isOver 37 = .ok (.getfield 20, 3) := by decide +kernel
theorem dX0_isOver_40 : decode cX0_isOver 40 = .ok (.aload_n 0, 1) := by decide +kernel
theorem dX0_isOver_41 : decode cX0_isOver 41 = .ok (.getfield 7, 3) := by decide +kernel
theorem dX0_isOver_44 : decode cX0_isOver 44 = .ok (.invokevirtual 38, 3) := by decide +kernel
theorem dX0_isOver_47 : decode cX0_isOver 47 = .ok (.imul, 1) := by decide +kernel
theorem dX0_isOver_48 : decode cX0_isOver 48 = .ok (.i2l, 1) := by decide +kernel
theorem dX0_isOver_49 : decode cX0_isOver 49 = .ok (.lload 4, 2) := by decide +kernel
theorem dX0_isOver_51 : decode cX0_isOver 51 = .ok (.lmul, 1) := by decide +kernel
theorem dX0_isOver_52 : decode cX0_isOver 52 = .ok (.lcmp, 1) := by decide +kernel
theorem dX0_isOver_53 : decode cX0_isOver 53 = .ok (.ifCond .le 7, 3) := by decide +kernel
theorem dX0_isOver_56 : decode cX0_isOver 56 = .ok (.iconst 1, 1) := by decide +kernel
theorem dX0_isOver_57 : decode cX0_isOver 57 = .ok (.goto 4, 3) := by decide +kernel
theorem dX0_isOver_60 : decode cX0_isOver 60 = .ok (.iconst 0, 1) := by decide +kernel
theorem dX0_isOver_61 : decode cX0_isOver 61 = .ok (.ireturn, 1) := by decide +kernel
def F_X0_isOver (G : Nat → Nat) (h : xH) (a0 : Nat) (a1 : Nat) (x2 : Int32) (x3 : Int32) : Option Int32 :=
  (xI h (some a1) 7 9 (fun z => F_X7_asksIn G h z ((x2 - x3) + 1) x2) (fun z => F_X9_asksIn G h z ((x2 - x3) + 1) x2)).bind fun v1 =>
  xl ((v1 : Int32).toInt64) fun v2 =>
  (xI h (some a1) 7 9 (fun z => F_X7_badIn G h z ((x2 - x3) + 1) x2) (fun z => F_X9_badIn G h z ((x2 - x3) + 1) x2)).bind fun v3 =>
  xl ((v3 : Int32).toInt64) fun v4 =>
  (gI h (some a0) 1 3).bind fun v5 =>
  (gR h (some a0) 1 0).bind fun w6 =>
  (xc h w6 6).bind fun b8 =>
  (F_X6_slack G h b8).bind fun v7 =>
  if (lg_cmp (10000 * v4) ((((v5 * v7) : Int32).toInt64) * v2)) ≤ 0 then
    some 0
  else
  some 1
set_option maxHeartbeats 4000000 in
set_option maxRecDepth 100000 in
theorem t_X0_isOver (l : Launch) (D : va_G) (G : Nat → Nat) (h : xH) (a0 : Nat) (a1 : Nat) (x2 : Int32) (x3 : Int32) (r : Int32) (hF : F_X0_isOver G h a0 a1 x2 x3 = some r) : xC l yX0_isOver cX0_isOver 8 (some .boolean) (rm_X0_isOver) D G h [.ref a0, .ref a1, .int x2, .int x3] (some (.int r)) h := by
  refine xC_of (by decide) (by first | decide | exact Nat.le_of_ble_eq_true rfl) ?_
  intro p e s m args below meth c ls hx hb hr hlk hml hown hnm hts hR hS hl
  have hl : lv_has ls 8 [(0, va_rf (some a0)), (1, va_rf (some a1)), (2, .int x2), (3, .int x3)] := hl
  unfold F_X0_isOver at hF
  refine x_aload_n (o := (some a1)) hx hb dX0_isOver_0 rfl (lv_at hl 1 rfl) ?_
  refine lv_iload_n hx hb dX0_isOver_1 rfl (lv_at hl 2 rfl) ?_
  refine lv_iload_n hx hb dX0_isOver_2 rfl (lv_at hl 3 rfl) ?_
  refine lv_isub hx hb dX0_isOver_3 ?_
  refine lv_iconst (v := 1) hx hb dX0_isOver_4 (by decide) ?_
  refine lv_iadd hx hb dX0_isOver_5 ?_
  refine lv_iload_n hx hb dX0_isOver_6 rfl (lv_at hl 2 rfl) ?_
  replace hF := xbind hF; obtain ⟨v1, ev1, hF⟩ := hF
  refine x_callF2 (o := (some a1)) (As := [.int ((x2 - x3) + 1), .int x2]) (rest := []) (v := (some (.int v1))) (k := 2) hx hb hml hown hts hR hS rfl rfl (by decide +kernel) (by decide +kernel) (xI_or ev1 (fun z e => t_X7_asksIn l D G h z ((x2 - x3) + 1) x2 v1 e) (fun z e => t_X9_asksIn l D G h z ((x2 - x3) + 1) x2 v1 e)) f_X7_asksIn f_X9_asksIn mm_609 mm_451 mm_619 mm_613 mm_617 (by decide +kernel) rfl rfl rfl rfl rfl hl.1 rfl (by first | exact Nat.le_of_ble_eq_true rfl | simp [xrf_cat, xcI, xcJ, xcA]) dX0_isOver_7 (by decide) (by decide) (by decide) rfl (fun H locs hR hS => ?_)
  refine lv_i2l (v := ((v1 : Int32).toInt64)) hx hb dX0_isOver_12 rfl ?_
  refine lv_topl (fun v2 ev2 => ?_)
  replace hF := xlet ev2 hF
  refine lv_lstore (lv' := [(4, .long v2), (0, va_rf (some a0)), (1, va_rf (some a1)), (2, .int x2), (3, .int x3)]) hx hb dX0_isOver_13 hl (by decide) (by first | rfl | (simp [xrf_cat, xcI, xcJ, xcA]; done) | (simp [xrf_cat, xcI, xcJ, xcA]; decide)) (fun ls hl => ?_)
  refine x_aload_n (o := (some a1)) hx hb dX0_isOver_15 rfl (lv_at hl 2 rfl) ?_
  refine lv_iload_n hx hb dX0_isOver_16 rfl (lv_at hl 3 rfl) ?_
  refine lv_iload_n hx hb dX0_isOver_17 rfl (lv_at hl 4 rfl) ?_
  refine lv_isub hx hb dX0_isOver_18 ?_
  refine lv_iconst (v := 1) hx hb dX0_isOver_19 (by decide) ?_
  refine lv_iadd hx hb dX0_isOver_20 ?_
  refine lv_iload_n hx hb dX0_isOver_21 rfl (lv_at hl 3 rfl) ?_
  replace hF := xbind hF; obtain ⟨v3, ev3, hF⟩ := hF
  refine x_callF2 (o := (some a1)) (As := [.int ((x2 - x3) + 1), .int x2]) (rest := []) (v := (some (.int v3))) (k := 2) hx hb hml hown hts hR hS rfl rfl (by decide +kernel) (by decide +kernel) (xI_or ev3 (fun z e => t_X7_badIn l D G h z ((x2 - x3) + 1) x2 v3 e) (fun z e => t_X9_badIn l D G h z ((x2 - x3) + 1) x2 v3 e)) f_X7_badIn f_X9_badIn mm_624 mm_459 mm_632 mm_627 mm_630 (by decide +kernel) rfl rfl rfl rfl rfl hl.1 rfl (by first | exact Nat.le_of_ble_eq_true rfl | simp [xrf_cat, xcI, xcJ, xcA]) dX0_isOver_22 (by decide) (by decide) (by decide) rfl (fun H locs hR hS => ?_)
  refine lv_i2l (v := ((v3 : Int32).toInt64)) hx hb dX0_isOver_27 rfl ?_
  refine lv_topl (fun v4 ev4 => ?_)
  replace hF := xlet ev4 hF
  refine lv_lstore (lv' := [(6, .long v4), (4, .long v2), (0, va_rf (some a0)), (1, va_rf (some a1)), (2, .int x2), (3, .int x3)]) hx hb dX0_isOver_28 hl (by decide) (by first | rfl | (simp [xrf_cat, xcI, xcJ, xcA]; done) | (simp [xrf_cat, xcI, xcJ, xcA]; decide)) (fun ls hl => ?_)
  refine lv_ldc2 hx hb hown (hts _ mm_635) dX0_isOver_30 ?_
  refine lv_lload hx hb dX0_isOver_33 (lv_at hl 0 rfl) ?_
  refine lv_lmul hx hb dX0_isOver_35 ?_
  refine x_aload_n (o := (some a0)) hx hb dX0_isOver_36 rfl (lv_at hl 2 rfl) ?_
  replace hF := xbind hF; obtain ⟨v5, ev5, hF⟩ := hF
  refine x_getI (o := (some a0)) (ci := 1) (C := RX0) (T := TX0) (N := 4) hx hb hts iw_X0 hown hR rfl 3 (by decide) mm_582 (Or.inl rfl) ev5 dX0_isOver_37 ?_
  refine x_aload_n (o := (some a0)) hx hb dX0_isOver_40 rfl (lv_at hl 2 rfl) ?_
  replace hF := xbind hF; obtain ⟨w6, ew6, hF⟩ := hF
  refine x_getR (o := (some a0)) (ci := 1) (C := RX0) (T := TX0) (N := 4) hx hb hts iw_X0 hown hR rfl 0 (by decide) mm_578 (Or.inl rfl) ew6 dX0_isOver_41 ?_
  replace hF := xbind hF; obtain ⟨b8, eb8, hF⟩ := hF
  replace hF := xbind hF; obtain ⟨v7, ev7, hF⟩ := hF
  refine x_callV (o := w6) (ci := 6) (As := []) (rest := [.int v5, .long (10000 * v4)]) (v := (some (.int v7))) (k := 0) hx hb hml hown hts hR hS eb8 rfl rfl (t_X6_slack l D G h b8 v7 ev7) f_X6_slack mm_636 mm_521 mm_522 rfl hl.1 rfl (by first | exact Nat.le_of_ble_eq_true rfl | simp [xrf_cat, xcI, xcJ, xcA]) dX0_isOver_44 (by decide) (by decide) rfl (fun H locs hR hS => ?_)
  refine lv_imul hx hb dX0_isOver_47 ?_
  refine lv_i2l (v := (((v5 * v7) : Int32).toInt64)) hx hb dX0_isOver_48 rfl ?_
  refine lv_lload hx hb dX0_isOver_49 (lv_at hl 1 rfl) ?_
  refine lv_lmul hx hb dX0_isOver_51 ?_
  refine W.lcmp hx hb dX0_isOver_52 ?_
  refine lv_if_le (tgt := 60) hx hb dX0_isOver_53 (by decide) (fun c9 => ?_) (fun c9 => ?_)
  · replace hF := xift c9 hF
    refine lv_iconst (v := 0) hx hb dX0_isOver_60 (by decide) ?_
    cases hF
    exact x_iret hx hb hr rfl hlk hR hS (by decide) (by decide) dX0_isOver_61
  · replace hF := xiff c9 hF
    refine lv_iconst (v := 1) hx hb dX0_isOver_56 (by decide) ?_
    refine lv_goto (tgt := 61) hx hb dX0_isOver_57 (by decide) ?_
    cases hF
    exact x_iret hx hb hr rfl hlk hR hS (by decide) (by decide) dX0_isOver_61
def rm_X0_ringsIn : Room := { frames := 4, cells := 0, slots := 0, locals := 96 }
theorem f_X0_ringsIn : xM yX0_ringsIn cX0_ringsIn 3 (some .boolean) 2 := ⟨mm_603, mm_76, by decide +kernel, by decide +kernel⟩
theorem dX0_ringsIn_0 : decode cX0_ringsIn 0 = .ok (.aload_n 0, 1) := by decide +kernel
theorem dX0_ringsIn_1 : decode cX0_ringsIn 1 = .ok (.aload_n 1, 1) := by decide +kernel
theorem dX0_ringsIn_2 : decode cX0_ringsIn 2 = .ok (.iload_n 2, 1) := by decide +kernel
theorem dX0_ringsIn_3 : decode cX0_ringsIn 3 = .ok (.aload_n 0, 1) := by decide +kernel
theorem dX0_ringsIn_4 : decode cX0_ringsIn 4 = .ok (.getfield 13, 3) := by decide +kernel
theorem dX0_ringsIn_7 : decode cX0_ringsIn 7 = .ok (.invokevirtual 23, 3) := by decide +kernel
theorem dX0_ringsIn_10 : decode cX0_ringsIn 10 = .ok (.ifCond .eq 20, 3) := by decide +kernel
theorem dX0_ringsIn_13 : decode cX0_ringsIn 13 = .ok (.aload_n 0, 1) := by decide +kernel
theorem dX0_ringsIn_14 : decode cX0_ringsIn 14 = .ok (.aload_n 1, 1) := by decide +kernel
theorem dX0_ringsIn_15 : decode cX0_ringsIn 15 = .ok (.iload_n 2, 1) := by decide +kernel
theorem dX0_ringsIn_16 : decode cX0_ringsIn 16 = .ok (.aload_n 0, 1) := by decide +kernel
theorem dX0_ringsIn_17 : decode cX0_ringsIn 17 = .ok (.getfield 17, 3) := by decide +kernel
theorem dX0_ringsIn_20 : decode cX0_ringsIn 20 = .ok (.invokevirtual 23, 3) := by decide +kernel
theorem dX0_ringsIn_23 : decode cX0_ringsIn 23 = .ok (.ifCond .eq 7, 3) := by decide +kernel
theorem dX0_ringsIn_26 : decode cX0_ringsIn 26 = .ok (.iconst 1, 1) := by decide +kernel
theorem dX0_ringsIn_27 : decode cX0_ringsIn 27 = .ok (.goto 4, 3) := by decide +kernel
theorem dX0_ringsIn_30 : decode cX0_ringsIn 30 = .ok (.iconst 0, 1) := by decide +kernel
theorem dX0_ringsIn_31 : decode cX0_ringsIn 31 = .ok (.ireturn, 1) := by decide +kernel
def F_X0_ringsIn (G : Nat → Nat) (h : xH) (a0 : Nat) (a1 : Nat) (x2 : Int32) : Option Int32 :=
  (gI h (some a0) 1 1).bind fun v1 =>
  (xc h (some a0) 1).bind fun b3 =>
  (F_X0_isOver G h b3 a1 x2 v1).bind fun v2 =>
  if v2 = 0 then
    some 0
  else
  (gI h (some a0) 1 2).bind fun v5 =>
  (xc h (some a0) 1).bind fun b7 =>
  (F_X0_isOver G h b7 a1 x2 v5).bind fun v6 =>
  if v6 = 0 then
    some 0
  else
  some 1
set_option maxHeartbeats 4000000 in
set_option maxRecDepth 100000 in
theorem t_X0_ringsIn (l : Launch) (D : va_G) (G : Nat → Nat) (h : xH) (a0 : Nat) (a1 : Nat) (x2 : Int32) (r : Int32) (hF : F_X0_ringsIn G h a0 a1 x2 = some r) : xC l yX0_ringsIn cX0_ringsIn 3 (some .boolean) (rm_X0_ringsIn) D G h [.ref a0, .ref a1, .int x2] (some (.int r)) h := by
  refine xC_of (by decide) (by first | decide | exact Nat.le_of_ble_eq_true rfl) ?_
  intro p e s m args below meth c ls hx hb hr hlk hml hown hnm hts hR hS hl
  have hl : lv_has ls 3 [(0, va_rf (some a0)), (1, va_rf (some a1)), (2, .int x2)] := hl
  unfold F_X0_ringsIn at hF
  refine x_aload_n (o := (some a0)) hx hb dX0_ringsIn_0 rfl (lv_at hl 0 rfl) ?_
  refine x_aload_n (o := (some a1)) hx hb dX0_ringsIn_1 rfl (lv_at hl 1 rfl) ?_
  refine lv_iload_n hx hb dX0_ringsIn_2 rfl (lv_at hl 2 rfl) ?_
  refine x_aload_n (o := (some a0)) hx hb dX0_ringsIn_3 rfl (lv_at hl 0 rfl) ?_
  replace hF := xbind hF; obtain ⟨v1, ev1, hF⟩ := hF
  refine x_getI (o := (some a0)) (ci := 1) (C := RX0) (T := TX0) (N := 4) hx hb hts iw_X0 hown hR rfl 1 (by decide) mm_580 (Or.inl rfl) ev1 dX0_ringsIn_4 ?_
  replace hF := xbind hF; obtain ⟨b3, eb3, hF⟩ := hF
  replace hF := xbind hF; obtain ⟨v2, ev2, hF⟩ := hF
  refine x_callV (o := (some a0)) (ci := 1) (As := [.ref a1, .int x2, .int v1]) (rest := []) (v := (some (.int v2))) (k := 3) hx hb hml hown hts hR hS eb3 rfl rfl (t_X0_isOver l D G h b3 a1 x2 v1 v2 ev2) f_X0_isOver mm_604 mm_606 mm_16 rfl hl.1 rfl (by first | exact Nat.le_of_ble_eq_true rfl | simp [xrf_cat, xcI, xcJ, xcA]) dX0_ringsIn_7 (by decide) (by decide) rfl (fun H locs hR hS => ?_)
  refine lv_if_eq (tgt := 30) hx hb dX0_ringsIn_10 (by decide) (fun c4 => ?_) (fun c4 => ?_)
  · replace hF := xift c4 hF
    refine lv_iconst (v := 0) hx hb dX0_ringsIn_30 (by decide) ?_
    cases hF
    exact x_iret hx hb hr rfl hlk hR hS (by decide) (by decide) dX0_ringsIn_31
  · replace hF := xiff c4 hF
    refine x_aload_n (o := (some a0)) hx hb dX0_ringsIn_13 rfl (lv_at hl 0 rfl) ?_
    refine x_aload_n (o := (some a1)) hx hb dX0_ringsIn_14 rfl (lv_at hl 1 rfl) ?_
    refine lv_iload_n hx hb dX0_ringsIn_15 rfl (lv_at hl 2 rfl) ?_
    refine x_aload_n (o := (some a0)) hx hb dX0_ringsIn_16 rfl (lv_at hl 0 rfl) ?_
    replace hF := xbind hF; obtain ⟨v5, ev5, hF⟩ := hF
    refine x_getI (o := (some a0)) (ci := 1) (C := RX0) (T := TX0) (N := 4) hx hb hts iw_X0 hown hR rfl 2 (by decide) mm_581 (Or.inl rfl) ev5 dX0_ringsIn_17 ?_
    replace hF := xbind hF; obtain ⟨b7, eb7, hF⟩ := hF
    replace hF := xbind hF; obtain ⟨v6, ev6, hF⟩ := hF
    refine x_callV (o := (some a0)) (ci := 1) (As := [.ref a1, .int x2, .int v5]) (rest := []) (v := (some (.int v6))) (k := 3) hx hb hml hown hts hR hS eb7 rfl rfl (t_X0_isOver l D G h b7 a1 x2 v5 v6 ev6) f_X0_isOver mm_604 mm_606 mm_16 rfl hl.1 rfl (by first | exact Nat.le_of_ble_eq_true rfl | simp [xrf_cat, xcI, xcJ, xcA]) dX0_ringsIn_20 (by decide) (by decide) rfl (fun H locs hR hS => ?_)
    refine lv_if_eq (tgt := 30) hx hb dX0_ringsIn_23 (by decide) (fun c8 => ?_) (fun c8 => ?_)
    · replace hF := xift c8 hF
      refine lv_iconst (v := 0) hx hb dX0_ringsIn_30 (by decide) ?_
      cases hF
      exact x_iret hx hb hr rfl hlk hR hS (by decide) (by decide) dX0_ringsIn_31
    · replace hF := xiff c8 hF
      refine lv_iconst (v := 1) hx hb dX0_ringsIn_26 (by decide) ?_
      refine lv_goto (tgt := 31) hx hb dX0_ringsIn_27 (by decide) ?_
      cases hF
      exact x_iret hx hb hr rfl hlk hR hS (by decide) (by decide) dX0_ringsIn_31
def rm_X2_init : Room := { frames := 1, cells := 0, slots := 0, locals := 20 }
theorem f_X2_init : xM yX2_init cX2_init 4 none 3 := ⟨mm_722, mm_78, by decide +kernel, by decide +kernel⟩
theorem dX2_init_0 : decode cX2_init 0 = .ok (.aload_n 0, 1) := by decide +kernel
theorem dX2_init_1 : decode cX2_init 1 = .ok (.invokespecial 3, 3) := by decide +kernel
theorem dX2_init_4 : decode cX2_init 4 = .ok (.aload_n 0, 1) := by decide +kernel
theorem dX2_init_5 : decode cX2_init 5 = .ok (.iconst 0, 1) := by decide +kernel
theorem dX2_init_6 : decode cX2_init 6 = .ok (.putfield 9, 3) := by decide +kernel
theorem dX2_init_9 : decode cX2_init 9 = .ok (.aload_n 0, 1) := by decide +kernel
theorem dX2_init_10 : decode cX2_init 10 = .ok (.iload_n 1, 1) := by decide +kernel
theorem dX2_init_11 : decode cX2_init 11 = .ok (.putfield 15, 3) := by decide +kernel
theorem dX2_init_14 : decode cX2_init 14 = .ok (.aload_n 0, 1) := by decide +kernel
theorem dX2_init_15 : decode cX2_init 15 = .ok (.iload_n 2, 1) := by decide +kernel
theorem dX2_init_16 : decode cX2_init 16 = .ok (.putfield 18, 3) := by decide +kernel
theorem dX2_init_19 : decode cX2_init 19 = .ok (.aload_n 0, 1) := by decide +kernel
theorem dX2_init_20 : decode cX2_init 20 = .ok (.iload_n 3, 1) := by decide +kernel
theorem dX2_init_21 : decode cX2_init 21 = .ok (.putfield 21, 3) := by decide +kernel
theorem dX2_init_24 : decode cX2_init 24 = .ok (.return_, 1) := by decide +kernel
def F_X2_init (G : Nat → Nat) (h : xH) (a0 : Nat) (x1 : Int32) (x2 : Int32) (x3 : Int32) : Option xH :=
  (xp G h (some a0) 3 3 (.int 0)).bind fun h1 =>
  (xp G h1 (some a0) 3 0 (.int x1)).bind fun h2 =>
  (xp G h2 (some a0) 3 1 (.int x2)).bind fun h3 =>
  (xp G h3 (some a0) 3 2 (.int x3)).bind fun h4 =>
  some h4
set_option maxHeartbeats 4000000 in
set_option maxRecDepth 100000 in
theorem t_X2_init (l : Launch) (D : va_G) (G : Nat → Nat) (h : xH) (a0 : Nat) (x1 : Int32) (x2 : Int32) (x3 : Int32) (h' : xH) (hF : F_X2_init G h a0 x1 x2 x3 = some h') : xC l yX2_init cX2_init 4 none (rm_X2_init) D G h [.ref a0, .int x1, .int x2, .int x3] none h' := by
  refine xC_of (by decide) (by first | decide | exact Nat.le_of_ble_eq_true rfl) ?_
  intro p e s m args below meth c ls hx hb hr hlk hml hown hnm hts hR hS hl
  have hl : lv_has ls 4 [(0, va_rf (some a0)), (1, .int x1), (2, .int x2), (3, .int x3)] := hl
  unfold F_X2_init at hF
  refine x_aload_n (o := (some a0)) hx hb dX2_init_0 rfl (lv_at hl 0 rfl) ?_
  refine x_oinit (o := (some a0)) hx hb hown (hml.trans hl.1.symm) hts mm_723 mm_86 mm_87 rfl dX2_init_1 (by decide) (by decide) (by decide) ?_
  refine x_aload_n (o := (some a0)) hx hb dX2_init_4 rfl (lv_at hl 0 rfl) ?_
  refine lv_iconst (v := 0) hx hb dX2_init_5 (by decide) ?_
  replace hF := xbind hF; obtain ⟨h1, eh1, hF⟩ := hF
  refine x_put (o := (some a0)) (ci := 3) (C := RX2) (T := TX2) (N := 5) hx hb hts iw_X2 tyX2_ok nmX2 hown hR hS rfl 3 (by decide) mm_730 (Or.inl rfl) rfl rfl rfl eh1 dX2_init_6 (fun H locs hR hS => ?_)
  refine x_aload_n (o := (some a0)) hx hb dX2_init_9 rfl (lv_at hl 0 rfl) ?_
  refine lv_iload_n hx hb dX2_init_10 rfl (lv_at hl 1 rfl) ?_
  replace hF := xbind hF; obtain ⟨h2, eh2, hF⟩ := hF
  refine x_putF (o := (some a0)) (ci := 3) (C := RX2) (T := TX2) (N := 5) hx hb hts iw_X2 tyX2_ok nmX2 hown hR hS rfl 0 (by decide) mm_724 (Or.inl rfl) rfl hnm rfl rfl rfl eh2 dX2_init_11 (fun H locs hR hS => ?_)
  refine x_aload_n (o := (some a0)) hx hb dX2_init_14 rfl (lv_at hl 0 rfl) ?_
  refine lv_iload_n hx hb dX2_init_15 rfl (lv_at hl 2 rfl) ?_
  replace hF := xbind hF; obtain ⟨h3, eh3, hF⟩ := hF
  refine x_putF (o := (some a0)) (ci := 3) (C := RX2) (T := TX2) (N := 5) hx hb hts iw_X2 tyX2_ok nmX2 hown hR hS rfl 1 (by decide) mm_726 (Or.inl rfl) rfl hnm rfl rfl rfl eh3 dX2_init_16 (fun H locs hR hS => ?_)
  refine x_aload_n (o := (some a0)) hx hb dX2_init_19 rfl (lv_at hl 0 rfl) ?_
  refine lv_iload_n hx hb dX2_init_20 rfl (lv_at hl 3 rfl) ?_
  replace hF := xbind hF; obtain ⟨h4, eh4, hF⟩ := hF
  refine x_putF (o := (some a0)) (ci := 3) (C := RX2) (T := TX2) (N := 5) hx hb hts iw_X2 tyX2_ok nmX2 hown hR hS rfl 2 (by decide) mm_728 (Or.inl rfl) rfl hnm rfl rfl rfl eh4 dX2_init_21 (fun H locs hR hS => ?_)
  cases hF
  exact x_vret hx hb hr hlk hR hS (by decide) (by decide) dX2_init_24
