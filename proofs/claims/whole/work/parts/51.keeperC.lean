def rm_X10_init : Room := { frames := 4, cells := 17, slots := 1841, locals := 80 }
theorem f_X10_init : xM yX10_init cX10_init 1 none 0 := ⟨mm_84, mm_55, by decide +kernel, by decide +kernel⟩
theorem dX10_init_0 : decode cX10_init 0 = .ok (.aload_n 0, 1) := by decide +kernel
theorem dX10_init_1 : decode cX10_init 1 = .ok (.invokespecial 3, 3) := by decide +kernel
theorem dX10_init_4 : decode cX10_init 4 = .ok (.aload_n 0, 1) := by decide +kernel
theorem dX10_init_5 : decode cX10_init 5 = .ok (.new 9, 3) := by decide +kernel
theorem dX10_init_8 : decode cX10_init 8 = .ok (.dup, 1) := by decide +kernel
theorem dX10_init_9 : decode cX10_init 9 = .ok (.invokespecial 11, 3) := by decide +kernel
theorem dX10_init_12 : decode cX10_init 12 = .ok (.putfield 12, 3) := by decide +kernel
theorem dX10_init_15 : decode cX10_init 15 = .ok (.aload_n 0, 1) := by decide +kernel
theorem dX10_init_16 : decode cX10_init 16 = .ok (.new 9, 3) := by decide +kernel
theorem dX10_init_19 : decode cX10_init 19 = .ok (.dup, 1) := by decide +kernel
theorem dX10_init_20 : decode cX10_init 20 = .ok (.invokespecial 11, 3) := by decide +kernel
theorem dX10_init_23 : decode cX10_init 23 = .ok (.putfield 16, 3) := by decide +kernel
theorem dX10_init_26 : decode cX10_init 26 = .ok (.aload_n 0, 1) := by decide +kernel
theorem dX10_init_27 : decode cX10_init 27 = .ok (.new 9, 3) := by decide +kernel
theorem dX10_init_30 : decode cX10_init 30 = .ok (.dup, 1) := by decide +kernel
theorem dX10_init_31 : decode cX10_init 31 = .ok (.invokespecial 11, 3) := by decide +kernel
theorem dX10_init_34 : decode cX10_init 34 = .ok (.putfield 19, 3) := by decide +kernel
theorem dX10_init_37 : decode cX10_init 37 = .ok (.aload_n 0, 1) := by decide +kernel
theorem dX10_init_38 : decode cX10_init 38 = .ok (.new 9, 3) := by decide +kernel
theorem dX10_init_41 : decode cX10_init 41 = .ok (.dup, 1) := by decide +kernel
theorem dX10_init_42 : decode cX10_init 42 = .ok (.invokespecial 11, 3) := by decide +kernel
theorem dX10_init_45 : decode cX10_init 45 = .ok (.putfield 22, 3) := by decide +kernel
theorem dX10_init_48 : decode cX10_init 48 = .ok (.aload_n 0, 1) := by decide +kernel
theorem dX10_init_49 : decode cX10_init 49 = .ok (.new 9, 3) := by decide +kernel
theorem dX10_init_52 : decode cX10_init 52 = .ok (.dup, 1) := by decide +kernel
theorem dX10_init_53 : decode cX10_init 53 = .ok (.invokespecial 11, 3) := by decide +kernel
theorem dX10_init_56 : decode cX10_init 56 = .ok (.putfield 25, 3) := by decide +kernel
theorem dX10_init_59 : decode cX10_init 59 = .ok (.aload_n 0, 1) := by decide +kernel
theorem dX10_init_60 : decode cX10_init 60 = .ok (.new 28, 3) := by decide +kernel
theorem dX10_init_63 : decode cX10_init 63 = .ok (.dup, 1) := by decide +kernel
theorem dX10_init_64 : decode cX10_init 64 = .ok (.invokespecial 30, 3) := by decide +kernel
theorem dX10_init_67 : decode cX10_init 67 = .ok (.putfield 31, 3) := by decide +kernel
theorem dX10_init_70 : decode cX10_init 70 = .ok (.aload_n 0, 1) := by decide +kernel
theorem dX10_init_71 : decode cX10_init 71 = .ok (.new 35, 3) := by decide +kernel
theorem dX10_init_74 : decode cX10_init 74 = .ok (.dup, 1) := by decide +kernel
theorem dX10_init_75 : decode cX10_init 75 = .ok (.invokespecial 37, 3) := by decide +kernel
theorem dX10_init_78 : decode cX10_init 78 = .ok (.putfield 38, 3) := by decide +kernel
theorem dX10_init_81 : decode cX10_init 81 = .ok (.aload_n 0, 1) := by decide +kernel
theorem dX10_init_82 : decode cX10_init 82 = .ok (.new 42, 3) := by decide +kernel
theorem dX10_init_85 : decode cX10_init 85 = .ok (.dup, 1) := by decide +kernel
theorem dX10_init_86 : decode cX10_init 86 = .ok (.invokespecial 44, 3) := by decide +kernel
theorem dX10_init_89 : decode cX10_init 89 = .ok (.putfield 45, 3) := by decide +kernel
theorem dX10_init_92 : decode cX10_init 92 = .ok (.return_, 1) := by decide +kernel
def F_X10_init (G : Nat → Nat) (h : xH) (a0 : Nat) : Option xH :=
  (nO h 0 [.int 0, .null, .int 0]).bind fun (q1, h2) =>
  (F_Jx4a65c_init_da8c8 G h2 q1).bind fun h3 =>
  (xp G h3 (some a0) 10 0 (va_rf (some q1))).bind fun h4 =>
  (nO h4 0 [.int 0, .null, .int 0]).bind fun (q5, h6) =>
  (F_Jx4a65c_init_da8c8 G h6 q5).bind fun h7 =>
  (xp G h7 (some a0) 10 1 (va_rf (some q5))).bind fun h8 =>
  (nO h8 0 [.int 0, .null, .int 0]).bind fun (q9, h10) =>
  (F_Jx4a65c_init_da8c8 G h10 q9).bind fun h11 =>
  (xp G h11 (some a0) 10 2 (va_rf (some q9))).bind fun h12 =>
  (nO h12 0 [.int 0, .null, .int 0]).bind fun (q13, h14) =>
  (F_Jx4a65c_init_da8c8 G h14 q13).bind fun h15 =>
  (xp G h15 (some a0) 10 3 (va_rf (some q13))).bind fun h16 =>
  (nO h16 0 [.int 0, .null, .int 0]).bind fun (q17, h18) =>
  (F_Jx4a65c_init_da8c8 G h18 q17).bind fun h19 =>
  (xp G h19 (some a0) 10 4 (va_rf (some q17))).bind fun h20 =>
  (nO h20 4 [.null, .int 0]).bind fun (q21, h22) =>
  (F_X4_init G h22 q21).bind fun h23 =>
  (xp G h23 (some a0) 10 5 (va_rf (some q21))).bind fun h24 =>
  (nO h24 5 [.null, .null, .null, .null, .null, .int 0, .int 0, .int 0, .int 0, .int 0]).bind fun (q25, h26) =>
  (F_X5_init G h26 q25).bind fun h27 =>
  (xp G h27 (some a0) 10 6 (va_rf (some q25))).bind fun h28 =>
  (nO h28 2 [.null, .null, .null, .int 0, .int 0]).bind fun (q29, h30) =>
  (F_X1_init G h30 q29).bind fun h31 =>
  (xp G h31 (some a0) 10 7 (va_rf (some q29))).bind fun h32 =>
  some h32
set_option maxHeartbeats 4000000 in
set_option maxRecDepth 100000 in
theorem t_X10_init (l : Launch) (D : va_G) (G : Nat → Nat) (h : xH) (a0 : Nat) (h' : xH) (hF : F_X10_init G h a0 = some h') : xCb l yX10_init cX10_init 1 none (rm_X10_init) D G h [.ref a0] none h' := by
  refine xCb_of (by decide) (by first | decide | exact Nat.le_of_ble_eq_true rfl) ?_
  intro p e s m args below meth c ls hx hb hr hlk hml hown hnm hts hB hR hS hl
  have hl : lv_has ls 1 [(0, va_rf (some a0))] := hl
  unfold F_X10_init at hF
  refine x_aload_n (o := (some a0)) hx hb dX10_init_0 rfl (lv_at hl 0 rfl) ?_
  refine x_oinit (o := (some a0)) hx hb hown (hml.trans hl.1.symm) hts mm_85 mm_86 mm_87 rfl dX10_init_1 (by decide) (by decide) (by decide) ?_
  refine x_aload_n (o := (some a0)) hx hb dX10_init_4 rfl (lv_at hl 0 rfl) ?_
  replace hF := xbind hF; obtain ⟨⟨q1, h2⟩, eq1, hF⟩ := hF
  refine x_newO (C := RJx4a65c) (T := TJx4a65c) (N := 3) (ci := 0) hx hb hts iw_Jx4a65c tyJx4a65c_ok hown mm_88 mm_89 mm_58 hR hS rfl (by decide) (by decide) (by decide) eq1 dX10_init_5 (fun H hR hS => ?_)
  refine lv_dup hx hb dX10_init_8 xrf_cat ?_
  replace hF := xbind hF; obtain ⟨h3, eh3, hF⟩ := hF
  refine x_callI (o := (some q1)) (As := []) (rest := [va_rf (some q1), va_rf (some a0)]) (v := none) (k := 0) hx hb hml hown hts hR hS rfl (t_Jx4a65c_init_da8c8 l D G h2 q1 h3 eh3) f_Jx4a65c_init_da8c8 mm_90 mm_91 rfl rfl hl.1 rfl (by first | exact Nat.le_of_ble_eq_true rfl | simp [xrf_cat, xcI, xcJ, xcA]) dX10_init_9 (by decide) (by decide) rfl (fun H locs hR hS => ?_)
  replace hF := xbind hF; obtain ⟨h4, eh4, hF⟩ := hF
  refine x_putF (o := (some a0)) (ci := 10) (C := RX10) (T := TX10) (N := 11) hx hb hts iw_X10 tyX10_ok nmX10 hown hR hS rfl 0 (by decide) mm_187 (Or.inl rfl) rfl hnm rfl xnarR xfitR eh4 dX10_init_12 (fun H locs hR hS => ?_)
  refine x_aload_n (o := (some a0)) hx hb dX10_init_15 rfl (lv_at hl 0 rfl) ?_
  replace hF := xbind hF; obtain ⟨⟨q5, h6⟩, eq5, hF⟩ := hF
  refine x_newO (C := RJx4a65c) (T := TJx4a65c) (N := 3) (ci := 0) hx hb hts iw_Jx4a65c tyJx4a65c_ok hown mm_88 mm_89 mm_58 hR hS rfl (by decide) (by decide) (by decide) eq5 dX10_init_16 (fun H hR hS => ?_)
  refine lv_dup hx hb dX10_init_19 xrf_cat ?_
  replace hF := xbind hF; obtain ⟨h7, eh7, hF⟩ := hF
  refine x_callI (o := (some q5)) (As := []) (rest := [va_rf (some q5), va_rf (some a0)]) (v := none) (k := 0) hx hb hml hown hts hR hS rfl (t_Jx4a65c_init_da8c8 l D G h6 q5 h7 eh7) f_Jx4a65c_init_da8c8 mm_90 mm_91 rfl rfl hl.1 rfl (by first | exact Nat.le_of_ble_eq_true rfl | simp [xrf_cat, xcI, xcJ, xcA]) dX10_init_20 (by decide) (by decide) rfl (fun H locs hR hS => ?_)
  replace hF := xbind hF; obtain ⟨h8, eh8, hF⟩ := hF
  refine x_putF (o := (some a0)) (ci := 10) (C := RX10) (T := TX10) (N := 11) hx hb hts iw_X10 tyX10_ok nmX10 hown hR hS rfl 1 (by decide) mm_188 (Or.inl rfl) rfl hnm rfl xnarR xfitR eh8 dX10_init_23 (fun H locs hR hS => ?_)
  refine x_aload_n (o := (some a0)) hx hb dX10_init_26 rfl (lv_at hl 0 rfl) ?_
  replace hF := xbind hF; obtain ⟨⟨q9, h10⟩, eq9, hF⟩ := hF
  refine x_newO (C := RJx4a65c) (T := TJx4a65c) (N := 3) (ci := 0) hx hb hts iw_Jx4a65c tyJx4a65c_ok hown mm_88 mm_89 mm_58 hR hS rfl (by decide) (by decide) (by decide) eq9 dX10_init_27 (fun H hR hS => ?_)
  refine lv_dup hx hb dX10_init_30 xrf_cat ?_
  replace hF := xbind hF; obtain ⟨h11, eh11, hF⟩ := hF
  refine x_callI (o := (some q9)) (As := []) (rest := [va_rf (some q9), va_rf (some a0)]) (v := none) (k := 0) hx hb hml hown hts hR hS rfl (t_Jx4a65c_init_da8c8 l D G h10 q9 h11 eh11) f_Jx4a65c_init_da8c8 mm_90 mm_91 rfl rfl hl.1 rfl (by first | exact Nat.le_of_ble_eq_true rfl | simp [xrf_cat, xcI, xcJ, xcA]) dX10_init_31 (by decide) (by decide) rfl (fun H locs hR hS => ?_)
  replace hF := xbind hF; obtain ⟨h12, eh12, hF⟩ := hF
  refine x_putF (o := (some a0)) (ci := 10) (C := RX10) (T := TX10) (N := 11) hx hb hts iw_X10 tyX10_ok nmX10 hown hR hS rfl 2 (by decide) mm_189 (Or.inl rfl) rfl hnm rfl xnarR xfitR eh12 dX10_init_34 (fun H locs hR hS => ?_)
  refine x_aload_n (o := (some a0)) hx hb dX10_init_37 rfl (lv_at hl 0 rfl) ?_
  replace hF := xbind hF; obtain ⟨⟨q13, h14⟩, eq13, hF⟩ := hF
  refine x_newO (C := RJx4a65c) (T := TJx4a65c) (N := 3) (ci := 0) hx hb hts iw_Jx4a65c tyJx4a65c_ok hown mm_88 mm_89 mm_58 hR hS rfl (by decide) (by decide) (by decide) eq13 dX10_init_38 (fun H hR hS => ?_)
  refine lv_dup hx hb dX10_init_41 xrf_cat ?_
  replace hF := xbind hF; obtain ⟨h15, eh15, hF⟩ := hF
  refine x_callI (o := (some q13)) (As := []) (rest := [va_rf (some q13), va_rf (some a0)]) (v := none) (k := 0) hx hb hml hown hts hR hS rfl (t_Jx4a65c_init_da8c8 l D G h14 q13 h15 eh15) f_Jx4a65c_init_da8c8 mm_90 mm_91 rfl rfl hl.1 rfl (by first | exact Nat.le_of_ble_eq_true rfl | simp [xrf_cat, xcI, xcJ, xcA]) dX10_init_42 (by decide) (by decide) rfl (fun H locs hR hS => ?_)
  replace hF := xbind hF; obtain ⟨h16, eh16, hF⟩ := hF
  refine x_putF (o := (some a0)) (ci := 10) (C := RX10) (T := TX10) (N := 11) hx hb hts iw_X10 tyX10_ok nmX10 hown hR hS rfl 3 (by decide) mm_190 (Or.inl rfl) rfl hnm rfl xnarR xfitR eh16 dX10_init_45 (fun H locs hR hS => ?_)
  refine x_aload_n (o := (some a0)) hx hb dX10_init_48 rfl (lv_at hl 0 rfl) ?_
  replace hF := xbind hF; obtain ⟨⟨q17, h18⟩, eq17, hF⟩ := hF
  refine x_newO (C := RJx4a65c) (T := TJx4a65c) (N := 3) (ci := 0) hx hb hts iw_Jx4a65c tyJx4a65c_ok hown mm_88 mm_89 mm_58 hR hS rfl (by decide) (by decide) (by decide) eq17 dX10_init_49 (fun H hR hS => ?_)
  refine lv_dup hx hb dX10_init_52 xrf_cat ?_
  replace hF := xbind hF; obtain ⟨h19, eh19, hF⟩ := hF
  refine x_callI (o := (some q17)) (As := []) (rest := [va_rf (some q17), va_rf (some a0)]) (v := none) (k := 0) hx hb hml hown hts hR hS rfl (t_Jx4a65c_init_da8c8 l D G h18 q17 h19 eh19) f_Jx4a65c_init_da8c8 mm_90 mm_91 rfl rfl hl.1 rfl (by first | exact Nat.le_of_ble_eq_true rfl | simp [xrf_cat, xcI, xcJ, xcA]) dX10_init_53 (by decide) (by decide) rfl (fun H locs hR hS => ?_)
  replace hF := xbind hF; obtain ⟨h20, eh20, hF⟩ := hF
  refine x_putF (o := (some a0)) (ci := 10) (C := RX10) (T := TX10) (N := 11) hx hb hts iw_X10 tyX10_ok nmX10 hown hR hS rfl 4 (by decide) mm_191 (Or.inl rfl) rfl hnm rfl xnarR xfitR eh20 dX10_init_56 (fun H locs hR hS => ?_)
  refine x_aload_n (o := (some a0)) hx hb dX10_init_59 rfl (lv_at hl 0 rfl) ?_
  replace hF := xbind hF; obtain ⟨⟨q21, h22⟩, eq21, hF⟩ := hF
  refine x_newO (C := RX4) (T := TX4) (N := 2) (ci := 4) hx hb hts iw_X4 tyX4_ok hown mm_114 mm_115 mm_59 hR hS rfl (by decide) (by decide) (by decide) eq21 dX10_init_60 (fun H hR hS => ?_)
  refine lv_dup hx hb dX10_init_63 xrf_cat ?_
  replace hF := xbind hF; obtain ⟨h23, eh23, hF⟩ := hF
  refine x_callIN (o := (some q21)) (As := []) (rest := [va_rf (some q21), va_rf (some a0)]) (v := none) (k := 0) hx hb hml hown hts hR hS hB rfl (t_X4_init l D G h22 q21 h23 eh23) f_X4_init (host := "ShareKeeper") (by decide +kernel) mm_117 rfl rfl hl.1 rfl (by first | exact Nat.le_of_ble_eq_true rfl | simp [xrf_cat, xcI, xcJ, xcA]) dX10_init_64 (by decide) (by decide) rfl (fun H locs hR hS => ?_)
  replace hF := xbind hF; obtain ⟨h24, eh24, hF⟩ := hF
  refine x_putF (o := (some a0)) (ci := 10) (C := RX10) (T := TX10) (N := 11) hx hb hts iw_X10 tyX10_ok nmX10 hown hR hS rfl 5 (by decide) mm_192 (Or.inl rfl) rfl hnm rfl xnarR xfitR eh24 dX10_init_67 (fun H locs hR hS => ?_)
  refine x_aload_n (o := (some a0)) hx hb dX10_init_70 rfl (lv_at hl 0 rfl) ?_
  replace hF := xbind hF; obtain ⟨⟨q25, h26⟩, eq25, hF⟩ := hF
  refine x_newO (C := RX5) (T := TX5) (N := 10) (ci := 5) hx hb hts iw_X5 tyX5_ok hown mm_128 mm_129 mm_60 hR hS rfl (by decide) (by decide) (by decide) eq25 dX10_init_71 (fun H hR hS => ?_)
  refine lv_dup hx hb dX10_init_74 xrf_cat ?_
  replace hF := xbind hF; obtain ⟨h27, eh27, hF⟩ := hF
  refine x_callIN (o := (some q25)) (As := []) (rest := [va_rf (some q25), va_rf (some a0)]) (v := none) (k := 0) hx hb hml hown hts hR hS hB rfl (t_X5_init l D G h26 q25 h27 eh27) f_X5_init (host := "ShareKeeper") (by decide +kernel) mm_131 rfl rfl hl.1 rfl (by first | exact Nat.le_of_ble_eq_true rfl | simp [xrf_cat, xcI, xcJ, xcA]) dX10_init_75 (by decide) (by decide) rfl (fun H locs hR hS => ?_)
  replace hF := xbind hF; obtain ⟨h28, eh28, hF⟩ := hF
  refine x_putF (o := (some a0)) (ci := 10) (C := RX10) (T := TX10) (N := 11) hx hb hts iw_X10 tyX10_ok nmX10 hown hR hS rfl 6 (by decide) mm_193 (Or.inl rfl) rfl hnm rfl xnarR xfitR eh28 dX10_init_78 (fun H locs hR hS => ?_)
  refine x_aload_n (o := (some a0)) hx hb dX10_init_81 rfl (lv_at hl 0 rfl) ?_
  replace hF := xbind hF; obtain ⟨⟨q29, h30⟩, eq29, hF⟩ := hF
  refine x_newO (C := RX1) (T := TX1) (N := 5) (ci := 2) hx hb hts iw_X1 tyX1_ok hown mm_165 mm_166 mm_61 hR hS rfl (by decide) (by decide) (by decide) eq29 dX10_init_82 (fun H hR hS => ?_)
  refine lv_dup hx hb dX10_init_85 xrf_cat ?_
  replace hF := xbind hF; obtain ⟨h31, eh31, hF⟩ := hF
  refine x_callIN (o := (some q29)) (As := []) (rest := [va_rf (some q29), va_rf (some a0)]) (v := none) (k := 0) hx hb hml hown hts hR hS hB rfl (t_X1_init l D G h30 q29 h31 eh31) f_X1_init (host := "ShareKeeper") (by decide +kernel) mm_168 rfl rfl hl.1 rfl (by first | exact Nat.le_of_ble_eq_true rfl | simp [xrf_cat, xcI, xcJ, xcA]) dX10_init_86 (by decide) (by decide) rfl (fun H locs hR hS => ?_)
  replace hF := xbind hF; obtain ⟨h32, eh32, hF⟩ := hF
  refine x_putF (o := (some a0)) (ci := 10) (C := RX10) (T := TX10) (N := 11) hx hb hts iw_X10 tyX10_ok nmX10 hown hR hS rfl 7 (by decide) mm_194 (Or.inl rfl) rfl hnm rfl xnarR xfitR eh32 dX10_init_89 (fun H locs hR hS => ?_)
  cases hF
  exact x_vret hx hb hr hlk hR hS (by decide) (by decide) dX10_init_92
def rm_X10_service : Room := { frames := 7, cells := 5, slots := 1272, locals := 171 }
theorem f_X10_service : xM yX10_service cX10_service 1 (some .int) 0 := ⟨mm_224, mm_55, by decide +kernel, by decide +kernel⟩
theorem dX10_service_0 : decode cX10_service 0 = .ok (.aload_n 0, 1) := by decide +kernel
theorem dX10_service_1 : decode cX10_service 1 = .ok (.getfield 12, 3) := by decide +kernel
theorem dX10_service_4 : decode cX10_service 4 = .ok (.invokeinterface 49 1, 5) := by decide +kernel
theorem dX10_service_9 : decode cX10_service 9 = .ok (.bipush 8, 2) := by decide +kernel
theorem dX10_service_11 : decode cX10_service 11 = .ok (.if_icmp .lt 5, 3) := by decide +kernel
theorem dX10_service_14 : decode cX10_service 14 = .ok (.iconst (-1), 1) := by decide +kernel
theorem dX10_service_15 : decode cX10_service 15 = .ok (.ireturn, 1) := by decide +kernel
theorem dX10_service_16 : decode cX10_service 16 = .ok (.aload_n 0, 1) := by decide +kernel
theorem dX10_service_17 : decode cX10_service 17 = .ok (.getfield 12, 3) := by decide +kernel
theorem dX10_service_20 : decode cX10_service 20 = .ok (.new 55, 3) := by decide +kernel
theorem dX10_service_23 : decode cX10_service 23 = .ok (.dup, 1) := by decide +kernel
theorem dX10_service_24 : decode cX10_service 24 = .ok (.invokespecial 57, 3) := by decide +kernel
theorem dX10_service_27 : decode cX10_service 27 = .ok (.invokeinterface 58 2, 5) := by decide +kernel
theorem dX10_service_32 : decode cX10_service 32 = .ok (.pop, 1) := by decide +kernel
theorem dX10_service_33 : decode cX10_service 33 = .ok (.aload_n 0, 1) := by decide +kernel
theorem dX10_service_34 : decode cX10_service 34 = .ok (.getfield 12, 3) := by decide +kernel
theorem dX10_service_37 : decode cX10_service 37 = .ok (.invokeinterface 49 1, 5) := by decide +kernel
theorem dX10_service_42 : decode cX10_service 42 = .ok (.iconst 1, 1) := by decide +kernel
theorem dX10_service_43 : decode cX10_service 43 = .ok (.isub, 1) := by decide +kernel
theorem dX10_service_44 : decode cX10_service 44 = .ok (.ireturn, 1) := by decide +kernel
def F_X10_service (G : Nat → Nat) (h : xH) (a0 : Nat) : Option (Int32 × xH) :=
  (gR h (some a0) 10 0).bind fun w1 =>
  (xc h w1 0).bind fun b3 =>
  (F_Jx4a65c_size_8abf5 G h b3).bind fun v2 =>
  if v2 < 8 then
    (gR h (some a0) 10 0).bind fun w5 =>
    (nO h 7 [.null, .null, .null]).bind fun (q6, h7) =>
    (F_X7_init G h7 q6).bind fun h8 =>
    (xc h8 w5 0).bind fun b11 =>
    (F_Jx4a65c_add_9ea2d G h8 b11 q6).bind fun (v9, h10) =>
    (gR h10 (some a0) 10 0).bind fun w12 =>
    (xc h10 w12 0).bind fun b14 =>
    (F_Jx4a65c_size_8abf5 G h10 b14).bind fun v13 =>
    some ((v13 - 1), h10)
  else
  some ((-1), h)
set_option maxHeartbeats 4000000 in
set_option maxRecDepth 100000 in
theorem t_X10_service (l : Launch) (D : va_G) (G : Nat → Nat) (h : xH) (a0 : Nat) (r : Int32) (h' : xH) (hF : F_X10_service G h a0 = some (r, h')) : xCb l yX10_service cX10_service 1 (some .int) (rm_X10_service) D G h [.ref a0] (some (.int r)) h' := by
  refine xCb_of (by decide) (by first | decide | exact Nat.le_of_ble_eq_true rfl) ?_
  intro p e s m args below meth c ls hx hb hr hlk hml hown hnm hts hB hR hS hl
  have hl : lv_has ls 1 [(0, va_rf (some a0))] := hl
  unfold F_X10_service at hF
  refine x_aload_n (o := (some a0)) hx hb dX10_service_0 rfl (lv_at hl 0 rfl) ?_
  replace hF := xbind hF; obtain ⟨w1, ew1, hF⟩ := hF
  refine x_getR (o := (some a0)) (ci := 10) (C := RX10) (T := TX10) (N := 11) hx hb hts iw_X10 hown hR rfl 0 (by decide) mm_187 (Or.inl rfl) ew1 dX10_service_1 ?_
  replace hF := xbind hF; obtain ⟨b3, eb3, hF⟩ := hF
  replace hF := xbind hF; obtain ⟨v2, ev2, hF⟩ := hF
  refine x_callF (o := w1) (ci := 0) (As := []) (rest := []) (v := (some (.int v2))) (k := 0) hx hb hml hown hts hR hS eb3 rfl (by decide +kernel) (t_Jx4a65c_size_8abf5 l D G h b3 v2 ev2) f_Jx4a65c_size_8abf5 mm_226 mm_232 mm_230 (by decide +kernel) rfl hl.1 rfl (by first | exact Nat.le_of_ble_eq_true rfl | simp [xrf_cat, xcI, xcJ, xcA]) dX10_service_4 (by decide) (by decide) rfl (fun H locs hR hS => ?_)
  refine lv_bipush (v := 8) hx hb dX10_service_9 (by decide) ?_
  refine lv_icmp_lt (tgt := 16) hx hb dX10_service_11 (by decide) (fun c4 => ?_) (fun c4 => ?_)
  · replace hF := xift c4 hF
    refine x_aload_n (o := (some a0)) hx hb dX10_service_16 rfl (lv_at hl 0 rfl) ?_
    replace hF := xbind hF; obtain ⟨w5, ew5, hF⟩ := hF
    refine x_getR (o := (some a0)) (ci := 10) (C := RX10) (T := TX10) (N := 11) hx hb hts iw_X10 hown hR rfl 0 (by decide) mm_187 (Or.inl rfl) ew5 dX10_service_17 ?_
    replace hF := xbind hF; obtain ⟨⟨q6, h7⟩, eq6, hF⟩ := hF
    refine x_newO (C := RX7) (T := TX7) (N := 3) (ci := 7) hx hb hts iw_X7 tyX7_ok hown mm_235 mm_236 mm_63 hR hS rfl (by decide) (by decide) (by decide) eq6 dX10_service_20 (fun H hR hS => ?_)
    refine lv_dup hx hb dX10_service_23 xrf_cat ?_
    replace hF := xbind hF; obtain ⟨h8, eh8, hF⟩ := hF
    refine x_callIN (o := (some q6)) (As := []) (rest := [va_rf (some q6), va_rf w5]) (v := none) (k := 0) hx hb hml hown hts hR hS hB rfl (t_X7_init l D G h7 q6 h8 eh8) f_X7_init (host := "ShareKeeper") (by decide +kernel) mm_238 rfl rfl hl.1 rfl (by first | exact Nat.le_of_ble_eq_true rfl | simp [xrf_cat, xcI, xcJ, xcA]) dX10_service_24 (by decide) (by decide) rfl (fun H locs hR hS => ?_)
    replace hF := xbind hF; obtain ⟨b11, eb11, hF⟩ := hF
    replace hF := xbind hF; obtain ⟨⟨v9, h10⟩, ev9, hF⟩ := hF
    refine x_callF (o := w5) (ci := 0) (As := [.ref q6]) (rest := []) (v := (some (.int v9))) (k := 1) hx hb hml hown hts hR hS eb11 rfl (by decide +kernel) (t_Jx4a65c_add_9ea2d l D G h8 b11 q6 v9 h10 ev9) f_Jx4a65c_add_9ea2d mm_256 mm_261 mm_259 (by decide +kernel) rfl hl.1 rfl (by first | exact Nat.le_of_ble_eq_true rfl | simp [xrf_cat, xcI, xcJ, xcA]) dX10_service_27 (by decide) (by decide) rfl (fun H locs hR hS => ?_)
    refine lv_pop hx hb dX10_service_32 rfl ?_
    refine x_aload_n (o := (some a0)) hx hb dX10_service_33 rfl (lv_at hl 0 rfl) ?_
    replace hF := xbind hF; obtain ⟨w12, ew12, hF⟩ := hF
    refine x_getR (o := (some a0)) (ci := 10) (C := RX10) (T := TX10) (N := 11) hx hb hts iw_X10 hown hR rfl 0 (by decide) mm_187 (Or.inl rfl) ew12 dX10_service_34 ?_
    replace hF := xbind hF; obtain ⟨b14, eb14, hF⟩ := hF
    replace hF := xbind hF; obtain ⟨v13, ev13, hF⟩ := hF
    refine x_callF (o := w12) (ci := 0) (As := []) (rest := []) (v := (some (.int v13))) (k := 0) hx hb hml hown hts hR hS eb14 rfl (by decide +kernel) (t_Jx4a65c_size_8abf5 l D G h10 b14 v13 ev13) f_Jx4a65c_size_8abf5 mm_226 mm_232 mm_230 (by decide +kernel) rfl hl.1 rfl (by first | exact Nat.le_of_ble_eq_true rfl | simp [xrf_cat, xcI, xcJ, xcA]) dX10_service_37 (by decide) (by decide) rfl (fun H locs hR hS => ?_)
    refine lv_iconst (v := 1) hx hb dX10_service_42 (by decide) ?_
    refine lv_isub hx hb dX10_service_43 ?_
    cases hF
    exact x_iret hx hb hr rfl hlk hR hS (by decide) (by decide) dX10_service_44
  · replace hF := xiff c4 hF
    refine lv_iconst (v := (-1)) hx hb dX10_service_14 (by decide) ?_
    cases hF
    exact x_iret hx hb hr rfl hlk hR hS (by decide) (by decide) dX10_service_15
