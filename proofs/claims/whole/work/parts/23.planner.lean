def rm_X5_init : Room := { frames := 1, cells := 5, slots := 70, locals := 20 }
theorem f_X5_init : xM yX5_init cX5_init 1 none 0 := ⟨mm_132, mm_60, by decide +kernel, by decide +kernel⟩
theorem dX5_init_0 : decode cX5_init 0 = .ok (.aload_n 0, 1) := by decide +kernel
theorem dX5_init_1 : decode cX5_init 1 = .ok (.invokespecial 3, 3) := by decide +kernel
theorem dX5_init_4 : decode cX5_init 4 = .ok (.aload_n 0, 1) := by decide +kernel
theorem dX5_init_5 : decode cX5_init 5 = .ok (.bipush 14, 2) := by decide +kernel
theorem dX5_init_7 : decode cX5_init 7 = .ok (.newarray .int, 2) := by decide +kernel
theorem dX5_init_9 : decode cX5_init 9 = .ok (.putfield 9, 3) := by decide +kernel
theorem dX5_init_12 : decode cX5_init 12 = .ok (.aload_n 0, 1) := by decide +kernel
theorem dX5_init_13 : decode cX5_init 13 = .ok (.bipush 14, 2) := by decide +kernel
theorem dX5_init_15 : decode cX5_init 15 = .ok (.newarray .int, 2) := by decide +kernel
theorem dX5_init_17 : decode cX5_init 17 = .ok (.putfield 15, 3) := by decide +kernel
theorem dX5_init_20 : decode cX5_init 20 = .ok (.aload_n 0, 1) := by decide +kernel
theorem dX5_init_21 : decode cX5_init 21 = .ok (.bipush 14, 2) := by decide +kernel
theorem dX5_init_23 : decode cX5_init 23 = .ok (.newarray .int, 2) := by decide +kernel
theorem dX5_init_25 : decode cX5_init 25 = .ok (.putfield 18, 3) := by decide +kernel
theorem dX5_init_28 : decode cX5_init 28 = .ok (.aload_n 0, 1) := by decide +kernel
theorem dX5_init_29 : decode cX5_init 29 = .ok (.bipush 14, 2) := by decide +kernel
theorem dX5_init_31 : decode cX5_init 31 = .ok (.newarray .int, 2) := by decide +kernel
theorem dX5_init_33 : decode cX5_init 33 = .ok (.putfield 21, 3) := by decide +kernel
theorem dX5_init_36 : decode cX5_init 36 = .ok (.aload_n 0, 1) := by decide +kernel
theorem dX5_init_37 : decode cX5_init 37 = .ok (.bipush 14, 2) := by decide +kernel
theorem dX5_init_39 : decode cX5_init 39 = .ok (.newarray .int, 2) := by decide +kernel
theorem dX5_init_41 : decode cX5_init 41 = .ok (.putfield 24, 3) := by decide +kernel
theorem dX5_init_44 : decode cX5_init 44 = .ok (.return_, 1) := by decide +kernel
def F_X5_init (G : Nat → Nat) (h : xH) (a0 : Nat) : Option xH :=
  (nAI G h 14).bind fun (q1, h2) =>
  (xp G h2 (some a0) 5 0 (va_rf (some q1))).bind fun h3 =>
  (nAI G h3 14).bind fun (q4, h5) =>
  (xp G h5 (some a0) 5 1 (va_rf (some q4))).bind fun h6 =>
  (nAI G h6 14).bind fun (q7, h8) =>
  (xp G h8 (some a0) 5 2 (va_rf (some q7))).bind fun h9 =>
  (nAI G h9 14).bind fun (q10, h11) =>
  (xp G h11 (some a0) 5 3 (va_rf (some q10))).bind fun h12 =>
  (nAI G h12 14).bind fun (q13, h14) =>
  (xp G h14 (some a0) 5 4 (va_rf (some q13))).bind fun h15 =>
  some h15
set_option maxHeartbeats 4000000 in
set_option maxRecDepth 100000 in
theorem t_X5_init (l : Launch) (D : va_G) (G : Nat → Nat) (h : xH) (a0 : Nat) (h' : xH) (hF : F_X5_init G h a0 = some h') : xC l yX5_init cX5_init 1 none (rm_X5_init) D G h [.ref a0] none h' := by
  refine xC_of (by decide) (by first | decide | exact Nat.le_of_ble_eq_true rfl) ?_
  intro p e s m args below meth c ls hx hb hr hlk hml hown hnm hts hR hS hl
  have hl : lv_has ls 1 [(0, va_rf (some a0))] := hl
  unfold F_X5_init at hF
  refine x_aload_n (o := (some a0)) hx hb dX5_init_0 rfl (lv_at hl 0 rfl) ?_
  refine x_oinit (o := (some a0)) hx hb hown (hml.trans hl.1.symm) hts mm_133 mm_86 mm_87 rfl dX5_init_1 (by decide) (by decide) (by decide) ?_
  refine x_aload_n (o := (some a0)) hx hb dX5_init_4 rfl (lv_at hl 0 rfl) ?_
  refine lv_bipush (v := 14) hx hb dX5_init_5 (by decide) ?_
  replace hF := xbind hF; obtain ⟨⟨q1, h2⟩, eq1, hF⟩ := hF
  refine x_nAI hx hb hts mm_127 hR hS (by decide) (by decide) (by decide) (by decide) (by decide) eq1 dX5_init_7 (fun H hR hS => ?_)
  replace hF := xbind hF; obtain ⟨h3, eh3, hF⟩ := hF
  refine x_putF (o := (some a0)) (ci := 5) (C := RX5) (T := TX5) (N := 10) hx hb hts iw_X5 tyX5_ok nmX5 hown hR hS rfl 0 (by decide) mm_134 (Or.inl rfl) rfl hnm rfl xnarRA xfitRA eh3 dX5_init_9 (fun H locs hR hS => ?_)
  refine x_aload_n (o := (some a0)) hx hb dX5_init_12 rfl (lv_at hl 0 rfl) ?_
  refine lv_bipush (v := 14) hx hb dX5_init_13 (by decide) ?_
  replace hF := xbind hF; obtain ⟨⟨q4, h5⟩, eq4, hF⟩ := hF
  refine x_nAI hx hb hts mm_127 hR hS (by decide) (by decide) (by decide) (by decide) (by decide) eq4 dX5_init_15 (fun H hR hS => ?_)
  replace hF := xbind hF; obtain ⟨h6, eh6, hF⟩ := hF
  refine x_putF (o := (some a0)) (ci := 5) (C := RX5) (T := TX5) (N := 10) hx hb hts iw_X5 tyX5_ok nmX5 hown hR hS rfl 1 (by decide) mm_135 (Or.inl rfl) rfl hnm rfl xnarRA xfitRA eh6 dX5_init_17 (fun H locs hR hS => ?_)
  refine x_aload_n (o := (some a0)) hx hb dX5_init_20 rfl (lv_at hl 0 rfl) ?_
  refine lv_bipush (v := 14) hx hb dX5_init_21 (by decide) ?_
  replace hF := xbind hF; obtain ⟨⟨q7, h8⟩, eq7, hF⟩ := hF
  refine x_nAI hx hb hts mm_127 hR hS (by decide) (by decide) (by decide) (by decide) (by decide) eq7 dX5_init_23 (fun H hR hS => ?_)
  replace hF := xbind hF; obtain ⟨h9, eh9, hF⟩ := hF
  refine x_putF (o := (some a0)) (ci := 5) (C := RX5) (T := TX5) (N := 10) hx hb hts iw_X5 tyX5_ok nmX5 hown hR hS rfl 2 (by decide) mm_136 (Or.inl rfl) rfl hnm rfl xnarRA xfitRA eh9 dX5_init_25 (fun H locs hR hS => ?_)
  refine x_aload_n (o := (some a0)) hx hb dX5_init_28 rfl (lv_at hl 0 rfl) ?_
  refine lv_bipush (v := 14) hx hb dX5_init_29 (by decide) ?_
  replace hF := xbind hF; obtain ⟨⟨q10, h11⟩, eq10, hF⟩ := hF
  refine x_nAI hx hb hts mm_127 hR hS (by decide) (by decide) (by decide) (by decide) (by decide) eq10 dX5_init_31 (fun H hR hS => ?_)
  replace hF := xbind hF; obtain ⟨h12, eh12, hF⟩ := hF
  refine x_putF (o := (some a0)) (ci := 5) (C := RX5) (T := TX5) (N := 10) hx hb hts iw_X5 tyX5_ok nmX5 hown hR hS rfl 3 (by decide) mm_137 (Or.inl rfl) rfl hnm rfl xnarRA xfitRA eh12 dX5_init_33 (fun H locs hR hS => ?_)
  refine x_aload_n (o := (some a0)) hx hb dX5_init_36 rfl (lv_at hl 0 rfl) ?_
  refine lv_bipush (v := 14) hx hb dX5_init_37 (by decide) ?_
  replace hF := xbind hF; obtain ⟨⟨q13, h14⟩, eq13, hF⟩ := hF
  refine x_nAI hx hb hts mm_127 hR hS (by decide) (by decide) (by decide) (by decide) (by decide) eq13 dX5_init_39 (fun H hR hS => ?_)
  replace hF := xbind hF; obtain ⟨h15, eh15, hF⟩ := hF
  refine x_putF (o := (some a0)) (ci := 5) (C := RX5) (T := TX5) (N := 10) hx hb hts iw_X5 tyX5_ok nmX5 hown hR hS rfl 4 (by decide) mm_138 (Or.inl rfl) rfl hnm rfl xnarRA xfitRA eh15 dX5_init_41 (fun H locs hR hS => ?_)
  cases hF
  exact x_vret hx hb hr hlk hR hS (by decide) (by decide) dX5_init_44
def rm_X5_clear : Room := { frames := 0, cells := 0, slots := 0, locals := 0 }
theorem f_X5_clear : xM yX5_clear cX5_clear 1 none 0 := ⟨mm_784, mm_60, by decide +kernel, by decide +kernel⟩
theorem dX5_clear_0 : decode cX5_clear 0 = .ok (.aload_n 0, 1) := by decide +kernel
theorem dX5_clear_1 : decode cX5_clear 1 = .ok (.iconst 0, 1) := by decide +kernel
theorem dX5_clear_2 : decode cX5_clear 2 = .ok (.putfield 27, 3) := by decide +kernel
theorem dX5_clear_5 : decode cX5_clear 5 = .ok (.return_, 1) := by decide +kernel
def F_X5_clear (G : Nat → Nat) (h : xH) (a0 : Nat) : Option xH :=
  (xp G h (some a0) 5 5 (.int 0)).bind fun h1 =>
  some h1
set_option maxHeartbeats 4000000 in
set_option maxRecDepth 100000 in
theorem t_X5_clear (l : Launch) (D : va_G) (G : Nat → Nat) (h : xH) (a0 : Nat) (h' : xH) (hF : F_X5_clear G h a0 = some h') : xC l yX5_clear cX5_clear 1 none (rm_X5_clear) D G h [.ref a0] none h' := by
  refine xC_of (by decide) (by first | decide | exact Nat.le_of_ble_eq_true rfl) ?_
  intro p e s m args below meth c ls hx hb hr hlk hml hown hnm hts hR hS hl
  have hl : lv_has ls 1 [(0, va_rf (some a0))] := hl
  unfold F_X5_clear at hF
  refine x_aload_n (o := (some a0)) hx hb dX5_clear_0 rfl (lv_at hl 0 rfl) ?_
  refine lv_iconst (v := 0) hx hb dX5_clear_1 (by decide) ?_
  replace hF := xbind hF; obtain ⟨h1, eh1, hF⟩ := hF
  refine x_put (o := (some a0)) (ci := 5) (C := RX5) (T := TX5) (N := 10) hx hb hts iw_X5 tyX5_ok nmX5 hown hR hS rfl 5 (by decide) mm_139 (Or.inl rfl) rfl rfl rfl eh1 dX5_clear_2 (fun H locs hR hS => ?_)
  cases hF
  exact x_vret hx hb hr hlk hR hS (by decide) (by decide) dX5_clear_5
def rm_X5_offer : Room := { frames := 0, cells := 0, slots := 0, locals := 0 }
theorem f_X5_offer : xM yX5_offer cX5_offer 4 none 3 := ⟨mm_788, mm_60, by decide +kernel, by decide +kernel⟩
theorem dX5_offer_0 : decode cX5_offer 0 = .ok (.aload_n 0, 1) := by decide +kernel
theorem dX5_offer_1 : decode cX5_offer 1 = .ok (.getfield 27, 3) := by decide +kernel
theorem dX5_offer_4 : decode cX5_offer 4 = .ok (.ifCond .lt 52, 3) := by decide +kernel
theorem dX5_offer_7 : decode cX5_offer 7 = .ok (.aload_n 0, 1) := by decide +kernel
theorem dX5_offer_8 : decode cX5_offer 8 = .ok (.getfield 27, 3) := by decide +kernel
theorem dX5_offer_11 : decode cX5_offer 11 = .ok (.bipush 14, 2) := by decide +kernel
theorem dX5_offer_13 : decode cX5_offer 13 = .ok (.if_icmp .ge 43, 3) := by decide +kernel
theorem dX5_offer_16 : decode cX5_offer 16 = .ok (.aload_n 0, 1) := by decide +kernel
theorem dX5_offer_17 : decode cX5_offer 17 = .ok (.getfield 9, 3) := by decide +kernel
theorem dX5_offer_20 : decode cX5_offer 20 = .ok (.aload_n 0, 1) := by decide +kernel
theorem dX5_offer_21 : decode cX5_offer 21 = .ok (.getfield 27, 3) := by decide +kernel
theorem dX5_offer_24 : decode cX5_offer 24 = .ok (.iload_n 1, 1) := by decide +kernel
theorem dX5_offer_25 : decode cX5_offer 25 = .ok (.iastore, 1) := by decide +kernel
theorem dX5_offer_26 : decode cX5_offer 26 = .ok (.aload_n 0, 1) := by decide +kernel
theorem dX5_offer_27 : decode cX5_offer 27 = .ok (.getfield 15, 3) := by decide +kernel
theorem dX5_offer_30 : decode cX5_offer 30 = .ok (.aload_n 0, 1) := by decide +kernel
theorem dX5_offer_31 : decode cX5_offer 31 = .ok (.getfield 27, 3) := by decide +kernel
theorem dX5_offer_34 : decode cX5_offer 34 = .ok (.iload_n 2, 1) := by decide +kernel
theorem dX5_offer_35 : decode cX5_offer 35 = .ok (.iastore, 1) := by decide +kernel
theorem dX5_offer_36 : decode cX5_offer 36 = .ok (.aload_n 0, 1) := by decide +kernel
theorem dX5_offer_37 : decode cX5_offer 37 = .ok (.getfield 18, 3) := by decide +kernel
theorem dX5_offer_40 : decode cX5_offer 40 = .ok (.aload_n 0, 1) := by decide +kernel
theorem dX5_offer_41 : decode cX5_offer 41 = .ok (.getfield 27, 3) := by decide +kernel
theorem dX5_offer_44 : decode cX5_offer 44 = .ok (.iload_n 3, 1) := by decide +kernel
theorem dX5_offer_45 : decode cX5_offer 45 = .ok (.iastore, 1) := by decide +kernel
theorem dX5_offer_46 : decode cX5_offer 46 = .ok (.aload_n 0, 1) := by decide +kernel
theorem dX5_offer_47 : decode cX5_offer 47 = .ok (.dup, 1) := by decide +kernel
theorem dX5_offer_48 : decode cX5_offer 48 = .ok (.getfield 27, 3) := by decide +kernel
theorem dX5_offer_51 : decode cX5_offer 51 = .ok (.iconst 1, 1) := by decide +kernel
theorem dX5_offer_52 : decode cX5_offer 52 = .ok (.iadd, 1) := by decide +kernel
theorem dX5_offer_53 : decode cX5_offer 53 = .ok (.putfield 27, 3) := by decide +kernel
theorem dX5_offer_56 : decode cX5_offer 56 = .ok (.return_, 1) := by decide +kernel
def F_X5_offer (G : Nat → Nat) (h : xH) (a0 : Nat) (x1 : Int32) (x2 : Int32) (x3 : Int32) : Option xH :=
  (gI h (some a0) 5 5).bind fun v1 =>
  if v1 < 0 then
    some h
  else
  (gI h (some a0) 5 5).bind fun v3 =>
  if 14 ≤ v3 then
    some h
  else
  (gR h (some a0) 5 0).bind fun w5 =>
  (gI h (some a0) 5 5).bind fun v6 =>
  (stI 2 G h w5 v6 x1).bind fun h7 =>
  (gR h7 (some a0) 5 1).bind fun w8 =>
  (gI h7 (some a0) 5 5).bind fun v9 =>
  (stI 2 G h7 w8 v9 x2).bind fun h10 =>
  (gR h10 (some a0) 5 2).bind fun w11 =>
  (gI h10 (some a0) 5 5).bind fun v12 =>
  (stI 2 G h10 w11 v12 x3).bind fun h13 =>
  (gI h13 (some a0) 5 5).bind fun v14 =>
  (xp G h13 (some a0) 5 5 (.int (v14 + 1))).bind fun h15 =>
  some h15
set_option maxHeartbeats 4000000 in
set_option maxRecDepth 100000 in
theorem t_X5_offer (l : Launch) (D : va_G) (G : Nat → Nat) (h : xH) (a0 : Nat) (x1 : Int32) (x2 : Int32) (x3 : Int32) (h' : xH) (hF : F_X5_offer G h a0 x1 x2 x3 = some h') : xC l yX5_offer cX5_offer 4 none (rm_X5_offer) D G h [.ref a0, .int x1, .int x2, .int x3] none h' := by
  refine xC_of (by decide) (by first | decide | exact Nat.le_of_ble_eq_true rfl) ?_
  intro p e s m args below meth c ls hx hb hr hlk hml hown hnm hts hR hS hl
  have hl : lv_has ls 4 [(0, va_rf (some a0)), (1, .int x1), (2, .int x2), (3, .int x3)] := hl
  unfold F_X5_offer at hF
  refine x_aload_n (o := (some a0)) hx hb dX5_offer_0 rfl (lv_at hl 0 rfl) ?_
  replace hF := xbind hF; obtain ⟨v1, ev1, hF⟩ := hF
  refine x_getI (o := (some a0)) (ci := 5) (C := RX5) (T := TX5) (N := 10) hx hb hts iw_X5 hown hR rfl 5 (by decide) mm_139 (Or.inl rfl) ev1 dX5_offer_1 ?_
  refine lv_if_lt (tgt := 56) hx hb dX5_offer_4 (by decide) (fun c2 => ?_) (fun c2 => ?_)
  · replace hF := xift c2 hF
    cases hF
    exact x_vret hx hb hr hlk hR hS (by decide) (by decide) dX5_offer_56
  · replace hF := xiff c2 hF
    refine x_aload_n (o := (some a0)) hx hb dX5_offer_7 rfl (lv_at hl 0 rfl) ?_
    replace hF := xbind hF; obtain ⟨v3, ev3, hF⟩ := hF
    refine x_getI (o := (some a0)) (ci := 5) (C := RX5) (T := TX5) (N := 10) hx hb hts iw_X5 hown hR rfl 5 (by decide) mm_139 (Or.inl rfl) ev3 dX5_offer_8 ?_
    refine lv_bipush (v := 14) hx hb dX5_offer_11 (by decide) ?_
    refine lv_icmp_ge (tgt := 56) hx hb dX5_offer_13 (by decide) (fun c4 => ?_) (fun c4 => ?_)
    · replace hF := xift c4 hF
      cases hF
      exact x_vret hx hb hr hlk hR hS (by decide) (by decide) dX5_offer_56
    · replace hF := xiff c4 hF
      refine x_aload_n (o := (some a0)) hx hb dX5_offer_16 rfl (lv_at hl 0 rfl) ?_
      replace hF := xbind hF; obtain ⟨w5, ew5, hF⟩ := hF
      refine x_getR (o := (some a0)) (ci := 5) (C := RX5) (T := TX5) (N := 10) hx hb hts iw_X5 hown hR rfl 0 (by decide) mm_134 (Or.inl rfl) ew5 dX5_offer_17 ?_
      refine x_aload_n (o := (some a0)) hx hb dX5_offer_20 rfl (lv_at hl 0 rfl) ?_
      replace hF := xbind hF; obtain ⟨v6, ev6, hF⟩ := hF
      refine x_getI (o := (some a0)) (ci := 5) (C := RX5) (T := TX5) (N := 10) hx hb hts iw_X5 hown hR rfl 5 (by decide) mm_139 (Or.inl rfl) ev6 dX5_offer_21 ?_
      refine lv_iload_n hx hb dX5_offer_24 rfl (lv_at hl 1 rfl) ?_
      replace hF := xbind hF; obtain ⟨h7, eh7, hF⟩ := hF
      refine x_ist (o := w5) hx hb hR hS eh7 dX5_offer_25 (fun H locs hR hS => ?_)
      refine x_aload_n (o := (some a0)) hx hb dX5_offer_26 rfl (lv_at hl 0 rfl) ?_
      replace hF := xbind hF; obtain ⟨w8, ew8, hF⟩ := hF
      refine x_getR (o := (some a0)) (ci := 5) (C := RX5) (T := TX5) (N := 10) hx hb hts iw_X5 hown hR rfl 1 (by decide) mm_135 (Or.inl rfl) ew8 dX5_offer_27 ?_
      refine x_aload_n (o := (some a0)) hx hb dX5_offer_30 rfl (lv_at hl 0 rfl) ?_
      replace hF := xbind hF; obtain ⟨v9, ev9, hF⟩ := hF
      refine x_getI (o := (some a0)) (ci := 5) (C := RX5) (T := TX5) (N := 10) hx hb hts iw_X5 hown hR rfl 5 (by decide) mm_139 (Or.inl rfl) ev9 dX5_offer_31 ?_
      refine lv_iload_n hx hb dX5_offer_34 rfl (lv_at hl 2 rfl) ?_
      replace hF := xbind hF; obtain ⟨h10, eh10, hF⟩ := hF
      refine x_ist (o := w8) hx hb hR hS eh10 dX5_offer_35 (fun H locs hR hS => ?_)
      refine x_aload_n (o := (some a0)) hx hb dX5_offer_36 rfl (lv_at hl 0 rfl) ?_
      replace hF := xbind hF; obtain ⟨w11, ew11, hF⟩ := hF
      refine x_getR (o := (some a0)) (ci := 5) (C := RX5) (T := TX5) (N := 10) hx hb hts iw_X5 hown hR rfl 2 (by decide) mm_136 (Or.inl rfl) ew11 dX5_offer_37 ?_
      refine x_aload_n (o := (some a0)) hx hb dX5_offer_40 rfl (lv_at hl 0 rfl) ?_
      replace hF := xbind hF; obtain ⟨v12, ev12, hF⟩ := hF
      refine x_getI (o := (some a0)) (ci := 5) (C := RX5) (T := TX5) (N := 10) hx hb hts iw_X5 hown hR rfl 5 (by decide) mm_139 (Or.inl rfl) ev12 dX5_offer_41 ?_
      refine lv_iload_n hx hb dX5_offer_44 rfl (lv_at hl 3 rfl) ?_
      replace hF := xbind hF; obtain ⟨h13, eh13, hF⟩ := hF
      refine x_ist (o := w11) hx hb hR hS eh13 dX5_offer_45 (fun H locs hR hS => ?_)
      refine x_aload_n (o := (some a0)) hx hb dX5_offer_46 rfl (lv_at hl 0 rfl) ?_
      refine lv_dup hx hb dX5_offer_47 xrf_cat ?_
      replace hF := xbind hF; obtain ⟨v14, ev14, hF⟩ := hF
      refine x_getI (o := (some a0)) (ci := 5) (C := RX5) (T := TX5) (N := 10) hx hb hts iw_X5 hown hR rfl 5 (by decide) mm_139 (Or.inl rfl) ev14 dX5_offer_48 ?_
      refine lv_iconst (v := 1) hx hb dX5_offer_51 (by decide) ?_
      refine lv_iadd hx hb dX5_offer_52 ?_
      replace hF := xbind hF; obtain ⟨h15, eh15, hF⟩ := hF
      refine x_put (o := (some a0)) (ci := 5) (C := RX5) (T := TX5) (N := 10) hx hb hts iw_X5 tyX5_ok nmX5 hown hR hS rfl 5 (by decide) mm_139 (Or.inl rfl) rfl rfl rfl eh15 dX5_offer_53 (fun H locs hR hS => ?_)
      cases hF
      exact x_vret hx hb hr hlk hR hS (by decide) (by decide) dX5_offer_56
def rm_X5_chosenAt : Room := { frames := 0, cells := 0, slots := 0, locals := 0 }
theorem f_X5_chosenAt : xM yX5_chosenAt cX5_chosenAt 2 (some .int) 1 := ⟨mm_826, mm_60, by decide +kernel, by decide +kernel⟩
theorem dX5_chosenAt_0 : decode cX5_chosenAt 0 = .ok (.iload_n 1, 1) := by decide +kernel
theorem dX5_chosenAt_1 : decode cX5_chosenAt 1 = .ok (.ifCond .lt 26, 3) := by decide +kernel
theorem dX5_chosenAt_4 : decode cX5_chosenAt 4 = .ok (.iload_n 1, 1) := by decide +kernel
theorem dX5_chosenAt_5 : decode cX5_chosenAt 5 = .ok (.aload_n 0, 1) := by decide +kernel
theorem dX5_chosenAt_6 : decode cX5_chosenAt 6 = .ok (.getfield 50, 3) := by decide +kernel
theorem dX5_chosenAt_9 : decode cX5_chosenAt 9 = .ok (.if_icmp .ge 18, 3) := by decide +kernel
theorem dX5_chosenAt_12 : decode cX5_chosenAt 12 = .ok (.iload_n 1, 1) := by decide +kernel
theorem dX5_chosenAt_13 : decode cX5_chosenAt 13 = .ok (.bipush 14, 2) := by decide +kernel
theorem dX5_chosenAt_15 : decode cX5_chosenAt 15 = .ok (.if_icmp .ge 12, 3) := by decide +kernel
theorem dX5_chosenAt_18 : decode cX5_chosenAt 18 = .ok (.aload_n 0, 1) := by decide +kernel
theorem dX5_chosenAt_19 : decode cX5_chosenAt 19 = .ok (.getfield 24, 3) := by decide +kernel
theorem dX5_chosenAt_22 : decode cX5_chosenAt 22 = .ok (.iload_n 1, 1) := by decide +kernel
theorem dX5_chosenAt_23 : decode cX5_chosenAt 23 = .ok (.iaload, 1) := by decide +kernel
theorem dX5_chosenAt_24 : decode cX5_chosenAt 24 = .ok (.goto 4, 3) := by decide +kernel
theorem dX5_chosenAt_27 : decode cX5_chosenAt 27 = .ok (.iconst (-1), 1) := by decide +kernel
theorem dX5_chosenAt_28 : decode cX5_chosenAt 28 = .ok (.ireturn, 1) := by decide +kernel
def F_X5_chosenAt (G : Nat → Nat) (h : xH) (a0 : Nat) (x1 : Int32) : Option Int32 :=
  if x1 < 0 then
    some (-1)
  else
  (gI h (some a0) 5 6).bind fun v2 =>
  if v2 ≤ x1 then
    some (-1)
  else
  if 14 ≤ x1 then
    some (-1)
  else
  (gR h (some a0) 5 4).bind fun w5 =>
  (ldI 2 G h w5 x1).bind fun v6 =>
  some v6
set_option maxHeartbeats 4000000 in
set_option maxRecDepth 100000 in
theorem t_X5_chosenAt (l : Launch) (D : va_G) (G : Nat → Nat) (h : xH) (a0 : Nat) (x1 : Int32) (r : Int32) (hF : F_X5_chosenAt G h a0 x1 = some r) : xC l yX5_chosenAt cX5_chosenAt 2 (some .int) (rm_X5_chosenAt) D G h [.ref a0, .int x1] (some (.int r)) h := by
  refine xC_of (by decide) (by first | decide | exact Nat.le_of_ble_eq_true rfl) ?_
  intro p e s m args below meth c ls hx hb hr hlk hml hown hnm hts hR hS hl
  have hl : lv_has ls 2 [(0, va_rf (some a0)), (1, .int x1)] := hl
  unfold F_X5_chosenAt at hF
  refine lv_iload_n hx hb dX5_chosenAt_0 rfl (lv_at hl 1 rfl) ?_
  refine lv_if_lt (tgt := 27) hx hb dX5_chosenAt_1 (by decide) (fun c1 => ?_) (fun c1 => ?_)
  · replace hF := xift c1 hF
    refine lv_iconst (v := (-1)) hx hb dX5_chosenAt_27 (by decide) ?_
    cases hF
    exact x_iret hx hb hr rfl hlk hR hS (by decide) (by decide) dX5_chosenAt_28
  · replace hF := xiff c1 hF
    refine lv_iload_n hx hb dX5_chosenAt_4 rfl (lv_at hl 1 rfl) ?_
    refine x_aload_n (o := (some a0)) hx hb dX5_chosenAt_5 rfl (lv_at hl 0 rfl) ?_
    replace hF := xbind hF; obtain ⟨v2, ev2, hF⟩ := hF
    refine x_getI (o := (some a0)) (ci := 5) (C := RX5) (T := TX5) (N := 10) hx hb hts iw_X5 hown hR rfl 6 (by decide) mm_140 (Or.inl rfl) ev2 dX5_chosenAt_6 ?_
    refine lv_icmp_ge (tgt := 27) hx hb dX5_chosenAt_9 (by decide) (fun c3 => ?_) (fun c3 => ?_)
    · replace hF := xift c3 hF
      refine lv_iconst (v := (-1)) hx hb dX5_chosenAt_27 (by decide) ?_
      cases hF
      exact x_iret hx hb hr rfl hlk hR hS (by decide) (by decide) dX5_chosenAt_28
    · replace hF := xiff c3 hF
      refine lv_iload_n hx hb dX5_chosenAt_12 rfl (lv_at hl 1 rfl) ?_
      refine lv_bipush (v := 14) hx hb dX5_chosenAt_13 (by decide) ?_
      refine lv_icmp_ge (tgt := 27) hx hb dX5_chosenAt_15 (by decide) (fun c4 => ?_) (fun c4 => ?_)
      · replace hF := xift c4 hF
        refine lv_iconst (v := (-1)) hx hb dX5_chosenAt_27 (by decide) ?_
        cases hF
        exact x_iret hx hb hr rfl hlk hR hS (by decide) (by decide) dX5_chosenAt_28
      · replace hF := xiff c4 hF
        refine x_aload_n (o := (some a0)) hx hb dX5_chosenAt_18 rfl (lv_at hl 0 rfl) ?_
        replace hF := xbind hF; obtain ⟨w5, ew5, hF⟩ := hF
        refine x_getR (o := (some a0)) (ci := 5) (C := RX5) (T := TX5) (N := 10) hx hb hts iw_X5 hown hR rfl 4 (by decide) mm_138 (Or.inl rfl) ew5 dX5_chosenAt_19 ?_
        refine lv_iload_n hx hb dX5_chosenAt_22 rfl (lv_at hl 1 rfl) ?_
        replace hF := xbind hF; obtain ⟨v6, ev6, hF⟩ := hF
        refine x_ild (o := w5) hx hb hR ev6 dX5_chosenAt_23 ?_
        refine lv_goto (tgt := 28) hx hb dX5_chosenAt_24 (by decide) ?_
        cases hF
        exact x_iret hx hb hr rfl hlk hR hS (by decide) (by decide) dX5_chosenAt_28
def rm_X5_addUpWorths : Room := { frames := 0, cells := 0, slots := 0, locals := 0 }
theorem f_X5_addUpWorths : xM yX5_addUpWorths cX5_addUpWorths 3 none 0 := ⟨mm_796, mm_60, by decide +kernel, by decide +kernel⟩
theorem dX5_addUpWorths_0 : decode cX5_addUpWorths 0 = .ok (.iconst 0, 1) := by decide +kernel
theorem dX5_addUpWorths_1 : decode cX5_addUpWorths 1 = .ok (.istore_n 1, 1) := by decide +kernel
theorem dX5_addUpWorths_2 : decode cX5_addUpWorths 2 = .ok (.bipush 13, 2) := by decide +kernel
theorem dX5_addUpWorths_4 : decode cX5_addUpWorths 4 = .ok (.istore_n 2, 1) := by decide +kernel
theorem dX5_addUpWorths_5 : decode cX5_addUpWorths 5 = .ok (.iload_n 2, 1) := by decide +kernel
theorem dX5_addUpWorths_6 : decode cX5_addUpWorths 6 = .ok (.ifCond .lt 33, 3) := by decide +kernel
theorem dX5_addUpWorths_9 : decode cX5_addUpWorths 9 = .ok (.iload_n 2, 1) := by decide +kernel
theorem dX5_addUpWorths_10 : decode cX5_addUpWorths 10 = .ok (.aload_n 0, 1) := by decide +kernel
theorem dX5_addUpWorths_11 : decode cX5_addUpWorths 11 = .ok (.getfield 27, 3) := by decide +kernel
theorem dX5_addUpWorths_14 : decode cX5_addUpWorths 14 = .ok (.if_icmp .ge 12, 3) := by decide +kernel
theorem dX5_addUpWorths_17 : decode cX5_addUpWorths 17 = .ok (.iload_n 1, 1) := by decide +kernel
theorem dX5_addUpWorths_18 : decode cX5_addUpWorths 18 = .ok (.aload_n 0, 1) := by decide +kernel
theorem dX5_addUpWorths_19 : decode cX5_addUpWorths 19 = .ok (.getfield 18, 3) := by decide +kernel
theorem dX5_addUpWorths_22 : decode cX5_addUpWorths 22 = .ok (.iload_n 2, 1) := by decide +kernel
theorem dX5_addUpWorths_23 : decode cX5_addUpWorths 23 = .ok (.iaload, 1) := by decide +kernel
theorem dX5_addUpWorths_24 : decode cX5_addUpWorths 24 = .ok (.iadd, 1) := by decide +kernel
theorem dX5_addUpWorths_25 : decode cX5_addUpWorths 25 = .ok (.istore_n 1, 1) := by decide +kernel
theorem dX5_addUpWorths_26 : decode cX5_addUpWorths 26 = .ok (.aload_n 0, 1) := by decide +kernel
theorem dX5_addUpWorths_27 : decode cX5_addUpWorths 27 = .ok (.getfield 21, 3) := by decide +kernel
theorem dX5_addUpWorths_30 : decode cX5_addUpWorths 30 = .ok (.iload_n 2, 1) := by decide +kernel
theorem dX5_addUpWorths_31 : decode cX5_addUpWorths 31 = .ok (.iload_n 1, 1) := by decide +kernel
theorem dX5_addUpWorths_32 : decode cX5_addUpWorths 32 = .ok (.iastore, 1) := by decide +kernel
theorem dX5_addUpWorths_33 : decode cX5_addUpWorths 33 = .ok (.iinc 2 (-1), 3) := by decide +kernel
theorem dX5_addUpWorths_36 : decode cX5_addUpWorths 36 = .ok (.goto (-31), 3) := by decide +kernel
theorem dX5_addUpWorths_39 : decode cX5_addUpWorths 39 = .ok (.return_, 1) := by decide +kernel
def F_X5_addUpWorths_5 (G : Nat → Nat) (a0 : Nat) : Nat → xH → Int32 → Int32 → Option xH
  | 0, _, _, _ => none
  | n + 1, h, x1, x2 =>
    if x2 < 0 then
      some h
    else
    (gI h (some a0) 5 5).bind fun v2 =>
    if v2 ≤ x2 then
      (gR h (some a0) 5 3).bind fun w4 =>
      (stI 2 G h w4 x2 x1).bind fun h5 =>
      xl (x2 + (-1)) fun v6 =>
      F_X5_addUpWorths_5 G a0 n h5 x1 v6
    else
    (gR h (some a0) 5 2).bind fun w7 =>
    (ldI 2 G h w7 x2).bind fun v8 =>
    xl (x1 + v8) fun v9 =>
    (gR h (some a0) 5 3).bind fun w10 =>
    (stI 2 G h w10 x2 v9).bind fun h11 =>
    xl (x2 + (-1)) fun v12 =>
    F_X5_addUpWorths_5 G a0 n h11 v9 v12
set_option maxHeartbeats 4000000 in
set_option maxRecDepth 100000 in
theorem tl_X5_addUpWorths_5 {p : Program} {l : Launch} {e : Env} {s : State} {m : MethodId} {args : Array Value} {below : List Frame} {meth : Method} {c : Code} {D : va_G} {h' : xH} (hx : p.tables.exec = Jvm.exec) (hb : c.code = cX5_addUpWorths) (hr : meth.sig.returnType = none) (hlk : meth.locks = false) (hml : c.maxLocals = 3) (hown : s.vm.findClass RX5 = some m.cls) (hnm : meth.name = "addUpWorths") (hts : ∀ w ∈ xt, w.before args s = true) (G : Nat → Nat) (a0 : Nat) : ∀ (n : Nat) (h : xH) (x1 : Int32) (x2 : Int32) (H : Heap) (locs : List Loc) (ls : Array Slot), F_X5_addUpWorths_5 G a0 n h x1 x2 = some h' → xR D G h s H → va_S (xA G) s.heap H locs → lv_has ls 3 [(0, va_rf (some a0)), (1, .int x1), (2, .int x2)] → W p l e rm_X5_addUpWorths s m args below meth c H locs 0 0 (MQ below (xQ D G none h') args s rm_X5_addUpWorths.cells rm_X5_addUpWorths.slots (xA G)) (F0 m 5 ls []) := by
  intro n
  induction n with
  | zero =>
    intro h x1 x2 H locs ls hF
    rw [F_X5_addUpWorths_5.eq_1] at hF
    cases hF
  | succ n ih =>
    intro h x1 x2 H locs ls hF hR hS hl
    rw [F_X5_addUpWorths_5.eq_2] at hF
    refine lv_iload_n hx hb dX5_addUpWorths_5 rfl (lv_at hl 2 rfl) ?_
    refine lv_if_lt (tgt := 39) hx hb dX5_addUpWorths_6 (by decide) (fun c1 => ?_) (fun c1 => ?_)
    · replace hF := xift c1 hF
      cases hF
      exact x_vret hx hb hr hlk hR hS (by decide) (by decide) dX5_addUpWorths_39
    · replace hF := xiff c1 hF
      refine lv_iload_n hx hb dX5_addUpWorths_9 rfl (lv_at hl 2 rfl) ?_
      refine x_aload_n (o := (some a0)) hx hb dX5_addUpWorths_10 rfl (lv_at hl 0 rfl) ?_
      replace hF := xbind hF; obtain ⟨v2, ev2, hF⟩ := hF
      refine x_getI (o := (some a0)) (ci := 5) (C := RX5) (T := TX5) (N := 10) hx hb hts iw_X5 hown hR rfl 5 (by decide) mm_139 (Or.inl rfl) ev2 dX5_addUpWorths_11 ?_
      refine lv_icmp_ge (tgt := 26) hx hb dX5_addUpWorths_14 (by decide) (fun c3 => ?_) (fun c3 => ?_)
      · replace hF := xift c3 hF
        refine x_aload_n (o := (some a0)) hx hb dX5_addUpWorths_26 rfl (lv_at hl 0 rfl) ?_
        replace hF := xbind hF; obtain ⟨w4, ew4, hF⟩ := hF
        refine x_getR (o := (some a0)) (ci := 5) (C := RX5) (T := TX5) (N := 10) hx hb hts iw_X5 hown hR rfl 3 (by decide) mm_137 (Or.inl rfl) ew4 dX5_addUpWorths_27 ?_
        refine lv_iload_n hx hb dX5_addUpWorths_30 rfl (lv_at hl 2 rfl) ?_
        refine lv_iload_n hx hb dX5_addUpWorths_31 rfl (lv_at hl 1 rfl) ?_
        replace hF := xbind hF; obtain ⟨h5, eh5, hF⟩ := hF
        refine x_ist (o := w4) hx hb hR hS eh5 dX5_addUpWorths_32 (fun H locs hR hS => ?_)
        obtain ⟨v6, ev6⟩ : ∃ z : Int32, z = (x2 + (-1)) := ⟨_, rfl⟩
        replace hF := xlet ev6 hF
        refine lv_iinc (v := v6) (lv' := [(2, .int v6), (0, va_rf (some a0)), (1, .int x1)]) hx hb dX5_addUpWorths_33 hl (k := 2) rfl (by rw [ev6]; rfl) (by decide) (by first | rfl | (simp [xrf_cat, xcI, xcJ, xcA]; done) | (simp [xrf_cat, xcI, xcJ, xcA]; decide)) (fun ls hl => ?_)
        refine lv_goto (tgt := 5) hx hb dX5_addUpWorths_36 (by decide) ?_
        exact ih h5 x1 v6 _ _ _ hF hR hS (lv_sub hl [1, 2, 0] rfl)
      · replace hF := xiff c3 hF
        refine lv_iload_n hx hb dX5_addUpWorths_17 rfl (lv_at hl 1 rfl) ?_
        refine x_aload_n (o := (some a0)) hx hb dX5_addUpWorths_18 rfl (lv_at hl 0 rfl) ?_
        replace hF := xbind hF; obtain ⟨w7, ew7, hF⟩ := hF
        refine x_getR (o := (some a0)) (ci := 5) (C := RX5) (T := TX5) (N := 10) hx hb hts iw_X5 hown hR rfl 2 (by decide) mm_136 (Or.inl rfl) ew7 dX5_addUpWorths_19 ?_
        refine lv_iload_n hx hb dX5_addUpWorths_22 rfl (lv_at hl 2 rfl) ?_
        replace hF := xbind hF; obtain ⟨v8, ev8, hF⟩ := hF
        refine x_ild (o := w7) hx hb hR ev8 dX5_addUpWorths_23 ?_
        refine lv_iadd hx hb dX5_addUpWorths_24 ?_
        refine lv_topi (fun v9 ev9 => ?_)
        replace hF := xlet ev9 hF
        refine lv_istore_n (lv' := [(1, .int v9), (0, va_rf (some a0)), (2, .int x2)]) hx hb dX5_addUpWorths_25 rfl hl (by decide) (by first | rfl | (simp [xrf_cat, xcI, xcJ, xcA]; done) | (simp [xrf_cat, xcI, xcJ, xcA]; decide)) (fun ls hl => ?_)
        refine x_aload_n (o := (some a0)) hx hb dX5_addUpWorths_26 rfl (lv_at hl 1 rfl) ?_
        replace hF := xbind hF; obtain ⟨w10, ew10, hF⟩ := hF
        refine x_getR (o := (some a0)) (ci := 5) (C := RX5) (T := TX5) (N := 10) hx hb hts iw_X5 hown hR rfl 3 (by decide) mm_137 (Or.inl rfl) ew10 dX5_addUpWorths_27 ?_
        refine lv_iload_n hx hb dX5_addUpWorths_30 rfl (lv_at hl 2 rfl) ?_
        refine lv_iload_n hx hb dX5_addUpWorths_31 rfl (lv_at hl 0 rfl) ?_
        replace hF := xbind hF; obtain ⟨h11, eh11, hF⟩ := hF
        refine x_ist (o := w10) hx hb hR hS eh11 dX5_addUpWorths_32 (fun H locs hR hS => ?_)
        obtain ⟨v12, ev12⟩ : ∃ z : Int32, z = (x2 + (-1)) := ⟨_, rfl⟩
        replace hF := xlet ev12 hF
        refine lv_iinc (v := v12) (lv' := [(2, .int v12), (1, .int v9), (0, va_rf (some a0))]) hx hb dX5_addUpWorths_33 hl (k := 2) rfl (by rw [ev12]; rfl) (by decide) (by first | rfl | (simp [xrf_cat, xcI, xcJ, xcA]; done) | (simp [xrf_cat, xcI, xcJ, xcA]; decide)) (fun ls hl => ?_)
        refine lv_goto (tgt := 5) hx hb dX5_addUpWorths_36 (by decide) ?_
        exact ih h11 v9 v12 _ _ _ hF hR hS (lv_sub hl [2, 1, 0] rfl)
def F_X5_addUpWorths (G : Nat → Nat) (h : xH) (a0 : Nat) : Option xH :=
  F_X5_addUpWorths_5 G a0 xN h 0 13
set_option maxHeartbeats 4000000 in
set_option maxRecDepth 100000 in
theorem t_X5_addUpWorths (l : Launch) (D : va_G) (G : Nat → Nat) (h : xH) (a0 : Nat) (h' : xH) (hF : F_X5_addUpWorths G h a0 = some h') : xC l yX5_addUpWorths cX5_addUpWorths 3 none (rm_X5_addUpWorths) D G h [.ref a0] none h' := by
  refine xC_of (by decide) (by first | decide | exact Nat.le_of_ble_eq_true rfl) ?_
  intro p e s m args below meth c ls hx hb hr hlk hml hown hnm hts hR hS hl
  have hl : lv_has ls 3 [(0, va_rf (some a0))] := hl
  unfold F_X5_addUpWorths at hF
  refine lv_iconst (v := 0) hx hb dX5_addUpWorths_0 (by decide) ?_
  refine lv_istore_n (lv' := [(1, .int 0), (0, va_rf (some a0))]) hx hb dX5_addUpWorths_1 rfl hl (by decide) (by first | rfl | (simp [xrf_cat, xcI, xcJ, xcA]; done) | (simp [xrf_cat, xcI, xcJ, xcA]; decide)) (fun ls hl => ?_)
  refine lv_bipush (v := 13) hx hb dX5_addUpWorths_2 (by decide) ?_
  refine lv_istore_n (lv' := [(2, .int 13), (1, .int 0), (0, va_rf (some a0))]) hx hb dX5_addUpWorths_4 rfl hl (by decide) (by first | rfl | (simp [xrf_cat, xcI, xcJ, xcA]; done) | (simp [xrf_cat, xcI, xcJ, xcA]; decide)) (fun ls hl => ?_)
  refine W.widen (k := 0) (n := 0) (by decide) (by decide) ?_
  exact tl_X5_addUpWorths_5 hx hb hr hlk hml hown hnm hts G a0 _ h 0 13 _ _ _ hF hR hS (lv_sub hl [2, 1, 0] rfl)
def rm_X5_isBetter : Room := { frames := 0, cells := 0, slots := 0, locals := 0 }
theorem f_X5_isBetter : xM yX5_isBetter cX5_isBetter 3 (some .boolean) 2 := ⟨mm_810, mm_60, by decide +kernel, by decide +kernel⟩
theorem dX5_isBetter_0 : decode cX5_isBetter 0 = .ok (.iload_n 1, 1) := by decide +kernel
theorem dX5_isBetter_1 : decode cX5_isBetter 1 = .ok (.aload_n 0, 1) := by decide +kernel
theorem dX5_isBetter_2 : decode cX5_isBetter 2 = .ok (.getfield 37, 3) := by decide +kernel
theorem dX5_isBetter_5 : decode cX5_isBetter 5 = .ok (.if_icmp .gt 19, 3) := by decide +kernel
theorem dX5_isBetter_8 : decode cX5_isBetter 8 = .ok (.iload_n 1, 1) := by decide +kernel
theorem dX5_isBetter_9 : decode cX5_isBetter 9 = .ok (.aload_n 0, 1) := by decide +kernel
theorem dX5_isBetter_10 : decode cX5_isBetter 10 = .ok (.getfield 37, 3) := by decide +kernel
theorem dX5_isBetter_13 : decode cX5_isBetter 13 = .ok (.if_icmp .ne 15, 3) := by decide +kernel
theorem dX5_isBetter_16 : decode cX5_isBetter 16 = .ok (.iload_n 2, 1) := by decide +kernel
theorem dX5_isBetter_17 : decode cX5_isBetter 17 = .ok (.aload_n 0, 1) := by decide +kernel
theorem dX5_isBetter_18 : decode cX5_isBetter 18 = .ok (.getfield 34, 3) := by decide +kernel
theorem dX5_isBetter_21 : decode cX5_isBetter 21 = .ok (.if_icmp .ge 7, 3) := by decide +kernel
theorem dX5_isBetter_24 : decode cX5_isBetter 24 = .ok (.iconst 1, 1) := by decide +kernel
theorem dX5_isBetter_25 : decode cX5_isBetter 25 = .ok (.goto 4, 3) := by decide +kernel
theorem dX5_isBetter_28 : decode cX5_isBetter 28 = .ok (.iconst 0, 1) := by decide +kernel
theorem dX5_isBetter_29 : decode cX5_isBetter 29 = .ok (.ireturn, 1) := by decide +kernel
def F_X5_isBetter (G : Nat → Nat) (h : xH) (a0 : Nat) (x1 : Int32) (x2 : Int32) : Option Int32 :=
  (gI h (some a0) 5 9).bind fun v1 =>
  if v1 < x1 then
    some 1
  else
  (gI h (some a0) 5 9).bind fun v3 =>
  if x1 = v3 then
    (gI h (some a0) 5 8).bind fun v5 =>
    if v5 ≤ x2 then
      some 0
    else
    some 1
  else
  some 0
set_option maxHeartbeats 4000000 in
set_option maxRecDepth 100000 in
theorem t_X5_isBetter (l : Launch) (D : va_G) (G : Nat → Nat) (h : xH) (a0 : Nat) (x1 : Int32) (x2 : Int32) (r : Int32) (hF : F_X5_isBetter G h a0 x1 x2 = some r) : xC l yX5_isBetter cX5_isBetter 3 (some .boolean) (rm_X5_isBetter) D G h [.ref a0, .int x1, .int x2] (some (.int r)) h := by
  refine xC_of (by decide) (by first | decide | exact Nat.le_of_ble_eq_true rfl) ?_
  intro p e s m args below meth c ls hx hb hr hlk hml hown hnm hts hR hS hl
  have hl : lv_has ls 3 [(0, va_rf (some a0)), (1, .int x1), (2, .int x2)] := hl
  unfold F_X5_isBetter at hF
  refine lv_iload_n hx hb dX5_isBetter_0 rfl (lv_at hl 1 rfl) ?_
  refine x_aload_n (o := (some a0)) hx hb dX5_isBetter_1 rfl (lv_at hl 0 rfl) ?_
  replace hF := xbind hF; obtain ⟨v1, ev1, hF⟩ := hF
  refine x_getI (o := (some a0)) (ci := 5) (C := RX5) (T := TX5) (N := 10) hx hb hts iw_X5 hown hR rfl 9 (by decide) mm_143 (Or.inl rfl) ev1 dX5_isBetter_2 ?_
  refine lv_icmp_gt (tgt := 24) hx hb dX5_isBetter_5 (by decide) (fun c2 => ?_) (fun c2 => ?_)
  · replace hF := xift c2 hF
    refine lv_iconst (v := 1) hx hb dX5_isBetter_24 (by decide) ?_
    refine lv_goto (tgt := 29) hx hb dX5_isBetter_25 (by decide) ?_
    cases hF
    exact x_iret hx hb hr rfl hlk hR hS (by decide) (by decide) dX5_isBetter_29
  · replace hF := xiff c2 hF
    refine lv_iload_n hx hb dX5_isBetter_8 rfl (lv_at hl 1 rfl) ?_
    refine x_aload_n (o := (some a0)) hx hb dX5_isBetter_9 rfl (lv_at hl 0 rfl) ?_
    replace hF := xbind hF; obtain ⟨v3, ev3, hF⟩ := hF
    refine x_getI (o := (some a0)) (ci := 5) (C := RX5) (T := TX5) (N := 10) hx hb hts iw_X5 hown hR rfl 9 (by decide) mm_143 (Or.inl rfl) ev3 dX5_isBetter_10 ?_
    refine lv_icmp_ne (tgt := 28) hx hb dX5_isBetter_13 (by decide) (fun c4 => ?_) (fun c4 => ?_)
    · replace hF := xiff c4 hF
      refine lv_iconst (v := 0) hx hb dX5_isBetter_28 (by decide) ?_
      cases hF
      exact x_iret hx hb hr rfl hlk hR hS (by decide) (by decide) dX5_isBetter_29
    · replace hF := xift c4 hF
      refine lv_iload_n hx hb dX5_isBetter_16 rfl (lv_at hl 2 rfl) ?_
      refine x_aload_n (o := (some a0)) hx hb dX5_isBetter_17 rfl (lv_at hl 0 rfl) ?_
      replace hF := xbind hF; obtain ⟨v5, ev5, hF⟩ := hF
      refine x_getI (o := (some a0)) (ci := 5) (C := RX5) (T := TX5) (N := 10) hx hb hts iw_X5 hown hR rfl 8 (by decide) mm_142 (Or.inl rfl) ev5 dX5_isBetter_18 ?_
      refine lv_icmp_ge (tgt := 28) hx hb dX5_isBetter_21 (by decide) (fun c6 => ?_) (fun c6 => ?_)
      · replace hF := xift c6 hF
        refine lv_iconst (v := 0) hx hb dX5_isBetter_28 (by decide) ?_
        cases hF
        exact x_iret hx hb hr rfl hlk hR hS (by decide) (by decide) dX5_isBetter_29
      · replace hF := xiff c6 hF
        refine lv_iconst (v := 1) hx hb dX5_isBetter_24 (by decide) ?_
        refine lv_goto (tgt := 29) hx hb dX5_isBetter_25 (by decide) ?_
        cases hF
        exact x_iret hx hb hr rfl hlk hR hS (by decide) (by decide) dX5_isBetter_29
def rm_X5_keepBest : Room := { frames := 0, cells := 0, slots := 0, locals := 0 }
theorem f_X5_keepBest : xM yX5_keepBest cX5_keepBest 2 none 0 := ⟨mm_818, mm_60, by decide +kernel, by decide +kernel⟩
theorem dX5_keepBest_0 : decode cX5_keepBest 0 = .ok (.aload_n 0, 1) := by decide +kernel
theorem dX5_keepBest_1 : decode cX5_keepBest 1 = .ok (.iconst 0, 1) := by decide +kernel
theorem dX5_keepBest_2 : decode cX5_keepBest 2 = .ok (.putfield 50, 3) := by decide +kernel
theorem dX5_keepBest_5 : decode cX5_keepBest 5 = .ok (.iconst 0, 1) := by decide +kernel
theorem dX5_keepBest_6 : decode cX5_keepBest 6 = .ok (.istore_n 1, 1) := by decide +kernel
theorem dX5_keepBest_7 : decode cX5_keepBest 7 = .ok (.iload_n 1, 1) := by decide +kernel
theorem dX5_keepBest_8 : decode cX5_keepBest 8 = .ok (.aload_n 0, 1) := by decide +kernel
theorem dX5_keepBest_9 : decode cX5_keepBest 9 = .ok (.getfield 27, 3) := by decide +kernel
theorem dX5_keepBest_12 : decode cX5_keepBest 12 = .ok (.if_icmp .ge 60, 3) := by decide +kernel
theorem dX5_keepBest_15 : decode cX5_keepBest 15 = .ok (.iload_n 1, 1) := by decide +kernel
theorem dX5_keepBest_16 : decode cX5_keepBest 16 = .ok (.bipush 14, 2) := by decide +kernel
theorem dX5_keepBest_18 : decode cX5_keepBest 18 = .ok (.if_icmp .ge 54, 3) := by decide +kernel
theorem dX5_keepBest_21 : decode cX5_keepBest 21 = .ok (.aload_n 0, 1) := by decide +kernel
theorem dX5_keepBest_22 : decode cX5_keepBest 22 = .ok (.getfield 31, 3) := by decide +kernel
theorem dX5_keepBest_25 : decode cX5_keepBest 25 = .ok (.iconst 1, 1) := by decide +kernel
theorem dX5_keepBest_26 : decode cX5_keepBest 26 = .ok (.iload_n 1, 1) := by decide +kernel
theorem dX5_keepBest_27 : decode cX5_keepBest 27 = .ok (.ishl, 1) := by decide +kernel
theorem dX5_keepBest_28 : decode cX5_keepBest 28 = .ok (.iand, 1) := by decide +kernel
theorem dX5_keepBest_29 : decode cX5_keepBest 29 = .ok (.ifCond .eq 37, 3) := by decide +kernel
theorem dX5_keepBest_32 : decode cX5_keepBest 32 = .ok (.aload_n 0, 1) := by decide +kernel
theorem dX5_keepBest_33 : decode cX5_keepBest 33 = .ok (.getfield 50, 3) := by decide +kernel
theorem dX5_keepBest_36 : decode cX5_keepBest 36 = .ok (.bipush 14, 2) := by decide +kernel
theorem dX5_keepBest_38 : decode cX5_keepBest 38 = .ok (.if_icmp .ge 28, 3) := by decide +kernel
theorem dX5_keepBest_41 : decode cX5_keepBest 41 = .ok (.aload_n 0, 1) := by decide +kernel
theorem dX5_keepBest_42 : decode cX5_keepBest 42 = .ok (.getfield 24, 3) := by decide +kernel
theorem dX5_keepBest_45 : decode cX5_keepBest 45 = .ok (.aload_n 0, 1) := by decide +kernel
theorem dX5_keepBest_46 : decode cX5_keepBest 46 = .ok (.getfield 50, 3) := by decide +kernel
theorem dX5_keepBest_49 : decode cX5_keepBest 49 = .ok (.aload_n 0, 1) := by decide +kernel
theorem dX5_keepBest_50 : decode cX5_keepBest 50 = .ok (.getfield 9, 3) := by decide +kernel
theorem dX5_keepBest_53 : decode cX5_keepBest 53 = .ok (.iload_n 1, 1) := by decide +kernel
theorem dX5_keepBest_54 : decode cX5_keepBest 54 = .ok (.iaload, 1) := by decide +kernel
theorem dX5_keepBest_55 : decode cX5_keepBest 55 = .ok (.iastore, 1) := by decide +kernel
theorem dX5_keepBest_56 : decode cX5_keepBest 56 = .ok (.aload_n 0, 1) := by decide +kernel
theorem dX5_keepBest_57 : decode cX5_keepBest 57 = .ok (.dup, 1) := by decide +kernel
theorem dX5_keepBest_58 : decode cX5_keepBest 58 = .ok (.getfield 50, 3) := by decide +kernel
theorem dX5_keepBest_61 : decode cX5_keepBest 61 = .ok (.iconst 1, 1) := by decide +kernel
theorem dX5_keepBest_62 : decode cX5_keepBest 62 = .ok (.iadd, 1) := by decide +kernel
theorem dX5_keepBest_63 : decode cX5_keepBest 63 = .ok (.putfield 50, 3) := by decide +kernel
theorem dX5_keepBest_66 : decode cX5_keepBest 66 = .ok (.iinc 1 1, 3) := by decide +kernel
theorem dX5_keepBest_69 : decode cX5_keepBest 69 = .ok (.goto (-62), 3) := by decide +kernel
theorem dX5_keepBest_72 : decode cX5_keepBest 72 = .ok (.return_, 1) := by decide +kernel
def F_X5_keepBest_7 (G : Nat → Nat) (a0 : Nat) : Nat → xH → Int32 → Option xH
  | 0, _, _ => none
  | n + 1, h, x1 =>
    (gI h (some a0) 5 5).bind fun v2 =>
    if v2 ≤ x1 then
      some h
    else
    if 14 ≤ x1 then
      some h
    else
    (gI h (some a0) 5 7).bind fun v5 =>
    if (v5 &&& (1 <<< (x1 &&& 31))) = 0 then
      xl (x1 + 1) fun v7 =>
      F_X5_keepBest_7 G a0 n h v7
    else
    (gI h (some a0) 5 6).bind fun v8 =>
    if 14 ≤ v8 then
      xl (x1 + 1) fun v10 =>
      F_X5_keepBest_7 G a0 n h v10
    else
    (gR h (some a0) 5 4).bind fun w11 =>
    (gI h (some a0) 5 6).bind fun v12 =>
    (gR h (some a0) 5 0).bind fun w13 =>
    (ldI 2 G h w13 x1).bind fun v14 =>
    (stI 2 G h w11 v12 v14).bind fun h15 =>
    (gI h15 (some a0) 5 6).bind fun v16 =>
    (xp G h15 (some a0) 5 6 (.int (v16 + 1))).bind fun h17 =>
    xl (x1 + 1) fun v18 =>
    F_X5_keepBest_7 G a0 n h17 v18
set_option maxHeartbeats 4000000 in
set_option maxRecDepth 100000 in
theorem tl_X5_keepBest_7 {p : Program} {l : Launch} {e : Env} {s : State} {m : MethodId} {args : Array Value} {below : List Frame} {meth : Method} {c : Code} {D : va_G} {h' : xH} (hx : p.tables.exec = Jvm.exec) (hb : c.code = cX5_keepBest) (hr : meth.sig.returnType = none) (hlk : meth.locks = false) (hml : c.maxLocals = 2) (hown : s.vm.findClass RX5 = some m.cls) (hnm : meth.name = "keepBest") (hts : ∀ w ∈ xt, w.before args s = true) (G : Nat → Nat) (a0 : Nat) : ∀ (n : Nat) (h : xH) (x1 : Int32) (H : Heap) (locs : List Loc) (ls : Array Slot), F_X5_keepBest_7 G a0 n h x1 = some h' → xR D G h s H → va_S (xA G) s.heap H locs → lv_has ls 2 [(0, va_rf (some a0)), (1, .int x1)] → W p l e rm_X5_keepBest s m args below meth c H locs 0 0 (MQ below (xQ D G none h') args s rm_X5_keepBest.cells rm_X5_keepBest.slots (xA G)) (F0 m 7 ls []) := by
  intro n
  induction n with
  | zero =>
    intro h x1 H locs ls hF
    rw [F_X5_keepBest_7.eq_1] at hF
    cases hF
  | succ n ih =>
    intro h x1 H locs ls hF hR hS hl
    rw [F_X5_keepBest_7.eq_2] at hF
    refine lv_iload_n hx hb dX5_keepBest_7 rfl (lv_at hl 1 rfl) ?_
    refine x_aload_n (o := (some a0)) hx hb dX5_keepBest_8 rfl (lv_at hl 0 rfl) ?_
    replace hF := xbind hF; obtain ⟨v2, ev2, hF⟩ := hF
    refine x_getI (o := (some a0)) (ci := 5) (C := RX5) (T := TX5) (N := 10) hx hb hts iw_X5 hown hR rfl 5 (by decide) mm_139 (Or.inl rfl) ev2 dX5_keepBest_9 ?_
    refine lv_icmp_ge (tgt := 72) hx hb dX5_keepBest_12 (by decide) (fun c3 => ?_) (fun c3 => ?_)
    · replace hF := xift c3 hF
      cases hF
      exact x_vret hx hb hr hlk hR hS (by decide) (by decide) dX5_keepBest_72
    · replace hF := xiff c3 hF
      refine lv_iload_n hx hb dX5_keepBest_15 rfl (lv_at hl 1 rfl) ?_
      refine lv_bipush (v := 14) hx hb dX5_keepBest_16 (by decide) ?_
      refine lv_icmp_ge (tgt := 72) hx hb dX5_keepBest_18 (by decide) (fun c4 => ?_) (fun c4 => ?_)
      · replace hF := xift c4 hF
        cases hF
        exact x_vret hx hb hr hlk hR hS (by decide) (by decide) dX5_keepBest_72
      · replace hF := xiff c4 hF
        refine x_aload_n (o := (some a0)) hx hb dX5_keepBest_21 rfl (lv_at hl 0 rfl) ?_
        replace hF := xbind hF; obtain ⟨v5, ev5, hF⟩ := hF
        refine x_getI (o := (some a0)) (ci := 5) (C := RX5) (T := TX5) (N := 10) hx hb hts iw_X5 hown hR rfl 7 (by decide) mm_141 (Or.inl rfl) ev5 dX5_keepBest_22 ?_
        refine lv_iconst (v := 1) hx hb dX5_keepBest_25 (by decide) ?_
        refine lv_iload_n hx hb dX5_keepBest_26 rfl (lv_at hl 1 rfl) ?_
        refine lv_ishl hx hb dX5_keepBest_27 ?_
        refine lv_iand hx hb dX5_keepBest_28 ?_
        refine lv_if_eq (tgt := 66) hx hb dX5_keepBest_29 (by decide) (fun c6 => ?_) (fun c6 => ?_)
        · replace hF := xift c6 hF
          obtain ⟨v7, ev7⟩ : ∃ z : Int32, z = (x1 + 1) := ⟨_, rfl⟩
          replace hF := xlet ev7 hF
          refine lv_iinc (v := v7) (lv' := [(1, .int v7), (0, va_rf (some a0))]) hx hb dX5_keepBest_66 hl (k := 1) rfl (by rw [ev7]; rfl) (by decide) (by first | rfl | (simp [xrf_cat, xcI, xcJ, xcA]; done) | (simp [xrf_cat, xcI, xcJ, xcA]; decide)) (fun ls hl => ?_)
          refine lv_goto (tgt := 7) hx hb dX5_keepBest_69 (by decide) ?_
          exact ih h v7 _ _ _ hF hR hS (lv_sub hl [1, 0] rfl)
        · replace hF := xiff c6 hF
          refine x_aload_n (o := (some a0)) hx hb dX5_keepBest_32 rfl (lv_at hl 0 rfl) ?_
          replace hF := xbind hF; obtain ⟨v8, ev8, hF⟩ := hF
          refine x_getI (o := (some a0)) (ci := 5) (C := RX5) (T := TX5) (N := 10) hx hb hts iw_X5 hown hR rfl 6 (by decide) mm_140 (Or.inl rfl) ev8 dX5_keepBest_33 ?_
          refine lv_bipush (v := 14) hx hb dX5_keepBest_36 (by decide) ?_
          refine lv_icmp_ge (tgt := 66) hx hb dX5_keepBest_38 (by decide) (fun c9 => ?_) (fun c9 => ?_)
          · replace hF := xift c9 hF
            obtain ⟨v10, ev10⟩ : ∃ z : Int32, z = (x1 + 1) := ⟨_, rfl⟩
            replace hF := xlet ev10 hF
            refine lv_iinc (v := v10) (lv' := [(1, .int v10), (0, va_rf (some a0))]) hx hb dX5_keepBest_66 hl (k := 1) rfl (by rw [ev10]; rfl) (by decide) (by first | rfl | (simp [xrf_cat, xcI, xcJ, xcA]; done) | (simp [xrf_cat, xcI, xcJ, xcA]; decide)) (fun ls hl => ?_)
            refine lv_goto (tgt := 7) hx hb dX5_keepBest_69 (by decide) ?_
            exact ih h v10 _ _ _ hF hR hS (lv_sub hl [1, 0] rfl)
          · replace hF := xiff c9 hF
            refine x_aload_n (o := (some a0)) hx hb dX5_keepBest_41 rfl (lv_at hl 0 rfl) ?_
            replace hF := xbind hF; obtain ⟨w11, ew11, hF⟩ := hF
            refine x_getR (o := (some a0)) (ci := 5) (C := RX5) (T := TX5) (N := 10) hx hb hts iw_X5 hown hR rfl 4 (by decide) mm_138 (Or.inl rfl) ew11 dX5_keepBest_42 ?_
            refine x_aload_n (o := (some a0)) hx hb dX5_keepBest_45 rfl (lv_at hl 0 rfl) ?_
            replace hF := xbind hF; obtain ⟨v12, ev12, hF⟩ := hF
            refine x_getI (o := (some a0)) (ci := 5) (C := RX5) (T := TX5) (N := 10) hx hb hts iw_X5 hown hR rfl 6 (by decide) mm_140 (Or.inl rfl) ev12 dX5_keepBest_46 ?_
            refine x_aload_n (o := (some a0)) hx hb dX5_keepBest_49 rfl (lv_at hl 0 rfl) ?_
            replace hF := xbind hF; obtain ⟨w13, ew13, hF⟩ := hF
            refine x_getR (o := (some a0)) (ci := 5) (C := RX5) (T := TX5) (N := 10) hx hb hts iw_X5 hown hR rfl 0 (by decide) mm_134 (Or.inl rfl) ew13 dX5_keepBest_50 ?_
            refine lv_iload_n hx hb dX5_keepBest_53 rfl (lv_at hl 1 rfl) ?_
            replace hF := xbind hF; obtain ⟨v14, ev14, hF⟩ := hF
            refine x_ild (o := w13) hx hb hR ev14 dX5_keepBest_54 ?_
            replace hF := xbind hF; obtain ⟨h15, eh15, hF⟩ := hF
            refine x_ist (o := w11) hx hb hR hS eh15 dX5_keepBest_55 (fun H locs hR hS => ?_)
            refine x_aload_n (o := (some a0)) hx hb dX5_keepBest_56 rfl (lv_at hl 0 rfl) ?_
            refine lv_dup hx hb dX5_keepBest_57 xrf_cat ?_
            replace hF := xbind hF; obtain ⟨v16, ev16, hF⟩ := hF
            refine x_getI (o := (some a0)) (ci := 5) (C := RX5) (T := TX5) (N := 10) hx hb hts iw_X5 hown hR rfl 6 (by decide) mm_140 (Or.inl rfl) ev16 dX5_keepBest_58 ?_
            refine lv_iconst (v := 1) hx hb dX5_keepBest_61 (by decide) ?_
            refine lv_iadd hx hb dX5_keepBest_62 ?_
            replace hF := xbind hF; obtain ⟨h17, eh17, hF⟩ := hF
            refine x_put (o := (some a0)) (ci := 5) (C := RX5) (T := TX5) (N := 10) hx hb hts iw_X5 tyX5_ok nmX5 hown hR hS rfl 6 (by decide) mm_140 (Or.inl rfl) rfl rfl rfl eh17 dX5_keepBest_63 (fun H locs hR hS => ?_)
            obtain ⟨v18, ev18⟩ : ∃ z : Int32, z = (x1 + 1) := ⟨_, rfl⟩
            replace hF := xlet ev18 hF
            refine lv_iinc (v := v18) (lv' := [(1, .int v18), (0, va_rf (some a0))]) hx hb dX5_keepBest_66 hl (k := 1) rfl (by rw [ev18]; rfl) (by decide) (by first | rfl | (simp [xrf_cat, xcI, xcJ, xcA]; done) | (simp [xrf_cat, xcI, xcJ, xcA]; decide)) (fun ls hl => ?_)
            refine lv_goto (tgt := 7) hx hb dX5_keepBest_69 (by decide) ?_
            exact ih h17 v18 _ _ _ hF hR hS (lv_sub hl [1, 0] rfl)
def F_X5_keepBest (G : Nat → Nat) (h : xH) (a0 : Nat) : Option xH :=
  (xp G h (some a0) 5 6 (.int 0)).bind fun h1 =>
  F_X5_keepBest_7 G a0 xN h1 0
set_option maxHeartbeats 4000000 in
set_option maxRecDepth 100000 in
theorem t_X5_keepBest (l : Launch) (D : va_G) (G : Nat → Nat) (h : xH) (a0 : Nat) (h' : xH) (hF : F_X5_keepBest G h a0 = some h') : xC l yX5_keepBest cX5_keepBest 2 none (rm_X5_keepBest) D G h [.ref a0] none h' := by
  refine xC_of (by decide) (by first | decide | exact Nat.le_of_ble_eq_true rfl) ?_
  intro p e s m args below meth c ls hx hb hr hlk hml hown hnm hts hR hS hl
  have hl : lv_has ls 2 [(0, va_rf (some a0))] := hl
  unfold F_X5_keepBest at hF
  refine x_aload_n (o := (some a0)) hx hb dX5_keepBest_0 rfl (lv_at hl 0 rfl) ?_
  refine lv_iconst (v := 0) hx hb dX5_keepBest_1 (by decide) ?_
  replace hF := xbind hF; obtain ⟨h1, eh1, hF⟩ := hF
  refine x_put (o := (some a0)) (ci := 5) (C := RX5) (T := TX5) (N := 10) hx hb hts iw_X5 tyX5_ok nmX5 hown hR hS rfl 6 (by decide) mm_140 (Or.inl rfl) rfl rfl rfl eh1 dX5_keepBest_2 (fun H locs hR hS => ?_)
  refine lv_iconst (v := 0) hx hb dX5_keepBest_5 (by decide) ?_
  refine lv_istore_n (lv' := [(1, .int 0), (0, va_rf (some a0))]) hx hb dX5_keepBest_6 rfl hl (by decide) (by first | rfl | (simp [xrf_cat, xcI, xcJ, xcA]; done) | (simp [xrf_cat, xcI, xcJ, xcA]; decide)) (fun ls hl => ?_)
  refine W.widen (k := 0) (n := 0) (by decide) (by decide) ?_
  exact tl_X5_keepBest_7 hx hb hr hlk hml hown hnm hts G a0 _ h1 0 _ _ _ hF hR hS (lv_sub hl [1, 0] rfl)
def rm_X5_branch (rE : Room) : Room := { frames := rE.frames + 1, cells := 0, slots := 0, locals := rE.locals + 40 }
def rm_X5_explore (d : Nat) : Room := { frames := 2 * d + 1, cells := 0, slots := 0, locals := 80 * d + 40 }
theorem f_X5_explore : xM yX5_explore cX5_explore 6 none 4 := ⟨mm_800, mm_60, by decide +kernel, by decide +kernel⟩
theorem f_X5_branch : xM yX5_branch cX5_branch 5 none 4 := ⟨mm_814, mm_60, by decide +kernel, by decide +kernel⟩
theorem dX5_branch_0 : decode cX5_branch 0 = .ok (.iload_n 1, 1) := by decide +kernel
theorem dX5_branch_1 : decode cX5_branch 1 = .ok (.ifCond .lt 9, 3) := by decide +kernel
theorem dX5_branch_4 : decode cX5_branch 4 = .ok (.iload_n 1, 1) := by decide +kernel
theorem dX5_branch_5 : decode cX5_branch 5 = .ok (.bipush 14, 2) := by decide +kernel
theorem dX5_branch_7 : decode cX5_branch 7 = .ok (.if_icmp .lt 4, 3) := by decide +kernel
theorem dX5_branch_10 : decode cX5_branch 10 = .ok (.return_, 1) := by decide +kernel
theorem dX5_branch_11 : decode cX5_branch 11 = .ok (.aload_n 0, 1) := by decide +kernel
theorem dX5_branch_12 : decode cX5_branch 12 = .ok (.getfield 15, 3) := by decide +kernel
theorem dX5_branch_15 : decode cX5_branch 15 = .ok (.iload_n 1, 1) := by decide +kernel
theorem dX5_branch_16 : decode cX5_branch 16 = .ok (.iaload, 1) := by decide +kernel
theorem dX5_branch_17 : decode cX5_branch 17 = .ok (.iload_n 3, 1) := by decide +kernel
theorem dX5_branch_18 : decode cX5_branch 18 = .ok (.if_icmp .gt 32, 3) := by decide +kernel
theorem dX5_branch_21 : decode cX5_branch 21 = .ok (.aload_n 0, 1) := by decide +kernel
theorem dX5_branch_22 : decode cX5_branch 22 = .ok (.iload_n 1, 1) := by decide +kernel
theorem dX5_branch_23 : decode cX5_branch 23 = .ok (.iconst 1, 1) := by decide +kernel
theorem dX5_branch_24 : decode cX5_branch 24 = .ok (.iadd, 1) := by decide +kernel
theorem dX5_branch_25 : decode cX5_branch 25 = .ok (.iload_n 2, 1) := by decide +kernel
theorem dX5_branch_26 : decode cX5_branch 26 = .ok (.iconst 1, 1) := by decide +kernel
theorem dX5_branch_27 : decode cX5_branch 27 = .ok (.iload_n 1, 1) := by decide +kernel
theorem dX5_branch_28 : decode cX5_branch 28 = .ok (.ishl, 1) := by decide +kernel
theorem dX5_branch_29 : decode cX5_branch 29 = .ok (.ior, 1) := by decide +kernel
theorem dX5_branch_30 : decode cX5_branch 30 = .ok (.iload_n 3, 1) := by decide +kernel
theorem dX5_branch_31 : decode cX5_branch 31 = .ok (.aload_n 0, 1) := by decide +kernel
theorem dX5_branch_32 : decode cX5_branch 32 = .ok (.getfield 15, 3) := by decide +kernel
theorem dX5_branch_35 : decode cX5_branch 35 = .ok (.iload_n 1, 1) := by decide +kernel
theorem dX5_branch_36 : decode cX5_branch 36 = .ok (.iaload, 1) := by decide +kernel
theorem dX5_branch_37 : decode cX5_branch 37 = .ok (.isub, 1) := by decide +kernel
theorem dX5_branch_38 : decode cX5_branch 38 = .ok (.iload 4, 2) := by decide +kernel
theorem dX5_branch_40 : decode cX5_branch 40 = .ok (.aload_n 0, 1) := by decide +kernel
theorem dX5_branch_41 : decode cX5_branch 41 = .ok (.getfield 18, 3) := by decide +kernel
theorem dX5_branch_44 : decode cX5_branch 44 = .ok (.iload_n 1, 1) := by decide +kernel
theorem dX5_branch_45 : decode cX5_branch 45 = .ok (.iaload, 1) := by decide +kernel
theorem dX5_branch_46 : decode cX5_branch 46 = .ok (.iadd, 1) := by decide +kernel
theorem dX5_branch_47 : decode cX5_branch 47 = .ok (.invokevirtual 43, 3) := by decide +kernel
theorem dX5_branch_50 : decode cX5_branch 50 = .ok (.aload_n 0, 1) := by decide +kernel
theorem dX5_branch_51 : decode cX5_branch 51 = .ok (.iload_n 1, 1) := by decide +kernel
theorem dX5_branch_52 : decode cX5_branch 52 = .ok (.iconst 1, 1) := by decide +kernel
theorem dX5_branch_53 : decode cX5_branch 53 = .ok (.iadd, 1) := by decide +kernel
theorem dX5_branch_54 : decode cX5_branch 54 = .ok (.iload_n 2, 1) := by decide +kernel
theorem dX5_branch_55 : decode cX5_branch 55 = .ok (.iload_n 3, 1) := by decide +kernel
theorem dX5_branch_56 : decode cX5_branch 56 = .ok (.iload 4, 2) := by decide +kernel
theorem dX5_branch_58 : decode cX5_branch 58 = .ok (.invokevirtual 43, 3) := by decide +kernel
theorem dX5_branch_61 : decode cX5_branch 61 = .ok (.return_, 1) := by decide +kernel
def F_X5_branch (E : (Nat → Nat) → xH → Nat → Int32 → Int32 → Int32 → Int32 → Option xH) (G : Nat → Nat) (h : xH) (a0 : Nat) (x1 : Int32) (x2 : Int32) (x3 : Int32) (x4 : Int32) : Option xH :=
  if x1 < 0 then
    some h
  else
  if x1 < 14 then
    (gR h (some a0) 5 1).bind fun w3 =>
    (ldI 2 G h w3 x1).bind fun v4 =>
    if x3 < v4 then
      (xc h (some a0) 5).bind fun b7 =>
      (E G h b7 (x1 + 1) x2 x3 x4).bind fun h6 =>
      some h6
    else
    (gR h (some a0) 5 1).bind fun w8 =>
    (ldI 2 G h w8 x1).bind fun v9 =>
    (gR h (some a0) 5 2).bind fun w10 =>
    (ldI 2 G h w10 x1).bind fun v11 =>
    (xc h (some a0) 5).bind fun b13 =>
    (E G h b13 (x1 + 1) (x2 ||| (1 <<< (x1 &&& 31))) (x3 - v9) (x4 + v11)).bind fun h12 =>
    (xc h12 (some a0) 5).bind fun b15 =>
    (E G h12 b15 (x1 + 1) x2 x3 x4).bind fun h14 =>
    some h14
  else
  some h
set_option maxHeartbeats 4000000 in
set_option maxRecDepth 100000 in
theorem t_X5_branch (l : Launch) (D : va_G) (G : Nat → Nat) (rE : Room) (hz : rE.cells = 0 ∧ rE.slots = 0) (E : (Nat → Nat) → xH → Nat → Int32 → Int32 → Int32 → Int32 → Option xH) (hE : ∀ (h : xH) (a0 : Nat) (x1 x2 x3 x4 : Int32) (h' : xH), E G h a0 x1 x2 x3 x4 = some h' → xC l yX5_explore cX5_explore 6 none rE D G h [.ref a0, .int x1, .int x2, .int x3, .int x4] none h') (h : xH) (a0 : Nat) (x1 : Int32) (x2 : Int32) (x3 : Int32) (x4 : Int32) (h' : xH) (hF : F_X5_branch E G h a0 x1 x2 x3 x4 = some h') : xC l yX5_branch cX5_branch 5 none (rm_X5_branch rE) D G h [.ref a0, .int x1, .int x2, .int x3, .int x4] none h' := by
  refine xC_of (by decide) (by first | decide | exact Nat.le_of_ble_eq_true rfl) ?_
  intro p e s m args below meth c ls hx hb hr hlk hml hown hnm hts hR hS hl
  have hl : lv_has ls 5 [(0, va_rf (some a0)), (1, .int x1), (2, .int x2), (3, .int x3), (4, .int x4)] := hl
  unfold F_X5_branch at hF
  refine lv_iload_n hx hb dX5_branch_0 rfl (lv_at hl 1 rfl) ?_
  refine lv_if_lt (tgt := 10) hx hb dX5_branch_1 (by decide) (fun c1 => ?_) (fun c1 => ?_)
  · replace hF := xift c1 hF
    cases hF
    exact x_vret hx hb hr hlk hR hS (by first | decide | (refine ⟨?_, ?_⟩ <;> simp [rm_X5_explore, rm_X5_branch, rm_X5_isBetter, rm_J6_bitCount_0f7a4, hz.1, hz.2] <;> omega) | simp [rm_X5_explore, rm_X5_branch, rm_X5_isBetter, rm_J6_bitCount_0f7a4, hz.1, hz.2]) (by first | decide | (refine ⟨?_, ?_⟩ <;> simp [rm_X5_explore, rm_X5_branch, rm_X5_isBetter, rm_J6_bitCount_0f7a4, hz.1, hz.2] <;> omega) | simp [rm_X5_explore, rm_X5_branch, rm_X5_isBetter, rm_J6_bitCount_0f7a4, hz.1, hz.2]) dX5_branch_10
  · replace hF := xiff c1 hF
    refine lv_iload_n hx hb dX5_branch_4 rfl (lv_at hl 1 rfl) ?_
    refine lv_bipush (v := 14) hx hb dX5_branch_5 (by decide) ?_
    refine lv_icmp_lt (tgt := 11) hx hb dX5_branch_7 (by decide) (fun c2 => ?_) (fun c2 => ?_)
    · replace hF := xift c2 hF
      refine x_aload_n (o := (some a0)) hx hb dX5_branch_11 rfl (lv_at hl 0 rfl) ?_
      replace hF := xbind hF; obtain ⟨w3, ew3, hF⟩ := hF
      refine x_getR (o := (some a0)) (ci := 5) (C := RX5) (T := TX5) (N := 10) hx hb hts iw_X5 hown hR rfl 1 (by decide) mm_135 (Or.inl rfl) ew3 dX5_branch_12 ?_
      refine lv_iload_n hx hb dX5_branch_15 rfl (lv_at hl 1 rfl) ?_
      replace hF := xbind hF; obtain ⟨v4, ev4, hF⟩ := hF
      refine x_ild (o := w3) hx hb hR ev4 dX5_branch_16 ?_
      refine lv_iload_n hx hb dX5_branch_17 rfl (lv_at hl 3 rfl) ?_
      refine lv_icmp_gt (tgt := 50) hx hb dX5_branch_18 (by decide) (fun c5 => ?_) (fun c5 => ?_)
      · replace hF := xift c5 hF
        refine x_aload_n (o := (some a0)) hx hb dX5_branch_50 rfl (lv_at hl 0 rfl) ?_
        refine lv_iload_n hx hb dX5_branch_51 rfl (lv_at hl 1 rfl) ?_
        refine lv_iconst (v := 1) hx hb dX5_branch_52 (by decide) ?_
        refine lv_iadd hx hb dX5_branch_53 ?_
        refine lv_iload_n hx hb dX5_branch_54 rfl (lv_at hl 2 rfl) ?_
        refine lv_iload_n hx hb dX5_branch_55 rfl (lv_at hl 3 rfl) ?_
        refine lv_iload hx hb dX5_branch_56 (lv_at hl 4 rfl) ?_
        replace hF := xbind hF; obtain ⟨b7, eb7, hF⟩ := hF
        replace hF := xbind hF; obtain ⟨h6, eh6, hF⟩ := hF
        refine x_callV (o := (some a0)) (ci := 5) (As := [.int (x1 + 1), .int x2, .int x3, .int x4]) (rest := []) (v := none) (k := 4) hx hb hml hown hts hR hS eb7 rfl rfl (hE h b7 (x1 + 1) x2 x3 x4 h6 eh6) f_X5_explore mm_797 mm_799 mm_27 rfl hl.1 rfl (by first | exact Nat.le_of_ble_eq_true rfl | simp [xrf_cat, xcI, xcJ, xcA]) dX5_branch_58 (by first | decide | (refine ⟨?_, ?_⟩ <;> simp [rm_X5_explore, rm_X5_branch, rm_X5_isBetter, rm_J6_bitCount_0f7a4, hz.1, hz.2] <;> omega) | simp [rm_X5_explore, rm_X5_branch, rm_X5_isBetter, rm_J6_bitCount_0f7a4, hz.1, hz.2]) (by first | decide | (refine ⟨?_, ?_⟩ <;> simp [rm_X5_explore, rm_X5_branch, rm_X5_isBetter, rm_J6_bitCount_0f7a4, hz.1, hz.2] <;> omega) | simp [rm_X5_explore, rm_X5_branch, rm_X5_isBetter, rm_J6_bitCount_0f7a4, hz.1, hz.2]) rfl (fun H locs hR hS => ?_)
        cases hF
        exact x_vret hx hb hr hlk hR hS (by first | decide | (refine ⟨?_, ?_⟩ <;> simp [rm_X5_explore, rm_X5_branch, rm_X5_isBetter, rm_J6_bitCount_0f7a4, hz.1, hz.2] <;> omega) | simp [rm_X5_explore, rm_X5_branch, rm_X5_isBetter, rm_J6_bitCount_0f7a4, hz.1, hz.2]) (by first | decide | (refine ⟨?_, ?_⟩ <;> simp [rm_X5_explore, rm_X5_branch, rm_X5_isBetter, rm_J6_bitCount_0f7a4, hz.1, hz.2] <;> omega) | simp [rm_X5_explore, rm_X5_branch, rm_X5_isBetter, rm_J6_bitCount_0f7a4, hz.1, hz.2]) dX5_branch_61
      · replace hF := xiff c5 hF
        refine x_aload_n (o := (some a0)) hx hb dX5_branch_21 rfl (lv_at hl 0 rfl) ?_
        refine lv_iload_n hx hb dX5_branch_22 rfl (lv_at hl 1 rfl) ?_
        refine lv_iconst (v := 1) hx hb dX5_branch_23 (by decide) ?_
        refine lv_iadd hx hb dX5_branch_24 ?_
        refine lv_iload_n hx hb dX5_branch_25 rfl (lv_at hl 2 rfl) ?_
        refine lv_iconst (v := 1) hx hb dX5_branch_26 (by decide) ?_
        refine lv_iload_n hx hb dX5_branch_27 rfl (lv_at hl 1 rfl) ?_
        refine lv_ishl hx hb dX5_branch_28 ?_
        refine lv_ior hx hb dX5_branch_29 ?_
        refine lv_iload_n hx hb dX5_branch_30 rfl (lv_at hl 3 rfl) ?_
        refine x_aload_n (o := (some a0)) hx hb dX5_branch_31 rfl (lv_at hl 0 rfl) ?_
        replace hF := xbind hF; obtain ⟨w8, ew8, hF⟩ := hF
        refine x_getR (o := (some a0)) (ci := 5) (C := RX5) (T := TX5) (N := 10) hx hb hts iw_X5 hown hR rfl 1 (by decide) mm_135 (Or.inl rfl) ew8 dX5_branch_32 ?_
        refine lv_iload_n hx hb dX5_branch_35 rfl (lv_at hl 1 rfl) ?_
        replace hF := xbind hF; obtain ⟨v9, ev9, hF⟩ := hF
        refine x_ild (o := w8) hx hb hR ev9 dX5_branch_36 ?_
        refine lv_isub hx hb dX5_branch_37 ?_
        refine lv_iload hx hb dX5_branch_38 (lv_at hl 4 rfl) ?_
        refine x_aload_n (o := (some a0)) hx hb dX5_branch_40 rfl (lv_at hl 0 rfl) ?_
        replace hF := xbind hF; obtain ⟨w10, ew10, hF⟩ := hF
        refine x_getR (o := (some a0)) (ci := 5) (C := RX5) (T := TX5) (N := 10) hx hb hts iw_X5 hown hR rfl 2 (by decide) mm_136 (Or.inl rfl) ew10 dX5_branch_41 ?_
        refine lv_iload_n hx hb dX5_branch_44 rfl (lv_at hl 1 rfl) ?_
        replace hF := xbind hF; obtain ⟨v11, ev11, hF⟩ := hF
        refine x_ild (o := w10) hx hb hR ev11 dX5_branch_45 ?_
        refine lv_iadd hx hb dX5_branch_46 ?_
        replace hF := xbind hF; obtain ⟨b13, eb13, hF⟩ := hF
        replace hF := xbind hF; obtain ⟨h12, eh12, hF⟩ := hF
        refine x_callV (o := (some a0)) (ci := 5) (As := [.int (x1 + 1), .int (x2 ||| (1 <<< (x1 &&& 31))), .int (x3 - v9), .int (x4 + v11)]) (rest := []) (v := none) (k := 4) hx hb hml hown hts hR hS eb13 rfl rfl (hE h b13 (x1 + 1) (x2 ||| (1 <<< (x1 &&& 31))) (x3 - v9) (x4 + v11) h12 eh12) f_X5_explore mm_797 mm_799 mm_27 rfl hl.1 rfl (by first | exact Nat.le_of_ble_eq_true rfl | simp [xrf_cat, xcI, xcJ, xcA]) dX5_branch_47 (by first | decide | (refine ⟨?_, ?_⟩ <;> simp [rm_X5_explore, rm_X5_branch, rm_X5_isBetter, rm_J6_bitCount_0f7a4, hz.1, hz.2] <;> omega) | simp [rm_X5_explore, rm_X5_branch, rm_X5_isBetter, rm_J6_bitCount_0f7a4, hz.1, hz.2]) (by first | decide | (refine ⟨?_, ?_⟩ <;> simp [rm_X5_explore, rm_X5_branch, rm_X5_isBetter, rm_J6_bitCount_0f7a4, hz.1, hz.2] <;> omega) | simp [rm_X5_explore, rm_X5_branch, rm_X5_isBetter, rm_J6_bitCount_0f7a4, hz.1, hz.2]) rfl (fun H locs hR hS => ?_)
        refine x_aload_n (o := (some a0)) hx hb dX5_branch_50 rfl (lv_at hl 0 rfl) ?_
        refine lv_iload_n hx hb dX5_branch_51 rfl (lv_at hl 1 rfl) ?_
        refine lv_iconst (v := 1) hx hb dX5_branch_52 (by decide) ?_
        refine lv_iadd hx hb dX5_branch_53 ?_
        refine lv_iload_n hx hb dX5_branch_54 rfl (lv_at hl 2 rfl) ?_
        refine lv_iload_n hx hb dX5_branch_55 rfl (lv_at hl 3 rfl) ?_
        refine lv_iload hx hb dX5_branch_56 (lv_at hl 4 rfl) ?_
        replace hF := xbind hF; obtain ⟨b15, eb15, hF⟩ := hF
        replace hF := xbind hF; obtain ⟨h14, eh14, hF⟩ := hF
        refine x_callV (o := (some a0)) (ci := 5) (As := [.int (x1 + 1), .int x2, .int x3, .int x4]) (rest := []) (v := none) (k := 4) hx hb hml hown hts hR hS eb15 rfl rfl (hE h12 b15 (x1 + 1) x2 x3 x4 h14 eh14) f_X5_explore mm_797 mm_799 mm_27 rfl hl.1 rfl (by first | exact Nat.le_of_ble_eq_true rfl | simp [xrf_cat, xcI, xcJ, xcA]) dX5_branch_58 (by first | decide | (refine ⟨?_, ?_⟩ <;> simp [rm_X5_explore, rm_X5_branch, rm_X5_isBetter, rm_J6_bitCount_0f7a4, hz.1, hz.2] <;> omega) | simp [rm_X5_explore, rm_X5_branch, rm_X5_isBetter, rm_J6_bitCount_0f7a4, hz.1, hz.2]) (by first | decide | (refine ⟨?_, ?_⟩ <;> simp [rm_X5_explore, rm_X5_branch, rm_X5_isBetter, rm_J6_bitCount_0f7a4, hz.1, hz.2] <;> omega) | simp [rm_X5_explore, rm_X5_branch, rm_X5_isBetter, rm_J6_bitCount_0f7a4, hz.1, hz.2]) rfl (fun H locs hR hS => ?_)
        cases hF
        exact x_vret hx hb hr hlk hR hS (by first | decide | (refine ⟨?_, ?_⟩ <;> simp [rm_X5_explore, rm_X5_branch, rm_X5_isBetter, rm_J6_bitCount_0f7a4, hz.1, hz.2] <;> omega) | simp [rm_X5_explore, rm_X5_branch, rm_X5_isBetter, rm_J6_bitCount_0f7a4, hz.1, hz.2]) (by first | decide | (refine ⟨?_, ?_⟩ <;> simp [rm_X5_explore, rm_X5_branch, rm_X5_isBetter, rm_J6_bitCount_0f7a4, hz.1, hz.2] <;> omega) | simp [rm_X5_explore, rm_X5_branch, rm_X5_isBetter, rm_J6_bitCount_0f7a4, hz.1, hz.2]) dX5_branch_61
    · replace hF := xiff c2 hF
      cases hF
      exact x_vret hx hb hr hlk hR hS (by first | decide | (refine ⟨?_, ?_⟩ <;> simp [rm_X5_explore, rm_X5_branch, rm_X5_isBetter, rm_J6_bitCount_0f7a4, hz.1, hz.2] <;> omega) | simp [rm_X5_explore, rm_X5_branch, rm_X5_isBetter, rm_J6_bitCount_0f7a4, hz.1, hz.2]) (by first | decide | (refine ⟨?_, ?_⟩ <;> simp [rm_X5_explore, rm_X5_branch, rm_X5_isBetter, rm_J6_bitCount_0f7a4, hz.1, hz.2] <;> omega) | simp [rm_X5_explore, rm_X5_branch, rm_X5_isBetter, rm_J6_bitCount_0f7a4, hz.1, hz.2]) dX5_branch_10


theorem dX5_explore_0 : decode cX5_explore 0 = .ok (.iload_n 2, 1) := by decide +kernel
theorem dX5_explore_1 : decode cX5_explore 1 = .ok (.invokestatic 53, 3) := by decide +kernel
theorem dX5_explore_4 : decode cX5_explore 4 = .ok (.istore 5, 2) := by decide +kernel
theorem dX5_explore_6 : decode cX5_explore 6 = .ok (.aload_n 0, 1) := by decide +kernel
theorem dX5_explore_7 : decode cX5_explore 7 = .ok (.iload 4, 2) := by decide +kernel
theorem dX5_explore_9 : decode cX5_explore 9 = .ok (.iload 5, 2) := by decide +kernel
theorem dX5_explore_11 : decode cX5_explore 11 = .ok (.invokevirtual 59, 3) := by decide +kernel
theorem dX5_explore_14 : decode cX5_explore 14 = .ok (.ifCond .eq 20, 3) := by decide +kernel
theorem dX5_explore_17 : decode cX5_explore 17 = .ok (.aload_n 0, 1) := by decide +kernel
theorem dX5_explore_18 : decode cX5_explore 18 = .ok (.iload_n 2, 1) := by decide +kernel
theorem dX5_explore_19 : decode cX5_explore 19 = .ok (.putfield 31, 3) := by decide +kernel
theorem dX5_explore_22 : decode cX5_explore 22 = .ok (.aload_n 0, 1) := by decide +kernel
theorem dX5_explore_23 : decode cX5_explore 23 = .ok (.iload 5, 2) := by decide +kernel
theorem dX5_explore_25 : decode cX5_explore 25 = .ok (.putfield 34, 3) := by decide +kernel
theorem dX5_explore_28 : decode cX5_explore 28 = .ok (.aload_n 0, 1) := by decide +kernel
theorem dX5_explore_29 : decode cX5_explore 29 = .ok (.iload 4, 2) := by decide +kernel
theorem dX5_explore_31 : decode cX5_explore 31 = .ok (.putfield 37, 3) := by decide +kernel
theorem dX5_explore_34 : decode cX5_explore 34 = .ok (.iload_n 1, 1) := by decide +kernel
theorem dX5_explore_35 : decode cX5_explore 35 = .ok (.ifCond .lt 46, 3) := by decide +kernel
theorem dX5_explore_38 : decode cX5_explore 38 = .ok (.iload_n 1, 1) := by decide +kernel
theorem dX5_explore_39 : decode cX5_explore 39 = .ok (.aload_n 0, 1) := by decide +kernel
theorem dX5_explore_40 : decode cX5_explore 40 = .ok (.getfield 27, 3) := by decide +kernel
theorem dX5_explore_43 : decode cX5_explore 43 = .ok (.if_icmp .ge 38, 3) := by decide +kernel
theorem dX5_explore_46 : decode cX5_explore 46 = .ok (.iload_n 1, 1) := by decide +kernel
theorem dX5_explore_47 : decode cX5_explore 47 = .ok (.bipush 14, 2) := by decide +kernel
theorem dX5_explore_49 : decode cX5_explore 49 = .ok (.if_icmp .ge 32, 3) := by decide +kernel
theorem dX5_explore_52 : decode cX5_explore 52 = .ok (.aload_n 0, 1) := by decide +kernel
theorem dX5_explore_53 : decode cX5_explore 53 = .ok (.iload 4, 2) := by decide +kernel
theorem dX5_explore_55 : decode cX5_explore 55 = .ok (.aload_n 0, 1) := by decide +kernel
theorem dX5_explore_56 : decode cX5_explore 56 = .ok (.getfield 21, 3) := by decide +kernel
theorem dX5_explore_59 : decode cX5_explore 59 = .ok (.iload_n 1, 1) := by decide +kernel
theorem dX5_explore_60 : decode cX5_explore 60 = .ok (.iaload, 1) := by decide +kernel
theorem dX5_explore_61 : decode cX5_explore 61 = .ok (.iadd, 1) := by decide +kernel
theorem dX5_explore_62 : decode cX5_explore 62 = .ok (.iload 5, 2) := by decide +kernel
theorem dX5_explore_64 : decode cX5_explore 64 = .ok (.iconst 1, 1) := by decide +kernel
theorem dX5_explore_65 : decode cX5_explore 65 = .ok (.iadd, 1) := by decide +kernel
theorem dX5_explore_66 : decode cX5_explore 66 = .ok (.invokevirtual 59, 3) := by decide +kernel
theorem dX5_explore_69 : decode cX5_explore 69 = .ok (.ifCond .eq 12, 3) := by decide +kernel
theorem dX5_explore_72 : decode cX5_explore 72 = .ok (.aload_n 0, 1) := by decide +kernel
theorem dX5_explore_73 : decode cX5_explore 73 = .ok (.iload_n 1, 1) := by decide +kernel
theorem dX5_explore_74 : decode cX5_explore 74 = .ok (.iload_n 2, 1) := by decide +kernel
theorem dX5_explore_75 : decode cX5_explore 75 = .ok (.iload_n 3, 1) := by decide +kernel
theorem dX5_explore_76 : decode cX5_explore 76 = .ok (.iload 4, 2) := by decide +kernel
theorem dX5_explore_78 : decode cX5_explore 78 = .ok (.invokevirtual 63, 3) := by decide +kernel
theorem dX5_explore_81 : decode cX5_explore 81 = .ok (.return_, 1) := by decide +kernel
def F_X5_explore : Nat → (Nat → Nat) → xH → Nat → Int32 → Int32 → Int32 → Int32 → Option xH
  | 0, _, _, _, _, _, _, _ => none
  | d + 1, G, h, a0, x1, x2, x3, x4 =>
    (F_J6_bitCount_0f7a4 x2).bind fun v1 =>
    (xc h (some a0) 5).bind fun b3 =>
    (F_X5_isBetter G h b3 x4 v1).bind fun v2 =>
    if v2 = 0 then
      if x1 < 0 then
        some h
      else
      (gI h (some a0) 5 5).bind fun v6 =>
      if v6 ≤ x1 then
        some h
      else
      if 14 ≤ x1 then
        some h
      else
      (gR h (some a0) 5 3).bind fun w9 =>
      (ldI 2 G h w9 x1).bind fun v10 =>
      (xc h (some a0) 5).bind fun b12 =>
      (F_X5_isBetter G h b12 (x4 + v10) (v1 + 1)).bind fun v11 =>
      if v11 = 0 then
        some h
      else
      (xc h (some a0) 5).bind fun b15 =>
      (F_X5_branch (F_X5_explore d) G h b15 x1 x2 x3 x4).bind fun h14 =>
      some h14
    else
    (xp G h (some a0) 5 7 (.int x2)).bind fun h16 =>
    (xp G h16 (some a0) 5 8 (.int v1)).bind fun h17 =>
    (xp G h17 (some a0) 5 9 (.int x4)).bind fun h18 =>
    if x1 < 0 then
      some h18
    else
    (gI h18 (some a0) 5 5).bind fun v20 =>
    if v20 ≤ x1 then
      some h18
    else
    if 14 ≤ x1 then
      some h18
    else
    (gR h18 (some a0) 5 3).bind fun w23 =>
    (ldI 2 G h18 w23 x1).bind fun v24 =>
    (xc h18 (some a0) 5).bind fun b26 =>
    (F_X5_isBetter G h18 b26 (x4 + v24) (v1 + 1)).bind fun v25 =>
    if v25 = 0 then
      some h18
    else
    (xc h18 (some a0) 5).bind fun b29 =>
    (F_X5_branch (F_X5_explore d) G h18 b29 x1 x2 x3 x4).bind fun h28 =>
    some h28
set_option maxHeartbeats 4000000 in
set_option maxRecDepth 100000 in
theorem t_X5_explore (l : Launch) (D : va_G) (G : Nat → Nat) : ∀ (d : Nat) (h : xH) (a0 : Nat) (x1 : Int32) (x2 : Int32) (x3 : Int32) (x4 : Int32) (h' : xH), F_X5_explore d G h a0 x1 x2 x3 x4 = some h' → xC l yX5_explore cX5_explore 6 none (rm_X5_explore d) D G h [.ref a0, .int x1, .int x2, .int x3, .int x4] none h' := by
  intro d
  induction d with
  | zero =>
    intro h a0 x1 x2 x3 x4 h' hF
    rw [F_X5_explore.eq_1] at hF
    cases hF
  | succ d ih =>
    intro h a0 x1 x2 x3 x4 h' hF
    refine xC_of (by decide) (by first | decide | exact Nat.le_of_ble_eq_true rfl) ?_
    intro p e s m args below meth c ls hx hb hr hlk hml hown hnm hts hR hS hl
    have hl : lv_has ls 6 [(0, va_rf (some a0)), (1, .int x1), (2, .int x2), (3, .int x3), (4, .int x4)] := hl
    rw [F_X5_explore.eq_2] at hF
    refine lv_iload_n hx hb dX5_explore_0 rfl (lv_at hl 2 rfl) ?_
    replace hF := xbind hF; obtain ⟨v1, ev1, hF⟩ := hF
    refine x_callS (As := [.int x2]) (rest := []) (v := (some (.int v1))) (k := 1) hx hb hml hown hts hR hS (t_J6_bitCount_0f7a4 l D G h x2 v1 ev1) f_J6_bitCount_0f7a4 mm_801 mm_802 rfl hl.1 rfl (by first | exact Nat.le_of_ble_eq_true rfl | simp [xrf_cat, xcI, xcJ, xcA]) dX5_explore_1 (by first | decide | (refine ⟨?_, ?_⟩ <;> simp [rm_X5_explore, rm_X5_branch, rm_X5_isBetter, rm_J6_bitCount_0f7a4, Nat.mul_add] <;> omega) | simp [rm_X5_explore, rm_X5_branch, rm_X5_isBetter, rm_J6_bitCount_0f7a4, Nat.mul_add]) (by first | decide | (refine ⟨?_, ?_⟩ <;> simp [rm_X5_explore, rm_X5_branch, rm_X5_isBetter, rm_J6_bitCount_0f7a4, Nat.mul_add] <;> omega) | simp [rm_X5_explore, rm_X5_branch, rm_X5_isBetter, rm_J6_bitCount_0f7a4, Nat.mul_add]) rfl (fun H locs hR hS => ?_)
    refine lv_istore (lv' := [(5, .int v1), (0, va_rf (some a0)), (1, .int x1), (2, .int x2), (3, .int x3), (4, .int x4)]) hx hb dX5_explore_4 hl (by decide) (by first | rfl | (simp [xrf_cat, xcI, xcJ, xcA]; done) | (simp [xrf_cat, xcI, xcJ, xcA]; decide)) (fun ls hl => ?_)
    refine x_aload_n (o := (some a0)) hx hb dX5_explore_6 rfl (lv_at hl 1 rfl) ?_
    refine lv_iload hx hb dX5_explore_7 (lv_at hl 5 rfl) ?_
    refine lv_iload hx hb dX5_explore_9 (lv_at hl 0 rfl) ?_
    replace hF := xbind hF; obtain ⟨b3, eb3, hF⟩ := hF
    replace hF := xbind hF; obtain ⟨v2, ev2, hF⟩ := hF
    refine x_callV (o := (some a0)) (ci := 5) (As := [.int x4, .int v1]) (rest := []) (v := (some (.int v2))) (k := 2) hx hb hml hown hts hR hS eb3 rfl rfl (t_X5_isBetter l D G h b3 x4 v1 v2 ev2) f_X5_isBetter mm_807 mm_809 mm_28 rfl hl.1 rfl (by first | exact Nat.le_of_ble_eq_true rfl | simp [xrf_cat, xcI, xcJ, xcA]) dX5_explore_11 (by first | decide | (refine ⟨?_, ?_⟩ <;> simp [rm_X5_explore, rm_X5_branch, rm_X5_isBetter, rm_J6_bitCount_0f7a4, Nat.mul_add] <;> omega) | simp [rm_X5_explore, rm_X5_branch, rm_X5_isBetter, rm_J6_bitCount_0f7a4, Nat.mul_add]) (by first | decide | (refine ⟨?_, ?_⟩ <;> simp [rm_X5_explore, rm_X5_branch, rm_X5_isBetter, rm_J6_bitCount_0f7a4, Nat.mul_add] <;> omega) | simp [rm_X5_explore, rm_X5_branch, rm_X5_isBetter, rm_J6_bitCount_0f7a4, Nat.mul_add]) rfl (fun H locs hR hS => ?_)
    refine lv_if_eq (tgt := 34) hx hb dX5_explore_14 (by decide) (fun c4 => ?_) (fun c4 => ?_)
    · replace hF := xift c4 hF
      refine lv_iload_n hx hb dX5_explore_34 rfl (lv_at hl 2 rfl) ?_
      refine lv_if_lt (tgt := 81) hx hb dX5_explore_35 (by decide) (fun c5 => ?_) (fun c5 => ?_)
      · replace hF := xift c5 hF
        cases hF
        exact x_vret hx hb hr hlk hR hS (by first | decide | (refine ⟨?_, ?_⟩ <;> simp [rm_X5_explore, rm_X5_branch, rm_X5_isBetter, rm_J6_bitCount_0f7a4, Nat.mul_add] <;> omega) | simp [rm_X5_explore, rm_X5_branch, rm_X5_isBetter, rm_J6_bitCount_0f7a4, Nat.mul_add]) (by first | decide | (refine ⟨?_, ?_⟩ <;> simp [rm_X5_explore, rm_X5_branch, rm_X5_isBetter, rm_J6_bitCount_0f7a4, Nat.mul_add] <;> omega) | simp [rm_X5_explore, rm_X5_branch, rm_X5_isBetter, rm_J6_bitCount_0f7a4, Nat.mul_add]) dX5_explore_81
      · replace hF := xiff c5 hF
        refine lv_iload_n hx hb dX5_explore_38 rfl (lv_at hl 2 rfl) ?_
        refine x_aload_n (o := (some a0)) hx hb dX5_explore_39 rfl (lv_at hl 1 rfl) ?_
        replace hF := xbind hF; obtain ⟨v6, ev6, hF⟩ := hF
        refine x_getI (o := (some a0)) (ci := 5) (C := RX5) (T := TX5) (N := 10) hx hb hts iw_X5 hown hR rfl 5 (by decide) mm_139 (Or.inl rfl) ev6 dX5_explore_40 ?_
        refine lv_icmp_ge (tgt := 81) hx hb dX5_explore_43 (by decide) (fun c7 => ?_) (fun c7 => ?_)
        · replace hF := xift c7 hF
          cases hF
          exact x_vret hx hb hr hlk hR hS (by first | decide | (refine ⟨?_, ?_⟩ <;> simp [rm_X5_explore, rm_X5_branch, rm_X5_isBetter, rm_J6_bitCount_0f7a4, Nat.mul_add] <;> omega) | simp [rm_X5_explore, rm_X5_branch, rm_X5_isBetter, rm_J6_bitCount_0f7a4, Nat.mul_add]) (by first | decide | (refine ⟨?_, ?_⟩ <;> simp [rm_X5_explore, rm_X5_branch, rm_X5_isBetter, rm_J6_bitCount_0f7a4, Nat.mul_add] <;> omega) | simp [rm_X5_explore, rm_X5_branch, rm_X5_isBetter, rm_J6_bitCount_0f7a4, Nat.mul_add]) dX5_explore_81
        · replace hF := xiff c7 hF
          refine lv_iload_n hx hb dX5_explore_46 rfl (lv_at hl 2 rfl) ?_
          refine lv_bipush (v := 14) hx hb dX5_explore_47 (by decide) ?_
          refine lv_icmp_ge (tgt := 81) hx hb dX5_explore_49 (by decide) (fun c8 => ?_) (fun c8 => ?_)
          · replace hF := xift c8 hF
            cases hF
            exact x_vret hx hb hr hlk hR hS (by first | decide | (refine ⟨?_, ?_⟩ <;> simp [rm_X5_explore, rm_X5_branch, rm_X5_isBetter, rm_J6_bitCount_0f7a4, Nat.mul_add] <;> omega) | simp [rm_X5_explore, rm_X5_branch, rm_X5_isBetter, rm_J6_bitCount_0f7a4, Nat.mul_add]) (by first | decide | (refine ⟨?_, ?_⟩ <;> simp [rm_X5_explore, rm_X5_branch, rm_X5_isBetter, rm_J6_bitCount_0f7a4, Nat.mul_add] <;> omega) | simp [rm_X5_explore, rm_X5_branch, rm_X5_isBetter, rm_J6_bitCount_0f7a4, Nat.mul_add]) dX5_explore_81
          · replace hF := xiff c8 hF
            refine x_aload_n (o := (some a0)) hx hb dX5_explore_52 rfl (lv_at hl 1 rfl) ?_
            refine lv_iload hx hb dX5_explore_53 (lv_at hl 5 rfl) ?_
            refine x_aload_n (o := (some a0)) hx hb dX5_explore_55 rfl (lv_at hl 1 rfl) ?_
            replace hF := xbind hF; obtain ⟨w9, ew9, hF⟩ := hF
            refine x_getR (o := (some a0)) (ci := 5) (C := RX5) (T := TX5) (N := 10) hx hb hts iw_X5 hown hR rfl 3 (by decide) mm_137 (Or.inl rfl) ew9 dX5_explore_56 ?_
            refine lv_iload_n hx hb dX5_explore_59 rfl (lv_at hl 2 rfl) ?_
            replace hF := xbind hF; obtain ⟨v10, ev10, hF⟩ := hF
            refine x_ild (o := w9) hx hb hR ev10 dX5_explore_60 ?_
            refine lv_iadd hx hb dX5_explore_61 ?_
            refine lv_iload hx hb dX5_explore_62 (lv_at hl 0 rfl) ?_
            refine lv_iconst (v := 1) hx hb dX5_explore_64 (by decide) ?_
            refine lv_iadd hx hb dX5_explore_65 ?_
            replace hF := xbind hF; obtain ⟨b12, eb12, hF⟩ := hF
            replace hF := xbind hF; obtain ⟨v11, ev11, hF⟩ := hF
            refine x_callV (o := (some a0)) (ci := 5) (As := [.int (x4 + v10), .int (v1 + 1)]) (rest := []) (v := (some (.int v11))) (k := 2) hx hb hml hown hts hR hS eb12 rfl rfl (t_X5_isBetter l D G h b12 (x4 + v10) (v1 + 1) v11 ev11) f_X5_isBetter mm_807 mm_809 mm_28 rfl hl.1 rfl (by first | exact Nat.le_of_ble_eq_true rfl | simp [xrf_cat, xcI, xcJ, xcA]) dX5_explore_66 (by first | decide | (refine ⟨?_, ?_⟩ <;> simp [rm_X5_explore, rm_X5_branch, rm_X5_isBetter, rm_J6_bitCount_0f7a4, Nat.mul_add] <;> omega) | simp [rm_X5_explore, rm_X5_branch, rm_X5_isBetter, rm_J6_bitCount_0f7a4, Nat.mul_add]) (by first | decide | (refine ⟨?_, ?_⟩ <;> simp [rm_X5_explore, rm_X5_branch, rm_X5_isBetter, rm_J6_bitCount_0f7a4, Nat.mul_add] <;> omega) | simp [rm_X5_explore, rm_X5_branch, rm_X5_isBetter, rm_J6_bitCount_0f7a4, Nat.mul_add]) rfl (fun H locs hR hS => ?_)
            refine lv_if_eq (tgt := 81) hx hb dX5_explore_69 (by decide) (fun c13 => ?_) (fun c13 => ?_)
            · replace hF := xift c13 hF
              cases hF
              exact x_vret hx hb hr hlk hR hS (by first | decide | (refine ⟨?_, ?_⟩ <;> simp [rm_X5_explore, rm_X5_branch, rm_X5_isBetter, rm_J6_bitCount_0f7a4, Nat.mul_add] <;> omega) | simp [rm_X5_explore, rm_X5_branch, rm_X5_isBetter, rm_J6_bitCount_0f7a4, Nat.mul_add]) (by first | decide | (refine ⟨?_, ?_⟩ <;> simp [rm_X5_explore, rm_X5_branch, rm_X5_isBetter, rm_J6_bitCount_0f7a4, Nat.mul_add] <;> omega) | simp [rm_X5_explore, rm_X5_branch, rm_X5_isBetter, rm_J6_bitCount_0f7a4, Nat.mul_add]) dX5_explore_81
            · replace hF := xiff c13 hF
              refine x_aload_n (o := (some a0)) hx hb dX5_explore_72 rfl (lv_at hl 1 rfl) ?_
              refine lv_iload_n hx hb dX5_explore_73 rfl (lv_at hl 2 rfl) ?_
              refine lv_iload_n hx hb dX5_explore_74 rfl (lv_at hl 3 rfl) ?_
              refine lv_iload_n hx hb dX5_explore_75 rfl (lv_at hl 4 rfl) ?_
              refine lv_iload hx hb dX5_explore_76 (lv_at hl 5 rfl) ?_
              replace hF := xbind hF; obtain ⟨b15, eb15, hF⟩ := hF
              replace hF := xbind hF; obtain ⟨h14, eh14, hF⟩ := hF
              refine x_callV (o := (some a0)) (ci := 5) (As := [.int x1, .int x2, .int x3, .int x4]) (rest := []) (v := none) (k := 4) hx hb hml hown hts hR hS eb15 rfl rfl (t_X5_branch l D G (rm_X5_explore d) ⟨rfl, rfl⟩ (F_X5_explore d) ih h b15 x1 x2 x3 x4 h14 eh14) f_X5_branch mm_811 mm_813 mm_29 rfl hl.1 rfl (by first | exact Nat.le_of_ble_eq_true rfl | simp [xrf_cat, xcI, xcJ, xcA]) dX5_explore_78 (by first | decide | (refine ⟨?_, ?_⟩ <;> simp [rm_X5_explore, rm_X5_branch, rm_X5_isBetter, rm_J6_bitCount_0f7a4, Nat.mul_add] <;> omega) | simp [rm_X5_explore, rm_X5_branch, rm_X5_isBetter, rm_J6_bitCount_0f7a4, Nat.mul_add]) (by first | decide | (refine ⟨?_, ?_⟩ <;> simp [rm_X5_explore, rm_X5_branch, rm_X5_isBetter, rm_J6_bitCount_0f7a4, Nat.mul_add] <;> omega) | simp [rm_X5_explore, rm_X5_branch, rm_X5_isBetter, rm_J6_bitCount_0f7a4, Nat.mul_add]) rfl (fun H locs hR hS => ?_)
              cases hF
              exact x_vret hx hb hr hlk hR hS (by first | decide | (refine ⟨?_, ?_⟩ <;> simp [rm_X5_explore, rm_X5_branch, rm_X5_isBetter, rm_J6_bitCount_0f7a4, Nat.mul_add] <;> omega) | simp [rm_X5_explore, rm_X5_branch, rm_X5_isBetter, rm_J6_bitCount_0f7a4, Nat.mul_add]) (by first | decide | (refine ⟨?_, ?_⟩ <;> simp [rm_X5_explore, rm_X5_branch, rm_X5_isBetter, rm_J6_bitCount_0f7a4, Nat.mul_add] <;> omega) | simp [rm_X5_explore, rm_X5_branch, rm_X5_isBetter, rm_J6_bitCount_0f7a4, Nat.mul_add]) dX5_explore_81
    · replace hF := xiff c4 hF
      refine x_aload_n (o := (some a0)) hx hb dX5_explore_17 rfl (lv_at hl 1 rfl) ?_
      refine lv_iload_n hx hb dX5_explore_18 rfl (lv_at hl 3 rfl) ?_
      replace hF := xbind hF; obtain ⟨h16, eh16, hF⟩ := hF
      refine x_put (o := (some a0)) (ci := 5) (C := RX5) (T := TX5) (N := 10) hx hb hts iw_X5 tyX5_ok nmX5 hown hR hS rfl 7 (by decide) mm_141 (Or.inl rfl) rfl rfl rfl eh16 dX5_explore_19 (fun H locs hR hS => ?_)
      refine x_aload_n (o := (some a0)) hx hb dX5_explore_22 rfl (lv_at hl 1 rfl) ?_
      refine lv_iload hx hb dX5_explore_23 (lv_at hl 0 rfl) ?_
      replace hF := xbind hF; obtain ⟨h17, eh17, hF⟩ := hF
      refine x_put (o := (some a0)) (ci := 5) (C := RX5) (T := TX5) (N := 10) hx hb hts iw_X5 tyX5_ok nmX5 hown hR hS rfl 8 (by decide) mm_142 (Or.inl rfl) rfl rfl rfl eh17 dX5_explore_25 (fun H locs hR hS => ?_)
      refine x_aload_n (o := (some a0)) hx hb dX5_explore_28 rfl (lv_at hl 1 rfl) ?_
      refine lv_iload hx hb dX5_explore_29 (lv_at hl 5 rfl) ?_
      replace hF := xbind hF; obtain ⟨h18, eh18, hF⟩ := hF
      refine x_put (o := (some a0)) (ci := 5) (C := RX5) (T := TX5) (N := 10) hx hb hts iw_X5 tyX5_ok nmX5 hown hR hS rfl 9 (by decide) mm_143 (Or.inl rfl) rfl rfl rfl eh18 dX5_explore_31 (fun H locs hR hS => ?_)
      refine lv_iload_n hx hb dX5_explore_34 rfl (lv_at hl 2 rfl) ?_
      refine lv_if_lt (tgt := 81) hx hb dX5_explore_35 (by decide) (fun c19 => ?_) (fun c19 => ?_)
      · replace hF := xift c19 hF
        cases hF
        exact x_vret hx hb hr hlk hR hS (by first | decide | (refine ⟨?_, ?_⟩ <;> simp [rm_X5_explore, rm_X5_branch, rm_X5_isBetter, rm_J6_bitCount_0f7a4, Nat.mul_add] <;> omega) | simp [rm_X5_explore, rm_X5_branch, rm_X5_isBetter, rm_J6_bitCount_0f7a4, Nat.mul_add]) (by first | decide | (refine ⟨?_, ?_⟩ <;> simp [rm_X5_explore, rm_X5_branch, rm_X5_isBetter, rm_J6_bitCount_0f7a4, Nat.mul_add] <;> omega) | simp [rm_X5_explore, rm_X5_branch, rm_X5_isBetter, rm_J6_bitCount_0f7a4, Nat.mul_add]) dX5_explore_81
      · replace hF := xiff c19 hF
        refine lv_iload_n hx hb dX5_explore_38 rfl (lv_at hl 2 rfl) ?_
        refine x_aload_n (o := (some a0)) hx hb dX5_explore_39 rfl (lv_at hl 1 rfl) ?_
        replace hF := xbind hF; obtain ⟨v20, ev20, hF⟩ := hF
        refine x_getI (o := (some a0)) (ci := 5) (C := RX5) (T := TX5) (N := 10) hx hb hts iw_X5 hown hR rfl 5 (by decide) mm_139 (Or.inl rfl) ev20 dX5_explore_40 ?_
        refine lv_icmp_ge (tgt := 81) hx hb dX5_explore_43 (by decide) (fun c21 => ?_) (fun c21 => ?_)
        · replace hF := xift c21 hF
          cases hF
          exact x_vret hx hb hr hlk hR hS (by first | decide | (refine ⟨?_, ?_⟩ <;> simp [rm_X5_explore, rm_X5_branch, rm_X5_isBetter, rm_J6_bitCount_0f7a4, Nat.mul_add] <;> omega) | simp [rm_X5_explore, rm_X5_branch, rm_X5_isBetter, rm_J6_bitCount_0f7a4, Nat.mul_add]) (by first | decide | (refine ⟨?_, ?_⟩ <;> simp [rm_X5_explore, rm_X5_branch, rm_X5_isBetter, rm_J6_bitCount_0f7a4, Nat.mul_add] <;> omega) | simp [rm_X5_explore, rm_X5_branch, rm_X5_isBetter, rm_J6_bitCount_0f7a4, Nat.mul_add]) dX5_explore_81
        · replace hF := xiff c21 hF
          refine lv_iload_n hx hb dX5_explore_46 rfl (lv_at hl 2 rfl) ?_
          refine lv_bipush (v := 14) hx hb dX5_explore_47 (by decide) ?_
          refine lv_icmp_ge (tgt := 81) hx hb dX5_explore_49 (by decide) (fun c22 => ?_) (fun c22 => ?_)
          · replace hF := xift c22 hF
            cases hF
            exact x_vret hx hb hr hlk hR hS (by first | decide | (refine ⟨?_, ?_⟩ <;> simp [rm_X5_explore, rm_X5_branch, rm_X5_isBetter, rm_J6_bitCount_0f7a4, Nat.mul_add] <;> omega) | simp [rm_X5_explore, rm_X5_branch, rm_X5_isBetter, rm_J6_bitCount_0f7a4, Nat.mul_add]) (by first | decide | (refine ⟨?_, ?_⟩ <;> simp [rm_X5_explore, rm_X5_branch, rm_X5_isBetter, rm_J6_bitCount_0f7a4, Nat.mul_add] <;> omega) | simp [rm_X5_explore, rm_X5_branch, rm_X5_isBetter, rm_J6_bitCount_0f7a4, Nat.mul_add]) dX5_explore_81
          · replace hF := xiff c22 hF
            refine x_aload_n (o := (some a0)) hx hb dX5_explore_52 rfl (lv_at hl 1 rfl) ?_
            refine lv_iload hx hb dX5_explore_53 (lv_at hl 5 rfl) ?_
            refine x_aload_n (o := (some a0)) hx hb dX5_explore_55 rfl (lv_at hl 1 rfl) ?_
            replace hF := xbind hF; obtain ⟨w23, ew23, hF⟩ := hF
            refine x_getR (o := (some a0)) (ci := 5) (C := RX5) (T := TX5) (N := 10) hx hb hts iw_X5 hown hR rfl 3 (by decide) mm_137 (Or.inl rfl) ew23 dX5_explore_56 ?_
            refine lv_iload_n hx hb dX5_explore_59 rfl (lv_at hl 2 rfl) ?_
            replace hF := xbind hF; obtain ⟨v24, ev24, hF⟩ := hF
            refine x_ild (o := w23) hx hb hR ev24 dX5_explore_60 ?_
            refine lv_iadd hx hb dX5_explore_61 ?_
            refine lv_iload hx hb dX5_explore_62 (lv_at hl 0 rfl) ?_
            refine lv_iconst (v := 1) hx hb dX5_explore_64 (by decide) ?_
            refine lv_iadd hx hb dX5_explore_65 ?_
            replace hF := xbind hF; obtain ⟨b26, eb26, hF⟩ := hF
            replace hF := xbind hF; obtain ⟨v25, ev25, hF⟩ := hF
            refine x_callV (o := (some a0)) (ci := 5) (As := [.int (x4 + v24), .int (v1 + 1)]) (rest := []) (v := (some (.int v25))) (k := 2) hx hb hml hown hts hR hS eb26 rfl rfl (t_X5_isBetter l D G h18 b26 (x4 + v24) (v1 + 1) v25 ev25) f_X5_isBetter mm_807 mm_809 mm_28 rfl hl.1 rfl (by first | exact Nat.le_of_ble_eq_true rfl | simp [xrf_cat, xcI, xcJ, xcA]) dX5_explore_66 (by first | decide | (refine ⟨?_, ?_⟩ <;> simp [rm_X5_explore, rm_X5_branch, rm_X5_isBetter, rm_J6_bitCount_0f7a4, Nat.mul_add] <;> omega) | simp [rm_X5_explore, rm_X5_branch, rm_X5_isBetter, rm_J6_bitCount_0f7a4, Nat.mul_add]) (by first | decide | (refine ⟨?_, ?_⟩ <;> simp [rm_X5_explore, rm_X5_branch, rm_X5_isBetter, rm_J6_bitCount_0f7a4, Nat.mul_add] <;> omega) | simp [rm_X5_explore, rm_X5_branch, rm_X5_isBetter, rm_J6_bitCount_0f7a4, Nat.mul_add]) rfl (fun H locs hR hS => ?_)
            refine lv_if_eq (tgt := 81) hx hb dX5_explore_69 (by decide) (fun c27 => ?_) (fun c27 => ?_)
            · replace hF := xift c27 hF
              cases hF
              exact x_vret hx hb hr hlk hR hS (by first | decide | (refine ⟨?_, ?_⟩ <;> simp [rm_X5_explore, rm_X5_branch, rm_X5_isBetter, rm_J6_bitCount_0f7a4, Nat.mul_add] <;> omega) | simp [rm_X5_explore, rm_X5_branch, rm_X5_isBetter, rm_J6_bitCount_0f7a4, Nat.mul_add]) (by first | decide | (refine ⟨?_, ?_⟩ <;> simp [rm_X5_explore, rm_X5_branch, rm_X5_isBetter, rm_J6_bitCount_0f7a4, Nat.mul_add] <;> omega) | simp [rm_X5_explore, rm_X5_branch, rm_X5_isBetter, rm_J6_bitCount_0f7a4, Nat.mul_add]) dX5_explore_81
            · replace hF := xiff c27 hF
              refine x_aload_n (o := (some a0)) hx hb dX5_explore_72 rfl (lv_at hl 1 rfl) ?_
              refine lv_iload_n hx hb dX5_explore_73 rfl (lv_at hl 2 rfl) ?_
              refine lv_iload_n hx hb dX5_explore_74 rfl (lv_at hl 3 rfl) ?_
              refine lv_iload_n hx hb dX5_explore_75 rfl (lv_at hl 4 rfl) ?_
              refine lv_iload hx hb dX5_explore_76 (lv_at hl 5 rfl) ?_
              replace hF := xbind hF; obtain ⟨b29, eb29, hF⟩ := hF
              replace hF := xbind hF; obtain ⟨h28, eh28, hF⟩ := hF
              refine x_callV (o := (some a0)) (ci := 5) (As := [.int x1, .int x2, .int x3, .int x4]) (rest := []) (v := none) (k := 4) hx hb hml hown hts hR hS eb29 rfl rfl (t_X5_branch l D G (rm_X5_explore d) ⟨rfl, rfl⟩ (F_X5_explore d) ih h18 b29 x1 x2 x3 x4 h28 eh28) f_X5_branch mm_811 mm_813 mm_29 rfl hl.1 rfl (by first | exact Nat.le_of_ble_eq_true rfl | simp [xrf_cat, xcI, xcJ, xcA]) dX5_explore_78 (by first | decide | (refine ⟨?_, ?_⟩ <;> simp [rm_X5_explore, rm_X5_branch, rm_X5_isBetter, rm_J6_bitCount_0f7a4, Nat.mul_add] <;> omega) | simp [rm_X5_explore, rm_X5_branch, rm_X5_isBetter, rm_J6_bitCount_0f7a4, Nat.mul_add]) (by first | decide | (refine ⟨?_, ?_⟩ <;> simp [rm_X5_explore, rm_X5_branch, rm_X5_isBetter, rm_J6_bitCount_0f7a4, Nat.mul_add] <;> omega) | simp [rm_X5_explore, rm_X5_branch, rm_X5_isBetter, rm_J6_bitCount_0f7a4, Nat.mul_add]) rfl (fun H locs hR hS => ?_)
              cases hF
              exact x_vret hx hb hr hlk hR hS (by first | decide | (refine ⟨?_, ?_⟩ <;> simp [rm_X5_explore, rm_X5_branch, rm_X5_isBetter, rm_J6_bitCount_0f7a4, Nat.mul_add] <;> omega) | simp [rm_X5_explore, rm_X5_branch, rm_X5_isBetter, rm_J6_bitCount_0f7a4, Nat.mul_add]) (by first | decide | (refine ⟨?_, ?_⟩ <;> simp [rm_X5_explore, rm_X5_branch, rm_X5_isBetter, rm_J6_bitCount_0f7a4, Nat.mul_add] <;> omega) | simp [rm_X5_explore, rm_X5_branch, rm_X5_isBetter, rm_J6_bitCount_0f7a4, Nat.mul_add]) dX5_explore_81
def rm_X5_choose : Room := { frames := 34, cells := 0, slots := 0, locals := 1345 }
theorem f_X5_choose : xM yX5_choose cX5_choose 2 (some .int) 1 := ⟨mm_792, mm_60, by decide +kernel, by decide +kernel⟩
theorem dX5_choose_0 : decode cX5_choose 0 = .ok (.aload_n 0, 1) := by decide +kernel
theorem dX5_choose_1 : decode cX5_choose 1 = .ok (.iconst 0, 1) := by decide +kernel
theorem dX5_choose_2 : decode cX5_choose 2 = .ok (.putfield 31, 3) := by decide +kernel
theorem dX5_choose_5 : decode cX5_choose 5 = .ok (.aload_n 0, 1) := by decide +kernel
theorem dX5_choose_6 : decode cX5_choose 6 = .ok (.iconst 0, 1) := by decide +kernel
theorem dX5_choose_7 : decode cX5_choose 7 = .ok (.putfield 34, 3) := by decide +kernel
theorem dX5_choose_10 : decode cX5_choose 10 = .ok (.aload_n 0, 1) := by decide +kernel
theorem dX5_choose_11 : decode cX5_choose 11 = .ok (.iconst 0, 1) := by decide +kernel
theorem dX5_choose_12 : decode cX5_choose 12 = .ok (.putfield 37, 3) := by decide +kernel
theorem dX5_choose_15 : decode cX5_choose 15 = .ok (.iload_n 1, 1) := by decide +kernel
theorem dX5_choose_16 : decode cX5_choose 16 = .ok (.ifCond .lt 15, 3) := by decide +kernel
theorem dX5_choose_19 : decode cX5_choose 19 = .ok (.aload_n 0, 1) := by decide +kernel
theorem dX5_choose_20 : decode cX5_choose 20 = .ok (.invokevirtual 40, 3) := by decide +kernel
theorem dX5_choose_23 : decode cX5_choose 23 = .ok (.aload_n 0, 1) := by decide +kernel
theorem dX5_choose_24 : decode cX5_choose 24 = .ok (.iconst 0, 1) := by decide +kernel
theorem dX5_choose_25 : decode cX5_choose 25 = .ok (.iconst 0, 1) := by decide +kernel
theorem dX5_choose_26 : decode cX5_choose 26 = .ok (.iload_n 1, 1) := by decide +kernel
theorem dX5_choose_27 : decode cX5_choose 27 = .ok (.iconst 0, 1) := by decide +kernel
theorem dX5_choose_28 : decode cX5_choose 28 = .ok (.invokevirtual 43, 3) := by decide +kernel
theorem dX5_choose_31 : decode cX5_choose 31 = .ok (.aload_n 0, 1) := by decide +kernel
theorem dX5_choose_32 : decode cX5_choose 32 = .ok (.invokevirtual 47, 3) := by decide +kernel
theorem dX5_choose_35 : decode cX5_choose 35 = .ok (.aload_n 0, 1) := by decide +kernel
theorem dX5_choose_36 : decode cX5_choose 36 = .ok (.getfield 37, 3) := by decide +kernel
theorem dX5_choose_39 : decode cX5_choose 39 = .ok (.ireturn, 1) := by decide +kernel
def F_X5_choose (G : Nat → Nat) (h : xH) (a0 : Nat) (x1 : Int32) : Option (Int32 × xH) :=
  (xp G h (some a0) 5 7 (.int 0)).bind fun h1 =>
  (xp G h1 (some a0) 5 8 (.int 0)).bind fun h2 =>
  (xp G h2 (some a0) 5 9 (.int 0)).bind fun h3 =>
  if x1 < 0 then
    (xc h3 (some a0) 5).bind fun b6 =>
    (F_X5_keepBest G h3 b6).bind fun h5 =>
    (gI h5 (some a0) 5 9).bind fun v7 =>
    some (v7, h5)
  else
  (xc h3 (some a0) 5).bind fun b9 =>
  (F_X5_addUpWorths G h3 b9).bind fun h8 =>
  (xc h8 (some a0) 5).bind fun b11 =>
  (F_X5_explore 16 G h8 b11 0 0 x1 0).bind fun h10 =>
  (xc h10 (some a0) 5).bind fun b13 =>
  (F_X5_keepBest G h10 b13).bind fun h12 =>
  (gI h12 (some a0) 5 9).bind fun v14 =>
  some (v14, h12)
set_option maxHeartbeats 4000000 in
set_option maxRecDepth 100000 in
theorem t_X5_choose (l : Launch) (D : va_G) (G : Nat → Nat) (h : xH) (a0 : Nat) (x1 : Int32) (r : Int32) (h' : xH) (hF : F_X5_choose G h a0 x1 = some (r, h')) : xC l yX5_choose cX5_choose 2 (some .int) (rm_X5_choose) D G h [.ref a0, .int x1] (some (.int r)) h' := by
  refine xC_of (by decide) (by first | decide | exact Nat.le_of_ble_eq_true rfl) ?_
  intro p e s m args below meth c ls hx hb hr hlk hml hown hnm hts hR hS hl
  have hl : lv_has ls 2 [(0, va_rf (some a0)), (1, .int x1)] := hl
  unfold F_X5_choose at hF
  refine x_aload_n (o := (some a0)) hx hb dX5_choose_0 rfl (lv_at hl 0 rfl) ?_
  refine lv_iconst (v := 0) hx hb dX5_choose_1 (by decide) ?_
  replace hF := xbind hF; obtain ⟨h1, eh1, hF⟩ := hF
  refine x_put (o := (some a0)) (ci := 5) (C := RX5) (T := TX5) (N := 10) hx hb hts iw_X5 tyX5_ok nmX5 hown hR hS rfl 7 (by decide) mm_141 (Or.inl rfl) rfl rfl rfl eh1 dX5_choose_2 (fun H locs hR hS => ?_)
  refine x_aload_n (o := (some a0)) hx hb dX5_choose_5 rfl (lv_at hl 0 rfl) ?_
  refine lv_iconst (v := 0) hx hb dX5_choose_6 (by decide) ?_
  replace hF := xbind hF; obtain ⟨h2, eh2, hF⟩ := hF
  refine x_put (o := (some a0)) (ci := 5) (C := RX5) (T := TX5) (N := 10) hx hb hts iw_X5 tyX5_ok nmX5 hown hR hS rfl 8 (by decide) mm_142 (Or.inl rfl) rfl rfl rfl eh2 dX5_choose_7 (fun H locs hR hS => ?_)
  refine x_aload_n (o := (some a0)) hx hb dX5_choose_10 rfl (lv_at hl 0 rfl) ?_
  refine lv_iconst (v := 0) hx hb dX5_choose_11 (by decide) ?_
  replace hF := xbind hF; obtain ⟨h3, eh3, hF⟩ := hF
  refine x_put (o := (some a0)) (ci := 5) (C := RX5) (T := TX5) (N := 10) hx hb hts iw_X5 tyX5_ok nmX5 hown hR hS rfl 9 (by decide) mm_143 (Or.inl rfl) rfl rfl rfl eh3 dX5_choose_12 (fun H locs hR hS => ?_)
  refine lv_iload_n hx hb dX5_choose_15 rfl (lv_at hl 1 rfl) ?_
  refine lv_if_lt (tgt := 31) hx hb dX5_choose_16 (by decide) (fun c4 => ?_) (fun c4 => ?_)
  · replace hF := xift c4 hF
    refine x_aload_n (o := (some a0)) hx hb dX5_choose_31 rfl (lv_at hl 0 rfl) ?_
    replace hF := xbind hF; obtain ⟨b6, eb6, hF⟩ := hF
    replace hF := xbind hF; obtain ⟨h5, eh5, hF⟩ := hF
    refine x_callV (o := (some a0)) (ci := 5) (As := []) (rest := []) (v := none) (k := 0) hx hb hml hown hts hR hS eb6 rfl rfl (t_X5_keepBest l D G h3 b6 h5 eh5) f_X5_keepBest mm_815 mm_817 mm_30 rfl hl.1 rfl (by first | exact Nat.le_of_ble_eq_true rfl | simp [xrf_cat, xcI, xcJ, xcA]) dX5_choose_32 (by decide) (by decide) rfl (fun H locs hR hS => ?_)
    refine x_aload_n (o := (some a0)) hx hb dX5_choose_35 rfl (lv_at hl 0 rfl) ?_
    replace hF := xbind hF; obtain ⟨v7, ev7, hF⟩ := hF
    refine x_getI (o := (some a0)) (ci := 5) (C := RX5) (T := TX5) (N := 10) hx hb hts iw_X5 hown hR rfl 9 (by decide) mm_143 (Or.inl rfl) ev7 dX5_choose_36 ?_
    cases hF
    exact x_iret hx hb hr rfl hlk hR hS (by decide) (by decide) dX5_choose_39
  · replace hF := xiff c4 hF
    refine x_aload_n (o := (some a0)) hx hb dX5_choose_19 rfl (lv_at hl 0 rfl) ?_
    replace hF := xbind hF; obtain ⟨b9, eb9, hF⟩ := hF
    replace hF := xbind hF; obtain ⟨h8, eh8, hF⟩ := hF
    refine x_callV (o := (some a0)) (ci := 5) (As := []) (rest := []) (v := none) (k := 0) hx hb hml hown hts hR hS eb9 rfl rfl (t_X5_addUpWorths l D G h3 b9 h8 eh8) f_X5_addUpWorths mm_793 mm_795 mm_26 rfl hl.1 rfl (by first | exact Nat.le_of_ble_eq_true rfl | simp [xrf_cat, xcI, xcJ, xcA]) dX5_choose_20 (by decide) (by decide) rfl (fun H locs hR hS => ?_)
    refine x_aload_n (o := (some a0)) hx hb dX5_choose_23 rfl (lv_at hl 0 rfl) ?_
    refine lv_iconst (v := 0) hx hb dX5_choose_24 (by decide) ?_
    refine lv_iconst (v := 0) hx hb dX5_choose_25 (by decide) ?_
    refine lv_iload_n hx hb dX5_choose_26 rfl (lv_at hl 1 rfl) ?_
    refine lv_iconst (v := 0) hx hb dX5_choose_27 (by decide) ?_
    replace hF := xbind hF; obtain ⟨b11, eb11, hF⟩ := hF
    replace hF := xbind hF; obtain ⟨h10, eh10, hF⟩ := hF
    refine x_callV (o := (some a0)) (ci := 5) (As := [.int 0, .int 0, .int x1, .int 0]) (rest := []) (v := none) (k := 4) hx hb hml hown hts hR hS eb11 rfl rfl (t_X5_explore l D G 16 h8 b11 0 0 x1 0 h10 eh10) f_X5_explore mm_797 mm_799 mm_27 rfl hl.1 rfl (by first | exact Nat.le_of_ble_eq_true rfl | simp [xrf_cat, xcI, xcJ, xcA]) dX5_choose_28 (by decide) (by decide) rfl (fun H locs hR hS => ?_)
    refine x_aload_n (o := (some a0)) hx hb dX5_choose_31 rfl (lv_at hl 0 rfl) ?_
    replace hF := xbind hF; obtain ⟨b13, eb13, hF⟩ := hF
    replace hF := xbind hF; obtain ⟨h12, eh12, hF⟩ := hF
    refine x_callV (o := (some a0)) (ci := 5) (As := []) (rest := []) (v := none) (k := 0) hx hb hml hown hts hR hS eb13 rfl rfl (t_X5_keepBest l D G h10 b13 h12 eh12) f_X5_keepBest mm_815 mm_817 mm_30 rfl hl.1 rfl (by first | exact Nat.le_of_ble_eq_true rfl | simp [xrf_cat, xcI, xcJ, xcA]) dX5_choose_32 (by decide) (by decide) rfl (fun H locs hR hS => ?_)
    refine x_aload_n (o := (some a0)) hx hb dX5_choose_35 rfl (lv_at hl 0 rfl) ?_
    replace hF := xbind hF; obtain ⟨v14, ev14, hF⟩ := hF
    refine x_getI (o := (some a0)) (ci := 5) (C := RX5) (T := TX5) (N := 10) hx hb hts iw_X5 hown hR rfl 9 (by decide) mm_143 (Or.inl rfl) ev14 dX5_choose_36 ?_
    cases hF
    exact x_iret hx hb hr rfl hlk hR hS (by decide) (by decide) dX5_choose_39
