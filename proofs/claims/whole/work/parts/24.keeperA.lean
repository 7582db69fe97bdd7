def rm_X10_within : Room := { frames := 0, cells := 0, slots := 0, locals := 0 }
theorem f_X10_within : xM yX10_within cX10_within 3 (some .boolean) 3 := ⟨mm_349, mm_55, by decide +kernel, by decide +kernel⟩
theorem dX10_within_0 : decode cX10_within 0 = .ok (.iload_n 0, 1) := by decide +kernel
theorem dX10_within_1 : decode cX10_within 1 = .ok (.iload_n 1, 1) := by decide +kernel
theorem dX10_within_2 : decode cX10_within 2 = .ok (.if_icmp .lt 12, 3) := by decide +kernel
theorem dX10_within_5 : decode cX10_within 5 = .ok (.iload_n 0, 1) := by decide +kernel
theorem dX10_within_6 : decode cX10_within 6 = .ok (.iload_n 2, 1) := by decide +kernel
theorem dX10_within_7 : decode cX10_within 7 = .ok (.if_icmp .gt 7, 3) := by decide +kernel
theorem dX10_within_10 : decode cX10_within 10 = .ok (.iconst 1, 1) := by decide +kernel
theorem dX10_within_11 : decode cX10_within 11 = .ok (.goto 4, 3) := by decide +kernel
theorem dX10_within_14 : decode cX10_within 14 = .ok (.iconst 0, 1) := by decide +kernel
theorem dX10_within_15 : decode cX10_within 15 = .ok (.ireturn, 1) := by decide +kernel
def F_X10_within (x0 : Int32) (x1 : Int32) (x2 : Int32) : Option Int32 :=
  if x0 < x1 then
    some 0
  else
  if x2 < x0 then
    some 0
  else
  some 1
set_option maxHeartbeats 4000000 in
set_option maxRecDepth 100000 in
theorem t_X10_within (l : Launch) (D : va_G) (G : Nat → Nat) (h : xH) (x0 : Int32) (x1 : Int32) (x2 : Int32) (r : Int32) (hF : F_X10_within x0 x1 x2 = some r) : xC l yX10_within cX10_within 3 (some .boolean) (rm_X10_within) D G h [.int x0, .int x1, .int x2] (some (.int r)) h := by
  refine xC_of (by decide) (by first | decide | exact Nat.le_of_ble_eq_true rfl) ?_
  intro p e s m args below meth c ls hx hb hr hlk hml hown hnm hts hR hS hl
  have hl : lv_has ls 3 [(0, .int x0), (1, .int x1), (2, .int x2)] := hl
  unfold F_X10_within at hF
  refine lv_iload_n hx hb dX10_within_0 rfl (lv_at hl 0 rfl) ?_
  refine lv_iload_n hx hb dX10_within_1 rfl (lv_at hl 1 rfl) ?_
  refine lv_icmp_lt (tgt := 14) hx hb dX10_within_2 (by decide) (fun c1 => ?_) (fun c1 => ?_)
  · replace hF := xift c1 hF
    refine lv_iconst (v := 0) hx hb dX10_within_14 (by decide) ?_
    cases hF
    exact x_iret hx hb hr rfl hlk hR hS (by decide) (by decide) dX10_within_15
  · replace hF := xiff c1 hF
    refine lv_iload_n hx hb dX10_within_5 rfl (lv_at hl 0 rfl) ?_
    refine lv_iload_n hx hb dX10_within_6 rfl (lv_at hl 2 rfl) ?_
    refine lv_icmp_gt (tgt := 14) hx hb dX10_within_7 (by decide) (fun c2 => ?_) (fun c2 => ?_)
    · replace hF := xift c2 hF
      refine lv_iconst (v := 0) hx hb dX10_within_14 (by decide) ?_
      cases hF
      exact x_iret hx hb hr rfl hlk hR hS (by decide) (by decide) dX10_within_15
    · replace hF := xiff c2 hF
      refine lv_iconst (v := 1) hx hb dX10_within_10 (by decide) ?_
      refine lv_goto (tgt := 15) hx hb dX10_within_11 (by decide) ?_
      cases hF
      exact x_iret hx hb hr rfl hlk hR hS (by decide) (by decide) dX10_within_15
def rm_X10_isSteady : Room := { frames := 1, cells := 0, slots := 0, locals := 22 }
theorem f_X10_isSteady : xM yX10_isSteady cX10_isSteady 2 (some .boolean) 2 := ⟨mm_643, mm_55, by decide +kernel, by decide +kernel⟩
theorem dX10_isSteady_0 : decode cX10_isSteady 0 = .ok (.iload_n 0, 1) := by decide +kernel
theorem dX10_isSteady_1 : decode cX10_isSteady 1 = .ok (.iconst 0, 1) := by decide +kernel
theorem dX10_isSteady_2 : decode cX10_isSteady 2 = .ok (.sipush 300, 3) := by decide +kernel
theorem dX10_isSteady_5 : decode cX10_isSteady 5 = .ok (.invokestatic 66, 3) := by decide +kernel
theorem dX10_isSteady_8 : decode cX10_isSteady 8 = .ok (.ifCond .eq 17, 3) := by decide +kernel
theorem dX10_isSteady_11 : decode cX10_isSteady 11 = .ok (.iload_n 1, 1) := by decide +kernel
theorem dX10_isSteady_12 : decode cX10_isSteady 12 = .ok (.iconst 0, 1) := by decide +kernel
theorem dX10_isSteady_13 : decode cX10_isSteady 13 = .ok (.bipush 10, 2) := by decide +kernel
theorem dX10_isSteady_15 : decode cX10_isSteady 15 = .ok (.invokestatic 66, 3) := by decide +kernel
theorem dX10_isSteady_18 : decode cX10_isSteady 18 = .ok (.ifCond .eq 7, 3) := by decide +kernel
theorem dX10_isSteady_21 : decode cX10_isSteady 21 = .ok (.iconst 1, 1) := by decide +kernel
theorem dX10_isSteady_22 : decode cX10_isSteady 22 = .ok (.goto 4, 3) := by decide +kernel
theorem dX10_isSteady_25 : decode cX10_isSteady 25 = .ok (.iconst 0, 1) := by decide +kernel
theorem dX10_isSteady_26 : decode cX10_isSteady 26 = .ok (.ireturn, 1) := by decide +kernel
def F_X10_isSteady (x0 : Int32) (x1 : Int32) : Option Int32 :=
  (F_X10_within x0 0 300).bind fun v1 =>
  if v1 = 0 then
    some 0
  else
  (F_X10_within x1 0 10).bind fun v3 =>
  if v3 = 0 then
    some 0
  else
  some 1
set_option maxHeartbeats 4000000 in
set_option maxRecDepth 100000 in
theorem t_X10_isSteady (l : Launch) (D : va_G) (G : Nat → Nat) (h : xH) (x0 : Int32) (x1 : Int32) (r : Int32) (hF : F_X10_isSteady x0 x1 = some r) : xC l yX10_isSteady cX10_isSteady 2 (some .boolean) (rm_X10_isSteady) D G h [.int x0, .int x1] (some (.int r)) h := by
  refine xC_of (by decide) (by first | decide | exact Nat.le_of_ble_eq_true rfl) ?_
  intro p e s m args below meth c ls hx hb hr hlk hml hown hnm hts hR hS hl
  have hl : lv_has ls 2 [(0, .int x0), (1, .int x1)] := hl
  unfold F_X10_isSteady at hF
  refine lv_iload_n hx hb dX10_isSteady_0 rfl (lv_at hl 0 rfl) ?_
  refine lv_iconst (v := 0) hx hb dX10_isSteady_1 (by decide) ?_
  refine lv_sipush (v := 300) hx hb dX10_isSteady_2 (by decide) ?_
  replace hF := xbind hF; obtain ⟨v1, ev1, hF⟩ := hF
  refine x_callS (As := [.int x0, .int 0, .int 300]) (rest := []) (v := (some (.int v1))) (k := 3) hx hb hml hown hts hR hS (t_X10_within l D G h x0 0 300 v1 ev1) f_X10_within mm_347 mm_348 rfl hl.1 rfl (by first | exact Nat.le_of_ble_eq_true rfl | simp [xrf_cat, xcI, xcJ, xcA]) dX10_isSteady_5 (by decide) (by decide) rfl (fun H locs hR hS => ?_)
  refine lv_if_eq (tgt := 25) hx hb dX10_isSteady_8 (by decide) (fun c2 => ?_) (fun c2 => ?_)
  · replace hF := xift c2 hF
    refine lv_iconst (v := 0) hx hb dX10_isSteady_25 (by decide) ?_
    cases hF
    exact x_iret hx hb hr rfl hlk hR hS (by decide) (by decide) dX10_isSteady_26
  · replace hF := xiff c2 hF
    refine lv_iload_n hx hb dX10_isSteady_11 rfl (lv_at hl 1 rfl) ?_
    refine lv_iconst (v := 0) hx hb dX10_isSteady_12 (by decide) ?_
    refine lv_bipush (v := 10) hx hb dX10_isSteady_13 (by decide) ?_
    replace hF := xbind hF; obtain ⟨v3, ev3, hF⟩ := hF
    refine x_callS (As := [.int x1, .int 0, .int 10]) (rest := []) (v := (some (.int v3))) (k := 3) hx hb hml hown hts hR hS (t_X10_within l D G h x1 0 10 v3 ev3) f_X10_within mm_347 mm_348 rfl hl.1 rfl (by first | exact Nat.le_of_ble_eq_true rfl | simp [xrf_cat, xcI, xcJ, xcA]) dX10_isSteady_15 (by decide) (by decide) rfl (fun H locs hR hS => ?_)
    refine lv_if_eq (tgt := 25) hx hb dX10_isSteady_18 (by decide) (fun c4 => ?_) (fun c4 => ?_)
    · replace hF := xift c4 hF
      refine lv_iconst (v := 0) hx hb dX10_isSteady_25 (by decide) ?_
      cases hF
      exact x_iret hx hb hr rfl hlk hR hS (by decide) (by decide) dX10_isSteady_26
    · replace hF := xiff c4 hF
      refine lv_iconst (v := 1) hx hb dX10_isSteady_21 (by decide) ?_
      refine lv_goto (tgt := 26) hx hb dX10_isSteady_22 (by decide) ?_
      cases hF
      exact x_iret hx hb hr rfl hlk hR hS (by decide) (by decide) dX10_isSteady_26
def rm_X10_serviceAt : Room := { frames := 3, cells := 0, slots := 0, locals := 64 }
theorem f_X10_serviceAt : xM yX10_serviceAt cX10_serviceAt 2 (some (.object "ShareKeeper$Service")) 1 := ⟨mm_327, mm_55, by decide +kernel, by decide +kernel⟩
theorem dX10_serviceAt_0 : decode cX10_serviceAt 0 = .ok (.iload_n 1, 1) := by decide +kernel
theorem dX10_serviceAt_1 : decode cX10_serviceAt 1 = .ok (.ifCond .lt 32, 3) := by decide +kernel
theorem dX10_serviceAt_4 : decode cX10_serviceAt 4 = .ok (.iload_n 1, 1) := by decide +kernel
theorem dX10_serviceAt_5 : decode cX10_serviceAt 5 = .ok (.aload_n 0, 1) := by decide +kernel
theorem dX10_serviceAt_6 : decode cX10_serviceAt 6 = .ok (.getfield 12, 3) := by decide +kernel
theorem dX10_serviceAt_9 : decode cX10_serviceAt 9 = .ok (.invokeinterface 49 1, 5) := by decide +kernel
theorem dX10_serviceAt_14 : decode cX10_serviceAt 14 = .ok (.if_icmp .ge 19, 3) := by decide +kernel
theorem dX10_serviceAt_17 : decode cX10_serviceAt 17 = .ok (.aload_n 0, 1) := by decide +kernel
theorem dX10_serviceAt_18 : decode cX10_serviceAt 18 = .ok (.getfield 12, 3) := by decide +kernel
theorem dX10_serviceAt_21 : decode cX10_serviceAt 21 = .ok (.iload_n 1, 1) := by decide +kernel
theorem dX10_serviceAt_22 : decode cX10_serviceAt 22 = .ok (.invokeinterface 225 2, 5) := by decide +kernel
theorem dX10_serviceAt_27 : decode cX10_serviceAt 27 = .ok (.checkcast 55, 3) := by decide +kernel
theorem dX10_serviceAt_30 : decode cX10_serviceAt 30 = .ok (.goto 4, 3) := by decide +kernel
theorem dX10_serviceAt_33 : decode cX10_serviceAt 33 = .ok (.aconst_null, 1) := by decide +kernel
theorem dX10_serviceAt_34 : decode cX10_serviceAt 34 = .ok (.areturn, 1) := by decide +kernel
def F_X10_serviceAt (G : Nat → Nat) (h : xH) (a0 : Nat) (x1 : Int32) : Option (Option Nat) :=
  if x1 < 0 then
    some none
  else
  (gR h (some a0) 10 0).bind fun w2 =>
  (xc h w2 0).bind fun b4 =>
  (F_Jx4a65c_size_8abf5 G h b4).bind fun v3 =>
  if v3 ≤ x1 then
    some none
  else
  (gR h (some a0) 10 0).bind fun w6 =>
  (xc h w6 0).bind fun b8 =>
  (F_Jx4a65c_get_915e3 G h b8 x1).bind fun w7 =>
  xk h w7 7 <|
  some w7
set_option maxHeartbeats 4000000 in
set_option maxRecDepth 100000 in
theorem t_X10_serviceAt (l : Launch) (D : va_G) (G : Nat → Nat) (h : xH) (a0 : Nat) (x1 : Int32) (r : Option Nat) (hF : F_X10_serviceAt G h a0 x1 = some r) : xC l yX10_serviceAt cX10_serviceAt 2 (some (.object "ShareKeeper$Service")) (rm_X10_serviceAt) D G h [.ref a0, .int x1] (some (va_rf r)) h := by
  refine xC_of (by decide) (by first | decide | exact Nat.le_of_ble_eq_true rfl) ?_
  intro p e s m args below meth c ls hx hb hr hlk hml hown hnm hts hR hS hl
  have hl : lv_has ls 2 [(0, va_rf (some a0)), (1, .int x1)] := hl
  unfold F_X10_serviceAt at hF
  refine lv_iload_n hx hb dX10_serviceAt_0 rfl (lv_at hl 1 rfl) ?_
  refine lv_if_lt (tgt := 33) hx hb dX10_serviceAt_1 (by decide) (fun c1 => ?_) (fun c1 => ?_)
  · replace hF := xift c1 hF
    refine lv_null hx hb dX10_serviceAt_33 ?_
    cases hF
    exact x_aret hx hb hr (Or.inl ⟨_, rfl⟩) hlk hR hS (by decide) (by decide) dX10_serviceAt_34
  · replace hF := xiff c1 hF
    refine lv_iload_n hx hb dX10_serviceAt_4 rfl (lv_at hl 1 rfl) ?_
    refine x_aload_n (o := (some a0)) hx hb dX10_serviceAt_5 rfl (lv_at hl 0 rfl) ?_
    replace hF := xbind hF; obtain ⟨w2, ew2, hF⟩ := hF
    refine x_getR (o := (some a0)) (ci := 10) (C := RX10) (T := TX10) (N := 11) hx hb hts iw_X10 hown hR rfl 0 (by decide) mm_187 (Or.inl rfl) ew2 dX10_serviceAt_6 ?_
    replace hF := xbind hF; obtain ⟨b4, eb4, hF⟩ := hF
    replace hF := xbind hF; obtain ⟨v3, ev3, hF⟩ := hF
    refine x_callF (o := w2) (ci := 0) (As := []) (rest := [.int x1]) (v := (some (.int v3))) (k := 0) hx hb hml hown hts hR hS eb4 rfl (by decide +kernel) (t_Jx4a65c_size_8abf5 l D G h b4 v3 ev3) f_Jx4a65c_size_8abf5 mm_226 mm_232 mm_230 (by decide +kernel) rfl hl.1 rfl (by first | exact Nat.le_of_ble_eq_true rfl | simp [xrf_cat, xcI, xcJ, xcA]) dX10_serviceAt_9 (by decide) (by decide) rfl (fun H locs hR hS => ?_)
    refine lv_icmp_ge (tgt := 33) hx hb dX10_serviceAt_14 (by decide) (fun c5 => ?_) (fun c5 => ?_)
    · replace hF := xift c5 hF
      refine lv_null hx hb dX10_serviceAt_33 ?_
      cases hF
      exact x_aret hx hb hr (Or.inl ⟨_, rfl⟩) hlk hR hS (by decide) (by decide) dX10_serviceAt_34
    · replace hF := xiff c5 hF
      refine x_aload_n (o := (some a0)) hx hb dX10_serviceAt_17 rfl (lv_at hl 0 rfl) ?_
      replace hF := xbind hF; obtain ⟨w6, ew6, hF⟩ := hF
      refine x_getR (o := (some a0)) (ci := 10) (C := RX10) (T := TX10) (N := 11) hx hb hts iw_X10 hown hR rfl 0 (by decide) mm_187 (Or.inl rfl) ew6 dX10_serviceAt_18 ?_
      refine lv_iload_n hx hb dX10_serviceAt_21 rfl (lv_at hl 1 rfl) ?_
      replace hF := xbind hF; obtain ⟨b8, eb8, hF⟩ := hF
      replace hF := xbind hF; obtain ⟨w7, ew7, hF⟩ := hF
      refine x_callF (o := w6) (ci := 0) (As := [.int x1]) (rest := []) (v := (some (va_rf w7))) (k := 1) hx hb hml hown hts hR hS eb8 rfl (by decide +kernel) (t_Jx4a65c_get_915e3 l D G h b8 x1 w7 ew7) f_Jx4a65c_get_915e3 mm_329 mm_334 mm_332 (by decide +kernel) rfl hl.1 rfl (by first | exact Nat.le_of_ble_eq_true rfl | simp [xrf_cat, xcI, xcJ, xcA]) dX10_serviceAt_22 (by decide) (by decide) rfl (fun H locs hR hS => ?_)
      replace hF := xkguard hF; obtain ⟨c9, hF⟩ := hF
      refine x_cast (o := w7) (ci := 7) hx hb hown hts hR rfl mm_235 c9 dX10_serviceAt_27 ?_
      refine lv_goto (tgt := 34) hx hb dX10_serviceAt_30 (by decide) ?_
      cases hF
      exact x_aret hx hb hr (Or.inl ⟨_, rfl⟩) hlk hR hS (by decide) (by decide) dX10_serviceAt_34
def rm_X10_sourceAt : Room := { frames := 3, cells := 0, slots := 0, locals := 64 }
theorem f_X10_sourceAt : xM yX10_sourceAt cX10_sourceAt 2 (some (.object "ShareKeeper$Source")) 1 := ⟨mm_381, mm_55, by decide +kernel, by decide +kernel⟩
theorem dX10_sourceAt_0 : decode cX10_sourceAt 0 = .ok (.iload_n 1, 1) := by decide +kernel
theorem dX10_sourceAt_1 : decode cX10_sourceAt 1 = .ok (.ifCond .lt 32, 3) := by decide +kernel
theorem dX10_sourceAt_4 : decode cX10_sourceAt 4 = .ok (.iload_n 1, 1) := by decide +kernel
theorem dX10_sourceAt_5 : decode cX10_sourceAt 5 = .ok (.aload_n 0, 1) := by decide +kernel
theorem dX10_sourceAt_6 : decode cX10_sourceAt 6 = .ok (.getfield 16, 3) := by decide +kernel
theorem dX10_sourceAt_9 : decode cX10_sourceAt 9 = .ok (.invokeinterface 49 1, 5) := by decide +kernel
theorem dX10_sourceAt_14 : decode cX10_sourceAt 14 = .ok (.if_icmp .ge 19, 3) := by decide +kernel
theorem dX10_sourceAt_17 : decode cX10_sourceAt 17 = .ok (.aload_n 0, 1) := by decide +kernel
theorem dX10_sourceAt_18 : decode cX10_sourceAt 18 = .ok (.getfield 16, 3) := by decide +kernel
theorem dX10_sourceAt_21 : decode cX10_sourceAt 21 = .ok (.iload_n 1, 1) := by decide +kernel
theorem dX10_sourceAt_22 : decode cX10_sourceAt 22 = .ok (.invokeinterface 225 2, 5) := by decide +kernel
theorem dX10_sourceAt_27 : decode cX10_sourceAt 27 = .ok (.checkcast 70, 3) := by decide +kernel
theorem dX10_sourceAt_30 : decode cX10_sourceAt 30 = .ok (.goto 4, 3) := by decide +kernel
theorem dX10_sourceAt_33 : decode cX10_sourceAt 33 = .ok (.aconst_null, 1) := by decide +kernel
theorem dX10_sourceAt_34 : decode cX10_sourceAt 34 = .ok (.areturn, 1) := by decide +kernel
def F_X10_sourceAt (G : Nat → Nat) (h : xH) (a0 : Nat) (x1 : Int32) : Option (Option Nat) :=
  if x1 < 0 then
    some none
  else
  (gR h (some a0) 10 1).bind fun w2 =>
  (xc h w2 0).bind fun b4 =>
  (F_Jx4a65c_size_8abf5 G h b4).bind fun v3 =>
  if v3 ≤ x1 then
    some none
  else
  (gR h (some a0) 10 1).bind fun w6 =>
  (xc h w6 0).bind fun b8 =>
  (F_Jx4a65c_get_915e3 G h b8 x1).bind fun w7 =>
  xk h w7 8 <|
  some w7
set_option maxHeartbeats 4000000 in
set_option maxRecDepth 100000 in
theorem t_X10_sourceAt (l : Launch) (D : va_G) (G : Nat → Nat) (h : xH) (a0 : Nat) (x1 : Int32) (r : Option Nat) (hF : F_X10_sourceAt G h a0 x1 = some r) : xC l yX10_sourceAt cX10_sourceAt 2 (some (.object "ShareKeeper$Source")) (rm_X10_sourceAt) D G h [.ref a0, .int x1] (some (va_rf r)) h := by
  refine xC_of (by decide) (by first | decide | exact Nat.le_of_ble_eq_true rfl) ?_
  intro p e s m args below meth c ls hx hb hr hlk hml hown hnm hts hR hS hl
  have hl : lv_has ls 2 [(0, va_rf (some a0)), (1, .int x1)] := hl
  unfold F_X10_sourceAt at hF
  refine lv_iload_n hx hb dX10_sourceAt_0 rfl (lv_at hl 1 rfl) ?_
  refine lv_if_lt (tgt := 33) hx hb dX10_sourceAt_1 (by decide) (fun c1 => ?_) (fun c1 => ?_)
  · replace hF := xift c1 hF
    refine lv_null hx hb dX10_sourceAt_33 ?_
    cases hF
    exact x_aret hx hb hr (Or.inl ⟨_, rfl⟩) hlk hR hS (by decide) (by decide) dX10_sourceAt_34
  · replace hF := xiff c1 hF
    refine lv_iload_n hx hb dX10_sourceAt_4 rfl (lv_at hl 1 rfl) ?_
    refine x_aload_n (o := (some a0)) hx hb dX10_sourceAt_5 rfl (lv_at hl 0 rfl) ?_
    replace hF := xbind hF; obtain ⟨w2, ew2, hF⟩ := hF
    refine x_getR (o := (some a0)) (ci := 10) (C := RX10) (T := TX10) (N := 11) hx hb hts iw_X10 hown hR rfl 1 (by decide) mm_188 (Or.inl rfl) ew2 dX10_sourceAt_6 ?_
    replace hF := xbind hF; obtain ⟨b4, eb4, hF⟩ := hF
    replace hF := xbind hF; obtain ⟨v3, ev3, hF⟩ := hF
    refine x_callF (o := w2) (ci := 0) (As := []) (rest := [.int x1]) (v := (some (.int v3))) (k := 0) hx hb hml hown hts hR hS eb4 rfl (by decide +kernel) (t_Jx4a65c_size_8abf5 l D G h b4 v3 ev3) f_Jx4a65c_size_8abf5 mm_226 mm_232 mm_230 (by decide +kernel) rfl hl.1 rfl (by first | exact Nat.le_of_ble_eq_true rfl | simp [xrf_cat, xcI, xcJ, xcA]) dX10_sourceAt_9 (by decide) (by decide) rfl (fun H locs hR hS => ?_)
    refine lv_icmp_ge (tgt := 33) hx hb dX10_sourceAt_14 (by decide) (fun c5 => ?_) (fun c5 => ?_)
    · replace hF := xift c5 hF
      refine lv_null hx hb dX10_sourceAt_33 ?_
      cases hF
      exact x_aret hx hb hr (Or.inl ⟨_, rfl⟩) hlk hR hS (by decide) (by decide) dX10_sourceAt_34
    · replace hF := xiff c5 hF
      refine x_aload_n (o := (some a0)) hx hb dX10_sourceAt_17 rfl (lv_at hl 0 rfl) ?_
      replace hF := xbind hF; obtain ⟨w6, ew6, hF⟩ := hF
      refine x_getR (o := (some a0)) (ci := 10) (C := RX10) (T := TX10) (N := 11) hx hb hts iw_X10 hown hR rfl 1 (by decide) mm_188 (Or.inl rfl) ew6 dX10_sourceAt_18 ?_
      refine lv_iload_n hx hb dX10_sourceAt_21 rfl (lv_at hl 1 rfl) ?_
      replace hF := xbind hF; obtain ⟨b8, eb8, hF⟩ := hF
      replace hF := xbind hF; obtain ⟨w7, ew7, hF⟩ := hF
      refine x_callF (o := w6) (ci := 0) (As := [.int x1]) (rest := []) (v := (some (va_rf w7))) (k := 1) hx hb hml hown hts hR hS eb8 rfl (by decide +kernel) (t_Jx4a65c_get_915e3 l D G h b8 x1 w7 ew7) f_Jx4a65c_get_915e3 mm_329 mm_334 mm_332 (by decide +kernel) rfl hl.1 rfl (by first | exact Nat.le_of_ble_eq_true rfl | simp [xrf_cat, xcI, xcJ, xcA]) dX10_sourceAt_22 (by decide) (by decide) rfl (fun H locs hR hS => ?_)
      replace hF := xkguard hF; obtain ⟨c9, hF⟩ := hF
      refine x_cast (o := w7) (ci := 8) hx hb hown hts hR rfl mm_350 c9 dX10_sourceAt_27 ?_
      refine lv_goto (tgt := 34) hx hb dX10_sourceAt_30 (by decide) ?_
      cases hF
      exact x_aret hx hb hr (Or.inl ⟨_, rfl⟩) hlk hR hS (by decide) (by decide) dX10_sourceAt_34
def rm_X10_promiseAt : Room := { frames := 3, cells := 0, slots := 0, locals := 64 }
theorem f_X10_promiseAt : xM yX10_promiseAt cX10_promiseAt 2 (some (.object "ShareKeeper$Promise")) 1 := ⟨mm_440, mm_55, by decide +kernel, by decide +kernel⟩
theorem dX10_promiseAt_0 : decode cX10_promiseAt 0 = .ok (.iload_n 1, 1) := by decide +kernel
theorem dX10_promiseAt_1 : decode cX10_promiseAt 1 = .ok (.ifCond .lt 32, 3) := by decide +kernel
theorem dX10_promiseAt_4 : decode cX10_promiseAt 4 = .ok (.iload_n 1, 1) := by decide +kernel
theorem dX10_promiseAt_5 : decode cX10_promiseAt 5 = .ok (.aload_n 0, 1) := by decide +kernel
theorem dX10_promiseAt_6 : decode cX10_promiseAt 6 = .ok (.getfield 19, 3) := by decide +kernel
theorem dX10_promiseAt_9 : decode cX10_promiseAt 9 = .ok (.invokeinterface 49 1, 5) := by decide +kernel
theorem dX10_promiseAt_14 : decode cX10_promiseAt 14 = .ok (.if_icmp .ge 19, 3) := by decide +kernel
theorem dX10_promiseAt_17 : decode cX10_promiseAt 17 = .ok (.aload_n 0, 1) := by decide +kernel
theorem dX10_promiseAt_18 : decode cX10_promiseAt 18 = .ok (.getfield 19, 3) := by decide +kernel
theorem dX10_promiseAt_21 : decode cX10_promiseAt 21 = .ok (.iload_n 1, 1) := by decide +kernel
theorem dX10_promiseAt_22 : decode cX10_promiseAt 22 = .ok (.invokeinterface 225 2, 5) := by decide +kernel
theorem dX10_promiseAt_27 : decode cX10_promiseAt 27 = .ok (.checkcast 98, 3) := by decide +kernel
theorem dX10_promiseAt_30 : decode cX10_promiseAt 30 = .ok (.goto 4, 3) := by decide +kernel
theorem dX10_promiseAt_33 : decode cX10_promiseAt 33 = .ok (.aconst_null, 1) := by decide +kernel
theorem dX10_promiseAt_34 : decode cX10_promiseAt 34 = .ok (.areturn, 1) := by decide +kernel
def F_X10_promiseAt (G : Nat → Nat) (h : xH) (a0 : Nat) (x1 : Int32) : Option (Option Nat) :=
  if x1 < 0 then
    some none
  else
  (gR h (some a0) 10 2).bind fun w2 =>
  (xc h w2 0).bind fun b4 =>
  (F_Jx4a65c_size_8abf5 G h b4).bind fun v3 =>
  if v3 ≤ x1 then
    some none
  else
  (gR h (some a0) 10 2).bind fun w6 =>
  (xc h w6 0).bind fun b8 =>
  (F_Jx4a65c_get_915e3 G h b8 x1).bind fun w7 =>
  xk h w7 6 <|
  some w7
set_option maxHeartbeats 4000000 in
set_option maxRecDepth 100000 in
theorem t_X10_promiseAt (l : Launch) (D : va_G) (G : Nat → Nat) (h : xH) (a0 : Nat) (x1 : Int32) (r : Option Nat) (hF : F_X10_promiseAt G h a0 x1 = some r) : xC l yX10_promiseAt cX10_promiseAt 2 (some (.object "ShareKeeper$Promise")) (rm_X10_promiseAt) D G h [.ref a0, .int x1] (some (va_rf r)) h := by
  refine xC_of (by decide) (by first | decide | exact Nat.le_of_ble_eq_true rfl) ?_
  intro p e s m args below meth c ls hx hb hr hlk hml hown hnm hts hR hS hl
  have hl : lv_has ls 2 [(0, va_rf (some a0)), (1, .int x1)] := hl
  unfold F_X10_promiseAt at hF
  refine lv_iload_n hx hb dX10_promiseAt_0 rfl (lv_at hl 1 rfl) ?_
  refine lv_if_lt (tgt := 33) hx hb dX10_promiseAt_1 (by decide) (fun c1 => ?_) (fun c1 => ?_)
  · replace hF := xift c1 hF
    refine lv_null hx hb dX10_promiseAt_33 ?_
    cases hF
    exact x_aret hx hb hr (Or.inl ⟨_, rfl⟩) hlk hR hS (by decide) (by decide) dX10_promiseAt_34
  · replace hF := xiff c1 hF
    refine lv_iload_n hx hb dX10_promiseAt_4 rfl (lv_at hl 1 rfl) ?_
    refine x_aload_n (o := (some a0)) hx hb dX10_promiseAt_5 rfl (lv_at hl 0 rfl) ?_
    replace hF := xbind hF; obtain ⟨w2, ew2, hF⟩ := hF
    refine x_getR (o := (some a0)) (ci := 10) (C := RX10) (T := TX10) (N := 11) hx hb hts iw_X10 hown hR rfl 2 (by decide) mm_189 (Or.inl rfl) ew2 dX10_promiseAt_6 ?_
    replace hF := xbind hF; obtain ⟨b4, eb4, hF⟩ := hF
    replace hF := xbind hF; obtain ⟨v3, ev3, hF⟩ := hF
    refine x_callF (o := w2) (ci := 0) (As := []) (rest := [.int x1]) (v := (some (.int v3))) (k := 0) hx hb hml hown hts hR hS eb4 rfl (by decide +kernel) (t_Jx4a65c_size_8abf5 l D G h b4 v3 ev3) f_Jx4a65c_size_8abf5 mm_226 mm_232 mm_230 (by decide +kernel) rfl hl.1 rfl (by first | exact Nat.le_of_ble_eq_true rfl | simp [xrf_cat, xcI, xcJ, xcA]) dX10_promiseAt_9 (by decide) (by decide) rfl (fun H locs hR hS => ?_)
    refine lv_icmp_ge (tgt := 33) hx hb dX10_promiseAt_14 (by decide) (fun c5 => ?_) (fun c5 => ?_)
    · replace hF := xift c5 hF
      refine lv_null hx hb dX10_promiseAt_33 ?_
      cases hF
      exact x_aret hx hb hr (Or.inl ⟨_, rfl⟩) hlk hR hS (by decide) (by decide) dX10_promiseAt_34
    · replace hF := xiff c5 hF
      refine x_aload_n (o := (some a0)) hx hb dX10_promiseAt_17 rfl (lv_at hl 0 rfl) ?_
      replace hF := xbind hF; obtain ⟨w6, ew6, hF⟩ := hF
      refine x_getR (o := (some a0)) (ci := 10) (C := RX10) (T := TX10) (N := 11) hx hb hts iw_X10 hown hR rfl 2 (by decide) mm_189 (Or.inl rfl) ew6 dX10_promiseAt_18 ?_
      refine lv_iload_n hx hb dX10_promiseAt_21 rfl (lv_at hl 1 rfl) ?_
      replace hF := xbind hF; obtain ⟨b8, eb8, hF⟩ := hF
      replace hF := xbind hF; obtain ⟨w7, ew7, hF⟩ := hF
      refine x_callF (o := w6) (ci := 0) (As := [.int x1]) (rest := []) (v := (some (va_rf w7))) (k := 1) hx hb hml hown hts hR hS eb8 rfl (by decide +kernel) (t_Jx4a65c_get_915e3 l D G h b8 x1 w7 ew7) f_Jx4a65c_get_915e3 mm_329 mm_334 mm_332 (by decide +kernel) rfl hl.1 rfl (by first | exact Nat.le_of_ble_eq_true rfl | simp [xrf_cat, xcI, xcJ, xcA]) dX10_promiseAt_22 (by decide) (by decide) rfl (fun H locs hR hS => ?_)
      replace hF := xkguard hF; obtain ⟨c9, hF⟩ := hF
      refine x_cast (o := w7) (ci := 6) hx hb hown hts hR rfl mm_406 c9 dX10_promiseAt_27 ?_
      refine lv_goto (tgt := 34) hx hb dX10_promiseAt_30 (by decide) ?_
      cases hF
      exact x_aret hx hb hr (Or.inl ⟨_, rfl⟩) hlk hR hS (by decide) (by decide) dX10_promiseAt_34
def rm_X10_alarmAt : Room := { frames := 3, cells := 0, slots := 0, locals := 64 }
theorem f_X10_alarmAt : xM yX10_alarmAt cX10_alarmAt 2 (some (.object "ShareKeeper$Alarm")) 1 := ⟨mm_599, mm_55, by decide +kernel, by decide +kernel⟩
theorem dX10_alarmAt_0 : decode cX10_alarmAt 0 = .ok (.iload_n 1, 1) := by decide +kernel
theorem dX10_alarmAt_1 : decode cX10_alarmAt 1 = .ok (.ifCond .lt 32, 3) := by decide +kernel
theorem dX10_alarmAt_4 : decode cX10_alarmAt 4 = .ok (.iload_n 1, 1) := by decide +kernel
theorem dX10_alarmAt_5 : decode cX10_alarmAt 5 = .ok (.aload_n 0, 1) := by decide +kernel
theorem dX10_alarmAt_6 : decode cX10_alarmAt 6 = .ok (.getfield 22, 3) := by decide +kernel
theorem dX10_alarmAt_9 : decode cX10_alarmAt 9 = .ok (.invokeinterface 49 1, 5) := by decide +kernel
theorem dX10_alarmAt_14 : decode cX10_alarmAt 14 = .ok (.if_icmp .ge 19, 3) := by decide +kernel
theorem dX10_alarmAt_17 : decode cX10_alarmAt 17 = .ok (.aload_n 0, 1) := by decide +kernel
theorem dX10_alarmAt_18 : decode cX10_alarmAt 18 = .ok (.getfield 22, 3) := by decide +kernel
theorem dX10_alarmAt_21 : decode cX10_alarmAt 21 = .ok (.iload_n 1, 1) := by decide +kernel
theorem dX10_alarmAt_22 : decode cX10_alarmAt 22 = .ok (.invokeinterface 225 2, 5) := by decide +kernel
theorem dX10_alarmAt_27 : decode cX10_alarmAt 27 = .ok (.checkcast 167, 3) := by decide +kernel
theorem dX10_alarmAt_30 : decode cX10_alarmAt 30 = .ok (.goto 4, 3) := by decide +kernel
theorem dX10_alarmAt_33 : decode cX10_alarmAt 33 = .ok (.aconst_null, 1) := by decide +kernel
theorem dX10_alarmAt_34 : decode cX10_alarmAt 34 = .ok (.areturn, 1) := by decide +kernel
def F_X10_alarmAt (G : Nat → Nat) (h : xH) (a0 : Nat) (x1 : Int32) : Option (Option Nat) :=
  if x1 < 0 then
    some none
  else
  (gR h (some a0) 10 3).bind fun w2 =>
  (xc h w2 0).bind fun b4 =>
  (F_Jx4a65c_size_8abf5 G h b4).bind fun v3 =>
  if v3 ≤ x1 then
    some none
  else
  (gR h (some a0) 10 3).bind fun w6 =>
  (xc h w6 0).bind fun b8 =>
  (F_Jx4a65c_get_915e3 G h b8 x1).bind fun w7 =>
  xk h w7 1 <|
  some w7
set_option maxHeartbeats 4000000 in
set_option maxRecDepth 100000 in
theorem t_X10_alarmAt (l : Launch) (D : va_G) (G : Nat → Nat) (h : xH) (a0 : Nat) (x1 : Int32) (r : Option Nat) (hF : F_X10_alarmAt G h a0 x1 = some r) : xC l yX10_alarmAt cX10_alarmAt 2 (some (.object "ShareKeeper$Alarm")) (rm_X10_alarmAt) D G h [.ref a0, .int x1] (some (va_rf r)) h := by
  refine xC_of (by decide) (by first | decide | exact Nat.le_of_ble_eq_true rfl) ?_
  intro p e s m args below meth c ls hx hb hr hlk hml hown hnm hts hR hS hl
  have hl : lv_has ls 2 [(0, va_rf (some a0)), (1, .int x1)] := hl
  unfold F_X10_alarmAt at hF
  refine lv_iload_n hx hb dX10_alarmAt_0 rfl (lv_at hl 1 rfl) ?_
  refine lv_if_lt (tgt := 33) hx hb dX10_alarmAt_1 (by decide) (fun c1 => ?_) (fun c1 => ?_)
  · replace hF := xift c1 hF
    refine lv_null hx hb dX10_alarmAt_33 ?_
    cases hF
    exact x_aret hx hb hr (Or.inl ⟨_, rfl⟩) hlk hR hS (by decide) (by decide) dX10_alarmAt_34
  · replace hF := xiff c1 hF
    refine lv_iload_n hx hb dX10_alarmAt_4 rfl (lv_at hl 1 rfl) ?_
    refine x_aload_n (o := (some a0)) hx hb dX10_alarmAt_5 rfl (lv_at hl 0 rfl) ?_
    replace hF := xbind hF; obtain ⟨w2, ew2, hF⟩ := hF
    refine x_getR (o := (some a0)) (ci := 10) (C := RX10) (T := TX10) (N := 11) hx hb hts iw_X10 hown hR rfl 3 (by decide) mm_190 (Or.inl rfl) ew2 dX10_alarmAt_6 ?_
    replace hF := xbind hF; obtain ⟨b4, eb4, hF⟩ := hF
    replace hF := xbind hF; obtain ⟨v3, ev3, hF⟩ := hF
    refine x_callF (o := w2) (ci := 0) (As := []) (rest := [.int x1]) (v := (some (.int v3))) (k := 0) hx hb hml hown hts hR hS eb4 rfl (by decide +kernel) (t_Jx4a65c_size_8abf5 l D G h b4 v3 ev3) f_Jx4a65c_size_8abf5 mm_226 mm_232 mm_230 (by decide +kernel) rfl hl.1 rfl (by first | exact Nat.le_of_ble_eq_true rfl | simp [xrf_cat, xcI, xcJ, xcA]) dX10_alarmAt_9 (by decide) (by decide) rfl (fun H locs hR hS => ?_)
    refine lv_icmp_ge (tgt := 33) hx hb dX10_alarmAt_14 (by decide) (fun c5 => ?_) (fun c5 => ?_)
    · replace hF := xift c5 hF
      refine lv_null hx hb dX10_alarmAt_33 ?_
      cases hF
      exact x_aret hx hb hr (Or.inl ⟨_, rfl⟩) hlk hR hS (by decide) (by decide) dX10_alarmAt_34
    · replace hF := xiff c5 hF
      refine x_aload_n (o := (some a0)) hx hb dX10_alarmAt_17 rfl (lv_at hl 0 rfl) ?_
      replace hF := xbind hF; obtain ⟨w6, ew6, hF⟩ := hF
      refine x_getR (o := (some a0)) (ci := 10) (C := RX10) (T := TX10) (N := 11) hx hb hts iw_X10 hown hR rfl 3 (by decide) mm_190 (Or.inl rfl) ew6 dX10_alarmAt_18 ?_
      refine lv_iload_n hx hb dX10_alarmAt_21 rfl (lv_at hl 1 rfl) ?_
      replace hF := xbind hF; obtain ⟨b8, eb8, hF⟩ := hF
      replace hF := xbind hF; obtain ⟨w7, ew7, hF⟩ := hF
      refine x_callF (o := w6) (ci := 0) (As := [.int x1]) (rest := []) (v := (some (va_rf w7))) (k := 1) hx hb hml hown hts hR hS eb8 rfl (by decide +kernel) (t_Jx4a65c_get_915e3 l D G h b8 x1 w7 ew7) f_Jx4a65c_get_915e3 mm_329 mm_334 mm_332 (by decide +kernel) rfl hl.1 rfl (by first | exact Nat.le_of_ble_eq_true rfl | simp [xrf_cat, xcI, xcJ, xcA]) dX10_alarmAt_22 (by decide) (by decide) rfl (fun H locs hR hS => ?_)
      replace hF := xkguard hF; obtain ⟨c9, hF⟩ := hF
      refine x_cast (o := w7) (ci := 1) hx hb hown hts hR rfl mm_572 c9 dX10_alarmAt_27 ?_
      refine lv_goto (tgt := 34) hx hb dX10_alarmAt_30 (by decide) ?_
      cases hF
      exact x_aret hx hb hr (Or.inl ⟨_, rfl⟩) hlk hR hS (by decide) (by decide) dX10_alarmAt_34
def rm_X10_changeAt : Room := { frames := 3, cells := 0, slots := 0, locals := 64 }
theorem f_X10_changeAt : xM yX10_changeAt cX10_changeAt 2 (some (.object "ShareKeeper$Change")) 1 := ⟨mm_751, mm_55, by decide +kernel, by decide +kernel⟩
theorem dX10_changeAt_0 : decode cX10_changeAt 0 = .ok (.iload_n 1, 1) := by decide +kernel
theorem dX10_changeAt_1 : decode cX10_changeAt 1 = .ok (.ifCond .lt 32, 3) := by decide +kernel
theorem dX10_changeAt_4 : decode cX10_changeAt 4 = .ok (.iload_n 1, 1) := by decide +kernel
theorem dX10_changeAt_5 : decode cX10_changeAt 5 = .ok (.aload_n 0, 1) := by decide +kernel
theorem dX10_changeAt_6 : decode cX10_changeAt 6 = .ok (.getfield 25, 3) := by decide +kernel
theorem dX10_changeAt_9 : decode cX10_changeAt 9 = .ok (.invokeinterface 49 1, 5) := by decide +kernel
theorem dX10_changeAt_14 : decode cX10_changeAt 14 = .ok (.if_icmp .ge 19, 3) := by decide +kernel
theorem dX10_changeAt_17 : decode cX10_changeAt 17 = .ok (.aload_n 0, 1) := by decide +kernel
theorem dX10_changeAt_18 : decode cX10_changeAt 18 = .ok (.getfield 25, 3) := by decide +kernel
theorem dX10_changeAt_21 : decode cX10_changeAt 21 = .ok (.iload_n 1, 1) := by decide +kernel
theorem dX10_changeAt_22 : decode cX10_changeAt 22 = .ok (.invokeinterface 225 2, 5) := by decide +kernel
theorem dX10_changeAt_27 : decode cX10_changeAt 27 = .ok (.checkcast 201, 3) := by decide +kernel
theorem dX10_changeAt_30 : decode cX10_changeAt 30 = .ok (.goto 4, 3) := by decide +kernel
theorem dX10_changeAt_33 : decode cX10_changeAt 33 = .ok (.aconst_null, 1) := by decide +kernel
theorem dX10_changeAt_34 : decode cX10_changeAt 34 = .ok (.areturn, 1) := by decide +kernel
def F_X10_changeAt (G : Nat → Nat) (h : xH) (a0 : Nat) (x1 : Int32) : Option (Option Nat) :=
  if x1 < 0 then
    some none
  else
  (gR h (some a0) 10 4).bind fun w2 =>
  (xc h w2 0).bind fun b4 =>
  (F_Jx4a65c_size_8abf5 G h b4).bind fun v3 =>
  if v3 ≤ x1 then
    some none
  else
  (gR h (some a0) 10 4).bind fun w6 =>
  (xc h w6 0).bind fun b8 =>
  (F_Jx4a65c_get_915e3 G h b8 x1).bind fun w7 =>
  xk h w7 3 <|
  some w7
set_option maxHeartbeats 4000000 in
set_option maxRecDepth 100000 in
theorem t_X10_changeAt (l : Launch) (D : va_G) (G : Nat → Nat) (h : xH) (a0 : Nat) (x1 : Int32) (r : Option Nat) (hF : F_X10_changeAt G h a0 x1 = some r) : xC l yX10_changeAt cX10_changeAt 2 (some (.object "ShareKeeper$Change")) (rm_X10_changeAt) D G h [.ref a0, .int x1] (some (va_rf r)) h := by
  refine xC_of (by decide) (by first | decide | exact Nat.le_of_ble_eq_true rfl) ?_
  intro p e s m args below meth c ls hx hb hr hlk hml hown hnm hts hR hS hl
  have hl : lv_has ls 2 [(0, va_rf (some a0)), (1, .int x1)] := hl
  unfold F_X10_changeAt at hF
  refine lv_iload_n hx hb dX10_changeAt_0 rfl (lv_at hl 1 rfl) ?_
  refine lv_if_lt (tgt := 33) hx hb dX10_changeAt_1 (by decide) (fun c1 => ?_) (fun c1 => ?_)
  · replace hF := xift c1 hF
    refine lv_null hx hb dX10_changeAt_33 ?_
    cases hF
    exact x_aret hx hb hr (Or.inl ⟨_, rfl⟩) hlk hR hS (by decide) (by decide) dX10_changeAt_34
  · replace hF := xiff c1 hF
    refine lv_iload_n hx hb dX10_changeAt_4 rfl (lv_at hl 1 rfl) ?_
    refine x_aload_n (o := (some a0)) hx hb dX10_changeAt_5 rfl (lv_at hl 0 rfl) ?_
    replace hF := xbind hF; obtain ⟨w2, ew2, hF⟩ := hF
    refine x_getR (o := (some a0)) (ci := 10) (C := RX10) (T := TX10) (N := 11) hx hb hts iw_X10 hown hR rfl 4 (by decide) mm_191 (Or.inl rfl) ew2 dX10_changeAt_6 ?_
    replace hF := xbind hF; obtain ⟨b4, eb4, hF⟩ := hF
    replace hF := xbind hF; obtain ⟨v3, ev3, hF⟩ := hF
    refine x_callF (o := w2) (ci := 0) (As := []) (rest := [.int x1]) (v := (some (.int v3))) (k := 0) hx hb hml hown hts hR hS eb4 rfl (by decide +kernel) (t_Jx4a65c_size_8abf5 l D G h b4 v3 ev3) f_Jx4a65c_size_8abf5 mm_226 mm_232 mm_230 (by decide +kernel) rfl hl.1 rfl (by first | exact Nat.le_of_ble_eq_true rfl | simp [xrf_cat, xcI, xcJ, xcA]) dX10_changeAt_9 (by decide) (by decide) rfl (fun H locs hR hS => ?_)
    refine lv_icmp_ge (tgt := 33) hx hb dX10_changeAt_14 (by decide) (fun c5 => ?_) (fun c5 => ?_)
    · replace hF := xift c5 hF
      refine lv_null hx hb dX10_changeAt_33 ?_
      cases hF
      exact x_aret hx hb hr (Or.inl ⟨_, rfl⟩) hlk hR hS (by decide) (by decide) dX10_changeAt_34
    · replace hF := xiff c5 hF
      refine x_aload_n (o := (some a0)) hx hb dX10_changeAt_17 rfl (lv_at hl 0 rfl) ?_
      replace hF := xbind hF; obtain ⟨w6, ew6, hF⟩ := hF
      refine x_getR (o := (some a0)) (ci := 10) (C := RX10) (T := TX10) (N := 11) hx hb hts iw_X10 hown hR rfl 4 (by decide) mm_191 (Or.inl rfl) ew6 dX10_changeAt_18 ?_
      refine lv_iload_n hx hb dX10_changeAt_21 rfl (lv_at hl 1 rfl) ?_
      replace hF := xbind hF; obtain ⟨b8, eb8, hF⟩ := hF
      replace hF := xbind hF; obtain ⟨w7, ew7, hF⟩ := hF
      refine x_callF (o := w6) (ci := 0) (As := [.int x1]) (rest := []) (v := (some (va_rf w7))) (k := 1) hx hb hml hown hts hR hS eb8 rfl (by decide +kernel) (t_Jx4a65c_get_915e3 l D G h b8 x1 w7 ew7) f_Jx4a65c_get_915e3 mm_329 mm_334 mm_332 (by decide +kernel) rfl hl.1 rfl (by first | exact Nat.le_of_ble_eq_true rfl | simp [xrf_cat, xcI, xcJ, xcA]) dX10_changeAt_22 (by decide) (by decide) rfl (fun H locs hR hS => ?_)
      replace hF := xkguard hF; obtain ⟨c9, hF⟩ := hF
      refine x_cast (o := w7) (ci := 3) hx hb hown hts hR rfl mm_718 c9 dX10_changeAt_27 ?_
      refine lv_goto (tgt := 34) hx hb dX10_changeAt_30 (by decide) ?_
      cases hF
      exact x_aret hx hb hr (Or.inl ⟨_, rfl⟩) hlk hR hS (by decide) (by decide) dX10_changeAt_34
def rm_X10_source : Room := { frames := 7, cells := 5, slots := 934, locals := 171 }
theorem f_X10_source : xM yX10_source cX10_source 6 (some .int) 3 := ⟨mm_323, mm_55, by decide +kernel, by decide +kernel⟩
theorem dX10_source_0 : decode cX10_source 0 = .ok (.aload_n 0, 1) := by decide +kernel
theorem dX10_source_1 : decode cX10_source 1 = .ok (.iload_n 1, 1) := by decide +kernel
theorem dX10_source_2 : decode cX10_source 2 = .ok (.invokevirtual 62, 3) := by decide +kernel
theorem dX10_source_5 : decode cX10_source 5 = .ok (.astore 4, 2) := by decide +kernel
theorem dX10_source_7 : decode cX10_source 7 = .ok (.aload 4, 2) := by decide +kernel
theorem dX10_source_9 : decode cX10_source 9 = .ok (.ifnull 38, 3) := by decide +kernel
theorem dX10_source_12 : decode cX10_source 12 = .ok (.iload_n 2, 1) := by decide +kernel
theorem dX10_source_13 : decode cX10_source 13 = .ok (.iconst 0, 1) := by decide +kernel
theorem dX10_source_14 : decode cX10_source 14 = .ok (.bipush 60, 2) := by decide +kernel
theorem dX10_source_16 : decode cX10_source 16 = .ok (.invokestatic 66, 3) := by decide +kernel
theorem dX10_source_19 : decode cX10_source 19 = .ok (.ifCond .eq 28, 3) := by decide +kernel
theorem dX10_source_22 : decode cX10_source 22 = .ok (.iload_n 3, 1) := by decide +kernel
theorem dX10_source_23 : decode cX10_source 23 = .ok (.iconst 1, 1) := by decide +kernel
theorem dX10_source_24 : decode cX10_source 24 = .ok (.sipush 1000, 3) := by decide +kernel
theorem dX10_source_27 : decode cX10_source 27 = .ok (.invokestatic 66, 3) := by decide +kernel
theorem dX10_source_30 : decode cX10_source 30 = .ok (.ifCond .eq 17, 3) := by decide +kernel
theorem dX10_source_33 : decode cX10_source 33 = .ok (.aload_n 0, 1) := by decide +kernel
theorem dX10_source_34 : decode cX10_source 34 = .ok (.getfield 16, 3) := by decide +kernel
theorem dX10_source_37 : decode cX10_source 37 = .ok (.invokeinterface 49 1, 5) := by decide +kernel
theorem dX10_source_42 : decode cX10_source 42 = .ok (.bipush 16, 2) := by decide +kernel
theorem dX10_source_44 : decode cX10_source 44 = .ok (.if_icmp .lt 5, 3) := by decide +kernel
theorem dX10_source_47 : decode cX10_source 47 = .ok (.iconst (-1), 1) := by decide +kernel
theorem dX10_source_48 : decode cX10_source 48 = .ok (.ireturn, 1) := by decide +kernel
theorem dX10_source_49 : decode cX10_source 49 = .ok (.new 70, 3) := by decide +kernel
theorem dX10_source_52 : decode cX10_source 52 = .ok (.dup, 1) := by decide +kernel
theorem dX10_source_53 : decode cX10_source 53 = .ok (.aload 4, 2) := by decide +kernel
theorem dX10_source_55 : decode cX10_source 55 = .ok (.iload_n 2, 1) := by decide +kernel
theorem dX10_source_56 : decode cX10_source 56 = .ok (.iload_n 3, 1) := by decide +kernel
theorem dX10_source_57 : decode cX10_source 57 = .ok (.invokespecial 72, 3) := by decide +kernel
theorem dX10_source_60 : decode cX10_source 60 = .ok (.astore 5, 2) := by decide +kernel
theorem dX10_source_62 : decode cX10_source 62 = .ok (.aload 4, 2) := by decide +kernel
theorem dX10_source_64 : decode cX10_source 64 = .ok (.getfield 75, 3) := by decide +kernel
theorem dX10_source_67 : decode cX10_source 67 = .ok (.aload 5, 2) := by decide +kernel
theorem dX10_source_69 : decode cX10_source 69 = .ok (.invokeinterface 58 2, 5) := by decide +kernel
theorem dX10_source_74 : decode cX10_source 74 = .ok (.pop, 1) := by decide +kernel
theorem dX10_source_75 : decode cX10_source 75 = .ok (.aload_n 0, 1) := by decide +kernel
theorem dX10_source_76 : decode cX10_source 76 = .ok (.getfield 16, 3) := by decide +kernel
theorem dX10_source_79 : decode cX10_source 79 = .ok (.aload 5, 2) := by decide +kernel
theorem dX10_source_81 : decode cX10_source 81 = .ok (.invokeinterface 58 2, 5) := by decide +kernel
theorem dX10_source_86 : decode cX10_source 86 = .ok (.pop, 1) := by decide +kernel
theorem dX10_source_87 : decode cX10_source 87 = .ok (.aload_n 0, 1) := by decide +kernel
theorem dX10_source_88 : decode cX10_source 88 = .ok (.getfield 16, 3) := by decide +kernel
theorem dX10_source_91 : decode cX10_source 91 = .ok (.invokeinterface 49 1, 5) := by decide +kernel
theorem dX10_source_96 : decode cX10_source 96 = .ok (.iconst 1, 1) := by decide +kernel
theorem dX10_source_97 : decode cX10_source 97 = .ok (.isub, 1) := by decide +kernel
theorem dX10_source_98 : decode cX10_source 98 = .ok (.ireturn, 1) := by decide +kernel
def F_X10_source (G : Nat → Nat) (h : xH) (a0 : Nat) (x1 : Int32) (x2 : Int32) (x3 : Int32) : Option (Int32 × xH) :=
  (xc h (some a0) 10).bind fun b2 =>
  (F_X10_serviceAt G h b2 x1).bind fun w1 =>
  if w1 = none then
    some ((-1), h)
  else
  (F_X10_within x2 0 60).bind fun v4 =>
  if v4 = 0 then
    some ((-1), h)
  else
  (F_X10_within x3 1 1000).bind fun v6 =>
  if v6 = 0 then
    some ((-1), h)
  else
  (gR h (some a0) 10 1).bind fun w8 =>
  (xc h w8 0).bind fun b10 =>
  (F_Jx4a65c_size_8abf5 G h b10).bind fun v9 =>
  if v9 < 16 then
    (nO h 8 [.int 0, .null, .int 0, .null, .null]).bind fun (q12, h13) =>
    w1.bind fun b14 =>
    (F_X8_init G h13 q12 b14 x2 x3).bind fun h15 =>
    (gR h15 (some b14) 7 0).bind fun w16 =>
    (xc h15 w16 0).bind fun b19 =>
    (F_Jx4a65c_add_9ea2d G h15 b19 q12).bind fun (v17, h18) =>
    (gR h18 (some a0) 10 1).bind fun w20 =>
    (xc h18 w20 0).bind fun b23 =>
    (F_Jx4a65c_add_9ea2d G h18 b23 q12).bind fun (v21, h22) =>
    (gR h22 (some a0) 10 1).bind fun w24 =>
    (xc h22 w24 0).bind fun b26 =>
    (F_Jx4a65c_size_8abf5 G h22 b26).bind fun v25 =>
    some ((v25 - 1), h22)
  else
  some ((-1), h)
set_option maxHeartbeats 4000000 in
set_option maxRecDepth 100000 in
theorem t_X10_source (l : Launch) (D : va_G) (G : Nat → Nat) (h : xH) (a0 : Nat) (x1 : Int32) (x2 : Int32) (x3 : Int32) (r : Int32) (h' : xH) (hF : F_X10_source G h a0 x1 x2 x3 = some (r, h')) : xC l yX10_source cX10_source 6 (some .int) (rm_X10_source) D G h [.ref a0, .int x1, .int x2, .int x3] (some (.int r)) h' := by
  refine xC_of (by decide) (by first | decide | exact Nat.le_of_ble_eq_true rfl) ?_
  intro p e s m args below meth c ls hx hb hr hlk hml hown hnm hts hR hS hl
  have hl : lv_has ls 6 [(0, va_rf (some a0)), (1, .int x1), (2, .int x2), (3, .int x3)] := hl
  unfold F_X10_source at hF
  refine x_aload_n (o := (some a0)) hx hb dX10_source_0 rfl (lv_at hl 0 rfl) ?_
  refine lv_iload_n hx hb dX10_source_1 rfl (lv_at hl 1 rfl) ?_
  replace hF := xbind hF; obtain ⟨b2, eb2, hF⟩ := hF
  replace hF := xbind hF; obtain ⟨w1, ew1, hF⟩ := hF
  refine x_callV (o := (some a0)) (ci := 10) (As := [.int x1]) (rest := []) (v := (some (va_rf w1))) (k := 1) hx hb hml hown hts hR hS eb2 rfl rfl (t_X10_serviceAt l D G h b2 x1 w1 ew1) f_X10_serviceAt mm_324 mm_326 mm_3 rfl hl.1 rfl (by first | exact Nat.le_of_ble_eq_true rfl | simp [xrf_cat, xcI, xcJ, xcA]) dX10_source_2 (by decide) (by decide) rfl (fun H locs hR hS => ?_)
  refine x_astore (o := w1) (lv' := [(4, va_rf w1), (0, va_rf (some a0)), (1, .int x1), (2, .int x2), (3, .int x3)]) hx hb dX10_source_5 hl (by decide) (by first | rfl | (simp [xrf_cat, xcI, xcJ, xcA]; done) | (simp [xrf_cat, xcI, xcJ, xcA]; decide)) (fun ls hl => ?_)
  refine x_aload (o := w1) hx hb dX10_source_7 (lv_at hl 0 rfl) ?_
  refine x_ifnull (o := w1) (tgt := 47) hx hb dX10_source_9 (by decide) (fun c3 => ?_) (fun c3 => ?_)
  · replace hF := xift c3 hF
    refine lv_iconst (v := (-1)) hx hb dX10_source_47 (by decide) ?_
    cases hF
    exact x_iret hx hb hr rfl hlk hR hS (by decide) (by decide) dX10_source_48
  · replace hF := xiff c3 hF
    refine lv_iload_n hx hb dX10_source_12 rfl (lv_at hl 3 rfl) ?_
    refine lv_iconst (v := 0) hx hb dX10_source_13 (by decide) ?_
    refine lv_bipush (v := 60) hx hb dX10_source_14 (by decide) ?_
    replace hF := xbind hF; obtain ⟨v4, ev4, hF⟩ := hF
    refine x_callS (As := [.int x2, .int 0, .int 60]) (rest := []) (v := (some (.int v4))) (k := 3) hx hb hml hown hts hR hS (t_X10_within l D G h x2 0 60 v4 ev4) f_X10_within mm_347 mm_348 rfl hl.1 rfl (by first | exact Nat.le_of_ble_eq_true rfl | simp [xrf_cat, xcI, xcJ, xcA]) dX10_source_16 (by decide) (by decide) rfl (fun H locs hR hS => ?_)
    refine lv_if_eq (tgt := 47) hx hb dX10_source_19 (by decide) (fun c5 => ?_) (fun c5 => ?_)
    · replace hF := xift c5 hF
      refine lv_iconst (v := (-1)) hx hb dX10_source_47 (by decide) ?_
      cases hF
      exact x_iret hx hb hr rfl hlk hR hS (by decide) (by decide) dX10_source_48
    · replace hF := xiff c5 hF
      refine lv_iload_n hx hb dX10_source_22 rfl (lv_at hl 4 rfl) ?_
      refine lv_iconst (v := 1) hx hb dX10_source_23 (by decide) ?_
      refine lv_sipush (v := 1000) hx hb dX10_source_24 (by decide) ?_
      replace hF := xbind hF; obtain ⟨v6, ev6, hF⟩ := hF
      refine x_callS (As := [.int x3, .int 1, .int 1000]) (rest := []) (v := (some (.int v6))) (k := 3) hx hb hml hown hts hR hS (t_X10_within l D G h x3 1 1000 v6 ev6) f_X10_within mm_347 mm_348 rfl hl.1 rfl (by first | exact Nat.le_of_ble_eq_true rfl | simp [xrf_cat, xcI, xcJ, xcA]) dX10_source_27 (by decide) (by decide) rfl (fun H locs hR hS => ?_)
      refine lv_if_eq (tgt := 47) hx hb dX10_source_30 (by decide) (fun c7 => ?_) (fun c7 => ?_)
      · replace hF := xift c7 hF
        refine lv_iconst (v := (-1)) hx hb dX10_source_47 (by decide) ?_
        cases hF
        exact x_iret hx hb hr rfl hlk hR hS (by decide) (by decide) dX10_source_48
      · replace hF := xiff c7 hF
        refine x_aload_n (o := (some a0)) hx hb dX10_source_33 rfl (lv_at hl 1 rfl) ?_
        replace hF := xbind hF; obtain ⟨w8, ew8, hF⟩ := hF
        refine x_getR (o := (some a0)) (ci := 10) (C := RX10) (T := TX10) (N := 11) hx hb hts iw_X10 hown hR rfl 1 (by decide) mm_188 (Or.inl rfl) ew8 dX10_source_34 ?_
        replace hF := xbind hF; obtain ⟨b10, eb10, hF⟩ := hF
        replace hF := xbind hF; obtain ⟨v9, ev9, hF⟩ := hF
        refine x_callF (o := w8) (ci := 0) (As := []) (rest := []) (v := (some (.int v9))) (k := 0) hx hb hml hown hts hR hS eb10 rfl (by decide +kernel) (t_Jx4a65c_size_8abf5 l D G h b10 v9 ev9) f_Jx4a65c_size_8abf5 mm_226 mm_232 mm_230 (by decide +kernel) rfl hl.1 rfl (by first | exact Nat.le_of_ble_eq_true rfl | simp [xrf_cat, xcI, xcJ, xcA]) dX10_source_37 (by decide) (by decide) rfl (fun H locs hR hS => ?_)
        refine lv_bipush (v := 16) hx hb dX10_source_42 (by decide) ?_
        refine lv_icmp_lt (tgt := 49) hx hb dX10_source_44 (by decide) (fun c11 => ?_) (fun c11 => ?_)
        · replace hF := xift c11 hF
          replace hF := xbind hF; obtain ⟨⟨q12, h13⟩, eq12, hF⟩ := hF
          refine x_newO (C := RX8) (T := TX8) (N := 5) (ci := 8) hx hb hts iw_X8 tyX8_ok hown mm_350 mm_351 mm_70 hR hS rfl (by decide) (by decide) (by decide) eq12 dX10_source_49 (fun H hR hS => ?_)
          refine lv_dup hx hb dX10_source_52 xrf_cat ?_
          refine x_aload (o := w1) hx hb dX10_source_53 (lv_at hl 0 rfl) ?_
          refine lv_iload_n hx hb dX10_source_55 rfl (lv_at hl 3 rfl) ?_
          refine lv_iload_n hx hb dX10_source_56 rfl (lv_at hl 4 rfl) ?_
          replace hF := xbind hF; obtain ⟨b14, eb14, hF⟩ := hF
          subst eb14
          replace hF := xbind hF; obtain ⟨h15, eh15, hF⟩ := hF
          refine x_callI (o := (some q12)) (As := [.ref b14, .int x2, .int x3]) (rest := [va_rf (some q12)]) (v := none) (k := 3) hx hb hml hown hts hR hS rfl (t_X8_init l D G h13 q12 b14 x2 x3 h15 eh15) f_X8_init mm_352 mm_353 rfl rfl hl.1 rfl (by first | exact Nat.le_of_ble_eq_true rfl | simp [xrf_cat, xcI, xcJ, xcA]) dX10_source_57 (by decide) (by decide) rfl (fun H locs hR hS => ?_)
          refine x_astore (o := (some q12)) (lv' := [(5, va_rf (some q12)), (4, va_rf (some b14)), (0, va_rf (some a0)), (1, .int x1), (2, .int x2), (3, .int x3)]) hx hb dX10_source_60 hl (by decide) (by first | rfl | (simp [xrf_cat, xcI, xcJ, xcA]; done) | (simp [xrf_cat, xcI, xcJ, xcA]; decide)) (fun ls hl => ?_)
          refine x_aload (o := (some b14)) hx hb dX10_source_62 (lv_at hl 1 rfl) ?_
          replace hF := xbind hF; obtain ⟨w16, ew16, hF⟩ := hF
          refine x_getR (o := (some b14)) (ci := 7) (C := RX7) (T := TX7) (N := 3) hx hb hts iw_X7 hown hR rfl 0 (by decide) mm_244 (Or.inl rfl) ew16 dX10_source_64 ?_
          refine x_aload (o := (some q12)) hx hb dX10_source_67 (lv_at hl 0 rfl) ?_
          replace hF := xbind hF; obtain ⟨b19, eb19, hF⟩ := hF
          replace hF := xbind hF; obtain ⟨⟨v17, h18⟩, ev17, hF⟩ := hF
          refine x_callF (o := w16) (ci := 0) (As := [.ref q12]) (rest := []) (v := (some (.int v17))) (k := 1) hx hb hml hown hts hR hS eb19 rfl (by decide +kernel) (t_Jx4a65c_add_9ea2d l D G h15 b19 q12 v17 h18 ev17) f_Jx4a65c_add_9ea2d mm_256 mm_261 mm_259 (by decide +kernel) rfl hl.1 rfl (by first | exact Nat.le_of_ble_eq_true rfl | simp [xrf_cat, xcI, xcJ, xcA]) dX10_source_69 (by decide) (by decide) rfl (fun H locs hR hS => ?_)
          refine lv_pop hx hb dX10_source_74 rfl ?_
          refine x_aload_n (o := (some a0)) hx hb dX10_source_75 rfl (lv_at hl 2 rfl) ?_
          replace hF := xbind hF; obtain ⟨w20, ew20, hF⟩ := hF
          refine x_getR (o := (some a0)) (ci := 10) (C := RX10) (T := TX10) (N := 11) hx hb hts iw_X10 hown hR rfl 1 (by decide) mm_188 (Or.inl rfl) ew20 dX10_source_76 ?_
          refine x_aload (o := (some q12)) hx hb dX10_source_79 (lv_at hl 0 rfl) ?_
          replace hF := xbind hF; obtain ⟨b23, eb23, hF⟩ := hF
          replace hF := xbind hF; obtain ⟨⟨v21, h22⟩, ev21, hF⟩ := hF
          refine x_callF (o := w20) (ci := 0) (As := [.ref q12]) (rest := []) (v := (some (.int v21))) (k := 1) hx hb hml hown hts hR hS eb23 rfl (by decide +kernel) (t_Jx4a65c_add_9ea2d l D G h18 b23 q12 v21 h22 ev21) f_Jx4a65c_add_9ea2d mm_256 mm_261 mm_259 (by decide +kernel) rfl hl.1 rfl (by first | exact Nat.le_of_ble_eq_true rfl | simp [xrf_cat, xcI, xcJ, xcA]) dX10_source_81 (by decide) (by decide) rfl (fun H locs hR hS => ?_)
          refine lv_pop hx hb dX10_source_86 rfl ?_
          refine x_aload_n (o := (some a0)) hx hb dX10_source_87 rfl (lv_at hl 2 rfl) ?_
          replace hF := xbind hF; obtain ⟨w24, ew24, hF⟩ := hF
          refine x_getR (o := (some a0)) (ci := 10) (C := RX10) (T := TX10) (N := 11) hx hb hts iw_X10 hown hR rfl 1 (by decide) mm_188 (Or.inl rfl) ew24 dX10_source_88 ?_
          replace hF := xbind hF; obtain ⟨b26, eb26, hF⟩ := hF
          replace hF := xbind hF; obtain ⟨v25, ev25, hF⟩ := hF
          refine x_callF (o := w24) (ci := 0) (As := []) (rest := []) (v := (some (.int v25))) (k := 0) hx hb hml hown hts hR hS eb26 rfl (by decide +kernel) (t_Jx4a65c_size_8abf5 l D G h22 b26 v25 ev25) f_Jx4a65c_size_8abf5 mm_226 mm_232 mm_230 (by decide +kernel) rfl hl.1 rfl (by first | exact Nat.le_of_ble_eq_true rfl | simp [xrf_cat, xcI, xcJ, xcA]) dX10_source_91 (by decide) (by decide) rfl (fun H locs hR hS => ?_)
          refine lv_iconst (v := 1) hx hb dX10_source_96 (by decide) ?_
          refine lv_isub hx hb dX10_source_97 ?_
          cases hF
          exact x_iret hx hb hr rfl hlk hR hS (by decide) (by decide) dX10_source_98
        · replace hF := xiff c11 hF
          refine lv_iconst (v := (-1)) hx hb dX10_source_47 (by decide) ?_
          cases hF
          exact x_iret hx hb hr rfl hlk hR hS (by decide) (by decide) dX10_source_48
def rm_X10_count : Room := { frames := 4, cells := 0, slots := 0, locals := 85 }
theorem f_X10_count : xM yX10_count cX10_count 8 (some .int) 5 := ⟨mm_377, mm_55, by decide +kernel, by decide +kernel⟩
theorem dX10_count_0 : decode cX10_count 0 = .ok (.aload_n 0, 1) := by decide +kernel
theorem dX10_count_1 : decode cX10_count 1 = .ok (.iload_n 1, 1) := by decide +kernel
theorem dX10_count_2 : decode cX10_count 2 = .ok (.invokevirtual 76, 3) := by decide +kernel
theorem dX10_count_5 : decode cX10_count 5 = .ok (.astore 6, 2) := by decide +kernel
theorem dX10_count_7 : decode cX10_count 7 = .ok (.aload 6, 2) := by decide +kernel
theorem dX10_count_9 : decode cX10_count 9 = .ok (.ifnull 39, 3) := by decide +kernel
theorem dX10_count_12 : decode cX10_count 12 = .ok (.iload_n 2, 1) := by decide +kernel
theorem dX10_count_13 : decode cX10_count 13 = .ok (.iconst 0, 1) := by decide +kernel
theorem dX10_count_14 : decode cX10_count 14 = .ok (.sipush 199, 3) := by decide +kernel
theorem dX10_count_17 : decode cX10_count 17 = .ok (.invokestatic 66, 3) := by decide +kernel
theorem dX10_count_20 : decode cX10_count 20 = .ok (.ifCond .eq 28, 3) := by decide +kernel
theorem dX10_count_23 : decode cX10_count 23 = .ok (.iload_n 3, 1) := by decide +kernel
theorem dX10_count_24 : decode cX10_count 24 = .ok (.ifCond .lt 24, 3) := by decide +kernel
theorem dX10_count_27 : decode cX10_count 27 = .ok (.iload 4, 2) := by decide +kernel
theorem dX10_count_29 : decode cX10_count 29 = .ok (.ifCond .lt 19, 3) := by decide +kernel
theorem dX10_count_32 : decode cX10_count 32 = .ok (.iload 5, 2) := by decide +kernel
theorem dX10_count_34 : decode cX10_count 34 = .ok (.ifCond .lt 14, 3) := by decide +kernel
theorem dX10_count_37 : decode cX10_count 37 = .ok (.iload 4, 2) := by decide +kernel
theorem dX10_count_39 : decode cX10_count 39 = .ok (.sipush 1000, 3) := by decide +kernel
theorem dX10_count_42 : decode cX10_count 42 = .ok (.iload 5, 2) := by decide +kernel
theorem dX10_count_44 : decode cX10_count 44 = .ok (.isub, 1) := by decide +kernel
theorem dX10_count_45 : decode cX10_count 45 = .ok (.if_icmp .le 5, 3) := by decide +kernel
theorem dX10_count_48 : decode cX10_count 48 = .ok (.iconst 1, 1) := by decide +kernel
theorem dX10_count_49 : decode cX10_count 49 = .ok (.ireturn, 1) := by decide +kernel
theorem dX10_count_50 : decode cX10_count 50 = .ok (.aload 6, 2) := by decide +kernel
theorem dX10_count_52 : decode cX10_count 52 = .ok (.iload_n 2, 1) := by decide +kernel
theorem dX10_count_53 : decode cX10_count 53 = .ok (.iload_n 3, 1) := by decide +kernel
theorem dX10_count_54 : decode cX10_count 54 = .ok (.iload 4, 2) := by decide +kernel
theorem dX10_count_56 : decode cX10_count 56 = .ok (.iload 5, 2) := by decide +kernel
theorem dX10_count_58 : decode cX10_count 58 = .ok (.iadd, 1) := by decide +kernel
theorem dX10_count_59 : decode cX10_count 59 = .ok (.aload_n 0, 1) := by decide +kernel
theorem dX10_count_60 : decode cX10_count 60 = .ok (.getfield 80, 3) := by decide +kernel
theorem dX10_count_63 : decode cX10_count 63 = .ok (.invokevirtual 84, 3) := by decide +kernel
theorem dX10_count_66 : decode cX10_count 66 = .ok (.istore 7, 2) := by decide +kernel
theorem dX10_count_68 : decode cX10_count 68 = .ok (.iload 7, 2) := by decide +kernel
theorem dX10_count_70 : decode cX10_count 70 = .ok (.ifCond .ne 30, 3) := by decide +kernel
theorem dX10_count_73 : decode cX10_count 73 = .ok (.aload 6, 2) := by decide +kernel
theorem dX10_count_75 : decode cX10_count 75 = .ok (.iload_n 2, 1) := by decide +kernel
theorem dX10_count_76 : decode cX10_count 76 = .ok (.iload_n 3, 1) := by decide +kernel
theorem dX10_count_77 : decode cX10_count 77 = .ok (.iload 4, 2) := by decide +kernel
theorem dX10_count_79 : decode cX10_count 79 = .ok (.iload 5, 2) := by decide +kernel
theorem dX10_count_81 : decode cX10_count 81 = .ok (.iadd, 1) := by decide +kernel
theorem dX10_count_82 : decode cX10_count 82 = .ok (.iload 5, 2) := by decide +kernel
theorem dX10_count_84 : decode cX10_count 84 = .ok (.invokevirtual 88, 3) := by decide +kernel
theorem dX10_count_87 : decode cX10_count 87 = .ok (.aload_n 0, 1) := by decide +kernel
theorem dX10_count_88 : decode cX10_count 88 = .ok (.dup, 1) := by decide +kernel
theorem dX10_count_89 : decode cX10_count 89 = .ok (.getfield 92, 3) := by decide +kernel
theorem dX10_count_92 : decode cX10_count 92 = .ok (.iconst 1, 1) := by decide +kernel
theorem dX10_count_93 : decode cX10_count 93 = .ok (.iadd, 1) := by decide +kernel
theorem dX10_count_94 : decode cX10_count 94 = .ok (.putfield 92, 3) := by decide +kernel
theorem dX10_count_97 : decode cX10_count 97 = .ok (.goto 19, 3) := by decide +kernel
theorem dX10_count_100 : decode cX10_count 100 = .ok (.iload 7, 2) := by decide +kernel
theorem dX10_count_102 : decode cX10_count 102 = .ok (.iconst 2, 1) := by decide +kernel
theorem dX10_count_103 : decode cX10_count 103 = .ok (.if_icmp .ne 13, 3) := by decide +kernel
theorem dX10_count_106 : decode cX10_count 106 = .ok (.aload_n 0, 1) := by decide +kernel
theorem dX10_count_107 : decode cX10_count 107 = .ok (.dup, 1) := by decide +kernel
theorem dX10_count_108 : decode cX10_count 108 = .ok (.getfield 95, 3) := by decide +kernel
theorem dX10_count_111 : decode cX10_count 111 = .ok (.iconst 1, 1) := by decide +kernel
theorem dX10_count_112 : decode cX10_count 112 = .ok (.iadd, 1) := by decide +kernel
theorem dX10_count_113 : decode cX10_count 113 = .ok (.putfield 95, 3) := by decide +kernel
theorem dX10_count_116 : decode cX10_count 116 = .ok (.iload 7, 2) := by decide +kernel
theorem dX10_count_118 : decode cX10_count 118 = .ok (.ireturn, 1) := by decide +kernel
def F_X10_count (G : Nat → Nat) (h : xH) (a0 : Nat) (x1 : Int32) (x2 : Int32) (x3 : Int32) (x4 : Int32) (x5 : Int32) : Option (Int32 × xH) :=
  (xc h (some a0) 10).bind fun b2 =>
  (F_X10_sourceAt G h b2 x1).bind fun w1 =>
  if w1 = none then
    some (1, h)
  else
  (F_X10_within x2 0 199).bind fun v4 =>
  if v4 = 0 then
    some (1, h)
  else
  if x3 < 0 then
    some (1, h)
  else
  if x4 < 0 then
    some (1, h)
  else
  if x5 < 0 then
    some (1, h)
  else
  if x4 ≤ (1000 - x5) then
    (gI h (some a0) 10 8).bind fun v10 =>
    (xc h w1 8).bind fun b12 =>
    (F_X8_refusal G h b12 x2 x3 (x4 + x5) v10).bind fun v11 =>
    if v11 = 0 then
      (xc h w1 8).bind fun b18 =>
      (F_X8_take G h b18 x2 x3 (x4 + x5) x5).bind fun h17 =>
      (gI h17 (some a0) 10 9).bind fun v19 =>
      (xp G h17 (some a0) 10 9 (.int (v19 + 1))).bind fun h20 =>
      some (v11, h20)
    else
    if v11 = 2 then
      (gI h (some a0) 10 10).bind fun v15 =>
      (xp G h (some a0) 10 10 (.int (v15 + 1))).bind fun h16 =>
      some (v11, h16)
    else
    some (v11, h)
  else
  some (1, h)
set_option maxHeartbeats 4000000 in
set_option maxRecDepth 100000 in
theorem t_X10_count (l : Launch) (D : va_G) (G : Nat → Nat) (h : xH) (a0 : Nat) (x1 : Int32) (x2 : Int32) (x3 : Int32) (x4 : Int32) (x5 : Int32) (r : Int32) (h' : xH) (hF : F_X10_count G h a0 x1 x2 x3 x4 x5 = some (r, h')) : xC l yX10_count cX10_count 8 (some .int) (rm_X10_count) D G h [.ref a0, .int x1, .int x2, .int x3, .int x4, .int x5] (some (.int r)) h' := by
  refine xC_of (by decide) (by first | decide | exact Nat.le_of_ble_eq_true rfl) ?_
  intro p e s m args below meth c ls hx hb hr hlk hml hown hnm hts hR hS hl
  have hl : lv_has ls 8 [(0, va_rf (some a0)), (1, .int x1), (2, .int x2), (3, .int x3), (4, .int x4), (5, .int x5)] := hl
  unfold F_X10_count at hF
  refine x_aload_n (o := (some a0)) hx hb dX10_count_0 rfl (lv_at hl 0 rfl) ?_
  refine lv_iload_n hx hb dX10_count_1 rfl (lv_at hl 1 rfl) ?_
  replace hF := xbind hF; obtain ⟨b2, eb2, hF⟩ := hF
  replace hF := xbind hF; obtain ⟨w1, ew1, hF⟩ := hF
  refine x_callV (o := (some a0)) (ci := 10) (As := [.int x1]) (rest := []) (v := (some (va_rf w1))) (k := 1) hx hb hml hown hts hR hS eb2 rfl rfl (t_X10_sourceAt l D G h b2 x1 w1 ew1) f_X10_sourceAt mm_378 mm_380 mm_4 rfl hl.1 rfl (by first | exact Nat.le_of_ble_eq_true rfl | simp [xrf_cat, xcI, xcJ, xcA]) dX10_count_2 (by decide) (by decide) rfl (fun H locs hR hS => ?_)
  refine x_astore (o := w1) (lv' := [(6, va_rf w1), (0, va_rf (some a0)), (1, .int x1), (2, .int x2), (3, .int x3), (4, .int x4), (5, .int x5)]) hx hb dX10_count_5 hl (by decide) (by first | rfl | (simp [xrf_cat, xcI, xcJ, xcA]; done) | (simp [xrf_cat, xcI, xcJ, xcA]; decide)) (fun ls hl => ?_)
  refine x_aload (o := w1) hx hb dX10_count_7 (lv_at hl 0 rfl) ?_
  refine x_ifnull (o := w1) (tgt := 48) hx hb dX10_count_9 (by decide) (fun c3 => ?_) (fun c3 => ?_)
  · replace hF := xift c3 hF
    refine lv_iconst (v := 1) hx hb dX10_count_48 (by decide) ?_
    cases hF
    exact x_iret hx hb hr rfl hlk hR hS (by decide) (by decide) dX10_count_49
  · replace hF := xiff c3 hF
    refine lv_iload_n hx hb dX10_count_12 rfl (lv_at hl 3 rfl) ?_
    refine lv_iconst (v := 0) hx hb dX10_count_13 (by decide) ?_
    refine lv_sipush (v := 199) hx hb dX10_count_14 (by decide) ?_
    replace hF := xbind hF; obtain ⟨v4, ev4, hF⟩ := hF
    refine x_callS (As := [.int x2, .int 0, .int 199]) (rest := []) (v := (some (.int v4))) (k := 3) hx hb hml hown hts hR hS (t_X10_within l D G h x2 0 199 v4 ev4) f_X10_within mm_347 mm_348 rfl hl.1 rfl (by first | exact Nat.le_of_ble_eq_true rfl | simp [xrf_cat, xcI, xcJ, xcA]) dX10_count_17 (by decide) (by decide) rfl (fun H locs hR hS => ?_)
    refine lv_if_eq (tgt := 48) hx hb dX10_count_20 (by decide) (fun c5 => ?_) (fun c5 => ?_)
    · replace hF := xift c5 hF
      refine lv_iconst (v := 1) hx hb dX10_count_48 (by decide) ?_
      cases hF
      exact x_iret hx hb hr rfl hlk hR hS (by decide) (by decide) dX10_count_49
    · replace hF := xiff c5 hF
      refine lv_iload_n hx hb dX10_count_23 rfl (lv_at hl 4 rfl) ?_
      refine lv_if_lt (tgt := 48) hx hb dX10_count_24 (by decide) (fun c6 => ?_) (fun c6 => ?_)
      · replace hF := xift c6 hF
        refine lv_iconst (v := 1) hx hb dX10_count_48 (by decide) ?_
        cases hF
        exact x_iret hx hb hr rfl hlk hR hS (by decide) (by decide) dX10_count_49
      · replace hF := xiff c6 hF
        refine lv_iload hx hb dX10_count_27 (lv_at hl 5 rfl) ?_
        refine lv_if_lt (tgt := 48) hx hb dX10_count_29 (by decide) (fun c7 => ?_) (fun c7 => ?_)
        · replace hF := xift c7 hF
          refine lv_iconst (v := 1) hx hb dX10_count_48 (by decide) ?_
          cases hF
          exact x_iret hx hb hr rfl hlk hR hS (by decide) (by decide) dX10_count_49
        · replace hF := xiff c7 hF
          refine lv_iload hx hb dX10_count_32 (lv_at hl 6 rfl) ?_
          refine lv_if_lt (tgt := 48) hx hb dX10_count_34 (by decide) (fun c8 => ?_) (fun c8 => ?_)
          · replace hF := xift c8 hF
            refine lv_iconst (v := 1) hx hb dX10_count_48 (by decide) ?_
            cases hF
            exact x_iret hx hb hr rfl hlk hR hS (by decide) (by decide) dX10_count_49
          · replace hF := xiff c8 hF
            refine lv_iload hx hb dX10_count_37 (lv_at hl 5 rfl) ?_
            refine lv_sipush (v := 1000) hx hb dX10_count_39 (by decide) ?_
            refine lv_iload hx hb dX10_count_42 (lv_at hl 6 rfl) ?_
            refine lv_isub hx hb dX10_count_44 ?_
            refine lv_icmp_le (tgt := 50) hx hb dX10_count_45 (by decide) (fun c9 => ?_) (fun c9 => ?_)
            · replace hF := xift c9 hF
              refine x_aload (o := w1) hx hb dX10_count_50 (lv_at hl 0 rfl) ?_
              refine lv_iload_n hx hb dX10_count_52 rfl (lv_at hl 3 rfl) ?_
              refine lv_iload_n hx hb dX10_count_53 rfl (lv_at hl 4 rfl) ?_
              refine lv_iload hx hb dX10_count_54 (lv_at hl 5 rfl) ?_
              refine lv_iload hx hb dX10_count_56 (lv_at hl 6 rfl) ?_
              refine lv_iadd hx hb dX10_count_58 ?_
              refine x_aload_n (o := (some a0)) hx hb dX10_count_59 rfl (lv_at hl 1 rfl) ?_
              replace hF := xbind hF; obtain ⟨v10, ev10, hF⟩ := hF
              refine x_getI (o := (some a0)) (ci := 10) (C := RX10) (T := TX10) (N := 11) hx hb hts iw_X10 hown hR rfl 8 (by decide) mm_195 (Or.inl rfl) ev10 dX10_count_60 ?_
              replace hF := xbind hF; obtain ⟨b12, eb12, hF⟩ := hF
              replace hF := xbind hF; obtain ⟨v11, ev11, hF⟩ := hF
              refine x_callV (o := w1) (ci := 8) (As := [.int x2, .int x3, .int (x4 + x5), .int v10]) (rest := []) (v := (some (.int v11))) (k := 4) hx hb hml hown hts hR hS eb12 rfl rfl (t_X8_refusal l D G h b12 x2 x3 (x4 + x5) v10 v11 ev11) f_X8_refusal mm_382 mm_383 mm_384 rfl hl.1 rfl (by first | exact Nat.le_of_ble_eq_true rfl | simp [xrf_cat, xcI, xcJ, xcA]) dX10_count_63 (by decide) (by decide) rfl (fun H locs hR hS => ?_)
              refine lv_istore (lv' := [(7, .int v11), (6, va_rf w1), (0, va_rf (some a0)), (1, .int x1), (2, .int x2), (3, .int x3), (4, .int x4), (5, .int x5)]) hx hb dX10_count_66 hl (by decide) (by first | rfl | (simp [xrf_cat, xcI, xcJ, xcA]; done) | (simp [xrf_cat, xcI, xcJ, xcA]; decide)) (fun ls hl => ?_)
              refine lv_iload hx hb dX10_count_68 (lv_at hl 0 rfl) ?_
              refine lv_if_ne (tgt := 100) hx hb dX10_count_70 (by decide) (fun c13 => ?_) (fun c13 => ?_)
              · replace hF := xiff c13 hF
                refine lv_iload hx hb dX10_count_100 (lv_at hl 0 rfl) ?_
                refine lv_iconst (v := 2) hx hb dX10_count_102 (by decide) ?_
                refine lv_icmp_ne (tgt := 116) hx hb dX10_count_103 (by decide) (fun c14 => ?_) (fun c14 => ?_)
                · replace hF := xiff c14 hF
                  refine lv_iload hx hb dX10_count_116 (lv_at hl 0 rfl) ?_
                  cases hF
                  exact x_iret hx hb hr rfl hlk hR hS (by decide) (by decide) dX10_count_118
                · replace hF := xift c14 hF
                  refine x_aload_n (o := (some a0)) hx hb dX10_count_106 rfl (lv_at hl 2 rfl) ?_
                  refine lv_dup hx hb dX10_count_107 xrf_cat ?_
                  replace hF := xbind hF; obtain ⟨v15, ev15, hF⟩ := hF
                  refine x_getI (o := (some a0)) (ci := 10) (C := RX10) (T := TX10) (N := 11) hx hb hts iw_X10 hown hR rfl 10 (by decide) mm_197 (Or.inl rfl) ev15 dX10_count_108 ?_
                  refine lv_iconst (v := 1) hx hb dX10_count_111 (by decide) ?_
                  refine lv_iadd hx hb dX10_count_112 ?_
                  replace hF := xbind hF; obtain ⟨h16, eh16, hF⟩ := hF
                  refine x_put (o := (some a0)) (ci := 10) (C := RX10) (T := TX10) (N := 11) hx hb hts iw_X10 tyX10_ok nmX10 hown hR hS rfl 10 (by decide) mm_197 (Or.inl rfl) rfl rfl rfl eh16 dX10_count_113 (fun H locs hR hS => ?_)
                  refine lv_iload hx hb dX10_count_116 (lv_at hl 0 rfl) ?_
                  cases hF
                  exact x_iret hx hb hr rfl hlk hR hS (by decide) (by decide) dX10_count_118
              · replace hF := xift c13 hF
                refine x_aload (o := w1) hx hb dX10_count_73 (lv_at hl 1 rfl) ?_
                refine lv_iload_n hx hb dX10_count_75 rfl (lv_at hl 4 rfl) ?_
                refine lv_iload_n hx hb dX10_count_76 rfl (lv_at hl 5 rfl) ?_
                refine lv_iload hx hb dX10_count_77 (lv_at hl 6 rfl) ?_
                refine lv_iload hx hb dX10_count_79 (lv_at hl 7 rfl) ?_
                refine lv_iadd hx hb dX10_count_81 ?_
                refine lv_iload hx hb dX10_count_82 (lv_at hl 7 rfl) ?_
                replace hF := xbind hF; obtain ⟨b18, eb18, hF⟩ := hF
                replace hF := xbind hF; obtain ⟨h17, eh17, hF⟩ := hF
                refine x_callV (o := w1) (ci := 8) (As := [.int x2, .int x3, .int (x4 + x5), .int x5]) (rest := []) (v := none) (k := 4) hx hb hml hown hts hR hS eb18 rfl rfl (t_X8_take l D G h b18 x2 x3 (x4 + x5) x5 h17 eh17) f_X8_take mm_390 mm_391 mm_392 rfl hl.1 rfl (by first | exact Nat.le_of_ble_eq_true rfl | simp [xrf_cat, xcI, xcJ, xcA]) dX10_count_84 (by decide) (by decide) rfl (fun H locs hR hS => ?_)
                refine x_aload_n (o := (some a0)) hx hb dX10_count_87 rfl (lv_at hl 2 rfl) ?_
                refine lv_dup hx hb dX10_count_88 xrf_cat ?_
                replace hF := xbind hF; obtain ⟨v19, ev19, hF⟩ := hF
                refine x_getI (o := (some a0)) (ci := 10) (C := RX10) (T := TX10) (N := 11) hx hb hts iw_X10 hown hR rfl 9 (by decide) mm_196 (Or.inl rfl) ev19 dX10_count_89 ?_
                refine lv_iconst (v := 1) hx hb dX10_count_92 (by decide) ?_
                refine lv_iadd hx hb dX10_count_93 ?_
                replace hF := xbind hF; obtain ⟨h20, eh20, hF⟩ := hF
                refine x_put (o := (some a0)) (ci := 10) (C := RX10) (T := TX10) (N := 11) hx hb hts iw_X10 tyX10_ok nmX10 hown hR hS rfl 9 (by decide) mm_196 (Or.inl rfl) rfl rfl rfl eh20 dX10_count_94 (fun H locs hR hS => ?_)
                refine lv_goto (tgt := 116) hx hb dX10_count_97 (by decide) ?_
                refine lv_iload hx hb dX10_count_116 (lv_at hl 0 rfl) ?_
                cases hF
                exact x_iret hx hb hr rfl hlk hR hS (by decide) (by decide) dX10_count_118
            · replace hF := xiff c9 hF
              refine lv_iconst (v := 1) hx hb dX10_count_48 (by decide) ?_
              cases hF
              exact x_iret hx hb hr rfl hlk hR hS (by decide) (by decide) dX10_count_49
def rm_X10_ticks : Room := { frames := 1, cells := 0, slots := 0, locals := 22 }
theorem f_X10_ticks : xM yX10_ticks cX10_ticks 2 (some .int) 1 := ⟨mm_401, mm_55, by decide +kernel, by decide +kernel⟩
theorem dX10_ticks_0 : decode cX10_ticks 0 = .ok (.iload_n 1, 1) := by decide +kernel
theorem dX10_ticks_1 : decode cX10_ticks 1 = .ok (.iconst 0, 1) := by decide +kernel
theorem dX10_ticks_2 : decode cX10_ticks 2 = .ok (.sipush 600, 3) := by decide +kernel
theorem dX10_ticks_5 : decode cX10_ticks 5 = .ok (.aload_n 0, 1) := by decide +kernel
theorem dX10_ticks_6 : decode cX10_ticks 6 = .ok (.getfield 80, 3) := by decide +kernel
theorem dX10_ticks_9 : decode cX10_ticks 9 = .ok (.isub, 1) := by decide +kernel
theorem dX10_ticks_10 : decode cX10_ticks 10 = .ok (.invokestatic 66, 3) := by decide +kernel
theorem dX10_ticks_13 : decode cX10_ticks 13 = .ok (.ifCond .ne 5, 3) := by decide +kernel
theorem dX10_ticks_16 : decode cX10_ticks 16 = .ok (.iconst (-1), 1) := by decide +kernel
theorem dX10_ticks_17 : decode cX10_ticks 17 = .ok (.ireturn, 1) := by decide +kernel
theorem dX10_ticks_18 : decode cX10_ticks 18 = .ok (.aload_n 0, 1) := by decide +kernel
theorem dX10_ticks_19 : decode cX10_ticks 19 = .ok (.dup, 1) := by decide +kernel
theorem dX10_ticks_20 : decode cX10_ticks 20 = .ok (.getfield 80, 3) := by decide +kernel
theorem dX10_ticks_23 : decode cX10_ticks 23 = .ok (.iload_n 1, 1) := by decide +kernel
theorem dX10_ticks_24 : decode cX10_ticks 24 = .ok (.iadd, 1) := by decide +kernel
theorem dX10_ticks_25 : decode cX10_ticks 25 = .ok (.putfield 80, 3) := by decide +kernel
theorem dX10_ticks_28 : decode cX10_ticks 28 = .ok (.aload_n 0, 1) := by decide +kernel
theorem dX10_ticks_29 : decode cX10_ticks 29 = .ok (.getfield 80, 3) := by decide +kernel
theorem dX10_ticks_32 : decode cX10_ticks 32 = .ok (.ireturn, 1) := by decide +kernel
def F_X10_ticks (G : Nat → Nat) (h : xH) (a0 : Nat) (x1 : Int32) : Option (Int32 × xH) :=
  (gI h (some a0) 10 8).bind fun v1 =>
  (F_X10_within x1 0 (600 - v1)).bind fun v2 =>
  if v2 = 0 then
    some ((-1), h)
  else
  (gI h (some a0) 10 8).bind fun v4 =>
  (xp G h (some a0) 10 8 (.int (v4 + x1))).bind fun h5 =>
  (gI h5 (some a0) 10 8).bind fun v6 =>
  some (v6, h5)
set_option maxHeartbeats 4000000 in
set_option maxRecDepth 100000 in
theorem t_X10_ticks (l : Launch) (D : va_G) (G : Nat → Nat) (h : xH) (a0 : Nat) (x1 : Int32) (r : Int32) (h' : xH) (hF : F_X10_ticks G h a0 x1 = some (r, h')) : xC l yX10_ticks cX10_ticks 2 (some .int) (rm_X10_ticks) D G h [.ref a0, .int x1] (some (.int r)) h' := by
  refine xC_of (by decide) (by first | decide | exact Nat.le_of_ble_eq_true rfl) ?_
  intro p e s m args below meth c ls hx hb hr hlk hml hown hnm hts hR hS hl
  have hl : lv_has ls 2 [(0, va_rf (some a0)), (1, .int x1)] := hl
  unfold F_X10_ticks at hF
  refine lv_iload_n hx hb dX10_ticks_0 rfl (lv_at hl 1 rfl) ?_
  refine lv_iconst (v := 0) hx hb dX10_ticks_1 (by decide) ?_
  refine lv_sipush (v := 600) hx hb dX10_ticks_2 (by decide) ?_
  refine x_aload_n (o := (some a0)) hx hb dX10_ticks_5 rfl (lv_at hl 0 rfl) ?_
  replace hF := xbind hF; obtain ⟨v1, ev1, hF⟩ := hF
  refine x_getI (o := (some a0)) (ci := 10) (C := RX10) (T := TX10) (N := 11) hx hb hts iw_X10 hown hR rfl 8 (by decide) mm_195 (Or.inl rfl) ev1 dX10_ticks_6 ?_
  refine lv_isub hx hb dX10_ticks_9 ?_
  replace hF := xbind hF; obtain ⟨v2, ev2, hF⟩ := hF
  refine x_callS (As := [.int x1, .int 0, .int (600 - v1)]) (rest := []) (v := (some (.int v2))) (k := 3) hx hb hml hown hts hR hS (t_X10_within l D G h x1 0 (600 - v1) v2 ev2) f_X10_within mm_347 mm_348 rfl hl.1 rfl (by first | exact Nat.le_of_ble_eq_true rfl | simp [xrf_cat, xcI, xcJ, xcA]) dX10_ticks_10 (by decide) (by decide) rfl (fun H locs hR hS => ?_)
  refine lv_if_ne (tgt := 18) hx hb dX10_ticks_13 (by decide) (fun c3 => ?_) (fun c3 => ?_)
  · replace hF := xiff c3 hF
    refine x_aload_n (o := (some a0)) hx hb dX10_ticks_18 rfl (lv_at hl 0 rfl) ?_
    refine lv_dup hx hb dX10_ticks_19 xrf_cat ?_
    replace hF := xbind hF; obtain ⟨v4, ev4, hF⟩ := hF
    refine x_getI (o := (some a0)) (ci := 10) (C := RX10) (T := TX10) (N := 11) hx hb hts iw_X10 hown hR rfl 8 (by decide) mm_195 (Or.inl rfl) ev4 dX10_ticks_20 ?_
    refine lv_iload_n hx hb dX10_ticks_23 rfl (lv_at hl 1 rfl) ?_
    refine lv_iadd hx hb dX10_ticks_24 ?_
    replace hF := xbind hF; obtain ⟨h5, eh5, hF⟩ := hF
    refine x_put (o := (some a0)) (ci := 10) (C := RX10) (T := TX10) (N := 11) hx hb hts iw_X10 tyX10_ok nmX10 hown hR hS rfl 8 (by decide) mm_195 (Or.inl rfl) rfl rfl rfl eh5 dX10_ticks_25 (fun H locs hR hS => ?_)
    refine x_aload_n (o := (some a0)) hx hb dX10_ticks_28 rfl (lv_at hl 0 rfl) ?_
    replace hF := xbind hF; obtain ⟨v6, ev6, hF⟩ := hF
    refine x_getI (o := (some a0)) (ci := 10) (C := RX10) (T := TX10) (N := 11) hx hb hts iw_X10 hown hR rfl 8 (by decide) mm_195 (Or.inl rfl) ev6 dX10_ticks_29 ?_
    cases hF
    exact x_iret hx hb hr rfl hlk hR hS (by decide) (by decide) dX10_ticks_32
  · replace hF := xift c3 hF
    refine lv_iconst (v := (-1)) hx hb dX10_ticks_16 (by decide) ?_
    cases hF
    exact x_iret hx hb hr rfl hlk hR hS (by decide) (by decide) dX10_ticks_17
def rm_X10_promise : Room := { frames := 7, cells := 3, slots := 671, locals := 171 }
theorem f_X10_promise : xM yX10_promise cX10_promise 6 (some .int) 4 := ⟨mm_405, mm_55, by decide +kernel, by decide +kernel⟩
theorem dX10_promise_0 : decode cX10_promise 0 = .ok (.aload_n 0, 1) := by decide +kernel
theorem dX10_promise_1 : decode cX10_promise 1 = .ok (.iload_n 1, 1) := by decide +kernel
theorem dX10_promise_2 : decode cX10_promise 2 = .ok (.invokevirtual 62, 3) := by decide +kernel
theorem dX10_promise_5 : decode cX10_promise 5 = .ok (.astore 5, 2) := by decide +kernel
theorem dX10_promise_7 : decode cX10_promise 7 = .ok (.aload 5, 2) := by decide +kernel
theorem dX10_promise_9 : decode cX10_promise 9 = .ok (.ifnull 39, 3) := by decide +kernel
theorem dX10_promise_12 : decode cX10_promise 12 = .ok (.iload_n 2, 1) := by decide +kernel
theorem dX10_promise_13 : decode cX10_promise 13 = .ok (.iconst 1, 1) := by decide +kernel
theorem dX10_promise_14 : decode cX10_promise 14 = .ok (.sipush 200, 3) := by decide +kernel
theorem dX10_promise_17 : decode cX10_promise 17 = .ok (.invokestatic 66, 3) := by decide +kernel
theorem dX10_promise_20 : decode cX10_promise 20 = .ok (.ifCond .eq 28, 3) := by decide +kernel
theorem dX10_promise_23 : decode cX10_promise 23 = .ok (.iload_n 3, 1) := by decide +kernel
theorem dX10_promise_24 : decode cX10_promise 24 = .ok (.iconst 0, 1) := by decide +kernel
theorem dX10_promise_25 : decode cX10_promise 25 = .ok (.sipush 1000, 3) := by decide +kernel
theorem dX10_promise_28 : decode cX10_promise 28 = .ok (.invokestatic 66, 3) := by decide +kernel
theorem dX10_promise_31 : decode cX10_promise 31 = .ok (.ifCond .eq 17, 3) := by decide +kernel
theorem dX10_promise_34 : decode cX10_promise 34 = .ok (.aload_n 0, 1) := by decide +kernel
theorem dX10_promise_35 : decode cX10_promise 35 = .ok (.getfield 19, 3) := by decide +kernel
theorem dX10_promise_38 : decode cX10_promise 38 = .ok (.invokeinterface 49 1, 5) := by decide +kernel
theorem dX10_promise_43 : decode cX10_promise 43 = .ok (.bipush 12, 2) := by decide +kernel
theorem dX10_promise_45 : decode cX10_promise 45 = .ok (.if_icmp .lt 5, 3) := by decide +kernel
theorem dX10_promise_48 : decode cX10_promise 48 = .ok (.iconst (-1), 1) := by decide +kernel
theorem dX10_promise_49 : decode cX10_promise 49 = .ok (.ireturn, 1) := by decide +kernel
theorem dX10_promise_50 : decode cX10_promise 50 = .ok (.aload_n 0, 1) := by decide +kernel
theorem dX10_promise_51 : decode cX10_promise 51 = .ok (.getfield 19, 3) := by decide +kernel
theorem dX10_promise_54 : decode cX10_promise 54 = .ok (.new 98, 3) := by decide +kernel
theorem dX10_promise_57 : decode cX10_promise 57 = .ok (.dup, 1) := by decide +kernel
theorem dX10_promise_58 : decode cX10_promise 58 = .ok (.aload 5, 2) := by decide +kernel
theorem dX10_promise_60 : decode cX10_promise 60 = .ok (.iload_n 2, 1) := by decide +kernel
theorem dX10_promise_61 : decode cX10_promise 61 = .ok (.iload_n 3, 1) := by decide +kernel
theorem dX10_promise_62 : decode cX10_promise 62 = .ok (.iload 4, 2) := by decide +kernel
theorem dX10_promise_64 : decode cX10_promise 64 = .ok (.invokespecial 100, 3) := by decide +kernel
theorem dX10_promise_67 : decode cX10_promise 67 = .ok (.invokeinterface 58 2, 5) := by decide +kernel
theorem dX10_promise_72 : decode cX10_promise 72 = .ok (.pop, 1) := by decide +kernel
theorem dX10_promise_73 : decode cX10_promise 73 = .ok (.aload_n 0, 1) := by decide +kernel
theorem dX10_promise_74 : decode cX10_promise 74 = .ok (.getfield 19, 3) := by decide +kernel
theorem dX10_promise_77 : decode cX10_promise 77 = .ok (.invokeinterface 49 1, 5) := by decide +kernel
theorem dX10_promise_82 : decode cX10_promise 82 = .ok (.iconst 1, 1) := by decide +kernel
theorem dX10_promise_83 : decode cX10_promise 83 = .ok (.isub, 1) := by decide +kernel
theorem dX10_promise_84 : decode cX10_promise 84 = .ok (.ireturn, 1) := by decide +kernel
def F_X10_promise (G : Nat → Nat) (h : xH) (a0 : Nat) (x1 : Int32) (x2 : Int32) (x3 : Int32) (x4 : Int32) : Option (Int32 × xH) :=
  (xc h (some a0) 10).bind fun b2 =>
  (F_X10_serviceAt G h b2 x1).bind fun w1 =>
  if w1 = none then
    some ((-1), h)
  else
  (F_X10_within x2 1 200).bind fun v4 =>
  if v4 = 0 then
    some ((-1), h)
  else
  (F_X10_within x3 0 1000).bind fun v6 =>
  if v6 = 0 then
    some ((-1), h)
  else
  (gR h (some a0) 10 2).bind fun w8 =>
  (xc h w8 0).bind fun b10 =>
  (F_Jx4a65c_size_8abf5 G h b10).bind fun v9 =>
  if v9 < 12 then
    (gR h (some a0) 10 2).bind fun w12 =>
    (nO h 6 [.null, .int 0, .int 0, .int 0, .null, .int 0]).bind fun (q13, h14) =>
    w1.bind fun b15 =>
    (F_X6_init G h14 q13 b15 x2 x3 x4).bind fun h16 =>
    (xc h16 w12 0).bind fun b19 =>
    (F_Jx4a65c_add_9ea2d G h16 b19 q13).bind fun (v17, h18) =>
    (gR h18 (some a0) 10 2).bind fun w20 =>
    (xc h18 w20 0).bind fun b22 =>
    (F_Jx4a65c_size_8abf5 G h18 b22).bind fun v21 =>
    some ((v21 - 1), h18)
  else
  some ((-1), h)
set_option maxHeartbeats 4000000 in
set_option maxRecDepth 100000 in
theorem t_X10_promise (l : Launch) (D : va_G) (G : Nat → Nat) (h : xH) (a0 : Nat) (x1 : Int32) (x2 : Int32) (x3 : Int32) (x4 : Int32) (r : Int32) (h' : xH) (hF : F_X10_promise G h a0 x1 x2 x3 x4 = some (r, h')) : xC l yX10_promise cX10_promise 6 (some .int) (rm_X10_promise) D G h [.ref a0, .int x1, .int x2, .int x3, .int x4] (some (.int r)) h' := by
  refine xC_of (by decide) (by first | decide | exact Nat.le_of_ble_eq_true rfl) ?_
  intro p e s m args below meth c ls hx hb hr hlk hml hown hnm hts hR hS hl
  have hl : lv_has ls 6 [(0, va_rf (some a0)), (1, .int x1), (2, .int x2), (3, .int x3), (4, .int x4)] := hl
  unfold F_X10_promise at hF
  refine x_aload_n (o := (some a0)) hx hb dX10_promise_0 rfl (lv_at hl 0 rfl) ?_
  refine lv_iload_n hx hb dX10_promise_1 rfl (lv_at hl 1 rfl) ?_
  replace hF := xbind hF; obtain ⟨b2, eb2, hF⟩ := hF
  replace hF := xbind hF; obtain ⟨w1, ew1, hF⟩ := hF
  refine x_callV (o := (some a0)) (ci := 10) (As := [.int x1]) (rest := []) (v := (some (va_rf w1))) (k := 1) hx hb hml hown hts hR hS eb2 rfl rfl (t_X10_serviceAt l D G h b2 x1 w1 ew1) f_X10_serviceAt mm_324 mm_326 mm_3 rfl hl.1 rfl (by first | exact Nat.le_of_ble_eq_true rfl | simp [xrf_cat, xcI, xcJ, xcA]) dX10_promise_2 (by decide) (by decide) rfl (fun H locs hR hS => ?_)
  refine x_astore (o := w1) (lv' := [(5, va_rf w1), (0, va_rf (some a0)), (1, .int x1), (2, .int x2), (3, .int x3), (4, .int x4)]) hx hb dX10_promise_5 hl (by decide) (by first | rfl | (simp [xrf_cat, xcI, xcJ, xcA]; done) | (simp [xrf_cat, xcI, xcJ, xcA]; decide)) (fun ls hl => ?_)
  refine x_aload (o := w1) hx hb dX10_promise_7 (lv_at hl 0 rfl) ?_
  refine x_ifnull (o := w1) (tgt := 48) hx hb dX10_promise_9 (by decide) (fun c3 => ?_) (fun c3 => ?_)
  · replace hF := xift c3 hF
    refine lv_iconst (v := (-1)) hx hb dX10_promise_48 (by decide) ?_
    cases hF
    exact x_iret hx hb hr rfl hlk hR hS (by decide) (by decide) dX10_promise_49
  · replace hF := xiff c3 hF
    refine lv_iload_n hx hb dX10_promise_12 rfl (lv_at hl 3 rfl) ?_
    refine lv_iconst (v := 1) hx hb dX10_promise_13 (by decide) ?_
    refine lv_sipush (v := 200) hx hb dX10_promise_14 (by decide) ?_
    replace hF := xbind hF; obtain ⟨v4, ev4, hF⟩ := hF
    refine x_callS (As := [.int x2, .int 1, .int 200]) (rest := []) (v := (some (.int v4))) (k := 3) hx hb hml hown hts hR hS (t_X10_within l D G h x2 1 200 v4 ev4) f_X10_within mm_347 mm_348 rfl hl.1 rfl (by first | exact Nat.le_of_ble_eq_true rfl | simp [xrf_cat, xcI, xcJ, xcA]) dX10_promise_17 (by decide) (by decide) rfl (fun H locs hR hS => ?_)
    refine lv_if_eq (tgt := 48) hx hb dX10_promise_20 (by decide) (fun c5 => ?_) (fun c5 => ?_)
    · replace hF := xift c5 hF
      refine lv_iconst (v := (-1)) hx hb dX10_promise_48 (by decide) ?_
      cases hF
      exact x_iret hx hb hr rfl hlk hR hS (by decide) (by decide) dX10_promise_49
    · replace hF := xiff c5 hF
      refine lv_iload_n hx hb dX10_promise_23 rfl (lv_at hl 4 rfl) ?_
      refine lv_iconst (v := 0) hx hb dX10_promise_24 (by decide) ?_
      refine lv_sipush (v := 1000) hx hb dX10_promise_25 (by decide) ?_
      replace hF := xbind hF; obtain ⟨v6, ev6, hF⟩ := hF
      refine x_callS (As := [.int x3, .int 0, .int 1000]) (rest := []) (v := (some (.int v6))) (k := 3) hx hb hml hown hts hR hS (t_X10_within l D G h x3 0 1000 v6 ev6) f_X10_within mm_347 mm_348 rfl hl.1 rfl (by first | exact Nat.le_of_ble_eq_true rfl | simp [xrf_cat, xcI, xcJ, xcA]) dX10_promise_28 (by decide) (by decide) rfl (fun H locs hR hS => ?_)
      refine lv_if_eq (tgt := 48) hx hb dX10_promise_31 (by decide) (fun c7 => ?_) (fun c7 => ?_)
      · replace hF := xift c7 hF
        refine lv_iconst (v := (-1)) hx hb dX10_promise_48 (by decide) ?_
        cases hF
        exact x_iret hx hb hr rfl hlk hR hS (by decide) (by decide) dX10_promise_49
      · replace hF := xiff c7 hF
        refine x_aload_n (o := (some a0)) hx hb dX10_promise_34 rfl (lv_at hl 1 rfl) ?_
        replace hF := xbind hF; obtain ⟨w8, ew8, hF⟩ := hF
        refine x_getR (o := (some a0)) (ci := 10) (C := RX10) (T := TX10) (N := 11) hx hb hts iw_X10 hown hR rfl 2 (by decide) mm_189 (Or.inl rfl) ew8 dX10_promise_35 ?_
        replace hF := xbind hF; obtain ⟨b10, eb10, hF⟩ := hF
        replace hF := xbind hF; obtain ⟨v9, ev9, hF⟩ := hF
        refine x_callF (o := w8) (ci := 0) (As := []) (rest := []) (v := (some (.int v9))) (k := 0) hx hb hml hown hts hR hS eb10 rfl (by decide +kernel) (t_Jx4a65c_size_8abf5 l D G h b10 v9 ev9) f_Jx4a65c_size_8abf5 mm_226 mm_232 mm_230 (by decide +kernel) rfl hl.1 rfl (by first | exact Nat.le_of_ble_eq_true rfl | simp [xrf_cat, xcI, xcJ, xcA]) dX10_promise_38 (by decide) (by decide) rfl (fun H locs hR hS => ?_)
        refine lv_bipush (v := 12) hx hb dX10_promise_43 (by decide) ?_
        refine lv_icmp_lt (tgt := 50) hx hb dX10_promise_45 (by decide) (fun c11 => ?_) (fun c11 => ?_)
        · replace hF := xift c11 hF
          refine x_aload_n (o := (some a0)) hx hb dX10_promise_50 rfl (lv_at hl 1 rfl) ?_
          replace hF := xbind hF; obtain ⟨w12, ew12, hF⟩ := hF
          refine x_getR (o := (some a0)) (ci := 10) (C := RX10) (T := TX10) (N := 11) hx hb hts iw_X10 hown hR rfl 2 (by decide) mm_189 (Or.inl rfl) ew12 dX10_promise_51 ?_
          replace hF := xbind hF; obtain ⟨⟨q13, h14⟩, eq13, hF⟩ := hF
          refine x_newO (C := RX6) (T := TX6) (N := 6) (ci := 6) hx hb hts iw_X6 tyX6_ok hown mm_406 mm_407 mm_71 hR hS rfl (by decide) (by decide) (by decide) eq13 dX10_promise_54 (fun H hR hS => ?_)
          refine lv_dup hx hb dX10_promise_57 xrf_cat ?_
          refine x_aload (o := w1) hx hb dX10_promise_58 (lv_at hl 0 rfl) ?_
          refine lv_iload_n hx hb dX10_promise_60 rfl (lv_at hl 3 rfl) ?_
          refine lv_iload_n hx hb dX10_promise_61 rfl (lv_at hl 4 rfl) ?_
          refine lv_iload hx hb dX10_promise_62 (lv_at hl 5 rfl) ?_
          replace hF := xbind hF; obtain ⟨b15, eb15, hF⟩ := hF
          subst eb15
          replace hF := xbind hF; obtain ⟨h16, eh16, hF⟩ := hF
          refine x_callI (o := (some q13)) (As := [.ref b15, .int x2, .int x3, .int x4]) (rest := [va_rf (some q13), va_rf w12]) (v := none) (k := 4) hx hb hml hown hts hR hS rfl (t_X6_init l D G h14 q13 b15 x2 x3 x4 h16 eh16) f_X6_init mm_408 mm_409 rfl rfl hl.1 rfl (by first | exact Nat.le_of_ble_eq_true rfl | simp [xrf_cat, xcI, xcJ, xcA]) dX10_promise_64 (by decide) (by decide) rfl (fun H locs hR hS => ?_)
          replace hF := xbind hF; obtain ⟨b19, eb19, hF⟩ := hF
          replace hF := xbind hF; obtain ⟨⟨v17, h18⟩, ev17, hF⟩ := hF
          refine x_callF (o := w12) (ci := 0) (As := [.ref q13]) (rest := []) (v := (some (.int v17))) (k := 1) hx hb hml hown hts hR hS eb19 rfl (by decide +kernel) (t_Jx4a65c_add_9ea2d l D G h16 b19 q13 v17 h18 ev17) f_Jx4a65c_add_9ea2d mm_256 mm_261 mm_259 (by decide +kernel) rfl hl.1 rfl (by first | exact Nat.le_of_ble_eq_true rfl | simp [xrf_cat, xcI, xcJ, xcA]) dX10_promise_67 (by decide) (by decide) rfl (fun H locs hR hS => ?_)
          refine lv_pop hx hb dX10_promise_72 rfl ?_
          refine x_aload_n (o := (some a0)) hx hb dX10_promise_73 rfl (lv_at hl 1 rfl) ?_
          replace hF := xbind hF; obtain ⟨w20, ew20, hF⟩ := hF
          refine x_getR (o := (some a0)) (ci := 10) (C := RX10) (T := TX10) (N := 11) hx hb hts iw_X10 hown hR rfl 2 (by decide) mm_189 (Or.inl rfl) ew20 dX10_promise_74 ?_
          replace hF := xbind hF; obtain ⟨b22, eb22, hF⟩ := hF
          replace hF := xbind hF; obtain ⟨v21, ev21, hF⟩ := hF
          refine x_callF (o := w20) (ci := 0) (As := []) (rest := []) (v := (some (.int v21))) (k := 0) hx hb hml hown hts hR hS eb22 rfl (by decide +kernel) (t_Jx4a65c_size_8abf5 l D G h18 b22 v21 ev21) f_Jx4a65c_size_8abf5 mm_226 mm_232 mm_230 (by decide +kernel) rfl hl.1 rfl (by first | exact Nat.le_of_ble_eq_true rfl | simp [xrf_cat, xcI, xcJ, xcA]) dX10_promise_77 (by decide) (by decide) rfl (fun H locs hR hS => ?_)
          refine lv_iconst (v := 1) hx hb dX10_promise_82 (by decide) ?_
          refine lv_isub hx hb dX10_promise_83 ?_
          cases hF
          exact x_iret hx hb hr rfl hlk hR hS (by decide) (by decide) dX10_promise_84
        · replace hF := xiff c11 hF
          refine lv_iconst (v := (-1)) hx hb dX10_promise_48 (by decide) ?_
          cases hF
          exact x_iret hx hb hr rfl hlk hR hS (by decide) (by decide) dX10_promise_49
def rm_X10_grace : Room := { frames := 4, cells := 0, slots := 0, locals := 85 }
theorem f_X10_grace : xM yX10_grace cX10_grace 5 (some .boolean) 3 := ⟨mm_436, mm_55, by decide +kernel, by decide +kernel⟩
theorem dX10_grace_0 : decode cX10_grace 0 = .ok (.aload_n 0, 1) := by decide +kernel
theorem dX10_grace_1 : decode cX10_grace 1 = .ok (.iload_n 1, 1) := by decide +kernel
theorem dX10_grace_2 : decode cX10_grace 2 = .ok (.invokevirtual 103, 3) := by decide +kernel
theorem dX10_grace_5 : decode cX10_grace 5 = .ok (.astore 4, 2) := by decide +kernel
theorem dX10_grace_7 : decode cX10_grace 7 = .ok (.aload 4, 2) := by decide +kernel
theorem dX10_grace_9 : decode cX10_grace 9 = .ok (.ifnull 22, 3) := by decide +kernel
theorem dX10_grace_12 : decode cX10_grace 12 = .ok (.iload_n 2, 1) := by decide +kernel
theorem dX10_grace_13 : decode cX10_grace 13 = .ok (.aload_n 0, 1) := by decide +kernel
theorem dX10_grace_14 : decode cX10_grace 14 = .ok (.getfield 80, 3) := by decide +kernel
theorem dX10_grace_17 : decode cX10_grace 17 = .ok (.if_icmp .le 14, 3) := by decide +kernel
theorem dX10_grace_20 : decode cX10_grace 20 = .ok (.iload_n 3, 1) := by decide +kernel
theorem dX10_grace_21 : decode cX10_grace 21 = .ok (.iload_n 2, 1) := by decide +kernel
theorem dX10_grace_22 : decode cX10_grace 22 = .ok (.sipush 600, 3) := by decide +kernel
theorem dX10_grace_25 : decode cX10_grace 25 = .ok (.invokestatic 66, 3) := by decide +kernel
theorem dX10_grace_28 : decode cX10_grace 28 = .ok (.ifCond .ne 5, 3) := by decide +kernel
theorem dX10_grace_31 : decode cX10_grace 31 = .ok (.iconst 0, 1) := by decide +kernel
theorem dX10_grace_32 : decode cX10_grace 32 = .ok (.ireturn, 1) := by decide +kernel
theorem dX10_grace_33 : decode cX10_grace 33 = .ok (.aload 4, 2) := by decide +kernel
theorem dX10_grace_35 : decode cX10_grace 35 = .ok (.iload_n 2, 1) := by decide +kernel
theorem dX10_grace_36 : decode cX10_grace 36 = .ok (.iload_n 3, 1) := by decide +kernel
theorem dX10_grace_37 : decode cX10_grace 37 = .ok (.invokevirtual 107, 3) := by decide +kernel
theorem dX10_grace_40 : decode cX10_grace 40 = .ok (.ireturn, 1) := by decide +kernel
def F_X10_grace (G : Nat → Nat) (h : xH) (a0 : Nat) (x1 : Int32) (x2 : Int32) (x3 : Int32) : Option (Int32 × xH) :=
  (xc h (some a0) 10).bind fun b2 =>
  (F_X10_promiseAt G h b2 x1).bind fun w1 =>
  if w1 = none then
    some (0, h)
  else
  (gI h (some a0) 10 8).bind fun v4 =>
  if x2 ≤ v4 then
    some (0, h)
  else
  (F_X10_within x3 x2 600).bind fun v6 =>
  if v6 = 0 then
    some (0, h)
  else
  (xc h w1 6).bind fun b10 =>
  (F_X6_leaveOut G h b10 x2 x3).bind fun (v8, h9) =>
  xg (v8 = 0 ∨ v8 = 1) <|
  some (v8, h9)
set_option maxHeartbeats 4000000 in
set_option maxRecDepth 100000 in
theorem t_X10_grace (l : Launch) (D : va_G) (G : Nat → Nat) (h : xH) (a0 : Nat) (x1 : Int32) (x2 : Int32) (x3 : Int32) (r : Int32) (h' : xH) (hF : F_X10_grace G h a0 x1 x2 x3 = some (r, h')) : xC l yX10_grace cX10_grace 5 (some .boolean) (rm_X10_grace) D G h [.ref a0, .int x1, .int x2, .int x3] (some (.int r)) h' := by
  refine xC_of (by decide) (by first | decide | exact Nat.le_of_ble_eq_true rfl) ?_
  intro p e s m args below meth c ls hx hb hr hlk hml hown hnm hts hR hS hl
  have hl : lv_has ls 5 [(0, va_rf (some a0)), (1, .int x1), (2, .int x2), (3, .int x3)] := hl
  unfold F_X10_grace at hF
  refine x_aload_n (o := (some a0)) hx hb dX10_grace_0 rfl (lv_at hl 0 rfl) ?_
  refine lv_iload_n hx hb dX10_grace_1 rfl (lv_at hl 1 rfl) ?_
  replace hF := xbind hF; obtain ⟨b2, eb2, hF⟩ := hF
  replace hF := xbind hF; obtain ⟨w1, ew1, hF⟩ := hF
  refine x_callV (o := (some a0)) (ci := 10) (As := [.int x1]) (rest := []) (v := (some (va_rf w1))) (k := 1) hx hb hml hown hts hR hS eb2 rfl rfl (t_X10_promiseAt l D G h b2 x1 w1 ew1) f_X10_promiseAt mm_437 mm_439 mm_6 rfl hl.1 rfl (by first | exact Nat.le_of_ble_eq_true rfl | simp [xrf_cat, xcI, xcJ, xcA]) dX10_grace_2 (by decide) (by decide) rfl (fun H locs hR hS => ?_)
  refine x_astore (o := w1) (lv' := [(4, va_rf w1), (0, va_rf (some a0)), (1, .int x1), (2, .int x2), (3, .int x3)]) hx hb dX10_grace_5 hl (by decide) (by first | rfl | (simp [xrf_cat, xcI, xcJ, xcA]; done) | (simp [xrf_cat, xcI, xcJ, xcA]; decide)) (fun ls hl => ?_)
  refine x_aload (o := w1) hx hb dX10_grace_7 (lv_at hl 0 rfl) ?_
  refine x_ifnull (o := w1) (tgt := 31) hx hb dX10_grace_9 (by decide) (fun c3 => ?_) (fun c3 => ?_)
  · replace hF := xift c3 hF
    refine lv_iconst (v := 0) hx hb dX10_grace_31 (by decide) ?_
    cases hF
    exact x_iret hx hb hr rfl hlk hR hS (by decide) (by decide) dX10_grace_32
  · replace hF := xiff c3 hF
    refine lv_iload_n hx hb dX10_grace_12 rfl (lv_at hl 3 rfl) ?_
    refine x_aload_n (o := (some a0)) hx hb dX10_grace_13 rfl (lv_at hl 1 rfl) ?_
    replace hF := xbind hF; obtain ⟨v4, ev4, hF⟩ := hF
    refine x_getI (o := (some a0)) (ci := 10) (C := RX10) (T := TX10) (N := 11) hx hb hts iw_X10 hown hR rfl 8 (by decide) mm_195 (Or.inl rfl) ev4 dX10_grace_14 ?_
    refine lv_icmp_le (tgt := 31) hx hb dX10_grace_17 (by decide) (fun c5 => ?_) (fun c5 => ?_)
    · replace hF := xift c5 hF
      refine lv_iconst (v := 0) hx hb dX10_grace_31 (by decide) ?_
      cases hF
      exact x_iret hx hb hr rfl hlk hR hS (by decide) (by decide) dX10_grace_32
    · replace hF := xiff c5 hF
      refine lv_iload_n hx hb dX10_grace_20 rfl (lv_at hl 4 rfl) ?_
      refine lv_iload_n hx hb dX10_grace_21 rfl (lv_at hl 3 rfl) ?_
      refine lv_sipush (v := 600) hx hb dX10_grace_22 (by decide) ?_
      replace hF := xbind hF; obtain ⟨v6, ev6, hF⟩ := hF
      refine x_callS (As := [.int x3, .int x2, .int 600]) (rest := []) (v := (some (.int v6))) (k := 3) hx hb hml hown hts hR hS (t_X10_within l D G h x3 x2 600 v6 ev6) f_X10_within mm_347 mm_348 rfl hl.1 rfl (by first | exact Nat.le_of_ble_eq_true rfl | simp [xrf_cat, xcI, xcJ, xcA]) dX10_grace_25 (by decide) (by decide) rfl (fun H locs hR hS => ?_)
      refine lv_if_ne (tgt := 33) hx hb dX10_grace_28 (by decide) (fun c7 => ?_) (fun c7 => ?_)
      · replace hF := xiff c7 hF
        refine x_aload (o := w1) hx hb dX10_grace_33 (lv_at hl 0 rfl) ?_
        refine lv_iload_n hx hb dX10_grace_35 rfl (lv_at hl 3 rfl) ?_
        refine lv_iload_n hx hb dX10_grace_36 rfl (lv_at hl 4 rfl) ?_
        replace hF := xbind hF; obtain ⟨b10, eb10, hF⟩ := hF
        replace hF := xbind hF; obtain ⟨⟨v8, h9⟩, ev8, hF⟩ := hF
        refine x_callV (o := w1) (ci := 6) (As := [.int x2, .int x3]) (rest := []) (v := (some (.int v8))) (k := 2) hx hb hml hown hts hR hS eb10 rfl rfl (t_X6_leaveOut l D G h b10 x2 x3 v8 h9 ev8) f_X6_leaveOut mm_441 mm_442 mm_443 rfl hl.1 rfl (by first | exact Nat.le_of_ble_eq_true rfl | simp [xrf_cat, xcI, xcJ, xcA]) dX10_grace_37 (by decide) (by decide) rfl (fun H locs hR hS => ?_)
        replace hF := xguard hF; obtain ⟨c11, hF⟩ := hF
        cases hF
        exact x_iret hx hb hr (xnarZ c11) hlk hR hS (by decide) (by decide) dX10_grace_40
      · replace hF := xift c7 hF
        refine lv_iconst (v := 0) hx hb dX10_grace_31 (by decide) ?_
        cases hF
        exact x_iret hx hb hr rfl hlk hR hS (by decide) (by decide) dX10_grace_32
def rm_X10_sum : Room := { frames := 5, cells := 0, slots := 0, locals := 113 }
theorem f_X10_sum : xM yX10_sum cX10_sum 6 (some .int) 4 := ⟨mm_449, mm_55, by decide +kernel, by decide +kernel⟩
theorem dX10_sum_0 : decode cX10_sum 0 = .ok (.aload_n 0, 1) := by decide +kernel
theorem dX10_sum_1 : decode cX10_sum 1 = .ok (.iload_n 1, 1) := by decide +kernel
theorem dX10_sum_2 : decode cX10_sum 2 = .ok (.invokevirtual 62, 3) := by decide +kernel
theorem dX10_sum_5 : decode cX10_sum 5 = .ok (.astore 5, 2) := by decide +kernel
theorem dX10_sum_7 : decode cX10_sum 7 = .ok (.aload 5, 2) := by decide +kernel
theorem dX10_sum_9 : decode cX10_sum 9 = .ok (.ifnull 18, 3) := by decide +kernel
theorem dX10_sum_12 : decode cX10_sum 12 = .ok (.iload_n 2, 1) := by decide +kernel
theorem dX10_sum_13 : decode cX10_sum 13 = .ok (.ifCond .lt 14, 3) := by decide +kernel
theorem dX10_sum_16 : decode cX10_sum 16 = .ok (.iload_n 3, 1) := by decide +kernel
theorem dX10_sum_17 : decode cX10_sum 17 = .ok (.iload_n 2, 1) := by decide +kernel
theorem dX10_sum_18 : decode cX10_sum 18 = .ok (.sipush 600, 3) := by decide +kernel
theorem dX10_sum_21 : decode cX10_sum 21 = .ok (.invokestatic 66, 3) := by decide +kernel
theorem dX10_sum_24 : decode cX10_sum 24 = .ok (.ifCond .ne 5, 3) := by decide +kernel
theorem dX10_sum_27 : decode cX10_sum 27 = .ok (.iconst (-1), 1) := by decide +kernel
theorem dX10_sum_28 : decode cX10_sum 28 = .ok (.ireturn, 1) := by decide +kernel
theorem dX10_sum_29 : decode cX10_sum 29 = .ok (.iload 4, 2) := by decide +kernel
theorem dX10_sum_31 : decode cX10_sum 31 = .ok (.tableswitch 53 0 2 #[25, 33, 41], 25) := by decide +kernel
theorem dX10_sum_56 : decode cX10_sum 56 = .ok (.aload 5, 2) := by decide +kernel
theorem dX10_sum_58 : decode cX10_sum 58 = .ok (.iload_n 2, 1) := by decide +kernel
theorem dX10_sum_59 : decode cX10_sum 59 = .ok (.iload_n 3, 1) := by decide +kernel
theorem dX10_sum_60 : decode cX10_sum 60 = .ok (.invokevirtual 111, 3) := by decide +kernel
theorem dX10_sum_63 : decode cX10_sum 63 = .ok (.ireturn, 1) := by decide +kernel
theorem dX10_sum_64 : decode cX10_sum 64 = .ok (.aload 5, 2) := by decide +kernel
theorem dX10_sum_66 : decode cX10_sum 66 = .ok (.iload_n 2, 1) := by decide +kernel
theorem dX10_sum_67 : decode cX10_sum 67 = .ok (.iload_n 3, 1) := by decide +kernel
theorem dX10_sum_68 : decode cX10_sum 68 = .ok (.invokevirtual 115, 3) := by decide +kernel
theorem dX10_sum_71 : decode cX10_sum 71 = .ok (.ireturn, 1) := by decide +kernel
theorem dX10_sum_72 : decode cX10_sum 72 = .ok (.aload 5, 2) := by decide +kernel
theorem dX10_sum_74 : decode cX10_sum 74 = .ok (.iload_n 2, 1) := by decide +kernel
theorem dX10_sum_75 : decode cX10_sum 75 = .ok (.iload_n 3, 1) := by decide +kernel
theorem dX10_sum_76 : decode cX10_sum 76 = .ok (.aload_n 0, 1) := by decide +kernel
theorem dX10_sum_77 : decode cX10_sum 77 = .ok (.getfield 80, 3) := by decide +kernel
theorem dX10_sum_80 : decode cX10_sum 80 = .ok (.invokevirtual 118, 3) := by decide +kernel
theorem dX10_sum_83 : decode cX10_sum 83 = .ok (.ireturn, 1) := by decide +kernel
theorem dX10_sum_84 : decode cX10_sum 84 = .ok (.iconst (-1), 1) := by decide +kernel
theorem dX10_sum_85 : decode cX10_sum 85 = .ok (.ireturn, 1) := by decide +kernel
def F_X10_sum (G : Nat → Nat) (h : xH) (a0 : Nat) (x1 : Int32) (x2 : Int32) (x3 : Int32) (x4 : Int32) : Option Int32 :=
  (xc h (some a0) 10).bind fun b2 =>
  (F_X10_serviceAt G h b2 x1).bind fun w1 =>
  if w1 = none then
    some (-1)
  else
  if x2 < 0 then
    some (-1)
  else
  (F_X10_within x3 x2 600).bind fun v5 =>
  if v5 = 0 then
    some (-1)
  else
  if x4 = 0 then
    (xc h w1 7).bind fun b9 =>
    (F_X7_asksIn G h b9 x2 x3).bind fun v8 =>
    some v8
  else
  if x4 = 1 then
    (xc h w1 7).bind fun b12 =>
    (F_X7_badIn G h b12 x2 x3).bind fun v11 =>
    some v11
  else
  if x4 = 2 then
    (gI h (some a0) 10 8).bind fun v14 =>
    (xc h w1 7).bind fun b16 =>
    (F_X7_toComeIn G h b16 x2 x3 v14).bind fun v15 =>
    some v15
  else
  some (-1)
set_option maxHeartbeats 4000000 in
set_option maxRecDepth 100000 in
theorem t_X10_sum (l : Launch) (D : va_G) (G : Nat → Nat) (h : xH) (a0 : Nat) (x1 : Int32) (x2 : Int32) (x3 : Int32) (x4 : Int32) (r : Int32) (hF : F_X10_sum G h a0 x1 x2 x3 x4 = some r) : xC l yX10_sum cX10_sum 6 (some .int) (rm_X10_sum) D G h [.ref a0, .int x1, .int x2, .int x3, .int x4] (some (.int r)) h := by
  refine xC_of (by decide) (by first | decide | exact Nat.le_of_ble_eq_true rfl) ?_
  intro p e s m args below meth c ls hx hb hr hlk hml hown hnm hts hR hS hl
  have hl : lv_has ls 6 [(0, va_rf (some a0)), (1, .int x1), (2, .int x2), (3, .int x3), (4, .int x4)] := hl
  unfold F_X10_sum at hF
  refine x_aload_n (o := (some a0)) hx hb dX10_sum_0 rfl (lv_at hl 0 rfl) ?_
  refine lv_iload_n hx hb dX10_sum_1 rfl (lv_at hl 1 rfl) ?_
  replace hF := xbind hF; obtain ⟨b2, eb2, hF⟩ := hF
  replace hF := xbind hF; obtain ⟨w1, ew1, hF⟩ := hF
  refine x_callV (o := (some a0)) (ci := 10) (As := [.int x1]) (rest := []) (v := (some (va_rf w1))) (k := 1) hx hb hml hown hts hR hS eb2 rfl rfl (t_X10_serviceAt l D G h b2 x1 w1 ew1) f_X10_serviceAt mm_324 mm_326 mm_3 rfl hl.1 rfl (by first | exact Nat.le_of_ble_eq_true rfl | simp [xrf_cat, xcI, xcJ, xcA]) dX10_sum_2 (by decide) (by decide) rfl (fun H locs hR hS => ?_)
  refine x_astore (o := w1) (lv' := [(5, va_rf w1), (0, va_rf (some a0)), (1, .int x1), (2, .int x2), (3, .int x3), (4, .int x4)]) hx hb dX10_sum_5 hl (by decide) (by first | rfl | (simp [xrf_cat, xcI, xcJ, xcA]; done) | (simp [xrf_cat, xcI, xcJ, xcA]; decide)) (fun ls hl => ?_)
  refine x_aload (o := w1) hx hb dX10_sum_7 (lv_at hl 0 rfl) ?_
  refine x_ifnull (o := w1) (tgt := 27) hx hb dX10_sum_9 (by decide) (fun c3 => ?_) (fun c3 => ?_)
  · replace hF := xift c3 hF
    refine lv_iconst (v := (-1)) hx hb dX10_sum_27 (by decide) ?_
    cases hF
    exact x_iret hx hb hr rfl hlk hR hS (by decide) (by decide) dX10_sum_28
  · replace hF := xiff c3 hF
    refine lv_iload_n hx hb dX10_sum_12 rfl (lv_at hl 3 rfl) ?_
    refine lv_if_lt (tgt := 27) hx hb dX10_sum_13 (by decide) (fun c4 => ?_) (fun c4 => ?_)
    · replace hF := xift c4 hF
      refine lv_iconst (v := (-1)) hx hb dX10_sum_27 (by decide) ?_
      cases hF
      exact x_iret hx hb hr rfl hlk hR hS (by decide) (by decide) dX10_sum_28
    · replace hF := xiff c4 hF
      refine lv_iload_n hx hb dX10_sum_16 rfl (lv_at hl 4 rfl) ?_
      refine lv_iload_n hx hb dX10_sum_17 rfl (lv_at hl 3 rfl) ?_
      refine lv_sipush (v := 600) hx hb dX10_sum_18 (by decide) ?_
      replace hF := xbind hF; obtain ⟨v5, ev5, hF⟩ := hF
      refine x_callS (As := [.int x3, .int x2, .int 600]) (rest := []) (v := (some (.int v5))) (k := 3) hx hb hml hown hts hR hS (t_X10_within l D G h x3 x2 600 v5 ev5) f_X10_within mm_347 mm_348 rfl hl.1 rfl (by first | exact Nat.le_of_ble_eq_true rfl | simp [xrf_cat, xcI, xcJ, xcA]) dX10_sum_21 (by decide) (by decide) rfl (fun H locs hR hS => ?_)
      refine lv_if_ne (tgt := 29) hx hb dX10_sum_24 (by decide) (fun c6 => ?_) (fun c6 => ?_)
      · replace hF := xiff c6 hF
        refine lv_iload hx hb dX10_sum_29 (lv_at hl 5 rfl) ?_
        by_cases c7 : x4 = 0
        · replace hF := xift c7 hF
          refine lv_tableIn (off := 25) (tgt := 56) hx hb dX10_sum_31 (by rw [c7]; decide) (by rw [c7]; decide) (by rw [c7]; rfl) (by decide) ?_
          refine x_aload (o := w1) hx hb dX10_sum_56 (lv_at hl 0 rfl) ?_
          refine lv_iload_n hx hb dX10_sum_58 rfl (lv_at hl 3 rfl) ?_
          refine lv_iload_n hx hb dX10_sum_59 rfl (lv_at hl 4 rfl) ?_
          replace hF := xbind hF; obtain ⟨b9, eb9, hF⟩ := hF
          replace hF := xbind hF; obtain ⟨v8, ev8, hF⟩ := hF
          refine x_callV (o := w1) (ci := 7) (As := [.int x2, .int x3]) (rest := []) (v := (some (.int v8))) (k := 2) hx hb hml hown hts hR hS eb9 rfl rfl (t_X7_asksIn l D G h b9 x2 x3 v8 ev8) f_X7_asksIn mm_450 mm_451 mm_452 rfl hl.1 rfl (by first | exact Nat.le_of_ble_eq_true rfl | simp [xrf_cat, xcI, xcJ, xcA]) dX10_sum_60 (by decide) (by decide) rfl (fun H locs hR hS => ?_)
          cases hF
          exact x_iret hx hb hr rfl hlk hR hS (by decide) (by decide) dX10_sum_63
        replace hF := xiff c7 hF
        by_cases c10 : x4 = 1
        · replace hF := xift c10 hF
          refine lv_tableIn (off := 33) (tgt := 64) hx hb dX10_sum_31 (by rw [c10]; decide) (by rw [c10]; decide) (by rw [c10]; rfl) (by decide) ?_
          refine x_aload (o := w1) hx hb dX10_sum_64 (lv_at hl 0 rfl) ?_
          refine lv_iload_n hx hb dX10_sum_66 rfl (lv_at hl 3 rfl) ?_
          refine lv_iload_n hx hb dX10_sum_67 rfl (lv_at hl 4 rfl) ?_
          replace hF := xbind hF; obtain ⟨b12, eb12, hF⟩ := hF
          replace hF := xbind hF; obtain ⟨v11, ev11, hF⟩ := hF
          refine x_callV (o := w1) (ci := 7) (As := [.int x2, .int x3]) (rest := []) (v := (some (.int v11))) (k := 2) hx hb hml hown hts hR hS eb12 rfl rfl (t_X7_badIn l D G h b12 x2 x3 v11 ev11) f_X7_badIn mm_458 mm_459 mm_460 rfl hl.1 rfl (by first | exact Nat.le_of_ble_eq_true rfl | simp [xrf_cat, xcI, xcJ, xcA]) dX10_sum_68 (by decide) (by decide) rfl (fun H locs hR hS => ?_)
          cases hF
          exact x_iret hx hb hr rfl hlk hR hS (by decide) (by decide) dX10_sum_71
        replace hF := xiff c10 hF
        by_cases c13 : x4 = 2
        · replace hF := xift c13 hF
          refine lv_tableIn (off := 41) (tgt := 72) hx hb dX10_sum_31 (by rw [c13]; decide) (by rw [c13]; decide) (by rw [c13]; rfl) (by decide) ?_
          refine x_aload (o := w1) hx hb dX10_sum_72 (lv_at hl 0 rfl) ?_
          refine lv_iload_n hx hb dX10_sum_74 rfl (lv_at hl 3 rfl) ?_
          refine lv_iload_n hx hb dX10_sum_75 rfl (lv_at hl 4 rfl) ?_
          refine x_aload_n (o := (some a0)) hx hb dX10_sum_76 rfl (lv_at hl 1 rfl) ?_
          replace hF := xbind hF; obtain ⟨v14, ev14, hF⟩ := hF
          refine x_getI (o := (some a0)) (ci := 10) (C := RX10) (T := TX10) (N := 11) hx hb hts iw_X10 hown hR rfl 8 (by decide) mm_195 (Or.inl rfl) ev14 dX10_sum_77 ?_
          replace hF := xbind hF; obtain ⟨b16, eb16, hF⟩ := hF
          replace hF := xbind hF; obtain ⟨v15, ev15, hF⟩ := hF
          refine x_callV (o := w1) (ci := 7) (As := [.int x2, .int x3, .int v14]) (rest := []) (v := (some (.int v15))) (k := 3) hx hb hml hown hts hR hS eb16 rfl rfl (t_X7_toComeIn l D G h b16 x2 x3 v14 v15 ev15) f_X7_toComeIn mm_462 mm_463 mm_464 rfl hl.1 rfl (by first | exact Nat.le_of_ble_eq_true rfl | simp [xrf_cat, xcI, xcJ, xcA]) dX10_sum_80 (by decide) (by decide) rfl (fun H locs hR hS => ?_)
          cases hF
          exact x_iret hx hb hr rfl hlk hR hS (by decide) (by decide) dX10_sum_83
        replace hF := xiff c13 hF
        refine lv_tableOut (tgt := 84) hx hb dX10_sum_31 (by have := lv_neT c7 (a := 0) (by decide); have := lv_neT c10 (a := 1) (by decide); have := lv_neT c13 (a := 2) (by decide); omega) (by decide) ?_
        refine lv_iconst (v := (-1)) hx hb dX10_sum_84 (by decide) ?_
        cases hF
        exact x_iret hx hb hr rfl hlk hR hS (by decide) (by decide) dX10_sum_85
      · replace hF := xift c6 hF
        refine lv_iconst (v := (-1)) hx hb dX10_sum_27 (by decide) ?_
        cases hF
        exact x_iret hx hb hr rfl hlk hR hS (by decide) (by decide) dX10_sum_28
