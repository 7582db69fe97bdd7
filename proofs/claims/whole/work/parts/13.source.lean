def rm_X8_isOpen : Room := { frames := 0, cells := 0, slots := 0, locals := 0 }
theorem f_X8_isOpen : xM yX8_isOpen cX8_isOpen 3 (some .boolean) 2 := ⟨mm_389, mm_70, by decide +kernel, by decide +kernel⟩
theorem dX8_isOpen_0 : decode cX8_isOpen 0 = .ok (.iload_n 1, 1) := by decide +kernel
theorem dX8_isOpen_1 : decode cX8_isOpen 1 = .ok (.iload_n 2, 1) := by decide +kernel
theorem dX8_isOpen_2 : decode cX8_isOpen 2 = .ok (.aload_n 0, 1) := by decide +kernel
theorem dX8_isOpen_3 : decode cX8_isOpen 3 = .ok (.getfield 23, 3) := by decide +kernel
theorem dX8_isOpen_6 : decode cX8_isOpen 6 = .ok (.isub, 1) := by decide +kernel
theorem dX8_isOpen_7 : decode cX8_isOpen 7 = .ok (.if_icmp .lt 7, 3) := by decide +kernel
theorem dX8_isOpen_10 : decode cX8_isOpen 10 = .ok (.iconst 1, 1) := by decide +kernel
theorem dX8_isOpen_11 : decode cX8_isOpen 11 = .ok (.goto 4, 3) := by decide +kernel
theorem dX8_isOpen_14 : decode cX8_isOpen 14 = .ok (.iconst 0, 1) := by decide +kernel
theorem dX8_isOpen_15 : decode cX8_isOpen 15 = .ok (.ireturn, 1) := by decide +kernel
def F_X8_isOpen (G : Nat → Nat) (h : xH) (a0 : Nat) (x1 : Int32) (x2 : Int32) : Option Int32 :=
  (gI h (some a0) 8 0).bind fun v1 =>
  if x1 < (x2 - v1) then
    some 0
  else
  some 1
set_option maxHeartbeats 4000000 in
set_option maxRecDepth 100000 in
theorem t_X8_isOpen (l : Launch) (D : va_G) (G : Nat → Nat) (h : xH) (a0 : Nat) (x1 : Int32) (x2 : Int32) (r : Int32) (hF : F_X8_isOpen G h a0 x1 x2 = some r) : xC l yX8_isOpen cX8_isOpen 3 (some .boolean) (rm_X8_isOpen) D G h [.ref a0, .int x1, .int x2] (some (.int r)) h := by
  refine xC_of (by decide) (by first | decide | exact Nat.le_of_ble_eq_true rfl) ?_
  intro p e s m args below meth c ls hx hb hr hlk hml hown hnm hts hR hS hl
  have hl : lv_has ls 3 [(0, va_rf (some a0)), (1, .int x1), (2, .int x2)] := hl
  unfold F_X8_isOpen at hF
  refine lv_iload_n hx hb dX8_isOpen_0 rfl (lv_at hl 1 rfl) ?_
  refine lv_iload_n hx hb dX8_isOpen_1 rfl (lv_at hl 2 rfl) ?_
  refine x_aload_n (o := (some a0)) hx hb dX8_isOpen_2 rfl (lv_at hl 0 rfl) ?_
  replace hF := xbind hF; obtain ⟨v1, ev1, hF⟩ := hF
  refine x_getI (o := (some a0)) (ci := 8) (C := RX8) (T := TX8) (N := 5) hx hb hts iw_X8 hown hR rfl 0 (by decide) mm_356 (Or.inl rfl) ev1 dX8_isOpen_3 ?_
  refine lv_isub hx hb dX8_isOpen_6 ?_
  refine lv_icmp_lt (tgt := 14) hx hb dX8_isOpen_7 (by decide) (fun c2 => ?_) (fun c2 => ?_)
  · replace hF := xift c2 hF
    refine lv_iconst (v := 0) hx hb dX8_isOpen_14 (by decide) ?_
    cases hF
    exact x_iret hx hb hr rfl hlk hR hS (by decide) (by decide) dX8_isOpen_15
  · replace hF := xiff c2 hF
    refine lv_iconst (v := 1) hx hb dX8_isOpen_10 (by decide) ?_
    refine lv_goto (tgt := 15) hx hb dX8_isOpen_11 (by decide) ?_
    cases hF
    exact x_iret hx hb hr rfl hlk hR hS (by decide) (by decide) dX8_isOpen_15
def rm_X8_toCome : Room := { frames := 1, cells := 0, slots := 0, locals := 22 }
theorem f_X8_toCome : xM yX8_toCome cX8_toCome 3 (some .int) 2 := ⟨mm_478, mm_70, by decide +kernel, by decide +kernel⟩
theorem dX8_toCome_0 : decode cX8_toCome 0 = .ok (.iload_n 1, 1) := by decide +kernel
theorem dX8_toCome_1 : decode cX8_toCome 1 = .ok (.ifCond .lt 19, 3) := by decide +kernel
theorem dX8_toCome_4 : decode cX8_toCome 4 = .ok (.iload_n 1, 1) := by decide +kernel
theorem dX8_toCome_5 : decode cX8_toCome 5 = .ok (.sipush 601, 3) := by decide +kernel
theorem dX8_toCome_8 : decode cX8_toCome 8 = .ok (.if_icmp .ge 12, 3) := by decide +kernel
theorem dX8_toCome_11 : decode cX8_toCome 11 = .ok (.aload_n 0, 1) := by decide +kernel
theorem dX8_toCome_12 : decode cX8_toCome 12 = .ok (.iload_n 1, 1) := by decide +kernel
theorem dX8_toCome_13 : decode cX8_toCome 13 = .ok (.iload_n 2, 1) := by decide +kernel
theorem dX8_toCome_14 : decode cX8_toCome 14 = .ok (.invokevirtual 30, 3) := by decide +kernel
theorem dX8_toCome_17 : decode cX8_toCome 17 = .ok (.ifCond .ne 5, 3) := by decide +kernel
theorem dX8_toCome_20 : decode cX8_toCome 20 = .ok (.iconst 0, 1) := by decide +kernel
theorem dX8_toCome_21 : decode cX8_toCome 21 = .ok (.ireturn, 1) := by decide +kernel
theorem dX8_toCome_22 : decode cX8_toCome 22 = .ok (.aload_n 0, 1) := by decide +kernel
theorem dX8_toCome_23 : decode cX8_toCome 23 = .ok (.getfield 27, 3) := by decide +kernel
theorem dX8_toCome_26 : decode cX8_toCome 26 = .ok (.aload_n 0, 1) := by decide +kernel
theorem dX8_toCome_27 : decode cX8_toCome 27 = .ok (.getfield 9, 3) := by decide +kernel
theorem dX8_toCome_30 : decode cX8_toCome 30 = .ok (.iload_n 1, 1) := by decide +kernel
theorem dX8_toCome_31 : decode cX8_toCome 31 = .ok (.iaload, 1) := by decide +kernel
theorem dX8_toCome_32 : decode cX8_toCome 32 = .ok (.isub, 1) := by decide +kernel
theorem dX8_toCome_33 : decode cX8_toCome 33 = .ok (.ireturn, 1) := by decide +kernel
def F_X8_toCome (G : Nat → Nat) (h : xH) (a0 : Nat) (x1 : Int32) (x2 : Int32) : Option Int32 :=
  if x1 < 0 then
    some 0
  else
  if 601 ≤ x1 then
    some 0
  else
  (xc h (some a0) 8).bind fun b4 =>
  (F_X8_isOpen G h b4 x1 x2).bind fun v3 =>
  if v3 = 0 then
    some 0
  else
  (gI h (some a0) 8 2).bind fun v6 =>
  (gR h (some a0) 8 3).bind fun w7 =>
  (ldI 2 G h w7 x1).bind fun v8 =>
  some (v6 - v8)
set_option maxHeartbeats 4000000 in
set_option maxRecDepth 100000 in
theorem t_X8_toCome (l : Launch) (D : va_G) (G : Nat → Nat) (h : xH) (a0 : Nat) (x1 : Int32) (x2 : Int32) (r : Int32) (hF : F_X8_toCome G h a0 x1 x2 = some r) : xC l yX8_toCome cX8_toCome 3 (some .int) (rm_X8_toCome) D G h [.ref a0, .int x1, .int x2] (some (.int r)) h := by
  refine xC_of (by decide) (by first | decide | exact Nat.le_of_ble_eq_true rfl) ?_
  intro p e s m args below meth c ls hx hb hr hlk hml hown hnm hts hR hS hl
  have hl : lv_has ls 3 [(0, va_rf (some a0)), (1, .int x1), (2, .int x2)] := hl
  unfold F_X8_toCome at hF
  refine lv_iload_n hx hb dX8_toCome_0 rfl (lv_at hl 1 rfl) ?_
  refine lv_if_lt (tgt := 20) hx hb dX8_toCome_1 (by decide) (fun c1 => ?_) (fun c1 => ?_)
  · replace hF := xift c1 hF
    refine lv_iconst (v := 0) hx hb dX8_toCome_20 (by decide) ?_
    cases hF
    exact x_iret hx hb hr rfl hlk hR hS (by decide) (by decide) dX8_toCome_21
  · replace hF := xiff c1 hF
    refine lv_iload_n hx hb dX8_toCome_4 rfl (lv_at hl 1 rfl) ?_
    refine lv_sipush (v := 601) hx hb dX8_toCome_5 (by decide) ?_
    refine lv_icmp_ge (tgt := 20) hx hb dX8_toCome_8 (by decide) (fun c2 => ?_) (fun c2 => ?_)
    · replace hF := xift c2 hF
      refine lv_iconst (v := 0) hx hb dX8_toCome_20 (by decide) ?_
      cases hF
      exact x_iret hx hb hr rfl hlk hR hS (by decide) (by decide) dX8_toCome_21
    · replace hF := xiff c2 hF
      refine x_aload_n (o := (some a0)) hx hb dX8_toCome_11 rfl (lv_at hl 0 rfl) ?_
      refine lv_iload_n hx hb dX8_toCome_12 rfl (lv_at hl 1 rfl) ?_
      refine lv_iload_n hx hb dX8_toCome_13 rfl (lv_at hl 2 rfl) ?_
      replace hF := xbind hF; obtain ⟨b4, eb4, hF⟩ := hF
      replace hF := xbind hF; obtain ⟨v3, ev3, hF⟩ := hF
      refine x_callV (o := (some a0)) (ci := 8) (As := [.int x1, .int x2]) (rest := []) (v := (some (.int v3))) (k := 2) hx hb hml hown hts hR hS eb4 rfl rfl (t_X8_isOpen l D G h b4 x1 x2 v3 ev3) f_X8_isOpen mm_386 mm_388 mm_5 rfl hl.1 rfl (by first | exact Nat.le_of_ble_eq_true rfl | simp [xrf_cat, xcI, xcJ, xcA]) dX8_toCome_14 (by decide) (by decide) rfl (fun H locs hR hS => ?_)
      refine lv_if_ne (tgt := 22) hx hb dX8_toCome_17 (by decide) (fun c5 => ?_) (fun c5 => ?_)
      · replace hF := xiff c5 hF
        refine x_aload_n (o := (some a0)) hx hb dX8_toCome_22 rfl (lv_at hl 0 rfl) ?_
        replace hF := xbind hF; obtain ⟨v6, ev6, hF⟩ := hF
        refine x_getI (o := (some a0)) (ci := 8) (C := RX8) (T := TX8) (N := 5) hx hb hts iw_X8 hown hR rfl 2 (by decide) mm_359 (Or.inl rfl) ev6 dX8_toCome_23 ?_
        refine x_aload_n (o := (some a0)) hx hb dX8_toCome_26 rfl (lv_at hl 0 rfl) ?_
        replace hF := xbind hF; obtain ⟨w7, ew7, hF⟩ := hF
        refine x_getR (o := (some a0)) (ci := 8) (C := RX8) (T := TX8) (N := 5) hx hb hts iw_X8 hown hR rfl 3 (by decide) mm_360 (Or.inl rfl) ew7 dX8_toCome_27 ?_
        refine lv_iload_n hx hb dX8_toCome_30 rfl (lv_at hl 1 rfl) ?_
        replace hF := xbind hF; obtain ⟨v8, ev8, hF⟩ := hF
        refine x_ild (o := w7) hx hb hR ev8 dX8_toCome_31 ?_
        refine lv_isub hx hb dX8_toCome_32 ?_
        cases hF
        exact x_iret hx hb hr rfl hlk hR hS (by decide) (by decide) dX8_toCome_33
      · replace hF := xift c5 hF
        refine lv_iconst (v := 0) hx hb dX8_toCome_20 (by decide) ?_
        cases hF
        exact x_iret hx hb hr rfl hlk hR hS (by decide) (by decide) dX8_toCome_21
def rm_X8_refusal : Room := { frames := 1, cells := 0, slots := 0, locals := 22 }
theorem f_X8_refusal : xM yX8_refusal cX8_refusal 5 (some .int) 4 := ⟨mm_385, mm_70, by decide +kernel, by decide +kernel⟩
theorem dX8_refusal_0 : decode cX8_refusal 0 = .ok (.iload_n 1, 1) := by decide +kernel
theorem dX8_refusal_1 : decode cX8_refusal 1 = .ok (.ifCond .lt 21, 3) := by decide +kernel
theorem dX8_refusal_4 : decode cX8_refusal 4 = .ok (.iload_n 1, 1) := by decide +kernel
theorem dX8_refusal_5 : decode cX8_refusal 5 = .ok (.sipush 200, 3) := by decide +kernel
theorem dX8_refusal_8 : decode cX8_refusal 8 = .ok (.if_icmp .ge 14, 3) := by decide +kernel
theorem dX8_refusal_11 : decode cX8_refusal 11 = .ok (.aload_n 0, 1) := by decide +kernel
theorem dX8_refusal_12 : decode cX8_refusal 12 = .ok (.getfield 15, 3) := by decide +kernel
theorem dX8_refusal_15 : decode cX8_refusal 15 = .ok (.iload_n 1, 1) := by decide +kernel
theorem dX8_refusal_16 : decode cX8_refusal 16 = .ok (.baload, 1) := by decide +kernel
theorem dX8_refusal_17 : decode cX8_refusal 17 = .ok (.ifCond .eq 5, 3) := by decide +kernel
theorem dX8_refusal_20 : decode cX8_refusal 20 = .ok (.iconst 2, 1) := by decide +kernel
theorem dX8_refusal_21 : decode cX8_refusal 21 = .ok (.ireturn, 1) := by decide +kernel
theorem dX8_refusal_22 : decode cX8_refusal 22 = .ok (.iload_n 2, 1) := by decide +kernel
theorem dX8_refusal_23 : decode cX8_refusal 23 = .ok (.ifCond .lt 16, 3) := by decide +kernel
theorem dX8_refusal_26 : decode cX8_refusal 26 = .ok (.iload_n 2, 1) := by decide +kernel
theorem dX8_refusal_27 : decode cX8_refusal 27 = .ok (.iload 4, 2) := by decide +kernel
theorem dX8_refusal_29 : decode cX8_refusal 29 = .ok (.if_icmp .gt 10, 3) := by decide +kernel
theorem dX8_refusal_32 : decode cX8_refusal 32 = .ok (.iload_n 2, 1) := by decide +kernel
theorem dX8_refusal_33 : decode cX8_refusal 33 = .ok (.sipush 601, 3) := by decide +kernel
theorem dX8_refusal_36 : decode cX8_refusal 36 = .ok (.if_icmp .lt 5, 3) := by decide +kernel
theorem dX8_refusal_39 : decode cX8_refusal 39 = .ok (.iconst 3, 1) := by decide +kernel
theorem dX8_refusal_40 : decode cX8_refusal 40 = .ok (.ireturn, 1) := by decide +kernel
theorem dX8_refusal_41 : decode cX8_refusal 41 = .ok (.aload_n 0, 1) := by decide +kernel
theorem dX8_refusal_42 : decode cX8_refusal 42 = .ok (.iload_n 2, 1) := by decide +kernel
theorem dX8_refusal_43 : decode cX8_refusal 43 = .ok (.iload 4, 2) := by decide +kernel
theorem dX8_refusal_45 : decode cX8_refusal 45 = .ok (.invokevirtual 30, 3) := by decide +kernel
theorem dX8_refusal_48 : decode cX8_refusal 48 = .ok (.ifCond .ne 5, 3) := by decide +kernel
theorem dX8_refusal_51 : decode cX8_refusal 51 = .ok (.iconst 4, 1) := by decide +kernel
theorem dX8_refusal_52 : decode cX8_refusal 52 = .ok (.ireturn, 1) := by decide +kernel
theorem dX8_refusal_53 : decode cX8_refusal 53 = .ok (.aload_n 0, 1) := by decide +kernel
theorem dX8_refusal_54 : decode cX8_refusal 54 = .ok (.getfield 9, 3) := by decide +kernel
theorem dX8_refusal_57 : decode cX8_refusal 57 = .ok (.iload_n 2, 1) := by decide +kernel
theorem dX8_refusal_58 : decode cX8_refusal 58 = .ok (.iaload, 1) := by decide +kernel
theorem dX8_refusal_59 : decode cX8_refusal 59 = .ok (.iload_n 3, 1) := by decide +kernel
theorem dX8_refusal_60 : decode cX8_refusal 60 = .ok (.iadd, 1) := by decide +kernel
theorem dX8_refusal_61 : decode cX8_refusal 61 = .ok (.aload_n 0, 1) := by decide +kernel
theorem dX8_refusal_62 : decode cX8_refusal 62 = .ok (.getfield 27, 3) := by decide +kernel
theorem dX8_refusal_65 : decode cX8_refusal 65 = .ok (.if_icmp .le 7, 3) := by decide +kernel
theorem dX8_refusal_68 : decode cX8_refusal 68 = .ok (.iconst 5, 1) := by decide +kernel
theorem dX8_refusal_69 : decode cX8_refusal 69 = .ok (.goto 4, 3) := by decide +kernel
theorem dX8_refusal_72 : decode cX8_refusal 72 = .ok (.iconst 0, 1) := by decide +kernel
theorem dX8_refusal_73 : decode cX8_refusal 73 = .ok (.ireturn, 1) := by decide +kernel
def F_X8_refusal (G : Nat → Nat) (h : xH) (a0 : Nat) (x1 : Int32) (x2 : Int32) (x3 : Int32) (x4 : Int32) : Option Int32 :=
  if x1 < 0 then
    if x2 < 0 then
      some 3
    else
    if x4 < x2 then
      some 3
    else
    if x2 < 601 then
      (xc h (some a0) 8).bind fun b6 =>
      (F_X8_isOpen G h b6 x2 x4).bind fun v5 =>
      if v5 = 0 then
        some 4
      else
      (gR h (some a0) 8 3).bind fun w8 =>
      (ldI 2 G h w8 x2).bind fun v9 =>
      (gI h (some a0) 8 2).bind fun v10 =>
      if (v9 + x3) ≤ v10 then
        some 0
      else
      some 5
    else
    some 3
  else
  if 200 ≤ x1 then
    if x2 < 0 then
      some 3
    else
    if x4 < x2 then
      some 3
    else
    if x2 < 601 then
      (xc h (some a0) 8).bind fun b17 =>
      (F_X8_isOpen G h b17 x2 x4).bind fun v16 =>
      if v16 = 0 then
        some 4
      else
      (gR h (some a0) 8 3).bind fun w19 =>
      (ldI 2 G h w19 x2).bind fun v20 =>
      (gI h (some a0) 8 2).bind fun v21 =>
      if (v20 + x3) ≤ v21 then
        some 0
      else
      some 5
    else
    some 3
  else
  (gR h (some a0) 8 4).bind fun w23 =>
  (ldI 3 G h w23 x1).bind fun v24 =>
  if v24 = 0 then
    if x2 < 0 then
      some 3
    else
    if x4 < x2 then
      some 3
    else
    if x2 < 601 then
      (xc h (some a0) 8).bind fun b30 =>
      (F_X8_isOpen G h b30 x2 x4).bind fun v29 =>
      if v29 = 0 then
        some 4
      else
      (gR h (some a0) 8 3).bind fun w32 =>
      (ldI 2 G h w32 x2).bind fun v33 =>
      (gI h (some a0) 8 2).bind fun v34 =>
      if (v33 + x3) ≤ v34 then
        some 0
      else
      some 5
    else
    some 3
  else
  some 2
set_option maxHeartbeats 4000000 in
set_option maxRecDepth 100000 in
theorem t_X8_refusal (l : Launch) (D : va_G) (G : Nat → Nat) (h : xH) (a0 : Nat) (x1 : Int32) (x2 : Int32) (x3 : Int32) (x4 : Int32) (r : Int32) (hF : F_X8_refusal G h a0 x1 x2 x3 x4 = some r) : xC l yX8_refusal cX8_refusal 5 (some .int) (rm_X8_refusal) D G h [.ref a0, .int x1, .int x2, .int x3, .int x4] (some (.int r)) h := by
  refine xC_of (by decide) (by first | decide | exact Nat.le_of_ble_eq_true rfl) ?_
  intro p e s m args below meth c ls hx hb hr hlk hml hown hnm hts hR hS hl
  have hl : lv_has ls 5 [(0, va_rf (some a0)), (1, .int x1), (2, .int x2), (3, .int x3), (4, .int x4)] := hl
  unfold F_X8_refusal at hF
  refine lv_iload_n hx hb dX8_refusal_0 rfl (lv_at hl 1 rfl) ?_
  refine lv_if_lt (tgt := 22) hx hb dX8_refusal_1 (by decide) (fun c1 => ?_) (fun c1 => ?_)
  · replace hF := xift c1 hF
    refine lv_iload_n hx hb dX8_refusal_22 rfl (lv_at hl 2 rfl) ?_
    refine lv_if_lt (tgt := 39) hx hb dX8_refusal_23 (by decide) (fun c2 => ?_) (fun c2 => ?_)
    · replace hF := xift c2 hF
      refine lv_iconst (v := 3) hx hb dX8_refusal_39 (by decide) ?_
      cases hF
      exact x_iret hx hb hr rfl hlk hR hS (by decide) (by decide) dX8_refusal_40
    · replace hF := xiff c2 hF
      refine lv_iload_n hx hb dX8_refusal_26 rfl (lv_at hl 2 rfl) ?_
      refine lv_iload hx hb dX8_refusal_27 (lv_at hl 4 rfl) ?_
      refine lv_icmp_gt (tgt := 39) hx hb dX8_refusal_29 (by decide) (fun c3 => ?_) (fun c3 => ?_)
      · replace hF := xift c3 hF
        refine lv_iconst (v := 3) hx hb dX8_refusal_39 (by decide) ?_
        cases hF
        exact x_iret hx hb hr rfl hlk hR hS (by decide) (by decide) dX8_refusal_40
      · replace hF := xiff c3 hF
        refine lv_iload_n hx hb dX8_refusal_32 rfl (lv_at hl 2 rfl) ?_
        refine lv_sipush (v := 601) hx hb dX8_refusal_33 (by decide) ?_
        refine lv_icmp_lt (tgt := 41) hx hb dX8_refusal_36 (by decide) (fun c4 => ?_) (fun c4 => ?_)
        · replace hF := xift c4 hF
          refine x_aload_n (o := (some a0)) hx hb dX8_refusal_41 rfl (lv_at hl 0 rfl) ?_
          refine lv_iload_n hx hb dX8_refusal_42 rfl (lv_at hl 2 rfl) ?_
          refine lv_iload hx hb dX8_refusal_43 (lv_at hl 4 rfl) ?_
          replace hF := xbind hF; obtain ⟨b6, eb6, hF⟩ := hF
          replace hF := xbind hF; obtain ⟨v5, ev5, hF⟩ := hF
          refine x_callV (o := (some a0)) (ci := 8) (As := [.int x2, .int x4]) (rest := []) (v := (some (.int v5))) (k := 2) hx hb hml hown hts hR hS eb6 rfl rfl (t_X8_isOpen l D G h b6 x2 x4 v5 ev5) f_X8_isOpen mm_386 mm_388 mm_5 rfl hl.1 rfl (by first | exact Nat.le_of_ble_eq_true rfl | simp [xrf_cat, xcI, xcJ, xcA]) dX8_refusal_45 (by decide) (by decide) rfl (fun H locs hR hS => ?_)
          refine lv_if_ne (tgt := 53) hx hb dX8_refusal_48 (by decide) (fun c7 => ?_) (fun c7 => ?_)
          · replace hF := xiff c7 hF
            refine x_aload_n (o := (some a0)) hx hb dX8_refusal_53 rfl (lv_at hl 0 rfl) ?_
            replace hF := xbind hF; obtain ⟨w8, ew8, hF⟩ := hF
            refine x_getR (o := (some a0)) (ci := 8) (C := RX8) (T := TX8) (N := 5) hx hb hts iw_X8 hown hR rfl 3 (by decide) mm_360 (Or.inl rfl) ew8 dX8_refusal_54 ?_
            refine lv_iload_n hx hb dX8_refusal_57 rfl (lv_at hl 2 rfl) ?_
            replace hF := xbind hF; obtain ⟨v9, ev9, hF⟩ := hF
            refine x_ild (o := w8) hx hb hR ev9 dX8_refusal_58 ?_
            refine lv_iload_n hx hb dX8_refusal_59 rfl (lv_at hl 3 rfl) ?_
            refine lv_iadd hx hb dX8_refusal_60 ?_
            refine x_aload_n (o := (some a0)) hx hb dX8_refusal_61 rfl (lv_at hl 0 rfl) ?_
            replace hF := xbind hF; obtain ⟨v10, ev10, hF⟩ := hF
            refine x_getI (o := (some a0)) (ci := 8) (C := RX8) (T := TX8) (N := 5) hx hb hts iw_X8 hown hR rfl 2 (by decide) mm_359 (Or.inl rfl) ev10 dX8_refusal_62 ?_
            refine lv_icmp_le (tgt := 72) hx hb dX8_refusal_65 (by decide) (fun c11 => ?_) (fun c11 => ?_)
            · replace hF := xift c11 hF
              refine lv_iconst (v := 0) hx hb dX8_refusal_72 (by decide) ?_
              cases hF
              exact x_iret hx hb hr rfl hlk hR hS (by decide) (by decide) dX8_refusal_73
            · replace hF := xiff c11 hF
              refine lv_iconst (v := 5) hx hb dX8_refusal_68 (by decide) ?_
              refine lv_goto (tgt := 73) hx hb dX8_refusal_69 (by decide) ?_
              cases hF
              exact x_iret hx hb hr rfl hlk hR hS (by decide) (by decide) dX8_refusal_73
          · replace hF := xift c7 hF
            refine lv_iconst (v := 4) hx hb dX8_refusal_51 (by decide) ?_
            cases hF
            exact x_iret hx hb hr rfl hlk hR hS (by decide) (by decide) dX8_refusal_52
        · replace hF := xiff c4 hF
          refine lv_iconst (v := 3) hx hb dX8_refusal_39 (by decide) ?_
          cases hF
          exact x_iret hx hb hr rfl hlk hR hS (by decide) (by decide) dX8_refusal_40
  · replace hF := xiff c1 hF
    refine lv_iload_n hx hb dX8_refusal_4 rfl (lv_at hl 1 rfl) ?_
    refine lv_sipush (v := 200) hx hb dX8_refusal_5 (by decide) ?_
    refine lv_icmp_ge (tgt := 22) hx hb dX8_refusal_8 (by decide) (fun c12 => ?_) (fun c12 => ?_)
    · replace hF := xift c12 hF
      refine lv_iload_n hx hb dX8_refusal_22 rfl (lv_at hl 2 rfl) ?_
      refine lv_if_lt (tgt := 39) hx hb dX8_refusal_23 (by decide) (fun c13 => ?_) (fun c13 => ?_)
      · replace hF := xift c13 hF
        refine lv_iconst (v := 3) hx hb dX8_refusal_39 (by decide) ?_
        cases hF
        exact x_iret hx hb hr rfl hlk hR hS (by decide) (by decide) dX8_refusal_40
      · replace hF := xiff c13 hF
        refine lv_iload_n hx hb dX8_refusal_26 rfl (lv_at hl 2 rfl) ?_
        refine lv_iload hx hb dX8_refusal_27 (lv_at hl 4 rfl) ?_
        refine lv_icmp_gt (tgt := 39) hx hb dX8_refusal_29 (by decide) (fun c14 => ?_) (fun c14 => ?_)
        · replace hF := xift c14 hF
          refine lv_iconst (v := 3) hx hb dX8_refusal_39 (by decide) ?_
          cases hF
          exact x_iret hx hb hr rfl hlk hR hS (by decide) (by decide) dX8_refusal_40
        · replace hF := xiff c14 hF
          refine lv_iload_n hx hb dX8_refusal_32 rfl (lv_at hl 2 rfl) ?_
          refine lv_sipush (v := 601) hx hb dX8_refusal_33 (by decide) ?_
          refine lv_icmp_lt (tgt := 41) hx hb dX8_refusal_36 (by decide) (fun c15 => ?_) (fun c15 => ?_)
          · replace hF := xift c15 hF
            refine x_aload_n (o := (some a0)) hx hb dX8_refusal_41 rfl (lv_at hl 0 rfl) ?_
            refine lv_iload_n hx hb dX8_refusal_42 rfl (lv_at hl 2 rfl) ?_
            refine lv_iload hx hb dX8_refusal_43 (lv_at hl 4 rfl) ?_
            replace hF := xbind hF; obtain ⟨b17, eb17, hF⟩ := hF
            replace hF := xbind hF; obtain ⟨v16, ev16, hF⟩ := hF
            refine x_callV (o := (some a0)) (ci := 8) (As := [.int x2, .int x4]) (rest := []) (v := (some (.int v16))) (k := 2) hx hb hml hown hts hR hS eb17 rfl rfl (t_X8_isOpen l D G h b17 x2 x4 v16 ev16) f_X8_isOpen mm_386 mm_388 mm_5 rfl hl.1 rfl (by first | exact Nat.le_of_ble_eq_true rfl | simp [xrf_cat, xcI, xcJ, xcA]) dX8_refusal_45 (by decide) (by decide) rfl (fun H locs hR hS => ?_)
            refine lv_if_ne (tgt := 53) hx hb dX8_refusal_48 (by decide) (fun c18 => ?_) (fun c18 => ?_)
            · replace hF := xiff c18 hF
              refine x_aload_n (o := (some a0)) hx hb dX8_refusal_53 rfl (lv_at hl 0 rfl) ?_
              replace hF := xbind hF; obtain ⟨w19, ew19, hF⟩ := hF
              refine x_getR (o := (some a0)) (ci := 8) (C := RX8) (T := TX8) (N := 5) hx hb hts iw_X8 hown hR rfl 3 (by decide) mm_360 (Or.inl rfl) ew19 dX8_refusal_54 ?_
              refine lv_iload_n hx hb dX8_refusal_57 rfl (lv_at hl 2 rfl) ?_
              replace hF := xbind hF; obtain ⟨v20, ev20, hF⟩ := hF
              refine x_ild (o := w19) hx hb hR ev20 dX8_refusal_58 ?_
              refine lv_iload_n hx hb dX8_refusal_59 rfl (lv_at hl 3 rfl) ?_
              refine lv_iadd hx hb dX8_refusal_60 ?_
              refine x_aload_n (o := (some a0)) hx hb dX8_refusal_61 rfl (lv_at hl 0 rfl) ?_
              replace hF := xbind hF; obtain ⟨v21, ev21, hF⟩ := hF
              refine x_getI (o := (some a0)) (ci := 8) (C := RX8) (T := TX8) (N := 5) hx hb hts iw_X8 hown hR rfl 2 (by decide) mm_359 (Or.inl rfl) ev21 dX8_refusal_62 ?_
              refine lv_icmp_le (tgt := 72) hx hb dX8_refusal_65 (by decide) (fun c22 => ?_) (fun c22 => ?_)
              · replace hF := xift c22 hF
                refine lv_iconst (v := 0) hx hb dX8_refusal_72 (by decide) ?_
                cases hF
                exact x_iret hx hb hr rfl hlk hR hS (by decide) (by decide) dX8_refusal_73
              · replace hF := xiff c22 hF
                refine lv_iconst (v := 5) hx hb dX8_refusal_68 (by decide) ?_
                refine lv_goto (tgt := 73) hx hb dX8_refusal_69 (by decide) ?_
                cases hF
                exact x_iret hx hb hr rfl hlk hR hS (by decide) (by decide) dX8_refusal_73
            · replace hF := xift c18 hF
              refine lv_iconst (v := 4) hx hb dX8_refusal_51 (by decide) ?_
              cases hF
              exact x_iret hx hb hr rfl hlk hR hS (by decide) (by decide) dX8_refusal_52
          · replace hF := xiff c15 hF
            refine lv_iconst (v := 3) hx hb dX8_refusal_39 (by decide) ?_
            cases hF
            exact x_iret hx hb hr rfl hlk hR hS (by decide) (by decide) dX8_refusal_40
    · replace hF := xiff c12 hF
      refine x_aload_n (o := (some a0)) hx hb dX8_refusal_11 rfl (lv_at hl 0 rfl) ?_
      replace hF := xbind hF; obtain ⟨w23, ew23, hF⟩ := hF
      refine x_getR (o := (some a0)) (ci := 8) (C := RX8) (T := TX8) (N := 5) hx hb hts iw_X8 hown hR rfl 4 (by decide) mm_361 (Or.inl rfl) ew23 dX8_refusal_12 ?_
      refine lv_iload_n hx hb dX8_refusal_15 rfl (lv_at hl 1 rfl) ?_
      replace hF := xbind hF; obtain ⟨v24, ev24, hF⟩ := hF
      refine x_zld (o := w23) hx hb hR ev24 dX8_refusal_16 ?_
      refine lv_if_eq (tgt := 22) hx hb dX8_refusal_17 (by decide) (fun c25 => ?_) (fun c25 => ?_)
      · replace hF := xift c25 hF
        refine lv_iload_n hx hb dX8_refusal_22 rfl (lv_at hl 2 rfl) ?_
        refine lv_if_lt (tgt := 39) hx hb dX8_refusal_23 (by decide) (fun c26 => ?_) (fun c26 => ?_)
        · replace hF := xift c26 hF
          refine lv_iconst (v := 3) hx hb dX8_refusal_39 (by decide) ?_
          cases hF
          exact x_iret hx hb hr rfl hlk hR hS (by decide) (by decide) dX8_refusal_40
        · replace hF := xiff c26 hF
          refine lv_iload_n hx hb dX8_refusal_26 rfl (lv_at hl 2 rfl) ?_
          refine lv_iload hx hb dX8_refusal_27 (lv_at hl 4 rfl) ?_
          refine lv_icmp_gt (tgt := 39) hx hb dX8_refusal_29 (by decide) (fun c27 => ?_) (fun c27 => ?_)
          · replace hF := xift c27 hF
            refine lv_iconst (v := 3) hx hb dX8_refusal_39 (by decide) ?_
            cases hF
            exact x_iret hx hb hr rfl hlk hR hS (by decide) (by decide) dX8_refusal_40
          · replace hF := xiff c27 hF
            refine lv_iload_n hx hb dX8_refusal_32 rfl (lv_at hl 2 rfl) ?_
            refine lv_sipush (v := 601) hx hb dX8_refusal_33 (by decide) ?_
            refine lv_icmp_lt (tgt := 41) hx hb dX8_refusal_36 (by decide) (fun c28 => ?_) (fun c28 => ?_)
            · replace hF := xift c28 hF
              refine x_aload_n (o := (some a0)) hx hb dX8_refusal_41 rfl (lv_at hl 0 rfl) ?_
              refine lv_iload_n hx hb dX8_refusal_42 rfl (lv_at hl 2 rfl) ?_
              refine lv_iload hx hb dX8_refusal_43 (lv_at hl 4 rfl) ?_
              replace hF := xbind hF; obtain ⟨b30, eb30, hF⟩ := hF
              replace hF := xbind hF; obtain ⟨v29, ev29, hF⟩ := hF
              refine x_callV (o := (some a0)) (ci := 8) (As := [.int x2, .int x4]) (rest := []) (v := (some (.int v29))) (k := 2) hx hb hml hown hts hR hS eb30 rfl rfl (t_X8_isOpen l D G h b30 x2 x4 v29 ev29) f_X8_isOpen mm_386 mm_388 mm_5 rfl hl.1 rfl (by first | exact Nat.le_of_ble_eq_true rfl | simp [xrf_cat, xcI, xcJ, xcA]) dX8_refusal_45 (by decide) (by decide) rfl (fun H locs hR hS => ?_)
              refine lv_if_ne (tgt := 53) hx hb dX8_refusal_48 (by decide) (fun c31 => ?_) (fun c31 => ?_)
              · replace hF := xiff c31 hF
                refine x_aload_n (o := (some a0)) hx hb dX8_refusal_53 rfl (lv_at hl 0 rfl) ?_
                replace hF := xbind hF; obtain ⟨w32, ew32, hF⟩ := hF
                refine x_getR (o := (some a0)) (ci := 8) (C := RX8) (T := TX8) (N := 5) hx hb hts iw_X8 hown hR rfl 3 (by decide) mm_360 (Or.inl rfl) ew32 dX8_refusal_54 ?_
                refine lv_iload_n hx hb dX8_refusal_57 rfl (lv_at hl 2 rfl) ?_
                replace hF := xbind hF; obtain ⟨v33, ev33, hF⟩ := hF
                refine x_ild (o := w32) hx hb hR ev33 dX8_refusal_58 ?_
                refine lv_iload_n hx hb dX8_refusal_59 rfl (lv_at hl 3 rfl) ?_
                refine lv_iadd hx hb dX8_refusal_60 ?_
                refine x_aload_n (o := (some a0)) hx hb dX8_refusal_61 rfl (lv_at hl 0 rfl) ?_
                replace hF := xbind hF; obtain ⟨v34, ev34, hF⟩ := hF
                refine x_getI (o := (some a0)) (ci := 8) (C := RX8) (T := TX8) (N := 5) hx hb hts iw_X8 hown hR rfl 2 (by decide) mm_359 (Or.inl rfl) ev34 dX8_refusal_62 ?_
                refine lv_icmp_le (tgt := 72) hx hb dX8_refusal_65 (by decide) (fun c35 => ?_) (fun c35 => ?_)
                · replace hF := xift c35 hF
                  refine lv_iconst (v := 0) hx hb dX8_refusal_72 (by decide) ?_
                  cases hF
                  exact x_iret hx hb hr rfl hlk hR hS (by decide) (by decide) dX8_refusal_73
                · replace hF := xiff c35 hF
                  refine lv_iconst (v := 5) hx hb dX8_refusal_68 (by decide) ?_
                  refine lv_goto (tgt := 73) hx hb dX8_refusal_69 (by decide) ?_
                  cases hF
                  exact x_iret hx hb hr rfl hlk hR hS (by decide) (by decide) dX8_refusal_73
              · replace hF := xift c31 hF
                refine lv_iconst (v := 4) hx hb dX8_refusal_51 (by decide) ?_
                cases hF
                exact x_iret hx hb hr rfl hlk hR hS (by decide) (by decide) dX8_refusal_52
            · replace hF := xiff c28 hF
              refine lv_iconst (v := 3) hx hb dX8_refusal_39 (by decide) ?_
              cases hF
              exact x_iret hx hb hr rfl hlk hR hS (by decide) (by decide) dX8_refusal_40
      · replace hF := xiff c25 hF
        refine lv_iconst (v := 2) hx hb dX8_refusal_20 (by decide) ?_
        cases hF
        exact x_iret hx hb hr rfl hlk hR hS (by decide) (by decide) dX8_refusal_21
def rm_X8_init : Room := { frames := 1, cells := 2, slots := 801, locals := 20 }
theorem f_X8_init : xM yX8_init cX8_init 4 none 3 := ⟨mm_354, mm_70, by decide +kernel, by decide +kernel⟩
theorem dX8_init_0 : decode cX8_init 0 = .ok (.aload_n 0, 1) := by decide +kernel
theorem dX8_init_1 : decode cX8_init 1 = .ok (.invokespecial 3, 3) := by decide +kernel
theorem dX8_init_4 : decode cX8_init 4 = .ok (.aload_n 0, 1) := by decide +kernel
theorem dX8_init_5 : decode cX8_init 5 = .ok (.sipush 601, 3) := by decide +kernel
theorem dX8_init_8 : decode cX8_init 8 = .ok (.newarray .int, 2) := by decide +kernel
theorem dX8_init_10 : decode cX8_init 10 = .ok (.putfield 9, 3) := by decide +kernel
theorem dX8_init_13 : decode cX8_init 13 = .ok (.aload_n 0, 1) := by decide +kernel
theorem dX8_init_14 : decode cX8_init 14 = .ok (.sipush 200, 3) := by decide +kernel
theorem dX8_init_17 : decode cX8_init 17 = .ok (.newarray .boolean, 2) := by decide +kernel
theorem dX8_init_19 : decode cX8_init 19 = .ok (.putfield 15, 3) := by decide +kernel
theorem dX8_init_22 : decode cX8_init 22 = .ok (.aload_n 0, 1) := by decide +kernel
theorem dX8_init_23 : decode cX8_init 23 = .ok (.aload_n 1, 1) := by decide +kernel
theorem dX8_init_24 : decode cX8_init 24 = .ok (.putfield 19, 3) := by decide +kernel
theorem dX8_init_27 : decode cX8_init 27 = .ok (.aload_n 0, 1) := by decide +kernel
theorem dX8_init_28 : decode cX8_init 28 = .ok (.iload_n 2, 1) := by decide +kernel
theorem dX8_init_29 : decode cX8_init 29 = .ok (.putfield 23, 3) := by decide +kernel
theorem dX8_init_32 : decode cX8_init 32 = .ok (.aload_n 0, 1) := by decide +kernel
theorem dX8_init_33 : decode cX8_init 33 = .ok (.iload_n 3, 1) := by decide +kernel
theorem dX8_init_34 : decode cX8_init 34 = .ok (.putfield 27, 3) := by decide +kernel
theorem dX8_init_37 : decode cX8_init 37 = .ok (.return_, 1) := by decide +kernel
def F_X8_init (G : Nat → Nat) (h : xH) (a0 : Nat) (a1 : Nat) (x2 : Int32) (x3 : Int32) : Option xH :=
  (nAI G h 601).bind fun (q1, h2) =>
  (xp G h2 (some a0) 8 3 (va_rf (some q1))).bind fun h3 =>
  (nAZ G h3 200).bind fun (q4, h5) =>
  (xp G h5 (some a0) 8 4 (va_rf (some q4))).bind fun h6 =>
  (xp G h6 (some a0) 8 1 (va_rf (some a1))).bind fun h7 =>
  (xp G h7 (some a0) 8 0 (.int x2)).bind fun h8 =>
  (xp G h8 (some a0) 8 2 (.int x3)).bind fun h9 =>
  some h9
set_option maxHeartbeats 4000000 in
set_option maxRecDepth 100000 in
theorem t_X8_init (l : Launch) (D : va_G) (G : Nat → Nat) (h : xH) (a0 : Nat) (a1 : Nat) (x2 : Int32) (x3 : Int32) (h' : xH) (hF : F_X8_init G h a0 a1 x2 x3 = some h') : xC l yX8_init cX8_init 4 none (rm_X8_init) D G h [.ref a0, .ref a1, .int x2, .int x3] none h' := by
  refine xC_of (by decide) (by first | decide | exact Nat.le_of_ble_eq_true rfl) ?_
  intro p e s m args below meth c ls hx hb hr hlk hml hown hnm hts hR hS hl
  have hl : lv_has ls 4 [(0, va_rf (some a0)), (1, va_rf (some a1)), (2, .int x2), (3, .int x3)] := hl
  unfold F_X8_init at hF
  refine x_aload_n (o := (some a0)) hx hb dX8_init_0 rfl (lv_at hl 0 rfl) ?_
  refine x_oinit (o := (some a0)) hx hb hown (hml.trans hl.1.symm) hts mm_355 mm_86 mm_87 rfl dX8_init_1 (by decide) (by decide) (by decide) ?_
  refine x_aload_n (o := (some a0)) hx hb dX8_init_4 rfl (lv_at hl 0 rfl) ?_
  refine lv_sipush (v := 601) hx hb dX8_init_5 (by decide) ?_
  replace hF := xbind hF; obtain ⟨⟨q1, h2⟩, eq1, hF⟩ := hF
  refine x_nAI hx hb hts mm_127 hR hS (by decide) (by decide) (by decide) (by decide) (by decide) eq1 dX8_init_8 (fun H hR hS => ?_)
  replace hF := xbind hF; obtain ⟨h3, eh3, hF⟩ := hF
  refine x_putF (o := (some a0)) (ci := 8) (C := RX8) (T := TX8) (N := 5) hx hb hts iw_X8 tyX8_ok nmX8 hown hR hS rfl 3 (by decide) mm_360 (Or.inl rfl) rfl hnm rfl xnarRA xfitRA eh3 dX8_init_10 (fun H locs hR hS => ?_)
  refine x_aload_n (o := (some a0)) hx hb dX8_init_13 rfl (lv_at hl 0 rfl) ?_
  refine lv_sipush (v := 200) hx hb dX8_init_14 (by decide) ?_
  replace hF := xbind hF; obtain ⟨⟨q4, h5⟩, eq4, hF⟩ := hF
  refine x_nAZ hx hb hts mm_373 hR hS (by decide) (by decide) (by decide) (by decide) (by decide) eq4 dX8_init_17 (fun H hR hS => ?_)
  replace hF := xbind hF; obtain ⟨h6, eh6, hF⟩ := hF
  refine x_putF (o := (some a0)) (ci := 8) (C := RX8) (T := TX8) (N := 5) hx hb hts iw_X8 tyX8_ok nmX8 hown hR hS rfl 4 (by decide) mm_361 (Or.inl rfl) rfl hnm rfl xnarRA xfitRA eh6 dX8_init_19 (fun H locs hR hS => ?_)
  refine x_aload_n (o := (some a0)) hx hb dX8_init_22 rfl (lv_at hl 0 rfl) ?_
  refine x_aload_n (o := (some a1)) hx hb dX8_init_23 rfl (lv_at hl 1 rfl) ?_
  replace hF := xbind hF; obtain ⟨h7, eh7, hF⟩ := hF
  refine x_putF (o := (some a0)) (ci := 8) (C := RX8) (T := TX8) (N := 5) hx hb hts iw_X8 tyX8_ok nmX8 hown hR hS rfl 1 (by decide) mm_358 (Or.inl rfl) rfl hnm rfl xnarR xfitR eh7 dX8_init_24 (fun H locs hR hS => ?_)
  refine x_aload_n (o := (some a0)) hx hb dX8_init_27 rfl (lv_at hl 0 rfl) ?_
  refine lv_iload_n hx hb dX8_init_28 rfl (lv_at hl 2 rfl) ?_
  replace hF := xbind hF; obtain ⟨h8, eh8, hF⟩ := hF
  refine x_putF (o := (some a0)) (ci := 8) (C := RX8) (T := TX8) (N := 5) hx hb hts iw_X8 tyX8_ok nmX8 hown hR hS rfl 0 (by decide) mm_356 (Or.inl rfl) rfl hnm rfl rfl rfl eh8 dX8_init_29 (fun H locs hR hS => ?_)
  refine x_aload_n (o := (some a0)) hx hb dX8_init_32 rfl (lv_at hl 0 rfl) ?_
  refine lv_iload_n hx hb dX8_init_33 rfl (lv_at hl 3 rfl) ?_
  replace hF := xbind hF; obtain ⟨h9, eh9, hF⟩ := hF
  refine x_putF (o := (some a0)) (ci := 8) (C := RX8) (T := TX8) (N := 5) hx hb hts iw_X8 tyX8_ok nmX8 hown hR hS rfl 2 (by decide) mm_359 (Or.inl rfl) rfl hnm rfl rfl rfl eh9 dX8_init_34 (fun H locs hR hS => ?_)
  cases hF
  exact x_vret hx hb hr hlk hR hS (by decide) (by decide) dX8_init_37
