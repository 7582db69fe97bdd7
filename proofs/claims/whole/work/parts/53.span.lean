def rm_X10_span : Room := { frames := 7, cells := 1, slots := 6, locals := 158 }
theorem f_X10_span : xM yX10_span cX10_span 5 (some .int) 3 := ⟨mm_842, mm_55, by decide +kernel, by decide +kernel⟩
theorem dX10_span_0 : decode cX10_span 0 = .ok (.aload_n 0, 1) := by decide +kernel
theorem dX10_span_1 : decode cX10_span 1 = .ok (.iload_n 1, 1) := by decide +kernel
theorem dX10_span_2 : decode cX10_span 2 = .ok (.invokevirtual 103, 3) := by decide +kernel
theorem dX10_span_5 : decode cX10_span 5 = .ok (.astore 4, 2) := by decide +kernel
theorem dX10_span_7 : decode cX10_span 7 = .ok (.aload 4, 2) := by decide +kernel
theorem dX10_span_9 : decode cX10_span 9 = .ok (.ifnull 24, 3) := by decide +kernel
theorem dX10_span_12 : decode cX10_span 12 = .ok (.iload_n 2, 1) := by decide +kernel
theorem dX10_span_13 : decode cX10_span 13 = .ok (.iconst 0, 1) := by decide +kernel
theorem dX10_span_14 : decode cX10_span 14 = .ok (.sipush 600, 3) := by decide +kernel
theorem dX10_span_17 : decode cX10_span 17 = .ok (.invokestatic 66, 3) := by decide +kernel
theorem dX10_span_20 : decode cX10_span 20 = .ok (.ifCond .eq 13, 3) := by decide +kernel
theorem dX10_span_23 : decode cX10_span 23 = .ok (.iload_n 3, 1) := by decide +kernel
theorem dX10_span_24 : decode cX10_span 24 = .ok (.iconst 0, 1) := by decide +kernel
theorem dX10_span_25 : decode cX10_span 25 = .ok (.bipush 7, 2) := by decide +kernel
theorem dX10_span_27 : decode cX10_span 27 = .ok (.invokestatic 66, 3) := by decide +kernel
theorem dX10_span_30 : decode cX10_span 30 = .ok (.ifCond .ne 11, 3) := by decide +kernel
theorem dX10_span_33 : decode cX10_span 33 = .ok (.new 122, 3) := by decide +kernel
theorem dX10_span_36 : decode cX10_span 36 = .ok (.dup, 1) := by decide +kernel
theorem dX10_span_37 : decode cX10_span 37 = .ok (.invokespecial 124, 3) := by decide +kernel
theorem dX10_span_40 : decode cX10_span 40 = .ok (.athrow, 1) := by decide +kernel
theorem dX10_span_41 : decode cX10_span 41 = .ok (.iload_n 3, 1) := by decide +kernel
theorem dX10_span_42 : decode cX10_span 42 = .ok (.tableswitch 111 0 6 #[42, 49, 60, 71, 86, 97, 104], 42) := by decide +kernel
theorem dX10_span_84 : decode cX10_span 84 = .ok (.aload 4, 2) := by decide +kernel
theorem dX10_span_86 : decode cX10_span 86 = .ok (.iload_n 2, 1) := by decide +kernel
theorem dX10_span_87 : decode cX10_span 87 = .ok (.invokevirtual 125, 3) := by decide +kernel
theorem dX10_span_90 : decode cX10_span 90 = .ok (.ireturn, 1) := by decide +kernel
theorem dX10_span_91 : decode cX10_span 91 = .ok (.aload 4, 2) := by decide +kernel
theorem dX10_span_93 : decode cX10_span 93 = .ok (.iload_n 2, 1) := by decide +kernel
theorem dX10_span_94 : decode cX10_span 94 = .ok (.aload_n 0, 1) := by decide +kernel
theorem dX10_span_95 : decode cX10_span 95 = .ok (.getfield 80, 3) := by decide +kernel
theorem dX10_span_98 : decode cX10_span 98 = .ok (.invokevirtual 129, 3) := by decide +kernel
theorem dX10_span_101 : decode cX10_span 101 = .ok (.ireturn, 1) := by decide +kernel
theorem dX10_span_102 : decode cX10_span 102 = .ok (.aload 4, 2) := by decide +kernel
theorem dX10_span_104 : decode cX10_span 104 = .ok (.iload_n 2, 1) := by decide +kernel
theorem dX10_span_105 : decode cX10_span 105 = .ok (.aload_n 0, 1) := by decide +kernel
theorem dX10_span_106 : decode cX10_span 106 = .ok (.getfield 80, 3) := by decide +kernel
theorem dX10_span_109 : decode cX10_span 109 = .ok (.invokevirtual 132, 3) := by decide +kernel
theorem dX10_span_112 : decode cX10_span 112 = .ok (.ireturn, 1) := by decide +kernel
theorem dX10_span_113 : decode cX10_span 113 = .ok (.aload 4, 2) := by decide +kernel
theorem dX10_span_115 : decode cX10_span 115 = .ok (.iload_n 2, 1) := by decide +kernel
theorem dX10_span_116 : decode cX10_span 116 = .ok (.invokevirtual 125, 3) := by decide +kernel
theorem dX10_span_119 : decode cX10_span 119 = .ok (.ifCond .lt 7, 3) := by decide +kernel
theorem dX10_span_122 : decode cX10_span 122 = .ok (.iconst 1, 1) := by decide +kernel
theorem dX10_span_123 : decode cX10_span 123 = .ok (.goto 4, 3) := by decide +kernel
theorem dX10_span_126 : decode cX10_span 126 = .ok (.iconst 0, 1) := by decide +kernel
theorem dX10_span_127 : decode cX10_span 127 = .ok (.ireturn, 1) := by decide +kernel
theorem dX10_span_128 : decode cX10_span 128 = .ok (.aload 4, 2) := by decide +kernel
theorem dX10_span_130 : decode cX10_span 130 = .ok (.iload_n 2, 1) := by decide +kernel
theorem dX10_span_131 : decode cX10_span 131 = .ok (.aload_n 0, 1) := by decide +kernel
theorem dX10_span_132 : decode cX10_span 132 = .ok (.getfield 80, 3) := by decide +kernel
theorem dX10_span_135 : decode cX10_span 135 = .ok (.invokevirtual 135, 3) := by decide +kernel
theorem dX10_span_138 : decode cX10_span 138 = .ok (.ireturn, 1) := by decide +kernel
theorem dX10_span_139 : decode cX10_span 139 = .ok (.aload 4, 2) := by decide +kernel
theorem dX10_span_141 : decode cX10_span 141 = .ok (.iload_n 2, 1) := by decide +kernel
theorem dX10_span_142 : decode cX10_span 142 = .ok (.invokevirtual 138, 3) := by decide +kernel
theorem dX10_span_145 : decode cX10_span 145 = .ok (.ireturn, 1) := by decide +kernel
theorem dX10_span_146 : decode cX10_span 146 = .ok (.aload 4, 2) := by decide +kernel
theorem dX10_span_148 : decode cX10_span 148 = .ok (.iload_n 2, 1) := by decide +kernel
theorem dX10_span_149 : decode cX10_span 149 = .ok (.invokevirtual 141, 3) := by decide +kernel
theorem dX10_span_152 : decode cX10_span 152 = .ok (.ireturn, 1) := by decide +kernel
theorem dX10_span_153 : decode cX10_span 153 = .ok (.aload 4, 2) := by decide +kernel
theorem dX10_span_155 : decode cX10_span 155 = .ok (.iload_n 2, 1) := by decide +kernel
theorem dX10_span_156 : decode cX10_span 156 = .ok (.invokevirtual 144, 3) := by decide +kernel
theorem dX10_span_159 : decode cX10_span 159 = .ok (.ireturn, 1) := by decide +kernel
def F_X10_span (G : Nat → Nat) (h : xH) (a0 : Nat) (x1 : Int32) (x2 : Int32) (x3 : Int32) : Option (Option Int32) :=
  (xc h (some a0) 10).bind fun b2 =>
  (F_X10_promiseAt G h b2 x1).bind fun w1 =>
  if w1 = none then
    some none
  else
  (F_X10_within x2 0 600).bind fun v4 =>
  if v4 = 0 then
    some none
  else
  (F_X10_within x3 0 7).bind fun v6 =>
  if v6 = 0 then
    some none
  else
  if x3 = 0 then
    (xc h w1 6).bind fun b10 =>
    (F_X6_left G h b10 x2).bind fun v9 =>
    some (some v9)
  else
  if x3 = 1 then
    (gI h (some a0) 10 8).bind fun v12 =>
    (xc h w1 6).bind fun b14 =>
    (F_X6_leastLeft G h b14 x2 v12).bind fun v13 =>
    some (some v13)
  else
  if x3 = 2 then
    (gI h (some a0) 10 8).bind fun v16 =>
    (xc h w1 6).bind fun b18 =>
    (F_X6_mostLeft G h b18 x2 v16).bind fun v17 =>
    some (some v17)
  else
  if x3 = 3 then
    (xc h w1 6).bind fun b21 =>
    (F_X6_left G h b21 x2).bind fun v20 =>
    if v20 < 0 then
      some (some 0)
    else
    some (some 1)
  else
  if x3 = 4 then
    (gI h (some a0) 10 8).bind fun v24 =>
    (xc h w1 6).bind fun b26 =>
    (F_X6_verdict G h b26 x2 v24).bind fun v25 =>
    some (some v25)
  else
  if x3 = 5 then
    (xc h w1 6).bind fun b29 =>
    (F_X6_settledFrom G h b29 x2).bind fun v28 =>
    some (some v28)
  else
  if x3 = 6 then
    (xc h w1 6).bind fun b32 =>
    (F_X6_asks G h b32 x2).bind fun v31 =>
    some (some v31)
  else
  (xc h w1 6).bind fun b34 =>
  (F_X6_bad G h b34 x2).bind fun v33 =>
  some (some v33)
set_option maxHeartbeats 4000000 in
set_option maxRecDepth 100000 in
theorem t_X10_span (l : Launch) (hlt : l.stackTraces = false) (D : va_G) (G : Nat → Nat) (h : xH) (a0 : Nat) (x1 : Int32) (x2 : Int32) (x3 : Int32) (r : Option Int32) (hF : F_X10_span G h a0 x1 x2 x3 = some r) : xCx l yX10_span cX10_span 5 (some .int) (rm_X10_span) D G h [.ref a0, .int x1, .int x2, .int x3] r := by
  refine xCx_of (by decide) (by first | decide | exact Nat.le_of_ble_eq_true rfl) ?_
  intro p e s m args below meth c ls hx hb hr hlk hml hown hnm hts hB hout hR0 hS hl
  have hR := hR0
  have hl : lv_has ls 5 [(0, va_rf (some a0)), (1, .int x1), (2, .int x2), (3, .int x3)] := hl
  unfold F_X10_span at hF
  refine x_aload_n (o := (some a0)) hx hb dX10_span_0 rfl (lv_at hl 0 rfl) ?_
  refine lv_iload_n hx hb dX10_span_1 rfl (lv_at hl 1 rfl) ?_
  replace hF := xbind hF; obtain ⟨b2, eb2, hF⟩ := hF
  replace hF := xbind hF; obtain ⟨w1, ew1, hF⟩ := hF
  refine x_callV (o := (some a0)) (ci := 10) (As := [.int x1]) (rest := []) (v := (some (va_rf w1))) (k := 1) hx hb hml hown hts hR hS eb2 rfl rfl (t_X10_promiseAt l D G h b2 x1 w1 ew1) f_X10_promiseAt mm_437 mm_439 mm_6 rfl hl.1 rfl (by first | exact Nat.le_of_ble_eq_true rfl | simp [xrf_cat, xcI, xcJ, xcA]) dX10_span_2 (by decide) (by decide) rfl (fun H locs hR hS => ?_)
  refine x_astore (o := w1) (lv' := [(4, va_rf w1), (0, va_rf (some a0)), (1, .int x1), (2, .int x2), (3, .int x3)]) hx hb dX10_span_5 hl (by decide) (by first | rfl | (simp [xrf_cat, xcI, xcJ, xcA]; done) | (simp [xrf_cat, xcI, xcJ, xcA]; decide)) (fun ls hl => ?_)
  refine x_aload (o := w1) hx hb dX10_span_7 (lv_at hl 0 rfl) ?_
  refine x_ifnull (o := w1) (tgt := 33) hx hb dX10_span_9 (by decide) (fun c3 => ?_) (fun c3 => ?_)
  · replace hF := xift c3 hF
    cases hF
    exact x_thr hx hb hlt hown hts mm_843 mm_75 hB hR0 hR hS (hl.1.trans hml.symm) hlk hout dX10_span_33 dX10_span_36 dX10_span_37 dX10_span_40 (by decide) (by decide) (by decide) (by decide) (by decide) (by decide) (by decide)
  · replace hF := xiff c3 hF
    refine lv_iload_n hx hb dX10_span_12 rfl (lv_at hl 3 rfl) ?_
    refine lv_iconst (v := 0) hx hb dX10_span_13 (by decide) ?_
    refine lv_sipush (v := 600) hx hb dX10_span_14 (by decide) ?_
    replace hF := xbind hF; obtain ⟨v4, ev4, hF⟩ := hF
    refine x_callS (As := [.int x2, .int 0, .int 600]) (rest := []) (v := (some (.int v4))) (k := 3) hx hb hml hown hts hR hS (t_X10_within l D G h x2 0 600 v4 ev4) f_X10_within mm_347 mm_348 rfl hl.1 rfl (by first | exact Nat.le_of_ble_eq_true rfl | simp [xrf_cat, xcI, xcJ, xcA]) dX10_span_17 (by decide) (by decide) rfl (fun H locs hR hS => ?_)
    refine lv_if_eq (tgt := 33) hx hb dX10_span_20 (by decide) (fun c5 => ?_) (fun c5 => ?_)
    · replace hF := xift c5 hF
      cases hF
      exact x_thr hx hb hlt hown hts mm_843 mm_75 hB hR0 hR hS (hl.1.trans hml.symm) hlk hout dX10_span_33 dX10_span_36 dX10_span_37 dX10_span_40 (by decide) (by decide) (by decide) (by decide) (by decide) (by decide) (by decide)
    · replace hF := xiff c5 hF
      refine lv_iload_n hx hb dX10_span_23 rfl (lv_at hl 4 rfl) ?_
      refine lv_iconst (v := 0) hx hb dX10_span_24 (by decide) ?_
      refine lv_bipush (v := 7) hx hb dX10_span_25 (by decide) ?_
      replace hF := xbind hF; obtain ⟨v6, ev6, hF⟩ := hF
      refine x_callS (As := [.int x3, .int 0, .int 7]) (rest := []) (v := (some (.int v6))) (k := 3) hx hb hml hown hts hR hS (t_X10_within l D G h x3 0 7 v6 ev6) f_X10_within mm_347 mm_348 rfl hl.1 rfl (by first | exact Nat.le_of_ble_eq_true rfl | simp [xrf_cat, xcI, xcJ, xcA]) dX10_span_27 (by decide) (by decide) rfl (fun H locs hR hS => ?_)
      refine lv_if_ne (tgt := 41) hx hb dX10_span_30 (by decide) (fun c7 => ?_) (fun c7 => ?_)
      · replace hF := xiff c7 hF
        refine lv_iload_n hx hb dX10_span_41 rfl (lv_at hl 4 rfl) ?_
        by_cases c8 : x3 = 0
        · replace hF := xift c8 hF
          refine lv_tableIn (off := 42) (tgt := 84) hx hb dX10_span_42 (by rw [c8]; decide) (by rw [c8]; decide) (by rw [c8]; rfl) (by decide) ?_
          refine x_aload (o := w1) hx hb dX10_span_84 (lv_at hl 0 rfl) ?_
          refine lv_iload_n hx hb dX10_span_86 rfl (lv_at hl 3 rfl) ?_
          replace hF := xbind hF; obtain ⟨b10, eb10, hF⟩ := hF
          replace hF := xbind hF; obtain ⟨v9, ev9, hF⟩ := hF
          refine x_callV (o := w1) (ci := 6) (As := [.int x2]) (rest := []) (v := (some (.int v9))) (k := 1) hx hb hml hown hts hR hS eb10 rfl rfl (t_X6_left l D G h b10 x2 v9 ev9) f_X6_left mm_904 mm_905 mm_906 rfl hl.1 rfl (by first | exact Nat.le_of_ble_eq_true rfl | simp [xrf_cat, xcI, xcJ, xcA]) dX10_span_87 (by decide) (by decide) rfl (fun H locs hR hS => ?_)
          cases hF
          exact x_xret (x_iret hx hb hr rfl hlk hR hS (by decide) (by decide) dX10_span_90)
        replace hF := xiff c8 hF
        by_cases c11 : x3 = 1
        · replace hF := xift c11 hF
          refine lv_tableIn (off := 49) (tgt := 91) hx hb dX10_span_42 (by rw [c11]; decide) (by rw [c11]; decide) (by rw [c11]; rfl) (by decide) ?_
          refine x_aload (o := w1) hx hb dX10_span_91 (lv_at hl 0 rfl) ?_
          refine lv_iload_n hx hb dX10_span_93 rfl (lv_at hl 3 rfl) ?_
          refine x_aload_n (o := (some a0)) hx hb dX10_span_94 rfl (lv_at hl 1 rfl) ?_
          replace hF := xbind hF; obtain ⟨v12, ev12, hF⟩ := hF
          refine x_getI (o := (some a0)) (ci := 10) (C := RX10) (T := TX10) (N := 11) hx hb hts iw_X10 hown hR rfl 8 (by decide) mm_195 (Or.inl rfl) ev12 dX10_span_95 ?_
          replace hF := xbind hF; obtain ⟨b14, eb14, hF⟩ := hF
          replace hF := xbind hF; obtain ⟨v13, ev13, hF⟩ := hF
          refine x_callV (o := w1) (ci := 6) (As := [.int x2, .int v12]) (rest := []) (v := (some (.int v13))) (k := 2) hx hb hml hown hts hR hS eb14 rfl rfl (t_X6_leastLeft l D G h b14 x2 v12 v13 ev13) f_X6_leastLeft mm_756 mm_757 mm_758 rfl hl.1 rfl (by first | exact Nat.le_of_ble_eq_true rfl | simp [xrf_cat, xcI, xcJ, xcA]) dX10_span_98 (by decide) (by decide) rfl (fun H locs hR hS => ?_)
          cases hF
          exact x_xret (x_iret hx hb hr rfl hlk hR hS (by decide) (by decide) dX10_span_101)
        replace hF := xiff c11 hF
        by_cases c15 : x3 = 2
        · replace hF := xift c15 hF
          refine lv_tableIn (off := 60) (tgt := 102) hx hb dX10_span_42 (by rw [c15]; decide) (by rw [c15]; decide) (by rw [c15]; rfl) (by decide) ?_
          refine x_aload (o := w1) hx hb dX10_span_102 (lv_at hl 0 rfl) ?_
          refine lv_iload_n hx hb dX10_span_104 rfl (lv_at hl 3 rfl) ?_
          refine x_aload_n (o := (some a0)) hx hb dX10_span_105 rfl (lv_at hl 1 rfl) ?_
          replace hF := xbind hF; obtain ⟨v16, ev16, hF⟩ := hF
          refine x_getI (o := (some a0)) (ci := 10) (C := RX10) (T := TX10) (N := 11) hx hb hts iw_X10 hown hR rfl 8 (by decide) mm_195 (Or.inl rfl) ev16 dX10_span_106 ?_
          replace hF := xbind hF; obtain ⟨b18, eb18, hF⟩ := hF
          replace hF := xbind hF; obtain ⟨v17, ev17, hF⟩ := hF
          refine x_callV (o := w1) (ci := 6) (As := [.int x2, .int v16]) (rest := []) (v := (some (.int v17))) (k := 2) hx hb hml hown hts hR hS eb18 rfl rfl (t_X6_mostLeft l D G h b18 x2 v16 v17 ev17) f_X6_mostLeft mm_908 mm_909 mm_910 rfl hl.1 rfl (by first | exact Nat.le_of_ble_eq_true rfl | simp [xrf_cat, xcI, xcJ, xcA]) dX10_span_109 (by decide) (by decide) rfl (fun H locs hR hS => ?_)
          cases hF
          exact x_xret (x_iret hx hb hr rfl hlk hR hS (by decide) (by decide) dX10_span_112)
        replace hF := xiff c15 hF
        by_cases c19 : x3 = 3
        · replace hF := xift c19 hF
          refine lv_tableIn (off := 71) (tgt := 113) hx hb dX10_span_42 (by rw [c19]; decide) (by rw [c19]; decide) (by rw [c19]; rfl) (by decide) ?_
          refine x_aload (o := w1) hx hb dX10_span_113 (lv_at hl 0 rfl) ?_
          refine lv_iload_n hx hb dX10_span_115 rfl (lv_at hl 3 rfl) ?_
          replace hF := xbind hF; obtain ⟨b21, eb21, hF⟩ := hF
          replace hF := xbind hF; obtain ⟨v20, ev20, hF⟩ := hF
          refine x_callV (o := w1) (ci := 6) (As := [.int x2]) (rest := []) (v := (some (.int v20))) (k := 1) hx hb hml hown hts hR hS eb21 rfl rfl (t_X6_left l D G h b21 x2 v20 ev20) f_X6_left mm_904 mm_905 mm_906 rfl hl.1 rfl (by first | exact Nat.le_of_ble_eq_true rfl | simp [xrf_cat, xcI, xcJ, xcA]) dX10_span_116 (by decide) (by decide) rfl (fun H locs hR hS => ?_)
          refine lv_if_lt (tgt := 126) hx hb dX10_span_119 (by decide) (fun c22 => ?_) (fun c22 => ?_)
          · replace hF := xift c22 hF
            refine lv_iconst (v := 0) hx hb dX10_span_126 (by decide) ?_
            cases hF
            exact x_xret (x_iret hx hb hr rfl hlk hR hS (by decide) (by decide) dX10_span_127)
          · replace hF := xiff c22 hF
            refine lv_iconst (v := 1) hx hb dX10_span_122 (by decide) ?_
            refine lv_goto (tgt := 127) hx hb dX10_span_123 (by decide) ?_
            cases hF
            exact x_xret (x_iret hx hb hr rfl hlk hR hS (by decide) (by decide) dX10_span_127)
        replace hF := xiff c19 hF
        by_cases c23 : x3 = 4
        · replace hF := xift c23 hF
          refine lv_tableIn (off := 86) (tgt := 128) hx hb dX10_span_42 (by rw [c23]; decide) (by rw [c23]; decide) (by rw [c23]; rfl) (by decide) ?_
          refine x_aload (o := w1) hx hb dX10_span_128 (lv_at hl 0 rfl) ?_
          refine lv_iload_n hx hb dX10_span_130 rfl (lv_at hl 3 rfl) ?_
          refine x_aload_n (o := (some a0)) hx hb dX10_span_131 rfl (lv_at hl 1 rfl) ?_
          replace hF := xbind hF; obtain ⟨v24, ev24, hF⟩ := hF
          refine x_getI (o := (some a0)) (ci := 10) (C := RX10) (T := TX10) (N := 11) hx hb hts iw_X10 hown hR rfl 8 (by decide) mm_195 (Or.inl rfl) ev24 dX10_span_132 ?_
          replace hF := xbind hF; obtain ⟨b26, eb26, hF⟩ := hF
          replace hF := xbind hF; obtain ⟨v25, ev25, hF⟩ := hF
          refine x_callV (o := w1) (ci := 6) (As := [.int x2, .int v24]) (rest := []) (v := (some (.int v25))) (k := 2) hx hb hml hown hts hR hS eb26 rfl rfl (t_X6_verdict l D G h b26 x2 v24 v25 ev25) f_X6_verdict mm_912 mm_913 mm_914 rfl hl.1 rfl (by first | exact Nat.le_of_ble_eq_true rfl | simp [xrf_cat, xcI, xcJ, xcA]) dX10_span_135 (by decide) (by decide) rfl (fun H locs hR hS => ?_)
          cases hF
          exact x_xret (x_iret hx hb hr rfl hlk hR hS (by decide) (by decide) dX10_span_138)
        replace hF := xiff c23 hF
        by_cases c27 : x3 = 5
        · replace hF := xift c27 hF
          refine lv_tableIn (off := 97) (tgt := 139) hx hb dX10_span_42 (by rw [c27]; decide) (by rw [c27]; decide) (by rw [c27]; rfl) (by decide) ?_
          refine x_aload (o := w1) hx hb dX10_span_139 (lv_at hl 0 rfl) ?_
          refine lv_iload_n hx hb dX10_span_141 rfl (lv_at hl 3 rfl) ?_
          replace hF := xbind hF; obtain ⟨b29, eb29, hF⟩ := hF
          replace hF := xbind hF; obtain ⟨v28, ev28, hF⟩ := hF
          refine x_callV (o := w1) (ci := 6) (As := [.int x2]) (rest := []) (v := (some (.int v28))) (k := 1) hx hb hml hown hts hR hS eb29 rfl rfl (t_X6_settledFrom l D G h b29 x2 v28 ev28) f_X6_settledFrom mm_918 mm_919 mm_920 rfl hl.1 rfl (by first | exact Nat.le_of_ble_eq_true rfl | simp [xrf_cat, xcI, xcJ, xcA]) dX10_span_142 (by decide) (by decide) rfl (fun H locs hR hS => ?_)
          cases hF
          exact x_xret (x_iret hx hb hr rfl hlk hR hS (by decide) (by decide) dX10_span_145)
        replace hF := xiff c27 hF
        by_cases c30 : x3 = 6
        · replace hF := xift c30 hF
          refine lv_tableIn (off := 104) (tgt := 146) hx hb dX10_span_42 (by rw [c30]; decide) (by rw [c30]; decide) (by rw [c30]; rfl) (by decide) ?_
          refine x_aload (o := w1) hx hb dX10_span_146 (lv_at hl 0 rfl) ?_
          refine lv_iload_n hx hb dX10_span_148 rfl (lv_at hl 3 rfl) ?_
          replace hF := xbind hF; obtain ⟨b32, eb32, hF⟩ := hF
          replace hF := xbind hF; obtain ⟨v31, ev31, hF⟩ := hF
          refine x_callV (o := w1) (ci := 6) (As := [.int x2]) (rest := []) (v := (some (.int v31))) (k := 1) hx hb hml hown hts hR hS eb32 rfl rfl (t_X6_asks l D G h b32 x2 v31 ev31) f_X6_asks mm_935 mm_766 mm_767 rfl hl.1 rfl (by first | exact Nat.le_of_ble_eq_true rfl | simp [xrf_cat, xcI, xcJ, xcA]) dX10_span_149 (by decide) (by decide) rfl (fun H locs hR hS => ?_)
          cases hF
          exact x_xret (x_iret hx hb hr rfl hlk hR hS (by decide) (by decide) dX10_span_152)
        replace hF := xiff c30 hF
        refine lv_tableOut (tgt := 153) hx hb dX10_span_42 (by have := lv_neT c8 (a := 0) (by decide); have := lv_neT c11 (a := 1) (by decide); have := lv_neT c15 (a := 2) (by decide); have := lv_neT c19 (a := 3) (by decide); have := lv_neT c23 (a := 4) (by decide); have := lv_neT c27 (a := 5) (by decide); have := lv_neT c30 (a := 6) (by decide); omega) (by decide) ?_
        refine x_aload (o := w1) hx hb dX10_span_153 (lv_at hl 0 rfl) ?_
        refine lv_iload_n hx hb dX10_span_155 rfl (lv_at hl 3 rfl) ?_
        replace hF := xbind hF; obtain ⟨b34, eb34, hF⟩ := hF
        replace hF := xbind hF; obtain ⟨v33, ev33, hF⟩ := hF
        refine x_callV (o := w1) (ci := 6) (As := [.int x2]) (rest := []) (v := (some (.int v33))) (k := 1) hx hb hml hown hts hR hS eb34 rfl rfl (t_X6_bad l D G h b34 x2 v33 ev33) f_X6_bad mm_936 mm_770 mm_771 rfl hl.1 rfl (by first | exact Nat.le_of_ble_eq_true rfl | simp [xrf_cat, xcI, xcJ, xcA]) dX10_span_156 (by decide) (by decide) rfl (fun H locs hR hS => ?_)
        cases hF
        exact x_xret (x_iret hx hb hr rfl hlk hR hS (by decide) (by decide) dX10_span_159)
      · replace hF := xift c7 hF
        cases hF
        exact x_thr hx hb hlt hown hts mm_843 mm_75 hB hR0 hR hS (hl.1.trans hml.symm) hlk hout dX10_span_33 dX10_span_36 dX10_span_37 dX10_span_40 (by decide) (by decide) (by decide) (by decide) (by decide) (by decide) (by decide)
