def rm_X11_alarm : Room := { frames := 1, cells := 0, slots := 0, locals := 21 }
theorem f_X11_alarm : xM yX11_alarm cX11_alarm 5 (some .int) 4 := ⟨mm_1172, mm_62, by decide +kernel, by decide +kernel⟩
theorem dX11_alarm_0 : decode cX11_alarm 0 = .ok (.aload_n 0, 1) := by decide +kernel
theorem dX11_alarm_1 : decode cX11_alarm 1 = .ok (.iconst 0, 1) := by decide +kernel
theorem dX11_alarm_2 : decode cX11_alarm 2 = .ok (.putfield 93, 3) := by decide +kernel
theorem dX11_alarm_5 : decode cX11_alarm 5 = .ok (.aload_n 0, 1) := by decide +kernel
theorem dX11_alarm_6 : decode cX11_alarm 6 = .ok (.iload_n 1, 1) := by decide +kernel
theorem dX11_alarm_7 : decode cX11_alarm 7 = .ok (.invokevirtual 137, 3) := by decide +kernel
theorem dX11_alarm_10 : decode cX11_alarm 10 = .ok (.ifCond .eq 48, 3) := by decide +kernel
theorem dX11_alarm_13 : decode cX11_alarm 13 = .ok (.iload_n 2, 1) := by decide +kernel
theorem dX11_alarm_14 : decode cX11_alarm 14 = .ok (.iconst 1, 1) := by decide +kernel
theorem dX11_alarm_15 : decode cX11_alarm 15 = .ok (.if_icmp .lt 43, 3) := by decide +kernel
theorem dX11_alarm_18 : decode cX11_alarm 18 = .ok (.iload_n 2, 1) := by decide +kernel
theorem dX11_alarm_19 : decode cX11_alarm 19 = .ok (.sipush 200, 3) := by decide +kernel
theorem dX11_alarm_22 : decode cX11_alarm 22 = .ok (.if_icmp .gt 36, 3) := by decide +kernel
theorem dX11_alarm_25 : decode cX11_alarm 25 = .ok (.iload_n 3, 1) := by decide +kernel
theorem dX11_alarm_26 : decode cX11_alarm 26 = .ok (.iconst 1, 1) := by decide +kernel
theorem dX11_alarm_27 : decode cX11_alarm 27 = .ok (.if_icmp .lt 31, 3) := by decide +kernel
theorem dX11_alarm_30 : decode cX11_alarm 30 = .ok (.iload_n 3, 1) := by decide +kernel
theorem dX11_alarm_31 : decode cX11_alarm 31 = .ok (.iload_n 2, 1) := by decide +kernel
theorem dX11_alarm_32 : decode cX11_alarm 32 = .ok (.if_icmp .gt 26, 3) := by decide +kernel
theorem dX11_alarm_35 : decode cX11_alarm 35 = .ok (.iload 4, 2) := by decide +kernel
theorem dX11_alarm_37 : decode cX11_alarm 37 = .ok (.iconst 1, 1) := by decide +kernel
theorem dX11_alarm_38 : decode cX11_alarm 38 = .ok (.if_icmp .lt 20, 3) := by decide +kernel
theorem dX11_alarm_41 : decode cX11_alarm 41 = .ok (.iload 4, 2) := by decide +kernel
theorem dX11_alarm_43 : decode cX11_alarm 43 = .ok (.sipush 1000, 3) := by decide +kernel
theorem dX11_alarm_46 : decode cX11_alarm 46 = .ok (.if_icmp .gt 12, 3) := by decide +kernel
theorem dX11_alarm_49 : decode cX11_alarm 49 = .ok (.aload_n 0, 1) := by decide +kernel
theorem dX11_alarm_50 : decode cX11_alarm 50 = .ok (.getfield 178, 3) := by decide +kernel
theorem dX11_alarm_53 : decode cX11_alarm 53 = .ok (.bipush 8, 2) := by decide +kernel
theorem dX11_alarm_55 : decode cX11_alarm 55 = .ok (.if_icmp .ne 5, 3) := by decide +kernel
theorem dX11_alarm_58 : decode cX11_alarm 58 = .ok (.iconst (-1), 1) := by decide +kernel
theorem dX11_alarm_59 : decode cX11_alarm 59 = .ok (.ireturn, 1) := by decide +kernel
theorem dX11_alarm_60 : decode cX11_alarm 60 = .ok (.aload_n 0, 1) := by decide +kernel
theorem dX11_alarm_61 : decode cX11_alarm 61 = .ok (.getfield 53, 3) := by decide +kernel
theorem dX11_alarm_64 : decode cX11_alarm 64 = .ok (.aload_n 0, 1) := by decide +kernel
theorem dX11_alarm_65 : decode cX11_alarm 65 = .ok (.getfield 178, 3) := by decide +kernel
theorem dX11_alarm_68 : decode cX11_alarm 68 = .ok (.iload_n 1, 1) := by decide +kernel
theorem dX11_alarm_69 : decode cX11_alarm 69 = .ok (.iastore, 1) := by decide +kernel
theorem dX11_alarm_70 : decode cX11_alarm 70 = .ok (.aload_n 0, 1) := by decide +kernel
theorem dX11_alarm_71 : decode cX11_alarm 71 = .ok (.getfield 56, 3) := by decide +kernel
theorem dX11_alarm_74 : decode cX11_alarm 74 = .ok (.aload_n 0, 1) := by decide +kernel
theorem dX11_alarm_75 : decode cX11_alarm 75 = .ok (.getfield 178, 3) := by decide +kernel
theorem dX11_alarm_78 : decode cX11_alarm 78 = .ok (.iload_n 2, 1) := by decide +kernel
theorem dX11_alarm_79 : decode cX11_alarm 79 = .ok (.iastore, 1) := by decide +kernel
theorem dX11_alarm_80 : decode cX11_alarm 80 = .ok (.aload_n 0, 1) := by decide +kernel
theorem dX11_alarm_81 : decode cX11_alarm 81 = .ok (.getfield 59, 3) := by decide +kernel
theorem dX11_alarm_84 : decode cX11_alarm 84 = .ok (.aload_n 0, 1) := by decide +kernel
theorem dX11_alarm_85 : decode cX11_alarm 85 = .ok (.getfield 178, 3) := by decide +kernel
theorem dX11_alarm_88 : decode cX11_alarm 88 = .ok (.iload_n 3, 1) := by decide +kernel
theorem dX11_alarm_89 : decode cX11_alarm 89 = .ok (.iastore, 1) := by decide +kernel
theorem dX11_alarm_90 : decode cX11_alarm 90 = .ok (.aload_n 0, 1) := by decide +kernel
theorem dX11_alarm_91 : decode cX11_alarm 91 = .ok (.getfield 62, 3) := by decide +kernel
theorem dX11_alarm_94 : decode cX11_alarm 94 = .ok (.aload_n 0, 1) := by decide +kernel
theorem dX11_alarm_95 : decode cX11_alarm 95 = .ok (.getfield 178, 3) := by decide +kernel
theorem dX11_alarm_98 : decode cX11_alarm 98 = .ok (.iload 4, 2) := by decide +kernel
theorem dX11_alarm_100 : decode cX11_alarm 100 = .ok (.iastore, 1) := by decide +kernel
theorem dX11_alarm_101 : decode cX11_alarm 101 = .ok (.aload_n 0, 1) := by decide +kernel
theorem dX11_alarm_102 : decode cX11_alarm 102 = .ok (.dup, 1) := by decide +kernel
theorem dX11_alarm_103 : decode cX11_alarm 103 = .ok (.getfield 178, 3) := by decide +kernel
theorem dX11_alarm_106 : decode cX11_alarm 106 = .ok (.iconst 1, 1) := by decide +kernel
theorem dX11_alarm_107 : decode cX11_alarm 107 = .ok (.iadd, 1) := by decide +kernel
theorem dX11_alarm_108 : decode cX11_alarm 108 = .ok (.putfield 178, 3) := by decide +kernel
theorem dX11_alarm_111 : decode cX11_alarm 111 = .ok (.aload_n 0, 1) := by decide +kernel
theorem dX11_alarm_112 : decode cX11_alarm 112 = .ok (.getfield 178, 3) := by decide +kernel
theorem dX11_alarm_115 : decode cX11_alarm 115 = .ok (.iconst 1, 1) := by decide +kernel
theorem dX11_alarm_116 : decode cX11_alarm 116 = .ok (.isub, 1) := by decide +kernel
theorem dX11_alarm_117 : decode cX11_alarm 117 = .ok (.ireturn, 1) := by decide +kernel
def F_X11_alarm (G : Nat → Nat) (h : xH) (a0 : Nat) (x1 : Int32) (x2 : Int32) (x3 : Int32) (x4 : Int32) : Option (Int32 × xH) :=
  (xp G h (some a0) 11 0 (.int 0)).bind fun h1 =>
  (xc h1 (some a0) 11).bind fun b3 =>
  (F_X11_isPromise G h1 b3 x1).bind fun v2 =>
  if v2 = 0 then
    some ((-1), h1)
  else
  if x2 < 1 then
    some ((-1), h1)
  else
  if 200 < x2 then
    some ((-1), h1)
  else
  if x3 < 1 then
    some ((-1), h1)
  else
  if x2 < x3 then
    some ((-1), h1)
  else
  if x4 < 1 then
    some ((-1), h1)
  else
  if 1000 < x4 then
    some ((-1), h1)
  else
  (gI h1 (some a0) 11 26).bind fun v11 =>
  if v11 = 8 then
    some ((-1), h1)
  else
  (gR h1 (some a0) 11 27).bind fun w13 =>
  (gI h1 (some a0) 11 26).bind fun v14 =>
  (stI 2 G h1 w13 v14 x1).bind fun h15 =>
  (gR h15 (some a0) 11 28).bind fun w16 =>
  (gI h15 (some a0) 11 26).bind fun v17 =>
  (stI 2 G h15 w16 v17 x2).bind fun h18 =>
  (gR h18 (some a0) 11 29).bind fun w19 =>
  (gI h18 (some a0) 11 26).bind fun v20 =>
  (stI 2 G h18 w19 v20 x3).bind fun h21 =>
  (gR h21 (some a0) 11 30).bind fun w22 =>
  (gI h21 (some a0) 11 26).bind fun v23 =>
  (stI 2 G h21 w22 v23 x4).bind fun h24 =>
  (gI h24 (some a0) 11 26).bind fun v25 =>
  (xp G h24 (some a0) 11 26 (.int (v25 + 1))).bind fun h26 =>
  (gI h26 (some a0) 11 26).bind fun v27 =>
  some ((v27 - 1), h26)
set_option maxHeartbeats 4000000 in
set_option maxRecDepth 100000 in
theorem t_X11_alarm (l : Launch) (D : va_G) (G : Nat → Nat) (h : xH) (a0 : Nat) (x1 : Int32) (x2 : Int32) (x3 : Int32) (x4 : Int32) (r : Int32) (h' : xH) (hF : F_X11_alarm G h a0 x1 x2 x3 x4 = some (r, h')) : xC l yX11_alarm cX11_alarm 5 (some .int) (rm_X11_alarm) D G h [.ref a0, .int x1, .int x2, .int x3, .int x4] (some (.int r)) h' := by
  refine xC_of (by decide) (by first | decide | exact Nat.le_of_ble_eq_true rfl) ?_
  intro p e s m args below meth c ls hx hb hr hlk hml hown hnm hts hR hS hl
  have hl : lv_has ls 5 [(0, va_rf (some a0)), (1, .int x1), (2, .int x2), (3, .int x3), (4, .int x4)] := hl
  unfold F_X11_alarm at hF
  refine x_aload_n (o := (some a0)) hx hb dX11_alarm_0 rfl (lv_at hl 0 rfl) ?_
  refine lv_iconst (v := 0) hx hb dX11_alarm_1 (by decide) ?_
  replace hF := xbind hF; obtain ⟨h1, eh1, hF⟩ := hF
  refine x_put (o := (some a0)) (ci := 11) (C := RX11) (T := TX11) (N := 42) hx hb hts iw_X11 tyX11_ok nmX11 hown hR hS rfl 0 (by decide) mm_943 (Or.inl rfl) rfl rfl rfl eh1 dX11_alarm_2 (fun H locs hR hS => ?_)
  refine x_aload_n (o := (some a0)) hx hb dX11_alarm_5 rfl (lv_at hl 0 rfl) ?_
  refine lv_iload_n hx hb dX11_alarm_6 rfl (lv_at hl 1 rfl) ?_
  replace hF := xbind hF; obtain ⟨b3, eb3, hF⟩ := hF
  replace hF := xbind hF; obtain ⟨v2, ev2, hF⟩ := hF
  refine x_callV (o := (some a0)) (ci := 11) (As := [.int x1]) (rest := []) (v := (some (.int v2))) (k := 1) hx hb hml hown hts hR hS eb3 rfl rfl (t_X11_isPromise l D G h1 b3 x1 v2 ev2) f_X11_isPromise mm_1115 mm_1117 mm_35 rfl hl.1 rfl (by first | exact Nat.le_of_ble_eq_true rfl | simp [xrf_cat, xcI, xcJ, xcA]) dX11_alarm_7 (by decide) (by decide) rfl (fun H locs hR hS => ?_)
  refine lv_if_eq (tgt := 58) hx hb dX11_alarm_10 (by decide) (fun c4 => ?_) (fun c4 => ?_)
  · replace hF := xift c4 hF
    refine lv_iconst (v := (-1)) hx hb dX11_alarm_58 (by decide) ?_
    cases hF
    exact x_iret hx hb hr rfl hlk hR hS (by decide) (by decide) dX11_alarm_59
  · replace hF := xiff c4 hF
    refine lv_iload_n hx hb dX11_alarm_13 rfl (lv_at hl 2 rfl) ?_
    refine lv_iconst (v := 1) hx hb dX11_alarm_14 (by decide) ?_
    refine lv_icmp_lt (tgt := 58) hx hb dX11_alarm_15 (by decide) (fun c5 => ?_) (fun c5 => ?_)
    · replace hF := xift c5 hF
      refine lv_iconst (v := (-1)) hx hb dX11_alarm_58 (by decide) ?_
      cases hF
      exact x_iret hx hb hr rfl hlk hR hS (by decide) (by decide) dX11_alarm_59
    · replace hF := xiff c5 hF
      refine lv_iload_n hx hb dX11_alarm_18 rfl (lv_at hl 2 rfl) ?_
      refine lv_sipush (v := 200) hx hb dX11_alarm_19 (by decide) ?_
      refine lv_icmp_gt (tgt := 58) hx hb dX11_alarm_22 (by decide) (fun c6 => ?_) (fun c6 => ?_)
      · replace hF := xift c6 hF
        refine lv_iconst (v := (-1)) hx hb dX11_alarm_58 (by decide) ?_
        cases hF
        exact x_iret hx hb hr rfl hlk hR hS (by decide) (by decide) dX11_alarm_59
      · replace hF := xiff c6 hF
        refine lv_iload_n hx hb dX11_alarm_25 rfl (lv_at hl 3 rfl) ?_
        refine lv_iconst (v := 1) hx hb dX11_alarm_26 (by decide) ?_
        refine lv_icmp_lt (tgt := 58) hx hb dX11_alarm_27 (by decide) (fun c7 => ?_) (fun c7 => ?_)
        · replace hF := xift c7 hF
          refine lv_iconst (v := (-1)) hx hb dX11_alarm_58 (by decide) ?_
          cases hF
          exact x_iret hx hb hr rfl hlk hR hS (by decide) (by decide) dX11_alarm_59
        · replace hF := xiff c7 hF
          refine lv_iload_n hx hb dX11_alarm_30 rfl (lv_at hl 3 rfl) ?_
          refine lv_iload_n hx hb dX11_alarm_31 rfl (lv_at hl 2 rfl) ?_
          refine lv_icmp_gt (tgt := 58) hx hb dX11_alarm_32 (by decide) (fun c8 => ?_) (fun c8 => ?_)
          · replace hF := xift c8 hF
            refine lv_iconst (v := (-1)) hx hb dX11_alarm_58 (by decide) ?_
            cases hF
            exact x_iret hx hb hr rfl hlk hR hS (by decide) (by decide) dX11_alarm_59
          · replace hF := xiff c8 hF
            refine lv_iload hx hb dX11_alarm_35 (lv_at hl 4 rfl) ?_
            refine lv_iconst (v := 1) hx hb dX11_alarm_37 (by decide) ?_
            refine lv_icmp_lt (tgt := 58) hx hb dX11_alarm_38 (by decide) (fun c9 => ?_) (fun c9 => ?_)
            · replace hF := xift c9 hF
              refine lv_iconst (v := (-1)) hx hb dX11_alarm_58 (by decide) ?_
              cases hF
              exact x_iret hx hb hr rfl hlk hR hS (by decide) (by decide) dX11_alarm_59
            · replace hF := xiff c9 hF
              refine lv_iload hx hb dX11_alarm_41 (lv_at hl 4 rfl) ?_
              refine lv_sipush (v := 1000) hx hb dX11_alarm_43 (by decide) ?_
              refine lv_icmp_gt (tgt := 58) hx hb dX11_alarm_46 (by decide) (fun c10 => ?_) (fun c10 => ?_)
              · replace hF := xift c10 hF
                refine lv_iconst (v := (-1)) hx hb dX11_alarm_58 (by decide) ?_
                cases hF
                exact x_iret hx hb hr rfl hlk hR hS (by decide) (by decide) dX11_alarm_59
              · replace hF := xiff c10 hF
                refine x_aload_n (o := (some a0)) hx hb dX11_alarm_49 rfl (lv_at hl 0 rfl) ?_
                replace hF := xbind hF; obtain ⟨v11, ev11, hF⟩ := hF
                refine x_getI (o := (some a0)) (ci := 11) (C := RX11) (T := TX11) (N := 42) hx hb hts iw_X11 hown hR rfl 26 (by decide) mm_969 (Or.inl rfl) ev11 dX11_alarm_50 ?_
                refine lv_bipush (v := 8) hx hb dX11_alarm_53 (by decide) ?_
                refine lv_icmp_ne (tgt := 60) hx hb dX11_alarm_55 (by decide) (fun c12 => ?_) (fun c12 => ?_)
                · replace hF := xiff c12 hF
                  refine x_aload_n (o := (some a0)) hx hb dX11_alarm_60 rfl (lv_at hl 0 rfl) ?_
                  replace hF := xbind hF; obtain ⟨w13, ew13, hF⟩ := hF
                  refine x_getR (o := (some a0)) (ci := 11) (C := RX11) (T := TX11) (N := 42) hx hb hts iw_X11 hown hR rfl 27 (by decide) mm_970 (Or.inl rfl) ew13 dX11_alarm_61 ?_
                  refine x_aload_n (o := (some a0)) hx hb dX11_alarm_64 rfl (lv_at hl 0 rfl) ?_
                  replace hF := xbind hF; obtain ⟨v14, ev14, hF⟩ := hF
                  refine x_getI (o := (some a0)) (ci := 11) (C := RX11) (T := TX11) (N := 42) hx hb hts iw_X11 hown hR rfl 26 (by decide) mm_969 (Or.inl rfl) ev14 dX11_alarm_65 ?_
                  refine lv_iload_n hx hb dX11_alarm_68 rfl (lv_at hl 1 rfl) ?_
                  replace hF := xbind hF; obtain ⟨h15, eh15, hF⟩ := hF
                  refine x_ist (o := w13) hx hb hR hS eh15 dX11_alarm_69 (fun H locs hR hS => ?_)
                  refine x_aload_n (o := (some a0)) hx hb dX11_alarm_70 rfl (lv_at hl 0 rfl) ?_
                  replace hF := xbind hF; obtain ⟨w16, ew16, hF⟩ := hF
                  refine x_getR (o := (some a0)) (ci := 11) (C := RX11) (T := TX11) (N := 42) hx hb hts iw_X11 hown hR rfl 28 (by decide) mm_971 (Or.inl rfl) ew16 dX11_alarm_71 ?_
                  refine x_aload_n (o := (some a0)) hx hb dX11_alarm_74 rfl (lv_at hl 0 rfl) ?_
                  replace hF := xbind hF; obtain ⟨v17, ev17, hF⟩ := hF
                  refine x_getI (o := (some a0)) (ci := 11) (C := RX11) (T := TX11) (N := 42) hx hb hts iw_X11 hown hR rfl 26 (by decide) mm_969 (Or.inl rfl) ev17 dX11_alarm_75 ?_
                  refine lv_iload_n hx hb dX11_alarm_78 rfl (lv_at hl 2 rfl) ?_
                  replace hF := xbind hF; obtain ⟨h18, eh18, hF⟩ := hF
                  refine x_ist (o := w16) hx hb hR hS eh18 dX11_alarm_79 (fun H locs hR hS => ?_)
                  refine x_aload_n (o := (some a0)) hx hb dX11_alarm_80 rfl (lv_at hl 0 rfl) ?_
                  replace hF := xbind hF; obtain ⟨w19, ew19, hF⟩ := hF
                  refine x_getR (o := (some a0)) (ci := 11) (C := RX11) (T := TX11) (N := 42) hx hb hts iw_X11 hown hR rfl 29 (by decide) mm_972 (Or.inl rfl) ew19 dX11_alarm_81 ?_
                  refine x_aload_n (o := (some a0)) hx hb dX11_alarm_84 rfl (lv_at hl 0 rfl) ?_
                  replace hF := xbind hF; obtain ⟨v20, ev20, hF⟩ := hF
                  refine x_getI (o := (some a0)) (ci := 11) (C := RX11) (T := TX11) (N := 42) hx hb hts iw_X11 hown hR rfl 26 (by decide) mm_969 (Or.inl rfl) ev20 dX11_alarm_85 ?_
                  refine lv_iload_n hx hb dX11_alarm_88 rfl (lv_at hl 3 rfl) ?_
                  replace hF := xbind hF; obtain ⟨h21, eh21, hF⟩ := hF
                  refine x_ist (o := w19) hx hb hR hS eh21 dX11_alarm_89 (fun H locs hR hS => ?_)
                  refine x_aload_n (o := (some a0)) hx hb dX11_alarm_90 rfl (lv_at hl 0 rfl) ?_
                  replace hF := xbind hF; obtain ⟨w22, ew22, hF⟩ := hF
                  refine x_getR (o := (some a0)) (ci := 11) (C := RX11) (T := TX11) (N := 42) hx hb hts iw_X11 hown hR rfl 30 (by decide) mm_973 (Or.inl rfl) ew22 dX11_alarm_91 ?_
                  refine x_aload_n (o := (some a0)) hx hb dX11_alarm_94 rfl (lv_at hl 0 rfl) ?_
                  replace hF := xbind hF; obtain ⟨v23, ev23, hF⟩ := hF
                  refine x_getI (o := (some a0)) (ci := 11) (C := RX11) (T := TX11) (N := 42) hx hb hts iw_X11 hown hR rfl 26 (by decide) mm_969 (Or.inl rfl) ev23 dX11_alarm_95 ?_
                  refine lv_iload hx hb dX11_alarm_98 (lv_at hl 4 rfl) ?_
                  replace hF := xbind hF; obtain ⟨h24, eh24, hF⟩ := hF
                  refine x_ist (o := w22) hx hb hR hS eh24 dX11_alarm_100 (fun H locs hR hS => ?_)
                  refine x_aload_n (o := (some a0)) hx hb dX11_alarm_101 rfl (lv_at hl 0 rfl) ?_
                  refine lv_dup hx hb dX11_alarm_102 xrf_cat ?_
                  replace hF := xbind hF; obtain ⟨v25, ev25, hF⟩ := hF
                  refine x_getI (o := (some a0)) (ci := 11) (C := RX11) (T := TX11) (N := 42) hx hb hts iw_X11 hown hR rfl 26 (by decide) mm_969 (Or.inl rfl) ev25 dX11_alarm_103 ?_
                  refine lv_iconst (v := 1) hx hb dX11_alarm_106 (by decide) ?_
                  refine lv_iadd hx hb dX11_alarm_107 ?_
                  replace hF := xbind hF; obtain ⟨h26, eh26, hF⟩ := hF
                  refine x_put (o := (some a0)) (ci := 11) (C := RX11) (T := TX11) (N := 42) hx hb hts iw_X11 tyX11_ok nmX11 hown hR hS rfl 26 (by decide) mm_969 (Or.inl rfl) rfl rfl rfl eh26 dX11_alarm_108 (fun H locs hR hS => ?_)
                  refine x_aload_n (o := (some a0)) hx hb dX11_alarm_111 rfl (lv_at hl 0 rfl) ?_
                  replace hF := xbind hF; obtain ⟨v27, ev27, hF⟩ := hF
                  refine x_getI (o := (some a0)) (ci := 11) (C := RX11) (T := TX11) (N := 42) hx hb hts iw_X11 hown hR rfl 26 (by decide) mm_969 (Or.inl rfl) ev27 dX11_alarm_112 ?_
                  refine lv_iconst (v := 1) hx hb dX11_alarm_115 (by decide) ?_
                  refine lv_isub hx hb dX11_alarm_116 ?_
                  cases hF
                  exact x_iret hx hb hr rfl hlk hR hS (by decide) (by decide) dX11_alarm_117
                · replace hF := xift c12 hF
                  refine lv_iconst (v := (-1)) hx hb dX11_alarm_58 (by decide) ?_
                  cases hF
                  exact x_iret hx hb hr rfl hlk hR hS (by decide) (by decide) dX11_alarm_59
def rm_X11_sumsTo : Room := { frames := 2, cells := 0, slots := 0, locals := 47 }
theorem f_X11_sumsTo : xM yX11_sumsTo cX11_sumsTo 3 none 1 := ⟨mm_1210, mm_62, by decide +kernel, by decide +kernel⟩
theorem dX11_sumsTo_0 : decode cX11_sumsTo 0 = .ok (.iconst 0, 1) := by decide +kernel
theorem dX11_sumsTo_1 : decode cX11_sumsTo 1 = .ok (.istore_n 2, 1) := by decide +kernel
theorem dX11_sumsTo_2 : decode cX11_sumsTo 2 = .ok (.iload_n 2, 1) := by decide +kernel
theorem dX11_sumsTo_3 : decode cX11_sumsTo 3 = .ok (.sipush 601, 3) := by decide +kernel
theorem dX11_sumsTo_6 : decode cX11_sumsTo 6 = .ok (.if_icmp .ge 54, 3) := by decide +kernel
theorem dX11_sumsTo_9 : decode cX11_sumsTo 9 = .ok (.aload_n 0, 1) := by decide +kernel
theorem dX11_sumsTo_10 : decode cX11_sumsTo 10 = .ok (.iload_n 1, 1) := by decide +kernel
theorem dX11_sumsTo_11 : decode cX11_sumsTo 11 = .ok (.iload_n 2, 1) := by decide +kernel
theorem dX11_sumsTo_12 : decode cX11_sumsTo 12 = .ok (.iload_n 2, 1) := by decide +kernel
theorem dX11_sumsTo_13 : decode cX11_sumsTo 13 = .ok (.invokevirtual 130, 3) := by decide +kernel
theorem dX11_sumsTo_16 : decode cX11_sumsTo 16 = .ok (.aload_n 0, 1) := by decide +kernel
theorem dX11_sumsTo_17 : decode cX11_sumsTo 17 = .ok (.getfield 65, 3) := by decide +kernel
theorem dX11_sumsTo_20 : decode cX11_sumsTo 20 = .ok (.iload_n 2, 1) := by decide +kernel
theorem dX11_sumsTo_21 : decode cX11_sumsTo 21 = .ok (.iconst 1, 1) := by decide +kernel
theorem dX11_sumsTo_22 : decode cX11_sumsTo 22 = .ok (.iadd, 1) := by decide +kernel
theorem dX11_sumsTo_23 : decode cX11_sumsTo 23 = .ok (.aload_n 0, 1) := by decide +kernel
theorem dX11_sumsTo_24 : decode cX11_sumsTo 24 = .ok (.getfield 65, 3) := by decide +kernel
theorem dX11_sumsTo_27 : decode cX11_sumsTo 27 = .ok (.iload_n 2, 1) := by decide +kernel
theorem dX11_sumsTo_28 : decode cX11_sumsTo 28 = .ok (.laload, 1) := by decide +kernel
theorem dX11_sumsTo_29 : decode cX11_sumsTo 29 = .ok (.aload_n 0, 1) := by decide +kernel
theorem dX11_sumsTo_30 : decode cX11_sumsTo 30 = .ok (.getfield 116, 3) := by decide +kernel
theorem dX11_sumsTo_33 : decode cX11_sumsTo 33 = .ok (.ladd, 1) := by decide +kernel
theorem dX11_sumsTo_34 : decode cX11_sumsTo 34 = .ok (.lastore, 1) := by decide +kernel
theorem dX11_sumsTo_35 : decode cX11_sumsTo 35 = .ok (.aload_n 0, 1) := by decide +kernel
theorem dX11_sumsTo_36 : decode cX11_sumsTo 36 = .ok (.getfield 69, 3) := by decide +kernel
theorem dX11_sumsTo_39 : decode cX11_sumsTo 39 = .ok (.iload_n 2, 1) := by decide +kernel
theorem dX11_sumsTo_40 : decode cX11_sumsTo 40 = .ok (.iconst 1, 1) := by decide +kernel
theorem dX11_sumsTo_41 : decode cX11_sumsTo 41 = .ok (.iadd, 1) := by decide +kernel
theorem dX11_sumsTo_42 : decode cX11_sumsTo 42 = .ok (.aload_n 0, 1) := by decide +kernel
theorem dX11_sumsTo_43 : decode cX11_sumsTo 43 = .ok (.getfield 69, 3) := by decide +kernel
theorem dX11_sumsTo_46 : decode cX11_sumsTo 46 = .ok (.iload_n 2, 1) := by decide +kernel
theorem dX11_sumsTo_47 : decode cX11_sumsTo 47 = .ok (.laload, 1) := by decide +kernel
theorem dX11_sumsTo_48 : decode cX11_sumsTo 48 = .ok (.aload_n 0, 1) := by decide +kernel
theorem dX11_sumsTo_49 : decode cX11_sumsTo 49 = .ok (.getfield 120, 3) := by decide +kernel
theorem dX11_sumsTo_52 : decode cX11_sumsTo 52 = .ok (.ladd, 1) := by decide +kernel
theorem dX11_sumsTo_53 : decode cX11_sumsTo 53 = .ok (.lastore, 1) := by decide +kernel
theorem dX11_sumsTo_54 : decode cX11_sumsTo 54 = .ok (.iinc 2 1, 3) := by decide +kernel
theorem dX11_sumsTo_57 : decode cX11_sumsTo 57 = .ok (.goto (-55), 3) := by decide +kernel
theorem dX11_sumsTo_60 : decode cX11_sumsTo 60 = .ok (.return_, 1) := by decide +kernel
def F_X11_sumsTo_2 (G : Nat → Nat) (a0 : Nat) (x1 : Int32) : Nat → xH → Int32 → Option xH
  | 0, _, _ => none
  | n + 1, h, x2 =>
    if 601 ≤ x2 then
      some h
    else
    (xc h (some a0) 11).bind fun b3 =>
    (F_X11_sums G h b3 x1 x2 x2).bind fun h2 =>
    (gR h2 (some a0) 11 31).bind fun w4 =>
    (gR h2 (some a0) 11 31).bind fun w5 =>
    (ldJ G h2 w5 x2).bind fun v6 =>
    (gJ h2 (some a0) 11 12).bind fun v7 =>
    (stJ G h2 w4 (x2 + 1) (v6 + v7)).bind fun h8 =>
    (gR h8 (some a0) 11 32).bind fun w9 =>
    (gR h8 (some a0) 11 32).bind fun w10 =>
    (ldJ G h8 w10 x2).bind fun v11 =>
    (gJ h8 (some a0) 11 13).bind fun v12 =>
    (stJ G h8 w9 (x2 + 1) (v11 + v12)).bind fun h13 =>
    xl (x2 + 1) fun v14 =>
    F_X11_sumsTo_2 G a0 x1 n h13 v14
set_option maxHeartbeats 4000000 in
set_option maxRecDepth 100000 in
theorem tl_X11_sumsTo_2 {p : Program} {l : Launch} {e : Env} {s : State} {m : MethodId} {args : Array Value} {below : List Frame} {meth : Method} {c : Code} {D : va_G} {h' : xH} (hx : p.tables.exec = Jvm.exec) (hb : c.code = cX11_sumsTo) (hr : meth.sig.returnType = none) (hlk : meth.locks = false) (hml : c.maxLocals = 3) (hown : s.vm.findClass RX11 = some m.cls) (hnm : meth.name = "sumsTo") (hts : ∀ w ∈ xt, w.before args s = true) (G : Nat → Nat) (a0 : Nat) (x1 : Int32) : ∀ (n : Nat) (h : xH) (x2 : Int32) (H : Heap) (locs : List Loc) (ls : Array Slot), F_X11_sumsTo_2 G a0 x1 n h x2 = some h' → xR D G h s H → va_S (xA G) s.heap H locs → lv_has ls 3 [(0, va_rf (some a0)), (1, .int x1), (2, .int x2)] → W p l e rm_X11_sumsTo s m args below meth c H locs 0 0 (MQ below (xQ D G none h') args s rm_X11_sumsTo.cells rm_X11_sumsTo.slots (xA G)) (F0 m 2 ls []) := by
  intro n
  induction n with
  | zero =>
    intro h x2 H locs ls hF
    rw [F_X11_sumsTo_2.eq_1] at hF
    cases hF
  | succ n ih =>
    intro h x2 H locs ls hF hR hS hl
    rw [F_X11_sumsTo_2.eq_2] at hF
    refine lv_iload_n hx hb dX11_sumsTo_2 rfl (lv_at hl 2 rfl) ?_
    refine lv_sipush (v := 601) hx hb dX11_sumsTo_3 (by decide) ?_
    refine lv_icmp_ge (tgt := 60) hx hb dX11_sumsTo_6 (by decide) (fun c1 => ?_) (fun c1 => ?_)
    · replace hF := xift c1 hF
      cases hF
      exact x_vret hx hb hr hlk hR hS (by decide) (by decide) dX11_sumsTo_60
    · replace hF := xiff c1 hF
      refine x_aload_n (o := (some a0)) hx hb dX11_sumsTo_9 rfl (lv_at hl 0 rfl) ?_
      refine lv_iload_n hx hb dX11_sumsTo_10 rfl (lv_at hl 1 rfl) ?_
      refine lv_iload_n hx hb dX11_sumsTo_11 rfl (lv_at hl 2 rfl) ?_
      refine lv_iload_n hx hb dX11_sumsTo_12 rfl (lv_at hl 2 rfl) ?_
      replace hF := xbind hF; obtain ⟨b3, eb3, hF⟩ := hF
      replace hF := xbind hF; obtain ⟨h2, eh2, hF⟩ := hF
      refine x_callV (o := (some a0)) (ci := 11) (As := [.int x1, .int x2, .int x2]) (rest := []) (v := none) (k := 3) hx hb hml hown hts hR hS eb3 rfl rfl (t_X11_sums l D G h b3 x1 x2 x2 h2 eh2) f_X11_sums mm_1099 mm_1101 mm_33 rfl hl.1 rfl (by first | exact Nat.le_of_ble_eq_true rfl | simp [xrf_cat, xcI, xcJ, xcA]) dX11_sumsTo_13 (by decide) (by decide) rfl (fun H locs hR hS => ?_)
      refine x_aload_n (o := (some a0)) hx hb dX11_sumsTo_16 rfl (lv_at hl 0 rfl) ?_
      replace hF := xbind hF; obtain ⟨w4, ew4, hF⟩ := hF
      refine x_getR (o := (some a0)) (ci := 11) (C := RX11) (T := TX11) (N := 42) hx hb hts iw_X11 hown hR rfl 31 (by decide) mm_974 (Or.inl rfl) ew4 dX11_sumsTo_17 ?_
      refine lv_iload_n hx hb dX11_sumsTo_20 rfl (lv_at hl 2 rfl) ?_
      refine lv_iconst (v := 1) hx hb dX11_sumsTo_21 (by decide) ?_
      refine lv_iadd hx hb dX11_sumsTo_22 ?_
      refine x_aload_n (o := (some a0)) hx hb dX11_sumsTo_23 rfl (lv_at hl 0 rfl) ?_
      replace hF := xbind hF; obtain ⟨w5, ew5, hF⟩ := hF
      refine x_getR (o := (some a0)) (ci := 11) (C := RX11) (T := TX11) (N := 42) hx hb hts iw_X11 hown hR rfl 31 (by decide) mm_974 (Or.inl rfl) ew5 dX11_sumsTo_24 ?_
      refine lv_iload_n hx hb dX11_sumsTo_27 rfl (lv_at hl 2 rfl) ?_
      replace hF := xbind hF; obtain ⟨v6, ev6, hF⟩ := hF
      refine x_lld (o := w5) hx hb hR ev6 dX11_sumsTo_28 ?_
      refine x_aload_n (o := (some a0)) hx hb dX11_sumsTo_29 rfl (lv_at hl 0 rfl) ?_
      replace hF := xbind hF; obtain ⟨v7, ev7, hF⟩ := hF
      refine x_getJ (o := (some a0)) (ci := 11) (C := RX11) (T := TX11) (N := 42) hx hb hts iw_X11 hown hR rfl 12 (by decide) mm_955 (Or.inl rfl) ev7 dX11_sumsTo_30 ?_
      refine lv_ladd hx hb dX11_sumsTo_33 ?_
      replace hF := xbind hF; obtain ⟨h8, eh8, hF⟩ := hF
      refine x_lst (o := w4) hx hb hR hS eh8 dX11_sumsTo_34 (fun H locs hR hS => ?_)
      refine x_aload_n (o := (some a0)) hx hb dX11_sumsTo_35 rfl (lv_at hl 0 rfl) ?_
      replace hF := xbind hF; obtain ⟨w9, ew9, hF⟩ := hF
      refine x_getR (o := (some a0)) (ci := 11) (C := RX11) (T := TX11) (N := 42) hx hb hts iw_X11 hown hR rfl 32 (by decide) mm_975 (Or.inl rfl) ew9 dX11_sumsTo_36 ?_
      refine lv_iload_n hx hb dX11_sumsTo_39 rfl (lv_at hl 2 rfl) ?_
      refine lv_iconst (v := 1) hx hb dX11_sumsTo_40 (by decide) ?_
      refine lv_iadd hx hb dX11_sumsTo_41 ?_
      refine x_aload_n (o := (some a0)) hx hb dX11_sumsTo_42 rfl (lv_at hl 0 rfl) ?_
      replace hF := xbind hF; obtain ⟨w10, ew10, hF⟩ := hF
      refine x_getR (o := (some a0)) (ci := 11) (C := RX11) (T := TX11) (N := 42) hx hb hts iw_X11 hown hR rfl 32 (by decide) mm_975 (Or.inl rfl) ew10 dX11_sumsTo_43 ?_
      refine lv_iload_n hx hb dX11_sumsTo_46 rfl (lv_at hl 2 rfl) ?_
      replace hF := xbind hF; obtain ⟨v11, ev11, hF⟩ := hF
      refine x_lld (o := w10) hx hb hR ev11 dX11_sumsTo_47 ?_
      refine x_aload_n (o := (some a0)) hx hb dX11_sumsTo_48 rfl (lv_at hl 0 rfl) ?_
      replace hF := xbind hF; obtain ⟨v12, ev12, hF⟩ := hF
      refine x_getJ (o := (some a0)) (ci := 11) (C := RX11) (T := TX11) (N := 42) hx hb hts iw_X11 hown hR rfl 13 (by decide) mm_956 (Or.inl rfl) ev12 dX11_sumsTo_49 ?_
      refine lv_ladd hx hb dX11_sumsTo_52 ?_
      replace hF := xbind hF; obtain ⟨h13, eh13, hF⟩ := hF
      refine x_lst (o := w9) hx hb hR hS eh13 dX11_sumsTo_53 (fun H locs hR hS => ?_)
      obtain ⟨v14, ev14⟩ : ∃ z : Int32, z = (x2 + 1) := ⟨_, rfl⟩
      replace hF := xlet ev14 hF
      refine lv_iinc (v := v14) (lv' := [(2, .int v14), (0, va_rf (some a0)), (1, .int x1)]) hx hb dX11_sumsTo_54 hl (k := 2) rfl (by rw [ev14]; rfl) (by decide) (by first | rfl | (simp [xrf_cat, xcI, xcJ, xcA]; done) | (simp [xrf_cat, xcI, xcJ, xcA]; decide)) (fun ls hl => ?_)
      refine lv_goto (tgt := 2) hx hb dX11_sumsTo_57 (by decide) ?_
      exact ih h13 v14 _ _ _ hF hR hS (lv_sub hl [1, 2, 0] rfl)
def F_X11_sumsTo (G : Nat → Nat) (h : xH) (a0 : Nat) (x1 : Int32) : Option xH :=
  F_X11_sumsTo_2 G a0 x1 xN h 0
set_option maxHeartbeats 4000000 in
set_option maxRecDepth 100000 in
theorem t_X11_sumsTo (l : Launch) (D : va_G) (G : Nat → Nat) (h : xH) (a0 : Nat) (x1 : Int32) (h' : xH) (hF : F_X11_sumsTo G h a0 x1 = some h') : xC l yX11_sumsTo cX11_sumsTo 3 none (rm_X11_sumsTo) D G h [.ref a0, .int x1] none h' := by
  refine xC_of (by decide) (by first | decide | exact Nat.le_of_ble_eq_true rfl) ?_
  intro p e s m args below meth c ls hx hb hr hlk hml hown hnm hts hR hS hl
  have hl : lv_has ls 3 [(0, va_rf (some a0)), (1, .int x1)] := hl
  unfold F_X11_sumsTo at hF
  refine lv_iconst (v := 0) hx hb dX11_sumsTo_0 (by decide) ?_
  refine lv_istore_n (lv' := [(2, .int 0), (0, va_rf (some a0)), (1, .int x1)]) hx hb dX11_sumsTo_1 rfl hl (by decide) (by first | rfl | (simp [xrf_cat, xcI, xcJ, xcA]; done) | (simp [xrf_cat, xcI, xcJ, xcA]; decide)) (fun ls hl => ?_)
  refine W.widen (k := 0) (n := 0) (by decide) (by decide) ?_
  exact tl_X11_sumsTo_2 hx hb hr hlk hml hown hnm hts G a0 x1 _ h 0 _ _ _ hF hR hS (lv_sub hl [1, 2, 0] rfl)
def rm_X11_isWorseTo : Room := { frames := 1, cells := 0, slots := 0, locals := 26 }
theorem f_X11_isWorseTo : xM yX11_isWorseTo cX11_isWorseTo 6 (some .boolean) 4 := ⟨mm_1218, mm_62, by decide +kernel, by decide +kernel⟩
theorem dX11_isWorseTo_0 : decode cX11_isWorseTo 0 = .ok (.iload 4, 2) := by decide +kernel
theorem dX11_isWorseTo_2 : decode cX11_isWorseTo 2 = .ok (.iload_n 2, 1) := by decide +kernel
theorem dX11_isWorseTo_3 : decode cX11_isWorseTo 3 = .ok (.isub, 1) := by decide +kernel
theorem dX11_isWorseTo_4 : decode cX11_isWorseTo 4 = .ok (.iconst 1, 1) := by decide +kernel
theorem dX11_isWorseTo_5 : decode cX11_isWorseTo 5 = .ok (.iadd, 1) := by decide +kernel
theorem dX11_isWorseTo_6 : decode cX11_isWorseTo 6 = .ok (.ifCond .ge 7, 3) := by decide +kernel
theorem dX11_isWorseTo_9 : decode cX11_isWorseTo 9 = .ok (.iconst 0, 1) := by decide +kernel
theorem dX11_isWorseTo_10 : decode cX11_isWorseTo 10 = .ok (.goto 9, 3) := by decide +kernel
theorem dX11_isWorseTo_13 : decode cX11_isWorseTo 13 = .ok (.iload 4, 2) := by decide +kernel
theorem dX11_isWorseTo_15 : decode cX11_isWorseTo 15 = .ok (.iload_n 2, 1) := by decide +kernel
theorem dX11_isWorseTo_16 : decode cX11_isWorseTo 16 = .ok (.isub, 1) := by decide +kernel
theorem dX11_isWorseTo_17 : decode cX11_isWorseTo 17 = .ok (.iconst 1, 1) := by decide +kernel
theorem dX11_isWorseTo_18 : decode cX11_isWorseTo 18 = .ok (.iadd, 1) := by decide +kernel
theorem dX11_isWorseTo_19 : decode cX11_isWorseTo 19 = .ok (.istore 5, 2) := by decide +kernel
theorem dX11_isWorseTo_21 : decode cX11_isWorseTo 21 = .ok (.aload_n 0, 1) := by decide +kernel
theorem dX11_isWorseTo_22 : decode cX11_isWorseTo 22 = .ok (.iload_n 1, 1) := by decide +kernel
theorem dX11_isWorseTo_23 : decode cX11_isWorseTo 23 = .ok (.iload_n 3, 1) := by decide +kernel
theorem dX11_isWorseTo_24 : decode cX11_isWorseTo 24 = .ok (.aload_n 0, 1) := by decide +kernel
theorem dX11_isWorseTo_25 : decode cX11_isWorseTo 25 = .ok (.getfield 65, 3) := by decide +kernel
theorem dX11_isWorseTo_28 : decode cX11_isWorseTo 28 = .ok (.iload 4, 2) := by decide +kernel
theorem dX11_isWorseTo_30 : decode cX11_isWorseTo 30 = .ok (.iconst 1, 1) := by decide +kernel
theorem dX11_isWorseTo_31 : decode cX11_isWorseTo 31 = .ok (.iadd, 1) := by decide +kernel
theorem dX11_isWorseTo_32 : decode cX11_isWorseTo 32 = .ok (.laload, 1) := by decide +kernel
theorem dX11_isWorseTo_33 : decode cX11_isWorseTo 33 = .ok (.aload_n 0, 1) := by decide +kernel
theorem dX11_isWorseTo_34 : decode cX11_isWorseTo 34 = .ok (.getfield 65, 3) := by decide +kernel
theorem dX11_isWorseTo_37 : decode cX11_isWorseTo 37 = .ok (.iload 5, 2) := by decide +kernel
theorem dX11_isWorseTo_39 : decode cX11_isWorseTo 39 = .ok (.laload, 1) := by decide +kernel
theorem dX11_isWorseTo_40 : decode cX11_isWorseTo 40 = .ok (.lsub, 1) := by decide +kernel
theorem dX11_isWorseTo_41 : decode cX11_isWorseTo 41 = .ok (.aload_n 0, 1) := by decide +kernel
theorem dX11_isWorseTo_42 : decode cX11_isWorseTo 42 = .ok (.getfield 69, 3) := by decide +kernel
theorem dX11_isWorseTo_45 : decode cX11_isWorseTo 45 = .ok (.iload 4, 2) := by decide +kernel
theorem dX11_isWorseTo_47 : decode cX11_isWorseTo 47 = .ok (.iconst 1, 1) := by decide +kernel
theorem dX11_isWorseTo_48 : decode cX11_isWorseTo 48 = .ok (.iadd, 1) := by decide +kernel
theorem dX11_isWorseTo_49 : decode cX11_isWorseTo 49 = .ok (.laload, 1) := by decide +kernel
theorem dX11_isWorseTo_50 : decode cX11_isWorseTo 50 = .ok (.aload_n 0, 1) := by decide +kernel
theorem dX11_isWorseTo_51 : decode cX11_isWorseTo 51 = .ok (.getfield 69, 3) := by decide +kernel
theorem dX11_isWorseTo_54 : decode cX11_isWorseTo 54 = .ok (.iload 5, 2) := by decide +kernel
theorem dX11_isWorseTo_56 : decode cX11_isWorseTo 56 = .ok (.laload, 1) := by decide +kernel
theorem dX11_isWorseTo_57 : decode cX11_isWorseTo 57 = .ok (.lsub, 1) := by decide +kernel
theorem dX11_isWorseTo_58 : decode cX11_isWorseTo 58 = .ok (.invokevirtual 183, 3) := by decide +kernel
theorem dX11_isWorseTo_61 : decode cX11_isWorseTo 61 = .ok (.ireturn, 1) := by decide +kernel
def F_X11_isWorseTo (G : Nat → Nat) (h : xH) (a0 : Nat) (x1 : Int32) (x2 : Int32) (x3 : Int32) (x4 : Int32) : Option Int32 :=
  if 0 ≤ ((x4 - x2) + 1) then
    xl ((x4 - x2) + 1) fun v2 =>
    (gR h (some a0) 11 31).bind fun w3 =>
    (ldJ G h w3 (x4 + 1)).bind fun v4 =>
    (gR h (some a0) 11 31).bind fun w5 =>
    (ldJ G h w5 v2).bind fun v6 =>
    (gR h (some a0) 11 32).bind fun w7 =>
    (ldJ G h w7 (x4 + 1)).bind fun v8 =>
    (gR h (some a0) 11 32).bind fun w9 =>
    (ldJ G h w9 v2).bind fun v10 =>
    (xc h (some a0) 11).bind fun b12 =>
    (F_X11_isWorse G h b12 x1 x3 (v4 - v6) (v8 - v10)).bind fun v11 =>
    xg (v11 = 0 ∨ v11 = 1) <|
    some v11
  else
  (gR h (some a0) 11 31).bind fun w14 =>
  (ldJ G h w14 (x4 + 1)).bind fun v15 =>
  (gR h (some a0) 11 31).bind fun w16 =>
  (ldJ G h w16 0).bind fun v17 =>
  (gR h (some a0) 11 32).bind fun w18 =>
  (ldJ G h w18 (x4 + 1)).bind fun v19 =>
  (gR h (some a0) 11 32).bind fun w20 =>
  (ldJ G h w20 0).bind fun v21 =>
  (xc h (some a0) 11).bind fun b23 =>
  (F_X11_isWorse G h b23 x1 x3 (v15 - v17) (v19 - v21)).bind fun v22 =>
  xg (v22 = 0 ∨ v22 = 1) <|
  some v22
set_option maxHeartbeats 4000000 in
set_option maxRecDepth 100000 in
theorem t_X11_isWorseTo (l : Launch) (D : va_G) (G : Nat → Nat) (h : xH) (a0 : Nat) (x1 : Int32) (x2 : Int32) (x3 : Int32) (x4 : Int32) (r : Int32) (hF : F_X11_isWorseTo G h a0 x1 x2 x3 x4 = some r) : xC l yX11_isWorseTo cX11_isWorseTo 6 (some .boolean) (rm_X11_isWorseTo) D G h [.ref a0, .int x1, .int x2, .int x3, .int x4] (some (.int r)) h := by
  refine xC_of (by decide) (by first | decide | exact Nat.le_of_ble_eq_true rfl) ?_
  intro p e s m args below meth c ls hx hb hr hlk hml hown hnm hts hR hS hl
  have hl : lv_has ls 6 [(0, va_rf (some a0)), (1, .int x1), (2, .int x2), (3, .int x3), (4, .int x4)] := hl
  unfold F_X11_isWorseTo at hF
  refine lv_iload hx hb dX11_isWorseTo_0 (lv_at hl 4 rfl) ?_
  refine lv_iload_n hx hb dX11_isWorseTo_2 rfl (lv_at hl 2 rfl) ?_
  refine lv_isub hx hb dX11_isWorseTo_3 ?_
  refine lv_iconst (v := 1) hx hb dX11_isWorseTo_4 (by decide) ?_
  refine lv_iadd hx hb dX11_isWorseTo_5 ?_
  refine lv_if_ge (tgt := 13) hx hb dX11_isWorseTo_6 (by decide) (fun c1 => ?_) (fun c1 => ?_)
  · replace hF := xift c1 hF
    refine lv_iload hx hb dX11_isWorseTo_13 (lv_at hl 4 rfl) ?_
    refine lv_iload_n hx hb dX11_isWorseTo_15 rfl (lv_at hl 2 rfl) ?_
    refine lv_isub hx hb dX11_isWorseTo_16 ?_
    refine lv_iconst (v := 1) hx hb dX11_isWorseTo_17 (by decide) ?_
    refine lv_iadd hx hb dX11_isWorseTo_18 ?_
    refine lv_topi (fun v2 ev2 => ?_)
    replace hF := xlet ev2 hF
    refine lv_istore (lv' := [(5, .int v2), (0, va_rf (some a0)), (1, .int x1), (2, .int x2), (3, .int x3), (4, .int x4)]) hx hb dX11_isWorseTo_19 hl (by decide) (by first | rfl | (simp [xrf_cat, xcI, xcJ, xcA]; done) | (simp [xrf_cat, xcI, xcJ, xcA]; decide)) (fun ls hl => ?_)
    refine x_aload_n (o := (some a0)) hx hb dX11_isWorseTo_21 rfl (lv_at hl 1 rfl) ?_
    refine lv_iload_n hx hb dX11_isWorseTo_22 rfl (lv_at hl 2 rfl) ?_
    refine lv_iload_n hx hb dX11_isWorseTo_23 rfl (lv_at hl 4 rfl) ?_
    refine x_aload_n (o := (some a0)) hx hb dX11_isWorseTo_24 rfl (lv_at hl 1 rfl) ?_
    replace hF := xbind hF; obtain ⟨w3, ew3, hF⟩ := hF
    refine x_getR (o := (some a0)) (ci := 11) (C := RX11) (T := TX11) (N := 42) hx hb hts iw_X11 hown hR rfl 31 (by decide) mm_974 (Or.inl rfl) ew3 dX11_isWorseTo_25 ?_
    refine lv_iload hx hb dX11_isWorseTo_28 (lv_at hl 5 rfl) ?_
    refine lv_iconst (v := 1) hx hb dX11_isWorseTo_30 (by decide) ?_
    refine lv_iadd hx hb dX11_isWorseTo_31 ?_
    replace hF := xbind hF; obtain ⟨v4, ev4, hF⟩ := hF
    refine x_lld (o := w3) hx hb hR ev4 dX11_isWorseTo_32 ?_
    refine x_aload_n (o := (some a0)) hx hb dX11_isWorseTo_33 rfl (lv_at hl 1 rfl) ?_
    replace hF := xbind hF; obtain ⟨w5, ew5, hF⟩ := hF
    refine x_getR (o := (some a0)) (ci := 11) (C := RX11) (T := TX11) (N := 42) hx hb hts iw_X11 hown hR rfl 31 (by decide) mm_974 (Or.inl rfl) ew5 dX11_isWorseTo_34 ?_
    refine lv_iload hx hb dX11_isWorseTo_37 (lv_at hl 0 rfl) ?_
    replace hF := xbind hF; obtain ⟨v6, ev6, hF⟩ := hF
    refine x_lld (o := w5) hx hb hR ev6 dX11_isWorseTo_39 ?_
    refine lv_lsub hx hb dX11_isWorseTo_40 ?_
    refine x_aload_n (o := (some a0)) hx hb dX11_isWorseTo_41 rfl (lv_at hl 1 rfl) ?_
    replace hF := xbind hF; obtain ⟨w7, ew7, hF⟩ := hF
    refine x_getR (o := (some a0)) (ci := 11) (C := RX11) (T := TX11) (N := 42) hx hb hts iw_X11 hown hR rfl 32 (by decide) mm_975 (Or.inl rfl) ew7 dX11_isWorseTo_42 ?_
    refine lv_iload hx hb dX11_isWorseTo_45 (lv_at hl 5 rfl) ?_
    refine lv_iconst (v := 1) hx hb dX11_isWorseTo_47 (by decide) ?_
    refine lv_iadd hx hb dX11_isWorseTo_48 ?_
    replace hF := xbind hF; obtain ⟨v8, ev8, hF⟩ := hF
    refine x_lld (o := w7) hx hb hR ev8 dX11_isWorseTo_49 ?_
    refine x_aload_n (o := (some a0)) hx hb dX11_isWorseTo_50 rfl (lv_at hl 1 rfl) ?_
    replace hF := xbind hF; obtain ⟨w9, ew9, hF⟩ := hF
    refine x_getR (o := (some a0)) (ci := 11) (C := RX11) (T := TX11) (N := 42) hx hb hts iw_X11 hown hR rfl 32 (by decide) mm_975 (Or.inl rfl) ew9 dX11_isWorseTo_51 ?_
    refine lv_iload hx hb dX11_isWorseTo_54 (lv_at hl 0 rfl) ?_
    replace hF := xbind hF; obtain ⟨v10, ev10, hF⟩ := hF
    refine x_lld (o := w9) hx hb hR ev10 dX11_isWorseTo_56 ?_
    refine lv_lsub hx hb dX11_isWorseTo_57 ?_
    replace hF := xbind hF; obtain ⟨b12, eb12, hF⟩ := hF
    replace hF := xbind hF; obtain ⟨v11, ev11, hF⟩ := hF
    refine x_callV (o := (some a0)) (ci := 11) (As := [.int x1, .int x3, .long (v4 - v6), .long (v8 - v10)]) (rest := []) (v := (some (.int v11))) (k := 4) hx hb hml hown hts hR hS eb12 rfl rfl (t_X11_isWorse l D G h b12 x1 x3 (v4 - v6) (v8 - v10) v11 ev11) f_X11_isWorse mm_1185 mm_1187 mm_46 rfl hl.1 rfl (by first | exact Nat.le_of_ble_eq_true rfl | simp [xrf_cat, xcI, xcJ, xcA]) dX11_isWorseTo_58 (by decide) (by decide) rfl (fun H locs hR hS => ?_)
    replace hF := xguard hF; obtain ⟨c13, hF⟩ := hF
    cases hF
    exact x_iret hx hb hr (xnarZ c13) hlk hR hS (by decide) (by decide) dX11_isWorseTo_61
  · replace hF := xiff c1 hF
    refine lv_iconst (v := 0) hx hb dX11_isWorseTo_9 (by decide) ?_
    refine lv_goto (tgt := 19) hx hb dX11_isWorseTo_10 (by decide) ?_
    refine lv_istore (lv' := [(5, .int 0), (0, va_rf (some a0)), (1, .int x1), (2, .int x2), (3, .int x3), (4, .int x4)]) hx hb dX11_isWorseTo_19 hl (by decide) (by first | rfl | (simp [xrf_cat, xcI, xcJ, xcA]; done) | (simp [xrf_cat, xcI, xcJ, xcA]; decide)) (fun ls hl => ?_)
    refine x_aload_n (o := (some a0)) hx hb dX11_isWorseTo_21 rfl (lv_at hl 1 rfl) ?_
    refine lv_iload_n hx hb dX11_isWorseTo_22 rfl (lv_at hl 2 rfl) ?_
    refine lv_iload_n hx hb dX11_isWorseTo_23 rfl (lv_at hl 4 rfl) ?_
    refine x_aload_n (o := (some a0)) hx hb dX11_isWorseTo_24 rfl (lv_at hl 1 rfl) ?_
    replace hF := xbind hF; obtain ⟨w14, ew14, hF⟩ := hF
    refine x_getR (o := (some a0)) (ci := 11) (C := RX11) (T := TX11) (N := 42) hx hb hts iw_X11 hown hR rfl 31 (by decide) mm_974 (Or.inl rfl) ew14 dX11_isWorseTo_25 ?_
    refine lv_iload hx hb dX11_isWorseTo_28 (lv_at hl 5 rfl) ?_
    refine lv_iconst (v := 1) hx hb dX11_isWorseTo_30 (by decide) ?_
    refine lv_iadd hx hb dX11_isWorseTo_31 ?_
    replace hF := xbind hF; obtain ⟨v15, ev15, hF⟩ := hF
    refine x_lld (o := w14) hx hb hR ev15 dX11_isWorseTo_32 ?_
    refine x_aload_n (o := (some a0)) hx hb dX11_isWorseTo_33 rfl (lv_at hl 1 rfl) ?_
    replace hF := xbind hF; obtain ⟨w16, ew16, hF⟩ := hF
    refine x_getR (o := (some a0)) (ci := 11) (C := RX11) (T := TX11) (N := 42) hx hb hts iw_X11 hown hR rfl 31 (by decide) mm_974 (Or.inl rfl) ew16 dX11_isWorseTo_34 ?_
    refine lv_iload hx hb dX11_isWorseTo_37 (lv_at hl 0 rfl) ?_
    replace hF := xbind hF; obtain ⟨v17, ev17, hF⟩ := hF
    refine x_lld (o := w16) hx hb hR ev17 dX11_isWorseTo_39 ?_
    refine lv_lsub hx hb dX11_isWorseTo_40 ?_
    refine x_aload_n (o := (some a0)) hx hb dX11_isWorseTo_41 rfl (lv_at hl 1 rfl) ?_
    replace hF := xbind hF; obtain ⟨w18, ew18, hF⟩ := hF
    refine x_getR (o := (some a0)) (ci := 11) (C := RX11) (T := TX11) (N := 42) hx hb hts iw_X11 hown hR rfl 32 (by decide) mm_975 (Or.inl rfl) ew18 dX11_isWorseTo_42 ?_
    refine lv_iload hx hb dX11_isWorseTo_45 (lv_at hl 5 rfl) ?_
    refine lv_iconst (v := 1) hx hb dX11_isWorseTo_47 (by decide) ?_
    refine lv_iadd hx hb dX11_isWorseTo_48 ?_
    replace hF := xbind hF; obtain ⟨v19, ev19, hF⟩ := hF
    refine x_lld (o := w18) hx hb hR ev19 dX11_isWorseTo_49 ?_
    refine x_aload_n (o := (some a0)) hx hb dX11_isWorseTo_50 rfl (lv_at hl 1 rfl) ?_
    replace hF := xbind hF; obtain ⟨w20, ew20, hF⟩ := hF
    refine x_getR (o := (some a0)) (ci := 11) (C := RX11) (T := TX11) (N := 42) hx hb hts iw_X11 hown hR rfl 32 (by decide) mm_975 (Or.inl rfl) ew20 dX11_isWorseTo_51 ?_
    refine lv_iload hx hb dX11_isWorseTo_54 (lv_at hl 0 rfl) ?_
    replace hF := xbind hF; obtain ⟨v21, ev21, hF⟩ := hF
    refine x_lld (o := w20) hx hb hR ev21 dX11_isWorseTo_56 ?_
    refine lv_lsub hx hb dX11_isWorseTo_57 ?_
    replace hF := xbind hF; obtain ⟨b23, eb23, hF⟩ := hF
    replace hF := xbind hF; obtain ⟨v22, ev22, hF⟩ := hF
    refine x_callV (o := (some a0)) (ci := 11) (As := [.int x1, .int x3, .long (v15 - v17), .long (v19 - v21)]) (rest := []) (v := (some (.int v22))) (k := 4) hx hb hml hown hts hR hS eb23 rfl rfl (t_X11_isWorse l D G h b23 x1 x3 (v15 - v17) (v19 - v21) v22 ev22) f_X11_isWorse mm_1185 mm_1187 mm_46 rfl hl.1 rfl (by first | exact Nat.le_of_ble_eq_true rfl | simp [xrf_cat, xcI, xcJ, xcA]) dX11_isWorseTo_58 (by decide) (by decide) rfl (fun H locs hR hS => ?_)
    replace hF := xguard hF; obtain ⟨c24, hF⟩ := hF
    cases hF
    exact x_iret hx hb hr (xnarZ c24) hlk hR hS (by decide) (by decide) dX11_isWorseTo_61
def rm_X11_ringsTill : Room := { frames := 2, cells := 0, slots := 0, locals := 51 }
theorem f_X11_ringsTill : xM yX11_ringsTill cX11_ringsTill 7 (some .int) 4 := ⟨mm_1214, mm_62, by decide +kernel, by decide +kernel⟩
theorem dX11_ringsTill_0 : decode cX11_ringsTill 0 = .ok (.iconst 0, 1) := by decide +kernel
theorem dX11_ringsTill_1 : decode cX11_ringsTill 1 = .ok (.istore 5, 2) := by decide +kernel
theorem dX11_ringsTill_3 : decode cX11_ringsTill 3 = .ok (.iconst 0, 1) := by decide +kernel
theorem dX11_ringsTill_4 : decode cX11_ringsTill 4 = .ok (.istore 6, 2) := by decide +kernel
theorem dX11_ringsTill_6 : decode cX11_ringsTill 6 = .ok (.iload 6, 2) := by decide +kernel
theorem dX11_ringsTill_8 : decode cX11_ringsTill 8 = .ok (.aload_n 0, 1) := by decide +kernel
theorem dX11_ringsTill_9 : decode cX11_ringsTill 9 = .ok (.getfield 110, 3) := by decide +kernel
theorem dX11_ringsTill_12 : decode cX11_ringsTill 12 = .ok (.if_icmp .gt 45, 3) := by decide +kernel
theorem dX11_ringsTill_15 : decode cX11_ringsTill 15 = .ok (.iload 5, 2) := by decide +kernel
theorem dX11_ringsTill_17 : decode cX11_ringsTill 17 = .ok (.aload_n 0, 1) := by decide +kernel
theorem dX11_ringsTill_18 : decode cX11_ringsTill 18 = .ok (.iload_n 1, 1) := by decide +kernel
theorem dX11_ringsTill_19 : decode cX11_ringsTill 19 = .ok (.iload_n 3, 1) := by decide +kernel
theorem dX11_ringsTill_20 : decode cX11_ringsTill 20 = .ok (.iload 4, 2) := by decide +kernel
theorem dX11_ringsTill_22 : decode cX11_ringsTill 22 = .ok (.iload 6, 2) := by decide +kernel
theorem dX11_ringsTill_24 : decode cX11_ringsTill 24 = .ok (.invokevirtual 204, 3) := by decide +kernel
theorem dX11_ringsTill_27 : decode cX11_ringsTill 27 = .ok (.ifCond .eq 20, 3) := by decide +kernel
theorem dX11_ringsTill_30 : decode cX11_ringsTill 30 = .ok (.aload_n 0, 1) := by decide +kernel
theorem dX11_ringsTill_31 : decode cX11_ringsTill 31 = .ok (.iload_n 1, 1) := by decide +kernel
theorem dX11_ringsTill_32 : decode cX11_ringsTill 32 = .ok (.iload_n 2, 1) := by decide +kernel
theorem dX11_ringsTill_33 : decode cX11_ringsTill 33 = .ok (.iload 4, 2) := by decide +kernel
theorem dX11_ringsTill_35 : decode cX11_ringsTill 35 = .ok (.iload 6, 2) := by decide +kernel
theorem dX11_ringsTill_37 : decode cX11_ringsTill 37 = .ok (.invokevirtual 204, 3) := by decide +kernel
theorem dX11_ringsTill_40 : decode cX11_ringsTill 40 = .ok (.ifCond .eq 7, 3) := by decide +kernel
theorem dX11_ringsTill_43 : decode cX11_ringsTill 43 = .ok (.iconst 1, 1) := by decide +kernel
theorem dX11_ringsTill_44 : decode cX11_ringsTill 44 = .ok (.goto 4, 3) := by decide +kernel
theorem dX11_ringsTill_47 : decode cX11_ringsTill 47 = .ok (.iconst 0, 1) := by decide +kernel
theorem dX11_ringsTill_48 : decode cX11_ringsTill 48 = .ok (.iadd, 1) := by decide +kernel
theorem dX11_ringsTill_49 : decode cX11_ringsTill 49 = .ok (.istore 5, 2) := by decide +kernel
theorem dX11_ringsTill_51 : decode cX11_ringsTill 51 = .ok (.iinc 6 1, 3) := by decide +kernel
theorem dX11_ringsTill_54 : decode cX11_ringsTill 54 = .ok (.goto (-48), 3) := by decide +kernel
theorem dX11_ringsTill_57 : decode cX11_ringsTill 57 = .ok (.iload 5, 2) := by decide +kernel
theorem dX11_ringsTill_59 : decode cX11_ringsTill 59 = .ok (.ireturn, 1) := by decide +kernel
def F_X11_ringsTill_6 (G : Nat → Nat) (h : xH) (a0 : Nat) (x1 : Int32) (x2 : Int32) (x3 : Int32) (x4 : Int32) : Nat → Int32 → Int32 → Option Int32
  | 0, _, _ => none
  | n + 1, x5, x6 =>
    (gI h (some a0) 11 9).bind fun v1 =>
    if v1 < x6 then
      some x5
    else
    (xc h (some a0) 11).bind fun b4 =>
    (F_X11_isWorseTo G h b4 x1 x3 x4 x6).bind fun v3 =>
    if v3 = 0 then
      xl (x5 + 0) fun v6 =>
      xl (x6 + 1) fun v7 =>
      F_X11_ringsTill_6 G h a0 x1 x2 x3 x4 n v6 v7
    else
    (xc h (some a0) 11).bind fun b9 =>
    (F_X11_isWorseTo G h b9 x1 x2 x4 x6).bind fun v8 =>
    if v8 = 0 then
      xl (x5 + 0) fun v11 =>
      xl (x6 + 1) fun v12 =>
      F_X11_ringsTill_6 G h a0 x1 x2 x3 x4 n v11 v12
    else
    xl (x5 + 1) fun v13 =>
    xl (x6 + 1) fun v14 =>
    F_X11_ringsTill_6 G h a0 x1 x2 x3 x4 n v13 v14
set_option maxHeartbeats 4000000 in
set_option maxRecDepth 100000 in
theorem tl_X11_ringsTill_6 {p : Program} {l : Launch} {e : Env} {s : State} {m : MethodId} {args : Array Value} {below : List Frame} {meth : Method} {c : Code} {D : va_G} {r : Int32} (hx : p.tables.exec = Jvm.exec) (hb : c.code = cX11_ringsTill) (hr : meth.sig.returnType = (some .int)) (hlk : meth.locks = false) (hml : c.maxLocals = 7) (hown : s.vm.findClass RX11 = some m.cls) (hnm : meth.name = "ringsTill") (hts : ∀ w ∈ xt, w.before args s = true) (G : Nat → Nat) (h : xH) (a0 : Nat) (x1 : Int32) (x2 : Int32) (x3 : Int32) (x4 : Int32) : ∀ (n : Nat) (x5 : Int32) (x6 : Int32) (H : Heap) (locs : List Loc) (ls : Array Slot), F_X11_ringsTill_6 G h a0 x1 x2 x3 x4 n x5 x6 = some r → xR D G h s H → va_S (xA G) s.heap H locs → lv_has ls 7 [(0, va_rf (some a0)), (1, .int x1), (2, .int x2), (3, .int x3), (4, .int x4), (5, .int x5), (6, .int x6)] → W p l e rm_X11_ringsTill s m args below meth c H locs 0 0 (MQ below (xQ D G (some (.int r)) h) args s rm_X11_ringsTill.cells rm_X11_ringsTill.slots (xA G)) (F0 m 6 ls []) := by
  intro n
  induction n with
  | zero =>
    intro x5 x6 H locs ls hF
    rw [F_X11_ringsTill_6.eq_1] at hF
    cases hF
  | succ n ih =>
    intro x5 x6 H locs ls hF hR hS hl
    rw [F_X11_ringsTill_6.eq_2] at hF
    refine lv_iload hx hb dX11_ringsTill_6 (lv_at hl 6 rfl) ?_
    refine x_aload_n (o := (some a0)) hx hb dX11_ringsTill_8 rfl (lv_at hl 0 rfl) ?_
    replace hF := xbind hF; obtain ⟨v1, ev1, hF⟩ := hF
    refine x_getI (o := (some a0)) (ci := 11) (C := RX11) (T := TX11) (N := 42) hx hb hts iw_X11 hown hR rfl 9 (by decide) mm_952 (Or.inl rfl) ev1 dX11_ringsTill_9 ?_
    refine lv_icmp_gt (tgt := 57) hx hb dX11_ringsTill_12 (by decide) (fun c2 => ?_) (fun c2 => ?_)
    · replace hF := xift c2 hF
      refine lv_iload hx hb dX11_ringsTill_57 (lv_at hl 5 rfl) ?_
      cases hF
      exact x_iret hx hb hr rfl hlk hR hS (by decide) (by decide) dX11_ringsTill_59
    · replace hF := xiff c2 hF
      refine lv_iload hx hb dX11_ringsTill_15 (lv_at hl 5 rfl) ?_
      refine x_aload_n (o := (some a0)) hx hb dX11_ringsTill_17 rfl (lv_at hl 0 rfl) ?_
      refine lv_iload_n hx hb dX11_ringsTill_18 rfl (lv_at hl 1 rfl) ?_
      refine lv_iload_n hx hb dX11_ringsTill_19 rfl (lv_at hl 3 rfl) ?_
      refine lv_iload hx hb dX11_ringsTill_20 (lv_at hl 4 rfl) ?_
      refine lv_iload hx hb dX11_ringsTill_22 (lv_at hl 6 rfl) ?_
      replace hF := xbind hF; obtain ⟨b4, eb4, hF⟩ := hF
      replace hF := xbind hF; obtain ⟨v3, ev3, hF⟩ := hF
      refine x_callV (o := (some a0)) (ci := 11) (As := [.int x1, .int x3, .int x4, .int x6]) (rest := [.int x5]) (v := (some (.int v3))) (k := 4) hx hb hml hown hts hR hS eb4 rfl rfl (t_X11_isWorseTo l D G h b4 x1 x3 x4 x6 v3 ev3) f_X11_isWorseTo mm_1215 mm_1217 mm_51 rfl hl.1 rfl (by first | exact Nat.le_of_ble_eq_true rfl | simp [xrf_cat, xcI, xcJ, xcA]) dX11_ringsTill_24 (by decide) (by decide) rfl (fun H locs hR hS => ?_)
      refine lv_if_eq (tgt := 47) hx hb dX11_ringsTill_27 (by decide) (fun c5 => ?_) (fun c5 => ?_)
      · replace hF := xift c5 hF
        refine lv_iconst (v := 0) hx hb dX11_ringsTill_47 (by decide) ?_
        refine lv_iadd hx hb dX11_ringsTill_48 ?_
        refine lv_topi (fun v6 ev6 => ?_)
        replace hF := xlet ev6 hF
        refine lv_istore (lv' := [(5, .int v6), (0, va_rf (some a0)), (1, .int x1), (2, .int x2), (3, .int x3), (4, .int x4), (6, .int x6)]) hx hb dX11_ringsTill_49 hl (by decide) (by first | rfl | (simp [xrf_cat, xcI, xcJ, xcA]; done) | (simp [xrf_cat, xcI, xcJ, xcA]; decide)) (fun ls hl => ?_)
        obtain ⟨v7, ev7⟩ : ∃ z : Int32, z = (x6 + 1) := ⟨_, rfl⟩
        replace hF := xlet ev7 hF
        refine lv_iinc (v := v7) (lv' := [(6, .int v7), (5, .int v6), (0, va_rf (some a0)), (1, .int x1), (2, .int x2), (3, .int x3), (4, .int x4)]) hx hb dX11_ringsTill_51 hl (k := 6) rfl (by rw [ev7]; rfl) (by decide) (by first | rfl | (simp [xrf_cat, xcI, xcJ, xcA]; done) | (simp [xrf_cat, xcI, xcJ, xcA]; decide)) (fun ls hl => ?_)
        refine lv_goto (tgt := 6) hx hb dX11_ringsTill_54 (by decide) ?_
        exact ih v6 v7 _ _ _ hF hR hS (lv_sub hl [2, 3, 4, 5, 6, 1, 0] rfl)
      · replace hF := xiff c5 hF
        refine x_aload_n (o := (some a0)) hx hb dX11_ringsTill_30 rfl (lv_at hl 0 rfl) ?_
        refine lv_iload_n hx hb dX11_ringsTill_31 rfl (lv_at hl 1 rfl) ?_
        refine lv_iload_n hx hb dX11_ringsTill_32 rfl (lv_at hl 2 rfl) ?_
        refine lv_iload hx hb dX11_ringsTill_33 (lv_at hl 4 rfl) ?_
        refine lv_iload hx hb dX11_ringsTill_35 (lv_at hl 6 rfl) ?_
        replace hF := xbind hF; obtain ⟨b9, eb9, hF⟩ := hF
        replace hF := xbind hF; obtain ⟨v8, ev8, hF⟩ := hF
        refine x_callV (o := (some a0)) (ci := 11) (As := [.int x1, .int x2, .int x4, .int x6]) (rest := [.int x5]) (v := (some (.int v8))) (k := 4) hx hb hml hown hts hR hS eb9 rfl rfl (t_X11_isWorseTo l D G h b9 x1 x2 x4 x6 v8 ev8) f_X11_isWorseTo mm_1215 mm_1217 mm_51 rfl hl.1 rfl (by first | exact Nat.le_of_ble_eq_true rfl | simp [xrf_cat, xcI, xcJ, xcA]) dX11_ringsTill_37 (by decide) (by decide) rfl (fun H locs hR hS => ?_)
        refine lv_if_eq (tgt := 47) hx hb dX11_ringsTill_40 (by decide) (fun c10 => ?_) (fun c10 => ?_)
        · replace hF := xift c10 hF
          refine lv_iconst (v := 0) hx hb dX11_ringsTill_47 (by decide) ?_
          refine lv_iadd hx hb dX11_ringsTill_48 ?_
          refine lv_topi (fun v11 ev11 => ?_)
          replace hF := xlet ev11 hF
          refine lv_istore (lv' := [(5, .int v11), (0, va_rf (some a0)), (1, .int x1), (2, .int x2), (3, .int x3), (4, .int x4), (6, .int x6)]) hx hb dX11_ringsTill_49 hl (by decide) (by first | rfl | (simp [xrf_cat, xcI, xcJ, xcA]; done) | (simp [xrf_cat, xcI, xcJ, xcA]; decide)) (fun ls hl => ?_)
          obtain ⟨v12, ev12⟩ : ∃ z : Int32, z = (x6 + 1) := ⟨_, rfl⟩
          replace hF := xlet ev12 hF
          refine lv_iinc (v := v12) (lv' := [(6, .int v12), (5, .int v11), (0, va_rf (some a0)), (1, .int x1), (2, .int x2), (3, .int x3), (4, .int x4)]) hx hb dX11_ringsTill_51 hl (k := 6) rfl (by rw [ev12]; rfl) (by decide) (by first | rfl | (simp [xrf_cat, xcI, xcJ, xcA]; done) | (simp [xrf_cat, xcI, xcJ, xcA]; decide)) (fun ls hl => ?_)
          refine lv_goto (tgt := 6) hx hb dX11_ringsTill_54 (by decide) ?_
          exact ih v11 v12 _ _ _ hF hR hS (lv_sub hl [2, 3, 4, 5, 6, 1, 0] rfl)
        · replace hF := xiff c10 hF
          refine lv_iconst (v := 1) hx hb dX11_ringsTill_43 (by decide) ?_
          refine lv_goto (tgt := 48) hx hb dX11_ringsTill_44 (by decide) ?_
          refine lv_iadd hx hb dX11_ringsTill_48 ?_
          refine lv_topi (fun v13 ev13 => ?_)
          replace hF := xlet ev13 hF
          refine lv_istore (lv' := [(5, .int v13), (0, va_rf (some a0)), (1, .int x1), (2, .int x2), (3, .int x3), (4, .int x4), (6, .int x6)]) hx hb dX11_ringsTill_49 hl (by decide) (by first | rfl | (simp [xrf_cat, xcI, xcJ, xcA]; done) | (simp [xrf_cat, xcI, xcJ, xcA]; decide)) (fun ls hl => ?_)
          obtain ⟨v14, ev14⟩ : ∃ z : Int32, z = (x6 + 1) := ⟨_, rfl⟩
          replace hF := xlet ev14 hF
          refine lv_iinc (v := v14) (lv' := [(6, .int v14), (5, .int v13), (0, va_rf (some a0)), (1, .int x1), (2, .int x2), (3, .int x3), (4, .int x4)]) hx hb dX11_ringsTill_51 hl (k := 6) rfl (by rw [ev14]; rfl) (by decide) (by first | rfl | (simp [xrf_cat, xcI, xcJ, xcA]; done) | (simp [xrf_cat, xcI, xcJ, xcA]; decide)) (fun ls hl => ?_)
          refine lv_goto (tgt := 6) hx hb dX11_ringsTill_54 (by decide) ?_
          exact ih v13 v14 _ _ _ hF hR hS (lv_sub hl [2, 3, 4, 5, 6, 1, 0] rfl)
def F_X11_ringsTill (G : Nat → Nat) (h : xH) (a0 : Nat) (x1 : Int32) (x2 : Int32) (x3 : Int32) (x4 : Int32) : Option Int32 :=
  F_X11_ringsTill_6 G h a0 x1 x2 x3 x4 xN 0 0
set_option maxHeartbeats 4000000 in
set_option maxRecDepth 100000 in
theorem t_X11_ringsTill (l : Launch) (D : va_G) (G : Nat → Nat) (h : xH) (a0 : Nat) (x1 : Int32) (x2 : Int32) (x3 : Int32) (x4 : Int32) (r : Int32) (hF : F_X11_ringsTill G h a0 x1 x2 x3 x4 = some r) : xC l yX11_ringsTill cX11_ringsTill 7 (some .int) (rm_X11_ringsTill) D G h [.ref a0, .int x1, .int x2, .int x3, .int x4] (some (.int r)) h := by
  refine xC_of (by decide) (by first | decide | exact Nat.le_of_ble_eq_true rfl) ?_
  intro p e s m args below meth c ls hx hb hr hlk hml hown hnm hts hR hS hl
  have hl : lv_has ls 7 [(0, va_rf (some a0)), (1, .int x1), (2, .int x2), (3, .int x3), (4, .int x4)] := hl
  unfold F_X11_ringsTill at hF
  refine lv_iconst (v := 0) hx hb dX11_ringsTill_0 (by decide) ?_
  refine lv_istore (lv' := [(5, .int 0), (0, va_rf (some a0)), (1, .int x1), (2, .int x2), (3, .int x3), (4, .int x4)]) hx hb dX11_ringsTill_1 hl (by decide) (by first | rfl | (simp [xrf_cat, xcI, xcJ, xcA]; done) | (simp [xrf_cat, xcI, xcJ, xcA]; decide)) (fun ls hl => ?_)
  refine lv_iconst (v := 0) hx hb dX11_ringsTill_3 (by decide) ?_
  refine lv_istore (lv' := [(6, .int 0), (5, .int 0), (0, va_rf (some a0)), (1, .int x1), (2, .int x2), (3, .int x3), (4, .int x4)]) hx hb dX11_ringsTill_4 hl (by decide) (by first | rfl | (simp [xrf_cat, xcI, xcJ, xcA]; done) | (simp [xrf_cat, xcI, xcJ, xcA]; decide)) (fun ls hl => ?_)
  refine W.widen (k := 0) (n := 0) (by decide) (by decide) ?_
  exact tl_X11_ringsTill_6 hx hb hr hlk hml hown hnm hts G h a0 x1 x2 x3 x4 _ 0 0 _ _ _ hF hR hS (lv_sub hl [2, 3, 4, 5, 6, 1, 0] rfl)
def rm_X11_best : Room := { frames := 3, cells := 0, slots := 0, locals := 83 }
theorem f_X11_best : xM yX11_best cX11_best 12 (some .int) 4 := ⟨mm_1206, mm_62, by decide +kernel, by decide +kernel⟩
theorem dX11_best_0 : decode cX11_best 0 = .ok (.aload_n 0, 1) := by decide +kernel
theorem dX11_best_1 : decode cX11_best 1 = .ok (.iconst 0, 1) := by decide +kernel
theorem dX11_best_2 : decode cX11_best 2 = .ok (.putfield 93, 3) := by decide +kernel
theorem dX11_best_5 : decode cX11_best 5 = .ok (.aload_n 0, 1) := by decide +kernel
theorem dX11_best_6 : decode cX11_best 6 = .ok (.iload_n 1, 1) := by decide +kernel
theorem dX11_best_7 : decode cX11_best 7 = .ok (.invokevirtual 137, 3) := by decide +kernel
theorem dX11_best_10 : decode cX11_best 10 = .ok (.ifCond .eq 36, 3) := by decide +kernel
theorem dX11_best_13 : decode cX11_best 13 = .ok (.iload_n 2, 1) := by decide +kernel
theorem dX11_best_14 : decode cX11_best 14 = .ok (.ifCond .lt 32, 3) := by decide +kernel
theorem dX11_best_17 : decode cX11_best 17 = .ok (.iload_n 2, 1) := by decide +kernel
theorem dX11_best_18 : decode cX11_best 18 = .ok (.sipush 300, 3) := by decide +kernel
theorem dX11_best_21 : decode cX11_best 21 = .ok (.if_icmp .gt 25, 3) := by decide +kernel
theorem dX11_best_24 : decode cX11_best 24 = .ok (.iload_n 3, 1) := by decide +kernel
theorem dX11_best_25 : decode cX11_best 25 = .ok (.ifCond .lt 21, 3) := by decide +kernel
theorem dX11_best_28 : decode cX11_best 28 = .ok (.iload_n 3, 1) := by decide +kernel
theorem dX11_best_29 : decode cX11_best 29 = .ok (.bipush 10, 2) := by decide +kernel
theorem dX11_best_31 : decode cX11_best 31 = .ok (.if_icmp .gt 15, 3) := by decide +kernel
theorem dX11_best_34 : decode cX11_best 34 = .ok (.iload 4, 2) := by decide +kernel
theorem dX11_best_36 : decode cX11_best 36 = .ok (.ifCond .lt 10, 3) := by decide +kernel
theorem dX11_best_39 : decode cX11_best 39 = .ok (.iload 4, 2) := by decide +kernel
theorem dX11_best_41 : decode cX11_best 41 = .ok (.ldc 170, 2) := by decide +kernel
theorem dX11_best_43 : decode cX11_best 43 = .ok (.if_icmp .le 5, 3) := by decide +kernel
theorem dX11_best_46 : decode cX11_best 46 = .ok (.iconst (-1), 1) := by decide +kernel
theorem dX11_best_47 : decode cX11_best 47 = .ok (.ireturn, 1) := by decide +kernel
theorem dX11_best_48 : decode cX11_best 48 = .ok (.aload_n 0, 1) := by decide +kernel
theorem dX11_best_49 : decode cX11_best 49 = .ok (.aload_n 0, 1) := by decide +kernel
theorem dX11_best_50 : decode cX11_best 50 = .ok (.getfield 29, 3) := by decide +kernel
theorem dX11_best_53 : decode cX11_best 53 = .ok (.iload_n 1, 1) := by decide +kernel
theorem dX11_best_54 : decode cX11_best 54 = .ok (.iaload, 1) := by decide +kernel
theorem dX11_best_55 : decode cX11_best 55 = .ok (.invokevirtual 207, 3) := by decide +kernel
theorem dX11_best_58 : decode cX11_best 58 = .ok (.iconst (-1), 1) := by decide +kernel
theorem dX11_best_59 : decode cX11_best 59 = .ok (.istore 5, 2) := by decide +kernel
theorem dX11_best_61 : decode cX11_best 61 = .ok (.iconst 0, 1) := by decide +kernel
theorem dX11_best_62 : decode cX11_best 62 = .ok (.istore 6, 2) := by decide +kernel
theorem dX11_best_64 : decode cX11_best 64 = .ok (.iconst 1, 1) := by decide +kernel
theorem dX11_best_65 : decode cX11_best 65 = .ok (.istore 7, 2) := by decide +kernel
theorem dX11_best_67 : decode cX11_best 67 = .ok (.iload 7, 2) := by decide +kernel
theorem dX11_best_69 : decode cX11_best 69 = .ok (.bipush 12, 2) := by decide +kernel
theorem dX11_best_71 : decode cX11_best 71 = .ok (.if_icmp .gt 125, 3) := by decide +kernel
theorem dX11_best_74 : decode cX11_best 74 = .ok (.iconst 1, 1) := by decide +kernel
theorem dX11_best_75 : decode cX11_best 75 = .ok (.istore 8, 2) := by decide +kernel
theorem dX11_best_77 : decode cX11_best 77 = .ok (.iload 8, 2) := by decide +kernel
theorem dX11_best_79 : decode cX11_best 79 = .ok (.iload 7, 2) := by decide +kernel
theorem dX11_best_81 : decode cX11_best 81 = .ok (.if_icmp .gt 109, 3) := by decide +kernel
theorem dX11_best_84 : decode cX11_best 84 = .ok (.bipush 10, 2) := by decide +kernel
theorem dX11_best_86 : decode cX11_best 86 = .ok (.istore 9, 2) := by decide +kernel
theorem dX11_best_88 : decode cX11_best 88 = .ok (.iload 9, 2) := by decide +kernel
theorem dX11_best_90 : decode cX11_best 90 = .ok (.sipush 200, 3) := by decide +kernel
theorem dX11_best_93 : decode cX11_best 93 = .ok (.if_icmp .gt 91, 3) := by decide +kernel
theorem dX11_best_96 : decode cX11_best 96 = .ok (.aload_n 0, 1) := by decide +kernel
theorem dX11_best_97 : decode cX11_best 97 = .ok (.iload_n 1, 1) := by decide +kernel
theorem dX11_best_98 : decode cX11_best 98 = .ok (.iload 7, 2) := by decide +kernel
theorem dX11_best_100 : decode cX11_best 100 = .ok (.iload 8, 2) := by decide +kernel
theorem dX11_best_102 : decode cX11_best 102 = .ok (.iload 9, 2) := by decide +kernel
theorem dX11_best_104 : decode cX11_best 104 = .ok (.iload_n 2, 1) := by decide +kernel
theorem dX11_best_105 : decode cX11_best 105 = .ok (.iload_n 3, 1) := by decide +kernel
theorem dX11_best_106 : decode cX11_best 106 = .ok (.invokevirtual 200, 3) := by decide +kernel
theorem dX11_best_109 : decode cX11_best 109 = .ok (.istore 10, 2) := by decide +kernel
theorem dX11_best_111 : decode cX11_best 111 = .ok (.iload 10, 2) := by decide +kernel
theorem dX11_best_113 : decode cX11_best 113 = .ok (.ifCond .lt 65, 3) := by decide +kernel
theorem dX11_best_116 : decode cX11_best 116 = .ok (.iload_n 3, 1) := by decide +kernel
theorem dX11_best_117 : decode cX11_best 117 = .ok (.iload 10, 2) := by decide +kernel
theorem dX11_best_119 : decode cX11_best 119 = .ok (.iload_n 2, 1) := by decide +kernel
theorem dX11_best_120 : decode cX11_best 120 = .ok (.isub, 1) := by decide +kernel
theorem dX11_best_121 : decode cX11_best 121 = .ok (.iconst 1, 1) := by decide +kernel
theorem dX11_best_122 : decode cX11_best 122 = .ok (.iadd, 1) := by decide +kernel
theorem dX11_best_123 : decode cX11_best 123 = .ok (.imul, 1) := by decide +kernel
theorem dX11_best_124 : decode cX11_best 124 = .ok (.iload 4, 2) := by decide +kernel
theorem dX11_best_126 : decode cX11_best 126 = .ok (.if_icmp .le 6, 3) := by decide +kernel
theorem dX11_best_129 : decode cX11_best 129 = .ok (.goto 49, 3) := by decide +kernel
theorem dX11_best_132 : decode cX11_best 132 = .ok (.aload_n 0, 1) := by decide +kernel
theorem dX11_best_133 : decode cX11_best 133 = .ok (.iload_n 1, 1) := by decide +kernel
theorem dX11_best_134 : decode cX11_best 134 = .ok (.iload 7, 2) := by decide +kernel
theorem dX11_best_136 : decode cX11_best 136 = .ok (.iload 8, 2) := by decide +kernel
theorem dX11_best_138 : decode cX11_best 138 = .ok (.iload 9, 2) := by decide +kernel
theorem dX11_best_140 : decode cX11_best 140 = .ok (.invokevirtual 211, 3) := by decide +kernel
theorem dX11_best_143 : decode cX11_best 143 = .ok (.istore 11, 2) := by decide +kernel
theorem dX11_best_145 : decode cX11_best 145 = .ok (.iload 5, 2) := by decide +kernel
theorem dX11_best_147 : decode cX11_best 147 = .ok (.ifCond .lt 10, 3) := by decide +kernel
theorem dX11_best_150 : decode cX11_best 150 = .ok (.iload 11, 2) := by decide +kernel
theorem dX11_best_152 : decode cX11_best 152 = .ok (.iload 6, 2) := by decide +kernel
theorem dX11_best_154 : decode cX11_best 154 = .ok (.if_icmp .ge 24, 3) := by decide +kernel
theorem dX11_best_157 : decode cX11_best 157 = .ok (.ldc 215, 2) := by decide +kernel
theorem dX11_best_159 : decode cX11_best 159 = .ok (.iload 7, 2) := by decide +kernel
theorem dX11_best_161 : decode cX11_best 161 = .ok (.imul, 1) := by decide +kernel
theorem dX11_best_162 : decode cX11_best 162 = .ok (.sipush 1000, 3) := by decide +kernel
theorem dX11_best_165 : decode cX11_best 165 = .ok (.iload 8, 2) := by decide +kernel
theorem dX11_best_167 : decode cX11_best 167 = .ok (.imul, 1) := by decide +kernel
theorem dX11_best_168 : decode cX11_best 168 = .ok (.iadd, 1) := by decide +kernel
theorem dX11_best_169 : decode cX11_best 169 = .ok (.iload 9, 2) := by decide +kernel
theorem dX11_best_171 : decode cX11_best 171 = .ok (.iadd, 1) := by decide +kernel
theorem dX11_best_172 : decode cX11_best 172 = .ok (.istore 5, 2) := by decide +kernel
theorem dX11_best_174 : decode cX11_best 174 = .ok (.iload 11, 2) := by decide +kernel
theorem dX11_best_176 : decode cX11_best 176 = .ok (.istore 6, 2) := by decide +kernel
theorem dX11_best_178 : decode cX11_best 178 = .ok (.iinc 9 10, 3) := by decide +kernel
theorem dX11_best_181 : decode cX11_best 181 = .ok (.goto (-93), 3) := by decide +kernel
theorem dX11_best_184 : decode cX11_best 184 = .ok (.iinc 8 1, 3) := by decide +kernel
theorem dX11_best_187 : decode cX11_best 187 = .ok (.goto (-110), 3) := by decide +kernel
theorem dX11_best_190 : decode cX11_best 190 = .ok (.iinc 7 1, 3) := by decide +kernel
theorem dX11_best_193 : decode cX11_best 193 = .ok (.goto (-126), 3) := by decide +kernel
theorem dX11_best_196 : decode cX11_best 196 = .ok (.iload 5, 2) := by decide +kernel
theorem dX11_best_198 : decode cX11_best 198 = .ok (.ireturn, 1) := by decide +kernel
def F_X11_best_88 (G : Nat → Nat) (h : xH) (a0 : Nat) (x1 : Int32) (x2 : Int32) (x3 : Int32) (x4 : Int32) (x7 : Int32) (x8 : Int32) (k77 : Int32 → Int32 → Int32 → Option (Int32 × xH)) : Nat → Int32 → Int32 → Int32 → Option (Int32 × xH)
  | 0, _, _, _ => none
  | n + 1, x5, x6, x9 =>
    if 200 < x9 then
      xl (x8 + 1) fun v19 =>
      k77 x5 x6 v19
    else
    (xc h (some a0) 11).bind fun b21 =>
    (F_X11_soonestOf G h b21 x1 x7 x8 x9 x2 x3).bind fun v20 =>
    if v20 < 0 then
      xl (x9 + 10) fun v23 =>
      F_X11_best_88 G h a0 x1 x2 x3 x4 x7 x8 k77 n x5 x6 v23
    else
    if (x3 * ((v20 - x2) + 1)) ≤ x4 then
      (xc h (some a0) 11).bind fun b26 =>
      (F_X11_ringsTill G h b26 x1 x7 x8 x9).bind fun v25 =>
      if x5 < 0 then
        xl (((1000000 * x7) + (1000 * x8)) + x9) fun v28 =>
        xl (x9 + 10) fun v29 =>
        F_X11_best_88 G h a0 x1 x2 x3 x4 x7 x8 k77 n v28 v25 v29
      else
      if x6 ≤ v25 then
        xl (x9 + 10) fun v31 =>
        F_X11_best_88 G h a0 x1 x2 x3 x4 x7 x8 k77 n x5 x6 v31
      else
      xl (((1000000 * x7) + (1000 * x8)) + x9) fun v32 =>
      xl (x9 + 10) fun v33 =>
      F_X11_best_88 G h a0 x1 x2 x3 x4 x7 x8 k77 n v32 v25 v33
    else
    xl (x9 + 10) fun v34 =>
    F_X11_best_88 G h a0 x1 x2 x3 x4 x7 x8 k77 n x5 x6 v34
set_option maxHeartbeats 4000000 in
set_option maxRecDepth 100000 in
theorem tl_X11_best_88 {p : Program} {l : Launch} {e : Env} {s : State} {m : MethodId} {args : Array Value} {below : List Frame} {meth : Method} {c : Code} {D : va_G} {r : Int32} {h' : xH} (hx : p.tables.exec = Jvm.exec) (hb : c.code = cX11_best) (hr : meth.sig.returnType = (some .int)) (hlk : meth.locks = false) (hml : c.maxLocals = 12) (hown : s.vm.findClass RX11 = some m.cls) (hnm : meth.name = "best") (hts : ∀ w ∈ xt, w.before args s = true) (G : Nat → Nat) (h : xH) (a0 : Nat) (x1 : Int32) (x2 : Int32) (x3 : Int32) (x4 : Int32) (x7 : Int32) (x8 : Int32) (k77 : Int32 → Int32 → Int32 → Option (Int32 × xH)) (hk77 : ∀ (x5' : Int32) (x6' : Int32) (x8' : Int32) (H : Heap) (locs : List Loc) (ls : Array Slot), k77 x5' x6' x8' = some (r, h') → xR D G h s H → va_S (xA G) s.heap H locs → lv_has ls 12 [(0, va_rf (some a0)), (1, .int x1), (2, .int x2), (3, .int x3), (4, .int x4), (5, .int x5'), (6, .int x6'), (7, .int x7), (8, .int x8')] → W p l e rm_X11_best s m args below meth c H locs 0 0 (MQ below (xQ D G (some (.int r)) h') args s rm_X11_best.cells rm_X11_best.slots (xA G)) (F0 m 77 ls [])) : ∀ (n : Nat) (x5 : Int32) (x6 : Int32) (x9 : Int32) (H : Heap) (locs : List Loc) (ls : Array Slot), F_X11_best_88 G h a0 x1 x2 x3 x4 x7 x8 k77 n x5 x6 x9 = some (r, h') → xR D G h s H → va_S (xA G) s.heap H locs → lv_has ls 12 [(0, va_rf (some a0)), (1, .int x1), (2, .int x2), (3, .int x3), (4, .int x4), (5, .int x5), (6, .int x6), (7, .int x7), (8, .int x8), (9, .int x9)] → W p l e rm_X11_best s m args below meth c H locs 0 0 (MQ below (xQ D G (some (.int r)) h') args s rm_X11_best.cells rm_X11_best.slots (xA G)) (F0 m 88 ls []) := by
  intro n
  induction n with
  | zero =>
    intro x5 x6 x9 H locs ls hF
    rw [F_X11_best_88.eq_1] at hF
    cases hF
  | succ n ih =>
    intro x5 x6 x9 H locs ls hF hR hS hl
    rw [F_X11_best_88.eq_2] at hF
    refine lv_iload hx hb dX11_best_88 (lv_at hl 9 rfl) ?_
    refine lv_sipush (v := 200) hx hb dX11_best_90 (by decide) ?_
    refine lv_icmp_gt (tgt := 184) hx hb dX11_best_93 (by decide) (fun c18 => ?_) (fun c18 => ?_)
    · replace hF := xift c18 hF
      obtain ⟨v19, ev19⟩ : ∃ z : Int32, z = (x8 + 1) := ⟨_, rfl⟩
      replace hF := xlet ev19 hF
      refine lv_iinc (v := v19) (lv' := [(8, .int v19), (0, va_rf (some a0)), (1, .int x1), (2, .int x2), (3, .int x3), (4, .int x4), (5, .int x5), (6, .int x6), (7, .int x7), (9, .int x9)]) hx hb dX11_best_184 hl (k := 8) rfl (by rw [ev19]; rfl) (by decide) (by first | rfl | (simp [xrf_cat, xcI, xcJ, xcA]; done) | (simp [xrf_cat, xcI, xcJ, xcA]; decide)) (fun ls hl => ?_)
      refine lv_goto (tgt := 77) hx hb dX11_best_187 (by decide) ?_
      exact hk77 x5 x6 v19 _ _ _ hF hR hS (lv_sub hl [1, 2, 3, 4, 5, 6, 7, 8, 0] rfl)
    · replace hF := xiff c18 hF
      refine x_aload_n (o := (some a0)) hx hb dX11_best_96 rfl (lv_at hl 0 rfl) ?_
      refine lv_iload_n hx hb dX11_best_97 rfl (lv_at hl 1 rfl) ?_
      refine lv_iload hx hb dX11_best_98 (lv_at hl 7 rfl) ?_
      refine lv_iload hx hb dX11_best_100 (lv_at hl 8 rfl) ?_
      refine lv_iload hx hb dX11_best_102 (lv_at hl 9 rfl) ?_
      refine lv_iload_n hx hb dX11_best_104 rfl (lv_at hl 2 rfl) ?_
      refine lv_iload_n hx hb dX11_best_105 rfl (lv_at hl 3 rfl) ?_
      replace hF := xbind hF; obtain ⟨b21, eb21, hF⟩ := hF
      replace hF := xbind hF; obtain ⟨v20, ev20, hF⟩ := hF
      refine x_callV (o := (some a0)) (ci := 11) (As := [.int x1, .int x7, .int x8, .int x9, .int x2, .int x3]) (rest := []) (v := (some (.int v20))) (k := 6) hx hb hml hown hts hR hS eb21 rfl rfl (t_X11_soonestOf l D G h b21 x1 x7 x8 x9 x2 x3 v20 ev20) f_X11_soonestOf mm_1194 mm_1196 mm_47 rfl hl.1 rfl (by first | exact Nat.le_of_ble_eq_true rfl | simp [xrf_cat, xcI, xcJ, xcA]) dX11_best_106 (by decide) (by decide) rfl (fun H locs hR hS => ?_)
      refine lv_istore (lv' := [(10, .int v20), (0, va_rf (some a0)), (1, .int x1), (2, .int x2), (3, .int x3), (4, .int x4), (5, .int x5), (6, .int x6), (7, .int x7), (8, .int x8), (9, .int x9)]) hx hb dX11_best_109 hl (by decide) (by first | rfl | (simp [xrf_cat, xcI, xcJ, xcA]; done) | (simp [xrf_cat, xcI, xcJ, xcA]; decide)) (fun ls hl => ?_)
      refine lv_iload hx hb dX11_best_111 (lv_at hl 0 rfl) ?_
      refine lv_if_lt (tgt := 178) hx hb dX11_best_113 (by decide) (fun c22 => ?_) (fun c22 => ?_)
      · replace hF := xift c22 hF
        obtain ⟨v23, ev23⟩ : ∃ z : Int32, z = (x9 + 10) := ⟨_, rfl⟩
        replace hF := xlet ev23 hF
        refine lv_iinc (v := v23) (lv' := [(9, .int v23), (10, .int v20), (0, va_rf (some a0)), (1, .int x1), (2, .int x2), (3, .int x3), (4, .int x4), (5, .int x5), (6, .int x6), (7, .int x7), (8, .int x8)]) hx hb dX11_best_178 hl (k := 10) rfl (by rw [ev23]; rfl) (by decide) (by first | rfl | (simp [xrf_cat, xcI, xcJ, xcA]; done) | (simp [xrf_cat, xcI, xcJ, xcA]; decide)) (fun ls hl => ?_)
        refine lv_goto (tgt := 88) hx hb dX11_best_181 (by decide) ?_
        exact ih x5 x6 v23 _ _ _ hF hR hS (lv_sub hl [2, 3, 4, 5, 6, 7, 8, 9, 10, 0] rfl)
      · replace hF := xiff c22 hF
        refine lv_iload_n hx hb dX11_best_116 rfl (lv_at hl 4 rfl) ?_
        refine lv_iload hx hb dX11_best_117 (lv_at hl 0 rfl) ?_
        refine lv_iload_n hx hb dX11_best_119 rfl (lv_at hl 3 rfl) ?_
        refine lv_isub hx hb dX11_best_120 ?_
        refine lv_iconst (v := 1) hx hb dX11_best_121 (by decide) ?_
        refine lv_iadd hx hb dX11_best_122 ?_
        refine lv_imul hx hb dX11_best_123 ?_
        refine lv_iload hx hb dX11_best_124 (lv_at hl 5 rfl) ?_
        refine lv_icmp_le (tgt := 132) hx hb dX11_best_126 (by decide) (fun c24 => ?_) (fun c24 => ?_)
        · replace hF := xift c24 hF
          refine x_aload_n (o := (some a0)) hx hb dX11_best_132 rfl (lv_at hl 1 rfl) ?_
          refine lv_iload_n hx hb dX11_best_133 rfl (lv_at hl 2 rfl) ?_
          refine lv_iload hx hb dX11_best_134 (lv_at hl 8 rfl) ?_
          refine lv_iload hx hb dX11_best_136 (lv_at hl 9 rfl) ?_
          refine lv_iload hx hb dX11_best_138 (lv_at hl 10 rfl) ?_
          replace hF := xbind hF; obtain ⟨b26, eb26, hF⟩ := hF
          replace hF := xbind hF; obtain ⟨v25, ev25, hF⟩ := hF
          refine x_callV (o := (some a0)) (ci := 11) (As := [.int x1, .int x7, .int x8, .int x9]) (rest := []) (v := (some (.int v25))) (k := 4) hx hb hml hown hts hR hS eb26 rfl rfl (t_X11_ringsTill l D G h b26 x1 x7 x8 x9 v25 ev25) f_X11_ringsTill mm_1211 mm_1213 mm_50 rfl hl.1 rfl (by first | exact Nat.le_of_ble_eq_true rfl | simp [xrf_cat, xcI, xcJ, xcA]) dX11_best_140 (by decide) (by decide) rfl (fun H locs hR hS => ?_)
          refine lv_istore (lv' := [(11, .int v25), (10, .int v20), (0, va_rf (some a0)), (1, .int x1), (2, .int x2), (3, .int x3), (4, .int x4), (5, .int x5), (6, .int x6), (7, .int x7), (8, .int x8), (9, .int x9)]) hx hb dX11_best_143 hl (by decide) (by first | rfl | (simp [xrf_cat, xcI, xcJ, xcA]; done) | (simp [xrf_cat, xcI, xcJ, xcA]; decide)) (fun ls hl => ?_)
          refine lv_iload hx hb dX11_best_145 (lv_at hl 7 rfl) ?_
          refine lv_if_lt (tgt := 157) hx hb dX11_best_147 (by decide) (fun c27 => ?_) (fun c27 => ?_)
          · replace hF := xift c27 hF
            refine lv_ldc hx hb hown (hts _ mm_1219) dX11_best_157 ?_
            refine lv_iload hx hb dX11_best_159 (lv_at hl 9 rfl) ?_
            refine lv_imul hx hb dX11_best_161 ?_
            refine lv_sipush (v := 1000) hx hb dX11_best_162 (by decide) ?_
            refine lv_iload hx hb dX11_best_165 (lv_at hl 10 rfl) ?_
            refine lv_imul hx hb dX11_best_167 ?_
            refine lv_iadd hx hb dX11_best_168 ?_
            refine lv_iload hx hb dX11_best_169 (lv_at hl 11 rfl) ?_
            refine lv_iadd hx hb dX11_best_171 ?_
            refine lv_topi (fun v28 ev28 => ?_)
            replace hF := xlet ev28 hF
            refine lv_istore (lv' := [(5, .int v28), (11, .int v25), (10, .int v20), (0, va_rf (some a0)), (1, .int x1), (2, .int x2), (3, .int x3), (4, .int x4), (6, .int x6), (7, .int x7), (8, .int x8), (9, .int x9)]) hx hb dX11_best_172 hl (by decide) (by first | rfl | (simp [xrf_cat, xcI, xcJ, xcA]; done) | (simp [xrf_cat, xcI, xcJ, xcA]; decide)) (fun ls hl => ?_)
            refine lv_iload hx hb dX11_best_174 (lv_at hl 1 rfl) ?_
            refine lv_istore (lv' := [(6, .int v25), (5, .int v28), (11, .int v25), (10, .int v20), (0, va_rf (some a0)), (1, .int x1), (2, .int x2), (3, .int x3), (4, .int x4), (7, .int x7), (8, .int x8), (9, .int x9)]) hx hb dX11_best_176 hl (by decide) (by first | rfl | (simp [xrf_cat, xcI, xcJ, xcA]; done) | (simp [xrf_cat, xcI, xcJ, xcA]; decide)) (fun ls hl => ?_)
            obtain ⟨v29, ev29⟩ : ∃ z : Int32, z = (x9 + 10) := ⟨_, rfl⟩
            replace hF := xlet ev29 hF
            refine lv_iinc (v := v29) (lv' := [(9, .int v29), (6, .int v25), (5, .int v28), (11, .int v25), (10, .int v20), (0, va_rf (some a0)), (1, .int x1), (2, .int x2), (3, .int x3), (4, .int x4), (7, .int x7), (8, .int x8)]) hx hb dX11_best_178 hl (k := 11) rfl (by rw [ev29]; rfl) (by decide) (by first | rfl | (simp [xrf_cat, xcI, xcJ, xcA]; done) | (simp [xrf_cat, xcI, xcJ, xcA]; decide)) (fun ls hl => ?_)
            refine lv_goto (tgt := 88) hx hb dX11_best_181 (by decide) ?_
            exact ih v28 v25 v29 _ _ _ hF hR hS (lv_sub hl [5, 6, 7, 8, 9, 2, 1, 10, 11, 0] rfl)
          · replace hF := xiff c27 hF
            refine lv_iload hx hb dX11_best_150 (lv_at hl 0 rfl) ?_
            refine lv_iload hx hb dX11_best_152 (lv_at hl 8 rfl) ?_
            refine lv_icmp_ge (tgt := 178) hx hb dX11_best_154 (by decide) (fun c30 => ?_) (fun c30 => ?_)
            · replace hF := xift c30 hF
              obtain ⟨v31, ev31⟩ : ∃ z : Int32, z = (x9 + 10) := ⟨_, rfl⟩
              replace hF := xlet ev31 hF
              refine lv_iinc (v := v31) (lv' := [(9, .int v31), (11, .int v25), (10, .int v20), (0, va_rf (some a0)), (1, .int x1), (2, .int x2), (3, .int x3), (4, .int x4), (5, .int x5), (6, .int x6), (7, .int x7), (8, .int x8)]) hx hb dX11_best_178 hl (k := 11) rfl (by rw [ev31]; rfl) (by decide) (by first | rfl | (simp [xrf_cat, xcI, xcJ, xcA]; done) | (simp [xrf_cat, xcI, xcJ, xcA]; decide)) (fun ls hl => ?_)
              refine lv_goto (tgt := 88) hx hb dX11_best_181 (by decide) ?_
              exact ih x5 x6 v31 _ _ _ hF hR hS (lv_sub hl [3, 4, 5, 6, 7, 8, 9, 10, 11, 0] rfl)
            · replace hF := xiff c30 hF
              refine lv_ldc hx hb hown (hts _ mm_1219) dX11_best_157 ?_
              refine lv_iload hx hb dX11_best_159 (lv_at hl 9 rfl) ?_
              refine lv_imul hx hb dX11_best_161 ?_
              refine lv_sipush (v := 1000) hx hb dX11_best_162 (by decide) ?_
              refine lv_iload hx hb dX11_best_165 (lv_at hl 10 rfl) ?_
              refine lv_imul hx hb dX11_best_167 ?_
              refine lv_iadd hx hb dX11_best_168 ?_
              refine lv_iload hx hb dX11_best_169 (lv_at hl 11 rfl) ?_
              refine lv_iadd hx hb dX11_best_171 ?_
              refine lv_topi (fun v32 ev32 => ?_)
              replace hF := xlet ev32 hF
              refine lv_istore (lv' := [(5, .int v32), (11, .int v25), (10, .int v20), (0, va_rf (some a0)), (1, .int x1), (2, .int x2), (3, .int x3), (4, .int x4), (6, .int x6), (7, .int x7), (8, .int x8), (9, .int x9)]) hx hb dX11_best_172 hl (by decide) (by first | rfl | (simp [xrf_cat, xcI, xcJ, xcA]; done) | (simp [xrf_cat, xcI, xcJ, xcA]; decide)) (fun ls hl => ?_)
              refine lv_iload hx hb dX11_best_174 (lv_at hl 1 rfl) ?_
              refine lv_istore (lv' := [(6, .int v25), (5, .int v32), (11, .int v25), (10, .int v20), (0, va_rf (some a0)), (1, .int x1), (2, .int x2), (3, .int x3), (4, .int x4), (7, .int x7), (8, .int x8), (9, .int x9)]) hx hb dX11_best_176 hl (by decide) (by first | rfl | (simp [xrf_cat, xcI, xcJ, xcA]; done) | (simp [xrf_cat, xcI, xcJ, xcA]; decide)) (fun ls hl => ?_)
              obtain ⟨v33, ev33⟩ : ∃ z : Int32, z = (x9 + 10) := ⟨_, rfl⟩
              replace hF := xlet ev33 hF
              refine lv_iinc (v := v33) (lv' := [(9, .int v33), (6, .int v25), (5, .int v32), (11, .int v25), (10, .int v20), (0, va_rf (some a0)), (1, .int x1), (2, .int x2), (3, .int x3), (4, .int x4), (7, .int x7), (8, .int x8)]) hx hb dX11_best_178 hl (k := 11) rfl (by rw [ev33]; rfl) (by decide) (by first | rfl | (simp [xrf_cat, xcI, xcJ, xcA]; done) | (simp [xrf_cat, xcI, xcJ, xcA]; decide)) (fun ls hl => ?_)
              refine lv_goto (tgt := 88) hx hb dX11_best_181 (by decide) ?_
              exact ih v32 v25 v33 _ _ _ hF hR hS (lv_sub hl [5, 6, 7, 8, 9, 2, 1, 10, 11, 0] rfl)
        · replace hF := xiff c24 hF
          refine lv_goto (tgt := 178) hx hb dX11_best_129 (by decide) ?_
          obtain ⟨v34, ev34⟩ : ∃ z : Int32, z = (x9 + 10) := ⟨_, rfl⟩
          replace hF := xlet ev34 hF
          refine lv_iinc (v := v34) (lv' := [(9, .int v34), (10, .int v20), (0, va_rf (some a0)), (1, .int x1), (2, .int x2), (3, .int x3), (4, .int x4), (5, .int x5), (6, .int x6), (7, .int x7), (8, .int x8)]) hx hb dX11_best_178 hl (k := 10) rfl (by rw [ev34]; rfl) (by decide) (by first | rfl | (simp [xrf_cat, xcI, xcJ, xcA]; done) | (simp [xrf_cat, xcI, xcJ, xcA]; decide)) (fun ls hl => ?_)
          refine lv_goto (tgt := 88) hx hb dX11_best_181 (by decide) ?_
          exact ih x5 x6 v34 _ _ _ hF hR hS (lv_sub hl [2, 3, 4, 5, 6, 7, 8, 9, 10, 0] rfl)
def F_X11_best_77 (G : Nat → Nat) (h : xH) (a0 : Nat) (x1 : Int32) (x2 : Int32) (x3 : Int32) (x4 : Int32) (x7 : Int32) (k67 : Int32 → Int32 → Int32 → Option (Int32 × xH)) : Nat → Int32 → Int32 → Int32 → Option (Int32 × xH)
  | 0, _, _, _ => none
  | n + 1, x5, x6, x8 =>
    if x7 < x8 then
      xl (x7 + 1) fun v17 =>
      k67 x5 x6 v17
    else
    F_X11_best_88 G h a0 x1 x2 x3 x4 x7 x8 (fun x5' x6' x8' => F_X11_best_77 G h a0 x1 x2 x3 x4 x7 k67 n x5' x6' x8') xN x5 x6 10
set_option maxHeartbeats 4000000 in
set_option maxRecDepth 100000 in
theorem tl_X11_best_77 {p : Program} {l : Launch} {e : Env} {s : State} {m : MethodId} {args : Array Value} {below : List Frame} {meth : Method} {c : Code} {D : va_G} {r : Int32} {h' : xH} (hx : p.tables.exec = Jvm.exec) (hb : c.code = cX11_best) (hr : meth.sig.returnType = (some .int)) (hlk : meth.locks = false) (hml : c.maxLocals = 12) (hown : s.vm.findClass RX11 = some m.cls) (hnm : meth.name = "best") (hts : ∀ w ∈ xt, w.before args s = true) (G : Nat → Nat) (h : xH) (a0 : Nat) (x1 : Int32) (x2 : Int32) (x3 : Int32) (x4 : Int32) (x7 : Int32) (k67 : Int32 → Int32 → Int32 → Option (Int32 × xH)) (hk67 : ∀ (x5' : Int32) (x6' : Int32) (x7' : Int32) (H : Heap) (locs : List Loc) (ls : Array Slot), k67 x5' x6' x7' = some (r, h') → xR D G h s H → va_S (xA G) s.heap H locs → lv_has ls 12 [(0, va_rf (some a0)), (1, .int x1), (2, .int x2), (3, .int x3), (4, .int x4), (5, .int x5'), (6, .int x6'), (7, .int x7')] → W p l e rm_X11_best s m args below meth c H locs 0 0 (MQ below (xQ D G (some (.int r)) h') args s rm_X11_best.cells rm_X11_best.slots (xA G)) (F0 m 67 ls [])) : ∀ (n : Nat) (x5 : Int32) (x6 : Int32) (x8 : Int32) (H : Heap) (locs : List Loc) (ls : Array Slot), F_X11_best_77 G h a0 x1 x2 x3 x4 x7 k67 n x5 x6 x8 = some (r, h') → xR D G h s H → va_S (xA G) s.heap H locs → lv_has ls 12 [(0, va_rf (some a0)), (1, .int x1), (2, .int x2), (3, .int x3), (4, .int x4), (5, .int x5), (6, .int x6), (7, .int x7), (8, .int x8)] → W p l e rm_X11_best s m args below meth c H locs 0 0 (MQ below (xQ D G (some (.int r)) h') args s rm_X11_best.cells rm_X11_best.slots (xA G)) (F0 m 77 ls []) := by
  intro n
  induction n with
  | zero =>
    intro x5 x6 x8 H locs ls hF
    rw [F_X11_best_77.eq_1] at hF
    cases hF
  | succ n ih =>
    intro x5 x6 x8 H locs ls hF hR hS hl
    rw [F_X11_best_77.eq_2] at hF
    refine lv_iload hx hb dX11_best_77 (lv_at hl 8 rfl) ?_
    refine lv_iload hx hb dX11_best_79 (lv_at hl 7 rfl) ?_
    refine lv_icmp_gt (tgt := 190) hx hb dX11_best_81 (by decide) (fun c16 => ?_) (fun c16 => ?_)
    · replace hF := xift c16 hF
      obtain ⟨v17, ev17⟩ : ∃ z : Int32, z = (x7 + 1) := ⟨_, rfl⟩
      replace hF := xlet ev17 hF
      refine lv_iinc (v := v17) (lv' := [(7, .int v17), (0, va_rf (some a0)), (1, .int x1), (2, .int x2), (3, .int x3), (4, .int x4), (5, .int x5), (6, .int x6), (8, .int x8)]) hx hb dX11_best_190 hl (k := 7) rfl (by rw [ev17]; rfl) (by decide) (by first | rfl | (simp [xrf_cat, xcI, xcJ, xcA]; done) | (simp [xrf_cat, xcI, xcJ, xcA]; decide)) (fun ls hl => ?_)
      refine lv_goto (tgt := 67) hx hb dX11_best_193 (by decide) ?_
      exact hk67 x5 x6 v17 _ _ _ hF hR hS (lv_sub hl [1, 2, 3, 4, 5, 6, 7, 0] rfl)
    · replace hF := xiff c16 hF
      refine lv_bipush (v := 10) hx hb dX11_best_84 (by decide) ?_
      refine lv_istore (lv' := [(9, .int 10), (0, va_rf (some a0)), (1, .int x1), (2, .int x2), (3, .int x3), (4, .int x4), (5, .int x5), (6, .int x6), (7, .int x7), (8, .int x8)]) hx hb dX11_best_86 hl (by decide) (by first | rfl | (simp [xrf_cat, xcI, xcJ, xcA]; done) | (simp [xrf_cat, xcI, xcJ, xcA]; decide)) (fun ls hl => ?_)
      refine W.widen (k := 0) (n := 0) (by decide) (by decide) ?_
      exact tl_X11_best_88 hx hb hr hlk hml hown hnm hts G h a0 x1 x2 x3 x4 x7 x8 (fun x5' x6' x8' => F_X11_best_77 G h a0 x1 x2 x3 x4 x7 k67 n x5' x6' x8') (fun x5' x6' x8' H locs ls => ih x5' x6' x8' H locs ls) _ x5 x6 10 _ _ _ hF hR hS (lv_sub hl [1, 2, 3, 4, 5, 6, 7, 8, 9, 0] rfl)
def F_X11_best_67 (G : Nat → Nat) (h : xH) (a0 : Nat) (x1 : Int32) (x2 : Int32) (x3 : Int32) (x4 : Int32) : Nat → Int32 → Int32 → Int32 → Option (Int32 × xH)
  | 0, _, _, _ => none
  | n + 1, x5, x6, x7 =>
    if 12 < x7 then
      some (x5, h)
    else
    F_X11_best_77 G h a0 x1 x2 x3 x4 x7 (fun x5' x6' x7' => F_X11_best_67 G h a0 x1 x2 x3 x4 n x5' x6' x7') xN x5 x6 1
set_option maxHeartbeats 4000000 in
set_option maxRecDepth 100000 in
theorem tl_X11_best_67 {p : Program} {l : Launch} {e : Env} {s : State} {m : MethodId} {args : Array Value} {below : List Frame} {meth : Method} {c : Code} {D : va_G} {r : Int32} {h' : xH} (hx : p.tables.exec = Jvm.exec) (hb : c.code = cX11_best) (hr : meth.sig.returnType = (some .int)) (hlk : meth.locks = false) (hml : c.maxLocals = 12) (hown : s.vm.findClass RX11 = some m.cls) (hnm : meth.name = "best") (hts : ∀ w ∈ xt, w.before args s = true) (G : Nat → Nat) (h : xH) (a0 : Nat) (x1 : Int32) (x2 : Int32) (x3 : Int32) (x4 : Int32) : ∀ (n : Nat) (x5 : Int32) (x6 : Int32) (x7 : Int32) (H : Heap) (locs : List Loc) (ls : Array Slot), F_X11_best_67 G h a0 x1 x2 x3 x4 n x5 x6 x7 = some (r, h') → xR D G h s H → va_S (xA G) s.heap H locs → lv_has ls 12 [(0, va_rf (some a0)), (1, .int x1), (2, .int x2), (3, .int x3), (4, .int x4), (5, .int x5), (6, .int x6), (7, .int x7)] → W p l e rm_X11_best s m args below meth c H locs 0 0 (MQ below (xQ D G (some (.int r)) h') args s rm_X11_best.cells rm_X11_best.slots (xA G)) (F0 m 67 ls []) := by
  intro n
  induction n with
  | zero =>
    intro x5 x6 x7 H locs ls hF
    rw [F_X11_best_67.eq_1] at hF
    cases hF
  | succ n ih =>
    intro x5 x6 x7 H locs ls hF hR hS hl
    rw [F_X11_best_67.eq_2] at hF
    refine lv_iload hx hb dX11_best_67 (lv_at hl 7 rfl) ?_
    refine lv_bipush (v := 12) hx hb dX11_best_69 (by decide) ?_
    refine lv_icmp_gt (tgt := 196) hx hb dX11_best_71 (by decide) (fun c15 => ?_) (fun c15 => ?_)
    · replace hF := xift c15 hF
      refine lv_iload hx hb dX11_best_196 (lv_at hl 5 rfl) ?_
      cases hF
      exact x_iret hx hb hr rfl hlk hR hS (by decide) (by decide) dX11_best_198
    · replace hF := xiff c15 hF
      refine lv_iconst (v := 1) hx hb dX11_best_74 (by decide) ?_
      refine lv_istore (lv' := [(8, .int 1), (0, va_rf (some a0)), (1, .int x1), (2, .int x2), (3, .int x3), (4, .int x4), (5, .int x5), (6, .int x6), (7, .int x7)]) hx hb dX11_best_75 hl (by decide) (by first | rfl | (simp [xrf_cat, xcI, xcJ, xcA]; done) | (simp [xrf_cat, xcI, xcJ, xcA]; decide)) (fun ls hl => ?_)
      refine W.widen (k := 0) (n := 0) (by decide) (by decide) ?_
      exact tl_X11_best_77 hx hb hr hlk hml hown hnm hts G h a0 x1 x2 x3 x4 x7 (fun x5' x6' x7' => F_X11_best_67 G h a0 x1 x2 x3 x4 n x5' x6' x7') (fun x5' x6' x7' H locs ls => ih x5' x6' x7' H locs ls) _ x5 x6 1 _ _ _ hF hR hS (lv_sub hl [1, 2, 3, 4, 5, 6, 7, 8, 0] rfl)
def F_X11_best (G : Nat → Nat) (h : xH) (a0 : Nat) (x1 : Int32) (x2 : Int32) (x3 : Int32) (x4 : Int32) : Option (Int32 × xH) :=
  (xp G h (some a0) 11 0 (.int 0)).bind fun h1 =>
  (xc h1 (some a0) 11).bind fun b3 =>
  (F_X11_isPromise G h1 b3 x1).bind fun v2 =>
  if v2 = 0 then
    some ((-1), h1)
  else
  if x2 < 0 then
    some ((-1), h1)
  else
  if 300 < x2 then
    some ((-1), h1)
  else
  if x3 < 0 then
    some ((-1), h1)
  else
  if 10 < x3 then
    some ((-1), h1)
  else
  if x4 < 0 then
    some ((-1), h1)
  else
  if x4 ≤ 100000 then
    (gR h1 (some a0) 11 16).bind fun w11 =>
    (ldI 2 G h1 w11 x1).bind fun v12 =>
    (xc h1 (some a0) 11).bind fun b14 =>
    (F_X11_sumsTo G h1 b14 v12).bind fun h13 =>
    F_X11_best_67 G h13 a0 x1 x2 x3 x4 xN (-1) 0 1
  else
  some ((-1), h1)
set_option maxHeartbeats 4000000 in
set_option maxRecDepth 100000 in
theorem t_X11_best (l : Launch) (D : va_G) (G : Nat → Nat) (h : xH) (a0 : Nat) (x1 : Int32) (x2 : Int32) (x3 : Int32) (x4 : Int32) (r : Int32) (h' : xH) (hF : F_X11_best G h a0 x1 x2 x3 x4 = some (r, h')) : xC l yX11_best cX11_best 12 (some .int) (rm_X11_best) D G h [.ref a0, .int x1, .int x2, .int x3, .int x4] (some (.int r)) h' := by
  refine xC_of (by decide) (by first | decide | exact Nat.le_of_ble_eq_true rfl) ?_
  intro p e s m args below meth c ls hx hb hr hlk hml hown hnm hts hR hS hl
  have hl : lv_has ls 12 [(0, va_rf (some a0)), (1, .int x1), (2, .int x2), (3, .int x3), (4, .int x4)] := hl
  unfold F_X11_best at hF
  refine x_aload_n (o := (some a0)) hx hb dX11_best_0 rfl (lv_at hl 0 rfl) ?_
  refine lv_iconst (v := 0) hx hb dX11_best_1 (by decide) ?_
  replace hF := xbind hF; obtain ⟨h1, eh1, hF⟩ := hF
  refine x_put (o := (some a0)) (ci := 11) (C := RX11) (T := TX11) (N := 42) hx hb hts iw_X11 tyX11_ok nmX11 hown hR hS rfl 0 (by decide) mm_943 (Or.inl rfl) rfl rfl rfl eh1 dX11_best_2 (fun H locs hR hS => ?_)
  refine x_aload_n (o := (some a0)) hx hb dX11_best_5 rfl (lv_at hl 0 rfl) ?_
  refine lv_iload_n hx hb dX11_best_6 rfl (lv_at hl 1 rfl) ?_
  replace hF := xbind hF; obtain ⟨b3, eb3, hF⟩ := hF
  replace hF := xbind hF; obtain ⟨v2, ev2, hF⟩ := hF
  refine x_callV (o := (some a0)) (ci := 11) (As := [.int x1]) (rest := []) (v := (some (.int v2))) (k := 1) hx hb hml hown hts hR hS eb3 rfl rfl (t_X11_isPromise l D G h1 b3 x1 v2 ev2) f_X11_isPromise mm_1115 mm_1117 mm_35 rfl hl.1 rfl (by first | exact Nat.le_of_ble_eq_true rfl | simp [xrf_cat, xcI, xcJ, xcA]) dX11_best_7 (by decide) (by decide) rfl (fun H locs hR hS => ?_)
  refine lv_if_eq (tgt := 46) hx hb dX11_best_10 (by decide) (fun c4 => ?_) (fun c4 => ?_)
  · replace hF := xift c4 hF
    refine lv_iconst (v := (-1)) hx hb dX11_best_46 (by decide) ?_
    cases hF
    exact x_iret hx hb hr rfl hlk hR hS (by decide) (by decide) dX11_best_47
  · replace hF := xiff c4 hF
    refine lv_iload_n hx hb dX11_best_13 rfl (lv_at hl 2 rfl) ?_
    refine lv_if_lt (tgt := 46) hx hb dX11_best_14 (by decide) (fun c5 => ?_) (fun c5 => ?_)
    · replace hF := xift c5 hF
      refine lv_iconst (v := (-1)) hx hb dX11_best_46 (by decide) ?_
      cases hF
      exact x_iret hx hb hr rfl hlk hR hS (by decide) (by decide) dX11_best_47
    · replace hF := xiff c5 hF
      refine lv_iload_n hx hb dX11_best_17 rfl (lv_at hl 2 rfl) ?_
      refine lv_sipush (v := 300) hx hb dX11_best_18 (by decide) ?_
      refine lv_icmp_gt (tgt := 46) hx hb dX11_best_21 (by decide) (fun c6 => ?_) (fun c6 => ?_)
      · replace hF := xift c6 hF
        refine lv_iconst (v := (-1)) hx hb dX11_best_46 (by decide) ?_
        cases hF
        exact x_iret hx hb hr rfl hlk hR hS (by decide) (by decide) dX11_best_47
      · replace hF := xiff c6 hF
        refine lv_iload_n hx hb dX11_best_24 rfl (lv_at hl 3 rfl) ?_
        refine lv_if_lt (tgt := 46) hx hb dX11_best_25 (by decide) (fun c7 => ?_) (fun c7 => ?_)
        · replace hF := xift c7 hF
          refine lv_iconst (v := (-1)) hx hb dX11_best_46 (by decide) ?_
          cases hF
          exact x_iret hx hb hr rfl hlk hR hS (by decide) (by decide) dX11_best_47
        · replace hF := xiff c7 hF
          refine lv_iload_n hx hb dX11_best_28 rfl (lv_at hl 3 rfl) ?_
          refine lv_bipush (v := 10) hx hb dX11_best_29 (by decide) ?_
          refine lv_icmp_gt (tgt := 46) hx hb dX11_best_31 (by decide) (fun c8 => ?_) (fun c8 => ?_)
          · replace hF := xift c8 hF
            refine lv_iconst (v := (-1)) hx hb dX11_best_46 (by decide) ?_
            cases hF
            exact x_iret hx hb hr rfl hlk hR hS (by decide) (by decide) dX11_best_47
          · replace hF := xiff c8 hF
            refine lv_iload hx hb dX11_best_34 (lv_at hl 4 rfl) ?_
            refine lv_if_lt (tgt := 46) hx hb dX11_best_36 (by decide) (fun c9 => ?_) (fun c9 => ?_)
            · replace hF := xift c9 hF
              refine lv_iconst (v := (-1)) hx hb dX11_best_46 (by decide) ?_
              cases hF
              exact x_iret hx hb hr rfl hlk hR hS (by decide) (by decide) dX11_best_47
            · replace hF := xiff c9 hF
              refine lv_iload hx hb dX11_best_39 (lv_at hl 4 rfl) ?_
              refine lv_ldc hx hb hown (hts _ mm_1160) dX11_best_41 ?_
              refine lv_icmp_le (tgt := 48) hx hb dX11_best_43 (by decide) (fun c10 => ?_) (fun c10 => ?_)
              · replace hF := xift c10 hF
                refine x_aload_n (o := (some a0)) hx hb dX11_best_48 rfl (lv_at hl 0 rfl) ?_
                refine x_aload_n (o := (some a0)) hx hb dX11_best_49 rfl (lv_at hl 0 rfl) ?_
                replace hF := xbind hF; obtain ⟨w11, ew11, hF⟩ := hF
                refine x_getR (o := (some a0)) (ci := 11) (C := RX11) (T := TX11) (N := 42) hx hb hts iw_X11 hown hR rfl 16 (by decide) mm_959 (Or.inl rfl) ew11 dX11_best_50 ?_
                refine lv_iload_n hx hb dX11_best_53 rfl (lv_at hl 1 rfl) ?_
                replace hF := xbind hF; obtain ⟨v12, ev12, hF⟩ := hF
                refine x_ild (o := w11) hx hb hR ev12 dX11_best_54 ?_
                replace hF := xbind hF; obtain ⟨b14, eb14, hF⟩ := hF
                replace hF := xbind hF; obtain ⟨h13, eh13, hF⟩ := hF
                refine x_callV (o := (some a0)) (ci := 11) (As := [.int v12]) (rest := []) (v := none) (k := 1) hx hb hml hown hts hR hS eb14 rfl rfl (t_X11_sumsTo l D G h1 b14 v12 h13 eh13) f_X11_sumsTo mm_1207 mm_1209 mm_49 rfl hl.1 rfl (by first | exact Nat.le_of_ble_eq_true rfl | simp [xrf_cat, xcI, xcJ, xcA]) dX11_best_55 (by decide) (by decide) rfl (fun H locs hR hS => ?_)
                refine lv_iconst (v := (-1)) hx hb dX11_best_58 (by decide) ?_
                refine lv_istore (lv' := [(5, .int (-1)), (0, va_rf (some a0)), (1, .int x1), (2, .int x2), (3, .int x3), (4, .int x4)]) hx hb dX11_best_59 hl (by decide) (by first | rfl | (simp [xrf_cat, xcI, xcJ, xcA]; done) | (simp [xrf_cat, xcI, xcJ, xcA]; decide)) (fun ls hl => ?_)
                refine lv_iconst (v := 0) hx hb dX11_best_61 (by decide) ?_
                refine lv_istore (lv' := [(6, .int 0), (5, .int (-1)), (0, va_rf (some a0)), (1, .int x1), (2, .int x2), (3, .int x3), (4, .int x4)]) hx hb dX11_best_62 hl (by decide) (by first | rfl | (simp [xrf_cat, xcI, xcJ, xcA]; done) | (simp [xrf_cat, xcI, xcJ, xcA]; decide)) (fun ls hl => ?_)
                refine lv_iconst (v := 1) hx hb dX11_best_64 (by decide) ?_
                refine lv_istore (lv' := [(7, .int 1), (6, .int 0), (5, .int (-1)), (0, va_rf (some a0)), (1, .int x1), (2, .int x2), (3, .int x3), (4, .int x4)]) hx hb dX11_best_65 hl (by decide) (by first | rfl | (simp [xrf_cat, xcI, xcJ, xcA]; done) | (simp [xrf_cat, xcI, xcJ, xcA]; decide)) (fun ls hl => ?_)
                refine W.widen (k := 0) (n := 0) (by decide) (by decide) ?_
                exact tl_X11_best_67 hx hb hr hlk hml hown hnm hts G h13 a0 x1 x2 x3 x4 _ (-1) 0 1 _ _ _ hF hR hS (lv_sub hl [3, 4, 5, 6, 7, 2, 1, 0] rfl)
              · replace hF := xiff c10 hF
                refine lv_iconst (v := (-1)) hx hb dX11_best_46 (by decide) ?_
                cases hF
                exact x_iret hx hb hr rfl hlk hR hS (by decide) (by decide) dX11_best_47
def rm_X11_isChange : Room := { frames := 0, cells := 0, slots := 0, locals := 0 }
theorem f_X11_isChange : xM yX11_isChange cX11_isChange 2 (some .boolean) 1 := ⟨mm_1231, mm_62, by decide +kernel, by decide +kernel⟩
theorem dX11_isChange_0 : decode cX11_isChange 0 = .ok (.iload_n 1, 1) := by decide +kernel
theorem dX11_isChange_1 : decode cX11_isChange 1 = .ok (.ifCond .lt 15, 3) := by decide +kernel
theorem dX11_isChange_4 : decode cX11_isChange 4 = .ok (.iload_n 1, 1) := by decide +kernel
theorem dX11_isChange_5 : decode cX11_isChange 5 = .ok (.aload_n 0, 1) := by decide +kernel
theorem dX11_isChange_6 : decode cX11_isChange 6 = .ok (.getfield 216, 3) := by decide +kernel
theorem dX11_isChange_9 : decode cX11_isChange 9 = .ok (.if_icmp .ge 7, 3) := by decide +kernel
theorem dX11_isChange_12 : decode cX11_isChange 12 = .ok (.iconst 1, 1) := by decide +kernel
theorem dX11_isChange_13 : decode cX11_isChange 13 = .ok (.goto 4, 3) := by decide +kernel
theorem dX11_isChange_16 : decode cX11_isChange 16 = .ok (.iconst 0, 1) := by decide +kernel
theorem dX11_isChange_17 : decode cX11_isChange 17 = .ok (.ireturn, 1) := by decide +kernel
def F_X11_isChange (G : Nat → Nat) (h : xH) (a0 : Nat) (x1 : Int32) : Option Int32 :=
  if x1 < 0 then
    some 0
  else
  (gI h (some a0) 11 33).bind fun v2 =>
  if v2 ≤ x1 then
    some 0
  else
  some 1
set_option maxHeartbeats 4000000 in
set_option maxRecDepth 100000 in
theorem t_X11_isChange (l : Launch) (D : va_G) (G : Nat → Nat) (h : xH) (a0 : Nat) (x1 : Int32) (r : Int32) (hF : F_X11_isChange G h a0 x1 = some r) : xC l yX11_isChange cX11_isChange 2 (some .boolean) (rm_X11_isChange) D G h [.ref a0, .int x1] (some (.int r)) h := by
  refine xC_of (by decide) (by first | decide | exact Nat.le_of_ble_eq_true rfl) ?_
  intro p e s m args below meth c ls hx hb hr hlk hml hown hnm hts hR hS hl
  have hl : lv_has ls 2 [(0, va_rf (some a0)), (1, .int x1)] := hl
  unfold F_X11_isChange at hF
  refine lv_iload_n hx hb dX11_isChange_0 rfl (lv_at hl 1 rfl) ?_
  refine lv_if_lt (tgt := 16) hx hb dX11_isChange_1 (by decide) (fun c1 => ?_) (fun c1 => ?_)
  · replace hF := xift c1 hF
    refine lv_iconst (v := 0) hx hb dX11_isChange_16 (by decide) ?_
    cases hF
    exact x_iret hx hb hr rfl hlk hR hS (by decide) (by decide) dX11_isChange_17
  · replace hF := xiff c1 hF
    refine lv_iload_n hx hb dX11_isChange_4 rfl (lv_at hl 1 rfl) ?_
    refine x_aload_n (o := (some a0)) hx hb dX11_isChange_5 rfl (lv_at hl 0 rfl) ?_
    replace hF := xbind hF; obtain ⟨v2, ev2, hF⟩ := hF
    refine x_getI (o := (some a0)) (ci := 11) (C := RX11) (T := TX11) (N := 42) hx hb hts iw_X11 hown hR rfl 33 (by decide) mm_976 (Or.inl rfl) ev2 dX11_isChange_6 ?_
    refine lv_icmp_ge (tgt := 16) hx hb dX11_isChange_9 (by decide) (fun c3 => ?_) (fun c3 => ?_)
    · replace hF := xift c3 hF
      refine lv_iconst (v := 0) hx hb dX11_isChange_16 (by decide) ?_
      cases hF
      exact x_iret hx hb hr rfl hlk hR hS (by decide) (by decide) dX11_isChange_17
    · replace hF := xiff c3 hF
      refine lv_iconst (v := 1) hx hb dX11_isChange_12 (by decide) ?_
      refine lv_goto (tgt := 17) hx hb dX11_isChange_13 (by decide) ?_
      cases hF
      exact x_iret hx hb hr rfl hlk hR hS (by decide) (by decide) dX11_isChange_17
def rm_X11_change : Room := { frames := 1, cells := 0, slots := 0, locals := 21 }
theorem f_X11_change : xM yX11_change cX11_change 4 (some .int) 3 := ⟨mm_1223, mm_62, by decide +kernel, by decide +kernel⟩
theorem dX11_change_0 : decode cX11_change 0 = .ok (.aload_n 0, 1) := by decide +kernel
theorem dX11_change_1 : decode cX11_change 1 = .ok (.iconst 0, 1) := by decide +kernel
theorem dX11_change_2 : decode cX11_change 2 = .ok (.putfield 93, 3) := by decide +kernel
theorem dX11_change_5 : decode cX11_change 5 = .ok (.aload_n 0, 1) := by decide +kernel
theorem dX11_change_6 : decode cX11_change 6 = .ok (.iload_n 1, 1) := by decide +kernel
theorem dX11_change_7 : decode cX11_change 7 = .ok (.invokevirtual 137, 3) := by decide +kernel
theorem dX11_change_10 : decode cX11_change 10 = .ok (.ifCond .eq 33, 3) := by decide +kernel
theorem dX11_change_13 : decode cX11_change 13 = .ok (.iload_n 2, 1) := by decide +kernel
theorem dX11_change_14 : decode cX11_change 14 = .ok (.ifCond .lt 29, 3) := by decide +kernel
theorem dX11_change_17 : decode cX11_change 17 = .ok (.iload_n 2, 1) := by decide +kernel
theorem dX11_change_18 : decode cX11_change 18 = .ok (.ldc 170, 2) := by decide +kernel
theorem dX11_change_20 : decode cX11_change 20 = .ok (.if_icmp .gt 23, 3) := by decide +kernel
theorem dX11_change_23 : decode cX11_change 23 = .ok (.iload_n 3, 1) := by decide +kernel
theorem dX11_change_24 : decode cX11_change 24 = .ok (.ifCond .lt 19, 3) := by decide +kernel
theorem dX11_change_27 : decode cX11_change 27 = .ok (.iload_n 3, 1) := by decide +kernel
theorem dX11_change_28 : decode cX11_change 28 = .ok (.sipush 1000, 3) := by decide +kernel
theorem dX11_change_31 : decode cX11_change 31 = .ok (.if_icmp .gt 12, 3) := by decide +kernel
theorem dX11_change_34 : decode cX11_change 34 = .ok (.aload_n 0, 1) := by decide +kernel
theorem dX11_change_35 : decode cX11_change 35 = .ok (.getfield 216, 3) := by decide +kernel
theorem dX11_change_38 : decode cX11_change 38 = .ok (.bipush 40, 2) := by decide +kernel
theorem dX11_change_40 : decode cX11_change 40 = .ok (.if_icmp .ne 5, 3) := by decide +kernel
theorem dX11_change_43 : decode cX11_change 43 = .ok (.iconst (-1), 1) := by decide +kernel
theorem dX11_change_44 : decode cX11_change 44 = .ok (.ireturn, 1) := by decide +kernel
theorem dX11_change_45 : decode cX11_change 45 = .ok (.aload_n 0, 1) := by decide +kernel
theorem dX11_change_46 : decode cX11_change 46 = .ok (.getfield 72, 3) := by decide +kernel
theorem dX11_change_49 : decode cX11_change 49 = .ok (.aload_n 0, 1) := by decide +kernel
theorem dX11_change_50 : decode cX11_change 50 = .ok (.getfield 216, 3) := by decide +kernel
theorem dX11_change_53 : decode cX11_change 53 = .ok (.iload_n 1, 1) := by decide +kernel
theorem dX11_change_54 : decode cX11_change 54 = .ok (.iastore, 1) := by decide +kernel
theorem dX11_change_55 : decode cX11_change 55 = .ok (.aload_n 0, 1) := by decide +kernel
theorem dX11_change_56 : decode cX11_change 56 = .ok (.getfield 75, 3) := by decide +kernel
theorem dX11_change_59 : decode cX11_change 59 = .ok (.aload_n 0, 1) := by decide +kernel
theorem dX11_change_60 : decode cX11_change 60 = .ok (.getfield 216, 3) := by decide +kernel
theorem dX11_change_63 : decode cX11_change 63 = .ok (.iload_n 2, 1) := by decide +kernel
theorem dX11_change_64 : decode cX11_change 64 = .ok (.iastore, 1) := by decide +kernel
theorem dX11_change_65 : decode cX11_change 65 = .ok (.aload_n 0, 1) := by decide +kernel
theorem dX11_change_66 : decode cX11_change 66 = .ok (.getfield 78, 3) := by decide +kernel
theorem dX11_change_69 : decode cX11_change 69 = .ok (.aload_n 0, 1) := by decide +kernel
theorem dX11_change_70 : decode cX11_change 70 = .ok (.getfield 216, 3) := by decide +kernel
theorem dX11_change_73 : decode cX11_change 73 = .ok (.iload_n 3, 1) := by decide +kernel
theorem dX11_change_74 : decode cX11_change 74 = .ok (.iastore, 1) := by decide +kernel
theorem dX11_change_75 : decode cX11_change 75 = .ok (.aload_n 0, 1) := by decide +kernel
theorem dX11_change_76 : decode cX11_change 76 = .ok (.dup, 1) := by decide +kernel
theorem dX11_change_77 : decode cX11_change 77 = .ok (.getfield 216, 3) := by decide +kernel
theorem dX11_change_80 : decode cX11_change 80 = .ok (.iconst 1, 1) := by decide +kernel
theorem dX11_change_81 : decode cX11_change 81 = .ok (.iadd, 1) := by decide +kernel
theorem dX11_change_82 : decode cX11_change 82 = .ok (.putfield 216, 3) := by decide +kernel
theorem dX11_change_85 : decode cX11_change 85 = .ok (.aload_n 0, 1) := by decide +kernel
theorem dX11_change_86 : decode cX11_change 86 = .ok (.getfield 216, 3) := by decide +kernel
theorem dX11_change_89 : decode cX11_change 89 = .ok (.iconst 1, 1) := by decide +kernel
theorem dX11_change_90 : decode cX11_change 90 = .ok (.isub, 1) := by decide +kernel
theorem dX11_change_91 : decode cX11_change 91 = .ok (.ireturn, 1) := by decide +kernel
def F_X11_change (G : Nat → Nat) (h : xH) (a0 : Nat) (x1 : Int32) (x2 : Int32) (x3 : Int32) : Option (Int32 × xH) :=
  (xp G h (some a0) 11 0 (.int 0)).bind fun h1 =>
  (xc h1 (some a0) 11).bind fun b3 =>
  (F_X11_isPromise G h1 b3 x1).bind fun v2 =>
  if v2 = 0 then
    some ((-1), h1)
  else
  if x2 < 0 then
    some ((-1), h1)
  else
  if 100000 < x2 then
    some ((-1), h1)
  else
  if x3 < 0 then
    some ((-1), h1)
  else
  if 1000 < x3 then
    some ((-1), h1)
  else
  (gI h1 (some a0) 11 33).bind fun v9 =>
  if v9 = 40 then
    some ((-1), h1)
  else
  (gR h1 (some a0) 11 34).bind fun w11 =>
  (gI h1 (some a0) 11 33).bind fun v12 =>
  (stI 2 G h1 w11 v12 x1).bind fun h13 =>
  (gR h13 (some a0) 11 35).bind fun w14 =>
  (gI h13 (some a0) 11 33).bind fun v15 =>
  (stI 2 G h13 w14 v15 x2).bind fun h16 =>
  (gR h16 (some a0) 11 36).bind fun w17 =>
  (gI h16 (some a0) 11 33).bind fun v18 =>
  (stI 2 G h16 w17 v18 x3).bind fun h19 =>
  (gI h19 (some a0) 11 33).bind fun v20 =>
  (xp G h19 (some a0) 11 33 (.int (v20 + 1))).bind fun h21 =>
  (gI h21 (some a0) 11 33).bind fun v22 =>
  some ((v22 - 1), h21)
set_option maxHeartbeats 4000000 in
set_option maxRecDepth 100000 in
theorem t_X11_change (l : Launch) (D : va_G) (G : Nat → Nat) (h : xH) (a0 : Nat) (x1 : Int32) (x2 : Int32) (x3 : Int32) (r : Int32) (h' : xH) (hF : F_X11_change G h a0 x1 x2 x3 = some (r, h')) : xC l yX11_change cX11_change 4 (some .int) (rm_X11_change) D G h [.ref a0, .int x1, .int x2, .int x3] (some (.int r)) h' := by
  refine xC_of (by decide) (by first | decide | exact Nat.le_of_ble_eq_true rfl) ?_
  intro p e s m args below meth c ls hx hb hr hlk hml hown hnm hts hR hS hl
  have hl : lv_has ls 4 [(0, va_rf (some a0)), (1, .int x1), (2, .int x2), (3, .int x3)] := hl
  unfold F_X11_change at hF
  refine x_aload_n (o := (some a0)) hx hb dX11_change_0 rfl (lv_at hl 0 rfl) ?_
  refine lv_iconst (v := 0) hx hb dX11_change_1 (by decide) ?_
  replace hF := xbind hF; obtain ⟨h1, eh1, hF⟩ := hF
  refine x_put (o := (some a0)) (ci := 11) (C := RX11) (T := TX11) (N := 42) hx hb hts iw_X11 tyX11_ok nmX11 hown hR hS rfl 0 (by decide) mm_943 (Or.inl rfl) rfl rfl rfl eh1 dX11_change_2 (fun H locs hR hS => ?_)
  refine x_aload_n (o := (some a0)) hx hb dX11_change_5 rfl (lv_at hl 0 rfl) ?_
  refine lv_iload_n hx hb dX11_change_6 rfl (lv_at hl 1 rfl) ?_
  replace hF := xbind hF; obtain ⟨b3, eb3, hF⟩ := hF
  replace hF := xbind hF; obtain ⟨v2, ev2, hF⟩ := hF
  refine x_callV (o := (some a0)) (ci := 11) (As := [.int x1]) (rest := []) (v := (some (.int v2))) (k := 1) hx hb hml hown hts hR hS eb3 rfl rfl (t_X11_isPromise l D G h1 b3 x1 v2 ev2) f_X11_isPromise mm_1115 mm_1117 mm_35 rfl hl.1 rfl (by first | exact Nat.le_of_ble_eq_true rfl | simp [xrf_cat, xcI, xcJ, xcA]) dX11_change_7 (by decide) (by decide) rfl (fun H locs hR hS => ?_)
  refine lv_if_eq (tgt := 43) hx hb dX11_change_10 (by decide) (fun c4 => ?_) (fun c4 => ?_)
  · replace hF := xift c4 hF
    refine lv_iconst (v := (-1)) hx hb dX11_change_43 (by decide) ?_
    cases hF
    exact x_iret hx hb hr rfl hlk hR hS (by decide) (by decide) dX11_change_44
  · replace hF := xiff c4 hF
    refine lv_iload_n hx hb dX11_change_13 rfl (lv_at hl 2 rfl) ?_
    refine lv_if_lt (tgt := 43) hx hb dX11_change_14 (by decide) (fun c5 => ?_) (fun c5 => ?_)
    · replace hF := xift c5 hF
      refine lv_iconst (v := (-1)) hx hb dX11_change_43 (by decide) ?_
      cases hF
      exact x_iret hx hb hr rfl hlk hR hS (by decide) (by decide) dX11_change_44
    · replace hF := xiff c5 hF
      refine lv_iload_n hx hb dX11_change_17 rfl (lv_at hl 2 rfl) ?_
      refine lv_ldc hx hb hown (hts _ mm_1160) dX11_change_18 ?_
      refine lv_icmp_gt (tgt := 43) hx hb dX11_change_20 (by decide) (fun c6 => ?_) (fun c6 => ?_)
      · replace hF := xift c6 hF
        refine lv_iconst (v := (-1)) hx hb dX11_change_43 (by decide) ?_
        cases hF
        exact x_iret hx hb hr rfl hlk hR hS (by decide) (by decide) dX11_change_44
      · replace hF := xiff c6 hF
        refine lv_iload_n hx hb dX11_change_23 rfl (lv_at hl 3 rfl) ?_
        refine lv_if_lt (tgt := 43) hx hb dX11_change_24 (by decide) (fun c7 => ?_) (fun c7 => ?_)
        · replace hF := xift c7 hF
          refine lv_iconst (v := (-1)) hx hb dX11_change_43 (by decide) ?_
          cases hF
          exact x_iret hx hb hr rfl hlk hR hS (by decide) (by decide) dX11_change_44
        · replace hF := xiff c7 hF
          refine lv_iload_n hx hb dX11_change_27 rfl (lv_at hl 3 rfl) ?_
          refine lv_sipush (v := 1000) hx hb dX11_change_28 (by decide) ?_
          refine lv_icmp_gt (tgt := 43) hx hb dX11_change_31 (by decide) (fun c8 => ?_) (fun c8 => ?_)
          · replace hF := xift c8 hF
            refine lv_iconst (v := (-1)) hx hb dX11_change_43 (by decide) ?_
            cases hF
            exact x_iret hx hb hr rfl hlk hR hS (by decide) (by decide) dX11_change_44
          · replace hF := xiff c8 hF
            refine x_aload_n (o := (some a0)) hx hb dX11_change_34 rfl (lv_at hl 0 rfl) ?_
            replace hF := xbind hF; obtain ⟨v9, ev9, hF⟩ := hF
            refine x_getI (o := (some a0)) (ci := 11) (C := RX11) (T := TX11) (N := 42) hx hb hts iw_X11 hown hR rfl 33 (by decide) mm_976 (Or.inl rfl) ev9 dX11_change_35 ?_
            refine lv_bipush (v := 40) hx hb dX11_change_38 (by decide) ?_
            refine lv_icmp_ne (tgt := 45) hx hb dX11_change_40 (by decide) (fun c10 => ?_) (fun c10 => ?_)
            · replace hF := xiff c10 hF
              refine x_aload_n (o := (some a0)) hx hb dX11_change_45 rfl (lv_at hl 0 rfl) ?_
              replace hF := xbind hF; obtain ⟨w11, ew11, hF⟩ := hF
              refine x_getR (o := (some a0)) (ci := 11) (C := RX11) (T := TX11) (N := 42) hx hb hts iw_X11 hown hR rfl 34 (by decide) mm_977 (Or.inl rfl) ew11 dX11_change_46 ?_
              refine x_aload_n (o := (some a0)) hx hb dX11_change_49 rfl (lv_at hl 0 rfl) ?_
              replace hF := xbind hF; obtain ⟨v12, ev12, hF⟩ := hF
              refine x_getI (o := (some a0)) (ci := 11) (C := RX11) (T := TX11) (N := 42) hx hb hts iw_X11 hown hR rfl 33 (by decide) mm_976 (Or.inl rfl) ev12 dX11_change_50 ?_
              refine lv_iload_n hx hb dX11_change_53 rfl (lv_at hl 1 rfl) ?_
              replace hF := xbind hF; obtain ⟨h13, eh13, hF⟩ := hF
              refine x_ist (o := w11) hx hb hR hS eh13 dX11_change_54 (fun H locs hR hS => ?_)
              refine x_aload_n (o := (some a0)) hx hb dX11_change_55 rfl (lv_at hl 0 rfl) ?_
              replace hF := xbind hF; obtain ⟨w14, ew14, hF⟩ := hF
              refine x_getR (o := (some a0)) (ci := 11) (C := RX11) (T := TX11) (N := 42) hx hb hts iw_X11 hown hR rfl 35 (by decide) mm_978 (Or.inl rfl) ew14 dX11_change_56 ?_
              refine x_aload_n (o := (some a0)) hx hb dX11_change_59 rfl (lv_at hl 0 rfl) ?_
              replace hF := xbind hF; obtain ⟨v15, ev15, hF⟩ := hF
              refine x_getI (o := (some a0)) (ci := 11) (C := RX11) (T := TX11) (N := 42) hx hb hts iw_X11 hown hR rfl 33 (by decide) mm_976 (Or.inl rfl) ev15 dX11_change_60 ?_
              refine lv_iload_n hx hb dX11_change_63 rfl (lv_at hl 2 rfl) ?_
              replace hF := xbind hF; obtain ⟨h16, eh16, hF⟩ := hF
              refine x_ist (o := w14) hx hb hR hS eh16 dX11_change_64 (fun H locs hR hS => ?_)
              refine x_aload_n (o := (some a0)) hx hb dX11_change_65 rfl (lv_at hl 0 rfl) ?_
              replace hF := xbind hF; obtain ⟨w17, ew17, hF⟩ := hF
              refine x_getR (o := (some a0)) (ci := 11) (C := RX11) (T := TX11) (N := 42) hx hb hts iw_X11 hown hR rfl 36 (by decide) mm_979 (Or.inl rfl) ew17 dX11_change_66 ?_
              refine x_aload_n (o := (some a0)) hx hb dX11_change_69 rfl (lv_at hl 0 rfl) ?_
              replace hF := xbind hF; obtain ⟨v18, ev18, hF⟩ := hF
              refine x_getI (o := (some a0)) (ci := 11) (C := RX11) (T := TX11) (N := 42) hx hb hts iw_X11 hown hR rfl 33 (by decide) mm_976 (Or.inl rfl) ev18 dX11_change_70 ?_
              refine lv_iload_n hx hb dX11_change_73 rfl (lv_at hl 3 rfl) ?_
              replace hF := xbind hF; obtain ⟨h19, eh19, hF⟩ := hF
              refine x_ist (o := w17) hx hb hR hS eh19 dX11_change_74 (fun H locs hR hS => ?_)
              refine x_aload_n (o := (some a0)) hx hb dX11_change_75 rfl (lv_at hl 0 rfl) ?_
              refine lv_dup hx hb dX11_change_76 xrf_cat ?_
              replace hF := xbind hF; obtain ⟨v20, ev20, hF⟩ := hF
              refine x_getI (o := (some a0)) (ci := 11) (C := RX11) (T := TX11) (N := 42) hx hb hts iw_X11 hown hR rfl 33 (by decide) mm_976 (Or.inl rfl) ev20 dX11_change_77 ?_
              refine lv_iconst (v := 1) hx hb dX11_change_80 (by decide) ?_
              refine lv_iadd hx hb dX11_change_81 ?_
              replace hF := xbind hF; obtain ⟨h21, eh21, hF⟩ := hF
              refine x_put (o := (some a0)) (ci := 11) (C := RX11) (T := TX11) (N := 42) hx hb hts iw_X11 tyX11_ok nmX11 hown hR hS rfl 33 (by decide) mm_976 (Or.inl rfl) rfl rfl rfl eh21 dX11_change_82 (fun H locs hR hS => ?_)
              refine x_aload_n (o := (some a0)) hx hb dX11_change_85 rfl (lv_at hl 0 rfl) ?_
              replace hF := xbind hF; obtain ⟨v22, ev22, hF⟩ := hF
              refine x_getI (o := (some a0)) (ci := 11) (C := RX11) (T := TX11) (N := 42) hx hb hts iw_X11 hown hR rfl 33 (by decide) mm_976 (Or.inl rfl) ev22 dX11_change_86 ?_
              refine lv_iconst (v := 1) hx hb dX11_change_89 (by decide) ?_
              refine lv_isub hx hb dX11_change_90 ?_
              cases hF
              exact x_iret hx hb hr rfl hlk hR hS (by decide) (by decide) dX11_change_91
            · replace hF := xift c10 hF
              refine lv_iconst (v := (-1)) hx hb dX11_change_43 (by decide) ?_
              cases hF
              exact x_iret hx hb hr rfl hlk hR hS (by decide) (by decide) dX11_change_44
def rm_X11_room : Room := { frames := 2, cells := 0, slots := 0, locals := 49 }
theorem f_X11_room : xM yX11_room cX11_room 5 (some .long) 1 := ⟨mm_1235, mm_62, by decide +kernel, by decide +kernel⟩
theorem dX11_room_0 : decode cX11_room 0 = .ok (.aload_n 0, 1) := by decide +kernel
theorem dX11_room_1 : decode cX11_room 1 = .ok (.iload_n 1, 1) := by decide +kernel
theorem dX11_room_2 : decode cX11_room 2 = .ok (.aload_n 0, 1) := by decide +kernel
theorem dX11_room_3 : decode cX11_room 3 = .ok (.getfield 110, 3) := by decide +kernel
theorem dX11_room_6 : decode cX11_room 6 = .ok (.invokevirtual 153, 3) := by decide +kernel
theorem dX11_room_9 : decode cX11_room 9 = .ok (.aload_n 0, 1) := by decide +kernel
theorem dX11_room_10 : decode cX11_room 10 = .ok (.iload_n 1, 1) := by decide +kernel
theorem dX11_room_11 : decode cX11_room 11 = .ok (.invokevirtual 156, 3) := by decide +kernel
theorem dX11_room_14 : decode cX11_room 14 = .ok (.lstore_n 2, 1) := by decide +kernel
theorem dX11_room_15 : decode cX11_room 15 = .ok (.iconst 0, 1) := by decide +kernel
theorem dX11_room_16 : decode cX11_room 16 = .ok (.istore 4, 2) := by decide +kernel
theorem dX11_room_18 : decode cX11_room 18 = .ok (.iload 4, 2) := by decide +kernel
theorem dX11_room_20 : decode cX11_room 20 = .ok (.aload_n 0, 1) := by decide +kernel
theorem dX11_room_21 : decode cX11_room 21 = .ok (.getfield 216, 3) := by decide +kernel
theorem dX11_room_24 : decode cX11_room 24 = .ok (.if_icmp .ge 46, 3) := by decide +kernel
theorem dX11_room_27 : decode cX11_room 27 = .ok (.lload_n 2, 1) := by decide +kernel
theorem dX11_room_28 : decode cX11_room 28 = .ok (.aload_n 0, 1) := by decide +kernel
theorem dX11_room_29 : decode cX11_room 29 = .ok (.getfield 72, 3) := by decide +kernel
theorem dX11_room_32 : decode cX11_room 32 = .ok (.iload 4, 2) := by decide +kernel
theorem dX11_room_34 : decode cX11_room 34 = .ok (.iaload, 1) := by decide +kernel
theorem dX11_room_35 : decode cX11_room 35 = .ok (.iload_n 1, 1) := by decide +kernel
theorem dX11_room_36 : decode cX11_room 36 = .ok (.if_icmp .ne 25, 3) := by decide +kernel
theorem dX11_room_39 : decode cX11_room 39 = .ok (.aload_n 0, 1) := by decide +kernel
theorem dX11_room_40 : decode cX11_room 40 = .ok (.getfield 81, 3) := by decide +kernel
theorem dX11_room_43 : decode cX11_room 43 = .ok (.iload 4, 2) := by decide +kernel
theorem dX11_room_45 : decode cX11_room 45 = .ok (.iaload, 1) := by decide +kernel
theorem dX11_room_46 : decode cX11_room 46 = .ok (.iconst 1, 1) := by decide +kernel
theorem dX11_room_47 : decode cX11_room 47 = .ok (.if_icmp .ne 14, 3) := by decide +kernel
theorem dX11_room_50 : decode cX11_room 50 = .ok (.aload_n 0, 1) := by decide +kernel
theorem dX11_room_51 : decode cX11_room 51 = .ok (.getfield 75, 3) := by decide +kernel
theorem dX11_room_54 : decode cX11_room 54 = .ok (.iload 4, 2) := by decide +kernel
theorem dX11_room_56 : decode cX11_room 56 = .ok (.iaload, 1) := by decide +kernel
theorem dX11_room_57 : decode cX11_room 57 = .ok (.i2l, 1) := by decide +kernel
theorem dX11_room_58 : decode cX11_room 58 = .ok (.goto 4, 3) := by decide +kernel
theorem dX11_room_61 : decode cX11_room 61 = .ok (.lconst 0, 1) := by decide +kernel
theorem dX11_room_62 : decode cX11_room 62 = .ok (.lsub, 1) := by decide +kernel
theorem dX11_room_63 : decode cX11_room 63 = .ok (.lstore_n 2, 1) := by decide +kernel
theorem dX11_room_64 : decode cX11_room 64 = .ok (.iinc 4 1, 3) := by decide +kernel
theorem dX11_room_67 : decode cX11_room 67 = .ok (.goto (-49), 3) := by decide +kernel
theorem dX11_room_70 : decode cX11_room 70 = .ok (.lload_n 2, 1) := by decide +kernel
theorem dX11_room_71 : decode cX11_room 71 = .ok (.lreturn, 1) := by decide +kernel
def F_X11_room_18 (G : Nat → Nat) (h : xH) (a0 : Nat) (x1 : Int32) : Nat → Int64 → Int32 → Option (Int64 × xH)
  | 0, _, _ => none
  | n + 1, y2, x4 =>
    (gI h (some a0) 11 33).bind fun v6 =>
    if v6 ≤ x4 then
      some (y2, h)
    else
    (gR h (some a0) 11 34).bind fun w8 =>
    (ldI 2 G h w8 x4).bind fun v9 =>
    if v9 = x1 then
      (gR h (some a0) 11 37).bind fun w13 =>
      (ldI 2 G h w13 x4).bind fun v14 =>
      if v14 = 1 then
        (gR h (some a0) 11 35).bind fun w18 =>
        (ldI 2 G h w18 x4).bind fun v19 =>
        xl (y2 - ((v19 : Int32).toInt64)) fun v20 =>
        xl (x4 + 1) fun v21 =>
        F_X11_room_18 G h a0 x1 n v20 v21
      else
      xl (y2 - 0) fun v16 =>
      xl (x4 + 1) fun v17 =>
      F_X11_room_18 G h a0 x1 n v16 v17
    else
    xl (y2 - 0) fun v11 =>
    xl (x4 + 1) fun v12 =>
    F_X11_room_18 G h a0 x1 n v11 v12
set_option maxHeartbeats 4000000 in
set_option maxRecDepth 100000 in
theorem tl_X11_room_18 {p : Program} {l : Launch} {e : Env} {s : State} {m : MethodId} {args : Array Value} {below : List Frame} {meth : Method} {c : Code} {D : va_G} {r : Int64} {h' : xH} (hx : p.tables.exec = Jvm.exec) (hb : c.code = cX11_room) (hr : meth.sig.returnType = (some .long)) (hlk : meth.locks = false) (hml : c.maxLocals = 5) (hown : s.vm.findClass RX11 = some m.cls) (hnm : meth.name = "room") (hts : ∀ w ∈ xt, w.before args s = true) (G : Nat → Nat) (h : xH) (a0 : Nat) (x1 : Int32) : ∀ (n : Nat) (y2 : Int64) (x4 : Int32) (H : Heap) (locs : List Loc) (ls : Array Slot), F_X11_room_18 G h a0 x1 n y2 x4 = some (r, h') → xR D G h s H → va_S (xA G) s.heap H locs → lv_has ls 5 [(0, va_rf (some a0)), (1, .int x1), (2, .long y2), (4, .int x4)] → W p l e rm_X11_room s m args below meth c H locs 0 0 (MQ below (xQ D G (some (.long r)) h') args s rm_X11_room.cells rm_X11_room.slots (xA G)) (F0 m 18 ls []) := by
  intro n
  induction n with
  | zero =>
    intro y2 x4 H locs ls hF
    rw [F_X11_room_18.eq_1] at hF
    cases hF
  | succ n ih =>
    intro y2 x4 H locs ls hF hR hS hl
    rw [F_X11_room_18.eq_2] at hF
    refine lv_iload hx hb dX11_room_18 (lv_at hl 3 rfl) ?_
    refine x_aload_n (o := (some a0)) hx hb dX11_room_20 rfl (lv_at hl 0 rfl) ?_
    replace hF := xbind hF; obtain ⟨v6, ev6, hF⟩ := hF
    refine x_getI (o := (some a0)) (ci := 11) (C := RX11) (T := TX11) (N := 42) hx hb hts iw_X11 hown hR rfl 33 (by decide) mm_976 (Or.inl rfl) ev6 dX11_room_21 ?_
    refine lv_icmp_ge (tgt := 70) hx hb dX11_room_24 (by decide) (fun c7 => ?_) (fun c7 => ?_)
    · replace hF := xift c7 hF
      refine lv_lload_n hx hb dX11_room_70 rfl (lv_at hl 2 rfl) ?_
      cases hF
      exact x_lret hx hb hr hlk hR hS (by decide) (by decide) dX11_room_71
    · replace hF := xiff c7 hF
      refine lv_lload_n hx hb dX11_room_27 rfl (lv_at hl 2 rfl) ?_
      refine x_aload_n (o := (some a0)) hx hb dX11_room_28 rfl (lv_at hl 0 rfl) ?_
      replace hF := xbind hF; obtain ⟨w8, ew8, hF⟩ := hF
      refine x_getR (o := (some a0)) (ci := 11) (C := RX11) (T := TX11) (N := 42) hx hb hts iw_X11 hown hR rfl 34 (by decide) mm_977 (Or.inl rfl) ew8 dX11_room_29 ?_
      refine lv_iload hx hb dX11_room_32 (lv_at hl 3 rfl) ?_
      replace hF := xbind hF; obtain ⟨v9, ev9, hF⟩ := hF
      refine x_ild (o := w8) hx hb hR ev9 dX11_room_34 ?_
      refine lv_iload_n hx hb dX11_room_35 rfl (lv_at hl 1 rfl) ?_
      refine lv_icmp_ne (tgt := 61) hx hb dX11_room_36 (by decide) (fun c10 => ?_) (fun c10 => ?_)
      · replace hF := xiff c10 hF
        refine lv_lconst (v := 0) hx hb dX11_room_61 (by decide) ?_
        refine lv_lsub hx hb dX11_room_62 ?_
        refine lv_topl (fun v11 ev11 => ?_)
        replace hF := xlet ev11 hF
        refine lv_lstore_n (lv' := [(2, .long v11), (0, va_rf (some a0)), (1, .int x1), (4, .int x4)]) hx hb dX11_room_63 rfl hl (by decide) (by first | rfl | (simp [xrf_cat, xcI, xcJ, xcA]; done) | (simp [xrf_cat, xcI, xcJ, xcA]; decide)) (fun ls hl => ?_)
        obtain ⟨v12, ev12⟩ : ∃ z : Int32, z = (x4 + 1) := ⟨_, rfl⟩
        replace hF := xlet ev12 hF
        refine lv_iinc (v := v12) (lv' := [(4, .int v12), (2, .long v11), (0, va_rf (some a0)), (1, .int x1)]) hx hb dX11_room_64 hl (k := 3) rfl (by rw [ev12]; rfl) (by decide) (by first | rfl | (simp [xrf_cat, xcI, xcJ, xcA]; done) | (simp [xrf_cat, xcI, xcJ, xcA]; decide)) (fun ls hl => ?_)
        refine lv_goto (tgt := 18) hx hb dX11_room_67 (by decide) ?_
        exact ih v11 v12 _ _ _ hF hR hS (lv_sub hl [2, 3, 1, 0] rfl)
      · replace hF := xift c10 hF
        refine x_aload_n (o := (some a0)) hx hb dX11_room_39 rfl (lv_at hl 0 rfl) ?_
        replace hF := xbind hF; obtain ⟨w13, ew13, hF⟩ := hF
        refine x_getR (o := (some a0)) (ci := 11) (C := RX11) (T := TX11) (N := 42) hx hb hts iw_X11 hown hR rfl 37 (by decide) mm_980 (Or.inl rfl) ew13 dX11_room_40 ?_
        refine lv_iload hx hb dX11_room_43 (lv_at hl 3 rfl) ?_
        replace hF := xbind hF; obtain ⟨v14, ev14, hF⟩ := hF
        refine x_ild (o := w13) hx hb hR ev14 dX11_room_45 ?_
        refine lv_iconst (v := 1) hx hb dX11_room_46 (by decide) ?_
        refine lv_icmp_ne (tgt := 61) hx hb dX11_room_47 (by decide) (fun c15 => ?_) (fun c15 => ?_)
        · replace hF := xiff c15 hF
          refine lv_lconst (v := 0) hx hb dX11_room_61 (by decide) ?_
          refine lv_lsub hx hb dX11_room_62 ?_
          refine lv_topl (fun v16 ev16 => ?_)
          replace hF := xlet ev16 hF
          refine lv_lstore_n (lv' := [(2, .long v16), (0, va_rf (some a0)), (1, .int x1), (4, .int x4)]) hx hb dX11_room_63 rfl hl (by decide) (by first | rfl | (simp [xrf_cat, xcI, xcJ, xcA]; done) | (simp [xrf_cat, xcI, xcJ, xcA]; decide)) (fun ls hl => ?_)
          obtain ⟨v17, ev17⟩ : ∃ z : Int32, z = (x4 + 1) := ⟨_, rfl⟩
          replace hF := xlet ev17 hF
          refine lv_iinc (v := v17) (lv' := [(4, .int v17), (2, .long v16), (0, va_rf (some a0)), (1, .int x1)]) hx hb dX11_room_64 hl (k := 3) rfl (by rw [ev17]; rfl) (by decide) (by first | rfl | (simp [xrf_cat, xcI, xcJ, xcA]; done) | (simp [xrf_cat, xcI, xcJ, xcA]; decide)) (fun ls hl => ?_)
          refine lv_goto (tgt := 18) hx hb dX11_room_67 (by decide) ?_
          exact ih v16 v17 _ _ _ hF hR hS (lv_sub hl [2, 3, 1, 0] rfl)
        · replace hF := xift c15 hF
          refine x_aload_n (o := (some a0)) hx hb dX11_room_50 rfl (lv_at hl 0 rfl) ?_
          replace hF := xbind hF; obtain ⟨w18, ew18, hF⟩ := hF
          refine x_getR (o := (some a0)) (ci := 11) (C := RX11) (T := TX11) (N := 42) hx hb hts iw_X11 hown hR rfl 35 (by decide) mm_978 (Or.inl rfl) ew18 dX11_room_51 ?_
          refine lv_iload hx hb dX11_room_54 (lv_at hl 3 rfl) ?_
          replace hF := xbind hF; obtain ⟨v19, ev19, hF⟩ := hF
          refine x_ild (o := w18) hx hb hR ev19 dX11_room_56 ?_
          refine lv_i2l (v := ((v19 : Int32).toInt64)) hx hb dX11_room_57 rfl ?_
          refine lv_goto (tgt := 62) hx hb dX11_room_58 (by decide) ?_
          refine lv_lsub hx hb dX11_room_62 ?_
          refine lv_topl (fun v20 ev20 => ?_)
          replace hF := xlet ev20 hF
          refine lv_lstore_n (lv' := [(2, .long v20), (0, va_rf (some a0)), (1, .int x1), (4, .int x4)]) hx hb dX11_room_63 rfl hl (by decide) (by first | rfl | (simp [xrf_cat, xcI, xcJ, xcA]; done) | (simp [xrf_cat, xcI, xcJ, xcA]; decide)) (fun ls hl => ?_)
          obtain ⟨v21, ev21⟩ : ∃ z : Int32, z = (x4 + 1) := ⟨_, rfl⟩
          replace hF := xlet ev21 hF
          refine lv_iinc (v := v21) (lv' := [(4, .int v21), (2, .long v20), (0, va_rf (some a0)), (1, .int x1)]) hx hb dX11_room_64 hl (k := 3) rfl (by rw [ev21]; rfl) (by decide) (by first | rfl | (simp [xrf_cat, xcI, xcJ, xcA]; done) | (simp [xrf_cat, xcI, xcJ, xcA]; decide)) (fun ls hl => ?_)
          refine lv_goto (tgt := 18) hx hb dX11_room_67 (by decide) ?_
          exact ih v20 v21 _ _ _ hF hR hS (lv_sub hl [2, 3, 1, 0] rfl)
def F_X11_room (G : Nat → Nat) (h : xH) (a0 : Nat) (x1 : Int32) : Option (Int64 × xH) :=
  (gI h (some a0) 11 9).bind fun v1 =>
  (xc h (some a0) 11).bind fun b3 =>
  (F_X11_spans G h b3 x1 v1).bind fun h2 =>
  (xc h2 (some a0) 11).bind fun b5 =>
  (F_X11_least G h2 b5 x1).bind fun v4 =>
  F_X11_room_18 G h2 a0 x1 xN v4 0
set_option maxHeartbeats 4000000 in
set_option maxRecDepth 100000 in
theorem t_X11_room (l : Launch) (D : va_G) (G : Nat → Nat) (h : xH) (a0 : Nat) (x1 : Int32) (r : Int64) (h' : xH) (hF : F_X11_room G h a0 x1 = some (r, h')) : xC l yX11_room cX11_room 5 (some .long) (rm_X11_room) D G h [.ref a0, .int x1] (some (.long r)) h' := by
  refine xC_of (by decide) (by first | decide | exact Nat.le_of_ble_eq_true rfl) ?_
  intro p e s m args below meth c ls hx hb hr hlk hml hown hnm hts hR hS hl
  have hl : lv_has ls 5 [(0, va_rf (some a0)), (1, .int x1)] := hl
  unfold F_X11_room at hF
  refine x_aload_n (o := (some a0)) hx hb dX11_room_0 rfl (lv_at hl 0 rfl) ?_
  refine lv_iload_n hx hb dX11_room_1 rfl (lv_at hl 1 rfl) ?_
  refine x_aload_n (o := (some a0)) hx hb dX11_room_2 rfl (lv_at hl 0 rfl) ?_
  replace hF := xbind hF; obtain ⟨v1, ev1, hF⟩ := hF
  refine x_getI (o := (some a0)) (ci := 11) (C := RX11) (T := TX11) (N := 42) hx hb hts iw_X11 hown hR rfl 9 (by decide) mm_952 (Or.inl rfl) ev1 dX11_room_3 ?_
  replace hF := xbind hF; obtain ⟨b3, eb3, hF⟩ := hF
  replace hF := xbind hF; obtain ⟨h2, eh2, hF⟩ := hF
  refine x_callV (o := (some a0)) (ci := 11) (As := [.int x1, .int v1]) (rest := []) (v := none) (k := 2) hx hb hml hown hts hR hS eb3 rfl rfl (t_X11_spans l D G h b3 x1 v1 h2 eh2) f_X11_spans mm_1123 mm_1125 mm_36 rfl hl.1 rfl (by first | exact Nat.le_of_ble_eq_true rfl | simp [xrf_cat, xcI, xcJ, xcA]) dX11_room_6 (by decide) (by decide) rfl (fun H locs hR hS => ?_)
  refine x_aload_n (o := (some a0)) hx hb dX11_room_9 rfl (lv_at hl 0 rfl) ?_
  refine lv_iload_n hx hb dX11_room_10 rfl (lv_at hl 1 rfl) ?_
  replace hF := xbind hF; obtain ⟨b5, eb5, hF⟩ := hF
  replace hF := xbind hF; obtain ⟨v4, ev4, hF⟩ := hF
  refine x_callV (o := (some a0)) (ci := 11) (As := [.int x1]) (rest := []) (v := (some (.long v4))) (k := 1) hx hb hml hown hts hR hS eb5 rfl rfl (t_X11_least l D G h2 b5 x1 v4 ev4) f_X11_least mm_1136 mm_1138 mm_39 rfl hl.1 rfl (by first | exact Nat.le_of_ble_eq_true rfl | simp [xrf_cat, xcI, xcJ, xcA]) dX11_room_11 (by decide) (by decide) rfl (fun H locs hR hS => ?_)
  refine lv_lstore_n (lv' := [(2, .long v4), (0, va_rf (some a0)), (1, .int x1)]) hx hb dX11_room_14 rfl hl (by decide) (by first | rfl | (simp [xrf_cat, xcI, xcJ, xcA]; done) | (simp [xrf_cat, xcI, xcJ, xcA]; decide)) (fun ls hl => ?_)
  refine lv_iconst (v := 0) hx hb dX11_room_15 (by decide) ?_
  refine lv_istore (lv' := [(4, .int 0), (2, .long v4), (0, va_rf (some a0)), (1, .int x1)]) hx hb dX11_room_16 hl (by decide) (by first | rfl | (simp [xrf_cat, xcI, xcJ, xcA]; done) | (simp [xrf_cat, xcI, xcJ, xcA]; decide)) (fun ls hl => ?_)
  refine W.widen (k := 0) (n := 0) (by decide) (by decide) ?_
  exact tl_X11_room_18 hx hb hr hlk hml hown hnm hts G h2 a0 x1 _ v4 0 _ _ _ hF hR hS (lv_sub hl [2, 3, 1, 0] rfl)
def rm_X11_let : Room := { frames := 3, cells := 0, slots := 0, locals := 73 }
theorem f_X11_let : xM yX11_let cX11_let 2 (some .boolean) 1 := ⟨mm_1227, mm_62, by decide +kernel, by decide +kernel⟩
theorem dX11_let_0 : decode cX11_let 0 = .ok (.aload_n 0, 1) := by decide +kernel
theorem dX11_let_1 : decode cX11_let 1 = .ok (.iconst 0, 1) := by decide +kernel
theorem dX11_let_2 : decode cX11_let 2 = .ok (.putfield 93, 3) := by decide +kernel
theorem dX11_let_5 : decode cX11_let 5 = .ok (.aload_n 0, 1) := by decide +kernel
theorem dX11_let_6 : decode cX11_let 6 = .ok (.iload_n 1, 1) := by decide +kernel
theorem dX11_let_7 : decode cX11_let 7 = .ok (.invokevirtual 219, 3) := by decide +kernel
theorem dX11_let_10 : decode cX11_let 10 = .ok (.ifCond .eq 33, 3) := by decide +kernel
theorem dX11_let_13 : decode cX11_let 13 = .ok (.aload_n 0, 1) := by decide +kernel
theorem dX11_let_14 : decode cX11_let 14 = .ok (.getfield 81, 3) := by decide +kernel
theorem dX11_let_17 : decode cX11_let 17 = .ok (.iload_n 1, 1) := by decide +kernel
theorem dX11_let_18 : decode cX11_let 18 = .ok (.iaload, 1) := by decide +kernel
theorem dX11_let_19 : decode cX11_let 19 = .ok (.ifCond .ne 24, 3) := by decide +kernel
theorem dX11_let_22 : decode cX11_let 22 = .ok (.aload_n 0, 1) := by decide +kernel
theorem dX11_let_23 : decode cX11_let 23 = .ok (.aload_n 0, 1) := by decide +kernel
theorem dX11_let_24 : decode cX11_let 24 = .ok (.getfield 72, 3) := by decide +kernel
theorem dX11_let_27 : decode cX11_let 27 = .ok (.iload_n 1, 1) := by decide +kernel
theorem dX11_let_28 : decode cX11_let 28 = .ok (.iaload, 1) := by decide +kernel
theorem dX11_let_29 : decode cX11_let 29 = .ok (.invokevirtual 222, 3) := by decide +kernel
theorem dX11_let_32 : decode cX11_let 32 = .ok (.aload_n 0, 1) := by decide +kernel
theorem dX11_let_33 : decode cX11_let 33 = .ok (.getfield 75, 3) := by decide +kernel
theorem dX11_let_36 : decode cX11_let 36 = .ok (.iload_n 1, 1) := by decide +kernel
theorem dX11_let_37 : decode cX11_let 37 = .ok (.iaload, 1) := by decide +kernel
theorem dX11_let_38 : decode cX11_let 38 = .ok (.i2l, 1) := by decide +kernel
theorem dX11_let_39 : decode cX11_let 39 = .ok (.lcmp, 1) := by decide +kernel
theorem dX11_let_40 : decode cX11_let 40 = .ok (.ifCond .ge 5, 3) := by decide +kernel
theorem dX11_let_43 : decode cX11_let 43 = .ok (.iconst 0, 1) := by decide +kernel
theorem dX11_let_44 : decode cX11_let 44 = .ok (.ireturn, 1) := by decide +kernel
theorem dX11_let_45 : decode cX11_let 45 = .ok (.aload_n 0, 1) := by decide +kernel
theorem dX11_let_46 : decode cX11_let 46 = .ok (.getfield 81, 3) := by decide +kernel
theorem dX11_let_49 : decode cX11_let 49 = .ok (.iload_n 1, 1) := by decide +kernel
theorem dX11_let_50 : decode cX11_let 50 = .ok (.iconst 1, 1) := by decide +kernel
theorem dX11_let_51 : decode cX11_let 51 = .ok (.iastore, 1) := by decide +kernel
theorem dX11_let_52 : decode cX11_let 52 = .ok (.iconst 1, 1) := by decide +kernel
theorem dX11_let_53 : decode cX11_let 53 = .ok (.ireturn, 1) := by decide +kernel
def F_X11_let (G : Nat → Nat) (h : xH) (a0 : Nat) (x1 : Int32) : Option (Int32 × xH) :=
  (xp G h (some a0) 11 0 (.int 0)).bind fun h1 =>
  (xc h1 (some a0) 11).bind fun b3 =>
  (F_X11_isChange G h1 b3 x1).bind fun v2 =>
  if v2 = 0 then
    some (0, h1)
  else
  (gR h1 (some a0) 11 37).bind fun w5 =>
  (ldI 2 G h1 w5 x1).bind fun v6 =>
  if v6 = 0 then
    (gR h1 (some a0) 11 34).bind fun w8 =>
    (ldI 2 G h1 w8 x1).bind fun v9 =>
    (xc h1 (some a0) 11).bind fun b12 =>
    (F_X11_room G h1 b12 v9).bind fun (v10, h11) =>
    (gR h11 (some a0) 11 35).bind fun w13 =>
    (ldI 2 G h11 w13 x1).bind fun v14 =>
    if 0 ≤ (lg_cmp v10 ((v14 : Int32).toInt64)) then
      (gR h11 (some a0) 11 37).bind fun w16 =>
      (stI 2 G h11 w16 x1 1).bind fun h17 =>
      some (1, h17)
    else
    some (0, h11)
  else
  some (0, h1)
set_option maxHeartbeats 4000000 in
set_option maxRecDepth 100000 in
theorem t_X11_let (l : Launch) (D : va_G) (G : Nat → Nat) (h : xH) (a0 : Nat) (x1 : Int32) (r : Int32) (h' : xH) (hF : F_X11_let G h a0 x1 = some (r, h')) : xC l yX11_let cX11_let 2 (some .boolean) (rm_X11_let) D G h [.ref a0, .int x1] (some (.int r)) h' := by
  refine xC_of (by decide) (by first | decide | exact Nat.le_of_ble_eq_true rfl) ?_
  intro p e s m args below meth c ls hx hb hr hlk hml hown hnm hts hR hS hl
  have hl : lv_has ls 2 [(0, va_rf (some a0)), (1, .int x1)] := hl
  unfold F_X11_let at hF
  refine x_aload_n (o := (some a0)) hx hb dX11_let_0 rfl (lv_at hl 0 rfl) ?_
  refine lv_iconst (v := 0) hx hb dX11_let_1 (by decide) ?_
  replace hF := xbind hF; obtain ⟨h1, eh1, hF⟩ := hF
  refine x_put (o := (some a0)) (ci := 11) (C := RX11) (T := TX11) (N := 42) hx hb hts iw_X11 tyX11_ok nmX11 hown hR hS rfl 0 (by decide) mm_943 (Or.inl rfl) rfl rfl rfl eh1 dX11_let_2 (fun H locs hR hS => ?_)
  refine x_aload_n (o := (some a0)) hx hb dX11_let_5 rfl (lv_at hl 0 rfl) ?_
  refine lv_iload_n hx hb dX11_let_6 rfl (lv_at hl 1 rfl) ?_
  replace hF := xbind hF; obtain ⟨b3, eb3, hF⟩ := hF
  replace hF := xbind hF; obtain ⟨v2, ev2, hF⟩ := hF
  refine x_callV (o := (some a0)) (ci := 11) (As := [.int x1]) (rest := []) (v := (some (.int v2))) (k := 1) hx hb hml hown hts hR hS eb3 rfl rfl (t_X11_isChange l D G h1 b3 x1 v2 ev2) f_X11_isChange mm_1228 mm_1230 mm_52 rfl hl.1 rfl (by first | exact Nat.le_of_ble_eq_true rfl | simp [xrf_cat, xcI, xcJ, xcA]) dX11_let_7 (by decide) (by decide) rfl (fun H locs hR hS => ?_)
  refine lv_if_eq (tgt := 43) hx hb dX11_let_10 (by decide) (fun c4 => ?_) (fun c4 => ?_)
  · replace hF := xift c4 hF
    refine lv_iconst (v := 0) hx hb dX11_let_43 (by decide) ?_
    cases hF
    exact x_iret hx hb hr rfl hlk hR hS (by decide) (by decide) dX11_let_44
  · replace hF := xiff c4 hF
    refine x_aload_n (o := (some a0)) hx hb dX11_let_13 rfl (lv_at hl 0 rfl) ?_
    replace hF := xbind hF; obtain ⟨w5, ew5, hF⟩ := hF
    refine x_getR (o := (some a0)) (ci := 11) (C := RX11) (T := TX11) (N := 42) hx hb hts iw_X11 hown hR rfl 37 (by decide) mm_980 (Or.inl rfl) ew5 dX11_let_14 ?_
    refine lv_iload_n hx hb dX11_let_17 rfl (lv_at hl 1 rfl) ?_
    replace hF := xbind hF; obtain ⟨v6, ev6, hF⟩ := hF
    refine x_ild (o := w5) hx hb hR ev6 dX11_let_18 ?_
    refine lv_if_ne (tgt := 43) hx hb dX11_let_19 (by decide) (fun c7 => ?_) (fun c7 => ?_)
    · replace hF := xiff c7 hF
      refine lv_iconst (v := 0) hx hb dX11_let_43 (by decide) ?_
      cases hF
      exact x_iret hx hb hr rfl hlk hR hS (by decide) (by decide) dX11_let_44
    · replace hF := xift c7 hF
      refine x_aload_n (o := (some a0)) hx hb dX11_let_22 rfl (lv_at hl 0 rfl) ?_
      refine x_aload_n (o := (some a0)) hx hb dX11_let_23 rfl (lv_at hl 0 rfl) ?_
      replace hF := xbind hF; obtain ⟨w8, ew8, hF⟩ := hF
      refine x_getR (o := (some a0)) (ci := 11) (C := RX11) (T := TX11) (N := 42) hx hb hts iw_X11 hown hR rfl 34 (by decide) mm_977 (Or.inl rfl) ew8 dX11_let_24 ?_
      refine lv_iload_n hx hb dX11_let_27 rfl (lv_at hl 1 rfl) ?_
      replace hF := xbind hF; obtain ⟨v9, ev9, hF⟩ := hF
      refine x_ild (o := w8) hx hb hR ev9 dX11_let_28 ?_
      replace hF := xbind hF; obtain ⟨b12, eb12, hF⟩ := hF
      replace hF := xbind hF; obtain ⟨⟨v10, h11⟩, ev10, hF⟩ := hF
      refine x_callV (o := (some a0)) (ci := 11) (As := [.int v9]) (rest := []) (v := (some (.long v10))) (k := 1) hx hb hml hown hts hR hS eb12 rfl rfl (t_X11_room l D G h1 b12 v9 v10 h11 ev10) f_X11_room mm_1232 mm_1234 mm_53 rfl hl.1 rfl (by first | exact Nat.le_of_ble_eq_true rfl | simp [xrf_cat, xcI, xcJ, xcA]) dX11_let_29 (by decide) (by decide) rfl (fun H locs hR hS => ?_)
      refine x_aload_n (o := (some a0)) hx hb dX11_let_32 rfl (lv_at hl 0 rfl) ?_
      replace hF := xbind hF; obtain ⟨w13, ew13, hF⟩ := hF
      refine x_getR (o := (some a0)) (ci := 11) (C := RX11) (T := TX11) (N := 42) hx hb hts iw_X11 hown hR rfl 35 (by decide) mm_978 (Or.inl rfl) ew13 dX11_let_33 ?_
      refine lv_iload_n hx hb dX11_let_36 rfl (lv_at hl 1 rfl) ?_
      replace hF := xbind hF; obtain ⟨v14, ev14, hF⟩ := hF
      refine x_ild (o := w13) hx hb hR ev14 dX11_let_37 ?_
      refine lv_i2l (v := ((v14 : Int32).toInt64)) hx hb dX11_let_38 rfl ?_
      refine W.lcmp hx hb dX11_let_39 ?_
      refine lv_if_ge (tgt := 45) hx hb dX11_let_40 (by decide) (fun c15 => ?_) (fun c15 => ?_)
      · replace hF := xift c15 hF
        refine x_aload_n (o := (some a0)) hx hb dX11_let_45 rfl (lv_at hl 0 rfl) ?_
        replace hF := xbind hF; obtain ⟨w16, ew16, hF⟩ := hF
        refine x_getR (o := (some a0)) (ci := 11) (C := RX11) (T := TX11) (N := 42) hx hb hts iw_X11 hown hR rfl 37 (by decide) mm_980 (Or.inl rfl) ew16 dX11_let_46 ?_
        refine lv_iload_n hx hb dX11_let_49 rfl (lv_at hl 1 rfl) ?_
        refine lv_iconst (v := 1) hx hb dX11_let_50 (by decide) ?_
        replace hF := xbind hF; obtain ⟨h17, eh17, hF⟩ := hF
        refine x_ist (o := w16) hx hb hR hS eh17 dX11_let_51 (fun H locs hR hS => ?_)
        refine lv_iconst (v := 1) hx hb dX11_let_52 (by decide) ?_
        cases hF
        exact x_iret hx hb hr rfl hlk hR hS (by decide) (by decide) dX11_let_53
      · replace hF := xiff c15 hF
        refine lv_iconst (v := 0) hx hb dX11_let_43 (by decide) ?_
        cases hF
        exact x_iret hx hb hr rfl hlk hR hS (by decide) (by decide) dX11_let_44
def rm_X11_settle : Room := { frames := 1, cells := 0, slots := 0, locals := 21 }
theorem f_X11_settle : xM yX11_settle cX11_settle 3 (some .boolean) 2 := ⟨mm_1239, mm_62, by decide +kernel, by decide +kernel⟩
theorem dX11_settle_0 : decode cX11_settle 0 = .ok (.aload_n 0, 1) := by decide +kernel
theorem dX11_settle_1 : decode cX11_settle 1 = .ok (.iconst 0, 1) := by decide +kernel
theorem dX11_settle_2 : decode cX11_settle 2 = .ok (.putfield 93, 3) := by decide +kernel
theorem dX11_settle_5 : decode cX11_settle 5 = .ok (.aload_n 0, 1) := by decide +kernel
theorem dX11_settle_6 : decode cX11_settle 6 = .ok (.iload_n 1, 1) := by decide +kernel
theorem dX11_settle_7 : decode cX11_settle 7 = .ok (.invokevirtual 219, 3) := by decide +kernel
theorem dX11_settle_10 : decode cX11_settle 10 = .ok (.ifCond .eq 23, 3) := by decide +kernel
theorem dX11_settle_13 : decode cX11_settle 13 = .ok (.aload_n 0, 1) := by decide +kernel
theorem dX11_settle_14 : decode cX11_settle 14 = .ok (.getfield 81, 3) := by decide +kernel
theorem dX11_settle_17 : decode cX11_settle 17 = .ok (.iload_n 1, 1) := by decide +kernel
theorem dX11_settle_18 : decode cX11_settle 18 = .ok (.iaload, 1) := by decide +kernel
theorem dX11_settle_19 : decode cX11_settle 19 = .ok (.iconst 1, 1) := by decide +kernel
theorem dX11_settle_20 : decode cX11_settle 20 = .ok (.if_icmp .ne 13, 3) := by decide +kernel
theorem dX11_settle_23 : decode cX11_settle 23 = .ok (.iload_n 2, 1) := by decide +kernel
theorem dX11_settle_24 : decode cX11_settle 24 = .ok (.ifCond .lt 9, 3) := by decide +kernel
theorem dX11_settle_27 : decode cX11_settle 27 = .ok (.iload_n 2, 1) := by decide +kernel
theorem dX11_settle_28 : decode cX11_settle 28 = .ok (.ldc 170, 2) := by decide +kernel
theorem dX11_settle_30 : decode cX11_settle 30 = .ok (.if_icmp .le 5, 3) := by decide +kernel
theorem dX11_settle_33 : decode cX11_settle 33 = .ok (.iconst 0, 1) := by decide +kernel
theorem dX11_settle_34 : decode cX11_settle 34 = .ok (.ireturn, 1) := by decide +kernel
theorem dX11_settle_35 : decode cX11_settle 35 = .ok (.aload_n 0, 1) := by decide +kernel
theorem dX11_settle_36 : decode cX11_settle 36 = .ok (.getfield 81, 3) := by decide +kernel
theorem dX11_settle_39 : decode cX11_settle 39 = .ok (.iload_n 1, 1) := by decide +kernel
theorem dX11_settle_40 : decode cX11_settle 40 = .ok (.iconst 2, 1) := by decide +kernel
theorem dX11_settle_41 : decode cX11_settle 41 = .ok (.iastore, 1) := by decide +kernel
theorem dX11_settle_42 : decode cX11_settle 42 = .ok (.aload_n 0, 1) := by decide +kernel
theorem dX11_settle_43 : decode cX11_settle 43 = .ok (.getfield 84, 3) := by decide +kernel
theorem dX11_settle_46 : decode cX11_settle 46 = .ok (.iload_n 1, 1) := by decide +kernel
theorem dX11_settle_47 : decode cX11_settle 47 = .ok (.iload_n 2, 1) := by decide +kernel
theorem dX11_settle_48 : decode cX11_settle 48 = .ok (.iastore, 1) := by decide +kernel
theorem dX11_settle_49 : decode cX11_settle 49 = .ok (.iconst 1, 1) := by decide +kernel
theorem dX11_settle_50 : decode cX11_settle 50 = .ok (.ireturn, 1) := by decide +kernel
def F_X11_settle (G : Nat → Nat) (h : xH) (a0 : Nat) (x1 : Int32) (x2 : Int32) : Option (Int32 × xH) :=
  (xp G h (some a0) 11 0 (.int 0)).bind fun h1 =>
  (xc h1 (some a0) 11).bind fun b3 =>
  (F_X11_isChange G h1 b3 x1).bind fun v2 =>
  if v2 = 0 then
    some (0, h1)
  else
  (gR h1 (some a0) 11 37).bind fun w5 =>
  (ldI 2 G h1 w5 x1).bind fun v6 =>
  if v6 = 1 then
    if x2 < 0 then
      some (0, h1)
    else
    if x2 ≤ 100000 then
      (gR h1 (some a0) 11 37).bind fun w10 =>
      (stI 2 G h1 w10 x1 2).bind fun h11 =>
      (gR h11 (some a0) 11 38).bind fun w12 =>
      (stI 2 G h11 w12 x1 x2).bind fun h13 =>
      some (1, h13)
    else
    some (0, h1)
  else
  some (0, h1)
set_option maxHeartbeats 4000000 in
set_option maxRecDepth 100000 in
theorem t_X11_settle (l : Launch) (D : va_G) (G : Nat → Nat) (h : xH) (a0 : Nat) (x1 : Int32) (x2 : Int32) (r : Int32) (h' : xH) (hF : F_X11_settle G h a0 x1 x2 = some (r, h')) : xC l yX11_settle cX11_settle 3 (some .boolean) (rm_X11_settle) D G h [.ref a0, .int x1, .int x2] (some (.int r)) h' := by
  refine xC_of (by decide) (by first | decide | exact Nat.le_of_ble_eq_true rfl) ?_
  intro p e s m args below meth c ls hx hb hr hlk hml hown hnm hts hR hS hl
  have hl : lv_has ls 3 [(0, va_rf (some a0)), (1, .int x1), (2, .int x2)] := hl
  unfold F_X11_settle at hF
  refine x_aload_n (o := (some a0)) hx hb dX11_settle_0 rfl (lv_at hl 0 rfl) ?_
  refine lv_iconst (v := 0) hx hb dX11_settle_1 (by decide) ?_
  replace hF := xbind hF; obtain ⟨h1, eh1, hF⟩ := hF
  refine x_put (o := (some a0)) (ci := 11) (C := RX11) (T := TX11) (N := 42) hx hb hts iw_X11 tyX11_ok nmX11 hown hR hS rfl 0 (by decide) mm_943 (Or.inl rfl) rfl rfl rfl eh1 dX11_settle_2 (fun H locs hR hS => ?_)
  refine x_aload_n (o := (some a0)) hx hb dX11_settle_5 rfl (lv_at hl 0 rfl) ?_
  refine lv_iload_n hx hb dX11_settle_6 rfl (lv_at hl 1 rfl) ?_
  replace hF := xbind hF; obtain ⟨b3, eb3, hF⟩ := hF
  replace hF := xbind hF; obtain ⟨v2, ev2, hF⟩ := hF
  refine x_callV (o := (some a0)) (ci := 11) (As := [.int x1]) (rest := []) (v := (some (.int v2))) (k := 1) hx hb hml hown hts hR hS eb3 rfl rfl (t_X11_isChange l D G h1 b3 x1 v2 ev2) f_X11_isChange mm_1228 mm_1230 mm_52 rfl hl.1 rfl (by first | exact Nat.le_of_ble_eq_true rfl | simp [xrf_cat, xcI, xcJ, xcA]) dX11_settle_7 (by decide) (by decide) rfl (fun H locs hR hS => ?_)
  refine lv_if_eq (tgt := 33) hx hb dX11_settle_10 (by decide) (fun c4 => ?_) (fun c4 => ?_)
  · replace hF := xift c4 hF
    refine lv_iconst (v := 0) hx hb dX11_settle_33 (by decide) ?_
    cases hF
    exact x_iret hx hb hr rfl hlk hR hS (by decide) (by decide) dX11_settle_34
  · replace hF := xiff c4 hF
    refine x_aload_n (o := (some a0)) hx hb dX11_settle_13 rfl (lv_at hl 0 rfl) ?_
    replace hF := xbind hF; obtain ⟨w5, ew5, hF⟩ := hF
    refine x_getR (o := (some a0)) (ci := 11) (C := RX11) (T := TX11) (N := 42) hx hb hts iw_X11 hown hR rfl 37 (by decide) mm_980 (Or.inl rfl) ew5 dX11_settle_14 ?_
    refine lv_iload_n hx hb dX11_settle_17 rfl (lv_at hl 1 rfl) ?_
    replace hF := xbind hF; obtain ⟨v6, ev6, hF⟩ := hF
    refine x_ild (o := w5) hx hb hR ev6 dX11_settle_18 ?_
    refine lv_iconst (v := 1) hx hb dX11_settle_19 (by decide) ?_
    refine lv_icmp_ne (tgt := 33) hx hb dX11_settle_20 (by decide) (fun c7 => ?_) (fun c7 => ?_)
    · replace hF := xiff c7 hF
      refine lv_iconst (v := 0) hx hb dX11_settle_33 (by decide) ?_
      cases hF
      exact x_iret hx hb hr rfl hlk hR hS (by decide) (by decide) dX11_settle_34
    · replace hF := xift c7 hF
      refine lv_iload_n hx hb dX11_settle_23 rfl (lv_at hl 2 rfl) ?_
      refine lv_if_lt (tgt := 33) hx hb dX11_settle_24 (by decide) (fun c8 => ?_) (fun c8 => ?_)
      · replace hF := xift c8 hF
        refine lv_iconst (v := 0) hx hb dX11_settle_33 (by decide) ?_
        cases hF
        exact x_iret hx hb hr rfl hlk hR hS (by decide) (by decide) dX11_settle_34
      · replace hF := xiff c8 hF
        refine lv_iload_n hx hb dX11_settle_27 rfl (lv_at hl 2 rfl) ?_
        refine lv_ldc hx hb hown (hts _ mm_1160) dX11_settle_28 ?_
        refine lv_icmp_le (tgt := 35) hx hb dX11_settle_30 (by decide) (fun c9 => ?_) (fun c9 => ?_)
        · replace hF := xift c9 hF
          refine x_aload_n (o := (some a0)) hx hb dX11_settle_35 rfl (lv_at hl 0 rfl) ?_
          replace hF := xbind hF; obtain ⟨w10, ew10, hF⟩ := hF
          refine x_getR (o := (some a0)) (ci := 11) (C := RX11) (T := TX11) (N := 42) hx hb hts iw_X11 hown hR rfl 37 (by decide) mm_980 (Or.inl rfl) ew10 dX11_settle_36 ?_
          refine lv_iload_n hx hb dX11_settle_39 rfl (lv_at hl 1 rfl) ?_
          refine lv_iconst (v := 2) hx hb dX11_settle_40 (by decide) ?_
          replace hF := xbind hF; obtain ⟨h11, eh11, hF⟩ := hF
          refine x_ist (o := w10) hx hb hR hS eh11 dX11_settle_41 (fun H locs hR hS => ?_)
          refine x_aload_n (o := (some a0)) hx hb dX11_settle_42 rfl (lv_at hl 0 rfl) ?_
          replace hF := xbind hF; obtain ⟨w12, ew12, hF⟩ := hF
          refine x_getR (o := (some a0)) (ci := 11) (C := RX11) (T := TX11) (N := 42) hx hb hts iw_X11 hown hR rfl 38 (by decide) mm_981 (Or.inl rfl) ew12 dX11_settle_43 ?_
          refine lv_iload_n hx hb dX11_settle_46 rfl (lv_at hl 1 rfl) ?_
          refine lv_iload_n hx hb dX11_settle_47 rfl (lv_at hl 2 rfl) ?_
          replace hF := xbind hF; obtain ⟨h13, eh13, hF⟩ := hF
          refine x_ist (o := w12) hx hb hR hS eh13 dX11_settle_48 (fun H locs hR hS => ?_)
          refine lv_iconst (v := 1) hx hb dX11_settle_49 (by decide) ?_
          cases hF
          exact x_iret hx hb hr rfl hlk hR hS (by decide) (by decide) dX11_settle_50
        · replace hF := xiff c9 hF
          refine lv_iconst (v := 0) hx hb dX11_settle_33 (by decide) ?_
          cases hF
          exact x_iret hx hb hr rfl hlk hR hS (by decide) (by decide) dX11_settle_34
def rm_X11_plan : Room := { frames := 3, cells := 0, slots := 0, locals := 73 }
theorem f_X11_plan : xM yX11_plan cX11_plan 14 (some .int) 1 := ⟨mm_1243, mm_62, by decide +kernel, by decide +kernel⟩
theorem dX11_plan_0 : decode cX11_plan 0 = .ok (.aload_n 0, 1) := by decide +kernel
theorem dX11_plan_1 : decode cX11_plan 1 = .ok (.iconst 0, 1) := by decide +kernel
theorem dX11_plan_2 : decode cX11_plan 2 = .ok (.putfield 93, 3) := by decide +kernel
theorem dX11_plan_5 : decode cX11_plan 5 = .ok (.aload_n 0, 1) := by decide +kernel
theorem dX11_plan_6 : decode cX11_plan 6 = .ok (.iload_n 1, 1) := by decide +kernel
theorem dX11_plan_7 : decode cX11_plan 7 = .ok (.invokevirtual 137, 3) := by decide +kernel
theorem dX11_plan_10 : decode cX11_plan 10 = .ok (.ifCond .ne 5, 3) := by decide +kernel
theorem dX11_plan_13 : decode cX11_plan 13 = .ok (.iconst (-1), 1) := by decide +kernel
theorem dX11_plan_14 : decode cX11_plan 14 = .ok (.ireturn, 1) := by decide +kernel
theorem dX11_plan_15 : decode cX11_plan 15 = .ok (.iconst 0, 1) := by decide +kernel
theorem dX11_plan_16 : decode cX11_plan 16 = .ok (.istore_n 2, 1) := by decide +kernel
theorem dX11_plan_17 : decode cX11_plan 17 = .ok (.iconst 0, 1) := by decide +kernel
theorem dX11_plan_18 : decode cX11_plan 18 = .ok (.istore_n 3, 1) := by decide +kernel
theorem dX11_plan_19 : decode cX11_plan 19 = .ok (.iload_n 3, 1) := by decide +kernel
theorem dX11_plan_20 : decode cX11_plan 20 = .ok (.aload_n 0, 1) := by decide +kernel
theorem dX11_plan_21 : decode cX11_plan 21 = .ok (.getfield 216, 3) := by decide +kernel
theorem dX11_plan_24 : decode cX11_plan 24 = .ok (.if_icmp .ge 44, 3) := by decide +kernel
theorem dX11_plan_27 : decode cX11_plan 27 = .ok (.iload_n 2, 1) := by decide +kernel
theorem dX11_plan_28 : decode cX11_plan 28 = .ok (.bipush 14, 2) := by decide +kernel
theorem dX11_plan_30 : decode cX11_plan 30 = .ok (.if_icmp .ge 38, 3) := by decide +kernel
theorem dX11_plan_33 : decode cX11_plan 33 = .ok (.aload_n 0, 1) := by decide +kernel
theorem dX11_plan_34 : decode cX11_plan 34 = .ok (.getfield 72, 3) := by decide +kernel
theorem dX11_plan_37 : decode cX11_plan 37 = .ok (.iload_n 3, 1) := by decide +kernel
theorem dX11_plan_38 : decode cX11_plan 38 = .ok (.iaload, 1) := by decide +kernel
theorem dX11_plan_39 : decode cX11_plan 39 = .ok (.iload_n 1, 1) := by decide +kernel
theorem dX11_plan_40 : decode cX11_plan 40 = .ok (.if_icmp .ne 22, 3) := by decide +kernel
theorem dX11_plan_43 : decode cX11_plan 43 = .ok (.aload_n 0, 1) := by decide +kernel
theorem dX11_plan_44 : decode cX11_plan 44 = .ok (.getfield 81, 3) := by decide +kernel
theorem dX11_plan_47 : decode cX11_plan 47 = .ok (.iload_n 3, 1) := by decide +kernel
theorem dX11_plan_48 : decode cX11_plan 48 = .ok (.iaload, 1) := by decide +kernel
theorem dX11_plan_49 : decode cX11_plan 49 = .ok (.ifCond .ne 13, 3) := by decide +kernel
theorem dX11_plan_52 : decode cX11_plan 52 = .ok (.aload_n 0, 1) := by decide +kernel
theorem dX11_plan_53 : decode cX11_plan 53 = .ok (.getfield 90, 3) := by decide +kernel
theorem dX11_plan_56 : decode cX11_plan 56 = .ok (.iload_n 2, 1) := by decide +kernel
theorem dX11_plan_57 : decode cX11_plan 57 = .ok (.iload_n 3, 1) := by decide +kernel
theorem dX11_plan_58 : decode cX11_plan 58 = .ok (.iastore, 1) := by decide +kernel
theorem dX11_plan_59 : decode cX11_plan 59 = .ok (.iinc 2 1, 3) := by decide +kernel
theorem dX11_plan_62 : decode cX11_plan 62 = .ok (.iinc 3 1, 3) := by decide +kernel
theorem dX11_plan_65 : decode cX11_plan 65 = .ok (.goto (-46), 3) := by decide +kernel
theorem dX11_plan_68 : decode cX11_plan 68 = .ok (.aload_n 0, 1) := by decide +kernel
theorem dX11_plan_69 : decode cX11_plan 69 = .ok (.iload_n 1, 1) := by decide +kernel
theorem dX11_plan_70 : decode cX11_plan 70 = .ok (.invokevirtual 222, 3) := by decide +kernel
theorem dX11_plan_73 : decode cX11_plan 73 = .ok (.lstore_n 3, 1) := by decide +kernel
theorem dX11_plan_74 : decode cX11_plan 74 = .ok (.iconst 0, 1) := by decide +kernel
theorem dX11_plan_75 : decode cX11_plan 75 = .ok (.istore 5, 2) := by decide +kernel
theorem dX11_plan_77 : decode cX11_plan 77 = .ok (.iconst 0, 1) := by decide +kernel
theorem dX11_plan_78 : decode cX11_plan 78 = .ok (.istore 6, 2) := by decide +kernel
theorem dX11_plan_80 : decode cX11_plan 80 = .ok (.iconst 0, 1) := by decide +kernel
theorem dX11_plan_81 : decode cX11_plan 81 = .ok (.istore 7, 2) := by decide +kernel
theorem dX11_plan_83 : decode cX11_plan 83 = .ok (.iconst 1, 1) := by decide +kernel
theorem dX11_plan_84 : decode cX11_plan 84 = .ok (.istore 8, 2) := by decide +kernel
theorem dX11_plan_86 : decode cX11_plan 86 = .ok (.iload 8, 2) := by decide +kernel
theorem dX11_plan_88 : decode cX11_plan 88 = .ok (.iconst 1, 1) := by decide +kernel
theorem dX11_plan_89 : decode cX11_plan 89 = .ok (.iload_n 2, 1) := by decide +kernel
theorem dX11_plan_90 : decode cX11_plan 90 = .ok (.ishl, 1) := by decide +kernel
theorem dX11_plan_91 : decode cX11_plan 91 = .ok (.if_icmp .ge 158, 3) := by decide +kernel
theorem dX11_plan_94 : decode cX11_plan 94 = .ok (.lload_n 3, 1) := by decide +kernel
theorem dX11_plan_95 : decode cX11_plan 95 = .ok (.lconst 0, 1) := by decide +kernel
theorem dX11_plan_96 : decode cX11_plan 96 = .ok (.lcmp, 1) := by decide +kernel
theorem dX11_plan_97 : decode cX11_plan 97 = .ok (.ifCond .lt 152, 3) := by decide +kernel
theorem dX11_plan_100 : decode cX11_plan 100 = .ok (.lconst 0, 1) := by decide +kernel
theorem dX11_plan_101 : decode cX11_plan 101 = .ok (.lstore 9, 2) := by decide +kernel
theorem dX11_plan_103 : decode cX11_plan 103 = .ok (.iconst 0, 1) := by decide +kernel
theorem dX11_plan_104 : decode cX11_plan 104 = .ok (.istore 11, 2) := by decide +kernel
theorem dX11_plan_106 : decode cX11_plan 106 = .ok (.iconst 0, 1) := by decide +kernel
theorem dX11_plan_107 : decode cX11_plan 107 = .ok (.istore 12, 2) := by decide +kernel
theorem dX11_plan_109 : decode cX11_plan 109 = .ok (.iconst 0, 1) := by decide +kernel
theorem dX11_plan_110 : decode cX11_plan 110 = .ok (.istore 13, 2) := by decide +kernel
theorem dX11_plan_112 : decode cX11_plan 112 = .ok (.iload 13, 2) := by decide +kernel
theorem dX11_plan_114 : decode cX11_plan 114 = .ok (.iload_n 2, 1) := by decide +kernel
theorem dX11_plan_115 : decode cX11_plan 115 = .ok (.if_icmp .ge 62, 3) := by decide +kernel
theorem dX11_plan_118 : decode cX11_plan 118 = .ok (.iload 8, 2) := by decide +kernel
theorem dX11_plan_120 : decode cX11_plan 120 = .ok (.iload_n 2, 1) := by decide +kernel
theorem dX11_plan_121 : decode cX11_plan 121 = .ok (.iconst 1, 1) := by decide +kernel
theorem dX11_plan_122 : decode cX11_plan 122 = .ok (.isub, 1) := by decide +kernel
theorem dX11_plan_123 : decode cX11_plan 123 = .ok (.iload 13, 2) := by decide +kernel
theorem dX11_plan_125 : decode cX11_plan 125 = .ok (.isub, 1) := by decide +kernel
theorem dX11_plan_126 : decode cX11_plan 126 = .ok (.ishr, 1) := by decide +kernel
theorem dX11_plan_127 : decode cX11_plan 127 = .ok (.iconst 1, 1) := by decide +kernel
theorem dX11_plan_128 : decode cX11_plan 128 = .ok (.iand, 1) := by decide +kernel
theorem dX11_plan_129 : decode cX11_plan 129 = .ok (.iconst 1, 1) := by decide +kernel
theorem dX11_plan_130 : decode cX11_plan 130 = .ok (.if_icmp .ne 41, 3) := by decide +kernel
theorem dX11_plan_133 : decode cX11_plan 133 = .ok (.lload 9, 2) := by decide +kernel
theorem dX11_plan_135 : decode cX11_plan 135 = .ok (.aload_n 0, 1) := by decide +kernel
theorem dX11_plan_136 : decode cX11_plan 136 = .ok (.getfield 75, 3) := by decide +kernel
theorem dX11_plan_139 : decode cX11_plan 139 = .ok (.aload_n 0, 1) := by decide +kernel
theorem dX11_plan_140 : decode cX11_plan 140 = .ok (.getfield 90, 3) := by decide +kernel
theorem dX11_plan_143 : decode cX11_plan 143 = .ok (.iload 13, 2) := by decide +kernel
theorem dX11_plan_145 : decode cX11_plan 145 = .ok (.iaload, 1) := by decide +kernel
theorem dX11_plan_146 : decode cX11_plan 146 = .ok (.iaload, 1) := by decide +kernel
theorem dX11_plan_147 : decode cX11_plan 147 = .ok (.i2l, 1) := by decide +kernel
theorem dX11_plan_148 : decode cX11_plan 148 = .ok (.ladd, 1) := by decide +kernel
theorem dX11_plan_149 : decode cX11_plan 149 = .ok (.lstore 9, 2) := by decide +kernel
theorem dX11_plan_151 : decode cX11_plan 151 = .ok (.iload 11, 2) := by decide +kernel
theorem dX11_plan_153 : decode cX11_plan 153 = .ok (.aload_n 0, 1) := by decide +kernel
theorem dX11_plan_154 : decode cX11_plan 154 = .ok (.getfield 78, 3) := by decide +kernel
theorem dX11_plan_157 : decode cX11_plan 157 = .ok (.aload_n 0, 1) := by decide +kernel
theorem dX11_plan_158 : decode cX11_plan 158 = .ok (.getfield 90, 3) := by decide +kernel
theorem dX11_plan_161 : decode cX11_plan 161 = .ok (.iload 13, 2) := by decide +kernel
theorem dX11_plan_163 : decode cX11_plan 163 = .ok (.iaload, 1) := by decide +kernel
theorem dX11_plan_164 : decode cX11_plan 164 = .ok (.iaload, 1) := by decide +kernel
theorem dX11_plan_165 : decode cX11_plan 165 = .ok (.iadd, 1) := by decide +kernel
theorem dX11_plan_166 : decode cX11_plan 166 = .ok (.istore 11, 2) := by decide +kernel
theorem dX11_plan_168 : decode cX11_plan 168 = .ok (.iinc 12 1, 3) := by decide +kernel
theorem dX11_plan_171 : decode cX11_plan 171 = .ok (.iinc 13 1, 3) := by decide +kernel
theorem dX11_plan_174 : decode cX11_plan 174 = .ok (.goto (-62), 3) := by decide +kernel
theorem dX11_plan_177 : decode cX11_plan 177 = .ok (.iload 11, 2) := by decide +kernel
theorem dX11_plan_179 : decode cX11_plan 179 = .ok (.iload 6, 2) := by decide +kernel
theorem dX11_plan_181 : decode cX11_plan 181 = .ok (.if_icmp .gt 31, 3) := by decide +kernel
theorem dX11_plan_184 : decode cX11_plan 184 = .ok (.iload 11, 2) := by decide +kernel
theorem dX11_plan_186 : decode cX11_plan 186 = .ok (.iload 6, 2) := by decide +kernel
theorem dX11_plan_188 : decode cX11_plan 188 = .ok (.if_icmp .ne 28, 3) := by decide +kernel
theorem dX11_plan_191 : decode cX11_plan 191 = .ok (.iload 12, 2) := by decide +kernel
theorem dX11_plan_193 : decode cX11_plan 193 = .ok (.iload 7, 2) := by decide +kernel
theorem dX11_plan_195 : decode cX11_plan 195 = .ok (.if_icmp .lt 17, 3) := by decide +kernel
theorem dX11_plan_198 : decode cX11_plan 198 = .ok (.iload 12, 2) := by decide +kernel
theorem dX11_plan_200 : decode cX11_plan 200 = .ok (.iload 7, 2) := by decide +kernel
theorem dX11_plan_202 : decode cX11_plan 202 = .ok (.if_icmp .ne 14, 3) := by decide +kernel
theorem dX11_plan_205 : decode cX11_plan 205 = .ok (.iload 8, 2) := by decide +kernel
theorem dX11_plan_207 : decode cX11_plan 207 = .ok (.iload 5, 2) := by decide +kernel
theorem dX11_plan_209 : decode cX11_plan 209 = .ok (.if_icmp .le 7, 3) := by decide +kernel
theorem dX11_plan_212 : decode cX11_plan 212 = .ok (.iconst 1, 1) := by decide +kernel
theorem dX11_plan_213 : decode cX11_plan 213 = .ok (.goto 4, 3) := by decide +kernel
theorem dX11_plan_216 : decode cX11_plan 216 = .ok (.iconst 0, 1) := by decide +kernel
theorem dX11_plan_217 : decode cX11_plan 217 = .ok (.istore 13, 2) := by decide +kernel
theorem dX11_plan_219 : decode cX11_plan 219 = .ok (.lload 9, 2) := by decide +kernel
theorem dX11_plan_221 : decode cX11_plan 221 = .ok (.lload_n 3, 1) := by decide +kernel
theorem dX11_plan_222 : decode cX11_plan 222 = .ok (.lcmp, 1) := by decide +kernel
theorem dX11_plan_223 : decode cX11_plan 223 = .ok (.ifCond .gt 20, 3) := by decide +kernel
theorem dX11_plan_226 : decode cX11_plan 226 = .ok (.iload 13, 2) := by decide +kernel
theorem dX11_plan_228 : decode cX11_plan 228 = .ok (.ifCond .eq 15, 3) := by decide +kernel
theorem dX11_plan_231 : decode cX11_plan 231 = .ok (.iload 8, 2) := by decide +kernel
theorem dX11_plan_233 : decode cX11_plan 233 = .ok (.istore 5, 2) := by decide +kernel
theorem dX11_plan_235 : decode cX11_plan 235 = .ok (.iload 11, 2) := by decide +kernel
theorem dX11_plan_237 : decode cX11_plan 237 = .ok (.istore 6, 2) := by decide +kernel
theorem dX11_plan_239 : decode cX11_plan 239 = .ok (.iload 12, 2) := by decide +kernel
theorem dX11_plan_241 : decode cX11_plan 241 = .ok (.istore 7, 2) := by decide +kernel
theorem dX11_plan_243 : decode cX11_plan 243 = .ok (.iinc 8 1, 3) := by decide +kernel
theorem dX11_plan_246 : decode cX11_plan 246 = .ok (.goto (-160), 3) := by decide +kernel
theorem dX11_plan_249 : decode cX11_plan 249 = .ok (.aload_n 0, 1) := by decide +kernel
theorem dX11_plan_250 : decode cX11_plan 250 = .ok (.iconst 0, 1) := by decide +kernel
theorem dX11_plan_251 : decode cX11_plan 251 = .ok (.putfield 225, 3) := by decide +kernel
theorem dX11_plan_254 : decode cX11_plan 254 = .ok (.iconst 0, 1) := by decide +kernel
theorem dX11_plan_255 : decode cX11_plan 255 = .ok (.istore 8, 2) := by decide +kernel
theorem dX11_plan_257 : decode cX11_plan 257 = .ok (.iload 8, 2) := by decide +kernel
theorem dX11_plan_259 : decode cX11_plan 259 = .ok (.iload_n 2, 1) := by decide +kernel
theorem dX11_plan_260 : decode cX11_plan 260 = .ok (.if_icmp .ge 50, 3) := by decide +kernel
theorem dX11_plan_263 : decode cX11_plan 263 = .ok (.iload 5, 2) := by decide +kernel
theorem dX11_plan_265 : decode cX11_plan 265 = .ok (.iload_n 2, 1) := by decide +kernel
theorem dX11_plan_266 : decode cX11_plan 266 = .ok (.iconst 1, 1) := by decide +kernel
theorem dX11_plan_267 : decode cX11_plan 267 = .ok (.isub, 1) := by decide +kernel
theorem dX11_plan_268 : decode cX11_plan 268 = .ok (.iload 8, 2) := by decide +kernel
theorem dX11_plan_270 : decode cX11_plan 270 = .ok (.isub, 1) := by decide +kernel
theorem dX11_plan_271 : decode cX11_plan 271 = .ok (.ishr, 1) := by decide +kernel
theorem dX11_plan_272 : decode cX11_plan 272 = .ok (.iconst 1, 1) := by decide +kernel
theorem dX11_plan_273 : decode cX11_plan 273 = .ok (.iand, 1) := by decide +kernel
theorem dX11_plan_274 : decode cX11_plan 274 = .ok (.iconst 1, 1) := by decide +kernel
theorem dX11_plan_275 : decode cX11_plan 275 = .ok (.if_icmp .ne 29, 3) := by decide +kernel
theorem dX11_plan_278 : decode cX11_plan 278 = .ok (.aload_n 0, 1) := by decide +kernel
theorem dX11_plan_279 : decode cX11_plan 279 = .ok (.getfield 87, 3) := by decide +kernel
theorem dX11_plan_282 : decode cX11_plan 282 = .ok (.aload_n 0, 1) := by decide +kernel
theorem dX11_plan_283 : decode cX11_plan 283 = .ok (.getfield 225, 3) := by decide +kernel
theorem dX11_plan_286 : decode cX11_plan 286 = .ok (.aload_n 0, 1) := by decide +kernel
theorem dX11_plan_287 : decode cX11_plan 287 = .ok (.getfield 90, 3) := by decide +kernel
theorem dX11_plan_290 : decode cX11_plan 290 = .ok (.iload 8, 2) := by decide +kernel
theorem dX11_plan_292 : decode cX11_plan 292 = .ok (.iaload, 1) := by decide +kernel
theorem dX11_plan_293 : decode cX11_plan 293 = .ok (.iastore, 1) := by decide +kernel
theorem dX11_plan_294 : decode cX11_plan 294 = .ok (.aload_n 0, 1) := by decide +kernel
theorem dX11_plan_295 : decode cX11_plan 295 = .ok (.dup, 1) := by decide +kernel
theorem dX11_plan_296 : decode cX11_plan 296 = .ok (.getfield 225, 3) := by decide +kernel
theorem dX11_plan_299 : decode cX11_plan 299 = .ok (.iconst 1, 1) := by decide +kernel
theorem dX11_plan_300 : decode cX11_plan 300 = .ok (.iadd, 1) := by decide +kernel
theorem dX11_plan_301 : decode cX11_plan 301 = .ok (.putfield 225, 3) := by decide +kernel
theorem dX11_plan_304 : decode cX11_plan 304 = .ok (.iinc 8 1, 3) := by decide +kernel
theorem dX11_plan_307 : decode cX11_plan 307 = .ok (.goto (-50), 3) := by decide +kernel
theorem dX11_plan_310 : decode cX11_plan 310 = .ok (.iload 6, 2) := by decide +kernel
theorem dX11_plan_312 : decode cX11_plan 312 = .ok (.ireturn, 1) := by decide +kernel
def F_X11_plan_257 (G : Nat → Nat) (a0 : Nat) (x2 : Int32) (x5 : Int32) (x6 : Int32) : Nat → xH → Int32 → Option (Int32 × xH)
  | 0, _, _ => none
  | n + 1, h, x8 =>
    if x2 ≤ x8 then
      some (x6, h)
    else
    if ((x5 >>> (((x2 - 1) - x8) &&& 31)) &&& 1) = 1 then
      (gR h (some a0) 11 40).bind fun w15 =>
      (gI h (some a0) 11 39).bind fun v16 =>
      (gR h (some a0) 11 41).bind fun w17 =>
      (ldI 2 G h w17 x8).bind fun v18 =>
      (stI 2 G h w15 v16 v18).bind fun h19 =>
      (gI h19 (some a0) 11 39).bind fun v20 =>
      (xp G h19 (some a0) 11 39 (.int (v20 + 1))).bind fun h21 =>
      xl (x8 + 1) fun v22 =>
      F_X11_plan_257 G a0 x2 x5 x6 n h21 v22
    else
    xl (x8 + 1) fun v14 =>
    F_X11_plan_257 G a0 x2 x5 x6 n h v14
set_option maxHeartbeats 4000000 in
set_option maxRecDepth 100000 in
theorem tl_X11_plan_257 {p : Program} {l : Launch} {e : Env} {s : State} {m : MethodId} {args : Array Value} {below : List Frame} {meth : Method} {c : Code} {D : va_G} {r : Int32} {h' : xH} (hx : p.tables.exec = Jvm.exec) (hb : c.code = cX11_plan) (hr : meth.sig.returnType = (some .int)) (hlk : meth.locks = false) (hml : c.maxLocals = 14) (hown : s.vm.findClass RX11 = some m.cls) (hnm : meth.name = "plan") (hts : ∀ w ∈ xt, w.before args s = true) (G : Nat → Nat) (a0 : Nat) (x2 : Int32) (x5 : Int32) (x6 : Int32) : ∀ (n : Nat) (h : xH) (x8 : Int32) (H : Heap) (locs : List Loc) (ls : Array Slot), F_X11_plan_257 G a0 x2 x5 x6 n h x8 = some (r, h') → xR D G h s H → va_S (xA G) s.heap H locs → lv_has ls 14 [(0, va_rf (some a0)), (2, .int x2), (5, .int x5), (6, .int x6), (8, .int x8)] → W p l e rm_X11_plan s m args below meth c H locs 0 0 (MQ below (xQ D G (some (.int r)) h') args s rm_X11_plan.cells rm_X11_plan.slots (xA G)) (F0 m 257 ls []) := by
  intro n
  induction n with
  | zero =>
    intro h x8 H locs ls hF
    rw [F_X11_plan_257.eq_1] at hF
    cases hF
  | succ n ih =>
    intro h x8 H locs ls hF hR hS hl
    rw [F_X11_plan_257.eq_2] at hF
    refine lv_iload hx hb dX11_plan_257 (lv_at hl 4 rfl) ?_
    refine lv_iload_n hx hb dX11_plan_259 rfl (lv_at hl 1 rfl) ?_
    refine lv_icmp_ge (tgt := 310) hx hb dX11_plan_260 (by decide) (fun c12 => ?_) (fun c12 => ?_)
    · replace hF := xift c12 hF
      refine lv_iload hx hb dX11_plan_310 (lv_at hl 3 rfl) ?_
      cases hF
      exact x_iret hx hb hr rfl hlk hR hS (by decide) (by decide) dX11_plan_312
    · replace hF := xiff c12 hF
      refine lv_iload hx hb dX11_plan_263 (lv_at hl 2 rfl) ?_
      refine lv_iload_n hx hb dX11_plan_265 rfl (lv_at hl 1 rfl) ?_
      refine lv_iconst (v := 1) hx hb dX11_plan_266 (by decide) ?_
      refine lv_isub hx hb dX11_plan_267 ?_
      refine lv_iload hx hb dX11_plan_268 (lv_at hl 4 rfl) ?_
      refine lv_isub hx hb dX11_plan_270 ?_
      refine lv_ishr hx hb dX11_plan_271 ?_
      refine lv_iconst (v := 1) hx hb dX11_plan_272 (by decide) ?_
      refine lv_iand hx hb dX11_plan_273 ?_
      refine lv_iconst (v := 1) hx hb dX11_plan_274 (by decide) ?_
      refine lv_icmp_ne (tgt := 304) hx hb dX11_plan_275 (by decide) (fun c13 => ?_) (fun c13 => ?_)
      · replace hF := xiff c13 hF
        obtain ⟨v14, ev14⟩ : ∃ z : Int32, z = (x8 + 1) := ⟨_, rfl⟩
        replace hF := xlet ev14 hF
        refine lv_iinc (v := v14) (lv' := [(8, .int v14), (0, va_rf (some a0)), (2, .int x2), (5, .int x5), (6, .int x6)]) hx hb dX11_plan_304 hl (k := 4) rfl (by rw [ev14]; rfl) (by decide) (by first | rfl | (simp [xrf_cat, xcI, xcJ, xcA]; done) | (simp [xrf_cat, xcI, xcJ, xcA]; decide)) (fun ls hl => ?_)
        refine lv_goto (tgt := 257) hx hb dX11_plan_307 (by decide) ?_
        exact ih h v14 _ _ _ hF hR hS (lv_sub hl [1, 2, 3, 4, 0] rfl)
      · replace hF := xift c13 hF
        refine x_aload_n (o := (some a0)) hx hb dX11_plan_278 rfl (lv_at hl 0 rfl) ?_
        replace hF := xbind hF; obtain ⟨w15, ew15, hF⟩ := hF
        refine x_getR (o := (some a0)) (ci := 11) (C := RX11) (T := TX11) (N := 42) hx hb hts iw_X11 hown hR rfl 40 (by decide) mm_983 (Or.inl rfl) ew15 dX11_plan_279 ?_
        refine x_aload_n (o := (some a0)) hx hb dX11_plan_282 rfl (lv_at hl 0 rfl) ?_
        replace hF := xbind hF; obtain ⟨v16, ev16, hF⟩ := hF
        refine x_getI (o := (some a0)) (ci := 11) (C := RX11) (T := TX11) (N := 42) hx hb hts iw_X11 hown hR rfl 39 (by decide) mm_982 (Or.inl rfl) ev16 dX11_plan_283 ?_
        refine x_aload_n (o := (some a0)) hx hb dX11_plan_286 rfl (lv_at hl 0 rfl) ?_
        replace hF := xbind hF; obtain ⟨w17, ew17, hF⟩ := hF
        refine x_getR (o := (some a0)) (ci := 11) (C := RX11) (T := TX11) (N := 42) hx hb hts iw_X11 hown hR rfl 41 (by decide) mm_984 (Or.inl rfl) ew17 dX11_plan_287 ?_
        refine lv_iload hx hb dX11_plan_290 (lv_at hl 4 rfl) ?_
        replace hF := xbind hF; obtain ⟨v18, ev18, hF⟩ := hF
        refine x_ild (o := w17) hx hb hR ev18 dX11_plan_292 ?_
        replace hF := xbind hF; obtain ⟨h19, eh19, hF⟩ := hF
        refine x_ist (o := w15) hx hb hR hS eh19 dX11_plan_293 (fun H locs hR hS => ?_)
        refine x_aload_n (o := (some a0)) hx hb dX11_plan_294 rfl (lv_at hl 0 rfl) ?_
        refine lv_dup hx hb dX11_plan_295 xrf_cat ?_
        replace hF := xbind hF; obtain ⟨v20, ev20, hF⟩ := hF
        refine x_getI (o := (some a0)) (ci := 11) (C := RX11) (T := TX11) (N := 42) hx hb hts iw_X11 hown hR rfl 39 (by decide) mm_982 (Or.inl rfl) ev20 dX11_plan_296 ?_
        refine lv_iconst (v := 1) hx hb dX11_plan_299 (by decide) ?_
        refine lv_iadd hx hb dX11_plan_300 ?_
        replace hF := xbind hF; obtain ⟨h21, eh21, hF⟩ := hF
        refine x_put (o := (some a0)) (ci := 11) (C := RX11) (T := TX11) (N := 42) hx hb hts iw_X11 tyX11_ok nmX11 hown hR hS rfl 39 (by decide) mm_982 (Or.inl rfl) rfl rfl rfl eh21 dX11_plan_301 (fun H locs hR hS => ?_)
        obtain ⟨v22, ev22⟩ : ∃ z : Int32, z = (x8 + 1) := ⟨_, rfl⟩
        replace hF := xlet ev22 hF
        refine lv_iinc (v := v22) (lv' := [(8, .int v22), (0, va_rf (some a0)), (2, .int x2), (5, .int x5), (6, .int x6)]) hx hb dX11_plan_304 hl (k := 4) rfl (by rw [ev22]; rfl) (by decide) (by first | rfl | (simp [xrf_cat, xcI, xcJ, xcA]; done) | (simp [xrf_cat, xcI, xcJ, xcA]; decide)) (fun ls hl => ?_)
        refine lv_goto (tgt := 257) hx hb dX11_plan_307 (by decide) ?_
        exact ih h21 v22 _ _ _ hF hR hS (lv_sub hl [1, 2, 3, 4, 0] rfl)
def F_X11_plan_112 (G : Nat → Nat) (h : xH) (a0 : Nat) (x2 : Int32) (y3 : Int64) (x5 : Int32) (x6 : Int32) (x7 : Int32) (x8 : Int32) (k86 : Int32 → Int32 → Int32 → Int32 → Option (Int32 × xH)) : Nat → Int64 → Int32 → Int32 → Int32 → Option (Int32 × xH)
  | 0, _, _, _, _ => none
  | n + 1, y9, x11, x12, x13 =>
    if x2 ≤ x13 then
      if x6 < x11 then
        if 0 < (lg_cmp y9 y3) then
          xl (x8 + 1) fun v28 =>
          k86 x5 x6 x7 v28
        else
        if (1 : Int32) = 0 then
          xl (x8 + 1) fun v30 =>
          k86 x5 x6 x7 v30
        else
        xl (x8 + 1) fun v31 =>
        k86 x8 x11 x12 v31
      else
      if x11 = x6 then
        if x12 < x7 then
          if 0 < (lg_cmp y9 y3) then
            xl (x8 + 1) fun v40 =>
            k86 x5 x6 x7 v40
          else
          if (1 : Int32) = 0 then
            xl (x8 + 1) fun v42 =>
            k86 x5 x6 x7 v42
          else
          xl (x8 + 1) fun v43 =>
          k86 x8 x11 x12 v43
        else
        if x12 = x7 then
          if x8 ≤ x5 then
            if 0 < (lg_cmp y9 y3) then
              xl (x8 + 1) fun v52 =>
              k86 x5 x6 x7 v52
            else
            if (0 : Int32) = 0 then
              xl (x8 + 1) fun v54 =>
              k86 x5 x6 x7 v54
            else
            xl (x8 + 1) fun v55 =>
            k86 x8 x11 x12 v55
          else
          if 0 < (lg_cmp y9 y3) then
            xl (x8 + 1) fun v57 =>
            k86 x5 x6 x7 v57
          else
          if (1 : Int32) = 0 then
            xl (x8 + 1) fun v59 =>
            k86 x5 x6 x7 v59
          else
          xl (x8 + 1) fun v60 =>
          k86 x8 x11 x12 v60
        else
        if 0 < (lg_cmp y9 y3) then
          xl (x8 + 1) fun v46 =>
          k86 x5 x6 x7 v46
        else
        if (0 : Int32) = 0 then
          xl (x8 + 1) fun v48 =>
          k86 x5 x6 x7 v48
        else
        xl (x8 + 1) fun v49 =>
        k86 x8 x11 x12 v49
      else
      if 0 < (lg_cmp y9 y3) then
        xl (x8 + 1) fun v34 =>
        k86 x5 x6 x7 v34
      else
      if (0 : Int32) = 0 then
        xl (x8 + 1) fun v36 =>
        k86 x5 x6 x7 v36
      else
      xl (x8 + 1) fun v37 =>
      k86 x8 x11 x12 v37
    else
    if ((x8 >>> (((x2 - 1) - x13) &&& 31)) &&& 1) = 1 then
      (gR h (some a0) 11 35).bind fun w63 =>
      (gR h (some a0) 11 41).bind fun w64 =>
      (ldI 2 G h w64 x13).bind fun v65 =>
      (ldI 2 G h w63 v65).bind fun v66 =>
      xl (y9 + ((v66 : Int32).toInt64)) fun v67 =>
      (gR h (some a0) 11 36).bind fun w68 =>
      (gR h (some a0) 11 41).bind fun w69 =>
      (ldI 2 G h w69 x13).bind fun v70 =>
      (ldI 2 G h w68 v70).bind fun v71 =>
      xl (x11 + v71) fun v72 =>
      xl (x12 + 1) fun v73 =>
      xl (x13 + 1) fun v74 =>
      F_X11_plan_112 G h a0 x2 y3 x5 x6 x7 x8 k86 n v67 v72 v73 v74
    else
    xl (x13 + 1) fun v62 =>
    F_X11_plan_112 G h a0 x2 y3 x5 x6 x7 x8 k86 n y9 x11 x12 v62
set_option maxHeartbeats 4000000 in
set_option maxRecDepth 100000 in
theorem tl_X11_plan_112 {p : Program} {l : Launch} {e : Env} {s : State} {m : MethodId} {args : Array Value} {below : List Frame} {meth : Method} {c : Code} {D : va_G} {r : Int32} {h' : xH} (hx : p.tables.exec = Jvm.exec) (hb : c.code = cX11_plan) (hr : meth.sig.returnType = (some .int)) (hlk : meth.locks = false) (hml : c.maxLocals = 14) (hown : s.vm.findClass RX11 = some m.cls) (hnm : meth.name = "plan") (hts : ∀ w ∈ xt, w.before args s = true) (G : Nat → Nat) (h : xH) (a0 : Nat) (x2 : Int32) (y3 : Int64) (x5 : Int32) (x6 : Int32) (x7 : Int32) (x8 : Int32) (k86 : Int32 → Int32 → Int32 → Int32 → Option (Int32 × xH)) (hk86 : ∀ (x5' : Int32) (x6' : Int32) (x7' : Int32) (x8' : Int32) (H : Heap) (locs : List Loc) (ls : Array Slot), k86 x5' x6' x7' x8' = some (r, h') → xR D G h s H → va_S (xA G) s.heap H locs → lv_has ls 14 [(0, va_rf (some a0)), (2, .int x2), (3, .long y3), (5, .int x5'), (6, .int x6'), (7, .int x7'), (8, .int x8')] → W p l e rm_X11_plan s m args below meth c H locs 0 0 (MQ below (xQ D G (some (.int r)) h') args s rm_X11_plan.cells rm_X11_plan.slots (xA G)) (F0 m 86 ls [])) : ∀ (n : Nat) (y9 : Int64) (x11 : Int32) (x12 : Int32) (x13 : Int32) (H : Heap) (locs : List Loc) (ls : Array Slot), F_X11_plan_112 G h a0 x2 y3 x5 x6 x7 x8 k86 n y9 x11 x12 x13 = some (r, h') → xR D G h s H → va_S (xA G) s.heap H locs → lv_has ls 14 [(0, va_rf (some a0)), (2, .int x2), (3, .long y3), (5, .int x5), (6, .int x6), (7, .int x7), (8, .int x8), (9, .long y9), (11, .int x11), (12, .int x12), (13, .int x13)] → W p l e rm_X11_plan s m args below meth c H locs 0 0 (MQ below (xQ D G (some (.int r)) h') args s rm_X11_plan.cells rm_X11_plan.slots (xA G)) (F0 m 112 ls []) := by
  intro n
  induction n with
  | zero =>
    intro y9 x11 x12 x13 H locs ls hF
    rw [F_X11_plan_112.eq_1] at hF
    cases hF
  | succ n ih =>
    intro y9 x11 x12 x13 H locs ls hF hR hS hl
    rw [F_X11_plan_112.eq_2] at hF
    refine lv_iload hx hb dX11_plan_112 (lv_at hl 10 rfl) ?_
    refine lv_iload_n hx hb dX11_plan_114 rfl (lv_at hl 1 rfl) ?_
    refine lv_icmp_ge (tgt := 177) hx hb dX11_plan_115 (by decide) (fun c25 => ?_) (fun c25 => ?_)
    · replace hF := xift c25 hF
      refine lv_iload hx hb dX11_plan_177 (lv_at hl 8 rfl) ?_
      refine lv_iload hx hb dX11_plan_179 (lv_at hl 4 rfl) ?_
      refine lv_icmp_gt (tgt := 212) hx hb dX11_plan_181 (by decide) (fun c26 => ?_) (fun c26 => ?_)
      · replace hF := xift c26 hF
        refine lv_iconst (v := 1) hx hb dX11_plan_212 (by decide) ?_
        refine lv_goto (tgt := 217) hx hb dX11_plan_213 (by decide) ?_
        refine lv_istore (lv' := [(13, .int 1), (0, va_rf (some a0)), (2, .int x2), (3, .long y3), (5, .int x5), (6, .int x6), (7, .int x7), (8, .int x8), (9, .long y9), (11, .int x11), (12, .int x12)]) hx hb dX11_plan_217 hl (by decide) (by first | rfl | (simp [xrf_cat, xcI, xcJ, xcA]; done) | (simp [xrf_cat, xcI, xcJ, xcA]; decide)) (fun ls hl => ?_)
        refine lv_lload hx hb dX11_plan_219 (lv_at hl 8 rfl) ?_
        refine lv_lload_n hx hb dX11_plan_221 rfl (lv_at hl 3 rfl) ?_
        refine W.lcmp hx hb dX11_plan_222 ?_
        refine lv_if_gt (tgt := 243) hx hb dX11_plan_223 (by decide) (fun c27 => ?_) (fun c27 => ?_)
        · replace hF := xift c27 hF
          obtain ⟨v28, ev28⟩ : ∃ z : Int32, z = (x8 + 1) := ⟨_, rfl⟩
          replace hF := xlet ev28 hF
          refine lv_iinc (v := v28) (lv' := [(8, .int v28), (13, .int 1), (0, va_rf (some a0)), (2, .int x2), (3, .long y3), (5, .int x5), (6, .int x6), (7, .int x7), (9, .long y9), (11, .int x11), (12, .int x12)]) hx hb dX11_plan_243 hl (k := 7) rfl (by rw [ev28]; rfl) (by decide) (by first | rfl | (simp [xrf_cat, xcI, xcJ, xcA]; done) | (simp [xrf_cat, xcI, xcJ, xcA]; decide)) (fun ls hl => ?_)
          refine lv_goto (tgt := 86) hx hb dX11_plan_246 (by decide) ?_
          exact hk86 x5 x6 x7 v28 _ _ _ hF hR hS (lv_sub hl [2, 3, 4, 5, 6, 7, 0] rfl)
        · replace hF := xiff c27 hF
          refine lv_iload hx hb dX11_plan_226 (lv_at hl 0 rfl) ?_
          refine lv_if_eq (tgt := 243) hx hb dX11_plan_228 (by decide) (fun c29 => ?_) (fun c29 => ?_)
          · replace hF := xift c29 hF
            obtain ⟨v30, ev30⟩ : ∃ z : Int32, z = (x8 + 1) := ⟨_, rfl⟩
            replace hF := xlet ev30 hF
            refine lv_iinc (v := v30) (lv' := [(8, .int v30), (13, .int 1), (0, va_rf (some a0)), (2, .int x2), (3, .long y3), (5, .int x5), (6, .int x6), (7, .int x7), (9, .long y9), (11, .int x11), (12, .int x12)]) hx hb dX11_plan_243 hl (k := 7) rfl (by rw [ev30]; rfl) (by decide) (by first | rfl | (simp [xrf_cat, xcI, xcJ, xcA]; done) | (simp [xrf_cat, xcI, xcJ, xcA]; decide)) (fun ls hl => ?_)
            refine lv_goto (tgt := 86) hx hb dX11_plan_246 (by decide) ?_
            exact hk86 x5 x6 x7 v30 _ _ _ hF hR hS (lv_sub hl [2, 3, 4, 5, 6, 7, 0] rfl)
          · replace hF := xiff c29 hF
            refine lv_iload hx hb dX11_plan_231 (lv_at hl 7 rfl) ?_
            refine lv_istore (lv' := [(5, .int x8), (13, .int 1), (0, va_rf (some a0)), (2, .int x2), (3, .long y3), (6, .int x6), (7, .int x7), (8, .int x8), (9, .long y9), (11, .int x11), (12, .int x12)]) hx hb dX11_plan_233 hl (by decide) (by first | rfl | (simp [xrf_cat, xcI, xcJ, xcA]; done) | (simp [xrf_cat, xcI, xcJ, xcA]; decide)) (fun ls hl => ?_)
            refine lv_iload hx hb dX11_plan_235 (lv_at hl 9 rfl) ?_
            refine lv_istore (lv' := [(6, .int x11), (5, .int x8), (13, .int 1), (0, va_rf (some a0)), (2, .int x2), (3, .long y3), (7, .int x7), (8, .int x8), (9, .long y9), (11, .int x11), (12, .int x12)]) hx hb dX11_plan_237 hl (by decide) (by first | rfl | (simp [xrf_cat, xcI, xcJ, xcA]; done) | (simp [xrf_cat, xcI, xcJ, xcA]; decide)) (fun ls hl => ?_)
            refine lv_iload hx hb dX11_plan_239 (lv_at hl 10 rfl) ?_
            refine lv_istore (lv' := [(7, .int x12), (6, .int x11), (5, .int x8), (13, .int 1), (0, va_rf (some a0)), (2, .int x2), (3, .long y3), (8, .int x8), (9, .long y9), (11, .int x11), (12, .int x12)]) hx hb dX11_plan_241 hl (by decide) (by first | rfl | (simp [xrf_cat, xcI, xcJ, xcA]; done) | (simp [xrf_cat, xcI, xcJ, xcA]; decide)) (fun ls hl => ?_)
            obtain ⟨v31, ev31⟩ : ∃ z : Int32, z = (x8 + 1) := ⟨_, rfl⟩
            replace hF := xlet ev31 hF
            refine lv_iinc (v := v31) (lv' := [(8, .int v31), (7, .int x12), (6, .int x11), (5, .int x8), (13, .int 1), (0, va_rf (some a0)), (2, .int x2), (3, .long y3), (9, .long y9), (11, .int x11), (12, .int x12)]) hx hb dX11_plan_243 hl (k := 7) rfl (by rw [ev31]; rfl) (by decide) (by first | rfl | (simp [xrf_cat, xcI, xcJ, xcA]; done) | (simp [xrf_cat, xcI, xcJ, xcA]; decide)) (fun ls hl => ?_)
            refine lv_goto (tgt := 86) hx hb dX11_plan_246 (by decide) ?_
            exact hk86 x8 x11 x12 v31 _ _ _ hF hR hS (lv_sub hl [5, 6, 7, 3, 2, 1, 0] rfl)
      · replace hF := xiff c26 hF
        refine lv_iload hx hb dX11_plan_184 (lv_at hl 8 rfl) ?_
        refine lv_iload hx hb dX11_plan_186 (lv_at hl 4 rfl) ?_
        refine lv_icmp_ne (tgt := 216) hx hb dX11_plan_188 (by decide) (fun c32 => ?_) (fun c32 => ?_)
        · replace hF := xiff c32 hF
          refine lv_iconst (v := 0) hx hb dX11_plan_216 (by decide) ?_
          refine lv_istore (lv' := [(13, .int 0), (0, va_rf (some a0)), (2, .int x2), (3, .long y3), (5, .int x5), (6, .int x6), (7, .int x7), (8, .int x8), (9, .long y9), (11, .int x11), (12, .int x12)]) hx hb dX11_plan_217 hl (by decide) (by first | rfl | (simp [xrf_cat, xcI, xcJ, xcA]; done) | (simp [xrf_cat, xcI, xcJ, xcA]; decide)) (fun ls hl => ?_)
          refine lv_lload hx hb dX11_plan_219 (lv_at hl 8 rfl) ?_
          refine lv_lload_n hx hb dX11_plan_221 rfl (lv_at hl 3 rfl) ?_
          refine W.lcmp hx hb dX11_plan_222 ?_
          refine lv_if_gt (tgt := 243) hx hb dX11_plan_223 (by decide) (fun c33 => ?_) (fun c33 => ?_)
          · replace hF := xift c33 hF
            obtain ⟨v34, ev34⟩ : ∃ z : Int32, z = (x8 + 1) := ⟨_, rfl⟩
            replace hF := xlet ev34 hF
            refine lv_iinc (v := v34) (lv' := [(8, .int v34), (13, .int 0), (0, va_rf (some a0)), (2, .int x2), (3, .long y3), (5, .int x5), (6, .int x6), (7, .int x7), (9, .long y9), (11, .int x11), (12, .int x12)]) hx hb dX11_plan_243 hl (k := 7) rfl (by rw [ev34]; rfl) (by decide) (by first | rfl | (simp [xrf_cat, xcI, xcJ, xcA]; done) | (simp [xrf_cat, xcI, xcJ, xcA]; decide)) (fun ls hl => ?_)
            refine lv_goto (tgt := 86) hx hb dX11_plan_246 (by decide) ?_
            exact hk86 x5 x6 x7 v34 _ _ _ hF hR hS (lv_sub hl [2, 3, 4, 5, 6, 7, 0] rfl)
          · replace hF := xiff c33 hF
            refine lv_iload hx hb dX11_plan_226 (lv_at hl 0 rfl) ?_
            refine lv_if_eq (tgt := 243) hx hb dX11_plan_228 (by decide) (fun c35 => ?_) (fun c35 => ?_)
            · replace hF := xift c35 hF
              obtain ⟨v36, ev36⟩ : ∃ z : Int32, z = (x8 + 1) := ⟨_, rfl⟩
              replace hF := xlet ev36 hF
              refine lv_iinc (v := v36) (lv' := [(8, .int v36), (13, .int 0), (0, va_rf (some a0)), (2, .int x2), (3, .long y3), (5, .int x5), (6, .int x6), (7, .int x7), (9, .long y9), (11, .int x11), (12, .int x12)]) hx hb dX11_plan_243 hl (k := 7) rfl (by rw [ev36]; rfl) (by decide) (by first | rfl | (simp [xrf_cat, xcI, xcJ, xcA]; done) | (simp [xrf_cat, xcI, xcJ, xcA]; decide)) (fun ls hl => ?_)
              refine lv_goto (tgt := 86) hx hb dX11_plan_246 (by decide) ?_
              exact hk86 x5 x6 x7 v36 _ _ _ hF hR hS (lv_sub hl [2, 3, 4, 5, 6, 7, 0] rfl)
            · replace hF := xiff c35 hF
              refine lv_iload hx hb dX11_plan_231 (lv_at hl 7 rfl) ?_
              refine lv_istore (lv' := [(5, .int x8), (13, .int 0), (0, va_rf (some a0)), (2, .int x2), (3, .long y3), (6, .int x6), (7, .int x7), (8, .int x8), (9, .long y9), (11, .int x11), (12, .int x12)]) hx hb dX11_plan_233 hl (by decide) (by first | rfl | (simp [xrf_cat, xcI, xcJ, xcA]; done) | (simp [xrf_cat, xcI, xcJ, xcA]; decide)) (fun ls hl => ?_)
              refine lv_iload hx hb dX11_plan_235 (lv_at hl 9 rfl) ?_
              refine lv_istore (lv' := [(6, .int x11), (5, .int x8), (13, .int 0), (0, va_rf (some a0)), (2, .int x2), (3, .long y3), (7, .int x7), (8, .int x8), (9, .long y9), (11, .int x11), (12, .int x12)]) hx hb dX11_plan_237 hl (by decide) (by first | rfl | (simp [xrf_cat, xcI, xcJ, xcA]; done) | (simp [xrf_cat, xcI, xcJ, xcA]; decide)) (fun ls hl => ?_)
              refine lv_iload hx hb dX11_plan_239 (lv_at hl 10 rfl) ?_
              refine lv_istore (lv' := [(7, .int x12), (6, .int x11), (5, .int x8), (13, .int 0), (0, va_rf (some a0)), (2, .int x2), (3, .long y3), (8, .int x8), (9, .long y9), (11, .int x11), (12, .int x12)]) hx hb dX11_plan_241 hl (by decide) (by first | rfl | (simp [xrf_cat, xcI, xcJ, xcA]; done) | (simp [xrf_cat, xcI, xcJ, xcA]; decide)) (fun ls hl => ?_)
              obtain ⟨v37, ev37⟩ : ∃ z : Int32, z = (x8 + 1) := ⟨_, rfl⟩
              replace hF := xlet ev37 hF
              refine lv_iinc (v := v37) (lv' := [(8, .int v37), (7, .int x12), (6, .int x11), (5, .int x8), (13, .int 0), (0, va_rf (some a0)), (2, .int x2), (3, .long y3), (9, .long y9), (11, .int x11), (12, .int x12)]) hx hb dX11_plan_243 hl (k := 7) rfl (by rw [ev37]; rfl) (by decide) (by first | rfl | (simp [xrf_cat, xcI, xcJ, xcA]; done) | (simp [xrf_cat, xcI, xcJ, xcA]; decide)) (fun ls hl => ?_)
              refine lv_goto (tgt := 86) hx hb dX11_plan_246 (by decide) ?_
              exact hk86 x8 x11 x12 v37 _ _ _ hF hR hS (lv_sub hl [5, 6, 7, 3, 2, 1, 0] rfl)
        · replace hF := xift c32 hF
          refine lv_iload hx hb dX11_plan_191 (lv_at hl 9 rfl) ?_
          refine lv_iload hx hb dX11_plan_193 (lv_at hl 5 rfl) ?_
          refine lv_icmp_lt (tgt := 212) hx hb dX11_plan_195 (by decide) (fun c38 => ?_) (fun c38 => ?_)
          · replace hF := xift c38 hF
            refine lv_iconst (v := 1) hx hb dX11_plan_212 (by decide) ?_
            refine lv_goto (tgt := 217) hx hb dX11_plan_213 (by decide) ?_
            refine lv_istore (lv' := [(13, .int 1), (0, va_rf (some a0)), (2, .int x2), (3, .long y3), (5, .int x5), (6, .int x6), (7, .int x7), (8, .int x8), (9, .long y9), (11, .int x11), (12, .int x12)]) hx hb dX11_plan_217 hl (by decide) (by first | rfl | (simp [xrf_cat, xcI, xcJ, xcA]; done) | (simp [xrf_cat, xcI, xcJ, xcA]; decide)) (fun ls hl => ?_)
            refine lv_lload hx hb dX11_plan_219 (lv_at hl 8 rfl) ?_
            refine lv_lload_n hx hb dX11_plan_221 rfl (lv_at hl 3 rfl) ?_
            refine W.lcmp hx hb dX11_plan_222 ?_
            refine lv_if_gt (tgt := 243) hx hb dX11_plan_223 (by decide) (fun c39 => ?_) (fun c39 => ?_)
            · replace hF := xift c39 hF
              obtain ⟨v40, ev40⟩ : ∃ z : Int32, z = (x8 + 1) := ⟨_, rfl⟩
              replace hF := xlet ev40 hF
              refine lv_iinc (v := v40) (lv' := [(8, .int v40), (13, .int 1), (0, va_rf (some a0)), (2, .int x2), (3, .long y3), (5, .int x5), (6, .int x6), (7, .int x7), (9, .long y9), (11, .int x11), (12, .int x12)]) hx hb dX11_plan_243 hl (k := 7) rfl (by rw [ev40]; rfl) (by decide) (by first | rfl | (simp [xrf_cat, xcI, xcJ, xcA]; done) | (simp [xrf_cat, xcI, xcJ, xcA]; decide)) (fun ls hl => ?_)
              refine lv_goto (tgt := 86) hx hb dX11_plan_246 (by decide) ?_
              exact hk86 x5 x6 x7 v40 _ _ _ hF hR hS (lv_sub hl [2, 3, 4, 5, 6, 7, 0] rfl)
            · replace hF := xiff c39 hF
              refine lv_iload hx hb dX11_plan_226 (lv_at hl 0 rfl) ?_
              refine lv_if_eq (tgt := 243) hx hb dX11_plan_228 (by decide) (fun c41 => ?_) (fun c41 => ?_)
              · replace hF := xift c41 hF
                obtain ⟨v42, ev42⟩ : ∃ z : Int32, z = (x8 + 1) := ⟨_, rfl⟩
                replace hF := xlet ev42 hF
                refine lv_iinc (v := v42) (lv' := [(8, .int v42), (13, .int 1), (0, va_rf (some a0)), (2, .int x2), (3, .long y3), (5, .int x5), (6, .int x6), (7, .int x7), (9, .long y9), (11, .int x11), (12, .int x12)]) hx hb dX11_plan_243 hl (k := 7) rfl (by rw [ev42]; rfl) (by decide) (by first | rfl | (simp [xrf_cat, xcI, xcJ, xcA]; done) | (simp [xrf_cat, xcI, xcJ, xcA]; decide)) (fun ls hl => ?_)
                refine lv_goto (tgt := 86) hx hb dX11_plan_246 (by decide) ?_
                exact hk86 x5 x6 x7 v42 _ _ _ hF hR hS (lv_sub hl [2, 3, 4, 5, 6, 7, 0] rfl)
              · replace hF := xiff c41 hF
                refine lv_iload hx hb dX11_plan_231 (lv_at hl 7 rfl) ?_
                refine lv_istore (lv' := [(5, .int x8), (13, .int 1), (0, va_rf (some a0)), (2, .int x2), (3, .long y3), (6, .int x6), (7, .int x7), (8, .int x8), (9, .long y9), (11, .int x11), (12, .int x12)]) hx hb dX11_plan_233 hl (by decide) (by first | rfl | (simp [xrf_cat, xcI, xcJ, xcA]; done) | (simp [xrf_cat, xcI, xcJ, xcA]; decide)) (fun ls hl => ?_)
                refine lv_iload hx hb dX11_plan_235 (lv_at hl 9 rfl) ?_
                refine lv_istore (lv' := [(6, .int x11), (5, .int x8), (13, .int 1), (0, va_rf (some a0)), (2, .int x2), (3, .long y3), (7, .int x7), (8, .int x8), (9, .long y9), (11, .int x11), (12, .int x12)]) hx hb dX11_plan_237 hl (by decide) (by first | rfl | (simp [xrf_cat, xcI, xcJ, xcA]; done) | (simp [xrf_cat, xcI, xcJ, xcA]; decide)) (fun ls hl => ?_)
                refine lv_iload hx hb dX11_plan_239 (lv_at hl 10 rfl) ?_
                refine lv_istore (lv' := [(7, .int x12), (6, .int x11), (5, .int x8), (13, .int 1), (0, va_rf (some a0)), (2, .int x2), (3, .long y3), (8, .int x8), (9, .long y9), (11, .int x11), (12, .int x12)]) hx hb dX11_plan_241 hl (by decide) (by first | rfl | (simp [xrf_cat, xcI, xcJ, xcA]; done) | (simp [xrf_cat, xcI, xcJ, xcA]; decide)) (fun ls hl => ?_)
                obtain ⟨v43, ev43⟩ : ∃ z : Int32, z = (x8 + 1) := ⟨_, rfl⟩
                replace hF := xlet ev43 hF
                refine lv_iinc (v := v43) (lv' := [(8, .int v43), (7, .int x12), (6, .int x11), (5, .int x8), (13, .int 1), (0, va_rf (some a0)), (2, .int x2), (3, .long y3), (9, .long y9), (11, .int x11), (12, .int x12)]) hx hb dX11_plan_243 hl (k := 7) rfl (by rw [ev43]; rfl) (by decide) (by first | rfl | (simp [xrf_cat, xcI, xcJ, xcA]; done) | (simp [xrf_cat, xcI, xcJ, xcA]; decide)) (fun ls hl => ?_)
                refine lv_goto (tgt := 86) hx hb dX11_plan_246 (by decide) ?_
                exact hk86 x8 x11 x12 v43 _ _ _ hF hR hS (lv_sub hl [5, 6, 7, 3, 2, 1, 0] rfl)
          · replace hF := xiff c38 hF
            refine lv_iload hx hb dX11_plan_198 (lv_at hl 9 rfl) ?_
            refine lv_iload hx hb dX11_plan_200 (lv_at hl 5 rfl) ?_
            refine lv_icmp_ne (tgt := 216) hx hb dX11_plan_202 (by decide) (fun c44 => ?_) (fun c44 => ?_)
            · replace hF := xiff c44 hF
              refine lv_iconst (v := 0) hx hb dX11_plan_216 (by decide) ?_
              refine lv_istore (lv' := [(13, .int 0), (0, va_rf (some a0)), (2, .int x2), (3, .long y3), (5, .int x5), (6, .int x6), (7, .int x7), (8, .int x8), (9, .long y9), (11, .int x11), (12, .int x12)]) hx hb dX11_plan_217 hl (by decide) (by first | rfl | (simp [xrf_cat, xcI, xcJ, xcA]; done) | (simp [xrf_cat, xcI, xcJ, xcA]; decide)) (fun ls hl => ?_)
              refine lv_lload hx hb dX11_plan_219 (lv_at hl 8 rfl) ?_
              refine lv_lload_n hx hb dX11_plan_221 rfl (lv_at hl 3 rfl) ?_
              refine W.lcmp hx hb dX11_plan_222 ?_
              refine lv_if_gt (tgt := 243) hx hb dX11_plan_223 (by decide) (fun c45 => ?_) (fun c45 => ?_)
              · replace hF := xift c45 hF
                obtain ⟨v46, ev46⟩ : ∃ z : Int32, z = (x8 + 1) := ⟨_, rfl⟩
                replace hF := xlet ev46 hF
                refine lv_iinc (v := v46) (lv' := [(8, .int v46), (13, .int 0), (0, va_rf (some a0)), (2, .int x2), (3, .long y3), (5, .int x5), (6, .int x6), (7, .int x7), (9, .long y9), (11, .int x11), (12, .int x12)]) hx hb dX11_plan_243 hl (k := 7) rfl (by rw [ev46]; rfl) (by decide) (by first | rfl | (simp [xrf_cat, xcI, xcJ, xcA]; done) | (simp [xrf_cat, xcI, xcJ, xcA]; decide)) (fun ls hl => ?_)
                refine lv_goto (tgt := 86) hx hb dX11_plan_246 (by decide) ?_
                exact hk86 x5 x6 x7 v46 _ _ _ hF hR hS (lv_sub hl [2, 3, 4, 5, 6, 7, 0] rfl)
              · replace hF := xiff c45 hF
                refine lv_iload hx hb dX11_plan_226 (lv_at hl 0 rfl) ?_
                refine lv_if_eq (tgt := 243) hx hb dX11_plan_228 (by decide) (fun c47 => ?_) (fun c47 => ?_)
                · replace hF := xift c47 hF
                  obtain ⟨v48, ev48⟩ : ∃ z : Int32, z = (x8 + 1) := ⟨_, rfl⟩
                  replace hF := xlet ev48 hF
                  refine lv_iinc (v := v48) (lv' := [(8, .int v48), (13, .int 0), (0, va_rf (some a0)), (2, .int x2), (3, .long y3), (5, .int x5), (6, .int x6), (7, .int x7), (9, .long y9), (11, .int x11), (12, .int x12)]) hx hb dX11_plan_243 hl (k := 7) rfl (by rw [ev48]; rfl) (by decide) (by first | rfl | (simp [xrf_cat, xcI, xcJ, xcA]; done) | (simp [xrf_cat, xcI, xcJ, xcA]; decide)) (fun ls hl => ?_)
                  refine lv_goto (tgt := 86) hx hb dX11_plan_246 (by decide) ?_
                  exact hk86 x5 x6 x7 v48 _ _ _ hF hR hS (lv_sub hl [2, 3, 4, 5, 6, 7, 0] rfl)
                · replace hF := xiff c47 hF
                  refine lv_iload hx hb dX11_plan_231 (lv_at hl 7 rfl) ?_
                  refine lv_istore (lv' := [(5, .int x8), (13, .int 0), (0, va_rf (some a0)), (2, .int x2), (3, .long y3), (6, .int x6), (7, .int x7), (8, .int x8), (9, .long y9), (11, .int x11), (12, .int x12)]) hx hb dX11_plan_233 hl (by decide) (by first | rfl | (simp [xrf_cat, xcI, xcJ, xcA]; done) | (simp [xrf_cat, xcI, xcJ, xcA]; decide)) (fun ls hl => ?_)
                  refine lv_iload hx hb dX11_plan_235 (lv_at hl 9 rfl) ?_
                  refine lv_istore (lv' := [(6, .int x11), (5, .int x8), (13, .int 0), (0, va_rf (some a0)), (2, .int x2), (3, .long y3), (7, .int x7), (8, .int x8), (9, .long y9), (11, .int x11), (12, .int x12)]) hx hb dX11_plan_237 hl (by decide) (by first | rfl | (simp [xrf_cat, xcI, xcJ, xcA]; done) | (simp [xrf_cat, xcI, xcJ, xcA]; decide)) (fun ls hl => ?_)
                  refine lv_iload hx hb dX11_plan_239 (lv_at hl 10 rfl) ?_
                  refine lv_istore (lv' := [(7, .int x12), (6, .int x11), (5, .int x8), (13, .int 0), (0, va_rf (some a0)), (2, .int x2), (3, .long y3), (8, .int x8), (9, .long y9), (11, .int x11), (12, .int x12)]) hx hb dX11_plan_241 hl (by decide) (by first | rfl | (simp [xrf_cat, xcI, xcJ, xcA]; done) | (simp [xrf_cat, xcI, xcJ, xcA]; decide)) (fun ls hl => ?_)
                  obtain ⟨v49, ev49⟩ : ∃ z : Int32, z = (x8 + 1) := ⟨_, rfl⟩
                  replace hF := xlet ev49 hF
                  refine lv_iinc (v := v49) (lv' := [(8, .int v49), (7, .int x12), (6, .int x11), (5, .int x8), (13, .int 0), (0, va_rf (some a0)), (2, .int x2), (3, .long y3), (9, .long y9), (11, .int x11), (12, .int x12)]) hx hb dX11_plan_243 hl (k := 7) rfl (by rw [ev49]; rfl) (by decide) (by first | rfl | (simp [xrf_cat, xcI, xcJ, xcA]; done) | (simp [xrf_cat, xcI, xcJ, xcA]; decide)) (fun ls hl => ?_)
                  refine lv_goto (tgt := 86) hx hb dX11_plan_246 (by decide) ?_
                  exact hk86 x8 x11 x12 v49 _ _ _ hF hR hS (lv_sub hl [5, 6, 7, 3, 2, 1, 0] rfl)
            · replace hF := xift c44 hF
              refine lv_iload hx hb dX11_plan_205 (lv_at hl 6 rfl) ?_
              refine lv_iload hx hb dX11_plan_207 (lv_at hl 3 rfl) ?_
              refine lv_icmp_le (tgt := 216) hx hb dX11_plan_209 (by decide) (fun c50 => ?_) (fun c50 => ?_)
              · replace hF := xift c50 hF
                refine lv_iconst (v := 0) hx hb dX11_plan_216 (by decide) ?_
                refine lv_istore (lv' := [(13, .int 0), (0, va_rf (some a0)), (2, .int x2), (3, .long y3), (5, .int x5), (6, .int x6), (7, .int x7), (8, .int x8), (9, .long y9), (11, .int x11), (12, .int x12)]) hx hb dX11_plan_217 hl (by decide) (by first | rfl | (simp [xrf_cat, xcI, xcJ, xcA]; done) | (simp [xrf_cat, xcI, xcJ, xcA]; decide)) (fun ls hl => ?_)
                refine lv_lload hx hb dX11_plan_219 (lv_at hl 8 rfl) ?_
                refine lv_lload_n hx hb dX11_plan_221 rfl (lv_at hl 3 rfl) ?_
                refine W.lcmp hx hb dX11_plan_222 ?_
                refine lv_if_gt (tgt := 243) hx hb dX11_plan_223 (by decide) (fun c51 => ?_) (fun c51 => ?_)
                · replace hF := xift c51 hF
                  obtain ⟨v52, ev52⟩ : ∃ z : Int32, z = (x8 + 1) := ⟨_, rfl⟩
                  replace hF := xlet ev52 hF
                  refine lv_iinc (v := v52) (lv' := [(8, .int v52), (13, .int 0), (0, va_rf (some a0)), (2, .int x2), (3, .long y3), (5, .int x5), (6, .int x6), (7, .int x7), (9, .long y9), (11, .int x11), (12, .int x12)]) hx hb dX11_plan_243 hl (k := 7) rfl (by rw [ev52]; rfl) (by decide) (by first | rfl | (simp [xrf_cat, xcI, xcJ, xcA]; done) | (simp [xrf_cat, xcI, xcJ, xcA]; decide)) (fun ls hl => ?_)
                  refine lv_goto (tgt := 86) hx hb dX11_plan_246 (by decide) ?_
                  exact hk86 x5 x6 x7 v52 _ _ _ hF hR hS (lv_sub hl [2, 3, 4, 5, 6, 7, 0] rfl)
                · replace hF := xiff c51 hF
                  refine lv_iload hx hb dX11_plan_226 (lv_at hl 0 rfl) ?_
                  refine lv_if_eq (tgt := 243) hx hb dX11_plan_228 (by decide) (fun c53 => ?_) (fun c53 => ?_)
                  · replace hF := xift c53 hF
                    obtain ⟨v54, ev54⟩ : ∃ z : Int32, z = (x8 + 1) := ⟨_, rfl⟩
                    replace hF := xlet ev54 hF
                    refine lv_iinc (v := v54) (lv' := [(8, .int v54), (13, .int 0), (0, va_rf (some a0)), (2, .int x2), (3, .long y3), (5, .int x5), (6, .int x6), (7, .int x7), (9, .long y9), (11, .int x11), (12, .int x12)]) hx hb dX11_plan_243 hl (k := 7) rfl (by rw [ev54]; rfl) (by decide) (by first | rfl | (simp [xrf_cat, xcI, xcJ, xcA]; done) | (simp [xrf_cat, xcI, xcJ, xcA]; decide)) (fun ls hl => ?_)
                    refine lv_goto (tgt := 86) hx hb dX11_plan_246 (by decide) ?_
                    exact hk86 x5 x6 x7 v54 _ _ _ hF hR hS (lv_sub hl [2, 3, 4, 5, 6, 7, 0] rfl)
                  · replace hF := xiff c53 hF
                    refine lv_iload hx hb dX11_plan_231 (lv_at hl 7 rfl) ?_
                    refine lv_istore (lv' := [(5, .int x8), (13, .int 0), (0, va_rf (some a0)), (2, .int x2), (3, .long y3), (6, .int x6), (7, .int x7), (8, .int x8), (9, .long y9), (11, .int x11), (12, .int x12)]) hx hb dX11_plan_233 hl (by decide) (by first | rfl | (simp [xrf_cat, xcI, xcJ, xcA]; done) | (simp [xrf_cat, xcI, xcJ, xcA]; decide)) (fun ls hl => ?_)
                    refine lv_iload hx hb dX11_plan_235 (lv_at hl 9 rfl) ?_
                    refine lv_istore (lv' := [(6, .int x11), (5, .int x8), (13, .int 0), (0, va_rf (some a0)), (2, .int x2), (3, .long y3), (7, .int x7), (8, .int x8), (9, .long y9), (11, .int x11), (12, .int x12)]) hx hb dX11_plan_237 hl (by decide) (by first | rfl | (simp [xrf_cat, xcI, xcJ, xcA]; done) | (simp [xrf_cat, xcI, xcJ, xcA]; decide)) (fun ls hl => ?_)
                    refine lv_iload hx hb dX11_plan_239 (lv_at hl 10 rfl) ?_
                    refine lv_istore (lv' := [(7, .int x12), (6, .int x11), (5, .int x8), (13, .int 0), (0, va_rf (some a0)), (2, .int x2), (3, .long y3), (8, .int x8), (9, .long y9), (11, .int x11), (12, .int x12)]) hx hb dX11_plan_241 hl (by decide) (by first | rfl | (simp [xrf_cat, xcI, xcJ, xcA]; done) | (simp [xrf_cat, xcI, xcJ, xcA]; decide)) (fun ls hl => ?_)
                    obtain ⟨v55, ev55⟩ : ∃ z : Int32, z = (x8 + 1) := ⟨_, rfl⟩
                    replace hF := xlet ev55 hF
                    refine lv_iinc (v := v55) (lv' := [(8, .int v55), (7, .int x12), (6, .int x11), (5, .int x8), (13, .int 0), (0, va_rf (some a0)), (2, .int x2), (3, .long y3), (9, .long y9), (11, .int x11), (12, .int x12)]) hx hb dX11_plan_243 hl (k := 7) rfl (by rw [ev55]; rfl) (by decide) (by first | rfl | (simp [xrf_cat, xcI, xcJ, xcA]; done) | (simp [xrf_cat, xcI, xcJ, xcA]; decide)) (fun ls hl => ?_)
                    refine lv_goto (tgt := 86) hx hb dX11_plan_246 (by decide) ?_
                    exact hk86 x8 x11 x12 v55 _ _ _ hF hR hS (lv_sub hl [5, 6, 7, 3, 2, 1, 0] rfl)
              · replace hF := xiff c50 hF
                refine lv_iconst (v := 1) hx hb dX11_plan_212 (by decide) ?_
                refine lv_goto (tgt := 217) hx hb dX11_plan_213 (by decide) ?_
                refine lv_istore (lv' := [(13, .int 1), (0, va_rf (some a0)), (2, .int x2), (3, .long y3), (5, .int x5), (6, .int x6), (7, .int x7), (8, .int x8), (9, .long y9), (11, .int x11), (12, .int x12)]) hx hb dX11_plan_217 hl (by decide) (by first | rfl | (simp [xrf_cat, xcI, xcJ, xcA]; done) | (simp [xrf_cat, xcI, xcJ, xcA]; decide)) (fun ls hl => ?_)
                refine lv_lload hx hb dX11_plan_219 (lv_at hl 8 rfl) ?_
                refine lv_lload_n hx hb dX11_plan_221 rfl (lv_at hl 3 rfl) ?_
                refine W.lcmp hx hb dX11_plan_222 ?_
                refine lv_if_gt (tgt := 243) hx hb dX11_plan_223 (by decide) (fun c56 => ?_) (fun c56 => ?_)
                · replace hF := xift c56 hF
                  obtain ⟨v57, ev57⟩ : ∃ z : Int32, z = (x8 + 1) := ⟨_, rfl⟩
                  replace hF := xlet ev57 hF
                  refine lv_iinc (v := v57) (lv' := [(8, .int v57), (13, .int 1), (0, va_rf (some a0)), (2, .int x2), (3, .long y3), (5, .int x5), (6, .int x6), (7, .int x7), (9, .long y9), (11, .int x11), (12, .int x12)]) hx hb dX11_plan_243 hl (k := 7) rfl (by rw [ev57]; rfl) (by decide) (by first | rfl | (simp [xrf_cat, xcI, xcJ, xcA]; done) | (simp [xrf_cat, xcI, xcJ, xcA]; decide)) (fun ls hl => ?_)
                  refine lv_goto (tgt := 86) hx hb dX11_plan_246 (by decide) ?_
                  exact hk86 x5 x6 x7 v57 _ _ _ hF hR hS (lv_sub hl [2, 3, 4, 5, 6, 7, 0] rfl)
                · replace hF := xiff c56 hF
                  refine lv_iload hx hb dX11_plan_226 (lv_at hl 0 rfl) ?_
                  refine lv_if_eq (tgt := 243) hx hb dX11_plan_228 (by decide) (fun c58 => ?_) (fun c58 => ?_)
                  · replace hF := xift c58 hF
                    obtain ⟨v59, ev59⟩ : ∃ z : Int32, z = (x8 + 1) := ⟨_, rfl⟩
                    replace hF := xlet ev59 hF
                    refine lv_iinc (v := v59) (lv' := [(8, .int v59), (13, .int 1), (0, va_rf (some a0)), (2, .int x2), (3, .long y3), (5, .int x5), (6, .int x6), (7, .int x7), (9, .long y9), (11, .int x11), (12, .int x12)]) hx hb dX11_plan_243 hl (k := 7) rfl (by rw [ev59]; rfl) (by decide) (by first | rfl | (simp [xrf_cat, xcI, xcJ, xcA]; done) | (simp [xrf_cat, xcI, xcJ, xcA]; decide)) (fun ls hl => ?_)
                    refine lv_goto (tgt := 86) hx hb dX11_plan_246 (by decide) ?_
                    exact hk86 x5 x6 x7 v59 _ _ _ hF hR hS (lv_sub hl [2, 3, 4, 5, 6, 7, 0] rfl)
                  · replace hF := xiff c58 hF
                    refine lv_iload hx hb dX11_plan_231 (lv_at hl 7 rfl) ?_
                    refine lv_istore (lv' := [(5, .int x8), (13, .int 1), (0, va_rf (some a0)), (2, .int x2), (3, .long y3), (6, .int x6), (7, .int x7), (8, .int x8), (9, .long y9), (11, .int x11), (12, .int x12)]) hx hb dX11_plan_233 hl (by decide) (by first | rfl | (simp [xrf_cat, xcI, xcJ, xcA]; done) | (simp [xrf_cat, xcI, xcJ, xcA]; decide)) (fun ls hl => ?_)
                    refine lv_iload hx hb dX11_plan_235 (lv_at hl 9 rfl) ?_
                    refine lv_istore (lv' := [(6, .int x11), (5, .int x8), (13, .int 1), (0, va_rf (some a0)), (2, .int x2), (3, .long y3), (7, .int x7), (8, .int x8), (9, .long y9), (11, .int x11), (12, .int x12)]) hx hb dX11_plan_237 hl (by decide) (by first | rfl | (simp [xrf_cat, xcI, xcJ, xcA]; done) | (simp [xrf_cat, xcI, xcJ, xcA]; decide)) (fun ls hl => ?_)
                    refine lv_iload hx hb dX11_plan_239 (lv_at hl 10 rfl) ?_
                    refine lv_istore (lv' := [(7, .int x12), (6, .int x11), (5, .int x8), (13, .int 1), (0, va_rf (some a0)), (2, .int x2), (3, .long y3), (8, .int x8), (9, .long y9), (11, .int x11), (12, .int x12)]) hx hb dX11_plan_241 hl (by decide) (by first | rfl | (simp [xrf_cat, xcI, xcJ, xcA]; done) | (simp [xrf_cat, xcI, xcJ, xcA]; decide)) (fun ls hl => ?_)
                    obtain ⟨v60, ev60⟩ : ∃ z : Int32, z = (x8 + 1) := ⟨_, rfl⟩
                    replace hF := xlet ev60 hF
                    refine lv_iinc (v := v60) (lv' := [(8, .int v60), (7, .int x12), (6, .int x11), (5, .int x8), (13, .int 1), (0, va_rf (some a0)), (2, .int x2), (3, .long y3), (9, .long y9), (11, .int x11), (12, .int x12)]) hx hb dX11_plan_243 hl (k := 7) rfl (by rw [ev60]; rfl) (by decide) (by first | rfl | (simp [xrf_cat, xcI, xcJ, xcA]; done) | (simp [xrf_cat, xcI, xcJ, xcA]; decide)) (fun ls hl => ?_)
                    refine lv_goto (tgt := 86) hx hb dX11_plan_246 (by decide) ?_
                    exact hk86 x8 x11 x12 v60 _ _ _ hF hR hS (lv_sub hl [5, 6, 7, 3, 2, 1, 0] rfl)
    · replace hF := xiff c25 hF
      refine lv_iload hx hb dX11_plan_118 (lv_at hl 6 rfl) ?_
      refine lv_iload_n hx hb dX11_plan_120 rfl (lv_at hl 1 rfl) ?_
      refine lv_iconst (v := 1) hx hb dX11_plan_121 (by decide) ?_
      refine lv_isub hx hb dX11_plan_122 ?_
      refine lv_iload hx hb dX11_plan_123 (lv_at hl 10 rfl) ?_
      refine lv_isub hx hb dX11_plan_125 ?_
      refine lv_ishr hx hb dX11_plan_126 ?_
      refine lv_iconst (v := 1) hx hb dX11_plan_127 (by decide) ?_
      refine lv_iand hx hb dX11_plan_128 ?_
      refine lv_iconst (v := 1) hx hb dX11_plan_129 (by decide) ?_
      refine lv_icmp_ne (tgt := 171) hx hb dX11_plan_130 (by decide) (fun c61 => ?_) (fun c61 => ?_)
      · replace hF := xiff c61 hF
        obtain ⟨v62, ev62⟩ : ∃ z : Int32, z = (x13 + 1) := ⟨_, rfl⟩
        replace hF := xlet ev62 hF
        refine lv_iinc (v := v62) (lv' := [(13, .int v62), (0, va_rf (some a0)), (2, .int x2), (3, .long y3), (5, .int x5), (6, .int x6), (7, .int x7), (8, .int x8), (9, .long y9), (11, .int x11), (12, .int x12)]) hx hb dX11_plan_171 hl (k := 10) rfl (by rw [ev62]; rfl) (by decide) (by first | rfl | (simp [xrf_cat, xcI, xcJ, xcA]; done) | (simp [xrf_cat, xcI, xcJ, xcA]; decide)) (fun ls hl => ?_)
        refine lv_goto (tgt := 112) hx hb dX11_plan_174 (by decide) ?_
        exact ih y9 x11 x12 v62 _ _ _ hF hR hS (lv_sub hl [1, 2, 3, 4, 5, 6, 7, 8, 9, 10, 0] rfl)
      · replace hF := xift c61 hF
        refine lv_lload hx hb dX11_plan_133 (lv_at hl 7 rfl) ?_
        refine x_aload_n (o := (some a0)) hx hb dX11_plan_135 rfl (lv_at hl 0 rfl) ?_
        replace hF := xbind hF; obtain ⟨w63, ew63, hF⟩ := hF
        refine x_getR (o := (some a0)) (ci := 11) (C := RX11) (T := TX11) (N := 42) hx hb hts iw_X11 hown hR rfl 35 (by decide) mm_978 (Or.inl rfl) ew63 dX11_plan_136 ?_
        refine x_aload_n (o := (some a0)) hx hb dX11_plan_139 rfl (lv_at hl 0 rfl) ?_
        replace hF := xbind hF; obtain ⟨w64, ew64, hF⟩ := hF
        refine x_getR (o := (some a0)) (ci := 11) (C := RX11) (T := TX11) (N := 42) hx hb hts iw_X11 hown hR rfl 41 (by decide) mm_984 (Or.inl rfl) ew64 dX11_plan_140 ?_
        refine lv_iload hx hb dX11_plan_143 (lv_at hl 10 rfl) ?_
        replace hF := xbind hF; obtain ⟨v65, ev65, hF⟩ := hF
        refine x_ild (o := w64) hx hb hR ev65 dX11_plan_145 ?_
        replace hF := xbind hF; obtain ⟨v66, ev66, hF⟩ := hF
        refine x_ild (o := w63) hx hb hR ev66 dX11_plan_146 ?_
        refine lv_i2l (v := ((v66 : Int32).toInt64)) hx hb dX11_plan_147 rfl ?_
        refine lv_ladd hx hb dX11_plan_148 ?_
        refine lv_topl (fun v67 ev67 => ?_)
        replace hF := xlet ev67 hF
        refine lv_lstore (lv' := [(9, .long v67), (0, va_rf (some a0)), (2, .int x2), (3, .long y3), (5, .int x5), (6, .int x6), (7, .int x7), (8, .int x8), (11, .int x11), (12, .int x12), (13, .int x13)]) hx hb dX11_plan_149 hl (by decide) (by first | rfl | (simp [xrf_cat, xcI, xcJ, xcA]; done) | (simp [xrf_cat, xcI, xcJ, xcA]; decide)) (fun ls hl => ?_)
        refine lv_iload hx hb dX11_plan_151 (lv_at hl 8 rfl) ?_
        refine x_aload_n (o := (some a0)) hx hb dX11_plan_153 rfl (lv_at hl 1 rfl) ?_
        replace hF := xbind hF; obtain ⟨w68, ew68, hF⟩ := hF
        refine x_getR (o := (some a0)) (ci := 11) (C := RX11) (T := TX11) (N := 42) hx hb hts iw_X11 hown hR rfl 36 (by decide) mm_979 (Or.inl rfl) ew68 dX11_plan_154 ?_
        refine x_aload_n (o := (some a0)) hx hb dX11_plan_157 rfl (lv_at hl 1 rfl) ?_
        replace hF := xbind hF; obtain ⟨w69, ew69, hF⟩ := hF
        refine x_getR (o := (some a0)) (ci := 11) (C := RX11) (T := TX11) (N := 42) hx hb hts iw_X11 hown hR rfl 41 (by decide) mm_984 (Or.inl rfl) ew69 dX11_plan_158 ?_
        refine lv_iload hx hb dX11_plan_161 (lv_at hl 10 rfl) ?_
        replace hF := xbind hF; obtain ⟨v70, ev70, hF⟩ := hF
        refine x_ild (o := w69) hx hb hR ev70 dX11_plan_163 ?_
        replace hF := xbind hF; obtain ⟨v71, ev71, hF⟩ := hF
        refine x_ild (o := w68) hx hb hR ev71 dX11_plan_164 ?_
        refine lv_iadd hx hb dX11_plan_165 ?_
        refine lv_topi (fun v72 ev72 => ?_)
        replace hF := xlet ev72 hF
        refine lv_istore (lv' := [(11, .int v72), (9, .long v67), (0, va_rf (some a0)), (2, .int x2), (3, .long y3), (5, .int x5), (6, .int x6), (7, .int x7), (8, .int x8), (12, .int x12), (13, .int x13)]) hx hb dX11_plan_166 hl (by decide) (by first | rfl | (simp [xrf_cat, xcI, xcJ, xcA]; done) | (simp [xrf_cat, xcI, xcJ, xcA]; decide)) (fun ls hl => ?_)
        obtain ⟨v73, ev73⟩ : ∃ z : Int32, z = (x12 + 1) := ⟨_, rfl⟩
        replace hF := xlet ev73 hF
        refine lv_iinc (v := v73) (lv' := [(12, .int v73), (11, .int v72), (9, .long v67), (0, va_rf (some a0)), (2, .int x2), (3, .long y3), (5, .int x5), (6, .int x6), (7, .int x7), (8, .int x8), (13, .int x13)]) hx hb dX11_plan_168 hl (k := 9) rfl (by rw [ev73]; rfl) (by decide) (by first | rfl | (simp [xrf_cat, xcI, xcJ, xcA]; done) | (simp [xrf_cat, xcI, xcJ, xcA]; decide)) (fun ls hl => ?_)
        obtain ⟨v74, ev74⟩ : ∃ z : Int32, z = (x13 + 1) := ⟨_, rfl⟩
        replace hF := xlet ev74 hF
        refine lv_iinc (v := v74) (lv' := [(13, .int v74), (12, .int v73), (11, .int v72), (9, .long v67), (0, va_rf (some a0)), (2, .int x2), (3, .long y3), (5, .int x5), (6, .int x6), (7, .int x7), (8, .int x8)]) hx hb dX11_plan_171 hl (k := 10) rfl (by rw [ev74]; rfl) (by decide) (by first | rfl | (simp [xrf_cat, xcI, xcJ, xcA]; done) | (simp [xrf_cat, xcI, xcJ, xcA]; decide)) (fun ls hl => ?_)
        refine lv_goto (tgt := 112) hx hb dX11_plan_174 (by decide) ?_
        exact ih v67 v72 v73 v74 _ _ _ hF hR hS (lv_sub hl [4, 5, 6, 7, 8, 9, 10, 3, 2, 1, 0] rfl)
def F_X11_plan_86 (G : Nat → Nat) (h : xH) (a0 : Nat) (x2 : Int32) (y3 : Int64) : Nat → Int32 → Int32 → Int32 → Int32 → Option (Int32 × xH)
  | 0, _, _, _, _ => none
  | n + 1, x5, x6, x7, x8 =>
    if (1 <<< (x2 &&& 31)) ≤ x8 then
      (xp G h (some a0) 11 39 (.int 0)).bind fun h11 =>
      F_X11_plan_257 G a0 x2 x5 x6 xN h11 0
    else
    if (lg_cmp y3 0) < 0 then
      (xp G h (some a0) 11 39 (.int 0)).bind fun h24 =>
      F_X11_plan_257 G a0 x2 x5 x6 xN h24 0
    else
    F_X11_plan_112 G h a0 x2 y3 x5 x6 x7 x8 (fun x5' x6' x7' x8' => F_X11_plan_86 G h a0 x2 y3 n x5' x6' x7' x8') xN 0 0 0 0
set_option maxHeartbeats 4000000 in
set_option maxRecDepth 100000 in
theorem tl_X11_plan_86 {p : Program} {l : Launch} {e : Env} {s : State} {m : MethodId} {args : Array Value} {below : List Frame} {meth : Method} {c : Code} {D : va_G} {r : Int32} {h' : xH} (hx : p.tables.exec = Jvm.exec) (hb : c.code = cX11_plan) (hr : meth.sig.returnType = (some .int)) (hlk : meth.locks = false) (hml : c.maxLocals = 14) (hown : s.vm.findClass RX11 = some m.cls) (hnm : meth.name = "plan") (hts : ∀ w ∈ xt, w.before args s = true) (G : Nat → Nat) (h : xH) (a0 : Nat) (x2 : Int32) (y3 : Int64) : ∀ (n : Nat) (x5 : Int32) (x6 : Int32) (x7 : Int32) (x8 : Int32) (H : Heap) (locs : List Loc) (ls : Array Slot), F_X11_plan_86 G h a0 x2 y3 n x5 x6 x7 x8 = some (r, h') → xR D G h s H → va_S (xA G) s.heap H locs → lv_has ls 14 [(0, va_rf (some a0)), (2, .int x2), (3, .long y3), (5, .int x5), (6, .int x6), (7, .int x7), (8, .int x8)] → W p l e rm_X11_plan s m args below meth c H locs 0 0 (MQ below (xQ D G (some (.int r)) h') args s rm_X11_plan.cells rm_X11_plan.slots (xA G)) (F0 m 86 ls []) := by
  intro n
  induction n with
  | zero =>
    intro x5 x6 x7 x8 H locs ls hF
    rw [F_X11_plan_86.eq_1] at hF
    cases hF
  | succ n ih =>
    intro x5 x6 x7 x8 H locs ls hF hR hS hl
    rw [F_X11_plan_86.eq_2] at hF
    refine lv_iload hx hb dX11_plan_86 (lv_at hl 6 rfl) ?_
    refine lv_iconst (v := 1) hx hb dX11_plan_88 (by decide) ?_
    refine lv_iload_n hx hb dX11_plan_89 rfl (lv_at hl 1 rfl) ?_
    refine lv_ishl hx hb dX11_plan_90 ?_
    refine lv_icmp_ge (tgt := 249) hx hb dX11_plan_91 (by decide) (fun c10 => ?_) (fun c10 => ?_)
    · replace hF := xift c10 hF
      refine x_aload_n (o := (some a0)) hx hb dX11_plan_249 rfl (lv_at hl 0 rfl) ?_
      refine lv_iconst (v := 0) hx hb dX11_plan_250 (by decide) ?_
      replace hF := xbind hF; obtain ⟨h11, eh11, hF⟩ := hF
      refine x_put (o := (some a0)) (ci := 11) (C := RX11) (T := TX11) (N := 42) hx hb hts iw_X11 tyX11_ok nmX11 hown hR hS rfl 39 (by decide) mm_982 (Or.inl rfl) rfl rfl rfl eh11 dX11_plan_251 (fun H locs hR hS => ?_)
      refine lv_iconst (v := 0) hx hb dX11_plan_254 (by decide) ?_
      refine lv_istore (lv' := [(8, .int 0), (0, va_rf (some a0)), (2, .int x2), (3, .long y3), (5, .int x5), (6, .int x6), (7, .int x7)]) hx hb dX11_plan_255 hl (by decide) (by first | rfl | (simp [xrf_cat, xcI, xcJ, xcA]; done) | (simp [xrf_cat, xcI, xcJ, xcA]; decide)) (fun ls hl => ?_)
      refine W.widen (k := 0) (n := 0) (by decide) (by decide) ?_
      exact tl_X11_plan_257 hx hb hr hlk hml hown hnm hts G a0 x2 x5 x6 _ h11 0 _ _ _ hF hR hS (lv_sub hl [1, 2, 4, 5, 0] rfl)
    · replace hF := xiff c10 hF
      refine lv_lload_n hx hb dX11_plan_94 rfl (lv_at hl 2 rfl) ?_
      refine lv_lconst (v := 0) hx hb dX11_plan_95 (by decide) ?_
      refine W.lcmp hx hb dX11_plan_96 ?_
      refine lv_if_lt (tgt := 249) hx hb dX11_plan_97 (by decide) (fun c23 => ?_) (fun c23 => ?_)
      · replace hF := xift c23 hF
        refine x_aload_n (o := (some a0)) hx hb dX11_plan_249 rfl (lv_at hl 0 rfl) ?_
        refine lv_iconst (v := 0) hx hb dX11_plan_250 (by decide) ?_
        replace hF := xbind hF; obtain ⟨h24, eh24, hF⟩ := hF
        refine x_put (o := (some a0)) (ci := 11) (C := RX11) (T := TX11) (N := 42) hx hb hts iw_X11 tyX11_ok nmX11 hown hR hS rfl 39 (by decide) mm_982 (Or.inl rfl) rfl rfl rfl eh24 dX11_plan_251 (fun H locs hR hS => ?_)
        refine lv_iconst (v := 0) hx hb dX11_plan_254 (by decide) ?_
        refine lv_istore (lv' := [(8, .int 0), (0, va_rf (some a0)), (2, .int x2), (3, .long y3), (5, .int x5), (6, .int x6), (7, .int x7)]) hx hb dX11_plan_255 hl (by decide) (by first | rfl | (simp [xrf_cat, xcI, xcJ, xcA]; done) | (simp [xrf_cat, xcI, xcJ, xcA]; decide)) (fun ls hl => ?_)
        refine W.widen (k := 0) (n := 0) (by decide) (by decide) ?_
        exact tl_X11_plan_257 hx hb hr hlk hml hown hnm hts G a0 x2 x5 x6 _ h24 0 _ _ _ hF hR hS (lv_sub hl [1, 2, 4, 5, 0] rfl)
      · replace hF := xiff c23 hF
        refine lv_lconst (v := 0) hx hb dX11_plan_100 (by decide) ?_
        refine lv_lstore (lv' := [(9, .long 0), (0, va_rf (some a0)), (2, .int x2), (3, .long y3), (5, .int x5), (6, .int x6), (7, .int x7), (8, .int x8)]) hx hb dX11_plan_101 hl (by decide) (by first | rfl | (simp [xrf_cat, xcI, xcJ, xcA]; done) | (simp [xrf_cat, xcI, xcJ, xcA]; decide)) (fun ls hl => ?_)
        refine lv_iconst (v := 0) hx hb dX11_plan_103 (by decide) ?_
        refine lv_istore (lv' := [(11, .int 0), (9, .long 0), (0, va_rf (some a0)), (2, .int x2), (3, .long y3), (5, .int x5), (6, .int x6), (7, .int x7), (8, .int x8)]) hx hb dX11_plan_104 hl (by decide) (by first | rfl | (simp [xrf_cat, xcI, xcJ, xcA]; done) | (simp [xrf_cat, xcI, xcJ, xcA]; decide)) (fun ls hl => ?_)
        refine lv_iconst (v := 0) hx hb dX11_plan_106 (by decide) ?_
        refine lv_istore (lv' := [(12, .int 0), (11, .int 0), (9, .long 0), (0, va_rf (some a0)), (2, .int x2), (3, .long y3), (5, .int x5), (6, .int x6), (7, .int x7), (8, .int x8)]) hx hb dX11_plan_107 hl (by decide) (by first | rfl | (simp [xrf_cat, xcI, xcJ, xcA]; done) | (simp [xrf_cat, xcI, xcJ, xcA]; decide)) (fun ls hl => ?_)
        refine lv_iconst (v := 0) hx hb dX11_plan_109 (by decide) ?_
        refine lv_istore (lv' := [(13, .int 0), (12, .int 0), (11, .int 0), (9, .long 0), (0, va_rf (some a0)), (2, .int x2), (3, .long y3), (5, .int x5), (6, .int x6), (7, .int x7), (8, .int x8)]) hx hb dX11_plan_110 hl (by decide) (by first | rfl | (simp [xrf_cat, xcI, xcJ, xcA]; done) | (simp [xrf_cat, xcI, xcJ, xcA]; decide)) (fun ls hl => ?_)
        refine W.widen (k := 0) (n := 0) (by decide) (by decide) ?_
        exact tl_X11_plan_112 hx hb hr hlk hml hown hnm hts G h a0 x2 y3 x5 x6 x7 x8 (fun x5' x6' x7' x8' => F_X11_plan_86 G h a0 x2 y3 n x5' x6' x7' x8') (fun x5' x6' x7' x8' H locs ls => ih x5' x6' x7' x8' H locs ls) _ 0 0 0 0 _ _ _ hF hR hS (lv_sub hl [4, 5, 6, 7, 8, 9, 10, 3, 2, 1, 0] rfl)
def F_X11_plan_19 (G : Nat → Nat) (a0 : Nat) (x1 : Int32) : Nat → xH → Int32 → Int32 → Option (Int32 × xH)
  | 0, _, _, _ => none
  | n + 1, h, x2, x3 =>
    (gI h (some a0) 11 33).bind fun v5 =>
    if v5 ≤ x3 then
      (xc h (some a0) 11).bind fun b9 =>
      (F_X11_room G h b9 x1).bind fun (v7, h8) =>
      F_X11_plan_86 G h8 a0 x2 v7 xN 0 0 0 1
    else
    if 14 ≤ x2 then
      (xc h (some a0) 11).bind fun b78 =>
      (F_X11_room G h b78 x1).bind fun (v76, h77) =>
      F_X11_plan_86 G h77 a0 x2 v76 xN 0 0 0 1
    else
    (gR h (some a0) 11 34).bind fun w79 =>
    (ldI 2 G h w79 x3).bind fun v80 =>
    if v80 = x1 then
      (gR h (some a0) 11 37).bind fun w83 =>
      (ldI 2 G h w83 x3).bind fun v84 =>
      if v84 = 0 then
        (gR h (some a0) 11 41).bind fun w87 =>
        (stI 2 G h w87 x2 x3).bind fun h88 =>
        xl (x2 + 1) fun v89 =>
        xl (x3 + 1) fun v90 =>
        F_X11_plan_19 G a0 x1 n h88 v89 v90
      else
      xl (x3 + 1) fun v86 =>
      F_X11_plan_19 G a0 x1 n h x2 v86
    else
    xl (x3 + 1) fun v82 =>
    F_X11_plan_19 G a0 x1 n h x2 v82
set_option maxHeartbeats 4000000 in
set_option maxRecDepth 100000 in
theorem tl_X11_plan_19 {p : Program} {l : Launch} {e : Env} {s : State} {m : MethodId} {args : Array Value} {below : List Frame} {meth : Method} {c : Code} {D : va_G} {r : Int32} {h' : xH} (hx : p.tables.exec = Jvm.exec) (hb : c.code = cX11_plan) (hr : meth.sig.returnType = (some .int)) (hlk : meth.locks = false) (hml : c.maxLocals = 14) (hown : s.vm.findClass RX11 = some m.cls) (hnm : meth.name = "plan") (hts : ∀ w ∈ xt, w.before args s = true) (G : Nat → Nat) (a0 : Nat) (x1 : Int32) : ∀ (n : Nat) (h : xH) (x2 : Int32) (x3 : Int32) (H : Heap) (locs : List Loc) (ls : Array Slot), F_X11_plan_19 G a0 x1 n h x2 x3 = some (r, h') → xR D G h s H → va_S (xA G) s.heap H locs → lv_has ls 14 [(0, va_rf (some a0)), (1, .int x1), (2, .int x2), (3, .int x3)] → W p l e rm_X11_plan s m args below meth c H locs 0 0 (MQ below (xQ D G (some (.int r)) h') args s rm_X11_plan.cells rm_X11_plan.slots (xA G)) (F0 m 19 ls []) := by
  intro n
  induction n with
  | zero =>
    intro h x2 x3 H locs ls hF
    rw [F_X11_plan_19.eq_1] at hF
    cases hF
  | succ n ih =>
    intro h x2 x3 H locs ls hF hR hS hl
    rw [F_X11_plan_19.eq_2] at hF
    refine lv_iload_n hx hb dX11_plan_19 rfl (lv_at hl 3 rfl) ?_
    refine x_aload_n (o := (some a0)) hx hb dX11_plan_20 rfl (lv_at hl 0 rfl) ?_
    replace hF := xbind hF; obtain ⟨v5, ev5, hF⟩ := hF
    refine x_getI (o := (some a0)) (ci := 11) (C := RX11) (T := TX11) (N := 42) hx hb hts iw_X11 hown hR rfl 33 (by decide) mm_976 (Or.inl rfl) ev5 dX11_plan_21 ?_
    refine lv_icmp_ge (tgt := 68) hx hb dX11_plan_24 (by decide) (fun c6 => ?_) (fun c6 => ?_)
    · replace hF := xift c6 hF
      refine x_aload_n (o := (some a0)) hx hb dX11_plan_68 rfl (lv_at hl 0 rfl) ?_
      refine lv_iload_n hx hb dX11_plan_69 rfl (lv_at hl 1 rfl) ?_
      replace hF := xbind hF; obtain ⟨b9, eb9, hF⟩ := hF
      replace hF := xbind hF; obtain ⟨⟨v7, h8⟩, ev7, hF⟩ := hF
      refine x_callV (o := (some a0)) (ci := 11) (As := [.int x1]) (rest := []) (v := (some (.long v7))) (k := 1) hx hb hml hown hts hR hS eb9 rfl rfl (t_X11_room l D G h b9 x1 v7 h8 ev7) f_X11_room mm_1232 mm_1234 mm_53 rfl hl.1 rfl (by first | exact Nat.le_of_ble_eq_true rfl | simp [xrf_cat, xcI, xcJ, xcA]) dX11_plan_70 (by decide) (by decide) rfl (fun H locs hR hS => ?_)
      refine lv_lstore_n (lv' := [(3, .long v7), (0, va_rf (some a0)), (1, .int x1), (2, .int x2)]) hx hb dX11_plan_73 rfl hl (by decide) (by first | rfl | (simp [xrf_cat, xcI, xcJ, xcA]; done) | (simp [xrf_cat, xcI, xcJ, xcA]; decide)) (fun ls hl => ?_)
      refine lv_iconst (v := 0) hx hb dX11_plan_74 (by decide) ?_
      refine lv_istore (lv' := [(5, .int 0), (3, .long v7), (0, va_rf (some a0)), (1, .int x1), (2, .int x2)]) hx hb dX11_plan_75 hl (by decide) (by first | rfl | (simp [xrf_cat, xcI, xcJ, xcA]; done) | (simp [xrf_cat, xcI, xcJ, xcA]; decide)) (fun ls hl => ?_)
      refine lv_iconst (v := 0) hx hb dX11_plan_77 (by decide) ?_
      refine lv_istore (lv' := [(6, .int 0), (5, .int 0), (3, .long v7), (0, va_rf (some a0)), (1, .int x1), (2, .int x2)]) hx hb dX11_plan_78 hl (by decide) (by first | rfl | (simp [xrf_cat, xcI, xcJ, xcA]; done) | (simp [xrf_cat, xcI, xcJ, xcA]; decide)) (fun ls hl => ?_)
      refine lv_iconst (v := 0) hx hb dX11_plan_80 (by decide) ?_
      refine lv_istore (lv' := [(7, .int 0), (6, .int 0), (5, .int 0), (3, .long v7), (0, va_rf (some a0)), (1, .int x1), (2, .int x2)]) hx hb dX11_plan_81 hl (by decide) (by first | rfl | (simp [xrf_cat, xcI, xcJ, xcA]; done) | (simp [xrf_cat, xcI, xcJ, xcA]; decide)) (fun ls hl => ?_)
      refine lv_iconst (v := 1) hx hb dX11_plan_83 (by decide) ?_
      refine lv_istore (lv' := [(8, .int 1), (7, .int 0), (6, .int 0), (5, .int 0), (3, .long v7), (0, va_rf (some a0)), (1, .int x1), (2, .int x2)]) hx hb dX11_plan_84 hl (by decide) (by first | rfl | (simp [xrf_cat, xcI, xcJ, xcA]; done) | (simp [xrf_cat, xcI, xcJ, xcA]; decide)) (fun ls hl => ?_)
      refine W.widen (k := 0) (n := 0) (by decide) (by decide) ?_
      exact tl_X11_plan_86 hx hb hr hlk hml hown hnm hts G h8 a0 x2 v7 _ 0 0 0 1 _ _ _ hF hR hS (lv_sub hl [5, 7, 4, 3, 2, 1, 0] rfl)
    · replace hF := xiff c6 hF
      refine lv_iload_n hx hb dX11_plan_27 rfl (lv_at hl 2 rfl) ?_
      refine lv_bipush (v := 14) hx hb dX11_plan_28 (by decide) ?_
      refine lv_icmp_ge (tgt := 68) hx hb dX11_plan_30 (by decide) (fun c75 => ?_) (fun c75 => ?_)
      · replace hF := xift c75 hF
        refine x_aload_n (o := (some a0)) hx hb dX11_plan_68 rfl (lv_at hl 0 rfl) ?_
        refine lv_iload_n hx hb dX11_plan_69 rfl (lv_at hl 1 rfl) ?_
        replace hF := xbind hF; obtain ⟨b78, eb78, hF⟩ := hF
        replace hF := xbind hF; obtain ⟨⟨v76, h77⟩, ev76, hF⟩ := hF
        refine x_callV (o := (some a0)) (ci := 11) (As := [.int x1]) (rest := []) (v := (some (.long v76))) (k := 1) hx hb hml hown hts hR hS eb78 rfl rfl (t_X11_room l D G h b78 x1 v76 h77 ev76) f_X11_room mm_1232 mm_1234 mm_53 rfl hl.1 rfl (by first | exact Nat.le_of_ble_eq_true rfl | simp [xrf_cat, xcI, xcJ, xcA]) dX11_plan_70 (by decide) (by decide) rfl (fun H locs hR hS => ?_)
        refine lv_lstore_n (lv' := [(3, .long v76), (0, va_rf (some a0)), (1, .int x1), (2, .int x2)]) hx hb dX11_plan_73 rfl hl (by decide) (by first | rfl | (simp [xrf_cat, xcI, xcJ, xcA]; done) | (simp [xrf_cat, xcI, xcJ, xcA]; decide)) (fun ls hl => ?_)
        refine lv_iconst (v := 0) hx hb dX11_plan_74 (by decide) ?_
        refine lv_istore (lv' := [(5, .int 0), (3, .long v76), (0, va_rf (some a0)), (1, .int x1), (2, .int x2)]) hx hb dX11_plan_75 hl (by decide) (by first | rfl | (simp [xrf_cat, xcI, xcJ, xcA]; done) | (simp [xrf_cat, xcI, xcJ, xcA]; decide)) (fun ls hl => ?_)
        refine lv_iconst (v := 0) hx hb dX11_plan_77 (by decide) ?_
        refine lv_istore (lv' := [(6, .int 0), (5, .int 0), (3, .long v76), (0, va_rf (some a0)), (1, .int x1), (2, .int x2)]) hx hb dX11_plan_78 hl (by decide) (by first | rfl | (simp [xrf_cat, xcI, xcJ, xcA]; done) | (simp [xrf_cat, xcI, xcJ, xcA]; decide)) (fun ls hl => ?_)
        refine lv_iconst (v := 0) hx hb dX11_plan_80 (by decide) ?_
        refine lv_istore (lv' := [(7, .int 0), (6, .int 0), (5, .int 0), (3, .long v76), (0, va_rf (some a0)), (1, .int x1), (2, .int x2)]) hx hb dX11_plan_81 hl (by decide) (by first | rfl | (simp [xrf_cat, xcI, xcJ, xcA]; done) | (simp [xrf_cat, xcI, xcJ, xcA]; decide)) (fun ls hl => ?_)
        refine lv_iconst (v := 1) hx hb dX11_plan_83 (by decide) ?_
        refine lv_istore (lv' := [(8, .int 1), (7, .int 0), (6, .int 0), (5, .int 0), (3, .long v76), (0, va_rf (some a0)), (1, .int x1), (2, .int x2)]) hx hb dX11_plan_84 hl (by decide) (by first | rfl | (simp [xrf_cat, xcI, xcJ, xcA]; done) | (simp [xrf_cat, xcI, xcJ, xcA]; decide)) (fun ls hl => ?_)
        refine W.widen (k := 0) (n := 0) (by decide) (by decide) ?_
        exact tl_X11_plan_86 hx hb hr hlk hml hown hnm hts G h77 a0 x2 v76 _ 0 0 0 1 _ _ _ hF hR hS (lv_sub hl [5, 7, 4, 3, 2, 1, 0] rfl)
      · replace hF := xiff c75 hF
        refine x_aload_n (o := (some a0)) hx hb dX11_plan_33 rfl (lv_at hl 0 rfl) ?_
        replace hF := xbind hF; obtain ⟨w79, ew79, hF⟩ := hF
        refine x_getR (o := (some a0)) (ci := 11) (C := RX11) (T := TX11) (N := 42) hx hb hts iw_X11 hown hR rfl 34 (by decide) mm_977 (Or.inl rfl) ew79 dX11_plan_34 ?_
        refine lv_iload_n hx hb dX11_plan_37 rfl (lv_at hl 3 rfl) ?_
        replace hF := xbind hF; obtain ⟨v80, ev80, hF⟩ := hF
        refine x_ild (o := w79) hx hb hR ev80 dX11_plan_38 ?_
        refine lv_iload_n hx hb dX11_plan_39 rfl (lv_at hl 1 rfl) ?_
        refine lv_icmp_ne (tgt := 62) hx hb dX11_plan_40 (by decide) (fun c81 => ?_) (fun c81 => ?_)
        · replace hF := xiff c81 hF
          obtain ⟨v82, ev82⟩ : ∃ z : Int32, z = (x3 + 1) := ⟨_, rfl⟩
          replace hF := xlet ev82 hF
          refine lv_iinc (v := v82) (lv' := [(3, .int v82), (0, va_rf (some a0)), (1, .int x1), (2, .int x2)]) hx hb dX11_plan_62 hl (k := 3) rfl (by rw [ev82]; rfl) (by decide) (by first | rfl | (simp [xrf_cat, xcI, xcJ, xcA]; done) | (simp [xrf_cat, xcI, xcJ, xcA]; decide)) (fun ls hl => ?_)
          refine lv_goto (tgt := 19) hx hb dX11_plan_65 (by decide) ?_
          exact ih h x2 v82 _ _ _ hF hR hS (lv_sub hl [1, 2, 3, 0] rfl)
        · replace hF := xift c81 hF
          refine x_aload_n (o := (some a0)) hx hb dX11_plan_43 rfl (lv_at hl 0 rfl) ?_
          replace hF := xbind hF; obtain ⟨w83, ew83, hF⟩ := hF
          refine x_getR (o := (some a0)) (ci := 11) (C := RX11) (T := TX11) (N := 42) hx hb hts iw_X11 hown hR rfl 37 (by decide) mm_980 (Or.inl rfl) ew83 dX11_plan_44 ?_
          refine lv_iload_n hx hb dX11_plan_47 rfl (lv_at hl 3 rfl) ?_
          replace hF := xbind hF; obtain ⟨v84, ev84, hF⟩ := hF
          refine x_ild (o := w83) hx hb hR ev84 dX11_plan_48 ?_
          refine lv_if_ne (tgt := 62) hx hb dX11_plan_49 (by decide) (fun c85 => ?_) (fun c85 => ?_)
          · replace hF := xiff c85 hF
            obtain ⟨v86, ev86⟩ : ∃ z : Int32, z = (x3 + 1) := ⟨_, rfl⟩
            replace hF := xlet ev86 hF
            refine lv_iinc (v := v86) (lv' := [(3, .int v86), (0, va_rf (some a0)), (1, .int x1), (2, .int x2)]) hx hb dX11_plan_62 hl (k := 3) rfl (by rw [ev86]; rfl) (by decide) (by first | rfl | (simp [xrf_cat, xcI, xcJ, xcA]; done) | (simp [xrf_cat, xcI, xcJ, xcA]; decide)) (fun ls hl => ?_)
            refine lv_goto (tgt := 19) hx hb dX11_plan_65 (by decide) ?_
            exact ih h x2 v86 _ _ _ hF hR hS (lv_sub hl [1, 2, 3, 0] rfl)
          · replace hF := xift c85 hF
            refine x_aload_n (o := (some a0)) hx hb dX11_plan_52 rfl (lv_at hl 0 rfl) ?_
            replace hF := xbind hF; obtain ⟨w87, ew87, hF⟩ := hF
            refine x_getR (o := (some a0)) (ci := 11) (C := RX11) (T := TX11) (N := 42) hx hb hts iw_X11 hown hR rfl 41 (by decide) mm_984 (Or.inl rfl) ew87 dX11_plan_53 ?_
            refine lv_iload_n hx hb dX11_plan_56 rfl (lv_at hl 2 rfl) ?_
            refine lv_iload_n hx hb dX11_plan_57 rfl (lv_at hl 3 rfl) ?_
            replace hF := xbind hF; obtain ⟨h88, eh88, hF⟩ := hF
            refine x_ist (o := w87) hx hb hR hS eh88 dX11_plan_58 (fun H locs hR hS => ?_)
            obtain ⟨v89, ev89⟩ : ∃ z : Int32, z = (x2 + 1) := ⟨_, rfl⟩
            replace hF := xlet ev89 hF
            refine lv_iinc (v := v89) (lv' := [(2, .int v89), (0, va_rf (some a0)), (1, .int x1), (3, .int x3)]) hx hb dX11_plan_59 hl (k := 2) rfl (by rw [ev89]; rfl) (by decide) (by first | rfl | (simp [xrf_cat, xcI, xcJ, xcA]; done) | (simp [xrf_cat, xcI, xcJ, xcA]; decide)) (fun ls hl => ?_)
            obtain ⟨v90, ev90⟩ : ∃ z : Int32, z = (x3 + 1) := ⟨_, rfl⟩
            replace hF := xlet ev90 hF
            refine lv_iinc (v := v90) (lv' := [(3, .int v90), (2, .int v89), (0, va_rf (some a0)), (1, .int x1)]) hx hb dX11_plan_62 hl (k := 3) rfl (by rw [ev90]; rfl) (by decide) (by first | rfl | (simp [xrf_cat, xcI, xcJ, xcA]; done) | (simp [xrf_cat, xcI, xcJ, xcA]; decide)) (fun ls hl => ?_)
            refine lv_goto (tgt := 19) hx hb dX11_plan_65 (by decide) ?_
            exact ih h88 v89 v90 _ _ _ hF hR hS (lv_sub hl [2, 3, 1, 0] rfl)
def F_X11_plan (G : Nat → Nat) (h : xH) (a0 : Nat) (x1 : Int32) : Option (Int32 × xH) :=
  (xp G h (some a0) 11 0 (.int 0)).bind fun h1 =>
  (xc h1 (some a0) 11).bind fun b3 =>
  (F_X11_isPromise G h1 b3 x1).bind fun v2 =>
  if v2 = 0 then
    some ((-1), h1)
  else
  F_X11_plan_19 G a0 x1 xN h1 0 0
set_option maxHeartbeats 4000000 in
set_option maxRecDepth 100000 in
theorem t_X11_plan (l : Launch) (D : va_G) (G : Nat → Nat) (h : xH) (a0 : Nat) (x1 : Int32) (r : Int32) (h' : xH) (hF : F_X11_plan G h a0 x1 = some (r, h')) : xC l yX11_plan cX11_plan 14 (some .int) (rm_X11_plan) D G h [.ref a0, .int x1] (some (.int r)) h' := by
  refine xC_of (by decide) (by first | decide | exact Nat.le_of_ble_eq_true rfl) ?_
  intro p e s m args below meth c ls hx hb hr hlk hml hown hnm hts hR hS hl
  have hl : lv_has ls 14 [(0, va_rf (some a0)), (1, .int x1)] := hl
  unfold F_X11_plan at hF
  refine x_aload_n (o := (some a0)) hx hb dX11_plan_0 rfl (lv_at hl 0 rfl) ?_
  refine lv_iconst (v := 0) hx hb dX11_plan_1 (by decide) ?_
  replace hF := xbind hF; obtain ⟨h1, eh1, hF⟩ := hF
  refine x_put (o := (some a0)) (ci := 11) (C := RX11) (T := TX11) (N := 42) hx hb hts iw_X11 tyX11_ok nmX11 hown hR hS rfl 0 (by decide) mm_943 (Or.inl rfl) rfl rfl rfl eh1 dX11_plan_2 (fun H locs hR hS => ?_)
  refine x_aload_n (o := (some a0)) hx hb dX11_plan_5 rfl (lv_at hl 0 rfl) ?_
  refine lv_iload_n hx hb dX11_plan_6 rfl (lv_at hl 1 rfl) ?_
  replace hF := xbind hF; obtain ⟨b3, eb3, hF⟩ := hF
  replace hF := xbind hF; obtain ⟨v2, ev2, hF⟩ := hF
  refine x_callV (o := (some a0)) (ci := 11) (As := [.int x1]) (rest := []) (v := (some (.int v2))) (k := 1) hx hb hml hown hts hR hS eb3 rfl rfl (t_X11_isPromise l D G h1 b3 x1 v2 ev2) f_X11_isPromise mm_1115 mm_1117 mm_35 rfl hl.1 rfl (by first | exact Nat.le_of_ble_eq_true rfl | simp [xrf_cat, xcI, xcJ, xcA]) dX11_plan_7 (by decide) (by decide) rfl (fun H locs hR hS => ?_)
  refine lv_if_ne (tgt := 15) hx hb dX11_plan_10 (by decide) (fun c4 => ?_) (fun c4 => ?_)
  · replace hF := xiff c4 hF
    refine lv_iconst (v := 0) hx hb dX11_plan_15 (by decide) ?_
    refine lv_istore_n (lv' := [(2, .int 0), (0, va_rf (some a0)), (1, .int x1)]) hx hb dX11_plan_16 rfl hl (by decide) (by first | rfl | (simp [xrf_cat, xcI, xcJ, xcA]; done) | (simp [xrf_cat, xcI, xcJ, xcA]; decide)) (fun ls hl => ?_)
    refine lv_iconst (v := 0) hx hb dX11_plan_17 (by decide) ?_
    refine lv_istore_n (lv' := [(3, .int 0), (2, .int 0), (0, va_rf (some a0)), (1, .int x1)]) hx hb dX11_plan_18 rfl hl (by decide) (by first | rfl | (simp [xrf_cat, xcI, xcJ, xcA]; done) | (simp [xrf_cat, xcI, xcJ, xcA]; decide)) (fun ls hl => ?_)
    refine W.widen (k := 0) (n := 0) (by decide) (by decide) ?_
    exact tl_X11_plan_19 hx hb hr hlk hml hown hnm hts G a0 x1 _ h1 0 0 _ _ _ hF hR hS (lv_sub hl [2, 3, 1, 0] rfl)
  · replace hF := xift c4 hF
    refine lv_iconst (v := (-1)) hx hb dX11_plan_13 (by decide) ?_
    cases hF
    exact x_iret hx hb hr rfl hlk hR hS (by decide) (by decide) dX11_plan_14
def rm_X11_planned : Room := { frames := 0, cells := 0, slots := 0, locals := 0 }
theorem f_X11_planned : xM yX11_planned cX11_planned 2 (some .int) 1 := ⟨mm_1247, mm_62, by decide +kernel, by decide +kernel⟩
theorem dX11_planned_0 : decode cX11_planned 0 = .ok (.aload_n 0, 1) := by decide +kernel
theorem dX11_planned_1 : decode cX11_planned 1 = .ok (.iconst 0, 1) := by decide +kernel
theorem dX11_planned_2 : decode cX11_planned 2 = .ok (.putfield 93, 3) := by decide +kernel
theorem dX11_planned_5 : decode cX11_planned 5 = .ok (.iload_n 1, 1) := by decide +kernel
theorem dX11_planned_6 : decode cX11_planned 6 = .ok (.ifCond .lt 11, 3) := by decide +kernel
theorem dX11_planned_9 : decode cX11_planned 9 = .ok (.iload_n 1, 1) := by decide +kernel
theorem dX11_planned_10 : decode cX11_planned 10 = .ok (.aload_n 0, 1) := by decide +kernel
theorem dX11_planned_11 : decode cX11_planned 11 = .ok (.getfield 225, 3) := by decide +kernel
theorem dX11_planned_14 : decode cX11_planned 14 = .ok (.if_icmp .lt 7, 3) := by decide +kernel
theorem dX11_planned_17 : decode cX11_planned 17 = .ok (.iconst (-1), 1) := by decide +kernel
theorem dX11_planned_18 : decode cX11_planned 18 = .ok (.goto 9, 3) := by decide +kernel
theorem dX11_planned_21 : decode cX11_planned 21 = .ok (.aload_n 0, 1) := by decide +kernel
theorem dX11_planned_22 : decode cX11_planned 22 = .ok (.getfield 87, 3) := by decide +kernel
theorem dX11_planned_25 : decode cX11_planned 25 = .ok (.iload_n 1, 1) := by decide +kernel
theorem dX11_planned_26 : decode cX11_planned 26 = .ok (.iaload, 1) := by decide +kernel
theorem dX11_planned_27 : decode cX11_planned 27 = .ok (.ireturn, 1) := by decide +kernel
def F_X11_planned (G : Nat → Nat) (h : xH) (a0 : Nat) (x1 : Int32) : Option (Int32 × xH) :=
  (xp G h (some a0) 11 0 (.int 0)).bind fun h1 =>
  if x1 < 0 then
    some ((-1), h1)
  else
  (gI h1 (some a0) 11 39).bind fun v3 =>
  if x1 < v3 then
    (gR h1 (some a0) 11 40).bind fun w5 =>
    (ldI 2 G h1 w5 x1).bind fun v6 =>
    some (v6, h1)
  else
  some ((-1), h1)
set_option maxHeartbeats 4000000 in
set_option maxRecDepth 100000 in
theorem t_X11_planned (l : Launch) (D : va_G) (G : Nat → Nat) (h : xH) (a0 : Nat) (x1 : Int32) (r : Int32) (h' : xH) (hF : F_X11_planned G h a0 x1 = some (r, h')) : xC l yX11_planned cX11_planned 2 (some .int) (rm_X11_planned) D G h [.ref a0, .int x1] (some (.int r)) h' := by
  refine xC_of (by decide) (by first | decide | exact Nat.le_of_ble_eq_true rfl) ?_
  intro p e s m args below meth c ls hx hb hr hlk hml hown hnm hts hR hS hl
  have hl : lv_has ls 2 [(0, va_rf (some a0)), (1, .int x1)] := hl
  unfold F_X11_planned at hF
  refine x_aload_n (o := (some a0)) hx hb dX11_planned_0 rfl (lv_at hl 0 rfl) ?_
  refine lv_iconst (v := 0) hx hb dX11_planned_1 (by decide) ?_
  replace hF := xbind hF; obtain ⟨h1, eh1, hF⟩ := hF
  refine x_put (o := (some a0)) (ci := 11) (C := RX11) (T := TX11) (N := 42) hx hb hts iw_X11 tyX11_ok nmX11 hown hR hS rfl 0 (by decide) mm_943 (Or.inl rfl) rfl rfl rfl eh1 dX11_planned_2 (fun H locs hR hS => ?_)
  refine lv_iload_n hx hb dX11_planned_5 rfl (lv_at hl 1 rfl) ?_
  refine lv_if_lt (tgt := 17) hx hb dX11_planned_6 (by decide) (fun c2 => ?_) (fun c2 => ?_)
  · replace hF := xift c2 hF
    refine lv_iconst (v := (-1)) hx hb dX11_planned_17 (by decide) ?_
    refine lv_goto (tgt := 27) hx hb dX11_planned_18 (by decide) ?_
    cases hF
    exact x_iret hx hb hr rfl hlk hR hS (by decide) (by decide) dX11_planned_27
  · replace hF := xiff c2 hF
    refine lv_iload_n hx hb dX11_planned_9 rfl (lv_at hl 1 rfl) ?_
    refine x_aload_n (o := (some a0)) hx hb dX11_planned_10 rfl (lv_at hl 0 rfl) ?_
    replace hF := xbind hF; obtain ⟨v3, ev3, hF⟩ := hF
    refine x_getI (o := (some a0)) (ci := 11) (C := RX11) (T := TX11) (N := 42) hx hb hts iw_X11 hown hR rfl 39 (by decide) mm_982 (Or.inl rfl) ev3 dX11_planned_11 ?_
    refine lv_icmp_lt (tgt := 21) hx hb dX11_planned_14 (by decide) (fun c4 => ?_) (fun c4 => ?_)
    · replace hF := xift c4 hF
      refine x_aload_n (o := (some a0)) hx hb dX11_planned_21 rfl (lv_at hl 0 rfl) ?_
      replace hF := xbind hF; obtain ⟨w5, ew5, hF⟩ := hF
      refine x_getR (o := (some a0)) (ci := 11) (C := RX11) (T := TX11) (N := 42) hx hb hts iw_X11 hown hR rfl 40 (by decide) mm_983 (Or.inl rfl) ew5 dX11_planned_22 ?_
      refine lv_iload_n hx hb dX11_planned_25 rfl (lv_at hl 1 rfl) ?_
      replace hF := xbind hF; obtain ⟨v6, ev6, hF⟩ := hF
      refine x_ild (o := w5) hx hb hR ev6 dX11_planned_26 ?_
      cases hF
      exact x_iret hx hb hr rfl hlk hR hS (by decide) (by decide) dX11_planned_27
    · replace hF := xiff c4 hF
      refine lv_iconst (v := (-1)) hx hb dX11_planned_17 (by decide) ?_
      refine lv_goto (tgt := 27) hx hb dX11_planned_18 (by decide) ?_
      cases hF
      exact x_iret hx hb hr rfl hlk hR hS (by decide) (by decide) dX11_planned_27
def rm_X11_look : Room := { frames := 1, cells := 0, slots := 0, locals := 21 }
theorem f_X11_look : xM yX11_look cX11_look 3 (some .int) 2 := ⟨mm_1251, mm_62, by decide +kernel, by decide +kernel⟩
theorem dX11_look_0 : decode cX11_look 0 = .ok (.aload_n 0, 1) := by decide +kernel
theorem dX11_look_1 : decode cX11_look 1 = .ok (.iconst 0, 1) := by decide +kernel
theorem dX11_look_2 : decode cX11_look 2 = .ok (.putfield 93, 3) := by decide +kernel
theorem dX11_look_5 : decode cX11_look 5 = .ok (.aload_n 0, 1) := by decide +kernel
theorem dX11_look_6 : decode cX11_look 6 = .ok (.iload_n 1, 1) := by decide +kernel
theorem dX11_look_7 : decode cX11_look 7 = .ok (.invokevirtual 219, 3) := by decide +kernel
theorem dX11_look_10 : decode cX11_look 10 = .ok (.ifCond .ne 5, 3) := by decide +kernel
theorem dX11_look_13 : decode cX11_look 13 = .ok (.iconst (-1), 1) := by decide +kernel
theorem dX11_look_14 : decode cX11_look 14 = .ok (.ireturn, 1) := by decide +kernel
theorem dX11_look_15 : decode cX11_look 15 = .ok (.iload_n 2, 1) := by decide +kernel
theorem dX11_look_16 : decode cX11_look 16 = .ok (.ifCond .ne 12, 3) := by decide +kernel
theorem dX11_look_19 : decode cX11_look 19 = .ok (.aload_n 0, 1) := by decide +kernel
theorem dX11_look_20 : decode cX11_look 20 = .ok (.getfield 81, 3) := by decide +kernel
theorem dX11_look_23 : decode cX11_look 23 = .ok (.iload_n 1, 1) := by decide +kernel
theorem dX11_look_24 : decode cX11_look 24 = .ok (.iaload, 1) := by decide +kernel
theorem dX11_look_25 : decode cX11_look 25 = .ok (.goto 60, 3) := by decide +kernel
theorem dX11_look_28 : decode cX11_look 28 = .ok (.iload_n 2, 1) := by decide +kernel
theorem dX11_look_29 : decode cX11_look 29 = .ok (.iconst 1, 1) := by decide +kernel
theorem dX11_look_30 : decode cX11_look 30 = .ok (.if_icmp .ne 12, 3) := by decide +kernel
theorem dX11_look_33 : decode cX11_look 33 = .ok (.aload_n 0, 1) := by decide +kernel
theorem dX11_look_34 : decode cX11_look 34 = .ok (.getfield 72, 3) := by decide +kernel
theorem dX11_look_37 : decode cX11_look 37 = .ok (.iload_n 1, 1) := by decide +kernel
theorem dX11_look_38 : decode cX11_look 38 = .ok (.iaload, 1) := by decide +kernel
theorem dX11_look_39 : decode cX11_look 39 = .ok (.goto 46, 3) := by decide +kernel
theorem dX11_look_42 : decode cX11_look 42 = .ok (.iload_n 2, 1) := by decide +kernel
theorem dX11_look_43 : decode cX11_look 43 = .ok (.iconst 2, 1) := by decide +kernel
theorem dX11_look_44 : decode cX11_look 44 = .ok (.if_icmp .ne 12, 3) := by decide +kernel
theorem dX11_look_47 : decode cX11_look 47 = .ok (.aload_n 0, 1) := by decide +kernel
theorem dX11_look_48 : decode cX11_look 48 = .ok (.getfield 75, 3) := by decide +kernel
theorem dX11_look_51 : decode cX11_look 51 = .ok (.iload_n 1, 1) := by decide +kernel
theorem dX11_look_52 : decode cX11_look 52 = .ok (.iaload, 1) := by decide +kernel
theorem dX11_look_53 : decode cX11_look 53 = .ok (.goto 32, 3) := by decide +kernel
theorem dX11_look_56 : decode cX11_look 56 = .ok (.iload_n 2, 1) := by decide +kernel
theorem dX11_look_57 : decode cX11_look 57 = .ok (.iconst 3, 1) := by decide +kernel
theorem dX11_look_58 : decode cX11_look 58 = .ok (.if_icmp .ne 12, 3) := by decide +kernel
theorem dX11_look_61 : decode cX11_look 61 = .ok (.aload_n 0, 1) := by decide +kernel
theorem dX11_look_62 : decode cX11_look 62 = .ok (.getfield 78, 3) := by decide +kernel
theorem dX11_look_65 : decode cX11_look 65 = .ok (.iload_n 1, 1) := by decide +kernel
theorem dX11_look_66 : decode cX11_look 66 = .ok (.iaload, 1) := by decide +kernel
theorem dX11_look_67 : decode cX11_look 67 = .ok (.goto 18, 3) := by decide +kernel
theorem dX11_look_70 : decode cX11_look 70 = .ok (.iload_n 2, 1) := by decide +kernel
theorem dX11_look_71 : decode cX11_look 71 = .ok (.iconst 4, 1) := by decide +kernel
theorem dX11_look_72 : decode cX11_look 72 = .ok (.if_icmp .ne 12, 3) := by decide +kernel
theorem dX11_look_75 : decode cX11_look 75 = .ok (.aload_n 0, 1) := by decide +kernel
theorem dX11_look_76 : decode cX11_look 76 = .ok (.getfield 84, 3) := by decide +kernel
theorem dX11_look_79 : decode cX11_look 79 = .ok (.iload_n 1, 1) := by decide +kernel
theorem dX11_look_80 : decode cX11_look 80 = .ok (.iaload, 1) := by decide +kernel
theorem dX11_look_81 : decode cX11_look 81 = .ok (.goto 4, 3) := by decide +kernel
theorem dX11_look_84 : decode cX11_look 84 = .ok (.iconst (-1), 1) := by decide +kernel
theorem dX11_look_85 : decode cX11_look 85 = .ok (.ireturn, 1) := by decide +kernel
def F_X11_look (G : Nat → Nat) (h : xH) (a0 : Nat) (x1 : Int32) (x2 : Int32) : Option (Int32 × xH) :=
  (xp G h (some a0) 11 0 (.int 0)).bind fun h1 =>
  (xc h1 (some a0) 11).bind fun b3 =>
  (F_X11_isChange G h1 b3 x1).bind fun v2 =>
  if v2 = 0 then
    some ((-1), h1)
  else
  if x2 = 0 then
    (gR h1 (some a0) 11 37).bind fun w18 =>
    (ldI 2 G h1 w18 x1).bind fun v19 =>
    some (v19, h1)
  else
  if x2 = 1 then
    (gR h1 (some a0) 11 34).bind fun w16 =>
    (ldI 2 G h1 w16 x1).bind fun v17 =>
    some (v17, h1)
  else
  if x2 = 2 then
    (gR h1 (some a0) 11 35).bind fun w14 =>
    (ldI 2 G h1 w14 x1).bind fun v15 =>
    some (v15, h1)
  else
  if x2 = 3 then
    (gR h1 (some a0) 11 36).bind fun w12 =>
    (ldI 2 G h1 w12 x1).bind fun v13 =>
    some (v13, h1)
  else
  if x2 = 4 then
    (gR h1 (some a0) 11 38).bind fun w10 =>
    (ldI 2 G h1 w10 x1).bind fun v11 =>
    some (v11, h1)
  else
  some ((-1), h1)
set_option maxHeartbeats 4000000 in
set_option maxRecDepth 100000 in
theorem t_X11_look (l : Launch) (D : va_G) (G : Nat → Nat) (h : xH) (a0 : Nat) (x1 : Int32) (x2 : Int32) (r : Int32) (h' : xH) (hF : F_X11_look G h a0 x1 x2 = some (r, h')) : xC l yX11_look cX11_look 3 (some .int) (rm_X11_look) D G h [.ref a0, .int x1, .int x2] (some (.int r)) h' := by
  refine xC_of (by decide) (by first | decide | exact Nat.le_of_ble_eq_true rfl) ?_
  intro p e s m args below meth c ls hx hb hr hlk hml hown hnm hts hR hS hl
  have hl : lv_has ls 3 [(0, va_rf (some a0)), (1, .int x1), (2, .int x2)] := hl
  unfold F_X11_look at hF
  refine x_aload_n (o := (some a0)) hx hb dX11_look_0 rfl (lv_at hl 0 rfl) ?_
  refine lv_iconst (v := 0) hx hb dX11_look_1 (by decide) ?_
  replace hF := xbind hF; obtain ⟨h1, eh1, hF⟩ := hF
  refine x_put (o := (some a0)) (ci := 11) (C := RX11) (T := TX11) (N := 42) hx hb hts iw_X11 tyX11_ok nmX11 hown hR hS rfl 0 (by decide) mm_943 (Or.inl rfl) rfl rfl rfl eh1 dX11_look_2 (fun H locs hR hS => ?_)
  refine x_aload_n (o := (some a0)) hx hb dX11_look_5 rfl (lv_at hl 0 rfl) ?_
  refine lv_iload_n hx hb dX11_look_6 rfl (lv_at hl 1 rfl) ?_
  replace hF := xbind hF; obtain ⟨b3, eb3, hF⟩ := hF
  replace hF := xbind hF; obtain ⟨v2, ev2, hF⟩ := hF
  refine x_callV (o := (some a0)) (ci := 11) (As := [.int x1]) (rest := []) (v := (some (.int v2))) (k := 1) hx hb hml hown hts hR hS eb3 rfl rfl (t_X11_isChange l D G h1 b3 x1 v2 ev2) f_X11_isChange mm_1228 mm_1230 mm_52 rfl hl.1 rfl (by first | exact Nat.le_of_ble_eq_true rfl | simp [xrf_cat, xcI, xcJ, xcA]) dX11_look_7 (by decide) (by decide) rfl (fun H locs hR hS => ?_)
  refine lv_if_ne (tgt := 15) hx hb dX11_look_10 (by decide) (fun c4 => ?_) (fun c4 => ?_)
  · replace hF := xiff c4 hF
    refine lv_iload_n hx hb dX11_look_15 rfl (lv_at hl 2 rfl) ?_
    refine lv_if_ne (tgt := 28) hx hb dX11_look_16 (by decide) (fun c5 => ?_) (fun c5 => ?_)
    · replace hF := xiff c5 hF
      refine lv_iload_n hx hb dX11_look_28 rfl (lv_at hl 2 rfl) ?_
      refine lv_iconst (v := 1) hx hb dX11_look_29 (by decide) ?_
      refine lv_icmp_ne (tgt := 42) hx hb dX11_look_30 (by decide) (fun c6 => ?_) (fun c6 => ?_)
      · replace hF := xiff c6 hF
        refine lv_iload_n hx hb dX11_look_42 rfl (lv_at hl 2 rfl) ?_
        refine lv_iconst (v := 2) hx hb dX11_look_43 (by decide) ?_
        refine lv_icmp_ne (tgt := 56) hx hb dX11_look_44 (by decide) (fun c7 => ?_) (fun c7 => ?_)
        · replace hF := xiff c7 hF
          refine lv_iload_n hx hb dX11_look_56 rfl (lv_at hl 2 rfl) ?_
          refine lv_iconst (v := 3) hx hb dX11_look_57 (by decide) ?_
          refine lv_icmp_ne (tgt := 70) hx hb dX11_look_58 (by decide) (fun c8 => ?_) (fun c8 => ?_)
          · replace hF := xiff c8 hF
            refine lv_iload_n hx hb dX11_look_70 rfl (lv_at hl 2 rfl) ?_
            refine lv_iconst (v := 4) hx hb dX11_look_71 (by decide) ?_
            refine lv_icmp_ne (tgt := 84) hx hb dX11_look_72 (by decide) (fun c9 => ?_) (fun c9 => ?_)
            · replace hF := xiff c9 hF
              refine lv_iconst (v := (-1)) hx hb dX11_look_84 (by decide) ?_
              cases hF
              exact x_iret hx hb hr rfl hlk hR hS (by decide) (by decide) dX11_look_85
            · replace hF := xift c9 hF
              refine x_aload_n (o := (some a0)) hx hb dX11_look_75 rfl (lv_at hl 0 rfl) ?_
              replace hF := xbind hF; obtain ⟨w10, ew10, hF⟩ := hF
              refine x_getR (o := (some a0)) (ci := 11) (C := RX11) (T := TX11) (N := 42) hx hb hts iw_X11 hown hR rfl 38 (by decide) mm_981 (Or.inl rfl) ew10 dX11_look_76 ?_
              refine lv_iload_n hx hb dX11_look_79 rfl (lv_at hl 1 rfl) ?_
              replace hF := xbind hF; obtain ⟨v11, ev11, hF⟩ := hF
              refine x_ild (o := w10) hx hb hR ev11 dX11_look_80 ?_
              refine lv_goto (tgt := 85) hx hb dX11_look_81 (by decide) ?_
              cases hF
              exact x_iret hx hb hr rfl hlk hR hS (by decide) (by decide) dX11_look_85
          · replace hF := xift c8 hF
            refine x_aload_n (o := (some a0)) hx hb dX11_look_61 rfl (lv_at hl 0 rfl) ?_
            replace hF := xbind hF; obtain ⟨w12, ew12, hF⟩ := hF
            refine x_getR (o := (some a0)) (ci := 11) (C := RX11) (T := TX11) (N := 42) hx hb hts iw_X11 hown hR rfl 36 (by decide) mm_979 (Or.inl rfl) ew12 dX11_look_62 ?_
            refine lv_iload_n hx hb dX11_look_65 rfl (lv_at hl 1 rfl) ?_
            replace hF := xbind hF; obtain ⟨v13, ev13, hF⟩ := hF
            refine x_ild (o := w12) hx hb hR ev13 dX11_look_66 ?_
            refine lv_goto (tgt := 85) hx hb dX11_look_67 (by decide) ?_
            cases hF
            exact x_iret hx hb hr rfl hlk hR hS (by decide) (by decide) dX11_look_85
        · replace hF := xift c7 hF
          refine x_aload_n (o := (some a0)) hx hb dX11_look_47 rfl (lv_at hl 0 rfl) ?_
          replace hF := xbind hF; obtain ⟨w14, ew14, hF⟩ := hF
          refine x_getR (o := (some a0)) (ci := 11) (C := RX11) (T := TX11) (N := 42) hx hb hts iw_X11 hown hR rfl 35 (by decide) mm_978 (Or.inl rfl) ew14 dX11_look_48 ?_
          refine lv_iload_n hx hb dX11_look_51 rfl (lv_at hl 1 rfl) ?_
          replace hF := xbind hF; obtain ⟨v15, ev15, hF⟩ := hF
          refine x_ild (o := w14) hx hb hR ev15 dX11_look_52 ?_
          refine lv_goto (tgt := 85) hx hb dX11_look_53 (by decide) ?_
          cases hF
          exact x_iret hx hb hr rfl hlk hR hS (by decide) (by decide) dX11_look_85
      · replace hF := xift c6 hF
        refine x_aload_n (o := (some a0)) hx hb dX11_look_33 rfl (lv_at hl 0 rfl) ?_
        replace hF := xbind hF; obtain ⟨w16, ew16, hF⟩ := hF
        refine x_getR (o := (some a0)) (ci := 11) (C := RX11) (T := TX11) (N := 42) hx hb hts iw_X11 hown hR rfl 34 (by decide) mm_977 (Or.inl rfl) ew16 dX11_look_34 ?_
        refine lv_iload_n hx hb dX11_look_37 rfl (lv_at hl 1 rfl) ?_
        replace hF := xbind hF; obtain ⟨v17, ev17, hF⟩ := hF
        refine x_ild (o := w16) hx hb hR ev17 dX11_look_38 ?_
        refine lv_goto (tgt := 85) hx hb dX11_look_39 (by decide) ?_
        cases hF
        exact x_iret hx hb hr rfl hlk hR hS (by decide) (by decide) dX11_look_85
    · replace hF := xift c5 hF
      refine x_aload_n (o := (some a0)) hx hb dX11_look_19 rfl (lv_at hl 0 rfl) ?_
      replace hF := xbind hF; obtain ⟨w18, ew18, hF⟩ := hF
      refine x_getR (o := (some a0)) (ci := 11) (C := RX11) (T := TX11) (N := 42) hx hb hts iw_X11 hown hR rfl 37 (by decide) mm_980 (Or.inl rfl) ew18 dX11_look_20 ?_
      refine lv_iload_n hx hb dX11_look_23 rfl (lv_at hl 1 rfl) ?_
      replace hF := xbind hF; obtain ⟨v19, ev19, hF⟩ := hF
      refine x_ild (o := w18) hx hb hR ev19 dX11_look_24 ?_
      refine lv_goto (tgt := 85) hx hb dX11_look_25 (by decide) ?_
      cases hF
      exact x_iret hx hb hr rfl hlk hR hS (by decide) (by decide) dX11_look_85
  · replace hF := xift c4 hF
    refine lv_iconst (v := (-1)) hx hb dX11_look_13 (by decide) ?_
    cases hF
    exact x_iret hx hb hr rfl hlk hR hS (by decide) (by decide) dX11_look_14
def rm_X11_desk : Room := { frames := 0, cells := 0, slots := 0, locals := 0 }
theorem f_X11_desk : xM yX11_desk cX11_desk 2 (some .int) 1 := ⟨mm_1255, mm_62, by decide +kernel, by decide +kernel⟩
theorem dX11_desk_0 : decode cX11_desk 0 = .ok (.aload_n 0, 1) := by decide +kernel
theorem dX11_desk_1 : decode cX11_desk 1 = .ok (.iconst 0, 1) := by decide +kernel
theorem dX11_desk_2 : decode cX11_desk 2 = .ok (.putfield 93, 3) := by decide +kernel
theorem dX11_desk_5 : decode cX11_desk 5 = .ok (.iload_n 1, 1) := by decide +kernel
theorem dX11_desk_6 : decode cX11_desk 6 = .ok (.tableswitch 95 0 8 #[50, 55, 60, 65, 70, 75, 80, 85, 90], 50) := by decide +kernel
theorem dX11_desk_56 : decode cX11_desk 56 = .ok (.aload_n 0, 1) := by decide +kernel
theorem dX11_desk_57 : decode cX11_desk 57 = .ok (.getfield 97, 3) := by decide +kernel
theorem dX11_desk_60 : decode cX11_desk 60 = .ok (.ireturn, 1) := by decide +kernel
theorem dX11_desk_61 : decode cX11_desk 61 = .ok (.aload_n 0, 1) := by decide +kernel
theorem dX11_desk_62 : decode cX11_desk 62 = .ok (.getfield 104, 3) := by decide +kernel
theorem dX11_desk_65 : decode cX11_desk 65 = .ok (.ireturn, 1) := by decide +kernel
theorem dX11_desk_66 : decode cX11_desk 66 = .ok (.aload_n 0, 1) := by decide +kernel
theorem dX11_desk_67 : decode cX11_desk 67 = .ok (.getfield 110, 3) := by decide +kernel
theorem dX11_desk_70 : decode cX11_desk 70 = .ok (.ireturn, 1) := by decide +kernel
theorem dX11_desk_71 : decode cX11_desk 71 = .ok (.aload_n 0, 1) := by decide +kernel
theorem dX11_desk_72 : decode cX11_desk 72 = .ok (.getfield 134, 3) := by decide +kernel
theorem dX11_desk_75 : decode cX11_desk 75 = .ok (.ireturn, 1) := by decide +kernel
theorem dX11_desk_76 : decode cX11_desk 76 = .ok (.aload_n 0, 1) := by decide +kernel
theorem dX11_desk_77 : decode cX11_desk 77 = .ok (.getfield 113, 3) := by decide +kernel
theorem dX11_desk_80 : decode cX11_desk 80 = .ok (.ireturn, 1) := by decide +kernel
theorem dX11_desk_81 : decode cX11_desk 81 = .ok (.aload_n 0, 1) := by decide +kernel
theorem dX11_desk_82 : decode cX11_desk 82 = .ok (.getfield 107, 3) := by decide +kernel
theorem dX11_desk_85 : decode cX11_desk 85 = .ok (.ireturn, 1) := by decide +kernel
theorem dX11_desk_86 : decode cX11_desk 86 = .ok (.aload_n 0, 1) := by decide +kernel
theorem dX11_desk_87 : decode cX11_desk 87 = .ok (.getfield 178, 3) := by decide +kernel
theorem dX11_desk_90 : decode cX11_desk 90 = .ok (.ireturn, 1) := by decide +kernel
theorem dX11_desk_91 : decode cX11_desk 91 = .ok (.aload_n 0, 1) := by decide +kernel
theorem dX11_desk_92 : decode cX11_desk 92 = .ok (.getfield 216, 3) := by decide +kernel
theorem dX11_desk_95 : decode cX11_desk 95 = .ok (.ireturn, 1) := by decide +kernel
theorem dX11_desk_96 : decode cX11_desk 96 = .ok (.aload_n 0, 1) := by decide +kernel
theorem dX11_desk_97 : decode cX11_desk 97 = .ok (.getfield 171, 3) := by decide +kernel
theorem dX11_desk_100 : decode cX11_desk 100 = .ok (.ireturn, 1) := by decide +kernel
theorem dX11_desk_101 : decode cX11_desk 101 = .ok (.iconst (-1), 1) := by decide +kernel
theorem dX11_desk_102 : decode cX11_desk 102 = .ok (.ireturn, 1) := by decide +kernel
def F_X11_desk (G : Nat → Nat) (h : xH) (a0 : Nat) (x1 : Int32) : Option (Int32 × xH) :=
  (xp G h (some a0) 11 0 (.int 0)).bind fun h1 =>
  if x1 = 0 then
    (gI h1 (some a0) 11 1).bind fun v3 =>
    some (v3, h1)
  else
  if x1 = 1 then
    (gI h1 (some a0) 11 2).bind fun v5 =>
    some (v5, h1)
  else
  if x1 = 2 then
    (gI h1 (some a0) 11 9).bind fun v7 =>
    some (v7, h1)
  else
  if x1 = 3 then
    (gI h1 (some a0) 11 15).bind fun v9 =>
    some (v9, h1)
  else
  if x1 = 4 then
    (gI h1 (some a0) 11 10).bind fun v11 =>
    some (v11, h1)
  else
  if x1 = 5 then
    (gI h1 (some a0) 11 11).bind fun v13 =>
    some (v13, h1)
  else
  if x1 = 6 then
    (gI h1 (some a0) 11 26).bind fun v15 =>
    some (v15, h1)
  else
  if x1 = 7 then
    (gI h1 (some a0) 11 33).bind fun v17 =>
    some (v17, h1)
  else
  if x1 = 8 then
    (gI h1 (some a0) 11 24).bind fun v19 =>
    some (v19, h1)
  else
  some ((-1), h1)
set_option maxHeartbeats 4000000 in
set_option maxRecDepth 100000 in
theorem t_X11_desk (l : Launch) (D : va_G) (G : Nat → Nat) (h : xH) (a0 : Nat) (x1 : Int32) (r : Int32) (h' : xH) (hF : F_X11_desk G h a0 x1 = some (r, h')) : xC l yX11_desk cX11_desk 2 (some .int) (rm_X11_desk) D G h [.ref a0, .int x1] (some (.int r)) h' := by
  refine xC_of (by decide) (by first | decide | exact Nat.le_of_ble_eq_true rfl) ?_
  intro p e s m args below meth c ls hx hb hr hlk hml hown hnm hts hR hS hl
  have hl : lv_has ls 2 [(0, va_rf (some a0)), (1, .int x1)] := hl
  unfold F_X11_desk at hF
  refine x_aload_n (o := (some a0)) hx hb dX11_desk_0 rfl (lv_at hl 0 rfl) ?_
  refine lv_iconst (v := 0) hx hb dX11_desk_1 (by decide) ?_
  replace hF := xbind hF; obtain ⟨h1, eh1, hF⟩ := hF
  refine x_put (o := (some a0)) (ci := 11) (C := RX11) (T := TX11) (N := 42) hx hb hts iw_X11 tyX11_ok nmX11 hown hR hS rfl 0 (by decide) mm_943 (Or.inl rfl) rfl rfl rfl eh1 dX11_desk_2 (fun H locs hR hS => ?_)
  refine lv_iload_n hx hb dX11_desk_5 rfl (lv_at hl 1 rfl) ?_
  by_cases c2 : x1 = 0
  · replace hF := xift c2 hF
    refine lv_tableIn (off := 50) (tgt := 56) hx hb dX11_desk_6 (by rw [c2]; decide) (by rw [c2]; decide) (by rw [c2]; rfl) (by decide) ?_
    refine x_aload_n (o := (some a0)) hx hb dX11_desk_56 rfl (lv_at hl 0 rfl) ?_
    replace hF := xbind hF; obtain ⟨v3, ev3, hF⟩ := hF
    refine x_getI (o := (some a0)) (ci := 11) (C := RX11) (T := TX11) (N := 42) hx hb hts iw_X11 hown hR rfl 1 (by decide) mm_944 (Or.inl rfl) ev3 dX11_desk_57 ?_
    cases hF
    exact x_iret hx hb hr rfl hlk hR hS (by decide) (by decide) dX11_desk_60
  replace hF := xiff c2 hF
  by_cases c4 : x1 = 1
  · replace hF := xift c4 hF
    refine lv_tableIn (off := 55) (tgt := 61) hx hb dX11_desk_6 (by rw [c4]; decide) (by rw [c4]; decide) (by rw [c4]; rfl) (by decide) ?_
    refine x_aload_n (o := (some a0)) hx hb dX11_desk_61 rfl (lv_at hl 0 rfl) ?_
    replace hF := xbind hF; obtain ⟨v5, ev5, hF⟩ := hF
    refine x_getI (o := (some a0)) (ci := 11) (C := RX11) (T := TX11) (N := 42) hx hb hts iw_X11 hown hR rfl 2 (by decide) mm_945 (Or.inl rfl) ev5 dX11_desk_62 ?_
    cases hF
    exact x_iret hx hb hr rfl hlk hR hS (by decide) (by decide) dX11_desk_65
  replace hF := xiff c4 hF
  by_cases c6 : x1 = 2
  · replace hF := xift c6 hF
    refine lv_tableIn (off := 60) (tgt := 66) hx hb dX11_desk_6 (by rw [c6]; decide) (by rw [c6]; decide) (by rw [c6]; rfl) (by decide) ?_
    refine x_aload_n (o := (some a0)) hx hb dX11_desk_66 rfl (lv_at hl 0 rfl) ?_
    replace hF := xbind hF; obtain ⟨v7, ev7, hF⟩ := hF
    refine x_getI (o := (some a0)) (ci := 11) (C := RX11) (T := TX11) (N := 42) hx hb hts iw_X11 hown hR rfl 9 (by decide) mm_952 (Or.inl rfl) ev7 dX11_desk_67 ?_
    cases hF
    exact x_iret hx hb hr rfl hlk hR hS (by decide) (by decide) dX11_desk_70
  replace hF := xiff c6 hF
  by_cases c8 : x1 = 3
  · replace hF := xift c8 hF
    refine lv_tableIn (off := 65) (tgt := 71) hx hb dX11_desk_6 (by rw [c8]; decide) (by rw [c8]; decide) (by rw [c8]; rfl) (by decide) ?_
    refine x_aload_n (o := (some a0)) hx hb dX11_desk_71 rfl (lv_at hl 0 rfl) ?_
    replace hF := xbind hF; obtain ⟨v9, ev9, hF⟩ := hF
    refine x_getI (o := (some a0)) (ci := 11) (C := RX11) (T := TX11) (N := 42) hx hb hts iw_X11 hown hR rfl 15 (by decide) mm_958 (Or.inl rfl) ev9 dX11_desk_72 ?_
    cases hF
    exact x_iret hx hb hr rfl hlk hR hS (by decide) (by decide) dX11_desk_75
  replace hF := xiff c8 hF
  by_cases c10 : x1 = 4
  · replace hF := xift c10 hF
    refine lv_tableIn (off := 70) (tgt := 76) hx hb dX11_desk_6 (by rw [c10]; decide) (by rw [c10]; decide) (by rw [c10]; rfl) (by decide) ?_
    refine x_aload_n (o := (some a0)) hx hb dX11_desk_76 rfl (lv_at hl 0 rfl) ?_
    replace hF := xbind hF; obtain ⟨v11, ev11, hF⟩ := hF
    refine x_getI (o := (some a0)) (ci := 11) (C := RX11) (T := TX11) (N := 42) hx hb hts iw_X11 hown hR rfl 10 (by decide) mm_953 (Or.inl rfl) ev11 dX11_desk_77 ?_
    cases hF
    exact x_iret hx hb hr rfl hlk hR hS (by decide) (by decide) dX11_desk_80
  replace hF := xiff c10 hF
  by_cases c12 : x1 = 5
  · replace hF := xift c12 hF
    refine lv_tableIn (off := 75) (tgt := 81) hx hb dX11_desk_6 (by rw [c12]; decide) (by rw [c12]; decide) (by rw [c12]; rfl) (by decide) ?_
    refine x_aload_n (o := (some a0)) hx hb dX11_desk_81 rfl (lv_at hl 0 rfl) ?_
    replace hF := xbind hF; obtain ⟨v13, ev13, hF⟩ := hF
    refine x_getI (o := (some a0)) (ci := 11) (C := RX11) (T := TX11) (N := 42) hx hb hts iw_X11 hown hR rfl 11 (by decide) mm_954 (Or.inl rfl) ev13 dX11_desk_82 ?_
    cases hF
    exact x_iret hx hb hr rfl hlk hR hS (by decide) (by decide) dX11_desk_85
  replace hF := xiff c12 hF
  by_cases c14 : x1 = 6
  · replace hF := xift c14 hF
    refine lv_tableIn (off := 80) (tgt := 86) hx hb dX11_desk_6 (by rw [c14]; decide) (by rw [c14]; decide) (by rw [c14]; rfl) (by decide) ?_
    refine x_aload_n (o := (some a0)) hx hb dX11_desk_86 rfl (lv_at hl 0 rfl) ?_
    replace hF := xbind hF; obtain ⟨v15, ev15, hF⟩ := hF
    refine x_getI (o := (some a0)) (ci := 11) (C := RX11) (T := TX11) (N := 42) hx hb hts iw_X11 hown hR rfl 26 (by decide) mm_969 (Or.inl rfl) ev15 dX11_desk_87 ?_
    cases hF
    exact x_iret hx hb hr rfl hlk hR hS (by decide) (by decide) dX11_desk_90
  replace hF := xiff c14 hF
  by_cases c16 : x1 = 7
  · replace hF := xift c16 hF
    refine lv_tableIn (off := 85) (tgt := 91) hx hb dX11_desk_6 (by rw [c16]; decide) (by rw [c16]; decide) (by rw [c16]; rfl) (by decide) ?_
    refine x_aload_n (o := (some a0)) hx hb dX11_desk_91 rfl (lv_at hl 0 rfl) ?_
    replace hF := xbind hF; obtain ⟨v17, ev17, hF⟩ := hF
    refine x_getI (o := (some a0)) (ci := 11) (C := RX11) (T := TX11) (N := 42) hx hb hts iw_X11 hown hR rfl 33 (by decide) mm_976 (Or.inl rfl) ev17 dX11_desk_92 ?_
    cases hF
    exact x_iret hx hb hr rfl hlk hR hS (by decide) (by decide) dX11_desk_95
  replace hF := xiff c16 hF
  by_cases c18 : x1 = 8
  · replace hF := xift c18 hF
    refine lv_tableIn (off := 90) (tgt := 96) hx hb dX11_desk_6 (by rw [c18]; decide) (by rw [c18]; decide) (by rw [c18]; rfl) (by decide) ?_
    refine x_aload_n (o := (some a0)) hx hb dX11_desk_96 rfl (lv_at hl 0 rfl) ?_
    replace hF := xbind hF; obtain ⟨v19, ev19, hF⟩ := hF
    refine x_getI (o := (some a0)) (ci := 11) (C := RX11) (T := TX11) (N := 42) hx hb hts iw_X11 hown hR rfl 24 (by decide) mm_967 (Or.inl rfl) ev19 dX11_desk_97 ?_
    cases hF
    exact x_iret hx hb hr rfl hlk hR hS (by decide) (by decide) dX11_desk_100
  replace hF := xiff c18 hF
  refine lv_tableOut (tgt := 101) hx hb dX11_desk_6 (by have := lv_neT c2 (a := 0) (by decide); have := lv_neT c4 (a := 1) (by decide); have := lv_neT c6 (a := 2) (by decide); have := lv_neT c8 (a := 3) (by decide); have := lv_neT c10 (a := 4) (by decide); have := lv_neT c12 (a := 5) (by decide); have := lv_neT c14 (a := 6) (by decide); have := lv_neT c16 (a := 7) (by decide); have := lv_neT c18 (a := 8) (by decide); omega) (by decide) ?_
  refine lv_iconst (v := (-1)) hx hb dX11_desk_101 (by decide) ?_
  cases hF
  exact x_iret hx hb hr rfl hlk hR hS (by decide) (by decide) dX11_desk_102
