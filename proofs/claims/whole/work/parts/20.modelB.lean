def rm_X11_isPromise : Room := { frames := 0, cells := 0, slots := 0, locals := 0 }
theorem f_X11_isPromise : xM yX11_isPromise cX11_isPromise 2 (some .boolean) 1 := ⟨mm_1118, mm_62, by decide +kernel, by decide +kernel⟩
theorem dX11_isPromise_0 : decode cX11_isPromise 0 = .ok (.iload_n 1, 1) := by decide +kernel
theorem dX11_isPromise_1 : decode cX11_isPromise 1 = .ok (.ifCond .lt 15, 3) := by decide +kernel
theorem dX11_isPromise_4 : decode cX11_isPromise 4 = .ok (.iload_n 1, 1) := by decide +kernel
theorem dX11_isPromise_5 : decode cX11_isPromise 5 = .ok (.aload_n 0, 1) := by decide +kernel
theorem dX11_isPromise_6 : decode cX11_isPromise 6 = .ok (.getfield 134, 3) := by decide +kernel
theorem dX11_isPromise_9 : decode cX11_isPromise 9 = .ok (.if_icmp .ge 7, 3) := by decide +kernel
theorem dX11_isPromise_12 : decode cX11_isPromise 12 = .ok (.iconst 1, 1) := by decide +kernel
theorem dX11_isPromise_13 : decode cX11_isPromise 13 = .ok (.goto 4, 3) := by decide +kernel
theorem dX11_isPromise_16 : decode cX11_isPromise 16 = .ok (.iconst 0, 1) := by decide +kernel
theorem dX11_isPromise_17 : decode cX11_isPromise 17 = .ok (.ireturn, 1) := by decide +kernel
def F_X11_isPromise (G : Nat → Nat) (h : xH) (a0 : Nat) (x1 : Int32) : Option Int32 :=
  if x1 < 0 then
    some 0
  else
  (gI h (some a0) 11 15).bind fun v2 =>
  if v2 ≤ x1 then
    some 0
  else
  some 1
set_option maxHeartbeats 4000000 in
set_option maxRecDepth 100000 in
theorem t_X11_isPromise (l : Launch) (D : va_G) (G : Nat → Nat) (h : xH) (a0 : Nat) (x1 : Int32) (r : Int32) (hF : F_X11_isPromise G h a0 x1 = some r) : xC l yX11_isPromise cX11_isPromise 2 (some .boolean) (rm_X11_isPromise) D G h [.ref a0, .int x1] (some (.int r)) h := by
  refine xC_of (by decide) (by first | decide | exact Nat.le_of_ble_eq_true rfl) ?_
  intro p e s m args below meth c ls hx hb hr hlk hml hown hnm hts hR hS hl
  have hl : lv_has ls 2 [(0, va_rf (some a0)), (1, .int x1)] := hl
  unfold F_X11_isPromise at hF
  refine lv_iload_n hx hb dX11_isPromise_0 rfl (lv_at hl 1 rfl) ?_
  refine lv_if_lt (tgt := 16) hx hb dX11_isPromise_1 (by decide) (fun c1 => ?_) (fun c1 => ?_)
  · replace hF := xift c1 hF
    refine lv_iconst (v := 0) hx hb dX11_isPromise_16 (by decide) ?_
    cases hF
    exact x_iret hx hb hr rfl hlk hR hS (by decide) (by decide) dX11_isPromise_17
  · replace hF := xiff c1 hF
    refine lv_iload_n hx hb dX11_isPromise_4 rfl (lv_at hl 1 rfl) ?_
    refine x_aload_n (o := (some a0)) hx hb dX11_isPromise_5 rfl (lv_at hl 0 rfl) ?_
    replace hF := xbind hF; obtain ⟨v2, ev2, hF⟩ := hF
    refine x_getI (o := (some a0)) (ci := 11) (C := RX11) (T := TX11) (N := 42) hx hb hts iw_X11 hown hR rfl 15 (by decide) mm_958 (Or.inl rfl) ev2 dX11_isPromise_6 ?_
    refine lv_icmp_ge (tgt := 16) hx hb dX11_isPromise_9 (by decide) (fun c3 => ?_) (fun c3 => ?_)
    · replace hF := xift c3 hF
      refine lv_iconst (v := 0) hx hb dX11_isPromise_16 (by decide) ?_
      cases hF
      exact x_iret hx hb hr rfl hlk hR hS (by decide) (by decide) dX11_isPromise_17
    · replace hF := xiff c3 hF
      refine lv_iconst (v := 1) hx hb dX11_isPromise_12 (by decide) ?_
      refine lv_goto (tgt := 17) hx hb dX11_isPromise_13 (by decide) ?_
      cases hF
      exact x_iret hx hb hr rfl hlk hR hS (by decide) (by decide) dX11_isPromise_17
def rm_X11_promise : Room := { frames := 1, cells := 0, slots := 0, locals := 21 }
theorem f_X11_promise : xM yX11_promise cX11_promise 5 (some .int) 4 := ⟨mm_1110, mm_62, by decide +kernel, by decide +kernel⟩
theorem dX11_promise_0 : decode cX11_promise 0 = .ok (.aload_n 0, 1) := by decide +kernel
theorem dX11_promise_1 : decode cX11_promise 1 = .ok (.iconst 0, 1) := by decide +kernel
theorem dX11_promise_2 : decode cX11_promise 2 = .ok (.putfield 93, 3) := by decide +kernel
theorem dX11_promise_5 : decode cX11_promise 5 = .ok (.aload_n 0, 1) := by decide +kernel
theorem dX11_promise_6 : decode cX11_promise 6 = .ok (.iload_n 1, 1) := by decide +kernel
theorem dX11_promise_7 : decode cX11_promise 7 = .ok (.invokevirtual 100, 3) := by decide +kernel
theorem dX11_promise_10 : decode cX11_promise 10 = .ok (.ifCond .eq 35, 3) := by decide +kernel
theorem dX11_promise_13 : decode cX11_promise 13 = .ok (.iload_n 2, 1) := by decide +kernel
theorem dX11_promise_14 : decode cX11_promise 14 = .ok (.iconst 1, 1) := by decide +kernel
theorem dX11_promise_15 : decode cX11_promise 15 = .ok (.if_icmp .lt 30, 3) := by decide +kernel
theorem dX11_promise_18 : decode cX11_promise 18 = .ok (.iload_n 2, 1) := by decide +kernel
theorem dX11_promise_19 : decode cX11_promise 19 = .ok (.sipush 200, 3) := by decide +kernel
theorem dX11_promise_22 : decode cX11_promise 22 = .ok (.if_icmp .gt 23, 3) := by decide +kernel
theorem dX11_promise_25 : decode cX11_promise 25 = .ok (.iload_n 3, 1) := by decide +kernel
theorem dX11_promise_26 : decode cX11_promise 26 = .ok (.ifCond .lt 19, 3) := by decide +kernel
theorem dX11_promise_29 : decode cX11_promise 29 = .ok (.iload_n 3, 1) := by decide +kernel
theorem dX11_promise_30 : decode cX11_promise 30 = .ok (.sipush 1000, 3) := by decide +kernel
theorem dX11_promise_33 : decode cX11_promise 33 = .ok (.if_icmp .gt 12, 3) := by decide +kernel
theorem dX11_promise_36 : decode cX11_promise 36 = .ok (.aload_n 0, 1) := by decide +kernel
theorem dX11_promise_37 : decode cX11_promise 37 = .ok (.getfield 134, 3) := by decide +kernel
theorem dX11_promise_40 : decode cX11_promise 40 = .ok (.bipush 12, 2) := by decide +kernel
theorem dX11_promise_42 : decode cX11_promise 42 = .ok (.if_icmp .ne 5, 3) := by decide +kernel
theorem dX11_promise_45 : decode cX11_promise 45 = .ok (.iconst (-1), 1) := by decide +kernel
theorem dX11_promise_46 : decode cX11_promise 46 = .ok (.ireturn, 1) := by decide +kernel
theorem dX11_promise_47 : decode cX11_promise 47 = .ok (.aload_n 0, 1) := by decide +kernel
theorem dX11_promise_48 : decode cX11_promise 48 = .ok (.getfield 29, 3) := by decide +kernel
theorem dX11_promise_51 : decode cX11_promise 51 = .ok (.aload_n 0, 1) := by decide +kernel
theorem dX11_promise_52 : decode cX11_promise 52 = .ok (.getfield 134, 3) := by decide +kernel
theorem dX11_promise_55 : decode cX11_promise 55 = .ok (.iload_n 1, 1) := by decide +kernel
theorem dX11_promise_56 : decode cX11_promise 56 = .ok (.iastore, 1) := by decide +kernel
theorem dX11_promise_57 : decode cX11_promise 57 = .ok (.aload_n 0, 1) := by decide +kernel
theorem dX11_promise_58 : decode cX11_promise 58 = .ok (.getfield 32, 3) := by decide +kernel
theorem dX11_promise_61 : decode cX11_promise 61 = .ok (.aload_n 0, 1) := by decide +kernel
theorem dX11_promise_62 : decode cX11_promise 62 = .ok (.getfield 134, 3) := by decide +kernel
theorem dX11_promise_65 : decode cX11_promise 65 = .ok (.iload_n 2, 1) := by decide +kernel
theorem dX11_promise_66 : decode cX11_promise 66 = .ok (.iastore, 1) := by decide +kernel
theorem dX11_promise_67 : decode cX11_promise 67 = .ok (.aload_n 0, 1) := by decide +kernel
theorem dX11_promise_68 : decode cX11_promise 68 = .ok (.getfield 35, 3) := by decide +kernel
theorem dX11_promise_71 : decode cX11_promise 71 = .ok (.aload_n 0, 1) := by decide +kernel
theorem dX11_promise_72 : decode cX11_promise 72 = .ok (.getfield 134, 3) := by decide +kernel
theorem dX11_promise_75 : decode cX11_promise 75 = .ok (.iload_n 3, 1) := by decide +kernel
theorem dX11_promise_76 : decode cX11_promise 76 = .ok (.iastore, 1) := by decide +kernel
theorem dX11_promise_77 : decode cX11_promise 77 = .ok (.aload_n 0, 1) := by decide +kernel
theorem dX11_promise_78 : decode cX11_promise 78 = .ok (.getfield 38, 3) := by decide +kernel
theorem dX11_promise_81 : decode cX11_promise 81 = .ok (.aload_n 0, 1) := by decide +kernel
theorem dX11_promise_82 : decode cX11_promise 82 = .ok (.getfield 134, 3) := by decide +kernel
theorem dX11_promise_85 : decode cX11_promise 85 = .ok (.iload 4, 2) := by decide +kernel
theorem dX11_promise_87 : decode cX11_promise 87 = .ok (.bastore, 1) := by decide +kernel
theorem dX11_promise_88 : decode cX11_promise 88 = .ok (.aload_n 0, 1) := by decide +kernel
theorem dX11_promise_89 : decode cX11_promise 89 = .ok (.dup, 1) := by decide +kernel
theorem dX11_promise_90 : decode cX11_promise 90 = .ok (.getfield 134, 3) := by decide +kernel
theorem dX11_promise_93 : decode cX11_promise 93 = .ok (.iconst 1, 1) := by decide +kernel
theorem dX11_promise_94 : decode cX11_promise 94 = .ok (.iadd, 1) := by decide +kernel
theorem dX11_promise_95 : decode cX11_promise 95 = .ok (.putfield 134, 3) := by decide +kernel
theorem dX11_promise_98 : decode cX11_promise 98 = .ok (.aload_n 0, 1) := by decide +kernel
theorem dX11_promise_99 : decode cX11_promise 99 = .ok (.getfield 134, 3) := by decide +kernel
theorem dX11_promise_102 : decode cX11_promise 102 = .ok (.iconst 1, 1) := by decide +kernel
theorem dX11_promise_103 : decode cX11_promise 103 = .ok (.isub, 1) := by decide +kernel
theorem dX11_promise_104 : decode cX11_promise 104 = .ok (.ireturn, 1) := by decide +kernel
def F_X11_promise (G : Nat → Nat) (h : xH) (a0 : Nat) (x1 : Int32) (x2 : Int32) (x3 : Int32) (x4 : Int32) : Option (Int32 × xH) :=
  (xp G h (some a0) 11 0 (.int 0)).bind fun h1 =>
  (xc h1 (some a0) 11).bind fun b3 =>
  (F_X11_isService G h1 b3 x1).bind fun v2 =>
  if v2 = 0 then
    some ((-1), h1)
  else
  if x2 < 1 then
    some ((-1), h1)
  else
  if 200 < x2 then
    some ((-1), h1)
  else
  if x3 < 0 then
    some ((-1), h1)
  else
  if 1000 < x3 then
    some ((-1), h1)
  else
  (gI h1 (some a0) 11 15).bind fun v9 =>
  if v9 = 12 then
    some ((-1), h1)
  else
  (gR h1 (some a0) 11 16).bind fun w11 =>
  (gI h1 (some a0) 11 15).bind fun v12 =>
  (stI 2 G h1 w11 v12 x1).bind fun h13 =>
  (gR h13 (some a0) 11 17).bind fun w14 =>
  (gI h13 (some a0) 11 15).bind fun v15 =>
  (stI 2 G h13 w14 v15 x2).bind fun h16 =>
  (gR h16 (some a0) 11 18).bind fun w17 =>
  (gI h16 (some a0) 11 15).bind fun v18 =>
  (stI 2 G h16 w17 v18 x3).bind fun h19 =>
  (gR h19 (some a0) 11 19).bind fun w20 =>
  (gI h19 (some a0) 11 15).bind fun v21 =>
  (stI 3 G h19 w20 v21 (vp_nar .boolean x4)).bind fun h22 =>
  (gI h22 (some a0) 11 15).bind fun v23 =>
  (xp G h22 (some a0) 11 15 (.int (v23 + 1))).bind fun h24 =>
  (gI h24 (some a0) 11 15).bind fun v25 =>
  some ((v25 - 1), h24)
set_option maxHeartbeats 4000000 in
set_option maxRecDepth 100000 in
theorem t_X11_promise (l : Launch) (D : va_G) (G : Nat → Nat) (h : xH) (a0 : Nat) (x1 : Int32) (x2 : Int32) (x3 : Int32) (x4 : Int32) (r : Int32) (h' : xH) (hF : F_X11_promise G h a0 x1 x2 x3 x4 = some (r, h')) : xC l yX11_promise cX11_promise 5 (some .int) (rm_X11_promise) D G h [.ref a0, .int x1, .int x2, .int x3, .int x4] (some (.int r)) h' := by
  refine xC_of (by decide) (by first | decide | exact Nat.le_of_ble_eq_true rfl) ?_
  intro p e s m args below meth c ls hx hb hr hlk hml hown hnm hts hR hS hl
  have hl : lv_has ls 5 [(0, va_rf (some a0)), (1, .int x1), (2, .int x2), (3, .int x3), (4, .int x4)] := hl
  unfold F_X11_promise at hF
  refine x_aload_n (o := (some a0)) hx hb dX11_promise_0 rfl (lv_at hl 0 rfl) ?_
  refine lv_iconst (v := 0) hx hb dX11_promise_1 (by decide) ?_
  replace hF := xbind hF; obtain ⟨h1, eh1, hF⟩ := hF
  refine x_put (o := (some a0)) (ci := 11) (C := RX11) (T := TX11) (N := 42) hx hb hts iw_X11 tyX11_ok nmX11 hown hR hS rfl 0 (by decide) mm_943 (Or.inl rfl) rfl rfl rfl eh1 dX11_promise_2 (fun H locs hR hS => ?_)
  refine x_aload_n (o := (some a0)) hx hb dX11_promise_5 rfl (lv_at hl 0 rfl) ?_
  refine lv_iload_n hx hb dX11_promise_6 rfl (lv_at hl 1 rfl) ?_
  replace hF := xbind hF; obtain ⟨b3, eb3, hF⟩ := hF
  replace hF := xbind hF; obtain ⟨v2, ev2, hF⟩ := hF
  refine x_callV (o := (some a0)) (ci := 11) (As := [.int x1]) (rest := []) (v := (some (.int v2))) (k := 1) hx hb hml hown hts hR hS eb3 rfl rfl (t_X11_isService l D G h1 b3 x1 v2 ev2) f_X11_isService mm_1083 mm_1085 mm_32 rfl hl.1 rfl (by first | exact Nat.le_of_ble_eq_true rfl | simp [xrf_cat, xcI, xcJ, xcA]) dX11_promise_7 (by decide) (by decide) rfl (fun H locs hR hS => ?_)
  refine lv_if_eq (tgt := 45) hx hb dX11_promise_10 (by decide) (fun c4 => ?_) (fun c4 => ?_)
  · replace hF := xift c4 hF
    refine lv_iconst (v := (-1)) hx hb dX11_promise_45 (by decide) ?_
    cases hF
    exact x_iret hx hb hr rfl hlk hR hS (by decide) (by decide) dX11_promise_46
  · replace hF := xiff c4 hF
    refine lv_iload_n hx hb dX11_promise_13 rfl (lv_at hl 2 rfl) ?_
    refine lv_iconst (v := 1) hx hb dX11_promise_14 (by decide) ?_
    refine lv_icmp_lt (tgt := 45) hx hb dX11_promise_15 (by decide) (fun c5 => ?_) (fun c5 => ?_)
    · replace hF := xift c5 hF
      refine lv_iconst (v := (-1)) hx hb dX11_promise_45 (by decide) ?_
      cases hF
      exact x_iret hx hb hr rfl hlk hR hS (by decide) (by decide) dX11_promise_46
    · replace hF := xiff c5 hF
      refine lv_iload_n hx hb dX11_promise_18 rfl (lv_at hl 2 rfl) ?_
      refine lv_sipush (v := 200) hx hb dX11_promise_19 (by decide) ?_
      refine lv_icmp_gt (tgt := 45) hx hb dX11_promise_22 (by decide) (fun c6 => ?_) (fun c6 => ?_)
      · replace hF := xift c6 hF
        refine lv_iconst (v := (-1)) hx hb dX11_promise_45 (by decide) ?_
        cases hF
        exact x_iret hx hb hr rfl hlk hR hS (by decide) (by decide) dX11_promise_46
      · replace hF := xiff c6 hF
        refine lv_iload_n hx hb dX11_promise_25 rfl (lv_at hl 3 rfl) ?_
        refine lv_if_lt (tgt := 45) hx hb dX11_promise_26 (by decide) (fun c7 => ?_) (fun c7 => ?_)
        · replace hF := xift c7 hF
          refine lv_iconst (v := (-1)) hx hb dX11_promise_45 (by decide) ?_
          cases hF
          exact x_iret hx hb hr rfl hlk hR hS (by decide) (by decide) dX11_promise_46
        · replace hF := xiff c7 hF
          refine lv_iload_n hx hb dX11_promise_29 rfl (lv_at hl 3 rfl) ?_
          refine lv_sipush (v := 1000) hx hb dX11_promise_30 (by decide) ?_
          refine lv_icmp_gt (tgt := 45) hx hb dX11_promise_33 (by decide) (fun c8 => ?_) (fun c8 => ?_)
          · replace hF := xift c8 hF
            refine lv_iconst (v := (-1)) hx hb dX11_promise_45 (by decide) ?_
            cases hF
            exact x_iret hx hb hr rfl hlk hR hS (by decide) (by decide) dX11_promise_46
          · replace hF := xiff c8 hF
            refine x_aload_n (o := (some a0)) hx hb dX11_promise_36 rfl (lv_at hl 0 rfl) ?_
            replace hF := xbind hF; obtain ⟨v9, ev9, hF⟩ := hF
            refine x_getI (o := (some a0)) (ci := 11) (C := RX11) (T := TX11) (N := 42) hx hb hts iw_X11 hown hR rfl 15 (by decide) mm_958 (Or.inl rfl) ev9 dX11_promise_37 ?_
            refine lv_bipush (v := 12) hx hb dX11_promise_40 (by decide) ?_
            refine lv_icmp_ne (tgt := 47) hx hb dX11_promise_42 (by decide) (fun c10 => ?_) (fun c10 => ?_)
            · replace hF := xiff c10 hF
              refine x_aload_n (o := (some a0)) hx hb dX11_promise_47 rfl (lv_at hl 0 rfl) ?_
              replace hF := xbind hF; obtain ⟨w11, ew11, hF⟩ := hF
              refine x_getR (o := (some a0)) (ci := 11) (C := RX11) (T := TX11) (N := 42) hx hb hts iw_X11 hown hR rfl 16 (by decide) mm_959 (Or.inl rfl) ew11 dX11_promise_48 ?_
              refine x_aload_n (o := (some a0)) hx hb dX11_promise_51 rfl (lv_at hl 0 rfl) ?_
              replace hF := xbind hF; obtain ⟨v12, ev12, hF⟩ := hF
              refine x_getI (o := (some a0)) (ci := 11) (C := RX11) (T := TX11) (N := 42) hx hb hts iw_X11 hown hR rfl 15 (by decide) mm_958 (Or.inl rfl) ev12 dX11_promise_52 ?_
              refine lv_iload_n hx hb dX11_promise_55 rfl (lv_at hl 1 rfl) ?_
              replace hF := xbind hF; obtain ⟨h13, eh13, hF⟩ := hF
              refine x_ist (o := w11) hx hb hR hS eh13 dX11_promise_56 (fun H locs hR hS => ?_)
              refine x_aload_n (o := (some a0)) hx hb dX11_promise_57 rfl (lv_at hl 0 rfl) ?_
              replace hF := xbind hF; obtain ⟨w14, ew14, hF⟩ := hF
              refine x_getR (o := (some a0)) (ci := 11) (C := RX11) (T := TX11) (N := 42) hx hb hts iw_X11 hown hR rfl 17 (by decide) mm_960 (Or.inl rfl) ew14 dX11_promise_58 ?_
              refine x_aload_n (o := (some a0)) hx hb dX11_promise_61 rfl (lv_at hl 0 rfl) ?_
              replace hF := xbind hF; obtain ⟨v15, ev15, hF⟩ := hF
              refine x_getI (o := (some a0)) (ci := 11) (C := RX11) (T := TX11) (N := 42) hx hb hts iw_X11 hown hR rfl 15 (by decide) mm_958 (Or.inl rfl) ev15 dX11_promise_62 ?_
              refine lv_iload_n hx hb dX11_promise_65 rfl (lv_at hl 2 rfl) ?_
              replace hF := xbind hF; obtain ⟨h16, eh16, hF⟩ := hF
              refine x_ist (o := w14) hx hb hR hS eh16 dX11_promise_66 (fun H locs hR hS => ?_)
              refine x_aload_n (o := (some a0)) hx hb dX11_promise_67 rfl (lv_at hl 0 rfl) ?_
              replace hF := xbind hF; obtain ⟨w17, ew17, hF⟩ := hF
              refine x_getR (o := (some a0)) (ci := 11) (C := RX11) (T := TX11) (N := 42) hx hb hts iw_X11 hown hR rfl 18 (by decide) mm_961 (Or.inl rfl) ew17 dX11_promise_68 ?_
              refine x_aload_n (o := (some a0)) hx hb dX11_promise_71 rfl (lv_at hl 0 rfl) ?_
              replace hF := xbind hF; obtain ⟨v18, ev18, hF⟩ := hF
              refine x_getI (o := (some a0)) (ci := 11) (C := RX11) (T := TX11) (N := 42) hx hb hts iw_X11 hown hR rfl 15 (by decide) mm_958 (Or.inl rfl) ev18 dX11_promise_72 ?_
              refine lv_iload_n hx hb dX11_promise_75 rfl (lv_at hl 3 rfl) ?_
              replace hF := xbind hF; obtain ⟨h19, eh19, hF⟩ := hF
              refine x_ist (o := w17) hx hb hR hS eh19 dX11_promise_76 (fun H locs hR hS => ?_)
              refine x_aload_n (o := (some a0)) hx hb dX11_promise_77 rfl (lv_at hl 0 rfl) ?_
              replace hF := xbind hF; obtain ⟨w20, ew20, hF⟩ := hF
              refine x_getR (o := (some a0)) (ci := 11) (C := RX11) (T := TX11) (N := 42) hx hb hts iw_X11 hown hR rfl 19 (by decide) mm_962 (Or.inl rfl) ew20 dX11_promise_78 ?_
              refine x_aload_n (o := (some a0)) hx hb dX11_promise_81 rfl (lv_at hl 0 rfl) ?_
              replace hF := xbind hF; obtain ⟨v21, ev21, hF⟩ := hF
              refine x_getI (o := (some a0)) (ci := 11) (C := RX11) (T := TX11) (N := 42) hx hb hts iw_X11 hown hR rfl 15 (by decide) mm_958 (Or.inl rfl) ev21 dX11_promise_82 ?_
              refine lv_iload hx hb dX11_promise_85 (lv_at hl 4 rfl) ?_
              replace hF := xbind hF; obtain ⟨h22, eh22, hF⟩ := hF
              refine x_zst (o := w20) hx hb hR hS eh22 dX11_promise_87 (fun H locs hR hS => ?_)
              refine x_aload_n (o := (some a0)) hx hb dX11_promise_88 rfl (lv_at hl 0 rfl) ?_
              refine lv_dup hx hb dX11_promise_89 xrf_cat ?_
              replace hF := xbind hF; obtain ⟨v23, ev23, hF⟩ := hF
              refine x_getI (o := (some a0)) (ci := 11) (C := RX11) (T := TX11) (N := 42) hx hb hts iw_X11 hown hR rfl 15 (by decide) mm_958 (Or.inl rfl) ev23 dX11_promise_90 ?_
              refine lv_iconst (v := 1) hx hb dX11_promise_93 (by decide) ?_
              refine lv_iadd hx hb dX11_promise_94 ?_
              replace hF := xbind hF; obtain ⟨h24, eh24, hF⟩ := hF
              refine x_put (o := (some a0)) (ci := 11) (C := RX11) (T := TX11) (N := 42) hx hb hts iw_X11 tyX11_ok nmX11 hown hR hS rfl 15 (by decide) mm_958 (Or.inl rfl) rfl rfl rfl eh24 dX11_promise_95 (fun H locs hR hS => ?_)
              refine x_aload_n (o := (some a0)) hx hb dX11_promise_98 rfl (lv_at hl 0 rfl) ?_
              replace hF := xbind hF; obtain ⟨v25, ev25, hF⟩ := hF
              refine x_getI (o := (some a0)) (ci := 11) (C := RX11) (T := TX11) (N := 42) hx hb hts iw_X11 hown hR rfl 15 (by decide) mm_958 (Or.inl rfl) ev25 dX11_promise_99 ?_
              refine lv_iconst (v := 1) hx hb dX11_promise_102 (by decide) ?_
              refine lv_isub hx hb dX11_promise_103 ?_
              cases hF
              exact x_iret hx hb hr rfl hlk hR hS (by decide) (by decide) dX11_promise_104
            · replace hF := xift c10 hF
              refine lv_iconst (v := (-1)) hx hb dX11_promise_45 (by decide) ?_
              cases hF
              exact x_iret hx hb hr rfl hlk hR hS (by decide) (by decide) dX11_promise_46
def rm_X11_grace : Room := { frames := 1, cells := 0, slots := 0, locals := 21 }
theorem f_X11_grace : xM yX11_grace cX11_grace 4 (some .boolean) 3 := ⟨mm_1114, mm_62, by decide +kernel, by decide +kernel⟩
theorem dX11_grace_0 : decode cX11_grace 0 = .ok (.aload_n 0, 1) := by decide +kernel
theorem dX11_grace_1 : decode cX11_grace 1 = .ok (.iconst 0, 1) := by decide +kernel
theorem dX11_grace_2 : decode cX11_grace 2 = .ok (.putfield 93, 3) := by decide +kernel
theorem dX11_grace_5 : decode cX11_grace 5 = .ok (.aload_n 0, 1) := by decide +kernel
theorem dX11_grace_6 : decode cX11_grace 6 = .ok (.iload_n 1, 1) := by decide +kernel
theorem dX11_grace_7 : decode cX11_grace 7 = .ok (.invokevirtual 137, 3) := by decide +kernel
theorem dX11_grace_10 : decode cX11_grace 10 = .ok (.ifCond .eq 34, 3) := by decide +kernel
theorem dX11_grace_13 : decode cX11_grace 13 = .ok (.iload_n 2, 1) := by decide +kernel
theorem dX11_grace_14 : decode cX11_grace 14 = .ok (.aload_n 0, 1) := by decide +kernel
theorem dX11_grace_15 : decode cX11_grace 15 = .ok (.getfield 110, 3) := by decide +kernel
theorem dX11_grace_18 : decode cX11_grace 18 = .ok (.if_icmp .le 26, 3) := by decide +kernel
theorem dX11_grace_21 : decode cX11_grace 21 = .ok (.iload_n 3, 1) := by decide +kernel
theorem dX11_grace_22 : decode cX11_grace 22 = .ok (.iload_n 2, 1) := by decide +kernel
theorem dX11_grace_23 : decode cX11_grace 23 = .ok (.if_icmp .lt 21, 3) := by decide +kernel
theorem dX11_grace_26 : decode cX11_grace 26 = .ok (.iload_n 3, 1) := by decide +kernel
theorem dX11_grace_27 : decode cX11_grace 27 = .ok (.sipush 600, 3) := by decide +kernel
theorem dX11_grace_30 : decode cX11_grace 30 = .ok (.if_icmp .gt 14, 3) := by decide +kernel
theorem dX11_grace_33 : decode cX11_grace 33 = .ok (.aload_n 0, 1) := by decide +kernel
theorem dX11_grace_34 : decode cX11_grace 34 = .ok (.getfield 41, 3) := by decide +kernel
theorem dX11_grace_37 : decode cX11_grace 37 = .ok (.iload_n 1, 1) := by decide +kernel
theorem dX11_grace_38 : decode cX11_grace 38 = .ok (.iaload, 1) := by decide +kernel
theorem dX11_grace_39 : decode cX11_grace 39 = .ok (.bipush 10, 2) := by decide +kernel
theorem dX11_grace_41 : decode cX11_grace 41 = .ok (.if_icmp .ne 5, 3) := by decide +kernel
theorem dX11_grace_44 : decode cX11_grace 44 = .ok (.iconst 0, 1) := by decide +kernel
theorem dX11_grace_45 : decode cX11_grace 45 = .ok (.ireturn, 1) := by decide +kernel
theorem dX11_grace_46 : decode cX11_grace 46 = .ok (.aload_n 0, 1) := by decide +kernel
theorem dX11_grace_47 : decode cX11_grace 47 = .ok (.getfield 44, 3) := by decide +kernel
theorem dX11_grace_50 : decode cX11_grace 50 = .ok (.bipush 10, 2) := by decide +kernel
theorem dX11_grace_52 : decode cX11_grace 52 = .ok (.iload_n 1, 1) := by decide +kernel
theorem dX11_grace_53 : decode cX11_grace 53 = .ok (.imul, 1) := by decide +kernel
theorem dX11_grace_54 : decode cX11_grace 54 = .ok (.aload_n 0, 1) := by decide +kernel
theorem dX11_grace_55 : decode cX11_grace 55 = .ok (.getfield 41, 3) := by decide +kernel
theorem dX11_grace_58 : decode cX11_grace 58 = .ok (.iload_n 1, 1) := by decide +kernel
theorem dX11_grace_59 : decode cX11_grace 59 = .ok (.iaload, 1) := by decide +kernel
theorem dX11_grace_60 : decode cX11_grace 60 = .ok (.iadd, 1) := by decide +kernel
theorem dX11_grace_61 : decode cX11_grace 61 = .ok (.iload_n 2, 1) := by decide +kernel
theorem dX11_grace_62 : decode cX11_grace 62 = .ok (.iastore, 1) := by decide +kernel
theorem dX11_grace_63 : decode cX11_grace 63 = .ok (.aload_n 0, 1) := by decide +kernel
theorem dX11_grace_64 : decode cX11_grace 64 = .ok (.getfield 47, 3) := by decide +kernel
theorem dX11_grace_67 : decode cX11_grace 67 = .ok (.bipush 10, 2) := by decide +kernel
theorem dX11_grace_69 : decode cX11_grace 69 = .ok (.iload_n 1, 1) := by decide +kernel
theorem dX11_grace_70 : decode cX11_grace 70 = .ok (.imul, 1) := by decide +kernel
theorem dX11_grace_71 : decode cX11_grace 71 = .ok (.aload_n 0, 1) := by decide +kernel
theorem dX11_grace_72 : decode cX11_grace 72 = .ok (.getfield 41, 3) := by decide +kernel
theorem dX11_grace_75 : decode cX11_grace 75 = .ok (.iload_n 1, 1) := by decide +kernel
theorem dX11_grace_76 : decode cX11_grace 76 = .ok (.iaload, 1) := by decide +kernel
theorem dX11_grace_77 : decode cX11_grace 77 = .ok (.iadd, 1) := by decide +kernel
theorem dX11_grace_78 : decode cX11_grace 78 = .ok (.iload_n 3, 1) := by decide +kernel
theorem dX11_grace_79 : decode cX11_grace 79 = .ok (.iastore, 1) := by decide +kernel
theorem dX11_grace_80 : decode cX11_grace 80 = .ok (.aload_n 0, 1) := by decide +kernel
theorem dX11_grace_81 : decode cX11_grace 81 = .ok (.getfield 41, 3) := by decide +kernel
theorem dX11_grace_84 : decode cX11_grace 84 = .ok (.iload_n 1, 1) := by decide +kernel
theorem dX11_grace_85 : decode cX11_grace 85 = .ok (.dup2, 1) := by decide +kernel
theorem dX11_grace_86 : decode cX11_grace 86 = .ok (.iaload, 1) := by decide +kernel
theorem dX11_grace_87 : decode cX11_grace 87 = .ok (.iconst 1, 1) := by decide +kernel
theorem dX11_grace_88 : decode cX11_grace 88 = .ok (.iadd, 1) := by decide +kernel
theorem dX11_grace_89 : decode cX11_grace 89 = .ok (.iastore, 1) := by decide +kernel
theorem dX11_grace_90 : decode cX11_grace 90 = .ok (.iconst 1, 1) := by decide +kernel
theorem dX11_grace_91 : decode cX11_grace 91 = .ok (.ireturn, 1) := by decide +kernel
def F_X11_grace (G : Nat → Nat) (h : xH) (a0 : Nat) (x1 : Int32) (x2 : Int32) (x3 : Int32) : Option (Int32 × xH) :=
  (xp G h (some a0) 11 0 (.int 0)).bind fun h1 =>
  (xc h1 (some a0) 11).bind fun b3 =>
  (F_X11_isPromise G h1 b3 x1).bind fun v2 =>
  if v2 = 0 then
    some (0, h1)
  else
  (gI h1 (some a0) 11 9).bind fun v5 =>
  if x2 ≤ v5 then
    some (0, h1)
  else
  if x3 < x2 then
    some (0, h1)
  else
  if 600 < x3 then
    some (0, h1)
  else
  (gR h1 (some a0) 11 20).bind fun w9 =>
  (ldI 2 G h1 w9 x1).bind fun v10 =>
  if v10 = 10 then
    some (0, h1)
  else
  (gR h1 (some a0) 11 21).bind fun w12 =>
  (gR h1 (some a0) 11 20).bind fun w13 =>
  (ldI 2 G h1 w13 x1).bind fun v14 =>
  (stI 2 G h1 w12 ((10 * x1) + v14) x2).bind fun h15 =>
  (gR h15 (some a0) 11 22).bind fun w16 =>
  (gR h15 (some a0) 11 20).bind fun w17 =>
  (ldI 2 G h15 w17 x1).bind fun v18 =>
  (stI 2 G h15 w16 ((10 * x1) + v18) x3).bind fun h19 =>
  (gR h19 (some a0) 11 20).bind fun w20 =>
  (ldI 2 G h19 w20 x1).bind fun v21 =>
  (stI 2 G h19 w20 x1 (v21 + 1)).bind fun h22 =>
  some (1, h22)
set_option maxHeartbeats 4000000 in
set_option maxRecDepth 100000 in
theorem t_X11_grace (l : Launch) (D : va_G) (G : Nat → Nat) (h : xH) (a0 : Nat) (x1 : Int32) (x2 : Int32) (x3 : Int32) (r : Int32) (h' : xH) (hF : F_X11_grace G h a0 x1 x2 x3 = some (r, h')) : xC l yX11_grace cX11_grace 4 (some .boolean) (rm_X11_grace) D G h [.ref a0, .int x1, .int x2, .int x3] (some (.int r)) h' := by
  refine xC_of (by decide) (by first | decide | exact Nat.le_of_ble_eq_true rfl) ?_
  intro p e s m args below meth c ls hx hb hr hlk hml hown hnm hts hR hS hl
  have hl : lv_has ls 4 [(0, va_rf (some a0)), (1, .int x1), (2, .int x2), (3, .int x3)] := hl
  unfold F_X11_grace at hF
  refine x_aload_n (o := (some a0)) hx hb dX11_grace_0 rfl (lv_at hl 0 rfl) ?_
  refine lv_iconst (v := 0) hx hb dX11_grace_1 (by decide) ?_
  replace hF := xbind hF; obtain ⟨h1, eh1, hF⟩ := hF
  refine x_put (o := (some a0)) (ci := 11) (C := RX11) (T := TX11) (N := 42) hx hb hts iw_X11 tyX11_ok nmX11 hown hR hS rfl 0 (by decide) mm_943 (Or.inl rfl) rfl rfl rfl eh1 dX11_grace_2 (fun H locs hR hS => ?_)
  refine x_aload_n (o := (some a0)) hx hb dX11_grace_5 rfl (lv_at hl 0 rfl) ?_
  refine lv_iload_n hx hb dX11_grace_6 rfl (lv_at hl 1 rfl) ?_
  replace hF := xbind hF; obtain ⟨b3, eb3, hF⟩ := hF
  replace hF := xbind hF; obtain ⟨v2, ev2, hF⟩ := hF
  refine x_callV (o := (some a0)) (ci := 11) (As := [.int x1]) (rest := []) (v := (some (.int v2))) (k := 1) hx hb hml hown hts hR hS eb3 rfl rfl (t_X11_isPromise l D G h1 b3 x1 v2 ev2) f_X11_isPromise mm_1115 mm_1117 mm_35 rfl hl.1 rfl (by first | exact Nat.le_of_ble_eq_true rfl | simp [xrf_cat, xcI, xcJ, xcA]) dX11_grace_7 (by decide) (by decide) rfl (fun H locs hR hS => ?_)
  refine lv_if_eq (tgt := 44) hx hb dX11_grace_10 (by decide) (fun c4 => ?_) (fun c4 => ?_)
  · replace hF := xift c4 hF
    refine lv_iconst (v := 0) hx hb dX11_grace_44 (by decide) ?_
    cases hF
    exact x_iret hx hb hr rfl hlk hR hS (by decide) (by decide) dX11_grace_45
  · replace hF := xiff c4 hF
    refine lv_iload_n hx hb dX11_grace_13 rfl (lv_at hl 2 rfl) ?_
    refine x_aload_n (o := (some a0)) hx hb dX11_grace_14 rfl (lv_at hl 0 rfl) ?_
    replace hF := xbind hF; obtain ⟨v5, ev5, hF⟩ := hF
    refine x_getI (o := (some a0)) (ci := 11) (C := RX11) (T := TX11) (N := 42) hx hb hts iw_X11 hown hR rfl 9 (by decide) mm_952 (Or.inl rfl) ev5 dX11_grace_15 ?_
    refine lv_icmp_le (tgt := 44) hx hb dX11_grace_18 (by decide) (fun c6 => ?_) (fun c6 => ?_)
    · replace hF := xift c6 hF
      refine lv_iconst (v := 0) hx hb dX11_grace_44 (by decide) ?_
      cases hF
      exact x_iret hx hb hr rfl hlk hR hS (by decide) (by decide) dX11_grace_45
    · replace hF := xiff c6 hF
      refine lv_iload_n hx hb dX11_grace_21 rfl (lv_at hl 3 rfl) ?_
      refine lv_iload_n hx hb dX11_grace_22 rfl (lv_at hl 2 rfl) ?_
      refine lv_icmp_lt (tgt := 44) hx hb dX11_grace_23 (by decide) (fun c7 => ?_) (fun c7 => ?_)
      · replace hF := xift c7 hF
        refine lv_iconst (v := 0) hx hb dX11_grace_44 (by decide) ?_
        cases hF
        exact x_iret hx hb hr rfl hlk hR hS (by decide) (by decide) dX11_grace_45
      · replace hF := xiff c7 hF
        refine lv_iload_n hx hb dX11_grace_26 rfl (lv_at hl 3 rfl) ?_
        refine lv_sipush (v := 600) hx hb dX11_grace_27 (by decide) ?_
        refine lv_icmp_gt (tgt := 44) hx hb dX11_grace_30 (by decide) (fun c8 => ?_) (fun c8 => ?_)
        · replace hF := xift c8 hF
          refine lv_iconst (v := 0) hx hb dX11_grace_44 (by decide) ?_
          cases hF
          exact x_iret hx hb hr rfl hlk hR hS (by decide) (by decide) dX11_grace_45
        · replace hF := xiff c8 hF
          refine x_aload_n (o := (some a0)) hx hb dX11_grace_33 rfl (lv_at hl 0 rfl) ?_
          replace hF := xbind hF; obtain ⟨w9, ew9, hF⟩ := hF
          refine x_getR (o := (some a0)) (ci := 11) (C := RX11) (T := TX11) (N := 42) hx hb hts iw_X11 hown hR rfl 20 (by decide) mm_963 (Or.inl rfl) ew9 dX11_grace_34 ?_
          refine lv_iload_n hx hb dX11_grace_37 rfl (lv_at hl 1 rfl) ?_
          replace hF := xbind hF; obtain ⟨v10, ev10, hF⟩ := hF
          refine x_ild (o := w9) hx hb hR ev10 dX11_grace_38 ?_
          refine lv_bipush (v := 10) hx hb dX11_grace_39 (by decide) ?_
          refine lv_icmp_ne (tgt := 46) hx hb dX11_grace_41 (by decide) (fun c11 => ?_) (fun c11 => ?_)
          · replace hF := xiff c11 hF
            refine x_aload_n (o := (some a0)) hx hb dX11_grace_46 rfl (lv_at hl 0 rfl) ?_
            replace hF := xbind hF; obtain ⟨w12, ew12, hF⟩ := hF
            refine x_getR (o := (some a0)) (ci := 11) (C := RX11) (T := TX11) (N := 42) hx hb hts iw_X11 hown hR rfl 21 (by decide) mm_964 (Or.inl rfl) ew12 dX11_grace_47 ?_
            refine lv_bipush (v := 10) hx hb dX11_grace_50 (by decide) ?_
            refine lv_iload_n hx hb dX11_grace_52 rfl (lv_at hl 1 rfl) ?_
            refine lv_imul hx hb dX11_grace_53 ?_
            refine x_aload_n (o := (some a0)) hx hb dX11_grace_54 rfl (lv_at hl 0 rfl) ?_
            replace hF := xbind hF; obtain ⟨w13, ew13, hF⟩ := hF
            refine x_getR (o := (some a0)) (ci := 11) (C := RX11) (T := TX11) (N := 42) hx hb hts iw_X11 hown hR rfl 20 (by decide) mm_963 (Or.inl rfl) ew13 dX11_grace_55 ?_
            refine lv_iload_n hx hb dX11_grace_58 rfl (lv_at hl 1 rfl) ?_
            replace hF := xbind hF; obtain ⟨v14, ev14, hF⟩ := hF
            refine x_ild (o := w13) hx hb hR ev14 dX11_grace_59 ?_
            refine lv_iadd hx hb dX11_grace_60 ?_
            refine lv_iload_n hx hb dX11_grace_61 rfl (lv_at hl 2 rfl) ?_
            replace hF := xbind hF; obtain ⟨h15, eh15, hF⟩ := hF
            refine x_ist (o := w12) hx hb hR hS eh15 dX11_grace_62 (fun H locs hR hS => ?_)
            refine x_aload_n (o := (some a0)) hx hb dX11_grace_63 rfl (lv_at hl 0 rfl) ?_
            replace hF := xbind hF; obtain ⟨w16, ew16, hF⟩ := hF
            refine x_getR (o := (some a0)) (ci := 11) (C := RX11) (T := TX11) (N := 42) hx hb hts iw_X11 hown hR rfl 22 (by decide) mm_965 (Or.inl rfl) ew16 dX11_grace_64 ?_
            refine lv_bipush (v := 10) hx hb dX11_grace_67 (by decide) ?_
            refine lv_iload_n hx hb dX11_grace_69 rfl (lv_at hl 1 rfl) ?_
            refine lv_imul hx hb dX11_grace_70 ?_
            refine x_aload_n (o := (some a0)) hx hb dX11_grace_71 rfl (lv_at hl 0 rfl) ?_
            replace hF := xbind hF; obtain ⟨w17, ew17, hF⟩ := hF
            refine x_getR (o := (some a0)) (ci := 11) (C := RX11) (T := TX11) (N := 42) hx hb hts iw_X11 hown hR rfl 20 (by decide) mm_963 (Or.inl rfl) ew17 dX11_grace_72 ?_
            refine lv_iload_n hx hb dX11_grace_75 rfl (lv_at hl 1 rfl) ?_
            replace hF := xbind hF; obtain ⟨v18, ev18, hF⟩ := hF
            refine x_ild (o := w17) hx hb hR ev18 dX11_grace_76 ?_
            refine lv_iadd hx hb dX11_grace_77 ?_
            refine lv_iload_n hx hb dX11_grace_78 rfl (lv_at hl 3 rfl) ?_
            replace hF := xbind hF; obtain ⟨h19, eh19, hF⟩ := hF
            refine x_ist (o := w16) hx hb hR hS eh19 dX11_grace_79 (fun H locs hR hS => ?_)
            refine x_aload_n (o := (some a0)) hx hb dX11_grace_80 rfl (lv_at hl 0 rfl) ?_
            replace hF := xbind hF; obtain ⟨w20, ew20, hF⟩ := hF
            refine x_getR (o := (some a0)) (ci := 11) (C := RX11) (T := TX11) (N := 42) hx hb hts iw_X11 hown hR rfl 20 (by decide) mm_963 (Or.inl rfl) ew20 dX11_grace_81 ?_
            refine lv_iload_n hx hb dX11_grace_84 rfl (lv_at hl 1 rfl) ?_
            refine lv_dup2_11 hx hb dX11_grace_85 rfl xrf_cat ?_
            replace hF := xbind hF; obtain ⟨v21, ev21, hF⟩ := hF
            refine x_ild (o := w20) hx hb hR ev21 dX11_grace_86 ?_
            refine lv_iconst (v := 1) hx hb dX11_grace_87 (by decide) ?_
            refine lv_iadd hx hb dX11_grace_88 ?_
            replace hF := xbind hF; obtain ⟨h22, eh22, hF⟩ := hF
            refine x_ist (o := w20) hx hb hR hS eh22 dX11_grace_89 (fun H locs hR hS => ?_)
            refine lv_iconst (v := 1) hx hb dX11_grace_90 (by decide) ?_
            cases hF
            exact x_iret hx hb hr rfl hlk hR hS (by decide) (by decide) dX11_grace_91
          · replace hF := xift c11 hF
            refine lv_iconst (v := 0) hx hb dX11_grace_44 (by decide) ?_
            cases hF
            exact x_iret hx hb hr rfl hlk hR hS (by decide) (by decide) dX11_grace_45
def rm_X11_isGrace : Room := { frames := 0, cells := 0, slots := 0, locals := 0 }
theorem f_X11_isGrace : xM yX11_isGrace cX11_isGrace 5 (some .boolean) 2 := ⟨mm_1130, mm_62, by decide +kernel, by decide +kernel⟩
theorem dX11_isGrace_0 : decode cX11_isGrace 0 = .ok (.iconst 0, 1) := by decide +kernel
theorem dX11_isGrace_1 : decode cX11_isGrace 1 = .ok (.istore_n 3, 1) := by decide +kernel
theorem dX11_isGrace_2 : decode cX11_isGrace 2 = .ok (.bipush 10, 2) := by decide +kernel
theorem dX11_isGrace_4 : decode cX11_isGrace 4 = .ok (.iload_n 1, 1) := by decide +kernel
theorem dX11_isGrace_5 : decode cX11_isGrace 5 = .ok (.imul, 1) := by decide +kernel
theorem dX11_isGrace_6 : decode cX11_isGrace 6 = .ok (.istore 4, 2) := by decide +kernel
theorem dX11_isGrace_8 : decode cX11_isGrace 8 = .ok (.iload 4, 2) := by decide +kernel
theorem dX11_isGrace_10 : decode cX11_isGrace 10 = .ok (.bipush 10, 2) := by decide +kernel
theorem dX11_isGrace_12 : decode cX11_isGrace 12 = .ok (.iload_n 1, 1) := by decide +kernel
theorem dX11_isGrace_13 : decode cX11_isGrace 13 = .ok (.imul, 1) := by decide +kernel
theorem dX11_isGrace_14 : decode cX11_isGrace 14 = .ok (.aload_n 0, 1) := by decide +kernel
theorem dX11_isGrace_15 : decode cX11_isGrace 15 = .ok (.getfield 41, 3) := by decide +kernel
theorem dX11_isGrace_18 : decode cX11_isGrace 18 = .ok (.iload_n 1, 1) := by decide +kernel
theorem dX11_isGrace_19 : decode cX11_isGrace 19 = .ok (.iaload, 1) := by decide +kernel
theorem dX11_isGrace_20 : decode cX11_isGrace 20 = .ok (.iadd, 1) := by decide +kernel
theorem dX11_isGrace_21 : decode cX11_isGrace 21 = .ok (.if_icmp .ge 41, 3) := by decide +kernel
theorem dX11_isGrace_24 : decode cX11_isGrace 24 = .ok (.iload_n 3, 1) := by decide +kernel
theorem dX11_isGrace_25 : decode cX11_isGrace 25 = .ok (.ifCond .ne 25, 3) := by decide +kernel
theorem dX11_isGrace_28 : decode cX11_isGrace 28 = .ok (.iload_n 2, 1) := by decide +kernel
theorem dX11_isGrace_29 : decode cX11_isGrace 29 = .ok (.aload_n 0, 1) := by decide +kernel
theorem dX11_isGrace_30 : decode cX11_isGrace 30 = .ok (.getfield 44, 3) := by decide +kernel
theorem dX11_isGrace_33 : decode cX11_isGrace 33 = .ok (.iload 4, 2) := by decide +kernel
theorem dX11_isGrace_35 : decode cX11_isGrace 35 = .ok (.iaload, 1) := by decide +kernel
theorem dX11_isGrace_36 : decode cX11_isGrace 36 = .ok (.if_icmp .lt 18, 3) := by decide +kernel
theorem dX11_isGrace_39 : decode cX11_isGrace 39 = .ok (.iload_n 2, 1) := by decide +kernel
theorem dX11_isGrace_40 : decode cX11_isGrace 40 = .ok (.aload_n 0, 1) := by decide +kernel
theorem dX11_isGrace_41 : decode cX11_isGrace 41 = .ok (.getfield 47, 3) := by decide +kernel
theorem dX11_isGrace_44 : decode cX11_isGrace 44 = .ok (.iload 4, 2) := by decide +kernel
theorem dX11_isGrace_46 : decode cX11_isGrace 46 = .ok (.iaload, 1) := by decide +kernel
theorem dX11_isGrace_47 : decode cX11_isGrace 47 = .ok (.if_icmp .gt 7, 3) := by decide +kernel
theorem dX11_isGrace_50 : decode cX11_isGrace 50 = .ok (.iconst 1, 1) := by decide +kernel
theorem dX11_isGrace_51 : decode cX11_isGrace 51 = .ok (.goto 4, 3) := by decide +kernel
theorem dX11_isGrace_54 : decode cX11_isGrace 54 = .ok (.iconst 0, 1) := by decide +kernel
theorem dX11_isGrace_55 : decode cX11_isGrace 55 = .ok (.istore_n 3, 1) := by decide +kernel
theorem dX11_isGrace_56 : decode cX11_isGrace 56 = .ok (.iinc 4 1, 3) := by decide +kernel
theorem dX11_isGrace_59 : decode cX11_isGrace 59 = .ok (.goto (-51), 3) := by decide +kernel
theorem dX11_isGrace_62 : decode cX11_isGrace 62 = .ok (.iload_n 3, 1) := by decide +kernel
theorem dX11_isGrace_63 : decode cX11_isGrace 63 = .ok (.ireturn, 1) := by decide +kernel
def F_X11_isGrace_8 (G : Nat → Nat) (h : xH) (a0 : Nat) (x1 : Int32) (x2 : Int32) : Nat → Int32 → Int32 → Option Int32
  | 0, _, _ => none
  | n + 1, x3, x4 =>
    (gR h (some a0) 11 20).bind fun w2 =>
    (ldI 2 G h w2 x1).bind fun v3 =>
    if ((10 * x1) + v3) ≤ x4 then
      xg (x3 = 0 ∨ x3 = 1) <|
      some x3
    else
    if x3 = 0 then
      (gR h (some a0) 11 21).bind fun w8 =>
      (ldI 2 G h w8 x4).bind fun v9 =>
      if x2 < v9 then
        xl (x4 + 1) fun v11 =>
        F_X11_isGrace_8 G h a0 x1 x2 n 0 v11
      else
      (gR h (some a0) 11 22).bind fun w12 =>
      (ldI 2 G h w12 x4).bind fun v13 =>
      if v13 < x2 then
        xl (x4 + 1) fun v15 =>
        F_X11_isGrace_8 G h a0 x1 x2 n 0 v15
      else
      xl (x4 + 1) fun v16 =>
      F_X11_isGrace_8 G h a0 x1 x2 n 1 v16
    else
    xl (x4 + 1) fun v7 =>
    F_X11_isGrace_8 G h a0 x1 x2 n 1 v7
set_option maxHeartbeats 4000000 in
set_option maxRecDepth 100000 in
theorem tl_X11_isGrace_8 {p : Program} {l : Launch} {e : Env} {s : State} {m : MethodId} {args : Array Value} {below : List Frame} {meth : Method} {c : Code} {D : va_G} {r : Int32} (hx : p.tables.exec = Jvm.exec) (hb : c.code = cX11_isGrace) (hr : meth.sig.returnType = (some .boolean)) (hlk : meth.locks = false) (hml : c.maxLocals = 5) (hown : s.vm.findClass RX11 = some m.cls) (hnm : meth.name = "isGrace") (hts : ∀ w ∈ xt, w.before args s = true) (G : Nat → Nat) (h : xH) (a0 : Nat) (x1 : Int32) (x2 : Int32) : ∀ (n : Nat) (x3 : Int32) (x4 : Int32) (H : Heap) (locs : List Loc) (ls : Array Slot), F_X11_isGrace_8 G h a0 x1 x2 n x3 x4 = some r → xR D G h s H → va_S (xA G) s.heap H locs → lv_has ls 5 [(0, va_rf (some a0)), (1, .int x1), (2, .int x2), (3, .int x3), (4, .int x4)] → W p l e rm_X11_isGrace s m args below meth c H locs 0 0 (MQ below (xQ D G (some (.int r)) h) args s rm_X11_isGrace.cells rm_X11_isGrace.slots (xA G)) (F0 m 8 ls []) := by
  intro n
  induction n with
  | zero =>
    intro x3 x4 H locs ls hF
    rw [F_X11_isGrace_8.eq_1] at hF
    cases hF
  | succ n ih =>
    intro x3 x4 H locs ls hF hR hS hl
    rw [F_X11_isGrace_8.eq_2] at hF
    refine lv_iload hx hb dX11_isGrace_8 (lv_at hl 4 rfl) ?_
    refine lv_bipush (v := 10) hx hb dX11_isGrace_10 (by decide) ?_
    refine lv_iload_n hx hb dX11_isGrace_12 rfl (lv_at hl 1 rfl) ?_
    refine lv_imul hx hb dX11_isGrace_13 ?_
    refine x_aload_n (o := (some a0)) hx hb dX11_isGrace_14 rfl (lv_at hl 0 rfl) ?_
    replace hF := xbind hF; obtain ⟨w2, ew2, hF⟩ := hF
    refine x_getR (o := (some a0)) (ci := 11) (C := RX11) (T := TX11) (N := 42) hx hb hts iw_X11 hown hR rfl 20 (by decide) mm_963 (Or.inl rfl) ew2 dX11_isGrace_15 ?_
    refine lv_iload_n hx hb dX11_isGrace_18 rfl (lv_at hl 1 rfl) ?_
    replace hF := xbind hF; obtain ⟨v3, ev3, hF⟩ := hF
    refine x_ild (o := w2) hx hb hR ev3 dX11_isGrace_19 ?_
    refine lv_iadd hx hb dX11_isGrace_20 ?_
    refine lv_icmp_ge (tgt := 62) hx hb dX11_isGrace_21 (by decide) (fun c4 => ?_) (fun c4 => ?_)
    · replace hF := xift c4 hF
      refine lv_iload_n hx hb dX11_isGrace_62 rfl (lv_at hl 3 rfl) ?_
      replace hF := xguard hF; obtain ⟨c5, hF⟩ := hF
      cases hF
      exact x_iret hx hb hr (xnarZ c5) hlk hR hS (by decide) (by decide) dX11_isGrace_63
    · replace hF := xiff c4 hF
      refine lv_iload_n hx hb dX11_isGrace_24 rfl (lv_at hl 3 rfl) ?_
      refine lv_if_ne (tgt := 50) hx hb dX11_isGrace_25 (by decide) (fun c6 => ?_) (fun c6 => ?_)
      · replace hF := xiff c6 hF
        refine lv_iconst (v := 1) hx hb dX11_isGrace_50 (by decide) ?_
        refine lv_goto (tgt := 55) hx hb dX11_isGrace_51 (by decide) ?_
        refine lv_istore_n (lv' := [(3, .int 1), (0, va_rf (some a0)), (1, .int x1), (2, .int x2), (4, .int x4)]) hx hb dX11_isGrace_55 rfl hl (by decide) (by first | rfl | (simp [xrf_cat, xcI, xcJ, xcA]; done) | (simp [xrf_cat, xcI, xcJ, xcA]; decide)) (fun ls hl => ?_)
        obtain ⟨v7, ev7⟩ : ∃ z : Int32, z = (x4 + 1) := ⟨_, rfl⟩
        replace hF := xlet ev7 hF
        refine lv_iinc (v := v7) (lv' := [(4, .int v7), (3, .int 1), (0, va_rf (some a0)), (1, .int x1), (2, .int x2)]) hx hb dX11_isGrace_56 hl (k := 4) rfl (by rw [ev7]; rfl) (by decide) (by first | rfl | (simp [xrf_cat, xcI, xcJ, xcA]; done) | (simp [xrf_cat, xcI, xcJ, xcA]; decide)) (fun ls hl => ?_)
        refine lv_goto (tgt := 8) hx hb dX11_isGrace_59 (by decide) ?_
        exact ih 1 v7 _ _ _ hF hR hS (lv_sub hl [2, 3, 4, 1, 0] rfl)
      · replace hF := xift c6 hF
        refine lv_iload_n hx hb dX11_isGrace_28 rfl (lv_at hl 2 rfl) ?_
        refine x_aload_n (o := (some a0)) hx hb dX11_isGrace_29 rfl (lv_at hl 0 rfl) ?_
        replace hF := xbind hF; obtain ⟨w8, ew8, hF⟩ := hF
        refine x_getR (o := (some a0)) (ci := 11) (C := RX11) (T := TX11) (N := 42) hx hb hts iw_X11 hown hR rfl 21 (by decide) mm_964 (Or.inl rfl) ew8 dX11_isGrace_30 ?_
        refine lv_iload hx hb dX11_isGrace_33 (lv_at hl 4 rfl) ?_
        replace hF := xbind hF; obtain ⟨v9, ev9, hF⟩ := hF
        refine x_ild (o := w8) hx hb hR ev9 dX11_isGrace_35 ?_
        refine lv_icmp_lt (tgt := 54) hx hb dX11_isGrace_36 (by decide) (fun c10 => ?_) (fun c10 => ?_)
        · replace hF := xift c10 hF
          refine lv_iconst (v := 0) hx hb dX11_isGrace_54 (by decide) ?_
          refine lv_istore_n (lv' := [(3, .int 0), (0, va_rf (some a0)), (1, .int x1), (2, .int x2), (4, .int x4)]) hx hb dX11_isGrace_55 rfl hl (by decide) (by first | rfl | (simp [xrf_cat, xcI, xcJ, xcA]; done) | (simp [xrf_cat, xcI, xcJ, xcA]; decide)) (fun ls hl => ?_)
          obtain ⟨v11, ev11⟩ : ∃ z : Int32, z = (x4 + 1) := ⟨_, rfl⟩
          replace hF := xlet ev11 hF
          refine lv_iinc (v := v11) (lv' := [(4, .int v11), (3, .int 0), (0, va_rf (some a0)), (1, .int x1), (2, .int x2)]) hx hb dX11_isGrace_56 hl (k := 4) rfl (by rw [ev11]; rfl) (by decide) (by first | rfl | (simp [xrf_cat, xcI, xcJ, xcA]; done) | (simp [xrf_cat, xcI, xcJ, xcA]; decide)) (fun ls hl => ?_)
          refine lv_goto (tgt := 8) hx hb dX11_isGrace_59 (by decide) ?_
          exact ih 0 v11 _ _ _ hF hR hS (lv_sub hl [2, 3, 4, 1, 0] rfl)
        · replace hF := xiff c10 hF
          refine lv_iload_n hx hb dX11_isGrace_39 rfl (lv_at hl 2 rfl) ?_
          refine x_aload_n (o := (some a0)) hx hb dX11_isGrace_40 rfl (lv_at hl 0 rfl) ?_
          replace hF := xbind hF; obtain ⟨w12, ew12, hF⟩ := hF
          refine x_getR (o := (some a0)) (ci := 11) (C := RX11) (T := TX11) (N := 42) hx hb hts iw_X11 hown hR rfl 22 (by decide) mm_965 (Or.inl rfl) ew12 dX11_isGrace_41 ?_
          refine lv_iload hx hb dX11_isGrace_44 (lv_at hl 4 rfl) ?_
          replace hF := xbind hF; obtain ⟨v13, ev13, hF⟩ := hF
          refine x_ild (o := w12) hx hb hR ev13 dX11_isGrace_46 ?_
          refine lv_icmp_gt (tgt := 54) hx hb dX11_isGrace_47 (by decide) (fun c14 => ?_) (fun c14 => ?_)
          · replace hF := xift c14 hF
            refine lv_iconst (v := 0) hx hb dX11_isGrace_54 (by decide) ?_
            refine lv_istore_n (lv' := [(3, .int 0), (0, va_rf (some a0)), (1, .int x1), (2, .int x2), (4, .int x4)]) hx hb dX11_isGrace_55 rfl hl (by decide) (by first | rfl | (simp [xrf_cat, xcI, xcJ, xcA]; done) | (simp [xrf_cat, xcI, xcJ, xcA]; decide)) (fun ls hl => ?_)
            obtain ⟨v15, ev15⟩ : ∃ z : Int32, z = (x4 + 1) := ⟨_, rfl⟩
            replace hF := xlet ev15 hF
            refine lv_iinc (v := v15) (lv' := [(4, .int v15), (3, .int 0), (0, va_rf (some a0)), (1, .int x1), (2, .int x2)]) hx hb dX11_isGrace_56 hl (k := 4) rfl (by rw [ev15]; rfl) (by decide) (by first | rfl | (simp [xrf_cat, xcI, xcJ, xcA]; done) | (simp [xrf_cat, xcI, xcJ, xcA]; decide)) (fun ls hl => ?_)
            refine lv_goto (tgt := 8) hx hb dX11_isGrace_59 (by decide) ?_
            exact ih 0 v15 _ _ _ hF hR hS (lv_sub hl [2, 3, 4, 1, 0] rfl)
          · replace hF := xiff c14 hF
            refine lv_iconst (v := 1) hx hb dX11_isGrace_50 (by decide) ?_
            refine lv_goto (tgt := 55) hx hb dX11_isGrace_51 (by decide) ?_
            refine lv_istore_n (lv' := [(3, .int 1), (0, va_rf (some a0)), (1, .int x1), (2, .int x2), (4, .int x4)]) hx hb dX11_isGrace_55 rfl hl (by decide) (by first | rfl | (simp [xrf_cat, xcI, xcJ, xcA]; done) | (simp [xrf_cat, xcI, xcJ, xcA]; decide)) (fun ls hl => ?_)
            obtain ⟨v16, ev16⟩ : ∃ z : Int32, z = (x4 + 1) := ⟨_, rfl⟩
            replace hF := xlet ev16 hF
            refine lv_iinc (v := v16) (lv' := [(4, .int v16), (3, .int 1), (0, va_rf (some a0)), (1, .int x1), (2, .int x2)]) hx hb dX11_isGrace_56 hl (k := 4) rfl (by rw [ev16]; rfl) (by decide) (by first | rfl | (simp [xrf_cat, xcI, xcJ, xcA]; done) | (simp [xrf_cat, xcI, xcJ, xcA]; decide)) (fun ls hl => ?_)
            refine lv_goto (tgt := 8) hx hb dX11_isGrace_59 (by decide) ?_
            exact ih 1 v16 _ _ _ hF hR hS (lv_sub hl [2, 3, 4, 1, 0] rfl)
def F_X11_isGrace (G : Nat → Nat) (h : xH) (a0 : Nat) (x1 : Int32) (x2 : Int32) : Option Int32 :=
  xl (10 * x1) fun v1 =>
  F_X11_isGrace_8 G h a0 x1 x2 xN 0 v1
set_option maxHeartbeats 4000000 in
set_option maxRecDepth 100000 in
theorem t_X11_isGrace (l : Launch) (D : va_G) (G : Nat → Nat) (h : xH) (a0 : Nat) (x1 : Int32) (x2 : Int32) (r : Int32) (hF : F_X11_isGrace G h a0 x1 x2 = some r) : xC l yX11_isGrace cX11_isGrace 5 (some .boolean) (rm_X11_isGrace) D G h [.ref a0, .int x1, .int x2] (some (.int r)) h := by
  refine xC_of (by decide) (by first | decide | exact Nat.le_of_ble_eq_true rfl) ?_
  intro p e s m args below meth c ls hx hb hr hlk hml hown hnm hts hR hS hl
  have hl : lv_has ls 5 [(0, va_rf (some a0)), (1, .int x1), (2, .int x2)] := hl
  unfold F_X11_isGrace at hF
  refine lv_iconst (v := 0) hx hb dX11_isGrace_0 (by decide) ?_
  refine lv_istore_n (lv' := [(3, .int 0), (0, va_rf (some a0)), (1, .int x1), (2, .int x2)]) hx hb dX11_isGrace_1 rfl hl (by decide) (by first | rfl | (simp [xrf_cat, xcI, xcJ, xcA]; done) | (simp [xrf_cat, xcI, xcJ, xcA]; decide)) (fun ls hl => ?_)
  refine lv_bipush (v := 10) hx hb dX11_isGrace_2 (by decide) ?_
  refine lv_iload_n hx hb dX11_isGrace_4 rfl (lv_at hl 2 rfl) ?_
  refine lv_imul hx hb dX11_isGrace_5 ?_
  refine lv_topi (fun v1 ev1 => ?_)
  replace hF := xlet ev1 hF
  refine lv_istore (lv' := [(4, .int v1), (3, .int 0), (0, va_rf (some a0)), (1, .int x1), (2, .int x2)]) hx hb dX11_isGrace_6 hl (by decide) (by first | rfl | (simp [xrf_cat, xcI, xcJ, xcA]; done) | (simp [xrf_cat, xcI, xcJ, xcA]; decide)) (fun ls hl => ?_)
  refine W.widen (k := 0) (n := 0) (by decide) (by decide) ?_
  exact tl_X11_isGrace_8 hx hb hr hlk hml hown hnm hts G h a0 x1 x2 _ 0 v1 _ _ _ hF hR hS (lv_sub hl [2, 3, 4, 1, 0] rfl)
def rm_X11_spans : Room := { frames := 1, cells := 0, slots := 0, locals := 24 }
theorem f_X11_spans : xM yX11_spans cX11_spans 6 none 2 := ⟨mm_1126, mm_62, by decide +kernel, by decide +kernel⟩
theorem dX11_spans_0 : decode cX11_spans 0 = .ok (.aload_n 0, 1) := by decide +kernel
theorem dX11_spans_1 : decode cX11_spans 1 = .ok (.getfield 38, 3) := by decide +kernel
theorem dX11_spans_4 : decode cX11_spans 4 = .ok (.iload_n 1, 1) := by decide +kernel
theorem dX11_spans_5 : decode cX11_spans 5 = .ok (.baload, 1) := by decide +kernel
theorem dX11_spans_6 : decode cX11_spans 6 = .ok (.ifCond .eq 21, 3) := by decide +kernel
theorem dX11_spans_9 : decode cX11_spans 9 = .ok (.iload_n 2, 1) := by decide +kernel
theorem dX11_spans_10 : decode cX11_spans 10 = .ok (.aload_n 0, 1) := by decide +kernel
theorem dX11_spans_11 : decode cX11_spans 11 = .ok (.getfield 32, 3) := by decide +kernel
theorem dX11_spans_14 : decode cX11_spans 14 = .ok (.iload_n 1, 1) := by decide +kernel
theorem dX11_spans_15 : decode cX11_spans 15 = .ok (.iaload, 1) := by decide +kernel
theorem dX11_spans_16 : decode cX11_spans 16 = .ok (.idiv, 1) := by decide +kernel
theorem dX11_spans_17 : decode cX11_spans 17 = .ok (.aload_n 0, 1) := by decide +kernel
theorem dX11_spans_18 : decode cX11_spans 18 = .ok (.getfield 32, 3) := by decide +kernel
theorem dX11_spans_21 : decode cX11_spans 21 = .ok (.iload_n 1, 1) := by decide +kernel
theorem dX11_spans_22 : decode cX11_spans 22 = .ok (.iaload, 1) := by decide +kernel
theorem dX11_spans_23 : decode cX11_spans 23 = .ok (.imul, 1) := by decide +kernel
theorem dX11_spans_24 : decode cX11_spans 24 = .ok (.goto 13, 3) := by decide +kernel
theorem dX11_spans_27 : decode cX11_spans 27 = .ok (.iload_n 2, 1) := by decide +kernel
theorem dX11_spans_28 : decode cX11_spans 28 = .ok (.aload_n 0, 1) := by decide +kernel
theorem dX11_spans_29 : decode cX11_spans 29 = .ok (.getfield 32, 3) := by decide +kernel
theorem dX11_spans_32 : decode cX11_spans 32 = .ok (.iload_n 1, 1) := by decide +kernel
theorem dX11_spans_33 : decode cX11_spans 33 = .ok (.iaload, 1) := by decide +kernel
theorem dX11_spans_34 : decode cX11_spans 34 = .ok (.isub, 1) := by decide +kernel
theorem dX11_spans_35 : decode cX11_spans 35 = .ok (.iconst 1, 1) := by decide +kernel
theorem dX11_spans_36 : decode cX11_spans 36 = .ok (.iadd, 1) := by decide +kernel
theorem dX11_spans_37 : decode cX11_spans 37 = .ok (.istore_n 3, 1) := by decide +kernel
theorem dX11_spans_38 : decode cX11_spans 38 = .ok (.aload_n 0, 1) := by decide +kernel
theorem dX11_spans_39 : decode cX11_spans 39 = .ok (.getfield 38, 3) := by decide +kernel
theorem dX11_spans_42 : decode cX11_spans 42 = .ok (.iload_n 1, 1) := by decide +kernel
theorem dX11_spans_43 : decode cX11_spans 43 = .ok (.baload, 1) := by decide +kernel
theorem dX11_spans_44 : decode cX11_spans 44 = .ok (.ifCond .eq 16, 3) := by decide +kernel
theorem dX11_spans_47 : decode cX11_spans 47 = .ok (.iload_n 3, 1) := by decide +kernel
theorem dX11_spans_48 : decode cX11_spans 48 = .ok (.aload_n 0, 1) := by decide +kernel
theorem dX11_spans_49 : decode cX11_spans 49 = .ok (.getfield 32, 3) := by decide +kernel
theorem dX11_spans_52 : decode cX11_spans 52 = .ok (.iload_n 1, 1) := by decide +kernel
theorem dX11_spans_53 : decode cX11_spans 53 = .ok (.iaload, 1) := by decide +kernel
theorem dX11_spans_54 : decode cX11_spans 54 = .ok (.iadd, 1) := by decide +kernel
theorem dX11_spans_55 : decode cX11_spans 55 = .ok (.iconst 1, 1) := by decide +kernel
theorem dX11_spans_56 : decode cX11_spans 56 = .ok (.isub, 1) := by decide +kernel
theorem dX11_spans_57 : decode cX11_spans 57 = .ok (.goto 4, 3) := by decide +kernel
theorem dX11_spans_60 : decode cX11_spans 60 = .ok (.iload_n 2, 1) := by decide +kernel
theorem dX11_spans_61 : decode cX11_spans 61 = .ok (.istore 4, 2) := by decide +kernel
theorem dX11_spans_63 : decode cX11_spans 63 = .ok (.aload_n 0, 1) := by decide +kernel
theorem dX11_spans_64 : decode cX11_spans 64 = .ok (.lconst 0, 1) := by decide +kernel
theorem dX11_spans_65 : decode cX11_spans 65 = .ok (.putfield 116, 3) := by decide +kernel
theorem dX11_spans_68 : decode cX11_spans 68 = .ok (.aload_n 0, 1) := by decide +kernel
theorem dX11_spans_69 : decode cX11_spans 69 = .ok (.lconst 0, 1) := by decide +kernel
theorem dX11_spans_70 : decode cX11_spans 70 = .ok (.putfield 120, 3) := by decide +kernel
theorem dX11_spans_73 : decode cX11_spans 73 = .ok (.aload_n 0, 1) := by decide +kernel
theorem dX11_spans_74 : decode cX11_spans 74 = .ok (.lconst 0, 1) := by decide +kernel
theorem dX11_spans_75 : decode cX11_spans 75 = .ok (.putfield 123, 3) := by decide +kernel
theorem dX11_spans_78 : decode cX11_spans 78 = .ok (.aload_n 0, 1) := by decide +kernel
theorem dX11_spans_79 : decode cX11_spans 79 = .ok (.iconst (-1), 1) := by decide +kernel
theorem dX11_spans_80 : decode cX11_spans 80 = .ok (.putfield 140, 3) := by decide +kernel
theorem dX11_spans_83 : decode cX11_spans 83 = .ok (.iload_n 3, 1) := by decide +kernel
theorem dX11_spans_84 : decode cX11_spans 84 = .ok (.ifCond .ge 7, 3) := by decide +kernel
theorem dX11_spans_87 : decode cX11_spans 87 = .ok (.iconst 0, 1) := by decide +kernel
theorem dX11_spans_88 : decode cX11_spans 88 = .ok (.goto 4, 3) := by decide +kernel
theorem dX11_spans_91 : decode cX11_spans 91 = .ok (.iload_n 3, 1) := by decide +kernel
theorem dX11_spans_92 : decode cX11_spans 92 = .ok (.istore 5, 2) := by decide +kernel
theorem dX11_spans_94 : decode cX11_spans 94 = .ok (.iload 5, 2) := by decide +kernel
theorem dX11_spans_96 : decode cX11_spans 96 = .ok (.iload 4, 2) := by decide +kernel
theorem dX11_spans_98 : decode cX11_spans 98 = .ok (.if_icmp .gt 45, 3) := by decide +kernel
theorem dX11_spans_101 : decode cX11_spans 101 = .ok (.iload 5, 2) := by decide +kernel
theorem dX11_spans_103 : decode cX11_spans 103 = .ok (.sipush 601, 3) := by decide +kernel
theorem dX11_spans_106 : decode cX11_spans 106 = .ok (.if_icmp .ge 37, 3) := by decide +kernel
theorem dX11_spans_109 : decode cX11_spans 109 = .ok (.aload_n 0, 1) := by decide +kernel
theorem dX11_spans_110 : decode cX11_spans 110 = .ok (.iload_n 1, 1) := by decide +kernel
theorem dX11_spans_111 : decode cX11_spans 111 = .ok (.iload 5, 2) := by decide +kernel
theorem dX11_spans_113 : decode cX11_spans 113 = .ok (.invokevirtual 143, 3) := by decide +kernel
theorem dX11_spans_116 : decode cX11_spans 116 = .ok (.ifCond .ne 21, 3) := by decide +kernel
theorem dX11_spans_119 : decode cX11_spans 119 = .ok (.aload_n 0, 1) := by decide +kernel
theorem dX11_spans_120 : decode cX11_spans 120 = .ok (.aload_n 0, 1) := by decide +kernel
theorem dX11_spans_121 : decode cX11_spans 121 = .ok (.getfield 29, 3) := by decide +kernel
theorem dX11_spans_124 : decode cX11_spans 124 = .ok (.iload_n 1, 1) := by decide +kernel
theorem dX11_spans_125 : decode cX11_spans 125 = .ok (.iaload, 1) := by decide +kernel
theorem dX11_spans_126 : decode cX11_spans 126 = .ok (.iload 5, 2) := by decide +kernel
theorem dX11_spans_128 : decode cX11_spans 128 = .ok (.invokevirtual 126, 3) := by decide +kernel
theorem dX11_spans_131 : decode cX11_spans 131 = .ok (.aload_n 0, 1) := by decide +kernel
theorem dX11_spans_132 : decode cX11_spans 132 = .ok (.iload 5, 2) := by decide +kernel
theorem dX11_spans_134 : decode cX11_spans 134 = .ok (.putfield 140, 3) := by decide +kernel
theorem dX11_spans_137 : decode cX11_spans 137 = .ok (.iinc 5 1, 3) := by decide +kernel
theorem dX11_spans_140 : decode cX11_spans 140 = .ok (.goto (-46), 3) := by decide +kernel
theorem dX11_spans_143 : decode cX11_spans 143 = .ok (.return_, 1) := by decide +kernel
def F_X11_spans_94 (G : Nat → Nat) (a0 : Nat) (x1 : Int32) (x4 : Int32) : Nat → xH → Int32 → Option xH
  | 0, _, _ => none
  | n + 1, h, x5 =>
    if x4 < x5 then
      some h
    else
    if 601 ≤ x5 then
      some h
    else
    (xc h (some a0) 11).bind fun b18 =>
    (F_X11_isGrace G h b18 x1 x5).bind fun v17 =>
    if v17 = 0 then
      (gR h (some a0) 11 16).bind fun w21 =>
      (ldI 2 G h w21 x1).bind fun v22 =>
      (xc h (some a0) 11).bind fun b24 =>
      (F_X11_addTick G h b24 v22 x5).bind fun h23 =>
      (xp G h23 (some a0) 11 23 (.int x5)).bind fun h25 =>
      xl (x5 + 1) fun v26 =>
      F_X11_spans_94 G a0 x1 x4 n h25 v26
    else
    xl (x5 + 1) fun v20 =>
    F_X11_spans_94 G a0 x1 x4 n h v20
set_option maxHeartbeats 4000000 in
set_option maxRecDepth 100000 in
theorem tl_X11_spans_94 {p : Program} {l : Launch} {e : Env} {s : State} {m : MethodId} {args : Array Value} {below : List Frame} {meth : Method} {c : Code} {D : va_G} {h' : xH} (hx : p.tables.exec = Jvm.exec) (hb : c.code = cX11_spans) (hr : meth.sig.returnType = none) (hlk : meth.locks = false) (hml : c.maxLocals = 6) (hown : s.vm.findClass RX11 = some m.cls) (hnm : meth.name = "spans") (hts : ∀ w ∈ xt, w.before args s = true) (G : Nat → Nat) (a0 : Nat) (x1 : Int32) (x4 : Int32) : ∀ (n : Nat) (h : xH) (x5 : Int32) (H : Heap) (locs : List Loc) (ls : Array Slot), F_X11_spans_94 G a0 x1 x4 n h x5 = some h' → xR D G h s H → va_S (xA G) s.heap H locs → lv_has ls 6 [(0, va_rf (some a0)), (1, .int x1), (4, .int x4), (5, .int x5)] → W p l e rm_X11_spans s m args below meth c H locs 0 0 (MQ below (xQ D G none h') args s rm_X11_spans.cells rm_X11_spans.slots (xA G)) (F0 m 94 ls []) := by
  intro n
  induction n with
  | zero =>
    intro h x5 H locs ls hF
    rw [F_X11_spans_94.eq_1] at hF
    cases hF
  | succ n ih =>
    intro h x5 H locs ls hF hR hS hl
    rw [F_X11_spans_94.eq_2] at hF
    refine lv_iload hx hb dX11_spans_94 (lv_at hl 3 rfl) ?_
    refine lv_iload hx hb dX11_spans_96 (lv_at hl 2 rfl) ?_
    refine lv_icmp_gt (tgt := 143) hx hb dX11_spans_98 (by decide) (fun c15 => ?_) (fun c15 => ?_)
    · replace hF := xift c15 hF
      cases hF
      exact x_vret hx hb hr hlk hR hS (by decide) (by decide) dX11_spans_143
    · replace hF := xiff c15 hF
      refine lv_iload hx hb dX11_spans_101 (lv_at hl 3 rfl) ?_
      refine lv_sipush (v := 601) hx hb dX11_spans_103 (by decide) ?_
      refine lv_icmp_ge (tgt := 143) hx hb dX11_spans_106 (by decide) (fun c16 => ?_) (fun c16 => ?_)
      · replace hF := xift c16 hF
        cases hF
        exact x_vret hx hb hr hlk hR hS (by decide) (by decide) dX11_spans_143
      · replace hF := xiff c16 hF
        refine x_aload_n (o := (some a0)) hx hb dX11_spans_109 rfl (lv_at hl 0 rfl) ?_
        refine lv_iload_n hx hb dX11_spans_110 rfl (lv_at hl 1 rfl) ?_
        refine lv_iload hx hb dX11_spans_111 (lv_at hl 3 rfl) ?_
        replace hF := xbind hF; obtain ⟨b18, eb18, hF⟩ := hF
        replace hF := xbind hF; obtain ⟨v17, ev17, hF⟩ := hF
        refine x_callV (o := (some a0)) (ci := 11) (As := [.int x1, .int x5]) (rest := []) (v := (some (.int v17))) (k := 2) hx hb hml hown hts hR hS eb18 rfl rfl (t_X11_isGrace l D G h b18 x1 x5 v17 ev17) f_X11_isGrace mm_1127 mm_1129 mm_37 rfl hl.1 rfl (by first | exact Nat.le_of_ble_eq_true rfl | simp [xrf_cat, xcI, xcJ, xcA]) dX11_spans_113 (by decide) (by decide) rfl (fun H locs hR hS => ?_)
        refine lv_if_ne (tgt := 137) hx hb dX11_spans_116 (by decide) (fun c19 => ?_) (fun c19 => ?_)
        · replace hF := xiff c19 hF
          obtain ⟨v20, ev20⟩ : ∃ z : Int32, z = (x5 + 1) := ⟨_, rfl⟩
          replace hF := xlet ev20 hF
          refine lv_iinc (v := v20) (lv' := [(5, .int v20), (0, va_rf (some a0)), (1, .int x1), (4, .int x4)]) hx hb dX11_spans_137 hl (k := 3) rfl (by rw [ev20]; rfl) (by decide) (by first | rfl | (simp [xrf_cat, xcI, xcJ, xcA]; done) | (simp [xrf_cat, xcI, xcJ, xcA]; decide)) (fun ls hl => ?_)
          refine lv_goto (tgt := 94) hx hb dX11_spans_140 (by decide) ?_
          exact ih h v20 _ _ _ hF hR hS (lv_sub hl [1, 2, 3, 0] rfl)
        · replace hF := xift c19 hF
          refine x_aload_n (o := (some a0)) hx hb dX11_spans_119 rfl (lv_at hl 0 rfl) ?_
          refine x_aload_n (o := (some a0)) hx hb dX11_spans_120 rfl (lv_at hl 0 rfl) ?_
          replace hF := xbind hF; obtain ⟨w21, ew21, hF⟩ := hF
          refine x_getR (o := (some a0)) (ci := 11) (C := RX11) (T := TX11) (N := 42) hx hb hts iw_X11 hown hR rfl 16 (by decide) mm_959 (Or.inl rfl) ew21 dX11_spans_121 ?_
          refine lv_iload_n hx hb dX11_spans_124 rfl (lv_at hl 1 rfl) ?_
          replace hF := xbind hF; obtain ⟨v22, ev22, hF⟩ := hF
          refine x_ild (o := w21) hx hb hR ev22 dX11_spans_125 ?_
          refine lv_iload hx hb dX11_spans_126 (lv_at hl 3 rfl) ?_
          replace hF := xbind hF; obtain ⟨b24, eb24, hF⟩ := hF
          replace hF := xbind hF; obtain ⟨h23, eh23, hF⟩ := hF
          refine x_callV (o := (some a0)) (ci := 11) (As := [.int v22, .int x5]) (rest := []) (v := none) (k := 2) hx hb hml hown hts hR hS eb24 rfl rfl (t_X11_addTick l D G h b24 v22 x5 h23 eh23) f_X11_addTick mm_1103 mm_1105 mm_34 rfl hl.1 rfl (by first | exact Nat.le_of_ble_eq_true rfl | simp [xrf_cat, xcI, xcJ, xcA]) dX11_spans_128 (by decide) (by decide) rfl (fun H locs hR hS => ?_)
          refine x_aload_n (o := (some a0)) hx hb dX11_spans_131 rfl (lv_at hl 0 rfl) ?_
          refine lv_iload hx hb dX11_spans_132 (lv_at hl 3 rfl) ?_
          replace hF := xbind hF; obtain ⟨h25, eh25, hF⟩ := hF
          refine x_put (o := (some a0)) (ci := 11) (C := RX11) (T := TX11) (N := 42) hx hb hts iw_X11 tyX11_ok nmX11 hown hR hS rfl 23 (by decide) mm_966 (Or.inl rfl) rfl rfl rfl eh25 dX11_spans_134 (fun H locs hR hS => ?_)
          obtain ⟨v26, ev26⟩ : ∃ z : Int32, z = (x5 + 1) := ⟨_, rfl⟩
          replace hF := xlet ev26 hF
          refine lv_iinc (v := v26) (lv' := [(5, .int v26), (0, va_rf (some a0)), (1, .int x1), (4, .int x4)]) hx hb dX11_spans_137 hl (k := 3) rfl (by rw [ev26]; rfl) (by decide) (by first | rfl | (simp [xrf_cat, xcI, xcJ, xcA]; done) | (simp [xrf_cat, xcI, xcJ, xcA]; decide)) (fun ls hl => ?_)
          refine lv_goto (tgt := 94) hx hb dX11_spans_140 (by decide) ?_
          exact ih h25 v26 _ _ _ hF hR hS (lv_sub hl [1, 2, 3, 0] rfl)
def F_X11_spans (G : Nat → Nat) (h : xH) (a0 : Nat) (x1 : Int32) (x2 : Int32) : Option xH :=
  (gR h (some a0) 11 19).bind fun w1 =>
  (ldI 3 G h w1 x1).bind fun v2 =>
  if v2 = 0 then
    (gR h (some a0) 11 17).bind fun w4 =>
    (ldI 2 G h w4 x1).bind fun v5 =>
    xl ((x2 - v5) + 1) fun v6 =>
    (gR h (some a0) 11 19).bind fun w7 =>
    (ldI 3 G h w7 x1).bind fun v8 =>
    if v8 = 0 then
      (xp G h (some a0) 11 12 (.long 0)).bind fun h10 =>
      (xp G h10 (some a0) 11 13 (.long 0)).bind fun h11 =>
      (xp G h11 (some a0) 11 14 (.long 0)).bind fun h12 =>
      (xp G h12 (some a0) 11 23 (.int (-1))).bind fun h13 =>
      if 0 ≤ v6 then
        F_X11_spans_94 G a0 x1 x2 xN h13 v6
      else
      F_X11_spans_94 G a0 x1 x2 xN h13 0
    else
    (gR h (some a0) 11 17).bind fun w27 =>
    (ldI 2 G h w27 x1).bind fun v28 =>
    xl ((v6 + v28) - 1) fun v29 =>
    (xp G h (some a0) 11 12 (.long 0)).bind fun h30 =>
    (xp G h30 (some a0) 11 13 (.long 0)).bind fun h31 =>
    (xp G h31 (some a0) 11 14 (.long 0)).bind fun h32 =>
    (xp G h32 (some a0) 11 23 (.int (-1))).bind fun h33 =>
    if 0 ≤ v6 then
      F_X11_spans_94 G a0 x1 v29 xN h33 v6
    else
    F_X11_spans_94 G a0 x1 v29 xN h33 0
  else
  (gR h (some a0) 11 17).bind fun w35 =>
  (ldI 2 G h w35 x1).bind fun v36 =>
  xg (¬ v36 = 0) <|
  (gR h (some a0) 11 17).bind fun w38 =>
  (ldI 2 G h w38 x1).bind fun v39 =>
  xl ((x2 / v36) * v39) fun v40 =>
  (gR h (some a0) 11 19).bind fun w41 =>
  (ldI 3 G h w41 x1).bind fun v42 =>
  if v42 = 0 then
    (xp G h (some a0) 11 12 (.long 0)).bind fun h44 =>
    (xp G h44 (some a0) 11 13 (.long 0)).bind fun h45 =>
    (xp G h45 (some a0) 11 14 (.long 0)).bind fun h46 =>
    (xp G h46 (some a0) 11 23 (.int (-1))).bind fun h47 =>
    if 0 ≤ v40 then
      F_X11_spans_94 G a0 x1 x2 xN h47 v40
    else
    F_X11_spans_94 G a0 x1 x2 xN h47 0
  else
  (gR h (some a0) 11 17).bind fun w49 =>
  (ldI 2 G h w49 x1).bind fun v50 =>
  xl ((v40 + v50) - 1) fun v51 =>
  (xp G h (some a0) 11 12 (.long 0)).bind fun h52 =>
  (xp G h52 (some a0) 11 13 (.long 0)).bind fun h53 =>
  (xp G h53 (some a0) 11 14 (.long 0)).bind fun h54 =>
  (xp G h54 (some a0) 11 23 (.int (-1))).bind fun h55 =>
  if 0 ≤ v40 then
    F_X11_spans_94 G a0 x1 v51 xN h55 v40
  else
  F_X11_spans_94 G a0 x1 v51 xN h55 0
set_option maxHeartbeats 4000000 in
set_option maxRecDepth 100000 in
theorem t_X11_spans (l : Launch) (D : va_G) (G : Nat → Nat) (h : xH) (a0 : Nat) (x1 : Int32) (x2 : Int32) (h' : xH) (hF : F_X11_spans G h a0 x1 x2 = some h') : xC l yX11_spans cX11_spans 6 none (rm_X11_spans) D G h [.ref a0, .int x1, .int x2] none h' := by
  refine xC_of (by decide) (by first | decide | exact Nat.le_of_ble_eq_true rfl) ?_
  intro p e s m args below meth c ls hx hb hr hlk hml hown hnm hts hR hS hl
  have hl : lv_has ls 6 [(0, va_rf (some a0)), (1, .int x1), (2, .int x2)] := hl
  unfold F_X11_spans at hF
  refine x_aload_n (o := (some a0)) hx hb dX11_spans_0 rfl (lv_at hl 0 rfl) ?_
  replace hF := xbind hF; obtain ⟨w1, ew1, hF⟩ := hF
  refine x_getR (o := (some a0)) (ci := 11) (C := RX11) (T := TX11) (N := 42) hx hb hts iw_X11 hown hR rfl 19 (by decide) mm_962 (Or.inl rfl) ew1 dX11_spans_1 ?_
  refine lv_iload_n hx hb dX11_spans_4 rfl (lv_at hl 1 rfl) ?_
  replace hF := xbind hF; obtain ⟨v2, ev2, hF⟩ := hF
  refine x_zld (o := w1) hx hb hR ev2 dX11_spans_5 ?_
  refine lv_if_eq (tgt := 27) hx hb dX11_spans_6 (by decide) (fun c3 => ?_) (fun c3 => ?_)
  · replace hF := xift c3 hF
    refine lv_iload_n hx hb dX11_spans_27 rfl (lv_at hl 2 rfl) ?_
    refine x_aload_n (o := (some a0)) hx hb dX11_spans_28 rfl (lv_at hl 0 rfl) ?_
    replace hF := xbind hF; obtain ⟨w4, ew4, hF⟩ := hF
    refine x_getR (o := (some a0)) (ci := 11) (C := RX11) (T := TX11) (N := 42) hx hb hts iw_X11 hown hR rfl 17 (by decide) mm_960 (Or.inl rfl) ew4 dX11_spans_29 ?_
    refine lv_iload_n hx hb dX11_spans_32 rfl (lv_at hl 1 rfl) ?_
    replace hF := xbind hF; obtain ⟨v5, ev5, hF⟩ := hF
    refine x_ild (o := w4) hx hb hR ev5 dX11_spans_33 ?_
    refine lv_isub hx hb dX11_spans_34 ?_
    refine lv_iconst (v := 1) hx hb dX11_spans_35 (by decide) ?_
    refine lv_iadd hx hb dX11_spans_36 ?_
    refine lv_topi (fun v6 ev6 => ?_)
    replace hF := xlet ev6 hF
    refine lv_istore_n (lv' := [(3, .int v6), (0, va_rf (some a0)), (1, .int x1), (2, .int x2)]) hx hb dX11_spans_37 rfl hl (by decide) (by first | rfl | (simp [xrf_cat, xcI, xcJ, xcA]; done) | (simp [xrf_cat, xcI, xcJ, xcA]; decide)) (fun ls hl => ?_)
    refine x_aload_n (o := (some a0)) hx hb dX11_spans_38 rfl (lv_at hl 1 rfl) ?_
    replace hF := xbind hF; obtain ⟨w7, ew7, hF⟩ := hF
    refine x_getR (o := (some a0)) (ci := 11) (C := RX11) (T := TX11) (N := 42) hx hb hts iw_X11 hown hR rfl 19 (by decide) mm_962 (Or.inl rfl) ew7 dX11_spans_39 ?_
    refine lv_iload_n hx hb dX11_spans_42 rfl (lv_at hl 2 rfl) ?_
    replace hF := xbind hF; obtain ⟨v8, ev8, hF⟩ := hF
    refine x_zld (o := w7) hx hb hR ev8 dX11_spans_43 ?_
    refine lv_if_eq (tgt := 60) hx hb dX11_spans_44 (by decide) (fun c9 => ?_) (fun c9 => ?_)
    · replace hF := xift c9 hF
      refine lv_iload_n hx hb dX11_spans_60 rfl (lv_at hl 3 rfl) ?_
      refine lv_istore (lv' := [(4, .int x2), (3, .int v6), (0, va_rf (some a0)), (1, .int x1), (2, .int x2)]) hx hb dX11_spans_61 hl (by decide) (by first | rfl | (simp [xrf_cat, xcI, xcJ, xcA]; done) | (simp [xrf_cat, xcI, xcJ, xcA]; decide)) (fun ls hl => ?_)
      refine x_aload_n (o := (some a0)) hx hb dX11_spans_63 rfl (lv_at hl 2 rfl) ?_
      refine lv_lconst (v := 0) hx hb dX11_spans_64 (by decide) ?_
      replace hF := xbind hF; obtain ⟨h10, eh10, hF⟩ := hF
      refine x_put (o := (some a0)) (ci := 11) (C := RX11) (T := TX11) (N := 42) hx hb hts iw_X11 tyX11_ok nmX11 hown hR hS rfl 12 (by decide) mm_955 (Or.inl rfl) rfl rfl rfl eh10 dX11_spans_65 (fun H locs hR hS => ?_)
      refine x_aload_n (o := (some a0)) hx hb dX11_spans_68 rfl (lv_at hl 2 rfl) ?_
      refine lv_lconst (v := 0) hx hb dX11_spans_69 (by decide) ?_
      replace hF := xbind hF; obtain ⟨h11, eh11, hF⟩ := hF
      refine x_put (o := (some a0)) (ci := 11) (C := RX11) (T := TX11) (N := 42) hx hb hts iw_X11 tyX11_ok nmX11 hown hR hS rfl 13 (by decide) mm_956 (Or.inl rfl) rfl rfl rfl eh11 dX11_spans_70 (fun H locs hR hS => ?_)
      refine x_aload_n (o := (some a0)) hx hb dX11_spans_73 rfl (lv_at hl 2 rfl) ?_
      refine lv_lconst (v := 0) hx hb dX11_spans_74 (by decide) ?_
      replace hF := xbind hF; obtain ⟨h12, eh12, hF⟩ := hF
      refine x_put (o := (some a0)) (ci := 11) (C := RX11) (T := TX11) (N := 42) hx hb hts iw_X11 tyX11_ok nmX11 hown hR hS rfl 14 (by decide) mm_957 (Or.inl rfl) rfl rfl rfl eh12 dX11_spans_75 (fun H locs hR hS => ?_)
      refine x_aload_n (o := (some a0)) hx hb dX11_spans_78 rfl (lv_at hl 2 rfl) ?_
      refine lv_iconst (v := (-1)) hx hb dX11_spans_79 (by decide) ?_
      replace hF := xbind hF; obtain ⟨h13, eh13, hF⟩ := hF
      refine x_put (o := (some a0)) (ci := 11) (C := RX11) (T := TX11) (N := 42) hx hb hts iw_X11 tyX11_ok nmX11 hown hR hS rfl 23 (by decide) mm_966 (Or.inl rfl) rfl rfl rfl eh13 dX11_spans_80 (fun H locs hR hS => ?_)
      refine lv_iload_n hx hb dX11_spans_83 rfl (lv_at hl 1 rfl) ?_
      refine lv_if_ge (tgt := 91) hx hb dX11_spans_84 (by decide) (fun c14 => ?_) (fun c14 => ?_)
      · replace hF := xift c14 hF
        refine lv_iload_n hx hb dX11_spans_91 rfl (lv_at hl 1 rfl) ?_
        refine lv_istore (lv' := [(5, .int v6), (4, .int x2), (3, .int v6), (0, va_rf (some a0)), (1, .int x1), (2, .int x2)]) hx hb dX11_spans_92 hl (by decide) (by first | rfl | (simp [xrf_cat, xcI, xcJ, xcA]; done) | (simp [xrf_cat, xcI, xcJ, xcA]; decide)) (fun ls hl => ?_)
        refine W.widen (k := 0) (n := 0) (by decide) (by decide) ?_
        exact tl_X11_spans_94 hx hb hr hlk hml hown hnm hts G a0 x1 x2 _ h13 v6 _ _ _ hF hR hS (lv_sub hl [3, 4, 1, 0] rfl)
      · replace hF := xiff c14 hF
        refine lv_iconst (v := 0) hx hb dX11_spans_87 (by decide) ?_
        refine lv_goto (tgt := 92) hx hb dX11_spans_88 (by decide) ?_
        refine lv_istore (lv' := [(5, .int 0), (4, .int x2), (3, .int v6), (0, va_rf (some a0)), (1, .int x1), (2, .int x2)]) hx hb dX11_spans_92 hl (by decide) (by first | rfl | (simp [xrf_cat, xcI, xcJ, xcA]; done) | (simp [xrf_cat, xcI, xcJ, xcA]; decide)) (fun ls hl => ?_)
        refine W.widen (k := 0) (n := 0) (by decide) (by decide) ?_
        exact tl_X11_spans_94 hx hb hr hlk hml hown hnm hts G a0 x1 x2 _ h13 0 _ _ _ hF hR hS (lv_sub hl [3, 4, 1, 0] rfl)
    · replace hF := xiff c9 hF
      refine lv_iload_n hx hb dX11_spans_47 rfl (lv_at hl 0 rfl) ?_
      refine x_aload_n (o := (some a0)) hx hb dX11_spans_48 rfl (lv_at hl 1 rfl) ?_
      replace hF := xbind hF; obtain ⟨w27, ew27, hF⟩ := hF
      refine x_getR (o := (some a0)) (ci := 11) (C := RX11) (T := TX11) (N := 42) hx hb hts iw_X11 hown hR rfl 17 (by decide) mm_960 (Or.inl rfl) ew27 dX11_spans_49 ?_
      refine lv_iload_n hx hb dX11_spans_52 rfl (lv_at hl 2 rfl) ?_
      replace hF := xbind hF; obtain ⟨v28, ev28, hF⟩ := hF
      refine x_ild (o := w27) hx hb hR ev28 dX11_spans_53 ?_
      refine lv_iadd hx hb dX11_spans_54 ?_
      refine lv_iconst (v := 1) hx hb dX11_spans_55 (by decide) ?_
      refine lv_isub hx hb dX11_spans_56 ?_
      refine lv_goto (tgt := 61) hx hb dX11_spans_57 (by decide) ?_
      refine lv_topi (fun v29 ev29 => ?_)
      replace hF := xlet ev29 hF
      refine lv_istore (lv' := [(4, .int v29), (3, .int v6), (0, va_rf (some a0)), (1, .int x1), (2, .int x2)]) hx hb dX11_spans_61 hl (by decide) (by first | rfl | (simp [xrf_cat, xcI, xcJ, xcA]; done) | (simp [xrf_cat, xcI, xcJ, xcA]; decide)) (fun ls hl => ?_)
      refine x_aload_n (o := (some a0)) hx hb dX11_spans_63 rfl (lv_at hl 2 rfl) ?_
      refine lv_lconst (v := 0) hx hb dX11_spans_64 (by decide) ?_
      replace hF := xbind hF; obtain ⟨h30, eh30, hF⟩ := hF
      refine x_put (o := (some a0)) (ci := 11) (C := RX11) (T := TX11) (N := 42) hx hb hts iw_X11 tyX11_ok nmX11 hown hR hS rfl 12 (by decide) mm_955 (Or.inl rfl) rfl rfl rfl eh30 dX11_spans_65 (fun H locs hR hS => ?_)
      refine x_aload_n (o := (some a0)) hx hb dX11_spans_68 rfl (lv_at hl 2 rfl) ?_
      refine lv_lconst (v := 0) hx hb dX11_spans_69 (by decide) ?_
      replace hF := xbind hF; obtain ⟨h31, eh31, hF⟩ := hF
      refine x_put (o := (some a0)) (ci := 11) (C := RX11) (T := TX11) (N := 42) hx hb hts iw_X11 tyX11_ok nmX11 hown hR hS rfl 13 (by decide) mm_956 (Or.inl rfl) rfl rfl rfl eh31 dX11_spans_70 (fun H locs hR hS => ?_)
      refine x_aload_n (o := (some a0)) hx hb dX11_spans_73 rfl (lv_at hl 2 rfl) ?_
      refine lv_lconst (v := 0) hx hb dX11_spans_74 (by decide) ?_
      replace hF := xbind hF; obtain ⟨h32, eh32, hF⟩ := hF
      refine x_put (o := (some a0)) (ci := 11) (C := RX11) (T := TX11) (N := 42) hx hb hts iw_X11 tyX11_ok nmX11 hown hR hS rfl 14 (by decide) mm_957 (Or.inl rfl) rfl rfl rfl eh32 dX11_spans_75 (fun H locs hR hS => ?_)
      refine x_aload_n (o := (some a0)) hx hb dX11_spans_78 rfl (lv_at hl 2 rfl) ?_
      refine lv_iconst (v := (-1)) hx hb dX11_spans_79 (by decide) ?_
      replace hF := xbind hF; obtain ⟨h33, eh33, hF⟩ := hF
      refine x_put (o := (some a0)) (ci := 11) (C := RX11) (T := TX11) (N := 42) hx hb hts iw_X11 tyX11_ok nmX11 hown hR hS rfl 23 (by decide) mm_966 (Or.inl rfl) rfl rfl rfl eh33 dX11_spans_80 (fun H locs hR hS => ?_)
      refine lv_iload_n hx hb dX11_spans_83 rfl (lv_at hl 1 rfl) ?_
      refine lv_if_ge (tgt := 91) hx hb dX11_spans_84 (by decide) (fun c34 => ?_) (fun c34 => ?_)
      · replace hF := xift c34 hF
        refine lv_iload_n hx hb dX11_spans_91 rfl (lv_at hl 1 rfl) ?_
        refine lv_istore (lv' := [(5, .int v6), (4, .int v29), (3, .int v6), (0, va_rf (some a0)), (1, .int x1), (2, .int x2)]) hx hb dX11_spans_92 hl (by decide) (by first | rfl | (simp [xrf_cat, xcI, xcJ, xcA]; done) | (simp [xrf_cat, xcI, xcJ, xcA]; decide)) (fun ls hl => ?_)
        refine W.widen (k := 0) (n := 0) (by decide) (by decide) ?_
        exact tl_X11_spans_94 hx hb hr hlk hml hown hnm hts G a0 x1 v29 _ h33 v6 _ _ _ hF hR hS (lv_sub hl [3, 4, 1, 0] rfl)
      · replace hF := xiff c34 hF
        refine lv_iconst (v := 0) hx hb dX11_spans_87 (by decide) ?_
        refine lv_goto (tgt := 92) hx hb dX11_spans_88 (by decide) ?_
        refine lv_istore (lv' := [(5, .int 0), (4, .int v29), (3, .int v6), (0, va_rf (some a0)), (1, .int x1), (2, .int x2)]) hx hb dX11_spans_92 hl (by decide) (by first | rfl | (simp [xrf_cat, xcI, xcJ, xcA]; done) | (simp [xrf_cat, xcI, xcJ, xcA]; decide)) (fun ls hl => ?_)
        refine W.widen (k := 0) (n := 0) (by decide) (by decide) ?_
        exact tl_X11_spans_94 hx hb hr hlk hml hown hnm hts G a0 x1 v29 _ h33 0 _ _ _ hF hR hS (lv_sub hl [3, 4, 1, 0] rfl)
  · replace hF := xiff c3 hF
    refine lv_iload_n hx hb dX11_spans_9 rfl (lv_at hl 2 rfl) ?_
    refine x_aload_n (o := (some a0)) hx hb dX11_spans_10 rfl (lv_at hl 0 rfl) ?_
    replace hF := xbind hF; obtain ⟨w35, ew35, hF⟩ := hF
    refine x_getR (o := (some a0)) (ci := 11) (C := RX11) (T := TX11) (N := 42) hx hb hts iw_X11 hown hR rfl 17 (by decide) mm_960 (Or.inl rfl) ew35 dX11_spans_11 ?_
    refine lv_iload_n hx hb dX11_spans_14 rfl (lv_at hl 1 rfl) ?_
    replace hF := xbind hF; obtain ⟨v36, ev36, hF⟩ := hF
    refine x_ild (o := w35) hx hb hR ev36 dX11_spans_15 ?_
    replace hF := xguard hF; obtain ⟨c37, hF⟩ := hF
    refine lv_idiv hx hb dX11_spans_16 c37 ?_
    refine x_aload_n (o := (some a0)) hx hb dX11_spans_17 rfl (lv_at hl 0 rfl) ?_
    replace hF := xbind hF; obtain ⟨w38, ew38, hF⟩ := hF
    refine x_getR (o := (some a0)) (ci := 11) (C := RX11) (T := TX11) (N := 42) hx hb hts iw_X11 hown hR rfl 17 (by decide) mm_960 (Or.inl rfl) ew38 dX11_spans_18 ?_
    refine lv_iload_n hx hb dX11_spans_21 rfl (lv_at hl 1 rfl) ?_
    replace hF := xbind hF; obtain ⟨v39, ev39, hF⟩ := hF
    refine x_ild (o := w38) hx hb hR ev39 dX11_spans_22 ?_
    refine lv_imul hx hb dX11_spans_23 ?_
    refine lv_goto (tgt := 37) hx hb dX11_spans_24 (by decide) ?_
    refine lv_topi (fun v40 ev40 => ?_)
    replace hF := xlet ev40 hF
    refine lv_istore_n (lv' := [(3, .int v40), (0, va_rf (some a0)), (1, .int x1), (2, .int x2)]) hx hb dX11_spans_37 rfl hl (by decide) (by first | rfl | (simp [xrf_cat, xcI, xcJ, xcA]; done) | (simp [xrf_cat, xcI, xcJ, xcA]; decide)) (fun ls hl => ?_)
    refine x_aload_n (o := (some a0)) hx hb dX11_spans_38 rfl (lv_at hl 1 rfl) ?_
    replace hF := xbind hF; obtain ⟨w41, ew41, hF⟩ := hF
    refine x_getR (o := (some a0)) (ci := 11) (C := RX11) (T := TX11) (N := 42) hx hb hts iw_X11 hown hR rfl 19 (by decide) mm_962 (Or.inl rfl) ew41 dX11_spans_39 ?_
    refine lv_iload_n hx hb dX11_spans_42 rfl (lv_at hl 2 rfl) ?_
    replace hF := xbind hF; obtain ⟨v42, ev42, hF⟩ := hF
    refine x_zld (o := w41) hx hb hR ev42 dX11_spans_43 ?_
    refine lv_if_eq (tgt := 60) hx hb dX11_spans_44 (by decide) (fun c43 => ?_) (fun c43 => ?_)
    · replace hF := xift c43 hF
      refine lv_iload_n hx hb dX11_spans_60 rfl (lv_at hl 3 rfl) ?_
      refine lv_istore (lv' := [(4, .int x2), (3, .int v40), (0, va_rf (some a0)), (1, .int x1), (2, .int x2)]) hx hb dX11_spans_61 hl (by decide) (by first | rfl | (simp [xrf_cat, xcI, xcJ, xcA]; done) | (simp [xrf_cat, xcI, xcJ, xcA]; decide)) (fun ls hl => ?_)
      refine x_aload_n (o := (some a0)) hx hb dX11_spans_63 rfl (lv_at hl 2 rfl) ?_
      refine lv_lconst (v := 0) hx hb dX11_spans_64 (by decide) ?_
      replace hF := xbind hF; obtain ⟨h44, eh44, hF⟩ := hF
      refine x_put (o := (some a0)) (ci := 11) (C := RX11) (T := TX11) (N := 42) hx hb hts iw_X11 tyX11_ok nmX11 hown hR hS rfl 12 (by decide) mm_955 (Or.inl rfl) rfl rfl rfl eh44 dX11_spans_65 (fun H locs hR hS => ?_)
      refine x_aload_n (o := (some a0)) hx hb dX11_spans_68 rfl (lv_at hl 2 rfl) ?_
      refine lv_lconst (v := 0) hx hb dX11_spans_69 (by decide) ?_
      replace hF := xbind hF; obtain ⟨h45, eh45, hF⟩ := hF
      refine x_put (o := (some a0)) (ci := 11) (C := RX11) (T := TX11) (N := 42) hx hb hts iw_X11 tyX11_ok nmX11 hown hR hS rfl 13 (by decide) mm_956 (Or.inl rfl) rfl rfl rfl eh45 dX11_spans_70 (fun H locs hR hS => ?_)
      refine x_aload_n (o := (some a0)) hx hb dX11_spans_73 rfl (lv_at hl 2 rfl) ?_
      refine lv_lconst (v := 0) hx hb dX11_spans_74 (by decide) ?_
      replace hF := xbind hF; obtain ⟨h46, eh46, hF⟩ := hF
      refine x_put (o := (some a0)) (ci := 11) (C := RX11) (T := TX11) (N := 42) hx hb hts iw_X11 tyX11_ok nmX11 hown hR hS rfl 14 (by decide) mm_957 (Or.inl rfl) rfl rfl rfl eh46 dX11_spans_75 (fun H locs hR hS => ?_)
      refine x_aload_n (o := (some a0)) hx hb dX11_spans_78 rfl (lv_at hl 2 rfl) ?_
      refine lv_iconst (v := (-1)) hx hb dX11_spans_79 (by decide) ?_
      replace hF := xbind hF; obtain ⟨h47, eh47, hF⟩ := hF
      refine x_put (o := (some a0)) (ci := 11) (C := RX11) (T := TX11) (N := 42) hx hb hts iw_X11 tyX11_ok nmX11 hown hR hS rfl 23 (by decide) mm_966 (Or.inl rfl) rfl rfl rfl eh47 dX11_spans_80 (fun H locs hR hS => ?_)
      refine lv_iload_n hx hb dX11_spans_83 rfl (lv_at hl 1 rfl) ?_
      refine lv_if_ge (tgt := 91) hx hb dX11_spans_84 (by decide) (fun c48 => ?_) (fun c48 => ?_)
      · replace hF := xift c48 hF
        refine lv_iload_n hx hb dX11_spans_91 rfl (lv_at hl 1 rfl) ?_
        refine lv_istore (lv' := [(5, .int v40), (4, .int x2), (3, .int v40), (0, va_rf (some a0)), (1, .int x1), (2, .int x2)]) hx hb dX11_spans_92 hl (by decide) (by first | rfl | (simp [xrf_cat, xcI, xcJ, xcA]; done) | (simp [xrf_cat, xcI, xcJ, xcA]; decide)) (fun ls hl => ?_)
        refine W.widen (k := 0) (n := 0) (by decide) (by decide) ?_
        exact tl_X11_spans_94 hx hb hr hlk hml hown hnm hts G a0 x1 x2 _ h47 v40 _ _ _ hF hR hS (lv_sub hl [3, 4, 1, 0] rfl)
      · replace hF := xiff c48 hF
        refine lv_iconst (v := 0) hx hb dX11_spans_87 (by decide) ?_
        refine lv_goto (tgt := 92) hx hb dX11_spans_88 (by decide) ?_
        refine lv_istore (lv' := [(5, .int 0), (4, .int x2), (3, .int v40), (0, va_rf (some a0)), (1, .int x1), (2, .int x2)]) hx hb dX11_spans_92 hl (by decide) (by first | rfl | (simp [xrf_cat, xcI, xcJ, xcA]; done) | (simp [xrf_cat, xcI, xcJ, xcA]; decide)) (fun ls hl => ?_)
        refine W.widen (k := 0) (n := 0) (by decide) (by decide) ?_
        exact tl_X11_spans_94 hx hb hr hlk hml hown hnm hts G a0 x1 x2 _ h47 0 _ _ _ hF hR hS (lv_sub hl [3, 4, 1, 0] rfl)
    · replace hF := xiff c43 hF
      refine lv_iload_n hx hb dX11_spans_47 rfl (lv_at hl 0 rfl) ?_
      refine x_aload_n (o := (some a0)) hx hb dX11_spans_48 rfl (lv_at hl 1 rfl) ?_
      replace hF := xbind hF; obtain ⟨w49, ew49, hF⟩ := hF
      refine x_getR (o := (some a0)) (ci := 11) (C := RX11) (T := TX11) (N := 42) hx hb hts iw_X11 hown hR rfl 17 (by decide) mm_960 (Or.inl rfl) ew49 dX11_spans_49 ?_
      refine lv_iload_n hx hb dX11_spans_52 rfl (lv_at hl 2 rfl) ?_
      replace hF := xbind hF; obtain ⟨v50, ev50, hF⟩ := hF
      refine x_ild (o := w49) hx hb hR ev50 dX11_spans_53 ?_
      refine lv_iadd hx hb dX11_spans_54 ?_
      refine lv_iconst (v := 1) hx hb dX11_spans_55 (by decide) ?_
      refine lv_isub hx hb dX11_spans_56 ?_
      refine lv_goto (tgt := 61) hx hb dX11_spans_57 (by decide) ?_
      refine lv_topi (fun v51 ev51 => ?_)
      replace hF := xlet ev51 hF
      refine lv_istore (lv' := [(4, .int v51), (3, .int v40), (0, va_rf (some a0)), (1, .int x1), (2, .int x2)]) hx hb dX11_spans_61 hl (by decide) (by first | rfl | (simp [xrf_cat, xcI, xcJ, xcA]; done) | (simp [xrf_cat, xcI, xcJ, xcA]; decide)) (fun ls hl => ?_)
      refine x_aload_n (o := (some a0)) hx hb dX11_spans_63 rfl (lv_at hl 2 rfl) ?_
      refine lv_lconst (v := 0) hx hb dX11_spans_64 (by decide) ?_
      replace hF := xbind hF; obtain ⟨h52, eh52, hF⟩ := hF
      refine x_put (o := (some a0)) (ci := 11) (C := RX11) (T := TX11) (N := 42) hx hb hts iw_X11 tyX11_ok nmX11 hown hR hS rfl 12 (by decide) mm_955 (Or.inl rfl) rfl rfl rfl eh52 dX11_spans_65 (fun H locs hR hS => ?_)
      refine x_aload_n (o := (some a0)) hx hb dX11_spans_68 rfl (lv_at hl 2 rfl) ?_
      refine lv_lconst (v := 0) hx hb dX11_spans_69 (by decide) ?_
      replace hF := xbind hF; obtain ⟨h53, eh53, hF⟩ := hF
      refine x_put (o := (some a0)) (ci := 11) (C := RX11) (T := TX11) (N := 42) hx hb hts iw_X11 tyX11_ok nmX11 hown hR hS rfl 13 (by decide) mm_956 (Or.inl rfl) rfl rfl rfl eh53 dX11_spans_70 (fun H locs hR hS => ?_)
      refine x_aload_n (o := (some a0)) hx hb dX11_spans_73 rfl (lv_at hl 2 rfl) ?_
      refine lv_lconst (v := 0) hx hb dX11_spans_74 (by decide) ?_
      replace hF := xbind hF; obtain ⟨h54, eh54, hF⟩ := hF
      refine x_put (o := (some a0)) (ci := 11) (C := RX11) (T := TX11) (N := 42) hx hb hts iw_X11 tyX11_ok nmX11 hown hR hS rfl 14 (by decide) mm_957 (Or.inl rfl) rfl rfl rfl eh54 dX11_spans_75 (fun H locs hR hS => ?_)
      refine x_aload_n (o := (some a0)) hx hb dX11_spans_78 rfl (lv_at hl 2 rfl) ?_
      refine lv_iconst (v := (-1)) hx hb dX11_spans_79 (by decide) ?_
      replace hF := xbind hF; obtain ⟨h55, eh55, hF⟩ := hF
      refine x_put (o := (some a0)) (ci := 11) (C := RX11) (T := TX11) (N := 42) hx hb hts iw_X11 tyX11_ok nmX11 hown hR hS rfl 23 (by decide) mm_966 (Or.inl rfl) rfl rfl rfl eh55 dX11_spans_80 (fun H locs hR hS => ?_)
      refine lv_iload_n hx hb dX11_spans_83 rfl (lv_at hl 1 rfl) ?_
      refine lv_if_ge (tgt := 91) hx hb dX11_spans_84 (by decide) (fun c56 => ?_) (fun c56 => ?_)
      · replace hF := xift c56 hF
        refine lv_iload_n hx hb dX11_spans_91 rfl (lv_at hl 1 rfl) ?_
        refine lv_istore (lv' := [(5, .int v40), (4, .int v51), (3, .int v40), (0, va_rf (some a0)), (1, .int x1), (2, .int x2)]) hx hb dX11_spans_92 hl (by decide) (by first | rfl | (simp [xrf_cat, xcI, xcJ, xcA]; done) | (simp [xrf_cat, xcI, xcJ, xcA]; decide)) (fun ls hl => ?_)
        refine W.widen (k := 0) (n := 0) (by decide) (by decide) ?_
        exact tl_X11_spans_94 hx hb hr hlk hml hown hnm hts G a0 x1 v51 _ h55 v40 _ _ _ hF hR hS (lv_sub hl [3, 4, 1, 0] rfl)
      · replace hF := xiff c56 hF
        refine lv_iconst (v := 0) hx hb dX11_spans_87 (by decide) ?_
        refine lv_goto (tgt := 92) hx hb dX11_spans_88 (by decide) ?_
        refine lv_istore (lv' := [(5, .int 0), (4, .int v51), (3, .int v40), (0, va_rf (some a0)), (1, .int x1), (2, .int x2)]) hx hb dX11_spans_92 hl (by decide) (by first | rfl | (simp [xrf_cat, xcI, xcJ, xcA]; done) | (simp [xrf_cat, xcI, xcJ, xcA]; decide)) (fun ls hl => ?_)
        refine W.widen (k := 0) (n := 0) (by decide) (by decide) ?_
        exact tl_X11_spans_94 hx hb hr hlk hml hown hnm hts G a0 x1 v51 _ h55 0 _ _ _ hF hR hS (lv_sub hl [3, 4, 1, 0] rfl)
def rm_X11_leftOf : Room := { frames := 0, cells := 0, slots := 0, locals := 0 }
theorem f_X11_leftOf : xM yX11_leftOf cX11_leftOf 6 (some .long) 3 := ⟨mm_1134, mm_62, by decide +kernel, by decide +kernel⟩
theorem dX11_leftOf_0 : decode cX11_leftOf 0 = .ok (.lload_n 2, 1) := by decide +kernel
theorem dX11_leftOf_1 : decode cX11_leftOf 1 = .ok (.sipush 1000, 3) := by decide +kernel
theorem dX11_leftOf_4 : decode cX11_leftOf 4 = .ok (.aload_n 0, 1) := by decide +kernel
theorem dX11_leftOf_5 : decode cX11_leftOf 5 = .ok (.getfield 35, 3) := by decide +kernel
theorem dX11_leftOf_8 : decode cX11_leftOf 8 = .ok (.iload_n 1, 1) := by decide +kernel
theorem dX11_leftOf_9 : decode cX11_leftOf 9 = .ok (.iaload, 1) := by decide +kernel
theorem dX11_leftOf_10 : decode cX11_leftOf 10 = .ok (.isub, 1) := by decide +kernel
theorem dX11_leftOf_11 : decode cX11_leftOf 11 = .ok (.i2l, 1) := by decide +kernel
theorem dX11_leftOf_12 : decode cX11_leftOf 12 = .ok (.lmul, 1) := by decide +kernel
theorem dX11_leftOf_13 : decode cX11_leftOf 13 = .ok (.ldc2_w 147, 3) := by decide +kernel
theorem dX11_leftOf_16 : decode cX11_leftOf 16 = .ok (.ldiv, 1) := by decide +kernel
theorem dX11_leftOf_17 : decode cX11_leftOf 17 = .ok (.lload 4, 2) := by decide +kernel
theorem dX11_leftOf_19 : decode cX11_leftOf 19 = .ok (.lsub, 1) := by decide +kernel
theorem dX11_leftOf_20 : decode cX11_leftOf 20 = .ok (.lreturn, 1) := by decide +kernel
def F_X11_leftOf (G : Nat → Nat) (h : xH) (a0 : Nat) (x1 : Int32) (y2 : Int64) (y4 : Int64) : Option Int64 :=
  (gR h (some a0) 11 18).bind fun w1 =>
  (ldI 2 G h w1 x1).bind fun v2 =>
  some (((y2 * (((1000 - v2) : Int32).toInt64)) / 1000) - y4)
set_option maxHeartbeats 4000000 in
set_option maxRecDepth 100000 in
theorem t_X11_leftOf (l : Launch) (D : va_G) (G : Nat → Nat) (h : xH) (a0 : Nat) (x1 : Int32) (y2 : Int64) (y4 : Int64) (r : Int64) (hF : F_X11_leftOf G h a0 x1 y2 y4 = some r) : xC l yX11_leftOf cX11_leftOf 6 (some .long) (rm_X11_leftOf) D G h [.ref a0, .int x1, .long y2, .long y4] (some (.long r)) h := by
  refine xC_of (by decide) (by first | decide | exact Nat.le_of_ble_eq_true rfl) ?_
  intro p e s m args below meth c ls hx hb hr hlk hml hown hnm hts hR hS hl
  have hl : lv_has ls 6 [(0, va_rf (some a0)), (1, .int x1), (2, .long y2), (4, .long y4)] := hl
  unfold F_X11_leftOf at hF
  refine lv_lload_n hx hb dX11_leftOf_0 rfl (lv_at hl 2 rfl) ?_
  refine lv_sipush (v := 1000) hx hb dX11_leftOf_1 (by decide) ?_
  refine x_aload_n (o := (some a0)) hx hb dX11_leftOf_4 rfl (lv_at hl 0 rfl) ?_
  replace hF := xbind hF; obtain ⟨w1, ew1, hF⟩ := hF
  refine x_getR (o := (some a0)) (ci := 11) (C := RX11) (T := TX11) (N := 42) hx hb hts iw_X11 hown hR rfl 18 (by decide) mm_961 (Or.inl rfl) ew1 dX11_leftOf_5 ?_
  refine lv_iload_n hx hb dX11_leftOf_8 rfl (lv_at hl 1 rfl) ?_
  replace hF := xbind hF; obtain ⟨v2, ev2, hF⟩ := hF
  refine x_ild (o := w1) hx hb hR ev2 dX11_leftOf_9 ?_
  refine lv_isub hx hb dX11_leftOf_10 ?_
  refine lv_i2l (v := (((1000 - v2) : Int32).toInt64)) hx hb dX11_leftOf_11 rfl ?_
  refine lv_lmul hx hb dX11_leftOf_12 ?_
  refine lv_ldc2 hx hb hown (hts _ mm_1135) dX11_leftOf_13 ?_
  refine lv_ldiv hx hb dX11_leftOf_16 (by decide) ?_
  refine lv_lload hx hb dX11_leftOf_17 (lv_at hl 3 rfl) ?_
  refine lv_lsub hx hb dX11_leftOf_19 ?_
  cases hF
  exact x_lret hx hb hr hlk hR hS (by decide) (by decide) dX11_leftOf_20
def rm_X11_least : Room := { frames := 1, cells := 0, slots := 0, locals := 25 }
theorem f_X11_least : xM yX11_least cX11_least 2 (some .long) 1 := ⟨mm_1139, mm_62, by decide +kernel, by decide +kernel⟩
theorem dX11_least_0 : decode cX11_least 0 = .ok (.aload_n 0, 1) := by decide +kernel
theorem dX11_least_1 : decode cX11_least 1 = .ok (.iload_n 1, 1) := by decide +kernel
theorem dX11_least_2 : decode cX11_least 2 = .ok (.aload_n 0, 1) := by decide +kernel
theorem dX11_least_3 : decode cX11_least 3 = .ok (.getfield 116, 3) := by decide +kernel
theorem dX11_least_6 : decode cX11_least 6 = .ok (.aload_n 0, 1) := by decide +kernel
theorem dX11_least_7 : decode cX11_least 7 = .ok (.getfield 123, 3) := by decide +kernel
theorem dX11_least_10 : decode cX11_least 10 = .ok (.ladd, 1) := by decide +kernel
theorem dX11_least_11 : decode cX11_least 11 = .ok (.aload_n 0, 1) := by decide +kernel
theorem dX11_least_12 : decode cX11_least 12 = .ok (.getfield 120, 3) := by decide +kernel
theorem dX11_least_15 : decode cX11_least 15 = .ok (.aload_n 0, 1) := by decide +kernel
theorem dX11_least_16 : decode cX11_least 16 = .ok (.getfield 123, 3) := by decide +kernel
theorem dX11_least_19 : decode cX11_least 19 = .ok (.ladd, 1) := by decide +kernel
theorem dX11_least_20 : decode cX11_least 20 = .ok (.invokevirtual 149, 3) := by decide +kernel
theorem dX11_least_23 : decode cX11_least 23 = .ok (.lreturn, 1) := by decide +kernel
def F_X11_least (G : Nat → Nat) (h : xH) (a0 : Nat) (x1 : Int32) : Option Int64 :=
  (gJ h (some a0) 11 12).bind fun v1 =>
  (gJ h (some a0) 11 14).bind fun v2 =>
  (gJ h (some a0) 11 13).bind fun v3 =>
  (gJ h (some a0) 11 14).bind fun v4 =>
  (xc h (some a0) 11).bind fun b6 =>
  (F_X11_leftOf G h b6 x1 (v1 + v2) (v3 + v4)).bind fun v5 =>
  some v5
set_option maxHeartbeats 4000000 in
set_option maxRecDepth 100000 in
theorem t_X11_least (l : Launch) (D : va_G) (G : Nat → Nat) (h : xH) (a0 : Nat) (x1 : Int32) (r : Int64) (hF : F_X11_least G h a0 x1 = some r) : xC l yX11_least cX11_least 2 (some .long) (rm_X11_least) D G h [.ref a0, .int x1] (some (.long r)) h := by
  refine xC_of (by decide) (by first | decide | exact Nat.le_of_ble_eq_true rfl) ?_
  intro p e s m args below meth c ls hx hb hr hlk hml hown hnm hts hR hS hl
  have hl : lv_has ls 2 [(0, va_rf (some a0)), (1, .int x1)] := hl
  unfold F_X11_least at hF
  refine x_aload_n (o := (some a0)) hx hb dX11_least_0 rfl (lv_at hl 0 rfl) ?_
  refine lv_iload_n hx hb dX11_least_1 rfl (lv_at hl 1 rfl) ?_
  refine x_aload_n (o := (some a0)) hx hb dX11_least_2 rfl (lv_at hl 0 rfl) ?_
  replace hF := xbind hF; obtain ⟨v1, ev1, hF⟩ := hF
  refine x_getJ (o := (some a0)) (ci := 11) (C := RX11) (T := TX11) (N := 42) hx hb hts iw_X11 hown hR rfl 12 (by decide) mm_955 (Or.inl rfl) ev1 dX11_least_3 ?_
  refine x_aload_n (o := (some a0)) hx hb dX11_least_6 rfl (lv_at hl 0 rfl) ?_
  replace hF := xbind hF; obtain ⟨v2, ev2, hF⟩ := hF
  refine x_getJ (o := (some a0)) (ci := 11) (C := RX11) (T := TX11) (N := 42) hx hb hts iw_X11 hown hR rfl 14 (by decide) mm_957 (Or.inl rfl) ev2 dX11_least_7 ?_
  refine lv_ladd hx hb dX11_least_10 ?_
  refine x_aload_n (o := (some a0)) hx hb dX11_least_11 rfl (lv_at hl 0 rfl) ?_
  replace hF := xbind hF; obtain ⟨v3, ev3, hF⟩ := hF
  refine x_getJ (o := (some a0)) (ci := 11) (C := RX11) (T := TX11) (N := 42) hx hb hts iw_X11 hown hR rfl 13 (by decide) mm_956 (Or.inl rfl) ev3 dX11_least_12 ?_
  refine x_aload_n (o := (some a0)) hx hb dX11_least_15 rfl (lv_at hl 0 rfl) ?_
  replace hF := xbind hF; obtain ⟨v4, ev4, hF⟩ := hF
  refine x_getJ (o := (some a0)) (ci := 11) (C := RX11) (T := TX11) (N := 42) hx hb hts iw_X11 hown hR rfl 14 (by decide) mm_957 (Or.inl rfl) ev4 dX11_least_16 ?_
  refine lv_ladd hx hb dX11_least_19 ?_
  replace hF := xbind hF; obtain ⟨b6, eb6, hF⟩ := hF
  replace hF := xbind hF; obtain ⟨v5, ev5, hF⟩ := hF
  refine x_callV (o := (some a0)) (ci := 11) (As := [.int x1, .long (v1 + v2), .long (v3 + v4)]) (rest := []) (v := (some (.long v5))) (k := 3) hx hb hml hown hts hR hS eb6 rfl rfl (t_X11_leftOf l D G h b6 x1 (v1 + v2) (v3 + v4) v5 ev5) f_X11_leftOf mm_1131 mm_1133 mm_38 rfl hl.1 rfl (by first | exact Nat.le_of_ble_eq_true rfl | simp [xrf_cat, xcI, xcJ, xcA]) dX11_least_20 (by decide) (by decide) rfl (fun H locs hR hS => ?_)
  cases hF
  exact x_lret hx hb hr hlk hR hS (by decide) (by decide) dX11_least_23
def rm_X11_greatest : Room := { frames := 1, cells := 0, slots := 0, locals := 25 }
theorem f_X11_greatest : xM yX11_greatest cX11_greatest 2 (some .long) 1 := ⟨mm_1143, mm_62, by decide +kernel, by decide +kernel⟩
theorem dX11_greatest_0 : decode cX11_greatest 0 = .ok (.aload_n 0, 1) := by decide +kernel
theorem dX11_greatest_1 : decode cX11_greatest 1 = .ok (.iload_n 1, 1) := by decide +kernel
theorem dX11_greatest_2 : decode cX11_greatest 2 = .ok (.aload_n 0, 1) := by decide +kernel
theorem dX11_greatest_3 : decode cX11_greatest 3 = .ok (.getfield 116, 3) := by decide +kernel
theorem dX11_greatest_6 : decode cX11_greatest 6 = .ok (.aload_n 0, 1) := by decide +kernel
theorem dX11_greatest_7 : decode cX11_greatest 7 = .ok (.getfield 123, 3) := by decide +kernel
theorem dX11_greatest_10 : decode cX11_greatest 10 = .ok (.ladd, 1) := by decide +kernel
theorem dX11_greatest_11 : decode cX11_greatest 11 = .ok (.aload_n 0, 1) := by decide +kernel
theorem dX11_greatest_12 : decode cX11_greatest 12 = .ok (.getfield 120, 3) := by decide +kernel
theorem dX11_greatest_15 : decode cX11_greatest 15 = .ok (.invokevirtual 149, 3) := by decide +kernel
theorem dX11_greatest_18 : decode cX11_greatest 18 = .ok (.lreturn, 1) := by decide +kernel
def F_X11_greatest (G : Nat → Nat) (h : xH) (a0 : Nat) (x1 : Int32) : Option Int64 :=
  (gJ h (some a0) 11 12).bind fun v1 =>
  (gJ h (some a0) 11 14).bind fun v2 =>
  (gJ h (some a0) 11 13).bind fun v3 =>
  (xc h (some a0) 11).bind fun b5 =>
  (F_X11_leftOf G h b5 x1 (v1 + v2) v3).bind fun v4 =>
  some v4
set_option maxHeartbeats 4000000 in
set_option maxRecDepth 100000 in
theorem t_X11_greatest (l : Launch) (D : va_G) (G : Nat → Nat) (h : xH) (a0 : Nat) (x1 : Int32) (r : Int64) (hF : F_X11_greatest G h a0 x1 = some r) : xC l yX11_greatest cX11_greatest 2 (some .long) (rm_X11_greatest) D G h [.ref a0, .int x1] (some (.long r)) h := by
  refine xC_of (by decide) (by first | decide | exact Nat.le_of_ble_eq_true rfl) ?_
  intro p e s m args below meth c ls hx hb hr hlk hml hown hnm hts hR hS hl
  have hl : lv_has ls 2 [(0, va_rf (some a0)), (1, .int x1)] := hl
  unfold F_X11_greatest at hF
  refine x_aload_n (o := (some a0)) hx hb dX11_greatest_0 rfl (lv_at hl 0 rfl) ?_
  refine lv_iload_n hx hb dX11_greatest_1 rfl (lv_at hl 1 rfl) ?_
  refine x_aload_n (o := (some a0)) hx hb dX11_greatest_2 rfl (lv_at hl 0 rfl) ?_
  replace hF := xbind hF; obtain ⟨v1, ev1, hF⟩ := hF
  refine x_getJ (o := (some a0)) (ci := 11) (C := RX11) (T := TX11) (N := 42) hx hb hts iw_X11 hown hR rfl 12 (by decide) mm_955 (Or.inl rfl) ev1 dX11_greatest_3 ?_
  refine x_aload_n (o := (some a0)) hx hb dX11_greatest_6 rfl (lv_at hl 0 rfl) ?_
  replace hF := xbind hF; obtain ⟨v2, ev2, hF⟩ := hF
  refine x_getJ (o := (some a0)) (ci := 11) (C := RX11) (T := TX11) (N := 42) hx hb hts iw_X11 hown hR rfl 14 (by decide) mm_957 (Or.inl rfl) ev2 dX11_greatest_7 ?_
  refine lv_ladd hx hb dX11_greatest_10 ?_
  refine x_aload_n (o := (some a0)) hx hb dX11_greatest_11 rfl (lv_at hl 0 rfl) ?_
  replace hF := xbind hF; obtain ⟨v3, ev3, hF⟩ := hF
  refine x_getJ (o := (some a0)) (ci := 11) (C := RX11) (T := TX11) (N := 42) hx hb hts iw_X11 hown hR rfl 13 (by decide) mm_956 (Or.inl rfl) ev3 dX11_greatest_12 ?_
  replace hF := xbind hF; obtain ⟨b5, eb5, hF⟩ := hF
  replace hF := xbind hF; obtain ⟨v4, ev4, hF⟩ := hF
  refine x_callV (o := (some a0)) (ci := 11) (As := [.int x1, .long (v1 + v2), .long v3]) (rest := []) (v := (some (.long v4))) (k := 3) hx hb hml hown hts hR hS eb5 rfl rfl (t_X11_leftOf l D G h b5 x1 (v1 + v2) v3 v4 ev4) f_X11_leftOf mm_1131 mm_1133 mm_38 rfl hl.1 rfl (by first | exact Nat.le_of_ble_eq_true rfl | simp [xrf_cat, xcI, xcJ, xcA]) dX11_greatest_15 (by decide) (by decide) rfl (fun H locs hR hS => ?_)
  cases hF
  exact x_lret hx hb hr hlk hR hS (by decide) (by decide) dX11_greatest_18
def rm_X11_isWhole : Room := { frames := 0, cells := 0, slots := 0, locals := 0 }
theorem f_X11_isWhole : xM yX11_isWhole cX11_isWhole 2 (some .boolean) 1 := ⟨mm_1147, mm_62, by decide +kernel, by decide +kernel⟩
theorem dX11_isWhole_0 : decode cX11_isWhole 0 = .ok (.aload_n 0, 1) := by decide +kernel
theorem dX11_isWhole_1 : decode cX11_isWhole 1 = .ok (.getfield 120, 3) := by decide +kernel
theorem dX11_isWhole_4 : decode cX11_isWhole 4 = .ok (.ldc2_w 147, 3) := by decide +kernel
theorem dX11_isWhole_7 : decode cX11_isWhole 7 = .ok (.lmul, 1) := by decide +kernel
theorem dX11_isWhole_8 : decode cX11_isWhole 8 = .ok (.aload_n 0, 1) := by decide +kernel
theorem dX11_isWhole_9 : decode cX11_isWhole 9 = .ok (.getfield 116, 3) := by decide +kernel
theorem dX11_isWhole_12 : decode cX11_isWhole 12 = .ok (.sipush 1000, 3) := by decide +kernel
theorem dX11_isWhole_15 : decode cX11_isWhole 15 = .ok (.aload_n 0, 1) := by decide +kernel
theorem dX11_isWhole_16 : decode cX11_isWhole 16 = .ok (.getfield 35, 3) := by decide +kernel
theorem dX11_isWhole_19 : decode cX11_isWhole 19 = .ok (.iload_n 1, 1) := by decide +kernel
theorem dX11_isWhole_20 : decode cX11_isWhole 20 = .ok (.iaload, 1) := by decide +kernel
theorem dX11_isWhole_21 : decode cX11_isWhole 21 = .ok (.isub, 1) := by decide +kernel
theorem dX11_isWhole_22 : decode cX11_isWhole 22 = .ok (.i2l, 1) := by decide +kernel
theorem dX11_isWhole_23 : decode cX11_isWhole 23 = .ok (.lmul, 1) := by decide +kernel
theorem dX11_isWhole_24 : decode cX11_isWhole 24 = .ok (.lcmp, 1) := by decide +kernel
theorem dX11_isWhole_25 : decode cX11_isWhole 25 = .ok (.ifCond .gt 7, 3) := by decide +kernel
theorem dX11_isWhole_28 : decode cX11_isWhole 28 = .ok (.iconst 1, 1) := by decide +kernel
theorem dX11_isWhole_29 : decode cX11_isWhole 29 = .ok (.goto 4, 3) := by decide +kernel
theorem dX11_isWhole_32 : decode cX11_isWhole 32 = .ok (.iconst 0, 1) := by decide +kernel
theorem dX11_isWhole_33 : decode cX11_isWhole 33 = .ok (.ireturn, 1) := by decide +kernel
def F_X11_isWhole (G : Nat → Nat) (h : xH) (a0 : Nat) (x1 : Int32) : Option Int32 :=
  (gJ h (some a0) 11 13).bind fun v1 =>
  (gJ h (some a0) 11 12).bind fun v2 =>
  (gR h (some a0) 11 18).bind fun w3 =>
  (ldI 2 G h w3 x1).bind fun v4 =>
  if 0 < (lg_cmp (v1 * 1000) (v2 * (((1000 - v4) : Int32).toInt64))) then
    some 0
  else
  some 1
set_option maxHeartbeats 4000000 in
set_option maxRecDepth 100000 in
theorem t_X11_isWhole (l : Launch) (D : va_G) (G : Nat → Nat) (h : xH) (a0 : Nat) (x1 : Int32) (r : Int32) (hF : F_X11_isWhole G h a0 x1 = some r) : xC l yX11_isWhole cX11_isWhole 2 (some .boolean) (rm_X11_isWhole) D G h [.ref a0, .int x1] (some (.int r)) h := by
  refine xC_of (by decide) (by first | decide | exact Nat.le_of_ble_eq_true rfl) ?_
  intro p e s m args below meth c ls hx hb hr hlk hml hown hnm hts hR hS hl
  have hl : lv_has ls 2 [(0, va_rf (some a0)), (1, .int x1)] := hl
  unfold F_X11_isWhole at hF
  refine x_aload_n (o := (some a0)) hx hb dX11_isWhole_0 rfl (lv_at hl 0 rfl) ?_
  replace hF := xbind hF; obtain ⟨v1, ev1, hF⟩ := hF
  refine x_getJ (o := (some a0)) (ci := 11) (C := RX11) (T := TX11) (N := 42) hx hb hts iw_X11 hown hR rfl 13 (by decide) mm_956 (Or.inl rfl) ev1 dX11_isWhole_1 ?_
  refine lv_ldc2 hx hb hown (hts _ mm_1135) dX11_isWhole_4 ?_
  refine lv_lmul hx hb dX11_isWhole_7 ?_
  refine x_aload_n (o := (some a0)) hx hb dX11_isWhole_8 rfl (lv_at hl 0 rfl) ?_
  replace hF := xbind hF; obtain ⟨v2, ev2, hF⟩ := hF
  refine x_getJ (o := (some a0)) (ci := 11) (C := RX11) (T := TX11) (N := 42) hx hb hts iw_X11 hown hR rfl 12 (by decide) mm_955 (Or.inl rfl) ev2 dX11_isWhole_9 ?_
  refine lv_sipush (v := 1000) hx hb dX11_isWhole_12 (by decide) ?_
  refine x_aload_n (o := (some a0)) hx hb dX11_isWhole_15 rfl (lv_at hl 0 rfl) ?_
  replace hF := xbind hF; obtain ⟨w3, ew3, hF⟩ := hF
  refine x_getR (o := (some a0)) (ci := 11) (C := RX11) (T := TX11) (N := 42) hx hb hts iw_X11 hown hR rfl 18 (by decide) mm_961 (Or.inl rfl) ew3 dX11_isWhole_16 ?_
  refine lv_iload_n hx hb dX11_isWhole_19 rfl (lv_at hl 1 rfl) ?_
  replace hF := xbind hF; obtain ⟨v4, ev4, hF⟩ := hF
  refine x_ild (o := w3) hx hb hR ev4 dX11_isWhole_20 ?_
  refine lv_isub hx hb dX11_isWhole_21 ?_
  refine lv_i2l (v := (((1000 - v4) : Int32).toInt64)) hx hb dX11_isWhole_22 rfl ?_
  refine lv_lmul hx hb dX11_isWhole_23 ?_
  refine W.lcmp hx hb dX11_isWhole_24 ?_
  refine lv_if_gt (tgt := 32) hx hb dX11_isWhole_25 (by decide) (fun c5 => ?_) (fun c5 => ?_)
  · replace hF := xift c5 hF
    refine lv_iconst (v := 0) hx hb dX11_isWhole_32 (by decide) ?_
    cases hF
    exact x_iret hx hb hr rfl hlk hR hS (by decide) (by decide) dX11_isWhole_33
  · replace hF := xiff c5 hF
    refine lv_iconst (v := 1) hx hb dX11_isWhole_28 (by decide) ?_
    refine lv_goto (tgt := 33) hx hb dX11_isWhole_29 (by decide) ?_
    cases hF
    exact x_iret hx hb hr rfl hlk hR hS (by decide) (by decide) dX11_isWhole_33
def rm_X11_settledAt : Room := { frames := 0, cells := 0, slots := 0, locals := 0 }
theorem f_X11_settledAt : xM yX11_settledAt cX11_settledAt 4 (some .int) 1 := ⟨mm_1151, mm_62, by decide +kernel, by decide +kernel⟩
theorem dX11_settledAt_0 : decode cX11_settledAt 0 = .ok (.iconst 0, 1) := by decide +kernel
theorem dX11_settledAt_1 : decode cX11_settledAt 1 = .ok (.istore_n 2, 1) := by decide +kernel
theorem dX11_settledAt_2 : decode cX11_settledAt 2 = .ok (.iconst 0, 1) := by decide +kernel
theorem dX11_settledAt_3 : decode cX11_settledAt 3 = .ok (.istore_n 3, 1) := by decide +kernel
theorem dX11_settledAt_4 : decode cX11_settledAt 4 = .ok (.iload_n 3, 1) := by decide +kernel
theorem dX11_settledAt_5 : decode cX11_settledAt 5 = .ok (.aload_n 0, 1) := by decide +kernel
theorem dX11_settledAt_6 : decode cX11_settledAt 6 = .ok (.getfield 104, 3) := by decide +kernel
theorem dX11_settledAt_9 : decode cX11_settledAt 9 = .ok (.if_icmp .ge 62, 3) := by decide +kernel
theorem dX11_settledAt_12 : decode cX11_settledAt 12 = .ok (.aload_n 0, 1) := by decide +kernel
theorem dX11_settledAt_13 : decode cX11_settledAt 13 = .ok (.getfield 140, 3) := by decide +kernel
theorem dX11_settledAt_16 : decode cX11_settledAt 16 = .ok (.ifCond .lt 55, 3) := by decide +kernel
theorem dX11_settledAt_19 : decode cX11_settledAt 19 = .ok (.aload_n 0, 1) := by decide +kernel
theorem dX11_settledAt_20 : decode cX11_settledAt 20 = .ok (.getfield 7, 3) := by decide +kernel
theorem dX11_settledAt_23 : decode cX11_settledAt 23 = .ok (.iload_n 3, 1) := by decide +kernel
theorem dX11_settledAt_24 : decode cX11_settledAt 24 = .ok (.iaload, 1) := by decide +kernel
theorem dX11_settledAt_25 : decode cX11_settledAt 25 = .ok (.aload_n 0, 1) := by decide +kernel
theorem dX11_settledAt_26 : decode cX11_settledAt 26 = .ok (.getfield 29, 3) := by decide +kernel
theorem dX11_settledAt_29 : decode cX11_settledAt 29 = .ok (.iload_n 1, 1) := by decide +kernel
theorem dX11_settledAt_30 : decode cX11_settledAt 30 = .ok (.iaload, 1) := by decide +kernel
theorem dX11_settledAt_31 : decode cX11_settledAt 31 = .ok (.if_icmp .ne 34, 3) := by decide +kernel
theorem dX11_settledAt_34 : decode cX11_settledAt 34 = .ok (.aload_n 0, 1) := by decide +kernel
theorem dX11_settledAt_35 : decode cX11_settledAt 35 = .ok (.getfield 140, 3) := by decide +kernel
theorem dX11_settledAt_38 : decode cX11_settledAt 38 = .ok (.aload_n 0, 1) := by decide +kernel
theorem dX11_settledAt_39 : decode cX11_settledAt 39 = .ok (.getfield 13, 3) := by decide +kernel
theorem dX11_settledAt_42 : decode cX11_settledAt 42 = .ok (.iload_n 3, 1) := by decide +kernel
theorem dX11_settledAt_43 : decode cX11_settledAt 43 = .ok (.iaload, 1) := by decide +kernel
theorem dX11_settledAt_44 : decode cX11_settledAt 44 = .ok (.iadd, 1) := by decide +kernel
theorem dX11_settledAt_45 : decode cX11_settledAt 45 = .ok (.iconst 1, 1) := by decide +kernel
theorem dX11_settledAt_46 : decode cX11_settledAt 46 = .ok (.iadd, 1) := by decide +kernel
theorem dX11_settledAt_47 : decode cX11_settledAt 47 = .ok (.iload_n 2, 1) := by decide +kernel
theorem dX11_settledAt_48 : decode cX11_settledAt 48 = .ok (.if_icmp .le 17, 3) := by decide +kernel
theorem dX11_settledAt_51 : decode cX11_settledAt 51 = .ok (.aload_n 0, 1) := by decide +kernel
theorem dX11_settledAt_52 : decode cX11_settledAt 52 = .ok (.getfield 140, 3) := by decide +kernel
theorem dX11_settledAt_55 : decode cX11_settledAt 55 = .ok (.aload_n 0, 1) := by decide +kernel
theorem dX11_settledAt_56 : decode cX11_settledAt 56 = .ok (.getfield 13, 3) := by decide +kernel
theorem dX11_settledAt_59 : decode cX11_settledAt 59 = .ok (.iload_n 3, 1) := by decide +kernel
theorem dX11_settledAt_60 : decode cX11_settledAt 60 = .ok (.iaload, 1) := by decide +kernel
theorem dX11_settledAt_61 : decode cX11_settledAt 61 = .ok (.iadd, 1) := by decide +kernel
theorem dX11_settledAt_62 : decode cX11_settledAt 62 = .ok (.iconst 1, 1) := by decide +kernel
theorem dX11_settledAt_63 : decode cX11_settledAt 63 = .ok (.iadd, 1) := by decide +kernel
theorem dX11_settledAt_64 : decode cX11_settledAt 64 = .ok (.istore_n 2, 1) := by decide +kernel
theorem dX11_settledAt_65 : decode cX11_settledAt 65 = .ok (.iinc 3 1, 3) := by decide +kernel
theorem dX11_settledAt_68 : decode cX11_settledAt 68 = .ok (.goto (-64), 3) := by decide +kernel
theorem dX11_settledAt_71 : decode cX11_settledAt 71 = .ok (.iload_n 2, 1) := by decide +kernel
theorem dX11_settledAt_72 : decode cX11_settledAt 72 = .ok (.ireturn, 1) := by decide +kernel
def F_X11_settledAt_4 (G : Nat → Nat) (h : xH) (a0 : Nat) (x1 : Int32) : Nat → Int32 → Int32 → Option Int32
  | 0, _, _ => none
  | n + 1, x2, x3 =>
    (gI h (some a0) 11 2).bind fun v1 =>
    if v1 ≤ x3 then
      some x2
    else
    (gI h (some a0) 11 23).bind fun v3 =>
    if v3 < 0 then
      some x2
    else
    (gR h (some a0) 11 3).bind fun w5 =>
    (ldI 2 G h w5 x3).bind fun v6 =>
    (gR h (some a0) 11 16).bind fun w7 =>
    (ldI 2 G h w7 x1).bind fun v8 =>
    if v6 = v8 then
      (gI h (some a0) 11 23).bind fun v11 =>
      (gR h (some a0) 11 4).bind fun w12 =>
      (ldI 2 G h w12 x3).bind fun v13 =>
      if ((v11 + v13) + 1) ≤ x2 then
        xl (x3 + 1) fun v15 =>
        F_X11_settledAt_4 G h a0 x1 n x2 v15
      else
      (gI h (some a0) 11 23).bind fun v16 =>
      (gR h (some a0) 11 4).bind fun w17 =>
      (ldI 2 G h w17 x3).bind fun v18 =>
      xl ((v16 + v18) + 1) fun v19 =>
      xl (x3 + 1) fun v20 =>
      F_X11_settledAt_4 G h a0 x1 n v19 v20
    else
    xl (x3 + 1) fun v10 =>
    F_X11_settledAt_4 G h a0 x1 n x2 v10
set_option maxHeartbeats 4000000 in
set_option maxRecDepth 100000 in
theorem tl_X11_settledAt_4 {p : Program} {l : Launch} {e : Env} {s : State} {m : MethodId} {args : Array Value} {below : List Frame} {meth : Method} {c : Code} {D : va_G} {r : Int32} (hx : p.tables.exec = Jvm.exec) (hb : c.code = cX11_settledAt) (hr : meth.sig.returnType = (some .int)) (hlk : meth.locks = false) (hml : c.maxLocals = 4) (hown : s.vm.findClass RX11 = some m.cls) (hnm : meth.name = "settledAt") (hts : ∀ w ∈ xt, w.before args s = true) (G : Nat → Nat) (h : xH) (a0 : Nat) (x1 : Int32) : ∀ (n : Nat) (x2 : Int32) (x3 : Int32) (H : Heap) (locs : List Loc) (ls : Array Slot), F_X11_settledAt_4 G h a0 x1 n x2 x3 = some r → xR D G h s H → va_S (xA G) s.heap H locs → lv_has ls 4 [(0, va_rf (some a0)), (1, .int x1), (2, .int x2), (3, .int x3)] → W p l e rm_X11_settledAt s m args below meth c H locs 0 0 (MQ below (xQ D G (some (.int r)) h) args s rm_X11_settledAt.cells rm_X11_settledAt.slots (xA G)) (F0 m 4 ls []) := by
  intro n
  induction n with
  | zero =>
    intro x2 x3 H locs ls hF
    rw [F_X11_settledAt_4.eq_1] at hF
    cases hF
  | succ n ih =>
    intro x2 x3 H locs ls hF hR hS hl
    rw [F_X11_settledAt_4.eq_2] at hF
    refine lv_iload_n hx hb dX11_settledAt_4 rfl (lv_at hl 3 rfl) ?_
    refine x_aload_n (o := (some a0)) hx hb dX11_settledAt_5 rfl (lv_at hl 0 rfl) ?_
    replace hF := xbind hF; obtain ⟨v1, ev1, hF⟩ := hF
    refine x_getI (o := (some a0)) (ci := 11) (C := RX11) (T := TX11) (N := 42) hx hb hts iw_X11 hown hR rfl 2 (by decide) mm_945 (Or.inl rfl) ev1 dX11_settledAt_6 ?_
    refine lv_icmp_ge (tgt := 71) hx hb dX11_settledAt_9 (by decide) (fun c2 => ?_) (fun c2 => ?_)
    · replace hF := xift c2 hF
      refine lv_iload_n hx hb dX11_settledAt_71 rfl (lv_at hl 2 rfl) ?_
      cases hF
      exact x_iret hx hb hr rfl hlk hR hS (by decide) (by decide) dX11_settledAt_72
    · replace hF := xiff c2 hF
      refine x_aload_n (o := (some a0)) hx hb dX11_settledAt_12 rfl (lv_at hl 0 rfl) ?_
      replace hF := xbind hF; obtain ⟨v3, ev3, hF⟩ := hF
      refine x_getI (o := (some a0)) (ci := 11) (C := RX11) (T := TX11) (N := 42) hx hb hts iw_X11 hown hR rfl 23 (by decide) mm_966 (Or.inl rfl) ev3 dX11_settledAt_13 ?_
      refine lv_if_lt (tgt := 71) hx hb dX11_settledAt_16 (by decide) (fun c4 => ?_) (fun c4 => ?_)
      · replace hF := xift c4 hF
        refine lv_iload_n hx hb dX11_settledAt_71 rfl (lv_at hl 2 rfl) ?_
        cases hF
        exact x_iret hx hb hr rfl hlk hR hS (by decide) (by decide) dX11_settledAt_72
      · replace hF := xiff c4 hF
        refine x_aload_n (o := (some a0)) hx hb dX11_settledAt_19 rfl (lv_at hl 0 rfl) ?_
        replace hF := xbind hF; obtain ⟨w5, ew5, hF⟩ := hF
        refine x_getR (o := (some a0)) (ci := 11) (C := RX11) (T := TX11) (N := 42) hx hb hts iw_X11 hown hR rfl 3 (by decide) mm_946 (Or.inl rfl) ew5 dX11_settledAt_20 ?_
        refine lv_iload_n hx hb dX11_settledAt_23 rfl (lv_at hl 3 rfl) ?_
        replace hF := xbind hF; obtain ⟨v6, ev6, hF⟩ := hF
        refine x_ild (o := w5) hx hb hR ev6 dX11_settledAt_24 ?_
        refine x_aload_n (o := (some a0)) hx hb dX11_settledAt_25 rfl (lv_at hl 0 rfl) ?_
        replace hF := xbind hF; obtain ⟨w7, ew7, hF⟩ := hF
        refine x_getR (o := (some a0)) (ci := 11) (C := RX11) (T := TX11) (N := 42) hx hb hts iw_X11 hown hR rfl 16 (by decide) mm_959 (Or.inl rfl) ew7 dX11_settledAt_26 ?_
        refine lv_iload_n hx hb dX11_settledAt_29 rfl (lv_at hl 1 rfl) ?_
        replace hF := xbind hF; obtain ⟨v8, ev8, hF⟩ := hF
        refine x_ild (o := w7) hx hb hR ev8 dX11_settledAt_30 ?_
        refine lv_icmp_ne (tgt := 65) hx hb dX11_settledAt_31 (by decide) (fun c9 => ?_) (fun c9 => ?_)
        · replace hF := xiff c9 hF
          obtain ⟨v10, ev10⟩ : ∃ z : Int32, z = (x3 + 1) := ⟨_, rfl⟩
          replace hF := xlet ev10 hF
          refine lv_iinc (v := v10) (lv' := [(3, .int v10), (0, va_rf (some a0)), (1, .int x1), (2, .int x2)]) hx hb dX11_settledAt_65 hl (k := 3) rfl (by rw [ev10]; rfl) (by decide) (by first | rfl | (simp [xrf_cat, xcI, xcJ, xcA]; done) | (simp [xrf_cat, xcI, xcJ, xcA]; decide)) (fun ls hl => ?_)
          refine lv_goto (tgt := 4) hx hb dX11_settledAt_68 (by decide) ?_
          exact ih x2 v10 _ _ _ hF hR hS (lv_sub hl [1, 2, 3, 0] rfl)
        · replace hF := xift c9 hF
          refine x_aload_n (o := (some a0)) hx hb dX11_settledAt_34 rfl (lv_at hl 0 rfl) ?_
          replace hF := xbind hF; obtain ⟨v11, ev11, hF⟩ := hF
          refine x_getI (o := (some a0)) (ci := 11) (C := RX11) (T := TX11) (N := 42) hx hb hts iw_X11 hown hR rfl 23 (by decide) mm_966 (Or.inl rfl) ev11 dX11_settledAt_35 ?_
          refine x_aload_n (o := (some a0)) hx hb dX11_settledAt_38 rfl (lv_at hl 0 rfl) ?_
          replace hF := xbind hF; obtain ⟨w12, ew12, hF⟩ := hF
          refine x_getR (o := (some a0)) (ci := 11) (C := RX11) (T := TX11) (N := 42) hx hb hts iw_X11 hown hR rfl 4 (by decide) mm_947 (Or.inl rfl) ew12 dX11_settledAt_39 ?_
          refine lv_iload_n hx hb dX11_settledAt_42 rfl (lv_at hl 3 rfl) ?_
          replace hF := xbind hF; obtain ⟨v13, ev13, hF⟩ := hF
          refine x_ild (o := w12) hx hb hR ev13 dX11_settledAt_43 ?_
          refine lv_iadd hx hb dX11_settledAt_44 ?_
          refine lv_iconst (v := 1) hx hb dX11_settledAt_45 (by decide) ?_
          refine lv_iadd hx hb dX11_settledAt_46 ?_
          refine lv_iload_n hx hb dX11_settledAt_47 rfl (lv_at hl 2 rfl) ?_
          refine lv_icmp_le (tgt := 65) hx hb dX11_settledAt_48 (by decide) (fun c14 => ?_) (fun c14 => ?_)
          · replace hF := xift c14 hF
            obtain ⟨v15, ev15⟩ : ∃ z : Int32, z = (x3 + 1) := ⟨_, rfl⟩
            replace hF := xlet ev15 hF
            refine lv_iinc (v := v15) (lv' := [(3, .int v15), (0, va_rf (some a0)), (1, .int x1), (2, .int x2)]) hx hb dX11_settledAt_65 hl (k := 3) rfl (by rw [ev15]; rfl) (by decide) (by first | rfl | (simp [xrf_cat, xcI, xcJ, xcA]; done) | (simp [xrf_cat, xcI, xcJ, xcA]; decide)) (fun ls hl => ?_)
            refine lv_goto (tgt := 4) hx hb dX11_settledAt_68 (by decide) ?_
            exact ih x2 v15 _ _ _ hF hR hS (lv_sub hl [1, 2, 3, 0] rfl)
          · replace hF := xiff c14 hF
            refine x_aload_n (o := (some a0)) hx hb dX11_settledAt_51 rfl (lv_at hl 0 rfl) ?_
            replace hF := xbind hF; obtain ⟨v16, ev16, hF⟩ := hF
            refine x_getI (o := (some a0)) (ci := 11) (C := RX11) (T := TX11) (N := 42) hx hb hts iw_X11 hown hR rfl 23 (by decide) mm_966 (Or.inl rfl) ev16 dX11_settledAt_52 ?_
            refine x_aload_n (o := (some a0)) hx hb dX11_settledAt_55 rfl (lv_at hl 0 rfl) ?_
            replace hF := xbind hF; obtain ⟨w17, ew17, hF⟩ := hF
            refine x_getR (o := (some a0)) (ci := 11) (C := RX11) (T := TX11) (N := 42) hx hb hts iw_X11 hown hR rfl 4 (by decide) mm_947 (Or.inl rfl) ew17 dX11_settledAt_56 ?_
            refine lv_iload_n hx hb dX11_settledAt_59 rfl (lv_at hl 3 rfl) ?_
            replace hF := xbind hF; obtain ⟨v18, ev18, hF⟩ := hF
            refine x_ild (o := w17) hx hb hR ev18 dX11_settledAt_60 ?_
            refine lv_iadd hx hb dX11_settledAt_61 ?_
            refine lv_iconst (v := 1) hx hb dX11_settledAt_62 (by decide) ?_
            refine lv_iadd hx hb dX11_settledAt_63 ?_
            refine lv_topi (fun v19 ev19 => ?_)
            replace hF := xlet ev19 hF
            refine lv_istore_n (lv' := [(2, .int v19), (0, va_rf (some a0)), (1, .int x1), (3, .int x3)]) hx hb dX11_settledAt_64 rfl hl (by decide) (by first | rfl | (simp [xrf_cat, xcI, xcJ, xcA]; done) | (simp [xrf_cat, xcI, xcJ, xcA]; decide)) (fun ls hl => ?_)
            obtain ⟨v20, ev20⟩ : ∃ z : Int32, z = (x3 + 1) := ⟨_, rfl⟩
            replace hF := xlet ev20 hF
            refine lv_iinc (v := v20) (lv' := [(3, .int v20), (2, .int v19), (0, va_rf (some a0)), (1, .int x1)]) hx hb dX11_settledAt_65 hl (k := 3) rfl (by rw [ev20]; rfl) (by decide) (by first | rfl | (simp [xrf_cat, xcI, xcJ, xcA]; done) | (simp [xrf_cat, xcI, xcJ, xcA]; decide)) (fun ls hl => ?_)
            refine lv_goto (tgt := 4) hx hb dX11_settledAt_68 (by decide) ?_
            exact ih v19 v20 _ _ _ hF hR hS (lv_sub hl [2, 3, 1, 0] rfl)
def F_X11_settledAt (G : Nat → Nat) (h : xH) (a0 : Nat) (x1 : Int32) : Option Int32 :=
  F_X11_settledAt_4 G h a0 x1 xN 0 0
set_option maxHeartbeats 4000000 in
set_option maxRecDepth 100000 in
theorem t_X11_settledAt (l : Launch) (D : va_G) (G : Nat → Nat) (h : xH) (a0 : Nat) (x1 : Int32) (r : Int32) (hF : F_X11_settledAt G h a0 x1 = some r) : xC l yX11_settledAt cX11_settledAt 4 (some .int) (rm_X11_settledAt) D G h [.ref a0, .int x1] (some (.int r)) h := by
  refine xC_of (by decide) (by first | decide | exact Nat.le_of_ble_eq_true rfl) ?_
  intro p e s m args below meth c ls hx hb hr hlk hml hown hnm hts hR hS hl
  have hl : lv_has ls 4 [(0, va_rf (some a0)), (1, .int x1)] := hl
  unfold F_X11_settledAt at hF
  refine lv_iconst (v := 0) hx hb dX11_settledAt_0 (by decide) ?_
  refine lv_istore_n (lv' := [(2, .int 0), (0, va_rf (some a0)), (1, .int x1)]) hx hb dX11_settledAt_1 rfl hl (by decide) (by first | rfl | (simp [xrf_cat, xcI, xcJ, xcA]; done) | (simp [xrf_cat, xcI, xcJ, xcA]; decide)) (fun ls hl => ?_)
  refine lv_iconst (v := 0) hx hb dX11_settledAt_2 (by decide) ?_
  refine lv_istore_n (lv' := [(3, .int 0), (2, .int 0), (0, va_rf (some a0)), (1, .int x1)]) hx hb dX11_settledAt_3 rfl hl (by decide) (by first | rfl | (simp [xrf_cat, xcI, xcJ, xcA]; done) | (simp [xrf_cat, xcI, xcJ, xcA]; decide)) (fun ls hl => ?_)
  refine W.widen (k := 0) (n := 0) (by decide) (by decide) ?_
  exact tl_X11_settledAt_4 hx hb hr hlk hml hown hnm hts G h a0 x1 _ 0 0 _ _ _ hF hR hS (lv_sub hl [2, 3, 1, 0] rfl)
def rm_X11_span : Room := { frames := 2, cells := 0, slots := 0, locals := 49 }
theorem f_X11_span : xM yX11_span cX11_span 4 (some .int) 3 := ⟨mm_1122, mm_62, by decide +kernel, by decide +kernel⟩
theorem dX11_span_0 : decode cX11_span 0 = .ok (.aload_n 0, 1) := by decide +kernel
theorem dX11_span_1 : decode cX11_span 1 = .ok (.aload_n 0, 1) := by decide +kernel
theorem dX11_span_2 : decode cX11_span 2 = .ok (.iload_n 1, 1) := by decide +kernel
theorem dX11_span_3 : decode cX11_span 3 = .ok (.invokevirtual 137, 3) := by decide +kernel
theorem dX11_span_6 : decode cX11_span 6 = .ok (.ifCond .eq 28, 3) := by decide +kernel
theorem dX11_span_9 : decode cX11_span 9 = .ok (.iload_n 2, 1) := by decide +kernel
theorem dX11_span_10 : decode cX11_span 10 = .ok (.ifCond .lt 24, 3) := by decide +kernel
theorem dX11_span_13 : decode cX11_span 13 = .ok (.iload_n 2, 1) := by decide +kernel
theorem dX11_span_14 : decode cX11_span 14 = .ok (.sipush 600, 3) := by decide +kernel
theorem dX11_span_17 : decode cX11_span 17 = .ok (.if_icmp .gt 17, 3) := by decide +kernel
theorem dX11_span_20 : decode cX11_span 20 = .ok (.iload_n 3, 1) := by decide +kernel
theorem dX11_span_21 : decode cX11_span 21 = .ok (.ifCond .lt 13, 3) := by decide +kernel
theorem dX11_span_24 : decode cX11_span 24 = .ok (.iload_n 3, 1) := by decide +kernel
theorem dX11_span_25 : decode cX11_span 25 = .ok (.bipush 7, 2) := by decide +kernel
theorem dX11_span_27 : decode cX11_span 27 = .ok (.if_icmp .gt 7, 3) := by decide +kernel
theorem dX11_span_30 : decode cX11_span 30 = .ok (.iconst 0, 1) := by decide +kernel
theorem dX11_span_31 : decode cX11_span 31 = .ok (.goto 4, 3) := by decide +kernel
theorem dX11_span_34 : decode cX11_span 34 = .ok (.iconst 1, 1) := by decide +kernel
theorem dX11_span_35 : decode cX11_span 35 = .ok (.putfield 93, 3) := by decide +kernel
theorem dX11_span_38 : decode cX11_span 38 = .ok (.aload_n 0, 1) := by decide +kernel
theorem dX11_span_39 : decode cX11_span 39 = .ok (.getfield 93, 3) := by decide +kernel
theorem dX11_span_42 : decode cX11_span 42 = .ok (.ifCond .le 5, 3) := by decide +kernel
theorem dX11_span_45 : decode cX11_span 45 = .ok (.iconst 0, 1) := by decide +kernel
theorem dX11_span_46 : decode cX11_span 46 = .ok (.ireturn, 1) := by decide +kernel
theorem dX11_span_47 : decode cX11_span 47 = .ok (.aload_n 0, 1) := by decide +kernel
theorem dX11_span_48 : decode cX11_span 48 = .ok (.iload_n 1, 1) := by decide +kernel
theorem dX11_span_49 : decode cX11_span 49 = .ok (.iload_n 2, 1) := by decide +kernel
theorem dX11_span_50 : decode cX11_span 50 = .ok (.invokevirtual 153, 3) := by decide +kernel
theorem dX11_span_53 : decode cX11_span 53 = .ok (.iload_n 3, 1) := by decide +kernel
theorem dX11_span_54 : decode cX11_span 54 = .ok (.tableswitch 127 0 6 #[42, 57, 64, 71, 85, 115, 121], 42) := by decide +kernel
theorem dX11_span_96 : decode cX11_span 96 = .ok (.aload_n 0, 1) := by decide +kernel
theorem dX11_span_97 : decode cX11_span 97 = .ok (.iload_n 1, 1) := by decide +kernel
theorem dX11_span_98 : decode cX11_span 98 = .ok (.aload_n 0, 1) := by decide +kernel
theorem dX11_span_99 : decode cX11_span 99 = .ok (.getfield 116, 3) := by decide +kernel
theorem dX11_span_102 : decode cX11_span 102 = .ok (.aload_n 0, 1) := by decide +kernel
theorem dX11_span_103 : decode cX11_span 103 = .ok (.getfield 120, 3) := by decide +kernel
theorem dX11_span_106 : decode cX11_span 106 = .ok (.invokevirtual 149, 3) := by decide +kernel
theorem dX11_span_109 : decode cX11_span 109 = .ok (.l2i, 1) := by decide +kernel
theorem dX11_span_110 : decode cX11_span 110 = .ok (.ireturn, 1) := by decide +kernel
theorem dX11_span_111 : decode cX11_span 111 = .ok (.aload_n 0, 1) := by decide +kernel
theorem dX11_span_112 : decode cX11_span 112 = .ok (.iload_n 1, 1) := by decide +kernel
theorem dX11_span_113 : decode cX11_span 113 = .ok (.invokevirtual 156, 3) := by decide +kernel
theorem dX11_span_116 : decode cX11_span 116 = .ok (.l2i, 1) := by decide +kernel
theorem dX11_span_117 : decode cX11_span 117 = .ok (.ireturn, 1) := by decide +kernel
theorem dX11_span_118 : decode cX11_span 118 = .ok (.aload_n 0, 1) := by decide +kernel
theorem dX11_span_119 : decode cX11_span 119 = .ok (.iload_n 1, 1) := by decide +kernel
theorem dX11_span_120 : decode cX11_span 120 = .ok (.invokevirtual 160, 3) := by decide +kernel
theorem dX11_span_123 : decode cX11_span 123 = .ok (.l2i, 1) := by decide +kernel
theorem dX11_span_124 : decode cX11_span 124 = .ok (.ireturn, 1) := by decide +kernel
theorem dX11_span_125 : decode cX11_span 125 = .ok (.aload_n 0, 1) := by decide +kernel
theorem dX11_span_126 : decode cX11_span 126 = .ok (.iload_n 1, 1) := by decide +kernel
theorem dX11_span_127 : decode cX11_span 127 = .ok (.invokevirtual 163, 3) := by decide +kernel
theorem dX11_span_130 : decode cX11_span 130 = .ok (.ifCond .eq 7, 3) := by decide +kernel
theorem dX11_span_133 : decode cX11_span 133 = .ok (.iconst 1, 1) := by decide +kernel
theorem dX11_span_134 : decode cX11_span 134 = .ok (.goto 4, 3) := by decide +kernel
theorem dX11_span_137 : decode cX11_span 137 = .ok (.iconst 0, 1) := by decide +kernel
theorem dX11_span_138 : decode cX11_span 138 = .ok (.ireturn, 1) := by decide +kernel
theorem dX11_span_139 : decode cX11_span 139 = .ok (.aload_n 0, 1) := by decide +kernel
theorem dX11_span_140 : decode cX11_span 140 = .ok (.iload_n 1, 1) := by decide +kernel
theorem dX11_span_141 : decode cX11_span 141 = .ok (.invokevirtual 156, 3) := by decide +kernel
theorem dX11_span_144 : decode cX11_span 144 = .ok (.lconst 0, 1) := by decide +kernel
theorem dX11_span_145 : decode cX11_span 145 = .ok (.lcmp, 1) := by decide +kernel
theorem dX11_span_146 : decode cX11_span 146 = .ok (.ifCond .lt 7, 3) := by decide +kernel
theorem dX11_span_149 : decode cX11_span 149 = .ok (.iconst 1, 1) := by decide +kernel
theorem dX11_span_150 : decode cX11_span 150 = .ok (.goto 18, 3) := by decide +kernel
theorem dX11_span_153 : decode cX11_span 153 = .ok (.aload_n 0, 1) := by decide +kernel
theorem dX11_span_154 : decode cX11_span 154 = .ok (.iload_n 1, 1) := by decide +kernel
theorem dX11_span_155 : decode cX11_span 155 = .ok (.invokevirtual 160, 3) := by decide +kernel
theorem dX11_span_158 : decode cX11_span 158 = .ok (.lconst 0, 1) := by decide +kernel
theorem dX11_span_159 : decode cX11_span 159 = .ok (.lcmp, 1) := by decide +kernel
theorem dX11_span_160 : decode cX11_span 160 = .ok (.ifCond .ge 7, 3) := by decide +kernel
theorem dX11_span_163 : decode cX11_span 163 = .ok (.iconst 2, 1) := by decide +kernel
theorem dX11_span_164 : decode cX11_span 164 = .ok (.goto 4, 3) := by decide +kernel
theorem dX11_span_167 : decode cX11_span 167 = .ok (.iconst 0, 1) := by decide +kernel
theorem dX11_span_168 : decode cX11_span 168 = .ok (.ireturn, 1) := by decide +kernel
theorem dX11_span_169 : decode cX11_span 169 = .ok (.aload_n 0, 1) := by decide +kernel
theorem dX11_span_170 : decode cX11_span 170 = .ok (.iload_n 1, 1) := by decide +kernel
theorem dX11_span_171 : decode cX11_span 171 = .ok (.invokevirtual 166, 3) := by decide +kernel
theorem dX11_span_174 : decode cX11_span 174 = .ok (.ireturn, 1) := by decide +kernel
theorem dX11_span_175 : decode cX11_span 175 = .ok (.aload_n 0, 1) := by decide +kernel
theorem dX11_span_176 : decode cX11_span 176 = .ok (.getfield 116, 3) := by decide +kernel
theorem dX11_span_179 : decode cX11_span 179 = .ok (.l2i, 1) := by decide +kernel
theorem dX11_span_180 : decode cX11_span 180 = .ok (.ireturn, 1) := by decide +kernel
theorem dX11_span_181 : decode cX11_span 181 = .ok (.aload_n 0, 1) := by decide +kernel
theorem dX11_span_182 : decode cX11_span 182 = .ok (.getfield 120, 3) := by decide +kernel
theorem dX11_span_185 : decode cX11_span 185 = .ok (.l2i, 1) := by decide +kernel
theorem dX11_span_186 : decode cX11_span 186 = .ok (.ireturn, 1) := by decide +kernel
def F_X11_span (G : Nat → Nat) (h : xH) (a0 : Nat) (x1 : Int32) (x2 : Int32) (x3 : Int32) : Option (Int32 × xH) :=
  (xc h (some a0) 11).bind fun b2 =>
  (F_X11_isPromise G h b2 x1).bind fun v1 =>
  if v1 = 0 then
    (xp G h (some a0) 11 0 (.int 1)).bind fun h4 =>
    (gI h4 (some a0) 11 0).bind fun v5 =>
    if v5 ≤ 0 then
      (xc h4 (some a0) 11).bind fun b8 =>
      (F_X11_spans G h4 b8 x1 x2).bind fun h7 =>
      if x3 = 0 then
        (gJ h7 (some a0) 11 12).bind fun v10 =>
        (gJ h7 (some a0) 11 13).bind fun v11 =>
        (xc h7 (some a0) 11).bind fun b13 =>
        (F_X11_leftOf G h7 b13 x1 v10 v11).bind fun v12 =>
        some (((v12 : Int64).toInt32), h7)
      else
      if x3 = 1 then
        (xc h7 (some a0) 11).bind fun b16 =>
        (F_X11_least G h7 b16 x1).bind fun v15 =>
        some (((v15 : Int64).toInt32), h7)
      else
      if x3 = 2 then
        (xc h7 (some a0) 11).bind fun b19 =>
        (F_X11_greatest G h7 b19 x1).bind fun v18 =>
        some (((v18 : Int64).toInt32), h7)
      else
      if x3 = 3 then
        (xc h7 (some a0) 11).bind fun b22 =>
        (F_X11_isWhole G h7 b22 x1).bind fun v21 =>
        if v21 = 0 then
          some (0, h7)
        else
        some (1, h7)
      else
      if x3 = 4 then
        (xc h7 (some a0) 11).bind fun b26 =>
        (F_X11_least G h7 b26 x1).bind fun v25 =>
        if (lg_cmp v25 0) < 0 then
          (xc h7 (some a0) 11).bind fun b29 =>
          (F_X11_greatest G h7 b29 x1).bind fun v28 =>
          if 0 ≤ (lg_cmp v28 0) then
            some (0, h7)
          else
          some (2, h7)
        else
        some (1, h7)
      else
      if x3 = 5 then
        (xc h7 (some a0) 11).bind fun b33 =>
        (F_X11_settledAt G h7 b33 x1).bind fun v32 =>
        some (v32, h7)
      else
      if x3 = 6 then
        (gJ h7 (some a0) 11 12).bind fun v35 =>
        some (((v35 : Int64).toInt32), h7)
      else
      (gJ h7 (some a0) 11 13).bind fun v36 =>
      some (((v36 : Int64).toInt32), h7)
    else
    some (0, h4)
  else
  if x2 < 0 then
    (xp G h (some a0) 11 0 (.int 1)).bind fun h38 =>
    (gI h38 (some a0) 11 0).bind fun v39 =>
    if v39 ≤ 0 then
      (xc h38 (some a0) 11).bind fun b42 =>
      (F_X11_spans G h38 b42 x1 x2).bind fun h41 =>
      if x3 = 0 then
        (gJ h41 (some a0) 11 12).bind fun v44 =>
        (gJ h41 (some a0) 11 13).bind fun v45 =>
        (xc h41 (some a0) 11).bind fun b47 =>
        (F_X11_leftOf G h41 b47 x1 v44 v45).bind fun v46 =>
        some (((v46 : Int64).toInt32), h41)
      else
      if x3 = 1 then
        (xc h41 (some a0) 11).bind fun b50 =>
        (F_X11_least G h41 b50 x1).bind fun v49 =>
        some (((v49 : Int64).toInt32), h41)
      else
      if x3 = 2 then
        (xc h41 (some a0) 11).bind fun b53 =>
        (F_X11_greatest G h41 b53 x1).bind fun v52 =>
        some (((v52 : Int64).toInt32), h41)
      else
      if x3 = 3 then
        (xc h41 (some a0) 11).bind fun b56 =>
        (F_X11_isWhole G h41 b56 x1).bind fun v55 =>
        if v55 = 0 then
          some (0, h41)
        else
        some (1, h41)
      else
      if x3 = 4 then
        (xc h41 (some a0) 11).bind fun b60 =>
        (F_X11_least G h41 b60 x1).bind fun v59 =>
        if (lg_cmp v59 0) < 0 then
          (xc h41 (some a0) 11).bind fun b63 =>
          (F_X11_greatest G h41 b63 x1).bind fun v62 =>
          if 0 ≤ (lg_cmp v62 0) then
            some (0, h41)
          else
          some (2, h41)
        else
        some (1, h41)
      else
      if x3 = 5 then
        (xc h41 (some a0) 11).bind fun b67 =>
        (F_X11_settledAt G h41 b67 x1).bind fun v66 =>
        some (v66, h41)
      else
      if x3 = 6 then
        (gJ h41 (some a0) 11 12).bind fun v69 =>
        some (((v69 : Int64).toInt32), h41)
      else
      (gJ h41 (some a0) 11 13).bind fun v70 =>
      some (((v70 : Int64).toInt32), h41)
    else
    some (0, h38)
  else
  if 600 < x2 then
    (xp G h (some a0) 11 0 (.int 1)).bind fun h72 =>
    (gI h72 (some a0) 11 0).bind fun v73 =>
    if v73 ≤ 0 then
      (xc h72 (some a0) 11).bind fun b76 =>
      (F_X11_spans G h72 b76 x1 x2).bind fun h75 =>
      if x3 = 0 then
        (gJ h75 (some a0) 11 12).bind fun v78 =>
        (gJ h75 (some a0) 11 13).bind fun v79 =>
        (xc h75 (some a0) 11).bind fun b81 =>
        (F_X11_leftOf G h75 b81 x1 v78 v79).bind fun v80 =>
        some (((v80 : Int64).toInt32), h75)
      else
      if x3 = 1 then
        (xc h75 (some a0) 11).bind fun b84 =>
        (F_X11_least G h75 b84 x1).bind fun v83 =>
        some (((v83 : Int64).toInt32), h75)
      else
      if x3 = 2 then
        (xc h75 (some a0) 11).bind fun b87 =>
        (F_X11_greatest G h75 b87 x1).bind fun v86 =>
        some (((v86 : Int64).toInt32), h75)
      else
      if x3 = 3 then
        (xc h75 (some a0) 11).bind fun b90 =>
        (F_X11_isWhole G h75 b90 x1).bind fun v89 =>
        if v89 = 0 then
          some (0, h75)
        else
        some (1, h75)
      else
      if x3 = 4 then
        (xc h75 (some a0) 11).bind fun b94 =>
        (F_X11_least G h75 b94 x1).bind fun v93 =>
        if (lg_cmp v93 0) < 0 then
          (xc h75 (some a0) 11).bind fun b97 =>
          (F_X11_greatest G h75 b97 x1).bind fun v96 =>
          if 0 ≤ (lg_cmp v96 0) then
            some (0, h75)
          else
          some (2, h75)
        else
        some (1, h75)
      else
      if x3 = 5 then
        (xc h75 (some a0) 11).bind fun b101 =>
        (F_X11_settledAt G h75 b101 x1).bind fun v100 =>
        some (v100, h75)
      else
      if x3 = 6 then
        (gJ h75 (some a0) 11 12).bind fun v103 =>
        some (((v103 : Int64).toInt32), h75)
      else
      (gJ h75 (some a0) 11 13).bind fun v104 =>
      some (((v104 : Int64).toInt32), h75)
    else
    some (0, h72)
  else
  if x3 < 0 then
    (xp G h (some a0) 11 0 (.int 1)).bind fun h106 =>
    (gI h106 (some a0) 11 0).bind fun v107 =>
    if v107 ≤ 0 then
      (xc h106 (some a0) 11).bind fun b110 =>
      (F_X11_spans G h106 b110 x1 x2).bind fun h109 =>
      if x3 = 0 then
        (gJ h109 (some a0) 11 12).bind fun v112 =>
        (gJ h109 (some a0) 11 13).bind fun v113 =>
        (xc h109 (some a0) 11).bind fun b115 =>
        (F_X11_leftOf G h109 b115 x1 v112 v113).bind fun v114 =>
        some (((v114 : Int64).toInt32), h109)
      else
      if x3 = 1 then
        (xc h109 (some a0) 11).bind fun b118 =>
        (F_X11_least G h109 b118 x1).bind fun v117 =>
        some (((v117 : Int64).toInt32), h109)
      else
      if x3 = 2 then
        (xc h109 (some a0) 11).bind fun b121 =>
        (F_X11_greatest G h109 b121 x1).bind fun v120 =>
        some (((v120 : Int64).toInt32), h109)
      else
      if x3 = 3 then
        (xc h109 (some a0) 11).bind fun b124 =>
        (F_X11_isWhole G h109 b124 x1).bind fun v123 =>
        if v123 = 0 then
          some (0, h109)
        else
        some (1, h109)
      else
      if x3 = 4 then
        (xc h109 (some a0) 11).bind fun b128 =>
        (F_X11_least G h109 b128 x1).bind fun v127 =>
        if (lg_cmp v127 0) < 0 then
          (xc h109 (some a0) 11).bind fun b131 =>
          (F_X11_greatest G h109 b131 x1).bind fun v130 =>
          if 0 ≤ (lg_cmp v130 0) then
            some (0, h109)
          else
          some (2, h109)
        else
        some (1, h109)
      else
      if x3 = 5 then
        (xc h109 (some a0) 11).bind fun b135 =>
        (F_X11_settledAt G h109 b135 x1).bind fun v134 =>
        some (v134, h109)
      else
      if x3 = 6 then
        (gJ h109 (some a0) 11 12).bind fun v137 =>
        some (((v137 : Int64).toInt32), h109)
      else
      (gJ h109 (some a0) 11 13).bind fun v138 =>
      some (((v138 : Int64).toInt32), h109)
    else
    some (0, h106)
  else
  if 7 < x3 then
    (xp G h (some a0) 11 0 (.int 1)).bind fun h140 =>
    (gI h140 (some a0) 11 0).bind fun v141 =>
    if v141 ≤ 0 then
      (xc h140 (some a0) 11).bind fun b144 =>
      (F_X11_spans G h140 b144 x1 x2).bind fun h143 =>
      if x3 = 0 then
        (gJ h143 (some a0) 11 12).bind fun v146 =>
        (gJ h143 (some a0) 11 13).bind fun v147 =>
        (xc h143 (some a0) 11).bind fun b149 =>
        (F_X11_leftOf G h143 b149 x1 v146 v147).bind fun v148 =>
        some (((v148 : Int64).toInt32), h143)
      else
      if x3 = 1 then
        (xc h143 (some a0) 11).bind fun b152 =>
        (F_X11_least G h143 b152 x1).bind fun v151 =>
        some (((v151 : Int64).toInt32), h143)
      else
      if x3 = 2 then
        (xc h143 (some a0) 11).bind fun b155 =>
        (F_X11_greatest G h143 b155 x1).bind fun v154 =>
        some (((v154 : Int64).toInt32), h143)
      else
      if x3 = 3 then
        (xc h143 (some a0) 11).bind fun b158 =>
        (F_X11_isWhole G h143 b158 x1).bind fun v157 =>
        if v157 = 0 then
          some (0, h143)
        else
        some (1, h143)
      else
      if x3 = 4 then
        (xc h143 (some a0) 11).bind fun b162 =>
        (F_X11_least G h143 b162 x1).bind fun v161 =>
        if (lg_cmp v161 0) < 0 then
          (xc h143 (some a0) 11).bind fun b165 =>
          (F_X11_greatest G h143 b165 x1).bind fun v164 =>
          if 0 ≤ (lg_cmp v164 0) then
            some (0, h143)
          else
          some (2, h143)
        else
        some (1, h143)
      else
      if x3 = 5 then
        (xc h143 (some a0) 11).bind fun b169 =>
        (F_X11_settledAt G h143 b169 x1).bind fun v168 =>
        some (v168, h143)
      else
      if x3 = 6 then
        (gJ h143 (some a0) 11 12).bind fun v171 =>
        some (((v171 : Int64).toInt32), h143)
      else
      (gJ h143 (some a0) 11 13).bind fun v172 =>
      some (((v172 : Int64).toInt32), h143)
    else
    some (0, h140)
  else
  (xp G h (some a0) 11 0 (.int 0)).bind fun h173 =>
  (gI h173 (some a0) 11 0).bind fun v174 =>
  if v174 ≤ 0 then
    (xc h173 (some a0) 11).bind fun b177 =>
    (F_X11_spans G h173 b177 x1 x2).bind fun h176 =>
    if x3 = 0 then
      (gJ h176 (some a0) 11 12).bind fun v179 =>
      (gJ h176 (some a0) 11 13).bind fun v180 =>
      (xc h176 (some a0) 11).bind fun b182 =>
      (F_X11_leftOf G h176 b182 x1 v179 v180).bind fun v181 =>
      some (((v181 : Int64).toInt32), h176)
    else
    if x3 = 1 then
      (xc h176 (some a0) 11).bind fun b185 =>
      (F_X11_least G h176 b185 x1).bind fun v184 =>
      some (((v184 : Int64).toInt32), h176)
    else
    if x3 = 2 then
      (xc h176 (some a0) 11).bind fun b188 =>
      (F_X11_greatest G h176 b188 x1).bind fun v187 =>
      some (((v187 : Int64).toInt32), h176)
    else
    if x3 = 3 then
      (xc h176 (some a0) 11).bind fun b191 =>
      (F_X11_isWhole G h176 b191 x1).bind fun v190 =>
      if v190 = 0 then
        some (0, h176)
      else
      some (1, h176)
    else
    if x3 = 4 then
      (xc h176 (some a0) 11).bind fun b195 =>
      (F_X11_least G h176 b195 x1).bind fun v194 =>
      if (lg_cmp v194 0) < 0 then
        (xc h176 (some a0) 11).bind fun b198 =>
        (F_X11_greatest G h176 b198 x1).bind fun v197 =>
        if 0 ≤ (lg_cmp v197 0) then
          some (0, h176)
        else
        some (2, h176)
      else
      some (1, h176)
    else
    if x3 = 5 then
      (xc h176 (some a0) 11).bind fun b202 =>
      (F_X11_settledAt G h176 b202 x1).bind fun v201 =>
      some (v201, h176)
    else
    if x3 = 6 then
      (gJ h176 (some a0) 11 12).bind fun v204 =>
      some (((v204 : Int64).toInt32), h176)
    else
    (gJ h176 (some a0) 11 13).bind fun v205 =>
    some (((v205 : Int64).toInt32), h176)
  else
  some (0, h173)
set_option maxHeartbeats 4000000 in
set_option maxRecDepth 100000 in
theorem t_X11_span (l : Launch) (D : va_G) (G : Nat → Nat) (h : xH) (a0 : Nat) (x1 : Int32) (x2 : Int32) (x3 : Int32) (r : Int32) (h' : xH) (hF : F_X11_span G h a0 x1 x2 x3 = some (r, h')) : xC l yX11_span cX11_span 4 (some .int) (rm_X11_span) D G h [.ref a0, .int x1, .int x2, .int x3] (some (.int r)) h' := by
  refine xC_of (by decide) (by first | decide | exact Nat.le_of_ble_eq_true rfl) ?_
  intro p e s m args below meth c ls hx hb hr hlk hml hown hnm hts hR hS hl
  have hl : lv_has ls 4 [(0, va_rf (some a0)), (1, .int x1), (2, .int x2), (3, .int x3)] := hl
  unfold F_X11_span at hF
  refine x_aload_n (o := (some a0)) hx hb dX11_span_0 rfl (lv_at hl 0 rfl) ?_
  refine x_aload_n (o := (some a0)) hx hb dX11_span_1 rfl (lv_at hl 0 rfl) ?_
  refine lv_iload_n hx hb dX11_span_2 rfl (lv_at hl 1 rfl) ?_
  replace hF := xbind hF; obtain ⟨b2, eb2, hF⟩ := hF
  replace hF := xbind hF; obtain ⟨v1, ev1, hF⟩ := hF
  refine x_callV (o := (some a0)) (ci := 11) (As := [.int x1]) (rest := [va_rf (some a0)]) (v := (some (.int v1))) (k := 1) hx hb hml hown hts hR hS eb2 rfl rfl (t_X11_isPromise l D G h b2 x1 v1 ev1) f_X11_isPromise mm_1115 mm_1117 mm_35 rfl hl.1 rfl (by first | exact Nat.le_of_ble_eq_true rfl | simp [xrf_cat, xcI, xcJ, xcA]) dX11_span_3 (by decide) (by decide) rfl (fun H locs hR hS => ?_)
  refine lv_if_eq (tgt := 34) hx hb dX11_span_6 (by decide) (fun c3 => ?_) (fun c3 => ?_)
  · replace hF := xift c3 hF
    refine lv_iconst (v := 1) hx hb dX11_span_34 (by decide) ?_
    replace hF := xbind hF; obtain ⟨h4, eh4, hF⟩ := hF
    refine x_put (o := (some a0)) (ci := 11) (C := RX11) (T := TX11) (N := 42) hx hb hts iw_X11 tyX11_ok nmX11 hown hR hS rfl 0 (by decide) mm_943 (Or.inl rfl) rfl rfl rfl eh4 dX11_span_35 (fun H locs hR hS => ?_)
    refine x_aload_n (o := (some a0)) hx hb dX11_span_38 rfl (lv_at hl 0 rfl) ?_
    replace hF := xbind hF; obtain ⟨v5, ev5, hF⟩ := hF
    refine x_getI (o := (some a0)) (ci := 11) (C := RX11) (T := TX11) (N := 42) hx hb hts iw_X11 hown hR rfl 0 (by decide) mm_943 (Or.inl rfl) ev5 dX11_span_39 ?_
    refine lv_if_le (tgt := 47) hx hb dX11_span_42 (by decide) (fun c6 => ?_) (fun c6 => ?_)
    · replace hF := xift c6 hF
      refine x_aload_n (o := (some a0)) hx hb dX11_span_47 rfl (lv_at hl 0 rfl) ?_
      refine lv_iload_n hx hb dX11_span_48 rfl (lv_at hl 1 rfl) ?_
      refine lv_iload_n hx hb dX11_span_49 rfl (lv_at hl 2 rfl) ?_
      replace hF := xbind hF; obtain ⟨b8, eb8, hF⟩ := hF
      replace hF := xbind hF; obtain ⟨h7, eh7, hF⟩ := hF
      refine x_callV (o := (some a0)) (ci := 11) (As := [.int x1, .int x2]) (rest := []) (v := none) (k := 2) hx hb hml hown hts hR hS eb8 rfl rfl (t_X11_spans l D G h4 b8 x1 x2 h7 eh7) f_X11_spans mm_1123 mm_1125 mm_36 rfl hl.1 rfl (by first | exact Nat.le_of_ble_eq_true rfl | simp [xrf_cat, xcI, xcJ, xcA]) dX11_span_50 (by decide) (by decide) rfl (fun H locs hR hS => ?_)
      refine lv_iload_n hx hb dX11_span_53 rfl (lv_at hl 3 rfl) ?_
      by_cases c9 : x3 = 0
      · replace hF := xift c9 hF
        refine lv_tableIn (off := 42) (tgt := 96) hx hb dX11_span_54 (by rw [c9]; decide) (by rw [c9]; decide) (by rw [c9]; rfl) (by decide) ?_
        refine x_aload_n (o := (some a0)) hx hb dX11_span_96 rfl (lv_at hl 0 rfl) ?_
        refine lv_iload_n hx hb dX11_span_97 rfl (lv_at hl 1 rfl) ?_
        refine x_aload_n (o := (some a0)) hx hb dX11_span_98 rfl (lv_at hl 0 rfl) ?_
        replace hF := xbind hF; obtain ⟨v10, ev10, hF⟩ := hF
        refine x_getJ (o := (some a0)) (ci := 11) (C := RX11) (T := TX11) (N := 42) hx hb hts iw_X11 hown hR rfl 12 (by decide) mm_955 (Or.inl rfl) ev10 dX11_span_99 ?_
        refine x_aload_n (o := (some a0)) hx hb dX11_span_102 rfl (lv_at hl 0 rfl) ?_
        replace hF := xbind hF; obtain ⟨v11, ev11, hF⟩ := hF
        refine x_getJ (o := (some a0)) (ci := 11) (C := RX11) (T := TX11) (N := 42) hx hb hts iw_X11 hown hR rfl 13 (by decide) mm_956 (Or.inl rfl) ev11 dX11_span_103 ?_
        replace hF := xbind hF; obtain ⟨b13, eb13, hF⟩ := hF
        replace hF := xbind hF; obtain ⟨v12, ev12, hF⟩ := hF
        refine x_callV (o := (some a0)) (ci := 11) (As := [.int x1, .long v10, .long v11]) (rest := []) (v := (some (.long v12))) (k := 3) hx hb hml hown hts hR hS eb13 rfl rfl (t_X11_leftOf l D G h7 b13 x1 v10 v11 v12 ev12) f_X11_leftOf mm_1131 mm_1133 mm_38 rfl hl.1 rfl (by first | exact Nat.le_of_ble_eq_true rfl | simp [xrf_cat, xcI, xcJ, xcA]) dX11_span_106 (by decide) (by decide) rfl (fun H locs hR hS => ?_)
        refine lv_l2i (v := ((v12 : Int64).toInt32)) hx hb dX11_span_109 rfl ?_
        cases hF
        exact x_iret hx hb hr rfl hlk hR hS (by decide) (by decide) dX11_span_110
      replace hF := xiff c9 hF
      by_cases c14 : x3 = 1
      · replace hF := xift c14 hF
        refine lv_tableIn (off := 57) (tgt := 111) hx hb dX11_span_54 (by rw [c14]; decide) (by rw [c14]; decide) (by rw [c14]; rfl) (by decide) ?_
        refine x_aload_n (o := (some a0)) hx hb dX11_span_111 rfl (lv_at hl 0 rfl) ?_
        refine lv_iload_n hx hb dX11_span_112 rfl (lv_at hl 1 rfl) ?_
        replace hF := xbind hF; obtain ⟨b16, eb16, hF⟩ := hF
        replace hF := xbind hF; obtain ⟨v15, ev15, hF⟩ := hF
        refine x_callV (o := (some a0)) (ci := 11) (As := [.int x1]) (rest := []) (v := (some (.long v15))) (k := 1) hx hb hml hown hts hR hS eb16 rfl rfl (t_X11_least l D G h7 b16 x1 v15 ev15) f_X11_least mm_1136 mm_1138 mm_39 rfl hl.1 rfl (by first | exact Nat.le_of_ble_eq_true rfl | simp [xrf_cat, xcI, xcJ, xcA]) dX11_span_113 (by decide) (by decide) rfl (fun H locs hR hS => ?_)
        refine lv_l2i (v := ((v15 : Int64).toInt32)) hx hb dX11_span_116 rfl ?_
        cases hF
        exact x_iret hx hb hr rfl hlk hR hS (by decide) (by decide) dX11_span_117
      replace hF := xiff c14 hF
      by_cases c17 : x3 = 2
      · replace hF := xift c17 hF
        refine lv_tableIn (off := 64) (tgt := 118) hx hb dX11_span_54 (by rw [c17]; decide) (by rw [c17]; decide) (by rw [c17]; rfl) (by decide) ?_
        refine x_aload_n (o := (some a0)) hx hb dX11_span_118 rfl (lv_at hl 0 rfl) ?_
        refine lv_iload_n hx hb dX11_span_119 rfl (lv_at hl 1 rfl) ?_
        replace hF := xbind hF; obtain ⟨b19, eb19, hF⟩ := hF
        replace hF := xbind hF; obtain ⟨v18, ev18, hF⟩ := hF
        refine x_callV (o := (some a0)) (ci := 11) (As := [.int x1]) (rest := []) (v := (some (.long v18))) (k := 1) hx hb hml hown hts hR hS eb19 rfl rfl (t_X11_greatest l D G h7 b19 x1 v18 ev18) f_X11_greatest mm_1140 mm_1142 mm_40 rfl hl.1 rfl (by first | exact Nat.le_of_ble_eq_true rfl | simp [xrf_cat, xcI, xcJ, xcA]) dX11_span_120 (by decide) (by decide) rfl (fun H locs hR hS => ?_)
        refine lv_l2i (v := ((v18 : Int64).toInt32)) hx hb dX11_span_123 rfl ?_
        cases hF
        exact x_iret hx hb hr rfl hlk hR hS (by decide) (by decide) dX11_span_124
      replace hF := xiff c17 hF
      by_cases c20 : x3 = 3
      · replace hF := xift c20 hF
        refine lv_tableIn (off := 71) (tgt := 125) hx hb dX11_span_54 (by rw [c20]; decide) (by rw [c20]; decide) (by rw [c20]; rfl) (by decide) ?_
        refine x_aload_n (o := (some a0)) hx hb dX11_span_125 rfl (lv_at hl 0 rfl) ?_
        refine lv_iload_n hx hb dX11_span_126 rfl (lv_at hl 1 rfl) ?_
        replace hF := xbind hF; obtain ⟨b22, eb22, hF⟩ := hF
        replace hF := xbind hF; obtain ⟨v21, ev21, hF⟩ := hF
        refine x_callV (o := (some a0)) (ci := 11) (As := [.int x1]) (rest := []) (v := (some (.int v21))) (k := 1) hx hb hml hown hts hR hS eb22 rfl rfl (t_X11_isWhole l D G h7 b22 x1 v21 ev21) f_X11_isWhole mm_1144 mm_1146 mm_41 rfl hl.1 rfl (by first | exact Nat.le_of_ble_eq_true rfl | simp [xrf_cat, xcI, xcJ, xcA]) dX11_span_127 (by decide) (by decide) rfl (fun H locs hR hS => ?_)
        refine lv_if_eq (tgt := 137) hx hb dX11_span_130 (by decide) (fun c23 => ?_) (fun c23 => ?_)
        · replace hF := xift c23 hF
          refine lv_iconst (v := 0) hx hb dX11_span_137 (by decide) ?_
          cases hF
          exact x_iret hx hb hr rfl hlk hR hS (by decide) (by decide) dX11_span_138
        · replace hF := xiff c23 hF
          refine lv_iconst (v := 1) hx hb dX11_span_133 (by decide) ?_
          refine lv_goto (tgt := 138) hx hb dX11_span_134 (by decide) ?_
          cases hF
          exact x_iret hx hb hr rfl hlk hR hS (by decide) (by decide) dX11_span_138
      replace hF := xiff c20 hF
      by_cases c24 : x3 = 4
      · replace hF := xift c24 hF
        refine lv_tableIn (off := 85) (tgt := 139) hx hb dX11_span_54 (by rw [c24]; decide) (by rw [c24]; decide) (by rw [c24]; rfl) (by decide) ?_
        refine x_aload_n (o := (some a0)) hx hb dX11_span_139 rfl (lv_at hl 0 rfl) ?_
        refine lv_iload_n hx hb dX11_span_140 rfl (lv_at hl 1 rfl) ?_
        replace hF := xbind hF; obtain ⟨b26, eb26, hF⟩ := hF
        replace hF := xbind hF; obtain ⟨v25, ev25, hF⟩ := hF
        refine x_callV (o := (some a0)) (ci := 11) (As := [.int x1]) (rest := []) (v := (some (.long v25))) (k := 1) hx hb hml hown hts hR hS eb26 rfl rfl (t_X11_least l D G h7 b26 x1 v25 ev25) f_X11_least mm_1136 mm_1138 mm_39 rfl hl.1 rfl (by first | exact Nat.le_of_ble_eq_true rfl | simp [xrf_cat, xcI, xcJ, xcA]) dX11_span_141 (by decide) (by decide) rfl (fun H locs hR hS => ?_)
        refine lv_lconst (v := 0) hx hb dX11_span_144 (by decide) ?_
        refine W.lcmp hx hb dX11_span_145 ?_
        refine lv_if_lt (tgt := 153) hx hb dX11_span_146 (by decide) (fun c27 => ?_) (fun c27 => ?_)
        · replace hF := xift c27 hF
          refine x_aload_n (o := (some a0)) hx hb dX11_span_153 rfl (lv_at hl 0 rfl) ?_
          refine lv_iload_n hx hb dX11_span_154 rfl (lv_at hl 1 rfl) ?_
          replace hF := xbind hF; obtain ⟨b29, eb29, hF⟩ := hF
          replace hF := xbind hF; obtain ⟨v28, ev28, hF⟩ := hF
          refine x_callV (o := (some a0)) (ci := 11) (As := [.int x1]) (rest := []) (v := (some (.long v28))) (k := 1) hx hb hml hown hts hR hS eb29 rfl rfl (t_X11_greatest l D G h7 b29 x1 v28 ev28) f_X11_greatest mm_1140 mm_1142 mm_40 rfl hl.1 rfl (by first | exact Nat.le_of_ble_eq_true rfl | simp [xrf_cat, xcI, xcJ, xcA]) dX11_span_155 (by decide) (by decide) rfl (fun H locs hR hS => ?_)
          refine lv_lconst (v := 0) hx hb dX11_span_158 (by decide) ?_
          refine W.lcmp hx hb dX11_span_159 ?_
          refine lv_if_ge (tgt := 167) hx hb dX11_span_160 (by decide) (fun c30 => ?_) (fun c30 => ?_)
          · replace hF := xift c30 hF
            refine lv_iconst (v := 0) hx hb dX11_span_167 (by decide) ?_
            cases hF
            exact x_iret hx hb hr rfl hlk hR hS (by decide) (by decide) dX11_span_168
          · replace hF := xiff c30 hF
            refine lv_iconst (v := 2) hx hb dX11_span_163 (by decide) ?_
            refine lv_goto (tgt := 168) hx hb dX11_span_164 (by decide) ?_
            cases hF
            exact x_iret hx hb hr rfl hlk hR hS (by decide) (by decide) dX11_span_168
        · replace hF := xiff c27 hF
          refine lv_iconst (v := 1) hx hb dX11_span_149 (by decide) ?_
          refine lv_goto (tgt := 168) hx hb dX11_span_150 (by decide) ?_
          cases hF
          exact x_iret hx hb hr rfl hlk hR hS (by decide) (by decide) dX11_span_168
      replace hF := xiff c24 hF
      by_cases c31 : x3 = 5
      · replace hF := xift c31 hF
        refine lv_tableIn (off := 115) (tgt := 169) hx hb dX11_span_54 (by rw [c31]; decide) (by rw [c31]; decide) (by rw [c31]; rfl) (by decide) ?_
        refine x_aload_n (o := (some a0)) hx hb dX11_span_169 rfl (lv_at hl 0 rfl) ?_
        refine lv_iload_n hx hb dX11_span_170 rfl (lv_at hl 1 rfl) ?_
        replace hF := xbind hF; obtain ⟨b33, eb33, hF⟩ := hF
        replace hF := xbind hF; obtain ⟨v32, ev32, hF⟩ := hF
        refine x_callV (o := (some a0)) (ci := 11) (As := [.int x1]) (rest := []) (v := (some (.int v32))) (k := 1) hx hb hml hown hts hR hS eb33 rfl rfl (t_X11_settledAt l D G h7 b33 x1 v32 ev32) f_X11_settledAt mm_1148 mm_1150 mm_42 rfl hl.1 rfl (by first | exact Nat.le_of_ble_eq_true rfl | simp [xrf_cat, xcI, xcJ, xcA]) dX11_span_171 (by decide) (by decide) rfl (fun H locs hR hS => ?_)
        cases hF
        exact x_iret hx hb hr rfl hlk hR hS (by decide) (by decide) dX11_span_174
      replace hF := xiff c31 hF
      by_cases c34 : x3 = 6
      · replace hF := xift c34 hF
        refine lv_tableIn (off := 121) (tgt := 175) hx hb dX11_span_54 (by rw [c34]; decide) (by rw [c34]; decide) (by rw [c34]; rfl) (by decide) ?_
        refine x_aload_n (o := (some a0)) hx hb dX11_span_175 rfl (lv_at hl 0 rfl) ?_
        replace hF := xbind hF; obtain ⟨v35, ev35, hF⟩ := hF
        refine x_getJ (o := (some a0)) (ci := 11) (C := RX11) (T := TX11) (N := 42) hx hb hts iw_X11 hown hR rfl 12 (by decide) mm_955 (Or.inl rfl) ev35 dX11_span_176 ?_
        refine lv_l2i (v := ((v35 : Int64).toInt32)) hx hb dX11_span_179 rfl ?_
        cases hF
        exact x_iret hx hb hr rfl hlk hR hS (by decide) (by decide) dX11_span_180
      replace hF := xiff c34 hF
      refine lv_tableOut (tgt := 181) hx hb dX11_span_54 (by have := lv_neT c9 (a := 0) (by decide); have := lv_neT c14 (a := 1) (by decide); have := lv_neT c17 (a := 2) (by decide); have := lv_neT c20 (a := 3) (by decide); have := lv_neT c24 (a := 4) (by decide); have := lv_neT c31 (a := 5) (by decide); have := lv_neT c34 (a := 6) (by decide); omega) (by decide) ?_
      refine x_aload_n (o := (some a0)) hx hb dX11_span_181 rfl (lv_at hl 0 rfl) ?_
      replace hF := xbind hF; obtain ⟨v36, ev36, hF⟩ := hF
      refine x_getJ (o := (some a0)) (ci := 11) (C := RX11) (T := TX11) (N := 42) hx hb hts iw_X11 hown hR rfl 13 (by decide) mm_956 (Or.inl rfl) ev36 dX11_span_182 ?_
      refine lv_l2i (v := ((v36 : Int64).toInt32)) hx hb dX11_span_185 rfl ?_
      cases hF
      exact x_iret hx hb hr rfl hlk hR hS (by decide) (by decide) dX11_span_186
    · replace hF := xiff c6 hF
      refine lv_iconst (v := 0) hx hb dX11_span_45 (by decide) ?_
      cases hF
      exact x_iret hx hb hr rfl hlk hR hS (by decide) (by decide) dX11_span_46
  · replace hF := xiff c3 hF
    refine lv_iload_n hx hb dX11_span_9 rfl (lv_at hl 2 rfl) ?_
    refine lv_if_lt (tgt := 34) hx hb dX11_span_10 (by decide) (fun c37 => ?_) (fun c37 => ?_)
    · replace hF := xift c37 hF
      refine lv_iconst (v := 1) hx hb dX11_span_34 (by decide) ?_
      replace hF := xbind hF; obtain ⟨h38, eh38, hF⟩ := hF
      refine x_put (o := (some a0)) (ci := 11) (C := RX11) (T := TX11) (N := 42) hx hb hts iw_X11 tyX11_ok nmX11 hown hR hS rfl 0 (by decide) mm_943 (Or.inl rfl) rfl rfl rfl eh38 dX11_span_35 (fun H locs hR hS => ?_)
      refine x_aload_n (o := (some a0)) hx hb dX11_span_38 rfl (lv_at hl 0 rfl) ?_
      replace hF := xbind hF; obtain ⟨v39, ev39, hF⟩ := hF
      refine x_getI (o := (some a0)) (ci := 11) (C := RX11) (T := TX11) (N := 42) hx hb hts iw_X11 hown hR rfl 0 (by decide) mm_943 (Or.inl rfl) ev39 dX11_span_39 ?_
      refine lv_if_le (tgt := 47) hx hb dX11_span_42 (by decide) (fun c40 => ?_) (fun c40 => ?_)
      · replace hF := xift c40 hF
        refine x_aload_n (o := (some a0)) hx hb dX11_span_47 rfl (lv_at hl 0 rfl) ?_
        refine lv_iload_n hx hb dX11_span_48 rfl (lv_at hl 1 rfl) ?_
        refine lv_iload_n hx hb dX11_span_49 rfl (lv_at hl 2 rfl) ?_
        replace hF := xbind hF; obtain ⟨b42, eb42, hF⟩ := hF
        replace hF := xbind hF; obtain ⟨h41, eh41, hF⟩ := hF
        refine x_callV (o := (some a0)) (ci := 11) (As := [.int x1, .int x2]) (rest := []) (v := none) (k := 2) hx hb hml hown hts hR hS eb42 rfl rfl (t_X11_spans l D G h38 b42 x1 x2 h41 eh41) f_X11_spans mm_1123 mm_1125 mm_36 rfl hl.1 rfl (by first | exact Nat.le_of_ble_eq_true rfl | simp [xrf_cat, xcI, xcJ, xcA]) dX11_span_50 (by decide) (by decide) rfl (fun H locs hR hS => ?_)
        refine lv_iload_n hx hb dX11_span_53 rfl (lv_at hl 3 rfl) ?_
        by_cases c43 : x3 = 0
        · replace hF := xift c43 hF
          refine lv_tableIn (off := 42) (tgt := 96) hx hb dX11_span_54 (by rw [c43]; decide) (by rw [c43]; decide) (by rw [c43]; rfl) (by decide) ?_
          refine x_aload_n (o := (some a0)) hx hb dX11_span_96 rfl (lv_at hl 0 rfl) ?_
          refine lv_iload_n hx hb dX11_span_97 rfl (lv_at hl 1 rfl) ?_
          refine x_aload_n (o := (some a0)) hx hb dX11_span_98 rfl (lv_at hl 0 rfl) ?_
          replace hF := xbind hF; obtain ⟨v44, ev44, hF⟩ := hF
          refine x_getJ (o := (some a0)) (ci := 11) (C := RX11) (T := TX11) (N := 42) hx hb hts iw_X11 hown hR rfl 12 (by decide) mm_955 (Or.inl rfl) ev44 dX11_span_99 ?_
          refine x_aload_n (o := (some a0)) hx hb dX11_span_102 rfl (lv_at hl 0 rfl) ?_
          replace hF := xbind hF; obtain ⟨v45, ev45, hF⟩ := hF
          refine x_getJ (o := (some a0)) (ci := 11) (C := RX11) (T := TX11) (N := 42) hx hb hts iw_X11 hown hR rfl 13 (by decide) mm_956 (Or.inl rfl) ev45 dX11_span_103 ?_
          replace hF := xbind hF; obtain ⟨b47, eb47, hF⟩ := hF
          replace hF := xbind hF; obtain ⟨v46, ev46, hF⟩ := hF
          refine x_callV (o := (some a0)) (ci := 11) (As := [.int x1, .long v44, .long v45]) (rest := []) (v := (some (.long v46))) (k := 3) hx hb hml hown hts hR hS eb47 rfl rfl (t_X11_leftOf l D G h41 b47 x1 v44 v45 v46 ev46) f_X11_leftOf mm_1131 mm_1133 mm_38 rfl hl.1 rfl (by first | exact Nat.le_of_ble_eq_true rfl | simp [xrf_cat, xcI, xcJ, xcA]) dX11_span_106 (by decide) (by decide) rfl (fun H locs hR hS => ?_)
          refine lv_l2i (v := ((v46 : Int64).toInt32)) hx hb dX11_span_109 rfl ?_
          cases hF
          exact x_iret hx hb hr rfl hlk hR hS (by decide) (by decide) dX11_span_110
        replace hF := xiff c43 hF
        by_cases c48 : x3 = 1
        · replace hF := xift c48 hF
          refine lv_tableIn (off := 57) (tgt := 111) hx hb dX11_span_54 (by rw [c48]; decide) (by rw [c48]; decide) (by rw [c48]; rfl) (by decide) ?_
          refine x_aload_n (o := (some a0)) hx hb dX11_span_111 rfl (lv_at hl 0 rfl) ?_
          refine lv_iload_n hx hb dX11_span_112 rfl (lv_at hl 1 rfl) ?_
          replace hF := xbind hF; obtain ⟨b50, eb50, hF⟩ := hF
          replace hF := xbind hF; obtain ⟨v49, ev49, hF⟩ := hF
          refine x_callV (o := (some a0)) (ci := 11) (As := [.int x1]) (rest := []) (v := (some (.long v49))) (k := 1) hx hb hml hown hts hR hS eb50 rfl rfl (t_X11_least l D G h41 b50 x1 v49 ev49) f_X11_least mm_1136 mm_1138 mm_39 rfl hl.1 rfl (by first | exact Nat.le_of_ble_eq_true rfl | simp [xrf_cat, xcI, xcJ, xcA]) dX11_span_113 (by decide) (by decide) rfl (fun H locs hR hS => ?_)
          refine lv_l2i (v := ((v49 : Int64).toInt32)) hx hb dX11_span_116 rfl ?_
          cases hF
          exact x_iret hx hb hr rfl hlk hR hS (by decide) (by decide) dX11_span_117
        replace hF := xiff c48 hF
        by_cases c51 : x3 = 2
        · replace hF := xift c51 hF
          refine lv_tableIn (off := 64) (tgt := 118) hx hb dX11_span_54 (by rw [c51]; decide) (by rw [c51]; decide) (by rw [c51]; rfl) (by decide) ?_
          refine x_aload_n (o := (some a0)) hx hb dX11_span_118 rfl (lv_at hl 0 rfl) ?_
          refine lv_iload_n hx hb dX11_span_119 rfl (lv_at hl 1 rfl) ?_
          replace hF := xbind hF; obtain ⟨b53, eb53, hF⟩ := hF
          replace hF := xbind hF; obtain ⟨v52, ev52, hF⟩ := hF
          refine x_callV (o := (some a0)) (ci := 11) (As := [.int x1]) (rest := []) (v := (some (.long v52))) (k := 1) hx hb hml hown hts hR hS eb53 rfl rfl (t_X11_greatest l D G h41 b53 x1 v52 ev52) f_X11_greatest mm_1140 mm_1142 mm_40 rfl hl.1 rfl (by first | exact Nat.le_of_ble_eq_true rfl | simp [xrf_cat, xcI, xcJ, xcA]) dX11_span_120 (by decide) (by decide) rfl (fun H locs hR hS => ?_)
          refine lv_l2i (v := ((v52 : Int64).toInt32)) hx hb dX11_span_123 rfl ?_
          cases hF
          exact x_iret hx hb hr rfl hlk hR hS (by decide) (by decide) dX11_span_124
        replace hF := xiff c51 hF
        by_cases c54 : x3 = 3
        · replace hF := xift c54 hF
          refine lv_tableIn (off := 71) (tgt := 125) hx hb dX11_span_54 (by rw [c54]; decide) (by rw [c54]; decide) (by rw [c54]; rfl) (by decide) ?_
          refine x_aload_n (o := (some a0)) hx hb dX11_span_125 rfl (lv_at hl 0 rfl) ?_
          refine lv_iload_n hx hb dX11_span_126 rfl (lv_at hl 1 rfl) ?_
          replace hF := xbind hF; obtain ⟨b56, eb56, hF⟩ := hF
          replace hF := xbind hF; obtain ⟨v55, ev55, hF⟩ := hF
          refine x_callV (o := (some a0)) (ci := 11) (As := [.int x1]) (rest := []) (v := (some (.int v55))) (k := 1) hx hb hml hown hts hR hS eb56 rfl rfl (t_X11_isWhole l D G h41 b56 x1 v55 ev55) f_X11_isWhole mm_1144 mm_1146 mm_41 rfl hl.1 rfl (by first | exact Nat.le_of_ble_eq_true rfl | simp [xrf_cat, xcI, xcJ, xcA]) dX11_span_127 (by decide) (by decide) rfl (fun H locs hR hS => ?_)
          refine lv_if_eq (tgt := 137) hx hb dX11_span_130 (by decide) (fun c57 => ?_) (fun c57 => ?_)
          · replace hF := xift c57 hF
            refine lv_iconst (v := 0) hx hb dX11_span_137 (by decide) ?_
            cases hF
            exact x_iret hx hb hr rfl hlk hR hS (by decide) (by decide) dX11_span_138
          · replace hF := xiff c57 hF
            refine lv_iconst (v := 1) hx hb dX11_span_133 (by decide) ?_
            refine lv_goto (tgt := 138) hx hb dX11_span_134 (by decide) ?_
            cases hF
            exact x_iret hx hb hr rfl hlk hR hS (by decide) (by decide) dX11_span_138
        replace hF := xiff c54 hF
        by_cases c58 : x3 = 4
        · replace hF := xift c58 hF
          refine lv_tableIn (off := 85) (tgt := 139) hx hb dX11_span_54 (by rw [c58]; decide) (by rw [c58]; decide) (by rw [c58]; rfl) (by decide) ?_
          refine x_aload_n (o := (some a0)) hx hb dX11_span_139 rfl (lv_at hl 0 rfl) ?_
          refine lv_iload_n hx hb dX11_span_140 rfl (lv_at hl 1 rfl) ?_
          replace hF := xbind hF; obtain ⟨b60, eb60, hF⟩ := hF
          replace hF := xbind hF; obtain ⟨v59, ev59, hF⟩ := hF
          refine x_callV (o := (some a0)) (ci := 11) (As := [.int x1]) (rest := []) (v := (some (.long v59))) (k := 1) hx hb hml hown hts hR hS eb60 rfl rfl (t_X11_least l D G h41 b60 x1 v59 ev59) f_X11_least mm_1136 mm_1138 mm_39 rfl hl.1 rfl (by first | exact Nat.le_of_ble_eq_true rfl | simp [xrf_cat, xcI, xcJ, xcA]) dX11_span_141 (by decide) (by decide) rfl (fun H locs hR hS => ?_)
          refine lv_lconst (v := 0) hx hb dX11_span_144 (by decide) ?_
          refine W.lcmp hx hb dX11_span_145 ?_
          refine lv_if_lt (tgt := 153) hx hb dX11_span_146 (by decide) (fun c61 => ?_) (fun c61 => ?_)
          · replace hF := xift c61 hF
            refine x_aload_n (o := (some a0)) hx hb dX11_span_153 rfl (lv_at hl 0 rfl) ?_
            refine lv_iload_n hx hb dX11_span_154 rfl (lv_at hl 1 rfl) ?_
            replace hF := xbind hF; obtain ⟨b63, eb63, hF⟩ := hF
            replace hF := xbind hF; obtain ⟨v62, ev62, hF⟩ := hF
            refine x_callV (o := (some a0)) (ci := 11) (As := [.int x1]) (rest := []) (v := (some (.long v62))) (k := 1) hx hb hml hown hts hR hS eb63 rfl rfl (t_X11_greatest l D G h41 b63 x1 v62 ev62) f_X11_greatest mm_1140 mm_1142 mm_40 rfl hl.1 rfl (by first | exact Nat.le_of_ble_eq_true rfl | simp [xrf_cat, xcI, xcJ, xcA]) dX11_span_155 (by decide) (by decide) rfl (fun H locs hR hS => ?_)
            refine lv_lconst (v := 0) hx hb dX11_span_158 (by decide) ?_
            refine W.lcmp hx hb dX11_span_159 ?_
            refine lv_if_ge (tgt := 167) hx hb dX11_span_160 (by decide) (fun c64 => ?_) (fun c64 => ?_)
            · replace hF := xift c64 hF
              refine lv_iconst (v := 0) hx hb dX11_span_167 (by decide) ?_
              cases hF
              exact x_iret hx hb hr rfl hlk hR hS (by decide) (by decide) dX11_span_168
            · replace hF := xiff c64 hF
              refine lv_iconst (v := 2) hx hb dX11_span_163 (by decide) ?_
              refine lv_goto (tgt := 168) hx hb dX11_span_164 (by decide) ?_
              cases hF
              exact x_iret hx hb hr rfl hlk hR hS (by decide) (by decide) dX11_span_168
          · replace hF := xiff c61 hF
            refine lv_iconst (v := 1) hx hb dX11_span_149 (by decide) ?_
            refine lv_goto (tgt := 168) hx hb dX11_span_150 (by decide) ?_
            cases hF
            exact x_iret hx hb hr rfl hlk hR hS (by decide) (by decide) dX11_span_168
        replace hF := xiff c58 hF
        by_cases c65 : x3 = 5
        · replace hF := xift c65 hF
          refine lv_tableIn (off := 115) (tgt := 169) hx hb dX11_span_54 (by rw [c65]; decide) (by rw [c65]; decide) (by rw [c65]; rfl) (by decide) ?_
          refine x_aload_n (o := (some a0)) hx hb dX11_span_169 rfl (lv_at hl 0 rfl) ?_
          refine lv_iload_n hx hb dX11_span_170 rfl (lv_at hl 1 rfl) ?_
          replace hF := xbind hF; obtain ⟨b67, eb67, hF⟩ := hF
          replace hF := xbind hF; obtain ⟨v66, ev66, hF⟩ := hF
          refine x_callV (o := (some a0)) (ci := 11) (As := [.int x1]) (rest := []) (v := (some (.int v66))) (k := 1) hx hb hml hown hts hR hS eb67 rfl rfl (t_X11_settledAt l D G h41 b67 x1 v66 ev66) f_X11_settledAt mm_1148 mm_1150 mm_42 rfl hl.1 rfl (by first | exact Nat.le_of_ble_eq_true rfl | simp [xrf_cat, xcI, xcJ, xcA]) dX11_span_171 (by decide) (by decide) rfl (fun H locs hR hS => ?_)
          cases hF
          exact x_iret hx hb hr rfl hlk hR hS (by decide) (by decide) dX11_span_174
        replace hF := xiff c65 hF
        by_cases c68 : x3 = 6
        · replace hF := xift c68 hF
          refine lv_tableIn (off := 121) (tgt := 175) hx hb dX11_span_54 (by rw [c68]; decide) (by rw [c68]; decide) (by rw [c68]; rfl) (by decide) ?_
          refine x_aload_n (o := (some a0)) hx hb dX11_span_175 rfl (lv_at hl 0 rfl) ?_
          replace hF := xbind hF; obtain ⟨v69, ev69, hF⟩ := hF
          refine x_getJ (o := (some a0)) (ci := 11) (C := RX11) (T := TX11) (N := 42) hx hb hts iw_X11 hown hR rfl 12 (by decide) mm_955 (Or.inl rfl) ev69 dX11_span_176 ?_
          refine lv_l2i (v := ((v69 : Int64).toInt32)) hx hb dX11_span_179 rfl ?_
          cases hF
          exact x_iret hx hb hr rfl hlk hR hS (by decide) (by decide) dX11_span_180
        replace hF := xiff c68 hF
        refine lv_tableOut (tgt := 181) hx hb dX11_span_54 (by have := lv_neT c43 (a := 0) (by decide); have := lv_neT c48 (a := 1) (by decide); have := lv_neT c51 (a := 2) (by decide); have := lv_neT c54 (a := 3) (by decide); have := lv_neT c58 (a := 4) (by decide); have := lv_neT c65 (a := 5) (by decide); have := lv_neT c68 (a := 6) (by decide); omega) (by decide) ?_
        refine x_aload_n (o := (some a0)) hx hb dX11_span_181 rfl (lv_at hl 0 rfl) ?_
        replace hF := xbind hF; obtain ⟨v70, ev70, hF⟩ := hF
        refine x_getJ (o := (some a0)) (ci := 11) (C := RX11) (T := TX11) (N := 42) hx hb hts iw_X11 hown hR rfl 13 (by decide) mm_956 (Or.inl rfl) ev70 dX11_span_182 ?_
        refine lv_l2i (v := ((v70 : Int64).toInt32)) hx hb dX11_span_185 rfl ?_
        cases hF
        exact x_iret hx hb hr rfl hlk hR hS (by decide) (by decide) dX11_span_186
      · replace hF := xiff c40 hF
        refine lv_iconst (v := 0) hx hb dX11_span_45 (by decide) ?_
        cases hF
        exact x_iret hx hb hr rfl hlk hR hS (by decide) (by decide) dX11_span_46
    · replace hF := xiff c37 hF
      refine lv_iload_n hx hb dX11_span_13 rfl (lv_at hl 2 rfl) ?_
      refine lv_sipush (v := 600) hx hb dX11_span_14 (by decide) ?_
      refine lv_icmp_gt (tgt := 34) hx hb dX11_span_17 (by decide) (fun c71 => ?_) (fun c71 => ?_)
      · replace hF := xift c71 hF
        refine lv_iconst (v := 1) hx hb dX11_span_34 (by decide) ?_
        replace hF := xbind hF; obtain ⟨h72, eh72, hF⟩ := hF
        refine x_put (o := (some a0)) (ci := 11) (C := RX11) (T := TX11) (N := 42) hx hb hts iw_X11 tyX11_ok nmX11 hown hR hS rfl 0 (by decide) mm_943 (Or.inl rfl) rfl rfl rfl eh72 dX11_span_35 (fun H locs hR hS => ?_)
        refine x_aload_n (o := (some a0)) hx hb dX11_span_38 rfl (lv_at hl 0 rfl) ?_
        replace hF := xbind hF; obtain ⟨v73, ev73, hF⟩ := hF
        refine x_getI (o := (some a0)) (ci := 11) (C := RX11) (T := TX11) (N := 42) hx hb hts iw_X11 hown hR rfl 0 (by decide) mm_943 (Or.inl rfl) ev73 dX11_span_39 ?_
        refine lv_if_le (tgt := 47) hx hb dX11_span_42 (by decide) (fun c74 => ?_) (fun c74 => ?_)
        · replace hF := xift c74 hF
          refine x_aload_n (o := (some a0)) hx hb dX11_span_47 rfl (lv_at hl 0 rfl) ?_
          refine lv_iload_n hx hb dX11_span_48 rfl (lv_at hl 1 rfl) ?_
          refine lv_iload_n hx hb dX11_span_49 rfl (lv_at hl 2 rfl) ?_
          replace hF := xbind hF; obtain ⟨b76, eb76, hF⟩ := hF
          replace hF := xbind hF; obtain ⟨h75, eh75, hF⟩ := hF
          refine x_callV (o := (some a0)) (ci := 11) (As := [.int x1, .int x2]) (rest := []) (v := none) (k := 2) hx hb hml hown hts hR hS eb76 rfl rfl (t_X11_spans l D G h72 b76 x1 x2 h75 eh75) f_X11_spans mm_1123 mm_1125 mm_36 rfl hl.1 rfl (by first | exact Nat.le_of_ble_eq_true rfl | simp [xrf_cat, xcI, xcJ, xcA]) dX11_span_50 (by decide) (by decide) rfl (fun H locs hR hS => ?_)
          refine lv_iload_n hx hb dX11_span_53 rfl (lv_at hl 3 rfl) ?_
          by_cases c77 : x3 = 0
          · replace hF := xift c77 hF
            refine lv_tableIn (off := 42) (tgt := 96) hx hb dX11_span_54 (by rw [c77]; decide) (by rw [c77]; decide) (by rw [c77]; rfl) (by decide) ?_
            refine x_aload_n (o := (some a0)) hx hb dX11_span_96 rfl (lv_at hl 0 rfl) ?_
            refine lv_iload_n hx hb dX11_span_97 rfl (lv_at hl 1 rfl) ?_
            refine x_aload_n (o := (some a0)) hx hb dX11_span_98 rfl (lv_at hl 0 rfl) ?_
            replace hF := xbind hF; obtain ⟨v78, ev78, hF⟩ := hF
            refine x_getJ (o := (some a0)) (ci := 11) (C := RX11) (T := TX11) (N := 42) hx hb hts iw_X11 hown hR rfl 12 (by decide) mm_955 (Or.inl rfl) ev78 dX11_span_99 ?_
            refine x_aload_n (o := (some a0)) hx hb dX11_span_102 rfl (lv_at hl 0 rfl) ?_
            replace hF := xbind hF; obtain ⟨v79, ev79, hF⟩ := hF
            refine x_getJ (o := (some a0)) (ci := 11) (C := RX11) (T := TX11) (N := 42) hx hb hts iw_X11 hown hR rfl 13 (by decide) mm_956 (Or.inl rfl) ev79 dX11_span_103 ?_
            replace hF := xbind hF; obtain ⟨b81, eb81, hF⟩ := hF
            replace hF := xbind hF; obtain ⟨v80, ev80, hF⟩ := hF
            refine x_callV (o := (some a0)) (ci := 11) (As := [.int x1, .long v78, .long v79]) (rest := []) (v := (some (.long v80))) (k := 3) hx hb hml hown hts hR hS eb81 rfl rfl (t_X11_leftOf l D G h75 b81 x1 v78 v79 v80 ev80) f_X11_leftOf mm_1131 mm_1133 mm_38 rfl hl.1 rfl (by first | exact Nat.le_of_ble_eq_true rfl | simp [xrf_cat, xcI, xcJ, xcA]) dX11_span_106 (by decide) (by decide) rfl (fun H locs hR hS => ?_)
            refine lv_l2i (v := ((v80 : Int64).toInt32)) hx hb dX11_span_109 rfl ?_
            cases hF
            exact x_iret hx hb hr rfl hlk hR hS (by decide) (by decide) dX11_span_110
          replace hF := xiff c77 hF
          by_cases c82 : x3 = 1
          · replace hF := xift c82 hF
            refine lv_tableIn (off := 57) (tgt := 111) hx hb dX11_span_54 (by rw [c82]; decide) (by rw [c82]; decide) (by rw [c82]; rfl) (by decide) ?_
            refine x_aload_n (o := (some a0)) hx hb dX11_span_111 rfl (lv_at hl 0 rfl) ?_
            refine lv_iload_n hx hb dX11_span_112 rfl (lv_at hl 1 rfl) ?_
            replace hF := xbind hF; obtain ⟨b84, eb84, hF⟩ := hF
            replace hF := xbind hF; obtain ⟨v83, ev83, hF⟩ := hF
            refine x_callV (o := (some a0)) (ci := 11) (As := [.int x1]) (rest := []) (v := (some (.long v83))) (k := 1) hx hb hml hown hts hR hS eb84 rfl rfl (t_X11_least l D G h75 b84 x1 v83 ev83) f_X11_least mm_1136 mm_1138 mm_39 rfl hl.1 rfl (by first | exact Nat.le_of_ble_eq_true rfl | simp [xrf_cat, xcI, xcJ, xcA]) dX11_span_113 (by decide) (by decide) rfl (fun H locs hR hS => ?_)
            refine lv_l2i (v := ((v83 : Int64).toInt32)) hx hb dX11_span_116 rfl ?_
            cases hF
            exact x_iret hx hb hr rfl hlk hR hS (by decide) (by decide) dX11_span_117
          replace hF := xiff c82 hF
          by_cases c85 : x3 = 2
          · replace hF := xift c85 hF
            refine lv_tableIn (off := 64) (tgt := 118) hx hb dX11_span_54 (by rw [c85]; decide) (by rw [c85]; decide) (by rw [c85]; rfl) (by decide) ?_
            refine x_aload_n (o := (some a0)) hx hb dX11_span_118 rfl (lv_at hl 0 rfl) ?_
            refine lv_iload_n hx hb dX11_span_119 rfl (lv_at hl 1 rfl) ?_
            replace hF := xbind hF; obtain ⟨b87, eb87, hF⟩ := hF
            replace hF := xbind hF; obtain ⟨v86, ev86, hF⟩ := hF
            refine x_callV (o := (some a0)) (ci := 11) (As := [.int x1]) (rest := []) (v := (some (.long v86))) (k := 1) hx hb hml hown hts hR hS eb87 rfl rfl (t_X11_greatest l D G h75 b87 x1 v86 ev86) f_X11_greatest mm_1140 mm_1142 mm_40 rfl hl.1 rfl (by first | exact Nat.le_of_ble_eq_true rfl | simp [xrf_cat, xcI, xcJ, xcA]) dX11_span_120 (by decide) (by decide) rfl (fun H locs hR hS => ?_)
            refine lv_l2i (v := ((v86 : Int64).toInt32)) hx hb dX11_span_123 rfl ?_
            cases hF
            exact x_iret hx hb hr rfl hlk hR hS (by decide) (by decide) dX11_span_124
          replace hF := xiff c85 hF
          by_cases c88 : x3 = 3
          · replace hF := xift c88 hF
            refine lv_tableIn (off := 71) (tgt := 125) hx hb dX11_span_54 (by rw [c88]; decide) (by rw [c88]; decide) (by rw [c88]; rfl) (by decide) ?_
            refine x_aload_n (o := (some a0)) hx hb dX11_span_125 rfl (lv_at hl 0 rfl) ?_
            refine lv_iload_n hx hb dX11_span_126 rfl (lv_at hl 1 rfl) ?_
            replace hF := xbind hF; obtain ⟨b90, eb90, hF⟩ := hF
            replace hF := xbind hF; obtain ⟨v89, ev89, hF⟩ := hF
            refine x_callV (o := (some a0)) (ci := 11) (As := [.int x1]) (rest := []) (v := (some (.int v89))) (k := 1) hx hb hml hown hts hR hS eb90 rfl rfl (t_X11_isWhole l D G h75 b90 x1 v89 ev89) f_X11_isWhole mm_1144 mm_1146 mm_41 rfl hl.1 rfl (by first | exact Nat.le_of_ble_eq_true rfl | simp [xrf_cat, xcI, xcJ, xcA]) dX11_span_127 (by decide) (by decide) rfl (fun H locs hR hS => ?_)
            refine lv_if_eq (tgt := 137) hx hb dX11_span_130 (by decide) (fun c91 => ?_) (fun c91 => ?_)
            · replace hF := xift c91 hF
              refine lv_iconst (v := 0) hx hb dX11_span_137 (by decide) ?_
              cases hF
              exact x_iret hx hb hr rfl hlk hR hS (by decide) (by decide) dX11_span_138
            · replace hF := xiff c91 hF
              refine lv_iconst (v := 1) hx hb dX11_span_133 (by decide) ?_
              refine lv_goto (tgt := 138) hx hb dX11_span_134 (by decide) ?_
              cases hF
              exact x_iret hx hb hr rfl hlk hR hS (by decide) (by decide) dX11_span_138
          replace hF := xiff c88 hF
          by_cases c92 : x3 = 4
          · replace hF := xift c92 hF
            refine lv_tableIn (off := 85) (tgt := 139) hx hb dX11_span_54 (by rw [c92]; decide) (by rw [c92]; decide) (by rw [c92]; rfl) (by decide) ?_
            refine x_aload_n (o := (some a0)) hx hb dX11_span_139 rfl (lv_at hl 0 rfl) ?_
            refine lv_iload_n hx hb dX11_span_140 rfl (lv_at hl 1 rfl) ?_
            replace hF := xbind hF; obtain ⟨b94, eb94, hF⟩ := hF
            replace hF := xbind hF; obtain ⟨v93, ev93, hF⟩ := hF
            refine x_callV (o := (some a0)) (ci := 11) (As := [.int x1]) (rest := []) (v := (some (.long v93))) (k := 1) hx hb hml hown hts hR hS eb94 rfl rfl (t_X11_least l D G h75 b94 x1 v93 ev93) f_X11_least mm_1136 mm_1138 mm_39 rfl hl.1 rfl (by first | exact Nat.le_of_ble_eq_true rfl | simp [xrf_cat, xcI, xcJ, xcA]) dX11_span_141 (by decide) (by decide) rfl (fun H locs hR hS => ?_)
            refine lv_lconst (v := 0) hx hb dX11_span_144 (by decide) ?_
            refine W.lcmp hx hb dX11_span_145 ?_
            refine lv_if_lt (tgt := 153) hx hb dX11_span_146 (by decide) (fun c95 => ?_) (fun c95 => ?_)
            · replace hF := xift c95 hF
              refine x_aload_n (o := (some a0)) hx hb dX11_span_153 rfl (lv_at hl 0 rfl) ?_
              refine lv_iload_n hx hb dX11_span_154 rfl (lv_at hl 1 rfl) ?_
              replace hF := xbind hF; obtain ⟨b97, eb97, hF⟩ := hF
              replace hF := xbind hF; obtain ⟨v96, ev96, hF⟩ := hF
              refine x_callV (o := (some a0)) (ci := 11) (As := [.int x1]) (rest := []) (v := (some (.long v96))) (k := 1) hx hb hml hown hts hR hS eb97 rfl rfl (t_X11_greatest l D G h75 b97 x1 v96 ev96) f_X11_greatest mm_1140 mm_1142 mm_40 rfl hl.1 rfl (by first | exact Nat.le_of_ble_eq_true rfl | simp [xrf_cat, xcI, xcJ, xcA]) dX11_span_155 (by decide) (by decide) rfl (fun H locs hR hS => ?_)
              refine lv_lconst (v := 0) hx hb dX11_span_158 (by decide) ?_
              refine W.lcmp hx hb dX11_span_159 ?_
              refine lv_if_ge (tgt := 167) hx hb dX11_span_160 (by decide) (fun c98 => ?_) (fun c98 => ?_)
              · replace hF := xift c98 hF
                refine lv_iconst (v := 0) hx hb dX11_span_167 (by decide) ?_
                cases hF
                exact x_iret hx hb hr rfl hlk hR hS (by decide) (by decide) dX11_span_168
              · replace hF := xiff c98 hF
                refine lv_iconst (v := 2) hx hb dX11_span_163 (by decide) ?_
                refine lv_goto (tgt := 168) hx hb dX11_span_164 (by decide) ?_
                cases hF
                exact x_iret hx hb hr rfl hlk hR hS (by decide) (by decide) dX11_span_168
            · replace hF := xiff c95 hF
              refine lv_iconst (v := 1) hx hb dX11_span_149 (by decide) ?_
              refine lv_goto (tgt := 168) hx hb dX11_span_150 (by decide) ?_
              cases hF
              exact x_iret hx hb hr rfl hlk hR hS (by decide) (by decide) dX11_span_168
          replace hF := xiff c92 hF
          by_cases c99 : x3 = 5
          · replace hF := xift c99 hF
            refine lv_tableIn (off := 115) (tgt := 169) hx hb dX11_span_54 (by rw [c99]; decide) (by rw [c99]; decide) (by rw [c99]; rfl) (by decide) ?_
            refine x_aload_n (o := (some a0)) hx hb dX11_span_169 rfl (lv_at hl 0 rfl) ?_
            refine lv_iload_n hx hb dX11_span_170 rfl (lv_at hl 1 rfl) ?_
            replace hF := xbind hF; obtain ⟨b101, eb101, hF⟩ := hF
            replace hF := xbind hF; obtain ⟨v100, ev100, hF⟩ := hF
            refine x_callV (o := (some a0)) (ci := 11) (As := [.int x1]) (rest := []) (v := (some (.int v100))) (k := 1) hx hb hml hown hts hR hS eb101 rfl rfl (t_X11_settledAt l D G h75 b101 x1 v100 ev100) f_X11_settledAt mm_1148 mm_1150 mm_42 rfl hl.1 rfl (by first | exact Nat.le_of_ble_eq_true rfl | simp [xrf_cat, xcI, xcJ, xcA]) dX11_span_171 (by decide) (by decide) rfl (fun H locs hR hS => ?_)
            cases hF
            exact x_iret hx hb hr rfl hlk hR hS (by decide) (by decide) dX11_span_174
          replace hF := xiff c99 hF
          by_cases c102 : x3 = 6
          · replace hF := xift c102 hF
            refine lv_tableIn (off := 121) (tgt := 175) hx hb dX11_span_54 (by rw [c102]; decide) (by rw [c102]; decide) (by rw [c102]; rfl) (by decide) ?_
            refine x_aload_n (o := (some a0)) hx hb dX11_span_175 rfl (lv_at hl 0 rfl) ?_
            replace hF := xbind hF; obtain ⟨v103, ev103, hF⟩ := hF
            refine x_getJ (o := (some a0)) (ci := 11) (C := RX11) (T := TX11) (N := 42) hx hb hts iw_X11 hown hR rfl 12 (by decide) mm_955 (Or.inl rfl) ev103 dX11_span_176 ?_
            refine lv_l2i (v := ((v103 : Int64).toInt32)) hx hb dX11_span_179 rfl ?_
            cases hF
            exact x_iret hx hb hr rfl hlk hR hS (by decide) (by decide) dX11_span_180
          replace hF := xiff c102 hF
          refine lv_tableOut (tgt := 181) hx hb dX11_span_54 (by have := lv_neT c77 (a := 0) (by decide); have := lv_neT c82 (a := 1) (by decide); have := lv_neT c85 (a := 2) (by decide); have := lv_neT c88 (a := 3) (by decide); have := lv_neT c92 (a := 4) (by decide); have := lv_neT c99 (a := 5) (by decide); have := lv_neT c102 (a := 6) (by decide); omega) (by decide) ?_
          refine x_aload_n (o := (some a0)) hx hb dX11_span_181 rfl (lv_at hl 0 rfl) ?_
          replace hF := xbind hF; obtain ⟨v104, ev104, hF⟩ := hF
          refine x_getJ (o := (some a0)) (ci := 11) (C := RX11) (T := TX11) (N := 42) hx hb hts iw_X11 hown hR rfl 13 (by decide) mm_956 (Or.inl rfl) ev104 dX11_span_182 ?_
          refine lv_l2i (v := ((v104 : Int64).toInt32)) hx hb dX11_span_185 rfl ?_
          cases hF
          exact x_iret hx hb hr rfl hlk hR hS (by decide) (by decide) dX11_span_186
        · replace hF := xiff c74 hF
          refine lv_iconst (v := 0) hx hb dX11_span_45 (by decide) ?_
          cases hF
          exact x_iret hx hb hr rfl hlk hR hS (by decide) (by decide) dX11_span_46
      · replace hF := xiff c71 hF
        refine lv_iload_n hx hb dX11_span_20 rfl (lv_at hl 3 rfl) ?_
        refine lv_if_lt (tgt := 34) hx hb dX11_span_21 (by decide) (fun c105 => ?_) (fun c105 => ?_)
        · replace hF := xift c105 hF
          refine lv_iconst (v := 1) hx hb dX11_span_34 (by decide) ?_
          replace hF := xbind hF; obtain ⟨h106, eh106, hF⟩ := hF
          refine x_put (o := (some a0)) (ci := 11) (C := RX11) (T := TX11) (N := 42) hx hb hts iw_X11 tyX11_ok nmX11 hown hR hS rfl 0 (by decide) mm_943 (Or.inl rfl) rfl rfl rfl eh106 dX11_span_35 (fun H locs hR hS => ?_)
          refine x_aload_n (o := (some a0)) hx hb dX11_span_38 rfl (lv_at hl 0 rfl) ?_
          replace hF := xbind hF; obtain ⟨v107, ev107, hF⟩ := hF
          refine x_getI (o := (some a0)) (ci := 11) (C := RX11) (T := TX11) (N := 42) hx hb hts iw_X11 hown hR rfl 0 (by decide) mm_943 (Or.inl rfl) ev107 dX11_span_39 ?_
          refine lv_if_le (tgt := 47) hx hb dX11_span_42 (by decide) (fun c108 => ?_) (fun c108 => ?_)
          · replace hF := xift c108 hF
            refine x_aload_n (o := (some a0)) hx hb dX11_span_47 rfl (lv_at hl 0 rfl) ?_
            refine lv_iload_n hx hb dX11_span_48 rfl (lv_at hl 1 rfl) ?_
            refine lv_iload_n hx hb dX11_span_49 rfl (lv_at hl 2 rfl) ?_
            replace hF := xbind hF; obtain ⟨b110, eb110, hF⟩ := hF
            replace hF := xbind hF; obtain ⟨h109, eh109, hF⟩ := hF
            refine x_callV (o := (some a0)) (ci := 11) (As := [.int x1, .int x2]) (rest := []) (v := none) (k := 2) hx hb hml hown hts hR hS eb110 rfl rfl (t_X11_spans l D G h106 b110 x1 x2 h109 eh109) f_X11_spans mm_1123 mm_1125 mm_36 rfl hl.1 rfl (by first | exact Nat.le_of_ble_eq_true rfl | simp [xrf_cat, xcI, xcJ, xcA]) dX11_span_50 (by decide) (by decide) rfl (fun H locs hR hS => ?_)
            refine lv_iload_n hx hb dX11_span_53 rfl (lv_at hl 3 rfl) ?_
            by_cases c111 : x3 = 0
            · replace hF := xift c111 hF
              refine lv_tableIn (off := 42) (tgt := 96) hx hb dX11_span_54 (by rw [c111]; decide) (by rw [c111]; decide) (by rw [c111]; rfl) (by decide) ?_
              refine x_aload_n (o := (some a0)) hx hb dX11_span_96 rfl (lv_at hl 0 rfl) ?_
              refine lv_iload_n hx hb dX11_span_97 rfl (lv_at hl 1 rfl) ?_
              refine x_aload_n (o := (some a0)) hx hb dX11_span_98 rfl (lv_at hl 0 rfl) ?_
              replace hF := xbind hF; obtain ⟨v112, ev112, hF⟩ := hF
              refine x_getJ (o := (some a0)) (ci := 11) (C := RX11) (T := TX11) (N := 42) hx hb hts iw_X11 hown hR rfl 12 (by decide) mm_955 (Or.inl rfl) ev112 dX11_span_99 ?_
              refine x_aload_n (o := (some a0)) hx hb dX11_span_102 rfl (lv_at hl 0 rfl) ?_
              replace hF := xbind hF; obtain ⟨v113, ev113, hF⟩ := hF
              refine x_getJ (o := (some a0)) (ci := 11) (C := RX11) (T := TX11) (N := 42) hx hb hts iw_X11 hown hR rfl 13 (by decide) mm_956 (Or.inl rfl) ev113 dX11_span_103 ?_
              replace hF := xbind hF; obtain ⟨b115, eb115, hF⟩ := hF
              replace hF := xbind hF; obtain ⟨v114, ev114, hF⟩ := hF
              refine x_callV (o := (some a0)) (ci := 11) (As := [.int x1, .long v112, .long v113]) (rest := []) (v := (some (.long v114))) (k := 3) hx hb hml hown hts hR hS eb115 rfl rfl (t_X11_leftOf l D G h109 b115 x1 v112 v113 v114 ev114) f_X11_leftOf mm_1131 mm_1133 mm_38 rfl hl.1 rfl (by first | exact Nat.le_of_ble_eq_true rfl | simp [xrf_cat, xcI, xcJ, xcA]) dX11_span_106 (by decide) (by decide) rfl (fun H locs hR hS => ?_)
              refine lv_l2i (v := ((v114 : Int64).toInt32)) hx hb dX11_span_109 rfl ?_
              cases hF
              exact x_iret hx hb hr rfl hlk hR hS (by decide) (by decide) dX11_span_110
            replace hF := xiff c111 hF
            by_cases c116 : x3 = 1
            · replace hF := xift c116 hF
              refine lv_tableIn (off := 57) (tgt := 111) hx hb dX11_span_54 (by rw [c116]; decide) (by rw [c116]; decide) (by rw [c116]; rfl) (by decide) ?_
              refine x_aload_n (o := (some a0)) hx hb dX11_span_111 rfl (lv_at hl 0 rfl) ?_
              refine lv_iload_n hx hb dX11_span_112 rfl (lv_at hl 1 rfl) ?_
              replace hF := xbind hF; obtain ⟨b118, eb118, hF⟩ := hF
              replace hF := xbind hF; obtain ⟨v117, ev117, hF⟩ := hF
              refine x_callV (o := (some a0)) (ci := 11) (As := [.int x1]) (rest := []) (v := (some (.long v117))) (k := 1) hx hb hml hown hts hR hS eb118 rfl rfl (t_X11_least l D G h109 b118 x1 v117 ev117) f_X11_least mm_1136 mm_1138 mm_39 rfl hl.1 rfl (by first | exact Nat.le_of_ble_eq_true rfl | simp [xrf_cat, xcI, xcJ, xcA]) dX11_span_113 (by decide) (by decide) rfl (fun H locs hR hS => ?_)
              refine lv_l2i (v := ((v117 : Int64).toInt32)) hx hb dX11_span_116 rfl ?_
              cases hF
              exact x_iret hx hb hr rfl hlk hR hS (by decide) (by decide) dX11_span_117
            replace hF := xiff c116 hF
            by_cases c119 : x3 = 2
            · replace hF := xift c119 hF
              refine lv_tableIn (off := 64) (tgt := 118) hx hb dX11_span_54 (by rw [c119]; decide) (by rw [c119]; decide) (by rw [c119]; rfl) (by decide) ?_
              refine x_aload_n (o := (some a0)) hx hb dX11_span_118 rfl (lv_at hl 0 rfl) ?_
              refine lv_iload_n hx hb dX11_span_119 rfl (lv_at hl 1 rfl) ?_
              replace hF := xbind hF; obtain ⟨b121, eb121, hF⟩ := hF
              replace hF := xbind hF; obtain ⟨v120, ev120, hF⟩ := hF
              refine x_callV (o := (some a0)) (ci := 11) (As := [.int x1]) (rest := []) (v := (some (.long v120))) (k := 1) hx hb hml hown hts hR hS eb121 rfl rfl (t_X11_greatest l D G h109 b121 x1 v120 ev120) f_X11_greatest mm_1140 mm_1142 mm_40 rfl hl.1 rfl (by first | exact Nat.le_of_ble_eq_true rfl | simp [xrf_cat, xcI, xcJ, xcA]) dX11_span_120 (by decide) (by decide) rfl (fun H locs hR hS => ?_)
              refine lv_l2i (v := ((v120 : Int64).toInt32)) hx hb dX11_span_123 rfl ?_
              cases hF
              exact x_iret hx hb hr rfl hlk hR hS (by decide) (by decide) dX11_span_124
            replace hF := xiff c119 hF
            by_cases c122 : x3 = 3
            · replace hF := xift c122 hF
              refine lv_tableIn (off := 71) (tgt := 125) hx hb dX11_span_54 (by rw [c122]; decide) (by rw [c122]; decide) (by rw [c122]; rfl) (by decide) ?_
              refine x_aload_n (o := (some a0)) hx hb dX11_span_125 rfl (lv_at hl 0 rfl) ?_
              refine lv_iload_n hx hb dX11_span_126 rfl (lv_at hl 1 rfl) ?_
              replace hF := xbind hF; obtain ⟨b124, eb124, hF⟩ := hF
              replace hF := xbind hF; obtain ⟨v123, ev123, hF⟩ := hF
              refine x_callV (o := (some a0)) (ci := 11) (As := [.int x1]) (rest := []) (v := (some (.int v123))) (k := 1) hx hb hml hown hts hR hS eb124 rfl rfl (t_X11_isWhole l D G h109 b124 x1 v123 ev123) f_X11_isWhole mm_1144 mm_1146 mm_41 rfl hl.1 rfl (by first | exact Nat.le_of_ble_eq_true rfl | simp [xrf_cat, xcI, xcJ, xcA]) dX11_span_127 (by decide) (by decide) rfl (fun H locs hR hS => ?_)
              refine lv_if_eq (tgt := 137) hx hb dX11_span_130 (by decide) (fun c125 => ?_) (fun c125 => ?_)
              · replace hF := xift c125 hF
                refine lv_iconst (v := 0) hx hb dX11_span_137 (by decide) ?_
                cases hF
                exact x_iret hx hb hr rfl hlk hR hS (by decide) (by decide) dX11_span_138
              · replace hF := xiff c125 hF
                refine lv_iconst (v := 1) hx hb dX11_span_133 (by decide) ?_
                refine lv_goto (tgt := 138) hx hb dX11_span_134 (by decide) ?_
                cases hF
                exact x_iret hx hb hr rfl hlk hR hS (by decide) (by decide) dX11_span_138
            replace hF := xiff c122 hF
            by_cases c126 : x3 = 4
            · replace hF := xift c126 hF
              refine lv_tableIn (off := 85) (tgt := 139) hx hb dX11_span_54 (by rw [c126]; decide) (by rw [c126]; decide) (by rw [c126]; rfl) (by decide) ?_
              refine x_aload_n (o := (some a0)) hx hb dX11_span_139 rfl (lv_at hl 0 rfl) ?_
              refine lv_iload_n hx hb dX11_span_140 rfl (lv_at hl 1 rfl) ?_
              replace hF := xbind hF; obtain ⟨b128, eb128, hF⟩ := hF
              replace hF := xbind hF; obtain ⟨v127, ev127, hF⟩ := hF
              refine x_callV (o := (some a0)) (ci := 11) (As := [.int x1]) (rest := []) (v := (some (.long v127))) (k := 1) hx hb hml hown hts hR hS eb128 rfl rfl (t_X11_least l D G h109 b128 x1 v127 ev127) f_X11_least mm_1136 mm_1138 mm_39 rfl hl.1 rfl (by first | exact Nat.le_of_ble_eq_true rfl | simp [xrf_cat, xcI, xcJ, xcA]) dX11_span_141 (by decide) (by decide) rfl (fun H locs hR hS => ?_)
              refine lv_lconst (v := 0) hx hb dX11_span_144 (by decide) ?_
              refine W.lcmp hx hb dX11_span_145 ?_
              refine lv_if_lt (tgt := 153) hx hb dX11_span_146 (by decide) (fun c129 => ?_) (fun c129 => ?_)
              · replace hF := xift c129 hF
                refine x_aload_n (o := (some a0)) hx hb dX11_span_153 rfl (lv_at hl 0 rfl) ?_
                refine lv_iload_n hx hb dX11_span_154 rfl (lv_at hl 1 rfl) ?_
                replace hF := xbind hF; obtain ⟨b131, eb131, hF⟩ := hF
                replace hF := xbind hF; obtain ⟨v130, ev130, hF⟩ := hF
                refine x_callV (o := (some a0)) (ci := 11) (As := [.int x1]) (rest := []) (v := (some (.long v130))) (k := 1) hx hb hml hown hts hR hS eb131 rfl rfl (t_X11_greatest l D G h109 b131 x1 v130 ev130) f_X11_greatest mm_1140 mm_1142 mm_40 rfl hl.1 rfl (by first | exact Nat.le_of_ble_eq_true rfl | simp [xrf_cat, xcI, xcJ, xcA]) dX11_span_155 (by decide) (by decide) rfl (fun H locs hR hS => ?_)
                refine lv_lconst (v := 0) hx hb dX11_span_158 (by decide) ?_
                refine W.lcmp hx hb dX11_span_159 ?_
                refine lv_if_ge (tgt := 167) hx hb dX11_span_160 (by decide) (fun c132 => ?_) (fun c132 => ?_)
                · replace hF := xift c132 hF
                  refine lv_iconst (v := 0) hx hb dX11_span_167 (by decide) ?_
                  cases hF
                  exact x_iret hx hb hr rfl hlk hR hS (by decide) (by decide) dX11_span_168
                · replace hF := xiff c132 hF
                  refine lv_iconst (v := 2) hx hb dX11_span_163 (by decide) ?_
                  refine lv_goto (tgt := 168) hx hb dX11_span_164 (by decide) ?_
                  cases hF
                  exact x_iret hx hb hr rfl hlk hR hS (by decide) (by decide) dX11_span_168
              · replace hF := xiff c129 hF
                refine lv_iconst (v := 1) hx hb dX11_span_149 (by decide) ?_
                refine lv_goto (tgt := 168) hx hb dX11_span_150 (by decide) ?_
                cases hF
                exact x_iret hx hb hr rfl hlk hR hS (by decide) (by decide) dX11_span_168
            replace hF := xiff c126 hF
            by_cases c133 : x3 = 5
            · replace hF := xift c133 hF
              refine lv_tableIn (off := 115) (tgt := 169) hx hb dX11_span_54 (by rw [c133]; decide) (by rw [c133]; decide) (by rw [c133]; rfl) (by decide) ?_
              refine x_aload_n (o := (some a0)) hx hb dX11_span_169 rfl (lv_at hl 0 rfl) ?_
              refine lv_iload_n hx hb dX11_span_170 rfl (lv_at hl 1 rfl) ?_
              replace hF := xbind hF; obtain ⟨b135, eb135, hF⟩ := hF
              replace hF := xbind hF; obtain ⟨v134, ev134, hF⟩ := hF
              refine x_callV (o := (some a0)) (ci := 11) (As := [.int x1]) (rest := []) (v := (some (.int v134))) (k := 1) hx hb hml hown hts hR hS eb135 rfl rfl (t_X11_settledAt l D G h109 b135 x1 v134 ev134) f_X11_settledAt mm_1148 mm_1150 mm_42 rfl hl.1 rfl (by first | exact Nat.le_of_ble_eq_true rfl | simp [xrf_cat, xcI, xcJ, xcA]) dX11_span_171 (by decide) (by decide) rfl (fun H locs hR hS => ?_)
              cases hF
              exact x_iret hx hb hr rfl hlk hR hS (by decide) (by decide) dX11_span_174
            replace hF := xiff c133 hF
            by_cases c136 : x3 = 6
            · replace hF := xift c136 hF
              refine lv_tableIn (off := 121) (tgt := 175) hx hb dX11_span_54 (by rw [c136]; decide) (by rw [c136]; decide) (by rw [c136]; rfl) (by decide) ?_
              refine x_aload_n (o := (some a0)) hx hb dX11_span_175 rfl (lv_at hl 0 rfl) ?_
              replace hF := xbind hF; obtain ⟨v137, ev137, hF⟩ := hF
              refine x_getJ (o := (some a0)) (ci := 11) (C := RX11) (T := TX11) (N := 42) hx hb hts iw_X11 hown hR rfl 12 (by decide) mm_955 (Or.inl rfl) ev137 dX11_span_176 ?_
              refine lv_l2i (v := ((v137 : Int64).toInt32)) hx hb dX11_span_179 rfl ?_
              cases hF
              exact x_iret hx hb hr rfl hlk hR hS (by decide) (by decide) dX11_span_180
            replace hF := xiff c136 hF
            refine lv_tableOut (tgt := 181) hx hb dX11_span_54 (by have := lv_neT c111 (a := 0) (by decide); have := lv_neT c116 (a := 1) (by decide); have := lv_neT c119 (a := 2) (by decide); have := lv_neT c122 (a := 3) (by decide); have := lv_neT c126 (a := 4) (by decide); have := lv_neT c133 (a := 5) (by decide); have := lv_neT c136 (a := 6) (by decide); omega) (by decide) ?_
            refine x_aload_n (o := (some a0)) hx hb dX11_span_181 rfl (lv_at hl 0 rfl) ?_
            replace hF := xbind hF; obtain ⟨v138, ev138, hF⟩ := hF
            refine x_getJ (o := (some a0)) (ci := 11) (C := RX11) (T := TX11) (N := 42) hx hb hts iw_X11 hown hR rfl 13 (by decide) mm_956 (Or.inl rfl) ev138 dX11_span_182 ?_
            refine lv_l2i (v := ((v138 : Int64).toInt32)) hx hb dX11_span_185 rfl ?_
            cases hF
            exact x_iret hx hb hr rfl hlk hR hS (by decide) (by decide) dX11_span_186
          · replace hF := xiff c108 hF
            refine lv_iconst (v := 0) hx hb dX11_span_45 (by decide) ?_
            cases hF
            exact x_iret hx hb hr rfl hlk hR hS (by decide) (by decide) dX11_span_46
        · replace hF := xiff c105 hF
          refine lv_iload_n hx hb dX11_span_24 rfl (lv_at hl 3 rfl) ?_
          refine lv_bipush (v := 7) hx hb dX11_span_25 (by decide) ?_
          refine lv_icmp_gt (tgt := 34) hx hb dX11_span_27 (by decide) (fun c139 => ?_) (fun c139 => ?_)
          · replace hF := xift c139 hF
            refine lv_iconst (v := 1) hx hb dX11_span_34 (by decide) ?_
            replace hF := xbind hF; obtain ⟨h140, eh140, hF⟩ := hF
            refine x_put (o := (some a0)) (ci := 11) (C := RX11) (T := TX11) (N := 42) hx hb hts iw_X11 tyX11_ok nmX11 hown hR hS rfl 0 (by decide) mm_943 (Or.inl rfl) rfl rfl rfl eh140 dX11_span_35 (fun H locs hR hS => ?_)
            refine x_aload_n (o := (some a0)) hx hb dX11_span_38 rfl (lv_at hl 0 rfl) ?_
            replace hF := xbind hF; obtain ⟨v141, ev141, hF⟩ := hF
            refine x_getI (o := (some a0)) (ci := 11) (C := RX11) (T := TX11) (N := 42) hx hb hts iw_X11 hown hR rfl 0 (by decide) mm_943 (Or.inl rfl) ev141 dX11_span_39 ?_
            refine lv_if_le (tgt := 47) hx hb dX11_span_42 (by decide) (fun c142 => ?_) (fun c142 => ?_)
            · replace hF := xift c142 hF
              refine x_aload_n (o := (some a0)) hx hb dX11_span_47 rfl (lv_at hl 0 rfl) ?_
              refine lv_iload_n hx hb dX11_span_48 rfl (lv_at hl 1 rfl) ?_
              refine lv_iload_n hx hb dX11_span_49 rfl (lv_at hl 2 rfl) ?_
              replace hF := xbind hF; obtain ⟨b144, eb144, hF⟩ := hF
              replace hF := xbind hF; obtain ⟨h143, eh143, hF⟩ := hF
              refine x_callV (o := (some a0)) (ci := 11) (As := [.int x1, .int x2]) (rest := []) (v := none) (k := 2) hx hb hml hown hts hR hS eb144 rfl rfl (t_X11_spans l D G h140 b144 x1 x2 h143 eh143) f_X11_spans mm_1123 mm_1125 mm_36 rfl hl.1 rfl (by first | exact Nat.le_of_ble_eq_true rfl | simp [xrf_cat, xcI, xcJ, xcA]) dX11_span_50 (by decide) (by decide) rfl (fun H locs hR hS => ?_)
              refine lv_iload_n hx hb dX11_span_53 rfl (lv_at hl 3 rfl) ?_
              by_cases c145 : x3 = 0
              · replace hF := xift c145 hF
                refine lv_tableIn (off := 42) (tgt := 96) hx hb dX11_span_54 (by rw [c145]; decide) (by rw [c145]; decide) (by rw [c145]; rfl) (by decide) ?_
                refine x_aload_n (o := (some a0)) hx hb dX11_span_96 rfl (lv_at hl 0 rfl) ?_
                refine lv_iload_n hx hb dX11_span_97 rfl (lv_at hl 1 rfl) ?_
                refine x_aload_n (o := (some a0)) hx hb dX11_span_98 rfl (lv_at hl 0 rfl) ?_
                replace hF := xbind hF; obtain ⟨v146, ev146, hF⟩ := hF
                refine x_getJ (o := (some a0)) (ci := 11) (C := RX11) (T := TX11) (N := 42) hx hb hts iw_X11 hown hR rfl 12 (by decide) mm_955 (Or.inl rfl) ev146 dX11_span_99 ?_
                refine x_aload_n (o := (some a0)) hx hb dX11_span_102 rfl (lv_at hl 0 rfl) ?_
                replace hF := xbind hF; obtain ⟨v147, ev147, hF⟩ := hF
                refine x_getJ (o := (some a0)) (ci := 11) (C := RX11) (T := TX11) (N := 42) hx hb hts iw_X11 hown hR rfl 13 (by decide) mm_956 (Or.inl rfl) ev147 dX11_span_103 ?_
                replace hF := xbind hF; obtain ⟨b149, eb149, hF⟩ := hF
                replace hF := xbind hF; obtain ⟨v148, ev148, hF⟩ := hF
                refine x_callV (o := (some a0)) (ci := 11) (As := [.int x1, .long v146, .long v147]) (rest := []) (v := (some (.long v148))) (k := 3) hx hb hml hown hts hR hS eb149 rfl rfl (t_X11_leftOf l D G h143 b149 x1 v146 v147 v148 ev148) f_X11_leftOf mm_1131 mm_1133 mm_38 rfl hl.1 rfl (by first | exact Nat.le_of_ble_eq_true rfl | simp [xrf_cat, xcI, xcJ, xcA]) dX11_span_106 (by decide) (by decide) rfl (fun H locs hR hS => ?_)
                refine lv_l2i (v := ((v148 : Int64).toInt32)) hx hb dX11_span_109 rfl ?_
                cases hF
                exact x_iret hx hb hr rfl hlk hR hS (by decide) (by decide) dX11_span_110
              replace hF := xiff c145 hF
              by_cases c150 : x3 = 1
              · replace hF := xift c150 hF
                refine lv_tableIn (off := 57) (tgt := 111) hx hb dX11_span_54 (by rw [c150]; decide) (by rw [c150]; decide) (by rw [c150]; rfl) (by decide) ?_
                refine x_aload_n (o := (some a0)) hx hb dX11_span_111 rfl (lv_at hl 0 rfl) ?_
                refine lv_iload_n hx hb dX11_span_112 rfl (lv_at hl 1 rfl) ?_
                replace hF := xbind hF; obtain ⟨b152, eb152, hF⟩ := hF
                replace hF := xbind hF; obtain ⟨v151, ev151, hF⟩ := hF
                refine x_callV (o := (some a0)) (ci := 11) (As := [.int x1]) (rest := []) (v := (some (.long v151))) (k := 1) hx hb hml hown hts hR hS eb152 rfl rfl (t_X11_least l D G h143 b152 x1 v151 ev151) f_X11_least mm_1136 mm_1138 mm_39 rfl hl.1 rfl (by first | exact Nat.le_of_ble_eq_true rfl | simp [xrf_cat, xcI, xcJ, xcA]) dX11_span_113 (by decide) (by decide) rfl (fun H locs hR hS => ?_)
                refine lv_l2i (v := ((v151 : Int64).toInt32)) hx hb dX11_span_116 rfl ?_
                cases hF
                exact x_iret hx hb hr rfl hlk hR hS (by decide) (by decide) dX11_span_117
              replace hF := xiff c150 hF
              by_cases c153 : x3 = 2
              · replace hF := xift c153 hF
                refine lv_tableIn (off := 64) (tgt := 118) hx hb dX11_span_54 (by rw [c153]; decide) (by rw [c153]; decide) (by rw [c153]; rfl) (by decide) ?_
                refine x_aload_n (o := (some a0)) hx hb dX11_span_118 rfl (lv_at hl 0 rfl) ?_
                refine lv_iload_n hx hb dX11_span_119 rfl (lv_at hl 1 rfl) ?_
                replace hF := xbind hF; obtain ⟨b155, eb155, hF⟩ := hF
                replace hF := xbind hF; obtain ⟨v154, ev154, hF⟩ := hF
                refine x_callV (o := (some a0)) (ci := 11) (As := [.int x1]) (rest := []) (v := (some (.long v154))) (k := 1) hx hb hml hown hts hR hS eb155 rfl rfl (t_X11_greatest l D G h143 b155 x1 v154 ev154) f_X11_greatest mm_1140 mm_1142 mm_40 rfl hl.1 rfl (by first | exact Nat.le_of_ble_eq_true rfl | simp [xrf_cat, xcI, xcJ, xcA]) dX11_span_120 (by decide) (by decide) rfl (fun H locs hR hS => ?_)
                refine lv_l2i (v := ((v154 : Int64).toInt32)) hx hb dX11_span_123 rfl ?_
                cases hF
                exact x_iret hx hb hr rfl hlk hR hS (by decide) (by decide) dX11_span_124
              replace hF := xiff c153 hF
              by_cases c156 : x3 = 3
              · replace hF := xift c156 hF
                refine lv_tableIn (off := 71) (tgt := 125) hx hb dX11_span_54 (by rw [c156]; decide) (by rw [c156]; decide) (by rw [c156]; rfl) (by decide) ?_
                refine x_aload_n (o := (some a0)) hx hb dX11_span_125 rfl (lv_at hl 0 rfl) ?_
                refine lv_iload_n hx hb dX11_span_126 rfl (lv_at hl 1 rfl) ?_
                replace hF := xbind hF; obtain ⟨b158, eb158, hF⟩ := hF
                replace hF := xbind hF; obtain ⟨v157, ev157, hF⟩ := hF
                refine x_callV (o := (some a0)) (ci := 11) (As := [.int x1]) (rest := []) (v := (some (.int v157))) (k := 1) hx hb hml hown hts hR hS eb158 rfl rfl (t_X11_isWhole l D G h143 b158 x1 v157 ev157) f_X11_isWhole mm_1144 mm_1146 mm_41 rfl hl.1 rfl (by first | exact Nat.le_of_ble_eq_true rfl | simp [xrf_cat, xcI, xcJ, xcA]) dX11_span_127 (by decide) (by decide) rfl (fun H locs hR hS => ?_)
                refine lv_if_eq (tgt := 137) hx hb dX11_span_130 (by decide) (fun c159 => ?_) (fun c159 => ?_)
                · replace hF := xift c159 hF
                  refine lv_iconst (v := 0) hx hb dX11_span_137 (by decide) ?_
                  cases hF
                  exact x_iret hx hb hr rfl hlk hR hS (by decide) (by decide) dX11_span_138
                · replace hF := xiff c159 hF
                  refine lv_iconst (v := 1) hx hb dX11_span_133 (by decide) ?_
                  refine lv_goto (tgt := 138) hx hb dX11_span_134 (by decide) ?_
                  cases hF
                  exact x_iret hx hb hr rfl hlk hR hS (by decide) (by decide) dX11_span_138
              replace hF := xiff c156 hF
              by_cases c160 : x3 = 4
              · replace hF := xift c160 hF
                refine lv_tableIn (off := 85) (tgt := 139) hx hb dX11_span_54 (by rw [c160]; decide) (by rw [c160]; decide) (by rw [c160]; rfl) (by decide) ?_
                refine x_aload_n (o := (some a0)) hx hb dX11_span_139 rfl (lv_at hl 0 rfl) ?_
                refine lv_iload_n hx hb dX11_span_140 rfl (lv_at hl 1 rfl) ?_
                replace hF := xbind hF; obtain ⟨b162, eb162, hF⟩ := hF
                replace hF := xbind hF; obtain ⟨v161, ev161, hF⟩ := hF
                refine x_callV (o := (some a0)) (ci := 11) (As := [.int x1]) (rest := []) (v := (some (.long v161))) (k := 1) hx hb hml hown hts hR hS eb162 rfl rfl (t_X11_least l D G h143 b162 x1 v161 ev161) f_X11_least mm_1136 mm_1138 mm_39 rfl hl.1 rfl (by first | exact Nat.le_of_ble_eq_true rfl | simp [xrf_cat, xcI, xcJ, xcA]) dX11_span_141 (by decide) (by decide) rfl (fun H locs hR hS => ?_)
                refine lv_lconst (v := 0) hx hb dX11_span_144 (by decide) ?_
                refine W.lcmp hx hb dX11_span_145 ?_
                refine lv_if_lt (tgt := 153) hx hb dX11_span_146 (by decide) (fun c163 => ?_) (fun c163 => ?_)
                · replace hF := xift c163 hF
                  refine x_aload_n (o := (some a0)) hx hb dX11_span_153 rfl (lv_at hl 0 rfl) ?_
                  refine lv_iload_n hx hb dX11_span_154 rfl (lv_at hl 1 rfl) ?_
                  replace hF := xbind hF; obtain ⟨b165, eb165, hF⟩ := hF
                  replace hF := xbind hF; obtain ⟨v164, ev164, hF⟩ := hF
                  refine x_callV (o := (some a0)) (ci := 11) (As := [.int x1]) (rest := []) (v := (some (.long v164))) (k := 1) hx hb hml hown hts hR hS eb165 rfl rfl (t_X11_greatest l D G h143 b165 x1 v164 ev164) f_X11_greatest mm_1140 mm_1142 mm_40 rfl hl.1 rfl (by first | exact Nat.le_of_ble_eq_true rfl | simp [xrf_cat, xcI, xcJ, xcA]) dX11_span_155 (by decide) (by decide) rfl (fun H locs hR hS => ?_)
                  refine lv_lconst (v := 0) hx hb dX11_span_158 (by decide) ?_
                  refine W.lcmp hx hb dX11_span_159 ?_
                  refine lv_if_ge (tgt := 167) hx hb dX11_span_160 (by decide) (fun c166 => ?_) (fun c166 => ?_)
                  · replace hF := xift c166 hF
                    refine lv_iconst (v := 0) hx hb dX11_span_167 (by decide) ?_
                    cases hF
                    exact x_iret hx hb hr rfl hlk hR hS (by decide) (by decide) dX11_span_168
                  · replace hF := xiff c166 hF
                    refine lv_iconst (v := 2) hx hb dX11_span_163 (by decide) ?_
                    refine lv_goto (tgt := 168) hx hb dX11_span_164 (by decide) ?_
                    cases hF
                    exact x_iret hx hb hr rfl hlk hR hS (by decide) (by decide) dX11_span_168
                · replace hF := xiff c163 hF
                  refine lv_iconst (v := 1) hx hb dX11_span_149 (by decide) ?_
                  refine lv_goto (tgt := 168) hx hb dX11_span_150 (by decide) ?_
                  cases hF
                  exact x_iret hx hb hr rfl hlk hR hS (by decide) (by decide) dX11_span_168
              replace hF := xiff c160 hF
              by_cases c167 : x3 = 5
              · replace hF := xift c167 hF
                refine lv_tableIn (off := 115) (tgt := 169) hx hb dX11_span_54 (by rw [c167]; decide) (by rw [c167]; decide) (by rw [c167]; rfl) (by decide) ?_
                refine x_aload_n (o := (some a0)) hx hb dX11_span_169 rfl (lv_at hl 0 rfl) ?_
                refine lv_iload_n hx hb dX11_span_170 rfl (lv_at hl 1 rfl) ?_
                replace hF := xbind hF; obtain ⟨b169, eb169, hF⟩ := hF
                replace hF := xbind hF; obtain ⟨v168, ev168, hF⟩ := hF
                refine x_callV (o := (some a0)) (ci := 11) (As := [.int x1]) (rest := []) (v := (some (.int v168))) (k := 1) hx hb hml hown hts hR hS eb169 rfl rfl (t_X11_settledAt l D G h143 b169 x1 v168 ev168) f_X11_settledAt mm_1148 mm_1150 mm_42 rfl hl.1 rfl (by first | exact Nat.le_of_ble_eq_true rfl | simp [xrf_cat, xcI, xcJ, xcA]) dX11_span_171 (by decide) (by decide) rfl (fun H locs hR hS => ?_)
                cases hF
                exact x_iret hx hb hr rfl hlk hR hS (by decide) (by decide) dX11_span_174
              replace hF := xiff c167 hF
              by_cases c170 : x3 = 6
              · replace hF := xift c170 hF
                refine lv_tableIn (off := 121) (tgt := 175) hx hb dX11_span_54 (by rw [c170]; decide) (by rw [c170]; decide) (by rw [c170]; rfl) (by decide) ?_
                refine x_aload_n (o := (some a0)) hx hb dX11_span_175 rfl (lv_at hl 0 rfl) ?_
                replace hF := xbind hF; obtain ⟨v171, ev171, hF⟩ := hF
                refine x_getJ (o := (some a0)) (ci := 11) (C := RX11) (T := TX11) (N := 42) hx hb hts iw_X11 hown hR rfl 12 (by decide) mm_955 (Or.inl rfl) ev171 dX11_span_176 ?_
                refine lv_l2i (v := ((v171 : Int64).toInt32)) hx hb dX11_span_179 rfl ?_
                cases hF
                exact x_iret hx hb hr rfl hlk hR hS (by decide) (by decide) dX11_span_180
              replace hF := xiff c170 hF
              refine lv_tableOut (tgt := 181) hx hb dX11_span_54 (by have := lv_neT c145 (a := 0) (by decide); have := lv_neT c150 (a := 1) (by decide); have := lv_neT c153 (a := 2) (by decide); have := lv_neT c156 (a := 3) (by decide); have := lv_neT c160 (a := 4) (by decide); have := lv_neT c167 (a := 5) (by decide); have := lv_neT c170 (a := 6) (by decide); omega) (by decide) ?_
              refine x_aload_n (o := (some a0)) hx hb dX11_span_181 rfl (lv_at hl 0 rfl) ?_
              replace hF := xbind hF; obtain ⟨v172, ev172, hF⟩ := hF
              refine x_getJ (o := (some a0)) (ci := 11) (C := RX11) (T := TX11) (N := 42) hx hb hts iw_X11 hown hR rfl 13 (by decide) mm_956 (Or.inl rfl) ev172 dX11_span_182 ?_
              refine lv_l2i (v := ((v172 : Int64).toInt32)) hx hb dX11_span_185 rfl ?_
              cases hF
              exact x_iret hx hb hr rfl hlk hR hS (by decide) (by decide) dX11_span_186
            · replace hF := xiff c142 hF
              refine lv_iconst (v := 0) hx hb dX11_span_45 (by decide) ?_
              cases hF
              exact x_iret hx hb hr rfl hlk hR hS (by decide) (by decide) dX11_span_46
          · replace hF := xiff c139 hF
            refine lv_iconst (v := 0) hx hb dX11_span_30 (by decide) ?_
            refine lv_goto (tgt := 35) hx hb dX11_span_31 (by decide) ?_
            replace hF := xbind hF; obtain ⟨h173, eh173, hF⟩ := hF
            refine x_put (o := (some a0)) (ci := 11) (C := RX11) (T := TX11) (N := 42) hx hb hts iw_X11 tyX11_ok nmX11 hown hR hS rfl 0 (by decide) mm_943 (Or.inl rfl) rfl rfl rfl eh173 dX11_span_35 (fun H locs hR hS => ?_)
            refine x_aload_n (o := (some a0)) hx hb dX11_span_38 rfl (lv_at hl 0 rfl) ?_
            replace hF := xbind hF; obtain ⟨v174, ev174, hF⟩ := hF
            refine x_getI (o := (some a0)) (ci := 11) (C := RX11) (T := TX11) (N := 42) hx hb hts iw_X11 hown hR rfl 0 (by decide) mm_943 (Or.inl rfl) ev174 dX11_span_39 ?_
            refine lv_if_le (tgt := 47) hx hb dX11_span_42 (by decide) (fun c175 => ?_) (fun c175 => ?_)
            · replace hF := xift c175 hF
              refine x_aload_n (o := (some a0)) hx hb dX11_span_47 rfl (lv_at hl 0 rfl) ?_
              refine lv_iload_n hx hb dX11_span_48 rfl (lv_at hl 1 rfl) ?_
              refine lv_iload_n hx hb dX11_span_49 rfl (lv_at hl 2 rfl) ?_
              replace hF := xbind hF; obtain ⟨b177, eb177, hF⟩ := hF
              replace hF := xbind hF; obtain ⟨h176, eh176, hF⟩ := hF
              refine x_callV (o := (some a0)) (ci := 11) (As := [.int x1, .int x2]) (rest := []) (v := none) (k := 2) hx hb hml hown hts hR hS eb177 rfl rfl (t_X11_spans l D G h173 b177 x1 x2 h176 eh176) f_X11_spans mm_1123 mm_1125 mm_36 rfl hl.1 rfl (by first | exact Nat.le_of_ble_eq_true rfl | simp [xrf_cat, xcI, xcJ, xcA]) dX11_span_50 (by decide) (by decide) rfl (fun H locs hR hS => ?_)
              refine lv_iload_n hx hb dX11_span_53 rfl (lv_at hl 3 rfl) ?_
              by_cases c178 : x3 = 0
              · replace hF := xift c178 hF
                refine lv_tableIn (off := 42) (tgt := 96) hx hb dX11_span_54 (by rw [c178]; decide) (by rw [c178]; decide) (by rw [c178]; rfl) (by decide) ?_
                refine x_aload_n (o := (some a0)) hx hb dX11_span_96 rfl (lv_at hl 0 rfl) ?_
                refine lv_iload_n hx hb dX11_span_97 rfl (lv_at hl 1 rfl) ?_
                refine x_aload_n (o := (some a0)) hx hb dX11_span_98 rfl (lv_at hl 0 rfl) ?_
                replace hF := xbind hF; obtain ⟨v179, ev179, hF⟩ := hF
                refine x_getJ (o := (some a0)) (ci := 11) (C := RX11) (T := TX11) (N := 42) hx hb hts iw_X11 hown hR rfl 12 (by decide) mm_955 (Or.inl rfl) ev179 dX11_span_99 ?_
                refine x_aload_n (o := (some a0)) hx hb dX11_span_102 rfl (lv_at hl 0 rfl) ?_
                replace hF := xbind hF; obtain ⟨v180, ev180, hF⟩ := hF
                refine x_getJ (o := (some a0)) (ci := 11) (C := RX11) (T := TX11) (N := 42) hx hb hts iw_X11 hown hR rfl 13 (by decide) mm_956 (Or.inl rfl) ev180 dX11_span_103 ?_
                replace hF := xbind hF; obtain ⟨b182, eb182, hF⟩ := hF
                replace hF := xbind hF; obtain ⟨v181, ev181, hF⟩ := hF
                refine x_callV (o := (some a0)) (ci := 11) (As := [.int x1, .long v179, .long v180]) (rest := []) (v := (some (.long v181))) (k := 3) hx hb hml hown hts hR hS eb182 rfl rfl (t_X11_leftOf l D G h176 b182 x1 v179 v180 v181 ev181) f_X11_leftOf mm_1131 mm_1133 mm_38 rfl hl.1 rfl (by first | exact Nat.le_of_ble_eq_true rfl | simp [xrf_cat, xcI, xcJ, xcA]) dX11_span_106 (by decide) (by decide) rfl (fun H locs hR hS => ?_)
                refine lv_l2i (v := ((v181 : Int64).toInt32)) hx hb dX11_span_109 rfl ?_
                cases hF
                exact x_iret hx hb hr rfl hlk hR hS (by decide) (by decide) dX11_span_110
              replace hF := xiff c178 hF
              by_cases c183 : x3 = 1
              · replace hF := xift c183 hF
                refine lv_tableIn (off := 57) (tgt := 111) hx hb dX11_span_54 (by rw [c183]; decide) (by rw [c183]; decide) (by rw [c183]; rfl) (by decide) ?_
                refine x_aload_n (o := (some a0)) hx hb dX11_span_111 rfl (lv_at hl 0 rfl) ?_
                refine lv_iload_n hx hb dX11_span_112 rfl (lv_at hl 1 rfl) ?_
                replace hF := xbind hF; obtain ⟨b185, eb185, hF⟩ := hF
                replace hF := xbind hF; obtain ⟨v184, ev184, hF⟩ := hF
                refine x_callV (o := (some a0)) (ci := 11) (As := [.int x1]) (rest := []) (v := (some (.long v184))) (k := 1) hx hb hml hown hts hR hS eb185 rfl rfl (t_X11_least l D G h176 b185 x1 v184 ev184) f_X11_least mm_1136 mm_1138 mm_39 rfl hl.1 rfl (by first | exact Nat.le_of_ble_eq_true rfl | simp [xrf_cat, xcI, xcJ, xcA]) dX11_span_113 (by decide) (by decide) rfl (fun H locs hR hS => ?_)
                refine lv_l2i (v := ((v184 : Int64).toInt32)) hx hb dX11_span_116 rfl ?_
                cases hF
                exact x_iret hx hb hr rfl hlk hR hS (by decide) (by decide) dX11_span_117
              replace hF := xiff c183 hF
              by_cases c186 : x3 = 2
              · replace hF := xift c186 hF
                refine lv_tableIn (off := 64) (tgt := 118) hx hb dX11_span_54 (by rw [c186]; decide) (by rw [c186]; decide) (by rw [c186]; rfl) (by decide) ?_
                refine x_aload_n (o := (some a0)) hx hb dX11_span_118 rfl (lv_at hl 0 rfl) ?_
                refine lv_iload_n hx hb dX11_span_119 rfl (lv_at hl 1 rfl) ?_
                replace hF := xbind hF; obtain ⟨b188, eb188, hF⟩ := hF
                replace hF := xbind hF; obtain ⟨v187, ev187, hF⟩ := hF
                refine x_callV (o := (some a0)) (ci := 11) (As := [.int x1]) (rest := []) (v := (some (.long v187))) (k := 1) hx hb hml hown hts hR hS eb188 rfl rfl (t_X11_greatest l D G h176 b188 x1 v187 ev187) f_X11_greatest mm_1140 mm_1142 mm_40 rfl hl.1 rfl (by first | exact Nat.le_of_ble_eq_true rfl | simp [xrf_cat, xcI, xcJ, xcA]) dX11_span_120 (by decide) (by decide) rfl (fun H locs hR hS => ?_)
                refine lv_l2i (v := ((v187 : Int64).toInt32)) hx hb dX11_span_123 rfl ?_
                cases hF
                exact x_iret hx hb hr rfl hlk hR hS (by decide) (by decide) dX11_span_124
              replace hF := xiff c186 hF
              by_cases c189 : x3 = 3
              · replace hF := xift c189 hF
                refine lv_tableIn (off := 71) (tgt := 125) hx hb dX11_span_54 (by rw [c189]; decide) (by rw [c189]; decide) (by rw [c189]; rfl) (by decide) ?_
                refine x_aload_n (o := (some a0)) hx hb dX11_span_125 rfl (lv_at hl 0 rfl) ?_
                refine lv_iload_n hx hb dX11_span_126 rfl (lv_at hl 1 rfl) ?_
                replace hF := xbind hF; obtain ⟨b191, eb191, hF⟩ := hF
                replace hF := xbind hF; obtain ⟨v190, ev190, hF⟩ := hF
                refine x_callV (o := (some a0)) (ci := 11) (As := [.int x1]) (rest := []) (v := (some (.int v190))) (k := 1) hx hb hml hown hts hR hS eb191 rfl rfl (t_X11_isWhole l D G h176 b191 x1 v190 ev190) f_X11_isWhole mm_1144 mm_1146 mm_41 rfl hl.1 rfl (by first | exact Nat.le_of_ble_eq_true rfl | simp [xrf_cat, xcI, xcJ, xcA]) dX11_span_127 (by decide) (by decide) rfl (fun H locs hR hS => ?_)
                refine lv_if_eq (tgt := 137) hx hb dX11_span_130 (by decide) (fun c192 => ?_) (fun c192 => ?_)
                · replace hF := xift c192 hF
                  refine lv_iconst (v := 0) hx hb dX11_span_137 (by decide) ?_
                  cases hF
                  exact x_iret hx hb hr rfl hlk hR hS (by decide) (by decide) dX11_span_138
                · replace hF := xiff c192 hF
                  refine lv_iconst (v := 1) hx hb dX11_span_133 (by decide) ?_
                  refine lv_goto (tgt := 138) hx hb dX11_span_134 (by decide) ?_
                  cases hF
                  exact x_iret hx hb hr rfl hlk hR hS (by decide) (by decide) dX11_span_138
              replace hF := xiff c189 hF
              by_cases c193 : x3 = 4
              · replace hF := xift c193 hF
                refine lv_tableIn (off := 85) (tgt := 139) hx hb dX11_span_54 (by rw [c193]; decide) (by rw [c193]; decide) (by rw [c193]; rfl) (by decide) ?_
                refine x_aload_n (o := (some a0)) hx hb dX11_span_139 rfl (lv_at hl 0 rfl) ?_
                refine lv_iload_n hx hb dX11_span_140 rfl (lv_at hl 1 rfl) ?_
                replace hF := xbind hF; obtain ⟨b195, eb195, hF⟩ := hF
                replace hF := xbind hF; obtain ⟨v194, ev194, hF⟩ := hF
                refine x_callV (o := (some a0)) (ci := 11) (As := [.int x1]) (rest := []) (v := (some (.long v194))) (k := 1) hx hb hml hown hts hR hS eb195 rfl rfl (t_X11_least l D G h176 b195 x1 v194 ev194) f_X11_least mm_1136 mm_1138 mm_39 rfl hl.1 rfl (by first | exact Nat.le_of_ble_eq_true rfl | simp [xrf_cat, xcI, xcJ, xcA]) dX11_span_141 (by decide) (by decide) rfl (fun H locs hR hS => ?_)
                refine lv_lconst (v := 0) hx hb dX11_span_144 (by decide) ?_
                refine W.lcmp hx hb dX11_span_145 ?_
                refine lv_if_lt (tgt := 153) hx hb dX11_span_146 (by decide) (fun c196 => ?_) (fun c196 => ?_)
                · replace hF := xift c196 hF
                  refine x_aload_n (o := (some a0)) hx hb dX11_span_153 rfl (lv_at hl 0 rfl) ?_
                  refine lv_iload_n hx hb dX11_span_154 rfl (lv_at hl 1 rfl) ?_
                  replace hF := xbind hF; obtain ⟨b198, eb198, hF⟩ := hF
                  replace hF := xbind hF; obtain ⟨v197, ev197, hF⟩ := hF
                  refine x_callV (o := (some a0)) (ci := 11) (As := [.int x1]) (rest := []) (v := (some (.long v197))) (k := 1) hx hb hml hown hts hR hS eb198 rfl rfl (t_X11_greatest l D G h176 b198 x1 v197 ev197) f_X11_greatest mm_1140 mm_1142 mm_40 rfl hl.1 rfl (by first | exact Nat.le_of_ble_eq_true rfl | simp [xrf_cat, xcI, xcJ, xcA]) dX11_span_155 (by decide) (by decide) rfl (fun H locs hR hS => ?_)
                  refine lv_lconst (v := 0) hx hb dX11_span_158 (by decide) ?_
                  refine W.lcmp hx hb dX11_span_159 ?_
                  refine lv_if_ge (tgt := 167) hx hb dX11_span_160 (by decide) (fun c199 => ?_) (fun c199 => ?_)
                  · replace hF := xift c199 hF
                    refine lv_iconst (v := 0) hx hb dX11_span_167 (by decide) ?_
                    cases hF
                    exact x_iret hx hb hr rfl hlk hR hS (by decide) (by decide) dX11_span_168
                  · replace hF := xiff c199 hF
                    refine lv_iconst (v := 2) hx hb dX11_span_163 (by decide) ?_
                    refine lv_goto (tgt := 168) hx hb dX11_span_164 (by decide) ?_
                    cases hF
                    exact x_iret hx hb hr rfl hlk hR hS (by decide) (by decide) dX11_span_168
                · replace hF := xiff c196 hF
                  refine lv_iconst (v := 1) hx hb dX11_span_149 (by decide) ?_
                  refine lv_goto (tgt := 168) hx hb dX11_span_150 (by decide) ?_
                  cases hF
                  exact x_iret hx hb hr rfl hlk hR hS (by decide) (by decide) dX11_span_168
              replace hF := xiff c193 hF
              by_cases c200 : x3 = 5
              · replace hF := xift c200 hF
                refine lv_tableIn (off := 115) (tgt := 169) hx hb dX11_span_54 (by rw [c200]; decide) (by rw [c200]; decide) (by rw [c200]; rfl) (by decide) ?_
                refine x_aload_n (o := (some a0)) hx hb dX11_span_169 rfl (lv_at hl 0 rfl) ?_
                refine lv_iload_n hx hb dX11_span_170 rfl (lv_at hl 1 rfl) ?_
                replace hF := xbind hF; obtain ⟨b202, eb202, hF⟩ := hF
                replace hF := xbind hF; obtain ⟨v201, ev201, hF⟩ := hF
                refine x_callV (o := (some a0)) (ci := 11) (As := [.int x1]) (rest := []) (v := (some (.int v201))) (k := 1) hx hb hml hown hts hR hS eb202 rfl rfl (t_X11_settledAt l D G h176 b202 x1 v201 ev201) f_X11_settledAt mm_1148 mm_1150 mm_42 rfl hl.1 rfl (by first | exact Nat.le_of_ble_eq_true rfl | simp [xrf_cat, xcI, xcJ, xcA]) dX11_span_171 (by decide) (by decide) rfl (fun H locs hR hS => ?_)
                cases hF
                exact x_iret hx hb hr rfl hlk hR hS (by decide) (by decide) dX11_span_174
              replace hF := xiff c200 hF
              by_cases c203 : x3 = 6
              · replace hF := xift c203 hF
                refine lv_tableIn (off := 121) (tgt := 175) hx hb dX11_span_54 (by rw [c203]; decide) (by rw [c203]; decide) (by rw [c203]; rfl) (by decide) ?_
                refine x_aload_n (o := (some a0)) hx hb dX11_span_175 rfl (lv_at hl 0 rfl) ?_
                replace hF := xbind hF; obtain ⟨v204, ev204, hF⟩ := hF
                refine x_getJ (o := (some a0)) (ci := 11) (C := RX11) (T := TX11) (N := 42) hx hb hts iw_X11 hown hR rfl 12 (by decide) mm_955 (Or.inl rfl) ev204 dX11_span_176 ?_
                refine lv_l2i (v := ((v204 : Int64).toInt32)) hx hb dX11_span_179 rfl ?_
                cases hF
                exact x_iret hx hb hr rfl hlk hR hS (by decide) (by decide) dX11_span_180
              replace hF := xiff c203 hF
              refine lv_tableOut (tgt := 181) hx hb dX11_span_54 (by have := lv_neT c178 (a := 0) (by decide); have := lv_neT c183 (a := 1) (by decide); have := lv_neT c186 (a := 2) (by decide); have := lv_neT c189 (a := 3) (by decide); have := lv_neT c193 (a := 4) (by decide); have := lv_neT c200 (a := 5) (by decide); have := lv_neT c203 (a := 6) (by decide); omega) (by decide) ?_
              refine x_aload_n (o := (some a0)) hx hb dX11_span_181 rfl (lv_at hl 0 rfl) ?_
              replace hF := xbind hF; obtain ⟨v205, ev205, hF⟩ := hF
              refine x_getJ (o := (some a0)) (ci := 11) (C := RX11) (T := TX11) (N := 42) hx hb hts iw_X11 hown hR rfl 13 (by decide) mm_956 (Or.inl rfl) ev205 dX11_span_182 ?_
              refine lv_l2i (v := ((v205 : Int64).toInt32)) hx hb dX11_span_185 rfl ?_
              cases hF
              exact x_iret hx hb hr rfl hlk hR hS (by decide) (by decide) dX11_span_186
            · replace hF := xiff c175 hF
              refine lv_iconst (v := 0) hx hb dX11_span_45 (by decide) ?_
              cases hF
              exact x_iret hx hb hr rfl hlk hR hS (by decide) (by decide) dX11_span_46
def rm_X11_broken : Room := { frames := 2, cells := 0, slots := 0, locals := 49 }
theorem f_X11_broken : xM yX11_broken cX11_broken 4 (some .int) 2 := ⟨mm_1155, mm_62, by decide +kernel, by decide +kernel⟩
theorem dX11_broken_0 : decode cX11_broken 0 = .ok (.aload_n 0, 1) := by decide +kernel
theorem dX11_broken_1 : decode cX11_broken 1 = .ok (.iconst 0, 1) := by decide +kernel
theorem dX11_broken_2 : decode cX11_broken 2 = .ok (.putfield 93, 3) := by decide +kernel
theorem dX11_broken_5 : decode cX11_broken 5 = .ok (.aload_n 0, 1) := by decide +kernel
theorem dX11_broken_6 : decode cX11_broken 6 = .ok (.iload_n 1, 1) := by decide +kernel
theorem dX11_broken_7 : decode cX11_broken 7 = .ok (.invokevirtual 137, 3) := by decide +kernel
theorem dX11_broken_10 : decode cX11_broken 10 = .ok (.ifCond .eq 14, 3) := by decide +kernel
theorem dX11_broken_13 : decode cX11_broken 13 = .ok (.iload_n 2, 1) := by decide +kernel
theorem dX11_broken_14 : decode cX11_broken 14 = .ok (.ifCond .lt 10, 3) := by decide +kernel
theorem dX11_broken_17 : decode cX11_broken 17 = .ok (.iload_n 2, 1) := by decide +kernel
theorem dX11_broken_18 : decode cX11_broken 18 = .ok (.sipush 600, 3) := by decide +kernel
theorem dX11_broken_21 : decode cX11_broken 21 = .ok (.if_icmp .le 5, 3) := by decide +kernel
theorem dX11_broken_24 : decode cX11_broken 24 = .ok (.iconst (-1), 1) := by decide +kernel
theorem dX11_broken_25 : decode cX11_broken 25 = .ok (.ireturn, 1) := by decide +kernel
theorem dX11_broken_26 : decode cX11_broken 26 = .ok (.iload_n 2, 1) := by decide +kernel
theorem dX11_broken_27 : decode cX11_broken 27 = .ok (.istore_n 3, 1) := by decide +kernel
theorem dX11_broken_28 : decode cX11_broken 28 = .ok (.iload_n 3, 1) := by decide +kernel
theorem dX11_broken_29 : decode cX11_broken 29 = .ok (.sipush 600, 3) := by decide +kernel
theorem dX11_broken_32 : decode cX11_broken 32 = .ok (.if_icmp .gt 25, 3) := by decide +kernel
theorem dX11_broken_35 : decode cX11_broken 35 = .ok (.aload_n 0, 1) := by decide +kernel
theorem dX11_broken_36 : decode cX11_broken 36 = .ok (.iload_n 1, 1) := by decide +kernel
theorem dX11_broken_37 : decode cX11_broken 37 = .ok (.iload_n 3, 1) := by decide +kernel
theorem dX11_broken_38 : decode cX11_broken 38 = .ok (.invokevirtual 153, 3) := by decide +kernel
theorem dX11_broken_41 : decode cX11_broken 41 = .ok (.aload_n 0, 1) := by decide +kernel
theorem dX11_broken_42 : decode cX11_broken 42 = .ok (.iload_n 1, 1) := by decide +kernel
theorem dX11_broken_43 : decode cX11_broken 43 = .ok (.invokevirtual 163, 3) := by decide +kernel
theorem dX11_broken_46 : decode cX11_broken 46 = .ok (.ifCond .ne 5, 3) := by decide +kernel
theorem dX11_broken_49 : decode cX11_broken 49 = .ok (.iload_n 3, 1) := by decide +kernel
theorem dX11_broken_50 : decode cX11_broken 50 = .ok (.ireturn, 1) := by decide +kernel
theorem dX11_broken_51 : decode cX11_broken 51 = .ok (.iinc 3 1, 3) := by decide +kernel
theorem dX11_broken_54 : decode cX11_broken 54 = .ok (.goto (-26), 3) := by decide +kernel
theorem dX11_broken_57 : decode cX11_broken 57 = .ok (.iconst (-1), 1) := by decide +kernel
theorem dX11_broken_58 : decode cX11_broken 58 = .ok (.ireturn, 1) := by decide +kernel
def F_X11_broken_28 (G : Nat → Nat) (a0 : Nat) (x1 : Int32) : Nat → xH → Int32 → Option (Int32 × xH)
  | 0, _, _ => none
  | n + 1, h, x3 =>
    if 600 < x3 then
      some ((-1), h)
    else
    (xc h (some a0) 11).bind fun b9 =>
    (F_X11_spans G h b9 x1 x3).bind fun h8 =>
    (xc h8 (some a0) 11).bind fun b11 =>
    (F_X11_isWhole G h8 b11 x1).bind fun v10 =>
    if v10 = 0 then
      some (x3, h8)
    else
    xl (x3 + 1) fun v13 =>
    F_X11_broken_28 G a0 x1 n h8 v13
set_option maxHeartbeats 4000000 in
set_option maxRecDepth 100000 in
theorem tl_X11_broken_28 {p : Program} {l : Launch} {e : Env} {s : State} {m : MethodId} {args : Array Value} {below : List Frame} {meth : Method} {c : Code} {D : va_G} {r : Int32} {h' : xH} (hx : p.tables.exec = Jvm.exec) (hb : c.code = cX11_broken) (hr : meth.sig.returnType = (some .int)) (hlk : meth.locks = false) (hml : c.maxLocals = 4) (hown : s.vm.findClass RX11 = some m.cls) (hnm : meth.name = "broken") (hts : ∀ w ∈ xt, w.before args s = true) (G : Nat → Nat) (a0 : Nat) (x1 : Int32) : ∀ (n : Nat) (h : xH) (x3 : Int32) (H : Heap) (locs : List Loc) (ls : Array Slot), F_X11_broken_28 G a0 x1 n h x3 = some (r, h') → xR D G h s H → va_S (xA G) s.heap H locs → lv_has ls 4 [(0, va_rf (some a0)), (1, .int x1), (3, .int x3)] → W p l e rm_X11_broken s m args below meth c H locs 0 0 (MQ below (xQ D G (some (.int r)) h') args s rm_X11_broken.cells rm_X11_broken.slots (xA G)) (F0 m 28 ls []) := by
  intro n
  induction n with
  | zero =>
    intro h x3 H locs ls hF
    rw [F_X11_broken_28.eq_1] at hF
    cases hF
  | succ n ih =>
    intro h x3 H locs ls hF hR hS hl
    rw [F_X11_broken_28.eq_2] at hF
    refine lv_iload_n hx hb dX11_broken_28 rfl (lv_at hl 2 rfl) ?_
    refine lv_sipush (v := 600) hx hb dX11_broken_29 (by decide) ?_
    refine lv_icmp_gt (tgt := 57) hx hb dX11_broken_32 (by decide) (fun c7 => ?_) (fun c7 => ?_)
    · replace hF := xift c7 hF
      refine lv_iconst (v := (-1)) hx hb dX11_broken_57 (by decide) ?_
      cases hF
      exact x_iret hx hb hr rfl hlk hR hS (by decide) (by decide) dX11_broken_58
    · replace hF := xiff c7 hF
      refine x_aload_n (o := (some a0)) hx hb dX11_broken_35 rfl (lv_at hl 0 rfl) ?_
      refine lv_iload_n hx hb dX11_broken_36 rfl (lv_at hl 1 rfl) ?_
      refine lv_iload_n hx hb dX11_broken_37 rfl (lv_at hl 2 rfl) ?_
      replace hF := xbind hF; obtain ⟨b9, eb9, hF⟩ := hF
      replace hF := xbind hF; obtain ⟨h8, eh8, hF⟩ := hF
      refine x_callV (o := (some a0)) (ci := 11) (As := [.int x1, .int x3]) (rest := []) (v := none) (k := 2) hx hb hml hown hts hR hS eb9 rfl rfl (t_X11_spans l D G h b9 x1 x3 h8 eh8) f_X11_spans mm_1123 mm_1125 mm_36 rfl hl.1 rfl (by first | exact Nat.le_of_ble_eq_true rfl | simp [xrf_cat, xcI, xcJ, xcA]) dX11_broken_38 (by decide) (by decide) rfl (fun H locs hR hS => ?_)
      refine x_aload_n (o := (some a0)) hx hb dX11_broken_41 rfl (lv_at hl 0 rfl) ?_
      refine lv_iload_n hx hb dX11_broken_42 rfl (lv_at hl 1 rfl) ?_
      replace hF := xbind hF; obtain ⟨b11, eb11, hF⟩ := hF
      replace hF := xbind hF; obtain ⟨v10, ev10, hF⟩ := hF
      refine x_callV (o := (some a0)) (ci := 11) (As := [.int x1]) (rest := []) (v := (some (.int v10))) (k := 1) hx hb hml hown hts hR hS eb11 rfl rfl (t_X11_isWhole l D G h8 b11 x1 v10 ev10) f_X11_isWhole mm_1144 mm_1146 mm_41 rfl hl.1 rfl (by first | exact Nat.le_of_ble_eq_true rfl | simp [xrf_cat, xcI, xcJ, xcA]) dX11_broken_43 (by decide) (by decide) rfl (fun H locs hR hS => ?_)
      refine lv_if_ne (tgt := 51) hx hb dX11_broken_46 (by decide) (fun c12 => ?_) (fun c12 => ?_)
      · replace hF := xiff c12 hF
        obtain ⟨v13, ev13⟩ : ∃ z : Int32, z = (x3 + 1) := ⟨_, rfl⟩
        replace hF := xlet ev13 hF
        refine lv_iinc (v := v13) (lv' := [(3, .int v13), (0, va_rf (some a0)), (1, .int x1)]) hx hb dX11_broken_51 hl (k := 2) rfl (by rw [ev13]; rfl) (by decide) (by first | rfl | (simp [xrf_cat, xcI, xcJ, xcA]; done) | (simp [xrf_cat, xcI, xcJ, xcA]; decide)) (fun ls hl => ?_)
        refine lv_goto (tgt := 28) hx hb dX11_broken_54 (by decide) ?_
        exact ih h8 v13 _ _ _ hF hR hS (lv_sub hl [1, 2, 0] rfl)
      · replace hF := xift c12 hF
        refine lv_iload_n hx hb dX11_broken_49 rfl (lv_at hl 2 rfl) ?_
        cases hF
        exact x_iret hx hb hr rfl hlk hR hS (by decide) (by decide) dX11_broken_50
def F_X11_broken (G : Nat → Nat) (h : xH) (a0 : Nat) (x1 : Int32) (x2 : Int32) : Option (Int32 × xH) :=
  (xp G h (some a0) 11 0 (.int 0)).bind fun h1 =>
  (xc h1 (some a0) 11).bind fun b3 =>
  (F_X11_isPromise G h1 b3 x1).bind fun v2 =>
  if v2 = 0 then
    some ((-1), h1)
  else
  if x2 < 0 then
    some ((-1), h1)
  else
  if x2 ≤ 600 then
    F_X11_broken_28 G a0 x1 xN h1 x2
  else
  some ((-1), h1)
set_option maxHeartbeats 4000000 in
set_option maxRecDepth 100000 in
theorem t_X11_broken (l : Launch) (D : va_G) (G : Nat → Nat) (h : xH) (a0 : Nat) (x1 : Int32) (x2 : Int32) (r : Int32) (h' : xH) (hF : F_X11_broken G h a0 x1 x2 = some (r, h')) : xC l yX11_broken cX11_broken 4 (some .int) (rm_X11_broken) D G h [.ref a0, .int x1, .int x2] (some (.int r)) h' := by
  refine xC_of (by decide) (by first | decide | exact Nat.le_of_ble_eq_true rfl) ?_
  intro p e s m args below meth c ls hx hb hr hlk hml hown hnm hts hR hS hl
  have hl : lv_has ls 4 [(0, va_rf (some a0)), (1, .int x1), (2, .int x2)] := hl
  unfold F_X11_broken at hF
  refine x_aload_n (o := (some a0)) hx hb dX11_broken_0 rfl (lv_at hl 0 rfl) ?_
  refine lv_iconst (v := 0) hx hb dX11_broken_1 (by decide) ?_
  replace hF := xbind hF; obtain ⟨h1, eh1, hF⟩ := hF
  refine x_put (o := (some a0)) (ci := 11) (C := RX11) (T := TX11) (N := 42) hx hb hts iw_X11 tyX11_ok nmX11 hown hR hS rfl 0 (by decide) mm_943 (Or.inl rfl) rfl rfl rfl eh1 dX11_broken_2 (fun H locs hR hS => ?_)
  refine x_aload_n (o := (some a0)) hx hb dX11_broken_5 rfl (lv_at hl 0 rfl) ?_
  refine lv_iload_n hx hb dX11_broken_6 rfl (lv_at hl 1 rfl) ?_
  replace hF := xbind hF; obtain ⟨b3, eb3, hF⟩ := hF
  replace hF := xbind hF; obtain ⟨v2, ev2, hF⟩ := hF
  refine x_callV (o := (some a0)) (ci := 11) (As := [.int x1]) (rest := []) (v := (some (.int v2))) (k := 1) hx hb hml hown hts hR hS eb3 rfl rfl (t_X11_isPromise l D G h1 b3 x1 v2 ev2) f_X11_isPromise mm_1115 mm_1117 mm_35 rfl hl.1 rfl (by first | exact Nat.le_of_ble_eq_true rfl | simp [xrf_cat, xcI, xcJ, xcA]) dX11_broken_7 (by decide) (by decide) rfl (fun H locs hR hS => ?_)
  refine lv_if_eq (tgt := 24) hx hb dX11_broken_10 (by decide) (fun c4 => ?_) (fun c4 => ?_)
  · replace hF := xift c4 hF
    refine lv_iconst (v := (-1)) hx hb dX11_broken_24 (by decide) ?_
    cases hF
    exact x_iret hx hb hr rfl hlk hR hS (by decide) (by decide) dX11_broken_25
  · replace hF := xiff c4 hF
    refine lv_iload_n hx hb dX11_broken_13 rfl (lv_at hl 2 rfl) ?_
    refine lv_if_lt (tgt := 24) hx hb dX11_broken_14 (by decide) (fun c5 => ?_) (fun c5 => ?_)
    · replace hF := xift c5 hF
      refine lv_iconst (v := (-1)) hx hb dX11_broken_24 (by decide) ?_
      cases hF
      exact x_iret hx hb hr rfl hlk hR hS (by decide) (by decide) dX11_broken_25
    · replace hF := xiff c5 hF
      refine lv_iload_n hx hb dX11_broken_17 rfl (lv_at hl 2 rfl) ?_
      refine lv_sipush (v := 600) hx hb dX11_broken_18 (by decide) ?_
      refine lv_icmp_le (tgt := 26) hx hb dX11_broken_21 (by decide) (fun c6 => ?_) (fun c6 => ?_)
      · replace hF := xift c6 hF
        refine lv_iload_n hx hb dX11_broken_26 rfl (lv_at hl 2 rfl) ?_
        refine lv_istore_n (lv' := [(3, .int x2), (0, va_rf (some a0)), (1, .int x1), (2, .int x2)]) hx hb dX11_broken_27 rfl hl (by decide) (by first | rfl | (simp [xrf_cat, xcI, xcJ, xcA]; done) | (simp [xrf_cat, xcI, xcJ, xcA]; decide)) (fun ls hl => ?_)
        refine W.widen (k := 0) (n := 0) (by decide) (by decide) ?_
        exact tl_X11_broken_28 hx hb hr hlk hml hown hnm hts G a0 x1 _ h1 x2 _ _ _ hF hR hS (lv_sub hl [1, 2, 0] rfl)
      · replace hF := xiff c6 hF
        refine lv_iconst (v := (-1)) hx hb dX11_broken_24 (by decide) ?_
        cases hF
        exact x_iret hx hb hr rfl hlk hR hS (by decide) (by decide) dX11_broken_25
