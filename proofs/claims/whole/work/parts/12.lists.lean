def rm_J7_copyOf_6403c : Room := { frames := 1, cells := 1, slots := 64, locals := 40 }
theorem f_J7_copyOf_6403c : xM yJ7_copyOf_6403c cJ7_copyOf_6403c 4 (some (.array (.object "java/lang/Object"))) 3 := ⟨mm_308, mm_66, by decide +kernel, by decide +kernel⟩
theorem dJ7_copyOf_6403c_0 : decode cJ7_copyOf_6403c 0 = .ok (.aload_n 2, 1) := by decide +kernel
theorem dJ7_copyOf_6403c_1 : decode cJ7_copyOf_6403c 1 = .ok (.ldc 110, 2) := by decide +kernel
theorem dJ7_copyOf_6403c_3 : decode cJ7_copyOf_6403c 3 = .ok (.if_acmp .ne 10, 3) := by decide +kernel
theorem dJ7_copyOf_6403c_6 : decode cJ7_copyOf_6403c 6 = .ok (.iload_n 1, 1) := by decide +kernel
theorem dJ7_copyOf_6403c_7 : decode cJ7_copyOf_6403c 7 = .ok (.anewarray 2, 3) := by decide +kernel
theorem dJ7_copyOf_6403c_10 : decode cJ7_copyOf_6403c 10 = .ok (.goto 14, 3) := by decide +kernel
theorem dJ7_copyOf_6403c_13 : decode cJ7_copyOf_6403c 13 = .ok (.aload_n 2, 1) := by decide +kernel
theorem dJ7_copyOf_6403c_14 : decode cJ7_copyOf_6403c 14 = .ok (.invokevirtual 90, 3) := by decide +kernel
theorem dJ7_copyOf_6403c_17 : decode cJ7_copyOf_6403c 17 = .ok (.iload_n 1, 1) := by decide +kernel
theorem dJ7_copyOf_6403c_18 : decode cJ7_copyOf_6403c 18 = .ok (.invokestatic 95, 3) := by decide +kernel
theorem dJ7_copyOf_6403c_21 : decode cJ7_copyOf_6403c 21 = .ok (.checkcast 110, 3) := by decide +kernel
theorem dJ7_copyOf_6403c_24 : decode cJ7_copyOf_6403c 24 = .ok (.astore_n 3, 1) := by decide +kernel
theorem dJ7_copyOf_6403c_25 : decode cJ7_copyOf_6403c 25 = .ok (.aload_n 0, 1) := by decide +kernel
theorem dJ7_copyOf_6403c_26 : decode cJ7_copyOf_6403c 26 = .ok (.iconst 0, 1) := by decide +kernel
theorem dJ7_copyOf_6403c_27 : decode cJ7_copyOf_6403c 27 = .ok (.aload_n 3, 1) := by decide +kernel
theorem dJ7_copyOf_6403c_28 : decode cJ7_copyOf_6403c 28 = .ok (.iconst 0, 1) := by decide +kernel
theorem dJ7_copyOf_6403c_29 : decode cJ7_copyOf_6403c 29 = .ok (.aload_n 0, 1) := by decide +kernel
theorem dJ7_copyOf_6403c_30 : decode cJ7_copyOf_6403c 30 = .ok (.arraylength, 1) := by decide +kernel
theorem dJ7_copyOf_6403c_31 : decode cJ7_copyOf_6403c 31 = .ok (.iload_n 1, 1) := by decide +kernel
theorem dJ7_copyOf_6403c_32 : decode cJ7_copyOf_6403c 32 = .ok (.invokestatic 304, 3) := by decide +kernel
theorem dJ7_copyOf_6403c_35 : decode cJ7_copyOf_6403c 35 = .ok (.invokestatic 150, 3) := by decide +kernel
theorem dJ7_copyOf_6403c_38 : decode cJ7_copyOf_6403c 38 = .ok (.aload_n 3, 1) := by decide +kernel
theorem dJ7_copyOf_6403c_39 : decode cJ7_copyOf_6403c 39 = .ok (.areturn, 1) := by decide +kernel
def F_J7_copyOf_6403c (G : Nat → Nat) (h : xH) (a0 : Nat) (x1 : Int32) (a2 : Nat) : Option ((Option Nat) × xH) :=
  if (some a2) = (some (G 6)) then
    (nAR G h x1).bind fun (q2, h3) =>
    (aln G h3 (some a0)).bind fun v4 =>
    (cpR G h3 (some a0) 0 (some q2) 0 (xmin v4 x1)).bind fun h5 =>
    some ((some q2), h5)
  else
  none
set_option maxHeartbeats 4000000 in
set_option maxRecDepth 100000 in
theorem t_J7_copyOf_6403c (l : Launch) (D : va_G) (G : Nat → Nat) (h : xH) (a0 : Nat) (x1 : Int32) (a2 : Nat) (r : Option Nat) (h' : xH) (hF : F_J7_copyOf_6403c G h a0 x1 a2 = some (r, h')) : xC l yJ7_copyOf_6403c cJ7_copyOf_6403c 4 (some (.array (.object "java/lang/Object"))) (rm_J7_copyOf_6403c) D G h [.ref a0, .int x1, .ref a2] (some (va_rf r)) h' := by
  refine xC_of (by decide) (by first | decide | exact Nat.le_of_ble_eq_true rfl) ?_
  intro p e s m args below meth c ls hx hb hr hlk hml hown hnm hts hR hS hl
  have hl : lv_has ls 4 [(0, va_rf (some a0)), (1, .int x1), (2, va_rf (some a2))] := hl
  unfold F_J7_copyOf_6403c at hF
  refine x_aload_n (o := (some a2)) hx hb dJ7_copyOf_6403c_0 rfl (lv_at hl 2 rfl) ?_
  refine x_ldcM hx hb hown hts mm_309 hR dJ7_copyOf_6403c_1 ?_
  refine lv_acmp_ne (rx := (some a2)) (ry := (some (G 6))) (tgt := 13) hx hb dJ7_copyOf_6403c_3 (by decide) (fun c1 => ?_) (fun c1 => ?_)
  · replace hF := xiff c1 hF
    cases hF
  · replace hF := xift c1 hF
    refine lv_iload_n hx hb dJ7_copyOf_6403c_6 rfl (lv_at hl 1 rfl) ?_
    replace hF := xbind hF; obtain ⟨⟨q2, h3⟩, eq2, hF⟩ := hF
    refine x_anew hx hb hown hts mm_311 hR hS eq2 (by decide) (by decide) dJ7_copyOf_6403c_7 (fun H hR hS => ?_)
    refine lv_goto (tgt := 24) hx hb dJ7_copyOf_6403c_10 (by decide) ?_
    refine x_astore_n (o := (some q2)) (lv' := [(3, va_rf (some q2)), (0, va_rf (some a0)), (1, .int x1), (2, va_rf (some a2))]) hx hb dJ7_copyOf_6403c_24 rfl hl (by decide) (by first | rfl | (simp [xrf_cat, xcI, xcJ, xcA]; done) | (simp [xrf_cat, xcI, xcJ, xcA]; decide)) (fun ls hl => ?_)
    refine x_aload_n (o := (some a0)) hx hb dJ7_copyOf_6403c_25 rfl (lv_at hl 1 rfl) ?_
    refine lv_iconst (v := 0) hx hb dJ7_copyOf_6403c_26 (by decide) ?_
    refine x_aload_n (o := (some q2)) hx hb dJ7_copyOf_6403c_27 rfl (lv_at hl 0 rfl) ?_
    refine lv_iconst (v := 0) hx hb dJ7_copyOf_6403c_28 (by decide) ?_
    refine x_aload_n (o := (some a0)) hx hb dJ7_copyOf_6403c_29 rfl (lv_at hl 1 rfl) ?_
    replace hF := xbind hF; obtain ⟨v4, ev4, hF⟩ := hF
    refine x_aln (o := (some a0)) hx hb hR ev4 dJ7_copyOf_6403c_30 ?_
    refine lv_iload_n hx hb dJ7_copyOf_6403c_31 rfl (lv_at hl 2 rfl) ?_
    refine x_min hx hb (hml.trans hl.1.symm) hown hts mm_312 mm_313 mm_65 mm_314 (by decide) (by first | exact Nat.le_of_ble_eq_true rfl | simp [xrf_cat, xcI, xcJ, xcA]) (by decide) (by decide) dJ7_copyOf_6403c_32 ?_
    replace hF := xbind hF; obtain ⟨h5, eh5, hF⟩ := hF
    refine x_acopy (o := (some a0)) (o' := (some q2)) hx hb (hml.trans hl.1.symm) hown hts mm_315 mm_317 mm_316 mm_67 hR hS eh5 (by decide) (by first | exact Nat.le_of_ble_eq_true rfl | simp [xrf_cat, xcI, xcJ, xcA]) (by decide) dJ7_copyOf_6403c_35 (fun H locs hR hS => ?_)
    refine x_aload_n (o := (some q2)) hx hb dJ7_copyOf_6403c_38 rfl (lv_at hl 0 rfl) ?_
    cases hF
    exact x_aret hx hb hr (Or.inr ⟨_, rfl⟩) hlk hR hS (by decide) (by decide) dJ7_copyOf_6403c_39
def rm_J7_copyOf_1904c : Room := { frames := 2, cells := 1, slots := 64, locals := 63 }
theorem f_J7_copyOf_1904c : xM yJ7_copyOf_1904c cJ7_copyOf_1904c 2 (some (.array (.object "java/lang/Object"))) 2 := ⟨mm_288, mm_66, by decide +kernel, by decide +kernel⟩
theorem dJ7_copyOf_1904c_0 : decode cJ7_copyOf_1904c 0 = .ok (.aload_n 0, 1) := by decide +kernel
theorem dJ7_copyOf_1904c_1 : decode cJ7_copyOf_1904c 1 = .ok (.iload_n 1, 1) := by decide +kernel
theorem dJ7_copyOf_1904c_2 : decode cJ7_copyOf_1904c 2 = .ok (.aload_n 0, 1) := by decide +kernel
theorem dJ7_copyOf_1904c_3 : decode cJ7_copyOf_1904c 3 = .ok (.invokevirtual 86, 3) := by decide +kernel
theorem dJ7_copyOf_1904c_6 : decode cJ7_copyOf_1904c 6 = .ok (.invokestatic 300, 3) := by decide +kernel
theorem dJ7_copyOf_1904c_9 : decode cJ7_copyOf_1904c 9 = .ok (.areturn, 1) := by decide +kernel
def F_J7_copyOf_1904c (G : Nat → Nat) (h : xH) (a0 : Nat) (x1 : Int32) : Option ((Option Nat) × xH) :=
  (xAO G h (some a0)).bind fun b1 =>
  (F_J7_copyOf_6403c G h a0 x1 (G 6)).bind fun (w2, h3) =>
  some (w2, h3)
set_option maxHeartbeats 4000000 in
set_option maxRecDepth 100000 in
theorem t_J7_copyOf_1904c (l : Launch) (D : va_G) (G : Nat → Nat) (h : xH) (a0 : Nat) (x1 : Int32) (r : Option Nat) (h' : xH) (hF : F_J7_copyOf_1904c G h a0 x1 = some (r, h')) : xC l yJ7_copyOf_1904c cJ7_copyOf_1904c 2 (some (.array (.object "java/lang/Object"))) (rm_J7_copyOf_1904c) D G h [.ref a0, .int x1] (some (va_rf r)) h' := by
  refine xC_of (by decide) (by first | decide | exact Nat.le_of_ble_eq_true rfl) ?_
  intro p e s m args below meth c ls hx hb hr hlk hml hown hnm hts hR hS hl
  have hl : lv_has ls 2 [(0, va_rf (some a0)), (1, .int x1)] := hl
  unfold F_J7_copyOf_1904c at hF
  refine x_aload_n (o := (some a0)) hx hb dJ7_copyOf_1904c_0 rfl (lv_at hl 0 rfl) ?_
  refine lv_iload_n hx hb dJ7_copyOf_1904c_1 rfl (lv_at hl 1 rfl) ?_
  refine x_aload_n (o := (some a0)) hx hb dJ7_copyOf_1904c_2 rfl (lv_at hl 0 rfl) ?_
  replace hF := xbind hF; obtain ⟨b1, eb1, hF⟩ := hF
  refine x_getC (o := (some a0)) hx hb (hml.trans hl.1.symm) hown hts mm_289 mm_1273 mm_290 mm_305 hR eb1 (by decide) (by first | exact Nat.le_of_ble_eq_true rfl | simp [xrf_cat, xcI, xcJ, xcA]) (by decide) dJ7_copyOf_1904c_3 ?_
  replace hF := xbind hF; obtain ⟨⟨w2, h3⟩, ew2, hF⟩ := hF
  refine x_callS (As := [.ref a0, .int x1, .ref (G 6)]) (rest := []) (v := (some (va_rf w2))) (k := 3) hx hb hml hown hts hR hS (t_J7_copyOf_6403c l D G h a0 x1 (G 6) w2 h3 ew2) f_J7_copyOf_6403c mm_306 mm_307 rfl hl.1 rfl (by first | exact Nat.le_of_ble_eq_true rfl | simp [xrf_cat, xcI, xcJ, xcA]) dJ7_copyOf_1904c_6 (by decide) (by decide) rfl (fun H locs hR hS => ?_)
  cases hF
  exact x_aret hx hb hr (Or.inr ⟨_, rfl⟩) hlk hR hS (by decide) (by decide) dJ7_copyOf_1904c_9
def rm_J8_newLength_cabcc : Room := { frames := 1, cells := 0, slots := 0, locals := 23 }
theorem f_J8_newLength_cabcc : xM yJ8_newLength_cabcc cJ8_newLength_cabcc 4 (some .int) 3 := ⟨mm_278, mm_64, by decide +kernel, by decide +kernel⟩
theorem dJ8_newLength_cabcc_0 : decode cJ8_newLength_cabcc 0 = .ok (.iload_n 0, 1) := by decide +kernel
theorem dJ8_newLength_cabcc_1 : decode cJ8_newLength_cabcc 1 = .ok (.iload_n 1, 1) := by decide +kernel
theorem dJ8_newLength_cabcc_2 : decode cJ8_newLength_cabcc 2 = .ok (.iload_n 2, 1) := by decide +kernel
theorem dJ8_newLength_cabcc_3 : decode cJ8_newLength_cabcc 3 = .ok (.invokestatic 194, 3) := by decide +kernel
theorem dJ8_newLength_cabcc_6 : decode cJ8_newLength_cabcc 6 = .ok (.iadd, 1) := by decide +kernel
theorem dJ8_newLength_cabcc_7 : decode cJ8_newLength_cabcc 7 = .ok (.istore_n 3, 1) := by decide +kernel
theorem dJ8_newLength_cabcc_8 : decode cJ8_newLength_cabcc 8 = .ok (.iconst 0, 1) := by decide +kernel
theorem dJ8_newLength_cabcc_9 : decode cJ8_newLength_cabcc 9 = .ok (.iload_n 3, 1) := by decide +kernel
theorem dJ8_newLength_cabcc_10 : decode cJ8_newLength_cabcc 10 = .ok (.if_icmp .ge 11, 3) := by decide +kernel
theorem dJ8_newLength_cabcc_13 : decode cJ8_newLength_cabcc 13 = .ok (.iload_n 3, 1) := by decide +kernel
theorem dJ8_newLength_cabcc_14 : decode cJ8_newLength_cabcc 14 = .ok (.ldc 200, 2) := by decide +kernel
theorem dJ8_newLength_cabcc_16 : decode cJ8_newLength_cabcc 16 = .ok (.if_icmp .gt 5, 3) := by decide +kernel
theorem dJ8_newLength_cabcc_19 : decode cJ8_newLength_cabcc 19 = .ok (.iload_n 3, 1) := by decide +kernel
theorem dJ8_newLength_cabcc_20 : decode cJ8_newLength_cabcc 20 = .ok (.ireturn, 1) := by decide +kernel
theorem dJ8_newLength_cabcc_21 : decode cJ8_newLength_cabcc 21 = .ok (.iload_n 0, 1) := by decide +kernel
theorem dJ8_newLength_cabcc_22 : decode cJ8_newLength_cabcc 22 = .ok (.iload_n 1, 1) := by decide +kernel
theorem dJ8_newLength_cabcc_23 : decode cJ8_newLength_cabcc 23 = .ok (.invokestatic 201, 3) := by decide +kernel
theorem dJ8_newLength_cabcc_26 : decode cJ8_newLength_cabcc 26 = .ok (.ireturn, 1) := by decide +kernel
def F_J8_newLength_cabcc (x0 : Int32) (x1 : Int32) (x2 : Int32) : Option Int32 :=
  xl (x0 + (xmax x1 x2)) fun v1 =>
  if v1 ≤ 0 then
    none
  else
  if 2147483639 < v1 then
    none
  else
  some v1
set_option maxHeartbeats 4000000 in
set_option maxRecDepth 100000 in
theorem t_J8_newLength_cabcc (l : Launch) (D : va_G) (G : Nat → Nat) (h : xH) (x0 : Int32) (x1 : Int32) (x2 : Int32) (r : Int32) (hF : F_J8_newLength_cabcc x0 x1 x2 = some r) : xC l yJ8_newLength_cabcc cJ8_newLength_cabcc 4 (some .int) (rm_J8_newLength_cabcc) D G h [.int x0, .int x1, .int x2] (some (.int r)) h := by
  refine xC_of (by decide) (by first | decide | exact Nat.le_of_ble_eq_true rfl) ?_
  intro p e s m args below meth c ls hx hb hr hlk hml hown hnm hts hR hS hl
  have hl : lv_has ls 4 [(0, .int x0), (1, .int x1), (2, .int x2)] := hl
  unfold F_J8_newLength_cabcc at hF
  refine lv_iload_n hx hb dJ8_newLength_cabcc_0 rfl (lv_at hl 0 rfl) ?_
  refine lv_iload_n hx hb dJ8_newLength_cabcc_1 rfl (lv_at hl 1 rfl) ?_
  refine lv_iload_n hx hb dJ8_newLength_cabcc_2 rfl (lv_at hl 2 rfl) ?_
  refine x_max hx hb (hml.trans hl.1.symm) hown hts mm_279 mm_280 mm_65 mm_281 (by decide) (by first | exact Nat.le_of_ble_eq_true rfl | simp [xrf_cat, xcI, xcJ, xcA]) (by decide) (by decide) dJ8_newLength_cabcc_3 ?_
  refine lv_iadd hx hb dJ8_newLength_cabcc_6 ?_
  refine lv_topi (fun v1 ev1 => ?_)
  replace hF := xlet ev1 hF
  refine lv_istore_n (lv' := [(3, .int v1), (0, .int x0), (1, .int x1), (2, .int x2)]) hx hb dJ8_newLength_cabcc_7 rfl hl (by decide) (by first | rfl | (simp [xrf_cat, xcI, xcJ, xcA]; done) | (simp [xrf_cat, xcI, xcJ, xcA]; decide)) (fun ls hl => ?_)
  refine lv_iconst (v := 0) hx hb dJ8_newLength_cabcc_8 (by decide) ?_
  refine lv_iload_n hx hb dJ8_newLength_cabcc_9 rfl (lv_at hl 0 rfl) ?_
  refine lv_icmp_ge (tgt := 21) hx hb dJ8_newLength_cabcc_10 (by decide) (fun c2 => ?_) (fun c2 => ?_)
  · replace hF := xift c2 hF
    cases hF
  · replace hF := xiff c2 hF
    refine lv_iload_n hx hb dJ8_newLength_cabcc_13 rfl (lv_at hl 0 rfl) ?_
    refine lv_ldc hx hb hown (hts _ mm_282) dJ8_newLength_cabcc_14 ?_
    refine lv_icmp_gt (tgt := 21) hx hb dJ8_newLength_cabcc_16 (by decide) (fun c3 => ?_) (fun c3 => ?_)
    · replace hF := xift c3 hF
      cases hF
    · replace hF := xiff c3 hF
      refine lv_iload_n hx hb dJ8_newLength_cabcc_19 rfl (lv_at hl 0 rfl) ?_
      cases hF
      exact x_iret hx hb hr rfl hlk hR hS (by decide) (by decide) dJ8_newLength_cabcc_20
def rm_Jx4a65c_grow_92f84 : Room := { frames := 3, cells := 1, slots := 64, locals := 84 }
theorem f_Jx4a65c_grow_92f84 : xM yJx4a65c_grow_92f84 cJx4a65c_grow_92f84 4 (some (.array (.object "java/lang/Object"))) 1 := ⟨mm_275, mm_58, by decide +kernel, by decide +kernel⟩
theorem dJx4a65c_grow_92f84_0 : decode cJx4a65c_grow_92f84 0 = .ok (.aload_n 0, 1) := by decide +kernel
theorem dJx4a65c_grow_92f84_1 : decode cJx4a65c_grow_92f84 1 = .ok (.getfield 9, 3) := by decide +kernel
theorem dJx4a65c_grow_92f84_4 : decode cJx4a65c_grow_92f84 4 = .ok (.arraylength, 1) := by decide +kernel
theorem dJx4a65c_grow_92f84_5 : decode cJx4a65c_grow_92f84 5 = .ok (.istore_n 2, 1) := by decide +kernel
theorem dJx4a65c_grow_92f84_6 : decode cJx4a65c_grow_92f84 6 = .ok (.iload_n 2, 1) := by decide +kernel
theorem dJx4a65c_grow_92f84_7 : decode cJx4a65c_grow_92f84 7 = .ok (.ifCond .gt 13, 3) := by decide +kernel
theorem dJx4a65c_grow_92f84_10 : decode cJx4a65c_grow_92f84 10 = .ok (.aload_n 0, 1) := by decide +kernel
theorem dJx4a65c_grow_92f84_11 : decode cJx4a65c_grow_92f84 11 = .ok (.getfield 9, 3) := by decide +kernel
theorem dJx4a65c_grow_92f84_14 : decode cJx4a65c_grow_92f84 14 = .ok (.getstatic 39, 3) := by decide +kernel
theorem dJx4a65c_grow_92f84_17 : decode cJx4a65c_grow_92f84 17 = .ok (.if_acmp .eq 28, 3) := by decide +kernel
theorem dJx4a65c_grow_92f84_20 : decode cJx4a65c_grow_92f84 20 = .ok (.iload_n 2, 1) := by decide +kernel
theorem dJx4a65c_grow_92f84_21 : decode cJx4a65c_grow_92f84 21 = .ok (.iload_n 1, 1) := by decide +kernel
theorem dJx4a65c_grow_92f84_22 : decode cJx4a65c_grow_92f84 22 = .ok (.iload_n 2, 1) := by decide +kernel
theorem dJx4a65c_grow_92f84_23 : decode cJx4a65c_grow_92f84 23 = .ok (.isub, 1) := by decide +kernel
theorem dJx4a65c_grow_92f84_24 : decode cJx4a65c_grow_92f84 24 = .ok (.iload_n 2, 1) := by decide +kernel
theorem dJx4a65c_grow_92f84_25 : decode cJx4a65c_grow_92f84 25 = .ok (.iconst 1, 1) := by decide +kernel
theorem dJx4a65c_grow_92f84_26 : decode cJx4a65c_grow_92f84 26 = .ok (.ishr, 1) := by decide +kernel
theorem dJx4a65c_grow_92f84_27 : decode cJx4a65c_grow_92f84 27 = .ok (.invokestatic 73, 3) := by decide +kernel
theorem dJx4a65c_grow_92f84_30 : decode cJx4a65c_grow_92f84 30 = .ok (.istore_n 3, 1) := by decide +kernel
theorem dJx4a65c_grow_92f84_31 : decode cJx4a65c_grow_92f84 31 = .ok (.aload_n 0, 1) := by decide +kernel
theorem dJx4a65c_grow_92f84_32 : decode cJx4a65c_grow_92f84 32 = .ok (.aload_n 0, 1) := by decide +kernel
theorem dJx4a65c_grow_92f84_33 : decode cJx4a65c_grow_92f84 33 = .ok (.getfield 9, 3) := by decide +kernel
theorem dJx4a65c_grow_92f84_36 : decode cJx4a65c_grow_92f84 36 = .ok (.iload_n 3, 1) := by decide +kernel
theorem dJx4a65c_grow_92f84_37 : decode cJx4a65c_grow_92f84 37 = .ok (.invokestatic 66, 3) := by decide +kernel
theorem dJx4a65c_grow_92f84_40 : decode cJx4a65c_grow_92f84 40 = .ok (.dup_x1, 1) := by decide +kernel
theorem dJx4a65c_grow_92f84_41 : decode cJx4a65c_grow_92f84 41 = .ok (.putfield 9, 3) := by decide +kernel
theorem dJx4a65c_grow_92f84_44 : decode cJx4a65c_grow_92f84 44 = .ok (.areturn, 1) := by decide +kernel
theorem dJx4a65c_grow_92f84_45 : decode cJx4a65c_grow_92f84 45 = .ok (.aload_n 0, 1) := by decide +kernel
theorem dJx4a65c_grow_92f84_46 : decode cJx4a65c_grow_92f84 46 = .ok (.bipush 10, 2) := by decide +kernel
theorem dJx4a65c_grow_92f84_48 : decode cJx4a65c_grow_92f84 48 = .ok (.iload_n 1, 1) := by decide +kernel
theorem dJx4a65c_grow_92f84_49 : decode cJx4a65c_grow_92f84 49 = .ok (.invokestatic 79, 3) := by decide +kernel
theorem dJx4a65c_grow_92f84_52 : decode cJx4a65c_grow_92f84 52 = .ok (.anewarray 7, 3) := by decide +kernel
theorem dJx4a65c_grow_92f84_55 : decode cJx4a65c_grow_92f84 55 = .ok (.dup_x1, 1) := by decide +kernel
theorem dJx4a65c_grow_92f84_56 : decode cJx4a65c_grow_92f84 56 = .ok (.putfield 9, 3) := by decide +kernel
theorem dJx4a65c_grow_92f84_59 : decode cJx4a65c_grow_92f84 59 = .ok (.areturn, 1) := by decide +kernel
def F_Jx4a65c_grow_92f84 (G : Nat → Nat) (h : xH) (a0 : Nat) (x1 : Int32) : Option ((Option Nat) × xH) :=
  (gR h (some a0) 0 1).bind fun w1 =>
  (aln G h w1).bind fun v2 =>
  if 0 < v2 then
    (F_J8_newLength_cabcc v2 (x1 - v2) (v2 >>> (1 &&& 31))).bind fun v4 =>
    (gR h (some a0) 0 1).bind fun w5 =>
    w5.bind fun b6 =>
    (F_J7_copyOf_1904c G h b6 v4).bind fun (w7, h8) =>
    (xp G h8 (some a0) 0 1 (va_rf w7)).bind fun h9 =>
    some (w7, h9)
  else
  (gR h (some a0) 0 1).bind fun w10 =>
  if w10 = (some (G 1)) then
    (nAR G h (xmax 10 x1)).bind fun (q12, h13) =>
    (xp G h13 (some a0) 0 1 (va_rf (some q12))).bind fun h14 =>
    some ((some q12), h14)
  else
  (F_J8_newLength_cabcc v2 (x1 - v2) (v2 >>> (1 &&& 31))).bind fun v15 =>
  (gR h (some a0) 0 1).bind fun w16 =>
  w16.bind fun b17 =>
  (F_J7_copyOf_1904c G h b17 v15).bind fun (w18, h19) =>
  (xp G h19 (some a0) 0 1 (va_rf w18)).bind fun h20 =>
  some (w18, h20)
set_option maxHeartbeats 4000000 in
set_option maxRecDepth 100000 in
theorem t_Jx4a65c_grow_92f84 (l : Launch) (D : va_G) (G : Nat → Nat) (h : xH) (a0 : Nat) (x1 : Int32) (r : Option Nat) (h' : xH) (hF : F_Jx4a65c_grow_92f84 G h a0 x1 = some (r, h')) : xC l yJx4a65c_grow_92f84 cJx4a65c_grow_92f84 4 (some (.array (.object "java/lang/Object"))) (rm_Jx4a65c_grow_92f84) D G h [.ref a0, .int x1] (some (va_rf r)) h' := by
  refine xC_of (by decide) (by first | decide | exact Nat.le_of_ble_eq_true rfl) ?_
  intro p e s m args below meth c ls hx hb hr hlk hml hown hnm hts hR hS hl
  have hl : lv_has ls 4 [(0, va_rf (some a0)), (1, .int x1)] := hl
  unfold F_Jx4a65c_grow_92f84 at hF
  refine x_aload_n (o := (some a0)) hx hb dJx4a65c_grow_92f84_0 rfl (lv_at hl 0 rfl) ?_
  replace hF := xbind hF; obtain ⟨w1, ew1, hF⟩ := hF
  refine x_getR (o := (some a0)) (ci := 0) (C := RJx4a65c) (T := TJx4a65c) (N := 3) hx hb hts iw_Jx4a65c hown hR rfl 1 (by decide) mm_102 (Or.inl rfl) ew1 dJx4a65c_grow_92f84_1 ?_
  replace hF := xbind hF; obtain ⟨v2, ev2, hF⟩ := hF
  refine x_aln (o := w1) hx hb hR ev2 dJx4a65c_grow_92f84_4 ?_
  refine lv_istore_n (lv' := [(2, .int v2), (0, va_rf (some a0)), (1, .int x1)]) hx hb dJx4a65c_grow_92f84_5 rfl hl (by decide) (by first | rfl | (simp [xrf_cat, xcI, xcJ, xcA]; done) | (simp [xrf_cat, xcI, xcJ, xcA]; decide)) (fun ls hl => ?_)
  refine lv_iload_n hx hb dJx4a65c_grow_92f84_6 rfl (lv_at hl 0 rfl) ?_
  refine lv_if_gt (tgt := 20) hx hb dJx4a65c_grow_92f84_7 (by decide) (fun c3 => ?_) (fun c3 => ?_)
  · replace hF := xift c3 hF
    refine lv_iload_n hx hb dJx4a65c_grow_92f84_20 rfl (lv_at hl 0 rfl) ?_
    refine lv_iload_n hx hb dJx4a65c_grow_92f84_21 rfl (lv_at hl 2 rfl) ?_
    refine lv_iload_n hx hb dJx4a65c_grow_92f84_22 rfl (lv_at hl 0 rfl) ?_
    refine lv_isub hx hb dJx4a65c_grow_92f84_23 ?_
    refine lv_iload_n hx hb dJx4a65c_grow_92f84_24 rfl (lv_at hl 0 rfl) ?_
    refine lv_iconst (v := 1) hx hb dJx4a65c_grow_92f84_25 (by decide) ?_
    refine lv_ishr hx hb dJx4a65c_grow_92f84_26 ?_
    replace hF := xbind hF; obtain ⟨v4, ev4, hF⟩ := hF
    refine x_callS (As := [.int v2, .int (x1 - v2), .int (v2 >>> (1 &&& 31))]) (rest := []) (v := (some (.int v4))) (k := 3) hx hb hml hown hts hR hS (t_J8_newLength_cabcc l D G h v2 (x1 - v2) (v2 >>> (1 &&& 31)) v4 ev4) f_J8_newLength_cabcc mm_276 mm_277 rfl hl.1 rfl (by first | exact Nat.le_of_ble_eq_true rfl | simp [xrf_cat, xcI, xcJ, xcA]) dJx4a65c_grow_92f84_27 (by decide) (by decide) rfl (fun H locs hR hS => ?_)
    refine lv_istore_n (lv' := [(3, .int v4), (2, .int v2), (0, va_rf (some a0)), (1, .int x1)]) hx hb dJx4a65c_grow_92f84_30 rfl hl (by decide) (by first | rfl | (simp [xrf_cat, xcI, xcJ, xcA]; done) | (simp [xrf_cat, xcI, xcJ, xcA]; decide)) (fun ls hl => ?_)
    refine x_aload_n (o := (some a0)) hx hb dJx4a65c_grow_92f84_31 rfl (lv_at hl 2 rfl) ?_
    refine x_aload_n (o := (some a0)) hx hb dJx4a65c_grow_92f84_32 rfl (lv_at hl 2 rfl) ?_
    replace hF := xbind hF; obtain ⟨w5, ew5, hF⟩ := hF
    refine x_getR (o := (some a0)) (ci := 0) (C := RJx4a65c) (T := TJx4a65c) (N := 3) hx hb hts iw_Jx4a65c hown hR rfl 1 (by decide) mm_102 (Or.inl rfl) ew5 dJx4a65c_grow_92f84_33 ?_
    refine lv_iload_n hx hb dJx4a65c_grow_92f84_36 rfl (lv_at hl 0 rfl) ?_
    replace hF := xbind hF; obtain ⟨b6, eb6, hF⟩ := hF
    subst eb6
    replace hF := xbind hF; obtain ⟨⟨w7, h8⟩, ew7, hF⟩ := hF
    refine x_callS (As := [.ref b6, .int v4]) (rest := [va_rf (some a0)]) (v := (some (va_rf w7))) (k := 2) hx hb hml hown hts hR hS (t_J7_copyOf_1904c l D G h b6 v4 w7 h8 ew7) f_J7_copyOf_1904c mm_286 mm_287 rfl hl.1 rfl (by first | exact Nat.le_of_ble_eq_true rfl | simp [xrf_cat, xcI, xcJ, xcA]) dJx4a65c_grow_92f84_37 (by decide) (by decide) rfl (fun H locs hR hS => ?_)
    refine lv_dup_x1 hx hb dJx4a65c_grow_92f84_40 xrf_cat xrf_cat ?_
    replace hF := xbind hF; obtain ⟨h9, eh9, hF⟩ := hF
    refine x_put (o := (some a0)) (ci := 0) (C := RJx4a65c) (T := TJx4a65c) (N := 3) hx hb hts iw_Jx4a65c tyJx4a65c_ok nmJx4a65c hown hR hS rfl 1 (by decide) mm_102 (Or.inl rfl) rfl xnarRA xfitRA eh9 dJx4a65c_grow_92f84_41 (fun H locs hR hS => ?_)
    cases hF
    exact x_aret hx hb hr (Or.inr ⟨_, rfl⟩) hlk hR hS (by decide) (by decide) dJx4a65c_grow_92f84_44
  · replace hF := xiff c3 hF
    refine x_aload_n (o := (some a0)) hx hb dJx4a65c_grow_92f84_10 rfl (lv_at hl 1 rfl) ?_
    replace hF := xbind hF; obtain ⟨w10, ew10, hF⟩ := hF
    refine x_getR (o := (some a0)) (ci := 0) (C := RJx4a65c) (T := TJx4a65c) (N := 3) hx hb hts iw_Jx4a65c hown hR rfl 1 (by decide) mm_102 (Or.inl rfl) ew10 dJx4a65c_grow_92f84_11 ?_
    refine x_gets hx hb hown hts hR mm_100 dJx4a65c_grow_92f84_14 ?_
    refine lv_acmp_eq (rx := w10) (ry := (some (G 1))) (tgt := 45) hx hb dJx4a65c_grow_92f84_17 (by decide) (fun c11 => ?_) (fun c11 => ?_)
    · replace hF := xift c11 hF
      refine x_aload_n (o := (some a0)) hx hb dJx4a65c_grow_92f84_45 rfl (lv_at hl 1 rfl) ?_
      refine lv_bipush (v := 10) hx hb dJx4a65c_grow_92f84_46 (by decide) ?_
      refine lv_iload_n hx hb dJx4a65c_grow_92f84_48 rfl (lv_at hl 2 rfl) ?_
      refine x_max hx hb (hml.trans hl.1.symm) hown hts mm_318 mm_280 mm_65 mm_281 (by decide) (by first | exact Nat.le_of_ble_eq_true rfl | simp [xrf_cat, xcI, xcJ, xcA]) (by decide) (by decide) dJx4a65c_grow_92f84_49 ?_
      replace hF := xbind hF; obtain ⟨⟨q12, h13⟩, eq12, hF⟩ := hF
      refine x_anew hx hb hown hts mm_319 hR hS eq12 (by decide) (by decide) dJx4a65c_grow_92f84_52 (fun H hR hS => ?_)
      refine lv_dup_x1 hx hb dJx4a65c_grow_92f84_55 xrf_cat xrf_cat ?_
      replace hF := xbind hF; obtain ⟨h14, eh14, hF⟩ := hF
      refine x_put (o := (some a0)) (ci := 0) (C := RJx4a65c) (T := TJx4a65c) (N := 3) hx hb hts iw_Jx4a65c tyJx4a65c_ok nmJx4a65c hown hR hS rfl 1 (by decide) mm_102 (Or.inl rfl) rfl xnarRA xfitRA eh14 dJx4a65c_grow_92f84_56 (fun H locs hR hS => ?_)
      cases hF
      exact x_aret hx hb hr (Or.inr ⟨_, rfl⟩) hlk hR hS (by decide) (by decide) dJx4a65c_grow_92f84_59
    · replace hF := xiff c11 hF
      refine lv_iload_n hx hb dJx4a65c_grow_92f84_20 rfl (lv_at hl 0 rfl) ?_
      refine lv_iload_n hx hb dJx4a65c_grow_92f84_21 rfl (lv_at hl 2 rfl) ?_
      refine lv_iload_n hx hb dJx4a65c_grow_92f84_22 rfl (lv_at hl 0 rfl) ?_
      refine lv_isub hx hb dJx4a65c_grow_92f84_23 ?_
      refine lv_iload_n hx hb dJx4a65c_grow_92f84_24 rfl (lv_at hl 0 rfl) ?_
      refine lv_iconst (v := 1) hx hb dJx4a65c_grow_92f84_25 (by decide) ?_
      refine lv_ishr hx hb dJx4a65c_grow_92f84_26 ?_
      replace hF := xbind hF; obtain ⟨v15, ev15, hF⟩ := hF
      refine x_callS (As := [.int v2, .int (x1 - v2), .int (v2 >>> (1 &&& 31))]) (rest := []) (v := (some (.int v15))) (k := 3) hx hb hml hown hts hR hS (t_J8_newLength_cabcc l D G h v2 (x1 - v2) (v2 >>> (1 &&& 31)) v15 ev15) f_J8_newLength_cabcc mm_276 mm_277 rfl hl.1 rfl (by first | exact Nat.le_of_ble_eq_true rfl | simp [xrf_cat, xcI, xcJ, xcA]) dJx4a65c_grow_92f84_27 (by decide) (by decide) rfl (fun H locs hR hS => ?_)
      refine lv_istore_n (lv' := [(3, .int v15), (2, .int v2), (0, va_rf (some a0)), (1, .int x1)]) hx hb dJx4a65c_grow_92f84_30 rfl hl (by decide) (by first | rfl | (simp [xrf_cat, xcI, xcJ, xcA]; done) | (simp [xrf_cat, xcI, xcJ, xcA]; decide)) (fun ls hl => ?_)
      refine x_aload_n (o := (some a0)) hx hb dJx4a65c_grow_92f84_31 rfl (lv_at hl 2 rfl) ?_
      refine x_aload_n (o := (some a0)) hx hb dJx4a65c_grow_92f84_32 rfl (lv_at hl 2 rfl) ?_
      replace hF := xbind hF; obtain ⟨w16, ew16, hF⟩ := hF
      refine x_getR (o := (some a0)) (ci := 0) (C := RJx4a65c) (T := TJx4a65c) (N := 3) hx hb hts iw_Jx4a65c hown hR rfl 1 (by decide) mm_102 (Or.inl rfl) ew16 dJx4a65c_grow_92f84_33 ?_
      refine lv_iload_n hx hb dJx4a65c_grow_92f84_36 rfl (lv_at hl 0 rfl) ?_
      replace hF := xbind hF; obtain ⟨b17, eb17, hF⟩ := hF
      subst eb17
      replace hF := xbind hF; obtain ⟨⟨w18, h19⟩, ew18, hF⟩ := hF
      refine x_callS (As := [.ref b17, .int v15]) (rest := [va_rf (some a0)]) (v := (some (va_rf w18))) (k := 2) hx hb hml hown hts hR hS (t_J7_copyOf_1904c l D G h b17 v15 w18 h19 ew18) f_J7_copyOf_1904c mm_286 mm_287 rfl hl.1 rfl (by first | exact Nat.le_of_ble_eq_true rfl | simp [xrf_cat, xcI, xcJ, xcA]) dJx4a65c_grow_92f84_37 (by decide) (by decide) rfl (fun H locs hR hS => ?_)
      refine lv_dup_x1 hx hb dJx4a65c_grow_92f84_40 xrf_cat xrf_cat ?_
      replace hF := xbind hF; obtain ⟨h20, eh20, hF⟩ := hF
      refine x_put (o := (some a0)) (ci := 0) (C := RJx4a65c) (T := TJx4a65c) (N := 3) hx hb hts iw_Jx4a65c tyJx4a65c_ok nmJx4a65c hown hR hS rfl 1 (by decide) mm_102 (Or.inl rfl) rfl xnarRA xfitRA eh20 dJx4a65c_grow_92f84_41 (fun H locs hR hS => ?_)
      cases hF
      exact x_aret hx hb hr (Or.inr ⟨_, rfl⟩) hlk hR hS (by decide) (by decide) dJx4a65c_grow_92f84_44
def rm_Jx4a65c_grow_d5877 : Room := { frames := 4, cells := 1, slots := 64, locals := 107 }
theorem f_Jx4a65c_grow_d5877 : xM yJx4a65c_grow_d5877 cJx4a65c_grow_d5877 1 (some (.array (.object "java/lang/Object"))) 0 := ⟨mm_271, mm_58, by decide +kernel, by decide +kernel⟩
theorem dJx4a65c_grow_d5877_0 : decode cJx4a65c_grow_d5877 0 = .ok (.aload_n 0, 1) := by decide +kernel
theorem dJx4a65c_grow_d5877_1 : decode cJx4a65c_grow_d5877 1 = .ok (.aload_n 0, 1) := by decide +kernel
theorem dJx4a65c_grow_d5877_2 : decode cJx4a65c_grow_d5877 2 = .ok (.getfield 48, 3) := by decide +kernel
theorem dJx4a65c_grow_d5877_5 : decode cJx4a65c_grow_d5877 5 = .ok (.iconst 1, 1) := by decide +kernel
theorem dJx4a65c_grow_d5877_6 : decode cJx4a65c_grow_d5877 6 = .ok (.iadd, 1) := by decide +kernel
theorem dJx4a65c_grow_d5877_7 : decode cJx4a65c_grow_d5877 7 = .ok (.invokevirtual 69, 3) := by decide +kernel
theorem dJx4a65c_grow_d5877_10 : decode cJx4a65c_grow_d5877 10 = .ok (.areturn, 1) := by decide +kernel
def F_Jx4a65c_grow_d5877 (G : Nat → Nat) (h : xH) (a0 : Nat) : Option ((Option Nat) × xH) :=
  (gI h (some a0) 0 2).bind fun v1 =>
  (xc h (some a0) 0).bind fun b4 =>
  (F_Jx4a65c_grow_92f84 G h b4 (v1 + 1)).bind fun (w2, h3) =>
  some (w2, h3)
set_option maxHeartbeats 4000000 in
set_option maxRecDepth 100000 in
theorem t_Jx4a65c_grow_d5877 (l : Launch) (D : va_G) (G : Nat → Nat) (h : xH) (a0 : Nat) (r : Option Nat) (h' : xH) (hF : F_Jx4a65c_grow_d5877 G h a0 = some (r, h')) : xC l yJx4a65c_grow_d5877 cJx4a65c_grow_d5877 1 (some (.array (.object "java/lang/Object"))) (rm_Jx4a65c_grow_d5877) D G h [.ref a0] (some (va_rf r)) h' := by
  refine xC_of (by decide) (by first | decide | exact Nat.le_of_ble_eq_true rfl) ?_
  intro p e s m args below meth c ls hx hb hr hlk hml hown hnm hts hR hS hl
  have hl : lv_has ls 1 [(0, va_rf (some a0))] := hl
  unfold F_Jx4a65c_grow_d5877 at hF
  refine x_aload_n (o := (some a0)) hx hb dJx4a65c_grow_d5877_0 rfl (lv_at hl 0 rfl) ?_
  refine x_aload_n (o := (some a0)) hx hb dJx4a65c_grow_d5877_1 rfl (lv_at hl 0 rfl) ?_
  replace hF := xbind hF; obtain ⟨v1, ev1, hF⟩ := hF
  refine x_getI (o := (some a0)) (ci := 0) (C := RJx4a65c) (T := TJx4a65c) (N := 3) hx hb hts iw_Jx4a65c hown hR rfl 2 (by decide) mm_103 (Or.inl rfl) ev1 dJx4a65c_grow_d5877_2 ?_
  refine lv_iconst (v := 1) hx hb dJx4a65c_grow_d5877_5 (by decide) ?_
  refine lv_iadd hx hb dJx4a65c_grow_d5877_6 ?_
  replace hF := xbind hF; obtain ⟨b4, eb4, hF⟩ := hF
  replace hF := xbind hF; obtain ⟨⟨w2, h3⟩, ew2, hF⟩ := hF
  refine x_callV (o := (some a0)) (ci := 0) (As := [.int (v1 + 1)]) (rest := []) (v := (some (va_rf w2))) (k := 1) hx hb hml hown hts hR hS eb4 rfl rfl (t_Jx4a65c_grow_92f84 l D G h b4 (v1 + 1) w2 h3 ew2) f_Jx4a65c_grow_92f84 mm_272 mm_274 mm_2 rfl hl.1 rfl (by first | exact Nat.le_of_ble_eq_true rfl | simp [xrf_cat, xcI, xcJ, xcA]) dJx4a65c_grow_d5877_7 (by decide) (by decide) rfl (fun H locs hR hS => ?_)
  cases hF
  exact x_aret hx hb hr (Or.inr ⟨_, rfl⟩) hlk hR hS (by decide) (by decide) dJx4a65c_grow_d5877_10
def rm_Jx4a65c_add_72be8 : Room := { frames := 5, cells := 1, slots := 64, locals := 127 }
theorem f_Jx4a65c_add_72be8 : xM yJx4a65c_add_72be8 cJx4a65c_add_72be8 4 none 3 := ⟨mm_267, mm_58, by decide +kernel, by decide +kernel⟩
theorem dJx4a65c_add_72be8_0 : decode cJx4a65c_add_72be8 0 = .ok (.iload_n 3, 1) := by decide +kernel
theorem dJx4a65c_add_72be8_1 : decode cJx4a65c_add_72be8 1 = .ok (.aload_n 2, 1) := by decide +kernel
theorem dJx4a65c_add_72be8_2 : decode cJx4a65c_add_72be8 2 = .ok (.arraylength, 1) := by decide +kernel
theorem dJx4a65c_add_72be8_3 : decode cJx4a65c_add_72be8 3 = .ok (.if_icmp .ne 8, 3) := by decide +kernel
theorem dJx4a65c_add_72be8_6 : decode cJx4a65c_add_72be8 6 = .ok (.aload_n 0, 1) := by decide +kernel
theorem dJx4a65c_add_72be8_7 : decode cJx4a65c_add_72be8 7 = .ok (.invokevirtual 129, 3) := by decide +kernel
theorem dJx4a65c_add_72be8_10 : decode cJx4a65c_add_72be8 10 = .ok (.astore_n 2, 1) := by decide +kernel
theorem dJx4a65c_add_72be8_11 : decode cJx4a65c_add_72be8 11 = .ok (.aload_n 2, 1) := by decide +kernel
theorem dJx4a65c_add_72be8_12 : decode cJx4a65c_add_72be8 12 = .ok (.iload_n 3, 1) := by decide +kernel
theorem dJx4a65c_add_72be8_13 : decode cJx4a65c_add_72be8 13 = .ok (.aload_n 1, 1) := by decide +kernel
theorem dJx4a65c_add_72be8_14 : decode cJx4a65c_add_72be8 14 = .ok (.aastore, 1) := by decide +kernel
theorem dJx4a65c_add_72be8_15 : decode cJx4a65c_add_72be8 15 = .ok (.aload_n 0, 1) := by decide +kernel
theorem dJx4a65c_add_72be8_16 : decode cJx4a65c_add_72be8 16 = .ok (.iload_n 3, 1) := by decide +kernel
theorem dJx4a65c_add_72be8_17 : decode cJx4a65c_add_72be8 17 = .ok (.iconst 1, 1) := by decide +kernel
theorem dJx4a65c_add_72be8_18 : decode cJx4a65c_add_72be8 18 = .ok (.iadd, 1) := by decide +kernel
theorem dJx4a65c_add_72be8_19 : decode cJx4a65c_add_72be8 19 = .ok (.putfield 48, 3) := by decide +kernel
theorem dJx4a65c_add_72be8_22 : decode cJx4a65c_add_72be8 22 = .ok (.return_, 1) := by decide +kernel
def F_Jx4a65c_add_72be8 (G : Nat → Nat) (h : xH) (a0 : Nat) (a1 : Nat) (a2 : Nat) (x3 : Int32) : Option xH :=
  (aln G h (some a2)).bind fun v1 =>
  if x3 = v1 then
    (xc h (some a0) 0).bind fun b7 =>
    (F_Jx4a65c_grow_d5877 G h b7).bind fun (w5, h6) =>
    (stR G h6 w5 x3 (some a1)).bind fun h8 =>
    (xp G h8 (some a0) 0 2 (.int (x3 + 1))).bind fun h9 =>
    some h9
  else
  (stR G h (some a2) x3 (some a1)).bind fun h3 =>
  (xp G h3 (some a0) 0 2 (.int (x3 + 1))).bind fun h4 =>
  some h4
set_option maxHeartbeats 4000000 in
set_option maxRecDepth 100000 in
theorem t_Jx4a65c_add_72be8 (l : Launch) (D : va_G) (G : Nat → Nat) (h : xH) (a0 : Nat) (a1 : Nat) (a2 : Nat) (x3 : Int32) (h' : xH) (hF : F_Jx4a65c_add_72be8 G h a0 a1 a2 x3 = some h') : xC l yJx4a65c_add_72be8 cJx4a65c_add_72be8 4 none (rm_Jx4a65c_add_72be8) D G h [.ref a0, .ref a1, .ref a2, .int x3] none h' := by
  refine xC_of (by decide) (by first | decide | exact Nat.le_of_ble_eq_true rfl) ?_
  intro p e s m args below meth c ls hx hb hr hlk hml hown hnm hts hR hS hl
  have hl : lv_has ls 4 [(0, va_rf (some a0)), (1, va_rf (some a1)), (2, va_rf (some a2)), (3, .int x3)] := hl
  unfold F_Jx4a65c_add_72be8 at hF
  refine lv_iload_n hx hb dJx4a65c_add_72be8_0 rfl (lv_at hl 3 rfl) ?_
  refine x_aload_n (o := (some a2)) hx hb dJx4a65c_add_72be8_1 rfl (lv_at hl 2 rfl) ?_
  replace hF := xbind hF; obtain ⟨v1, ev1, hF⟩ := hF
  refine x_aln (o := (some a2)) hx hb hR ev1 dJx4a65c_add_72be8_2 ?_
  refine lv_icmp_ne (tgt := 11) hx hb dJx4a65c_add_72be8_3 (by decide) (fun c2 => ?_) (fun c2 => ?_)
  · replace hF := xiff c2 hF
    refine x_aload_n (o := (some a2)) hx hb dJx4a65c_add_72be8_11 rfl (lv_at hl 2 rfl) ?_
    refine lv_iload_n hx hb dJx4a65c_add_72be8_12 rfl (lv_at hl 3 rfl) ?_
    refine x_aload_n (o := (some a1)) hx hb dJx4a65c_add_72be8_13 rfl (lv_at hl 1 rfl) ?_
    replace hF := xbind hF; obtain ⟨h3, eh3, hF⟩ := hF
    refine x_ast (o := (some a2)) (v := (some a1)) hx hb hR hS eh3 dJx4a65c_add_72be8_14 (fun H locs hR hS => ?_)
    refine x_aload_n (o := (some a0)) hx hb dJx4a65c_add_72be8_15 rfl (lv_at hl 0 rfl) ?_
    refine lv_iload_n hx hb dJx4a65c_add_72be8_16 rfl (lv_at hl 3 rfl) ?_
    refine lv_iconst (v := 1) hx hb dJx4a65c_add_72be8_17 (by decide) ?_
    refine lv_iadd hx hb dJx4a65c_add_72be8_18 ?_
    replace hF := xbind hF; obtain ⟨h4, eh4, hF⟩ := hF
    refine x_put (o := (some a0)) (ci := 0) (C := RJx4a65c) (T := TJx4a65c) (N := 3) hx hb hts iw_Jx4a65c tyJx4a65c_ok nmJx4a65c hown hR hS rfl 2 (by decide) mm_103 (Or.inl rfl) rfl rfl rfl eh4 dJx4a65c_add_72be8_19 (fun H locs hR hS => ?_)
    cases hF
    exact x_vret hx hb hr hlk hR hS (by decide) (by decide) dJx4a65c_add_72be8_22
  · replace hF := xift c2 hF
    refine x_aload_n (o := (some a0)) hx hb dJx4a65c_add_72be8_6 rfl (lv_at hl 0 rfl) ?_
    replace hF := xbind hF; obtain ⟨b7, eb7, hF⟩ := hF
    replace hF := xbind hF; obtain ⟨⟨w5, h6⟩, ew5, hF⟩ := hF
    refine x_callV (o := (some a0)) (ci := 0) (As := []) (rest := []) (v := (some (va_rf w5))) (k := 0) hx hb hml hown hts hR hS eb7 rfl rfl (t_Jx4a65c_grow_d5877 l D G h b7 w5 h6 ew5) f_Jx4a65c_grow_d5877 mm_268 mm_270 mm_1 rfl hl.1 rfl (by first | exact Nat.le_of_ble_eq_true rfl | simp [xrf_cat, xcI, xcJ, xcA]) dJx4a65c_add_72be8_7 (by decide) (by decide) rfl (fun H locs hR hS => ?_)
    refine x_astore_n (o := w5) (lv' := [(2, va_rf w5), (0, va_rf (some a0)), (1, va_rf (some a1)), (3, .int x3)]) hx hb dJx4a65c_add_72be8_10 rfl hl (by decide) (by first | rfl | (simp [xrf_cat, xcI, xcJ, xcA]; done) | (simp [xrf_cat, xcI, xcJ, xcA]; decide)) (fun ls hl => ?_)
    refine x_aload_n (o := w5) hx hb dJx4a65c_add_72be8_11 rfl (lv_at hl 0 rfl) ?_
    refine lv_iload_n hx hb dJx4a65c_add_72be8_12 rfl (lv_at hl 3 rfl) ?_
    refine x_aload_n (o := (some a1)) hx hb dJx4a65c_add_72be8_13 rfl (lv_at hl 2 rfl) ?_
    replace hF := xbind hF; obtain ⟨h8, eh8, hF⟩ := hF
    refine x_ast (o := w5) (v := (some a1)) hx hb hR hS eh8 dJx4a65c_add_72be8_14 (fun H locs hR hS => ?_)
    refine x_aload_n (o := (some a0)) hx hb dJx4a65c_add_72be8_15 rfl (lv_at hl 1 rfl) ?_
    refine lv_iload_n hx hb dJx4a65c_add_72be8_16 rfl (lv_at hl 3 rfl) ?_
    refine lv_iconst (v := 1) hx hb dJx4a65c_add_72be8_17 (by decide) ?_
    refine lv_iadd hx hb dJx4a65c_add_72be8_18 ?_
    replace hF := xbind hF; obtain ⟨h9, eh9, hF⟩ := hF
    refine x_put (o := (some a0)) (ci := 0) (C := RJx4a65c) (T := TJx4a65c) (N := 3) hx hb hts iw_Jx4a65c tyJx4a65c_ok nmJx4a65c hown hR hS rfl 2 (by decide) mm_103 (Or.inl rfl) rfl rfl rfl eh9 dJx4a65c_add_72be8_19 (fun H locs hR hS => ?_)
    cases hF
    exact x_vret hx hb hr hlk hR hS (by decide) (by decide) dJx4a65c_add_72be8_22
def rm_Jx4a65c_add_9ea2d : Room := { frames := 6, cells := 1, slots := 64, locals := 150 }
theorem f_Jx4a65c_add_9ea2d : xM yJx4a65c_add_9ea2d cJx4a65c_add_9ea2d 2 (some .boolean) 1 := ⟨mm_263, mm_58, by decide +kernel, by decide +kernel⟩
theorem dJx4a65c_add_9ea2d_0 : decode cJx4a65c_add_9ea2d 0 = .ok (.aload_n 0, 1) := by decide +kernel
theorem dJx4a65c_add_9ea2d_1 : decode cJx4a65c_add_9ea2d 1 = .ok (.dup, 1) := by decide +kernel
theorem dJx4a65c_add_9ea2d_2 : decode cJx4a65c_add_9ea2d 2 = .ok (.getfield 63, 3) := by decide +kernel
theorem dJx4a65c_add_9ea2d_5 : decode cJx4a65c_add_9ea2d 5 = .ok (.iconst 1, 1) := by decide +kernel
theorem dJx4a65c_add_9ea2d_6 : decode cJx4a65c_add_9ea2d 6 = .ok (.iadd, 1) := by decide +kernel
theorem dJx4a65c_add_9ea2d_7 : decode cJx4a65c_add_9ea2d 7 = .ok (.putfield 63, 3) := by decide +kernel
theorem dJx4a65c_add_9ea2d_10 : decode cJx4a65c_add_9ea2d 10 = .ok (.aload_n 0, 1) := by decide +kernel
theorem dJx4a65c_add_9ea2d_11 : decode cJx4a65c_add_9ea2d 11 = .ok (.aload_n 1, 1) := by decide +kernel
theorem dJx4a65c_add_9ea2d_12 : decode cJx4a65c_add_9ea2d 12 = .ok (.aload_n 0, 1) := by decide +kernel
theorem dJx4a65c_add_9ea2d_13 : decode cJx4a65c_add_9ea2d 13 = .ok (.getfield 9, 3) := by decide +kernel
theorem dJx4a65c_add_9ea2d_16 : decode cJx4a65c_add_9ea2d 16 = .ok (.aload_n 0, 1) := by decide +kernel
theorem dJx4a65c_add_9ea2d_17 : decode cJx4a65c_add_9ea2d 17 = .ok (.getfield 48, 3) := by decide +kernel
theorem dJx4a65c_add_9ea2d_20 : decode cJx4a65c_add_9ea2d 20 = .ok (.invokevirtual 131, 3) := by decide +kernel
theorem dJx4a65c_add_9ea2d_23 : decode cJx4a65c_add_9ea2d 23 = .ok (.iconst 1, 1) := by decide +kernel
theorem dJx4a65c_add_9ea2d_24 : decode cJx4a65c_add_9ea2d 24 = .ok (.ireturn, 1) := by decide +kernel
def F_Jx4a65c_add_9ea2d (G : Nat → Nat) (h : xH) (a0 : Nat) (a1 : Nat) : Option (Int32 × xH) :=
  (gI h (some a0) 0 0).bind fun v1 =>
  (xp G h (some a0) 0 0 (.int (v1 + 1))).bind fun h2 =>
  (gR h2 (some a0) 0 1).bind fun w3 =>
  (gI h2 (some a0) 0 2).bind fun v4 =>
  w3.bind fun b5 =>
  (xc h2 (some a0) 0).bind fun b7 =>
  (F_Jx4a65c_add_72be8 G h2 b7 a1 b5 v4).bind fun h6 =>
  some (1, h6)
set_option maxHeartbeats 4000000 in
set_option maxRecDepth 100000 in
theorem t_Jx4a65c_add_9ea2d (l : Launch) (D : va_G) (G : Nat → Nat) (h : xH) (a0 : Nat) (a1 : Nat) (r : Int32) (h' : xH) (hF : F_Jx4a65c_add_9ea2d G h a0 a1 = some (r, h')) : xC l yJx4a65c_add_9ea2d cJx4a65c_add_9ea2d 2 (some .boolean) (rm_Jx4a65c_add_9ea2d) D G h [.ref a0, .ref a1] (some (.int r)) h' := by
  refine xC_of (by decide) (by first | decide | exact Nat.le_of_ble_eq_true rfl) ?_
  intro p e s m args below meth c ls hx hb hr hlk hml hown hnm hts hR hS hl
  have hl : lv_has ls 2 [(0, va_rf (some a0)), (1, va_rf (some a1))] := hl
  unfold F_Jx4a65c_add_9ea2d at hF
  refine x_aload_n (o := (some a0)) hx hb dJx4a65c_add_9ea2d_0 rfl (lv_at hl 0 rfl) ?_
  refine lv_dup hx hb dJx4a65c_add_9ea2d_1 xrf_cat ?_
  replace hF := xbind hF; obtain ⟨v1, ev1, hF⟩ := hF
  refine x_getI (o := (some a0)) (ci := 0) (C := RJx4a65c) (T := TJx4a65c) (N := 3) hx hb hts iw_Jx4a65c hown hR rfl 0 (by decide) mm_105 (Or.inr mm_106) ev1 dJx4a65c_add_9ea2d_2 ?_
  refine lv_iconst (v := 1) hx hb dJx4a65c_add_9ea2d_5 (by decide) ?_
  refine lv_iadd hx hb dJx4a65c_add_9ea2d_6 ?_
  replace hF := xbind hF; obtain ⟨h2, eh2, hF⟩ := hF
  refine x_put (o := (some a0)) (ci := 0) (C := RJx4a65c) (T := TJx4a65c) (N := 3) hx hb hts iw_Jx4a65c tyJx4a65c_ok nmJx4a65c hown hR hS rfl 0 (by decide) mm_105 (Or.inr mm_106) rfl rfl rfl eh2 dJx4a65c_add_9ea2d_7 (fun H locs hR hS => ?_)
  refine x_aload_n (o := (some a0)) hx hb dJx4a65c_add_9ea2d_10 rfl (lv_at hl 0 rfl) ?_
  refine x_aload_n (o := (some a1)) hx hb dJx4a65c_add_9ea2d_11 rfl (lv_at hl 1 rfl) ?_
  refine x_aload_n (o := (some a0)) hx hb dJx4a65c_add_9ea2d_12 rfl (lv_at hl 0 rfl) ?_
  replace hF := xbind hF; obtain ⟨w3, ew3, hF⟩ := hF
  refine x_getR (o := (some a0)) (ci := 0) (C := RJx4a65c) (T := TJx4a65c) (N := 3) hx hb hts iw_Jx4a65c hown hR rfl 1 (by decide) mm_102 (Or.inl rfl) ew3 dJx4a65c_add_9ea2d_13 ?_
  refine x_aload_n (o := (some a0)) hx hb dJx4a65c_add_9ea2d_16 rfl (lv_at hl 0 rfl) ?_
  replace hF := xbind hF; obtain ⟨v4, ev4, hF⟩ := hF
  refine x_getI (o := (some a0)) (ci := 0) (C := RJx4a65c) (T := TJx4a65c) (N := 3) hx hb hts iw_Jx4a65c hown hR rfl 2 (by decide) mm_103 (Or.inl rfl) ev4 dJx4a65c_add_9ea2d_17 ?_
  replace hF := xbind hF; obtain ⟨b5, eb5, hF⟩ := hF
  subst eb5
  replace hF := xbind hF; obtain ⟨b7, eb7, hF⟩ := hF
  replace hF := xbind hF; obtain ⟨h6, eh6, hF⟩ := hF
  refine x_callV (o := (some a0)) (ci := 0) (As := [.ref a1, .ref b5, .int v4]) (rest := []) (v := none) (k := 3) hx hb hml hown hts hR hS eb7 rfl rfl (t_Jx4a65c_add_72be8 l D G h2 b7 a1 b5 v4 h6 eh6) f_Jx4a65c_add_72be8 mm_264 mm_266 mm_0 rfl hl.1 rfl (by first | exact Nat.le_of_ble_eq_true rfl | simp [xrf_cat, xcI, xcJ, xcA]) dJx4a65c_add_9ea2d_20 (by decide) (by decide) rfl (fun H locs hR hS => ?_)
  refine lv_iconst (v := 1) hx hb dJx4a65c_add_9ea2d_23 (by decide) ?_
  cases hF
  exact x_iret hx hb hr rfl hlk hR hS (by decide) (by decide) dJx4a65c_add_9ea2d_24
