theorem dL_span_0 : decode cL_span 0 = .ok (.aload 4, 2) := by decide +kernel
theorem dL_span_2 : decode cL_span 2 = .ok (.iconst 0, 1) := by decide +kernel
theorem dL_span_3 : decode cL_span 3 = .ok (.aload_n 0, 1) := by decide +kernel
theorem dL_span_4 : decode cL_span 4 = .ok (.iload_n 1, 1) := by decide +kernel
theorem dL_span_5 : decode cL_span 5 = .ok (.iload_n 2, 1) := by decide +kernel
theorem dL_span_6 : decode cL_span 6 = .ok (.iload_n 3, 1) := by decide +kernel
theorem dL_span_7 : decode cL_span 7 = .ok (.invokevirtual 7, 3) := by decide +kernel
theorem dL_span_10 : decode cL_span 10 = .ok (.i2l, 1) := by decide +kernel
theorem dL_span_11 : decode cL_span 11 = .ok (.lastore, 1) := by decide +kernel
theorem dL_span_12 : decode cL_span 12 = .ok (.goto 7, 3) := by decide +kernel
theorem dL_span_15 : decode cL_span 15 = .ok (.astore 5, 2) := by decide +kernel
theorem dL_span_17 : decode cL_span 17 = .ok (.iconst 1, 1) := by decide +kernel
theorem dL_span_18 : decode cL_span 18 = .ok (.ireturn, 1) := by decide +kernel
theorem dL_span_19 : decode cL_span 19 = .ok (.iconst 0, 1) := by decide +kernel
theorem dL_span_20 : decode cL_span 20 = .ok (.ireturn, 1) := by decide +kernel
set_option maxHeartbeats 4000000 in
set_option maxRecDepth 100000 in
theorem t_L_span (l : Launch) (hlt : l.stackTraces = false) (D : va_G) (G : Nat → Nat) (h : xH) (a0 : Nat) (x1 x2 x3 : Int32) (a4 : Nat) (res : Option Int32) (h1 : xc h (some a0) 10 = some a0) (hF : F_X10_span G h a0 x1 x2 x3 = some res) (hs : ∀ v, res = some v → ∃ h', stJ G h (some a4) 0 v.toInt64 = some h') : Met l yL_span xWs rm_L_span (xPb D G h [.ref a0, .int x1, .int x2, .int x3, .ref a4]) (xQs D G h a4 res) rm_L_span.cells rm_L_span.slots (xA G) := by
  refine va_MetW (cc := cL_span) (maxL := 6) (ret := some .int) (hh := [(0, 12, 15, 13)]) (by decide) rfl ?_
  intro p e s m args below meth c s₁ B hml hv
  obtain ⟨⟨rfl, hR⟩, hB⟩ := hv
  have hl := lv_entry ([.ref a0, .int x1, .int x2, .int x3, .ref a4] : List Value) (n := 6) (Nat.le_of_ble_eq_true rfl)
  rw [lg_entry_eq]
  have hts0 := atoms_spec (ws := xWs) B.pre
  have htab := vx_table (x := yL_span) B (hts0 _ List.mem_cons_self)
  have hts : ∀ w ∈ xt, w.before _ s = true := fun w hw => hts0 w (List.mem_cons_of_mem _ hw)
  have hx := B.exec
  have hb := B.bytes
  have hr := B.returns
  have hlk := B.notSynchronized
  have hown : s.vm.findClass RL = some m.cls := findClass_of_methodNamed B.named
  have hS : va_S (xA G) s.heap s.heap [] := va_S.rf
  generalize (lg_sl ([.ref a0, .int x1, .int x2, .int x3, .ref a4] : List Value) ++ List.replicate (6 - (lg_sl ([.ref a0, .int x1, .int x2, .int x3, .ref a4] : List Value)).length) Slot.unset).toArray = ls at hl ⊢
  have hl : lv_has ls 6 [(0, va_rf (some a0)), (1, .int x1), (2, .int x2), (3, .int x3), (4, va_rf (some a4))] := hl
  refine x_aload (o := some a4) hx hb dL_span_0 (lv_at hl 4 rfl) ?_
  refine lv_iconst (v := 0) hx hb dL_span_2 (by decide) ?_
  refine x_aload_n (o := some a0) hx hb dL_span_3 rfl (lv_at hl 0 rfl) ?_
  refine lv_iload_n hx hb dL_span_4 rfl (lv_at hl 1 rfl) ?_
  refine lv_iload_n hx hb dL_span_5 rfl (lv_at hl 2 rfl) ?_
  refine lv_iload_n hx hb dL_span_6 rfl (lv_at hl 3 rfl) ?_
  refine x_callVx (o := some a0) (ci := 10) (As := [.int x1, .int x2, .int x3]) (rest := [.int 0, va_rf (some a4)]) (k := 3) hx hb hml hown hts hB hR hS h1 rfl rfl (t_X10_span l hlt D G h a0 x1 x2 x3 res hF) f_X10_span mm_839 mm_840 mm_841 rfl hl.1 rfl (Nat.le_of_ble_eq_true rfl) dL_span_7 (by decide) (by decide) (fun v H locs hv hR hS => ?_) (fun z a9 ce H locs hv hz hR hS hc9 hvm9 hcl9 => ?_)
  · obtain ⟨h', hst⟩ := hs v hv
    refine lv_i2l (v := v.toInt64) hx hb dL_span_10 rfl ?_
    refine x_lst (o := some a4) hx hb hR hS hst dL_span_11 (fun H locs hR hS => ?_)
    refine lv_goto (tgt := 19) hx hb dL_span_12 (by decide) ?_
    refine lv_iconst (v := 0) hx hb dL_span_19 (by decide) ?_
    exact W.widen (by decide) (by decide) (W.iret hx hb hr (fun t ht hW => ⟨hS.F ht, Or.inl ⟨v, h', hv, hst, rfl, by rw [ht]; exact hR.moved hW.alike⟩⟩) hS.2.2 dL_span_20 hlk)
  · refine vx_catch (own := RL) (name := "java/util/NoSuchElementException") (E := "java/util/NoSuchElementException") hown [] ⟨0, 12, 15, 13⟩ [] htab (fun _ h => by cases h) (by decide) (by decide) (hts _ mm_838) (va_Nw.use rfl (hB (.castable "java/util/NoSuchElementException" "java/util/NoSuchElementException") (by simp [xBs]))) hc9 hvm9 hcl9 ?_
    refine lv_astore (lv' := [(5, .ref a9), (0, va_rf (some a0)), (1, .int x1), (2, .int x2), (3, .int x3), (4, va_rf (some a4))]) hx hb dL_span_15 hl (by decide) rfl (fun ls hl => ?_)
    refine lv_iconst (v := 1) hx hb dL_span_17 (by decide) ?_
    exact W.widen (by decide) (by decide) (W.iret hx hb hr (fun t ht hW => ⟨hS.F ht, Or.inr ⟨hv, rfl, z, hz, by rw [ht]; exact hR.moved hW.alike⟩⟩) hS.2.2 dL_span_18 hlk)
