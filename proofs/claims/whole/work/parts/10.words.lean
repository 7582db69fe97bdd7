theorem mm_5 : Cond.selects "ShareKeeper$Source" ⟨"ShareKeeper$Source", "isOpen", "(II)Z"⟩ ⟨"ShareKeeper$Source", "isOpen", "(II)Z"⟩ ∈ xt := xt_of (List.mem_of_getElem? (i := 5) (by decide +kernel)) (by decide +kernel)
theorem mm_70 : Cond.initialized "ShareKeeper$Source" ∈ xt := xt_of (List.mem_of_getElem? (i := 70) (by decide +kernel)) (by decide +kernel)
theorem mm_356 : Cond.fieldLink "ShareKeeper$Source" 23 "ShareKeeper$Source" "late" "I" ∈ xt := xt_of (List.mem_of_getElem? (i := 356) (by decide +kernel)) (by decide +kernel)
theorem mm_359 : Cond.fieldLink "ShareKeeper$Source" 27 "ShareKeeper$Source" "most" "I" ∈ xt := xt_of (List.mem_of_getElem? (i := 359) (by decide +kernel)) (by decide +kernel)
theorem mm_360 : Cond.fieldLink "ShareKeeper$Source" 9 "ShareKeeper$Source" "came" "[I" ∈ xt := xt_of (List.mem_of_getElem? (i := 360) (by decide +kernel)) (by decide +kernel)
theorem mm_361 : Cond.fieldLink "ShareKeeper$Source" 15 "ShareKeeper$Source" "taken" "[Z" ∈ xt := xt_of (List.mem_of_getElem? (i := 361) (by decide +kernel)) (by decide +kernel)
theorem mm_385 : Cond.code ⟨"ShareKeeper$Source", "refusal", "(IIII)I"⟩ prog_10_method_2_code 5 (some .int) ∈ xt := xt_of (List.mem_of_getElem? (i := 385) (by decide +kernel)) (by decide +kernel)
theorem mm_386 : Cond.methodLink "ShareKeeper$Source" 30 ⟨"ShareKeeper$Source", "isOpen", "(II)Z"⟩ ∈ xt := xt_of (List.mem_of_getElem? (i := 386) (by decide +kernel)) (by decide +kernel)
theorem mm_388 : Cond.instanceMethod ⟨"ShareKeeper$Source", "isOpen", "(II)Z"⟩ ∈ xt := xt_of (List.mem_of_getElem? (i := 388) (by decide +kernel)) (by decide +kernel)
theorem mm_389 : Cond.code ⟨"ShareKeeper$Source", "isOpen", "(II)Z"⟩ prog_10_method_5_code 3 (some .boolean) ∈ xt := xt_of (List.mem_of_getElem? (i := 389) (by decide +kernel)) (by decide +kernel)
theorem mm_478 : Cond.code ⟨"ShareKeeper$Source", "toCome", "(II)I"⟩ prog_10_method_4_code 3 (some .int) ∈ xt := xt_of (List.mem_of_getElem? (i := 478) (by decide +kernel)) (by decide +kernel)
theorem iw_Jx4a65c : ∀ w ∈ u_ws RJx4a65c TJx4a65c 3, w ∈ xt := by decide +kernel
theorem iw_X0 : ∀ w ∈ u_ws RX0 TX0 4, w ∈ xt := by decide +kernel
theorem iw_X1 : ∀ w ∈ u_ws RX1 TX1 5, w ∈ xt := by decide +kernel
theorem iw_X2 : ∀ w ∈ u_ws RX2 TX2 5, w ∈ xt := by decide +kernel
theorem iw_X4 : ∀ w ∈ u_ws RX4 TX4 2, w ∈ xt := by decide +kernel
theorem iw_X5 : ∀ w ∈ u_ws RX5 TX5 10, w ∈ xt := by decide +kernel
theorem iw_X6 : ∀ w ∈ u_ws RX6 TX6 6, w ∈ xt := by decide +kernel
theorem iw_X7 : ∀ w ∈ u_ws RX7 TX7 3, w ∈ xt := by decide +kernel
theorem iw_X8 : ∀ w ∈ u_ws RX8 TX8 5, w ∈ xt := by decide +kernel
theorem iw_X9 : ∀ w ∈ u_ws RX9 TX9 2, w ∈ xt := by decide +kernel
theorem iw_X10 : ∀ w ∈ u_ws RX10 TX10 11, w ∈ xt := by decide +kernel
theorem iw_X11 : ∀ w ∈ u_ws RX11 TX11 42, w ∈ xt := by decide +kernel
