def rm_X11_init : Room := { frames := 1, cells := 27, slots := 24254, locals := 20 }
theorem f_X11_init : xM yX11_init cX11_init 1 none 0 := ⟨mm_941, mm_62, by decide +kernel, by decide +kernel⟩
theorem dX11_init_0 : decode cX11_init 0 = .ok (.aload_n 0, 1) := by decide +kernel
theorem dX11_init_1 : decode cX11_init 1 = .ok (.invokespecial 1, 3) := by decide +kernel
theorem dX11_init_4 : decode cX11_init 4 = .ok (.aload_n 0, 1) := by decide +kernel
theorem dX11_init_5 : decode cX11_init 5 = .ok (.bipush 16, 2) := by decide +kernel
theorem dX11_init_7 : decode cX11_init 7 = .ok (.newarray .int, 2) := by decide +kernel
theorem dX11_init_9 : decode cX11_init 9 = .ok (.putfield 7, 3) := by decide +kernel
theorem dX11_init_12 : decode cX11_init 12 = .ok (.aload_n 0, 1) := by decide +kernel
theorem dX11_init_13 : decode cX11_init 13 = .ok (.bipush 16, 2) := by decide +kernel
theorem dX11_init_15 : decode cX11_init 15 = .ok (.newarray .int, 2) := by decide +kernel
theorem dX11_init_17 : decode cX11_init 17 = .ok (.putfield 13, 3) := by decide +kernel
theorem dX11_init_20 : decode cX11_init 20 = .ok (.aload_n 0, 1) := by decide +kernel
theorem dX11_init_21 : decode cX11_init 21 = .ok (.bipush 16, 2) := by decide +kernel
theorem dX11_init_23 : decode cX11_init 23 = .ok (.newarray .int, 2) := by decide +kernel
theorem dX11_init_25 : decode cX11_init 25 = .ok (.putfield 16, 3) := by decide +kernel
theorem dX11_init_28 : decode cX11_init 28 = .ok (.aload_n 0, 1) := by decide +kernel
theorem dX11_init_29 : decode cX11_init 29 = .ok (.sipush 9616, 3) := by decide +kernel
theorem dX11_init_32 : decode cX11_init 32 = .ok (.newarray .int, 2) := by decide +kernel
theorem dX11_init_34 : decode cX11_init 34 = .ok (.putfield 19, 3) := by decide +kernel
theorem dX11_init_37 : decode cX11_init 37 = .ok (.aload_n 0, 1) := by decide +kernel
theorem dX11_init_38 : decode cX11_init 38 = .ok (.sipush 9616, 3) := by decide +kernel
theorem dX11_init_41 : decode cX11_init 41 = .ok (.newarray .int, 2) := by decide +kernel
theorem dX11_init_43 : decode cX11_init 43 = .ok (.putfield 22, 3) := by decide +kernel
theorem dX11_init_46 : decode cX11_init 46 = .ok (.aload_n 0, 1) := by decide +kernel
theorem dX11_init_47 : decode cX11_init 47 = .ok (.sipush 3200, 3) := by decide +kernel
theorem dX11_init_50 : decode cX11_init 50 = .ok (.newarray .boolean, 2) := by decide +kernel
theorem dX11_init_52 : decode cX11_init 52 = .ok (.putfield 25, 3) := by decide +kernel
theorem dX11_init_55 : decode cX11_init 55 = .ok (.aload_n 0, 1) := by decide +kernel
theorem dX11_init_56 : decode cX11_init 56 = .ok (.bipush 12, 2) := by decide +kernel
theorem dX11_init_58 : decode cX11_init 58 = .ok (.newarray .int, 2) := by decide +kernel
theorem dX11_init_60 : decode cX11_init 60 = .ok (.putfield 29, 3) := by decide +kernel
theorem dX11_init_63 : decode cX11_init 63 = .ok (.aload_n 0, 1) := by decide +kernel
theorem dX11_init_64 : decode cX11_init 64 = .ok (.bipush 12, 2) := by decide +kernel
theorem dX11_init_66 : decode cX11_init 66 = .ok (.newarray .int, 2) := by decide +kernel
theorem dX11_init_68 : decode cX11_init 68 = .ok (.putfield 32, 3) := by decide +kernel
theorem dX11_init_71 : decode cX11_init 71 = .ok (.aload_n 0, 1) := by decide +kernel
theorem dX11_init_72 : decode cX11_init 72 = .ok (.bipush 12, 2) := by decide +kernel
theorem dX11_init_74 : decode cX11_init 74 = .ok (.newarray .int, 2) := by decide +kernel
theorem dX11_init_76 : decode cX11_init 76 = .ok (.putfield 35, 3) := by decide +kernel
theorem dX11_init_79 : decode cX11_init 79 = .ok (.aload_n 0, 1) := by decide +kernel
theorem dX11_init_80 : decode cX11_init 80 = .ok (.bipush 12, 2) := by decide +kernel
theorem dX11_init_82 : decode cX11_init 82 = .ok (.newarray .boolean, 2) := by decide +kernel
theorem dX11_init_84 : decode cX11_init 84 = .ok (.putfield 38, 3) := by decide +kernel
theorem dX11_init_87 : decode cX11_init 87 = .ok (.aload_n 0, 1) := by decide +kernel
theorem dX11_init_88 : decode cX11_init 88 = .ok (.bipush 12, 2) := by decide +kernel
theorem dX11_init_90 : decode cX11_init 90 = .ok (.newarray .int, 2) := by decide +kernel
theorem dX11_init_92 : decode cX11_init 92 = .ok (.putfield 41, 3) := by decide +kernel
theorem dX11_init_95 : decode cX11_init 95 = .ok (.aload_n 0, 1) := by decide +kernel
theorem dX11_init_96 : decode cX11_init 96 = .ok (.bipush 120, 2) := by decide +kernel
theorem dX11_init_98 : decode cX11_init 98 = .ok (.newarray .int, 2) := by decide +kernel
theorem dX11_init_100 : decode cX11_init 100 = .ok (.putfield 44, 3) := by decide +kernel
theorem dX11_init_103 : decode cX11_init 103 = .ok (.aload_n 0, 1) := by decide +kernel
theorem dX11_init_104 : decode cX11_init 104 = .ok (.bipush 120, 2) := by decide +kernel
theorem dX11_init_106 : decode cX11_init 106 = .ok (.newarray .int, 2) := by decide +kernel
theorem dX11_init_108 : decode cX11_init 108 = .ok (.putfield 47, 3) := by decide +kernel
theorem dX11_init_111 : decode cX11_init 111 = .ok (.aload_n 0, 1) := by decide +kernel
theorem dX11_init_112 : decode cX11_init 112 = .ok (.bipush 10, 2) := by decide +kernel
theorem dX11_init_114 : decode cX11_init 114 = .ok (.newarray .int, 2) := by decide +kernel
theorem dX11_init_116 : decode cX11_init 116 = .ok (.putfield 50, 3) := by decide +kernel
theorem dX11_init_119 : decode cX11_init 119 = .ok (.aload_n 0, 1) := by decide +kernel
theorem dX11_init_120 : decode cX11_init 120 = .ok (.bipush 8, 2) := by decide +kernel
theorem dX11_init_122 : decode cX11_init 122 = .ok (.newarray .int, 2) := by decide +kernel
theorem dX11_init_124 : decode cX11_init 124 = .ok (.putfield 53, 3) := by decide +kernel
theorem dX11_init_127 : decode cX11_init 127 = .ok (.aload_n 0, 1) := by decide +kernel
theorem dX11_init_128 : decode cX11_init 128 = .ok (.bipush 8, 2) := by decide +kernel
theorem dX11_init_130 : decode cX11_init 130 = .ok (.newarray .int, 2) := by decide +kernel
theorem dX11_init_132 : decode cX11_init 132 = .ok (.putfield 56, 3) := by decide +kernel
theorem dX11_init_135 : decode cX11_init 135 = .ok (.aload_n 0, 1) := by decide +kernel
theorem dX11_init_136 : decode cX11_init 136 = .ok (.bipush 8, 2) := by decide +kernel
theorem dX11_init_138 : decode cX11_init 138 = .ok (.newarray .int, 2) := by decide +kernel
theorem dX11_init_140 : decode cX11_init 140 = .ok (.putfield 59, 3) := by decide +kernel
theorem dX11_init_143 : decode cX11_init 143 = .ok (.aload_n 0, 1) := by decide +kernel
theorem dX11_init_144 : decode cX11_init 144 = .ok (.bipush 8, 2) := by decide +kernel
theorem dX11_init_146 : decode cX11_init 146 = .ok (.newarray .int, 2) := by decide +kernel
theorem dX11_init_148 : decode cX11_init 148 = .ok (.putfield 62, 3) := by decide +kernel
theorem dX11_init_151 : decode cX11_init 151 = .ok (.aload_n 0, 1) := by decide +kernel
theorem dX11_init_152 : decode cX11_init 152 = .ok (.sipush 602, 3) := by decide +kernel
theorem dX11_init_155 : decode cX11_init 155 = .ok (.newarray .long, 2) := by decide +kernel
theorem dX11_init_157 : decode cX11_init 157 = .ok (.putfield 65, 3) := by decide +kernel
theorem dX11_init_160 : decode cX11_init 160 = .ok (.aload_n 0, 1) := by decide +kernel
theorem dX11_init_161 : decode cX11_init 161 = .ok (.sipush 602, 3) := by decide +kernel
theorem dX11_init_164 : decode cX11_init 164 = .ok (.newarray .long, 2) := by decide +kernel
theorem dX11_init_166 : decode cX11_init 166 = .ok (.putfield 69, 3) := by decide +kernel
theorem dX11_init_169 : decode cX11_init 169 = .ok (.aload_n 0, 1) := by decide +kernel
theorem dX11_init_170 : decode cX11_init 170 = .ok (.bipush 40, 2) := by decide +kernel
theorem dX11_init_172 : decode cX11_init 172 = .ok (.newarray .int, 2) := by decide +kernel
theorem dX11_init_174 : decode cX11_init 174 = .ok (.putfield 72, 3) := by decide +kernel
theorem dX11_init_177 : decode cX11_init 177 = .ok (.aload_n 0, 1) := by decide +kernel
theorem dX11_init_178 : decode cX11_init 178 = .ok (.bipush 40, 2) := by decide +kernel
theorem dX11_init_180 : decode cX11_init 180 = .ok (.newarray .int, 2) := by decide +kernel
theorem dX11_init_182 : decode cX11_init 182 = .ok (.putfield 75, 3) := by decide +kernel
theorem dX11_init_185 : decode cX11_init 185 = .ok (.aload_n 0, 1) := by decide +kernel
theorem dX11_init_186 : decode cX11_init 186 = .ok (.bipush 40, 2) := by decide +kernel
theorem dX11_init_188 : decode cX11_init 188 = .ok (.newarray .int, 2) := by decide +kernel
theorem dX11_init_190 : decode cX11_init 190 = .ok (.putfield 78, 3) := by decide +kernel
theorem dX11_init_193 : decode cX11_init 193 = .ok (.aload_n 0, 1) := by decide +kernel
theorem dX11_init_194 : decode cX11_init 194 = .ok (.bipush 40, 2) := by decide +kernel
theorem dX11_init_196 : decode cX11_init 196 = .ok (.newarray .int, 2) := by decide +kernel
theorem dX11_init_198 : decode cX11_init 198 = .ok (.putfield 81, 3) := by decide +kernel
theorem dX11_init_201 : decode cX11_init 201 = .ok (.aload_n 0, 1) := by decide +kernel
theorem dX11_init_202 : decode cX11_init 202 = .ok (.bipush 40, 2) := by decide +kernel
theorem dX11_init_204 : decode cX11_init 204 = .ok (.newarray .int, 2) := by decide +kernel
theorem dX11_init_206 : decode cX11_init 206 = .ok (.putfield 84, 3) := by decide +kernel
theorem dX11_init_209 : decode cX11_init 209 = .ok (.aload_n 0, 1) := by decide +kernel
theorem dX11_init_210 : decode cX11_init 210 = .ok (.bipush 14, 2) := by decide +kernel
theorem dX11_init_212 : decode cX11_init 212 = .ok (.newarray .int, 2) := by decide +kernel
theorem dX11_init_214 : decode cX11_init 214 = .ok (.putfield 87, 3) := by decide +kernel
theorem dX11_init_217 : decode cX11_init 217 = .ok (.aload_n 0, 1) := by decide +kernel
theorem dX11_init_218 : decode cX11_init 218 = .ok (.bipush 14, 2) := by decide +kernel
theorem dX11_init_220 : decode cX11_init 220 = .ok (.newarray .int, 2) := by decide +kernel
theorem dX11_init_222 : decode cX11_init 222 = .ok (.putfield 90, 3) := by decide +kernel
theorem dX11_init_225 : decode cX11_init 225 = .ok (.return_, 1) := by decide +kernel
def F_X11_init (G : Nat → Nat) (h : xH) (a0 : Nat) : Option xH :=
  (nAI G h 16).bind fun (q1, h2) =>
  (xp G h2 (some a0) 11 3 (va_rf (some q1))).bind fun h3 =>
  (nAI G h3 16).bind fun (q4, h5) =>
  (xp G h5 (some a0) 11 4 (va_rf (some q4))).bind fun h6 =>
  (nAI G h6 16).bind fun (q7, h8) =>
  (xp G h8 (some a0) 11 5 (va_rf (some q7))).bind fun h9 =>
  (nAI G h9 9616).bind fun (q10, h11) =>
  (xp G h11 (some a0) 11 6 (va_rf (some q10))).bind fun h12 =>
  (nAI G h12 9616).bind fun (q13, h14) =>
  (xp G h14 (some a0) 11 7 (va_rf (some q13))).bind fun h15 =>
  (nAZ G h15 3200).bind fun (q16, h17) =>
  (xp G h17 (some a0) 11 8 (va_rf (some q16))).bind fun h18 =>
  (nAI G h18 12).bind fun (q19, h20) =>
  (xp G h20 (some a0) 11 16 (va_rf (some q19))).bind fun h21 =>
  (nAI G h21 12).bind fun (q22, h23) =>
  (xp G h23 (some a0) 11 17 (va_rf (some q22))).bind fun h24 =>
  (nAI G h24 12).bind fun (q25, h26) =>
  (xp G h26 (some a0) 11 18 (va_rf (some q25))).bind fun h27 =>
  (nAZ G h27 12).bind fun (q28, h29) =>
  (xp G h29 (some a0) 11 19 (va_rf (some q28))).bind fun h30 =>
  (nAI G h30 12).bind fun (q31, h32) =>
  (xp G h32 (some a0) 11 20 (va_rf (some q31))).bind fun h33 =>
  (nAI G h33 120).bind fun (q34, h35) =>
  (xp G h35 (some a0) 11 21 (va_rf (some q34))).bind fun h36 =>
  (nAI G h36 120).bind fun (q37, h38) =>
  (xp G h38 (some a0) 11 22 (va_rf (some q37))).bind fun h39 =>
  (nAI G h39 10).bind fun (q40, h41) =>
  (xp G h41 (some a0) 11 25 (va_rf (some q40))).bind fun h42 =>
  (nAI G h42 8).bind fun (q43, h44) =>
  (xp G h44 (some a0) 11 27 (va_rf (some q43))).bind fun h45 =>
  (nAI G h45 8).bind fun (q46, h47) =>
  (xp G h47 (some a0) 11 28 (va_rf (some q46))).bind fun h48 =>
  (nAI G h48 8).bind fun (q49, h50) =>
  (xp G h50 (some a0) 11 29 (va_rf (some q49))).bind fun h51 =>
  (nAI G h51 8).bind fun (q52, h53) =>
  (xp G h53 (some a0) 11 30 (va_rf (some q52))).bind fun h54 =>
  (nAJ G h54 602).bind fun (q55, h56) =>
  (xp G h56 (some a0) 11 31 (va_rf (some q55))).bind fun h57 =>
  (nAJ G h57 602).bind fun (q58, h59) =>
  (xp G h59 (some a0) 11 32 (va_rf (some q58))).bind fun h60 =>
  (nAI G h60 40).bind fun (q61, h62) =>
  (xp G h62 (some a0) 11 34 (va_rf (some q61))).bind fun h63 =>
  (nAI G h63 40).bind fun (q64, h65) =>
  (xp G h65 (some a0) 11 35 (va_rf (some q64))).bind fun h66 =>
  (nAI G h66 40).bind fun (q67, h68) =>
  (xp G h68 (some a0) 11 36 (va_rf (some q67))).bind fun h69 =>
  (nAI G h69 40).bind fun (q70, h71) =>
  (xp G h71 (some a0) 11 37 (va_rf (some q70))).bind fun h72 =>
  (nAI G h72 40).bind fun (q73, h74) =>
  (xp G h74 (some a0) 11 38 (va_rf (some q73))).bind fun h75 =>
  (nAI G h75 14).bind fun (q76, h77) =>
  (xp G h77 (some a0) 11 40 (va_rf (some q76))).bind fun h78 =>
  (nAI G h78 14).bind fun (q79, h80) =>
  (xp G h80 (some a0) 11 41 (va_rf (some q79))).bind fun h81 =>
  some h81
set_option maxHeartbeats 4000000 in
set_option maxRecDepth 100000 in
theorem t_X11_init (l : Launch) (D : va_G) (G : Nat → Nat) (h : xH) (a0 : Nat) (h' : xH) (hF : F_X11_init G h a0 = some h') : xC l yX11_init cX11_init 1 none (rm_X11_init) D G h [.ref a0] none h' := by
  refine xC_of (by decide) (by first | decide | exact Nat.le_of_ble_eq_true rfl) ?_
  intro p e s m args below meth c ls hx hb hr hlk hml hown hnm hts hR hS hl
  have hl : lv_has ls 1 [(0, va_rf (some a0))] := hl
  unfold F_X11_init at hF
  refine x_aload_n (o := (some a0)) hx hb dX11_init_0 rfl (lv_at hl 0 rfl) ?_
  refine x_oinit (o := (some a0)) hx hb hown (hml.trans hl.1.symm) hts mm_942 mm_86 mm_87 rfl dX11_init_1 (by decide) (by decide) (by decide) ?_
  refine x_aload_n (o := (some a0)) hx hb dX11_init_4 rfl (lv_at hl 0 rfl) ?_
  refine lv_bipush (v := 16) hx hb dX11_init_5 (by decide) ?_
  replace hF := xbind hF; obtain ⟨⟨q1, h2⟩, eq1, hF⟩ := hF
  refine x_nAI hx hb hts mm_127 hR hS (by decide) (by decide) (by decide) (by decide) (by decide) eq1 dX11_init_7 (fun H hR hS => ?_)
  replace hF := xbind hF; obtain ⟨h3, eh3, hF⟩ := hF
  refine x_putF (o := (some a0)) (ci := 11) (C := RX11) (T := TX11) (N := 42) hx hb hts iw_X11 tyX11_ok nmX11 hown hR hS rfl 3 (by decide) mm_946 (Or.inl rfl) rfl hnm rfl xnarRA xfitRA eh3 dX11_init_9 (fun H locs hR hS => ?_)
  refine x_aload_n (o := (some a0)) hx hb dX11_init_12 rfl (lv_at hl 0 rfl) ?_
  refine lv_bipush (v := 16) hx hb dX11_init_13 (by decide) ?_
  replace hF := xbind hF; obtain ⟨⟨q4, h5⟩, eq4, hF⟩ := hF
  refine x_nAI hx hb hts mm_127 hR hS (by decide) (by decide) (by decide) (by decide) (by decide) eq4 dX11_init_15 (fun H hR hS => ?_)
  replace hF := xbind hF; obtain ⟨h6, eh6, hF⟩ := hF
  refine x_putF (o := (some a0)) (ci := 11) (C := RX11) (T := TX11) (N := 42) hx hb hts iw_X11 tyX11_ok nmX11 hown hR hS rfl 4 (by decide) mm_947 (Or.inl rfl) rfl hnm rfl xnarRA xfitRA eh6 dX11_init_17 (fun H locs hR hS => ?_)
  refine x_aload_n (o := (some a0)) hx hb dX11_init_20 rfl (lv_at hl 0 rfl) ?_
  refine lv_bipush (v := 16) hx hb dX11_init_21 (by decide) ?_
  replace hF := xbind hF; obtain ⟨⟨q7, h8⟩, eq7, hF⟩ := hF
  refine x_nAI hx hb hts mm_127 hR hS (by decide) (by decide) (by decide) (by decide) (by decide) eq7 dX11_init_23 (fun H hR hS => ?_)
  replace hF := xbind hF; obtain ⟨h9, eh9, hF⟩ := hF
  refine x_putF (o := (some a0)) (ci := 11) (C := RX11) (T := TX11) (N := 42) hx hb hts iw_X11 tyX11_ok nmX11 hown hR hS rfl 5 (by decide) mm_948 (Or.inl rfl) rfl hnm rfl xnarRA xfitRA eh9 dX11_init_25 (fun H locs hR hS => ?_)
  refine x_aload_n (o := (some a0)) hx hb dX11_init_28 rfl (lv_at hl 0 rfl) ?_
  refine lv_sipush (v := 9616) hx hb dX11_init_29 (by decide) ?_
  replace hF := xbind hF; obtain ⟨⟨q10, h11⟩, eq10, hF⟩ := hF
  refine x_nAI hx hb hts mm_127 hR hS (by decide) (by decide) (by decide) (by decide) (by decide) eq10 dX11_init_32 (fun H hR hS => ?_)
  replace hF := xbind hF; obtain ⟨h12, eh12, hF⟩ := hF
  refine x_putF (o := (some a0)) (ci := 11) (C := RX11) (T := TX11) (N := 42) hx hb hts iw_X11 tyX11_ok nmX11 hown hR hS rfl 6 (by decide) mm_949 (Or.inl rfl) rfl hnm rfl xnarRA xfitRA eh12 dX11_init_34 (fun H locs hR hS => ?_)
  refine x_aload_n (o := (some a0)) hx hb dX11_init_37 rfl (lv_at hl 0 rfl) ?_
  refine lv_sipush (v := 9616) hx hb dX11_init_38 (by decide) ?_
  replace hF := xbind hF; obtain ⟨⟨q13, h14⟩, eq13, hF⟩ := hF
  refine x_nAI hx hb hts mm_127 hR hS (by decide) (by decide) (by decide) (by decide) (by decide) eq13 dX11_init_41 (fun H hR hS => ?_)
  replace hF := xbind hF; obtain ⟨h15, eh15, hF⟩ := hF
  refine x_putF (o := (some a0)) (ci := 11) (C := RX11) (T := TX11) (N := 42) hx hb hts iw_X11 tyX11_ok nmX11 hown hR hS rfl 7 (by decide) mm_950 (Or.inl rfl) rfl hnm rfl xnarRA xfitRA eh15 dX11_init_43 (fun H locs hR hS => ?_)
  refine x_aload_n (o := (some a0)) hx hb dX11_init_46 rfl (lv_at hl 0 rfl) ?_
  refine lv_sipush (v := 3200) hx hb dX11_init_47 (by decide) ?_
  replace hF := xbind hF; obtain ⟨⟨q16, h17⟩, eq16, hF⟩ := hF
  refine x_nAZ hx hb hts mm_373 hR hS (by decide) (by decide) (by decide) (by decide) (by decide) eq16 dX11_init_50 (fun H hR hS => ?_)
  replace hF := xbind hF; obtain ⟨h18, eh18, hF⟩ := hF
  refine x_putF (o := (some a0)) (ci := 11) (C := RX11) (T := TX11) (N := 42) hx hb hts iw_X11 tyX11_ok nmX11 hown hR hS rfl 8 (by decide) mm_951 (Or.inl rfl) rfl hnm rfl xnarRA xfitRA eh18 dX11_init_52 (fun H locs hR hS => ?_)
  refine x_aload_n (o := (some a0)) hx hb dX11_init_55 rfl (lv_at hl 0 rfl) ?_
  refine lv_bipush (v := 12) hx hb dX11_init_56 (by decide) ?_
  replace hF := xbind hF; obtain ⟨⟨q19, h20⟩, eq19, hF⟩ := hF
  refine x_nAI hx hb hts mm_127 hR hS (by decide) (by decide) (by decide) (by decide) (by decide) eq19 dX11_init_58 (fun H hR hS => ?_)
  replace hF := xbind hF; obtain ⟨h21, eh21, hF⟩ := hF
  refine x_putF (o := (some a0)) (ci := 11) (C := RX11) (T := TX11) (N := 42) hx hb hts iw_X11 tyX11_ok nmX11 hown hR hS rfl 16 (by decide) mm_959 (Or.inl rfl) rfl hnm rfl xnarRA xfitRA eh21 dX11_init_60 (fun H locs hR hS => ?_)
  refine x_aload_n (o := (some a0)) hx hb dX11_init_63 rfl (lv_at hl 0 rfl) ?_
  refine lv_bipush (v := 12) hx hb dX11_init_64 (by decide) ?_
  replace hF := xbind hF; obtain ⟨⟨q22, h23⟩, eq22, hF⟩ := hF
  refine x_nAI hx hb hts mm_127 hR hS (by decide) (by decide) (by decide) (by decide) (by decide) eq22 dX11_init_66 (fun H hR hS => ?_)
  replace hF := xbind hF; obtain ⟨h24, eh24, hF⟩ := hF
  refine x_putF (o := (some a0)) (ci := 11) (C := RX11) (T := TX11) (N := 42) hx hb hts iw_X11 tyX11_ok nmX11 hown hR hS rfl 17 (by decide) mm_960 (Or.inl rfl) rfl hnm rfl xnarRA xfitRA eh24 dX11_init_68 (fun H locs hR hS => ?_)
  refine x_aload_n (o := (some a0)) hx hb dX11_init_71 rfl (lv_at hl 0 rfl) ?_
  refine lv_bipush (v := 12) hx hb dX11_init_72 (by decide) ?_
  replace hF := xbind hF; obtain ⟨⟨q25, h26⟩, eq25, hF⟩ := hF
  refine x_nAI hx hb hts mm_127 hR hS (by decide) (by decide) (by decide) (by decide) (by decide) eq25 dX11_init_74 (fun H hR hS => ?_)
  replace hF := xbind hF; obtain ⟨h27, eh27, hF⟩ := hF
  refine x_putF (o := (some a0)) (ci := 11) (C := RX11) (T := TX11) (N := 42) hx hb hts iw_X11 tyX11_ok nmX11 hown hR hS rfl 18 (by decide) mm_961 (Or.inl rfl) rfl hnm rfl xnarRA xfitRA eh27 dX11_init_76 (fun H locs hR hS => ?_)
  refine x_aload_n (o := (some a0)) hx hb dX11_init_79 rfl (lv_at hl 0 rfl) ?_
  refine lv_bipush (v := 12) hx hb dX11_init_80 (by decide) ?_
  replace hF := xbind hF; obtain ⟨⟨q28, h29⟩, eq28, hF⟩ := hF
  refine x_nAZ hx hb hts mm_373 hR hS (by decide) (by decide) (by decide) (by decide) (by decide) eq28 dX11_init_82 (fun H hR hS => ?_)
  replace hF := xbind hF; obtain ⟨h30, eh30, hF⟩ := hF
  refine x_putF (o := (some a0)) (ci := 11) (C := RX11) (T := TX11) (N := 42) hx hb hts iw_X11 tyX11_ok nmX11 hown hR hS rfl 19 (by decide) mm_962 (Or.inl rfl) rfl hnm rfl xnarRA xfitRA eh30 dX11_init_84 (fun H locs hR hS => ?_)
  refine x_aload_n (o := (some a0)) hx hb dX11_init_87 rfl (lv_at hl 0 rfl) ?_
  refine lv_bipush (v := 12) hx hb dX11_init_88 (by decide) ?_
  replace hF := xbind hF; obtain ⟨⟨q31, h32⟩, eq31, hF⟩ := hF
  refine x_nAI hx hb hts mm_127 hR hS (by decide) (by decide) (by decide) (by decide) (by decide) eq31 dX11_init_90 (fun H hR hS => ?_)
  replace hF := xbind hF; obtain ⟨h33, eh33, hF⟩ := hF
  refine x_putF (o := (some a0)) (ci := 11) (C := RX11) (T := TX11) (N := 42) hx hb hts iw_X11 tyX11_ok nmX11 hown hR hS rfl 20 (by decide) mm_963 (Or.inl rfl) rfl hnm rfl xnarRA xfitRA eh33 dX11_init_92 (fun H locs hR hS => ?_)
  refine x_aload_n (o := (some a0)) hx hb dX11_init_95 rfl (lv_at hl 0 rfl) ?_
  refine lv_bipush (v := 120) hx hb dX11_init_96 (by decide) ?_
  replace hF := xbind hF; obtain ⟨⟨q34, h35⟩, eq34, hF⟩ := hF
  refine x_nAI hx hb hts mm_127 hR hS (by decide) (by decide) (by decide) (by decide) (by decide) eq34 dX11_init_98 (fun H hR hS => ?_)
  replace hF := xbind hF; obtain ⟨h36, eh36, hF⟩ := hF
  refine x_putF (o := (some a0)) (ci := 11) (C := RX11) (T := TX11) (N := 42) hx hb hts iw_X11 tyX11_ok nmX11 hown hR hS rfl 21 (by decide) mm_964 (Or.inl rfl) rfl hnm rfl xnarRA xfitRA eh36 dX11_init_100 (fun H locs hR hS => ?_)
  refine x_aload_n (o := (some a0)) hx hb dX11_init_103 rfl (lv_at hl 0 rfl) ?_
  refine lv_bipush (v := 120) hx hb dX11_init_104 (by decide) ?_
  replace hF := xbind hF; obtain ⟨⟨q37, h38⟩, eq37, hF⟩ := hF
  refine x_nAI hx hb hts mm_127 hR hS (by decide) (by decide) (by decide) (by decide) (by decide) eq37 dX11_init_106 (fun H hR hS => ?_)
  replace hF := xbind hF; obtain ⟨h39, eh39, hF⟩ := hF
  refine x_putF (o := (some a0)) (ci := 11) (C := RX11) (T := TX11) (N := 42) hx hb hts iw_X11 tyX11_ok nmX11 hown hR hS rfl 22 (by decide) mm_965 (Or.inl rfl) rfl hnm rfl xnarRA xfitRA eh39 dX11_init_108 (fun H locs hR hS => ?_)
  refine x_aload_n (o := (some a0)) hx hb dX11_init_111 rfl (lv_at hl 0 rfl) ?_
  refine lv_bipush (v := 10) hx hb dX11_init_112 (by decide) ?_
  replace hF := xbind hF; obtain ⟨⟨q40, h41⟩, eq40, hF⟩ := hF
  refine x_nAI hx hb hts mm_127 hR hS (by decide) (by decide) (by decide) (by decide) (by decide) eq40 dX11_init_114 (fun H hR hS => ?_)
  replace hF := xbind hF; obtain ⟨h42, eh42, hF⟩ := hF
  refine x_putF (o := (some a0)) (ci := 11) (C := RX11) (T := TX11) (N := 42) hx hb hts iw_X11 tyX11_ok nmX11 hown hR hS rfl 25 (by decide) mm_968 (Or.inl rfl) rfl hnm rfl xnarRA xfitRA eh42 dX11_init_116 (fun H locs hR hS => ?_)
  refine x_aload_n (o := (some a0)) hx hb dX11_init_119 rfl (lv_at hl 0 rfl) ?_
  refine lv_bipush (v := 8) hx hb dX11_init_120 (by decide) ?_
  replace hF := xbind hF; obtain ⟨⟨q43, h44⟩, eq43, hF⟩ := hF
  refine x_nAI hx hb hts mm_127 hR hS (by decide) (by decide) (by decide) (by decide) (by decide) eq43 dX11_init_122 (fun H hR hS => ?_)
  replace hF := xbind hF; obtain ⟨h45, eh45, hF⟩ := hF
  refine x_putF (o := (some a0)) (ci := 11) (C := RX11) (T := TX11) (N := 42) hx hb hts iw_X11 tyX11_ok nmX11 hown hR hS rfl 27 (by decide) mm_970 (Or.inl rfl) rfl hnm rfl xnarRA xfitRA eh45 dX11_init_124 (fun H locs hR hS => ?_)
  refine x_aload_n (o := (some a0)) hx hb dX11_init_127 rfl (lv_at hl 0 rfl) ?_
  refine lv_bipush (v := 8) hx hb dX11_init_128 (by decide) ?_
  replace hF := xbind hF; obtain ⟨⟨q46, h47⟩, eq46, hF⟩ := hF
  refine x_nAI hx hb hts mm_127 hR hS (by decide) (by decide) (by decide) (by decide) (by decide) eq46 dX11_init_130 (fun H hR hS => ?_)
  replace hF := xbind hF; obtain ⟨h48, eh48, hF⟩ := hF
  refine x_putF (o := (some a0)) (ci := 11) (C := RX11) (T := TX11) (N := 42) hx hb hts iw_X11 tyX11_ok nmX11 hown hR hS rfl 28 (by decide) mm_971 (Or.inl rfl) rfl hnm rfl xnarRA xfitRA eh48 dX11_init_132 (fun H locs hR hS => ?_)
  refine x_aload_n (o := (some a0)) hx hb dX11_init_135 rfl (lv_at hl 0 rfl) ?_
  refine lv_bipush (v := 8) hx hb dX11_init_136 (by decide) ?_
  replace hF := xbind hF; obtain ⟨⟨q49, h50⟩, eq49, hF⟩ := hF
  refine x_nAI hx hb hts mm_127 hR hS (by decide) (by decide) (by decide) (by decide) (by decide) eq49 dX11_init_138 (fun H hR hS => ?_)
  replace hF := xbind hF; obtain ⟨h51, eh51, hF⟩ := hF
  refine x_putF (o := (some a0)) (ci := 11) (C := RX11) (T := TX11) (N := 42) hx hb hts iw_X11 tyX11_ok nmX11 hown hR hS rfl 29 (by decide) mm_972 (Or.inl rfl) rfl hnm rfl xnarRA xfitRA eh51 dX11_init_140 (fun H locs hR hS => ?_)
  refine x_aload_n (o := (some a0)) hx hb dX11_init_143 rfl (lv_at hl 0 rfl) ?_
  refine lv_bipush (v := 8) hx hb dX11_init_144 (by decide) ?_
  replace hF := xbind hF; obtain ⟨⟨q52, h53⟩, eq52, hF⟩ := hF
  refine x_nAI hx hb hts mm_127 hR hS (by decide) (by decide) (by decide) (by decide) (by decide) eq52 dX11_init_146 (fun H hR hS => ?_)
  replace hF := xbind hF; obtain ⟨h54, eh54, hF⟩ := hF
  refine x_putF (o := (some a0)) (ci := 11) (C := RX11) (T := TX11) (N := 42) hx hb hts iw_X11 tyX11_ok nmX11 hown hR hS rfl 30 (by decide) mm_973 (Or.inl rfl) rfl hnm rfl xnarRA xfitRA eh54 dX11_init_148 (fun H locs hR hS => ?_)
  refine x_aload_n (o := (some a0)) hx hb dX11_init_151 rfl (lv_at hl 0 rfl) ?_
  refine lv_sipush (v := 602) hx hb dX11_init_152 (by decide) ?_
  replace hF := xbind hF; obtain ⟨⟨q55, h56⟩, eq55, hF⟩ := hF
  refine x_nAJ hx hb hts mm_1070 hR hS (by decide) (by decide) (by decide) (by decide) (by decide) eq55 dX11_init_155 (fun H hR hS => ?_)
  replace hF := xbind hF; obtain ⟨h57, eh57, hF⟩ := hF
  refine x_putF (o := (some a0)) (ci := 11) (C := RX11) (T := TX11) (N := 42) hx hb hts iw_X11 tyX11_ok nmX11 hown hR hS rfl 31 (by decide) mm_974 (Or.inl rfl) rfl hnm rfl xnarRA xfitRA eh57 dX11_init_157 (fun H locs hR hS => ?_)
  refine x_aload_n (o := (some a0)) hx hb dX11_init_160 rfl (lv_at hl 0 rfl) ?_
  refine lv_sipush (v := 602) hx hb dX11_init_161 (by decide) ?_
  replace hF := xbind hF; obtain ⟨⟨q58, h59⟩, eq58, hF⟩ := hF
  refine x_nAJ hx hb hts mm_1070 hR hS (by decide) (by decide) (by decide) (by decide) (by decide) eq58 dX11_init_164 (fun H hR hS => ?_)
  replace hF := xbind hF; obtain ⟨h60, eh60, hF⟩ := hF
  refine x_putF (o := (some a0)) (ci := 11) (C := RX11) (T := TX11) (N := 42) hx hb hts iw_X11 tyX11_ok nmX11 hown hR hS rfl 32 (by decide) mm_975 (Or.inl rfl) rfl hnm rfl xnarRA xfitRA eh60 dX11_init_166 (fun H locs hR hS => ?_)
  refine x_aload_n (o := (some a0)) hx hb dX11_init_169 rfl (lv_at hl 0 rfl) ?_
  refine lv_bipush (v := 40) hx hb dX11_init_170 (by decide) ?_
  replace hF := xbind hF; obtain ⟨⟨q61, h62⟩, eq61, hF⟩ := hF
  refine x_nAI hx hb hts mm_127 hR hS (by decide) (by decide) (by decide) (by decide) (by decide) eq61 dX11_init_172 (fun H hR hS => ?_)
  replace hF := xbind hF; obtain ⟨h63, eh63, hF⟩ := hF
  refine x_putF (o := (some a0)) (ci := 11) (C := RX11) (T := TX11) (N := 42) hx hb hts iw_X11 tyX11_ok nmX11 hown hR hS rfl 34 (by decide) mm_977 (Or.inl rfl) rfl hnm rfl xnarRA xfitRA eh63 dX11_init_174 (fun H locs hR hS => ?_)
  refine x_aload_n (o := (some a0)) hx hb dX11_init_177 rfl (lv_at hl 0 rfl) ?_
  refine lv_bipush (v := 40) hx hb dX11_init_178 (by decide) ?_
  replace hF := xbind hF; obtain ⟨⟨q64, h65⟩, eq64, hF⟩ := hF
  refine x_nAI hx hb hts mm_127 hR hS (by decide) (by decide) (by decide) (by decide) (by decide) eq64 dX11_init_180 (fun H hR hS => ?_)
  replace hF := xbind hF; obtain ⟨h66, eh66, hF⟩ := hF
  refine x_putF (o := (some a0)) (ci := 11) (C := RX11) (T := TX11) (N := 42) hx hb hts iw_X11 tyX11_ok nmX11 hown hR hS rfl 35 (by decide) mm_978 (Or.inl rfl) rfl hnm rfl xnarRA xfitRA eh66 dX11_init_182 (fun H locs hR hS => ?_)
  refine x_aload_n (o := (some a0)) hx hb dX11_init_185 rfl (lv_at hl 0 rfl) ?_
  refine lv_bipush (v := 40) hx hb dX11_init_186 (by decide) ?_
  replace hF := xbind hF; obtain ⟨⟨q67, h68⟩, eq67, hF⟩ := hF
  refine x_nAI hx hb hts mm_127 hR hS (by decide) (by decide) (by decide) (by decide) (by decide) eq67 dX11_init_188 (fun H hR hS => ?_)
  replace hF := xbind hF; obtain ⟨h69, eh69, hF⟩ := hF
  refine x_putF (o := (some a0)) (ci := 11) (C := RX11) (T := TX11) (N := 42) hx hb hts iw_X11 tyX11_ok nmX11 hown hR hS rfl 36 (by decide) mm_979 (Or.inl rfl) rfl hnm rfl xnarRA xfitRA eh69 dX11_init_190 (fun H locs hR hS => ?_)
  refine x_aload_n (o := (some a0)) hx hb dX11_init_193 rfl (lv_at hl 0 rfl) ?_
  refine lv_bipush (v := 40) hx hb dX11_init_194 (by decide) ?_
  replace hF := xbind hF; obtain ⟨⟨q70, h71⟩, eq70, hF⟩ := hF
  refine x_nAI hx hb hts mm_127 hR hS (by decide) (by decide) (by decide) (by decide) (by decide) eq70 dX11_init_196 (fun H hR hS => ?_)
  replace hF := xbind hF; obtain ⟨h72, eh72, hF⟩ := hF
  refine x_putF (o := (some a0)) (ci := 11) (C := RX11) (T := TX11) (N := 42) hx hb hts iw_X11 tyX11_ok nmX11 hown hR hS rfl 37 (by decide) mm_980 (Or.inl rfl) rfl hnm rfl xnarRA xfitRA eh72 dX11_init_198 (fun H locs hR hS => ?_)
  refine x_aload_n (o := (some a0)) hx hb dX11_init_201 rfl (lv_at hl 0 rfl) ?_
  refine lv_bipush (v := 40) hx hb dX11_init_202 (by decide) ?_
  replace hF := xbind hF; obtain ⟨⟨q73, h74⟩, eq73, hF⟩ := hF
  refine x_nAI hx hb hts mm_127 hR hS (by decide) (by decide) (by decide) (by decide) (by decide) eq73 dX11_init_204 (fun H hR hS => ?_)
  replace hF := xbind hF; obtain ⟨h75, eh75, hF⟩ := hF
  refine x_putF (o := (some a0)) (ci := 11) (C := RX11) (T := TX11) (N := 42) hx hb hts iw_X11 tyX11_ok nmX11 hown hR hS rfl 38 (by decide) mm_981 (Or.inl rfl) rfl hnm rfl xnarRA xfitRA eh75 dX11_init_206 (fun H locs hR hS => ?_)
  refine x_aload_n (o := (some a0)) hx hb dX11_init_209 rfl (lv_at hl 0 rfl) ?_
  refine lv_bipush (v := 14) hx hb dX11_init_210 (by decide) ?_
  replace hF := xbind hF; obtain ⟨⟨q76, h77⟩, eq76, hF⟩ := hF
  refine x_nAI hx hb hts mm_127 hR hS (by decide) (by decide) (by decide) (by decide) (by decide) eq76 dX11_init_212 (fun H hR hS => ?_)
  replace hF := xbind hF; obtain ⟨h78, eh78, hF⟩ := hF
  refine x_putF (o := (some a0)) (ci := 11) (C := RX11) (T := TX11) (N := 42) hx hb hts iw_X11 tyX11_ok nmX11 hown hR hS rfl 40 (by decide) mm_983 (Or.inl rfl) rfl hnm rfl xnarRA xfitRA eh78 dX11_init_214 (fun H locs hR hS => ?_)
  refine x_aload_n (o := (some a0)) hx hb dX11_init_217 rfl (lv_at hl 0 rfl) ?_
  refine lv_bipush (v := 14) hx hb dX11_init_218 (by decide) ?_
  replace hF := xbind hF; obtain ⟨⟨q79, h80⟩, eq79, hF⟩ := hF
  refine x_nAI hx hb hts mm_127 hR hS (by decide) (by decide) (by decide) (by decide) (by decide) eq79 dX11_init_220 (fun H hR hS => ?_)
  replace hF := xbind hF; obtain ⟨h81, eh81, hF⟩ := hF
  refine x_putF (o := (some a0)) (ci := 11) (C := RX11) (T := TX11) (N := 42) hx hb hts iw_X11 tyX11_ok nmX11 hown hR hS rfl 41 (by decide) mm_984 (Or.inl rfl) rfl hnm rfl xnarRA xfitRA eh81 dX11_init_222 (fun H locs hR hS => ?_)
  cases hF
  exact x_vret hx hb hr hlk hR hS (by decide) (by decide) dX11_init_225
def rm_X11_thrown : Room := { frames := 0, cells := 0, slots := 0, locals := 0 }
theorem f_X11_thrown : xM yX11_thrown cX11_thrown 1 (some .int) 0 := ⟨mm_1074, mm_62, by decide +kernel, by decide +kernel⟩
theorem dX11_thrown_0 : decode cX11_thrown 0 = .ok (.aload_n 0, 1) := by decide +kernel
theorem dX11_thrown_1 : decode cX11_thrown 1 = .ok (.getfield 93, 3) := by decide +kernel
theorem dX11_thrown_4 : decode cX11_thrown 4 = .ok (.ireturn, 1) := by decide +kernel
def F_X11_thrown (G : Nat → Nat) (h : xH) (a0 : Nat) : Option Int32 :=
  (gI h (some a0) 11 0).bind fun v1 =>
  some v1
set_option maxHeartbeats 4000000 in
set_option maxRecDepth 100000 in
theorem t_X11_thrown (l : Launch) (D : va_G) (G : Nat → Nat) (h : xH) (a0 : Nat) (r : Int32) (hF : F_X11_thrown G h a0 = some r) : xC l yX11_thrown cX11_thrown 1 (some .int) (rm_X11_thrown) D G h [.ref a0] (some (.int r)) h := by
  refine xC_of (by decide) (by first | decide | exact Nat.le_of_ble_eq_true rfl) ?_
  intro p e s m args below meth c ls hx hb hr hlk hml hown hnm hts hR hS hl
  have hl : lv_has ls 1 [(0, va_rf (some a0))] := hl
  unfold F_X11_thrown at hF
  refine x_aload_n (o := (some a0)) hx hb dX11_thrown_0 rfl (lv_at hl 0 rfl) ?_
  replace hF := xbind hF; obtain ⟨v1, ev1, hF⟩ := hF
  refine x_getI (o := (some a0)) (ci := 11) (C := RX11) (T := TX11) (N := 42) hx hb hts iw_X11 hown hR rfl 0 (by decide) mm_943 (Or.inl rfl) ev1 dX11_thrown_1 ?_
  cases hF
  exact x_iret hx hb hr rfl hlk hR hS (by decide) (by decide) dX11_thrown_4
def rm_X11_isService : Room := { frames := 0, cells := 0, slots := 0, locals := 0 }
theorem f_X11_isService : xM yX11_isService cX11_isService 2 (some .boolean) 1 := ⟨mm_1086, mm_62, by decide +kernel, by decide +kernel⟩
theorem dX11_isService_0 : decode cX11_isService 0 = .ok (.iload_n 1, 1) := by decide +kernel
theorem dX11_isService_1 : decode cX11_isService 1 = .ok (.ifCond .lt 15, 3) := by decide +kernel
theorem dX11_isService_4 : decode cX11_isService 4 = .ok (.iload_n 1, 1) := by decide +kernel
theorem dX11_isService_5 : decode cX11_isService 5 = .ok (.aload_n 0, 1) := by decide +kernel
theorem dX11_isService_6 : decode cX11_isService 6 = .ok (.getfield 97, 3) := by decide +kernel
theorem dX11_isService_9 : decode cX11_isService 9 = .ok (.if_icmp .ge 7, 3) := by decide +kernel
theorem dX11_isService_12 : decode cX11_isService 12 = .ok (.iconst 1, 1) := by decide +kernel
theorem dX11_isService_13 : decode cX11_isService 13 = .ok (.goto 4, 3) := by decide +kernel
theorem dX11_isService_16 : decode cX11_isService 16 = .ok (.iconst 0, 1) := by decide +kernel
theorem dX11_isService_17 : decode cX11_isService 17 = .ok (.ireturn, 1) := by decide +kernel
def F_X11_isService (G : Nat → Nat) (h : xH) (a0 : Nat) (x1 : Int32) : Option Int32 :=
  if x1 < 0 then
    some 0
  else
  (gI h (some a0) 11 1).bind fun v2 =>
  if v2 ≤ x1 then
    some 0
  else
  some 1
set_option maxHeartbeats 4000000 in
set_option maxRecDepth 100000 in
theorem t_X11_isService (l : Launch) (D : va_G) (G : Nat → Nat) (h : xH) (a0 : Nat) (x1 : Int32) (r : Int32) (hF : F_X11_isService G h a0 x1 = some r) : xC l yX11_isService cX11_isService 2 (some .boolean) (rm_X11_isService) D G h [.ref a0, .int x1] (some (.int r)) h := by
  refine xC_of (by decide) (by first | decide | exact Nat.le_of_ble_eq_true rfl) ?_
  intro p e s m args below meth c ls hx hb hr hlk hml hown hnm hts hR hS hl
  have hl : lv_has ls 2 [(0, va_rf (some a0)), (1, .int x1)] := hl
  unfold F_X11_isService at hF
  refine lv_iload_n hx hb dX11_isService_0 rfl (lv_at hl 1 rfl) ?_
  refine lv_if_lt (tgt := 16) hx hb dX11_isService_1 (by decide) (fun c1 => ?_) (fun c1 => ?_)
  · replace hF := xift c1 hF
    refine lv_iconst (v := 0) hx hb dX11_isService_16 (by decide) ?_
    cases hF
    exact x_iret hx hb hr rfl hlk hR hS (by decide) (by decide) dX11_isService_17
  · replace hF := xiff c1 hF
    refine lv_iload_n hx hb dX11_isService_4 rfl (lv_at hl 1 rfl) ?_
    refine x_aload_n (o := (some a0)) hx hb dX11_isService_5 rfl (lv_at hl 0 rfl) ?_
    replace hF := xbind hF; obtain ⟨v2, ev2, hF⟩ := hF
    refine x_getI (o := (some a0)) (ci := 11) (C := RX11) (T := TX11) (N := 42) hx hb hts iw_X11 hown hR rfl 1 (by decide) mm_944 (Or.inl rfl) ev2 dX11_isService_6 ?_
    refine lv_icmp_ge (tgt := 16) hx hb dX11_isService_9 (by decide) (fun c3 => ?_) (fun c3 => ?_)
    · replace hF := xift c3 hF
      refine lv_iconst (v := 0) hx hb dX11_isService_16 (by decide) ?_
      cases hF
      exact x_iret hx hb hr rfl hlk hR hS (by decide) (by decide) dX11_isService_17
    · replace hF := xiff c3 hF
      refine lv_iconst (v := 1) hx hb dX11_isService_12 (by decide) ?_
      refine lv_goto (tgt := 17) hx hb dX11_isService_13 (by decide) ?_
      cases hF
      exact x_iret hx hb hr rfl hlk hR hS (by decide) (by decide) dX11_isService_17
def rm_X11_service : Room := { frames := 0, cells := 0, slots := 0, locals := 0 }
theorem f_X11_service : xM yX11_service cX11_service 1 (some .int) 0 := ⟨mm_1078, mm_62, by decide +kernel, by decide +kernel⟩
theorem dX11_service_0 : decode cX11_service 0 = .ok (.aload_n 0, 1) := by decide +kernel
theorem dX11_service_1 : decode cX11_service 1 = .ok (.iconst 0, 1) := by decide +kernel
theorem dX11_service_2 : decode cX11_service 2 = .ok (.putfield 93, 3) := by decide +kernel
theorem dX11_service_5 : decode cX11_service 5 = .ok (.aload_n 0, 1) := by decide +kernel
theorem dX11_service_6 : decode cX11_service 6 = .ok (.getfield 97, 3) := by decide +kernel
theorem dX11_service_9 : decode cX11_service 9 = .ok (.bipush 8, 2) := by decide +kernel
theorem dX11_service_11 : decode cX11_service 11 = .ok (.if_icmp .ne 5, 3) := by decide +kernel
theorem dX11_service_14 : decode cX11_service 14 = .ok (.iconst (-1), 1) := by decide +kernel
theorem dX11_service_15 : decode cX11_service 15 = .ok (.ireturn, 1) := by decide +kernel
theorem dX11_service_16 : decode cX11_service 16 = .ok (.aload_n 0, 1) := by decide +kernel
theorem dX11_service_17 : decode cX11_service 17 = .ok (.dup, 1) := by decide +kernel
theorem dX11_service_18 : decode cX11_service 18 = .ok (.getfield 97, 3) := by decide +kernel
theorem dX11_service_21 : decode cX11_service 21 = .ok (.iconst 1, 1) := by decide +kernel
theorem dX11_service_22 : decode cX11_service 22 = .ok (.iadd, 1) := by decide +kernel
theorem dX11_service_23 : decode cX11_service 23 = .ok (.putfield 97, 3) := by decide +kernel
theorem dX11_service_26 : decode cX11_service 26 = .ok (.aload_n 0, 1) := by decide +kernel
theorem dX11_service_27 : decode cX11_service 27 = .ok (.getfield 97, 3) := by decide +kernel
theorem dX11_service_30 : decode cX11_service 30 = .ok (.iconst 1, 1) := by decide +kernel
theorem dX11_service_31 : decode cX11_service 31 = .ok (.isub, 1) := by decide +kernel
theorem dX11_service_32 : decode cX11_service 32 = .ok (.ireturn, 1) := by decide +kernel
def F_X11_service (G : Nat → Nat) (h : xH) (a0 : Nat) : Option (Int32 × xH) :=
  (xp G h (some a0) 11 0 (.int 0)).bind fun h1 =>
  (gI h1 (some a0) 11 1).bind fun v2 =>
  if v2 = 8 then
    some ((-1), h1)
  else
  (gI h1 (some a0) 11 1).bind fun v4 =>
  (xp G h1 (some a0) 11 1 (.int (v4 + 1))).bind fun h5 =>
  (gI h5 (some a0) 11 1).bind fun v6 =>
  some ((v6 - 1), h5)
set_option maxHeartbeats 4000000 in
set_option maxRecDepth 100000 in
theorem t_X11_service (l : Launch) (D : va_G) (G : Nat → Nat) (h : xH) (a0 : Nat) (r : Int32) (h' : xH) (hF : F_X11_service G h a0 = some (r, h')) : xC l yX11_service cX11_service 1 (some .int) (rm_X11_service) D G h [.ref a0] (some (.int r)) h' := by
  refine xC_of (by decide) (by first | decide | exact Nat.le_of_ble_eq_true rfl) ?_
  intro p e s m args below meth c ls hx hb hr hlk hml hown hnm hts hR hS hl
  have hl : lv_has ls 1 [(0, va_rf (some a0))] := hl
  unfold F_X11_service at hF
  refine x_aload_n (o := (some a0)) hx hb dX11_service_0 rfl (lv_at hl 0 rfl) ?_
  refine lv_iconst (v := 0) hx hb dX11_service_1 (by decide) ?_
  replace hF := xbind hF; obtain ⟨h1, eh1, hF⟩ := hF
  refine x_put (o := (some a0)) (ci := 11) (C := RX11) (T := TX11) (N := 42) hx hb hts iw_X11 tyX11_ok nmX11 hown hR hS rfl 0 (by decide) mm_943 (Or.inl rfl) rfl rfl rfl eh1 dX11_service_2 (fun H locs hR hS => ?_)
  refine x_aload_n (o := (some a0)) hx hb dX11_service_5 rfl (lv_at hl 0 rfl) ?_
  replace hF := xbind hF; obtain ⟨v2, ev2, hF⟩ := hF
  refine x_getI (o := (some a0)) (ci := 11) (C := RX11) (T := TX11) (N := 42) hx hb hts iw_X11 hown hR rfl 1 (by decide) mm_944 (Or.inl rfl) ev2 dX11_service_6 ?_
  refine lv_bipush (v := 8) hx hb dX11_service_9 (by decide) ?_
  refine lv_icmp_ne (tgt := 16) hx hb dX11_service_11 (by decide) (fun c3 => ?_) (fun c3 => ?_)
  · replace hF := xiff c3 hF
    refine x_aload_n (o := (some a0)) hx hb dX11_service_16 rfl (lv_at hl 0 rfl) ?_
    refine lv_dup hx hb dX11_service_17 xrf_cat ?_
    replace hF := xbind hF; obtain ⟨v4, ev4, hF⟩ := hF
    refine x_getI (o := (some a0)) (ci := 11) (C := RX11) (T := TX11) (N := 42) hx hb hts iw_X11 hown hR rfl 1 (by decide) mm_944 (Or.inl rfl) ev4 dX11_service_18 ?_
    refine lv_iconst (v := 1) hx hb dX11_service_21 (by decide) ?_
    refine lv_iadd hx hb dX11_service_22 ?_
    replace hF := xbind hF; obtain ⟨h5, eh5, hF⟩ := hF
    refine x_put (o := (some a0)) (ci := 11) (C := RX11) (T := TX11) (N := 42) hx hb hts iw_X11 tyX11_ok nmX11 hown hR hS rfl 1 (by decide) mm_944 (Or.inl rfl) rfl rfl rfl eh5 dX11_service_23 (fun H locs hR hS => ?_)
    refine x_aload_n (o := (some a0)) hx hb dX11_service_26 rfl (lv_at hl 0 rfl) ?_
    replace hF := xbind hF; obtain ⟨v6, ev6, hF⟩ := hF
    refine x_getI (o := (some a0)) (ci := 11) (C := RX11) (T := TX11) (N := 42) hx hb hts iw_X11 hown hR rfl 1 (by decide) mm_944 (Or.inl rfl) ev6 dX11_service_27 ?_
    refine lv_iconst (v := 1) hx hb dX11_service_30 (by decide) ?_
    refine lv_isub hx hb dX11_service_31 ?_
    cases hF
    exact x_iret hx hb hr rfl hlk hR hS (by decide) (by decide) dX11_service_32
  · replace hF := xift c3 hF
    refine lv_iconst (v := (-1)) hx hb dX11_service_14 (by decide) ?_
    cases hF
    exact x_iret hx hb hr rfl hlk hR hS (by decide) (by decide) dX11_service_15
def rm_X11_source : Room := { frames := 1, cells := 0, slots := 0, locals := 21 }
theorem f_X11_source : xM yX11_source cX11_source 4 (some .int) 3 := ⟨mm_1082, mm_62, by decide +kernel, by decide +kernel⟩
theorem dX11_source_0 : decode cX11_source 0 = .ok (.aload_n 0, 1) := by decide +kernel
theorem dX11_source_1 : decode cX11_source 1 = .ok (.iconst 0, 1) := by decide +kernel
theorem dX11_source_2 : decode cX11_source 2 = .ok (.putfield 93, 3) := by decide +kernel
theorem dX11_source_5 : decode cX11_source 5 = .ok (.aload_n 0, 1) := by decide +kernel
theorem dX11_source_6 : decode cX11_source 6 = .ok (.iload_n 1, 1) := by decide +kernel
theorem dX11_source_7 : decode cX11_source 7 = .ok (.invokevirtual 100, 3) := by decide +kernel
theorem dX11_source_10 : decode cX11_source 10 = .ok (.ifCond .eq 34, 3) := by decide +kernel
theorem dX11_source_13 : decode cX11_source 13 = .ok (.iload_n 2, 1) := by decide +kernel
theorem dX11_source_14 : decode cX11_source 14 = .ok (.ifCond .lt 30, 3) := by decide +kernel
theorem dX11_source_17 : decode cX11_source 17 = .ok (.iload_n 2, 1) := by decide +kernel
theorem dX11_source_18 : decode cX11_source 18 = .ok (.bipush 60, 2) := by decide +kernel
theorem dX11_source_20 : decode cX11_source 20 = .ok (.if_icmp .gt 24, 3) := by decide +kernel
theorem dX11_source_23 : decode cX11_source 23 = .ok (.iload_n 3, 1) := by decide +kernel
theorem dX11_source_24 : decode cX11_source 24 = .ok (.iconst 1, 1) := by decide +kernel
theorem dX11_source_25 : decode cX11_source 25 = .ok (.if_icmp .lt 19, 3) := by decide +kernel
theorem dX11_source_28 : decode cX11_source 28 = .ok (.iload_n 3, 1) := by decide +kernel
theorem dX11_source_29 : decode cX11_source 29 = .ok (.sipush 1000, 3) := by decide +kernel
theorem dX11_source_32 : decode cX11_source 32 = .ok (.if_icmp .gt 12, 3) := by decide +kernel
theorem dX11_source_35 : decode cX11_source 35 = .ok (.aload_n 0, 1) := by decide +kernel
theorem dX11_source_36 : decode cX11_source 36 = .ok (.getfield 104, 3) := by decide +kernel
theorem dX11_source_39 : decode cX11_source 39 = .ok (.bipush 16, 2) := by decide +kernel
theorem dX11_source_41 : decode cX11_source 41 = .ok (.if_icmp .ne 5, 3) := by decide +kernel
theorem dX11_source_44 : decode cX11_source 44 = .ok (.iconst (-1), 1) := by decide +kernel
theorem dX11_source_45 : decode cX11_source 45 = .ok (.ireturn, 1) := by decide +kernel
theorem dX11_source_46 : decode cX11_source 46 = .ok (.aload_n 0, 1) := by decide +kernel
theorem dX11_source_47 : decode cX11_source 47 = .ok (.getfield 7, 3) := by decide +kernel
theorem dX11_source_50 : decode cX11_source 50 = .ok (.aload_n 0, 1) := by decide +kernel
theorem dX11_source_51 : decode cX11_source 51 = .ok (.getfield 104, 3) := by decide +kernel
theorem dX11_source_54 : decode cX11_source 54 = .ok (.iload_n 1, 1) := by decide +kernel
theorem dX11_source_55 : decode cX11_source 55 = .ok (.iastore, 1) := by decide +kernel
theorem dX11_source_56 : decode cX11_source 56 = .ok (.aload_n 0, 1) := by decide +kernel
theorem dX11_source_57 : decode cX11_source 57 = .ok (.getfield 13, 3) := by decide +kernel
theorem dX11_source_60 : decode cX11_source 60 = .ok (.aload_n 0, 1) := by decide +kernel
theorem dX11_source_61 : decode cX11_source 61 = .ok (.getfield 104, 3) := by decide +kernel
theorem dX11_source_64 : decode cX11_source 64 = .ok (.iload_n 2, 1) := by decide +kernel
theorem dX11_source_65 : decode cX11_source 65 = .ok (.iastore, 1) := by decide +kernel
theorem dX11_source_66 : decode cX11_source 66 = .ok (.aload_n 0, 1) := by decide +kernel
theorem dX11_source_67 : decode cX11_source 67 = .ok (.getfield 16, 3) := by decide +kernel
theorem dX11_source_70 : decode cX11_source 70 = .ok (.aload_n 0, 1) := by decide +kernel
theorem dX11_source_71 : decode cX11_source 71 = .ok (.getfield 104, 3) := by decide +kernel
theorem dX11_source_74 : decode cX11_source 74 = .ok (.iload_n 3, 1) := by decide +kernel
theorem dX11_source_75 : decode cX11_source 75 = .ok (.iastore, 1) := by decide +kernel
theorem dX11_source_76 : decode cX11_source 76 = .ok (.aload_n 0, 1) := by decide +kernel
theorem dX11_source_77 : decode cX11_source 77 = .ok (.dup, 1) := by decide +kernel
theorem dX11_source_78 : decode cX11_source 78 = .ok (.getfield 104, 3) := by decide +kernel
theorem dX11_source_81 : decode cX11_source 81 = .ok (.iconst 1, 1) := by decide +kernel
theorem dX11_source_82 : decode cX11_source 82 = .ok (.iadd, 1) := by decide +kernel
theorem dX11_source_83 : decode cX11_source 83 = .ok (.putfield 104, 3) := by decide +kernel
theorem dX11_source_86 : decode cX11_source 86 = .ok (.aload_n 0, 1) := by decide +kernel
theorem dX11_source_87 : decode cX11_source 87 = .ok (.getfield 104, 3) := by decide +kernel
theorem dX11_source_90 : decode cX11_source 90 = .ok (.iconst 1, 1) := by decide +kernel
theorem dX11_source_91 : decode cX11_source 91 = .ok (.isub, 1) := by decide +kernel
theorem dX11_source_92 : decode cX11_source 92 = .ok (.ireturn, 1) := by decide +kernel
def F_X11_source (G : Nat → Nat) (h : xH) (a0 : Nat) (x1 : Int32) (x2 : Int32) (x3 : Int32) : Option (Int32 × xH) :=
  (xp G h (some a0) 11 0 (.int 0)).bind fun h1 =>
  (xc h1 (some a0) 11).bind fun b3 =>
  (F_X11_isService G h1 b3 x1).bind fun v2 =>
  if v2 = 0 then
    some ((-1), h1)
  else
  if x2 < 0 then
    some ((-1), h1)
  else
  if 60 < x2 then
    some ((-1), h1)
  else
  if x3 < 1 then
    some ((-1), h1)
  else
  if 1000 < x3 then
    some ((-1), h1)
  else
  (gI h1 (some a0) 11 2).bind fun v9 =>
  if v9 = 16 then
    some ((-1), h1)
  else
  (gR h1 (some a0) 11 3).bind fun w11 =>
  (gI h1 (some a0) 11 2).bind fun v12 =>
  (stI 2 G h1 w11 v12 x1).bind fun h13 =>
  (gR h13 (some a0) 11 4).bind fun w14 =>
  (gI h13 (some a0) 11 2).bind fun v15 =>
  (stI 2 G h13 w14 v15 x2).bind fun h16 =>
  (gR h16 (some a0) 11 5).bind fun w17 =>
  (gI h16 (some a0) 11 2).bind fun v18 =>
  (stI 2 G h16 w17 v18 x3).bind fun h19 =>
  (gI h19 (some a0) 11 2).bind fun v20 =>
  (xp G h19 (some a0) 11 2 (.int (v20 + 1))).bind fun h21 =>
  (gI h21 (some a0) 11 2).bind fun v22 =>
  some ((v22 - 1), h21)
set_option maxHeartbeats 4000000 in
set_option maxRecDepth 100000 in
theorem t_X11_source (l : Launch) (D : va_G) (G : Nat → Nat) (h : xH) (a0 : Nat) (x1 : Int32) (x2 : Int32) (x3 : Int32) (r : Int32) (h' : xH) (hF : F_X11_source G h a0 x1 x2 x3 = some (r, h')) : xC l yX11_source cX11_source 4 (some .int) (rm_X11_source) D G h [.ref a0, .int x1, .int x2, .int x3] (some (.int r)) h' := by
  refine xC_of (by decide) (by first | decide | exact Nat.le_of_ble_eq_true rfl) ?_
  intro p e s m args below meth c ls hx hb hr hlk hml hown hnm hts hR hS hl
  have hl : lv_has ls 4 [(0, va_rf (some a0)), (1, .int x1), (2, .int x2), (3, .int x3)] := hl
  unfold F_X11_source at hF
  refine x_aload_n (o := (some a0)) hx hb dX11_source_0 rfl (lv_at hl 0 rfl) ?_
  refine lv_iconst (v := 0) hx hb dX11_source_1 (by decide) ?_
  replace hF := xbind hF; obtain ⟨h1, eh1, hF⟩ := hF
  refine x_put (o := (some a0)) (ci := 11) (C := RX11) (T := TX11) (N := 42) hx hb hts iw_X11 tyX11_ok nmX11 hown hR hS rfl 0 (by decide) mm_943 (Or.inl rfl) rfl rfl rfl eh1 dX11_source_2 (fun H locs hR hS => ?_)
  refine x_aload_n (o := (some a0)) hx hb dX11_source_5 rfl (lv_at hl 0 rfl) ?_
  refine lv_iload_n hx hb dX11_source_6 rfl (lv_at hl 1 rfl) ?_
  replace hF := xbind hF; obtain ⟨b3, eb3, hF⟩ := hF
  replace hF := xbind hF; obtain ⟨v2, ev2, hF⟩ := hF
  refine x_callV (o := (some a0)) (ci := 11) (As := [.int x1]) (rest := []) (v := (some (.int v2))) (k := 1) hx hb hml hown hts hR hS eb3 rfl rfl (t_X11_isService l D G h1 b3 x1 v2 ev2) f_X11_isService mm_1083 mm_1085 mm_32 rfl hl.1 rfl (by first | exact Nat.le_of_ble_eq_true rfl | simp [xrf_cat, xcI, xcJ, xcA]) dX11_source_7 (by decide) (by decide) rfl (fun H locs hR hS => ?_)
  refine lv_if_eq (tgt := 44) hx hb dX11_source_10 (by decide) (fun c4 => ?_) (fun c4 => ?_)
  · replace hF := xift c4 hF
    refine lv_iconst (v := (-1)) hx hb dX11_source_44 (by decide) ?_
    cases hF
    exact x_iret hx hb hr rfl hlk hR hS (by decide) (by decide) dX11_source_45
  · replace hF := xiff c4 hF
    refine lv_iload_n hx hb dX11_source_13 rfl (lv_at hl 2 rfl) ?_
    refine lv_if_lt (tgt := 44) hx hb dX11_source_14 (by decide) (fun c5 => ?_) (fun c5 => ?_)
    · replace hF := xift c5 hF
      refine lv_iconst (v := (-1)) hx hb dX11_source_44 (by decide) ?_
      cases hF
      exact x_iret hx hb hr rfl hlk hR hS (by decide) (by decide) dX11_source_45
    · replace hF := xiff c5 hF
      refine lv_iload_n hx hb dX11_source_17 rfl (lv_at hl 2 rfl) ?_
      refine lv_bipush (v := 60) hx hb dX11_source_18 (by decide) ?_
      refine lv_icmp_gt (tgt := 44) hx hb dX11_source_20 (by decide) (fun c6 => ?_) (fun c6 => ?_)
      · replace hF := xift c6 hF
        refine lv_iconst (v := (-1)) hx hb dX11_source_44 (by decide) ?_
        cases hF
        exact x_iret hx hb hr rfl hlk hR hS (by decide) (by decide) dX11_source_45
      · replace hF := xiff c6 hF
        refine lv_iload_n hx hb dX11_source_23 rfl (lv_at hl 3 rfl) ?_
        refine lv_iconst (v := 1) hx hb dX11_source_24 (by decide) ?_
        refine lv_icmp_lt (tgt := 44) hx hb dX11_source_25 (by decide) (fun c7 => ?_) (fun c7 => ?_)
        · replace hF := xift c7 hF
          refine lv_iconst (v := (-1)) hx hb dX11_source_44 (by decide) ?_
          cases hF
          exact x_iret hx hb hr rfl hlk hR hS (by decide) (by decide) dX11_source_45
        · replace hF := xiff c7 hF
          refine lv_iload_n hx hb dX11_source_28 rfl (lv_at hl 3 rfl) ?_
          refine lv_sipush (v := 1000) hx hb dX11_source_29 (by decide) ?_
          refine lv_icmp_gt (tgt := 44) hx hb dX11_source_32 (by decide) (fun c8 => ?_) (fun c8 => ?_)
          · replace hF := xift c8 hF
            refine lv_iconst (v := (-1)) hx hb dX11_source_44 (by decide) ?_
            cases hF
            exact x_iret hx hb hr rfl hlk hR hS (by decide) (by decide) dX11_source_45
          · replace hF := xiff c8 hF
            refine x_aload_n (o := (some a0)) hx hb dX11_source_35 rfl (lv_at hl 0 rfl) ?_
            replace hF := xbind hF; obtain ⟨v9, ev9, hF⟩ := hF
            refine x_getI (o := (some a0)) (ci := 11) (C := RX11) (T := TX11) (N := 42) hx hb hts iw_X11 hown hR rfl 2 (by decide) mm_945 (Or.inl rfl) ev9 dX11_source_36 ?_
            refine lv_bipush (v := 16) hx hb dX11_source_39 (by decide) ?_
            refine lv_icmp_ne (tgt := 46) hx hb dX11_source_41 (by decide) (fun c10 => ?_) (fun c10 => ?_)
            · replace hF := xiff c10 hF
              refine x_aload_n (o := (some a0)) hx hb dX11_source_46 rfl (lv_at hl 0 rfl) ?_
              replace hF := xbind hF; obtain ⟨w11, ew11, hF⟩ := hF
              refine x_getR (o := (some a0)) (ci := 11) (C := RX11) (T := TX11) (N := 42) hx hb hts iw_X11 hown hR rfl 3 (by decide) mm_946 (Or.inl rfl) ew11 dX11_source_47 ?_
              refine x_aload_n (o := (some a0)) hx hb dX11_source_50 rfl (lv_at hl 0 rfl) ?_
              replace hF := xbind hF; obtain ⟨v12, ev12, hF⟩ := hF
              refine x_getI (o := (some a0)) (ci := 11) (C := RX11) (T := TX11) (N := 42) hx hb hts iw_X11 hown hR rfl 2 (by decide) mm_945 (Or.inl rfl) ev12 dX11_source_51 ?_
              refine lv_iload_n hx hb dX11_source_54 rfl (lv_at hl 1 rfl) ?_
              replace hF := xbind hF; obtain ⟨h13, eh13, hF⟩ := hF
              refine x_ist (o := w11) hx hb hR hS eh13 dX11_source_55 (fun H locs hR hS => ?_)
              refine x_aload_n (o := (some a0)) hx hb dX11_source_56 rfl (lv_at hl 0 rfl) ?_
              replace hF := xbind hF; obtain ⟨w14, ew14, hF⟩ := hF
              refine x_getR (o := (some a0)) (ci := 11) (C := RX11) (T := TX11) (N := 42) hx hb hts iw_X11 hown hR rfl 4 (by decide) mm_947 (Or.inl rfl) ew14 dX11_source_57 ?_
              refine x_aload_n (o := (some a0)) hx hb dX11_source_60 rfl (lv_at hl 0 rfl) ?_
              replace hF := xbind hF; obtain ⟨v15, ev15, hF⟩ := hF
              refine x_getI (o := (some a0)) (ci := 11) (C := RX11) (T := TX11) (N := 42) hx hb hts iw_X11 hown hR rfl 2 (by decide) mm_945 (Or.inl rfl) ev15 dX11_source_61 ?_
              refine lv_iload_n hx hb dX11_source_64 rfl (lv_at hl 2 rfl) ?_
              replace hF := xbind hF; obtain ⟨h16, eh16, hF⟩ := hF
              refine x_ist (o := w14) hx hb hR hS eh16 dX11_source_65 (fun H locs hR hS => ?_)
              refine x_aload_n (o := (some a0)) hx hb dX11_source_66 rfl (lv_at hl 0 rfl) ?_
              replace hF := xbind hF; obtain ⟨w17, ew17, hF⟩ := hF
              refine x_getR (o := (some a0)) (ci := 11) (C := RX11) (T := TX11) (N := 42) hx hb hts iw_X11 hown hR rfl 5 (by decide) mm_948 (Or.inl rfl) ew17 dX11_source_67 ?_
              refine x_aload_n (o := (some a0)) hx hb dX11_source_70 rfl (lv_at hl 0 rfl) ?_
              replace hF := xbind hF; obtain ⟨v18, ev18, hF⟩ := hF
              refine x_getI (o := (some a0)) (ci := 11) (C := RX11) (T := TX11) (N := 42) hx hb hts iw_X11 hown hR rfl 2 (by decide) mm_945 (Or.inl rfl) ev18 dX11_source_71 ?_
              refine lv_iload_n hx hb dX11_source_74 rfl (lv_at hl 3 rfl) ?_
              replace hF := xbind hF; obtain ⟨h19, eh19, hF⟩ := hF
              refine x_ist (o := w17) hx hb hR hS eh19 dX11_source_75 (fun H locs hR hS => ?_)
              refine x_aload_n (o := (some a0)) hx hb dX11_source_76 rfl (lv_at hl 0 rfl) ?_
              refine lv_dup hx hb dX11_source_77 xrf_cat ?_
              replace hF := xbind hF; obtain ⟨v20, ev20, hF⟩ := hF
              refine x_getI (o := (some a0)) (ci := 11) (C := RX11) (T := TX11) (N := 42) hx hb hts iw_X11 hown hR rfl 2 (by decide) mm_945 (Or.inl rfl) ev20 dX11_source_78 ?_
              refine lv_iconst (v := 1) hx hb dX11_source_81 (by decide) ?_
              refine lv_iadd hx hb dX11_source_82 ?_
              replace hF := xbind hF; obtain ⟨h21, eh21, hF⟩ := hF
              refine x_put (o := (some a0)) (ci := 11) (C := RX11) (T := TX11) (N := 42) hx hb hts iw_X11 tyX11_ok nmX11 hown hR hS rfl 2 (by decide) mm_945 (Or.inl rfl) rfl rfl rfl eh21 dX11_source_83 (fun H locs hR hS => ?_)
              refine x_aload_n (o := (some a0)) hx hb dX11_source_86 rfl (lv_at hl 0 rfl) ?_
              replace hF := xbind hF; obtain ⟨v22, ev22, hF⟩ := hF
              refine x_getI (o := (some a0)) (ci := 11) (C := RX11) (T := TX11) (N := 42) hx hb hts iw_X11 hown hR rfl 2 (by decide) mm_945 (Or.inl rfl) ev22 dX11_source_87 ?_
              refine lv_iconst (v := 1) hx hb dX11_source_90 (by decide) ?_
              refine lv_isub hx hb dX11_source_91 ?_
              cases hF
              exact x_iret hx hb hr rfl hlk hR hS (by decide) (by decide) dX11_source_92
            · replace hF := xift c10 hF
              refine lv_iconst (v := (-1)) hx hb dX11_source_44 (by decide) ?_
              cases hF
              exact x_iret hx hb hr rfl hlk hR hS (by decide) (by decide) dX11_source_45
def rm_X11_count : Room := { frames := 0, cells := 0, slots := 0, locals := 0 }
theorem f_X11_count : xM yX11_count cX11_count 7 (some .int) 5 := ⟨mm_1090, mm_62, by decide +kernel, by decide +kernel⟩
theorem dX11_count_0 : decode cX11_count 0 = .ok (.aload_n 0, 1) := by decide +kernel
theorem dX11_count_1 : decode cX11_count 1 = .ok (.iconst 0, 1) := by decide +kernel
theorem dX11_count_2 : decode cX11_count 2 = .ok (.putfield 93, 3) := by decide +kernel
theorem dX11_count_5 : decode cX11_count 5 = .ok (.iload_n 1, 1) := by decide +kernel
theorem dX11_count_6 : decode cX11_count 6 = .ok (.ifCond .lt 63, 3) := by decide +kernel
theorem dX11_count_9 : decode cX11_count 9 = .ok (.iload_n 1, 1) := by decide +kernel
theorem dX11_count_10 : decode cX11_count 10 = .ok (.aload_n 0, 1) := by decide +kernel
theorem dX11_count_11 : decode cX11_count 11 = .ok (.getfield 104, 3) := by decide +kernel
theorem dX11_count_14 : decode cX11_count 14 = .ok (.if_icmp .ge 55, 3) := by decide +kernel
theorem dX11_count_17 : decode cX11_count 17 = .ok (.iload_n 2, 1) := by decide +kernel
theorem dX11_count_18 : decode cX11_count 18 = .ok (.ifCond .lt 51, 3) := by decide +kernel
theorem dX11_count_21 : decode cX11_count 21 = .ok (.iload_n 2, 1) := by decide +kernel
theorem dX11_count_22 : decode cX11_count 22 = .ok (.sipush 199, 3) := by decide +kernel
theorem dX11_count_25 : decode cX11_count 25 = .ok (.if_icmp .gt 44, 3) := by decide +kernel
theorem dX11_count_28 : decode cX11_count 28 = .ok (.iload_n 3, 1) := by decide +kernel
theorem dX11_count_29 : decode cX11_count 29 = .ok (.ifCond .lt 40, 3) := by decide +kernel
theorem dX11_count_32 : decode cX11_count 32 = .ok (.iload 4, 2) := by decide +kernel
theorem dX11_count_34 : decode cX11_count 34 = .ok (.ifCond .lt 35, 3) := by decide +kernel
theorem dX11_count_37 : decode cX11_count 37 = .ok (.iload 5, 2) := by decide +kernel
theorem dX11_count_39 : decode cX11_count 39 = .ok (.ifCond .lt 30, 3) := by decide +kernel
theorem dX11_count_42 : decode cX11_count 42 = .ok (.iload 4, 2) := by decide +kernel
theorem dX11_count_44 : decode cX11_count 44 = .ok (.sipush 1000, 3) := by decide +kernel
theorem dX11_count_47 : decode cX11_count 47 = .ok (.if_icmp .gt 22, 3) := by decide +kernel
theorem dX11_count_50 : decode cX11_count 50 = .ok (.iload 5, 2) := by decide +kernel
theorem dX11_count_52 : decode cX11_count 52 = .ok (.sipush 1000, 3) := by decide +kernel
theorem dX11_count_55 : decode cX11_count 55 = .ok (.if_icmp .gt 14, 3) := by decide +kernel
theorem dX11_count_58 : decode cX11_count 58 = .ok (.iload 4, 2) := by decide +kernel
theorem dX11_count_60 : decode cX11_count 60 = .ok (.iload 5, 2) := by decide +kernel
theorem dX11_count_62 : decode cX11_count 62 = .ok (.iadd, 1) := by decide +kernel
theorem dX11_count_63 : decode cX11_count 63 = .ok (.sipush 1000, 3) := by decide +kernel
theorem dX11_count_66 : decode cX11_count 66 = .ok (.if_icmp .le 5, 3) := by decide +kernel
theorem dX11_count_69 : decode cX11_count 69 = .ok (.iconst 1, 1) := by decide +kernel
theorem dX11_count_70 : decode cX11_count 70 = .ok (.ireturn, 1) := by decide +kernel
theorem dX11_count_71 : decode cX11_count 71 = .ok (.aload_n 0, 1) := by decide +kernel
theorem dX11_count_72 : decode cX11_count 72 = .ok (.getfield 25, 3) := by decide +kernel
theorem dX11_count_75 : decode cX11_count 75 = .ok (.sipush 200, 3) := by decide +kernel
theorem dX11_count_78 : decode cX11_count 78 = .ok (.iload_n 1, 1) := by decide +kernel
theorem dX11_count_79 : decode cX11_count 79 = .ok (.imul, 1) := by decide +kernel
theorem dX11_count_80 : decode cX11_count 80 = .ok (.iload_n 2, 1) := by decide +kernel
theorem dX11_count_81 : decode cX11_count 81 = .ok (.iadd, 1) := by decide +kernel
theorem dX11_count_82 : decode cX11_count 82 = .ok (.baload, 1) := by decide +kernel
theorem dX11_count_83 : decode cX11_count 83 = .ok (.ifCond .eq 15, 3) := by decide +kernel
theorem dX11_count_86 : decode cX11_count 86 = .ok (.aload_n 0, 1) := by decide +kernel
theorem dX11_count_87 : decode cX11_count 87 = .ok (.dup, 1) := by decide +kernel
theorem dX11_count_88 : decode cX11_count 88 = .ok (.getfield 107, 3) := by decide +kernel
theorem dX11_count_91 : decode cX11_count 91 = .ok (.iconst 1, 1) := by decide +kernel
theorem dX11_count_92 : decode cX11_count 92 = .ok (.iadd, 1) := by decide +kernel
theorem dX11_count_93 : decode cX11_count 93 = .ok (.putfield 107, 3) := by decide +kernel
theorem dX11_count_96 : decode cX11_count 96 = .ok (.iconst 2, 1) := by decide +kernel
theorem dX11_count_97 : decode cX11_count 97 = .ok (.ireturn, 1) := by decide +kernel
theorem dX11_count_98 : decode cX11_count 98 = .ok (.iload_n 3, 1) := by decide +kernel
theorem dX11_count_99 : decode cX11_count 99 = .ok (.aload_n 0, 1) := by decide +kernel
theorem dX11_count_100 : decode cX11_count 100 = .ok (.getfield 110, 3) := by decide +kernel
theorem dX11_count_103 : decode cX11_count 103 = .ok (.if_icmp .le 5, 3) := by decide +kernel
theorem dX11_count_106 : decode cX11_count 106 = .ok (.iconst 3, 1) := by decide +kernel
theorem dX11_count_107 : decode cX11_count 107 = .ok (.ireturn, 1) := by decide +kernel
theorem dX11_count_108 : decode cX11_count 108 = .ok (.iload_n 3, 1) := by decide +kernel
theorem dX11_count_109 : decode cX11_count 109 = .ok (.aload_n 0, 1) := by decide +kernel
theorem dX11_count_110 : decode cX11_count 110 = .ok (.getfield 110, 3) := by decide +kernel
theorem dX11_count_113 : decode cX11_count 113 = .ok (.aload_n 0, 1) := by decide +kernel
theorem dX11_count_114 : decode cX11_count 114 = .ok (.getfield 13, 3) := by decide +kernel
theorem dX11_count_117 : decode cX11_count 117 = .ok (.iload_n 1, 1) := by decide +kernel
theorem dX11_count_118 : decode cX11_count 118 = .ok (.iaload, 1) := by decide +kernel
theorem dX11_count_119 : decode cX11_count 119 = .ok (.isub, 1) := by decide +kernel
theorem dX11_count_120 : decode cX11_count 120 = .ok (.if_icmp .ge 5, 3) := by decide +kernel
theorem dX11_count_123 : decode cX11_count 123 = .ok (.iconst 4, 1) := by decide +kernel
theorem dX11_count_124 : decode cX11_count 124 = .ok (.ireturn, 1) := by decide +kernel
theorem dX11_count_125 : decode cX11_count 125 = .ok (.sipush 601, 3) := by decide +kernel
theorem dX11_count_128 : decode cX11_count 128 = .ok (.iload_n 1, 1) := by decide +kernel
theorem dX11_count_129 : decode cX11_count 129 = .ok (.imul, 1) := by decide +kernel
theorem dX11_count_130 : decode cX11_count 130 = .ok (.iload_n 3, 1) := by decide +kernel
theorem dX11_count_131 : decode cX11_count 131 = .ok (.iadd, 1) := by decide +kernel
theorem dX11_count_132 : decode cX11_count 132 = .ok (.istore 6, 2) := by decide +kernel
theorem dX11_count_134 : decode cX11_count 134 = .ok (.aload_n 0, 1) := by decide +kernel
theorem dX11_count_135 : decode cX11_count 135 = .ok (.getfield 19, 3) := by decide +kernel
theorem dX11_count_138 : decode cX11_count 138 = .ok (.iload 6, 2) := by decide +kernel
theorem dX11_count_140 : decode cX11_count 140 = .ok (.iaload, 1) := by decide +kernel
theorem dX11_count_141 : decode cX11_count 141 = .ok (.iload 4, 2) := by decide +kernel
theorem dX11_count_143 : decode cX11_count 143 = .ok (.iadd, 1) := by decide +kernel
theorem dX11_count_144 : decode cX11_count 144 = .ok (.iload 5, 2) := by decide +kernel
theorem dX11_count_146 : decode cX11_count 146 = .ok (.iadd, 1) := by decide +kernel
theorem dX11_count_147 : decode cX11_count 147 = .ok (.aload_n 0, 1) := by decide +kernel
theorem dX11_count_148 : decode cX11_count 148 = .ok (.getfield 16, 3) := by decide +kernel
theorem dX11_count_151 : decode cX11_count 151 = .ok (.iload_n 1, 1) := by decide +kernel
theorem dX11_count_152 : decode cX11_count 152 = .ok (.iaload, 1) := by decide +kernel
theorem dX11_count_153 : decode cX11_count 153 = .ok (.if_icmp .le 5, 3) := by decide +kernel
theorem dX11_count_156 : decode cX11_count 156 = .ok (.iconst 5, 1) := by decide +kernel
theorem dX11_count_157 : decode cX11_count 157 = .ok (.ireturn, 1) := by decide +kernel
theorem dX11_count_158 : decode cX11_count 158 = .ok (.aload_n 0, 1) := by decide +kernel
theorem dX11_count_159 : decode cX11_count 159 = .ok (.getfield 25, 3) := by decide +kernel
theorem dX11_count_162 : decode cX11_count 162 = .ok (.sipush 200, 3) := by decide +kernel
theorem dX11_count_165 : decode cX11_count 165 = .ok (.iload_n 1, 1) := by decide +kernel
theorem dX11_count_166 : decode cX11_count 166 = .ok (.imul, 1) := by decide +kernel
theorem dX11_count_167 : decode cX11_count 167 = .ok (.iload_n 2, 1) := by decide +kernel
theorem dX11_count_168 : decode cX11_count 168 = .ok (.iadd, 1) := by decide +kernel
theorem dX11_count_169 : decode cX11_count 169 = .ok (.iconst 1, 1) := by decide +kernel
theorem dX11_count_170 : decode cX11_count 170 = .ok (.bastore, 1) := by decide +kernel
theorem dX11_count_171 : decode cX11_count 171 = .ok (.aload_n 0, 1) := by decide +kernel
theorem dX11_count_172 : decode cX11_count 172 = .ok (.getfield 19, 3) := by decide +kernel
theorem dX11_count_175 : decode cX11_count 175 = .ok (.iload 6, 2) := by decide +kernel
theorem dX11_count_177 : decode cX11_count 177 = .ok (.dup2, 1) := by decide +kernel
theorem dX11_count_178 : decode cX11_count 178 = .ok (.iaload, 1) := by decide +kernel
theorem dX11_count_179 : decode cX11_count 179 = .ok (.iload 4, 2) := by decide +kernel
theorem dX11_count_181 : decode cX11_count 181 = .ok (.iload 5, 2) := by decide +kernel
theorem dX11_count_183 : decode cX11_count 183 = .ok (.iadd, 1) := by decide +kernel
theorem dX11_count_184 : decode cX11_count 184 = .ok (.iadd, 1) := by decide +kernel
theorem dX11_count_185 : decode cX11_count 185 = .ok (.iastore, 1) := by decide +kernel
theorem dX11_count_186 : decode cX11_count 186 = .ok (.aload_n 0, 1) := by decide +kernel
theorem dX11_count_187 : decode cX11_count 187 = .ok (.getfield 22, 3) := by decide +kernel
theorem dX11_count_190 : decode cX11_count 190 = .ok (.iload 6, 2) := by decide +kernel
theorem dX11_count_192 : decode cX11_count 192 = .ok (.dup2, 1) := by decide +kernel
theorem dX11_count_193 : decode cX11_count 193 = .ok (.iaload, 1) := by decide +kernel
theorem dX11_count_194 : decode cX11_count 194 = .ok (.iload 5, 2) := by decide +kernel
theorem dX11_count_196 : decode cX11_count 196 = .ok (.iadd, 1) := by decide +kernel
theorem dX11_count_197 : decode cX11_count 197 = .ok (.iastore, 1) := by decide +kernel
theorem dX11_count_198 : decode cX11_count 198 = .ok (.aload_n 0, 1) := by decide +kernel
theorem dX11_count_199 : decode cX11_count 199 = .ok (.dup, 1) := by decide +kernel
theorem dX11_count_200 : decode cX11_count 200 = .ok (.getfield 113, 3) := by decide +kernel
theorem dX11_count_203 : decode cX11_count 203 = .ok (.iconst 1, 1) := by decide +kernel
theorem dX11_count_204 : decode cX11_count 204 = .ok (.iadd, 1) := by decide +kernel
theorem dX11_count_205 : decode cX11_count 205 = .ok (.putfield 113, 3) := by decide +kernel
theorem dX11_count_208 : decode cX11_count 208 = .ok (.iconst 0, 1) := by decide +kernel
theorem dX11_count_209 : decode cX11_count 209 = .ok (.ireturn, 1) := by decide +kernel
def F_X11_count (G : Nat → Nat) (h : xH) (a0 : Nat) (x1 : Int32) (x2 : Int32) (x3 : Int32) (x4 : Int32) (x5 : Int32) : Option (Int32 × xH) :=
  (xp G h (some a0) 11 0 (.int 0)).bind fun h1 =>
  if x1 < 0 then
    some (1, h1)
  else
  (gI h1 (some a0) 11 2).bind fun v3 =>
  if v3 ≤ x1 then
    some (1, h1)
  else
  if x2 < 0 then
    some (1, h1)
  else
  if 199 < x2 then
    some (1, h1)
  else
  if x3 < 0 then
    some (1, h1)
  else
  if x4 < 0 then
    some (1, h1)
  else
  if x5 < 0 then
    some (1, h1)
  else
  if 1000 < x4 then
    some (1, h1)
  else
  if 1000 < x5 then
    some (1, h1)
  else
  if (x4 + x5) ≤ 1000 then
    (gR h1 (some a0) 11 8).bind fun w13 =>
    (ldI 3 G h1 w13 ((200 * x1) + x2)).bind fun v14 =>
    if v14 = 0 then
      (gI h1 (some a0) 11 9).bind fun v16 =>
      if x3 ≤ v16 then
        (gI h1 (some a0) 11 9).bind fun v18 =>
        (gR h1 (some a0) 11 4).bind fun w19 =>
        (ldI 2 G h1 w19 x1).bind fun v20 =>
        if (v18 - v20) ≤ x3 then
          xl ((601 * x1) + x3) fun v22 =>
          (gR h1 (some a0) 11 6).bind fun w23 =>
          (ldI 2 G h1 w23 v22).bind fun v24 =>
          (gR h1 (some a0) 11 5).bind fun w25 =>
          (ldI 2 G h1 w25 x1).bind fun v26 =>
          if ((v24 + x4) + x5) ≤ v26 then
            (gR h1 (some a0) 11 8).bind fun w28 =>
            (stI 3 G h1 w28 ((200 * x1) + x2) (vp_nar .boolean 1)).bind fun h29 =>
            (gR h29 (some a0) 11 6).bind fun w30 =>
            (ldI 2 G h29 w30 v22).bind fun v31 =>
            (stI 2 G h29 w30 v22 (v31 + (x4 + x5))).bind fun h32 =>
            (gR h32 (some a0) 11 7).bind fun w33 =>
            (ldI 2 G h32 w33 v22).bind fun v34 =>
            (stI 2 G h32 w33 v22 (v34 + x5)).bind fun h35 =>
            (gI h35 (some a0) 11 10).bind fun v36 =>
            (xp G h35 (some a0) 11 10 (.int (v36 + 1))).bind fun h37 =>
            some (0, h37)
          else
          some (5, h1)
        else
        some (4, h1)
      else
      some (3, h1)
    else
    (gI h1 (some a0) 11 11).bind fun v38 =>
    (xp G h1 (some a0) 11 11 (.int (v38 + 1))).bind fun h39 =>
    some (2, h39)
  else
  some (1, h1)
set_option maxHeartbeats 4000000 in
set_option maxRecDepth 100000 in
theorem t_X11_count (l : Launch) (D : va_G) (G : Nat → Nat) (h : xH) (a0 : Nat) (x1 : Int32) (x2 : Int32) (x3 : Int32) (x4 : Int32) (x5 : Int32) (r : Int32) (h' : xH) (hF : F_X11_count G h a0 x1 x2 x3 x4 x5 = some (r, h')) : xC l yX11_count cX11_count 7 (some .int) (rm_X11_count) D G h [.ref a0, .int x1, .int x2, .int x3, .int x4, .int x5] (some (.int r)) h' := by
  refine xC_of (by decide) (by first | decide | exact Nat.le_of_ble_eq_true rfl) ?_
  intro p e s m args below meth c ls hx hb hr hlk hml hown hnm hts hR hS hl
  have hl : lv_has ls 7 [(0, va_rf (some a0)), (1, .int x1), (2, .int x2), (3, .int x3), (4, .int x4), (5, .int x5)] := hl
  unfold F_X11_count at hF
  refine x_aload_n (o := (some a0)) hx hb dX11_count_0 rfl (lv_at hl 0 rfl) ?_
  refine lv_iconst (v := 0) hx hb dX11_count_1 (by decide) ?_
  replace hF := xbind hF; obtain ⟨h1, eh1, hF⟩ := hF
  refine x_put (o := (some a0)) (ci := 11) (C := RX11) (T := TX11) (N := 42) hx hb hts iw_X11 tyX11_ok nmX11 hown hR hS rfl 0 (by decide) mm_943 (Or.inl rfl) rfl rfl rfl eh1 dX11_count_2 (fun H locs hR hS => ?_)
  refine lv_iload_n hx hb dX11_count_5 rfl (lv_at hl 1 rfl) ?_
  refine lv_if_lt (tgt := 69) hx hb dX11_count_6 (by decide) (fun c2 => ?_) (fun c2 => ?_)
  · replace hF := xift c2 hF
    refine lv_iconst (v := 1) hx hb dX11_count_69 (by decide) ?_
    cases hF
    exact x_iret hx hb hr rfl hlk hR hS (by decide) (by decide) dX11_count_70
  · replace hF := xiff c2 hF
    refine lv_iload_n hx hb dX11_count_9 rfl (lv_at hl 1 rfl) ?_
    refine x_aload_n (o := (some a0)) hx hb dX11_count_10 rfl (lv_at hl 0 rfl) ?_
    replace hF := xbind hF; obtain ⟨v3, ev3, hF⟩ := hF
    refine x_getI (o := (some a0)) (ci := 11) (C := RX11) (T := TX11) (N := 42) hx hb hts iw_X11 hown hR rfl 2 (by decide) mm_945 (Or.inl rfl) ev3 dX11_count_11 ?_
    refine lv_icmp_ge (tgt := 69) hx hb dX11_count_14 (by decide) (fun c4 => ?_) (fun c4 => ?_)
    · replace hF := xift c4 hF
      refine lv_iconst (v := 1) hx hb dX11_count_69 (by decide) ?_
      cases hF
      exact x_iret hx hb hr rfl hlk hR hS (by decide) (by decide) dX11_count_70
    · replace hF := xiff c4 hF
      refine lv_iload_n hx hb dX11_count_17 rfl (lv_at hl 2 rfl) ?_
      refine lv_if_lt (tgt := 69) hx hb dX11_count_18 (by decide) (fun c5 => ?_) (fun c5 => ?_)
      · replace hF := xift c5 hF
        refine lv_iconst (v := 1) hx hb dX11_count_69 (by decide) ?_
        cases hF
        exact x_iret hx hb hr rfl hlk hR hS (by decide) (by decide) dX11_count_70
      · replace hF := xiff c5 hF
        refine lv_iload_n hx hb dX11_count_21 rfl (lv_at hl 2 rfl) ?_
        refine lv_sipush (v := 199) hx hb dX11_count_22 (by decide) ?_
        refine lv_icmp_gt (tgt := 69) hx hb dX11_count_25 (by decide) (fun c6 => ?_) (fun c6 => ?_)
        · replace hF := xift c6 hF
          refine lv_iconst (v := 1) hx hb dX11_count_69 (by decide) ?_
          cases hF
          exact x_iret hx hb hr rfl hlk hR hS (by decide) (by decide) dX11_count_70
        · replace hF := xiff c6 hF
          refine lv_iload_n hx hb dX11_count_28 rfl (lv_at hl 3 rfl) ?_
          refine lv_if_lt (tgt := 69) hx hb dX11_count_29 (by decide) (fun c7 => ?_) (fun c7 => ?_)
          · replace hF := xift c7 hF
            refine lv_iconst (v := 1) hx hb dX11_count_69 (by decide) ?_
            cases hF
            exact x_iret hx hb hr rfl hlk hR hS (by decide) (by decide) dX11_count_70
          · replace hF := xiff c7 hF
            refine lv_iload hx hb dX11_count_32 (lv_at hl 4 rfl) ?_
            refine lv_if_lt (tgt := 69) hx hb dX11_count_34 (by decide) (fun c8 => ?_) (fun c8 => ?_)
            · replace hF := xift c8 hF
              refine lv_iconst (v := 1) hx hb dX11_count_69 (by decide) ?_
              cases hF
              exact x_iret hx hb hr rfl hlk hR hS (by decide) (by decide) dX11_count_70
            · replace hF := xiff c8 hF
              refine lv_iload hx hb dX11_count_37 (lv_at hl 5 rfl) ?_
              refine lv_if_lt (tgt := 69) hx hb dX11_count_39 (by decide) (fun c9 => ?_) (fun c9 => ?_)
              · replace hF := xift c9 hF
                refine lv_iconst (v := 1) hx hb dX11_count_69 (by decide) ?_
                cases hF
                exact x_iret hx hb hr rfl hlk hR hS (by decide) (by decide) dX11_count_70
              · replace hF := xiff c9 hF
                refine lv_iload hx hb dX11_count_42 (lv_at hl 4 rfl) ?_
                refine lv_sipush (v := 1000) hx hb dX11_count_44 (by decide) ?_
                refine lv_icmp_gt (tgt := 69) hx hb dX11_count_47 (by decide) (fun c10 => ?_) (fun c10 => ?_)
                · replace hF := xift c10 hF
                  refine lv_iconst (v := 1) hx hb dX11_count_69 (by decide) ?_
                  cases hF
                  exact x_iret hx hb hr rfl hlk hR hS (by decide) (by decide) dX11_count_70
                · replace hF := xiff c10 hF
                  refine lv_iload hx hb dX11_count_50 (lv_at hl 5 rfl) ?_
                  refine lv_sipush (v := 1000) hx hb dX11_count_52 (by decide) ?_
                  refine lv_icmp_gt (tgt := 69) hx hb dX11_count_55 (by decide) (fun c11 => ?_) (fun c11 => ?_)
                  · replace hF := xift c11 hF
                    refine lv_iconst (v := 1) hx hb dX11_count_69 (by decide) ?_
                    cases hF
                    exact x_iret hx hb hr rfl hlk hR hS (by decide) (by decide) dX11_count_70
                  · replace hF := xiff c11 hF
                    refine lv_iload hx hb dX11_count_58 (lv_at hl 4 rfl) ?_
                    refine lv_iload hx hb dX11_count_60 (lv_at hl 5 rfl) ?_
                    refine lv_iadd hx hb dX11_count_62 ?_
                    refine lv_sipush (v := 1000) hx hb dX11_count_63 (by decide) ?_
                    refine lv_icmp_le (tgt := 71) hx hb dX11_count_66 (by decide) (fun c12 => ?_) (fun c12 => ?_)
                    · replace hF := xift c12 hF
                      refine x_aload_n (o := (some a0)) hx hb dX11_count_71 rfl (lv_at hl 0 rfl) ?_
                      replace hF := xbind hF; obtain ⟨w13, ew13, hF⟩ := hF
                      refine x_getR (o := (some a0)) (ci := 11) (C := RX11) (T := TX11) (N := 42) hx hb hts iw_X11 hown hR rfl 8 (by decide) mm_951 (Or.inl rfl) ew13 dX11_count_72 ?_
                      refine lv_sipush (v := 200) hx hb dX11_count_75 (by decide) ?_
                      refine lv_iload_n hx hb dX11_count_78 rfl (lv_at hl 1 rfl) ?_
                      refine lv_imul hx hb dX11_count_79 ?_
                      refine lv_iload_n hx hb dX11_count_80 rfl (lv_at hl 2 rfl) ?_
                      refine lv_iadd hx hb dX11_count_81 ?_
                      replace hF := xbind hF; obtain ⟨v14, ev14, hF⟩ := hF
                      refine x_zld (o := w13) hx hb hR ev14 dX11_count_82 ?_
                      refine lv_if_eq (tgt := 98) hx hb dX11_count_83 (by decide) (fun c15 => ?_) (fun c15 => ?_)
                      · replace hF := xift c15 hF
                        refine lv_iload_n hx hb dX11_count_98 rfl (lv_at hl 3 rfl) ?_
                        refine x_aload_n (o := (some a0)) hx hb dX11_count_99 rfl (lv_at hl 0 rfl) ?_
                        replace hF := xbind hF; obtain ⟨v16, ev16, hF⟩ := hF
                        refine x_getI (o := (some a0)) (ci := 11) (C := RX11) (T := TX11) (N := 42) hx hb hts iw_X11 hown hR rfl 9 (by decide) mm_952 (Or.inl rfl) ev16 dX11_count_100 ?_
                        refine lv_icmp_le (tgt := 108) hx hb dX11_count_103 (by decide) (fun c17 => ?_) (fun c17 => ?_)
                        · replace hF := xift c17 hF
                          refine lv_iload_n hx hb dX11_count_108 rfl (lv_at hl 3 rfl) ?_
                          refine x_aload_n (o := (some a0)) hx hb dX11_count_109 rfl (lv_at hl 0 rfl) ?_
                          replace hF := xbind hF; obtain ⟨v18, ev18, hF⟩ := hF
                          refine x_getI (o := (some a0)) (ci := 11) (C := RX11) (T := TX11) (N := 42) hx hb hts iw_X11 hown hR rfl 9 (by decide) mm_952 (Or.inl rfl) ev18 dX11_count_110 ?_
                          refine x_aload_n (o := (some a0)) hx hb dX11_count_113 rfl (lv_at hl 0 rfl) ?_
                          replace hF := xbind hF; obtain ⟨w19, ew19, hF⟩ := hF
                          refine x_getR (o := (some a0)) (ci := 11) (C := RX11) (T := TX11) (N := 42) hx hb hts iw_X11 hown hR rfl 4 (by decide) mm_947 (Or.inl rfl) ew19 dX11_count_114 ?_
                          refine lv_iload_n hx hb dX11_count_117 rfl (lv_at hl 1 rfl) ?_
                          replace hF := xbind hF; obtain ⟨v20, ev20, hF⟩ := hF
                          refine x_ild (o := w19) hx hb hR ev20 dX11_count_118 ?_
                          refine lv_isub hx hb dX11_count_119 ?_
                          refine lv_icmp_ge (tgt := 125) hx hb dX11_count_120 (by decide) (fun c21 => ?_) (fun c21 => ?_)
                          · replace hF := xift c21 hF
                            refine lv_sipush (v := 601) hx hb dX11_count_125 (by decide) ?_
                            refine lv_iload_n hx hb dX11_count_128 rfl (lv_at hl 1 rfl) ?_
                            refine lv_imul hx hb dX11_count_129 ?_
                            refine lv_iload_n hx hb dX11_count_130 rfl (lv_at hl 3 rfl) ?_
                            refine lv_iadd hx hb dX11_count_131 ?_
                            refine lv_topi (fun v22 ev22 => ?_)
                            replace hF := xlet ev22 hF
                            refine lv_istore (lv' := [(6, .int v22), (0, va_rf (some a0)), (1, .int x1), (2, .int x2), (3, .int x3), (4, .int x4), (5, .int x5)]) hx hb dX11_count_132 hl (by decide) (by first | rfl | (simp [xrf_cat, xcI, xcJ, xcA]; done) | (simp [xrf_cat, xcI, xcJ, xcA]; decide)) (fun ls hl => ?_)
                            refine x_aload_n (o := (some a0)) hx hb dX11_count_134 rfl (lv_at hl 1 rfl) ?_
                            replace hF := xbind hF; obtain ⟨w23, ew23, hF⟩ := hF
                            refine x_getR (o := (some a0)) (ci := 11) (C := RX11) (T := TX11) (N := 42) hx hb hts iw_X11 hown hR rfl 6 (by decide) mm_949 (Or.inl rfl) ew23 dX11_count_135 ?_
                            refine lv_iload hx hb dX11_count_138 (lv_at hl 0 rfl) ?_
                            replace hF := xbind hF; obtain ⟨v24, ev24, hF⟩ := hF
                            refine x_ild (o := w23) hx hb hR ev24 dX11_count_140 ?_
                            refine lv_iload hx hb dX11_count_141 (lv_at hl 5 rfl) ?_
                            refine lv_iadd hx hb dX11_count_143 ?_
                            refine lv_iload hx hb dX11_count_144 (lv_at hl 6 rfl) ?_
                            refine lv_iadd hx hb dX11_count_146 ?_
                            refine x_aload_n (o := (some a0)) hx hb dX11_count_147 rfl (lv_at hl 1 rfl) ?_
                            replace hF := xbind hF; obtain ⟨w25, ew25, hF⟩ := hF
                            refine x_getR (o := (some a0)) (ci := 11) (C := RX11) (T := TX11) (N := 42) hx hb hts iw_X11 hown hR rfl 5 (by decide) mm_948 (Or.inl rfl) ew25 dX11_count_148 ?_
                            refine lv_iload_n hx hb dX11_count_151 rfl (lv_at hl 2 rfl) ?_
                            replace hF := xbind hF; obtain ⟨v26, ev26, hF⟩ := hF
                            refine x_ild (o := w25) hx hb hR ev26 dX11_count_152 ?_
                            refine lv_icmp_le (tgt := 158) hx hb dX11_count_153 (by decide) (fun c27 => ?_) (fun c27 => ?_)
                            · replace hF := xift c27 hF
                              refine x_aload_n (o := (some a0)) hx hb dX11_count_158 rfl (lv_at hl 1 rfl) ?_
                              replace hF := xbind hF; obtain ⟨w28, ew28, hF⟩ := hF
                              refine x_getR (o := (some a0)) (ci := 11) (C := RX11) (T := TX11) (N := 42) hx hb hts iw_X11 hown hR rfl 8 (by decide) mm_951 (Or.inl rfl) ew28 dX11_count_159 ?_
                              refine lv_sipush (v := 200) hx hb dX11_count_162 (by decide) ?_
                              refine lv_iload_n hx hb dX11_count_165 rfl (lv_at hl 2 rfl) ?_
                              refine lv_imul hx hb dX11_count_166 ?_
                              refine lv_iload_n hx hb dX11_count_167 rfl (lv_at hl 3 rfl) ?_
                              refine lv_iadd hx hb dX11_count_168 ?_
                              refine lv_iconst (v := 1) hx hb dX11_count_169 (by decide) ?_
                              replace hF := xbind hF; obtain ⟨h29, eh29, hF⟩ := hF
                              refine x_zst (o := w28) hx hb hR hS eh29 dX11_count_170 (fun H locs hR hS => ?_)
                              refine x_aload_n (o := (some a0)) hx hb dX11_count_171 rfl (lv_at hl 1 rfl) ?_
                              replace hF := xbind hF; obtain ⟨w30, ew30, hF⟩ := hF
                              refine x_getR (o := (some a0)) (ci := 11) (C := RX11) (T := TX11) (N := 42) hx hb hts iw_X11 hown hR rfl 6 (by decide) mm_949 (Or.inl rfl) ew30 dX11_count_172 ?_
                              refine lv_iload hx hb dX11_count_175 (lv_at hl 0 rfl) ?_
                              refine lv_dup2_11 hx hb dX11_count_177 rfl xrf_cat ?_
                              replace hF := xbind hF; obtain ⟨v31, ev31, hF⟩ := hF
                              refine x_ild (o := w30) hx hb hR ev31 dX11_count_178 ?_
                              refine lv_iload hx hb dX11_count_179 (lv_at hl 5 rfl) ?_
                              refine lv_iload hx hb dX11_count_181 (lv_at hl 6 rfl) ?_
                              refine lv_iadd hx hb dX11_count_183 ?_
                              refine lv_iadd hx hb dX11_count_184 ?_
                              replace hF := xbind hF; obtain ⟨h32, eh32, hF⟩ := hF
                              refine x_ist (o := w30) hx hb hR hS eh32 dX11_count_185 (fun H locs hR hS => ?_)
                              refine x_aload_n (o := (some a0)) hx hb dX11_count_186 rfl (lv_at hl 1 rfl) ?_
                              replace hF := xbind hF; obtain ⟨w33, ew33, hF⟩ := hF
                              refine x_getR (o := (some a0)) (ci := 11) (C := RX11) (T := TX11) (N := 42) hx hb hts iw_X11 hown hR rfl 7 (by decide) mm_950 (Or.inl rfl) ew33 dX11_count_187 ?_
                              refine lv_iload hx hb dX11_count_190 (lv_at hl 0 rfl) ?_
                              refine lv_dup2_11 hx hb dX11_count_192 rfl xrf_cat ?_
                              replace hF := xbind hF; obtain ⟨v34, ev34, hF⟩ := hF
                              refine x_ild (o := w33) hx hb hR ev34 dX11_count_193 ?_
                              refine lv_iload hx hb dX11_count_194 (lv_at hl 6 rfl) ?_
                              refine lv_iadd hx hb dX11_count_196 ?_
                              replace hF := xbind hF; obtain ⟨h35, eh35, hF⟩ := hF
                              refine x_ist (o := w33) hx hb hR hS eh35 dX11_count_197 (fun H locs hR hS => ?_)
                              refine x_aload_n (o := (some a0)) hx hb dX11_count_198 rfl (lv_at hl 1 rfl) ?_
                              refine lv_dup hx hb dX11_count_199 xrf_cat ?_
                              replace hF := xbind hF; obtain ⟨v36, ev36, hF⟩ := hF
                              refine x_getI (o := (some a0)) (ci := 11) (C := RX11) (T := TX11) (N := 42) hx hb hts iw_X11 hown hR rfl 10 (by decide) mm_953 (Or.inl rfl) ev36 dX11_count_200 ?_
                              refine lv_iconst (v := 1) hx hb dX11_count_203 (by decide) ?_
                              refine lv_iadd hx hb dX11_count_204 ?_
                              replace hF := xbind hF; obtain ⟨h37, eh37, hF⟩ := hF
                              refine x_put (o := (some a0)) (ci := 11) (C := RX11) (T := TX11) (N := 42) hx hb hts iw_X11 tyX11_ok nmX11 hown hR hS rfl 10 (by decide) mm_953 (Or.inl rfl) rfl rfl rfl eh37 dX11_count_205 (fun H locs hR hS => ?_)
                              refine lv_iconst (v := 0) hx hb dX11_count_208 (by decide) ?_
                              cases hF
                              exact x_iret hx hb hr rfl hlk hR hS (by decide) (by decide) dX11_count_209
                            · replace hF := xiff c27 hF
                              refine lv_iconst (v := 5) hx hb dX11_count_156 (by decide) ?_
                              cases hF
                              exact x_iret hx hb hr rfl hlk hR hS (by decide) (by decide) dX11_count_157
                          · replace hF := xiff c21 hF
                            refine lv_iconst (v := 4) hx hb dX11_count_123 (by decide) ?_
                            cases hF
                            exact x_iret hx hb hr rfl hlk hR hS (by decide) (by decide) dX11_count_124
                        · replace hF := xiff c17 hF
                          refine lv_iconst (v := 3) hx hb dX11_count_106 (by decide) ?_
                          cases hF
                          exact x_iret hx hb hr rfl hlk hR hS (by decide) (by decide) dX11_count_107
                      · replace hF := xiff c15 hF
                        refine x_aload_n (o := (some a0)) hx hb dX11_count_86 rfl (lv_at hl 0 rfl) ?_
                        refine lv_dup hx hb dX11_count_87 xrf_cat ?_
                        replace hF := xbind hF; obtain ⟨v38, ev38, hF⟩ := hF
                        refine x_getI (o := (some a0)) (ci := 11) (C := RX11) (T := TX11) (N := 42) hx hb hts iw_X11 hown hR rfl 11 (by decide) mm_954 (Or.inl rfl) ev38 dX11_count_88 ?_
                        refine lv_iconst (v := 1) hx hb dX11_count_91 (by decide) ?_
                        refine lv_iadd hx hb dX11_count_92 ?_
                        replace hF := xbind hF; obtain ⟨h39, eh39, hF⟩ := hF
                        refine x_put (o := (some a0)) (ci := 11) (C := RX11) (T := TX11) (N := 42) hx hb hts iw_X11 tyX11_ok nmX11 hown hR hS rfl 11 (by decide) mm_954 (Or.inl rfl) rfl rfl rfl eh39 dX11_count_93 (fun H locs hR hS => ?_)
                        refine lv_iconst (v := 2) hx hb dX11_count_96 (by decide) ?_
                        cases hF
                        exact x_iret hx hb hr rfl hlk hR hS (by decide) (by decide) dX11_count_97
                    · replace hF := xiff c12 hF
                      refine lv_iconst (v := 1) hx hb dX11_count_69 (by decide) ?_
                      cases hF
                      exact x_iret hx hb hr rfl hlk hR hS (by decide) (by decide) dX11_count_70
def rm_X11_ticks : Room := { frames := 0, cells := 0, slots := 0, locals := 0 }
theorem f_X11_ticks : xM yX11_ticks cX11_ticks 2 (some .int) 1 := ⟨mm_1094, mm_62, by decide +kernel, by decide +kernel⟩
theorem dX11_ticks_0 : decode cX11_ticks 0 = .ok (.aload_n 0, 1) := by decide +kernel
theorem dX11_ticks_1 : decode cX11_ticks 1 = .ok (.iconst 0, 1) := by decide +kernel
theorem dX11_ticks_2 : decode cX11_ticks 2 = .ok (.putfield 93, 3) := by decide +kernel
theorem dX11_ticks_5 : decode cX11_ticks 5 = .ok (.iload_n 1, 1) := by decide +kernel
theorem dX11_ticks_6 : decode cX11_ticks 6 = .ok (.ifCond .lt 22, 3) := by decide +kernel
theorem dX11_ticks_9 : decode cX11_ticks 9 = .ok (.iload_n 1, 1) := by decide +kernel
theorem dX11_ticks_10 : decode cX11_ticks 10 = .ok (.sipush 600, 3) := by decide +kernel
theorem dX11_ticks_13 : decode cX11_ticks 13 = .ok (.if_icmp .gt 15, 3) := by decide +kernel
theorem dX11_ticks_16 : decode cX11_ticks 16 = .ok (.aload_n 0, 1) := by decide +kernel
theorem dX11_ticks_17 : decode cX11_ticks 17 = .ok (.getfield 110, 3) := by decide +kernel
theorem dX11_ticks_20 : decode cX11_ticks 20 = .ok (.iload_n 1, 1) := by decide +kernel
theorem dX11_ticks_21 : decode cX11_ticks 21 = .ok (.iadd, 1) := by decide +kernel
theorem dX11_ticks_22 : decode cX11_ticks 22 = .ok (.sipush 600, 3) := by decide +kernel
theorem dX11_ticks_25 : decode cX11_ticks 25 = .ok (.if_icmp .le 5, 3) := by decide +kernel
theorem dX11_ticks_28 : decode cX11_ticks 28 = .ok (.iconst (-1), 1) := by decide +kernel
theorem dX11_ticks_29 : decode cX11_ticks 29 = .ok (.ireturn, 1) := by decide +kernel
theorem dX11_ticks_30 : decode cX11_ticks 30 = .ok (.aload_n 0, 1) := by decide +kernel
theorem dX11_ticks_31 : decode cX11_ticks 31 = .ok (.dup, 1) := by decide +kernel
theorem dX11_ticks_32 : decode cX11_ticks 32 = .ok (.getfield 110, 3) := by decide +kernel
theorem dX11_ticks_35 : decode cX11_ticks 35 = .ok (.iload_n 1, 1) := by decide +kernel
theorem dX11_ticks_36 : decode cX11_ticks 36 = .ok (.iadd, 1) := by decide +kernel
theorem dX11_ticks_37 : decode cX11_ticks 37 = .ok (.putfield 110, 3) := by decide +kernel
theorem dX11_ticks_40 : decode cX11_ticks 40 = .ok (.aload_n 0, 1) := by decide +kernel
theorem dX11_ticks_41 : decode cX11_ticks 41 = .ok (.getfield 110, 3) := by decide +kernel
theorem dX11_ticks_44 : decode cX11_ticks 44 = .ok (.ireturn, 1) := by decide +kernel
def F_X11_ticks (G : Nat → Nat) (h : xH) (a0 : Nat) (x1 : Int32) : Option (Int32 × xH) :=
  (xp G h (some a0) 11 0 (.int 0)).bind fun h1 =>
  if x1 < 0 then
    some ((-1), h1)
  else
  if 600 < x1 then
    some ((-1), h1)
  else
  (gI h1 (some a0) 11 9).bind fun v4 =>
  if (v4 + x1) ≤ 600 then
    (gI h1 (some a0) 11 9).bind fun v6 =>
    (xp G h1 (some a0) 11 9 (.int (v6 + x1))).bind fun h7 =>
    (gI h7 (some a0) 11 9).bind fun v8 =>
    some (v8, h7)
  else
  some ((-1), h1)
set_option maxHeartbeats 4000000 in
set_option maxRecDepth 100000 in
theorem t_X11_ticks (l : Launch) (D : va_G) (G : Nat → Nat) (h : xH) (a0 : Nat) (x1 : Int32) (r : Int32) (h' : xH) (hF : F_X11_ticks G h a0 x1 = some (r, h')) : xC l yX11_ticks cX11_ticks 2 (some .int) (rm_X11_ticks) D G h [.ref a0, .int x1] (some (.int r)) h' := by
  refine xC_of (by decide) (by first | decide | exact Nat.le_of_ble_eq_true rfl) ?_
  intro p e s m args below meth c ls hx hb hr hlk hml hown hnm hts hR hS hl
  have hl : lv_has ls 2 [(0, va_rf (some a0)), (1, .int x1)] := hl
  unfold F_X11_ticks at hF
  refine x_aload_n (o := (some a0)) hx hb dX11_ticks_0 rfl (lv_at hl 0 rfl) ?_
  refine lv_iconst (v := 0) hx hb dX11_ticks_1 (by decide) ?_
  replace hF := xbind hF; obtain ⟨h1, eh1, hF⟩ := hF
  refine x_put (o := (some a0)) (ci := 11) (C := RX11) (T := TX11) (N := 42) hx hb hts iw_X11 tyX11_ok nmX11 hown hR hS rfl 0 (by decide) mm_943 (Or.inl rfl) rfl rfl rfl eh1 dX11_ticks_2 (fun H locs hR hS => ?_)
  refine lv_iload_n hx hb dX11_ticks_5 rfl (lv_at hl 1 rfl) ?_
  refine lv_if_lt (tgt := 28) hx hb dX11_ticks_6 (by decide) (fun c2 => ?_) (fun c2 => ?_)
  · replace hF := xift c2 hF
    refine lv_iconst (v := (-1)) hx hb dX11_ticks_28 (by decide) ?_
    cases hF
    exact x_iret hx hb hr rfl hlk hR hS (by decide) (by decide) dX11_ticks_29
  · replace hF := xiff c2 hF
    refine lv_iload_n hx hb dX11_ticks_9 rfl (lv_at hl 1 rfl) ?_
    refine lv_sipush (v := 600) hx hb dX11_ticks_10 (by decide) ?_
    refine lv_icmp_gt (tgt := 28) hx hb dX11_ticks_13 (by decide) (fun c3 => ?_) (fun c3 => ?_)
    · replace hF := xift c3 hF
      refine lv_iconst (v := (-1)) hx hb dX11_ticks_28 (by decide) ?_
      cases hF
      exact x_iret hx hb hr rfl hlk hR hS (by decide) (by decide) dX11_ticks_29
    · replace hF := xiff c3 hF
      refine x_aload_n (o := (some a0)) hx hb dX11_ticks_16 rfl (lv_at hl 0 rfl) ?_
      replace hF := xbind hF; obtain ⟨v4, ev4, hF⟩ := hF
      refine x_getI (o := (some a0)) (ci := 11) (C := RX11) (T := TX11) (N := 42) hx hb hts iw_X11 hown hR rfl 9 (by decide) mm_952 (Or.inl rfl) ev4 dX11_ticks_17 ?_
      refine lv_iload_n hx hb dX11_ticks_20 rfl (lv_at hl 1 rfl) ?_
      refine lv_iadd hx hb dX11_ticks_21 ?_
      refine lv_sipush (v := 600) hx hb dX11_ticks_22 (by decide) ?_
      refine lv_icmp_le (tgt := 30) hx hb dX11_ticks_25 (by decide) (fun c5 => ?_) (fun c5 => ?_)
      · replace hF := xift c5 hF
        refine x_aload_n (o := (some a0)) hx hb dX11_ticks_30 rfl (lv_at hl 0 rfl) ?_
        refine lv_dup hx hb dX11_ticks_31 xrf_cat ?_
        replace hF := xbind hF; obtain ⟨v6, ev6, hF⟩ := hF
        refine x_getI (o := (some a0)) (ci := 11) (C := RX11) (T := TX11) (N := 42) hx hb hts iw_X11 hown hR rfl 9 (by decide) mm_952 (Or.inl rfl) ev6 dX11_ticks_32 ?_
        refine lv_iload_n hx hb dX11_ticks_35 rfl (lv_at hl 1 rfl) ?_
        refine lv_iadd hx hb dX11_ticks_36 ?_
        replace hF := xbind hF; obtain ⟨h7, eh7, hF⟩ := hF
        refine x_put (o := (some a0)) (ci := 11) (C := RX11) (T := TX11) (N := 42) hx hb hts iw_X11 tyX11_ok nmX11 hown hR hS rfl 9 (by decide) mm_952 (Or.inl rfl) rfl rfl rfl eh7 dX11_ticks_37 (fun H locs hR hS => ?_)
        refine x_aload_n (o := (some a0)) hx hb dX11_ticks_40 rfl (lv_at hl 0 rfl) ?_
        replace hF := xbind hF; obtain ⟨v8, ev8, hF⟩ := hF
        refine x_getI (o := (some a0)) (ci := 11) (C := RX11) (T := TX11) (N := 42) hx hb hts iw_X11 hown hR rfl 9 (by decide) mm_952 (Or.inl rfl) ev8 dX11_ticks_41 ?_
        cases hF
        exact x_iret hx hb hr rfl hlk hR hS (by decide) (by decide) dX11_ticks_44
      · replace hF := xiff c5 hF
        refine lv_iconst (v := (-1)) hx hb dX11_ticks_28 (by decide) ?_
        cases hF
        exact x_iret hx hb hr rfl hlk hR hS (by decide) (by decide) dX11_ticks_29
def rm_X11_addTick : Room := { frames := 0, cells := 0, slots := 0, locals := 0 }
theorem f_X11_addTick : xM yX11_addTick cX11_addTick 4 none 2 := ⟨mm_1106, mm_62, by decide +kernel, by decide +kernel⟩
theorem dX11_addTick_0 : decode cX11_addTick 0 = .ok (.iconst 0, 1) := by decide +kernel
theorem dX11_addTick_1 : decode cX11_addTick 1 = .ok (.istore_n 3, 1) := by decide +kernel
theorem dX11_addTick_2 : decode cX11_addTick 2 = .ok (.iload_n 3, 1) := by decide +kernel
theorem dX11_addTick_3 : decode cX11_addTick 3 = .ok (.aload_n 0, 1) := by decide +kernel
theorem dX11_addTick_4 : decode cX11_addTick 4 = .ok (.getfield 104, 3) := by decide +kernel
theorem dX11_addTick_7 : decode cX11_addTick 7 = .ok (.if_icmp .ge 111, 3) := by decide +kernel
theorem dX11_addTick_10 : decode cX11_addTick 10 = .ok (.aload_n 0, 1) := by decide +kernel
theorem dX11_addTick_11 : decode cX11_addTick 11 = .ok (.getfield 7, 3) := by decide +kernel
theorem dX11_addTick_14 : decode cX11_addTick 14 = .ok (.iload_n 3, 1) := by decide +kernel
theorem dX11_addTick_15 : decode cX11_addTick 15 = .ok (.iaload, 1) := by decide +kernel
theorem dX11_addTick_16 : decode cX11_addTick 16 = .ok (.iload_n 1, 1) := by decide +kernel
theorem dX11_addTick_17 : decode cX11_addTick 17 = .ok (.if_icmp .ne 95, 3) := by decide +kernel
theorem dX11_addTick_20 : decode cX11_addTick 20 = .ok (.aload_n 0, 1) := by decide +kernel
theorem dX11_addTick_21 : decode cX11_addTick 21 = .ok (.dup, 1) := by decide +kernel
theorem dX11_addTick_22 : decode cX11_addTick 22 = .ok (.getfield 116, 3) := by decide +kernel
theorem dX11_addTick_25 : decode cX11_addTick 25 = .ok (.aload_n 0, 1) := by decide +kernel
theorem dX11_addTick_26 : decode cX11_addTick 26 = .ok (.getfield 19, 3) := by decide +kernel
theorem dX11_addTick_29 : decode cX11_addTick 29 = .ok (.sipush 601, 3) := by decide +kernel
theorem dX11_addTick_32 : decode cX11_addTick 32 = .ok (.iload_n 3, 1) := by decide +kernel
theorem dX11_addTick_33 : decode cX11_addTick 33 = .ok (.imul, 1) := by decide +kernel
theorem dX11_addTick_34 : decode cX11_addTick 34 = .ok (.iload_n 2, 1) := by decide +kernel
theorem dX11_addTick_35 : decode cX11_addTick 35 = .ok (.iadd, 1) := by decide +kernel
theorem dX11_addTick_36 : decode cX11_addTick 36 = .ok (.iaload, 1) := by decide +kernel
theorem dX11_addTick_37 : decode cX11_addTick 37 = .ok (.i2l, 1) := by decide +kernel
theorem dX11_addTick_38 : decode cX11_addTick 38 = .ok (.ladd, 1) := by decide +kernel
theorem dX11_addTick_39 : decode cX11_addTick 39 = .ok (.putfield 116, 3) := by decide +kernel
theorem dX11_addTick_42 : decode cX11_addTick 42 = .ok (.aload_n 0, 1) := by decide +kernel
theorem dX11_addTick_43 : decode cX11_addTick 43 = .ok (.dup, 1) := by decide +kernel
theorem dX11_addTick_44 : decode cX11_addTick 44 = .ok (.getfield 120, 3) := by decide +kernel
theorem dX11_addTick_47 : decode cX11_addTick 47 = .ok (.aload_n 0, 1) := by decide +kernel
theorem dX11_addTick_48 : decode cX11_addTick 48 = .ok (.getfield 22, 3) := by decide +kernel
theorem dX11_addTick_51 : decode cX11_addTick 51 = .ok (.sipush 601, 3) := by decide +kernel
theorem dX11_addTick_54 : decode cX11_addTick 54 = .ok (.iload_n 3, 1) := by decide +kernel
theorem dX11_addTick_55 : decode cX11_addTick 55 = .ok (.imul, 1) := by decide +kernel
theorem dX11_addTick_56 : decode cX11_addTick 56 = .ok (.iload_n 2, 1) := by decide +kernel
theorem dX11_addTick_57 : decode cX11_addTick 57 = .ok (.iadd, 1) := by decide +kernel
theorem dX11_addTick_58 : decode cX11_addTick 58 = .ok (.iaload, 1) := by decide +kernel
theorem dX11_addTick_59 : decode cX11_addTick 59 = .ok (.i2l, 1) := by decide +kernel
theorem dX11_addTick_60 : decode cX11_addTick 60 = .ok (.ladd, 1) := by decide +kernel
theorem dX11_addTick_61 : decode cX11_addTick 61 = .ok (.putfield 120, 3) := by decide +kernel
theorem dX11_addTick_64 : decode cX11_addTick 64 = .ok (.aload_n 0, 1) := by decide +kernel
theorem dX11_addTick_65 : decode cX11_addTick 65 = .ok (.dup, 1) := by decide +kernel
theorem dX11_addTick_66 : decode cX11_addTick 66 = .ok (.getfield 123, 3) := by decide +kernel
theorem dX11_addTick_69 : decode cX11_addTick 69 = .ok (.iload_n 2, 1) := by decide +kernel
theorem dX11_addTick_70 : decode cX11_addTick 70 = .ok (.aload_n 0, 1) := by decide +kernel
theorem dX11_addTick_71 : decode cX11_addTick 71 = .ok (.getfield 110, 3) := by decide +kernel
theorem dX11_addTick_74 : decode cX11_addTick 74 = .ok (.aload_n 0, 1) := by decide +kernel
theorem dX11_addTick_75 : decode cX11_addTick 75 = .ok (.getfield 13, 3) := by decide +kernel
theorem dX11_addTick_78 : decode cX11_addTick 78 = .ok (.iload_n 3, 1) := by decide +kernel
theorem dX11_addTick_79 : decode cX11_addTick 79 = .ok (.iaload, 1) := by decide +kernel
theorem dX11_addTick_80 : decode cX11_addTick 80 = .ok (.isub, 1) := by decide +kernel
theorem dX11_addTick_81 : decode cX11_addTick 81 = .ok (.if_icmp .lt 26, 3) := by decide +kernel
theorem dX11_addTick_84 : decode cX11_addTick 84 = .ok (.aload_n 0, 1) := by decide +kernel
theorem dX11_addTick_85 : decode cX11_addTick 85 = .ok (.getfield 16, 3) := by decide +kernel
theorem dX11_addTick_88 : decode cX11_addTick 88 = .ok (.iload_n 3, 1) := by decide +kernel
theorem dX11_addTick_89 : decode cX11_addTick 89 = .ok (.iaload, 1) := by decide +kernel
theorem dX11_addTick_90 : decode cX11_addTick 90 = .ok (.aload_n 0, 1) := by decide +kernel
theorem dX11_addTick_91 : decode cX11_addTick 91 = .ok (.getfield 19, 3) := by decide +kernel
theorem dX11_addTick_94 : decode cX11_addTick 94 = .ok (.sipush 601, 3) := by decide +kernel
theorem dX11_addTick_97 : decode cX11_addTick 97 = .ok (.iload_n 3, 1) := by decide +kernel
theorem dX11_addTick_98 : decode cX11_addTick 98 = .ok (.imul, 1) := by decide +kernel
theorem dX11_addTick_99 : decode cX11_addTick 99 = .ok (.iload_n 2, 1) := by decide +kernel
theorem dX11_addTick_100 : decode cX11_addTick 100 = .ok (.iadd, 1) := by decide +kernel
theorem dX11_addTick_101 : decode cX11_addTick 101 = .ok (.iaload, 1) := by decide +kernel
theorem dX11_addTick_102 : decode cX11_addTick 102 = .ok (.isub, 1) := by decide +kernel
theorem dX11_addTick_103 : decode cX11_addTick 103 = .ok (.i2l, 1) := by decide +kernel
theorem dX11_addTick_104 : decode cX11_addTick 104 = .ok (.goto 4, 3) := by decide +kernel
theorem dX11_addTick_107 : decode cX11_addTick 107 = .ok (.lconst 0, 1) := by decide +kernel
theorem dX11_addTick_108 : decode cX11_addTick 108 = .ok (.ladd, 1) := by decide +kernel
theorem dX11_addTick_109 : decode cX11_addTick 109 = .ok (.putfield 123, 3) := by decide +kernel
theorem dX11_addTick_112 : decode cX11_addTick 112 = .ok (.iinc 3 1, 3) := by decide +kernel
theorem dX11_addTick_115 : decode cX11_addTick 115 = .ok (.goto (-113), 3) := by decide +kernel
theorem dX11_addTick_118 : decode cX11_addTick 118 = .ok (.return_, 1) := by decide +kernel
def F_X11_addTick_2 (G : Nat → Nat) (a0 : Nat) (x1 : Int32) (x2 : Int32) : Nat → xH → Int32 → Option xH
  | 0, _, _ => none
  | n + 1, h, x3 =>
    (gI h (some a0) 11 2).bind fun v1 =>
    if v1 ≤ x3 then
      some h
    else
    (gR h (some a0) 11 3).bind fun w3 =>
    (ldI 2 G h w3 x3).bind fun v4 =>
    if v4 = x1 then
      (gJ h (some a0) 11 12).bind fun v7 =>
      (gR h (some a0) 11 6).bind fun w8 =>
      (ldI 2 G h w8 ((601 * x3) + x2)).bind fun v9 =>
      (xp G h (some a0) 11 12 (.long (v7 + ((v9 : Int32).toInt64)))).bind fun h10 =>
      (gJ h10 (some a0) 11 13).bind fun v11 =>
      (gR h10 (some a0) 11 7).bind fun w12 =>
      (ldI 2 G h10 w12 ((601 * x3) + x2)).bind fun v13 =>
      (xp G h10 (some a0) 11 13 (.long (v11 + ((v13 : Int32).toInt64)))).bind fun h14 =>
      (gJ h14 (some a0) 11 14).bind fun v15 =>
      (gI h14 (some a0) 11 9).bind fun v16 =>
      (gR h14 (some a0) 11 4).bind fun w17 =>
      (ldI 2 G h14 w17 x3).bind fun v18 =>
      if x2 < (v16 - v18) then
        (xp G h14 (some a0) 11 14 (.long (v15 + 0))).bind fun h20 =>
        xl (x3 + 1) fun v21 =>
        F_X11_addTick_2 G a0 x1 x2 n h20 v21
      else
      (gR h14 (some a0) 11 5).bind fun w22 =>
      (ldI 2 G h14 w22 x3).bind fun v23 =>
      (gR h14 (some a0) 11 6).bind fun w24 =>
      (ldI 2 G h14 w24 ((601 * x3) + x2)).bind fun v25 =>
      (xp G h14 (some a0) 11 14 (.long (v15 + (((v23 - v25) : Int32).toInt64)))).bind fun h26 =>
      xl (x3 + 1) fun v27 =>
      F_X11_addTick_2 G a0 x1 x2 n h26 v27
    else
    xl (x3 + 1) fun v6 =>
    F_X11_addTick_2 G a0 x1 x2 n h v6
set_option maxHeartbeats 4000000 in
set_option maxRecDepth 100000 in
theorem tl_X11_addTick_2 {p : Program} {l : Launch} {e : Env} {s : State} {m : MethodId} {args : Array Value} {below : List Frame} {meth : Method} {c : Code} {D : va_G} {h' : xH} (hx : p.tables.exec = Jvm.exec) (hb : c.code = cX11_addTick) (hr : meth.sig.returnType = none) (hlk : meth.locks = false) (hml : c.maxLocals = 4) (hown : s.vm.findClass RX11 = some m.cls) (hnm : meth.name = "addTick") (hts : ∀ w ∈ xt, w.before args s = true) (G : Nat → Nat) (a0 : Nat) (x1 : Int32) (x2 : Int32) : ∀ (n : Nat) (h : xH) (x3 : Int32) (H : Heap) (locs : List Loc) (ls : Array Slot), F_X11_addTick_2 G a0 x1 x2 n h x3 = some h' → xR D G h s H → va_S (xA G) s.heap H locs → lv_has ls 4 [(0, va_rf (some a0)), (1, .int x1), (2, .int x2), (3, .int x3)] → W p l e rm_X11_addTick s m args below meth c H locs 0 0 (MQ below (xQ D G none h') args s rm_X11_addTick.cells rm_X11_addTick.slots (xA G)) (F0 m 2 ls []) := by
  intro n
  induction n with
  | zero =>
    intro h x3 H locs ls hF
    rw [F_X11_addTick_2.eq_1] at hF
    cases hF
  | succ n ih =>
    intro h x3 H locs ls hF hR hS hl
    rw [F_X11_addTick_2.eq_2] at hF
    refine lv_iload_n hx hb dX11_addTick_2 rfl (lv_at hl 3 rfl) ?_
    refine x_aload_n (o := (some a0)) hx hb dX11_addTick_3 rfl (lv_at hl 0 rfl) ?_
    replace hF := xbind hF; obtain ⟨v1, ev1, hF⟩ := hF
    refine x_getI (o := (some a0)) (ci := 11) (C := RX11) (T := TX11) (N := 42) hx hb hts iw_X11 hown hR rfl 2 (by decide) mm_945 (Or.inl rfl) ev1 dX11_addTick_4 ?_
    refine lv_icmp_ge (tgt := 118) hx hb dX11_addTick_7 (by decide) (fun c2 => ?_) (fun c2 => ?_)
    · replace hF := xift c2 hF
      cases hF
      exact x_vret hx hb hr hlk hR hS (by decide) (by decide) dX11_addTick_118
    · replace hF := xiff c2 hF
      refine x_aload_n (o := (some a0)) hx hb dX11_addTick_10 rfl (lv_at hl 0 rfl) ?_
      replace hF := xbind hF; obtain ⟨w3, ew3, hF⟩ := hF
      refine x_getR (o := (some a0)) (ci := 11) (C := RX11) (T := TX11) (N := 42) hx hb hts iw_X11 hown hR rfl 3 (by decide) mm_946 (Or.inl rfl) ew3 dX11_addTick_11 ?_
      refine lv_iload_n hx hb dX11_addTick_14 rfl (lv_at hl 3 rfl) ?_
      replace hF := xbind hF; obtain ⟨v4, ev4, hF⟩ := hF
      refine x_ild (o := w3) hx hb hR ev4 dX11_addTick_15 ?_
      refine lv_iload_n hx hb dX11_addTick_16 rfl (lv_at hl 1 rfl) ?_
      refine lv_icmp_ne (tgt := 112) hx hb dX11_addTick_17 (by decide) (fun c5 => ?_) (fun c5 => ?_)
      · replace hF := xiff c5 hF
        obtain ⟨v6, ev6⟩ : ∃ z : Int32, z = (x3 + 1) := ⟨_, rfl⟩
        replace hF := xlet ev6 hF
        refine lv_iinc (v := v6) (lv' := [(3, .int v6), (0, va_rf (some a0)), (1, .int x1), (2, .int x2)]) hx hb dX11_addTick_112 hl (k := 3) rfl (by rw [ev6]; rfl) (by decide) (by first | rfl | (simp [xrf_cat, xcI, xcJ, xcA]; done) | (simp [xrf_cat, xcI, xcJ, xcA]; decide)) (fun ls hl => ?_)
        refine lv_goto (tgt := 2) hx hb dX11_addTick_115 (by decide) ?_
        exact ih h v6 _ _ _ hF hR hS (lv_sub hl [1, 2, 3, 0] rfl)
      · replace hF := xift c5 hF
        refine x_aload_n (o := (some a0)) hx hb dX11_addTick_20 rfl (lv_at hl 0 rfl) ?_
        refine lv_dup hx hb dX11_addTick_21 xrf_cat ?_
        replace hF := xbind hF; obtain ⟨v7, ev7, hF⟩ := hF
        refine x_getJ (o := (some a0)) (ci := 11) (C := RX11) (T := TX11) (N := 42) hx hb hts iw_X11 hown hR rfl 12 (by decide) mm_955 (Or.inl rfl) ev7 dX11_addTick_22 ?_
        refine x_aload_n (o := (some a0)) hx hb dX11_addTick_25 rfl (lv_at hl 0 rfl) ?_
        replace hF := xbind hF; obtain ⟨w8, ew8, hF⟩ := hF
        refine x_getR (o := (some a0)) (ci := 11) (C := RX11) (T := TX11) (N := 42) hx hb hts iw_X11 hown hR rfl 6 (by decide) mm_949 (Or.inl rfl) ew8 dX11_addTick_26 ?_
        refine lv_sipush (v := 601) hx hb dX11_addTick_29 (by decide) ?_
        refine lv_iload_n hx hb dX11_addTick_32 rfl (lv_at hl 3 rfl) ?_
        refine lv_imul hx hb dX11_addTick_33 ?_
        refine lv_iload_n hx hb dX11_addTick_34 rfl (lv_at hl 2 rfl) ?_
        refine lv_iadd hx hb dX11_addTick_35 ?_
        replace hF := xbind hF; obtain ⟨v9, ev9, hF⟩ := hF
        refine x_ild (o := w8) hx hb hR ev9 dX11_addTick_36 ?_
        refine lv_i2l (v := ((v9 : Int32).toInt64)) hx hb dX11_addTick_37 rfl ?_
        refine lv_ladd hx hb dX11_addTick_38 ?_
        replace hF := xbind hF; obtain ⟨h10, eh10, hF⟩ := hF
        refine x_put (o := (some a0)) (ci := 11) (C := RX11) (T := TX11) (N := 42) hx hb hts iw_X11 tyX11_ok nmX11 hown hR hS rfl 12 (by decide) mm_955 (Or.inl rfl) rfl rfl rfl eh10 dX11_addTick_39 (fun H locs hR hS => ?_)
        refine x_aload_n (o := (some a0)) hx hb dX11_addTick_42 rfl (lv_at hl 0 rfl) ?_
        refine lv_dup hx hb dX11_addTick_43 xrf_cat ?_
        replace hF := xbind hF; obtain ⟨v11, ev11, hF⟩ := hF
        refine x_getJ (o := (some a0)) (ci := 11) (C := RX11) (T := TX11) (N := 42) hx hb hts iw_X11 hown hR rfl 13 (by decide) mm_956 (Or.inl rfl) ev11 dX11_addTick_44 ?_
        refine x_aload_n (o := (some a0)) hx hb dX11_addTick_47 rfl (lv_at hl 0 rfl) ?_
        replace hF := xbind hF; obtain ⟨w12, ew12, hF⟩ := hF
        refine x_getR (o := (some a0)) (ci := 11) (C := RX11) (T := TX11) (N := 42) hx hb hts iw_X11 hown hR rfl 7 (by decide) mm_950 (Or.inl rfl) ew12 dX11_addTick_48 ?_
        refine lv_sipush (v := 601) hx hb dX11_addTick_51 (by decide) ?_
        refine lv_iload_n hx hb dX11_addTick_54 rfl (lv_at hl 3 rfl) ?_
        refine lv_imul hx hb dX11_addTick_55 ?_
        refine lv_iload_n hx hb dX11_addTick_56 rfl (lv_at hl 2 rfl) ?_
        refine lv_iadd hx hb dX11_addTick_57 ?_
        replace hF := xbind hF; obtain ⟨v13, ev13, hF⟩ := hF
        refine x_ild (o := w12) hx hb hR ev13 dX11_addTick_58 ?_
        refine lv_i2l (v := ((v13 : Int32).toInt64)) hx hb dX11_addTick_59 rfl ?_
        refine lv_ladd hx hb dX11_addTick_60 ?_
        replace hF := xbind hF; obtain ⟨h14, eh14, hF⟩ := hF
        refine x_put (o := (some a0)) (ci := 11) (C := RX11) (T := TX11) (N := 42) hx hb hts iw_X11 tyX11_ok nmX11 hown hR hS rfl 13 (by decide) mm_956 (Or.inl rfl) rfl rfl rfl eh14 dX11_addTick_61 (fun H locs hR hS => ?_)
        refine x_aload_n (o := (some a0)) hx hb dX11_addTick_64 rfl (lv_at hl 0 rfl) ?_
        refine lv_dup hx hb dX11_addTick_65 xrf_cat ?_
        replace hF := xbind hF; obtain ⟨v15, ev15, hF⟩ := hF
        refine x_getJ (o := (some a0)) (ci := 11) (C := RX11) (T := TX11) (N := 42) hx hb hts iw_X11 hown hR rfl 14 (by decide) mm_957 (Or.inl rfl) ev15 dX11_addTick_66 ?_
        refine lv_iload_n hx hb dX11_addTick_69 rfl (lv_at hl 2 rfl) ?_
        refine x_aload_n (o := (some a0)) hx hb dX11_addTick_70 rfl (lv_at hl 0 rfl) ?_
        replace hF := xbind hF; obtain ⟨v16, ev16, hF⟩ := hF
        refine x_getI (o := (some a0)) (ci := 11) (C := RX11) (T := TX11) (N := 42) hx hb hts iw_X11 hown hR rfl 9 (by decide) mm_952 (Or.inl rfl) ev16 dX11_addTick_71 ?_
        refine x_aload_n (o := (some a0)) hx hb dX11_addTick_74 rfl (lv_at hl 0 rfl) ?_
        replace hF := xbind hF; obtain ⟨w17, ew17, hF⟩ := hF
        refine x_getR (o := (some a0)) (ci := 11) (C := RX11) (T := TX11) (N := 42) hx hb hts iw_X11 hown hR rfl 4 (by decide) mm_947 (Or.inl rfl) ew17 dX11_addTick_75 ?_
        refine lv_iload_n hx hb dX11_addTick_78 rfl (lv_at hl 3 rfl) ?_
        replace hF := xbind hF; obtain ⟨v18, ev18, hF⟩ := hF
        refine x_ild (o := w17) hx hb hR ev18 dX11_addTick_79 ?_
        refine lv_isub hx hb dX11_addTick_80 ?_
        refine lv_icmp_lt (tgt := 107) hx hb dX11_addTick_81 (by decide) (fun c19 => ?_) (fun c19 => ?_)
        · replace hF := xift c19 hF
          refine lv_lconst (v := 0) hx hb dX11_addTick_107 (by decide) ?_
          refine lv_ladd hx hb dX11_addTick_108 ?_
          replace hF := xbind hF; obtain ⟨h20, eh20, hF⟩ := hF
          refine x_put (o := (some a0)) (ci := 11) (C := RX11) (T := TX11) (N := 42) hx hb hts iw_X11 tyX11_ok nmX11 hown hR hS rfl 14 (by decide) mm_957 (Or.inl rfl) rfl rfl rfl eh20 dX11_addTick_109 (fun H locs hR hS => ?_)
          obtain ⟨v21, ev21⟩ : ∃ z : Int32, z = (x3 + 1) := ⟨_, rfl⟩
          replace hF := xlet ev21 hF
          refine lv_iinc (v := v21) (lv' := [(3, .int v21), (0, va_rf (some a0)), (1, .int x1), (2, .int x2)]) hx hb dX11_addTick_112 hl (k := 3) rfl (by rw [ev21]; rfl) (by decide) (by first | rfl | (simp [xrf_cat, xcI, xcJ, xcA]; done) | (simp [xrf_cat, xcI, xcJ, xcA]; decide)) (fun ls hl => ?_)
          refine lv_goto (tgt := 2) hx hb dX11_addTick_115 (by decide) ?_
          exact ih h20 v21 _ _ _ hF hR hS (lv_sub hl [1, 2, 3, 0] rfl)
        · replace hF := xiff c19 hF
          refine x_aload_n (o := (some a0)) hx hb dX11_addTick_84 rfl (lv_at hl 0 rfl) ?_
          replace hF := xbind hF; obtain ⟨w22, ew22, hF⟩ := hF
          refine x_getR (o := (some a0)) (ci := 11) (C := RX11) (T := TX11) (N := 42) hx hb hts iw_X11 hown hR rfl 5 (by decide) mm_948 (Or.inl rfl) ew22 dX11_addTick_85 ?_
          refine lv_iload_n hx hb dX11_addTick_88 rfl (lv_at hl 3 rfl) ?_
          replace hF := xbind hF; obtain ⟨v23, ev23, hF⟩ := hF
          refine x_ild (o := w22) hx hb hR ev23 dX11_addTick_89 ?_
          refine x_aload_n (o := (some a0)) hx hb dX11_addTick_90 rfl (lv_at hl 0 rfl) ?_
          replace hF := xbind hF; obtain ⟨w24, ew24, hF⟩ := hF
          refine x_getR (o := (some a0)) (ci := 11) (C := RX11) (T := TX11) (N := 42) hx hb hts iw_X11 hown hR rfl 6 (by decide) mm_949 (Or.inl rfl) ew24 dX11_addTick_91 ?_
          refine lv_sipush (v := 601) hx hb dX11_addTick_94 (by decide) ?_
          refine lv_iload_n hx hb dX11_addTick_97 rfl (lv_at hl 3 rfl) ?_
          refine lv_imul hx hb dX11_addTick_98 ?_
          refine lv_iload_n hx hb dX11_addTick_99 rfl (lv_at hl 2 rfl) ?_
          refine lv_iadd hx hb dX11_addTick_100 ?_
          replace hF := xbind hF; obtain ⟨v25, ev25, hF⟩ := hF
          refine x_ild (o := w24) hx hb hR ev25 dX11_addTick_101 ?_
          refine lv_isub hx hb dX11_addTick_102 ?_
          refine lv_i2l (v := (((v23 - v25) : Int32).toInt64)) hx hb dX11_addTick_103 rfl ?_
          refine lv_goto (tgt := 108) hx hb dX11_addTick_104 (by decide) ?_
          refine lv_ladd hx hb dX11_addTick_108 ?_
          replace hF := xbind hF; obtain ⟨h26, eh26, hF⟩ := hF
          refine x_put (o := (some a0)) (ci := 11) (C := RX11) (T := TX11) (N := 42) hx hb hts iw_X11 tyX11_ok nmX11 hown hR hS rfl 14 (by decide) mm_957 (Or.inl rfl) rfl rfl rfl eh26 dX11_addTick_109 (fun H locs hR hS => ?_)
          obtain ⟨v27, ev27⟩ : ∃ z : Int32, z = (x3 + 1) := ⟨_, rfl⟩
          replace hF := xlet ev27 hF
          refine lv_iinc (v := v27) (lv' := [(3, .int v27), (0, va_rf (some a0)), (1, .int x1), (2, .int x2)]) hx hb dX11_addTick_112 hl (k := 3) rfl (by rw [ev27]; rfl) (by decide) (by first | rfl | (simp [xrf_cat, xcI, xcJ, xcA]; done) | (simp [xrf_cat, xcI, xcJ, xcA]; decide)) (fun ls hl => ?_)
          refine lv_goto (tgt := 2) hx hb dX11_addTick_115 (by decide) ?_
          exact ih h26 v27 _ _ _ hF hR hS (lv_sub hl [1, 2, 3, 0] rfl)
def F_X11_addTick (G : Nat → Nat) (h : xH) (a0 : Nat) (x1 : Int32) (x2 : Int32) : Option xH :=
  F_X11_addTick_2 G a0 x1 x2 xN h 0
set_option maxHeartbeats 4000000 in
set_option maxRecDepth 100000 in
theorem t_X11_addTick (l : Launch) (D : va_G) (G : Nat → Nat) (h : xH) (a0 : Nat) (x1 : Int32) (x2 : Int32) (h' : xH) (hF : F_X11_addTick G h a0 x1 x2 = some h') : xC l yX11_addTick cX11_addTick 4 none (rm_X11_addTick) D G h [.ref a0, .int x1, .int x2] none h' := by
  refine xC_of (by decide) (by first | decide | exact Nat.le_of_ble_eq_true rfl) ?_
  intro p e s m args below meth c ls hx hb hr hlk hml hown hnm hts hR hS hl
  have hl : lv_has ls 4 [(0, va_rf (some a0)), (1, .int x1), (2, .int x2)] := hl
  unfold F_X11_addTick at hF
  refine lv_iconst (v := 0) hx hb dX11_addTick_0 (by decide) ?_
  refine lv_istore_n (lv' := [(3, .int 0), (0, va_rf (some a0)), (1, .int x1), (2, .int x2)]) hx hb dX11_addTick_1 rfl hl (by decide) (by first | rfl | (simp [xrf_cat, xcI, xcJ, xcA]; done) | (simp [xrf_cat, xcI, xcJ, xcA]; decide)) (fun ls hl => ?_)
  refine W.widen (k := 0) (n := 0) (by decide) (by decide) ?_
  exact tl_X11_addTick_2 hx hb hr hlk hml hown hnm hts G a0 x1 x2 _ h 0 _ _ _ hF hR hS (lv_sub hl [1, 2, 3, 0] rfl)
def rm_X11_sums : Room := { frames := 1, cells := 0, slots := 0, locals := 23 }
theorem f_X11_sums : xM yX11_sums cX11_sums 5 none 3 := ⟨mm_1102, mm_62, by decide +kernel, by decide +kernel⟩
theorem dX11_sums_0 : decode cX11_sums 0 = .ok (.aload_n 0, 1) := by decide +kernel
theorem dX11_sums_1 : decode cX11_sums 1 = .ok (.lconst 0, 1) := by decide +kernel
theorem dX11_sums_2 : decode cX11_sums 2 = .ok (.putfield 116, 3) := by decide +kernel
theorem dX11_sums_5 : decode cX11_sums 5 = .ok (.aload_n 0, 1) := by decide +kernel
theorem dX11_sums_6 : decode cX11_sums 6 = .ok (.lconst 0, 1) := by decide +kernel
theorem dX11_sums_7 : decode cX11_sums 7 = .ok (.putfield 120, 3) := by decide +kernel
theorem dX11_sums_10 : decode cX11_sums 10 = .ok (.aload_n 0, 1) := by decide +kernel
theorem dX11_sums_11 : decode cX11_sums 11 = .ok (.lconst 0, 1) := by decide +kernel
theorem dX11_sums_12 : decode cX11_sums 12 = .ok (.putfield 123, 3) := by decide +kernel
theorem dX11_sums_15 : decode cX11_sums 15 = .ok (.iload_n 2, 1) := by decide +kernel
theorem dX11_sums_16 : decode cX11_sums 16 = .ok (.ifCond .ge 7, 3) := by decide +kernel
theorem dX11_sums_19 : decode cX11_sums 19 = .ok (.iconst 0, 1) := by decide +kernel
theorem dX11_sums_20 : decode cX11_sums 20 = .ok (.goto 4, 3) := by decide +kernel
theorem dX11_sums_23 : decode cX11_sums 23 = .ok (.iload_n 2, 1) := by decide +kernel
theorem dX11_sums_24 : decode cX11_sums 24 = .ok (.istore 4, 2) := by decide +kernel
theorem dX11_sums_26 : decode cX11_sums 26 = .ok (.iload 4, 2) := by decide +kernel
theorem dX11_sums_28 : decode cX11_sums 28 = .ok (.iload_n 3, 1) := by decide +kernel
theorem dX11_sums_29 : decode cX11_sums 29 = .ok (.if_icmp .gt 16, 3) := by decide +kernel
theorem dX11_sums_32 : decode cX11_sums 32 = .ok (.aload_n 0, 1) := by decide +kernel
theorem dX11_sums_33 : decode cX11_sums 33 = .ok (.iload_n 1, 1) := by decide +kernel
theorem dX11_sums_34 : decode cX11_sums 34 = .ok (.iload 4, 2) := by decide +kernel
theorem dX11_sums_36 : decode cX11_sums 36 = .ok (.invokevirtual 126, 3) := by decide +kernel
theorem dX11_sums_39 : decode cX11_sums 39 = .ok (.iinc 4 1, 3) := by decide +kernel
theorem dX11_sums_42 : decode cX11_sums 42 = .ok (.goto (-16), 3) := by decide +kernel
theorem dX11_sums_45 : decode cX11_sums 45 = .ok (.return_, 1) := by decide +kernel
def F_X11_sums_26 (G : Nat → Nat) (a0 : Nat) (x1 : Int32) (x3 : Int32) : Nat → xH → Int32 → Option xH
  | 0, _, _ => none
  | n + 1, h, x4 =>
    if x3 < x4 then
      some h
    else
    (xc h (some a0) 11).bind fun b7 =>
    (F_X11_addTick G h b7 x1 x4).bind fun h6 =>
    xl (x4 + 1) fun v8 =>
    F_X11_sums_26 G a0 x1 x3 n h6 v8
set_option maxHeartbeats 4000000 in
set_option maxRecDepth 100000 in
theorem tl_X11_sums_26 {p : Program} {l : Launch} {e : Env} {s : State} {m : MethodId} {args : Array Value} {below : List Frame} {meth : Method} {c : Code} {D : va_G} {h' : xH} (hx : p.tables.exec = Jvm.exec) (hb : c.code = cX11_sums) (hr : meth.sig.returnType = none) (hlk : meth.locks = false) (hml : c.maxLocals = 5) (hown : s.vm.findClass RX11 = some m.cls) (hnm : meth.name = "sums") (hts : ∀ w ∈ xt, w.before args s = true) (G : Nat → Nat) (a0 : Nat) (x1 : Int32) (x3 : Int32) : ∀ (n : Nat) (h : xH) (x4 : Int32) (H : Heap) (locs : List Loc) (ls : Array Slot), F_X11_sums_26 G a0 x1 x3 n h x4 = some h' → xR D G h s H → va_S (xA G) s.heap H locs → lv_has ls 5 [(0, va_rf (some a0)), (1, .int x1), (3, .int x3), (4, .int x4)] → W p l e rm_X11_sums s m args below meth c H locs 0 0 (MQ below (xQ D G none h') args s rm_X11_sums.cells rm_X11_sums.slots (xA G)) (F0 m 26 ls []) := by
  intro n
  induction n with
  | zero =>
    intro h x4 H locs ls hF
    rw [F_X11_sums_26.eq_1] at hF
    cases hF
  | succ n ih =>
    intro h x4 H locs ls hF hR hS hl
    rw [F_X11_sums_26.eq_2] at hF
    refine lv_iload hx hb dX11_sums_26 (lv_at hl 3 rfl) ?_
    refine lv_iload_n hx hb dX11_sums_28 rfl (lv_at hl 2 rfl) ?_
    refine lv_icmp_gt (tgt := 45) hx hb dX11_sums_29 (by decide) (fun c5 => ?_) (fun c5 => ?_)
    · replace hF := xift c5 hF
      cases hF
      exact x_vret hx hb hr hlk hR hS (by decide) (by decide) dX11_sums_45
    · replace hF := xiff c5 hF
      refine x_aload_n (o := (some a0)) hx hb dX11_sums_32 rfl (lv_at hl 0 rfl) ?_
      refine lv_iload_n hx hb dX11_sums_33 rfl (lv_at hl 1 rfl) ?_
      refine lv_iload hx hb dX11_sums_34 (lv_at hl 3 rfl) ?_
      replace hF := xbind hF; obtain ⟨b7, eb7, hF⟩ := hF
      replace hF := xbind hF; obtain ⟨h6, eh6, hF⟩ := hF
      refine x_callV (o := (some a0)) (ci := 11) (As := [.int x1, .int x4]) (rest := []) (v := none) (k := 2) hx hb hml hown hts hR hS eb7 rfl rfl (t_X11_addTick l D G h b7 x1 x4 h6 eh6) f_X11_addTick mm_1103 mm_1105 mm_34 rfl hl.1 rfl (by first | exact Nat.le_of_ble_eq_true rfl | simp [xrf_cat, xcI, xcJ, xcA]) dX11_sums_36 (by decide) (by decide) rfl (fun H locs hR hS => ?_)
      obtain ⟨v8, ev8⟩ : ∃ z : Int32, z = (x4 + 1) := ⟨_, rfl⟩
      replace hF := xlet ev8 hF
      refine lv_iinc (v := v8) (lv' := [(4, .int v8), (0, va_rf (some a0)), (1, .int x1), (3, .int x3)]) hx hb dX11_sums_39 hl (k := 3) rfl (by rw [ev8]; rfl) (by decide) (by first | rfl | (simp [xrf_cat, xcI, xcJ, xcA]; done) | (simp [xrf_cat, xcI, xcJ, xcA]; decide)) (fun ls hl => ?_)
      refine lv_goto (tgt := 26) hx hb dX11_sums_42 (by decide) ?_
      exact ih h6 v8 _ _ _ hF hR hS (lv_sub hl [1, 2, 3, 0] rfl)
def F_X11_sums (G : Nat → Nat) (h : xH) (a0 : Nat) (x1 : Int32) (x2 : Int32) (x3 : Int32) : Option xH :=
  (xp G h (some a0) 11 12 (.long 0)).bind fun h1 =>
  (xp G h1 (some a0) 11 13 (.long 0)).bind fun h2 =>
  (xp G h2 (some a0) 11 14 (.long 0)).bind fun h3 =>
  if 0 ≤ x2 then
    F_X11_sums_26 G a0 x1 x3 xN h3 x2
  else
  F_X11_sums_26 G a0 x1 x3 xN h3 0
set_option maxHeartbeats 4000000 in
set_option maxRecDepth 100000 in
theorem t_X11_sums (l : Launch) (D : va_G) (G : Nat → Nat) (h : xH) (a0 : Nat) (x1 : Int32) (x2 : Int32) (x3 : Int32) (h' : xH) (hF : F_X11_sums G h a0 x1 x2 x3 = some h') : xC l yX11_sums cX11_sums 5 none (rm_X11_sums) D G h [.ref a0, .int x1, .int x2, .int x3] none h' := by
  refine xC_of (by decide) (by first | decide | exact Nat.le_of_ble_eq_true rfl) ?_
  intro p e s m args below meth c ls hx hb hr hlk hml hown hnm hts hR hS hl
  have hl : lv_has ls 5 [(0, va_rf (some a0)), (1, .int x1), (2, .int x2), (3, .int x3)] := hl
  unfold F_X11_sums at hF
  refine x_aload_n (o := (some a0)) hx hb dX11_sums_0 rfl (lv_at hl 0 rfl) ?_
  refine lv_lconst (v := 0) hx hb dX11_sums_1 (by decide) ?_
  replace hF := xbind hF; obtain ⟨h1, eh1, hF⟩ := hF
  refine x_put (o := (some a0)) (ci := 11) (C := RX11) (T := TX11) (N := 42) hx hb hts iw_X11 tyX11_ok nmX11 hown hR hS rfl 12 (by decide) mm_955 (Or.inl rfl) rfl rfl rfl eh1 dX11_sums_2 (fun H locs hR hS => ?_)
  refine x_aload_n (o := (some a0)) hx hb dX11_sums_5 rfl (lv_at hl 0 rfl) ?_
  refine lv_lconst (v := 0) hx hb dX11_sums_6 (by decide) ?_
  replace hF := xbind hF; obtain ⟨h2, eh2, hF⟩ := hF
  refine x_put (o := (some a0)) (ci := 11) (C := RX11) (T := TX11) (N := 42) hx hb hts iw_X11 tyX11_ok nmX11 hown hR hS rfl 13 (by decide) mm_956 (Or.inl rfl) rfl rfl rfl eh2 dX11_sums_7 (fun H locs hR hS => ?_)
  refine x_aload_n (o := (some a0)) hx hb dX11_sums_10 rfl (lv_at hl 0 rfl) ?_
  refine lv_lconst (v := 0) hx hb dX11_sums_11 (by decide) ?_
  replace hF := xbind hF; obtain ⟨h3, eh3, hF⟩ := hF
  refine x_put (o := (some a0)) (ci := 11) (C := RX11) (T := TX11) (N := 42) hx hb hts iw_X11 tyX11_ok nmX11 hown hR hS rfl 14 (by decide) mm_957 (Or.inl rfl) rfl rfl rfl eh3 dX11_sums_12 (fun H locs hR hS => ?_)
  refine lv_iload_n hx hb dX11_sums_15 rfl (lv_at hl 2 rfl) ?_
  refine lv_if_ge (tgt := 23) hx hb dX11_sums_16 (by decide) (fun c4 => ?_) (fun c4 => ?_)
  · replace hF := xift c4 hF
    refine lv_iload_n hx hb dX11_sums_23 rfl (lv_at hl 2 rfl) ?_
    refine lv_istore (lv' := [(4, .int x2), (0, va_rf (some a0)), (1, .int x1), (2, .int x2), (3, .int x3)]) hx hb dX11_sums_24 hl (by decide) (by first | rfl | (simp [xrf_cat, xcI, xcJ, xcA]; done) | (simp [xrf_cat, xcI, xcJ, xcA]; decide)) (fun ls hl => ?_)
    refine W.widen (k := 0) (n := 0) (by decide) (by decide) ?_
    exact tl_X11_sums_26 hx hb hr hlk hml hown hnm hts G a0 x1 x3 _ h3 x2 _ _ _ hF hR hS (lv_sub hl [1, 2, 4, 0] rfl)
  · replace hF := xiff c4 hF
    refine lv_iconst (v := 0) hx hb dX11_sums_19 (by decide) ?_
    refine lv_goto (tgt := 24) hx hb dX11_sums_20 (by decide) ?_
    refine lv_istore (lv' := [(4, .int 0), (0, va_rf (some a0)), (1, .int x1), (2, .int x2), (3, .int x3)]) hx hb dX11_sums_24 hl (by decide) (by first | rfl | (simp [xrf_cat, xcI, xcJ, xcA]; done) | (simp [xrf_cat, xcI, xcJ, xcA]; decide)) (fun ls hl => ?_)
    refine W.widen (k := 0) (n := 0) (by decide) (by decide) ?_
    exact tl_X11_sums_26 hx hb hr hlk hml hown hnm hts G a0 x1 x3 _ h3 0 _ _ _ hF hR hS (lv_sub hl [1, 2, 4, 0] rfl)
def rm_X11_sum : Room := { frames := 2, cells := 0, slots := 0, locals := 47 }
theorem f_X11_sum : xM yX11_sum cX11_sum 5 (some .int) 4 := ⟨mm_1098, mm_62, by decide +kernel, by decide +kernel⟩
theorem dX11_sum_0 : decode cX11_sum 0 = .ok (.aload_n 0, 1) := by decide +kernel
theorem dX11_sum_1 : decode cX11_sum 1 = .ok (.iconst 0, 1) := by decide +kernel
theorem dX11_sum_2 : decode cX11_sum 2 = .ok (.putfield 93, 3) := by decide +kernel
theorem dX11_sum_5 : decode cX11_sum 5 = .ok (.aload_n 0, 1) := by decide +kernel
theorem dX11_sum_6 : decode cX11_sum 6 = .ok (.iload_n 1, 1) := by decide +kernel
theorem dX11_sum_7 : decode cX11_sum 7 = .ok (.invokevirtual 100, 3) := by decide +kernel
theorem dX11_sum_10 : decode cX11_sum 10 = .ok (.ifCond .eq 30, 3) := by decide +kernel
theorem dX11_sum_13 : decode cX11_sum 13 = .ok (.iload 4, 2) := by decide +kernel
theorem dX11_sum_15 : decode cX11_sum 15 = .ok (.ifCond .lt 25, 3) := by decide +kernel
theorem dX11_sum_18 : decode cX11_sum 18 = .ok (.iload 4, 2) := by decide +kernel
theorem dX11_sum_20 : decode cX11_sum 20 = .ok (.iconst 2, 1) := by decide +kernel
theorem dX11_sum_21 : decode cX11_sum 21 = .ok (.if_icmp .gt 19, 3) := by decide +kernel
theorem dX11_sum_24 : decode cX11_sum 24 = .ok (.iload_n 2, 1) := by decide +kernel
theorem dX11_sum_25 : decode cX11_sum 25 = .ok (.ifCond .lt 15, 3) := by decide +kernel
theorem dX11_sum_28 : decode cX11_sum 28 = .ok (.iload_n 3, 1) := by decide +kernel
theorem dX11_sum_29 : decode cX11_sum 29 = .ok (.iload_n 2, 1) := by decide +kernel
theorem dX11_sum_30 : decode cX11_sum 30 = .ok (.if_icmp .lt 10, 3) := by decide +kernel
theorem dX11_sum_33 : decode cX11_sum 33 = .ok (.iload_n 3, 1) := by decide +kernel
theorem dX11_sum_34 : decode cX11_sum 34 = .ok (.sipush 600, 3) := by decide +kernel
theorem dX11_sum_37 : decode cX11_sum 37 = .ok (.if_icmp .le 5, 3) := by decide +kernel
theorem dX11_sum_40 : decode cX11_sum 40 = .ok (.iconst (-1), 1) := by decide +kernel
theorem dX11_sum_41 : decode cX11_sum 41 = .ok (.ireturn, 1) := by decide +kernel
theorem dX11_sum_42 : decode cX11_sum 42 = .ok (.aload_n 0, 1) := by decide +kernel
theorem dX11_sum_43 : decode cX11_sum 43 = .ok (.iload_n 1, 1) := by decide +kernel
theorem dX11_sum_44 : decode cX11_sum 44 = .ok (.iload_n 2, 1) := by decide +kernel
theorem dX11_sum_45 : decode cX11_sum 45 = .ok (.iload_n 3, 1) := by decide +kernel
theorem dX11_sum_46 : decode cX11_sum 46 = .ok (.invokevirtual 130, 3) := by decide +kernel
theorem dX11_sum_49 : decode cX11_sum 49 = .ok (.iload 4, 2) := by decide +kernel
theorem dX11_sum_51 : decode cX11_sum 51 = .ok (.ifCond .ne 10, 3) := by decide +kernel
theorem dX11_sum_54 : decode cX11_sum 54 = .ok (.aload_n 0, 1) := by decide +kernel
theorem dX11_sum_55 : decode cX11_sum 55 = .ok (.getfield 116, 3) := by decide +kernel
theorem dX11_sum_58 : decode cX11_sum 58 = .ok (.goto 20, 3) := by decide +kernel
theorem dX11_sum_61 : decode cX11_sum 61 = .ok (.iload 4, 2) := by decide +kernel
theorem dX11_sum_63 : decode cX11_sum 63 = .ok (.iconst 1, 1) := by decide +kernel
theorem dX11_sum_64 : decode cX11_sum 64 = .ok (.if_icmp .ne 10, 3) := by decide +kernel
theorem dX11_sum_67 : decode cX11_sum 67 = .ok (.aload_n 0, 1) := by decide +kernel
theorem dX11_sum_68 : decode cX11_sum 68 = .ok (.getfield 120, 3) := by decide +kernel
theorem dX11_sum_71 : decode cX11_sum 71 = .ok (.goto 7, 3) := by decide +kernel
theorem dX11_sum_74 : decode cX11_sum 74 = .ok (.aload_n 0, 1) := by decide +kernel
theorem dX11_sum_75 : decode cX11_sum 75 = .ok (.getfield 123, 3) := by decide +kernel
theorem dX11_sum_78 : decode cX11_sum 78 = .ok (.l2i, 1) := by decide +kernel
theorem dX11_sum_79 : decode cX11_sum 79 = .ok (.ireturn, 1) := by decide +kernel
def F_X11_sum (G : Nat → Nat) (h : xH) (a0 : Nat) (x1 : Int32) (x2 : Int32) (x3 : Int32) (x4 : Int32) : Option (Int32 × xH) :=
  (xp G h (some a0) 11 0 (.int 0)).bind fun h1 =>
  (xc h1 (some a0) 11).bind fun b3 =>
  (F_X11_isService G h1 b3 x1).bind fun v2 =>
  if v2 = 0 then
    some ((-1), h1)
  else
  if x4 < 0 then
    some ((-1), h1)
  else
  if 2 < x4 then
    some ((-1), h1)
  else
  if x2 < 0 then
    some ((-1), h1)
  else
  if x3 < x2 then
    some ((-1), h1)
  else
  if x3 ≤ 600 then
    (xc h1 (some a0) 11).bind fun b11 =>
    (F_X11_sums G h1 b11 x1 x2 x3).bind fun h10 =>
    if x4 = 0 then
      (gJ h10 (some a0) 11 12).bind fun v16 =>
      some (((v16 : Int64).toInt32), h10)
    else
    if x4 = 1 then
      (gJ h10 (some a0) 11 13).bind fun v15 =>
      some (((v15 : Int64).toInt32), h10)
    else
    (gJ h10 (some a0) 11 14).bind fun v14 =>
    some (((v14 : Int64).toInt32), h10)
  else
  some ((-1), h1)
set_option maxHeartbeats 4000000 in
set_option maxRecDepth 100000 in
theorem t_X11_sum (l : Launch) (D : va_G) (G : Nat → Nat) (h : xH) (a0 : Nat) (x1 : Int32) (x2 : Int32) (x3 : Int32) (x4 : Int32) (r : Int32) (h' : xH) (hF : F_X11_sum G h a0 x1 x2 x3 x4 = some (r, h')) : xC l yX11_sum cX11_sum 5 (some .int) (rm_X11_sum) D G h [.ref a0, .int x1, .int x2, .int x3, .int x4] (some (.int r)) h' := by
  refine xC_of (by decide) (by first | decide | exact Nat.le_of_ble_eq_true rfl) ?_
  intro p e s m args below meth c ls hx hb hr hlk hml hown hnm hts hR hS hl
  have hl : lv_has ls 5 [(0, va_rf (some a0)), (1, .int x1), (2, .int x2), (3, .int x3), (4, .int x4)] := hl
  unfold F_X11_sum at hF
  refine x_aload_n (o := (some a0)) hx hb dX11_sum_0 rfl (lv_at hl 0 rfl) ?_
  refine lv_iconst (v := 0) hx hb dX11_sum_1 (by decide) ?_
  replace hF := xbind hF; obtain ⟨h1, eh1, hF⟩ := hF
  refine x_put (o := (some a0)) (ci := 11) (C := RX11) (T := TX11) (N := 42) hx hb hts iw_X11 tyX11_ok nmX11 hown hR hS rfl 0 (by decide) mm_943 (Or.inl rfl) rfl rfl rfl eh1 dX11_sum_2 (fun H locs hR hS => ?_)
  refine x_aload_n (o := (some a0)) hx hb dX11_sum_5 rfl (lv_at hl 0 rfl) ?_
  refine lv_iload_n hx hb dX11_sum_6 rfl (lv_at hl 1 rfl) ?_
  replace hF := xbind hF; obtain ⟨b3, eb3, hF⟩ := hF
  replace hF := xbind hF; obtain ⟨v2, ev2, hF⟩ := hF
  refine x_callV (o := (some a0)) (ci := 11) (As := [.int x1]) (rest := []) (v := (some (.int v2))) (k := 1) hx hb hml hown hts hR hS eb3 rfl rfl (t_X11_isService l D G h1 b3 x1 v2 ev2) f_X11_isService mm_1083 mm_1085 mm_32 rfl hl.1 rfl (by first | exact Nat.le_of_ble_eq_true rfl | simp [xrf_cat, xcI, xcJ, xcA]) dX11_sum_7 (by decide) (by decide) rfl (fun H locs hR hS => ?_)
  refine lv_if_eq (tgt := 40) hx hb dX11_sum_10 (by decide) (fun c4 => ?_) (fun c4 => ?_)
  · replace hF := xift c4 hF
    refine lv_iconst (v := (-1)) hx hb dX11_sum_40 (by decide) ?_
    cases hF
    exact x_iret hx hb hr rfl hlk hR hS (by decide) (by decide) dX11_sum_41
  · replace hF := xiff c4 hF
    refine lv_iload hx hb dX11_sum_13 (lv_at hl 4 rfl) ?_
    refine lv_if_lt (tgt := 40) hx hb dX11_sum_15 (by decide) (fun c5 => ?_) (fun c5 => ?_)
    · replace hF := xift c5 hF
      refine lv_iconst (v := (-1)) hx hb dX11_sum_40 (by decide) ?_
      cases hF
      exact x_iret hx hb hr rfl hlk hR hS (by decide) (by decide) dX11_sum_41
    · replace hF := xiff c5 hF
      refine lv_iload hx hb dX11_sum_18 (lv_at hl 4 rfl) ?_
      refine lv_iconst (v := 2) hx hb dX11_sum_20 (by decide) ?_
      refine lv_icmp_gt (tgt := 40) hx hb dX11_sum_21 (by decide) (fun c6 => ?_) (fun c6 => ?_)
      · replace hF := xift c6 hF
        refine lv_iconst (v := (-1)) hx hb dX11_sum_40 (by decide) ?_
        cases hF
        exact x_iret hx hb hr rfl hlk hR hS (by decide) (by decide) dX11_sum_41
      · replace hF := xiff c6 hF
        refine lv_iload_n hx hb dX11_sum_24 rfl (lv_at hl 2 rfl) ?_
        refine lv_if_lt (tgt := 40) hx hb dX11_sum_25 (by decide) (fun c7 => ?_) (fun c7 => ?_)
        · replace hF := xift c7 hF
          refine lv_iconst (v := (-1)) hx hb dX11_sum_40 (by decide) ?_
          cases hF
          exact x_iret hx hb hr rfl hlk hR hS (by decide) (by decide) dX11_sum_41
        · replace hF := xiff c7 hF
          refine lv_iload_n hx hb dX11_sum_28 rfl (lv_at hl 3 rfl) ?_
          refine lv_iload_n hx hb dX11_sum_29 rfl (lv_at hl 2 rfl) ?_
          refine lv_icmp_lt (tgt := 40) hx hb dX11_sum_30 (by decide) (fun c8 => ?_) (fun c8 => ?_)
          · replace hF := xift c8 hF
            refine lv_iconst (v := (-1)) hx hb dX11_sum_40 (by decide) ?_
            cases hF
            exact x_iret hx hb hr rfl hlk hR hS (by decide) (by decide) dX11_sum_41
          · replace hF := xiff c8 hF
            refine lv_iload_n hx hb dX11_sum_33 rfl (lv_at hl 3 rfl) ?_
            refine lv_sipush (v := 600) hx hb dX11_sum_34 (by decide) ?_
            refine lv_icmp_le (tgt := 42) hx hb dX11_sum_37 (by decide) (fun c9 => ?_) (fun c9 => ?_)
            · replace hF := xift c9 hF
              refine x_aload_n (o := (some a0)) hx hb dX11_sum_42 rfl (lv_at hl 0 rfl) ?_
              refine lv_iload_n hx hb dX11_sum_43 rfl (lv_at hl 1 rfl) ?_
              refine lv_iload_n hx hb dX11_sum_44 rfl (lv_at hl 2 rfl) ?_
              refine lv_iload_n hx hb dX11_sum_45 rfl (lv_at hl 3 rfl) ?_
              replace hF := xbind hF; obtain ⟨b11, eb11, hF⟩ := hF
              replace hF := xbind hF; obtain ⟨h10, eh10, hF⟩ := hF
              refine x_callV (o := (some a0)) (ci := 11) (As := [.int x1, .int x2, .int x3]) (rest := []) (v := none) (k := 3) hx hb hml hown hts hR hS eb11 rfl rfl (t_X11_sums l D G h1 b11 x1 x2 x3 h10 eh10) f_X11_sums mm_1099 mm_1101 mm_33 rfl hl.1 rfl (by first | exact Nat.le_of_ble_eq_true rfl | simp [xrf_cat, xcI, xcJ, xcA]) dX11_sum_46 (by decide) (by decide) rfl (fun H locs hR hS => ?_)
              refine lv_iload hx hb dX11_sum_49 (lv_at hl 4 rfl) ?_
              refine lv_if_ne (tgt := 61) hx hb dX11_sum_51 (by decide) (fun c12 => ?_) (fun c12 => ?_)
              · replace hF := xiff c12 hF
                refine lv_iload hx hb dX11_sum_61 (lv_at hl 4 rfl) ?_
                refine lv_iconst (v := 1) hx hb dX11_sum_63 (by decide) ?_
                refine lv_icmp_ne (tgt := 74) hx hb dX11_sum_64 (by decide) (fun c13 => ?_) (fun c13 => ?_)
                · replace hF := xiff c13 hF
                  refine x_aload_n (o := (some a0)) hx hb dX11_sum_74 rfl (lv_at hl 0 rfl) ?_
                  replace hF := xbind hF; obtain ⟨v14, ev14, hF⟩ := hF
                  refine x_getJ (o := (some a0)) (ci := 11) (C := RX11) (T := TX11) (N := 42) hx hb hts iw_X11 hown hR rfl 14 (by decide) mm_957 (Or.inl rfl) ev14 dX11_sum_75 ?_
                  refine lv_l2i (v := ((v14 : Int64).toInt32)) hx hb dX11_sum_78 rfl ?_
                  cases hF
                  exact x_iret hx hb hr rfl hlk hR hS (by decide) (by decide) dX11_sum_79
                · replace hF := xift c13 hF
                  refine x_aload_n (o := (some a0)) hx hb dX11_sum_67 rfl (lv_at hl 0 rfl) ?_
                  replace hF := xbind hF; obtain ⟨v15, ev15, hF⟩ := hF
                  refine x_getJ (o := (some a0)) (ci := 11) (C := RX11) (T := TX11) (N := 42) hx hb hts iw_X11 hown hR rfl 13 (by decide) mm_956 (Or.inl rfl) ev15 dX11_sum_68 ?_
                  refine lv_goto (tgt := 78) hx hb dX11_sum_71 (by decide) ?_
                  refine lv_l2i (v := ((v15 : Int64).toInt32)) hx hb dX11_sum_78 rfl ?_
                  cases hF
                  exact x_iret hx hb hr rfl hlk hR hS (by decide) (by decide) dX11_sum_79
              · replace hF := xift c12 hF
                refine x_aload_n (o := (some a0)) hx hb dX11_sum_54 rfl (lv_at hl 0 rfl) ?_
                replace hF := xbind hF; obtain ⟨v16, ev16, hF⟩ := hF
                refine x_getJ (o := (some a0)) (ci := 11) (C := RX11) (T := TX11) (N := 42) hx hb hts iw_X11 hown hR rfl 12 (by decide) mm_955 (Or.inl rfl) ev16 dX11_sum_55 ?_
                refine lv_goto (tgt := 78) hx hb dX11_sum_58 (by decide) ?_
                refine lv_l2i (v := ((v16 : Int64).toInt32)) hx hb dX11_sum_78 rfl ?_
                cases hF
                exact x_iret hx hb hr rfl hlk hR hS (by decide) (by decide) dX11_sum_79
            · replace hF := xiff c9 hF
              refine lv_iconst (v := (-1)) hx hb dX11_sum_40 (by decide) ?_
              cases hF
              exact x_iret hx hb hr rfl hlk hR hS (by decide) (by decide) dX11_sum_41
