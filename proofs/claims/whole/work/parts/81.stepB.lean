/-! let, settle -/
theorem js_let (G : Nat → Nat) (x m out : Nat) : sJ_let (fun _ => Jx G x m out) G x m := by
  rintro i h ⟨ad, P, s, v, a, el, cn, ⟨rfl, rfl, rfl⟩, R, M, O, L, I, C⟩ a1
  obtain ⟨c, rfl, t0, t1⟩ := iI_arg a1
  have R0 := L.m0 (iI 0)
  have i33 := I.2.2.2.2.2.2.1
  by_cases c1 : 0 ≤ c ∧ c < v 33
  · have ew := c_changeAt R C c1.1 c1.2 (by omega)
    have hH := C.2.2.2.2.2.2.2.1 c c1.1 c1.2
    have hc := I.2.2.2.2.2.2.2.2.2.2.2.2.2.2.2.2.1 c c1.1 c1.2
    by_cases c2 : a 37 c = 0
    · have er := c_roomOf R C I hc.1 hc.2.1
      have hr := rm_b I hc.1 hc.2.1
      obtain ⟨s2, f1, L1, -⟩ := r_room R0 I hc.1 hc.2.1
      by_cases c3 : a 35 c ≤ rm v a (a 34 c)
      · obtain ⟨s3, f2, L2⟩ := L1.st 37 40 (by decide) rfl (z := c) (w := 1) (by omega) (by omega)
        obtain ⟨h1, e1, R1⟩ := R.sf hH (j := 3) (by simp) (.int (iI 1))
        have C1 : Cc G ad (up P 3 c.toNat (some (.inr (3, [.int (iI (a 34 c)), .int (iI (a 35 c)), .int (iI (a 36 c)), .int (iI 1), .int (iI (a 38 c))])))) v (ta a 37 c 1) el cn := by
          obtain ⟨z0, z1, z2, z3, z4, z5, z6, z7, z8, z9, z10⟩ := C
          refine ⟨z0.c fun k q i => up_kind _ (by omega), z1.c fun k q i => up_kind _ (by omega), cS.c (P := P) z2 fun k q i => up_kind _ (by omega), cO.c (P := P) z3 fun k q i => up_kind _ (by omega), cP.c (P := P) z4 fun k q i => up_kind _ (by omega), cT.c (P := P) z5 fun k q i => up_kind _ (by omega), cA.c (P := P) z6 fun k q i => up_kind _ (by omega), ?_, cL.c (P := P) z8 fun k q i => up_kind _ (by omega), z9.c fun k q i => up_kind _ (by omega), z10⟩
          intro j j0 j1
          by_cases q : j = c
          · subst q
            rw [up_same, ta_s]; rfl
          · rw [up_idx _ (by omega)]
            simp only [ta_m _ _ _ _ _ _ q]
            exact z7 j j0 j1
        have I1 : Iv v (ta a 37 c 1) := by
          obtain ⟨i1, i2, i9, i15, i24, i26, i33, i39, hs, hq, ht, hp, hg, hr, hpt, hal, hch, hz⟩ := I
          refine ⟨i1, i2, i9, i15, i24, i26, i33, i39, hs, hq, ht, hp, hg, hr, hpt, hal, fun j j0 j1 => ?_, fun j j0 j1 => ?_⟩
          · have := hch j j0 j1
            refine ⟨this.1, this.2.1, this.2.2.1, this.2.2.2.1, this.2.2.2.2.1, this.2.2.2.2.2.1, ?_⟩
            rw [ta_k]; split <;> omega
          · have := hz j j0 j1
            refine ⟨?_, this.2⟩
            rw [ta_k, if_neg (by omega)]; exact this.1
        have e2 : FM_let s (iI c) = some (iI 1, s3) := by
          simp (disch := omega) only [FM_let, FM_isChange, Rl.fd R0 33 (by decide) (by decide), Rl.ld R0 34 40 (by decide) rfl, Rl.ld R0 37 40 (by decide) rfl, Rl.ld L1 35 40 (by decide) rfl, f1, f2, l_0, l_1, l_2, l_3, l_4, l_5, l_6, l_7, l_8, l_9, l_10, l_12, l_13, l_14, l_15, l_16, l_20, l_21, l_40, l_60, l_78, l_199, l_200, l_300, l_599, l_600, l_601, l_602, l_1000, l_1638, l_10000, l_65536, l_100000, l_1000000, l_m1, L_0, L_1, L_10, L_20, L_1000, L_10000, iI_add, iI_sub, iI_mul, iI_neg, iI_lt, iI_le, iI_eq, iI_max, iI_min, iI_l, jI_i, jI_add, jI_sub, jI_mul, jI_lt, jI_le, jI_eq, kmp_pos, kmp_neg, kmp_le, kmp_ge, if_pos, if_neg, if_true, if_false, true_or, or_true, Option.bind_some, xl, xg]
        obtain ⟨q1, h2, q2, q3⟩ := Jgo (Fr.up (by decide)) M O R1 C1 I1 L2 (fun M => u_let M e2)
        refine ⟨_, h1, h2, ?_, q1, q2, q3⟩
        simp (disch := omega) only [F_X10_let, R.obj C.k, ew.1, some_ne, R.getI hH (j := 0) rfl, R.getI hH (j := 1) rfl, R.getI hH (j := 3) rfl, er, e1, l_0, l_1, l_2, l_3, l_4, l_5, l_6, l_7, l_8, l_9, l_10, l_12, l_13, l_14, l_15, l_16, l_20, l_21, l_40, l_60, l_78, l_199, l_200, l_300, l_599, l_600, l_601, l_602, l_1000, l_1638, l_10000, l_65536, l_100000, l_1000000, l_m1, L_0, L_1, L_10, L_20, L_1000, L_10000, iI_add, iI_sub, iI_mul, iI_neg, iI_lt, iI_le, iI_eq, iI_max, iI_min, iI_l, jI_i, jI_add, jI_sub, jI_mul, jI_lt, jI_le, jI_eq, kmp_pos, kmp_neg, kmp_le, kmp_ge, if_pos, if_neg, if_true, if_false, true_or, or_true, Option.bind_some, xl, xg]
      · have e2 : FM_let s (iI c) = some (iI 0, s2) := by
          simp (disch := omega) only [FM_let, FM_isChange, Rl.fd R0 33 (by decide) (by decide), Rl.ld R0 34 40 (by decide) rfl, Rl.ld R0 37 40 (by decide) rfl, Rl.ld L1 35 40 (by decide) rfl, f1, l_0, l_1, l_2, l_3, l_4, l_5, l_6, l_7, l_8, l_9, l_10, l_12, l_13, l_14, l_15, l_16, l_20, l_21, l_40, l_60, l_78, l_199, l_200, l_300, l_599, l_600, l_601, l_602, l_1000, l_1638, l_10000, l_65536, l_100000, l_1000000, l_m1, L_0, L_1, L_10, L_20, L_1000, L_10000, iI_add, iI_sub, iI_mul, iI_neg, iI_lt, iI_le, iI_eq, iI_max, iI_min, iI_l, jI_i, jI_add, jI_sub, jI_mul, jI_lt, jI_le, jI_eq, kmp_pos, kmp_neg, kmp_le, kmp_ge, if_pos, if_neg, if_true, if_false, true_or, or_true, Option.bind_some, xl, xg]
        obtain ⟨q1, h2, q2, q3⟩ := Jgo0 R M O I C L1 (fun M => u_let M e2)
        refine ⟨_, h, h2, ?_, q1, q2, q3⟩
        simp (disch := omega) only [F_X10_let, R.obj C.k, ew.1, some_ne, R.getI hH (j := 0) rfl, R.getI hH (j := 1) rfl, R.getI hH (j := 3) rfl, er, l_0, l_1, l_2, l_3, l_4, l_5, l_6, l_7, l_8, l_9, l_10, l_12, l_13, l_14, l_15, l_16, l_20, l_21, l_40, l_60, l_78, l_199, l_200, l_300, l_599, l_600, l_601, l_602, l_1000, l_1638, l_10000, l_65536, l_100000, l_1000000, l_m1, L_0, L_1, L_10, L_20, L_1000, L_10000, iI_add, iI_sub, iI_mul, iI_neg, iI_lt, iI_le, iI_eq, iI_max, iI_min, iI_l, jI_i, jI_add, jI_sub, jI_mul, jI_lt, jI_le, jI_eq, kmp_pos, kmp_neg, kmp_le, kmp_ge, if_pos, if_neg, if_true, if_false, true_or, or_true, Option.bind_some, xl, xg]
    · have e2 : FM_let s (iI c) = some (iI 0, mI s 0 (iI 0)) := by
        simp (disch := omega) only [FM_let, FM_isChange, Rl.fd R0 33 (by decide) (by decide), Rl.ld R0 37 40 (by decide) rfl, l_0, l_1, l_2, l_3, l_4, l_5, l_6, l_7, l_8, l_9, l_10, l_12, l_13, l_14, l_15, l_16, l_20, l_21, l_40, l_60, l_78, l_199, l_200, l_300, l_599, l_600, l_601, l_602, l_1000, l_1638, l_10000, l_65536, l_100000, l_1000000, l_m1, L_0, L_1, L_10, L_20, L_1000, L_10000, iI_add, iI_sub, iI_mul, iI_neg, iI_lt, iI_le, iI_eq, iI_max, iI_min, iI_l, jI_i, jI_add, jI_sub, jI_mul, jI_lt, jI_le, jI_eq, kmp_pos, kmp_neg, kmp_le, kmp_ge, if_pos, if_neg, if_true, if_false, true_or, or_true, Option.bind_some, xl, xg]
      obtain ⟨q1, h2, q2, q3⟩ := Jgo0 R M O I C R0 (fun M => u_let M e2)
      refine ⟨_, h, h2, ?_, q1, q2, q3⟩
      simp (disch := omega) only [F_X10_let, R.obj C.k, ew.1, some_ne, R.getI hH (j := 3) rfl, l_0, l_1, l_2, l_3, l_4, l_5, l_6, l_7, l_8, l_9, l_10, l_12, l_13, l_14, l_15, l_16, l_20, l_21, l_40, l_60, l_78, l_199, l_200, l_300, l_599, l_600, l_601, l_602, l_1000, l_1638, l_10000, l_65536, l_100000, l_1000000, l_m1, L_0, L_1, L_10, L_20, L_1000, L_10000, iI_add, iI_sub, iI_mul, iI_neg, iI_lt, iI_le, iI_eq, iI_max, iI_min, iI_l, jI_i, jI_add, jI_sub, jI_mul, jI_lt, jI_le, jI_eq, kmp_pos, kmp_neg, kmp_le, kmp_ge, if_pos, if_neg, if_true, if_false, true_or, or_true, Option.bind_some, xl, xg]
  · have ew := c_changeAtX R C t0 t1 (by omega) (by omega) c1
    have e2 : FM_let s (iI c) = some (iI 0, mI s 0 (iI 0)) := by
      by_cases c2 : c < 0
      · simp (disch := omega) only [FM_let, FM_isChange, Rl.fd R0 33 (by decide) (by decide), l_0, l_1, l_2, l_3, l_4, l_5, l_6, l_7, l_8, l_9, l_10, l_12, l_13, l_14, l_15, l_16, l_20, l_21, l_40, l_60, l_78, l_199, l_200, l_300, l_599, l_600, l_601, l_602, l_1000, l_1638, l_10000, l_65536, l_100000, l_1000000, l_m1, L_0, L_1, L_10, L_20, L_1000, L_10000, iI_add, iI_sub, iI_mul, iI_neg, iI_lt, iI_le, iI_eq, iI_max, iI_min, iI_l, jI_i, jI_add, jI_sub, jI_mul, jI_lt, jI_le, jI_eq, kmp_pos, kmp_neg, kmp_le, kmp_ge, if_pos, if_neg, if_true, if_false, true_or, or_true, Option.bind_some, xl, xg]
      · simp (disch := omega) only [FM_let, FM_isChange, Rl.fd R0 33 (by decide) (by decide), l_0, l_1, l_2, l_3, l_4, l_5, l_6, l_7, l_8, l_9, l_10, l_12, l_13, l_14, l_15, l_16, l_20, l_21, l_40, l_60, l_78, l_199, l_200, l_300, l_599, l_600, l_601, l_602, l_1000, l_1638, l_10000, l_65536, l_100000, l_1000000, l_m1, L_0, L_1, L_10, L_20, L_1000, L_10000, iI_add, iI_sub, iI_mul, iI_neg, iI_lt, iI_le, iI_eq, iI_max, iI_min, iI_l, jI_i, jI_add, jI_sub, jI_mul, jI_lt, jI_le, jI_eq, kmp_pos, kmp_neg, kmp_le, kmp_ge, if_pos, if_neg, if_true, if_false, true_or, or_true, Option.bind_some, xl, xg]
    obtain ⟨q1, h2, q2, q3⟩ := Jgo0 R M O I C R0 (fun M => u_let M e2)
    refine ⟨_, h, h2, ?_, q1, q2, q3⟩
    simp (disch := omega) only [F_X10_let, R.obj C.k, ew, none_eq, l_0, l_1, l_2, l_3, l_4, l_5, l_6, l_7, l_8, l_9, l_10, l_12, l_13, l_14, l_15, l_16, l_20, l_21, l_40, l_60, l_78, l_199, l_200, l_300, l_599, l_600, l_601, l_602, l_1000, l_1638, l_10000, l_65536, l_100000, l_1000000, l_m1, L_0, L_1, L_10, L_20, L_1000, L_10000, iI_add, iI_sub, iI_mul, iI_neg, iI_lt, iI_le, iI_eq, iI_max, iI_min, iI_l, jI_i, jI_add, jI_sub, jI_mul, jI_lt, jI_le, jI_eq, kmp_pos, kmp_neg, kmp_le, kmp_ge, if_pos, if_neg, if_true, if_false, true_or, or_true, Option.bind_some, xl, xg]
theorem js_settle (G : Nat → Nat) (x m out : Nat) : sJ_settle (fun _ => Jx G x m out) G x m := by
  rintro i h ⟨ad, P, s, v, a, el, cn, ⟨rfl, rfl, rfl⟩, R, M, O, L, I, C⟩ a1 a2
  obtain ⟨c, rfl, t0, t1⟩ := iI_arg a1
  obtain ⟨t, rfl, u0, u1⟩ := iI_arg a2
  have R0 := L.m0 (iI 0)
  have i33 := I.2.2.2.2.2.2.1
  by_cases c1 : 0 ≤ c ∧ c < v 33
  · have ew := c_changeAt R C c1.1 c1.2 (by omega)
    have hH := C.2.2.2.2.2.2.2.1 c c1.1 c1.2
    have hc := I.2.2.2.2.2.2.2.2.2.2.2.2.2.2.2.2.1 c c1.1 c1.2
    by_cases c2 : a 37 c = 1
    · by_cases c3 : 0 ≤ t ∧ t ≤ 100000
      · obtain ⟨s2, f1, L1⟩ := R0.st 37 40 (by decide) rfl (z := c) (w := 2) (by omega) (by omega)
        obtain ⟨s3, f2, L2⟩ := L1.st 38 40 (by decide) rfl (z := c) (w := t) (by omega) (by omega)
        obtain ⟨h1, e1, R1⟩ := R.sf hH (j := 3) (by simp) (.int (iI 2))
        obtain ⟨h2, e2, R2⟩ := R1.sf (up_same _ _ _ _) (j := 4) (by simp) (.int (iI t))
        have C1 : Cc G ad (up (up P 3 c.toNat (some (.inr (3, [.int (iI (a 34 c)), .int (iI (a 35 c)), .int (iI (a 36 c)), .int (iI 2), .int (iI (a 38 c))])))) 3 c.toNat (some (.inr (3, [.int (iI (a 34 c)), .int (iI (a 35 c)), .int (iI (a 36 c)), .int (iI 2), .int (iI t)])))) v (ta (ta a 37 c 2) 38 c t) el cn := by
          obtain ⟨z0, z1, z2, z3, z4, z5, z6, z7, z8, z9, z10⟩ := C
          refine ⟨z0.c fun k q i => ?_, z1.c fun k q i => ?_, cS.c (P := P) z2 fun k q i => ?_, cO.c (P := P) z3 fun k q i => ?_, cP.c (P := P) z4 fun k q i => ?_, cT.c (P := P) z5 fun k q i => ?_, cA.c (P := P) z6 fun k q i => ?_, ?_, cL.c (P := P) z8 fun k q i => ?_, z9.c fun k q i => ?_, z10⟩
          all_goals first | (rw [up_kind _ (by omega), up_kind _ (by omega)]; done) | skip
          intro j j0 j1
          by_cases q : j = c
          · subst q
            rw [up_same, ta_s, ta_n _ _ _ _ 37 _ (by decide), ta_s]; rfl
          · rw [up_idx _ (by omega), up_idx _ (by omega)]
            simp only [ta_m _ _ _ _ _ _ q]
            exact z7 j j0 j1
        have I1 : Iv v (ta (ta a 37 c 2) 38 c t) := by
          obtain ⟨i1, i2, i9, i15, i24, i26, i33, i39, hs, hq, ht, hp, hg, hr, hpt, hal, hch, hz⟩ := I
          refine ⟨i1, i2, i9, i15, i24, i26, i33, i39, hs, hq, ht, hp, hg, hr, hpt, hal, fun j j0 j1 => ?_, fun j j0 j1 => ?_⟩
          · have := hch j j0 j1
            refine ⟨this.1, this.2.1, this.2.2.1, this.2.2.2.1, this.2.2.2.2.1, this.2.2.2.2.2.1, ?_⟩
            rw [ta_n _ _ _ _ 37 _ (by decide), ta_k]; split <;> omega
          · have := hz j j0 j1
            rw [ta_n _ _ _ _ 37 _ (by decide), ta_k, ta_k, if_neg (by omega), if_neg (by omega)]; exact this
        have e3 : FM_settle s (iI c) (iI t) = some (iI 1, s3) := by
          simp (disch := omega) only [FM_settle, FM_isChange, Rl.fd R0 33 (by decide) (by decide), Rl.ld R0 37 40 (by decide) rfl, f1, f2, l_0, l_1, l_2, l_3, l_4, l_5, l_6, l_7, l_8, l_9, l_10, l_12, l_13, l_14, l_15, l_16, l_20, l_21, l_40, l_60, l_78, l_199, l_200, l_300, l_599, l_600, l_601, l_602, l_1000, l_1638, l_10000, l_65536, l_100000, l_1000000, l_m1, L_0, L_1, L_10, L_20, L_1000, L_10000, iI_add, iI_sub, iI_mul, iI_neg, iI_lt, iI_le, iI_eq, iI_max, iI_min, iI_l, jI_i, jI_add, jI_sub, jI_mul, jI_lt, jI_le, jI_eq, kmp_pos, kmp_neg, kmp_le, kmp_ge, if_pos, if_neg, if_true, if_false, true_or, or_true, Option.bind_some, xl, xg]
        obtain ⟨q1, h3, q2, q3⟩ := Jgo ((Fr.up (by decide)).trans (Fr.up (by decide))) M O R2 C1 I1 L2 (fun M => u_settle M e3)
        refine ⟨_, h2, h3, ?_, q1, q2, q3⟩
        simp (disch := omega) only [F_X10_settle, R.obj C.k, ew.1, some_ne, R.getI hH (j := 3) rfl, c_within, e1, e2, l_0, l_1, l_2, l_3, l_4, l_5, l_6, l_7, l_8, l_9, l_10, l_12, l_13, l_14, l_15, l_16, l_20, l_21, l_40, l_60, l_78, l_199, l_200, l_300, l_599, l_600, l_601, l_602, l_1000, l_1638, l_10000, l_65536, l_100000, l_1000000, l_m1, L_0, L_1, L_10, L_20, L_1000, L_10000, iI_add, iI_sub, iI_mul, iI_neg, iI_lt, iI_le, iI_eq, iI_max, iI_min, iI_l, jI_i, jI_add, jI_sub, jI_mul, jI_lt, jI_le, jI_eq, kmp_pos, kmp_neg, kmp_le, kmp_ge, if_pos, if_neg, if_true, if_false, true_or, or_true, Option.bind_some, xl, xg]
      · have e2 : FM_settle s (iI c) (iI t) = some (iI 0, mI s 0 (iI 0)) := by
          by_cases c4 : t < 0
          · simp (disch := omega) only [FM_settle, FM_isChange, Rl.fd R0 33 (by decide) (by decide), Rl.ld R0 37 40 (by decide) rfl, l_0, l_1, l_2, l_3, l_4, l_5, l_6, l_7, l_8, l_9, l_10, l_12, l_13, l_14, l_15, l_16, l_20, l_21, l_40, l_60, l_78, l_199, l_200, l_300, l_599, l_600, l_601, l_602, l_1000, l_1638, l_10000, l_65536, l_100000, l_1000000, l_m1, L_0, L_1, L_10, L_20, L_1000, L_10000, iI_add, iI_sub, iI_mul, iI_neg, iI_lt, iI_le, iI_eq, iI_max, iI_min, iI_l, jI_i, jI_add, jI_sub, jI_mul, jI_lt, jI_le, jI_eq, kmp_pos, kmp_neg, kmp_le, kmp_ge, if_pos, if_neg, if_true, if_false, true_or, or_true, Option.bind_some, xl, xg]
          · simp (disch := omega) only [FM_settle, FM_isChange, Rl.fd R0 33 (by decide) (by decide), Rl.ld R0 37 40 (by decide) rfl, l_0, l_1, l_2, l_3, l_4, l_5, l_6, l_7, l_8, l_9, l_10, l_12, l_13, l_14, l_15, l_16, l_20, l_21, l_40, l_60, l_78, l_199, l_200, l_300, l_599, l_600, l_601, l_602, l_1000, l_1638, l_10000, l_65536, l_100000, l_1000000, l_m1, L_0, L_1, L_10, L_20, L_1000, L_10000, iI_add, iI_sub, iI_mul, iI_neg, iI_lt, iI_le, iI_eq, iI_max, iI_min, iI_l, jI_i, jI_add, jI_sub, jI_mul, jI_lt, jI_le, jI_eq, kmp_pos, kmp_neg, kmp_le, kmp_ge, if_pos, if_neg, if_true, if_false, true_or, or_true, Option.bind_some, xl, xg]
        obtain ⟨q1, h2, q2, q3⟩ := Jgo0 R M O I C R0 (fun M => u_settle M e2)
        refine ⟨_, h, h2, ?_, q1, q2, q3⟩
        simp (disch := omega) only [F_X10_settle, R.obj C.k, ew.1, some_ne, R.getI hH (j := 3) rfl, c_within, l_0, l_1, l_2, l_3, l_4, l_5, l_6, l_7, l_8, l_9, l_10, l_12, l_13, l_14, l_15, l_16, l_20, l_21, l_40, l_60, l_78, l_199, l_200, l_300, l_599, l_600, l_601, l_602, l_1000, l_1638, l_10000, l_65536, l_100000, l_1000000, l_m1, L_0, L_1, L_10, L_20, L_1000, L_10000, iI_add, iI_sub, iI_mul, iI_neg, iI_lt, iI_le, iI_eq, iI_max, iI_min, iI_l, jI_i, jI_add, jI_sub, jI_mul, jI_lt, jI_le, jI_eq, kmp_pos, kmp_neg, kmp_le, kmp_ge, if_pos, if_neg, if_true, if_false, true_or, or_true, Option.bind_some, xl, xg]
    · have e2 : FM_settle s (iI c) (iI t) = some (iI 0, mI s 0 (iI 0)) := by
        simp (disch := omega) only [FM_settle, FM_isChange, Rl.fd R0 33 (by decide) (by decide), Rl.ld R0 37 40 (by decide) rfl, l_0, l_1, l_2, l_3, l_4, l_5, l_6, l_7, l_8, l_9, l_10, l_12, l_13, l_14, l_15, l_16, l_20, l_21, l_40, l_60, l_78, l_199, l_200, l_300, l_599, l_600, l_601, l_602, l_1000, l_1638, l_10000, l_65536, l_100000, l_1000000, l_m1, L_0, L_1, L_10, L_20, L_1000, L_10000, iI_add, iI_sub, iI_mul, iI_neg, iI_lt, iI_le, iI_eq, iI_max, iI_min, iI_l, jI_i, jI_add, jI_sub, jI_mul, jI_lt, jI_le, jI_eq, kmp_pos, kmp_neg, kmp_le, kmp_ge, if_pos, if_neg, if_true, if_false, true_or, or_true, Option.bind_some, xl, xg]
      obtain ⟨q1, h2, q2, q3⟩ := Jgo0 R M O I C R0 (fun M => u_settle M e2)
      refine ⟨_, h, h2, ?_, q1, q2, q3⟩
      simp (disch := omega) only [F_X10_settle, R.obj C.k, ew.1, some_ne, R.getI hH (j := 3) rfl, l_0, l_1, l_2, l_3, l_4, l_5, l_6, l_7, l_8, l_9, l_10, l_12, l_13, l_14, l_15, l_16, l_20, l_21, l_40, l_60, l_78, l_199, l_200, l_300, l_599, l_600, l_601, l_602, l_1000, l_1638, l_10000, l_65536, l_100000, l_1000000, l_m1, L_0, L_1, L_10, L_20, L_1000, L_10000, iI_add, iI_sub, iI_mul, iI_neg, iI_lt, iI_le, iI_eq, iI_max, iI_min, iI_l, jI_i, jI_add, jI_sub, jI_mul, jI_lt, jI_le, jI_eq, kmp_pos, kmp_neg, kmp_le, kmp_ge, if_pos, if_neg, if_true, if_false, true_or, or_true, Option.bind_some, xl, xg]
  · have ew := c_changeAtX R C t0 t1 (by omega) (by omega) c1
    have e2 : FM_settle s (iI c) (iI t) = some (iI 0, mI s 0 (iI 0)) := by
      by_cases c2 : c < 0
      · simp (disch := omega) only [FM_settle, FM_isChange, Rl.fd R0 33 (by decide) (by decide), l_0, l_1, l_2, l_3, l_4, l_5, l_6, l_7, l_8, l_9, l_10, l_12, l_13, l_14, l_15, l_16, l_20, l_21, l_40, l_60, l_78, l_199, l_200, l_300, l_599, l_600, l_601, l_602, l_1000, l_1638, l_10000, l_65536, l_100000, l_1000000, l_m1, L_0, L_1, L_10, L_20, L_1000, L_10000, iI_add, iI_sub, iI_mul, iI_neg, iI_lt, iI_le, iI_eq, iI_max, iI_min, iI_l, jI_i, jI_add, jI_sub, jI_mul, jI_lt, jI_le, jI_eq, kmp_pos, kmp_neg, kmp_le, kmp_ge, if_pos, if_neg, if_true, if_false, true_or, or_true, Option.bind_some, xl, xg]
      · simp (disch := omega) only [FM_settle, FM_isChange, Rl.fd R0 33 (by decide) (by decide), l_0, l_1, l_2, l_3, l_4, l_5, l_6, l_7, l_8, l_9, l_10, l_12, l_13, l_14, l_15, l_16, l_20, l_21, l_40, l_60, l_78, l_199, l_200, l_300, l_599, l_600, l_601, l_602, l_1000, l_1638, l_10000, l_65536, l_100000, l_1000000, l_m1, L_0, L_1, L_10, L_20, L_1000, L_10000, iI_add, iI_sub, iI_mul, iI_neg, iI_lt, iI_le, iI_eq, iI_max, iI_min, iI_l, jI_i, jI_add, jI_sub, jI_mul, jI_lt, jI_le, jI_eq, kmp_pos, kmp_neg, kmp_le, kmp_ge, if_pos, if_neg, if_true, if_false, true_or, or_true, Option.bind_some, xl, xg]
    obtain ⟨q1, h2, q2, q3⟩ := Jgo0 R M O I C R0 (fun M => u_settle M e2)
    refine ⟨_, h, h2, ?_, q1, q2, q3⟩
    simp (disch := omega) only [F_X10_settle, R.obj C.k, ew, none_eq, l_0, l_1, l_2, l_3, l_4, l_5, l_6, l_7, l_8, l_9, l_10, l_12, l_13, l_14, l_15, l_16, l_20, l_21, l_40, l_60, l_78, l_199, l_200, l_300, l_599, l_600, l_601, l_602, l_1000, l_1638, l_10000, l_65536, l_100000, l_1000000, l_m1, L_0, L_1, L_10, L_20, L_1000, L_10000, iI_add, iI_sub, iI_mul, iI_neg, iI_lt, iI_le, iI_eq, iI_max, iI_min, iI_l, jI_i, jI_add, jI_sub, jI_mul, jI_lt, jI_le, jI_eq, kmp_pos, kmp_neg, kmp_le, kmp_ge, if_pos, if_neg, if_true, if_false, true_or, or_true, Option.bind_some, xl, xg]
