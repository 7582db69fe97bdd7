/-! count -/
section CNU
variable {G : Nat → Nat} {h : xH} {ad : Nat → Nat → Nat} {P : xP} {s : mS} {v : Nat → Int} {a : Nat → Int → Int} {el : Int → Int → Int} {cn : Int → Int}
/-- what count answers, when its arguments are right -/
def kz (v : Nat → Int) (a : Nat → Int → Int) (s n t A : Int) : Int := if a 8 (200 * s + n) = 0 then (if t ≤ v 9 then (if v 9 - a 4 s ≤ t then (if a 6 (601 * s + t) + A ≤ a 5 s then 0 else 5) else 4) else 3) else 2
theorem c_refusal (R : Rep G h ad P) (C : Cc G ad P v a el cn) (I : Iv v a) {s n t A : Int} (s0 : 0 ≤ s) (s1 : s < v 2) (n0 : 0 ≤ n) (n1 : n < 200) (t0 : 0 ≤ t) (t1 : t < 2147483648) (A0 : 0 ≤ A) (A1 : A ≤ 1000) : F_X8_refusal G h (ad 8 s.toNat) (iI n) (iI t) (iI A) (iI (v 9)) = some (iI (kz v a s n t A)) := by
  have hc := C.2.2.2.1 s s0 s1
  have i9 := I.2.2.1
  have hs := I.2.2.2.2.2.2.2.2.1 s s0 s1
  have i2 := I.2.1
  have x8 := R.ai (g := cl 200 (fun t => a 8 (200 * s + t))) hc.2.2 (fun _ => rfl) n0 n1 (by decide)
  rw [cl_in n1] at x8
  have h8 := (I.2.2.2.2.2.2.2.2.2.2.1 s n s0 (by omega) n0 n1).1
  unfold kz F_X8_refusal
  by_cases c1 : a 8 (200 * s + n) = 0
  · by_cases c2 : t ≤ v 9
    · by_cases c3 : v 9 - a 4 s ≤ t
      · have x6 := R.ai (g := cl 601 (fun t => a 6 (601 * s + t))) hc.2.1 (fun _ => rfl) t0 (by omega) (by decide)
        rw [cl_in (show t < 601 by omega)] at x6
        have h6 := I.2.2.2.2.2.2.2.2.2.1 s t s0 (by omega) t0 (by omega)
        by_cases c4 : a 6 (601 * s + t) + A ≤ a 5 s
        · simp (disch := omega) only [F_X8_isOpen, R.obj hc.1, R.getI hc.1 (j := 0) rfl, R.getI hc.1 (j := 2) rfl, R.getR hc.1 (j := 3) rfl, R.getR hc.1 (j := 4) rfl, x8, x6, l_0, l_1, l_2, l_3, l_4, l_5, l_6, l_7, l_8, l_9, l_10, l_12, l_13, l_14, l_15, l_16, l_20, l_21, l_40, l_60, l_78, l_199, l_200, l_300, l_599, l_600, l_601, l_602, l_1000, l_1638, l_10000, l_65536, l_100000, l_1000000, l_m1, L_0, L_1, L_10, L_20, L_1000, L_10000, iI_add, iI_sub, iI_mul, iI_neg, iI_lt, iI_le, iI_eq, iI_max, iI_min, iI_l, jI_i, jI_add, jI_sub, jI_mul, jI_lt, jI_le, jI_eq, kmp_pos, kmp_neg, kmp_le, kmp_ge, if_pos, if_neg, if_true, if_false, true_or, or_true, Option.bind_some, xl, xg]
        · simp (disch := omega) only [F_X8_isOpen, R.obj hc.1, R.getI hc.1 (j := 0) rfl, R.getI hc.1 (j := 2) rfl, R.getR hc.1 (j := 3) rfl, R.getR hc.1 (j := 4) rfl, x8, x6, l_0, l_1, l_2, l_3, l_4, l_5, l_6, l_7, l_8, l_9, l_10, l_12, l_13, l_14, l_15, l_16, l_20, l_21, l_40, l_60, l_78, l_199, l_200, l_300, l_599, l_600, l_601, l_602, l_1000, l_1638, l_10000, l_65536, l_100000, l_1000000, l_m1, L_0, L_1, L_10, L_20, L_1000, L_10000, iI_add, iI_sub, iI_mul, iI_neg, iI_lt, iI_le, iI_eq, iI_max, iI_min, iI_l, jI_i, jI_add, jI_sub, jI_mul, jI_lt, jI_le, jI_eq, kmp_pos, kmp_neg, kmp_le, kmp_ge, if_pos, if_neg, if_true, if_false, true_or, or_true, Option.bind_some, xl, xg]
      · simp (disch := omega) only [F_X8_isOpen, R.obj hc.1, R.getI hc.1 (j := 0) rfl, R.getR hc.1 (j := 4) rfl, x8, l_0, l_1, l_2, l_3, l_4, l_5, l_6, l_7, l_8, l_9, l_10, l_12, l_13, l_14, l_15, l_16, l_20, l_21, l_40, l_60, l_78, l_199, l_200, l_300, l_599, l_600, l_601, l_602, l_1000, l_1638, l_10000, l_65536, l_100000, l_1000000, l_m1, L_0, L_1, L_10, L_20, L_1000, L_10000, iI_add, iI_sub, iI_mul, iI_neg, iI_lt, iI_le, iI_eq, iI_max, iI_min, iI_l, jI_i, jI_add, jI_sub, jI_mul, jI_lt, jI_le, jI_eq, kmp_pos, kmp_neg, kmp_le, kmp_ge, if_pos, if_neg, if_true, if_false, true_or, or_true, Option.bind_some, xl, xg]
    · simp (disch := omega) only [R.getR hc.1 (j := 4) rfl, x8, l_0, l_1, l_2, l_3, l_4, l_5, l_6, l_7, l_8, l_9, l_10, l_12, l_13, l_14, l_15, l_16, l_20, l_21, l_40, l_60, l_78, l_199, l_200, l_300, l_599, l_600, l_601, l_602, l_1000, l_1638, l_10000, l_65536, l_100000, l_1000000, l_m1, L_0, L_1, L_10, L_20, L_1000, L_10000, iI_add, iI_sub, iI_mul, iI_neg, iI_lt, iI_le, iI_eq, iI_max, iI_min, iI_l, jI_i, jI_add, jI_sub, jI_mul, jI_lt, jI_le, jI_eq, kmp_pos, kmp_neg, kmp_le, kmp_ge, if_pos, if_neg, if_true, if_false, true_or, or_true, Option.bind_some, xl, xg]
  · simp (disch := omega) only [R.getR hc.1 (j := 4) rfl, x8, l_0, l_1, l_2, l_3, l_4, l_5, l_6, l_7, l_8, l_9, l_10, l_12, l_13, l_14, l_15, l_16, l_20, l_21, l_40, l_60, l_78, l_199, l_200, l_300, l_599, l_600, l_601, l_602, l_1000, l_1638, l_10000, l_65536, l_100000, l_1000000, l_m1, L_0, L_1, L_10, L_20, L_1000, L_10000, iI_add, iI_sub, iI_mul, iI_neg, iI_lt, iI_le, iI_eq, iI_max, iI_min, iI_l, jI_i, jI_add, jI_sub, jI_mul, jI_lt, jI_le, jI_eq, kmp_pos, kmp_neg, kmp_le, kmp_ge, if_pos, if_neg, if_true, if_false, true_or, or_true, Option.bind_some, xl, xg]
end CNU
set_option maxHeartbeats 4000000 in
theorem js_count (G : Nat → Nat) (x m out : Nat) : sJ_count (fun _ => Jx G x m out) G x m := by
  rintro i h ⟨ad, P, s, v, a, el, cn, ⟨rfl, rfl, rfl⟩, R, M, O, L, I, C⟩ a1 a2 a3 a4 a5
  obtain ⟨r, rfl, r0, r1⟩ := iI_arg a1
  obtain ⟨n, rfl, n0, n1⟩ := iI_arg a2
  obtain ⟨t, rfl, t0, t1⟩ := iI_arg a3
  obtain ⟨g, rfl, g0, g1⟩ := iI_arg a4
  obtain ⟨b, rfl, b0, b1⟩ := iI_arg a5
  have R0 := L.m0 (iI 0)
  have i2 := I.2.1
  have i9 := I.2.2.1
  by_cases c1 : 0 ≤ r ∧ r < v 2
  · have ew := c_sourceAt R C c1.1 c1.2 (by omega)
    by_cases c2 : 0 ≤ n ∧ n ≤ 199 ∧ 0 ≤ t ∧ 0 ≤ g ∧ 0 ≤ b ∧ g + b ≤ 1000
    · have er := c_refusal R C I (s := r) (n := n) (t := t) (A := g + b) c1.1 c1.2 (by omega) (by omega) (by omega) (by omega) (by omega) (by omega)
      have hs := I.2.2.2.2.2.2.2.2.1 r c1.1 c1.2
      have h8 := (I.2.2.2.2.2.2.2.2.2.2.1 r n c1.1 (by omega) (by omega) (by omega)).1
      unfold kz at er
      by_cases d1 : a 8 (200 * r + n) = 0
      · rw [if_pos d1] at er
        by_cases d2 : t ≤ v 9
        · rw [if_pos d2] at er
          by_cases d3 : v 9 - a 4 r ≤ t
          · rw [if_pos d3] at er
            have h6 := I.2.2.2.2.2.2.2.2.2.1 r t c1.1 (by omega) (by omega) (by omega)
            by_cases d4 : a 6 (601 * r + t) + (g + b) ≤ a 5 r
            · rw [if_pos d4] at er
              obtain ⟨s2, f1, L1⟩ := R0.st 8 3200 (by decide) rfl (z := 200 * r + n) (w := 1) (by omega) (by omega)
              obtain ⟨s3, f2, L2⟩ := L1.st 6 9616 (by decide) rfl (z := 601 * r + t) (w := a 6 (601 * r + t) + (g + b)) (by omega) (by omega)
              obtain ⟨s4, f3, L3⟩ := L2.st 7 9616 (by decide) rfl (z := 601 * r + t) (w := a 7 (601 * r + t) + b) (by omega) (by omega)
              have L4 := L3.mI 10 (v 10 + 1)
              obtain ⟨h4, h5, P5, e1, e2, e3, R5, F5, C5⟩ := c_take R C I (s := r) (n := n) (t := t) (A := g + b) (B := b) c1.1 c1.2 (by omega) (by omega) (by omega) (by omega)
              have I5 := ka_iv I (s := r) (n := n) (t := t) (A := g + b) (B := b) (z := v 10 + 1) c1.1 c1.2 (by omega) (by omega) (by omega) (by omega) (by omega) (by omega) d4
              have ef : FM_count s (iI r) (iI n) (iI t) (iI g) (iI b) = some (iI 0, mI s4 10 (iI (v 10 + 1))) := by
                have w6 : a 6 (601 * r + t) + g + b = a 6 (601 * r + t) + (g + b) := by omega
                simp (disch := omega) only [FM_count, Rl.fd R0 2 (by decide) (by decide), Rl.fd R0 9 (by decide) (by decide), Rl.ld R0 4 16 (by decide) rfl, Rl.ld R0 5 16 (by decide) rfl, Rl.ld R0 6 9616 (by decide) rfl, Rl.ld R0 8 3200 (by decide) rfl, nar_1, f1, Rl.ld L1 6 9616 (by decide) rfl, ta_n, f2, Rl.ld L2 7 9616 (by decide) rfl, f3, Rl.fd L3 10 (by decide) (by decide), l_0, l_1, l_2, l_3, l_4, l_5, l_6, l_7, l_8, l_9, l_10, l_12, l_13, l_14, l_15, l_16, l_20, l_21, l_40, l_60, l_78, l_199, l_200, l_300, l_599, l_600, l_601, l_602, l_1000, l_1638, l_10000, l_65536, l_100000, l_1000000, l_m1, L_0, L_1, L_10, L_20, L_1000, L_10000, iI_add, iI_sub, iI_mul, iI_neg, iI_lt, iI_le, iI_eq, iI_max, iI_min, iI_l, jI_i, jI_add, jI_sub, jI_mul, jI_lt, jI_le, jI_eq, kmp_pos, kmp_neg, kmp_le, kmp_ge, if_pos, if_neg, if_true, if_false, true_or, or_true, Option.bind_some, xl, xg, w6]
              obtain ⟨q1, h6, q2, q3⟩ := Jgo F5 M O R5 C5 I5 L4 (fun M => u_count M ef)
              refine ⟨_, h5, h6, ?_, q1, q2, q3⟩
              simp (disch := omega) only [F_X10_count, R.obj C.k, ew.1, ew.2, some_ne, R.getI C.k (j := 8) rfl, c_within, er, e1, e2, e3, l_0, l_1, l_2, l_3, l_4, l_5, l_6, l_7, l_8, l_9, l_10, l_12, l_13, l_14, l_15, l_16, l_20, l_21, l_40, l_60, l_78, l_199, l_200, l_300, l_599, l_600, l_601, l_602, l_1000, l_1638, l_10000, l_65536, l_100000, l_1000000, l_m1, L_0, L_1, L_10, L_20, L_1000, L_10000, iI_add, iI_sub, iI_mul, iI_neg, iI_lt, iI_le, iI_eq, iI_max, iI_min, iI_l, jI_i, jI_add, jI_sub, jI_mul, jI_lt, jI_le, jI_eq, kmp_pos, kmp_neg, kmp_le, kmp_ge, if_pos, if_neg, if_true, if_false, true_or, or_true, Option.bind_some, xl, xg]
            · rw [if_neg d4] at er
              have ef : FM_count s (iI r) (iI n) (iI t) (iI g) (iI b) = some (iI 5, mI s 0 (iI 0)) := by
                simp (disch := omega) only [FM_count, Rl.fd R0 2 (by decide) (by decide), Rl.fd R0 9 (by decide) (by decide), Rl.ld R0 4 16 (by decide) rfl, Rl.ld R0 5 16 (by decide) rfl, Rl.ld R0 6 9616 (by decide) rfl, Rl.ld R0 8 3200 (by decide) rfl, l_0, l_1, l_2, l_3, l_4, l_5, l_6, l_7, l_8, l_9, l_10, l_12, l_13, l_14, l_15, l_16, l_20, l_21, l_40, l_60, l_78, l_199, l_200, l_300, l_599, l_600, l_601, l_602, l_1000, l_1638, l_10000, l_65536, l_100000, l_1000000, l_m1, L_0, L_1, L_10, L_20, L_1000, L_10000, iI_add, iI_sub, iI_mul, iI_neg, iI_lt, iI_le, iI_eq, iI_max, iI_min, iI_l, jI_i, jI_add, jI_sub, jI_mul, jI_lt, jI_le, jI_eq, kmp_pos, kmp_neg, kmp_le, kmp_ge, if_pos, if_neg, if_true, if_false, true_or, or_true, Option.bind_some, xl, xg]
              obtain ⟨q1, h6, q2, q3⟩ := Jgo0 R M O I C R0 (fun M => u_count M ef)
              refine ⟨_, h, h6, ?_, q1, q2, q3⟩
              simp (disch := omega) only [F_X10_count, R.obj C.k, ew.1, ew.2, some_ne, R.getI C.k (j := 8) rfl, c_within, er, l_0, l_1, l_2, l_3, l_4, l_5, l_6, l_7, l_8, l_9, l_10, l_12, l_13, l_14, l_15, l_16, l_20, l_21, l_40, l_60, l_78, l_199, l_200, l_300, l_599, l_600, l_601, l_602, l_1000, l_1638, l_10000, l_65536, l_100000, l_1000000, l_m1, L_0, L_1, L_10, L_20, L_1000, L_10000, iI_add, iI_sub, iI_mul, iI_neg, iI_lt, iI_le, iI_eq, iI_max, iI_min, iI_l, jI_i, jI_add, jI_sub, jI_mul, jI_lt, jI_le, jI_eq, kmp_pos, kmp_neg, kmp_le, kmp_ge, if_pos, if_neg, if_true, if_false, true_or, or_true, Option.bind_some, xl, xg]
          · rw [if_neg d3] at er
            have ef : FM_count s (iI r) (iI n) (iI t) (iI g) (iI b) = some (iI 4, mI s 0 (iI 0)) := by
              simp (disch := omega) only [FM_count, Rl.fd R0 2 (by decide) (by decide), Rl.fd R0 9 (by decide) (by decide), Rl.ld R0 4 16 (by decide) rfl, Rl.ld R0 5 16 (by decide) rfl, Rl.ld R0 6 9616 (by decide) rfl, Rl.ld R0 8 3200 (by decide) rfl, l_0, l_1, l_2, l_3, l_4, l_5, l_6, l_7, l_8, l_9, l_10, l_12, l_13, l_14, l_15, l_16, l_20, l_21, l_40, l_60, l_78, l_199, l_200, l_300, l_599, l_600, l_601, l_602, l_1000, l_1638, l_10000, l_65536, l_100000, l_1000000, l_m1, L_0, L_1, L_10, L_20, L_1000, L_10000, iI_add, iI_sub, iI_mul, iI_neg, iI_lt, iI_le, iI_eq, iI_max, iI_min, iI_l, jI_i, jI_add, jI_sub, jI_mul, jI_lt, jI_le, jI_eq, kmp_pos, kmp_neg, kmp_le, kmp_ge, if_pos, if_neg, if_true, if_false, true_or, or_true, Option.bind_some, xl, xg]
            obtain ⟨q1, h6, q2, q3⟩ := Jgo0 R M O I C R0 (fun M => u_count M ef)
            refine ⟨_, h, h6, ?_, q1, q2, q3⟩
            simp (disch := omega) only [F_X10_count, R.obj C.k, ew.1, ew.2, some_ne, R.getI C.k (j := 8) rfl, c_within, er, l_0, l_1, l_2, l_3, l_4, l_5, l_6, l_7, l_8, l_9, l_10, l_12, l_13, l_14, l_15, l_16, l_20, l_21, l_40, l_60, l_78, l_199, l_200, l_300, l_599, l_600, l_601, l_602, l_1000, l_1638, l_10000, l_65536, l_100000, l_1000000, l_m1, L_0, L_1, L_10, L_20, L_1000, L_10000, iI_add, iI_sub, iI_mul, iI_neg, iI_lt, iI_le, iI_eq, iI_max, iI_min, iI_l, jI_i, jI_add, jI_sub, jI_mul, jI_lt, jI_le, jI_eq, kmp_pos, kmp_neg, kmp_le, kmp_ge, if_pos, if_neg, if_true, if_false, true_or, or_true, Option.bind_some, xl, xg]
        · rw [if_neg d2] at er
          have ef : FM_count s (iI r) (iI n) (iI t) (iI g) (iI b) = some (iI 3, mI s 0 (iI 0)) := by
            simp (disch := omega) only [FM_count, Rl.fd R0 2 (by decide) (by decide), Rl.fd R0 9 (by decide) (by decide), Rl.ld R0 4 16 (by decide) rfl, Rl.ld R0 5 16 (by decide) rfl, Rl.ld R0 8 3200 (by decide) rfl, l_0, l_1, l_2, l_3, l_4, l_5, l_6, l_7, l_8, l_9, l_10, l_12, l_13, l_14, l_15, l_16, l_20, l_21, l_40, l_60, l_78, l_199, l_200, l_300, l_599, l_600, l_601, l_602, l_1000, l_1638, l_10000, l_65536, l_100000, l_1000000, l_m1, L_0, L_1, L_10, L_20, L_1000, L_10000, iI_add, iI_sub, iI_mul, iI_neg, iI_lt, iI_le, iI_eq, iI_max, iI_min, iI_l, jI_i, jI_add, jI_sub, jI_mul, jI_lt, jI_le, jI_eq, kmp_pos, kmp_neg, kmp_le, kmp_ge, if_pos, if_neg, if_true, if_false, true_or, or_true, Option.bind_some, xl, xg]
          obtain ⟨q1, h6, q2, q3⟩ := Jgo0 R M O I C R0 (fun M => u_count M ef)
          refine ⟨_, h, h6, ?_, q1, q2, q3⟩
          simp (disch := omega) only [F_X10_count, R.obj C.k, ew.1, ew.2, some_ne, R.getI C.k (j := 8) rfl, c_within, er, l_0, l_1, l_2, l_3, l_4, l_5, l_6, l_7, l_8, l_9, l_10, l_12, l_13, l_14, l_15, l_16, l_20, l_21, l_40, l_60, l_78, l_199, l_200, l_300, l_599, l_600, l_601, l_602, l_1000, l_1638, l_10000, l_65536, l_100000, l_1000000, l_m1, L_0, L_1, L_10, L_20, L_1000, L_10000, iI_add, iI_sub, iI_mul, iI_neg, iI_lt, iI_le, iI_eq, iI_max, iI_min, iI_l, jI_i, jI_add, jI_sub, jI_mul, jI_lt, jI_le, jI_eq, kmp_pos, kmp_neg, kmp_le, kmp_ge, if_pos, if_neg, if_true, if_false, true_or, or_true, Option.bind_some, xl, xg]
      · rw [if_neg d1] at er
        obtain ⟨h1, P1, e1, R1, o1, q1⟩ := R.sf' C.k (j := 10) (by simp) (.int (iI (v 11 + 1)))
        have L1 := R0.mI 11 (v 11 + 1)
        have C1 : Cc G ad P1 (tv v 11 (v 11 + 1)) a el cn := by
          obtain ⟨z0, z1, z2, z3, z4, z5, z6, z7, z8, z9, z10⟩ := C
          exact ⟨o1, z1.c fun k q i => q1 k i (by omega), cS.c (P := P) z2 fun k q i => q1 k i (by omega), cO.c (P := P) z3 fun k q i => q1 k i (by omega), cP.c (P := P) z4 fun k q i => q1 k i (by omega), cT.c (P := P) z5 fun k q i => q1 k i (by omega), cA.c (P := P) z6 fun k q i => q1 k i (by omega), cH.c (P := P) z7 fun k q i => q1 k i (by omega), cL.c (P := P) z8 fun k q i => q1 k i (by omega), z9.c fun k q i => q1 k i (by omega), z10⟩
        have I1 : Iv (tv v 11 (v 11 + 1)) a := I
        have ef : FM_count s (iI r) (iI n) (iI t) (iI g) (iI b) = some (iI 2, mI (mI s 0 (iI 0)) 11 (iI (v 11 + 1))) := by
          simp (disch := omega) only [FM_count, Rl.fd R0 2 (by decide) (by decide), Rl.fd R0 9 (by decide) (by decide), Rl.fd R0 11 (by decide) (by decide), Rl.ld R0 4 16 (by decide) rfl, Rl.ld R0 5 16 (by decide) rfl, Rl.ld R0 8 3200 (by decide) rfl, l_0, l_1, l_2, l_3, l_4, l_5, l_6, l_7, l_8, l_9, l_10, l_12, l_13, l_14, l_15, l_16, l_20, l_21, l_40, l_60, l_78, l_199, l_200, l_300, l_599, l_600, l_601, l_602, l_1000, l_1638, l_10000, l_65536, l_100000, l_1000000, l_m1, L_0, L_1, L_10, L_20, L_1000, L_10000, iI_add, iI_sub, iI_mul, iI_neg, iI_lt, iI_le, iI_eq, iI_max, iI_min, iI_l, jI_i, jI_add, jI_sub, jI_mul, jI_lt, jI_le, jI_eq, kmp_pos, kmp_neg, kmp_le, kmp_ge, if_pos, if_neg, if_true, if_false, true_or, or_true, Option.bind_some, xl, xg]
        obtain ⟨y1, h6, y2, y3⟩ := Jgo (Fr.of fun k i hk => q1 k i (by omega)) M O R1 C1 I1 L1 (fun M => u_count M ef)
        refine ⟨_, h1, h6, ?_, y1, y2, y3⟩
        simp (disch := omega) only [F_X10_count, R.obj C.k, ew.1, ew.2, some_ne, R.getI C.k (j := 8) rfl, R.getI C.k (j := 10) rfl, c_within, er, e1, l_0, l_1, l_2, l_3, l_4, l_5, l_6, l_7, l_8, l_9, l_10, l_12, l_13, l_14, l_15, l_16, l_20, l_21, l_40, l_60, l_78, l_199, l_200, l_300, l_599, l_600, l_601, l_602, l_1000, l_1638, l_10000, l_65536, l_100000, l_1000000, l_m1, L_0, L_1, L_10, L_20, L_1000, L_10000, iI_add, iI_sub, iI_mul, iI_neg, iI_lt, iI_le, iI_eq, iI_max, iI_min, iI_l, jI_i, jI_add, jI_sub, jI_mul, jI_lt, jI_le, jI_eq, kmp_pos, kmp_neg, kmp_le, kmp_ge, if_pos, if_neg, if_true, if_false, true_or, or_true, Option.bind_some, xl, xg]
    · have ef : FM_count s (iI r) (iI n) (iI t) (iI g) (iI b) = some (iI 1, mI s 0 (iI 0)) := by
        unfold FM_count
        simp only [xl, l_0, l_1, l_199, l_1000, Rl.fd R0 2 (by decide) (by decide), iI_add]
        rw [if_neg (by (first | rw [iI_lt (by omega) (by omega) (by omega) (by omega)] | rw [iI_le (by omega) (by omega) (by omega) (by omega)] | rw [iI_eq (by omega) (by omega) (by omega) (by omega)]); omega), if_neg (by (first | rw [iI_lt (by omega) (by omega) (by omega) (by omega)] | rw [iI_le (by omega) (by omega) (by omega) (by omega)] | rw [iI_eq (by omega) (by omega) (by omega) (by omega)]); omega)]
        by_cases d1 : n < 0
        · rw [if_pos (by (first | rw [iI_lt (by omega) (by omega) (by omega) (by omega)] | rw [iI_le (by omega) (by omega) (by omega) (by omega)] | rw [iI_eq (by omega) (by omega) (by omega) (by omega)]); omega)]
        · rw [if_neg (by (first | rw [iI_lt (by omega) (by omega) (by omega) (by omega)] | rw [iI_le (by omega) (by omega) (by omega) (by omega)] | rw [iI_eq (by omega) (by omega) (by omega) (by omega)]); omega)]
          by_cases d2 : 199 < n
          · rw [if_pos (by (first | rw [iI_lt (by omega) (by omega) (by omega) (by omega)] | rw [iI_le (by omega) (by omega) (by omega) (by omega)] | rw [iI_eq (by omega) (by omega) (by omega) (by omega)]); omega)]
          · rw [if_neg (by (first | rw [iI_lt (by omega) (by omega) (by omega) (by omega)] | rw [iI_le (by omega) (by omega) (by omega) (by omega)] | rw [iI_eq (by omega) (by omega) (by omega) (by omega)]); omega)]
            by_cases d3 : t < 0
            · rw [if_pos (by (first | rw [iI_lt (by omega) (by omega) (by omega) (by omega)] | rw [iI_le (by omega) (by omega) (by omega) (by omega)] | rw [iI_eq (by omega) (by omega) (by omega) (by omega)]); omega)]
            · rw [if_neg (by (first | rw [iI_lt (by omega) (by omega) (by omega) (by omega)] | rw [iI_le (by omega) (by omega) (by omega) (by omega)] | rw [iI_eq (by omega) (by omega) (by omega) (by omega)]); omega)]
              by_cases d4 : g < 0
              · rw [if_pos (by (first | rw [iI_lt (by omega) (by omega) (by omega) (by omega)] | rw [iI_le (by omega) (by omega) (by omega) (by omega)] | rw [iI_eq (by omega) (by omega) (by omega) (by omega)]); omega)]
              · rw [if_neg (by (first | rw [iI_lt (by omega) (by omega) (by omega) (by omega)] | rw [iI_le (by omega) (by omega) (by omega) (by omega)] | rw [iI_eq (by omega) (by omega) (by omega) (by omega)]); omega)]
                by_cases d5 : b < 0
                · rw [if_pos (by (first | rw [iI_lt (by omega) (by omega) (by omega) (by omega)] | rw [iI_le (by omega) (by omega) (by omega) (by omega)] | rw [iI_eq (by omega) (by omega) (by omega) (by omega)]); omega)]
                · rw [if_neg (by (first | rw [iI_lt (by omega) (by omega) (by omega) (by omega)] | rw [iI_le (by omega) (by omega) (by omega) (by omega)] | rw [iI_eq (by omega) (by omega) (by omega) (by omega)]); omega)]
                  by_cases d6 : 1000 < g
                  · rw [if_pos (by (first | rw [iI_lt (by omega) (by omega) (by omega) (by omega)] | rw [iI_le (by omega) (by omega) (by omega) (by omega)] | rw [iI_eq (by omega) (by omega) (by omega) (by omega)]); omega)]
                  · rw [if_neg (by (first | rw [iI_lt (by omega) (by omega) (by omega) (by omega)] | rw [iI_le (by omega) (by omega) (by omega) (by omega)] | rw [iI_eq (by omega) (by omega) (by omega) (by omega)]); omega)]
                    by_cases d7 : 1000 < b
                    · rw [if_pos (by (first | rw [iI_lt (by omega) (by omega) (by omega) (by omega)] | rw [iI_le (by omega) (by omega) (by omega) (by omega)] | rw [iI_eq (by omega) (by omega) (by omega) (by omega)]); omega)]
                    · rw [if_neg (by (first | rw [iI_lt (by omega) (by omega) (by omega) (by omega)] | rw [iI_le (by omega) (by omega) (by omega) (by omega)] | rw [iI_eq (by omega) (by omega) (by omega) (by omega)]); omega), if_neg (by (first | rw [iI_lt (by omega) (by omega) (by omega) (by omega)] | rw [iI_le (by omega) (by omega) (by omega) (by omega)] | rw [iI_eq (by omega) (by omega) (by omega) (by omega)]); omega)]
      obtain ⟨q1, h6, q2, q3⟩ := Jgo0 R M O I C R0 (fun M => u_count M ef)
      refine ⟨_, h, h6, ?_, q1, q2, q3⟩
      have wi : F_X10_within (iI n) 0 199 = some (iI (if 0 ≤ n ∧ n ≤ 199 then 1 else 0)) := c_within (x := n) (y := 0) (z := 199) (by omega) (by omega) (by omega) (by omega) (by omega) (by omega)
      unfold F_X10_count
      rw [R.obj C.k, Option.bind_some, ew.1, Option.bind_some, if_neg (by simp), wi, Option.bind_some]
      by_cases d1 : 0 ≤ n ∧ n ≤ 199
      · rw [if_pos d1, if_neg (by decide)]
        by_cases d3 : t < 0
        · rw [l_0, if_pos ((iI_lt (by omega) (by omega) (by omega) (by omega)).mpr d3)]; rfl
        · rw [l_0, if_neg (fun z => d3 ((iI_lt (by omega) (by omega) (by omega) (by omega)).mp z))]
          by_cases d4 : g < 0
          · rw [if_pos ((iI_lt (by omega) (by omega) (by omega) (by omega)).mpr d4)]; rfl
          · rw [if_neg (fun z => d4 ((iI_lt (by omega) (by omega) (by omega) (by omega)).mp z))]
            by_cases d5 : b < 0
            · rw [if_pos ((iI_lt (by omega) (by omega) (by omega) (by omega)).mpr d5)]; rfl
            · rw [if_neg (fun z => d5 ((iI_lt (by omega) (by omega) (by omega) (by omega)).mp z)), l_1000, iI_sub, if_neg (fun z => by rw [iI_le (by omega) (by omega) (by omega) (by omega)] at z; omega)]; rfl
      · rw [if_neg d1, if_pos (by decide)]; rfl
  · have ew := c_sourceAtX R C r0 r1 (by omega) (by omega) c1
    have ef : FM_count s (iI r) (iI n) (iI t) (iI g) (iI b) = some (iI 1, mI s 0 (iI 0)) := by
      unfold FM_count
      simp only [xl, l_0, l_1, Rl.fd R0 2 (by decide) (by decide)]
      by_cases d1 : r < 0
      · rw [if_pos (by (first | rw [iI_lt (by omega) (by omega) (by omega) (by omega)] | rw [iI_le (by omega) (by omega) (by omega) (by omega)] | rw [iI_eq (by omega) (by omega) (by omega) (by omega)]); omega)]
      · rw [if_neg (by (first | rw [iI_lt (by omega) (by omega) (by omega) (by omega)] | rw [iI_le (by omega) (by omega) (by omega) (by omega)] | rw [iI_eq (by omega) (by omega) (by omega) (by omega)]); omega), if_pos (by (first | rw [iI_lt (by omega) (by omega) (by omega) (by omega)] | rw [iI_le (by omega) (by omega) (by omega) (by omega)] | rw [iI_eq (by omega) (by omega) (by omega) (by omega)]); omega)]
    obtain ⟨q1, h6, q2, q3⟩ := Jgo0 R M O I C R0 (fun M => u_count M ef)
    refine ⟨_, h, h6, ?_, q1, q2, q3⟩
    unfold F_X10_count
    rw [R.obj C.k, Option.bind_some, ew, Option.bind_some, if_pos rfl]; rfl
