/-! the class's promises -/
section CLP
variable {G : Nat → Nat} {h : xH} {ad : Nat → Nat → Nat} {P : xP} {v : Nat → Int} {a : Nat → Int → Int} {el : Int → Int → Int} {cn : Int → Int}
theorem c_slack (R : Rep G h ad P) (C : Cc G ad P v a el cn) {p : Int} (p0 : 0 ≤ p) (p1 : p < v 15) : F_X6_slack G h (ad 6 p.toNat) = some (iI (1000 - a 18 p)) := by
  have hc := C.2.2.2.2.1 p p0 p1
  simp only [F_X6_slack, R.getI hc.1 (j := 2) rfl, Option.bind_some, l_1000, iI_sub]
theorem c_leftOf (R : Rep G h ad P) (C : Cc G ad P v a el cn) (I : Iv v a) {p A B : Int} (p0 : 0 ≤ p) (p1 : p < v 15) (hA : 0 ≤ A) (hA1 : A ≤ 100000000) : F_X6_leftOf G h (ad 6 p.toNat) (iI A) (iI B) = some (iI (lf a p A B)) := by
  have hc := C.2.2.2.2.1 p p0 p1
  have hp' := I.2.2.2.2.2.2.2.2.2.2.2.1 p p0 p1
  have h2 := lf_mul hA hp'.2.2.2.2.1 hp'.2.2.2.2.2.1
  have h3 : 0 ≤ A * (1000 - a 18 p) / 1000 ∧ A * (1000 - a 18 p) / 1000 ≤ A := by
    generalize A * (1000 - a 18 p) = X at *
    omega
  simp (disch := omega) only [F_X6_leftOf, R.obj hc.1, c_slack R C p0 p1, Option.bind_some, iI_l, jI_mul, L_1000, jI_div, jI_i, iI_sub]
  rfl
theorem c_first (R : Rep G h ad P) (C : Cc G ad P v a el cn) (I : Iv v a) {p t : Int} (p0 : 0 ≤ p) (p1 : p < v 15) (h0 : 0 ≤ t) (h1 : t ≤ 600) : F_X6_firstOfSpan G h (ad 6 p.toNat) (iI t) = some (iI (fi a p t)) := by
  have hc := C.2.2.2.2.1 p p0 p1
  have hp' := I.2.2.2.2.2.2.2.2.2.2.2.1 p p0 p1
  have hd := div_b h0 (show 0 < a 17 p by omega)
  unfold F_X6_firstOfSpan fi
  by_cases c : a 19 p = 0
  · simp (disch := omega) only [R.getI hc.1 (j := 3) rfl, R.getI hc.1 (j := 1) rfl, l_0, l_1, l_2, l_3, l_4, l_5, l_6, l_7, l_8, l_9, l_10, l_12, l_13, l_14, l_15, l_16, l_20, l_21, l_40, l_60, l_78, l_199, l_200, l_300, l_599, l_600, l_601, l_602, l_1000, l_1638, l_10000, l_65536, l_100000, l_1000000, l_m1, L_0, L_1, L_10, L_20, L_1000, L_10000, iI_add, iI_sub, iI_mul, iI_neg, iI_lt, iI_le, iI_eq, iI_max, iI_min, iI_l, jI_i, jI_add, jI_sub, jI_mul, jI_lt, jI_le, jI_eq, kmp_pos, kmp_neg, kmp_le, kmp_ge, if_pos, if_neg, if_true, if_false, true_or, or_true, Option.bind_some, xl, xg]
  · simp (disch := omega) only [R.getI hc.1 (j := 3) rfl, R.getI hc.1 (j := 1) rfl, iI_div, l_0, l_1, l_2, l_3, l_4, l_5, l_6, l_7, l_8, l_9, l_10, l_12, l_13, l_14, l_15, l_16, l_20, l_21, l_40, l_60, l_78, l_199, l_200, l_300, l_599, l_600, l_601, l_602, l_1000, l_1638, l_10000, l_65536, l_100000, l_1000000, l_m1, L_0, L_1, L_10, L_20, L_1000, L_10000, iI_add, iI_sub, iI_mul, iI_neg, iI_lt, iI_le, iI_eq, iI_max, iI_min, iI_l, jI_i, jI_add, jI_sub, jI_mul, jI_lt, jI_le, jI_eq, kmp_pos, kmp_neg, kmp_le, kmp_ge, if_pos, if_neg, if_true, if_false, true_or, or_true, Option.bind_some, xl, xg]
    congr 2; omega
theorem c_last (R : Rep G h ad P) (C : Cc G ad P v a el cn) (I : Iv v a) {p t : Int} (p0 : 0 ≤ p) (p1 : p < v 15) (h0 : 0 ≤ t) (h1 : t ≤ 600) : F_X6_lastOfSpan G h (ad 6 p.toNat) (iI t) = some (iI (la a p t)) := by
  have hc := C.2.2.2.2.1 p p0 p1
  have hp' := I.2.2.2.2.2.2.2.2.2.2.2.1 p p0 p1
  have hd := div_b h0 (show 0 < a 17 p by omega)
  have e := c_first R C I p0 p1 h0 h1
  unfold F_X6_lastOfSpan la
  by_cases c : a 19 p = 0
  · simp (disch := omega) only [R.getI hc.1 (j := 3) rfl, l_0, l_1, l_2, l_3, l_4, l_5, l_6, l_7, l_8, l_9, l_10, l_12, l_13, l_14, l_15, l_16, l_20, l_21, l_40, l_60, l_78, l_199, l_200, l_300, l_599, l_600, l_601, l_602, l_1000, l_1638, l_10000, l_65536, l_100000, l_1000000, l_m1, L_0, L_1, L_10, L_20, L_1000, L_10000, iI_add, iI_sub, iI_mul, iI_neg, iI_lt, iI_le, iI_eq, iI_max, iI_min, iI_l, jI_i, jI_add, jI_sub, jI_mul, jI_lt, jI_le, jI_eq, kmp_pos, kmp_neg, kmp_le, kmp_ge, if_pos, if_neg, if_true, if_false, true_or, or_true, Option.bind_some, xl, xg]
  · have e2 : fi a p t = t / a 17 p * a 17 p := if_neg c
    rw [e2] at e
    simp (disch := omega) only [R.getI hc.1 (j := 3) rfl, R.getI hc.1 (j := 1) rfl, R.obj hc.1, e, l_0, l_1, l_2, l_3, l_4, l_5, l_6, l_7, l_8, l_9, l_10, l_12, l_13, l_14, l_15, l_16, l_20, l_21, l_40, l_60, l_78, l_199, l_200, l_300, l_599, l_600, l_601, l_602, l_1000, l_1638, l_10000, l_65536, l_100000, l_1000000, l_m1, L_0, L_1, L_10, L_20, L_1000, L_10000, iI_add, iI_sub, iI_mul, iI_neg, iI_lt, iI_le, iI_eq, iI_max, iI_min, iI_l, jI_i, jI_add, jI_sub, jI_mul, jI_lt, jI_le, jI_eq, kmp_pos, kmp_neg, kmp_le, kmp_ge, if_pos, if_neg, if_true, if_false, true_or, or_true, Option.bind_some, xl, xg]
theorem c_isIn (R : Rep G h ad P) (C : Cc G ad P v a el cn) {p t : Int} (p0 : 0 ≤ p) (p1 : p < v 15) (h0 : 0 ≤ t) (h1 : t ≤ 600) : F_X6_isIn G h (ad 6 p.toNat) (iI t) = some (iI (1 - gl a p t)) := by
  have hc := C.2.2.2.2.1 p p0 p1
  unfold F_X6_isIn
  rcases gl_01 a p t with g | g
  · simp (disch := omega) only [R.getR hc.1 (j := 4) rfl, R.ai (g := gl a p) hc.2 (fun _ => rfl), g, l_0, l_1, l_2, l_3, l_4, l_5, l_6, l_7, l_8, l_9, l_10, l_12, l_13, l_14, l_15, l_16, l_20, l_21, l_40, l_60, l_78, l_199, l_200, l_300, l_599, l_600, l_601, l_602, l_1000, l_1638, l_10000, l_65536, l_100000, l_1000000, l_m1, L_0, L_1, L_10, L_20, L_1000, L_10000, iI_add, iI_sub, iI_mul, iI_neg, iI_lt, iI_le, iI_eq, iI_max, iI_min, iI_l, jI_i, jI_add, jI_sub, jI_mul, jI_lt, jI_le, jI_eq, kmp_pos, kmp_neg, kmp_le, kmp_ge, if_pos, if_neg, if_true, if_false, true_or, or_true, Option.bind_some, xl, xg]
    rfl
  · simp (disch := omega) only [R.getR hc.1 (j := 4) rfl, R.ai (g := gl a p) hc.2 (fun _ => rfl), g, l_0, l_1, l_2, l_3, l_4, l_5, l_6, l_7, l_8, l_9, l_10, l_12, l_13, l_14, l_15, l_16, l_20, l_21, l_40, l_60, l_78, l_199, l_200, l_300, l_599, l_600, l_601, l_602, l_1000, l_1638, l_10000, l_65536, l_100000, l_1000000, l_m1, L_0, L_1, L_10, L_20, L_1000, L_10000, iI_add, iI_sub, iI_mul, iI_neg, iI_lt, iI_le, iI_eq, iI_max, iI_min, iI_l, jI_i, jI_add, jI_sub, jI_mul, jI_lt, jI_le, jI_eq, kmp_pos, kmp_neg, kmp_le, kmp_ge, if_pos, if_neg, if_true, if_false, true_or, or_true, Option.bind_some, xl, xg]
    rfl
theorem c_asksAt (R : Rep G h ad P) (C : Cc G ad P v a el cn) (I : Iv v a) {p t : Int} (p0 : 0 ≤ p) (p1 : p < v 15) (h0 : 0 ≤ t) (h1 : t ≤ 600) : F_X6_asksAt G h (ad 6 p.toNat) (iI t) = some (iI (na v a p t)) := by
  have hc := C.2.2.2.2.1 p p0 p1
  have hp' := I.2.2.2.2.2.2.2.2.2.2.2.1 p p0 p1
  have hs := C.2.2.1 (a 16 p) (by omega) (by omega)
  have e := c_isIn R C p0 p1 h0 h1
  unfold F_X6_asksAt F_X7_asksAt na
  rcases gl_01 a p t with g | g
  · rw [g] at e
    simp (disch := omega) only [R.obj hc.1, e, R.getR hc.1 (j := 0) rfl, R.obj hs.1, R.getR hs.1 (j := 1) rfl, R.ai (g := cl 601 (qa v a (a 16 p))) hs.2.1 (fun _ => rfl), cl_in, g, Int.sub_zero, l_0, l_1, l_2, l_3, l_4, l_5, l_6, l_7, l_8, l_9, l_10, l_12, l_13, l_14, l_15, l_16, l_20, l_21, l_40, l_60, l_78, l_199, l_200, l_300, l_599, l_600, l_601, l_602, l_1000, l_1638, l_10000, l_65536, l_100000, l_1000000, l_m1, L_0, L_1, L_10, L_20, L_1000, L_10000, iI_add, iI_sub, iI_mul, iI_neg, iI_lt, iI_le, iI_eq, iI_max, iI_min, iI_l, jI_i, jI_add, jI_sub, jI_mul, jI_lt, jI_le, jI_eq, kmp_pos, kmp_neg, kmp_le, kmp_ge, if_pos, if_neg, if_true, if_false, true_or, or_true, Option.bind_some, xl, xg]
  · rw [g] at e
    simp (disch := omega) only [R.obj hc.1, e, g, Int.sub_self, l_0, l_1, l_2, l_3, l_4, l_5, l_6, l_7, l_8, l_9, l_10, l_12, l_13, l_14, l_15, l_16, l_20, l_21, l_40, l_60, l_78, l_199, l_200, l_300, l_599, l_600, l_601, l_602, l_1000, l_1638, l_10000, l_65536, l_100000, l_1000000, l_m1, L_0, L_1, L_10, L_20, L_1000, L_10000, iI_add, iI_sub, iI_mul, iI_neg, iI_lt, iI_le, iI_eq, iI_max, iI_min, iI_l, jI_i, jI_add, jI_sub, jI_mul, jI_lt, jI_le, jI_eq, kmp_pos, kmp_neg, kmp_le, kmp_ge, if_pos, if_neg, if_true, if_false, true_or, or_true, Option.bind_some, xl, xg]
theorem c_badAt (R : Rep G h ad P) (C : Cc G ad P v a el cn) (I : Iv v a) {p t : Int} (p0 : 0 ≤ p) (p1 : p < v 15) (h0 : 0 ≤ t) (h1 : t ≤ 600) : F_X6_badAt G h (ad 6 p.toNat) (iI t) = some (iI (nb v a p t)) := by
  have hc := C.2.2.2.2.1 p p0 p1
  have hp' := I.2.2.2.2.2.2.2.2.2.2.2.1 p p0 p1
  have hs := C.2.2.1 (a 16 p) (by omega) (by omega)
  have e := c_isIn R C p0 p1 h0 h1
  unfold F_X6_badAt F_X7_badAt nb
  rcases gl_01 a p t with g | g
  · rw [g] at e
    simp (disch := omega) only [R.obj hc.1, e, R.getR hc.1 (j := 0) rfl, R.obj hs.1, R.getR hs.1 (j := 2) rfl, R.ai (g := cl 601 (qb v a (a 16 p))) hs.2.2 (fun _ => rfl), cl_in, g, Int.sub_zero, l_0, l_1, l_2, l_3, l_4, l_5, l_6, l_7, l_8, l_9, l_10, l_12, l_13, l_14, l_15, l_16, l_20, l_21, l_40, l_60, l_78, l_199, l_200, l_300, l_599, l_600, l_601, l_602, l_1000, l_1638, l_10000, l_65536, l_100000, l_1000000, l_m1, L_0, L_1, L_10, L_20, L_1000, L_10000, iI_add, iI_sub, iI_mul, iI_neg, iI_lt, iI_le, iI_eq, iI_max, iI_min, iI_l, jI_i, jI_add, jI_sub, jI_mul, jI_lt, jI_le, jI_eq, kmp_pos, kmp_neg, kmp_le, kmp_ge, if_pos, if_neg, if_true, if_false, true_or, or_true, Option.bind_some, xl, xg]
  · rw [g] at e
    simp (disch := omega) only [R.obj hc.1, e, g, Int.sub_self, l_0, l_1, l_2, l_3, l_4, l_5, l_6, l_7, l_8, l_9, l_10, l_12, l_13, l_14, l_15, l_16, l_20, l_21, l_40, l_60, l_78, l_199, l_200, l_300, l_599, l_600, l_601, l_602, l_1000, l_1638, l_10000, l_65536, l_100000, l_1000000, l_m1, L_0, L_1, L_10, L_20, L_1000, L_10000, iI_add, iI_sub, iI_mul, iI_neg, iI_lt, iI_le, iI_eq, iI_max, iI_min, iI_l, jI_i, jI_add, jI_sub, jI_mul, jI_lt, jI_le, jI_eq, kmp_pos, kmp_neg, kmp_le, kmp_ge, if_pos, if_neg, if_true, if_false, true_or, or_true, Option.bind_some, xl, xg]
theorem c_asks (R : Rep G h ad P) (C : Cc G ad P v a el cn) (I : Iv v a) {p t : Int} (p0 : 0 ≤ p) (p1 : p < v 15) (h0 : 0 ≤ t) (h1 : t ≤ 600) : F_X6_asks G h (ad 6 p.toNat) (iI t) = some (iI (SA v a p t)) := by
  have hc := C.2.2.2.2.1 p p0 p1
  have hb := fi_b I p0 p1 h0 h1
  simp only [F_X6_asks, R.obj hc.1, c_first R C I p0 p1 h0 h1, c_last R C I p0 p1 h0 h1, Option.bind_some]
  unfold SA
  generalize fi a p t = lo at *
  generalize la a p t = hi at *
  refine up_eq (fun n (q : Int32 × Int32) => F_X6_asks_15 G h (ad 6 p.toNat) (iI hi) n q.1 q.2) (fun i q => lo ≤ i ∧ q = (iI (pr (na v a p) i - pr (na v a p) lo), iI i)) _ (hi + 1) ?_ ?_ xN lo (0, iI lo) ⟨by omega, by rw [Int.sub_self]; rfl⟩ (by omega) (by unfold xN; omega)
  · rintro n j q ⟨hj, rfl⟩ hlt
    right
    refine ⟨_, ⟨by omega, rfl⟩, ?_⟩
    dsimp only
    simp only [pr_1 _ (show 0 ≤ j by omega)]
    simp (disch := omega) only [F_X6_asks_15, R.obj hc.1, c_asksAt R C I p0 p1 (show 0 ≤ j by omega) (show j ≤ 600 by omega), l_0, l_1, l_2, l_3, l_4, l_5, l_6, l_7, l_8, l_9, l_10, l_12, l_13, l_14, l_15, l_16, l_20, l_21, l_40, l_60, l_78, l_199, l_200, l_300, l_599, l_600, l_601, l_602, l_1000, l_1638, l_10000, l_65536, l_100000, l_1000000, l_m1, L_0, L_1, L_10, L_20, L_1000, L_10000, iI_add, iI_sub, iI_mul, iI_neg, iI_lt, iI_le, iI_eq, iI_max, iI_min, iI_l, jI_i, jI_add, jI_sub, jI_mul, jI_lt, jI_le, jI_eq, kmp_pos, kmp_neg, kmp_le, kmp_ge, if_pos, if_neg, if_true, if_false, true_or, or_true, Option.bind_some, xl, xg]
    congr 2; omega
  · rintro n q ⟨hj, rfl⟩
    dsimp only
    simp (disch := omega) only [F_X6_asks_15, l_0, l_1, l_2, l_3, l_4, l_5, l_6, l_7, l_8, l_9, l_10, l_12, l_13, l_14, l_15, l_16, l_20, l_21, l_40, l_60, l_78, l_199, l_200, l_300, l_599, l_600, l_601, l_602, l_1000, l_1638, l_10000, l_65536, l_100000, l_1000000, l_m1, L_0, L_1, L_10, L_20, L_1000, L_10000, iI_add, iI_sub, iI_mul, iI_neg, iI_lt, iI_le, iI_eq, iI_max, iI_min, iI_l, jI_i, jI_add, jI_sub, jI_mul, jI_lt, jI_le, jI_eq, kmp_pos, kmp_neg, kmp_le, kmp_ge, if_pos, if_neg, if_true, if_false, true_or, or_true, Option.bind_some, xl, xg]
theorem c_bad (R : Rep G h ad P) (C : Cc G ad P v a el cn) (I : Iv v a) {p t : Int} (p0 : 0 ≤ p) (p1 : p < v 15) (h0 : 0 ≤ t) (h1 : t ≤ 600) : F_X6_bad G h (ad 6 p.toNat) (iI t) = some (iI (SB v a p t)) := by
  have hc := C.2.2.2.2.1 p p0 p1
  have hb := fi_b I p0 p1 h0 h1
  simp only [F_X6_bad, R.obj hc.1, c_first R C I p0 p1 h0 h1, c_last R C I p0 p1 h0 h1, Option.bind_some]
  unfold SB
  generalize fi a p t = lo at *
  generalize la a p t = hi at *
  refine up_eq (fun n (q : Int32 × Int32) => F_X6_bad_15 G h (ad 6 p.toNat) (iI hi) n q.1 q.2) (fun i q => lo ≤ i ∧ q = (iI (pr (nb v a p) i - pr (nb v a p) lo), iI i)) _ (hi + 1) ?_ ?_ xN lo (0, iI lo) ⟨by omega, by rw [Int.sub_self]; rfl⟩ (by omega) (by unfold xN; omega)
  · rintro n j q ⟨hj, rfl⟩ hlt
    right
    refine ⟨_, ⟨by omega, rfl⟩, ?_⟩
    dsimp only
    simp only [pr_1 _ (show 0 ≤ j by omega)]
    simp (disch := omega) only [F_X6_bad_15, R.obj hc.1, c_badAt R C I p0 p1 (show 0 ≤ j by omega) (show j ≤ 600 by omega), l_0, l_1, l_2, l_3, l_4, l_5, l_6, l_7, l_8, l_9, l_10, l_12, l_13, l_14, l_15, l_16, l_20, l_21, l_40, l_60, l_78, l_199, l_200, l_300, l_599, l_600, l_601, l_602, l_1000, l_1638, l_10000, l_65536, l_100000, l_1000000, l_m1, L_0, L_1, L_10, L_20, L_1000, L_10000, iI_add, iI_sub, iI_mul, iI_neg, iI_lt, iI_le, iI_eq, iI_max, iI_min, iI_l, jI_i, jI_add, jI_sub, jI_mul, jI_lt, jI_le, jI_eq, kmp_pos, kmp_neg, kmp_le, kmp_ge, if_pos, if_neg, if_true, if_false, true_or, or_true, Option.bind_some, xl, xg]
    congr 2; omega
  · rintro n q ⟨hj, rfl⟩
    dsimp only
    simp (disch := omega) only [F_X6_bad_15, l_0, l_1, l_2, l_3, l_4, l_5, l_6, l_7, l_8, l_9, l_10, l_12, l_13, l_14, l_15, l_16, l_20, l_21, l_40, l_60, l_78, l_199, l_200, l_300, l_599, l_600, l_601, l_602, l_1000, l_1638, l_10000, l_65536, l_100000, l_1000000, l_m1, L_0, L_1, L_10, L_20, L_1000, L_10000, iI_add, iI_sub, iI_mul, iI_neg, iI_lt, iI_le, iI_eq, iI_max, iI_min, iI_l, jI_i, jI_add, jI_sub, jI_mul, jI_lt, jI_le, jI_eq, kmp_pos, kmp_neg, kmp_le, kmp_ge, if_pos, if_neg, if_true, if_false, true_or, or_true, Option.bind_some, xl, xg]
theorem c_toComeS (R : Rep G h ad P) (C : Cc G ad P v a el cn) (I : Iv v a) {p t : Int} (p0 : 0 ≤ p) (p1 : p < v 15) (h0 : 0 ≤ t) (h1 : t ≤ 600) : F_X6_toCome G h (ad 6 p.toNat) (iI t) (iI (v 9)) = some (iI (SO v a p t)) := by
  have hc := C.2.2.2.2.1 p p0 p1
  have hb := fi_b I p0 p1 h0 h1
  have hp' := I.2.2.2.2.2.2.2.2.2.2.2.1 p p0 p1
  have hs := C.2.2.1 (a 16 p) (by omega) (by omega)
  simp only [F_X6_toCome, R.obj hc.1, c_first R C I p0 p1 h0 h1, c_last R C I p0 p1 h0 h1, Option.bind_some]
  unfold SO
  generalize fi a p t = lo at *
  generalize la a p t = hi at *
  refine up_eq (fun n (q : Int32 × Int32) => F_X6_toCome_16 G h (ad 6 p.toNat) (iI (v 9)) (iI hi) n q.1 q.2) (fun i q => lo ≤ i ∧ q = (iI (pr (no v a p) i - pr (no v a p) lo), iI i)) _ (hi + 1) ?_ ?_ xN lo (0, iI lo) ⟨by omega, by rw [Int.sub_self]; rfl⟩ (by omega) (by unfold xN; omega)
  · rintro n j q ⟨hj, rfl⟩ hlt
    right
    refine ⟨_, ⟨by omega, rfl⟩, ?_⟩
    dsimp only
    simp only [pr_1 _ (show 0 ≤ j by omega)]
    have e := c_isIn R C p0 p1 (show 0 ≤ j by omega) (show j ≤ 600 by omega)
    rcases gl_01 a p j with g | g
    · rw [g] at e
      have e2 : no v a p j = qo v a (a 16 p) j := if_pos g
      simp (disch := omega) only [F_X6_toCome_16, R.obj hc.1, e, R.getR hc.1 (j := 0) rfl, R.obj hs.1, c_toComeAt R C I (show 0 ≤ a 16 p by omega) (show a 16 p < v 1 by omega) (show 0 ≤ j by omega) (show j ≤ 600 by omega), e2, Int.sub_zero, l_0, l_1, l_2, l_3, l_4, l_5, l_6, l_7, l_8, l_9, l_10, l_12, l_13, l_14, l_15, l_16, l_20, l_21, l_40, l_60, l_78, l_199, l_200, l_300, l_599, l_600, l_601, l_602, l_1000, l_1638, l_10000, l_65536, l_100000, l_1000000, l_m1, L_0, L_1, L_10, L_20, L_1000, L_10000, iI_add, iI_sub, iI_mul, iI_neg, iI_lt, iI_le, iI_eq, iI_max, iI_min, iI_l, jI_i, jI_add, jI_sub, jI_mul, jI_lt, jI_le, jI_eq, kmp_pos, kmp_neg, kmp_le, kmp_ge, if_pos, if_neg, if_true, if_false, true_or, or_true, Option.bind_some, xl, xg]
      congr 2; omega
    · rw [g] at e
      have e2 : no v a p j = 0 := if_neg (by omega)
      simp (disch := omega) only [F_X6_toCome_16, R.obj hc.1, e, e2, Int.sub_self, Int.add_zero, l_0, l_1, l_2, l_3, l_4, l_5, l_6, l_7, l_8, l_9, l_10, l_12, l_13, l_14, l_15, l_16, l_20, l_21, l_40, l_60, l_78, l_199, l_200, l_300, l_599, l_600, l_601, l_602, l_1000, l_1638, l_10000, l_65536, l_100000, l_1000000, l_m1, L_0, L_1, L_10, L_20, L_1000, L_10000, iI_add, iI_sub, iI_mul, iI_neg, iI_lt, iI_le, iI_eq, iI_max, iI_min, iI_l, jI_i, jI_add, jI_sub, jI_mul, jI_lt, jI_le, jI_eq, kmp_pos, kmp_neg, kmp_le, kmp_ge, if_pos, if_neg, if_true, if_false, true_or, or_true, Option.bind_some, xl, xg]
  · rintro n q ⟨hj, rfl⟩
    dsimp only
    simp (disch := omega) only [F_X6_toCome_16, l_0, l_1, l_2, l_3, l_4, l_5, l_6, l_7, l_8, l_9, l_10, l_12, l_13, l_14, l_15, l_16, l_20, l_21, l_40, l_60, l_78, l_199, l_200, l_300, l_599, l_600, l_601, l_602, l_1000, l_1638, l_10000, l_65536, l_100000, l_1000000, l_m1, L_0, L_1, L_10, L_20, L_1000, L_10000, iI_add, iI_sub, iI_mul, iI_neg, iI_lt, iI_le, iI_eq, iI_max, iI_min, iI_l, jI_i, jI_add, jI_sub, jI_mul, jI_lt, jI_le, jI_eq, kmp_pos, kmp_neg, kmp_le, kmp_ge, if_pos, if_neg, if_true, if_false, true_or, or_true, Option.bind_some, xl, xg]
theorem c_left (R : Rep G h ad P) (C : Cc G ad P v a el cn) (I : Iv v a) {p t : Int} (p0 : 0 ≤ p) (p1 : p < v 15) (h0 : 0 ≤ t) (h1 : t ≤ 600) : F_X6_left G h (ad 6 p.toNat) (iI t) = some (iI (lf a p (SA v a p t) (SB v a p t))) := by
  have hc := C.2.2.2.2.1 p p0 p1
  have hb := SA_b I p0 p1 h0 h1
  simp only [F_X6_left, R.obj hc.1, c_asks R C I p0 p1 h0 h1, c_bad R C I p0 p1 h0 h1, Option.bind_some, c_leftOf R C I p0 p1 (A := SA v a p t) (B := SB v a p t) (by omega) (by omega)]
theorem c_leastLeft (R : Rep G h ad P) (C : Cc G ad P v a el cn) (I : Iv v a) {p t : Int} (p0 : 0 ≤ p) (p1 : p < v 15) (h0 : 0 ≤ t) (h1 : t ≤ 600) : F_X6_leastLeft G h (ad 6 p.toNat) (iI t) (iI (v 9)) = some (iI (lf a p (SA v a p t + SO v a p t) (SB v a p t + SO v a p t))) := by
  have hc := C.2.2.2.2.1 p p0 p1
  have hb := SA_b I p0 p1 h0 h1
  simp only [F_X6_leastLeft, R.obj hc.1, c_toComeS R C I p0 p1 h0 h1, c_asks R C I p0 p1 h0 h1, c_bad R C I p0 p1 h0 h1, Option.bind_some, iI_add, c_leftOf R C I p0 p1 (A := SA v a p t + SO v a p t) (B := SB v a p t + SO v a p t) (by omega) (by omega)]
theorem c_mostLeft (R : Rep G h ad P) (C : Cc G ad P v a el cn) (I : Iv v a) {p t : Int} (p0 : 0 ≤ p) (p1 : p < v 15) (h0 : 0 ≤ t) (h1 : t ≤ 600) : F_X6_mostLeft G h (ad 6 p.toNat) (iI t) (iI (v 9)) = some (iI (lf a p (SA v a p t + SO v a p t) (SB v a p t))) := by
  have hc := C.2.2.2.2.1 p p0 p1
  have hb := SA_b I p0 p1 h0 h1
  simp only [F_X6_mostLeft, R.obj hc.1, c_toComeS R C I p0 p1 h0 h1, c_asks R C I p0 p1 h0 h1, c_bad R C I p0 p1 h0 h1, Option.bind_some, iI_add, c_leftOf R C I p0 p1 (A := SA v a p t + SO v a p t) (B := SB v a p t) (by omega) (by omega)]
theorem c_settled (R : Rep G h ad P) (C : Cc G ad P v a el cn) (I : Iv v a) {p t : Int} (p0 : 0 ≤ p) (p1 : p < v 15) (h0 : 0 ≤ t) (h1 : t ≤ 600) {l z : Int} (hl : Lst a p (fi a p t) (la a p t + 1) l) (hz : Stl v a (a 16 p) l (v 2) z) : F_X6_settledFrom G h (ad 6 p.toNat) (iI t) = some (iI z) := by
  have hc := C.2.2.2.2.1 p p0 p1
  have hb := fi_b I p0 p1 h0 h1
  have i2 := I.2.1
  have hp' := I.2.2.2.2.2.2.2.2.2.2.2.1 p p0 p1
  have w0 : 0 ≤ a 16 p := by omega
  have w1 : a 16 p < v 1 := by omega
  have hs := C.2.2.1 (a 16 p) w0 w1
  have hli := C.2.1.2.2.2.2.2 (a 16 p) w0 w1
  obtain ⟨⟨n0, n1⟩, hx, hsum, hin⟩ := C.2.2.2.2.2.2.2.2.2.2 (a 16 p) w0 w1
  have e1 := hli.size R
  have e2 := hli.emp R n0 (by omega)
  obtain ⟨z0, z1, z2, z3⟩ := hz
  unfold F_X6_settledFrom
  simp only [R.getR hc.1 (j := 0) rfl, R.getR hs.1 (j := 0) rfl, e1.1, e2, Option.bind_some]
  by_cases c : cn (a 16 p) = 0
  · have ez : z = 0 := by
      by_cases q : l < 0
      · exact z2 q
      · rcases (z3 (by omega)).2 with ⟨q, -⟩ | ⟨s, s0, s1, s2, -⟩
        · exact q
        · obtain ⟨x, x0, x1, -⟩ := hin s s0 s1 s2
          omega
    rw [if_pos c, ez, if_neg (by decide), l_0]
  · have cpos : 0 < cn (a 16 p) := by omega
    rw [if_neg c, if_pos (show iI 0 = 0 from rfl)]
    simp only [R.obj hc.1, c_first R C I p0 p1 h0 h1, c_last R C I p0 p1 h0 h1, Option.bind_some]
    obtain ⟨y, ey, y0, y1, y2, y3⟩ := c_latest R C I w0 w1
    have key : ∀ (n : Nat) (j : Int), fi a p t - 1 ≤ j → j ≤ la a p t → l ≤ j → (∀ q, j < q → q ≤ la a p t → gl a p q = 1) → j - fi a p t + 1 < n → F_X6_settledFrom_29 G h (ad 6 p.toNat) (iI (fi a p t)) n (iI j) = some (iI z) := by
      intro n
      induction n with
      | zero => intro j h2 h3 h4 h5 h6; omega
      | succ n ih =>
        intro j h2 h3 h4 h5 h6
        by_cases q : j < fi a p t
        · have : z = 0 := by
            apply z2
            rcases hl with ⟨q1, -⟩ | ⟨q1, q2, q3, -⟩
            · omega
            · omega
          rw [this]
          simp (disch := omega) only [F_X6_settledFrom_29, l_0, l_1, l_2, l_3, l_4, l_5, l_6, l_7, l_8, l_9, l_10, l_12, l_13, l_14, l_15, l_16, l_20, l_21, l_40, l_60, l_78, l_199, l_200, l_300, l_599, l_600, l_601, l_602, l_1000, l_1638, l_10000, l_65536, l_100000, l_1000000, l_m1, L_0, L_1, L_10, L_20, L_1000, L_10000, iI_add, iI_sub, iI_mul, iI_neg, iI_lt, iI_le, iI_eq, iI_max, iI_min, iI_l, jI_i, jI_add, jI_sub, jI_mul, jI_lt, jI_le, jI_eq, kmp_pos, kmp_neg, kmp_le, kmp_ge, if_pos, if_neg, if_true, if_false, true_or, or_true, Option.bind_some, xl, xg]
        · have e := c_isIn R C p0 p1 (show 0 ≤ j by omega) (show j ≤ 600 by omega)
          rcases gl_01 a p j with g | g
          · rw [g] at e
            have el' : l = j := by
              rcases hl with ⟨q1, q2⟩ | ⟨q1, q2, q3, q4⟩
              · have := q2 j (by omega) (by omega); omega
              · by_cases q5 : l < j
                · have := q4 j q5 (by omega); omega
                · omega
            have ez : z = j + y + 1 := by
              obtain ⟨z4, z5⟩ := z3 (by omega)
              have hx0 := hx 0 (Int.le_refl 0) cpos
              rcases z5 with ⟨-, z5⟩ | ⟨s, s0, s1, s2, s3⟩
              · exact absurd hx0.2.2 (z5 _ hx0.1 hx0.2.1)
              · obtain ⟨x, x0, x1, x2⟩ := hin s s0 s1 s2
                have := y2 x x0 x1
                rw [x2] at this
                rcases y3 with y3 | ⟨x', x0', x1', x2'⟩
                · have := I.2.2.2.2.2.2.2.2.1 s s0 s1
                  omega
                · have hx1 := hx x' x0' x1'
                  have := z4 _ hx1.1 hx1.2.1 hx1.2.2
                  omega
            rw [ez]
            simp (disch := omega) only [F_X6_settledFrom_29, R.obj hc.1, e, R.getR hc.1 (j := 0) rfl, R.obj hs.1, ey, Int.sub_zero, l_0, l_1, l_2, l_3, l_4, l_5, l_6, l_7, l_8, l_9, l_10, l_12, l_13, l_14, l_15, l_16, l_20, l_21, l_40, l_60, l_78, l_199, l_200, l_300, l_599, l_600, l_601, l_602, l_1000, l_1638, l_10000, l_65536, l_100000, l_1000000, l_m1, L_0, L_1, L_10, L_20, L_1000, L_10000, iI_add, iI_sub, iI_mul, iI_neg, iI_lt, iI_le, iI_eq, iI_max, iI_min, iI_l, jI_i, jI_add, jI_sub, jI_mul, jI_lt, jI_le, jI_eq, kmp_pos, kmp_neg, kmp_le, kmp_ge, if_pos, if_neg, if_true, if_false, true_or, or_true, Option.bind_some, xl, xg]
          · rw [g] at e
            have h7 : l ≠ j := by
              rintro rfl
              rcases hl with ⟨q1, q2⟩ | ⟨q1, q2, q3, q4⟩ <;> omega
            have := ih (j + -1) (by omega) (by omega) (by omega) (fun q q1 q2 => if q3 : q = j then q3 ▸ g else h5 q (by omega) q2) (by omega)
            rw [← this]
            simp (disch := omega) only [F_X6_settledFrom_29, R.obj hc.1, e, Int.sub_self, l_0, l_1, l_2, l_3, l_4, l_5, l_6, l_7, l_8, l_9, l_10, l_12, l_13, l_14, l_15, l_16, l_20, l_21, l_40, l_60, l_78, l_199, l_200, l_300, l_599, l_600, l_601, l_602, l_1000, l_1638, l_10000, l_65536, l_100000, l_1000000, l_m1, L_0, L_1, L_10, L_20, L_1000, L_10000, iI_add, iI_sub, iI_mul, iI_neg, iI_lt, iI_le, iI_eq, iI_max, iI_min, iI_l, jI_i, jI_add, jI_sub, jI_mul, jI_lt, jI_le, jI_eq, kmp_pos, kmp_neg, kmp_le, kmp_ge, if_pos, if_neg, if_true, if_false, true_or, or_true, Option.bind_some, xl, xg]
    exact key xN (la a p t) (by omega) (by omega) (by rcases hl with ⟨q1, q2⟩ | ⟨q1, q2, q3, q4⟩ <;> omega) (fun q _ _ => by omega) (by unfold xN; omega)
theorem c_verdict (R : Rep G h ad P) (C : Cc G ad P v a el cn) (I : Iv v a) {p t : Int} (p0 : 0 ≤ p) (p1 : p < v 15) (h0 : 0 ≤ t) (h1 : t ≤ 600) : F_X6_verdict G h (ad 6 p.toNat) (iI t) (iI (v 9)) = some (iI (if 0 ≤ lf a p (SA v a p t + SO v a p t) (SB v a p t + SO v a p t) then 1 else if lf a p (SA v a p t + SO v a p t) (SB v a p t) < 0 then 2 else 0)) := by
  have hc := C.2.2.2.2.1 p p0 p1
  have hb := SA_b I p0 p1 h0 h1
  have hp' := I.2.2.2.2.2.2.2.2.2.2.2.1 p p0 p1
  have b2 := @lf_b a p (SA v a p t + SO v a p t) (SB v a p t + SO v a p t) (by omega) (by omega) (by omega)
  have b3 := @lf_b a p (SA v a p t + SO v a p t) (SB v a p t) (by omega) (by omega) (by omega)
  unfold F_X6_verdict
  simp only [R.obj hc.1, c_leastLeft R C I p0 p1 h0 h1, c_mostLeft R C I p0 p1 h0 h1, Option.bind_some]
  by_cases c : 0 ≤ lf a p (SA v a p t + SO v a p t) (SB v a p t + SO v a p t)
  · simp (disch := omega) only [l_0, l_1, l_2, l_3, l_4, l_5, l_6, l_7, l_8, l_9, l_10, l_12, l_13, l_14, l_15, l_16, l_20, l_21, l_40, l_60, l_78, l_199, l_200, l_300, l_599, l_600, l_601, l_602, l_1000, l_1638, l_10000, l_65536, l_100000, l_1000000, l_m1, L_0, L_1, L_10, L_20, L_1000, L_10000, iI_add, iI_sub, iI_mul, iI_neg, iI_lt, iI_le, iI_eq, iI_max, iI_min, iI_l, jI_i, jI_add, jI_sub, jI_mul, jI_lt, jI_le, jI_eq, kmp_pos, kmp_neg, kmp_le, kmp_ge, if_pos, if_neg, if_true, if_false, true_or, or_true, Option.bind_some, xl, xg]
  · by_cases c2 : lf a p (SA v a p t + SO v a p t) (SB v a p t) < 0
    · simp (disch := omega) only [l_0, l_1, l_2, l_3, l_4, l_5, l_6, l_7, l_8, l_9, l_10, l_12, l_13, l_14, l_15, l_16, l_20, l_21, l_40, l_60, l_78, l_199, l_200, l_300, l_599, l_600, l_601, l_602, l_1000, l_1638, l_10000, l_65536, l_100000, l_1000000, l_m1, L_0, L_1, L_10, L_20, L_1000, L_10000, iI_add, iI_sub, iI_mul, iI_neg, iI_lt, iI_le, iI_eq, iI_max, iI_min, iI_l, jI_i, jI_add, jI_sub, jI_mul, jI_lt, jI_le, jI_eq, kmp_pos, kmp_neg, kmp_le, kmp_ge, if_pos, if_neg, if_true, if_false, true_or, or_true, Option.bind_some, xl, xg]
    · simp (disch := omega) only [l_0, l_1, l_2, l_3, l_4, l_5, l_6, l_7, l_8, l_9, l_10, l_12, l_13, l_14, l_15, l_16, l_20, l_21, l_40, l_60, l_78, l_199, l_200, l_300, l_599, l_600, l_601, l_602, l_1000, l_1638, l_10000, l_65536, l_100000, l_1000000, l_m1, L_0, L_1, L_10, L_20, L_1000, L_10000, iI_add, iI_sub, iI_mul, iI_neg, iI_lt, iI_le, iI_eq, iI_max, iI_min, iI_l, jI_i, jI_add, jI_sub, jI_mul, jI_lt, jI_le, jI_eq, kmp_pos, kmp_neg, kmp_le, kmp_ge, if_pos, if_neg, if_true, if_false, true_or, or_true, Option.bind_some, xl, xg]
end CLP
