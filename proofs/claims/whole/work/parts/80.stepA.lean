/-! calls that change cells -/
theorem upd_iI {g : Int → Int} {z w : Int} (h0 : 0 ≤ z) : upd (fun t : Nat => iI (g t)) z.toNat (iI w) = fun t : Nat => iI (if (t : Int) = z then w else g t) := by
  funext t
  unfold upd
  by_cases q : t = z.toNat
  · rw [if_pos q, if_pos (by omega)]
  · rw [if_neg q, if_neg (by omega)]
theorem ta_k (a : Nat → Int → Int) (k : Nat) (z w y : Int) : ta a k z w k y = if y = z then w else a k y := by
  unfold ta
  by_cases q : y = z
  · rw [if_pos ⟨rfl, q⟩, if_pos q]
  · rw [if_neg (fun h => q h.2), if_neg q]
theorem pr_upd {f g : Int → Int} {s d : Int} (hs : 0 ≤ s) {n : Int} (hn : 0 ≤ n) (h1 : s < n → g s = f s + d) (h2 : ∀ j, 0 ≤ j → j < n → j ≠ s → g j = f j) : pr g n = pr f n + if s < n then d else 0 := by
  revert h1 h2
  refine pr_ind (Q := fun n => (s < n → g s = f s + d) → (∀ j, 0 ≤ j → j < n → j ≠ s → g j = f j) → pr g n = pr f n + if s < n then d else 0) (fun _ _ => ?_) (fun z hz ih h1 h2 => ?_) n hn
  · rw [pr_0, pr_0, if_neg (by omega)]; rfl
  · rw [pr_1 _ hz, pr_1 _ hz, ih (fun q => h1 (by omega)) (fun j j0 j1 j2 => h2 j j0 (by omega) j2)]
    by_cases q : z = s
    · subst q
      rw [h1 (by omega), if_neg (by omega), if_pos (by omega)]; omega
    · rw [h2 z hz (by omega) q]
      by_cases q2 : s < z
      · rw [if_pos q2, if_pos (by omega)]; omega
      · rw [if_neg q2, if_neg (by omega)]; omega
section CLU
variable {G : Nat → Nat} {h : xH} {ad : Nat → Nat → Nat} {P P1 : xP} {s : mS} {v : Nat → Int} {a : Nat → Int → Int} {el : Int → Int → Int} {cn : Int → Int}
theorem cI.c (H : cI G ad P v el cn) (q : ∀ k, k = 0 ∨ k = 50 → ∀ i, P1 k i = P k i) : cI G ad P1 v el cn := by
  obtain ⟨l0, l1, l2, l3, l4, l5⟩ := H
  have z0 := q 0 (by decide)
  have z5 := q 50 (by decide)
  exact ⟨l0.congr (z0 _) (z5 _), l1.congr (z0 _) (z5 _), l2.congr (z0 _) (z5 _), l3.congr (z0 _) (z5 _), l4.congr (z0 _) (z5 _), fun w w0 w1 => (l5 w w0 w1).congr (z0 _) (z5 _)⟩
theorem cK.c (H : cK ad P v) (q : ∀ k, k = 10 → ∀ i, P1 k i = P k i) : cK ad P1 v := by unfold cK at *; rw [q 10 (by decide)]; exact H
theorem cS.c (H : cS G ad P v a) (q : ∀ k, k = 7 ∨ k = 71 ∨ k = 72 → ∀ i, P1 k i = P k i) : cS G ad P1 v a := by unfold cS at *; intro w w0 w1; rw [q 7 (by decide), q 71 (by decide), q 72 (by decide)]; exact H w w0 w1
theorem cO.c (H : cO G ad P v a) (q : ∀ k, k = 8 ∨ k = 83 ∨ k = 84 → ∀ i, P1 k i = P k i) : cO G ad P1 v a := by unfold cO at *; intro w w0 w1; rw [q 8 (by decide), q 83 (by decide), q 84 (by decide)]; exact H w w0 w1
theorem cP.c (H : cP G ad P v a) (q : ∀ k, k = 6 ∨ k = 64 → ∀ i, P1 k i = P k i) : cP G ad P1 v a := by unfold cP at *; intro w w0 w1; rw [q 6 (by decide), q 64 (by decide)]; exact H w w0 w1
theorem cT.c (H : cT G ad P v a) (q : ∀ k, k = 4 ∨ k = 40 → ∀ i, P1 k i = P k i) : cT G ad P1 v a := by unfold cT at *; rw [q 4 (by decide), q 40 (by decide)]; exact H
theorem cA.c (H : cA ad P v a) (q : ∀ k, k = 1 → ∀ i, P1 k i = P k i) : cA ad P1 v a := by unfold cA at *; intro w w0 w1; rw [q 1 (by decide)]; exact H w w0 w1
theorem cH.c (H : cH P v a) (q : ∀ k, k = 3 → ∀ i, P1 k i = P k i) : cH P1 v a := by unfold cH at *; intro w w0 w1; rw [q 3 (by decide)]; exact H w w0 w1
theorem cL.c (H : cL G ad P v a) (q : ∀ k, k = 5 ∨ k = 150 ∨ k = 151 ∨ k = 152 ∨ k = 153 ∨ k = 154 → ∀ i, P1 k i = P k i) : cL G ad P1 v a := by unfold cL at *; rw [q 5 (by decide), q 150 (by decide), q 151 (by decide), q 152 (by decide), q 153 (by decide), q 154 (by decide)]; exact H
theorem cQ.c (H : cQ G ad P) (q : ∀ k, k = 2 ∨ k = 120 ∨ k = 121 ∨ k = 122 → ∀ i, P1 k i = P k i) : cQ G ad P1 := by unfold cQ at *; rw [q 2 (by decide), q 120 (by decide), q 121 (by decide), q 122 (by decide)]; exact H
theorem up_k {k i : Nat} {e : Option va_E} {k' : Nat} (hk : k' ≠ k) : ∀ i', up P k i e k' i' = P k' i' := fun _ => up_kind _ hk
end CLU
theorem js_ticks (G : Nat → Nat) (x m out : Nat) : sJ_ticks (fun _ => Jx G x m out) G x m := by
  rintro i h ⟨ad, P, s, v, a, el, cn, ⟨rfl, rfl, rfl⟩, R, M, O, L, I, C⟩ a1
  obtain ⟨t, rfl, t0, t1⟩ := iI_arg a1
  have R0 := L.m0 (iI 0)
  have i9 := I.2.2.1
  by_cases c : 0 ≤ t ∧ t ≤ 600 - v 9
  · obtain ⟨h1, e1, R1⟩ := R.sf C.k (j := 8) (by simp) (.int (iI (v 9 + t)))
    have L1 := R0.mI 9 (v 9 + t)
    have C1 : Cc G ad (up P 10 0 (some (.inr (10, [.ref (ad 0 0), .ref (ad 0 1), .ref (ad 0 2), .ref (ad 0 3), .ref (ad 0 4), .ref (ad 4 0), .ref (ad 5 0), .ref (ad 2 0), .int (iI (v 9 + t)), .int (iI (v 10)), .int (iI (v 11))])))) (tv v 9 (v 9 + t)) a el cn := by
      obtain ⟨z0, z1, z2, z3, z4, z5, z6, z7, z8, z9, z10⟩ := C
      exact ⟨up_same _ _ _ _, z1.c fun k q i => up_kind _ (by omega), z2.c fun k q i => up_kind _ (by omega), z3.c fun k q i => up_kind _ (by omega), z4.c fun k q i => up_kind _ (by omega), z5.c fun k q i => up_kind _ (by omega), z6.c fun k q i => up_kind _ (by omega), z7.c fun k q i => up_kind _ (by omega), z8.c fun k q i => up_kind _ (by omega), z9.c fun k q i => up_kind _ (by omega), z10⟩
    have I1 : Iv (tv v 9 (v 9 + t)) a := by
      obtain ⟨i1, i2, i9, i15, i24, i26, i33, i39, hs, hq, ht, hp, hg, hr, hpt, hal, hch, hz⟩ := I
      exact ⟨i1, i2, ⟨show 0 ≤ v 9 + t by omega, show v 9 + t ≤ 600 by omega⟩, i15, i24, i26, i33, i39, hs, hq, ht, hp, hg, hr, hpt, hal, hch, hz⟩
    have e2 : FM_ticks s (iI t) = some (iI (v 9 + t), mI (mI s 0 (iI 0)) 9 (iI (v 9 + t))) := by
      simp (disch := omega) only [FM_ticks, Rl.fd R0 9 (by decide) (by decide), mI_s, l_0, l_1, l_2, l_3, l_4, l_5, l_6, l_7, l_8, l_9, l_10, l_12, l_13, l_14, l_15, l_16, l_20, l_21, l_40, l_60, l_78, l_199, l_200, l_300, l_599, l_600, l_601, l_602, l_1000, l_1638, l_10000, l_65536, l_100000, l_1000000, l_m1, L_0, L_1, L_10, L_20, L_1000, L_10000, iI_add, iI_sub, iI_mul, iI_neg, iI_lt, iI_le, iI_eq, iI_max, iI_min, iI_l, jI_i, jI_add, jI_sub, jI_mul, jI_lt, jI_le, jI_eq, kmp_pos, kmp_neg, kmp_le, kmp_ge, if_pos, if_neg, if_true, if_false, true_or, or_true, Option.bind_some, xl, xg]
    obtain ⟨q1, h2, q2, q3⟩ := Jgo (Fr.up (by decide)) M O R1 C1 I1 L1 (fun M => u_ticks M e2)
    refine ⟨_, h1, h2, ?_, q1, q2, q3⟩
    have e3 := R1.getI (up_same _ _ _ _) (j := 8) rfl
    simp (disch := omega) only [F_X10_ticks, R.getI C.k (j := 8) rfl, c_within, e1, e3, l_0, l_1, l_2, l_3, l_4, l_5, l_6, l_7, l_8, l_9, l_10, l_12, l_13, l_14, l_15, l_16, l_20, l_21, l_40, l_60, l_78, l_199, l_200, l_300, l_599, l_600, l_601, l_602, l_1000, l_1638, l_10000, l_65536, l_100000, l_1000000, l_m1, L_0, L_1, L_10, L_20, L_1000, L_10000, iI_add, iI_sub, iI_mul, iI_neg, iI_lt, iI_le, iI_eq, iI_max, iI_min, iI_l, jI_i, jI_add, jI_sub, jI_mul, jI_lt, jI_le, jI_eq, kmp_pos, kmp_neg, kmp_le, kmp_ge, if_pos, if_neg, if_true, if_false, true_or, or_true, Option.bind_some, xl, xg]
  · have e2 : FM_ticks s (iI t) = some (iI (-1), mI s 0 (iI 0)) := by
      by_cases c2 : t < 0
      · simp (disch := omega) only [FM_ticks, Rl.fd R0 9 (by decide) (by decide), mI_s, l_0, l_1, l_2, l_3, l_4, l_5, l_6, l_7, l_8, l_9, l_10, l_12, l_13, l_14, l_15, l_16, l_20, l_21, l_40, l_60, l_78, l_199, l_200, l_300, l_599, l_600, l_601, l_602, l_1000, l_1638, l_10000, l_65536, l_100000, l_1000000, l_m1, L_0, L_1, L_10, L_20, L_1000, L_10000, iI_add, iI_sub, iI_mul, iI_neg, iI_lt, iI_le, iI_eq, iI_max, iI_min, iI_l, jI_i, jI_add, jI_sub, jI_mul, jI_lt, jI_le, jI_eq, kmp_pos, kmp_neg, kmp_le, kmp_ge, if_pos, if_neg, if_true, if_false, true_or, or_true, Option.bind_some, xl, xg]
      · by_cases c3 : 600 < t
        · simp (disch := omega) only [FM_ticks, Rl.fd R0 9 (by decide) (by decide), mI_s, l_0, l_1, l_2, l_3, l_4, l_5, l_6, l_7, l_8, l_9, l_10, l_12, l_13, l_14, l_15, l_16, l_20, l_21, l_40, l_60, l_78, l_199, l_200, l_300, l_599, l_600, l_601, l_602, l_1000, l_1638, l_10000, l_65536, l_100000, l_1000000, l_m1, L_0, L_1, L_10, L_20, L_1000, L_10000, iI_add, iI_sub, iI_mul, iI_neg, iI_lt, iI_le, iI_eq, iI_max, iI_min, iI_l, jI_i, jI_add, jI_sub, jI_mul, jI_lt, jI_le, jI_eq, kmp_pos, kmp_neg, kmp_le, kmp_ge, if_pos, if_neg, if_true, if_false, true_or, or_true, Option.bind_some, xl, xg]
        · simp (disch := omega) only [FM_ticks, Rl.fd R0 9 (by decide) (by decide), mI_s, l_0, l_1, l_2, l_3, l_4, l_5, l_6, l_7, l_8, l_9, l_10, l_12, l_13, l_14, l_15, l_16, l_20, l_21, l_40, l_60, l_78, l_199, l_200, l_300, l_599, l_600, l_601, l_602, l_1000, l_1638, l_10000, l_65536, l_100000, l_1000000, l_m1, L_0, L_1, L_10, L_20, L_1000, L_10000, iI_add, iI_sub, iI_mul, iI_neg, iI_lt, iI_le, iI_eq, iI_max, iI_min, iI_l, jI_i, jI_add, jI_sub, jI_mul, jI_lt, jI_le, jI_eq, kmp_pos, kmp_neg, kmp_le, kmp_ge, if_pos, if_neg, if_true, if_false, true_or, or_true, Option.bind_some, xl, xg]
    obtain ⟨q1, h2, q2, q3⟩ := Jgo0 R M O I C R0 (fun M => u_ticks M e2)
    refine ⟨_, h, h2, ?_, q1, q2, q3⟩
    simp (disch := omega) only [F_X10_ticks, R.getI C.k (j := 8) rfl, c_within, l_0, l_1, l_2, l_3, l_4, l_5, l_6, l_7, l_8, l_9, l_10, l_12, l_13, l_14, l_15, l_16, l_20, l_21, l_40, l_60, l_78, l_199, l_200, l_300, l_599, l_600, l_601, l_602, l_1000, l_1638, l_10000, l_65536, l_100000, l_1000000, l_m1, L_0, L_1, L_10, L_20, L_1000, L_10000, iI_add, iI_sub, iI_mul, iI_neg, iI_lt, iI_le, iI_eq, iI_max, iI_min, iI_l, jI_i, jI_add, jI_sub, jI_mul, jI_lt, jI_le, jI_eq, kmp_pos, kmp_neg, kmp_le, kmp_ge, if_pos, if_neg, if_true, if_false, true_or, or_true, Option.bind_some, xl, xg]
theorem js_part (G : Nat → Nat) (x m out : Nat) : sJ_part (fun _ => Jx G x m out) G x m := by
  rintro i h ⟨ad, P, s, v, a, el, cn, ⟨rfl, rfl, rfl⟩, R, M, O, L, I, C⟩ a1
  obtain ⟨t, rfl, t0, t1⟩ := iI_arg a1
  have R0 := L.m0 (iI 0)
  have i24 := I.2.2.2.2.1
  have hT := C.2.2.2.2.2.1
  by_cases c : 0 ≤ t ∧ t ≤ 100000
  · by_cases c2 : v 24 = 10
    · have e2 : FM_part s (iI t) = some (iI (-1), mI s 0 (iI 0)) := by
        simp (disch := omega) only [FM_part, Rl.fd R0 24 (by decide) (by decide), l_0, l_1, l_2, l_3, l_4, l_5, l_6, l_7, l_8, l_9, l_10, l_12, l_13, l_14, l_15, l_16, l_20, l_21, l_40, l_60, l_78, l_199, l_200, l_300, l_599, l_600, l_601, l_602, l_1000, l_1638, l_10000, l_65536, l_100000, l_1000000, l_m1, L_0, L_1, L_10, L_20, L_1000, L_10000, iI_add, iI_sub, iI_mul, iI_neg, iI_lt, iI_le, iI_eq, iI_max, iI_min, iI_l, jI_i, jI_add, jI_sub, jI_mul, jI_lt, jI_le, jI_eq, kmp_pos, kmp_neg, kmp_le, kmp_ge, if_pos, if_neg, if_true, if_false, true_or, or_true, Option.bind_some, xl, xg]
      obtain ⟨q1, h2, q2, q3⟩ := Jgo0 R M O I C R0 (fun M => u_part M e2)
      refine ⟨_, h, h2, ?_, q1, q2, q3⟩
      simp (disch := omega) only [F_X10_part, F_X4_add, R.getR C.k (j := 5) rfl, R.obj hT.1, R.getI hT.1 (j := 1) rfl, c_within, l_0, l_1, l_2, l_3, l_4, l_5, l_6, l_7, l_8, l_9, l_10, l_12, l_13, l_14, l_15, l_16, l_20, l_21, l_40, l_60, l_78, l_199, l_200, l_300, l_599, l_600, l_601, l_602, l_1000, l_1638, l_10000, l_65536, l_100000, l_1000000, l_m1, L_0, L_1, L_10, L_20, L_1000, L_10000, iI_add, iI_sub, iI_mul, iI_neg, iI_lt, iI_le, iI_eq, iI_max, iI_min, iI_l, jI_i, jI_add, jI_sub, jI_mul, jI_lt, jI_le, jI_eq, kmp_pos, kmp_neg, kmp_le, kmp_ge, if_pos, if_neg, if_true, if_false, true_or, or_true, Option.bind_some, xl, xg]
    · obtain ⟨s2, f1, L1⟩ := R0.st 25 10 (by decide) rfl (z := v 24) (w := t) (by omega) (by omega)
      have L2 := L1.mI 24 (v 24 + 1)
      obtain ⟨h1, e1, R1⟩ := R.si hT.2 (z := v 24) (by omega) (by omega) (by decide) (iI t)
      have p4 : up P 40 0 (some (.inl (G 2, 10, .inl (upd (fun t => iI (a 25 t)) (v 24).toNat (iI t))))) 4 0 = some (.inr (4, [.ref (ad 40 0), .int (iI (v 24))])) := by rw [up_kind _ (by decide)]; exact hT.1
      obtain ⟨h2, e2, R2⟩ := R1.sf p4 (j := 1) (by simp) (.int (iI (v 24 + 1)))
      have C1 : Cc G ad (up (up P 40 0 (some (.inl (G 2, 10, .inl (upd (fun t => iI (a 25 t)) (v 24).toNat (iI t)))))) 4 0 (some (.inr (4, [.ref (ad 40 0), .int (iI (v 24 + 1))])))) (tv v 24 (v 24 + 1)) (ta a 25 (v 24) t) el cn := by
        obtain ⟨z0, z1, z2, z3, z4, z5, z6, z7, z8, z9, z10⟩ := C
        refine ⟨cK.c (P := P) z0 fun k q i => ?_, cI.c (P := P) z1 fun k q i => ?_, cS.c (P := P) z2 fun k q i => ?_, cO.c (P := P) z3 fun k q i => ?_, cP.c (P := P) z4 fun k q i => ?_, ⟨up_same _ _ _ _, ?_⟩, cA.c (P := P) z6 fun k q i => ?_, cH.c (P := P) z7 fun k q i => ?_, cL.c (P := P) z8 fun k q i => ?_, cQ.c (P := P) z9 fun k q i => ?_, z10⟩
        all_goals first | (rw [up_kind _ (by omega), up_kind _ (by omega)]; done) | skip
        rw [up_kind _ (by decide), up_same, upd_iI (by omega)]
        simp only [ta_k]
      have I1 : Iv (tv v 24 (v 24 + 1)) (ta a 25 (v 24) t) := by
        obtain ⟨i1, i2, i9, i15, i24, i26, i33, i39, hs, hq, ht, hp, hg, hr, hpt, hal, hch, hz⟩ := I
        refine ⟨i1, i2, i9, i15, ⟨show 0 ≤ v 24 + 1 by omega, show v 24 + 1 ≤ 10 by omega⟩, i26, i33, i39, hs, hq, ht, hp, hg, hr, fun j j0 j1 => ?_, hal, hch, hz⟩
        have j1' : j < v 24 + 1 := j1
        rw [ta_k]
        by_cases q : j = v 24
        · rw [if_pos q]; omega
        · rw [if_neg q]; exact hpt j j0 (by omega)
      have e4 : FM_part s (iI t) = some (iI (v 24 + 1), mI s2 24 (iI (v 24 + 1))) := by
        simp (disch := omega) only [FM_part, Rl.fd R0 24 (by decide) (by decide), Rl.fd L1 24 (by decide) (by decide), f1, mI_s, l_0, l_1, l_2, l_3, l_4, l_5, l_6, l_7, l_8, l_9, l_10, l_12, l_13, l_14, l_15, l_16, l_20, l_21, l_40, l_60, l_78, l_199, l_200, l_300, l_599, l_600, l_601, l_602, l_1000, l_1638, l_10000, l_65536, l_100000, l_1000000, l_m1, L_0, L_1, L_10, L_20, L_1000, L_10000, iI_add, iI_sub, iI_mul, iI_neg, iI_lt, iI_le, iI_eq, iI_max, iI_min, iI_l, jI_i, jI_add, jI_sub, jI_mul, jI_lt, jI_le, jI_eq, kmp_pos, kmp_neg, kmp_le, kmp_ge, if_pos, if_neg, if_true, if_false, true_or, or_true, Option.bind_some, xl, xg]
      obtain ⟨q1, h3, q2, q3⟩ := Jgo ((Fr.up (by decide)).trans (Fr.up (by decide))) M O R2 C1 I1 L2 (fun M => u_part M e4)
      refine ⟨_, h2, h3, ?_, q1, q2, q3⟩
      have e5 := R2.getI (up_same _ _ _ _) (j := 1) rfl
      have e6 := R1.getI p4 (j := 1) rfl
      simp (disch := omega) only [F_X10_part, F_X4_add, R.getR C.k (j := 5) rfl, R.obj hT.1, R.getI hT.1 (j := 1) rfl, R.getR hT.1 (j := 0) rfl, c_within, e1, e2, e5, e6, l_0, l_1, l_2, l_3, l_4, l_5, l_6, l_7, l_8, l_9, l_10, l_12, l_13, l_14, l_15, l_16, l_20, l_21, l_40, l_60, l_78, l_199, l_200, l_300, l_599, l_600, l_601, l_602, l_1000, l_1638, l_10000, l_65536, l_100000, l_1000000, l_m1, L_0, L_1, L_10, L_20, L_1000, L_10000, iI_add, iI_sub, iI_mul, iI_neg, iI_lt, iI_le, iI_eq, iI_max, iI_min, iI_l, jI_i, jI_add, jI_sub, jI_mul, jI_lt, jI_le, jI_eq, kmp_pos, kmp_neg, kmp_le, kmp_ge, if_pos, if_neg, if_true, if_false, true_or, or_true, Option.bind_some, xl, xg]
  · have e2 : FM_part s (iI t) = some (iI (-1), mI s 0 (iI 0)) := by
      by_cases c2 : t < 0
      · simp (disch := omega) only [FM_part, l_0, l_1, l_2, l_3, l_4, l_5, l_6, l_7, l_8, l_9, l_10, l_12, l_13, l_14, l_15, l_16, l_20, l_21, l_40, l_60, l_78, l_199, l_200, l_300, l_599, l_600, l_601, l_602, l_1000, l_1638, l_10000, l_65536, l_100000, l_1000000, l_m1, L_0, L_1, L_10, L_20, L_1000, L_10000, iI_add, iI_sub, iI_mul, iI_neg, iI_lt, iI_le, iI_eq, iI_max, iI_min, iI_l, jI_i, jI_add, jI_sub, jI_mul, jI_lt, jI_le, jI_eq, kmp_pos, kmp_neg, kmp_le, kmp_ge, if_pos, if_neg, if_true, if_false, true_or, or_true, Option.bind_some, xl, xg]
      · simp (disch := omega) only [FM_part, l_0, l_1, l_2, l_3, l_4, l_5, l_6, l_7, l_8, l_9, l_10, l_12, l_13, l_14, l_15, l_16, l_20, l_21, l_40, l_60, l_78, l_199, l_200, l_300, l_599, l_600, l_601, l_602, l_1000, l_1638, l_10000, l_65536, l_100000, l_1000000, l_m1, L_0, L_1, L_10, L_20, L_1000, L_10000, iI_add, iI_sub, iI_mul, iI_neg, iI_lt, iI_le, iI_eq, iI_max, iI_min, iI_l, jI_i, jI_add, jI_sub, jI_mul, jI_lt, jI_le, jI_eq, kmp_pos, kmp_neg, kmp_le, kmp_ge, if_pos, if_neg, if_true, if_false, true_or, or_true, Option.bind_some, xl, xg]
    obtain ⟨q1, h2, q2, q3⟩ := Jgo0 R M O I C R0 (fun M => u_part M e2)
    refine ⟨_, h, h2, ?_, q1, q2, q3⟩
    simp (disch := omega) only [F_X10_part, c_within, l_0, l_1, l_2, l_3, l_4, l_5, l_6, l_7, l_8, l_9, l_10, l_12, l_13, l_14, l_15, l_16, l_20, l_21, l_40, l_60, l_78, l_199, l_200, l_300, l_599, l_600, l_601, l_602, l_1000, l_1638, l_10000, l_65536, l_100000, l_1000000, l_m1, L_0, L_1, L_10, L_20, L_1000, L_10000, iI_add, iI_sub, iI_mul, iI_neg, iI_lt, iI_le, iI_eq, iI_max, iI_min, iI_l, jI_i, jI_add, jI_sub, jI_mul, jI_lt, jI_le, jI_eq, kmp_pos, kmp_neg, kmp_le, kmp_ge, if_pos, if_neg, if_true, if_false, true_or, or_true, Option.bind_some, xl, xg]
