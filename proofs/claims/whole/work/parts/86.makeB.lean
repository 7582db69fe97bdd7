/-! change, promise -/
theorem js_change (G : Nat → Nat) (x m out : Nat) (hG : G 1 < G 0) : sJ_change (fun _ => Jx G x m out) G x m := by
  rintro i h ⟨ad, P, s, v, a, el, cn, ⟨rfl, rfl, rfl⟩, R, M, O, L, I, C⟩ a1 a2 a3
  obtain ⟨p, rfl, p0, p1⟩ := iI_arg a1
  obtain ⟨x, rfl, x0, x1⟩ := iI_arg a2
  obtain ⟨y, rfl, y0, y1⟩ := iI_arg a3
  have R0 := L.m0 (iI 0)
  have i15 := I.2.2.2.1
  have i33 := I.2.2.2.2.2.2.1
  have wx : F_X10_within (iI x) 0 100000 = some (iI (if 0 ≤ x ∧ x ≤ 100000 then 1 else 0)) := c_within (x := x) (y := 0) (z := 100000) (by omega) (by omega) (by omega) (by omega) (by omega) (by omega)
  have wy : F_X10_within (iI y) 0 1000 = some (iI (if 0 ≤ y ∧ y ≤ 1000 then 1 else 0)) := c_within (x := y) (y := 0) (z := 1000) (by omega) (by omega) (by omega) (by omega) (by omega) (by omega)
  have lz := C.2.1.2.2.2.2.1.size R
  by_cases c : (0 ≤ p ∧ p < v 15) ∧ (0 ≤ x ∧ x ≤ 100000) ∧ (0 ≤ y ∧ y ≤ 1000) ∧ v 33 < 40
  · obtain ⟨c1, c2, c3, c5⟩ := c
    have ew := c_promiseAt R C c1.1 c1.2 (by omega)
    have h37 := I.2.2.2.2.2.2.2.2.2.2.2.2.2.2.2.2.2 (v 33) (by omega) c5
    obtain ⟨s2, f1, L1⟩ := R0.st 34 40 (by decide) rfl (z := v 33) (w := p) (by omega) (by omega)
    obtain ⟨s3, f2, L2⟩ := L1.st 35 40 (by decide) rfl (z := v 33) (w := x) (by omega) (by omega)
    obtain ⟨s4, f3, L3⟩ := L2.st 36 40 (by decide) rfl (z := v 33) (w := y) (by omega) (by omega)
    have L5 := L3.mI 33 (v 33 + 1)
    obtain ⟨g1, ad1, P1, e1, R1, o1, q1⟩ := R.nO 3 (v 33).toNat 3 [.int 0, .int 0, .int 0, .int 0, .int 0]
    obtain ⟨g2, P2, e2, R2, o2, q2⟩ := R1.sf' o1 (j := 3) (by simp) (.int 0)
    obtain ⟨g3, P3, e3, R3, o3, q3⟩ := R2.sf' o2 (j := 0) (by simp) (.int (iI p))
    obtain ⟨g4, P4, e4, R4, o4, q4⟩ := R3.sf' o3 (j := 1) (by simp) (.int (iI x))
    obtain ⟨g5, P5, e5, R5, o5, q5⟩ := R4.sf' o4 (j := 2) (by simp) (.int (iI y))
    have Q5 : ∀ k i, ¬ (k = 3 ∧ i = (v 33).toNat) → ad1 k i = ad k i ∧ P5 k i = P k i := fun k i n => ⟨(q1 k i n).1, (q5 k i n).trans ((q4 k i n).trans ((q3 k i n).trans ((q2 k i n).trans (q1 k i n).2)))⟩
    have l3 : Ls G ad1 P5 4 3 (v 33) (fun x => x) := C.2.1.2.2.2.2.1.x (Q5 0 4 (by omega)).2 (Q5 50 4 (by omega)).2 (Q5 50 4 (by omega)).1 (fun y y0 y1 => (Q5 3 y.toNat (by omega)).1)
    obtain ⟨g6, ad6, P6, e6, R6, l6, q6, r6⟩ := l3.add R5 hG i33.1 (by omega) (e := v 33) o5 (fun y y0 y1 => ⟨_, (Q5 3 y.toNat (by omega)).2.trans (C.2.2.2.2.2.2.2.1 y y0 y1)⟩) (by decide) (by decide)
    have Q6 : ∀ k i, ¬ (k = 3 ∧ i = (v 33).toNat) → ¬ (k = 0 ∧ i = 4) → ¬ (k = 50 ∧ i = 4) → ad6 k i = ad k i ∧ P6 k i = P k i := fun k i n n2 n3 => ⟨(r6 k i n3).trans (Q5 k i n).1, (q6 k i n2 n3).trans (Q5 k i n).2⟩
    have a0 : ∀ i, ad6 0 i = ad 0 i := fun i => (r6 0 i (by omega)).trans (Q5 0 i (by omega)).1
    have N6 : Cn G ad6 P6 v a := C.n.x I (fun k i u => by unfold Us at u; exact (Q6 k i (by omega) (by omega) (by omega)).2) (fun k i u => by unfold Us at u; exact (Q6 k i (by omega) (by omega) (by omega)).1) (fun i _ => a0 i)
    have oA : P6 3 (v 33).toNat = some (.inr (3, [.int (iI p), .int (iI x), .int (iI y), .int 0, .int 0])) := (q6 3 _ (by omega) (by omega)).trans o5
    have C6 : Cc G ad6 P6 (tv v 33 (v 33 + 1)) (ta (ta (ta a 34 (v 33) p) 35 (v 33) x) 36 (v 33) y) el cn := by
      obtain ⟨y0, y2, y3, y4, y5, y6, y7, y8, y9⟩ := N6
      obtain ⟨l0, l1, l2, l3, l4, l5⟩ := C.2.1
      have Z : ∀ k i, ¬ (k = 3) → ¬ (k = 0 ∧ i = 4) → ¬ (k = 50 ∧ i = 4) → ad6 k i = ad k i ∧ P6 k i = P k i := fun k i n n2 n3 => Q6 k i (by omega) n2 n3
      refine ⟨y0, ⟨l0.x (Z 0 0 (by omega) (by omega) (by omega)).2 (Z 50 0 (by omega) (by omega) (by omega)).2 (Z 50 0 (by omega) (by omega) (by omega)).1 (fun y _ _ => (Z 7 _ (by omega) (by omega) (by omega)).1), l1.x (Z 0 1 (by omega) (by omega) (by omega)).2 (Z 50 1 (by omega) (by omega) (by omega)).2 (Z 50 1 (by omega) (by omega) (by omega)).1 (fun y _ _ => (Z 8 _ (by omega) (by omega) (by omega)).1), l2.x (Z 0 2 (by omega) (by omega) (by omega)).2 (Z 50 2 (by omega) (by omega) (by omega)).2 (Z 50 2 (by omega) (by omega) (by omega)).1 (fun y _ _ => (Z 6 _ (by omega) (by omega) (by omega)).1), l3.x (Z 0 3 (by omega) (by omega) (by omega)).2 (Z 50 3 (by omega) (by omega) (by omega)).2 (Z 50 3 (by omega) (by omega) (by omega)).1 (fun y _ _ => (Z 1 _ (by omega) (by omega) (by omega)).1), l6.e (fun y _ _ => by split <;> omega), fun w w0 w1 => (l5 w w0 w1).x (Z 0 _ (by omega) (by omega) (by omega)).2 (Z 50 _ (by omega) (by omega) (by omega)).2 (Z 50 _ (by omega) (by omega) (by omega)).1 (fun y _ _ => (Z 8 _ (by omega) (by omega) (by omega)).1)⟩, y2, y3, y4, y5, y6, ?_, y8, y9, C.2.2.2.2.2.2.2.2.2.2⟩
      intro j j0 j1
      have j1' : j < v 33 + 1 := j1
      by_cases q : j = v 33
      · subst q
        rw [oA, ta_n _ _ _ _ 34 _ (by decide), ta_n _ _ _ _ 34 _ (by decide), ta_s, ta_n _ _ _ _ 35 _ (by decide), ta_s, ta_s, ta_n _ _ _ _ 37 _ (by decide), ta_n _ _ _ _ 37 _ (by decide), ta_n _ _ _ _ 37 _ (by decide), ta_n _ _ _ _ 38 _ (by decide), ta_n _ _ _ _ 38 _ (by decide), ta_n _ _ _ _ 38 _ (by decide), h37.1, h37.2]
        rfl
      · simp only [ta_m _ _ _ _ _ _ q]
        exact y7 j j0 (by omega)
    have I6 : Iv (tv v 33 (v 33 + 1)) (ta (ta (ta a 34 (v 33) p) 35 (v 33) x) 36 (v 33) y) := by
      obtain ⟨i1, i2, i9, i15, i24, i26, i33, i39, hs, hq, ht, hp, hg, hr, hpt, hal, hch, hz⟩ := I
      refine ⟨i1, i2, i9, i15, i24, i26, ⟨show 0 ≤ v 33 + 1 by omega, show v 33 + 1 ≤ 40 by omega⟩, i39, hs, hq, ht, hp, hg, hr, hpt, hal, fun j j0 j1 => ?_, fun j j0 j1 => ?_⟩
      · have j1' : j < v 33 + 1 := j1
        by_cases q : j = v 33
        · subst q
          rw [ta_n _ _ _ _ 34 _ (by decide), ta_n _ _ _ _ 34 _ (by decide), ta_s, ta_n _ _ _ _ 35 _ (by decide), ta_s, ta_s, ta_n _ _ _ _ 37 _ (by decide), ta_n _ _ _ _ 37 _ (by decide), ta_n _ _ _ _ 37 _ (by decide), h37.1]
          exact ⟨c1.1, c1.2, c2.1, c2.2, c3.1, c3.2, by decide, by decide⟩
        · simp only [ta_m _ _ _ _ _ _ q]
          exact hch j j0 (by omega)
      · have j0' : v 33 + 1 ≤ j := j0
        exact hz j (by omega) j1
    have ef : FM_change s (iI p) (iI x) (iI y) = some (iI (v 33), mI s4 33 (iI (v 33 + 1))) := by
      have w1 : v 33 + 1 - 1 = v 33 := by omega
      simp (disch := omega) only [FM_change, FM_isPromise, Rl.fd R0 15 (by decide) (by decide), Rl.fd R0 33 (by decide) (by decide), f1, Rl.fd L1 33 (by decide) (by decide), f2, Rl.fd L2 33 (by decide) (by decide), f3, Rl.fd L3 33 (by decide) (by decide), mI_s, l_0, l_1, l_2, l_3, l_4, l_5, l_6, l_7, l_8, l_9, l_10, l_12, l_13, l_14, l_15, l_16, l_20, l_21, l_40, l_60, l_78, l_199, l_200, l_300, l_599, l_600, l_601, l_602, l_1000, l_1638, l_10000, l_65536, l_100000, l_1000000, l_m1, L_0, L_1, L_10, L_20, L_1000, L_10000, iI_add, iI_sub, iI_mul, iI_neg, iI_lt, iI_le, iI_eq, iI_max, iI_min, iI_l, jI_i, jI_add, jI_sub, jI_mul, jI_lt, jI_le, jI_eq, kmp_pos, kmp_neg, kmp_le, kmp_ge, if_pos, if_neg, if_true, if_false, true_or, or_true, Option.bind_some, xl, xg, w1]
    obtain ⟨y1, h7, y2, y3⟩ := Jgo (Fr.of2 (fun k i hk => Q6 k i (by omega) (by omega) (by omega)) (Q6 10 0 (by omega) (by omega) (by omega)).1) M O R6 C6 I6 L5 (y := F_X11_change G g6 (ad 19 0) (iI p) (iI x) (iI y)) (r := iI (v 33)) (fun M => by rw [← (Q6 19 0 (by omega) (by omega) (by omega)).1]; exact u_change M ef)
    refine ⟨_, g6, h7, ?_, y1, y2, y3⟩
    have x3 := (l3.size R5).1
    have a3 : ad1 0 4 = ad 0 4 := (Q5 0 4 (by omega)).1
    rw [a3] at e6 x3
    have k6 : gR g6 (some (ad 10 0)) 10 4 = some (some (ad 0 4)) := by
      have := R6.getR N6.1 (j := 4) rfl
      rw [(Q6 10 0 (by omega) (by omega) (by omega)).1, a0] at this
      exact this
    have x6 := l6.size R6
    rw [a0] at x6
    unfold F_X10_change
    rw [R.obj C.k, Option.bind_some, ew.1, Option.bind_some, if_neg (by simp), wx, Option.bind_some, if_pos c2, if_neg (by decide), wy, Option.bind_some, if_pos c3, if_neg (by decide), R.getR C.k (j := 4) rfl, Option.bind_some, lz.1, Option.bind_some, lz.2, Option.bind_some, l_40, if_pos (by (first | rw [iI_lt (by omega) (by omega) (by omega) (by omega)] | rw [iI_le (by omega) (by omega) (by omega) (by omega)] | rw [iI_eq (by omega) (by omega) (by omega) (by omega)]); omega), Option.bind_some, e1, Option.bind_some]
    dsimp only
    unfold F_X2_init
    simp only [e2, e3, e4, e5, Option.bind_some, x3, e6, k6, x6.1, x6.2, l_1, iI_sub]
    congr 3; omega
  · have ef : FM_change s (iI p) (iI x) (iI y) = some (iI (-1), mI s 0 (iI 0)) := by
      unfold FM_change FM_isPromise
      simp only [xl, l_0, l_1, l_40, l_100000, l_1000, iI_neg, Rl.fd R0 15 (by decide) (by decide), Rl.fd R0 33 (by decide) (by decide)]
      by_cases d1 : p < 0
      · rw [if_pos (by (first | rw [iI_lt (by omega) (by omega) (by omega) (by omega)] | rw [iI_le (by omega) (by omega) (by omega) (by omega)] | rw [iI_eq (by omega) (by omega) (by omega) (by omega)]); omega), Option.bind_some, if_pos rfl]
      · rw [if_neg (by (first | rw [iI_lt (by omega) (by omega) (by omega) (by omega)] | rw [iI_le (by omega) (by omega) (by omega) (by omega)] | rw [iI_eq (by omega) (by omega) (by omega) (by omega)]); omega)]
        by_cases d2 : v 15 ≤ p
        · rw [if_pos (by (first | rw [iI_lt (by omega) (by omega) (by omega) (by omega)] | rw [iI_le (by omega) (by omega) (by omega) (by omega)] | rw [iI_eq (by omega) (by omega) (by omega) (by omega)]); omega), Option.bind_some, if_pos rfl]
        · rw [if_neg (by (first | rw [iI_lt (by omega) (by omega) (by omega) (by omega)] | rw [iI_le (by omega) (by omega) (by omega) (by omega)] | rw [iI_eq (by omega) (by omega) (by omega) (by omega)]); omega), Option.bind_some, if_neg (by decide)]
          by_cases d3 : x < 0
          · rw [if_pos (by (first | rw [iI_lt (by omega) (by omega) (by omega) (by omega)] | rw [iI_le (by omega) (by omega) (by omega) (by omega)] | rw [iI_eq (by omega) (by omega) (by omega) (by omega)]); omega)]
          · rw [if_neg (by (first | rw [iI_lt (by omega) (by omega) (by omega) (by omega)] | rw [iI_le (by omega) (by omega) (by omega) (by omega)] | rw [iI_eq (by omega) (by omega) (by omega) (by omega)]); omega)]
            by_cases d4 : 100000 < x
            · rw [if_pos (by (first | rw [iI_lt (by omega) (by omega) (by omega) (by omega)] | rw [iI_le (by omega) (by omega) (by omega) (by omega)] | rw [iI_eq (by omega) (by omega) (by omega) (by omega)]); omega)]
            · rw [if_neg (by (first | rw [iI_lt (by omega) (by omega) (by omega) (by omega)] | rw [iI_le (by omega) (by omega) (by omega) (by omega)] | rw [iI_eq (by omega) (by omega) (by omega) (by omega)]); omega)]
              by_cases d5 : y < 0
              · rw [if_pos (by (first | rw [iI_lt (by omega) (by omega) (by omega) (by omega)] | rw [iI_le (by omega) (by omega) (by omega) (by omega)] | rw [iI_eq (by omega) (by omega) (by omega) (by omega)]); omega)]
              · rw [if_neg (by (first | rw [iI_lt (by omega) (by omega) (by omega) (by omega)] | rw [iI_le (by omega) (by omega) (by omega) (by omega)] | rw [iI_eq (by omega) (by omega) (by omega) (by omega)]); omega)]
                by_cases d6 : 1000 < y
                · rw [if_pos (by (first | rw [iI_lt (by omega) (by omega) (by omega) (by omega)] | rw [iI_le (by omega) (by omega) (by omega) (by omega)] | rw [iI_eq (by omega) (by omega) (by omega) (by omega)]); omega)]
                · rw [if_neg (by (first | rw [iI_lt (by omega) (by omega) (by omega) (by omega)] | rw [iI_le (by omega) (by omega) (by omega) (by omega)] | rw [iI_eq (by omega) (by omega) (by omega) (by omega)]); omega), if_pos (by (first | rw [iI_lt (by omega) (by omega) (by omega) (by omega)] | rw [iI_le (by omega) (by omega) (by omega) (by omega)] | rw [iI_eq (by omega) (by omega) (by omega) (by omega)]); omega)]
    obtain ⟨q1, h6, q2, q3⟩ := Jgo0 R M O I C R0 (fun M => u_change M ef)
    refine ⟨_, h, h6, ?_, q1, q2, q3⟩
    unfold F_X10_change
    by_cases c1 : 0 ≤ p ∧ p < v 15
    · have ew := c_promiseAt R C c1.1 c1.2 (by omega)
      rw [R.obj C.k, Option.bind_some, ew.1, Option.bind_some, if_neg (by simp), wx, Option.bind_some]
      by_cases c2 : 0 ≤ x ∧ x ≤ 100000
      · rw [if_pos c2, if_neg (by decide), wy, Option.bind_some]
        by_cases c3 : 0 ≤ y ∧ y ≤ 1000
        · rw [if_pos c3, if_neg (by decide), R.getR C.k (j := 4) rfl, Option.bind_some, lz.1, Option.bind_some, lz.2, Option.bind_some, l_40, if_neg (by (first | rw [iI_lt (by omega) (by omega) (by omega) (by omega)] | rw [iI_le (by omega) (by omega) (by omega) (by omega)] | rw [iI_eq (by omega) (by omega) (by omega) (by omega)]); omega)]; rfl
        · rw [if_neg c3, if_pos (by decide)]; rfl
      · rw [if_neg c2, if_pos (by decide)]; rfl
    · have ew := c_promiseAtX R C p0 p1 (by omega) (by omega) c1
      rw [R.obj C.k, Option.bind_some, ew, Option.bind_some, if_pos rfl]; rfl
theorem js_promise (G : Nat → Nat) (x m out : Nat) (hG : G 1 < G 0) : sJ_promise (fun _ => Jx G x m out) G x m := by
  rintro i h ⟨ad, P, s, v, a, el, cn, ⟨rfl, rfl, rfl⟩, R, M, O, L, I, C⟩ a1 a2 a3 a4 h4
  obtain ⟨p, rfl, p0, p1⟩ := iI_arg a1
  obtain ⟨x, rfl, x0, x1⟩ := iI_arg a2
  obtain ⟨y, rfl, y0, y1⟩ := iI_arg a3
  obtain ⟨z, rfl, z01⟩ : ∃ z : Int, a4 = iI z ∧ (z = 0 ∨ z = 1) := by
    rcases h4 with rfl | rfl
    · exact ⟨0, rfl, Or.inl rfl⟩
    · exact ⟨1, rfl, Or.inr rfl⟩
  have R0 := L.m0 (iI 0)
  have i1 := I.1
  have i15 := I.2.2.2.1
  have wx : F_X10_within (iI x) 1 200 = some (iI (if 1 ≤ x ∧ x ≤ 200 then 1 else 0)) := c_within (x := x) (y := 1) (z := 200) (by omega) (by omega) (by omega) (by omega) (by omega) (by omega)
  have wy : F_X10_within (iI y) 0 1000 = some (iI (if 0 ≤ y ∧ y ≤ 1000 then 1 else 0)) := c_within (x := y) (y := 0) (z := 1000) (by omega) (by omega) (by omega) (by omega) (by omega) (by omega)
  have lz := C.2.1.2.2.1.size R
  by_cases c : (0 ≤ p ∧ p < v 1) ∧ (1 ≤ x ∧ x ≤ 200) ∧ (0 ≤ y ∧ y ≤ 1000) ∧ v 15 < 12
  · obtain ⟨c1, c2, c3, c5⟩ := c
    have ew := c_serviceAt R C c1.1 c1.2 (by omega)
    have h20 := (I.2.2.2.2.2.2.2.2.2.2.2.2.1 (v 15) (by omega) c5).2.2 (by omega)
    obtain ⟨s2, f1, L1⟩ := R0.st 16 12 (by decide) rfl (z := v 15) (w := p) (by omega) (by omega)
    obtain ⟨s3, f2, L2⟩ := L1.st 17 12 (by decide) rfl (z := v 15) (w := x) (by omega) (by omega)
    obtain ⟨s4, f3, L3⟩ := L2.st 18 12 (by decide) rfl (z := v 15) (w := y) (by omega) (by omega)
    obtain ⟨s5, f4, L4⟩ := L3.st 19 12 (by decide) rfl (z := v 15) (w := z) (by omega) (by omega)
    have L5 := L4.mI 15 (v 15 + 1)
    obtain ⟨g1, ad1, P1, e1, R1, o1, q1⟩ := R.nO 6 (v 15).toNat 6 [.null, .int 0, .int 0, .int 0, .null, .int 0]
    obtain ⟨g2, ad2, P2, e2, R2, w2, q2⟩ := R1.nZ 64 (v 15).toNat 601
    have o2 := (q2 6 (v 15).toNat (by omega)).2.trans o1
    have a2 := (q2 6 (v 15).toNat (by omega)).1
    obtain ⟨g3, P3, e3, R3, o3, q3⟩ := R2.sf' o2 (j := 4) (by simp) (.ref (ad2 64 (v 15).toNat))
    obtain ⟨g4, P4, e4, R4, o4, q4⟩ := R3.sf' o3 (j := 0) (by simp) (.ref (ad 7 p.toNat))
    obtain ⟨g5, P5, e5, R5, o5, q5⟩ := R4.sf' o4 (j := 1) (by simp) (.int (iI x))
    obtain ⟨g6, P6, e6, R6, o6, q6⟩ := R5.sf' o5 (j := 2) (by simp) (.int (iI y))
    obtain ⟨g7, P7, e7, R7, o7, q7⟩ := R6.sf' o6 (j := 3) (by simp) (.int (iI z))
    rw [a2] at e3 e4 e5 e6 e7
    have Q7 : ∀ k i, ¬ (k = 6 ∧ i = (v 15).toNat) → ¬ (k = 64 ∧ i = (v 15).toNat) → ad2 k i = ad k i ∧ P7 k i = P k i := fun k i n n2 => ⟨(q2 k i n2).1.trans (q1 k i n).1, (q7 k i n).trans ((q6 k i n).trans ((q5 k i n).trans ((q4 k i n).trans ((q3 k i n).trans ((q2 k i n2).2.trans (q1 k i n).2)))))⟩
    have w7 : P7 64 (v 15).toNat = _ := (q7 _ _ (by omega)).trans ((q6 _ _ (by omega)).trans ((q5 _ _ (by omega)).trans ((q4 _ _ (by omega)).trans ((q3 _ _ (by omega)).trans w2))))
    have l3 : Ls G ad2 P7 2 6 (v 15) (fun x => x) := C.2.1.2.2.1.x (Q7 0 2 (by omega) (by omega)).2 (Q7 50 2 (by omega) (by omega)).2 (Q7 50 2 (by omega) (by omega)).1 (fun y y0 y1 => (Q7 6 y.toNat (by omega) (by omega)).1)
    obtain ⟨g8, ad8, P8, e8, R8, l8, q8, r8⟩ := l3.add R7 hG i15.1 (by omega) (e := v 15) o7 (fun y y0 y1 => ⟨_, (Q7 6 y.toNat (by omega) (by omega)).2.trans (C.2.2.2.2.1 y y0 y1).1⟩) (by decide) (by decide)
    have Q8 : ∀ k i, ¬ (k = 6 ∧ i = (v 15).toNat) → ¬ (k = 64 ∧ i = (v 15).toNat) → ¬ (k = 0 ∧ i = 2) → ¬ (k = 50 ∧ i = 2) → ad8 k i = ad k i ∧ P8 k i = P k i := fun k i n n1 n2 n3 => ⟨(r8 k i n3).trans (Q7 k i n n1).1, (q8 k i n2 n3).trans (Q7 k i n n1).2⟩
    have a0 : ∀ i, ad8 0 i = ad 0 i := fun i => (r8 0 i (by omega)).trans (Q7 0 i (by omega) (by omega)).1
    have N6 : Cn G ad8 P8 v a := C.n.x I (fun k i u => by unfold Us at u; exact (Q8 k i (by omega) (by omega) (by omega) (by omega)).2) (fun k i u => by unfold Us at u; exact (Q8 k i (by omega) (by omega) (by omega) (by omega)).1) (fun i _ => a0 i)
    have oA : P8 6 (v 15).toNat = some (.inr (6, [.ref (ad 7 p.toNat), .int (iI x), .int (iI y), .int (iI z), .ref (ad2 64 (v 15).toNat), .int 0])) := (q8 6 _ (by omega) (by omega)).trans o7
    have oB : P8 64 (v 15).toNat = _ := (q8 64 _ (by omega) (by omega)).trans w7
    have C6 : Cc G ad8 P8 (tv v 15 (v 15 + 1)) (ta (ta (ta (ta a 16 (v 15) p) 17 (v 15) x) 18 (v 15) y) 19 (v 15) z) el cn := by
      obtain ⟨y0, y2, y3, y4, y5, y6, y7, y8, y9⟩ := N6
      obtain ⟨l0, l1, l2, l3, l4, l5⟩ := C.2.1
      have Z : ∀ k i, ¬ (k = 6) → ¬ (k = 64) → ¬ (k = 0 ∧ i = 2) → ¬ (k = 50 ∧ i = 2) → ad8 k i = ad k i ∧ P8 k i = P k i := fun k i n n1 n2 n3 => Q8 k i (by omega) (by omega) n2 n3
      refine ⟨y0, ⟨l0.x (Z 0 0 (by omega) (by omega) (by omega) (by omega)).2 (Z 50 0 (by omega) (by omega) (by omega) (by omega)).2 (Z 50 0 (by omega) (by omega) (by omega) (by omega)).1 (fun y _ _ => (Z 7 _ (by omega) (by omega) (by omega) (by omega)).1), l1.x (Z 0 1 (by omega) (by omega) (by omega) (by omega)).2 (Z 50 1 (by omega) (by omega) (by omega) (by omega)).2 (Z 50 1 (by omega) (by omega) (by omega) (by omega)).1 (fun y _ _ => (Z 8 _ (by omega) (by omega) (by omega) (by omega)).1), l8.e (fun y _ _ => by split <;> omega), l3.x (Z 0 3 (by omega) (by omega) (by omega) (by omega)).2 (Z 50 3 (by omega) (by omega) (by omega) (by omega)).2 (Z 50 3 (by omega) (by omega) (by omega) (by omega)).1 (fun y _ _ => (Z 1 _ (by omega) (by omega) (by omega) (by omega)).1), l4.x (Z 0 4 (by omega) (by omega) (by omega) (by omega)).2 (Z 50 4 (by omega) (by omega) (by omega) (by omega)).2 (Z 50 4 (by omega) (by omega) (by omega) (by omega)).1 (fun y _ _ => (Z 3 _ (by omega) (by omega) (by omega) (by omega)).1), fun w w0 w1 => (l5 w w0 w1).x (Z 0 _ (by omega) (by omega) (by omega) (by omega)).2 (Z 50 _ (by omega) (by omega) (by omega) (by omega)).2 (Z 50 _ (by omega) (by omega) (by omega) (by omega)).1 (fun y _ _ => (Z 8 _ (by omega) (by omega) (by omega) (by omega)).1)⟩, y2, y3, ?_, y5, y6, y7, y8, y9, C.2.2.2.2.2.2.2.2.2.2⟩
      intro j j0 j1
      have j1' : j < v 15 + 1 := j1
      by_cases q : j = v 15
      · subst q
        refine ⟨?_, ?_⟩
        · rw [oA, ta_n _ _ _ _ 16 _ (by decide), ta_n _ _ _ _ 16 _ (by decide), ta_n _ _ _ _ 16 _ (by decide), ta_s, ta_n _ _ _ _ 17 _ (by decide), ta_n _ _ _ _ 17 _ (by decide), ta_s, ta_n _ _ _ _ 18 _ (by decide), ta_s, ta_s, (Z 7 p.toNat (by omega) (by omega) (by omega) (by omega)).1, ta_n _ _ _ _ 20 _ (by decide), ta_n _ _ _ _ 20 _ (by decide), ta_n _ _ _ _ 20 _ (by decide), ta_n _ _ _ _ 20 _ (by decide), h20, r8 64 _ (by omega)]
          rfl
        · rw [oB]
          congr 5
          funext t
          show (0 : Int32) = iI (gl a (v 15) t)
          unfold gl
          rw [h20, pr_0, if_neg (by decide)]
          rfl
      · refine ⟨?_, (y4 j j0 (by omega)).2⟩
        simp only [ta_m _ _ _ _ _ _ q]
        exact (y4 j j0 (by omega)).1
    have I6 : Iv (tv v 15 (v 15 + 1)) (ta (ta (ta (ta a 16 (v 15) p) 17 (v 15) x) 18 (v 15) y) 19 (v 15) z) := by
      obtain ⟨i1, i2, i9, i15, i24, i26, i33, i39, hs, hq, ht, hp, hg, hr, hpt, hal, hch, hz⟩ := I
      refine ⟨i1, i2, i9, ⟨show 0 ≤ v 15 + 1 by omega, show v 15 + 1 ≤ 12 by omega⟩, i24, i26, i33, i39, hs, hq, ht, fun j j0 j1 => ?_, fun j j0 j1 => ?_, hr, hpt, fun j j0 j1 => ?_, fun j j0 j1 => ?_, hz⟩
      · have j1' : j < v 15 + 1 := j1
        by_cases q : j = v 15
        · subst q
          rw [ta_n _ _ _ _ 16 _ (by decide), ta_n _ _ _ _ 16 _ (by decide), ta_n _ _ _ _ 16 _ (by decide), ta_s, ta_n _ _ _ _ 17 _ (by decide), ta_n _ _ _ _ 17 _ (by decide), ta_s, ta_n _ _ _ _ 18 _ (by decide), ta_s, ta_s]
          exact ⟨c1.1, c1.2, c2.1, c2.2, c3.1, c3.2, z01⟩
        · simp only [ta_m _ _ _ _ _ _ q]
          exact hp j j0 (by omega)
      · have := hg j j0 j1
        refine ⟨this.1, this.2.1, fun q => this.2.2 ?_⟩
        have q' : v 15 + 1 ≤ j := q
        omega
      · have := hal j j0 j1
        refine ⟨this.1, ?_, this.2.2⟩
        show a 27 j < v 15 + 1
        omega
      · have := hch j j0 j1
        refine ⟨this.1, ?_, this.2.2⟩
        show a 34 j < v 15 + 1
        omega
    have nz : vp_nar .boolean (iI z) = iI z := by rcases z01 with rfl | rfl <;> decide
    have ef : FM_promise s (iI p) (iI x) (iI y) (iI z) = some (iI (v 15), mI s5 15 (iI (v 15 + 1))) := by
      have w1 : v 15 + 1 - 1 = v 15 := by omega
      simp (disch := omega) only [FM_promise, FM_isService, Rl.fd R0 1 (by decide) (by decide), Rl.fd R0 15 (by decide) (by decide), f1, Rl.fd L1 15 (by decide) (by decide), f2, Rl.fd L2 15 (by decide) (by decide), f3, Rl.fd L3 15 (by decide) (by decide), nz, f4, Rl.fd L4 15 (by decide) (by decide), mI_s, l_0, l_1, l_2, l_3, l_4, l_5, l_6, l_7, l_8, l_9, l_10, l_12, l_13, l_14, l_15, l_16, l_20, l_21, l_40, l_60, l_78, l_199, l_200, l_300, l_599, l_600, l_601, l_602, l_1000, l_1638, l_10000, l_65536, l_100000, l_1000000, l_m1, L_0, L_1, L_10, L_20, L_1000, L_10000, iI_add, iI_sub, iI_mul, iI_neg, iI_lt, iI_le, iI_eq, iI_max, iI_min, iI_l, jI_i, jI_add, jI_sub, jI_mul, jI_lt, jI_le, jI_eq, kmp_pos, kmp_neg, kmp_le, kmp_ge, if_pos, if_neg, if_true, if_false, true_or, or_true, Option.bind_some, xl, xg, w1]
    obtain ⟨y1, h9, y2, y3⟩ := Jgo (Fr.of2 (fun k i hk => Q8 k i (by omega) (by omega) (by omega) (by omega)) (Q8 10 0 (by omega) (by omega) (by omega) (by omega)).1) M O R8 C6 I6 L5 (y := F_X11_promise G g8 (ad 19 0) (iI p) (iI x) (iI y) (iI z)) (r := iI (v 15)) (fun M => by rw [← (Q8 19 0 (by omega) (by omega) (by omega) (by omega)).1]; exact u_promise M ef)
    refine ⟨_, g8, h9, ?_, y1, y2, y3⟩
    have x3 := (l3.size R7).1
    have a3 : ad2 0 2 = ad 0 2 := (Q7 0 2 (by omega) (by omega)).1
    rw [a3, a2] at e8
    rw [a3] at x3
    have k6 : gR g8 (some (ad 10 0)) 10 2 = some (some (ad 0 2)) := by
      have := R8.getR N6.1 (j := 2) rfl
      rw [(Q8 10 0 (by omega) (by omega) (by omega) (by omega)).1, a0] at this
      exact this
    have x6 := l8.size R8
    rw [a0] at x6
    have xz : iI z = 0 ∨ iI z = 1 := by rcases z01 with rfl | rfl <;> decide
    have xg' : ∀ {α : Type} (y : Option α), xg (iI z = 0 ∨ iI z = 1) y = y := fun y => if_pos xz
    unfold F_X10_promise
    rw [R.obj C.k, Option.bind_some, ew.1, Option.bind_some, if_neg (by simp), wx, Option.bind_some, if_pos c2, if_neg (by decide), wy, Option.bind_some, if_pos c3, if_neg (by decide), R.getR C.k (j := 2) rfl, Option.bind_some, lz.1, Option.bind_some, lz.2, Option.bind_some, l_12, if_pos (by (first | rw [iI_lt (by omega) (by omega) (by omega) (by omega)] | rw [iI_le (by omega) (by omega) (by omega) (by omega)] | rw [iI_eq (by omega) (by omega) (by omega) (by omega)]); omega), Option.bind_some, e1, Option.bind_some]
    dsimp only
    rw [Option.bind_some]
    unfold F_X6_init
    simp only [e2, rf_some, xg', e3, e4, e5, e6, e7, Option.bind_some, x3, e8, k6, x6.1, x6.2]
    rw [l_1, iI_sub]
    congr 3; omega
  · have ef : FM_promise s (iI p) (iI x) (iI y) (iI z) = some (iI (-1), mI s 0 (iI 0)) := by
      unfold FM_promise FM_isService
      simp only [xl, l_0, l_1, l_12, l_200, l_1000, iI_neg, Rl.fd R0 1 (by decide) (by decide), Rl.fd R0 15 (by decide) (by decide)]
      by_cases d1 : p < 0
      · rw [if_pos (by (first | rw [iI_lt (by omega) (by omega) (by omega) (by omega)] | rw [iI_le (by omega) (by omega) (by omega) (by omega)] | rw [iI_eq (by omega) (by omega) (by omega) (by omega)]); omega), Option.bind_some, if_pos rfl]
      · rw [if_neg (by (first | rw [iI_lt (by omega) (by omega) (by omega) (by omega)] | rw [iI_le (by omega) (by omega) (by omega) (by omega)] | rw [iI_eq (by omega) (by omega) (by omega) (by omega)]); omega)]
        by_cases d2 : v 1 ≤ p
        · rw [if_pos (by (first | rw [iI_lt (by omega) (by omega) (by omega) (by omega)] | rw [iI_le (by omega) (by omega) (by omega) (by omega)] | rw [iI_eq (by omega) (by omega) (by omega) (by omega)]); omega), Option.bind_some, if_pos rfl]
        · rw [if_neg (by (first | rw [iI_lt (by omega) (by omega) (by omega) (by omega)] | rw [iI_le (by omega) (by omega) (by omega) (by omega)] | rw [iI_eq (by omega) (by omega) (by omega) (by omega)]); omega), Option.bind_some, if_neg (by decide)]
          by_cases d3 : x < 1
          · rw [if_pos (by (first | rw [iI_lt (by omega) (by omega) (by omega) (by omega)] | rw [iI_le (by omega) (by omega) (by omega) (by omega)] | rw [iI_eq (by omega) (by omega) (by omega) (by omega)]); omega)]
          · rw [if_neg (by (first | rw [iI_lt (by omega) (by omega) (by omega) (by omega)] | rw [iI_le (by omega) (by omega) (by omega) (by omega)] | rw [iI_eq (by omega) (by omega) (by omega) (by omega)]); omega)]
            by_cases d4 : 200 < x
            · rw [if_pos (by (first | rw [iI_lt (by omega) (by omega) (by omega) (by omega)] | rw [iI_le (by omega) (by omega) (by omega) (by omega)] | rw [iI_eq (by omega) (by omega) (by omega) (by omega)]); omega)]
            · rw [if_neg (by (first | rw [iI_lt (by omega) (by omega) (by omega) (by omega)] | rw [iI_le (by omega) (by omega) (by omega) (by omega)] | rw [iI_eq (by omega) (by omega) (by omega) (by omega)]); omega)]
              by_cases d5 : y < 0
              · rw [if_pos (by (first | rw [iI_lt (by omega) (by omega) (by omega) (by omega)] | rw [iI_le (by omega) (by omega) (by omega) (by omega)] | rw [iI_eq (by omega) (by omega) (by omega) (by omega)]); omega)]
              · rw [if_neg (by (first | rw [iI_lt (by omega) (by omega) (by omega) (by omega)] | rw [iI_le (by omega) (by omega) (by omega) (by omega)] | rw [iI_eq (by omega) (by omega) (by omega) (by omega)]); omega)]
                by_cases d6 : 1000 < y
                · rw [if_pos (by (first | rw [iI_lt (by omega) (by omega) (by omega) (by omega)] | rw [iI_le (by omega) (by omega) (by omega) (by omega)] | rw [iI_eq (by omega) (by omega) (by omega) (by omega)]); omega)]
                · rw [if_neg (by (first | rw [iI_lt (by omega) (by omega) (by omega) (by omega)] | rw [iI_le (by omega) (by omega) (by omega) (by omega)] | rw [iI_eq (by omega) (by omega) (by omega) (by omega)]); omega), if_pos (by (first | rw [iI_lt (by omega) (by omega) (by omega) (by omega)] | rw [iI_le (by omega) (by omega) (by omega) (by omega)] | rw [iI_eq (by omega) (by omega) (by omega) (by omega)]); omega)]
    obtain ⟨q1, h6, q2, q3⟩ := Jgo0 R M O I C R0 (fun M => u_promise M ef)
    refine ⟨_, h, h6, ?_, q1, q2, q3⟩
    unfold F_X10_promise
    by_cases c1 : 0 ≤ p ∧ p < v 1
    · have ew := c_serviceAt R C c1.1 c1.2 (by omega)
      rw [R.obj C.k, Option.bind_some, ew.1, Option.bind_some, if_neg (by simp), wx, Option.bind_some]
      by_cases c2 : 1 ≤ x ∧ x ≤ 200
      · rw [if_pos c2, if_neg (by decide), wy, Option.bind_some]
        by_cases c3 : 0 ≤ y ∧ y ≤ 1000
        · rw [if_pos c3, if_neg (by decide), R.getR C.k (j := 2) rfl, Option.bind_some, lz.1, Option.bind_some, lz.2, Option.bind_some, l_12, if_neg (by (first | rw [iI_lt (by omega) (by omega) (by omega) (by omega)] | rw [iI_le (by omega) (by omega) (by omega) (by omega)] | rw [iI_eq (by omega) (by omega) (by omega) (by omega)]); omega)]; rfl
        · rw [if_neg c3, if_pos (by decide)]; rfl
      · rw [if_neg c2, if_pos (by decide)]; rfl
    · have ew := c_serviceAtX R C p0 p1 (by omega) (by omega) c1
      rw [R.obj C.k, Option.bind_some, ew, Option.bind_some, if_pos rfl]; rfl
