/-! service, source -/
theorem if_eq_self' {c : Prop} [Decidable c] {x : Int} : (0 : Int32) = iI (if c then 0 else 0) := by split <;> rfl
theorem js_service (G : Nat → Nat) (x m out : Nat) (hG : G 1 < G 0) : sJ_service (fun _ => Jx G x m out) G x m := by
  rintro i h ⟨ad, P, s, v, a, el, cn, ⟨rfl, rfl, rfl⟩, R, M, O, L, I, C⟩
  have R0 := L.m0 (iI 0)
  have i1 := I.1
  have i2 := I.2.1
  have lz := C.2.1.1.size R
  by_cases c : v 1 < 8
  · have L5 := R0.mI 1 (v 1 + 1)
    obtain ⟨g1, ad1, P1, e1, R1, o1, q1⟩ := R.nO 7 (v 1).toNat 7 [.null, .null, .null]
    obtain ⟨g2, ad2, P2, e2, R2, w2, q2⟩ := R1.nO 0 (5 + (v 1).toNat) 0 [.int 0, .null, .int 0]
    have o2 := (q2 7 (v 1).toNat (by omega)).2.trans o1
    have a2 := (q2 7 (v 1).toNat (by omega)).1
    obtain ⟨g3, P3, e3, R3, w3, q3⟩ := R2.sf' w2 (j := 0) (by simp) (.int 0)
    obtain ⟨g4, P4, e4, R4, w4, q4⟩ := R3.sf' w3 (j := 1) (by simp) (.ref (G 1))
    have o4 := (q4 7 (v 1).toNat (by omega)).trans ((q3 7 (v 1).toNat (by omega)).trans o2)
    obtain ⟨g5, P5, e5, R5, o5, q5⟩ := R4.sf' o4 (j := 0) (by simp) (.ref (ad2 0 (5 + (v 1).toNat)))
    obtain ⟨g6, ad6, P6, e6, R6, x6, q6⟩ := R5.nI 71 (v 1).toNat 601
    have o6 := (q6 7 (v 1).toNat (by omega)).2.trans o5
    have a6 := (q6 7 (v 1).toNat (by omega)).1
    obtain ⟨g7, P7, e7, R7, o7, q7⟩ := R6.sf' o6 (j := 1) (by simp) (.ref (ad6 71 (v 1).toNat))
    obtain ⟨g8, ad8, P8, e8, R8, y8, q8⟩ := R7.nI 72 (v 1).toNat 601
    have o8 := (q8 7 (v 1).toNat (by omega)).2.trans o7
    have a8 := (q8 7 (v 1).toNat (by omega)).1
    obtain ⟨g9, P9, e9, R9, o9, q9⟩ := R8.sf' o8 (j := 2) (by simp) (.ref (ad8 72 (v 1).toNat))
    rw [a2] at e5
    rw [a6, a2] at e7
    rw [a8, a6, a2] at e9
    have Q9 : ∀ k i, ¬ (k = 7 ∧ i = (v 1).toNat) → ¬ (k = 0 ∧ i = 5 + (v 1).toNat) → ¬ (k = 71 ∧ i = (v 1).toNat) → ¬ (k = 72 ∧ i = (v 1).toNat) → ad8 k i = ad k i ∧ P9 k i = P k i := fun k i n1 n2 n3 n4 => ⟨(q8 k i n4).1.trans ((q6 k i n3).1.trans ((q2 k i n2).1.trans (q1 k i n1).1)), (q9 k i n1).trans ((q8 k i n4).2.trans ((q7 k i n1).trans ((q6 k i n3).2.trans ((q5 k i n1).trans ((q4 k i n2).trans ((q3 k i n2).trans ((q2 k i n2).2.trans (q1 k i n1).2)))))))⟩
    have w9 : P9 0 (5 + (v 1).toNat) = _ := (q9 _ _ (by omega)).trans ((q8 _ _ (by omega)).2.trans ((q7 _ _ (by omega)).trans ((q6 _ _ (by omega)).2.trans ((q5 _ _ (by omega)).trans w4))))
    have x9 : P9 71 (v 1).toNat = _ := (q9 _ _ (by omega)).trans ((q8 _ _ (by omega)).2.trans ((q7 _ _ (by omega)).trans x6))
    have y9 : P9 72 (v 1).toNat = _ := (q9 _ _ (by omega)).trans y8
    have b0 : ad8 0 (5 + (v 1).toNat) = ad2 0 (5 + (v 1).toNat) := (q8 _ _ (by omega)).1.trans (q6 _ _ (by omega)).1
    have b71 : ad8 71 (v 1).toNat = ad6 71 (v 1).toNat := (q8 _ _ (by omega)).1
    have b7 : ad8 7 (v 1).toNat = ad1 7 (v 1).toNat := a8.trans (a6.trans a2)
    have l3 : Ls G ad8 P9 0 7 (v 1) (fun x => x) := C.2.1.1.x (Q9 0 0 (by omega) (by omega) (by omega) (by omega)).2 (Q9 50 0 (by omega) (by omega) (by omega) (by omega)).2 (Q9 50 0 (by omega) (by omega) (by omega) (by omega)).1 (fun y y0 y1 => (Q9 7 y.toNat (by omega) (by omega) (by omega) (by omega)).1)
    obtain ⟨gA, adA, PA, eA, RA, lA, qA, rA⟩ := l3.add R9 hG i1.1 (by omega) (e := v 1) o9 (fun y y0 y1 => ⟨_, (Q9 7 y.toNat (by omega) (by omega) (by omega) (by omega)).2.trans (C.2.2.1 y y0 y1).1⟩) (by decide) (by decide)
    have QA : ∀ k i, ¬ (k = 7 ∧ i = (v 1).toNat) → ¬ (k = 0 ∧ i = 5 + (v 1).toNat) → ¬ (k = 71 ∧ i = (v 1).toNat) → ¬ (k = 72 ∧ i = (v 1).toNat) → ¬ (k = 0 ∧ i = 0) → ¬ (k = 50 ∧ i = 0) → adA k i = ad k i ∧ PA k i = P k i := fun k i n1 n2 n3 n4 n5 n6 => ⟨(rA k i n6).trans (Q9 k i n1 n2 n3 n4).1, (qA k i n5 n6).trans (Q9 k i n1 n2 n3 n4).2⟩
    have a0 : ∀ i, i ≠ 5 + (v 1).toNat → adA 0 i = ad 0 i := fun i hi => (rA 0 i (by omega)).trans (Q9 0 i (by omega) (by omega) (by omega) (by omega)).1
    have N6 : Cn G adA PA v a := C.n.x I (fun k i u => by unfold Us at u; exact (QA k i (by omega) (by omega) (by omega) (by omega) (by omega) (by omega)).2) (fun k i u => by unfold Us at u; exact (QA k i (by omega) (by omega) (by omega) (by omega) (by omega) (by omega)).1) (fun i hi => a0 i (by omega))
    have oA : PA 7 (v 1).toNat = some (.inr (7, [.ref (ad2 0 (5 + (v 1).toNat)), .ref (ad6 71 (v 1).toNat), .ref (ad8 72 (v 1).toNat)])) := (qA 7 _ (by omega) (by omega)).trans o9
    have hno : ∀ t, qa v a (v 1) t = 0 ∧ qb v a (v 1) t = 0 := by
      intro t
      have hs := I.2.2.2.2.2.2.2.2.1
      have z : pr (fun _ => 0) (v 2) = 0 := by rw [pr_const 0 i2.1, Int.zero_mul]
      constructor
      · rw [← z]
        exact pr_congr fun j j0 j1 => if_neg (by have := hs j j0 j1; omega)
      · rw [← z]
        exact pr_congr fun j j0 j1 => if_neg (by have := hs j j0 j1; omega)
    have C6 : Cc G adA PA (tv v 1 (v 1 + 1)) a el (fun w => if w = v 1 then 0 else cn w) := by
      obtain ⟨y0, y2, y3, y4, y5, y6, y7, y8, y9'⟩ := N6
      obtain ⟨l0, l1, l2, l3, l4, l5⟩ := C.2.1
      have Z : ∀ k i, ¬ (k = 7) → ¬ (k = 0 ∧ i = 5 + (v 1).toNat) → ¬ (k = 71) → ¬ (k = 72) → ¬ (k = 0 ∧ i = 0) → ¬ (k = 50 ∧ i = 0) → adA k i = ad k i ∧ PA k i = P k i := fun k i n1 n2 n3 n4 n5 n6 => QA k i (by omega) n2 (by omega) (by omega) n5 n6
      refine ⟨y0, ⟨lA.e (fun y _ _ => by split <;> omega), l1.x (Z 0 1 (by omega) (by omega) (by omega) (by omega) (by omega) (by omega)).2 (Z 50 1 (by omega) (by omega) (by omega) (by omega) (by omega) (by omega)).2 (Z 50 1 (by omega) (by omega) (by omega) (by omega) (by omega) (by omega)).1 (fun y _ _ => (Z 8 _ (by omega) (by omega) (by omega) (by omega) (by omega) (by omega)).1), l2.x (Z 0 2 (by omega) (by omega) (by omega) (by omega) (by omega) (by omega)).2 (Z 50 2 (by omega) (by omega) (by omega) (by omega) (by omega) (by omega)).2 (Z 50 2 (by omega) (by omega) (by omega) (by omega) (by omega) (by omega)).1 (fun y _ _ => (Z 6 _ (by omega) (by omega) (by omega) (by omega) (by omega) (by omega)).1), l3.x (Z 0 3 (by omega) (by omega) (by omega) (by omega) (by omega) (by omega)).2 (Z 50 3 (by omega) (by omega) (by omega) (by omega) (by omega) (by omega)).2 (Z 50 3 (by omega) (by omega) (by omega) (by omega) (by omega) (by omega)).1 (fun y _ _ => (Z 1 _ (by omega) (by omega) (by omega) (by omega) (by omega) (by omega)).1), l4.x (Z 0 4 (by omega) (by omega) (by omega) (by omega) (by omega) (by omega)).2 (Z 50 4 (by omega) (by omega) (by omega) (by omega) (by omega) (by omega)).2 (Z 50 4 (by omega) (by omega) (by omega) (by omega) (by omega) (by omega)).1 (fun y _ _ => (Z 3 _ (by omega) (by omega) (by omega) (by omega) (by omega) (by omega)).1), fun w w0 w1 => ?_⟩, ?_, y3, y4, y5, y6, y7, y8, y9', ?_⟩
      · have w1' : w < v 1 + 1 := w1
        by_cases q : w = v 1
        · subst q
          refine ⟨0, Or.inl ⟨if_pos rfl, ?_⟩⟩
          exact (qA 0 _ (by omega) (by omega)).trans w9
        · dsimp only
          rw [if_neg q]
          exact (l5 w w0 (by omega)).x (Z 0 _ (by omega) (by omega) (by omega) (by omega) (by omega) (by omega)).2 (Z 50 _ (by omega) (by omega) (by omega) (by omega) (by omega) (by omega)).2 (Z 50 _ (by omega) (by omega) (by omega) (by omega) (by omega) (by omega)).1 (fun y _ _ => (Z 8 _ (by omega) (by omega) (by omega) (by omega) (by omega) (by omega)).1)
      · intro w w0 w1
        have w1' : w < v 1 + 1 := w1
        by_cases q : w = v 1
        · subst q
          refine ⟨?_, ?_, ?_⟩
          · rw [oA, rA 0 _ (by omega), b0, rA 71 _ (by omega), b71, rA 72 _ (by omega)]
          · rw [qA 71 _ (by omega) (by omega), x9, show (fun _ : Nat => (0 : Int32)) = (fun t : Nat => iI (cl 601 (qa (tv v 1 (v 1 + 1)) a (v 1)) t)) from funext fun t => by
              show (0 : Int32) = iI (cl 601 (qa v a (v 1)) t)
              unfold cl
              rw [(hno t).1]
              exact if_eq_self' (x := 0)]
          · rw [qA 72 _ (by omega) (by omega), y9, show (fun _ : Nat => (0 : Int32)) = (fun t : Nat => iI (cl 601 (qb (tv v 1 (v 1 + 1)) a (v 1)) t)) from funext fun t => by
              show (0 : Int32) = iI (cl 601 (qb v a (v 1)) t)
              unfold cl
              rw [(hno t).2]
              exact if_eq_self' (x := 0)]
        · exact y2 w w0 (by omega)
      · intro w w0 w1
        have w1' : w < v 1 + 1 := w1
        by_cases q : w = v 1
        · subst q
          dsimp only
          rw [if_pos rfl]
          have hs := I.2.2.2.2.2.2.2.2.1
          refine ⟨⟨by omega, i2.1⟩, fun x x0 x1 => by omega, fun f => ?_, fun s s0 s1 s2 => ?_⟩
          · show pr _ 0 = pr (fun s => if a 3 s = v 1 then f s else 0) (v 2)
            have z : pr (fun _ => 0) (v 2) = 0 := by rw [pr_const 0 i2.1, Int.zero_mul]
            rw [pr_0]
            exact z.symm.trans (pr_congr fun j j0 j1 => (if_neg (show ¬ a 3 j = v 1 by have := hs j j0 j1; omega)).symm)
          · have := hs s s0 s1
            omega
        · dsimp only
          rw [if_neg q]
          exact C.2.2.2.2.2.2.2.2.2.2 w w0 (by omega)
    have I6 : Iv (tv v 1 (v 1 + 1)) a := by
      obtain ⟨i1, i2, i9, i15, i24, i26, i33, i39, hs, hq, ht, hp, hg, hr, hpt, hal, hch, hz⟩ := I
      refine ⟨⟨show 0 ≤ v 1 + 1 by omega, show v 1 + 1 ≤ 8 by omega⟩, i2, i9, i15, i24, i26, i33, i39, fun j j0 j1 => ?_, hq, ht, fun j j0 j1 => ?_, hg, hr, hpt, hal, hch, hz⟩
      · have := hs j j0 j1
        refine ⟨this.1, ?_, this.2.2⟩
        show a 3 j < v 1 + 1
        omega
      · have := hp j j0 j1
        refine ⟨this.1, ?_, this.2.2⟩
        show a 16 j < v 1 + 1
        omega
    have ef : FM_service s = some (iI (v 1), mI (mI s 0 (iI 0)) 1 (iI (v 1 + 1))) := by
      have w1 : v 1 + 1 - 1 = v 1 := by omega
      simp (disch := omega) only [FM_service, Rl.fd R0 1 (by decide) (by decide), mI_s, l_0, l_1, l_2, l_3, l_4, l_5, l_6, l_7, l_8, l_9, l_10, l_12, l_13, l_14, l_15, l_16, l_20, l_21, l_40, l_60, l_78, l_199, l_200, l_300, l_599, l_600, l_601, l_602, l_1000, l_1638, l_10000, l_65536, l_100000, l_1000000, l_m1, L_0, L_1, L_10, L_20, L_1000, L_10000, iI_add, iI_sub, iI_mul, iI_neg, iI_lt, iI_le, iI_eq, iI_max, iI_min, iI_l, jI_i, jI_add, jI_sub, jI_mul, jI_lt, jI_le, jI_eq, kmp_pos, kmp_neg, kmp_le, kmp_ge, if_pos, if_neg, if_true, if_false, true_or, or_true, Option.bind_some, xl, xg, w1]
    obtain ⟨y1, h9, y2, y3⟩ := Jgo (Fr.of2 (fun k i hk => QA k i (by omega) (by omega) (by omega) (by omega) (by omega) (by omega)) (QA 10 0 (by omega) (by omega) (by omega) (by omega) (by omega) (by omega)).1) M O RA C6 I6 L5 (y := F_X11_service G gA (ad 19 0)) (r := iI (v 1)) (fun M => by rw [← (QA 19 0 (by omega) (by omega) (by omega) (by omega) (by omega) (by omega)).1]; exact u_service M ef)
    refine ⟨_, gA, h9, ?_, y1, y2, y3⟩
    have x3 := (l3.size R9).1
    have a3 : ad8 0 0 = ad 0 0 := (Q9 0 0 (by omega) (by omega) (by omega) (by omega)).1
    rw [a3, b7] at eA
    rw [a3] at x3
    have k6 : gR gA (some (ad 10 0)) 10 0 = some (some (ad 0 0)) := by
      have := RA.getR N6.1 (j := 0) rfl
      rw [(QA 10 0 (by omega) (by omega) (by omega) (by omega) (by omega) (by omega)).1, a0 0 (by omega)] at this
      exact this
    have z6 := lA.size RA
    rw [a0 0 (by omega)] at z6
    unfold F_X10_service
    rw [R.getR C.k (j := 0) rfl, Option.bind_some, lz.1, Option.bind_some, lz.2, Option.bind_some, l_8, if_pos (by (first | rw [iI_lt (by omega) (by omega) (by omega) (by omega)] | rw [iI_le (by omega) (by omega) (by omega) (by omega)] | rw [iI_eq (by omega) (by omega) (by omega) (by omega)]); omega), Option.bind_some, e1, Option.bind_some]
    dsimp only
    unfold F_X7_init F_Jx4a65c_init_da8c8 F_Jxc12de_init_da8c8 F_Jxa1e45_init_da8c8
    simp only [e2, rf_some, e3, e4, e5, e6, e7, e8, e9, Option.bind_some, x3, eA, k6, z6.1, z6.2]
    rw [l_1, iI_sub]
    congr 3; omega
  · have ef : FM_service s = some (iI (-1), mI s 0 (iI 0)) := by
      unfold FM_service
      simp only [xl, l_0, l_1, l_8, iI_neg, Rl.fd R0 1 (by decide) (by decide)]
      rw [if_pos (by (first | rw [iI_lt (by omega) (by omega) (by omega) (by omega)] | rw [iI_le (by omega) (by omega) (by omega) (by omega)] | rw [iI_eq (by omega) (by omega) (by omega) (by omega)]); omega)]
    obtain ⟨q1, h6, q2, q3⟩ := Jgo0 R M O I C R0 (fun M => u_service M ef)
    refine ⟨_, h, h6, ?_, q1, q2, q3⟩
    unfold F_X10_service
    rw [R.getR C.k (j := 0) rfl, Option.bind_some, lz.1, Option.bind_some, lz.2, Option.bind_some, l_8, if_neg (by (first | rw [iI_lt (by omega) (by omega) (by omega) (by omega)] | rw [iI_le (by omega) (by omega) (by omega) (by omega)] | rw [iI_eq (by omega) (by omega) (by omega) (by omega)]); omega)]; rfl
