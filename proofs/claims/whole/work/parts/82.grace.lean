/-! grace -/
theorem up_up {α : Type} (P : Nat → Nat → α) (k i : Nat) (e e' : α) : up (up P k i e) k i e' = up P k i e' := by
  funext k' i'
  unfold up
  by_cases q : k' = k ∧ i' = i
  · rw [if_pos q, if_pos q]
  · rw [if_neg q, if_neg q, if_neg q]
theorem up_self {α : Type} {P : Nat → Nat → α} {k i : Nat} {e : α} (h : P k i = e) : up P k i e = P := by
  funext k' i'
  unfold up
  by_cases q : k' = k ∧ i' = i
  · rw [if_pos q, q.1, q.2, h]
  · rw [if_neg q]
theorem nar_1 : vp_nar .boolean (iI 1) = iI 1 := by decide
section GRC
variable {G : Nat → Nat} {h : xH} {ad : Nat → Nat → Nat} {P : xP} {s : mS} {v : Nat → Int} {a : Nat → Int → Int} {el : Int → Int → Int} {cn : Int → Int}
theorem c_lv {p x3 : Int} {fs : List Value} (hp : P 6 p.toNat = some (.inr (6, fs))) (h4 : fs[4]? = some (.ref (ad 64 p.toNat))) (hx : x3 ≤ 600) : ∀ (n : Nat) (h : xH) (f : Nat → Int32) (i : Int), Rep G h ad (up P 64 p.toNat (some (.inl (G 3, 601, .inl f)))) → 0 ≤ i → i ≤ x3 + 1 → x3 + 1 - i < n → ∃ h', F_X6_leaveOut_27 G (ad 6 p.toNat) (iI x3) n h (iI i) = some (iI 1, h') ∧ Rep G h' ad (up P 64 p.toNat (some (.inl (G 3, 601, .inl (fun t : Nat => if i ≤ t ∧ t ≤ x3 then iI 1 else f t))))) := by
  intro n
  induction n with
  | zero => intro h f i R h0 h1 h2; omega
  | succ n ih =>
    intro h f i R h0 h1 h2
    by_cases q : i = x3 + 1
    · refine ⟨h, ?_, ?_⟩
      · simp (disch := omega) only [F_X6_leaveOut_27, l_0, l_1, l_2, l_3, l_4, l_5, l_6, l_7, l_8, l_9, l_10, l_12, l_13, l_14, l_15, l_16, l_20, l_21, l_40, l_60, l_78, l_199, l_200, l_300, l_599, l_600, l_601, l_602, l_1000, l_1638, l_10000, l_65536, l_100000, l_1000000, l_m1, L_0, L_1, L_10, L_20, L_1000, L_10000, iI_add, iI_sub, iI_mul, iI_neg, iI_lt, iI_le, iI_eq, iI_max, iI_min, iI_l, jI_i, jI_add, jI_sub, jI_mul, jI_lt, jI_le, jI_eq, kmp_pos, kmp_neg, kmp_le, kmp_ge, if_pos, if_neg, if_true, if_false, true_or, or_true, Option.bind_some, xl, xg]
      · have : (fun t : Nat => if i ≤ t ∧ t ≤ x3 then iI 1 else f t) = f := by
          funext t
          exact if_neg (by omega)
        rw [this]; exact R
    · have p6 : up P 64 p.toNat (some (.inl (G 3, 601, .inl f))) 6 p.toNat = some (.inr (6, fs)) := by rw [up_kind _ (by decide)]; exact hp
      obtain ⟨h', e1, R1⟩ := R.si (up_same _ _ _ _) (z := i) h0 (by omega) (by decide) (iI 1)
      rw [up_up] at R1
      obtain ⟨h2, e2, R2⟩ := ih h' _ (i + 1) R1 (by omega) (by omega) (by omega)
      refine ⟨h2, ?_, ?_⟩
      · rw [← e2]
        simp (disch := omega) only [F_X6_leaveOut_27, R.getR p6 (j := 4) h4, nar_1, e1, l_0, l_1, l_2, l_3, l_4, l_5, l_6, l_7, l_8, l_9, l_10, l_12, l_13, l_14, l_15, l_16, l_20, l_21, l_40, l_60, l_78, l_199, l_200, l_300, l_599, l_600, l_601, l_602, l_1000, l_1638, l_10000, l_65536, l_100000, l_1000000, l_m1, L_0, L_1, L_10, L_20, L_1000, L_10000, iI_add, iI_sub, iI_mul, iI_neg, iI_lt, iI_le, iI_eq, iI_max, iI_min, iI_l, jI_i, jI_add, jI_sub, jI_mul, jI_lt, jI_le, jI_eq, kmp_pos, kmp_neg, kmp_le, kmp_ge, if_pos, if_neg, if_true, if_false, true_or, or_true, Option.bind_some, xl, xg]
      · have : (fun t : Nat => if i ≤ t ∧ t ≤ x3 then iI 1 else f t) = (fun t : Nat => if i + 1 ≤ t ∧ t ≤ x3 then iI 1 else upd f i.toNat (iI 1) t) := by
          funext t
          unfold upd
          by_cases q1 : (t : Int) = i
          · rw [if_pos (by omega), if_neg (by omega), if_pos (by omega)]
          · by_cases q2 : i ≤ t ∧ t ≤ x3
            · rw [if_pos q2, if_pos (by omega)]
            · rw [if_neg q2, if_neg (by omega), if_neg (by omega)]
        rw [this]; exact R2
/-- the numbers after a grace -/
def ga (a : Nat → Int → Int) (p x y : Int) : Nat → Int → Int := ta (ta (ta a 21 (10 * p + a 20 p) x) 22 (10 * p + a 20 p) y) 20 p (a 20 p + 1)
theorem ga_gl (I : Iv v a) {p x y : Int} (p0 : 0 ≤ p) (p1 : p < 12) (hk : a 20 p < 10) {p' : Int} (p0' : 0 ≤ p') (p1' : p' < 12) (t : Int) : gl (ga a p x y) p' t = if p' = p ∧ x ≤ t ∧ t ≤ y then 1 else gl a p' t := by
  obtain ⟨i1, i2, i9, i15, i24, i26, i33, i39, hs, hq, ht, hp, hg, hr, hpt, hal, hch, hz⟩ := I
  have g1 := hg p p0 p1
  have g2 := hg p' p0' p1'
  have e20 : ga a p x y 20 p' = if p' = p then a 20 p + 1 else a 20 p' := by
    unfold ga; rw [ta_k, ta_n _ _ _ _ 20 _ (by decide), ta_n _ _ _ _ 20 _ (by decide)]
  have e21 : ∀ j, 0 ≤ j → j < 10 → ga a p x y 21 (10 * p' + j) = if p' = p ∧ j = a 20 p then x else a 21 (10 * p' + j) := by
    intro j j0 j1
    unfold ga; rw [ta_n _ _ _ _ 21 _ (by decide), ta_n _ _ _ _ 21 _ (by decide), ta_k]
    by_cases q : p' = p ∧ j = a 20 p
    · rw [if_pos q, if_pos (by omega)]
    · rw [if_neg q, if_neg (by omega)]
  have e22 : ∀ j, 0 ≤ j → j < 10 → ga a p x y 22 (10 * p' + j) = if p' = p ∧ j = a 20 p then y else a 22 (10 * p' + j) := by
    intro j j0 j1
    unfold ga; rw [ta_n _ _ _ _ 22 _ (by decide), ta_k, ta_n _ _ _ _ 22 _ (by decide)]
    by_cases q : p' = p ∧ j = a 20 p
    · rw [if_pos q, if_pos (by omega)]
    · rw [if_neg q, if_neg (by omega)]
  have old : pr (gf (ga a p x y) p' t) (a 20 p') = pr (gf a p' t) (a 20 p') := by
    apply pr_congr
    intro j j0 j1
    unfold gf
    have ne : ¬ (p' = p ∧ j = a 20 p) := by
      rintro ⟨rfl, hj⟩
      omega
    rw [e21 j j0 (by omega), e22 j j0 (by omega), if_neg ne, if_neg ne]
  unfold gl
  rw [e20]
  by_cases q : p' = p
  · subst q
    rw [if_pos rfl, pr_1 _ g1.1, old]
    have b := pr_ge (f := gf a p' t) (x := 0) (y := a 20 p') (c := 0) (by omega) (by omega) (fun j _ _ => (gf_b a p' t j).1)
    rw [pr_0] at b
    have en : gf (ga a p' x y) p' t (a 20 p') = if x ≤ t ∧ t ≤ y then 1 else 0 := by
      unfold gf
      rw [e21 _ g1.1 hk, e22 _ g1.1 hk, if_pos (show p' = p' ∧ a 20 p' = a 20 p' from ⟨rfl, rfl⟩), if_pos (show p' = p' ∧ a 20 p' = a 20 p' from ⟨rfl, rfl⟩)]
    rw [en]
    by_cases c : x ≤ t ∧ t ≤ y
    · rw [if_pos c, if_pos (by omega), if_pos ⟨rfl, c⟩]
    · rw [if_neg c, if_neg (show ¬ (p' = p' ∧ x ≤ t ∧ t ≤ y) from fun z => c z.2), Int.add_zero]
  · rw [if_neg q, old, if_neg (show ¬ (p' = p ∧ x ≤ t ∧ t ≤ y) from fun z => q z.1)]
theorem ga_iv (I : Iv v a) {p x y : Int} (p0 : 0 ≤ p) (p1 : p < v 15) (hk : a 20 p < 10) (x0 : 0 ≤ x) (xy : x ≤ y) (y1 : y ≤ 600) : Iv v (ga a p x y) := by
  obtain ⟨i1, i2, i9, i15, i24, i26, i33, i39, hs, hq, ht, hp, hg, hr, hpt, hal, hch, hz⟩ := I
  have g1 := hg p p0 (by omega)
  refine ⟨i1, i2, i9, i15, i24, i26, i33, i39, hs, hq, ht, hp, fun p' p0' p1' => ?_, fun p' k p0' p1' k0 k1 => ?_, hpt, hal, hch, hz⟩
  · have := hg p' p0' p1'
    unfold ga; rw [ta_k, ta_n _ _ _ _ 20 _ (by decide), ta_n _ _ _ _ 20 _ (by decide)]
    by_cases q : p' = p
    · subst q; rw [if_pos rfl]; omega
    · rw [if_neg q]; exact this
  · have h2 := hg p' p0' p1'
    have h3 : ga a p x y 20 p' = if p' = p then a 20 p + 1 else a 20 p' := by
      unfold ga; rw [ta_k, ta_n _ _ _ _ 20 _ (by decide), ta_n _ _ _ _ 20 _ (by decide)]
    rw [h3] at k1
    unfold ga
    rw [ta_n _ _ _ _ 21 _ (by decide), ta_n _ _ _ _ 21 _ (by decide), ta_k, ta_n _ _ _ _ 22 _ (by decide), ta_k, ta_n _ _ _ _ 22 _ (by decide)]
    by_cases q : p' = p
    · subst q
      rw [if_pos rfl] at k1
      by_cases q2 : k = a 20 p'
      · rw [if_pos (by omega), if_pos (by omega)]; omega
      · rw [if_neg (by omega), if_neg (by omega)]; exact hr p' k p0' p1' k0 (by omega)
    · rw [if_neg q] at k1
      rw [if_neg (by omega), if_neg (by omega)]; exact hr p' k p0' p1' k0 k1
end GRC
theorem js_grace (G : Nat → Nat) (x m out : Nat) : sJ_grace (fun _ => Jx G x m out) G x m := by
  rintro i h ⟨ad, P, s, v, a, el, cn, ⟨rfl, rfl, rfl⟩, R, M, O, L, I, C⟩ a1 a2 a3
  obtain ⟨p, rfl, p0, p1⟩ := iI_arg a1
  obtain ⟨x, rfl, x0, x1⟩ := iI_arg a2
  obtain ⟨y, rfl, y0, y1⟩ := iI_arg a3
  have R0 := L.m0 (iI 0)
  have i9 := I.2.2.1
  have i15 := I.2.2.2.1
  by_cases c1 : 0 ≤ p ∧ p < v 15
  · have ew := c_promiseAt R C c1.1 c1.2 (by omega)
    have hc := C.2.2.2.2.1 p c1.1 c1.2
    by_cases c2 : v 9 < x ∧ x ≤ y ∧ y ≤ 600
    · have hg := I.2.2.2.2.2.2.2.2.2.2.2.2.1 p c1.1 (by omega)
      by_cases c3 : a 20 p = 10
      · have e2 : FM_grace s (iI p) (iI x) (iI y) = some (iI 0, mI s 0 (iI 0)) := by
          simp (disch := omega) only [FM_grace, FM_isPromise, Rl.fd R0 9 (by decide) (by decide), Rl.fd R0 15 (by decide) (by decide), Rl.ld R0 20 12 (by decide) rfl, l_0, l_1, l_2, l_3, l_4, l_5, l_6, l_7, l_8, l_9, l_10, l_12, l_13, l_14, l_15, l_16, l_20, l_21, l_40, l_60, l_78, l_199, l_200, l_300, l_599, l_600, l_601, l_602, l_1000, l_1638, l_10000, l_65536, l_100000, l_1000000, l_m1, L_0, L_1, L_10, L_20, L_1000, L_10000, iI_add, iI_sub, iI_mul, iI_neg, iI_lt, iI_le, iI_eq, iI_max, iI_min, iI_l, jI_i, jI_add, jI_sub, jI_mul, jI_lt, jI_le, jI_eq, kmp_pos, kmp_neg, kmp_le, kmp_ge, if_pos, if_neg, if_true, if_false, true_or, or_true, Option.bind_some, xl, xg]
        obtain ⟨q1, h2, q2, q3⟩ := Jgo0 R M O I C R0 (fun M => u_grace M e2)
        refine ⟨_, h, h2, ?_, q1, q2, q3⟩
        have g0 : (iI 0 = iI 0 ∨ iI 0 = iI 1) := Or.inl rfl
        simp (disch := first | omega | exact g0) only [F_X10_grace, F_X6_leaveOut, R.obj C.k, ew.1, ew.2, some_ne, R.getI C.k (j := 8) rfl, R.getI hc.1 (j := 5) rfl, c_within, l_0, l_1, l_2, l_3, l_4, l_5, l_6, l_7, l_8, l_9, l_10, l_12, l_13, l_14, l_15, l_16, l_20, l_21, l_40, l_60, l_78, l_199, l_200, l_300, l_599, l_600, l_601, l_602, l_1000, l_1638, l_10000, l_65536, l_100000, l_1000000, l_m1, L_0, L_1, L_10, L_20, L_1000, L_10000, iI_add, iI_sub, iI_mul, iI_neg, iI_lt, iI_le, iI_eq, iI_max, iI_min, iI_l, jI_i, jI_add, jI_sub, jI_mul, jI_lt, jI_le, jI_eq, kmp_pos, kmp_neg, kmp_le, kmp_ge, if_pos, if_neg, if_true, if_false, true_or, or_true, Option.bind_some, xl, xg]
      · obtain ⟨s2, f1, L1⟩ := R0.st 21 120 (by decide) rfl (z := 10 * p + a 20 p) (w := x) (by omega) (by omega)
        obtain ⟨s3, f2, L2⟩ := L1.st 22 120 (by decide) rfl (z := 10 * p + a 20 p) (w := y) (by omega) (by omega)
        obtain ⟨s4, f3, L3⟩ := L2.st 20 12 (by decide) rfl (z := p) (w := a 20 p + 1) (by omega) (by omega)
        obtain ⟨h1, e1, R1⟩ := R.sf hc.1 (j := 5) (by simp) (.int (iI (a 20 p + 1)))
        have p64 : up P 6 p.toNat (some (.inr (6, [.ref (ad 7 (a 16 p).toNat), .int (iI (a 17 p)), .int (iI (a 18 p)), .int (iI (a 19 p)), .ref (ad 64 p.toNat), .int (iI (a 20 p + 1))]))) 64 p.toNat = some (.inl (G 3, 601, .inl (fun t => iI (gl a p t)))) := by rw [up_kind _ (by decide)]; exact hc.2
        have R1' : Rep G h1 ad (up P 6 p.toNat (some (.inr (6, [.ref (ad 7 (a 16 p).toNat), .int (iI (a 17 p)), .int (iI (a 18 p)), .int (iI (a 19 p)), .ref (ad 64 p.toNat), .int (iI (a 20 p + 1))])))) := R1
        rw [← up_self p64] at R1'
        obtain ⟨h2, e2, R2⟩ := c_lv (up_same _ _ _ _) rfl c2.2.2 xN h1 _ x R1' (by omega) (by omega) (by unfold xN; omega)
        have C1 : Cc G ad (up (up P 6 p.toNat (some (.inr (6, [.ref (ad 7 (a 16 p).toNat), .int (iI (a 17 p)), .int (iI (a 18 p)), .int (iI (a 19 p)), .ref (ad 64 p.toNat), .int (iI (a 20 p + 1))])))) 64 p.toNat (some (.inl (G 3, 601, .inl (fun t : Nat => if x ≤ t ∧ t ≤ y then iI 1 else iI (gl a p t)))))) v (ga a p x y) el cn := by
          obtain ⟨z0, z1, z2, z3, z4, z5, z6, z7, z8, z9, z10⟩ := C
          refine ⟨z0.c fun k q i => ?_, z1.c fun k q i => ?_, cS.c (P := P) z2 fun k q i => ?_, cO.c (P := P) z3 fun k q i => ?_, ?_, cT.c (P := P) z5 fun k q i => ?_, cA.c (P := P) z6 fun k q i => ?_, cH.c (P := P) z7 fun k q i => ?_, cL.c (P := P) z8 fun k q i => ?_, z9.c fun k q i => ?_, z10⟩
          all_goals first | (rw [up_kind _ (by omega), up_kind _ (by omega)]; done) | skip
          intro j j0 j1
          have e20 : ga a p x y 20 j = if j = p then a 20 p + 1 else a 20 j := by
            unfold ga; rw [ta_k, ta_n _ _ _ _ 20 _ (by decide), ta_n _ _ _ _ 20 _ (by decide)]
          have egl := fun t : Nat => ga_gl I c1.1 (by omega) (show a 20 p < 10 by omega) (x := x) (y := y) j0 (show j < 12 by omega) t
          by_cases q : j = p
          · subst q
            rw [up_kind _ (by decide), up_same, up_same, e20, if_pos rfl]
            refine ⟨rfl, ?_⟩
            congr 6
            funext t
            rw [egl]
            by_cases q2 : x ≤ t ∧ t ≤ y
            · rw [if_pos q2, if_pos ⟨rfl, q2⟩]
            · rw [if_neg q2, if_neg (fun z => q2 z.2)]
          · rw [up_kind _ (by decide), up_idx _ (by omega), up_idx _ (by omega), up_kind _ (by decide), e20, if_neg q]
            have := z4 j j0 j1
            refine ⟨this.1, ?_⟩
            rw [this.2]
            congr 6
            funext t
            rw [egl, if_neg (fun z => q z.1)]
        have I1 := ga_iv I c1.1 c1.2 (show a 20 p < 10 by omega) (x := x) (y := y) (by omega) c2.2.1 c2.2.2
        have e3 : FM_grace s (iI p) (iI x) (iI y) = some (iI 1, s4) := by
          simp (disch := omega) only [FM_grace, FM_isPromise, Rl.fd R0 9 (by decide) (by decide), Rl.fd R0 15 (by decide) (by decide), Rl.ld R0 20 12 (by decide) rfl, f1, Rl.ld L1 20 12 (by decide) rfl, ta_n, f2, Rl.ld L2 20 12 (by decide) rfl, f3, l_0, l_1, l_2, l_3, l_4, l_5, l_6, l_7, l_8, l_9, l_10, l_12, l_13, l_14, l_15, l_16, l_20, l_21, l_40, l_60, l_78, l_199, l_200, l_300, l_599, l_600, l_601, l_602, l_1000, l_1638, l_10000, l_65536, l_100000, l_1000000, l_m1, L_0, L_1, L_10, L_20, L_1000, L_10000, iI_add, iI_sub, iI_mul, iI_neg, iI_lt, iI_le, iI_eq, iI_max, iI_min, iI_l, jI_i, jI_add, jI_sub, jI_mul, jI_lt, jI_le, jI_eq, kmp_pos, kmp_neg, kmp_le, kmp_ge, if_pos, if_neg, if_true, if_false, true_or, or_true, Option.bind_some, xl, xg]
        obtain ⟨q1, h3, q2, q3⟩ := Jgo ((Fr.up (by decide)).trans (Fr.up (by decide))) M O R2 C1 I1 L3 (fun M => u_grace M e3)
        refine ⟨_, h2, h3, ?_, q1, q2, q3⟩
        have g0 : (iI 1 = iI 0 ∨ iI 1 = iI 1) := Or.inr rfl
        have hm : max x 0 = x := by omega
        simp (disch := first | omega | exact g0) only [F_X10_grace, F_X6_leaveOut, R.obj C.k, ew.1, ew.2, some_ne, R.getI C.k (j := 8) rfl, R.getI hc.1 (j := 5) rfl, c_within, e1, hm, e2, l_0, l_1, l_2, l_3, l_4, l_5, l_6, l_7, l_8, l_9, l_10, l_12, l_13, l_14, l_15, l_16, l_20, l_21, l_40, l_60, l_78, l_199, l_200, l_300, l_599, l_600, l_601, l_602, l_1000, l_1638, l_10000, l_65536, l_100000, l_1000000, l_m1, L_0, L_1, L_10, L_20, L_1000, L_10000, iI_add, iI_sub, iI_mul, iI_neg, iI_lt, iI_le, iI_eq, iI_max, iI_min, iI_l, jI_i, jI_add, jI_sub, jI_mul, jI_lt, jI_le, jI_eq, kmp_pos, kmp_neg, kmp_le, kmp_ge, if_pos, if_neg, if_true, if_false, true_or, or_true, Option.bind_some, xl, xg]
    · have e2 : FM_grace s (iI p) (iI x) (iI y) = some (iI 0, mI s 0 (iI 0)) := by
        by_cases c3 : x ≤ v 9
        · simp (disch := omega) only [FM_grace, FM_isPromise, Rl.fd R0 9 (by decide) (by decide), Rl.fd R0 15 (by decide) (by decide), l_0, l_1, l_2, l_3, l_4, l_5, l_6, l_7, l_8, l_9, l_10, l_12, l_13, l_14, l_15, l_16, l_20, l_21, l_40, l_60, l_78, l_199, l_200, l_300, l_599, l_600, l_601, l_602, l_1000, l_1638, l_10000, l_65536, l_100000, l_1000000, l_m1, L_0, L_1, L_10, L_20, L_1000, L_10000, iI_add, iI_sub, iI_mul, iI_neg, iI_lt, iI_le, iI_eq, iI_max, iI_min, iI_l, jI_i, jI_add, jI_sub, jI_mul, jI_lt, jI_le, jI_eq, kmp_pos, kmp_neg, kmp_le, kmp_ge, if_pos, if_neg, if_true, if_false, true_or, or_true, Option.bind_some, xl, xg]
        · by_cases c4 : y < x
          · simp (disch := omega) only [FM_grace, FM_isPromise, Rl.fd R0 9 (by decide) (by decide), Rl.fd R0 15 (by decide) (by decide), l_0, l_1, l_2, l_3, l_4, l_5, l_6, l_7, l_8, l_9, l_10, l_12, l_13, l_14, l_15, l_16, l_20, l_21, l_40, l_60, l_78, l_199, l_200, l_300, l_599, l_600, l_601, l_602, l_1000, l_1638, l_10000, l_65536, l_100000, l_1000000, l_m1, L_0, L_1, L_10, L_20, L_1000, L_10000, iI_add, iI_sub, iI_mul, iI_neg, iI_lt, iI_le, iI_eq, iI_max, iI_min, iI_l, jI_i, jI_add, jI_sub, jI_mul, jI_lt, jI_le, jI_eq, kmp_pos, kmp_neg, kmp_le, kmp_ge, if_pos, if_neg, if_true, if_false, true_or, or_true, Option.bind_some, xl, xg]
          · simp (disch := omega) only [FM_grace, FM_isPromise, Rl.fd R0 9 (by decide) (by decide), Rl.fd R0 15 (by decide) (by decide), l_0, l_1, l_2, l_3, l_4, l_5, l_6, l_7, l_8, l_9, l_10, l_12, l_13, l_14, l_15, l_16, l_20, l_21, l_40, l_60, l_78, l_199, l_200, l_300, l_599, l_600, l_601, l_602, l_1000, l_1638, l_10000, l_65536, l_100000, l_1000000, l_m1, L_0, L_1, L_10, L_20, L_1000, L_10000, iI_add, iI_sub, iI_mul, iI_neg, iI_lt, iI_le, iI_eq, iI_max, iI_min, iI_l, jI_i, jI_add, jI_sub, jI_mul, jI_lt, jI_le, jI_eq, kmp_pos, kmp_neg, kmp_le, kmp_ge, if_pos, if_neg, if_true, if_false, true_or, or_true, Option.bind_some, xl, xg]
      obtain ⟨q1, h2, q2, q3⟩ := Jgo0 R M O I C R0 (fun M => u_grace M e2)
      refine ⟨_, h, h2, ?_, q1, q2, q3⟩
      by_cases c3 : x ≤ v 9
      · simp (disch := omega) only [F_X10_grace, R.obj C.k, ew.1, some_ne, R.getI C.k (j := 8) rfl, l_0, l_1, l_2, l_3, l_4, l_5, l_6, l_7, l_8, l_9, l_10, l_12, l_13, l_14, l_15, l_16, l_20, l_21, l_40, l_60, l_78, l_199, l_200, l_300, l_599, l_600, l_601, l_602, l_1000, l_1638, l_10000, l_65536, l_100000, l_1000000, l_m1, L_0, L_1, L_10, L_20, L_1000, L_10000, iI_add, iI_sub, iI_mul, iI_neg, iI_lt, iI_le, iI_eq, iI_max, iI_min, iI_l, jI_i, jI_add, jI_sub, jI_mul, jI_lt, jI_le, jI_eq, kmp_pos, kmp_neg, kmp_le, kmp_ge, if_pos, if_neg, if_true, if_false, true_or, or_true, Option.bind_some, xl, xg]
      · simp (disch := omega) only [F_X10_grace, R.obj C.k, ew.1, some_ne, R.getI C.k (j := 8) rfl, c_within, l_0, l_1, l_2, l_3, l_4, l_5, l_6, l_7, l_8, l_9, l_10, l_12, l_13, l_14, l_15, l_16, l_20, l_21, l_40, l_60, l_78, l_199, l_200, l_300, l_599, l_600, l_601, l_602, l_1000, l_1638, l_10000, l_65536, l_100000, l_1000000, l_m1, L_0, L_1, L_10, L_20, L_1000, L_10000, iI_add, iI_sub, iI_mul, iI_neg, iI_lt, iI_le, iI_eq, iI_max, iI_min, iI_l, jI_i, jI_add, jI_sub, jI_mul, jI_lt, jI_le, jI_eq, kmp_pos, kmp_neg, kmp_le, kmp_ge, if_pos, if_neg, if_true, if_false, true_or, or_true, Option.bind_some, xl, xg]
  · have ew := c_promiseAtX R C p0 p1 (by omega) (by omega) c1
    have e2 : FM_grace s (iI p) (iI x) (iI y) = some (iI 0, mI s 0 (iI 0)) := by
      by_cases c2 : p < 0
      · simp (disch := omega) only [FM_grace, FM_isPromise, Rl.fd R0 15 (by decide) (by decide), l_0, l_1, l_2, l_3, l_4, l_5, l_6, l_7, l_8, l_9, l_10, l_12, l_13, l_14, l_15, l_16, l_20, l_21, l_40, l_60, l_78, l_199, l_200, l_300, l_599, l_600, l_601, l_602, l_1000, l_1638, l_10000, l_65536, l_100000, l_1000000, l_m1, L_0, L_1, L_10, L_20, L_1000, L_10000, iI_add, iI_sub, iI_mul, iI_neg, iI_lt, iI_le, iI_eq, iI_max, iI_min, iI_l, jI_i, jI_add, jI_sub, jI_mul, jI_lt, jI_le, jI_eq, kmp_pos, kmp_neg, kmp_le, kmp_ge, if_pos, if_neg, if_true, if_false, true_or, or_true, Option.bind_some, xl, xg]
      · simp (disch := omega) only [FM_grace, FM_isPromise, Rl.fd R0 15 (by decide) (by decide), l_0, l_1, l_2, l_3, l_4, l_5, l_6, l_7, l_8, l_9, l_10, l_12, l_13, l_14, l_15, l_16, l_20, l_21, l_40, l_60, l_78, l_199, l_200, l_300, l_599, l_600, l_601, l_602, l_1000, l_1638, l_10000, l_65536, l_100000, l_1000000, l_m1, L_0, L_1, L_10, L_20, L_1000, L_10000, iI_add, iI_sub, iI_mul, iI_neg, iI_lt, iI_le, iI_eq, iI_max, iI_min, iI_l, jI_i, jI_add, jI_sub, jI_mul, jI_lt, jI_le, jI_eq, kmp_pos, kmp_neg, kmp_le, kmp_ge, if_pos, if_neg, if_true, if_false, true_or, or_true, Option.bind_some, xl, xg]
    obtain ⟨q1, h2, q2, q3⟩ := Jgo0 R M O I C R0 (fun M => u_grace M e2)
    refine ⟨_, h, h2, ?_, q1, q2, q3⟩
    simp (disch := omega) only [F_X10_grace, R.obj C.k, ew, none_eq, l_0, l_1, l_2, l_3, l_4, l_5, l_6, l_7, l_8, l_9, l_10, l_12, l_13, l_14, l_15, l_16, l_20, l_21, l_40, l_60, l_78, l_199, l_200, l_300, l_599, l_600, l_601, l_602, l_1000, l_1638, l_10000, l_65536, l_100000, l_1000000, l_m1, L_0, L_1, L_10, L_20, L_1000, L_10000, iI_add, iI_sub, iI_mul, iI_neg, iI_lt, iI_le, iI_eq, iI_max, iI_min, iI_l, jI_i, jI_add, jI_sub, jI_mul, jI_lt, jI_le, jI_eq, kmp_pos, kmp_neg, kmp_le, kmp_ge, if_pos, if_neg, if_true, if_false, true_or, or_true, Option.bind_some, xl, xg]
