/-! the class: broken, over, rings, room -/
theorem xI_l {α : Type} {h : xH} {o : Option Nat} {c0 c1 b : Nat} {f g : Nat → Option α} (e : xc h o c0 = some b) : xI h o c0 c1 f g = f b := by
  unfold xI
  rw [e]
theorem fi_mono (a : Nat → Int → Int) {p t t' : Int} (hw : 0 < a 17 p) (h0 : 0 ≤ t) (h : t ≤ t') : fi a p t ≤ fi a p t' ∧ la a p t ≤ la a p t' := by
  have h1 : t / a 17 p ≤ t' / a 17 p := Int.ediv_le_ediv hw h
  have h2 : t / a 17 p * a 17 p ≤ t' / a 17 p * a 17 p := Int.mul_le_mul_of_nonneg_right h1 (by omega)
  unfold fi la
  split <;> omega
def ovr (a : Nat → Int → Int) (p r A B : Int) : Int := if 10000 * B ≤ r * (1000 - a 18 p) * A then 0 else 1
theorem ovr_01 (a : Nat → Int → Int) (p r A B : Int) : ovr a p r A B = 0 ∨ ovr a p r A B = 1 := by
  unfold ovr; split
  · exact Or.inl rfl
  · exact Or.inr rfl
theorem mul_b {x y X Y : Int} (x0 : 0 ≤ x) (x1 : x ≤ X) (y0 : 0 ≤ y) (y1 : y ≤ Y) : 0 ≤ x * y ∧ x * y ≤ X * Y := ⟨Int.mul_nonneg x0 y0, Int.le_trans (Int.mul_le_mul_of_nonneg_right x1 y0) (Int.mul_le_mul_of_nonneg_left y1 (by omega))⟩
/-- over, of the spans of a service -/
def ovs (v : Nat → Int) (a : Nat → Int → Int) (p r L t : Int) : Int := ovr a p r (pr (qa v a (a 16 p)) (t + 1) - pr (qa v a (a 16 p)) (max (t - L + 1) 0)) (pr (qb v a (a 16 p)) (t + 1) - pr (qb v a (a 16 p)) (max (t - L + 1) 0))
section CLQ
variable {G : Nat → Nat} {h : xH} {ad : Nat → Nat → Nat} {P : xP} {s : mS} {v : Nat → Int} {a : Nat → Int → Int} {el : Int → Int → Int} {cn : Int → Int}
theorem c_b73 (R : Rep G h ad P) (C : Cc G ad P v a el cn) (I : Iv v a) {p : Int} (p0 : 0 ≤ p) (p1 : p < v 15) {i f x5 : Int} (i0 : 0 ≤ i) (i1 : i ≤ 600) (h5 : f ≤ x5) (h6 : x5 ≤ 601) (k : Int32 → Int32 → Int32 → Int32 → Int32 → Option Int32) : ∀ (n : Nat) (x4 : Int), 0 ≤ x4 → x4 ≤ f → f - x4 < n → F_X6_firstBroken_73 G h (ad 6 p.toNat) (iI x5) (iI i) (iI f) k n (iI (pr (na v a p) x5 - pr (na v a p) x4)) (iI (pr (nb v a p) x5 - pr (nb v a p) x4)) (iI x4) = if 0 ≤ lf a p (pr (na v a p) x5 - pr (na v a p) f) (pr (nb v a p) x5 - pr (nb v a p) f) then k (iI (pr (na v a p) x5 - pr (na v a p) f)) (iI (pr (nb v a p) x5 - pr (nb v a p) f)) (iI f) (iI x5) (iI (i + 1)) else some (iI i) := by
  have hc := C.2.2.2.2.1 p p0 p1
  have hp' := I.2.2.2.2.2.2.2.2.2.2.2.1 p p0 p1
  intro n
  induction n with
  | zero => intro x4 h0 h1 h2; omega
  | succ n ih =>
    intro x4 h0 h1 h2
    by_cases q : x4 = f
    · subst q
      have hb := pn_b I (p := p) h0 h5 h6
      have e := c_leftOf R C I p0 p1 (A := pr (na v a p) x5 - pr (na v a p) x4) (B := pr (nb v a p) x5 - pr (nb v a p) x4) (by omega) (by omega)
      have lb := @lf_b a p (pr (na v a p) x5 - pr (na v a p) x4) (pr (nb v a p) x5 - pr (nb v a p) x4) (by omega) (by omega) (by omega)
      by_cases c : 0 ≤ lf a p (pr (na v a p) x5 - pr (na v a p) x4) (pr (nb v a p) x5 - pr (nb v a p) x4)
      · simp (disch := omega) only [F_X6_firstBroken_73, R.obj hc.1, e, l_0, l_1, l_2, l_3, l_4, l_5, l_6, l_7, l_8, l_9, l_10, l_12, l_13, l_14, l_15, l_16, l_20, l_21, l_40, l_60, l_78, l_199, l_200, l_300, l_599, l_600, l_601, l_602, l_1000, l_1638, l_10000, l_65536, l_100000, l_1000000, l_m1, L_0, L_1, L_10, L_20, L_1000, L_10000, iI_add, iI_sub, iI_mul, iI_neg, iI_lt, iI_le, iI_eq, iI_max, iI_min, iI_l, jI_i, jI_add, jI_sub, jI_mul, jI_lt, jI_le, jI_eq, kmp_pos, kmp_neg, kmp_le, kmp_ge, if_pos, if_neg, if_true, if_false, true_or, or_true, Option.bind_some, xl, xg]
      · simp (disch := omega) only [F_X6_firstBroken_73, R.obj hc.1, e, l_0, l_1, l_2, l_3, l_4, l_5, l_6, l_7, l_8, l_9, l_10, l_12, l_13, l_14, l_15, l_16, l_20, l_21, l_40, l_60, l_78, l_199, l_200, l_300, l_599, l_600, l_601, l_602, l_1000, l_1638, l_10000, l_65536, l_100000, l_1000000, l_m1, L_0, L_1, L_10, L_20, L_1000, L_10000, iI_add, iI_sub, iI_mul, iI_neg, iI_lt, iI_le, iI_eq, iI_max, iI_min, iI_l, jI_i, jI_add, jI_sub, jI_mul, jI_lt, jI_le, jI_eq, kmp_pos, kmp_neg, kmp_le, kmp_ge, if_pos, if_neg, if_true, if_false, true_or, or_true, Option.bind_some, xl, xg]
    · rw [← ih (x4 + 1) (by omega) (by omega) (by omega)]
      simp (disch := omega) only [F_X6_firstBroken_73, R.obj hc.1, c_asksAt R C I p0 p1 h0 (show x4 ≤ 600 by omega), c_badAt R C I p0 p1 h0 (show x4 ≤ 600 by omega), pr_1 _ h0, Int.sub_sub, l_0, l_1, l_2, l_3, l_4, l_5, l_6, l_7, l_8, l_9, l_10, l_12, l_13, l_14, l_15, l_16, l_20, l_21, l_40, l_60, l_78, l_199, l_200, l_300, l_599, l_600, l_601, l_602, l_1000, l_1638, l_10000, l_65536, l_100000, l_1000000, l_m1, L_0, L_1, L_10, L_20, L_1000, L_10000, iI_add, iI_sub, iI_mul, iI_neg, iI_lt, iI_le, iI_eq, iI_max, iI_min, iI_l, jI_i, jI_add, jI_sub, jI_mul, jI_lt, jI_le, jI_eq, kmp_pos, kmp_neg, kmp_le, kmp_ge, if_pos, if_neg, if_true, if_false, true_or, or_true, Option.bind_some, xl, xg]
theorem c_b42 (R : Rep G h ad P) (C : Cc G ad P v a el cn) (I : Iv v a) {p : Int} (p0 : 0 ≤ p) (p1 : p < v 15) {i f x4 l : Int} (i0 : 0 ≤ i) (i1 : i ≤ 600) (h4 : 0 ≤ x4) (l1 : l ≤ 600) (k : Int32 → Int32 → Int32 → Int32 → Int32 → Option Int32) : ∀ (n : Nat) (x5 : Int), 0 ≤ x5 → x5 ≤ l + 1 → l + 1 - x5 < n → F_X6_firstBroken_42 G h (ad 6 p.toNat) (iI x4) (iI i) (iI f) (iI l) k n (iI (pr (na v a p) x5 - pr (na v a p) x4)) (iI (pr (nb v a p) x5 - pr (nb v a p) x4)) (iI x5) = F_X6_firstBroken_73 G h (ad 6 p.toNat) (iI (l + 1)) (iI i) (iI f) k xN (iI (pr (na v a p) (l + 1) - pr (na v a p) x4)) (iI (pr (nb v a p) (l + 1) - pr (nb v a p) x4)) (iI x4) := by
  have hc := C.2.2.2.2.1 p p0 p1
  intro n
  induction n with
  | zero => intro x5 h0 h1 h2; omega
  | succ n ih =>
    intro x5 h0 h1 h2
    by_cases q : x5 = l + 1
    · subst q
      simp (disch := omega) only [F_X6_firstBroken_42, l_0, l_1, l_2, l_3, l_4, l_5, l_6, l_7, l_8, l_9, l_10, l_12, l_13, l_14, l_15, l_16, l_20, l_21, l_40, l_60, l_78, l_199, l_200, l_300, l_599, l_600, l_601, l_602, l_1000, l_1638, l_10000, l_65536, l_100000, l_1000000, l_m1, L_0, L_1, L_10, L_20, L_1000, L_10000, iI_add, iI_sub, iI_mul, iI_neg, iI_lt, iI_le, iI_eq, iI_max, iI_min, iI_l, jI_i, jI_add, jI_sub, jI_mul, jI_lt, jI_le, jI_eq, kmp_pos, kmp_neg, kmp_le, kmp_ge, if_pos, if_neg, if_true, if_false, true_or, or_true, Option.bind_some, xl, xg]
    · rw [← ih (x5 + 1) (by omega) (by omega) (by omega)]
      have e1 : pr (na v a p) (x5 + 1) - pr (na v a p) x4 = pr (na v a p) x5 - pr (na v a p) x4 + na v a p x5 := by rw [pr_1 _ h0]; omega
      have e2 : pr (nb v a p) (x5 + 1) - pr (nb v a p) x4 = pr (nb v a p) x5 - pr (nb v a p) x4 + nb v a p x5 := by rw [pr_1 _ h0]; omega
      rw [e1, e2]
      simp (disch := omega) only [F_X6_firstBroken_42, R.obj hc.1, c_asksAt R C I p0 p1 h0 (show x5 ≤ 600 by omega), c_badAt R C I p0 p1 h0 (show x5 ≤ 600 by omega), l_0, l_1, l_2, l_3, l_4, l_5, l_6, l_7, l_8, l_9, l_10, l_12, l_13, l_14, l_15, l_16, l_20, l_21, l_40, l_60, l_78, l_199, l_200, l_300, l_599, l_600, l_601, l_602, l_1000, l_1638, l_10000, l_65536, l_100000, l_1000000, l_m1, L_0, L_1, L_10, L_20, L_1000, L_10000, iI_add, iI_sub, iI_mul, iI_neg, iI_lt, iI_le, iI_eq, iI_max, iI_min, iI_l, jI_i, jI_add, jI_sub, jI_mul, jI_lt, jI_le, jI_eq, kmp_pos, kmp_neg, kmp_le, kmp_ge, if_pos, if_neg, if_true, if_false, true_or, or_true, Option.bind_some, xl, xg]
theorem c_b18 (R : Rep G h ad P) (C : Cc G ad P v a el cn) (I : Iv v a) {p t : Int} (p0 : 0 ≤ p) (p1 : p < v 15) (t0 : 0 ≤ t) : ∀ (n : Nat) (i x4 x5 : Int), t ≤ i → i ≤ 601 → 0 ≤ x4 → x4 ≤ x5 → (i ≤ 600 → x4 ≤ fi a p i ∧ x5 ≤ la a p i + 1) → (∀ j, t ≤ j → j < i → whl v a p j) → 601 - i < n → ∃ z, F_X6_firstBroken_18 G h (ad 6 p.toNat) n (iI (pr (na v a p) x5 - pr (na v a p) x4)) (iI (pr (nb v a p) x5 - pr (nb v a p) x4)) (iI x4) (iI x5) (iI i) = some (iI z) ∧ Brk v a p t z := by
  have hc := C.2.2.2.2.1 p p0 p1
  have hp' := I.2.2.2.2.2.2.2.2.2.2.2.1 p p0 p1
  intro n
  induction n with
  | zero => intro i x4 x5 h0 h1 h2 h3 h4 h5 h6; omega
  | succ n ih =>
    intro i x4 x5 h0 h1 h2 h3 h4 h5 h6
    by_cases q : i = 601
    · subst q
      refine ⟨-1, ?_, Or.inl ⟨rfl, fun j j0 j1 => h5 j j0 (by omega)⟩⟩
      simp (disch := omega) only [F_X6_firstBroken_18, l_0, l_1, l_2, l_3, l_4, l_5, l_6, l_7, l_8, l_9, l_10, l_12, l_13, l_14, l_15, l_16, l_20, l_21, l_40, l_60, l_78, l_199, l_200, l_300, l_599, l_600, l_601, l_602, l_1000, l_1638, l_10000, l_65536, l_100000, l_1000000, l_m1, L_0, L_1, L_10, L_20, L_1000, L_10000, iI_add, iI_sub, iI_mul, iI_neg, iI_lt, iI_le, iI_eq, iI_max, iI_min, iI_l, jI_i, jI_add, jI_sub, jI_mul, jI_lt, jI_le, jI_eq, kmp_pos, kmp_neg, kmp_le, kmp_ge, if_pos, if_neg, if_true, if_false, true_or, or_true, Option.bind_some, xl, xg]
    · have h7 := h4 (by omega)
      have hf := fi_b I p0 p1 (show 0 ≤ i by omega) (show i ≤ 600 by omega)
      have hS := SA_b I p0 p1 (show 0 ≤ i by omega) (show i ≤ 600 by omega)
      have lb := @lf_b a p (SA v a p i) (SB v a p i) (by omega) (by omega) (by omega)
      simp (disch := omega) only [F_X6_firstBroken_18, R.obj hc.1, c_first R C I p0 p1 (show 0 ≤ i by omega) (show i ≤ 600 by omega), c_last R C I p0 p1 (show 0 ≤ i by omega) (show i ≤ 600 by omega), c_b42 R C I p0 p1 (show 0 ≤ i by omega) (show i ≤ 600 by omega) h2 hf.2.2.2 _ xN x5 (by omega) h7.2 (by unfold xN; omega), c_b73 R C I p0 p1 (show 0 ≤ i by omega) (show i ≤ 600 by omega) (show fi a p i ≤ la a p i + 1 by omega) (by omega) _ xN x4 h2 h7.1 (by unfold xN; omega), l_0, l_1, l_2, l_3, l_4, l_5, l_6, l_7, l_8, l_9, l_10, l_12, l_13, l_14, l_15, l_16, l_20, l_21, l_40, l_60, l_78, l_199, l_200, l_300, l_599, l_600, l_601, l_602, l_1000, l_1638, l_10000, l_65536, l_100000, l_1000000, l_m1, L_0, L_1, L_10, L_20, L_1000, L_10000, iI_add, iI_sub, iI_mul, iI_neg, iI_lt, iI_le, iI_eq, iI_max, iI_min, iI_l, jI_i, jI_add, jI_sub, jI_mul, jI_lt, jI_le, jI_eq, kmp_pos, kmp_neg, kmp_le, kmp_ge, if_pos, if_neg, if_true, if_false, true_or, or_true, Option.bind_some, xl, xg]
      show ∃ z, (if 0 ≤ lf a p (SA v a p i) (SB v a p i) then _ else _) = some (iI z) ∧ Brk v a p t z
      by_cases c : 0 ≤ lf a p (SA v a p i) (SB v a p i)
      · rw [if_pos c]
        refine ih (i + 1) (fi a p i) (la a p i + 1) (by omega) (by omega) (by omega) (by omega) (fun h8 => ?_) (fun j j0 j1 => ?_) (by omega)
        · have := fi_mono a (p := p) (t := i) (t' := i + 1) (by omega) (by omega) (by omega)
          omega
        · by_cases q2 : j = i
          · subst q2; exact lb.2.2.mp c
          · exact h5 j j0 (by omega)
      · rw [if_neg c]
        exact ⟨i, rfl, Or.inr ⟨h0, by omega, fun z => c (lb.2.2.mpr z), h5⟩⟩
theorem c_broken (R : Rep G h ad P) (C : Cc G ad P v a el cn) (I : Iv v a) {p t : Int} (p0 : 0 ≤ p) (p1 : p < v 15) (h0 : 0 ≤ t) (h1 : t ≤ 600) : ∃ z, F_X6_firstBroken G h (ad 6 p.toNat) (iI t) = some (iI z) ∧ Brk v a p t z := by
  have hc := C.2.2.2.2.1 p p0 p1
  have hf := fi_b I p0 p1 h0 h1
  obtain ⟨z, e, hz⟩ := c_b18 R C I p0 p1 h0 xN t (fi a p t) (fi a p t) (by omega) (by omega) (by omega) (by omega) (fun _ => by omega) (fun j j0 j1 => by omega) (by unfold xN; omega)
  refine ⟨z, ?_, hz⟩
  rw [← e, Int.sub_self, Int.sub_self]
  simp only [F_X6_firstBroken, R.obj hc.1, c_first R C I p0 p1 h0 h1, Option.bind_some, l_0]
theorem r_isWorse (R : Rl s v a) (I : Iv v a) {p r A B : Int} (hp0 : 0 ≤ p) (hp : p < v 15) (r0 : 0 ≤ r) (r1 : r ≤ 1000) (hA : 0 ≤ A) (hA1 : A ≤ 100000000) (hB : 0 ≤ B) (hB1 : B ≤ 100000000) : FM_isWorse s (iI p) (iI r) (jI A) (jI B) = some (iI (ovr a p r A B)) := by
  have hp' := I.2.2.2.2.2.2.2.2.2.2.2.1 p hp0 hp
  have i15 := I.2.2.2.1
  have m1 := mul_b r0 r1 (show 0 ≤ 1000 - a 18 p by omega) (show 1000 - a 18 p ≤ 1000 by omega)
  have m2 := mul_b m1.1 m1.2 hA hA1
  unfold ovr
  by_cases c : 10000 * B ≤ r * (1000 - a 18 p) * A
  · rw [if_pos c]
    simp (disch := omega) only [FM_isWorse, Rl.ld R 18 12 (by decide) rfl, l_0, l_1, l_2, l_3, l_4, l_5, l_6, l_7, l_8, l_9, l_10, l_12, l_13, l_14, l_15, l_16, l_20, l_21, l_40, l_60, l_78, l_199, l_200, l_300, l_599, l_600, l_601, l_602, l_1000, l_1638, l_10000, l_65536, l_100000, l_1000000, l_m1, L_0, L_1, L_10, L_20, L_1000, L_10000, iI_add, iI_sub, iI_mul, iI_neg, iI_lt, iI_le, iI_eq, iI_max, iI_min, iI_l, jI_i, jI_add, jI_sub, jI_mul, jI_lt, jI_le, jI_eq, kmp_pos, kmp_neg, kmp_le, kmp_ge, if_pos, if_neg, if_true, if_false, true_or, or_true, Option.bind_some, xl, xg]
  · rw [if_neg c]
    simp (disch := omega) only [FM_isWorse, Rl.ld R 18 12 (by decide) rfl, l_0, l_1, l_2, l_3, l_4, l_5, l_6, l_7, l_8, l_9, l_10, l_12, l_13, l_14, l_15, l_16, l_20, l_21, l_40, l_60, l_78, l_199, l_200, l_300, l_599, l_600, l_601, l_602, l_1000, l_1638, l_10000, l_65536, l_100000, l_1000000, l_m1, L_0, L_1, L_10, L_20, L_1000, L_10000, iI_add, iI_sub, iI_mul, iI_neg, iI_lt, iI_le, iI_eq, iI_max, iI_min, iI_l, jI_i, jI_add, jI_sub, jI_mul, jI_lt, jI_le, jI_eq, kmp_pos, kmp_neg, kmp_le, kmp_ge, if_pos, if_neg, if_true, if_false, true_or, or_true, Option.bind_some, xl, xg]
theorem pq_b (I : Iv v a) (w : Int) {x y : Int} (hx : 0 ≤ x) (hy : x ≤ y) (h1 : y ≤ 601) : 0 ≤ pr (qb v a w) y - pr (qb v a w) x ∧ pr (qb v a w) y - pr (qb v a w) x ≤ pr (qa v a w) y - pr (qa v a w) x ∧ pr (qa v a w) y - pr (qa v a w) x ≤ 9616000 ∧ 0 ≤ pr (qo v a w) y - pr (qo v a w) x ∧ pr (qo v a w) y - pr (qo v a w) x ≤ 9616000 := by
  have b1 := pr_ge (f := qb v a w) (c := 0) hx hy (fun j h2 h3 => (qa_b I (by omega) (by omega)).1)
  have b2 := pr_mono (f := qb v a w) (g := qa v a w) hx hy (fun j h2 h3 => (qa_b I (by omega) (by omega)).2.1)
  have b3 := pr_le (f := qa v a w) (c := 16000) hx hy (fun j h2 h3 => (qa_b I (by omega) (by omega)).2.2.1)
  have b4 := pr_ge (f := qo v a w) (c := 0) hx hy (fun j h2 h3 => (qa_b I (by omega) (by omega)).2.2.2.1)
  have b5 := pr_le (f := qo v a w) (c := 16000) hx hy (fun j h2 h3 => (qa_b I (by omega) (by omega)).2.2.2.2)
  omega
theorem r_isWorseIn (R : Rl s v a) (I : Iv v a) {p L r t : Int} (p0 : 0 ≤ p) (p1 : p < v 15) (L0 : 1 ≤ L) (L1 : L ≤ 200) (r0 : 0 ≤ r) (r1 : r ≤ 1000) (h0 : 0 ≤ t) (h1 : t ≤ 600) : ∃ s', FM_isWorseIn s (iI p) (iI L) (iI r) (iI t) = some (iI (ovs v a p r L t), s') ∧ Rl s' v a := by
  have hp' := I.2.2.2.2.2.2.2.2.2.2.2.1 p p0 p1
  have i1 := I.1
  have i15 := I.2.2.2.1
  have hb := pq_b I (a 16 p) (x := max (t - L + 1) 0) (y := t + 1) (by omega) (by omega) (by omega)
  have e := r_sums R I (w := a 16 p) (lo := t - L + 1) (hi := t) (by omega) (by omega) (by omega) (by omega) (by omega) (by omega)
  have R2 := R.sL (pr (qa v a (a 16 p)) (t + 1) - pr (qa v a (a 16 p)) (max (t - L + 1) 0)) (pr (qb v a (a 16 p)) (t + 1) - pr (qb v a (a 16 p)) (max (t - L + 1) 0)) (pr (qo v a (a 16 p)) (t + 1) - pr (qo v a (a 16 p)) (max (t - L + 1) 0))
  have e2 := r_isWorse R2 I (A := pr (qa v a (a 16 p)) (t + 1) - pr (qa v a (a 16 p)) (max (t - L + 1) 0)) (B := pr (qb v a (a 16 p)) (t + 1) - pr (qb v a (a 16 p)) (max (t - L + 1) 0)) p0 p1 r0 r1 (by omega) (by omega) (by omega) (by omega)
  refine ⟨_, ?_, R2⟩
  unfold FM_isWorseIn
  simp (disch := omega) only [Rl.ld R 16 12 (by decide) rfl, Option.bind_some, iI_sub, iI_add, l_1, e, sL_12, sL_13, e2]
  unfold xg
  refine (if_pos ?_).trans ?_
  rotate_left
  · rfl
  · rcases ovr_01 a p r (pr (qa v a (a 16 p)) (t + 1) - pr (qa v a (a 16 p)) (max (t - L + 1) 0)) (pr (qb v a (a 16 p)) (t + 1) - pr (qb v a (a 16 p)) (max (t - L + 1) 0)) with q | q
    · rw [q]; exact Or.inl rfl
    · rw [q]; exact Or.inr rfl
theorem c_isOver (R : Rep G h ad P) (C : Cc G ad P v a el cn) (hG : G 1 < G 0) (I : Iv v a) {i L t : Int} (i0 : 0 ≤ i) (i1 : i < v 26) (L0 : 1 ≤ L) (L1 : L ≤ 200) (h0 : 0 ≤ t) (h1 : t ≤ 600) : F_X0_isOver G h (ad 1 i.toNat) (ad 7 (a 16 (a 27 i)).toNat) (iI t) (iI L) = some (iI (ovs v a (a 27 i) (a 30 i) L t)) := by
  have hA := C.2.2.2.2.2.2.1 i i0 i1
  have hi := I.2.2.2.2.2.2.2.2.2.2.2.2.2.2.2.1 i i0 i1
  have hp' := I.2.2.2.2.2.2.2.2.2.2.2.1 (a 27 i) hi.1 hi.2.1
  have hc := C.2.2.2.2.1 (a 27 i) hi.1 hi.2.1
  have hs := C.2.2.1 (a 16 (a 27 i)) hp'.1 hp'.2.1
  have hb := pq_b I (a 16 (a 27 i)) (x := max (t - L + 1) 0) (y := t + 1) (by omega) (by omega) (by omega)
  have ea := c_asksIn R C hG (w := a 16 (a 27 i)) (lo := t - L + 1) (hi := t) hp'.1 hp'.2.1 (by omega) (by omega) (by omega)
  have eb := c_badIn R C hG (w := a 16 (a 27 i)) (lo := t - L + 1) (hi := t) hp'.1 hp'.2.1 (by omega) (by omega) (by omega)
  unfold ovs ovr
  generalize pr (qa v a (a 16 (a 27 i))) (t + 1) - pr (qa v a (a 16 (a 27 i))) (max (t - L + 1) 0) = A at *
  generalize pr (qb v a (a 16 (a 27 i))) (t + 1) - pr (qb v a (a 16 (a 27 i))) (max (t - L + 1) 0) = B at *
  have m1 := mul_b (show 0 ≤ a 30 i by omega) (show a 30 i ≤ 1000 by omega) (show 0 ≤ 1000 - a 18 (a 27 i) by omega) (show 1000 - a 18 (a 27 i) ≤ 1000 by omega)
  have m2 := mul_b m1.1 m1.2 (show 0 ≤ A by omega) (show A ≤ 9616000 by omega)
  unfold F_X0_isOver
  by_cases c : 10000 * B ≤ a 30 i * (1000 - a 18 (a 27 i)) * A
  · rw [if_pos c]
    simp (disch := omega) only [xI_l (R.obj hs.1), iI_sub, iI_add, l_1, ea, eb, R.getI hA (j := 3) rfl, R.getR hA (j := 0) rfl, R.obj hc.1, c_slack R C hi.1 hi.2.1, l_0, l_1, l_2, l_3, l_4, l_5, l_6, l_7, l_8, l_9, l_10, l_12, l_13, l_14, l_15, l_16, l_20, l_21, l_40, l_60, l_78, l_199, l_200, l_300, l_599, l_600, l_601, l_602, l_1000, l_1638, l_10000, l_65536, l_100000, l_1000000, l_m1, L_0, L_1, L_10, L_20, L_1000, L_10000, iI_add, iI_sub, iI_mul, iI_neg, iI_lt, iI_le, iI_eq, iI_max, iI_min, iI_l, jI_i, jI_add, jI_sub, jI_mul, jI_lt, jI_le, jI_eq, kmp_pos, kmp_neg, kmp_le, kmp_ge, if_pos, if_neg, if_true, if_false, true_or, or_true, Option.bind_some, xl, xg]
  · rw [if_neg c]
    simp (disch := omega) only [xI_l (R.obj hs.1), iI_sub, iI_add, l_1, ea, eb, R.getI hA (j := 3) rfl, R.getR hA (j := 0) rfl, R.obj hc.1, c_slack R C hi.1 hi.2.1, l_0, l_1, l_2, l_3, l_4, l_5, l_6, l_7, l_8, l_9, l_10, l_12, l_13, l_14, l_15, l_16, l_20, l_21, l_40, l_60, l_78, l_199, l_200, l_300, l_599, l_600, l_601, l_602, l_1000, l_1638, l_10000, l_65536, l_100000, l_1000000, l_m1, L_0, L_1, L_10, L_20, L_1000, L_10000, iI_add, iI_sub, iI_mul, iI_neg, iI_lt, iI_le, iI_eq, iI_max, iI_min, iI_l, jI_i, jI_add, jI_sub, jI_mul, jI_lt, jI_le, jI_eq, kmp_pos, kmp_neg, kmp_le, kmp_ge, if_pos, if_neg, if_true, if_false, true_or, or_true, Option.bind_some, xl, xg]
theorem ovs_01 (v : Nat → Int) (a : Nat → Int → Int) (p r L t : Int) : ovs v a p r L t = 0 ∨ ovs v a p r L t = 1 := ovr_01 _ _ _ _ _
theorem c_ringsIn (R : Rep G h ad P) (C : Cc G ad P v a el cn) (hG : G 1 < G 0) (I : Iv v a) {i t : Int} (i0 : 0 ≤ i) (i1 : i < v 26) (h0 : 0 ≤ t) (h1 : t ≤ 600) : F_X0_ringsIn G h (ad 1 i.toNat) (ad 7 (a 16 (a 27 i)).toNat) (iI t) = some (iI (if ovs v a (a 27 i) (a 30 i) (a 28 i) t = 0 then 0 else ovs v a (a 27 i) (a 30 i) (a 29 i) t)) := by
  have hA := C.2.2.2.2.2.2.1 i i0 i1
  have hi := I.2.2.2.2.2.2.2.2.2.2.2.2.2.2.2.1 i i0 i1
  have e1 := c_isOver R C hG I i0 i1 (L := a 28 i) (by omega) (by omega) h0 h1
  have e2 := c_isOver R C hG I i0 i1 (L := a 29 i) (by omega) (by omega) h0 h1
  unfold F_X0_ringsIn
  rcases ovs_01 v a (a 27 i) (a 30 i) (a 28 i) t with q | q
  · rw [q] at e1 ⊢
    simp (disch := omega) only [R.getI hA (j := 1) rfl, R.obj hA, e1, l_0, l_1, l_2, l_3, l_4, l_5, l_6, l_7, l_8, l_9, l_10, l_12, l_13, l_14, l_15, l_16, l_20, l_21, l_40, l_60, l_78, l_199, l_200, l_300, l_599, l_600, l_601, l_602, l_1000, l_1638, l_10000, l_65536, l_100000, l_1000000, l_m1, L_0, L_1, L_10, L_20, L_1000, L_10000, iI_add, iI_sub, iI_mul, iI_neg, iI_lt, iI_le, iI_eq, iI_max, iI_min, iI_l, jI_i, jI_add, jI_sub, jI_mul, jI_lt, jI_le, jI_eq, kmp_pos, kmp_neg, kmp_le, kmp_ge, if_pos, if_neg, if_true, if_false, true_or, or_true, Option.bind_some, xl, xg]
  · rw [q] at e1 ⊢
    rcases ovs_01 v a (a 27 i) (a 30 i) (a 29 i) t with q2 | q2
    · rw [q2] at e2 ⊢
      simp (disch := omega) only [R.getI hA (j := 1) rfl, R.getI hA (j := 2) rfl, R.obj hA, e1, e2, l_0, l_1, l_2, l_3, l_4, l_5, l_6, l_7, l_8, l_9, l_10, l_12, l_13, l_14, l_15, l_16, l_20, l_21, l_40, l_60, l_78, l_199, l_200, l_300, l_599, l_600, l_601, l_602, l_1000, l_1638, l_10000, l_65536, l_100000, l_1000000, l_m1, L_0, L_1, L_10, L_20, L_1000, L_10000, iI_add, iI_sub, iI_mul, iI_neg, iI_lt, iI_le, iI_eq, iI_max, iI_min, iI_l, jI_i, jI_add, jI_sub, jI_mul, jI_lt, jI_le, jI_eq, kmp_pos, kmp_neg, kmp_le, kmp_ge, if_pos, if_neg, if_true, if_false, true_or, or_true, Option.bind_some, xl, xg]
    · rw [q2] at e2 ⊢
      simp (disch := omega) only [R.getI hA (j := 1) rfl, R.getI hA (j := 2) rfl, R.obj hA, e1, e2, l_0, l_1, l_2, l_3, l_4, l_5, l_6, l_7, l_8, l_9, l_10, l_12, l_13, l_14, l_15, l_16, l_20, l_21, l_40, l_60, l_78, l_199, l_200, l_300, l_599, l_600, l_601, l_602, l_1000, l_1638, l_10000, l_65536, l_100000, l_1000000, l_m1, L_0, L_1, L_10, L_20, L_1000, L_10000, iI_add, iI_sub, iI_mul, iI_neg, iI_lt, iI_le, iI_eq, iI_max, iI_min, iI_l, jI_i, jI_add, jI_sub, jI_mul, jI_lt, jI_le, jI_eq, kmp_pos, kmp_neg, kmp_le, kmp_ge, if_pos, if_neg, if_true, if_false, true_or, or_true, Option.bind_some, xl, xg]
theorem c_roomOf (R : Rep G h ad P) (C : Cc G ad P v a el cn) (I : Iv v a) {p : Int} (p0 : 0 ≤ p) (p1 : p < v 15) : F_X10_roomOf G h (ad 10 0) (iI p) = some (iI (rm v a p)) := by
  have i9 := I.2.2.1
  have i15 := I.2.2.2.1
  have i33 := I.2.2.2.2.2.2.1
  have hc := C.2.2.2.2.1 p p0 p1
  have L := C.2.1.2.2.2.2.1
  have e1 := L.size R
  have hch := I.2.2.2.2.2.2.2.2.2.2.2.2.2.2.2.2.1
  unfold F_X10_roomOf
  simp only [R.obj C.k, (c_promiseAt R C p0 p1 (by omega)).1, R.getI C.k (j := 8) rfl, R.obj hc.1, c_leastLeft R C I p0 p1 i9.1 i9.2, Option.bind_some]
  rw [if_neg (by simp)]
  unfold rm
  generalize lf a p (SA v a p (v 9) + SO v a p (v 9)) (SB v a p (v 9) + SO v a p (v 9)) = X
  refine up_eq (fun n (q : Int32 × Int32) => F_X10_roomOf_28 G h (ad 10 0) (iI p) n q.1 q.2) (fun i q => 0 ≤ i ∧ q = (iI (X - pr (fr a p) i), iI i)) _ (v 33) ?_ ?_ xN 0 (iI X, 0) ⟨by omega, by rw [pr_0, Int.sub_zero]; rfl⟩ (by omega) (by unfold xN; omega)
  · rintro n i q ⟨hi, rfl⟩ hlt
    right
    refine ⟨_, ⟨by omega, rfl⟩, ?_⟩
    have hH := C.2.2.2.2.2.2.2.1 i hi hlt
    have hh := hch i hi hlt
    have e2 := L.get R hi hlt (by omega)
    dsimp only
    simp only [pr_1 _ hi]
    by_cases c : a 34 i = p
    · by_cases c2 : a 37 i = 1
      · have e : fr a p i = a 35 i := if_pos ⟨c, c2⟩
        simp (disch := omega) only [F_X10_roomOf_28, R.getR C.k (j := 4) rfl, e1.1, e1.2, e2, xk_ok (R.obj hH), R.getI hH (j := 0) rfl, R.getI hH (j := 1) rfl, R.getI hH (j := 3) rfl, e, Int.sub_sub, l_0, l_1, l_2, l_3, l_4, l_5, l_6, l_7, l_8, l_9, l_10, l_12, l_13, l_14, l_15, l_16, l_20, l_21, l_40, l_60, l_78, l_199, l_200, l_300, l_599, l_600, l_601, l_602, l_1000, l_1638, l_10000, l_65536, l_100000, l_1000000, l_m1, L_0, L_1, L_10, L_20, L_1000, L_10000, iI_add, iI_sub, iI_mul, iI_neg, iI_lt, iI_le, iI_eq, iI_max, iI_min, iI_l, jI_i, jI_add, jI_sub, jI_mul, jI_lt, jI_le, jI_eq, kmp_pos, kmp_neg, kmp_le, kmp_ge, if_pos, if_neg, if_true, if_false, true_or, or_true, Option.bind_some, xl, xg]
      · have e : fr a p i = 0 := if_neg (fun q => c2 q.2)
        simp (disch := omega) only [F_X10_roomOf_28, R.getR C.k (j := 4) rfl, e1.1, e1.2, e2, xk_ok (R.obj hH), R.getI hH (j := 0) rfl, R.getI hH (j := 1) rfl, R.getI hH (j := 3) rfl, e, Int.add_zero, l_0, l_1, l_2, l_3, l_4, l_5, l_6, l_7, l_8, l_9, l_10, l_12, l_13, l_14, l_15, l_16, l_20, l_21, l_40, l_60, l_78, l_199, l_200, l_300, l_599, l_600, l_601, l_602, l_1000, l_1638, l_10000, l_65536, l_100000, l_1000000, l_m1, L_0, L_1, L_10, L_20, L_1000, L_10000, iI_add, iI_sub, iI_mul, iI_neg, iI_lt, iI_le, iI_eq, iI_max, iI_min, iI_l, jI_i, jI_add, jI_sub, jI_mul, jI_lt, jI_le, jI_eq, kmp_pos, kmp_neg, kmp_le, kmp_ge, if_pos, if_neg, if_true, if_false, true_or, or_true, Option.bind_some, xl, xg]
    · have e : fr a p i = 0 := if_neg (fun q => c q.1)
      simp (disch := omega) only [F_X10_roomOf_28, R.getR C.k (j := 4) rfl, e1.1, e1.2, e2, xk_ok (R.obj hH), R.getI hH (j := 0) rfl, R.getI hH (j := 1) rfl, R.getI hH (j := 3) rfl, e, Int.add_zero, l_0, l_1, l_2, l_3, l_4, l_5, l_6, l_7, l_8, l_9, l_10, l_12, l_13, l_14, l_15, l_16, l_20, l_21, l_40, l_60, l_78, l_199, l_200, l_300, l_599, l_600, l_601, l_602, l_1000, l_1638, l_10000, l_65536, l_100000, l_1000000, l_m1, L_0, L_1, L_10, L_20, L_1000, L_10000, iI_add, iI_sub, iI_mul, iI_neg, iI_lt, iI_le, iI_eq, iI_max, iI_min, iI_l, jI_i, jI_add, jI_sub, jI_mul, jI_lt, jI_le, jI_eq, kmp_pos, kmp_neg, kmp_le, kmp_ge, if_pos, if_neg, if_true, if_false, true_or, or_true, Option.bind_some, xl, xg]
  · rintro n q ⟨hi, rfl⟩
    dsimp only
    simp (disch := omega) only [F_X10_roomOf_28, R.getR C.k (j := 4) rfl, e1.1, e1.2, l_0, l_1, l_2, l_3, l_4, l_5, l_6, l_7, l_8, l_9, l_10, l_12, l_13, l_14, l_15, l_16, l_20, l_21, l_40, l_60, l_78, l_199, l_200, l_300, l_599, l_600, l_601, l_602, l_1000, l_1638, l_10000, l_65536, l_100000, l_1000000, l_m1, L_0, L_1, L_10, L_20, L_1000, L_10000, iI_add, iI_sub, iI_mul, iI_neg, iI_lt, iI_le, iI_eq, iI_max, iI_min, iI_l, jI_i, jI_add, jI_sub, jI_mul, jI_lt, jI_le, jI_eq, kmp_pos, kmp_neg, kmp_le, kmp_ge, if_pos, if_neg, if_true, if_false, true_or, or_true, Option.bind_some, xl, xg]
end CLQ
