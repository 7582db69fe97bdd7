/-! calls that make cells -/
def Us (v : Nat → Int) (k i : Nat) : Prop := ((k = 10 ∨ k = 4 ∨ k = 40 ∨ k = 5 ∨ k = 2 ∨ k = 120 ∨ k = 121 ∨ k = 122 ∨ k = 150 ∨ k = 151 ∨ k = 152 ∨ k = 153 ∨ k = 154) ∧ i = 0) ∨ ((k = 7 ∨ k = 71 ∨ k = 72) ∧ (i : Int) < v 1) ∨ ((k = 8 ∨ k = 83 ∨ k = 84) ∧ (i : Int) < v 2) ∨ ((k = 6 ∨ k = 64) ∧ (i : Int) < v 15) ∨ (k = 1 ∧ (i : Int) < v 26) ∨ (k = 3 ∧ (i : Int) < v 33)
def Cn (G : Nat → Nat) (ad : Nat → Nat → Nat) (P : xP) (v : Nat → Int) (a : Nat → Int → Int) : Prop := cK ad P v ∧ cS G ad P v a ∧ cO G ad P v a ∧ cP G ad P v a ∧ cT G ad P v a ∧ cA ad P v a ∧ cH P v a ∧ cL G ad P v a ∧ cQ G ad P
section MAK
variable {G : Nat → Nat} {h : xH} {ad ad1 : Nat → Nat → Nat} {P P1 : xP} {s : mS} {v : Nat → Int} {a : Nat → Int → Int} {el : Int → Int → Int} {cn : Int → Int}
theorem Cc.n (C : Cc G ad P v a el cn) : Cn G ad P v a := ⟨C.1, C.2.2.1, C.2.2.2.1, C.2.2.2.2.1, C.2.2.2.2.2.1, C.2.2.2.2.2.2.1, C.2.2.2.2.2.2.2.1, C.2.2.2.2.2.2.2.2.1, C.2.2.2.2.2.2.2.2.2.1⟩
theorem Cn.x (C : Cn G ad P v a) (I : Iv v a) (hP : ∀ k i, Us v k i → P1 k i = P k i) (ha : ∀ k i, Us v k i → ad1 k i = ad k i) (h0 : ∀ i : Nat, (i : Int) < 5 + v 1 → ad1 0 i = ad 0 i) : Cn G ad1 P1 v a := by
  obtain ⟨z0, z2, z3, z4, z5, z6, z7, z8, z9⟩ := C
  have i1 := I.1
  unfold Us at hP ha
  refine ⟨?_, ?_, ?_, ?_, ?_, ?_, ?_, ?_, ?_⟩
  · unfold cK at *
    rw [hP 10 0 (by omega), h0 0 (by omega), h0 1 (by omega), h0 2 (by omega), h0 3 (by omega), h0 4 (by omega), ha 4 0 (by omega), ha 5 0 (by omega), ha 2 0 (by omega)]
    exact z0
  · intro w w0 w1
    have := z2 w w0 w1
    rw [hP 7 w.toNat (by omega), hP 71 w.toNat (by omega), hP 72 w.toNat (by omega), h0 (5 + w.toNat) (by omega), ha 71 w.toNat (by omega), ha 72 w.toNat (by omega)]
    exact this
  · intro w w0 w1
    have := z3 w w0 w1
    have hs := I.2.2.2.2.2.2.2.2.1 w w0 w1
    rw [hP 8 w.toNat (by omega), hP 83 w.toNat (by omega), hP 84 w.toNat (by omega), ha 7 (a 3 w).toNat (by omega), ha 83 w.toNat (by omega), ha 84 w.toNat (by omega)]
    exact this
  · intro w w0 w1
    have := z4 w w0 w1
    have hs := I.2.2.2.2.2.2.2.2.2.2.2.1 w w0 w1
    rw [hP 6 w.toNat (by omega), hP 64 w.toNat (by omega), ha 7 (a 16 w).toNat (by omega), ha 64 w.toNat (by omega)]
    exact this
  · unfold cT at *
    rw [hP 4 0 (by omega), hP 40 0 (by omega), ha 40 0 (by omega)]
    exact z5
  · intro w w0 w1
    have := z6 w w0 w1
    have hs := I.2.2.2.2.2.2.2.2.2.2.2.2.2.2.2.1 w w0 w1
    rw [hP 1 w.toNat (by omega), ha 6 (a 27 w).toNat (by omega)]
    exact this
  · intro w w0 w1
    have := z7 w w0 w1
    rw [hP 3 w.toNat (by omega)]
    exact this
  · unfold cL at *
    rw [hP 5 0 (by omega), hP 150 0 (by omega), hP 151 0 (by omega), hP 152 0 (by omega), hP 153 0 (by omega), hP 154 0 (by omega), ha 150 0 (by omega), ha 151 0 (by omega), ha 152 0 (by omega), ha 153 0 (by omega), ha 154 0 (by omega)]
    exact z8
  · unfold cQ at *
    rw [hP 2 0 (by omega), hP 120 0 (by omega), hP 121 0 (by omega), hP 122 0 (by omega), ha 120 0 (by omega), ha 121 0 (by omega), ha 122 0 (by omega)]
    exact z9
theorem Ls.x {j kd : Nat} {n : Int} {e : Int → Int} (L : Ls G ad P j kd n e) (h0 : P1 0 j = P 0 j) (h5 : P1 50 j = P 50 j) (a5 : ad1 50 j = ad 50 j) (hk : ∀ x, 0 ≤ x → x < n → ad1 kd (e x).toNat = ad kd (e x).toNat) : Ls G ad1 P1 j kd n e := by
  obtain ⟨m, L⟩ := L
  refine ⟨m, ?_⟩
  rcases L with ⟨rfl, h1⟩ | ⟨cap, f, h1, h2, h3, h4, h6⟩
  · exact Or.inl ⟨rfl, by rw [h0]; exact h1⟩
  · refine Or.inr ⟨cap, f, by rw [h0, a5]; exact h1, by rw [h5]; exact h2, h3, h4, fun x x0 x1 => ?_⟩
    rw [hk x x0 x1]; exact h6 x x0 x1
theorem Ls.e {j kd : Nat} {n : Int} {e e' : Int → Int} (L : Ls G ad P j kd n e) (he : ∀ x, 0 ≤ x → x < n → e' x = e x) : Ls G ad P j kd n e' := by
  obtain ⟨m, L⟩ := L
  refine ⟨m, ?_⟩
  rcases L with ⟨rfl, h1⟩ | ⟨cap, f, h1, h2, h3, h4, h6⟩
  · exact Or.inl ⟨rfl, h1⟩
  · refine Or.inr ⟨cap, f, h1, h2, h3, h4, fun x x0 x1 => ?_⟩
    rw [he x x0 x1]; exact h6 x x0 x1
/-- new cells -/
theorem Rep.nO (R : Rep G h ad P) (k i ci : Nat) (fs : List Value) : ∃ h' ad' P', nO h ci fs = some (ad' k i, h') ∧ Rep G h' ad' P' ∧ P' k i = some (.inr (ci, fs)) ∧ ∀ k' i', ¬ (k' = k ∧ i' = i) → ad' k' i' = ad k' i' ∧ P' k' i' = P k' i' := by
  refine ⟨_, _, _, ?_, R.new k i (.inr (ci, fs)), up_same _ _ _ _, fun k' i' q => ⟨if_neg q, if_neg q⟩⟩
  rw [up_same]; rfl
theorem Rep.nI (R : Rep G h ad P) (k i n : Nat) : ∃ h' ad' P', nAI G h n = some (ad' k i, h') ∧ Rep G h' ad' P' ∧ P' k i = some (.inl (G 2, n, .inl (fun _ => 0))) ∧ ∀ k' i', ¬ (k' = k ∧ i' = i) → ad' k' i' = ad k' i' ∧ P' k' i' = P k' i' := by
  refine ⟨_, _, _, ?_, R.new k i (.inl (G 2, n, .inl (fun _ => 0))), up_same _ _ _ _, fun k' i' q => ⟨if_neg q, if_neg q⟩⟩
  rw [up_same]; rfl
theorem Rep.nZ (R : Rep G h ad P) (k i n : Nat) : ∃ h' ad' P', nAZ G h n = some (ad' k i, h') ∧ Rep G h' ad' P' ∧ P' k i = some (.inl (G 3, n, .inl (fun _ => 0))) ∧ ∀ k' i', ¬ (k' = k ∧ i' = i) → ad' k' i' = ad k' i' ∧ P' k' i' = P k' i' := by
  refine ⟨_, _, _, ?_, R.new k i (.inl (G 3, n, .inl (fun _ => 0))), up_same _ _ _ _, fun k' i' q => ⟨if_neg q, if_neg q⟩⟩
  rw [up_same]; rfl
theorem rf_some (b : Nat) : va_rf (some b) = .ref b := rfl
theorem Fr.of2 (q : ∀ k i, k = 19 ∨ k = 20 ∨ k = 23 → ad1 k i = ad k i ∧ P1 k i = P k i) (q2 : ad1 10 0 = ad 10 0) : Fr ad ad1 P P1 := ⟨q, q2⟩
end MAK
theorem js_alarm (G : Nat → Nat) (x m out : Nat) (hG : G 1 < G 0) : sJ_alarm (fun _ => Jx G x m out) G x m := by
  rintro i h ⟨ad, P, s, v, a, el, cn, ⟨rfl, rfl, rfl⟩, R, M, O, L, I, C⟩ a1 a2 a3 a4
  obtain ⟨p, rfl, p0, p1⟩ := iI_arg a1
  obtain ⟨x, rfl, x0, x1⟩ := iI_arg a2
  obtain ⟨y, rfl, y0, y1⟩ := iI_arg a3
  obtain ⟨z, rfl, z0, z1⟩ := iI_arg a4
  have R0 := L.m0 (iI 0)
  have i15 := I.2.2.2.1
  have i26 := I.2.2.2.2.2.1
  have wx : F_X10_within (iI x) 1 200 = some (iI (if 1 ≤ x ∧ x ≤ 200 then 1 else 0)) := c_within (x := x) (y := 1) (z := 200) (by omega) (by omega) (by omega) (by omega) (by omega) (by omega)
  have wy : F_X10_within (iI y) 1 (iI x) = some (iI (if 1 ≤ y ∧ y ≤ x then 1 else 0)) := c_within (x := y) (y := 1) (z := x) (by omega) (by omega) (by omega) (by omega) (by omega) (by omega)
  have wz : F_X10_within (iI z) 1 1000 = some (iI (if 1 ≤ z ∧ z ≤ 1000 then 1 else 0)) := c_within (x := z) (y := 1) (z := 1000) (by omega) (by omega) (by omega) (by omega) (by omega) (by omega)
  have lz := C.2.1.2.2.2.1.size R
  by_cases c : (0 ≤ p ∧ p < v 15) ∧ (1 ≤ x ∧ x ≤ 200) ∧ (1 ≤ y ∧ y ≤ x) ∧ (1 ≤ z ∧ z ≤ 1000) ∧ v 26 < 8
  · obtain ⟨c1, c2, c3, c4, c5⟩ := c
    have ew := c_promiseAt R C c1.1 c1.2 (by omega)
    obtain ⟨s2, f1, L1⟩ := R0.st 27 8 (by decide) rfl (z := v 26) (w := p) (by omega) (by omega)
    obtain ⟨s3, f2, L2⟩ := L1.st 28 8 (by decide) rfl (z := v 26) (w := x) (by omega) (by omega)
    obtain ⟨s4, f3, L3⟩ := L2.st 29 8 (by decide) rfl (z := v 26) (w := y) (by omega) (by omega)
    obtain ⟨s5, f4, L4⟩ := L3.st 30 8 (by decide) rfl (z := v 26) (w := z) (by omega) (by omega)
    have L5 := L4.mI 26 (v 26 + 1)
    obtain ⟨g1, ad1, P1, e1, R1, o1, q1⟩ := R.nO 1 (v 26).toNat 1 [.null, .int 0, .int 0, .int 0]
    obtain ⟨g2, P2, e2, R2, o2, q2⟩ := R1.sf' o1 (j := 0) (by simp) (.ref (ad 6 p.toNat))
    obtain ⟨g3, P3, e3, R3, o3, q3⟩ := R2.sf' o2 (j := 1) (by simp) (.int (iI x))
    obtain ⟨g4, P4, e4, R4, o4, q4⟩ := R3.sf' o3 (j := 2) (by simp) (.int (iI y))
    obtain ⟨g5, P5, e5, R5, o5, q5⟩ := R4.sf' o4 (j := 3) (by simp) (.int (iI z))
    have Q5 : ∀ k i, ¬ (k = 1 ∧ i = (v 26).toNat) → ad1 k i = ad k i ∧ P5 k i = P k i := fun k i n => ⟨(q1 k i n).1, (q5 k i n).trans ((q4 k i n).trans ((q3 k i n).trans ((q2 k i n).trans (q1 k i n).2)))⟩
    have l3 : Ls G ad1 P5 3 1 (v 26) (fun x => x) := C.2.1.2.2.2.1.x (Q5 0 3 (by omega)).2 (Q5 50 3 (by omega)).2 (Q5 50 3 (by omega)).1 (fun y y0 y1 => (Q5 1 y.toNat (by omega)).1)
    obtain ⟨g6, ad6, P6, e6, R6, l6, q6, r6⟩ := l3.add R5 hG i26.1 (by omega) (e := v 26) o5 (fun y y0 y1 => ⟨_, (Q5 1 y.toNat (by omega)).2.trans (C.2.2.2.2.2.2.1 y y0 y1)⟩) (by decide) (by decide)
    have Q6 : ∀ k i, ¬ (k = 1 ∧ i = (v 26).toNat) → ¬ (k = 0 ∧ i = 3) → ¬ (k = 50 ∧ i = 3) → ad6 k i = ad k i ∧ P6 k i = P k i := fun k i n n2 n3 => ⟨(r6 k i n3).trans (Q5 k i n).1, (q6 k i n2 n3).trans (Q5 k i n).2⟩
    have a0 : ∀ i, ad6 0 i = ad 0 i := fun i => (r6 0 i (by omega)).trans (Q5 0 i (by omega)).1
    have N6 : Cn G ad6 P6 v a := C.n.x I (fun k i u => by unfold Us at u; exact (Q6 k i (by omega) (by omega) (by omega)).2) (fun k i u => by unfold Us at u; exact (Q6 k i (by omega) (by omega) (by omega)).1) (fun i _ => a0 i)
    have oA : P6 1 (v 26).toNat = some (.inr (1, [.ref (ad 6 p.toNat), .int (iI x), .int (iI y), .int (iI z)])) := (q6 1 _ (by omega) (by omega)).trans o5
    have C6 : Cc G ad6 P6 (tv v 26 (v 26 + 1)) (ta (ta (ta (ta a 27 (v 26) p) 28 (v 26) x) 29 (v 26) y) 30 (v 26) z) el cn := by
      obtain ⟨y0, y2, y3, y4, y5, y6, y7, y8, y9⟩ := N6
      obtain ⟨l0, l1, l2, l3, l4, l5⟩ := C.2.1
      have Z : ∀ k i, ¬ (k = 1) → ¬ (k = 0 ∧ i = 3) → ¬ (k = 50 ∧ i = 3) → ad6 k i = ad k i ∧ P6 k i = P k i := fun k i n n2 n3 => Q6 k i (by omega) n2 n3
      refine ⟨y0, ⟨l0.x (Z 0 0 (by omega) (by omega) (by omega)).2 (Z 50 0 (by omega) (by omega) (by omega)).2 (Z 50 0 (by omega) (by omega) (by omega)).1 (fun y _ _ => (Z 7 _ (by omega) (by omega) (by omega)).1), l1.x (Z 0 1 (by omega) (by omega) (by omega)).2 (Z 50 1 (by omega) (by omega) (by omega)).2 (Z 50 1 (by omega) (by omega) (by omega)).1 (fun y _ _ => (Z 8 _ (by omega) (by omega) (by omega)).1), l2.x (Z 0 2 (by omega) (by omega) (by omega)).2 (Z 50 2 (by omega) (by omega) (by omega)).2 (Z 50 2 (by omega) (by omega) (by omega)).1 (fun y _ _ => (Z 6 _ (by omega) (by omega) (by omega)).1), l6.e (fun y _ _ => by split <;> omega), l4.x (Z 0 4 (by omega) (by omega) (by omega)).2 (Z 50 4 (by omega) (by omega) (by omega)).2 (Z 50 4 (by omega) (by omega) (by omega)).1 (fun y _ _ => (Z 3 _ (by omega) (by omega) (by omega)).1), fun w w0 w1 => (l5 w w0 w1).x (Z 0 _ (by omega) (by omega) (by omega)).2 (Z 50 _ (by omega) (by omega) (by omega)).2 (Z 50 _ (by omega) (by omega) (by omega)).1 (fun y _ _ => (Z 8 _ (by omega) (by omega) (by omega)).1)⟩, y2, y3, y4, y5, ?_, y7, y8, y9, C.2.2.2.2.2.2.2.2.2.2⟩
      intro j j0 j1
      have j1' : j < v 26 + 1 := j1
      by_cases q : j = v 26
      · subst q
        rw [oA, ta_n _ _ _ _ 27 _ (by decide), ta_n _ _ _ _ 27 _ (by decide), ta_n _ _ _ _ 27 _ (by decide), ta_s, ta_n _ _ _ _ 28 _ (by decide), ta_n _ _ _ _ 28 _ (by decide), ta_s, ta_n _ _ _ _ 29 _ (by decide), ta_s, ta_s, (Z 6 p.toNat (by omega) (by omega) (by omega)).1]
      · simp only [ta_m _ _ _ _ _ _ q]
        exact y6 j j0 (by omega)
    have I6 : Iv (tv v 26 (v 26 + 1)) (ta (ta (ta (ta a 27 (v 26) p) 28 (v 26) x) 29 (v 26) y) 30 (v 26) z) := by
      obtain ⟨i1, i2, i9, i15, i24, i26, i33, i39, hs, hq, ht, hp, hg, hr, hpt, hal, hch, hz⟩ := I
      refine ⟨i1, i2, i9, i15, i24, ⟨show 0 ≤ v 26 + 1 by omega, show v 26 + 1 ≤ 8 by omega⟩, i33, i39, hs, hq, ht, hp, hg, hr, hpt, fun j j0 j1 => ?_, hch, hz⟩
      have j1' : j < v 26 + 1 := j1
      by_cases q : j = v 26
      · subst q
        rw [ta_n _ _ _ _ 27 _ (by decide), ta_n _ _ _ _ 27 _ (by decide), ta_n _ _ _ _ 27 _ (by decide), ta_s, ta_n _ _ _ _ 28 _ (by decide), ta_n _ _ _ _ 28 _ (by decide), ta_s, ta_n _ _ _ _ 29 _ (by decide), ta_s, ta_s]
        exact ⟨c1.1, c1.2, c2.1, c2.2, c3.1, c3.2, c4.1, c4.2⟩
      · simp only [ta_m _ _ _ _ _ _ q]
        exact hal j j0 (by omega)
    have ef : FM_alarm s (iI p) (iI x) (iI y) (iI z) = some (iI (v 26), mI s5 26 (iI (v 26 + 1))) := by
      have w1 : v 26 + 1 - 1 = v 26 := by omega
      simp (disch := omega) only [FM_alarm, FM_isPromise, Rl.fd R0 15 (by decide) (by decide), Rl.fd R0 26 (by decide) (by decide), f1, Rl.fd L1 26 (by decide) (by decide), f2, Rl.fd L2 26 (by decide) (by decide), f3, Rl.fd L3 26 (by decide) (by decide), f4, Rl.fd L4 26 (by decide) (by decide), mI_s, l_0, l_1, l_2, l_3, l_4, l_5, l_6, l_7, l_8, l_9, l_10, l_12, l_13, l_14, l_15, l_16, l_20, l_21, l_40, l_60, l_78, l_199, l_200, l_300, l_599, l_600, l_601, l_602, l_1000, l_1638, l_10000, l_65536, l_100000, l_1000000, l_m1, L_0, L_1, L_10, L_20, L_1000, L_10000, iI_add, iI_sub, iI_mul, iI_neg, iI_lt, iI_le, iI_eq, iI_max, iI_min, iI_l, jI_i, jI_add, jI_sub, jI_mul, jI_lt, jI_le, jI_eq, kmp_pos, kmp_neg, kmp_le, kmp_ge, if_pos, if_neg, if_true, if_false, true_or, or_true, Option.bind_some, xl, xg, w1]
    obtain ⟨y1, h7, y2, y3⟩ := Jgo (Fr.of2 (fun k i hk => Q6 k i (by omega) (by omega) (by omega)) (Q6 10 0 (by omega) (by omega) (by omega)).1) M O R6 C6 I6 L5 (y := F_X11_alarm G g6 (ad 19 0) (iI p) (iI x) (iI y) (iI z)) (r := iI (v 26)) (fun M => by rw [← (Q6 19 0 (by omega) (by omega) (by omega)).1]; exact u_alarm M ef)
    refine ⟨_, g6, h7, ?_, y1, y2, y3⟩
    have k5 : P5 0 3 = P 0 3 := (Q5 0 3 (by omega)).2
    have x3 := (l3.size R5).1
    have a3 : ad1 0 3 = ad 0 3 := (Q5 0 3 (by omega)).1
    rw [a3] at e6 x3
    have k6 : gR g6 (some (ad 10 0)) 10 3 = some (some (ad 0 3)) := by
      have := R6.getR N6.1 (j := 3) rfl
      rw [(Q6 10 0 (by omega) (by omega) (by omega)).1, a0] at this
      exact this
    have x6 := l6.size R6
    rw [a0] at x6
    unfold F_X10_alarm
    rw [R.obj C.k, Option.bind_some, ew.1, Option.bind_some, if_neg (by simp), wx, Option.bind_some, if_pos c2, if_neg (by decide), wy, Option.bind_some, if_pos c3, if_neg (by decide), wz, Option.bind_some, if_pos c4, if_neg (by decide), R.getR C.k (j := 3) rfl, Option.bind_some, lz.1, Option.bind_some, lz.2, Option.bind_some, l_8, if_pos (by (first | rw [iI_lt (by omega) (by omega) (by omega) (by omega)] | rw [iI_le (by omega) (by omega) (by omega) (by omega)] | rw [iI_eq (by omega) (by omega) (by omega) (by omega)]); omega), Option.bind_some, e1, Option.bind_some]
    dsimp only
    rw [Option.bind_some]
    unfold F_X0_init
    simp only [rf_some, e2, e3, e4, e5, Option.bind_some, x3, e6, k6, x6.1, x6.2, l_1, iI_sub]
    congr 3; omega
  · have ef : FM_alarm s (iI p) (iI x) (iI y) (iI z) = some (iI (-1), mI s 0 (iI 0)) := by
      unfold FM_alarm FM_isPromise
      simp only [xl, l_0, l_1, l_8, l_200, l_1000, iI_neg, Rl.fd R0 15 (by decide) (by decide), Rl.fd R0 26 (by decide) (by decide)]
      by_cases d1 : p < 0
      · rw [if_pos (by (first | rw [iI_lt (by omega) (by omega) (by omega) (by omega)] | rw [iI_le (by omega) (by omega) (by omega) (by omega)] | rw [iI_eq (by omega) (by omega) (by omega) (by omega)]); omega), Option.bind_some, if_pos rfl]
      · rw [if_neg (by (first | rw [iI_lt (by omega) (by omega) (by omega) (by omega)] | rw [iI_le (by omega) (by omega) (by omega) (by omega)] | rw [iI_eq (by omega) (by omega) (by omega) (by omega)]); omega)]
        by_cases d2 : v 15 ≤ p
        · rw [if_pos (by (first | rw [iI_lt (by omega) (by omega) (by omega) (by omega)] | rw [iI_le (by omega) (by omega) (by omega) (by omega)] | rw [iI_eq (by omega) (by omega) (by omega) (by omega)]); omega), Option.bind_some, if_pos rfl]
        · rw [if_neg (by (first | rw [iI_lt (by omega) (by omega) (by omega) (by omega)] | rw [iI_le (by omega) (by omega) (by omega) (by omega)] | rw [iI_eq (by omega) (by omega) (by omega) (by omega)]); omega), Option.bind_some, if_neg (by decide)]
          by_cases d3 : x < 1
          · rw [if_pos (by (first | rw [iI_lt (by omega) (by omega) (by omega) (by omega)] | rw [iI_le (by omega) (by omega) (by omega) (by omega)] | rw [iI_eq (by omega) (by omega) (by omega) (by omega)]); omega)]
          · rw [if_neg (by (first | rw [iI_lt (by omega) (by omega) (by omega) (by omega)] | rw [iI_le (by omega) (by omega) (by omega) (by omega)] | rw [iI_eq (by omega) (by omega) (by omega) (by omega)]); omega)]
            by_cases d4 : 200 < x
            · rw [if_pos (by (first | rw [iI_lt (by omega) (by omega) (by omega) (by omega)] | rw [iI_le (by omega) (by omega) (by omega) (by omega)] | rw [iI_eq (by omega) (by omega) (by omega) (by omega)]); omega)]
            · rw [if_neg (by (first | rw [iI_lt (by omega) (by omega) (by omega) (by omega)] | rw [iI_le (by omega) (by omega) (by omega) (by omega)] | rw [iI_eq (by omega) (by omega) (by omega) (by omega)]); omega)]
              by_cases d5 : y < 1
              · rw [if_pos (by (first | rw [iI_lt (by omega) (by omega) (by omega) (by omega)] | rw [iI_le (by omega) (by omega) (by omega) (by omega)] | rw [iI_eq (by omega) (by omega) (by omega) (by omega)]); omega)]
              · rw [if_neg (by (first | rw [iI_lt (by omega) (by omega) (by omega) (by omega)] | rw [iI_le (by omega) (by omega) (by omega) (by omega)] | rw [iI_eq (by omega) (by omega) (by omega) (by omega)]); omega)]
                by_cases d6 : x < y
                · rw [if_pos (by (first | rw [iI_lt (by omega) (by omega) (by omega) (by omega)] | rw [iI_le (by omega) (by omega) (by omega) (by omega)] | rw [iI_eq (by omega) (by omega) (by omega) (by omega)]); omega)]
                · rw [if_neg (by (first | rw [iI_lt (by omega) (by omega) (by omega) (by omega)] | rw [iI_le (by omega) (by omega) (by omega) (by omega)] | rw [iI_eq (by omega) (by omega) (by omega) (by omega)]); omega)]
                  by_cases d7 : z < 1
                  · rw [if_pos (by (first | rw [iI_lt (by omega) (by omega) (by omega) (by omega)] | rw [iI_le (by omega) (by omega) (by omega) (by omega)] | rw [iI_eq (by omega) (by omega) (by omega) (by omega)]); omega)]
                  · rw [if_neg (by (first | rw [iI_lt (by omega) (by omega) (by omega) (by omega)] | rw [iI_le (by omega) (by omega) (by omega) (by omega)] | rw [iI_eq (by omega) (by omega) (by omega) (by omega)]); omega)]
                    by_cases d8 : 1000 < z
                    · rw [if_pos (by (first | rw [iI_lt (by omega) (by omega) (by omega) (by omega)] | rw [iI_le (by omega) (by omega) (by omega) (by omega)] | rw [iI_eq (by omega) (by omega) (by omega) (by omega)]); omega)]
                    · rw [if_neg (by (first | rw [iI_lt (by omega) (by omega) (by omega) (by omega)] | rw [iI_le (by omega) (by omega) (by omega) (by omega)] | rw [iI_eq (by omega) (by omega) (by omega) (by omega)]); omega), if_pos (by (first | rw [iI_lt (by omega) (by omega) (by omega) (by omega)] | rw [iI_le (by omega) (by omega) (by omega) (by omega)] | rw [iI_eq (by omega) (by omega) (by omega) (by omega)]); omega)]
    obtain ⟨q1, h6, q2, q3⟩ := Jgo0 R M O I C R0 (fun M => u_alarm M ef)
    refine ⟨_, h, h6, ?_, q1, q2, q3⟩
    unfold F_X10_alarm
    by_cases c1 : 0 ≤ p ∧ p < v 15
    · have ew := c_promiseAt R C c1.1 c1.2 (by omega)
      rw [R.obj C.k, Option.bind_some, ew.1, Option.bind_some, if_neg (by simp), wx, Option.bind_some]
      by_cases c2 : 1 ≤ x ∧ x ≤ 200
      · rw [if_pos c2, if_neg (by decide), wy, Option.bind_some]
        by_cases c3 : 1 ≤ y ∧ y ≤ x
        · rw [if_pos c3, if_neg (by decide), wz, Option.bind_some]
          by_cases c4 : 1 ≤ z ∧ z ≤ 1000
          · rw [if_pos c4, if_neg (by decide), R.getR C.k (j := 3) rfl, Option.bind_some, lz.1, Option.bind_some, lz.2, Option.bind_some, l_8, if_neg (by (first | rw [iI_lt (by omega) (by omega) (by omega) (by omega)] | rw [iI_le (by omega) (by omega) (by omega) (by omega)] | rw [iI_eq (by omega) (by omega) (by omega) (by omega)]); omega)]; rfl
          · rw [if_neg c4, if_pos (by decide)]; rfl
        · rw [if_neg c3, if_pos (by decide)]; rfl
      · rw [if_neg c2, if_pos (by decide)]; rfl
    · have ew := c_promiseAtX R C p0 p1 (by omega) (by omega) c1
      rw [R.obj C.k, Option.bind_some, ew, Option.bind_some, if_pos rfl]; rfl
