/-! made: the reference -/
def mk (a : Nat → Int → Int) (x f i : Int) : Int := if f = 0 then max (a 25 i - x) 0 else min (a 25 i) x
section MAE
variable {G : Nat → Nat} {h : xH} {ad : Nat → Nat → Nat} {P : xP} {s : mS} {v v' : Nat → Int} {a : Nat → Int → Int} {el : Int → Int → Int} {cn : Int → Int}
theorem r_marks (R : Rl s v' a) {c x f : Int} (c0 : 0 ≤ c) (c1 : c ≤ 10) (hp : ∀ i, 0 ≤ i → i < c → 0 ≤ a 25 i ∧ a 25 i ≤ 100000) (hf : f = 0 ∨ f = 1) (x0 : 0 ≤ x) (x1 : x ≤ 100000) : FM_marks s (iI x) (iI f) (iI c) = some (jI (pr (mk a x f) c)) := by
  unfold FM_marks
  refine up_eq (fun m (q : Int64 × Int32) => FM_marks_6 s (iI x) (iI f) (iI c) m q.1 q.2) (fun i q => 0 ≤ i ∧ q = (jI (pr (mk a x f) i), iI i)) _ c ?_ ?_ xN 0 (0, 0) ⟨by omega, rfl⟩ (by omega) (by unfold xN; omega)
  · rintro m i q ⟨hi, rfl⟩ hlt
    right
    refine ⟨_, ⟨by omega, rfl⟩, ?_⟩
    have hp' := hp i hi hlt
    dsimp only
    simp only [pr_1 _ hi]
    rcases hf with rfl | rfl
    · by_cases c2 : a 25 i ≤ x
      · have e : mk a x 0 i = 0 := by unfold mk; rw [if_pos rfl]; omega
        rw [e]
        simp (disch := omega) only [FM_marks_6, Rl.ld R 25 10 (by decide) rfl, l_0, l_1, l_2, l_3, l_4, l_5, l_6, l_7, l_8, l_9, l_10, l_12, l_13, l_14, l_15, l_16, l_20, l_21, l_40, l_60, l_78, l_199, l_200, l_300, l_599, l_600, l_601, l_602, l_1000, l_1638, l_10000, l_65536, l_100000, l_1000000, l_m1, L_0, L_1, L_10, L_20, L_1000, L_10000, iI_add, iI_sub, iI_mul, iI_neg, iI_lt, iI_le, iI_eq, iI_max, iI_min, iI_l, jI_i, jI_add, jI_sub, jI_mul, jI_lt, jI_le, jI_eq, kmp_pos, kmp_neg, kmp_le, kmp_ge, if_pos, if_neg, if_true, if_false, true_or, or_true, Option.bind_some, xl, xg]
      · have e : mk a x 0 i = a 25 i - x := by unfold mk; rw [if_pos rfl]; omega
        rw [e]
        simp (disch := omega) only [FM_marks_6, Rl.ld R 25 10 (by decide) rfl, l_0, l_1, l_2, l_3, l_4, l_5, l_6, l_7, l_8, l_9, l_10, l_12, l_13, l_14, l_15, l_16, l_20, l_21, l_40, l_60, l_78, l_199, l_200, l_300, l_599, l_600, l_601, l_602, l_1000, l_1638, l_10000, l_65536, l_100000, l_1000000, l_m1, L_0, L_1, L_10, L_20, L_1000, L_10000, iI_add, iI_sub, iI_mul, iI_neg, iI_lt, iI_le, iI_eq, iI_max, iI_min, iI_l, jI_i, jI_add, jI_sub, jI_mul, jI_lt, jI_le, jI_eq, kmp_pos, kmp_neg, kmp_le, kmp_ge, if_pos, if_neg, if_true, if_false, true_or, or_true, Option.bind_some, xl, xg]
    · by_cases c2 : x ≤ a 25 i
      · have e : mk a x 1 i = x := by unfold mk; rw [if_neg (by decide)]; omega
        rw [e]
        simp (disch := omega) only [FM_marks_6, Rl.ld R 25 10 (by decide) rfl, l_0, l_1, l_2, l_3, l_4, l_5, l_6, l_7, l_8, l_9, l_10, l_12, l_13, l_14, l_15, l_16, l_20, l_21, l_40, l_60, l_78, l_199, l_200, l_300, l_599, l_600, l_601, l_602, l_1000, l_1638, l_10000, l_65536, l_100000, l_1000000, l_m1, L_0, L_1, L_10, L_20, L_1000, L_10000, iI_add, iI_sub, iI_mul, iI_neg, iI_lt, iI_le, iI_eq, iI_max, iI_min, iI_l, jI_i, jI_add, jI_sub, jI_mul, jI_lt, jI_le, jI_eq, kmp_pos, kmp_neg, kmp_le, kmp_ge, if_pos, if_neg, if_true, if_false, true_or, or_true, Option.bind_some, xl, xg]
      · have e : mk a x 1 i = a 25 i := by unfold mk; rw [if_neg (by decide)]; omega
        rw [e]
        simp (disch := omega) only [FM_marks_6, Rl.ld R 25 10 (by decide) rfl, l_0, l_1, l_2, l_3, l_4, l_5, l_6, l_7, l_8, l_9, l_10, l_12, l_13, l_14, l_15, l_16, l_20, l_21, l_40, l_60, l_78, l_199, l_200, l_300, l_599, l_600, l_601, l_602, l_1000, l_1638, l_10000, l_65536, l_100000, l_1000000, l_m1, L_0, L_1, L_10, L_20, L_1000, L_10000, iI_add, iI_sub, iI_mul, iI_neg, iI_lt, iI_le, iI_eq, iI_max, iI_min, iI_l, jI_i, jI_add, jI_sub, jI_mul, jI_lt, jI_le, jI_eq, kmp_pos, kmp_neg, kmp_le, kmp_ge, if_pos, if_neg, if_true, if_false, true_or, or_true, Option.bind_some, xl, xg]
  · rintro m q ⟨hi, rfl⟩
    dsimp only
    simp (disch := omega) only [FM_marks_6, l_0, l_1, l_2, l_3, l_4, l_5, l_6, l_7, l_8, l_9, l_10, l_12, l_13, l_14, l_15, l_16, l_20, l_21, l_40, l_60, l_78, l_199, l_200, l_300, l_599, l_600, l_601, l_602, l_1000, l_1638, l_10000, l_65536, l_100000, l_1000000, l_m1, L_0, L_1, L_10, L_20, L_1000, L_10000, iI_add, iI_sub, iI_mul, iI_neg, iI_lt, iI_le, iI_eq, iI_max, iI_min, iI_l, jI_i, jI_add, jI_sub, jI_mul, jI_lt, jI_le, jI_eq, kmp_pos, kmp_neg, kmp_le, kmp_ge, if_pos, if_neg, if_true, if_false, true_or, or_true, Option.bind_some, xl, xg]
theorem mk_b {c x f : Int} (c0 : 0 ≤ c) (c1 : c ≤ 10) (hp : ∀ i, 0 ≤ i → i < c → 0 ≤ a 25 i ∧ a 25 i ≤ 100000) (x0 : 0 ≤ x) (x1 : x ≤ 100000) : 0 ≤ pr (mk a x f) c ∧ pr (mk a x f) c ≤ 1000000 := by
  have b1 := pr_ge (f := mk a x f) (x := 0) (y := c) (c := 0) (by omega) c0 (fun j j0 j1 => by
    have := hp j j0 j1
    unfold mk; split <;> omega)
  have b2 := pr_le (f := mk a x f) (x := 0) (y := c) (c := 100000) (by omega) c0 (fun j j0 j1 => by
    have := hp j j0 j1
    unfold mk; split <;> omega)
  simp only [pr_0] at b1 b2
  omega
/-- the two conditions are one -/
theorem mk_1 {c n k y : Int} : k * y ≤ pr (mk a y 1) c ↔ Mt a n 0 c k y := by
  unfold Mt
  rw [pr_congr (f := mk a y 1) (g := fun i => min (pf a n 0 i) y) (fun j _ _ => by unfold mk pf; rw [if_neg (by decide), if_pos rfl])]
theorem mk_0 {c n k x : Int} (c0 : 0 ≤ c) (hn : ∀ i, 0 ≤ i → i < c → a 25 i ≤ n) : pr (mk a x 0) c ≤ (c - k) * (n - x) ↔ Mt a n 1 c k (n - x) := by
  unfold Mt
  have e : pr (mk a x 0) c + pr (fun i => min (pf a n 1 i) (n - x)) c = (n - x) * c := by
    rw [← pr_add _ _ _ c0, ← pr_const _ c0]
    apply pr_congr
    intro j j0 j1
    have := hn j j0 j1
    unfold mk pf
    rw [if_pos rfl, if_neg (by decide)]
    omega
  rw [Int.sub_mul, Int.mul_comm c (n - x)]
  omega
theorem r_made128 (R : Rl s v' a) {c n k : Int} (c0 : 0 ≤ c) (c1 : c ≤ 10) (hp : ∀ i, 0 ≤ i → i < c → 0 ≤ a 25 i ∧ a 25 i ≤ 100000) (n0 : 0 ≤ n) (n1 : n ≤ 100000) (k0 : 1 ≤ k) (k1 : k ≤ c) (hn : ∀ i, 0 ≤ i → i < c → a 25 i ≤ n) {g : Int} (hg : Gm a n 1 c k g) : FM_made_128 s (iI n) (iI c) (jI (c - k + 1)) xN 0 = some (iI (n - g), s) := by
  obtain ⟨g0, g1, g2, g3⟩ := hg
  refine up_eq (fun m (q : Int32) => FM_made_128 s (iI n) (iI c) (jI (c - k + 1)) m q) (fun i q => 0 ≤ i ∧ q = iI i) _ (n - g) ?_ ?_ xN 0 0 ⟨by omega, rfl⟩ (by omega) (by unfold xN; omega)
  · rintro m i q ⟨hi, rfl⟩ hlt
    right
    refine ⟨_, ⟨by omega, rfl⟩, ?_⟩
    have e := r_marks R (x := i) (f := 0) c0 c1 hp (Or.inl rfl) hi (by omega)
    have b := mk_b (a := a) (f := 0) c0 c1 hp hi (show i ≤ 100000 by omega)
    have mb := mul_b (show 0 ≤ c - k by omega) (show c - k ≤ 10 by omega) (show 0 ≤ n - i by omega) (show n - i ≤ 100000 by omega)
    have ne : ¬ pr (mk a i 0) c ≤ (c - k) * (n - i) := fun z => g3 (n - i) (by omega) (by omega) ((mk_0 c0 hn).mp z)
    have e1 : c - k + 1 - 1 = c - k := by omega
    rw [← l_0] at e
    conv => lhs; unfold FM_made_128
    rw [e, Option.bind_some, L_1, jI_sub, e1, iI_sub, iI_l (by omega) (by omega), jI_mul, if_neg (by rw [cmp_le, jI_le (by omega) (by omega) (by omega) (by omega)]; exact ne), l_1, iI_add]
    rfl
  · rintro m q ⟨hi, rfl⟩
    have e := r_marks R (x := n - g) (f := 0) c0 c1 hp (Or.inl rfl) hi (by omega)
    have b := mk_b (a := a) (f := 0) c0 c1 hp hi (show n - g ≤ 100000 by omega)
    have mb := mul_b (show 0 ≤ c - k by omega) (show c - k ≤ 10 by omega) (show 0 ≤ g by omega) (show g ≤ 100000 by omega)
    have e2 : n - (n - g) = g := by omega
    have ye : pr (mk a (n - g) 0) c ≤ (c - k) * g := by
      have := (mk_0 (a := a) (n := n) (k := k) (x := n - g) c0 hn)
      rw [e2] at this
      exact this.mpr g2
    have e1 : c - k + 1 - 1 = c - k := by omega
    rw [← l_0] at e
    show FM_made_128 s (iI n) (iI c) (jI (c - k + 1)) (m + 1) (iI (n - g)) = _
    unfold FM_made_128
    rw [e, Option.bind_some, L_1, jI_sub, e1, iI_sub, e2, iI_l (by omega) (by omega), jI_mul, if_pos (by rw [cmp_le, jI_le (by omega) (by omega) (by omega) (by omega)]; exact ye)]
theorem r_made157 (R : Rl s v' a) {c n k : Int} (c0 : 0 ≤ c) (c1 : c ≤ 10) (hp : ∀ i, 0 ≤ i → i < c → 0 ≤ a 25 i ∧ a 25 i ≤ 100000) (n0 : 0 ≤ n) (n1 : n ≤ 100000) (k0 : 0 ≤ k) (k1 : k ≤ 10) {g : Int} (hg : Gm a n 0 c k g) : FM_made_157 s (iI c) (jI k) xN (iI n) = some (iI g, s) := by
  obtain ⟨g0, g1, g2, g3⟩ := hg
  have key : ∀ (m : Nat) (y : Int), g ≤ y → y ≤ n → y - g < m → FM_made_157 s (iI c) (jI k) m (iI y) = some (iI g, s) := by
    intro m
    induction m with
    | zero => intro y h0 h1 h2; omega
    | succ m ih =>
      intro y h0 h1 h2
      have e := r_marks R (x := y) (f := 1) c0 c1 hp (Or.inr rfl) (by omega) (by omega)
      have b := mk_b (a := a) (f := 1) c0 c1 hp (show 0 ≤ y by omega) (show y ≤ 100000 by omega)
      have mb := mul_b k0 k1 (show 0 ≤ y by omega) (show y ≤ 100000 by omega)
      rw [← l_1] at e
      conv => lhs; unfold FM_made_157
      by_cases q : y = g
      · subst q
        rw [e, Option.bind_some, iI_l (by omega) (by omega), jI_mul, if_pos (by rw [cmp_ge, jI_le (by omega) (by omega) (by omega) (by omega)]; exact mk_1.mpr g2)]
      · rw [e, Option.bind_some, iI_l (by omega) (by omega), jI_mul, if_neg (by rw [cmp_ge, jI_le (by omega) (by omega) (by omega) (by omega)]; exact fun z => g3 y (by omega) h1 (mk_1.mp z)), l_m1, iI_add]
        exact ih (y + -1) (by omega) (by omega) (by omega)
  exact key xN n (by omega) (by omega) (by unfold xN; omega)
theorem r_made61 (R : Rl s v' a) {c n : Int} (c0 : 0 ≤ c) (c1 : c ≤ 10) (hp : ∀ i, 0 ≤ i → i < c → 0 ≤ a 25 i ∧ a 25 i ≤ 100000) (n0 : -2147483648 ≤ n) (n1 : n < 2147483648) (x2 x3 : Int32) : FM_made_61 s (iI n) x2 x3 (iI c) xN 0 0 = some (iI (-1), s) ∧ ((¬ ∀ i, 0 ≤ i → i < c → a 25 i ≤ n) → FM_made_61 s (iI n) x2 x3 (iI c) xN 1 0 = some (iI (-1), s)) := by
  have key : ∀ (b0 : Int32) (b : Int), b0 = iI b → (b = 0 ∨ (b = 1 ∧ ¬ ∀ i, 0 ≤ i → i < c → a 25 i ≤ n)) → FM_made_61 s (iI n) x2 x3 (iI c) xN b0 0 = some (iI (-1), s) := by
    intro b0 b hb hh
    refine up_eq (fun m (q : Int32 × Int32) => FM_made_61 s (iI n) x2 x3 (iI c) m q.1 q.2) (fun i q => 0 ≤ i ∧ ∃ b, q = (iI b, iI i) ∧ (b = 0 ∨ (b = 1 ∧ ¬ ∀ j, i ≤ j → j < c → a 25 j ≤ n))) _ c ?_ ?_ xN 0 (b0, 0) ⟨by omega, b, by rw [hb]; rfl, hh⟩ (by omega) (by unfold xN; omega)
    · rintro m i q ⟨hi, b, rfl, hb⟩ hlt
      right
      have hp' := hp i hi hlt
      rcases hb with rfl | ⟨rfl, hb⟩
      · refine ⟨(iI 0, iI (i + 1)), ⟨by omega, 0, rfl, Or.inl rfl⟩, ?_⟩
        dsimp only
        conv => lhs; unfold FM_made_61
        rw [if_neg (by (first | rw [iI_lt (by omega) (by omega) (by omega) (by omega)] | rw [iI_le (by omega) (by omega) (by omega) (by omega)] | rw [iI_eq (by omega) (by omega) (by omega) (by omega)]); omega), if_pos (by decide), l_1, iI_add]
        rfl
      · by_cases q : a 25 i ≤ n
        · refine ⟨(iI 1, iI (i + 1)), ⟨by omega, 1, rfl, Or.inr ⟨rfl, fun z => hb fun j j0 j1 => if e : j = i then e ▸ q else z j (by omega) j1⟩⟩, ?_⟩
          dsimp only
          conv => lhs; unfold FM_made_61
          rw [if_neg (by (first | rw [iI_lt (by omega) (by omega) (by omega) (by omega)] | rw [iI_le (by omega) (by omega) (by omega) (by omega)] | rw [iI_eq (by omega) (by omega) (by omega) (by omega)]); omega), if_neg (by decide), Rl.ld R 25 10 (by decide) rfl hi (by omega), Option.bind_some, if_neg (by (first | rw [iI_lt (by omega) (by omega) (by omega) (by omega)] | rw [iI_le (by omega) (by omega) (by omega) (by omega)] | rw [iI_eq (by omega) (by omega) (by omega) (by omega)]); omega), l_1, iI_add]
          rfl
        · refine ⟨(iI 0, iI (i + 1)), ⟨by omega, 0, rfl, Or.inl rfl⟩, ?_⟩
          dsimp only
          conv => lhs; unfold FM_made_61
          rw [if_neg (by (first | rw [iI_lt (by omega) (by omega) (by omega) (by omega)] | rw [iI_le (by omega) (by omega) (by omega) (by omega)] | rw [iI_eq (by omega) (by omega) (by omega) (by omega)]); omega), if_neg (by decide), Rl.ld R 25 10 (by decide) rfl hi (by omega), Option.bind_some, if_pos (by (first | rw [iI_lt (by omega) (by omega) (by omega) (by omega)] | rw [iI_le (by omega) (by omega) (by omega) (by omega)] | rw [iI_eq (by omega) (by omega) (by omega) (by omega)]); omega), l_1, iI_add]
          rfl
    · rintro m q ⟨hi, b, rfl, hb⟩
      rcases hb with rfl | ⟨rfl, hb⟩
      · dsimp only
        unfold FM_made_61
        rw [if_pos (by (first | rw [iI_lt (by omega) (by omega) (by omega) (by omega)] | rw [iI_le (by omega) (by omega) (by omega) (by omega)] | rw [iI_eq (by omega) (by omega) (by omega) (by omega)]); omega), if_pos (by decide)]
        rfl
      · exact absurd (fun j j0 j1 => by omega) hb
  exact ⟨key 0 0 rfl (Or.inl rfl), fun hn => key 1 1 rfl (Or.inr ⟨rfl, hn⟩)⟩
theorem r_made61' (R : Rl s v' a) {c n : Int} (c0 : 0 ≤ c) (c1 : c ≤ 10) (hp : ∀ i, 0 ≤ i → i < c → 0 ≤ a 25 i ∧ a 25 i ≤ 100000) (n0 : -2147483648 ≤ n) (n1 : n < 2147483648) (x2 x3 : Int32) (hn : ∀ i, 0 ≤ i → i < c → a 25 i ≤ n) : ∃ m, FM_made_61 s (iI n) x2 x3 (iI c) xN 1 0 = FM_made_61 s (iI n) x2 x3 (iI c) (m + 1) (iI 1) (iI c) := by
  have key : ∀ (j : Nat) (i : Int), 0 ≤ i → i + j = c → ∀ m, FM_made_61 s (iI n) x2 x3 (iI c) (m + j) (iI 1) (iI i) = FM_made_61 s (iI n) x2 x3 (iI c) m (iI 1) (iI c) := by
    intro j
    induction j with
    | zero => intro i i0 i1 m; have : i = c := by omega
              rw [this]; rfl
    | succ j ih =>
      intro i i0 i1 m
      have hp' := hp i i0 (by omega)
      have hn' := hn i i0 (by omega)
      rw [← ih (i + 1) (by omega) (by omega) m, ← Nat.add_assoc]
      conv => lhs; unfold FM_made_61
      rw [if_neg (by (first | rw [iI_lt (by omega) (by omega) (by omega) (by omega)] | rw [iI_le (by omega) (by omega) (by omega) (by omega)] | rw [iI_eq (by omega) (by omega) (by omega) (by omega)]); omega), if_neg (by decide), Rl.ld R 25 10 (by decide) rfl i0 (by omega), Option.bind_some, if_neg (by (first | rw [iI_lt (by omega) (by omega) (by omega) (by omega)] | rw [iI_le (by omega) (by omega) (by omega) (by omega)] | rw [iI_eq (by omega) (by omega) (by omega) (by omega)]); omega), l_1, iI_add]
      rfl
  have e : xN = (xN - c.toNat - 1 + 1) + c.toNat := by unfold xN; omega
  refine ⟨xN - c.toNat - 1, ?_⟩
  conv => lhs; rw [e]
  exact key c.toNat 0 (by omega) (by omega) _
end MAE
theorem js_made (G : Nat → Nat) (x m out : Nat) : sJ_made (fun _ => Jx G x m out) G x m := by
  rintro i h ⟨ad, P, s, v, a, el, cn, ⟨rfl, rfl, rfl⟩, R, M, O, L, I, C⟩ a1 a2 a3
  obtain ⟨n, rfl, n0, n1⟩ := iI_arg a1
  obtain ⟨k, rfl, k0, k1⟩ := iI_arg a2
  obtain ⟨f, rfl, f0, f1⟩ := iI_arg a3
  have R0 := L.m0 (iI 0)
  have R1 := R0.mI 24 0
  have i24 := I.2.2.2.2.1
  have hp := I.2.2.2.2.2.2.2.2.2.2.2.2.2.2.1
  have hT := C.2.2.2.2.2.1
  obtain ⟨h1, P1, e1, Q1, o1, q1⟩ := R.sf' hT.1 (j := 1) (by simp) (.int 0)
  have C1 : Cc G ad P1 (tv v 24 0) a el cn := by
    obtain ⟨z0, z1, z2, z3, z4, z5, z6, z7, z8, z9, z10⟩ := C
    exact ⟨cK.c (P := P) z0 fun k q i => q1 k i (by omega), z1.c fun k q i => q1 k i (by omega), cS.c (P := P) z2 fun k q i => q1 k i (by omega), cO.c (P := P) z3 fun k q i => q1 k i (by omega), cP.c (P := P) z4 fun k q i => q1 k i (by omega), ⟨o1, (q1 40 0 (by omega)).trans hT.2⟩, cA.c (P := P) z6 fun k q i => q1 k i (by omega), cH.c (P := P) z7 fun k q i => q1 k i (by omega), cL.c (P := P) z8 fun k q i => q1 k i (by omega), z9.c fun k q i => q1 k i (by omega), z10⟩
  have I1 : Iv (tv v 24 0) a := by
    obtain ⟨i1, i2, i9, i15, i24, i26, i33, i39, hs, hq, ht, hp, hg, hr, hpt, hal, hch, hz⟩ := I
    exact ⟨i1, i2, i9, i15, ⟨show (0 : Int) ≤ 0 by decide, show (0 : Int) ≤ 10 by decide⟩, i26, i33, i39, hs, hq, ht, hp, hg, hr, fun j j0 j1 => absurd (show j < 0 from j1) (by omega), hal, hch, hz⟩
  suffices hs : ∃ r, F_X10_made G h (ad 10 0) (iI n) (iI k) (iI f) = some (r, h1) ∧ FM_made s (iI n) (iI k) (iI f) = some (r, mI (mI s 0 (iI 0)) 24 (iI 0)) by
    obtain ⟨r, e1, e2⟩ := hs
    obtain ⟨y1, h2, y2, y3⟩ := Jgo (Fr.of fun k i hk => q1 k i (by omega)) M O Q1 C1 I1 R1 (fun M => u_made M e2)
    exact ⟨r, h1, h2, e1, y1, y2, y3⟩
  have wn : F_X10_within (iI n) 0 100000 = some (iI (if 0 ≤ n ∧ n ≤ 100000 then 1 else 0)) := c_within (x := n) (y := 0) (z := 100000) (by omega) (by omega) (by omega) (by omega) (by omega) (by omega)
  have wk : F_X10_within (iI k) 1 (iI (v 24)) = some (iI (if 1 ≤ k ∧ k ≤ v 24 then 1 else 0)) := c_within (x := k) (y := 1) (z := v 24) (by omega) (by omega) (by omega) (by omega) (by omega) (by omega)
  have e5 := R.getR C.k (j := 5) rfl
  have sz : F_X4_size G h (ad 4 0) = some (iI (v 24)) := by unfold F_X4_size; rw [R.getI hT.1 (j := 1) rfl]; rfl
  have cl' : F_X4_clear G h (ad 4 0) = some h1 := by unfold F_X4_clear; rw [e1]; rfl
  have xT := R.obj hT.1
  have rz := r_made61 R1 i24.1 i24.2 hp n0 n1 (iI k) (iI f)
  have fit := c_fit R C I n0 n1
  unfold F_X10_made FM_made
  simp only [xl, Rl.fd R0 24 (by decide) (by decide)]
  have z0 : (0 : Int32) = iI 0 := rfl
  have z1 : (1 : Int32) = iI 1 := rfl
  have z2 : (100000 : Int32) = iI 100000 := rfl
  have z3 : mI (mI s 0 0) 24 0 = mI (mI s 0 (iI 0)) 24 (iI 0) := rfl
  have z4 : (mI s 0 0).1 24 = iI (v 24) := R0.fd 24 (by decide) (by decide)
  rw [z3, z4]
  by_cases c1 : 0 ≤ n ∧ n ≤ 100000
  · rw [wn, Option.bind_some, if_pos c1, if_neg (by decide), e5, Option.bind_some, xT, Option.bind_some, sz, Option.bind_some, wk, Option.bind_some]
    by_cases c2 : 1 ≤ k ∧ k ≤ v 24
    · rw [if_pos c2, if_neg (by decide), Option.bind_some, xT, Option.bind_some]
      rw [z0, z1, z2, if_neg (show ¬ iI (v 24) ≤ iI 0 by rw [iI_le (by omega) (by omega) (by omega) (by omega)]; omega), if_neg (show ¬ iI k < iI 1 by rw [iI_lt (by omega) (by omega) (by omega) (by omega)]; omega), if_neg (show ¬ iI (v 24) < iI k by rw [iI_lt (by omega) (by omega) (by omega) (by omega)]; omega)]
      rw [if_neg (show ¬ iI n < iI 0 by rw [iI_lt (by omega) (by omega) (by omega) (by omega)]; omega), if_neg (show ¬ iI 100000 < iI n by rw [iI_lt (by omega) (by omega) (by omega) (by omega)]; omega)]
      obtain ⟨r, er, ⟨rfl, hn⟩ | ⟨rfl, hn⟩⟩ := fit
      · rw [er, Option.bind_some, if_neg (by decide)]
        by_cases c3 : f = 0
        · subst c3
          obtain ⟨g, eg, hg⟩ := c_most R C I (f := 1) (k := k) c1.1 c1.2 (Or.inr rfl) (by omega) (by omega) hn
          refine ⟨iI (n - g), ?_, ?_⟩
          · unfold F_X4_leastBad
            rw [if_pos rfl, Option.bind_some, xT, Option.bind_some, xT, Option.bind_some, z1, eg, Option.bind_some, Option.bind_some, Option.bind_some, xT, Option.bind_some, cl', Option.bind_some, iI_sub]
          · rw [if_neg (by decide), if_neg (by decide)]
            obtain ⟨m, em⟩ := r_made61' R1 i24.1 i24.2 hp n0 n1 (iI k) (iI 0) hn
            refine em.trans ?_
            unfold FM_made_61
            rw [if_pos (by rw [iI_le (by omega) (by omega) (by omega) (by omega)]; omega), if_neg (by decide), z1, iI_sub, iI_add, iI_l (by omega) (by omega)]
            unfold xl
            dsimp only
            rw [if_pos (by decide), if_pos (by decide)]
            exact r_made128 R1 i24.1 i24.2 hp c1.1 c1.2 c2.1 c2.2 hn hg
        · by_cases c4 : f = 1
          · subst c4
            obtain ⟨g, eg, hg⟩ := c_most R C I (f := 0) (k := v 24 - k + 1) c1.1 c1.2 (Or.inl rfl) (by omega) (by omega) hn
            refine ⟨iI g, ?_, ?_⟩
            · unfold F_X4_greatestBad
              rw [if_neg (by decide), if_pos rfl, Option.bind_some, xT, Option.bind_some, R.getI hT.1 (j := 1) rfl, Option.bind_some, xT, Option.bind_some, z1, z0, iI_sub, iI_add, eg, Option.bind_some, Option.bind_some, Option.bind_some, xT, Option.bind_some, cl', Option.bind_some]
            · rw [if_neg (by decide), if_neg (by decide)]
              obtain ⟨m, em⟩ := r_made61' R1 i24.1 i24.2 hp n0 n1 (iI k) (iI 1) hn
              refine em.trans ?_
              unfold FM_made_61
              rw [if_pos (by rw [iI_le (by omega) (by omega) (by omega) (by omega)]; omega), if_neg (by decide), z1, iI_sub, iI_add, iI_l (by omega) (by omega)]
              unfold xl
              dsimp only
              rw [if_neg (by decide), if_neg (by decide)]
              exact r_made157 R1 i24.1 i24.2 hp c1.1 c1.2 (by omega) (by omega) hg
          · refine ⟨iI (-1), ?_, ?_⟩
            · rw [if_neg (by rw [iI_eq (by omega) (by omega) (by omega) (by omega)]; exact c3), if_neg (by rw [iI_eq (by omega) (by omega) (by omega) (by omega)]; exact c4), Option.bind_some, xT, Option.bind_some, cl', Option.bind_some]; rfl
            · by_cases c5 : f < 0
              · rw [if_pos (by rw [iI_lt (by omega) (by omega) (by omega) (by omega)]; exact c5)]; exact rz.1
              · rw [if_neg (by rw [iI_lt (by omega) (by omega) (by omega) (by omega)]; exact c5), if_pos (by rw [iI_lt (by omega) (by omega) (by omega) (by omega)]; omega)]; exact rz.1
      · refine ⟨iI (-1), ?_, ?_⟩
        · rw [er, Option.bind_some, if_pos rfl, Option.bind_some, xT, Option.bind_some, cl', Option.bind_some]; rfl
        · by_cases c5 : f < 0
          · rw [if_pos (by rw [iI_lt (by omega) (by omega) (by omega) (by omega)]; exact c5)]; exact rz.1
          · rw [if_neg (by rw [iI_lt (by omega) (by omega) (by omega) (by omega)]; exact c5)]
            by_cases c6 : 1 < f
            · rw [if_pos (by rw [iI_lt (by omega) (by omega) (by omega) (by omega)]; exact c6)]; exact rz.1
            · rw [if_neg (by rw [iI_lt (by omega) (by omega) (by omega) (by omega)]; exact c6)]; exact rz.2 hn
    · refine ⟨iI (-1), ?_, ?_⟩
      · rw [if_neg c2, if_pos (by decide), Option.bind_some, xT, Option.bind_some, cl', Option.bind_some]; rfl
      · rw [z0, z1, z2]
        by_cases d1 : v 24 ≤ 0
        · rw [if_pos (by rw [iI_le (by omega) (by omega) (by omega) (by omega)]; exact d1)]; exact rz.1
        · rw [if_neg (by rw [iI_le (by omega) (by omega) (by omega) (by omega)]; exact d1)]
          by_cases d2 : k < 1
          · rw [if_pos (by rw [iI_lt (by omega) (by omega) (by omega) (by omega)]; exact d2)]; exact rz.1
          · rw [if_neg (by rw [iI_lt (by omega) (by omega) (by omega) (by omega)]; exact d2), if_pos (by rw [iI_lt (by omega) (by omega) (by omega) (by omega)]; omega)]; exact rz.1
  · refine ⟨iI (-1), ?_, ?_⟩
    · rw [wn, Option.bind_some, if_neg c1, if_pos (by decide), e5, Option.bind_some, xT, Option.bind_some, cl', Option.bind_some]; rfl
    · rw [z0, z1, z2]
      have rz1 : FM_made_61 (mI (mI s 0 (iI 0)) 24 (iI 0)) (iI n) (iI k) (iI f) (iI (v 24)) xN (iI 0) (iI 0) = some (iI (-1), mI (mI s 0 (iI 0)) 24 (iI 0)) := rz.1
      by_cases d1 : v 24 ≤ 0
      · rw [if_pos (by rw [iI_le (by omega) (by omega) (by omega) (by omega)]; exact d1)]; exact rz1
      · rw [if_neg (by rw [iI_le (by omega) (by omega) (by omega) (by omega)]; exact d1)]
        by_cases d2 : k < 1
        · rw [if_pos (by rw [iI_lt (by omega) (by omega) (by omega) (by omega)]; exact d2)]; exact rz1
        · rw [if_neg (by rw [iI_lt (by omega) (by omega) (by omega) (by omega)]; exact d2)]
          by_cases d3 : v 24 < k
          · rw [if_pos (by rw [iI_lt (by omega) (by omega) (by omega) (by omega)]; exact d3)]; exact rz1
          · rw [if_neg (by rw [iI_lt (by omega) (by omega) (by omega) (by omega)]; exact d3)]
            by_cases d4 : f < 0
            · rw [if_pos (by rw [iI_lt (by omega) (by omega) (by omega) (by omega)]; exact d4)]; exact rz1
            · rw [if_neg (by rw [iI_lt (by omega) (by omega) (by omega) (by omega)]; exact d4)]
              by_cases d5 : 1 < f
              · rw [if_pos (by rw [iI_lt (by omega) (by omega) (by omega) (by omega)]; exact d5)]; exact rz1
              · rw [if_neg (by rw [iI_lt (by omega) (by omega) (by omega) (by omega)]; exact d5)]
                by_cases d6 : n < 0
                · rw [if_pos (by rw [iI_lt (by omega) (by omega) (by omega) (by omega)]; exact d6)]; exact rz1
                · rw [if_neg (by rw [iI_lt (by omega) (by omega) (by omega) (by omega)]; exact d6), if_pos (by rw [iI_lt (by omega) (by omega) (by omega) (by omega)]; omega)]; exact rz1
