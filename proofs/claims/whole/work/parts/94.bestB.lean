/-! the search for the best alarm -/
def pi' (x y : Int) : Int := x * (x - 1) / 2 + y - 1
theorem tri_f : ∀ n : Fin 13, 0 ≤ ((n.val : Int) * ((n.val : Int) - 1)) ∧ ((n.val : Int) * ((n.val : Int) - 1)) ≤ 132 ∧ ((n.val : Int) * ((n.val : Int) - 1)) / 2 + (n.val : Int) ≤ 78 := by decide
theorem tri_m : ∀ n k : Fin 13, n < k → ((n.val : Int) * ((n.val : Int) - 1)) / 2 + (n.val : Int) ≤ ((k.val : Int) * ((k.val : Int) - 1)) / 2 := by decide
theorem tri_b {x : Int} (x0 : 1 ≤ x) (x1 : x ≤ 12) : 0 ≤ x * (x - 1) ∧ x * (x - 1) ≤ 132 ∧ x * (x - 1) / 2 + x ≤ 78 := by
  obtain ⟨n, rfl⟩ := Int.eq_ofNat_of_zero_le (show 0 ≤ x by omega)
  exact tri_f ⟨n, by omega⟩
theorem tri_l {x y : Int} (x0 : 1 ≤ x) (xy : x < y) (y1 : y ≤ 12) : x * (x - 1) / 2 + x ≤ y * (y - 1) / 2 := by
  obtain ⟨n, rfl⟩ := Int.eq_ofNat_of_zero_le (show 0 ≤ x by omega)
  obtain ⟨k, rfl⟩ := Int.eq_ofNat_of_zero_le (show 0 ≤ y by omega)
  exact tri_m ⟨n, by omega⟩ ⟨k, by omega⟩ (show n < k by omega)
theorem pi_b {x y : Int} (y0 : 1 ≤ y) (yx : y ≤ x) (x1 : x ≤ 12) : 0 ≤ pi' x y ∧ pi' x y ≤ 77 := by
  have := tri_b (x := x) (by omega) x1
  unfold pi'
  omega
theorem pi_inj {x y x' y' : Int} (y0 : 1 ≤ y) (yx : y ≤ x) (x1 : x ≤ 12) (y0' : 1 ≤ y') (yx' : y' ≤ x') (x1' : x' ≤ 12) (h : pi' x y = pi' x' y') : x = x' ∧ y = y' := by
  unfold pi' at h
  rcases Int.lt_trichotomy x x' with q | q | q
  · have := tri_l (x := x) (y := x') (by omega) q x1'
    omega
  · subst q; omega
  · have := tri_l (x := x') (y := x) (by omega) q x1
    omega
theorem c_pairOf {x y : Int} (x0 : 1 ≤ x) (x1 : x ≤ 12) : F_X1_pairOf (iI x) (iI y) = some (iI (pi' x y)) := by
  have := tri_b x0 x1
  unfold F_X1_pairOf pi'
  rw [l_1, l_2, iI_sub, iI_mul, iI_div (by omega) (by omega) (by omega) (by omega), iI_add, iI_sub]
theorem c_levelOf {y B : Int} (y0 : 0 ≤ y) (y1 : y ≤ 1000000000) (B0 : 0 ≤ B) (B1 : B ≤ 1000000) : F_X1_levelOf (jI y) (iI B) = some (iI (lv y B)) := by
  unfold F_X1_levelOf lv
  rw [l_0]
  by_cases c : 0 < B
  · rw [if_pos (by rw [iI_lt (by omega) (by omega) (by omega) (by omega)]; exact c), if_pos c]
    by_cases d : 0 < y
    · have h0 : 0 ≤ (1000 * B - 1) / y := Int.ediv_nonneg (by omega) (by omega)
      have h1 : (1000 * B - 1) / y ≤ 1000 * B - 1 := Int.ediv_le_self y (by omega)
      have ne : ¬ jI y = 0 := by rw [L_0, jI_eq (by omega) (by omega) (by omega) (by omega)]; omega
      rw [if_pos (by rw [L_0, kmp_pos, jI_lt (by omega) (by omega) (by omega) (by omega)]; exact d), if_pos d]
      unfold xg
      rw [if_pos ne, iI_l (by omega) (by omega), L_1000, L_1, L_20, jI_mul, jI_sub, jI_div (by omega) (by omega) (by omega) (by omega), jI_minJ (by omega) (by omega) (by omega) (by omega), jI_i (by omega) (by omega)]
    · rw [if_neg (by rw [L_0, kmp_pos, jI_lt (by omega) (by omega) (by omega) (by omega)]; exact d), if_neg d]
      rfl
  · rw [if_neg (by rw [iI_lt (by omega) (by omega) (by omega) (by omega)]; exact c), if_neg c]
def Sx (G : Nat → Nat) (ad : Nat → Nat → Nat) (P0 : xP) (h : xH) (l r c : Int → Int) (x3 x4 : Int) : Prop := ∃ P : xP, Rep G h ad P ∧ (∀ k i, k ≠ 2 → k ≠ 120 → k ≠ 121 → k ≠ 122 → P k i = P0 k i) ∧ P 2 0 = some (.inr (2, [.ref (ad 120 0), .ref (ad 121 0), .ref (ad 122 0), .int (iI x3), .int (iI x4)])) ∧ P 120 0 = some (.inl (G 2, 13, .inl (fun i => iI (l i)))) ∧ P 121 0 = some (.inl (G 2, 78, .inl (fun i => iI (r i)))) ∧ P 122 0 = some (.inl (G 2, 1638, .inl (fun i => iI (c i))))
def fu (f : Int → Int) (z w y : Int) : Int := if y = z then w else f y
theorem fu_s (f : Int → Int) (z w : Int) : fu f z w z = w := if_pos rfl
theorem fu_n (f : Int → Int) {z w y : Int} (h : y ≠ z) : fu f z w y = f y := if_neg h
section SEA
variable {G : Nat → Nat} {h : xH} {ad : Nat → Nat → Nat} {P0 : xP} {l r c : Int → Int} {x3 x4 : Int}
theorem Sx.g0 (S : Sx G ad P0 h l r c x3 x4) : gR h (some (ad 2 0)) 2 0 = some (some (ad 120 0)) ∧ gR h (some (ad 2 0)) 2 1 = some (some (ad 121 0)) ∧ gR h (some (ad 2 0)) 2 2 = some (some (ad 122 0)) ∧ gI h (some (ad 2 0)) 2 3 = some (iI x3) ∧ gI h (some (ad 2 0)) 2 4 = some (iI x4) ∧ xc h (some (ad 2 0)) 2 = some (ad 2 0) := by
  obtain ⟨P, R, q, p2, -⟩ := S
  exact ⟨R.getR p2 (j := 0) rfl, R.getR p2 (j := 1) rfl, R.getR p2 (j := 2) rfl, R.getI p2 (j := 3) rfl, R.getI p2 (j := 4) rfl, R.obj p2⟩
theorem Sx.l0 (S : Sx G ad P0 h l r c x3 x4) {z : Int} (z0 : 0 ≤ z) (z1 : z < 13) : ldI 2 G h (some (ad 120 0)) (iI z) = some (iI (l z)) := by
  obtain ⟨P, R, q, p2, p3, -⟩ := S
  exact R.ai (g := l) p3 (fun _ => rfl) z0 z1 (by decide)
theorem Sx.l1 (S : Sx G ad P0 h l r c x3 x4) {z : Int} (z0 : 0 ≤ z) (z1 : z < 78) : ldI 2 G h (some (ad 121 0)) (iI z) = some (iI (r z)) := by
  obtain ⟨P, R, q, p2, p3, p4, -⟩ := S
  exact R.ai (g := r) p4 (fun _ => rfl) z0 z1 (by decide)
theorem Sx.l2 (S : Sx G ad P0 h l r c x3 x4) {z : Int} (z0 : 0 ≤ z) (z1 : z < 1638) : ldI 2 G h (some (ad 122 0)) (iI z) = some (iI (c z)) := by
  obtain ⟨P, R, q, p2, p3, p4, p5⟩ := S
  exact R.ai (g := c) p5 (fun _ => rfl) z0 z1 (by decide)
theorem Sx.aln2 (S : Sx G ad P0 h l r c x3 x4) (hG : G 1 < G 0) : aln G h (some (ad 122 0)) = some (iI 1638) := by
  obtain ⟨P, R, q, p2, p3, p4, p5⟩ := S
  exact aln_int R hG p5
theorem Sx.s0 (S : Sx G ad P0 h l r c x3 x4) {z : Int} (z0 : 0 ≤ z) (z1 : z < 13) (w : Int) : ∃ h', stI 2 G h (some (ad 120 0)) (iI z) (iI w) = some h' ∧ Sx G ad P0 h' (fu l z w) r c x3 x4 := by
  obtain ⟨P, R, q, p2, p3, p4, p5⟩ := S
  obtain ⟨h', P', e, R', o, q'⟩ := R.si' p3 z0 z1 (by decide) (iI w)
  rw [upd_iI z0] at o
  exact ⟨h', e, P', R', fun k i n1 n2 n3 n4 => (q' k i (by omega)).trans (q k i n1 n2 n3 n4), (q' 2 0 (by omega)).trans p2, o, (q' 121 0 (by omega)).trans p4, (q' 122 0 (by omega)).trans p5⟩
theorem Sx.s1 (S : Sx G ad P0 h l r c x3 x4) {z : Int} (z0 : 0 ≤ z) (z1 : z < 78) (w : Int) : ∃ h', stI 2 G h (some (ad 121 0)) (iI z) (iI w) = some h' ∧ Sx G ad P0 h' l (fu r z w) c x3 x4 := by
  obtain ⟨P, R, q, p2, p3, p4, p5⟩ := S
  obtain ⟨h', P', e, R', o, q'⟩ := R.si' p4 z0 z1 (by decide) (iI w)
  rw [upd_iI z0] at o
  exact ⟨h', e, P', R', fun k i n1 n2 n3 n4 => (q' k i (by omega)).trans (q k i n1 n2 n3 n4), (q' 2 0 (by omega)).trans p2, (q' 120 0 (by omega)).trans p3, o, (q' 122 0 (by omega)).trans p5⟩
theorem Sx.s2 (S : Sx G ad P0 h l r c x3 x4) {z : Int} (z0 : 0 ≤ z) (z1 : z < 1638) (w : Int) : ∃ h', stI 2 G h (some (ad 122 0)) (iI z) (iI w) = some h' ∧ Sx G ad P0 h' l r (fu c z w) x3 x4 := by
  obtain ⟨P, R, q, p2, p3, p4, p5⟩ := S
  obtain ⟨h', P', e, R', o, q'⟩ := R.si' p5 z0 z1 (by decide) (iI w)
  rw [upd_iI z0] at o
  exact ⟨h', e, P', R', fun k i n1 n2 n3 n4 => (q' k i (by omega)).trans (q k i n1 n2 n3 n4), (q' 2 0 (by omega)).trans p2, (q' 120 0 (by omega)).trans p3, (q' 121 0 (by omega)).trans p4, o⟩
theorem Sx.p3 (S : Sx G ad P0 h l r c x3 x4) (w : Int) : ∃ h', xp G h (some (ad 2 0)) 2 3 (.int (iI w)) = some h' ∧ Sx G ad P0 h' l r c w x4 := by
  obtain ⟨P, R, q, p2, p3, p4, p5⟩ := S
  obtain ⟨h', P', e, R', o, q'⟩ := R.sf' p2 (j := 3) (by simp) (.int (iI w))
  exact ⟨h', e, P', R', fun k i n1 n2 n3 n4 => (q' k i (by omega)).trans (q k i n1 n2 n3 n4), o, (q' 120 0 (by omega)).trans p3, (q' 121 0 (by omega)).trans p4, (q' 122 0 (by omega)).trans p5⟩
theorem Sx.p4 (S : Sx G ad P0 h l r c x3 x4) (w : Int) : ∃ h', xp G h (some (ad 2 0)) 2 4 (.int (iI w)) = some h' ∧ Sx G ad P0 h' l r c x3 w := by
  obtain ⟨P, R, q, p2, p3, p4, p5⟩ := S
  obtain ⟨h', P', e, R', o, q'⟩ := R.sf' p2 (j := 4) (by simp) (.int (iI w))
  exact ⟨h', e, P', R', fun k i n1 n2 n3 n4 => (q' k i (by omega)).trans (q k i n1 n2 n3 n4), o, (q' 120 0 (by omega)).trans p3, (q' 121 0 (by omega)).trans p4, (q' 122 0 (by omega)).trans p5⟩
/-- a history: asks and bad ones by tick -/
def Hs (G : Nat → Nat) (ad : Nat → Nat → Nat) (P0 : xP) (b : Nat) (f g : Int → Int) : Prop := (∀ h P, Rep G h ad P → (∀ k i, k ≠ 2 → k ≠ 120 → k ≠ 121 → k ≠ 122 → P k i = P0 k i) → ∀ u, -12 ≤ u → u ≤ 600 → xI h (some b) 7 9 (fun z => F_X7_asksIn G h z (iI u) (iI u)) (fun z => F_X9_asksIn G h z (iI u) (iI u)) = some (iI (f u)) ∧ xI h (some b) 7 9 (fun z => F_X7_badIn G h z (iI u) (iI u)) (fun z => F_X9_badIn G h z (iI u) (iI u)) = some (iI (g u))) ∧ ∀ u, u ≤ 600 → 0 ≤ f u ∧ f u ≤ 16000 ∧ 0 ≤ g u ∧ g u ≤ 16000
def Lf (f g : Int → Int) (sl t x : Int) : Int := lv (sl * pr (fun j => f (t - j)) x) (pr (fun j => g (t - j)) x)
theorem Lf_b (f g : Int → Int) (sl t x : Int) : 0 ≤ Lf f g sl t x ∧ Lf f g sl t x ≤ 20 := lv_b
theorem hs_b {b : Nat} {f g : Int → Int} (H : Hs G ad P0 b f g) {t : Int} (t1 : t ≤ 600) {x : Int} (x0 : 0 ≤ x) (x1 : x ≤ 12) : 0 ≤ pr (fun j => f (t - j)) x ∧ pr (fun j => f (t - j)) x ≤ 192000 ∧ 0 ≤ pr (fun j => g (t - j)) x ∧ pr (fun j => g (t - j)) x ≤ 192000 := by
  have b1 := pr_ge (f := fun j => f (t - j)) (x := 0) (y := x) (c := 0) (by omega) x0 (fun j j0 j1 => (H.2 (t - j) (by omega)).1)
  have b2 := pr_le (f := fun j => f (t - j)) (x := 0) (y := x) (c := 16000) (by omega) x0 (fun j j0 j1 => (H.2 (t - j) (by omega)).2.1)
  have b3 := pr_ge (f := fun j => g (t - j)) (x := 0) (y := x) (c := 0) (by omega) x0 (fun j j0 j1 => (H.2 (t - j) (by omega)).2.2.1)
  have b4 := pr_le (f := fun j => g (t - j)) (x := 0) (y := x) (c := 16000) (by omega) x0 (fun j j0 j1 => (H.2 (t - j) (by omega)).2.2.2)
  simp only [pr_0] at b1 b2 b3 b4
  omega
theorem c_measure (S : Sx G ad P0 h l r c x3 x4) {b : Nat} {f g : Int → Int} (H : Hs G ad P0 b f g) {sl t : Int} (s0 : 0 ≤ sl) (s1 : sl ≤ 1000) (t0 : 0 ≤ t) (t1 : t ≤ 600) : ∃ h' l' z, F_X1_measure G h (ad 2 0) b (iI sl) (iI t) = some (iI z, h') ∧ Sx G ad P0 h' l' r c x3 x4 ∧ (∀ x, 1 ≤ x → x ≤ 12 → l' x = Lf f g sl t x) ∧ (z = 1 ∨ (z = 0 ∧ ∀ x, 1 ≤ x → x ≤ 12 → Lf f g sl t x = 0)) := by
  have := up_loop (fun n (q : xH × Int32 × Int32 × Int32) => F_X1_measure_9 G (ad 2 0) b (iI sl) (iI t) n q.1 q.2.1 q.2.2.1 q.2.2.2) (fun i q => 1 ≤ i ∧ ∃ l', Sx G ad P0 q.1 l' r c x3 x4 ∧ q.2 = (iI (pr (fun j => f (t - j)) (i - 1)), iI (pr (fun j => g (t - j)) (i - 1)), iI i) ∧ ∀ x, 1 ≤ x → x < i → l' x = Lf f g sl t x) (fun q => ∃ z, q.1 = iI z ∧ ∃ l', Sx G ad P0 q.2 l' r c x3 x4 ∧ (∀ x, 1 ≤ x → x ≤ 12 → l' x = Lf f g sl t x) ∧ (z = 1 ∨ (z = 0 ∧ ∀ x, 1 ≤ x → x ≤ 12 → Lf f g sl t x = 0))) 13 ?_ ?_ xN 1 (h, 0, 0, 1) ⟨by omega, l, S, rfl, fun x _ _ => by omega⟩ (by omega) (by unfold xN; omega)
  · obtain ⟨⟨q1, q2⟩, e, z, rfl, l', h1, h2, h3⟩ := this
    exact ⟨q2, l', z, e, h1, h2, h3⟩
  · rintro n i ⟨h1, q⟩ ⟨hi, l', S', hq, hl⟩ hlt
    right
    dsimp only at S' hq
    subst hq
    have hb := hs_b H t1 (x := i - 1) (by omega) (by omega)
    have hb2 := hs_b H t1 (x := i - 1 + 1) (by omega) (by omega)
    rw [pr_1 _ (show 0 ≤ i - 1 by omega), pr_1 _ (show 0 ≤ i - 1 by omega)] at hb2
    have e0 : t - i + 1 = t - (i - 1) := by omega
    have ea : xI h1 (some b) 7 9 (fun z => F_X7_asksIn G h1 z (iI (t - (i - 1))) (iI (t - (i - 1)))) (fun z => F_X9_asksIn G h1 z (iI (t - (i - 1))) (iI (t - (i - 1)))) = some (iI (f (t - (i - 1)))) ∧ xI h1 (some b) 7 9 (fun z => F_X7_badIn G h1 z (iI (t - (i - 1))) (iI (t - (i - 1)))) (fun z => F_X9_badIn G h1 z (iI (t - (i - 1))) (iI (t - (i - 1)))) = some (iI (g (t - (i - 1)))) := by
      obtain ⟨P, R, q, -⟩ := S'
      exact H.1 h1 P R q _ (by omega) (by omega)
    have mb := mul_b s0 s1 hb2.1 hb2.2.1
    have el := c_levelOf (y := sl * (pr (fun j => f (t - j)) (i - 1) + f (t - (i - 1)))) (B := pr (fun j => g (t - j)) (i - 1) + g (t - (i - 1))) mb.1 (by omega) hb2.2.2.1 (by omega)
    obtain ⟨h2, e2, S2⟩ := S'.s0 (z := i) (by omega) (by omega) (lv (sl * (pr (fun j => f (t - j)) (i - 1) + f (t - (i - 1)))) (pr (fun j => g (t - j)) (i - 1) + g (t - (i - 1))))
    have ei : i + 1 - 1 = i - 1 + 1 := by omega
    refine ⟨(h2, _), ⟨by omega, _, S2, rfl, fun x x0 x1 => ?_⟩, ?_⟩
    · by_cases q : x = i
      · subst q
        rw [fu_s]
        unfold Lf
        have : x = x - 1 + 1 := by omega
        conv => rhs; rw [this]
        rw [pr_1 _ (show 0 ≤ x - 1 by omega), pr_1 _ (show 0 ≤ x - 1 by omega)]
      · rw [fu_n _ q]; exact hl x x0 (by omega)
    · dsimp only
      rw [ei, pr_1 _ (show 0 ≤ i - 1 by omega), pr_1 _ (show 0 ≤ i - 1 by omega)]
      conv => lhs; unfold F_X1_measure_9
      rw [if_neg (by rw [l_12, iI_lt (by omega) (by omega) (by omega) (by omega)]; omega), l_1, iI_sub, iI_add, e0]
      unfold xl
      dsimp only
      rw [ea.1, Option.bind_some, ea.2, Option.bind_some, S'.g0.1, Option.bind_some, iI_add, iI_add, iI_l (by omega) (by omega), iI_l (by omega) (by omega), jI_mul, el, Option.bind_some, e2, Option.bind_some, iI_add]
  · rintro n ⟨h1, q⟩ ⟨hi, l', S', hq, hl⟩
    dsimp only at S' hq
    subst hq
    have hb := hs_b H t1 (x := 12) (by omega) (by omega)
    have e13 : (13 : Int) - 1 = 12 := by decide
    by_cases cB : 0 < pr (fun j => g (t - j)) 12
    · refine ⟨(iI 1, h1), ?_, 1, rfl, l', S', fun x x0 x1 => hl x x0 (by omega), Or.inl rfl⟩
      dsimp only
      unfold F_X1_measure_9
      rw [if_pos (by decide), e13, if_neg (by rw [l_0, iI_le (by omega) (by omega) (by omega) (by omega)]; omega)]
      rfl
    · refine ⟨(iI 0, h1), ?_, 0, rfl, l', S', fun x x0 x1 => hl x x0 (by omega), Or.inr ⟨rfl, fun x x0 x1 => ?_⟩⟩
      · dsimp only
        unfold F_X1_measure_9
        rw [if_pos (by decide), e13, if_pos (by rw [l_0, iI_le (by omega) (by omega) (by omega) (by omega)]; omega)]
        rfl
      · have hm := pr_ge (f := fun j => g (t - j)) (x := x) (y := 12) (c := 0) (by omega) x1 (fun j j0 j1 => (H.2 (t - j) (by omega)).2.2.1)
        unfold Lf lv
        exact if_neg (by omega)
end SEA
