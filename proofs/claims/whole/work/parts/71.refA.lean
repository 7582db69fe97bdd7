/-! The reference's record and the numbers that it holds: v by field, a by field and place (41, the choice, and the scratch fields 0 and 23 are left out) -/
def Rl (s : mS) (v : Nat → Int) (a : Nat → Int → Int) : Prop := (∀ k, k ≠ 0 → k ≠ 23 → s.1 k = iI (v k)) ∧ (∀ k, k ≠ 41 → ∀ i : Nat, s.2.2.1 k i = iI (a k i)) ∧ s.2.2.2 31 0 = 0 ∧ s.2.2.2 32 0 = 0
def tv (v : Nat → Int) (k : Nat) (w : Int) : Nat → Int := fun j => if j = k then w else v j
def ta (a : Nat → Int → Int) (k : Nat) (z w : Int) : Nat → Int → Int := fun j y => if j = k ∧ y = z then w else a j y
theorem tv_s (v : Nat → Int) (k : Nat) (w : Int) : tv v k w k = w := if_pos rfl
theorem tv_n (v : Nat → Int) (k : Nat) (w : Int) (j : Nat) (h : j ≠ k) : tv v k w j = v j := if_neg h
theorem ta_s (a : Nat → Int → Int) (k : Nat) (z w : Int) : ta a k z w k z = w := if_pos ⟨rfl, rfl⟩
theorem ta_n (a : Nat → Int → Int) (k : Nat) (z w : Int) (j : Nat) (y : Int) (h : j ≠ k) : ta a k z w j y = a j y := if_neg fun q => h q.1
theorem ta_m (a : Nat → Int → Int) (k : Nat) (z w : Int) (j : Nat) (y : Int) (h : y ≠ z) : ta a k z w j y = a j y := if_neg fun q => h q.2
/-- the three sums of the record -/
def sL (s : mS) (x y z : Int) : mS := mJ (mJ (mJ s 12 (jI x)) 13 (jI y)) 14 (jI z)
section RL
variable {s : mS} {v : Nat → Int} {a : Nat → Int → Int}
theorem Rl.fd (R : Rl s v a) (k : Nat) (h0 : k ≠ 0) (h1 : k ≠ 23) : s.1 k = iI (v k) := R.1 k h0 h1
theorem Rl.ld (R : Rl s v a) (k n : Nat) (hk : k ≠ 41) (hn : mlen k = n) {z : Int} (h0 : 0 ≤ z) (h1 : z < n) : mld s k (iI z) = some (iI (a k z)) := by
  have hl := mlen_lt k
  have e : (iI z).toNatClampNeg = z.toNat := iI_clamp h0 (by omega)
  unfold mld
  rw [e, hn, if_neg, R.2.1 k hk, Int.toNat_of_nonneg h0]
  rintro (h | h)
  · rw [l_0, iI_lt (by omega) (by omega) (by omega) (by omega)] at h; omega
  · omega
theorem Rl.st (R : Rl s v a) (k n : Nat) (hk : k ≠ 41) (hn : mlen k = n) {z w : Int} (h0 : 0 ≤ z) (h1 : z < n) : ∃ s', mst s k (iI z) (iI w) = some s' ∧ Rl s' v (ta a k z w) := by
  have hl := mlen_lt k
  have e : (iI z).toNatClampNeg = z.toNat := iI_clamp h0 (by omega)
  unfold mst
  rw [e, hn, if_neg]
  · refine ⟨_, rfl, R.1, ⟨fun j hj i => ?_, R.2.2⟩⟩
    simp only [mA, ta]
    by_cases q : j = k
    · subst q
      simp only [if_true, upd, true_and]
      by_cases q2 : i = z.toNat
      · rw [if_pos q2, if_pos (by omega)]
      · rw [if_neg q2, if_neg (by omega), R.2.1 j hj]
    · rw [if_neg q, if_neg (fun z => q z.1), R.2.1 j hj]
  · rintro (h | h)
    · rw [l_0, iI_lt (by omega) (by omega) (by omega) (by omega)] at h; omega
    · omega
theorem Rl.mI (R : Rl s v a) (k : Nat) (w : Int) : Rl (mI s k (iI w)) (tv v k w) a := by
  refine ⟨fun j h0 h1 => ?_, R.2⟩
  simp only [Jvm.Pilot.CShareKeeperLaw_law_r6658_4d3c0c.mI, tv]
  by_cases q : j = k
  · rw [if_pos q, if_pos q]
  · rw [if_neg q, if_neg q, R.1 j h0 h1]
theorem Rl.m0 (R : Rl s v a) (x : Int32) : Rl (Jvm.Pilot.CShareKeeperLaw_law_r6658_4d3c0c.mI s 0 x) v a := by
  refine ⟨fun j h0 h1 => ?_, R.2⟩
  simp only [Jvm.Pilot.CShareKeeperLaw_law_r6658_4d3c0c.mI, if_neg h0, R.1 j h0 h1]
theorem Rl.m23 (R : Rl s v a) (x : Int32) : Rl (Jvm.Pilot.CShareKeeperLaw_law_r6658_4d3c0c.mI s 23 x) v a := by
  refine ⟨fun j h0 h1 => ?_, R.2⟩
  simp only [Jvm.Pilot.CShareKeeperLaw_law_r6658_4d3c0c.mI, if_neg h1, R.1 j h0 h1]
theorem Rl.sL (R : Rl s v a) (x y z : Int) : Rl (Jvm.Pilot.CShareKeeperLaw_law_r6658_4d3c0c.sL s x y z) v a := ⟨R.1, R.2⟩
theorem mI_s (s : mS) (k : Nat) (x : Int32) : (mI s k x).1 k = x := if_pos rfl
theorem mI_n (s : mS) (k : Nat) (x : Int32) (j : Nat) (h : j ≠ k) : (mI s k x).1 j = s.1 j := if_neg h
theorem mI_r (s : mS) (k : Nat) (x : Int32) : (mI s k x).2 = s.2 := rfl
theorem mld_mI (s : mS) (k : Nat) (x : Int32) (j : Nat) (y : Int32) : mld (mI s k x) j y = mld s j y := rfl
theorem sL_1 (s : mS) (x y z : Int) : (sL s x y z).1 = s.1 := rfl
theorem sL_ld (s : mS) (x y z : Int) (k : Nat) (i : Int32) : mld (sL s x y z) k i = mld s k i := rfl
theorem sL_12 (s : mS) (x y z : Int) : (sL s x y z).2.1 12 = jI x := rfl
theorem sL_13 (s : mS) (x y z : Int) : (sL s x y z).2.1 13 = jI y := rfl
theorem sL_14 (s : mS) (x y z : Int) : (sL s x y z).2.1 14 = jI z := rfl
theorem sL_s12 (s : mS) (x y z w : Int) : mJ (sL s x y z) 12 (jI w) = sL s w y z := by
  unfold sL mJ
  refine Prod.ext rfl (Prod.ext (funext fun j => ?_) rfl)
  dsimp only
  by_cases h : j = 12
  · subst h; rfl
  · rw [if_neg h, if_neg h]
    by_cases h2 : j = 14 <;> by_cases h3 : j = 13 <;> simp [h, h2, h3]
theorem sL_s13 (s : mS) (x y z w : Int) : mJ (sL s x y z) 13 (jI w) = sL s x w z := by
  unfold sL mJ
  refine Prod.ext rfl (Prod.ext (funext fun j => ?_) rfl)
  dsimp only
  by_cases h : j = 12 <;> by_cases h2 : j = 14 <;> by_cases h3 : j = 13 <;> simp [h, h2, h3] <;> omega
theorem sL_s14 (s : mS) (x y z w : Int) : mJ (sL s x y z) 14 (jI w) = sL s x y w := by
  unfold sL mJ
  refine Prod.ext rfl (Prod.ext (funext fun j => ?_) rfl)
  dsimp only
  by_cases h : j = 12 <;> by_cases h2 : j = 14 <;> by_cases h3 : j = 13 <;> simp [h, h2, h3] <;> omega
theorem sL_23 (s : mS) (x y z : Int) (w : Int32) : mI (sL s x y z) 23 w = sL (mI s 23 w) x y z := rfl
theorem m23_23 (s : mS) (w w' : Int32) : mI (mI s 23 w) 23 w' = mI s 23 w' := by
  refine Prod.ext (funext fun j => ?_) rfl
  simp only [mI]
  by_cases h : j = 23 <;> simp [h]
theorem sL_0 (s : mS) : mJ (mJ (mJ s 12 0) 13 0) 14 0 = sL s 0 0 0 := rfl
end RL
/-- what the numbers keep to -/
def Iv (v : Nat → Int) (a : Nat → Int → Int) : Prop :=
  (0 ≤ v 1 ∧ v 1 ≤ 8) ∧ (0 ≤ v 2 ∧ v 2 ≤ 16) ∧ (0 ≤ v 9 ∧ v 9 ≤ 600) ∧ (0 ≤ v 15 ∧ v 15 ≤ 12) ∧ (0 ≤ v 24 ∧ v 24 ≤ 10) ∧ (0 ≤ v 26 ∧ v 26 ≤ 8) ∧ (0 ≤ v 33 ∧ v 33 ≤ 40) ∧ (0 ≤ v 39 ∧ v 39 ≤ 14) ∧
  (∀ s, 0 ≤ s → s < v 2 → 0 ≤ a 3 s ∧ a 3 s < v 1 ∧ 0 ≤ a 4 s ∧ a 4 s ≤ 60 ∧ 1 ≤ a 5 s ∧ a 5 s ≤ 1000) ∧
  (∀ s t, 0 ≤ s → s < 16 → 0 ≤ t → t < 601 → 0 ≤ a 7 (601 * s + t) ∧ a 7 (601 * s + t) ≤ a 6 (601 * s + t) ∧ a 6 (601 * s + t) ≤ 1000 ∧ (s < v 2 → a 6 (601 * s + t) ≤ a 5 s) ∧ (v 2 ≤ s → a 6 (601 * s + t) = 0)) ∧
  (∀ s n, 0 ≤ s → s < 16 → 0 ≤ n → n < 200 → (a 8 (200 * s + n) = 0 ∨ a 8 (200 * s + n) = 1) ∧ (v 2 ≤ s → a 8 (200 * s + n) = 0)) ∧
  (∀ p, 0 ≤ p → p < v 15 → 0 ≤ a 16 p ∧ a 16 p < v 1 ∧ 1 ≤ a 17 p ∧ a 17 p ≤ 200 ∧ 0 ≤ a 18 p ∧ a 18 p ≤ 1000 ∧ (a 19 p = 0 ∨ a 19 p = 1)) ∧
  (∀ p, 0 ≤ p → p < 12 → 0 ≤ a 20 p ∧ a 20 p ≤ 10 ∧ (v 15 ≤ p → a 20 p = 0)) ∧
  (∀ p k, 0 ≤ p → p < 12 → 0 ≤ k → k < a 20 p → 0 ≤ a 21 (10 * p + k) ∧ a 21 (10 * p + k) ≤ a 22 (10 * p + k) ∧ a 22 (10 * p + k) ≤ 600) ∧
  (∀ i, 0 ≤ i → i < v 24 → 0 ≤ a 25 i ∧ a 25 i ≤ 100000) ∧
  (∀ i, 0 ≤ i → i < v 26 → 0 ≤ a 27 i ∧ a 27 i < v 15 ∧ 1 ≤ a 28 i ∧ a 28 i ≤ 200 ∧ 1 ≤ a 29 i ∧ a 29 i ≤ a 28 i ∧ 1 ≤ a 30 i ∧ a 30 i ≤ 1000) ∧
  (∀ c, 0 ≤ c → c < v 33 → 0 ≤ a 34 c ∧ a 34 c < v 15 ∧ 0 ≤ a 35 c ∧ a 35 c ≤ 100000 ∧ 0 ≤ a 36 c ∧ a 36 c ≤ 1000 ∧ 0 ≤ a 37 c ∧ a 37 c ≤ 2) ∧
  (∀ c, v 33 ≤ c → c < 40 → a 37 c = 0 ∧ a 38 c = 0)
/-- asks, bad ones, asks to come: of a service at a tick -/
def fa (a : Nat → Int → Int) (w t s : Int) : Int := if a 3 s = w then a 6 (601 * s + t) else 0
def fb (a : Nat → Int → Int) (w t s : Int) : Int := if a 3 s = w then a 7 (601 * s + t) else 0
def fo (v : Nat → Int) (a : Nat → Int → Int) (w t s : Int) : Int := if a 3 s = w then (if t < v 9 - a 4 s then 0 else a 5 s - a 6 (601 * s + t)) else 0
def qa (v : Nat → Int) (a : Nat → Int → Int) (w t : Int) : Int := pr (fa a w t) (v 2)
def qb (v : Nat → Int) (a : Nat → Int → Int) (w t : Int) : Int := pr (fb a w t) (v 2)
def qo (v : Nat → Int) (a : Nat → Int → Int) (w t : Int) : Int := pr (fo v a w t) (v 2)
section REF
variable {s : mS} {v : Nat → Int} {a : Nat → Int → Int}
theorem qa_b (I : Iv v a) {w t : Int} (h0 : 0 ≤ t) (h1 : t ≤ 600) : 0 ≤ qb v a w t ∧ qb v a w t ≤ qa v a w t ∧ qa v a w t ≤ 16000 ∧ 0 ≤ qo v a w t ∧ qo v a w t ≤ 16000 := by
  obtain ⟨i1, i2, i9, i15, i24, i26, i33, i39, hs, hq, -⟩ := I
  have b1 := pr_ge (f := fb a w t) (x := 0) (y := v 2) (c := 0) (by omega) (by omega) (fun j h2 h3 => by
    have := hq j t h2 (by omega) h0 (by omega)
    unfold fb; split <;> omega)
  have b2 := pr_mono (f := fb a w t) (g := fa a w t) (x := 0) (y := v 2) (by omega) (by omega) (fun j h2 h3 => by
    have := hq j t h2 (by omega) h0 (by omega)
    unfold fb fa; split <;> omega)
  have b3 := pr_le (f := fa a w t) (x := 0) (y := v 2) (c := 1000) (by omega) (by omega) (fun j h2 h3 => by
    have := hq j t h2 (by omega) h0 (by omega)
    unfold fa; split <;> omega)
  have b4 := pr_ge (f := fo v a w t) (x := 0) (y := v 2) (c := 0) (by omega) (by omega) (fun j h2 h3 => by
    have := hq j t h2 (by omega) h0 (by omega)
    unfold fo; split <;> try split
    all_goals omega)
  have b5 := pr_le (f := fo v a w t) (x := 0) (y := v 2) (c := 1000) (by omega) (by omega) (fun j h2 h3 => by
    have := hq j t h2 (by omega) h0 (by omega)
    have := hs j h2 h3
    unfold fo; split <;> try split
    all_goals omega)
  simp only [pr_0] at b1 b2 b3 b4 b5
  unfold qa qb qo
  omega
theorem r_addTick (R : Rl s v a) (I : Iv v a) {w t : Int} (hw0 : 0 ≤ w) (hw : w < 8) (h0 : 0 ≤ t) (h1 : t ≤ 600) (x y z : Int) : FM_addTick (sL s x y z) (iI w) (iI t) = some (sL s (x + qa v a w t) (y + qb v a w t) (z + qo v a w t)) := by
  obtain ⟨i1, i2, i9, i15, i24, i26, i33, i39, hs, hq, -⟩ := I
  unfold FM_addTick
  refine up_eq (fun n (p : mS × Int32) => FM_addTick_2 (iI w) (iI t) n p.1 p.2) (fun i p => 0 ≤ i ∧ p = (sL s (x + pr (fa a w t) i) (y + pr (fb a w t) i) (z + pr (fo v a w t) i), iI i)) _ (v 2) ?_ ?_ xN 0 (sL s x y z, 0) ⟨by omega, by simp only [pr_0, Int.add_zero]; rfl⟩ (by omega) (by unfold xN; omega)
  · rintro n i p ⟨hi, rfl⟩ hlt
    right
    refine ⟨_, ⟨by omega, rfl⟩, ?_⟩
    have hq' := hq i t hi (by omega) h0 (by omega)
    have hs' := hs i hi hlt
    dsimp only
    simp only [pr_1 _ hi]
    by_cases c : a 3 i = w
    · by_cases c2 : t < v 9 - a 4 i
      · simp (disch := omega) only [FM_addTick_2, sL_1, sL_ld, Rl.fd R 2 (by decide) (by decide), Rl.fd R 9 (by decide) (by decide), Rl.ld R 3 16 (by decide) rfl, Rl.ld R 4 16 (by decide) rfl, Rl.ld R 5 16 (by decide) rfl, Rl.ld R 6 9616 (by decide) rfl, Rl.ld R 7 9616 (by decide) rfl, sL_12, sL_13, sL_14, sL_s12, sL_s13, sL_s14, fa, fb, fo, l_0, l_1, l_2, l_3, l_4, l_5, l_6, l_7, l_8, l_9, l_10, l_12, l_13, l_14, l_15, l_16, l_20, l_21, l_40, l_60, l_78, l_199, l_200, l_300, l_599, l_600, l_601, l_602, l_1000, l_1638, l_10000, l_65536, l_100000, l_1000000, l_m1, L_0, L_1, L_10, L_20, L_1000, L_10000, iI_add, iI_sub, iI_mul, iI_neg, iI_lt, iI_le, iI_eq, iI_max, iI_min, iI_l, jI_i, jI_add, jI_sub, jI_mul, jI_lt, jI_le, jI_eq, kmp_pos, kmp_neg, kmp_le, kmp_ge, if_pos, if_neg, if_true, if_false, true_or, or_true, Option.bind_some, xl, xg, Int.add_zero, Int.add_assoc]
      · simp (disch := omega) only [FM_addTick_2, sL_1, sL_ld, Rl.fd R 2 (by decide) (by decide), Rl.fd R 9 (by decide) (by decide), Rl.ld R 3 16 (by decide) rfl, Rl.ld R 4 16 (by decide) rfl, Rl.ld R 5 16 (by decide) rfl, Rl.ld R 6 9616 (by decide) rfl, Rl.ld R 7 9616 (by decide) rfl, sL_12, sL_13, sL_14, sL_s12, sL_s13, sL_s14, fa, fb, fo, l_0, l_1, l_2, l_3, l_4, l_5, l_6, l_7, l_8, l_9, l_10, l_12, l_13, l_14, l_15, l_16, l_20, l_21, l_40, l_60, l_78, l_199, l_200, l_300, l_599, l_600, l_601, l_602, l_1000, l_1638, l_10000, l_65536, l_100000, l_1000000, l_m1, L_0, L_1, L_10, L_20, L_1000, L_10000, iI_add, iI_sub, iI_mul, iI_neg, iI_lt, iI_le, iI_eq, iI_max, iI_min, iI_l, jI_i, jI_add, jI_sub, jI_mul, jI_lt, jI_le, jI_eq, kmp_pos, kmp_neg, kmp_le, kmp_ge, if_pos, if_neg, if_true, if_false, true_or, or_true, Option.bind_some, xl, xg, Int.add_zero, Int.add_assoc]
    · simp (disch := omega) only [FM_addTick_2, sL_1, sL_ld, Rl.fd R 2 (by decide) (by decide), Rl.fd R 9 (by decide) (by decide), Rl.ld R 3 16 (by decide) rfl, Rl.ld R 4 16 (by decide) rfl, Rl.ld R 5 16 (by decide) rfl, Rl.ld R 6 9616 (by decide) rfl, Rl.ld R 7 9616 (by decide) rfl, fa, fb, fo, l_0, l_1, l_2, l_3, l_4, l_5, l_6, l_7, l_8, l_9, l_10, l_12, l_13, l_14, l_15, l_16, l_20, l_21, l_40, l_60, l_78, l_199, l_200, l_300, l_599, l_600, l_601, l_602, l_1000, l_1638, l_10000, l_65536, l_100000, l_1000000, l_m1, L_0, L_1, L_10, L_20, L_1000, L_10000, iI_add, iI_sub, iI_mul, iI_neg, iI_lt, iI_le, iI_eq, iI_max, iI_min, iI_l, jI_i, jI_add, jI_sub, jI_mul, jI_lt, jI_le, jI_eq, kmp_pos, kmp_neg, kmp_le, kmp_ge, if_pos, if_neg, if_true, if_false, true_or, or_true, Option.bind_some, xl, xg, Int.add_zero]
  · rintro n p ⟨hi, rfl⟩
    dsimp only
    simp (disch := omega) only [FM_addTick_2, sL_1, Rl.fd R 2 (by decide) (by decide), l_0, l_1, l_2, l_3, l_4, l_5, l_6, l_7, l_8, l_9, l_10, l_12, l_13, l_14, l_15, l_16, l_20, l_21, l_40, l_60, l_78, l_199, l_200, l_300, l_599, l_600, l_601, l_602, l_1000, l_1638, l_10000, l_65536, l_100000, l_1000000, l_m1, L_0, L_1, L_10, L_20, L_1000, L_10000, iI_add, iI_sub, iI_mul, iI_neg, iI_lt, iI_le, iI_eq, iI_max, iI_min, iI_l, jI_i, jI_add, jI_sub, jI_mul, jI_lt, jI_le, jI_eq, kmp_pos, kmp_neg, kmp_le, kmp_ge, if_pos, if_neg, if_true, if_false, true_or, or_true, Option.bind_some, xl, xg, qa, qb, qo]
theorem r_sums (R : Rl s v a) (I : Iv v a) {w lo hi : Int} (hw0 : 0 ≤ w) (hw : w < 8) (h0 : -1000 ≤ lo) (h2 : lo ≤ hi + 1) (h3 : -1 ≤ hi) (h1 : hi ≤ 600) : FM_sums s (iI w) (iI lo) (iI hi) = some (sL s (pr (qa v a w) (hi + 1) - pr (qa v a w) (max lo 0)) (pr (qb v a w) (hi + 1) - pr (qb v a w) (max lo 0)) (pr (qo v a w) (hi + 1) - pr (qo v a w) (max lo 0))) := by
  have key : ∀ lo, 0 ≤ lo → lo ≤ hi + 1 → FM_sums_26 (iI w) (iI hi) xN (sL s 0 0 0) (iI lo) = some (sL s (pr (qa v a w) (hi + 1) - pr (qa v a w) lo) (pr (qb v a w) (hi + 1) - pr (qb v a w) lo) (pr (qo v a w) (hi + 1) - pr (qo v a w) lo)) := by
    intro lo hl0 hl1
    refine up_eq (fun n (p : mS × Int32) => FM_sums_26 (iI w) (iI hi) n p.1 p.2) (fun i p => lo ≤ i ∧ p = (sL s (pr (qa v a w) i - pr (qa v a w) lo) (pr (qb v a w) i - pr (qb v a w) lo) (pr (qo v a w) i - pr (qo v a w) lo), iI i)) _ (hi + 1) ?_ ?_ xN lo (sL s 0 0 0, iI lo) ⟨by omega, by simp only [Int.sub_self]⟩ (by omega) (by unfold xN; omega)
    · rintro n i p ⟨hi, rfl⟩ hlt
      right
      refine ⟨_, ⟨by omega, rfl⟩, ?_⟩
      dsimp only
      simp (disch := omega) only [FM_sums_26, pr_1 _ (show 0 ≤ i by omega), r_addTick R I hw0 hw (show 0 ≤ i by omega) (show i ≤ 600 by omega), l_0, l_1, l_2, l_3, l_4, l_5, l_6, l_7, l_8, l_9, l_10, l_12, l_13, l_14, l_15, l_16, l_20, l_21, l_40, l_60, l_78, l_199, l_200, l_300, l_599, l_600, l_601, l_602, l_1000, l_1638, l_10000, l_65536, l_100000, l_1000000, l_m1, L_0, L_1, L_10, L_20, L_1000, L_10000, iI_add, iI_sub, iI_mul, iI_neg, iI_lt, iI_le, iI_eq, iI_max, iI_min, iI_l, jI_i, jI_add, jI_sub, jI_mul, jI_lt, jI_le, jI_eq, kmp_pos, kmp_neg, kmp_le, kmp_ge, if_pos, if_neg, if_true, if_false, true_or, or_true, Option.bind_some, xl, xg]
      congr 2 <;> omega
    · rintro n p ⟨hi, rfl⟩
      dsimp only
      simp (disch := omega) only [FM_sums_26, l_0, l_1, l_2, l_3, l_4, l_5, l_6, l_7, l_8, l_9, l_10, l_12, l_13, l_14, l_15, l_16, l_20, l_21, l_40, l_60, l_78, l_199, l_200, l_300, l_599, l_600, l_601, l_602, l_1000, l_1638, l_10000, l_65536, l_100000, l_1000000, l_m1, L_0, L_1, L_10, L_20, L_1000, L_10000, iI_add, iI_sub, iI_mul, iI_neg, iI_lt, iI_le, iI_eq, iI_max, iI_min, iI_l, jI_i, jI_add, jI_sub, jI_mul, jI_lt, jI_le, jI_eq, kmp_pos, kmp_neg, kmp_le, kmp_ge, if_pos, if_neg, if_true, if_false, true_or, or_true, Option.bind_some, xl, xg]
  unfold FM_sums
  simp only [xl, sL_0]
  by_cases c : 0 ≤ lo
  · rw [l_0, if_pos ((iI_le (by omega) (by omega) (by omega) (by omega)).mpr c), key lo c h2, Int.max_eq_left c]
  · rw [l_0, if_neg (fun q => c ((iI_le (by omega) (by omega) (by omega) (by omega)).mp q)), key 0 (by omega) (by omega), Int.max_eq_right (by omega)]
end REF
