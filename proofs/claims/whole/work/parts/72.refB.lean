/-! grace, spans -/
def gf (a : Nat → Int → Int) (p t k : Int) : Int := if a 21 (10 * p + k) ≤ t ∧ t ≤ a 22 (10 * p + k) then 1 else 0
def gl (a : Nat → Int → Int) (p t : Int) : Int := if 0 < pr (gf a p t) (a 20 p) then 1 else 0
def na (v : Nat → Int) (a : Nat → Int → Int) (p t : Int) : Int := if gl a p t = 0 then qa v a (a 16 p) t else 0
def nb (v : Nat → Int) (a : Nat → Int → Int) (p t : Int) : Int := if gl a p t = 0 then qb v a (a 16 p) t else 0
def no (v : Nat → Int) (a : Nat → Int → Int) (p t : Int) : Int := if gl a p t = 0 then qo v a (a 16 p) t else 0
def fi (a : Nat → Int → Int) (p t : Int) : Int := if a 19 p = 0 then max (t - a 17 p + 1) 0 else t / a 17 p * a 17 p
def la (a : Nat → Int → Int) (p t : Int) : Int := if a 19 p = 0 then t else min (t / a 17 p * a 17 p + a 17 p - 1) 600
def SA (v : Nat → Int) (a : Nat → Int → Int) (p t : Int) : Int := pr (na v a p) (la a p t + 1) - pr (na v a p) (fi a p t)
def SB (v : Nat → Int) (a : Nat → Int → Int) (p t : Int) : Int := pr (nb v a p) (la a p t + 1) - pr (nb v a p) (fi a p t)
def SO (v : Nat → Int) (a : Nat → Int → Int) (p t : Int) : Int := pr (no v a p) (la a p t + 1) - pr (no v a p) (fi a p t)
def lf (a : Nat → Int → Int) (p A B : Int) : Int := A * (1000 - a 18 p) / 1000 - B
/-- the last tick of lo .. n - 1 that is not left out, or -1 -/
def Lst (a : Nat → Int → Int) (p lo n l : Int) : Prop := (l = -1 ∧ ∀ t, lo ≤ t → t < n → gl a p t = 1) ∨ (lo ≤ l ∧ l < n ∧ gl a p l = 0 ∧ ∀ t, l < t → t < n → gl a p t = 1)
theorem gl_01 (a : Nat → Int → Int) (p t : Int) : gl a p t = 0 ∨ gl a p t = 1 := by
  unfold gl; split
  · exact Or.inr rfl
  · exact Or.inl rfl
theorem gf_b (a : Nat → Int → Int) (p t k : Int) : 0 ≤ gf a p t k ∧ gf a p t k ≤ 1 := by
  unfold gf; split <;> omega
theorem div_b {t w : Int} (h0 : 0 ≤ t) (hw : 0 < w) : 0 ≤ t / w * w ∧ t / w * w ≤ t ∧ t < t / w * w + w ∧ 0 ≤ t / w ∧ t / w ≤ t := by
  have h1 : 0 ≤ t / w := Int.ediv_nonneg h0 (by omega)
  have h2 := Int.ediv_mul_le t (show w ≠ 0 by omega)
  have h3 := Int.lt_ediv_add_one_mul_self t hw
  have h4 := Int.ediv_le_self w h0
  rw [Int.add_mul, Int.one_mul] at h3
  have h5 := Int.mul_nonneg h1 (show 0 ≤ w by omega)
  omega
section REF2
variable {s : mS} {v : Nat → Int} {a : Nat → Int → Int}
theorem fi_b (I : Iv v a) {p t : Int} (hp0 : 0 ≤ p) (hp : p < v 15) (h0 : 0 ≤ t) (h1 : t ≤ 600) : 0 ≤ fi a p t ∧ fi a p t ≤ t ∧ t ≤ la a p t ∧ la a p t ≤ 600 := by
  obtain ⟨i1, i2, i9, i15, i24, i26, i33, i39, hs, hq, ht, hp', -⟩ := I
  have h2 := hp' p hp0 hp
  have h3 := div_b h0 (show 0 < a 17 p by omega)
  unfold fi la
  split <;> omega
theorem na_b (I : Iv v a) {p t : Int} (h0 : 0 ≤ t) (h1 : t ≤ 600) : 0 ≤ nb v a p t ∧ nb v a p t ≤ na v a p t ∧ na v a p t ≤ 16000 ∧ 0 ≤ no v a p t ∧ no v a p t ≤ 16000 := by
  have h2 := qa_b I (w := a 16 p) h0 h1
  unfold na nb no
  split <;> omega
theorem pn_b (I : Iv v a) {p x y : Int} (hx : 0 ≤ x) (hy : x ≤ y) (h1 : y ≤ 601) : 0 ≤ pr (nb v a p) y - pr (nb v a p) x ∧ pr (nb v a p) y - pr (nb v a p) x ≤ pr (na v a p) y - pr (na v a p) x ∧ pr (na v a p) y - pr (na v a p) x ≤ 9616000 ∧ 0 ≤ pr (no v a p) y - pr (no v a p) x ∧ pr (no v a p) y - pr (no v a p) x ≤ 9616000 := by
  have b1 := pr_ge (f := nb v a p) (c := 0) hx hy (fun j h2 h3 => (na_b I (by omega) (by omega)).1)
  have b2 := pr_mono (f := nb v a p) (g := na v a p) hx hy (fun j h2 h3 => (na_b I (by omega) (by omega)).2.1)
  have b3 := pr_le (f := na v a p) (c := 16000) hx hy (fun j h2 h3 => (na_b I (by omega) (by omega)).2.2.1)
  have b4 := pr_ge (f := no v a p) (c := 0) hx hy (fun j h2 h3 => (na_b I (by omega) (by omega)).2.2.2.1)
  have b5 := pr_le (f := no v a p) (c := 16000) hx hy (fun j h2 h3 => (na_b I (by omega) (by omega)).2.2.2.2)
  omega
theorem SA_b (I : Iv v a) {p t : Int} (hp0 : 0 ≤ p) (hp : p < v 15) (h0 : 0 ≤ t) (h1 : t ≤ 600) : 0 ≤ SB v a p t ∧ SB v a p t ≤ SA v a p t ∧ SA v a p t ≤ 9616000 ∧ 0 ≤ SO v a p t ∧ SO v a p t ≤ 9616000 := by
  have h2 := fi_b I hp0 hp h0 h1
  exact pn_b I (by omega) (by omega) (by omega)
theorem r_isGrace (R : Rl s v a) (I : Iv v a) {p t : Int} (hp0 : 0 ≤ p) (hp : p < v 15) (h0 : 0 ≤ t) (h1 : t ≤ 600) : FM_isGrace s (iI p) (iI t) = some (iI (gl a p t)) := by
  obtain ⟨i1, i2, i9, i15, i24, i26, i33, i39, hs, hq, ht, hp', hg, hr, -⟩ := I
  have hg' := hg p hp0 (by omega)
  unfold FM_isGrace
  simp only [xl, l_10, iI_mul]
  refine up_eq (fun n (q : Int32 × Int32) => FM_isGrace_8 s (iI p) (iI t) n q.1 q.2) (fun i q => 0 ≤ i ∧ q = (iI (if 0 < pr (gf a p t) i then 1 else 0), iI (10 * p + i))) _ (a 20 p) ?_ ?_ xN 0 (0, iI (10 * p)) ⟨by omega, by simp only [pr_0, Int.add_zero]; rfl⟩ (by omega) (by unfold xN; omega)
  · rintro n i q ⟨hi, rfl⟩ hlt
    right
    refine ⟨_, ⟨by omega, rfl⟩, ?_⟩
    have h2 := hr p i hp0 (by omega) hi hlt
    have h3 : 0 ≤ pr (gf a p t) i := by
      have := pr_ge (f := gf a p t) (x := 0) (y := i) (c := 0) (by omega) hi (fun j _ _ => (gf_b a p t j).1)
      simp only [pr_0] at this
      omega
    dsimp only
    simp only [pr_1 _ hi]
    by_cases c : 0 < pr (gf a p t) i
    · have c2 : 0 < pr (gf a p t) i + gf a p t i := by have := gf_b a p t i; omega
      simp (disch := omega) only [FM_isGrace_8, Rl.ld R 20 12 (by decide) rfl, Rl.ld R 21 120 (by decide) rfl, Rl.ld R 22 120 (by decide) rfl, c, c2, l_0, l_1, l_2, l_3, l_4, l_5, l_6, l_7, l_8, l_9, l_10, l_12, l_13, l_14, l_15, l_16, l_20, l_21, l_40, l_60, l_78, l_199, l_200, l_300, l_599, l_600, l_601, l_602, l_1000, l_1638, l_10000, l_65536, l_100000, l_1000000, l_m1, L_0, L_1, L_10, L_20, L_1000, L_10000, iI_add, iI_sub, iI_mul, iI_neg, iI_lt, iI_le, iI_eq, iI_max, iI_min, iI_l, jI_i, jI_add, jI_sub, jI_mul, jI_lt, jI_le, jI_eq, kmp_pos, kmp_neg, kmp_le, kmp_ge, if_pos, if_neg, if_true, if_false, true_or, or_true, Option.bind_some, xl, xg, Int.add_assoc]
    · by_cases c2 : t < a 21 (10 * p + i)
      · have e : gf a p t i = 0 := if_neg (by omega)
        have c3 : ¬ 0 < pr (gf a p t) i + gf a p t i := by omega
        simp (disch := omega) only [FM_isGrace_8, Rl.ld R 20 12 (by decide) rfl, Rl.ld R 21 120 (by decide) rfl, Rl.ld R 22 120 (by decide) rfl, c, c3, l_0, l_1, l_2, l_3, l_4, l_5, l_6, l_7, l_8, l_9, l_10, l_12, l_13, l_14, l_15, l_16, l_20, l_21, l_40, l_60, l_78, l_199, l_200, l_300, l_599, l_600, l_601, l_602, l_1000, l_1638, l_10000, l_65536, l_100000, l_1000000, l_m1, L_0, L_1, L_10, L_20, L_1000, L_10000, iI_add, iI_sub, iI_mul, iI_neg, iI_lt, iI_le, iI_eq, iI_max, iI_min, iI_l, jI_i, jI_add, jI_sub, jI_mul, jI_lt, jI_le, jI_eq, kmp_pos, kmp_neg, kmp_le, kmp_ge, if_pos, if_neg, if_true, if_false, true_or, or_true, Option.bind_some, xl, xg, Int.add_assoc]
      · by_cases c4 : a 22 (10 * p + i) < t
        · have e : gf a p t i = 0 := if_neg (by omega)
          have c3 : ¬ 0 < pr (gf a p t) i + gf a p t i := by omega
          simp (disch := omega) only [FM_isGrace_8, Rl.ld R 20 12 (by decide) rfl, Rl.ld R 21 120 (by decide) rfl, Rl.ld R 22 120 (by decide) rfl, c, c3, l_0, l_1, l_2, l_3, l_4, l_5, l_6, l_7, l_8, l_9, l_10, l_12, l_13, l_14, l_15, l_16, l_20, l_21, l_40, l_60, l_78, l_199, l_200, l_300, l_599, l_600, l_601, l_602, l_1000, l_1638, l_10000, l_65536, l_100000, l_1000000, l_m1, L_0, L_1, L_10, L_20, L_1000, L_10000, iI_add, iI_sub, iI_mul, iI_neg, iI_lt, iI_le, iI_eq, iI_max, iI_min, iI_l, jI_i, jI_add, jI_sub, jI_mul, jI_lt, jI_le, jI_eq, kmp_pos, kmp_neg, kmp_le, kmp_ge, if_pos, if_neg, if_true, if_false, true_or, or_true, Option.bind_some, xl, xg, Int.add_assoc]
        · have e : gf a p t i = 1 := if_pos (by omega)
          have c3 : 0 < pr (gf a p t) i + gf a p t i := by omega
          simp (disch := omega) only [FM_isGrace_8, Rl.ld R 20 12 (by decide) rfl, Rl.ld R 21 120 (by decide) rfl, Rl.ld R 22 120 (by decide) rfl, c, c3, l_0, l_1, l_2, l_3, l_4, l_5, l_6, l_7, l_8, l_9, l_10, l_12, l_13, l_14, l_15, l_16, l_20, l_21, l_40, l_60, l_78, l_199, l_200, l_300, l_599, l_600, l_601, l_602, l_1000, l_1638, l_10000, l_65536, l_100000, l_1000000, l_m1, L_0, L_1, L_10, L_20, L_1000, L_10000, iI_add, iI_sub, iI_mul, iI_neg, iI_lt, iI_le, iI_eq, iI_max, iI_min, iI_l, jI_i, jI_add, jI_sub, jI_mul, jI_lt, jI_le, jI_eq, kmp_pos, kmp_neg, kmp_le, kmp_ge, if_pos, if_neg, if_true, if_false, true_or, or_true, Option.bind_some, xl, xg, Int.add_assoc]
  · rintro n q ⟨hi, rfl⟩
    dsimp only
    have e : iI (if 0 < pr (gf a p t) (a 20 p) then 1 else 0) = 0 ∨ iI (if 0 < pr (gf a p t) (a 20 p) then 1 else 0) = 1 := by
      split
      · exact Or.inr rfl
      · exact Or.inl rfl
    simp (disch := omega) only [FM_isGrace_8, Rl.ld R 20 12 (by decide) rfl, iI_add, iI_mul, l_10, iI_le, if_pos, Option.bind_some, xg]
    rfl
theorem r_spansL (R : Rl s v a) (I : Iv v a) {p lo hi e : Int} (hp0 : 0 ≤ p) (hp : p < v 15) (h0 : 0 ≤ lo) (h1 : lo ≤ e + 1) (h2 : e ≤ 600) (h3 : e = hi ∨ (e = 600 ∧ 600 ≤ hi ∧ hi < 100000)) (w : Int32) : ∃ r, FM_spans_94 (iI p) (iI hi) xN (sL (mI s 23 (-1)) 0 0 0) (iI lo) = some r ∧ ∃ l, r = sL (mI s 23 (iI l)) (pr (na v a p) (e + 1) - pr (na v a p) lo) (pr (nb v a p) (e + 1) - pr (nb v a p) lo) (pr (no v a p) (e + 1) - pr (no v a p) lo) ∧ Lst a p lo (e + 1) l := by
  have hp' := I.2.2.2.2.2.2.2.2.2.2.2.1 p hp0 hp
  have i1 := I.1
  have i15 := I.2.2.2.1
  refine up_loop (fun n (q : mS × Int32) => FM_spans_94 (iI p) (iI hi) n q.1 q.2) (fun i q => lo ≤ i ∧ ∃ l, q = (sL (mI s 23 (iI l)) (pr (na v a p) i - pr (na v a p) lo) (pr (nb v a p) i - pr (nb v a p) lo) (pr (no v a p) i - pr (no v a p) lo), iI i) ∧ Lst a p lo i l) _ (e + 1) ?_ ?_ xN lo (sL (mI s 23 (-1)) 0 0 0, iI lo) ⟨by omega, -1, by simp only [Int.sub_self]; rfl, Or.inl ⟨rfl, fun t _ _ => by omega⟩⟩ (by omega) (by unfold xN; omega)
  · rintro n i q ⟨hi', l, rfl, hl⟩ hlt
    right
    have R' : Rl (sL (mI s 23 (iI l)) (pr (na v a p) i - pr (na v a p) lo) (pr (nb v a p) i - pr (nb v a p) lo) (pr (no v a p) i - pr (no v a p) lo)) v a := (R.m23 _).sL _ _ _
    have eg := r_isGrace R' I hp0 hp (show 0 ≤ i by omega) (show i ≤ 600 by omega)
    rcases gl_01 a p i with g | g
    · refine ⟨_, ⟨by omega, i, rfl, Or.inr ⟨by omega, by omega, g, fun t _ _ => by omega⟩⟩, ?_⟩
      dsimp only
      simp (disch := omega) only [pr_1 _ (show 0 ≤ i by omega), na, nb, no, g]
      rw [g] at eg
      simp (disch := omega) only [FM_spans_94, eg, sL_ld, mld_mI, Rl.ld R 16 12 (by decide) rfl, r_addTick (R.m23 _) I (show 0 ≤ a 16 p by omega) (show a 16 p < 8 by omega) (show 0 ≤ i by omega) (show i ≤ 600 by omega), sL_23, m23_23, l_0, l_1, l_2, l_3, l_4, l_5, l_6, l_7, l_8, l_9, l_10, l_12, l_13, l_14, l_15, l_16, l_20, l_21, l_40, l_60, l_78, l_199, l_200, l_300, l_599, l_600, l_601, l_602, l_1000, l_1638, l_10000, l_65536, l_100000, l_1000000, l_m1, L_0, L_1, L_10, L_20, L_1000, L_10000, iI_add, iI_sub, iI_mul, iI_neg, iI_lt, iI_le, iI_eq, iI_max, iI_min, iI_l, jI_i, jI_add, jI_sub, jI_mul, jI_lt, jI_le, jI_eq, kmp_pos, kmp_neg, kmp_le, kmp_ge, if_pos, if_neg, if_true, if_false, true_or, or_true, Option.bind_some, xl, xg]
      congr 2 <;> omega
    · refine ⟨_, ⟨by omega, l, rfl, ?_⟩, ?_⟩
      · rcases hl with ⟨h4, h5⟩ | ⟨h4, h5, h6, h7⟩
        · exact Or.inl ⟨h4, fun t h8 h9 => if q : t = i then q ▸ g else h5 t h8 (by omega)⟩
        · exact Or.inr ⟨h4, by omega, h6, fun t h8 h9 => if q : t = i then q ▸ g else h7 t h8 (by omega)⟩
      · dsimp only
        have g0 : ¬ gl a p i = 0 := by omega
        simp (disch := omega) only [pr_1 _ (show 0 ≤ i by omega), na, nb, no, g0, if_false, Int.add_zero]
        rw [g] at eg
        simp (disch := omega) only [FM_spans_94, eg, l_0, l_1, l_2, l_3, l_4, l_5, l_6, l_7, l_8, l_9, l_10, l_12, l_13, l_14, l_15, l_16, l_20, l_21, l_40, l_60, l_78, l_199, l_200, l_300, l_599, l_600, l_601, l_602, l_1000, l_1638, l_10000, l_65536, l_100000, l_1000000, l_m1, L_0, L_1, L_10, L_20, L_1000, L_10000, iI_add, iI_sub, iI_mul, iI_neg, iI_lt, iI_le, iI_eq, iI_max, iI_min, iI_l, jI_i, jI_add, jI_sub, jI_mul, jI_lt, jI_le, jI_eq, kmp_pos, kmp_neg, kmp_le, kmp_ge, if_pos, if_neg, if_true, if_false, true_or, or_true, Option.bind_some, xl, xg]
  · rintro n q ⟨hi', l, rfl, hl⟩
    refine ⟨_, ?_, l, rfl, hl⟩
    dsimp only
    by_cases c : hi < e + 1
    · simp (disch := omega) only [FM_spans_94, l_0, l_1, l_2, l_3, l_4, l_5, l_6, l_7, l_8, l_9, l_10, l_12, l_13, l_14, l_15, l_16, l_20, l_21, l_40, l_60, l_78, l_199, l_200, l_300, l_599, l_600, l_601, l_602, l_1000, l_1638, l_10000, l_65536, l_100000, l_1000000, l_m1, L_0, L_1, L_10, L_20, L_1000, L_10000, iI_add, iI_sub, iI_mul, iI_neg, iI_lt, iI_le, iI_eq, iI_max, iI_min, iI_l, jI_i, jI_add, jI_sub, jI_mul, jI_lt, jI_le, jI_eq, kmp_pos, kmp_neg, kmp_le, kmp_ge, if_pos, if_neg, if_true, if_false, true_or, or_true, Option.bind_some, xl, xg]
    · simp (disch := omega) only [FM_spans_94, l_0, l_1, l_2, l_3, l_4, l_5, l_6, l_7, l_8, l_9, l_10, l_12, l_13, l_14, l_15, l_16, l_20, l_21, l_40, l_60, l_78, l_199, l_200, l_300, l_599, l_600, l_601, l_602, l_1000, l_1638, l_10000, l_65536, l_100000, l_1000000, l_m1, L_0, L_1, L_10, L_20, L_1000, L_10000, iI_add, iI_sub, iI_mul, iI_neg, iI_lt, iI_le, iI_eq, iI_max, iI_min, iI_l, jI_i, jI_add, jI_sub, jI_mul, jI_lt, jI_le, jI_eq, kmp_pos, kmp_neg, kmp_le, kmp_ge, if_pos, if_neg, if_true, if_false, true_or, or_true, Option.bind_some, xl, xg]
theorem r_spans (R : Rl s v a) (I : Iv v a) {p t : Int} (hp0 : 0 ≤ p) (hp : p < v 15) (h0 : 0 ≤ t) (h1 : t ≤ 600) : ∃ l, FM_spans s (iI p) (iI t) = some (sL (mI s 23 (iI l)) (SA v a p t) (SB v a p t) (SO v a p t)) ∧ Lst a p (fi a p t) (la a p t + 1) l := by
  have hp' := I.2.2.2.2.2.2.2.2.2.2.2.1 p hp0 hp
  have i15 := I.2.2.2.1
  have hb := fi_b I hp0 hp h0 h1
  have hd := div_b h0 (show 0 < a 17 p by omega)
  unfold SA SB SO
  by_cases c : a 19 p = 0
  · obtain ⟨r, e, l, rfl, hl⟩ := r_spansL R I (lo := fi a p t) (hi := t) (e := t) hp0 hp (by omega) (by omega) (by omega) (Or.inl rfl) 0
    have e2 : la a p t = t := if_pos c
    rw [e2]
    refine ⟨l, ?_, hl⟩
    rw [← e]
    by_cases c2 : 0 ≤ t - a 17 p + 1
    · have e3 : fi a p t = t - a 17 p + 1 := by unfold fi; rw [if_pos c]; omega
      rw [e3]
      simp (disch := omega) only [FM_spans, Rl.ld R 17 12 (by decide) rfl, Rl.ld R 19 12 (by decide) rfl, iI_add, iI_sub, iI_le, iI_eq, l_0, l_1, if_pos, if_neg, if_true, if_false, Option.bind_some, xl, xg]
      rfl
    · have e3 : fi a p t = 0 := by unfold fi; rw [if_pos c]; omega
      rw [e3]
      simp (disch := omega) only [FM_spans, Rl.ld R 17 12 (by decide) rfl, Rl.ld R 19 12 (by decide) rfl, iI_add, iI_sub, iI_le, iI_eq, l_0, l_1, if_pos, if_neg, if_true, if_false, Option.bind_some, xl, xg]
      rfl
  · have e3 : fi a p t = t / a 17 p * a 17 p := if_neg c
    have e4 : la a p t = min (t / a 17 p * a 17 p + a 17 p - 1) 600 := if_neg c
    obtain ⟨r, e, l, rfl, hl⟩ := r_spansL R I (lo := fi a p t) (hi := t / a 17 p * a 17 p + a 17 p - 1) (e := la a p t) hp0 hp (by omega) (by omega) (by omega) (by omega) 0
    refine ⟨l, ?_, hl⟩
    rw [← e, e3]
    simp (disch := omega) only [FM_spans, Rl.ld R 17 12 (by decide) rfl, Rl.ld R 19 12 (by decide) rfl, iI_add, iI_sub, iI_mul, iI_div, iI_le, iI_eq, l_0, l_1, if_pos, if_neg, if_true, if_false, Option.bind_some, xl, xg]
    rfl
end REF2
