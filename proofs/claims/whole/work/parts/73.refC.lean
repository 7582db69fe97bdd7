/-! left, whole, settled, broken, room: the reference -/
theorem lf_mul {A sh : Int} (hA : 0 ≤ A) (h0 : 0 ≤ sh) (h1 : sh ≤ 1000) : 0 ≤ A * (1000 - sh) ∧ A * (1000 - sh) ≤ A * 1000 := ⟨Int.mul_nonneg hA (by omega), Int.mul_le_mul_of_nonneg_left (by omega) hA⟩
theorem lf_b {a : Nat → Int → Int} {p A B : Int} (hA : 0 ≤ A) (h0 : 0 ≤ a 18 p) (h1 : a 18 p ≤ 1000) : -B ≤ lf a p A B ∧ lf a p A B ≤ A - B ∧ (0 ≤ lf a p A B ↔ B * 1000 ≤ A * (1000 - a 18 p)) := by
  have h2 := lf_mul hA h0 h1
  unfold lf
  generalize A * (1000 - a 18 p) = X at *
  omega
/-- when a span is settled, by its last tick -/
def Stl (v : Nat → Int) (a : Nat → Int → Int) (w l n z : Int) : Prop := 0 ≤ z ∧ z ≤ 700 ∧ (l < 0 → z = 0) ∧ (0 ≤ l → (∀ s, 0 ≤ s → s < n → a 3 s = w → l + a 4 s + 1 ≤ z) ∧ ((z = 0 ∧ ∀ s, 0 ≤ s → s < n → a 3 s ≠ w) ∨ ∃ s, 0 ≤ s ∧ s < n ∧ a 3 s = w ∧ z = l + a 4 s + 1))
def whl (v : Nat → Int) (a : Nat → Int → Int) (p t : Int) : Prop := SB v a p t * 1000 ≤ SA v a p t * (1000 - a 18 p)
def spz (v : Nat → Int) (a : Nat → Int → Int) (p t k z : Int) : Int := if k = 0 then lf a p (SA v a p t) (SB v a p t) else if k = 1 then lf a p (SA v a p t + SO v a p t) (SB v a p t + SO v a p t) else if k = 2 then lf a p (SA v a p t + SO v a p t) (SB v a p t) else if k = 3 then (if SB v a p t * 1000 ≤ SA v a p t * (1000 - a 18 p) then 1 else 0) else if k = 4 then (if 0 ≤ lf a p (SA v a p t + SO v a p t) (SB v a p t + SO v a p t) then 1 else if lf a p (SA v a p t + SO v a p t) (SB v a p t) < 0 then 2 else 0) else if k = 5 then z else if k = 6 then SA v a p t else SB v a p t
def Brk (v : Nat → Int) (a : Nat → Int → Int) (p from' z : Int) : Prop := (z = -1 ∧ ∀ t, from' ≤ t → t ≤ 600 → whl v a p t) ∨ (from' ≤ z ∧ z ≤ 600 ∧ ¬ whl v a p z ∧ ∀ t, from' ≤ t → t < z → whl v a p t)
def fr (a : Nat → Int → Int) (p c : Int) : Int := if a 34 c = p ∧ a 37 c = 1 then a 35 c else 0
def rm (v : Nat → Int) (a : Nat → Int → Int) (p : Int) : Int := lf a p (SA v a p (v 9) + SO v a p (v 9)) (SB v a p (v 9) + SO v a p (v 9)) - pr (fr a p) (v 33)
theorem Brk.uniq {v : Nat → Int} {a : Nat → Int → Int} {p f z z' : Int} (h : Brk v a p f z) (h' : Brk v a p f z') (hf : 0 ≤ f) : z = z' := by
  rcases h with ⟨h1, h2⟩ | ⟨h1, h2, h3, h4⟩ <;> rcases h' with ⟨g1, g2⟩ | ⟨g1, g2, g3, g4⟩
  · omega
  · exact absurd (h2 z' g1 g2) g3
  · exact absurd (g2 z h1 h2) h3
  · rcases Int.lt_trichotomy z z' with q | q | q
    · exact absurd (g4 z h1 q) h3
    · exact q
    · exact absurd (h4 z' g1 q) g3
theorem Stl.uniq {v : Nat → Int} {a : Nat → Int → Int} {w l n z z' : Int} (h : Stl v a w l n z) (h' : Stl v a w l n z') : z = z' := by
  obtain ⟨h1, h2, h3, h4⟩ := h
  obtain ⟨g1, g2, g3, g4⟩ := h'
  by_cases q : l < 0
  · rw [h3 q, g3 q]
  · obtain ⟨h5, h6⟩ := h4 (by omega)
    obtain ⟨g5, g6⟩ := g4 (by omega)
    rcases h6 with ⟨h6, h7⟩ | ⟨s, s0, s1, s2, s3⟩ <;> rcases g6 with ⟨g6, g7⟩ | ⟨r, r0, r1, r2, r3⟩
    · omega
    · exact absurd r2 (h7 r r0 r1)
    · exact absurd s2 (g7 s s0 s1)
    · have := h5 r r0 r1 r2
      have := g5 s s0 s1 s2
      omega
theorem Lst.uniq {a : Nat → Int → Int} {p lo n l l' : Int} (h : Lst a p lo n l) (h' : Lst a p lo n l') : l = l' := by
  rcases h with ⟨h1, h2⟩ | ⟨h1, h2, h3, h4⟩ <;> rcases h' with ⟨g1, g2⟩ | ⟨g1, g2, g3, g4⟩
  · omega
  · have := h2 l' g1 g2; omega
  · have := g2 l h1 h2; omega
  · rcases Int.lt_trichotomy l l' with q | q | q
    · have := h4 l' q g2; omega
    · exact q
    · have := g4 l q h2; omega
section REF3
variable {s : mS} {v : Nat → Int} {a : Nat → Int → Int}
theorem r_leftOf (R : Rl s v a) (I : Iv v a) {p A B : Int} (hp0 : 0 ≤ p) (hp : p < v 15) (hA : 0 ≤ A) (hA1 : A ≤ 100000000) (hB : 0 ≤ B) (hB1 : B ≤ 100000000) : FM_leftOf s (iI p) (jI A) (jI B) = some (jI (lf a p A B)) := by
  have hp' := I.2.2.2.2.2.2.2.2.2.2.2.1 p hp0 hp
  have i15 := I.2.2.2.1
  have h2 := lf_mul hA hp'.2.2.2.2.1 hp'.2.2.2.2.2.1
  simp (disch := omega) only [FM_leftOf, Rl.ld R 18 12 (by decide) rfl, l_0, l_1, l_2, l_3, l_4, l_5, l_6, l_7, l_8, l_9, l_10, l_12, l_13, l_14, l_15, l_16, l_20, l_21, l_40, l_60, l_78, l_199, l_200, l_300, l_599, l_600, l_601, l_602, l_1000, l_1638, l_10000, l_65536, l_100000, l_1000000, l_m1, L_0, L_1, L_10, L_20, L_1000, L_10000, iI_add, iI_sub, iI_mul, iI_neg, iI_lt, iI_le, iI_eq, iI_max, iI_min, iI_l, jI_i, jI_add, jI_sub, jI_mul, jI_lt, jI_le, jI_eq, kmp_pos, kmp_neg, kmp_le, kmp_ge, if_pos, if_neg, if_true, if_false, true_or, or_true, Option.bind_some, xl, xg]
  rw [jI_div (by omega) (by omega) (by omega) (by omega), jI_sub]
  rfl
theorem r_settledAt (R : Rl s v a) (I : Iv v a) {p l : Int} (hp0 : 0 ≤ p) (hp : p < v 15) (hl : s.1 23 = iI l) (hl0 : -1 ≤ l) (hl1 : l ≤ 600) : ∃ z, FM_settledAt s (iI p) = some (iI z) ∧ Stl v a (a 16 p) l (v 2) z := by
  obtain ⟨i1, i2, i9, i15, i24, i26, i33, i39, hs, hq, ht, hp', -⟩ := I
  have hp'' := hp' p hp0 hp
  unfold FM_settledAt
  by_cases c : l < 0
  · refine ⟨0, ?_, by omega, by omega, fun _ => rfl, fun q => by omega⟩
    have key : ∀ n, FM_settledAt_4 s (iI p) (n + 1) 0 0 = some (iI 0) := by
      intro n
      by_cases c2 : v 2 ≤ 0
      · simp (disch := omega) only [FM_settledAt_4, Rl.fd R 2 (by decide) (by decide), hl, l_0, l_1, l_2, l_3, l_4, l_5, l_6, l_7, l_8, l_9, l_10, l_12, l_13, l_14, l_15, l_16, l_20, l_21, l_40, l_60, l_78, l_199, l_200, l_300, l_599, l_600, l_601, l_602, l_1000, l_1638, l_10000, l_65536, l_100000, l_1000000, l_m1, L_0, L_1, L_10, L_20, L_1000, L_10000, iI_add, iI_sub, iI_mul, iI_neg, iI_lt, iI_le, iI_eq, iI_max, iI_min, iI_l, jI_i, jI_add, jI_sub, jI_mul, jI_lt, jI_le, jI_eq, kmp_pos, kmp_neg, kmp_le, kmp_ge, if_pos, if_neg, if_true, if_false, true_or, or_true, Option.bind_some, xl, xg]
      · simp (disch := omega) only [FM_settledAt_4, Rl.fd R 2 (by decide) (by decide), hl, l_0, l_1, l_2, l_3, l_4, l_5, l_6, l_7, l_8, l_9, l_10, l_12, l_13, l_14, l_15, l_16, l_20, l_21, l_40, l_60, l_78, l_199, l_200, l_300, l_599, l_600, l_601, l_602, l_1000, l_1638, l_10000, l_65536, l_100000, l_1000000, l_m1, L_0, L_1, L_10, L_20, L_1000, L_10000, iI_add, iI_sub, iI_mul, iI_neg, iI_lt, iI_le, iI_eq, iI_max, iI_min, iI_l, jI_i, jI_add, jI_sub, jI_mul, jI_lt, jI_le, jI_eq, kmp_pos, kmp_neg, kmp_le, kmp_ge, if_pos, if_neg, if_true, if_false, true_or, or_true, Option.bind_some, xl, xg]
    exact key 199999
  · have := up_loop (fun n (q : Int32 × Int32) => FM_settledAt_4 s (iI p) n q.1 q.2) (fun i q => 0 ≤ i ∧ ∃ z, q = (iI z, iI i) ∧ Stl v a (a 16 p) l i z) (fun r => ∃ z, r = iI z ∧ Stl v a (a 16 p) l (v 2) z) (v 2) ?_ ?_ xN 0 (0, 0) ⟨by omega, 0, rfl, by omega, by omega, fun _ => rfl, fun _ => ⟨fun s h1 h2 => by omega, Or.inl ⟨rfl, fun s h1 h2 => by omega⟩⟩⟩ (by omega) (by unfold xN; omega)
    · obtain ⟨r, e, z, rfl, hz⟩ := this
      exact ⟨z, e, hz⟩
    · rintro n i q ⟨hi, z, rfl, hz⟩ hlt
      right
      have hs' := hs i hi hlt
      obtain ⟨z0, z1, z2, z3⟩ := hz
      obtain ⟨z4, z5⟩ := z3 (by omega)
      by_cases c2 : a 3 i = a 16 p
      · by_cases c3 : l + a 4 i + 1 ≤ z
        · refine ⟨_, ⟨by omega, z, rfl, z0, z1, z2, fun _ => ⟨fun s h1 h2 h3 => if q : s = i then q ▸ c3 else z4 s h1 (by omega) h3, ?_⟩⟩, ?_⟩
          · rcases z5 with ⟨z5, z6⟩ | ⟨s, s1, s2, s3⟩
            · omega
            · exact Or.inr ⟨s, s1, by omega, s3⟩
          · dsimp only
            simp (disch := omega) only [FM_settledAt_4, Rl.fd R 2 (by decide) (by decide), hl, Rl.ld R 3 16 (by decide) rfl, Rl.ld R 4 16 (by decide) rfl, Rl.ld R 16 12 (by decide) rfl, l_0, l_1, l_2, l_3, l_4, l_5, l_6, l_7, l_8, l_9, l_10, l_12, l_13, l_14, l_15, l_16, l_20, l_21, l_40, l_60, l_78, l_199, l_200, l_300, l_599, l_600, l_601, l_602, l_1000, l_1638, l_10000, l_65536, l_100000, l_1000000, l_m1, L_0, L_1, L_10, L_20, L_1000, L_10000, iI_add, iI_sub, iI_mul, iI_neg, iI_lt, iI_le, iI_eq, iI_max, iI_min, iI_l, jI_i, jI_add, jI_sub, jI_mul, jI_lt, jI_le, jI_eq, kmp_pos, kmp_neg, kmp_le, kmp_ge, if_pos, if_neg, if_true, if_false, true_or, or_true, Option.bind_some, xl, xg]
        · refine ⟨_, ⟨by omega, l + a 4 i + 1, rfl, by omega, by omega, fun _ => by omega, fun _ => ⟨fun s h1 h2 h3 => if q : s = i then by rw [q]; omega else by have := z4 s h1 (by omega) h3; omega, ?_⟩⟩, ?_⟩
          · exact Or.inr ⟨i, hi, by omega, c2, rfl⟩
          · dsimp only
            simp (disch := omega) only [FM_settledAt_4, Rl.fd R 2 (by decide) (by decide), hl, Rl.ld R 3 16 (by decide) rfl, Rl.ld R 4 16 (by decide) rfl, Rl.ld R 16 12 (by decide) rfl, l_0, l_1, l_2, l_3, l_4, l_5, l_6, l_7, l_8, l_9, l_10, l_12, l_13, l_14, l_15, l_16, l_20, l_21, l_40, l_60, l_78, l_199, l_200, l_300, l_599, l_600, l_601, l_602, l_1000, l_1638, l_10000, l_65536, l_100000, l_1000000, l_m1, L_0, L_1, L_10, L_20, L_1000, L_10000, iI_add, iI_sub, iI_mul, iI_neg, iI_lt, iI_le, iI_eq, iI_max, iI_min, iI_l, jI_i, jI_add, jI_sub, jI_mul, jI_lt, jI_le, jI_eq, kmp_pos, kmp_neg, kmp_le, kmp_ge, if_pos, if_neg, if_true, if_false, true_or, or_true, Option.bind_some, xl, xg]
      · refine ⟨_, ⟨by omega, z, rfl, z0, z1, z2, fun _ => ⟨fun s h1 h2 h3 => if q : s = i then absurd (q ▸ h3) c2 else z4 s h1 (by omega) h3, ?_⟩⟩, ?_⟩
        · rcases z5 with ⟨z5, z6⟩ | ⟨s, s1, s2, s3⟩
          · exact Or.inl ⟨z5, fun s h1 h2 => if q : s = i then q ▸ c2 else z6 s h1 (by omega)⟩
          · exact Or.inr ⟨s, s1, by omega, s3⟩
        · dsimp only
          simp (disch := omega) only [FM_settledAt_4, Rl.fd R 2 (by decide) (by decide), hl, Rl.ld R 3 16 (by decide) rfl, Rl.ld R 4 16 (by decide) rfl, Rl.ld R 16 12 (by decide) rfl, l_0, l_1, l_2, l_3, l_4, l_5, l_6, l_7, l_8, l_9, l_10, l_12, l_13, l_14, l_15, l_16, l_20, l_21, l_40, l_60, l_78, l_199, l_200, l_300, l_599, l_600, l_601, l_602, l_1000, l_1638, l_10000, l_65536, l_100000, l_1000000, l_m1, L_0, L_1, L_10, L_20, L_1000, L_10000, iI_add, iI_sub, iI_mul, iI_neg, iI_lt, iI_le, iI_eq, iI_max, iI_min, iI_l, jI_i, jI_add, jI_sub, jI_mul, jI_lt, jI_le, jI_eq, kmp_pos, kmp_neg, kmp_le, kmp_ge, if_pos, if_neg, if_true, if_false, true_or, or_true, Option.bind_some, xl, xg]
    · rintro n q ⟨hi, z, rfl, hz⟩
      refine ⟨_, ?_, z, rfl, hz⟩
      dsimp only
      simp (disch := omega) only [FM_settledAt_4, Rl.fd R 2 (by decide) (by decide), l_0, l_1, l_2, l_3, l_4, l_5, l_6, l_7, l_8, l_9, l_10, l_12, l_13, l_14, l_15, l_16, l_20, l_21, l_40, l_60, l_78, l_199, l_200, l_300, l_599, l_600, l_601, l_602, l_1000, l_1638, l_10000, l_65536, l_100000, l_1000000, l_m1, L_0, L_1, L_10, L_20, L_1000, L_10000, iI_add, iI_sub, iI_mul, iI_neg, iI_lt, iI_le, iI_eq, iI_max, iI_min, iI_l, jI_i, jI_add, jI_sub, jI_mul, jI_lt, jI_le, jI_eq, kmp_pos, kmp_neg, kmp_le, kmp_ge, if_pos, if_neg, if_true, if_false, true_or, or_true, Option.bind_some, xl, xg]
theorem r_isWhole (R : Rl s v a) (I : Iv v a) {p A B : Int} (hp0 : 0 ≤ p) (hp : p < v 15) (hA : 0 ≤ A) (hA1 : A ≤ 100000000) (hB : 0 ≤ B) (hB1 : B ≤ 100000000) (O : Int) : FM_isWhole (sL s A B O) (iI p) = some (iI (if B * 1000 ≤ A * (1000 - a 18 p) then 1 else 0)) := by
  have hp' := I.2.2.2.2.2.2.2.2.2.2.2.1 p hp0 hp
  have i15 := I.2.2.2.1
  have h2 := lf_mul hA hp'.2.2.2.2.1 hp'.2.2.2.2.2.1
  by_cases c : A * (1000 - a 18 p) < B * 1000
  · rw [if_neg (by omega)]
    simp (disch := omega) only [FM_isWhole, sL_ld, sL_12, sL_13, Rl.ld R 18 12 (by decide) rfl, l_0, l_1, l_2, l_3, l_4, l_5, l_6, l_7, l_8, l_9, l_10, l_12, l_13, l_14, l_15, l_16, l_20, l_21, l_40, l_60, l_78, l_199, l_200, l_300, l_599, l_600, l_601, l_602, l_1000, l_1638, l_10000, l_65536, l_100000, l_1000000, l_m1, L_0, L_1, L_10, L_20, L_1000, L_10000, iI_add, iI_sub, iI_mul, iI_neg, iI_lt, iI_le, iI_eq, iI_max, iI_min, iI_l, jI_i, jI_add, jI_sub, jI_mul, jI_lt, jI_le, jI_eq, kmp_pos, kmp_neg, kmp_le, kmp_ge, if_pos, if_neg, if_true, if_false, true_or, or_true, Option.bind_some, xl, xg]
  · rw [if_pos (by omega)]
    simp (disch := omega) only [FM_isWhole, sL_ld, sL_12, sL_13, Rl.ld R 18 12 (by decide) rfl, l_0, l_1, l_2, l_3, l_4, l_5, l_6, l_7, l_8, l_9, l_10, l_12, l_13, l_14, l_15, l_16, l_20, l_21, l_40, l_60, l_78, l_199, l_200, l_300, l_599, l_600, l_601, l_602, l_1000, l_1638, l_10000, l_65536, l_100000, l_1000000, l_m1, L_0, L_1, L_10, L_20, L_1000, L_10000, iI_add, iI_sub, iI_mul, iI_neg, iI_lt, iI_le, iI_eq, iI_max, iI_min, iI_l, jI_i, jI_add, jI_sub, jI_mul, jI_lt, jI_le, jI_eq, kmp_pos, kmp_neg, kmp_le, kmp_ge, if_pos, if_neg, if_true, if_false, true_or, or_true, Option.bind_some, xl, xg]
set_option maxHeartbeats 2000000 in
theorem r_span (R : Rl s v a) (I : Iv v a) {p t k : Int} (hp0 : 0 ≤ p) (hp : p < v 15) (h0 : 0 ≤ t) (h1 : t ≤ 600) (k0 : 0 ≤ k) (k1 : k ≤ 7) : ∃ l z s', Lst a p (fi a p t) (la a p t + 1) l ∧ Stl v a (a 16 p) l (v 2) z ∧ FM_span s (iI p) (iI t) (iI k) = some (iI (spz v a p t k z), s') ∧ Rl s' v a ∧ s'.1 0 = 0 := by
  have hp' := I.2.2.2.2.2.2.2.2.2.2.2.1 p hp0 hp
  have i15 := I.2.2.2.1
  have hb := SA_b I hp0 hp h0 h1
  have hf := fi_b I hp0 hp h0 h1
  have R0 := R.m0 0
  obtain ⟨l, e, hl⟩ := r_spans R0 I hp0 hp h0 h1
  have hlb : -1 ≤ l ∧ l ≤ 600 := by
    rcases hl with ⟨q, -⟩ | ⟨q1, q2, -⟩ <;> omega
  have R1 := R0.m23 (iI l)
  have R2 := R1.sL (SA v a p t) (SB v a p t) (SO v a p t)
  obtain ⟨z, ez, hz⟩ := r_settledAt R2 I (l := l) hp0 hp rfl hlb.1 hlb.2
  have b1 := @lf_b a p (SA v a p t) (SB v a p t) (by omega) (by omega) (by omega)
  have b2 := @lf_b a p (SA v a p t + SO v a p t) (SB v a p t + SO v a p t) (by omega) (by omega) (by omega)
  have b3 := @lf_b a p (SA v a p t + SO v a p t) (SB v a p t) (by omega) (by omega) (by omega)
  have e1 := r_leftOf R2 I hp0 hp (A := SA v a p t) (B := SB v a p t) (by omega) (by omega) (by omega) (by omega)
  have e2 := r_leftOf R2 I hp0 hp (A := SA v a p t + SO v a p t) (B := SB v a p t + SO v a p t) (by omega) (by omega) (by omega) (by omega)
  have e3 := r_leftOf R2 I hp0 hp (A := SA v a p t + SO v a p t) (B := SB v a p t) (by omega) (by omega) (by omega) (by omega)
  have e4 := r_isWhole R1 I hp0 hp (A := SA v a p t) (B := SB v a p t) (by omega) (by omega) (by omega) (by omega) (SO v a p t)
  refine ⟨l, z, _, hl, hz, ?_, R2, rfl⟩
  have z0 := hz.1
  have z1 := hz.2.1
  have ek : k = 0 ∨ k = 1 ∨ k = 2 ∨ k = 3 ∨ k = 4 ∨ k = 5 ∨ k = 6 ∨ k = 7 := by omega
  have ep : FM_isPromise s (iI p) = some (iI 1) := by simp (disch := omega) only [FM_isPromise, Rl.fd R 15 (by decide) (by decide), l_0, l_1, l_2, l_3, l_4, l_5, l_6, l_7, l_8, l_9, l_10, l_12, l_13, l_14, l_15, l_16, l_20, l_21, l_40, l_60, l_78, l_199, l_200, l_300, l_599, l_600, l_601, l_602, l_1000, l_1638, l_10000, l_65536, l_100000, l_1000000, l_m1, L_0, L_1, L_10, L_20, L_1000, L_10000, iI_add, iI_sub, iI_mul, iI_neg, iI_lt, iI_le, iI_eq, iI_max, iI_min, iI_l, jI_i, jI_add, jI_sub, jI_mul, jI_lt, jI_le, jI_eq, kmp_pos, kmp_neg, kmp_le, kmp_ge, if_pos, if_neg, if_true, if_false, true_or, or_true, Option.bind_some, xl, xg]
  have c1 : ¬ iI 1 = 0 := by decide
  have c2 : ¬ iI t < 0 := by rw [l_0, iI_lt (by omega) (by omega) (by omega) (by omega)]; omega
  have c3 : ¬ 600 < iI t := by rw [l_600, iI_lt (by omega) (by omega) (by omega) (by omega)]; omega
  have c4 : ¬ iI k < 0 := by rw [l_0, iI_lt (by omega) (by omega) (by omega) (by omega)]; omega
  have c5 : ¬ 7 < iI k := by rw [l_7, iI_lt (by omega) (by omega) (by omega) (by omega)]; omega
  have c6 : (mI s 0 0).1 0 ≤ 0 := by rw [mI_s]; decide
  unfold FM_span
  rw [ep, Option.bind_some, if_neg c1, if_neg c2, if_neg c3, if_neg c4, if_neg c5]
  unfold xl
  dsimp only
  rw [if_pos c6, e, Option.bind_some]
  generalize mI (mI s 0 0) 23 (iI l) = S at *
  rcases ek with rfl | rfl | rfl | rfl | rfl | rfl | rfl | rfl
  · simp (disch := omega) only [sL_12, sL_13, sL_14, e1, l_0, l_1, l_2, l_3, l_4, l_5, l_6, l_7, l_8, l_9, l_10, l_12, l_13, l_14, l_15, l_16, l_20, l_21, l_40, l_60, l_78, l_199, l_200, l_300, l_599, l_600, l_601, l_602, l_1000, l_1638, l_10000, l_65536, l_100000, l_1000000, l_m1, L_0, L_1, L_10, L_20, L_1000, L_10000, iI_add, iI_sub, iI_mul, iI_neg, iI_lt, iI_le, iI_eq, iI_max, iI_min, iI_l, jI_i, jI_add, jI_sub, jI_mul, jI_lt, jI_le, jI_eq, kmp_pos, kmp_neg, kmp_le, kmp_ge, if_pos, if_neg, if_true, if_false, true_or, or_true, Option.bind_some, xl, xg]; rfl
  · simp (disch := omega) only [sL_12, sL_13, sL_14, FM_least, e2, l_0, l_1, l_2, l_3, l_4, l_5, l_6, l_7, l_8, l_9, l_10, l_12, l_13, l_14, l_15, l_16, l_20, l_21, l_40, l_60, l_78, l_199, l_200, l_300, l_599, l_600, l_601, l_602, l_1000, l_1638, l_10000, l_65536, l_100000, l_1000000, l_m1, L_0, L_1, L_10, L_20, L_1000, L_10000, iI_add, iI_sub, iI_mul, iI_neg, iI_lt, iI_le, iI_eq, iI_max, iI_min, iI_l, jI_i, jI_add, jI_sub, jI_mul, jI_lt, jI_le, jI_eq, kmp_pos, kmp_neg, kmp_le, kmp_ge, if_pos, if_neg, if_true, if_false, true_or, or_true, Option.bind_some, xl, xg]; rfl
  · simp (disch := omega) only [sL_12, sL_13, sL_14, FM_greatest, e3, l_0, l_1, l_2, l_3, l_4, l_5, l_6, l_7, l_8, l_9, l_10, l_12, l_13, l_14, l_15, l_16, l_20, l_21, l_40, l_60, l_78, l_199, l_200, l_300, l_599, l_600, l_601, l_602, l_1000, l_1638, l_10000, l_65536, l_100000, l_1000000, l_m1, L_0, L_1, L_10, L_20, L_1000, L_10000, iI_add, iI_sub, iI_mul, iI_neg, iI_lt, iI_le, iI_eq, iI_max, iI_min, iI_l, jI_i, jI_add, jI_sub, jI_mul, jI_lt, jI_le, jI_eq, kmp_pos, kmp_neg, kmp_le, kmp_ge, if_pos, if_neg, if_true, if_false, true_or, or_true, Option.bind_some, xl, xg]; rfl
  · by_cases c : SB v a p t * 1000 ≤ SA v a p t * (1000 - a 18 p)
    · rw [if_pos c] at e4
      simp (disch := omega) only [sL_12, sL_13, sL_14, e4, spz, l_0, l_1, l_2, l_3, l_4, l_5, l_6, l_7, l_8, l_9, l_10, l_12, l_13, l_14, l_15, l_16, l_20, l_21, l_40, l_60, l_78, l_199, l_200, l_300, l_599, l_600, l_601, l_602, l_1000, l_1638, l_10000, l_65536, l_100000, l_1000000, l_m1, L_0, L_1, L_10, L_20, L_1000, L_10000, iI_add, iI_sub, iI_mul, iI_neg, iI_lt, iI_le, iI_eq, iI_max, iI_min, iI_l, jI_i, jI_add, jI_sub, jI_mul, jI_lt, jI_le, jI_eq, kmp_pos, kmp_neg, kmp_le, kmp_ge, if_pos, if_neg, if_true, if_false, true_or, or_true, Option.bind_some, xl, xg]
    · rw [if_neg c] at e4
      simp (disch := omega) only [sL_12, sL_13, sL_14, e4, spz, l_0, l_1, l_2, l_3, l_4, l_5, l_6, l_7, l_8, l_9, l_10, l_12, l_13, l_14, l_15, l_16, l_20, l_21, l_40, l_60, l_78, l_199, l_200, l_300, l_599, l_600, l_601, l_602, l_1000, l_1638, l_10000, l_65536, l_100000, l_1000000, l_m1, L_0, L_1, L_10, L_20, L_1000, L_10000, iI_add, iI_sub, iI_mul, iI_neg, iI_lt, iI_le, iI_eq, iI_max, iI_min, iI_l, jI_i, jI_add, jI_sub, jI_mul, jI_lt, jI_le, jI_eq, kmp_pos, kmp_neg, kmp_le, kmp_ge, if_pos, if_neg, if_true, if_false, true_or, or_true, Option.bind_some, xl, xg]
  · by_cases c : 0 ≤ lf a p (SA v a p t + SO v a p t) (SB v a p t + SO v a p t)
    · simp (disch := omega) only [sL_12, sL_13, sL_14, FM_least, e2, spz, l_0, l_1, l_2, l_3, l_4, l_5, l_6, l_7, l_8, l_9, l_10, l_12, l_13, l_14, l_15, l_16, l_20, l_21, l_40, l_60, l_78, l_199, l_200, l_300, l_599, l_600, l_601, l_602, l_1000, l_1638, l_10000, l_65536, l_100000, l_1000000, l_m1, L_0, L_1, L_10, L_20, L_1000, L_10000, iI_add, iI_sub, iI_mul, iI_neg, iI_lt, iI_le, iI_eq, iI_max, iI_min, iI_l, jI_i, jI_add, jI_sub, jI_mul, jI_lt, jI_le, jI_eq, kmp_pos, kmp_neg, kmp_le, kmp_ge, if_pos, if_neg, if_true, if_false, true_or, or_true, Option.bind_some, xl, xg]
    · by_cases c2 : lf a p (SA v a p t + SO v a p t) (SB v a p t) < 0
      · simp (disch := omega) only [sL_12, sL_13, sL_14, FM_least, FM_greatest, e2, e3, spz, l_0, l_1, l_2, l_3, l_4, l_5, l_6, l_7, l_8, l_9, l_10, l_12, l_13, l_14, l_15, l_16, l_20, l_21, l_40, l_60, l_78, l_199, l_200, l_300, l_599, l_600, l_601, l_602, l_1000, l_1638, l_10000, l_65536, l_100000, l_1000000, l_m1, L_0, L_1, L_10, L_20, L_1000, L_10000, iI_add, iI_sub, iI_mul, iI_neg, iI_lt, iI_le, iI_eq, iI_max, iI_min, iI_l, jI_i, jI_add, jI_sub, jI_mul, jI_lt, jI_le, jI_eq, kmp_pos, kmp_neg, kmp_le, kmp_ge, if_pos, if_neg, if_true, if_false, true_or, or_true, Option.bind_some, xl, xg]
      · simp (disch := omega) only [sL_12, sL_13, sL_14, FM_least, FM_greatest, e2, e3, spz, l_0, l_1, l_2, l_3, l_4, l_5, l_6, l_7, l_8, l_9, l_10, l_12, l_13, l_14, l_15, l_16, l_20, l_21, l_40, l_60, l_78, l_199, l_200, l_300, l_599, l_600, l_601, l_602, l_1000, l_1638, l_10000, l_65536, l_100000, l_1000000, l_m1, L_0, L_1, L_10, L_20, L_1000, L_10000, iI_add, iI_sub, iI_mul, iI_neg, iI_lt, iI_le, iI_eq, iI_max, iI_min, iI_l, jI_i, jI_add, jI_sub, jI_mul, jI_lt, jI_le, jI_eq, kmp_pos, kmp_neg, kmp_le, kmp_ge, if_pos, if_neg, if_true, if_false, true_or, or_true, Option.bind_some, xl, xg]
  · simp (disch := omega) only [ez, spz, l_0, l_1, l_2, l_3, l_4, l_5, l_6, l_7, l_8, l_9, l_10, l_12, l_13, l_14, l_15, l_16, l_20, l_21, l_40, l_60, l_78, l_199, l_200, l_300, l_599, l_600, l_601, l_602, l_1000, l_1638, l_10000, l_65536, l_100000, l_1000000, l_m1, L_0, L_1, L_10, L_20, L_1000, L_10000, iI_add, iI_sub, iI_mul, iI_neg, iI_lt, iI_le, iI_eq, iI_max, iI_min, iI_l, jI_i, jI_add, jI_sub, jI_mul, jI_lt, jI_le, jI_eq, kmp_pos, kmp_neg, kmp_le, kmp_ge, if_pos, if_neg, if_true, if_false, true_or, or_true, Option.bind_some, xl, xg]
  · simp (disch := omega) only [sL_12, sL_13, sL_14, spz, l_0, l_1, l_2, l_3, l_4, l_5, l_6, l_7, l_8, l_9, l_10, l_12, l_13, l_14, l_15, l_16, l_20, l_21, l_40, l_60, l_78, l_199, l_200, l_300, l_599, l_600, l_601, l_602, l_1000, l_1638, l_10000, l_65536, l_100000, l_1000000, l_m1, L_0, L_1, L_10, L_20, L_1000, L_10000, iI_add, iI_sub, iI_mul, iI_neg, iI_lt, iI_le, iI_eq, iI_max, iI_min, iI_l, jI_i, jI_add, jI_sub, jI_mul, jI_lt, jI_le, jI_eq, kmp_pos, kmp_neg, kmp_le, kmp_ge, if_pos, if_neg, if_true, if_false, true_or, or_true, Option.bind_some, xl, xg]
  · simp (disch := omega) only [sL_12, sL_13, sL_14, spz, l_0, l_1, l_2, l_3, l_4, l_5, l_6, l_7, l_8, l_9, l_10, l_12, l_13, l_14, l_15, l_16, l_20, l_21, l_40, l_60, l_78, l_199, l_200, l_300, l_599, l_600, l_601, l_602, l_1000, l_1638, l_10000, l_65536, l_100000, l_1000000, l_m1, L_0, L_1, L_10, L_20, L_1000, L_10000, iI_add, iI_sub, iI_mul, iI_neg, iI_lt, iI_le, iI_eq, iI_max, iI_min, iI_l, jI_i, jI_add, jI_sub, jI_mul, jI_lt, jI_le, jI_eq, kmp_pos, kmp_neg, kmp_le, kmp_ge, if_pos, if_neg, if_true, if_false, true_or, or_true, Option.bind_some, xl, xg]
set_option maxHeartbeats 2000000 in
theorem r_spanX (R : Rl s v a) (I : Iv v a) {p t k : Int} (p0 : -2147483648 ≤ p) (p1 : p < 2147483648) (t0 : -2147483648 ≤ t) (t1 : t < 2147483648) (k0 : -2147483648 ≤ k) (k1 : k < 2147483648) (hn : ¬ (0 ≤ p ∧ p < v 15 ∧ 0 ≤ t ∧ t ≤ 600 ∧ 0 ≤ k ∧ k ≤ 7)) : ∃ z s', FM_span s (iI p) (iI t) (iI k) = some (z, s') ∧ Rl s' v a ∧ s'.1 0 = 1 := by
  have i15 := I.2.2.2.1
  refine ⟨0, mI s 0 1, ?_, R.m0 1, rfl⟩
  have h1 : ¬ (mI s 0 1).1 0 ≤ 0 := by rw [mI_s]; decide
  have lt : ∀ x y : Int, -2147483648 ≤ x → x < 2147483648 → -2147483648 ≤ y → y < 2147483648 → (iI x < iI y ↔ x < y) := fun x y h1 h2 h3 h4 => iI_lt h1 h2 h3 h4
  have c1 : ¬ iI 1 = 0 := by decide
  unfold FM_span
  by_cases c0 : 0 ≤ p ∧ p < v 15
  · have ep : FM_isPromise s (iI p) = some (iI 1) := by simp (disch := omega) only [FM_isPromise, Rl.fd R 15 (by decide) (by decide), l_0, l_1, l_2, l_3, l_4, l_5, l_6, l_7, l_8, l_9, l_10, l_12, l_13, l_14, l_15, l_16, l_20, l_21, l_40, l_60, l_78, l_199, l_200, l_300, l_599, l_600, l_601, l_602, l_1000, l_1638, l_10000, l_65536, l_100000, l_1000000, l_m1, L_0, L_1, L_10, L_20, L_1000, L_10000, iI_add, iI_sub, iI_mul, iI_neg, iI_lt, iI_le, iI_eq, iI_max, iI_min, iI_l, jI_i, jI_add, jI_sub, jI_mul, jI_lt, jI_le, jI_eq, kmp_pos, kmp_neg, kmp_le, kmp_ge, if_pos, if_neg, if_true, if_false, true_or, or_true, Option.bind_some, xl, xg]
    rw [ep, Option.bind_some, if_neg c1]
    by_cases c2 : iI t < 0
    · rw [if_pos c2]; unfold xl; dsimp only; rw [if_neg h1]
    · rw [if_neg c2]
      by_cases c3 : 600 < iI t
      · rw [if_pos c3]; unfold xl; dsimp only; rw [if_neg h1]
      · rw [if_neg c3]
        by_cases c4 : iI k < 0
        · rw [if_pos c4]; unfold xl; dsimp only; rw [if_neg h1]
        · rw [if_neg c4]
          by_cases c5 : 7 < iI k
          · rw [if_pos c5]; unfold xl; dsimp only; rw [if_neg h1]
          · exfalso
            rw [l_0, iI_lt (by omega) (by omega) (by omega) (by omega)] at c2 c4
            rw [l_600, iI_lt (by omega) (by omega) (by omega) (by omega)] at c3
            rw [l_7, iI_lt (by omega) (by omega) (by omega) (by omega)] at c5
            omega
  · have ep : FM_isPromise s (iI p) = some 0 := by
      by_cases c2 : 0 ≤ p
      · simp (disch := omega) only [FM_isPromise, Rl.fd R 15 (by decide) (by decide), l_0, l_1, l_2, l_3, l_4, l_5, l_6, l_7, l_8, l_9, l_10, l_12, l_13, l_14, l_15, l_16, l_20, l_21, l_40, l_60, l_78, l_199, l_200, l_300, l_599, l_600, l_601, l_602, l_1000, l_1638, l_10000, l_65536, l_100000, l_1000000, l_m1, L_0, L_1, L_10, L_20, L_1000, L_10000, iI_add, iI_sub, iI_mul, iI_neg, iI_lt, iI_le, iI_eq, iI_max, iI_min, iI_l, jI_i, jI_add, jI_sub, jI_mul, jI_lt, jI_le, jI_eq, kmp_pos, kmp_neg, kmp_le, kmp_ge, if_pos, if_neg, if_true, if_false, true_or, or_true, Option.bind_some, xl, xg]
      · simp (disch := omega) only [FM_isPromise, Rl.fd R 15 (by decide) (by decide), l_0, l_1, l_2, l_3, l_4, l_5, l_6, l_7, l_8, l_9, l_10, l_12, l_13, l_14, l_15, l_16, l_20, l_21, l_40, l_60, l_78, l_199, l_200, l_300, l_599, l_600, l_601, l_602, l_1000, l_1638, l_10000, l_65536, l_100000, l_1000000, l_m1, L_0, L_1, L_10, L_20, L_1000, L_10000, iI_add, iI_sub, iI_mul, iI_neg, iI_lt, iI_le, iI_eq, iI_max, iI_min, iI_l, jI_i, jI_add, jI_sub, jI_mul, jI_lt, jI_le, jI_eq, kmp_pos, kmp_neg, kmp_le, kmp_ge, if_pos, if_neg, if_true, if_false, true_or, or_true, Option.bind_some, xl, xg]
    rw [ep, Option.bind_some, if_pos rfl]
    unfold xl; dsimp only; rw [if_neg h1]
theorem r_broken (R : Rl s v a) (I : Iv v a) {p t : Int} (hp0 : 0 ≤ p) (hp : p < v 15) (h0 : 0 ≤ t) (h1 : t ≤ 600) : ∃ z s', FM_broken s (iI p) (iI t) = some (iI z, s') ∧ Rl s' v a ∧ Brk v a p t z := by
  have i15 := I.2.2.2.1
  have := up_loop (fun n (q : mS × Int32) => FM_broken_28 (iI p) n q.1 q.2) (fun i q => t ≤ i ∧ ∃ s', q = (s', iI i) ∧ Rl s' v a ∧ ∀ j, t ≤ j → j < i → whl v a p j) (fun r => ∃ z s', r = (iI z, s') ∧ Rl s' v a ∧ Brk v a p t z) 601 ?_ ?_ xN t (mI s 0 0, iI t) ⟨by omega, _, rfl, R.m0 0, fun j _ _ => by omega⟩ (by omega) (by unfold xN; omega)
  · obtain ⟨r, e, z, s', rfl, h2, h3⟩ := this
    refine ⟨z, s', ?_, h2, h3⟩
    rw [← e]
    simp (disch := omega) only [FM_broken, FM_isPromise, mI_n _ 0 _ 15 (by decide), Rl.fd R 15 (by decide) (by decide), iI_lt, iI_le, iI_eq, if_neg, if_pos, if_false, if_true, Option.bind_some, xl, l_0, l_1, l_600]
  · rintro n i q ⟨hi, s', rfl, R', hw⟩ hlt
    have hb := SA_b I hp0 hp (show 0 ≤ i by omega) (show i ≤ 600 by omega)
    obtain ⟨l, e, -⟩ := r_spans R' I hp0 hp (show 0 ≤ i by omega) (show i ≤ 600 by omega)
    have e4 := r_isWhole (R'.m23 (iI l)) I hp0 hp (A := SA v a p i) (B := SB v a p i) (by omega) (by omega) (by omega) (by omega) (SO v a p i)
    by_cases c : SB v a p i * 1000 ≤ SA v a p i * (1000 - a 18 p)
    · right
      rw [if_pos c] at e4
      refine ⟨_, ⟨by omega, _, rfl, (R'.m23 (iI l)).sL (SA v a p i) (SB v a p i) (SO v a p i), fun j h2 h3 => if q : j = i then q ▸ c else hw j h2 (by omega)⟩, ?_⟩
      dsimp only
      simp (disch := omega) only [FM_broken_28, e, e4, l_0, l_1, l_2, l_3, l_4, l_5, l_6, l_7, l_8, l_9, l_10, l_12, l_13, l_14, l_15, l_16, l_20, l_21, l_40, l_60, l_78, l_199, l_200, l_300, l_599, l_600, l_601, l_602, l_1000, l_1638, l_10000, l_65536, l_100000, l_1000000, l_m1, L_0, L_1, L_10, L_20, L_1000, L_10000, iI_add, iI_sub, iI_mul, iI_neg, iI_lt, iI_le, iI_eq, iI_max, iI_min, iI_l, jI_i, jI_add, jI_sub, jI_mul, jI_lt, jI_le, jI_eq, kmp_pos, kmp_neg, kmp_le, kmp_ge, if_pos, if_neg, if_true, if_false, true_or, or_true, Option.bind_some, xl, xg]
    · left
      rw [if_neg c] at e4
      refine ⟨_, ?_, i, _, rfl, (R'.m23 (iI l)).sL (SA v a p i) (SB v a p i) (SO v a p i), Or.inr ⟨hi, by omega, c, hw⟩⟩
      dsimp only
      simp (disch := omega) only [FM_broken_28, e, e4, l_0, l_1, l_2, l_3, l_4, l_5, l_6, l_7, l_8, l_9, l_10, l_12, l_13, l_14, l_15, l_16, l_20, l_21, l_40, l_60, l_78, l_199, l_200, l_300, l_599, l_600, l_601, l_602, l_1000, l_1638, l_10000, l_65536, l_100000, l_1000000, l_m1, L_0, L_1, L_10, L_20, L_1000, L_10000, iI_add, iI_sub, iI_mul, iI_neg, iI_lt, iI_le, iI_eq, iI_max, iI_min, iI_l, jI_i, jI_add, jI_sub, jI_mul, jI_lt, jI_le, jI_eq, kmp_pos, kmp_neg, kmp_le, kmp_ge, if_pos, if_neg, if_true, if_false, true_or, or_true, Option.bind_some, xl, xg]
  · rintro n q ⟨hi, s', rfl, R', hw⟩
    refine ⟨_, ?_, -1, s', rfl, R', Or.inl ⟨rfl, fun j h2 h3 => hw j h2 (by omega)⟩⟩
    dsimp only
    simp (disch := omega) only [FM_broken_28, l_0, l_1, l_2, l_3, l_4, l_5, l_6, l_7, l_8, l_9, l_10, l_12, l_13, l_14, l_15, l_16, l_20, l_21, l_40, l_60, l_78, l_199, l_200, l_300, l_599, l_600, l_601, l_602, l_1000, l_1638, l_10000, l_65536, l_100000, l_1000000, l_m1, L_0, L_1, L_10, L_20, L_1000, L_10000, iI_add, iI_sub, iI_mul, iI_neg, iI_lt, iI_le, iI_eq, iI_max, iI_min, iI_l, jI_i, jI_add, jI_sub, jI_mul, jI_lt, jI_le, jI_eq, kmp_pos, kmp_neg, kmp_le, kmp_ge, if_pos, if_neg, if_true, if_false, true_or, or_true, Option.bind_some, xl, xg]
theorem rm_b (I : Iv v a) {p : Int} (hp0 : 0 ≤ p) (hp : p < v 15) : -30000000 ≤ rm v a p ∧ rm v a p ≤ 20000000 := by
  have hb := SA_b I hp0 hp (show 0 ≤ v 9 from I.2.2.1.1) (show v 9 ≤ 600 from I.2.2.1.2)
  obtain ⟨i1, i2, i9, i15, i24, i26, i33, i39, hs, hq, ht, hp', hg, hr, hpt, hal, hch, -⟩ := I
  have hp'' := hp' p hp0 hp
  have b2 := @lf_b a p (SA v a p (v 9) + SO v a p (v 9)) (SB v a p (v 9) + SO v a p (v 9)) (by omega) (by omega) (by omega)
  have b3 := pr_ge (f := fr a p) (x := 0) (y := v 33) (c := 0) (by omega) (by omega) (fun j h2 h3 => by
    have := hch j h2 h3
    unfold fr; split <;> omega)
  have b4 := pr_le (f := fr a p) (x := 0) (y := v 33) (c := 100000) (by omega) (by omega) (fun j h2 h3 => by
    have := hch j h2 h3
    unfold fr; split <;> omega)
  simp only [pr_0] at b3 b4
  unfold rm
  omega
theorem r_room (R : Rl s v a) (I : Iv v a) {p : Int} (hp0 : 0 ≤ p) (hp : p < v 15) : ∃ s', FM_room s (iI p) = some (jI (rm v a p), s') ∧ Rl s' v a ∧ s'.2.2 = s.2.2 := by
  have i9 := I.2.2.1
  have i15 := I.2.2.2.1
  have hb := SA_b I hp0 hp i9.1 i9.2
  obtain ⟨l, e, hl⟩ := r_spans R I hp0 hp i9.1 i9.2
  have R2 := (R.m23 (iI l)).sL (SA v a p (v 9)) (SB v a p (v 9)) (SO v a p (v 9))
  have e2 := r_leftOf R2 I hp0 hp (A := SA v a p (v 9) + SO v a p (v 9)) (B := SB v a p (v 9) + SO v a p (v 9)) (by omega) (by omega) (by omega) (by omega)
  refine ⟨_, ?_, R2, rfl⟩
  unfold FM_room FM_least
  rw [R.fd 9 (by decide) (by decide), e]
  simp only [Option.bind_some, sL_12, sL_13, sL_14, jI_add, e2]
  obtain ⟨i1, i2, -, -, i24, i26, i33, i39, hs, hq, ht, hp', hg, hr, hpt, hal, hch, -⟩ := I
  refine up_eq (fun n (q : Int64 × Int32) => FM_room_18 _ (iI p) n q.1 q.2) (fun i q => 0 ≤ i ∧ q = (jI (lf a p (SA v a p (v 9) + SO v a p (v 9)) (SB v a p (v 9) + SO v a p (v 9)) - pr (fr a p) i), iI i)) _ (v 33) ?_ ?_ xN 0 (_, 0) ⟨by omega, by simp only [pr_0, Int.sub_zero]; rfl⟩ (by omega) (by unfold xN; omega)
  · rintro n i q ⟨hi, rfl⟩ hlt
    right
    refine ⟨_, ⟨by omega, rfl⟩, ?_⟩
    have := hch i hi hlt
    dsimp only
    simp only [pr_1 _ hi]
    by_cases c : a 34 i = p
    · by_cases c2 : a 37 i = 1
      · have e : fr a p i = a 35 i := if_pos ⟨c, c2⟩
        simp (disch := omega) only [FM_room_18, Rl.fd R2 33 (by decide) (by decide), Rl.ld R2 34 40 (by decide) rfl, Rl.ld R2 35 40 (by decide) rfl, Rl.ld R2 37 40 (by decide) rfl, e, l_0, l_1, l_2, l_3, l_4, l_5, l_6, l_7, l_8, l_9, l_10, l_12, l_13, l_14, l_15, l_16, l_20, l_21, l_40, l_60, l_78, l_199, l_200, l_300, l_599, l_600, l_601, l_602, l_1000, l_1638, l_10000, l_65536, l_100000, l_1000000, l_m1, L_0, L_1, L_10, L_20, L_1000, L_10000, iI_add, iI_sub, iI_mul, iI_neg, iI_lt, iI_le, iI_eq, iI_max, iI_min, iI_l, jI_i, jI_add, jI_sub, jI_mul, jI_lt, jI_le, jI_eq, kmp_pos, kmp_neg, kmp_le, kmp_ge, if_pos, if_neg, if_true, if_false, true_or, or_true, Option.bind_some, xl, xg]
        congr 2; omega
      · have e : fr a p i = 0 := if_neg (fun q => c2 q.2)
        simp (disch := omega) only [FM_room_18, Rl.fd R2 33 (by decide) (by decide), Rl.ld R2 34 40 (by decide) rfl, Rl.ld R2 35 40 (by decide) rfl, Rl.ld R2 37 40 (by decide) rfl, e, l_0, l_1, l_2, l_3, l_4, l_5, l_6, l_7, l_8, l_9, l_10, l_12, l_13, l_14, l_15, l_16, l_20, l_21, l_40, l_60, l_78, l_199, l_200, l_300, l_599, l_600, l_601, l_602, l_1000, l_1638, l_10000, l_65536, l_100000, l_1000000, l_m1, L_0, L_1, L_10, L_20, L_1000, L_10000, iI_add, iI_sub, iI_mul, iI_neg, iI_lt, iI_le, iI_eq, iI_max, iI_min, iI_l, jI_i, jI_add, jI_sub, jI_mul, jI_lt, jI_le, jI_eq, kmp_pos, kmp_neg, kmp_le, kmp_ge, if_pos, if_neg, if_true, if_false, true_or, or_true, Option.bind_some, xl, xg, Int.add_zero, Int.sub_zero]
    · have e : fr a p i = 0 := if_neg (fun q => c q.1)
      simp (disch := omega) only [FM_room_18, Rl.fd R2 33 (by decide) (by decide), Rl.ld R2 34 40 (by decide) rfl, Rl.ld R2 35 40 (by decide) rfl, Rl.ld R2 37 40 (by decide) rfl, e, l_0, l_1, l_2, l_3, l_4, l_5, l_6, l_7, l_8, l_9, l_10, l_12, l_13, l_14, l_15, l_16, l_20, l_21, l_40, l_60, l_78, l_199, l_200, l_300, l_599, l_600, l_601, l_602, l_1000, l_1638, l_10000, l_65536, l_100000, l_1000000, l_m1, L_0, L_1, L_10, L_20, L_1000, L_10000, iI_add, iI_sub, iI_mul, iI_neg, iI_lt, iI_le, iI_eq, iI_max, iI_min, iI_l, jI_i, jI_add, jI_sub, jI_mul, jI_lt, jI_le, jI_eq, kmp_pos, kmp_neg, kmp_le, kmp_ge, if_pos, if_neg, if_true, if_false, true_or, or_true, Option.bind_some, xl, xg, Int.add_zero, Int.sub_zero]
  · rintro n q ⟨hi, rfl⟩
    dsimp only
    simp (disch := omega) only [FM_room_18, Rl.fd R2 33 (by decide) (by decide), l_0, l_1, l_2, l_3, l_4, l_5, l_6, l_7, l_8, l_9, l_10, l_12, l_13, l_14, l_15, l_16, l_20, l_21, l_40, l_60, l_78, l_199, l_200, l_300, l_599, l_600, l_601, l_602, l_1000, l_1638, l_10000, l_65536, l_100000, l_1000000, l_m1, L_0, L_1, L_10, L_20, L_1000, L_10000, iI_add, iI_sub, iI_mul, iI_neg, iI_lt, iI_le, iI_eq, iI_max, iI_min, iI_l, jI_i, jI_add, jI_sub, jI_mul, jI_lt, jI_le, jI_eq, kmp_pos, kmp_neg, kmp_le, kmp_ge, if_pos, if_neg, if_true, if_false, true_or, or_true, Option.bind_some, xl, xg]
    rfl
end REF3
