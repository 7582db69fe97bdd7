/-! count -/
section CNT
variable {G : Nat → Nat} {h : xH} {ad : Nat → Nat → Nat} {P P1 : xP} {k i : Nat} {s : mS} {v : Nat → Int} {a : Nat → Int → Int} {el : Int → Int → Int} {cn : Int → Int}
theorem Rep.si' (R : Rep G h ad P) {t n : Nat} {f : Nat → Int32} (hp : P k i = some (.inl (G t, n, .inl f))) {z : Int} (h0 : 0 ≤ z) (h1 : z < n) (hn : n < 2 ^ 31) (v : Int32) : ∃ h' P', stI t G h (some (ad k i)) (iI z) v = some h' ∧ Rep G h' ad P' ∧ P' k i = some (.inl (G t, n, .inl (upd f z.toNat v))) ∧ ∀ k' i', ¬ (k' = k ∧ i' = i) → P' k' i' = P k' i' := by
  obtain ⟨h', e, R'⟩ := R.si hp h0 h1 hn v
  exact ⟨h', _, e, R', up_same _ _ _ _, fun k' i' q => if_neg q⟩
theorem Rep.sf' (R : Rep G h ad P) {ci j : Nat} {fs : List Value} (hp : P k i = some (.inr (ci, fs))) (hj : j < fs.length) (v : Value) : ∃ h' P', xp G h (some (ad k i)) ci j v = some h' ∧ Rep G h' ad P' ∧ P' k i = some (.inr (ci, fs.set j v)) ∧ ∀ k' i', ¬ (k' = k ∧ i' = i) → P' k' i' = P k' i' := by
  obtain ⟨h', e, R'⟩ := R.sf hp hj v
  exact ⟨h', _, e, R', up_same _ _ _ _, fun k' i' q => if_neg q⟩
theorem Fr.of (q : ∀ k i, k = 19 ∨ k = 20 ∨ k = 23 → P1 k i = P k i) : Fr ad ad P P1 := ⟨fun k i h => ⟨rfl, q k i h⟩, rfl⟩
theorem cl_upd {g g' : Int → Int} {n t X : Int} (t0 : 0 ≤ t) (t1 : t < n) (hg : ∀ y, 0 ≤ y → y < n → g' y = if y = t then X else g y) : upd (fun x : Nat => iI (cl n g x)) t.toNat (iI X) = fun x : Nat => iI (cl n g' x) := by
  rw [upd_iI t0]
  funext x
  unfold cl
  by_cases q : (x : Int) < n
  · rw [if_pos q, if_pos q, hg x (by omega) q]
  · rw [if_neg q, if_neg q, if_neg (by omega)]
theorem cl_same {g g' : Int → Int} {n : Int} (hg : ∀ y, 0 ≤ y → y < n → g' y = g y) : (fun x : Nat => iI (cl n g x)) = fun x : Nat => iI (cl n g' x) := by
  funext x
  unfold cl
  by_cases q : (x : Int) < n
  · rw [if_pos q, if_pos q, hg x (by omega) q]
  · rw [if_neg q, if_neg q]
def ka (a : Nat → Int → Int) (s n t A B : Int) : Nat → Int → Int := ta (ta (ta a 8 (200 * s + n) 1) 6 (601 * s + t) (a 6 (601 * s + t) + A)) 7 (601 * s + t) (a 7 (601 * s + t) + B)
theorem ka_6 (a : Nat → Int → Int) {s n t A B s' t' : Int} (t0 : 0 ≤ t) (t1 : t < 601) (t0' : 0 ≤ t') (t1' : t' < 601) : ka a s n t A B 6 (601 * s' + t') = a 6 (601 * s' + t') + if s' = s ∧ t' = t then A else 0 := by
  unfold ka
  rw [ta_n _ _ _ _ 6 _ (by decide), ta_k, ta_n _ _ _ _ 6 _ (by decide)]
  by_cases q : s' = s ∧ t' = t
  · rw [if_pos (by omega), if_pos q, q.1, q.2]
  · rw [if_neg (by omega), if_neg q, Int.add_zero]
theorem ka_7 (a : Nat → Int → Int) {s n t A B s' t' : Int} (t0 : 0 ≤ t) (t1 : t < 601) (t0' : 0 ≤ t') (t1' : t' < 601) : ka a s n t A B 7 (601 * s' + t') = a 7 (601 * s' + t') + if s' = s ∧ t' = t then B else 0 := by
  unfold ka
  rw [ta_k, ta_n _ _ _ _ 7 _ (by decide), ta_n _ _ _ _ 7 _ (by decide)]
  by_cases q : s' = s ∧ t' = t
  · rw [if_pos (by omega), if_pos q, q.1, q.2]
  · rw [if_neg (by omega), if_neg q, Int.add_zero]
theorem ka_8 (a : Nat → Int → Int) {s n t A B s' n' : Int} (n0 : 0 ≤ n) (n1 : n < 200) (n0' : 0 ≤ n') (n1' : n' < 200) : ka a s n t A B 8 (200 * s' + n') = if s' = s ∧ n' = n then 1 else a 8 (200 * s' + n') := by
  unfold ka
  rw [ta_n _ _ _ _ 8 _ (by decide), ta_n _ _ _ _ 8 _ (by decide), ta_k]
  by_cases q : s' = s ∧ n' = n
  · rw [if_pos (by omega), if_pos q]
  · rw [if_neg (by omega), if_neg q]
theorem ka_qa {s n t A B : Int} (s0 : 0 ≤ s) (s1 : s < v 2) (t0 : 0 ≤ t) (t1 : t < 601) {w t' : Int} (t0' : 0 ≤ t') (t1' : t' < 601) : qa v (ka a s n t A B) w t' = qa v a w t' + if a 3 s = w ∧ t' = t then A else 0 := by
  unfold qa
  rw [pr_upd (f := fa a w t') (g := fa (ka a s n t A B) w t') (s := s) (d := if a 3 s = w ∧ t' = t then A else 0) s0 (by omega) (fun _ => ?_) (fun j j0 j1 j2 => ?_), if_pos s1]
  · show (if a 3 s = w then ka a s n t A B 6 (601 * s + t') else 0) = (if a 3 s = w then a 6 (601 * s + t') else 0) + _
    rw [ka_6 a t0 t1 t0' t1']
    by_cases q : a 3 s = w
    · by_cases q2 : t' = t
      · rw [if_pos q, if_pos q, if_pos ⟨rfl, q2⟩, if_pos ⟨q, q2⟩]
      · rw [if_pos q, if_pos q, if_neg (fun z => q2 z.2), if_neg (fun z => q2 z.2)]
    · rw [if_neg q, if_neg q, if_neg (fun z => q z.1)]; rfl
  · show (if a 3 j = w then ka a s n t A B 6 (601 * j + t') else 0) = (if a 3 j = w then a 6 (601 * j + t') else 0)
    rw [ka_6 a t0 t1 t0' t1', if_neg (show ¬ (j = s ∧ t' = t) from fun z => j2 z.1), Int.add_zero]
theorem ka_qb {s n t A B : Int} (s0 : 0 ≤ s) (s1 : s < v 2) (t0 : 0 ≤ t) (t1 : t < 601) {w t' : Int} (t0' : 0 ≤ t') (t1' : t' < 601) : qb v (ka a s n t A B) w t' = qb v a w t' + if a 3 s = w ∧ t' = t then B else 0 := by
  unfold qb
  rw [pr_upd (f := fb a w t') (g := fb (ka a s n t A B) w t') (s := s) (d := if a 3 s = w ∧ t' = t then B else 0) s0 (by omega) (fun _ => ?_) (fun j j0 j1 j2 => ?_), if_pos s1]
  · show (if a 3 s = w then ka a s n t A B 7 (601 * s + t') else 0) = (if a 3 s = w then a 7 (601 * s + t') else 0) + _
    rw [ka_7 a t0 t1 t0' t1']
    by_cases q : a 3 s = w
    · by_cases q2 : t' = t
      · rw [if_pos q, if_pos q, if_pos ⟨rfl, q2⟩, if_pos ⟨q, q2⟩]
      · rw [if_pos q, if_pos q, if_neg (fun z => q2 z.2), if_neg (fun z => q2 z.2)]
    · rw [if_neg q, if_neg q, if_neg (fun z => q z.1)]; rfl
  · show (if a 3 j = w then ka a s n t A B 7 (601 * j + t') else 0) = (if a 3 j = w then a 7 (601 * j + t') else 0)
    rw [ka_7 a t0 t1 t0' t1', if_neg (show ¬ (j = s ∧ t' = t) from fun z => j2 z.1), Int.add_zero]
theorem ka_iv (I : Iv v a) {s n t A B z : Int} (s0 : 0 ≤ s) (s1 : s < v 2) (n0 : 0 ≤ n) (n1 : n < 200) (t0 : 0 ≤ t) (t1 : t < 601) (B0 : 0 ≤ B) (AB : B ≤ A) (hA : a 6 (601 * s + t) + A ≤ a 5 s) : Iv (tv v 10 z) (ka a s n t A B) := by
  obtain ⟨i1, i2, i9, i15, i24, i26, i33, i39, hs, hq, ht, hp, hg, hr, hpt, hal, hch, hz⟩ := I
  refine ⟨i1, i2, i9, i15, i24, i26, i33, i39, hs, fun s' t' s0' s1' t0' t1' => ?_, fun s' n' s0' s1' n0' n1' => ?_, hp, hg, hr, hpt, hal, hch, hz⟩
  · have h1 := hq s' t' s0' s1' t0' t1'
    have h2 := hs s s0 s1
    show 0 ≤ ka a s n t A B 7 (601 * s' + t') ∧ ka a s n t A B 7 (601 * s' + t') ≤ ka a s n t A B 6 (601 * s' + t') ∧ ka a s n t A B 6 (601 * s' + t') ≤ 1000 ∧ (s' < v 2 → ka a s n t A B 6 (601 * s' + t') ≤ a 5 s') ∧ (v 2 ≤ s' → ka a s n t A B 6 (601 * s' + t') = 0)
    rw [ka_6 a t0 t1 t0' t1', ka_7 a t0 t1 t0' t1']
    by_cases q : s' = s ∧ t' = t
    · rw [if_pos q, if_pos q]
      obtain ⟨rfl, rfl⟩ := q
      omega
    · rw [if_neg q, if_neg q, Int.add_zero, Int.add_zero]; exact h1
  · have h1 := ht s' n' s0' s1' n0' n1'
    show (ka a s n t A B 8 (200 * s' + n') = 0 ∨ ka a s n t A B 8 (200 * s' + n') = 1) ∧ (v 2 ≤ s' → ka a s n t A B 8 (200 * s' + n') = 0)
    rw [ka_8 a n0 n1 n0' n1']
    by_cases q : s' = s ∧ n' = n
    · rw [if_pos q]; exact ⟨Or.inr rfl, fun z => by omega⟩
    · rw [if_neg q]; exact h1
theorem c_take (R : Rep G h ad P) (C : Cc G ad P v a el cn) (I : Iv v a) {s n t A B : Int} (s0 : 0 ≤ s) (s1 : s < v 2) (n0 : 0 ≤ n) (n1 : n < 200) (t0 : 0 ≤ t) (t1 : t < 601) : ∃ h4 h5 P5, F_X8_take G h (ad 8 s.toNat) (iI n) (iI t) (iI A) (iI B) = some h4 ∧ gI h4 (some (ad 10 0)) 10 9 = some (iI (v 10)) ∧ xp G h4 (some (ad 10 0)) 10 9 (.int (iI (v 10 + 1))) = some h5 ∧ Rep G h5 ad P5 ∧ Fr ad ad P P5 ∧ Cc G ad P5 (tv v 10 (v 10 + 1)) (ka a s n t A B) el cn := by
  obtain ⟨z0, z1, z2, z3, z4, z5, z6, z7, z8, z9, z10⟩ := C
  have hs := I.2.2.2.2.2.2.2.2.1 s s0 s1
  have hc := z3 s s0 s1
  have hw := z2 (a 3 s) hs.1 hs.2.1
  obtain ⟨g1, P1, e1, R1, o1, q1⟩ := R.si' hc.2.2 (z := n) n0 n1 (by decide) (iI 1)
  have c1 : P1 8 s.toNat = _ := (q1 8 _ (by omega)).trans hc.1
  have d1 : P1 83 s.toNat = _ := (q1 83 _ (by omega)).trans hc.2.1
  obtain ⟨g2, P2, e2, R2, o2, q2⟩ := R1.si' d1 (z := t) t0 t1 (by decide) (iI (a 6 (601 * s + t) + A))
  have c2 : P2 8 s.toNat = _ := (q2 8 _ (by omega)).trans c1
  have w2 : P2 7 (a 3 s).toNat = _ := (q2 7 _ (by omega)).trans ((q1 7 _ (by omega)).trans hw.1)
  have d2 : P2 71 (a 3 s).toNat = _ := (q2 71 _ (by omega)).trans ((q1 71 _ (by omega)).trans hw.2.1)
  have f2 : P2 72 (a 3 s).toNat = _ := (q2 72 _ (by omega)).trans ((q1 72 _ (by omega)).trans hw.2.2)
  obtain ⟨g3, P3, e3, R3, o3, q3⟩ := R2.si' d2 (z := t) t0 t1 (by decide) (iI (qa v a (a 3 s) t + A))
  have w3 : P3 7 (a 3 s).toNat = _ := (q3 7 _ (by omega)).trans w2
  have f3 : P3 72 (a 3 s).toNat = _ := (q3 72 _ (by omega)).trans f2
  obtain ⟨g4, P4, e4, R4, o4, q4⟩ := R3.si' f3 (z := t) t0 t1 (by decide) (iI (qb v a (a 3 s) t + B))
  have k4 : P4 10 0 = _ := (q4 10 _ (by omega)).trans ((q3 10 _ (by omega)).trans ((q2 10 _ (by omega)).trans ((q1 10 _ (by omega)).trans z0)))
  obtain ⟨g5, P5, e5, R5, o5, q5⟩ := R4.sf' k4 (j := 9) (by simp) (.int (iI (v 10 + 1)))
  have Q : ∀ k i, ¬ (k = 84 ∧ i = s.toNat) → ¬ (k = 83 ∧ i = s.toNat) → ¬ (k = 71 ∧ i = (a 3 s).toNat) → ¬ (k = 72 ∧ i = (a 3 s).toNat) → ¬ (k = 10 ∧ i = 0) → P5 k i = P k i := fun k i n1 n2 n3 n4 n5 => (q5 k i n5).trans ((q4 k i n4).trans ((q3 k i n3).trans ((q2 k i n2).trans (q1 k i n1))))
  refine ⟨g4, g5, P5, ?_, R4.getI k4 (j := 9) rfl, e5, R5, Fr.of fun k i hk => Q k i (by omega) (by omega) (by omega) (by omega) (by omega), ?_⟩
  · have x1 := R1.ai (g := cl 601 (fun t => a 6 (601 * s + t))) d1 (fun _ => rfl) t0 t1 (by decide)
    rw [cl_in t1] at x1
    have x2 := R2.ai (g := cl 601 (qa v a (a 3 s))) d2 (fun _ => rfl) t0 t1 (by decide)
    rw [cl_in t1] at x2
    have x3 := R3.ai (g := cl 601 (qb v a (a 3 s))) f3 (fun _ => rfl) t0 t1 (by decide)
    rw [cl_in t1] at x3
    simp (disch := omega) only [F_X8_take, F_X7_add, R.getR hc.1 (j := 4) rfl, nar_1, e1, R1.getR c1 (j := 3) rfl, x1, e2, R2.getR c2 (j := 1) rfl, R2.obj w2, R2.getR w2 (j := 1) rfl, x2, e3, R3.getR w3 (j := 2) rfl, x3, e4, l_0, l_1, l_2, l_3, l_4, l_5, l_6, l_7, l_8, l_9, l_10, l_12, l_13, l_14, l_15, l_16, l_20, l_21, l_40, l_60, l_78, l_199, l_200, l_300, l_599, l_600, l_601, l_602, l_1000, l_1638, l_10000, l_65536, l_100000, l_1000000, l_m1, L_0, L_1, L_10, L_20, L_1000, L_10000, iI_add, iI_sub, iI_mul, iI_neg, iI_lt, iI_le, iI_eq, iI_max, iI_min, iI_l, jI_i, jI_add, jI_sub, jI_mul, jI_lt, jI_le, jI_eq, kmp_pos, kmp_neg, kmp_le, kmp_ge, if_pos, if_neg, if_true, if_false, true_or, or_true, Option.bind_some, xl, xg]
  · have qa' := fun (w : Int) (y : Int) (y0 : 0 ≤ y) (y1 : y < 601) => ka_qa (v := v) (a := a) (n := n) (A := A) (B := B) (w := w) s0 s1 t0 t1 y0 y1
    have qb' := fun (w : Int) (y : Int) (y0 : 0 ≤ y) (y1 : y < 601) => ka_qb (v := v) (a := a) (n := n) (A := A) (B := B) (w := w) s0 s1 t0 t1 y0 y1
    refine ⟨o5, z1.c fun k q i => Q k i (by omega) (by omega) (by omega) (by omega) (by omega), ?_, ?_, cP.c (P := P) z4 fun k q i => Q k i (by omega) (by omega) (by omega) (by omega) (by omega), cT.c (P := P) z5 fun k q i => Q k i (by omega) (by omega) (by omega) (by omega) (by omega), cA.c (P := P) z6 fun k q i => Q k i (by omega) (by omega) (by omega) (by omega) (by omega), cH.c (P := P) z7 fun k q i => Q k i (by omega) (by omega) (by omega) (by omega) (by omega), cL.c (P := P) z8 fun k q i => Q k i (by omega) (by omega) (by omega) (by omega) (by omega), z9.c fun k q i => Q k i (by omega) (by omega) (by omega) (by omega) (by omega), z10⟩
    · intro w w0 w1
      have hw' := z2 w w0 w1
      refine ⟨(Q 7 _ (by omega) (by omega) (by omega) (by omega) (by omega)).trans hw'.1, ?_, ?_⟩
      · by_cases q : w = a 3 s
        · subst q
          have : P5 71 (a 3 s).toNat = _ := (q5 71 _ (by omega)).trans ((q4 71 _ (by omega)).trans o3)
          rw [this, cl_upd (g' := qa v (ka a s n t A B) (a 3 s)) t0 t1 (fun y y0 y1 => by
            rw [qa' (a 3 s) y y0 y1]
            by_cases q2 : y = t
            · rw [if_pos ⟨rfl, q2⟩, if_pos q2, q2]
            · rw [if_neg (fun z => q2 z.2), if_neg q2, Int.add_zero])]
          rfl
        · rw [Q 71 _ (by omega) (by omega) (by omega) (by omega) (by omega), hw'.2.1, cl_same (g' := qa v (ka a s n t A B) w) (fun y y0 y1 => by
            rw [qa' w y y0 y1, if_neg (fun z => q z.1.symm), Int.add_zero])]
          rfl
      · by_cases q : w = a 3 s
        · subst q
          have : P5 72 (a 3 s).toNat = _ := (q5 72 _ (by omega)).trans o4
          rw [this, cl_upd (g' := qb v (ka a s n t A B) (a 3 s)) t0 t1 (fun y y0 y1 => by
            rw [qb' (a 3 s) y y0 y1]
            by_cases q2 : y = t
            · rw [if_pos ⟨rfl, q2⟩, if_pos q2, q2]
            · rw [if_neg (fun z => q2 z.2), if_neg q2, Int.add_zero])]
          rfl
        · rw [Q 72 _ (by omega) (by omega) (by omega) (by omega) (by omega), hw'.2.2, cl_same (g' := qb v (ka a s n t A B) w) (fun y y0 y1 => by
            rw [qb' w y y0 y1, if_neg (fun z => q z.1.symm), Int.add_zero])]
          rfl
    · intro r r0 r1
      have hr' := z3 r r0 r1
      refine ⟨(Q 8 _ (by omega) (by omega) (by omega) (by omega) (by omega)).trans hr'.1, ?_, ?_⟩
      · by_cases q : r = s
        · subst q
          have : P5 83 r.toNat = _ := (q5 83 _ (by omega)).trans ((q4 83 _ (by omega)).trans ((q3 83 _ (by omega)).trans o2))
          rw [this, cl_upd (g' := fun y => ka a r n t A B 6 (601 * r + y)) t0 t1 (fun y y0 y1 => by
            rw [ka_6 a t0 t1 y0 y1]
            by_cases q2 : y = t
            · rw [if_pos ⟨rfl, q2⟩, if_pos q2, q2]
            · rw [if_neg (fun z => q2 z.2), if_neg q2, Int.add_zero])]
        · rw [Q 83 _ (by omega) (by omega) (by omega) (by omega) (by omega), hr'.2.1, cl_same (g' := fun y => ka a s n t A B 6 (601 * r + y)) (fun y y0 y1 => by
            rw [ka_6 a t0 t1 y0 y1, if_neg (fun z => q z.1), Int.add_zero])]
      · by_cases q : r = s
        · subst q
          have : P5 84 r.toNat = _ := (q5 84 _ (by omega)).trans ((q4 84 _ (by omega)).trans ((q3 84 _ (by omega)).trans ((q2 84 _ (by omega)).trans o1)))
          rw [this, cl_upd (g' := fun y => ka a r n t A B 8 (200 * r + y)) n0 n1 (fun y y0 y1 => by
            rw [ka_8 a n0 n1 y0 y1]
            by_cases q2 : y = n
            · rw [if_pos ⟨rfl, q2⟩, if_pos q2]
            · rw [if_neg (fun z => q2 z.2), if_neg q2])]
        · rw [Q 84 _ (by omega) (by omega) (by omega) (by omega) (by omega), hr'.2.2, cl_same (g' := fun y => ka a s n t A B 8 (200 * r + y)) (fun y y0 y1 => by
            rw [ka_8 a n0 n1 y0 y1, if_neg (fun z => q z.1)])]
end CNT
