/-! steady histories; soonest -/
def stB (L m e t : Int) : Int := e * max (t - max (t - L + 1) m + 1) 0
def stA (L t : Int) : Int := 10 * (t - max (t - L + 1) 0 + 1)
def sto (a : Nat → Int → Int) (p r L m e t : Int) : Int := ovr a p r (stA L t) (stB L m e t)
def Fst (Q : Int → Prop) (hi z : Int) : Prop := (z = -1 ∧ ∀ t, 0 ≤ t → t ≤ hi → ¬ Q t) ∨ (0 ≤ z ∧ z ≤ hi ∧ Q z ∧ ∀ t, 0 ≤ t → t < z → ¬ Q t)
theorem Fst.uniq {Q : Int → Prop} {hi z z' : Int} (h : Fst Q hi z) (h' : Fst Q hi z') : z = z' := by
  rcases h with ⟨h1, h2⟩ | ⟨h1, h2, h3, h4⟩ <;> rcases h' with ⟨g1, g2⟩ | ⟨g1, g2, g3, g4⟩
  · omega
  · exact absurd g3 (h2 z' g1 g2)
  · exact absurd h3 (g2 z h1 h2)
  · rcases Int.lt_trichotomy z z' with q | q | q
    · exact absurd h3 (g4 z h1 q)
    · exact q
    · exact absurd g3 (h4 z' g1 q)
theorem Fst.wide {Q : Int → Prop} {hi hi' z : Int} (h : Fst Q hi z) (h0 : 0 ≤ hi) (hh : hi ≤ hi') (hq : ∀ t, hi < t → t ≤ hi' → Q t → Q hi) : Fst Q hi' z := by
  rcases h with ⟨h1, h2⟩ | ⟨h1, h2, h3, h4⟩
  · refine Or.inl ⟨h1, fun t t0 t1 z => ?_⟩
    by_cases q : t ≤ hi
    · exact h2 t t0 q z
    · exact h2 hi h0 (Int.le_refl _) (hq t (by omega) t1 z)
  · exact Or.inr ⟨h1, by omega, h3, h4⟩
theorem xI_r {α : Type} {h : xH} {o : Option Nat} {c0 c1 b : Nat} {f g : Nat → Option α} (e0 : xc h o c0 = none) (e : xc h o c1 = some b) : xI h o c0 c1 f g = g b := by
  unfold xI
  rw [e0, e]
  rfl
theorem stA_b {L t : Int} (L0 : 1 ≤ L) (L1 : L ≤ 200) (t0 : 0 ≤ t) (t1 : t ≤ 600) : 10 ≤ stA L t ∧ stA L t ≤ 2000 := by unfold stA; omega
theorem stB_b {L m e t : Int} (L0 : 1 ≤ L) (L1 : L ≤ 200) (m0 : 0 ≤ m) (e0 : 0 ≤ e) (e1 : e ≤ 10) (t0 : 0 ≤ t) (t1 : t ≤ 600) : 0 ≤ stB L m e t ∧ stB L m e t ≤ 6010 := by
  unfold stB
  have := mul_b e0 e1 (show 0 ≤ max (t - max (t - L + 1) m + 1) 0 by omega) (show max (t - max (t - L + 1) m + 1) 0 ≤ 601 by omega)
  omega
section SOO
variable {G : Nat → Nat} {h : xH} {ad ad1 : Nat → Nat → Nat} {P P1 : xP} {s : mS} {v : Nat → Int} {a : Nat → Int → Int} {el : Int → Int → Int} {cn : Int → Int}
theorem Rep.nob (R : Rep G h ad P) {k i ci c : Nat} {fs : List Value} (hp : P k i = some (.inr (ci, fs))) (hc : ci ≠ c) : xc h (some (ad k i)) c = none := by
  simp [xc, R.at hp, hc]
theorem Cc.x9 (C : Cc G ad P v a el cn) (I : Iv v a) (q : ∀ k i, k ≠ 9 → ad1 k i = ad k i ∧ P1 k i = P k i) : Cc G ad1 P1 v a el cn := by
  obtain ⟨z0, z2, z3, z4, z5, z6, z7, z8, z9⟩ := C.n.x (ad1 := ad1) (P1 := P1) I (fun k i u => (q k i (by unfold Us at u; omega)).2) (fun k i u => (q k i (by unfold Us at u; omega)).1) (fun i _ => (q 0 i (by decide)).1)
  obtain ⟨l0, l1, l2, l3, l4, l5⟩ := C.2.1
  have Z : ∀ {j kd : Nat} {n : Int} {e : Int → Int}, kd ≠ 9 → Ls G ad P j kd n e → Ls G ad1 P1 j kd n e := fun {j kd n e} hk L => L.x (q 0 j (by decide)).2 (q 50 j (by decide)).2 (q 50 j (by decide)).1 (fun y _ _ => (q kd _ hk).1)
  exact ⟨z0, ⟨Z (by decide) l0, Z (by decide) l1, Z (by decide) l2, Z (by decide) l3, Z (by decide) l4, fun w w0 w1 => Z (by decide) (l5 w w0 w1)⟩, z2, z3, z4, z5, z6, z7, z8, z9, C.2.2.2.2.2.2.2.2.2.2⟩
theorem c_mk9 (R : Rep G h ad P) (C : Cc G ad P v a el cn) (I : Iv v a) (x y : Int) : ∃ h' h'' ad' P', nO h 9 [.int 0, .int 0] = some (ad' 9 0, h') ∧ F_X9_init G h' (ad' 9 0) (iI x) (iI y) = some h'' ∧ Rep G h'' ad' P' ∧ P' 9 0 = some (.inr (9, [.int (iI x), .int (iI y)])) ∧ (∀ k i, k ≠ 9 → ad' k i = ad k i ∧ P' k i = P k i) ∧ Cc G ad' P' v a el cn := by
  obtain ⟨g1, ad1, P1, e1, R1, o1, q1⟩ := R.nO 9 0 9 [.int 0, .int 0]
  obtain ⟨g2, P2, e2, R2, o2, q2⟩ := R1.sf' o1 (j := 0) (by simp) (.int (iI x))
  obtain ⟨g3, P3, e3, R3, o3, q3⟩ := R2.sf' o2 (j := 1) (by simp) (.int (iI y))
  have Q : ∀ k i, k ≠ 9 → ad1 k i = ad k i ∧ P3 k i = P k i := fun k i n => ⟨(q1 k i (by omega)).1, (q3 k i (by omega)).trans ((q2 k i (by omega)).trans (q1 k i (by omega)).2)⟩
  refine ⟨g1, g3, ad1, P3, e1, ?_, R3, o3, Q, C.x9 I Q⟩
  unfold F_X9_init
  rw [e2, Option.bind_some, e3]
  rfl
theorem c_asks9 (R : Rep G h ad P) {m e : Int} {lo t : Int} (l0 : -1000 ≤ lo) (l1 : lo ≤ t + 1) (t0 : 0 ≤ t) (t1 : t ≤ 600) : F_X9_asksIn G h (ad 9 0) (iI lo) (iI t) = some (iI (10 * (t - max lo 0 + 1))) := by
  unfold F_X9_asksIn
  rw [l_0, l_1, l_10, iI_max (by omega) (by omega) (by omega) (by omega), iI_sub, iI_add, iI_max (by omega) (by omega) (by omega) (by omega), iI_mul]
  congr 3; omega
theorem c_bad9 (R : Rep G h ad P) {m e : Int} (h9 : P 9 0 = some (.inr (9, [.int (iI m), .int (iI e)]))) (m0 : 0 ≤ m) (m1 : m ≤ 300) {lo t : Int} (l0 : -1000 ≤ lo) (l1 : lo ≤ 1000) (t0 : 0 ≤ t) (t1 : t ≤ 600) : F_X9_badIn G h (ad 9 0) (iI lo) (iI t) = some (iI (e * max (t - max lo m + 1) 0)) := by
  unfold F_X9_badIn
  rw [R.getI h9 (j := 1) rfl, Option.bind_some, R.getI h9 (j := 0) rfl, Option.bind_some, l_0, l_1, iI_max (by omega) (by omega) (by omega) (by omega), iI_sub, iI_add, iI_max (by omega) (by omega) (by omega) (by omega), iI_mul]
theorem c_isOver9 (R : Rep G h ad P) (C : Cc G ad P v a el cn) (I : Iv v a) {m e : Int} (h9 : P 9 0 = some (.inr (9, [.int (iI m), .int (iI e)]))) (m0 : 0 ≤ m) (m1 : m ≤ 300) (e0 : 0 ≤ e) (e1 : e ≤ 10) {i L t : Int} (i0 : 0 ≤ i) (i1 : i < v 26) (L0 : 1 ≤ L) (L1 : L ≤ 200) (h0 : 0 ≤ t) (h1 : t ≤ 600) : F_X0_isOver G h (ad 1 i.toNat) (ad 9 0) (iI t) (iI L) = some (iI (sto a (a 27 i) (a 30 i) L m e t)) := by
  have hA := C.2.2.2.2.2.2.1 i i0 i1
  have hi := I.2.2.2.2.2.2.2.2.2.2.2.2.2.2.2.1 i i0 i1
  have hp' := I.2.2.2.2.2.2.2.2.2.2.2.1 (a 27 i) hi.1 hi.2.1
  have hc := C.2.2.2.2.1 (a 27 i) hi.1 hi.2.1
  have ba := stA_b L0 L1 h0 h1
  have bb := stB_b L0 L1 m0 e0 e1 h0 h1
  have ea : F_X9_asksIn G h (ad 9 0) (iI (t - L + 1)) (iI t) = some (iI (stA L t)) := c_asks9 R (m := m) (e := e) (by omega) (by omega) h0 h1
  have eb : F_X9_badIn G h (ad 9 0) (iI (t - L + 1)) (iI t) = some (iI (stB L m e t)) := c_bad9 R h9 m0 m1 (by omega) (by omega) h0 h1
  unfold sto ovr
  generalize stA L t = A at *
  generalize stB L m e t = B at *
  have m1 := mul_b (show 0 ≤ a 30 i by omega) (show a 30 i ≤ 1000 by omega) (show 0 ≤ 1000 - a 18 (a 27 i) by omega) (show 1000 - a 18 (a 27 i) ≤ 1000 by omega)
  have m2 := mul_b m1.1 m1.2 (show 0 ≤ A by omega) (show A ≤ 9616000 by omega)
  unfold F_X0_isOver
  by_cases c : 10000 * B ≤ a 30 i * (1000 - a 18 (a 27 i)) * A
  · rw [if_pos c]
    simp (disch := omega) only [xI_r (R.nob (c := 7) h9 (by decide)) (R.obj h9), iI_sub, iI_add, l_1, ea, eb, R.getI hA (j := 3) rfl, R.getR hA (j := 0) rfl, R.obj hc.1, c_slack R C hi.1 hi.2.1, l_0, l_1, l_2, l_3, l_4, l_5, l_6, l_7, l_8, l_9, l_10, l_12, l_13, l_14, l_15, l_16, l_20, l_21, l_40, l_60, l_78, l_199, l_200, l_300, l_599, l_600, l_601, l_602, l_1000, l_1638, l_10000, l_65536, l_100000, l_1000000, l_m1, L_0, L_1, L_10, L_20, L_1000, L_10000, iI_add, iI_sub, iI_mul, iI_neg, iI_lt, iI_le, iI_eq, iI_max, iI_min, iI_l, jI_i, jI_add, jI_sub, jI_mul, jI_lt, jI_le, jI_eq, kmp_pos, kmp_neg, kmp_le, kmp_ge, if_pos, if_neg, if_true, if_false, true_or, or_true, Option.bind_some, xl, xg]
  · rw [if_neg c]
    simp (disch := omega) only [xI_r (R.nob (c := 7) h9 (by decide)) (R.obj h9), iI_sub, iI_add, l_1, ea, eb, R.getI hA (j := 3) rfl, R.getR hA (j := 0) rfl, R.obj hc.1, c_slack R C hi.1 hi.2.1, l_0, l_1, l_2, l_3, l_4, l_5, l_6, l_7, l_8, l_9, l_10, l_12, l_13, l_14, l_15, l_16, l_20, l_21, l_40, l_60, l_78, l_199, l_200, l_300, l_599, l_600, l_601, l_602, l_1000, l_1638, l_10000, l_65536, l_100000, l_1000000, l_m1, L_0, L_1, L_10, L_20, L_1000, L_10000, iI_add, iI_sub, iI_mul, iI_neg, iI_lt, iI_le, iI_eq, iI_max, iI_min, iI_l, jI_i, jI_add, jI_sub, jI_mul, jI_lt, jI_le, jI_eq, kmp_pos, kmp_neg, kmp_le, kmp_ge, if_pos, if_neg, if_true, if_false, true_or, or_true, Option.bind_some, xl, xg]
theorem sto_01 (a : Nat → Int → Int) (p r L m e t : Int) : sto a p r L m e t = 0 ∨ sto a p r L m e t = 1 := ovr_01 _ _ _ _ _
theorem c_rings9 (R : Rep G h ad P) (C : Cc G ad P v a el cn) (I : Iv v a) {m e : Int} (h9 : P 9 0 = some (.inr (9, [.int (iI m), .int (iI e)]))) (m0 : 0 ≤ m) (m1 : m ≤ 300) (e0 : 0 ≤ e) (e1 : e ≤ 10) {i t : Int} (i0 : 0 ≤ i) (i1 : i < v 26) (h0 : 0 ≤ t) (h1 : t ≤ 600) : F_X0_ringsIn G h (ad 1 i.toNat) (ad 9 0) (iI t) = some (iI (if sto a (a 27 i) (a 30 i) (a 28 i) m e t = 0 then 0 else sto a (a 27 i) (a 30 i) (a 29 i) m e t)) := by
  have hA := C.2.2.2.2.2.2.1 i i0 i1
  have hi := I.2.2.2.2.2.2.2.2.2.2.2.2.2.2.2.1 i i0 i1
  have f1 := c_isOver9 R C I h9 m0 m1 e0 e1 i0 i1 (L := a 28 i) (by omega) (by omega) h0 h1
  have f2 := c_isOver9 R C I h9 m0 m1 e0 e1 i0 i1 (L := a 29 i) (by omega) (by omega) h0 h1
  unfold F_X0_ringsIn
  rcases sto_01 a (a 27 i) (a 30 i) (a 28 i) m e t with q | q
  · rw [q] at f1 ⊢
    simp (disch := omega) only [R.getI hA (j := 1) rfl, R.obj hA, f1, l_0, l_1, l_2, l_3, l_4, l_5, l_6, l_7, l_8, l_9, l_10, l_12, l_13, l_14, l_15, l_16, l_20, l_21, l_40, l_60, l_78, l_199, l_200, l_300, l_599, l_600, l_601, l_602, l_1000, l_1638, l_10000, l_65536, l_100000, l_1000000, l_m1, L_0, L_1, L_10, L_20, L_1000, L_10000, iI_add, iI_sub, iI_mul, iI_neg, iI_lt, iI_le, iI_eq, iI_max, iI_min, iI_l, jI_i, jI_add, jI_sub, jI_mul, jI_lt, jI_le, jI_eq, kmp_pos, kmp_neg, kmp_le, kmp_ge, if_pos, if_neg, if_true, if_false, true_or, or_true, Option.bind_some, xl, xg]
  · rw [q] at f1 ⊢
    rcases sto_01 a (a 27 i) (a 30 i) (a 29 i) m e t with q2 | q2
    · rw [q2] at f2 ⊢
      simp (disch := omega) only [R.getI hA (j := 1) rfl, R.getI hA (j := 2) rfl, R.obj hA, f1, f2, l_0, l_1, l_2, l_3, l_4, l_5, l_6, l_7, l_8, l_9, l_10, l_12, l_13, l_14, l_15, l_16, l_20, l_21, l_40, l_60, l_78, l_199, l_200, l_300, l_599, l_600, l_601, l_602, l_1000, l_1638, l_10000, l_65536, l_100000, l_1000000, l_m1, L_0, L_1, L_10, L_20, L_1000, L_10000, iI_add, iI_sub, iI_mul, iI_neg, iI_lt, iI_le, iI_eq, iI_max, iI_min, iI_l, jI_i, jI_add, jI_sub, jI_mul, jI_lt, jI_le, jI_eq, kmp_pos, kmp_neg, kmp_le, kmp_ge, if_pos, if_neg, if_true, if_false, true_or, or_true, Option.bind_some, xl, xg]
    · rw [q2] at f2 ⊢
      simp (disch := omega) only [R.getI hA (j := 1) rfl, R.getI hA (j := 2) rfl, R.obj hA, f1, f2, l_0, l_1, l_2, l_3, l_4, l_5, l_6, l_7, l_8, l_9, l_10, l_12, l_13, l_14, l_15, l_16, l_20, l_21, l_40, l_60, l_78, l_199, l_200, l_300, l_599, l_600, l_601, l_602, l_1000, l_1638, l_10000, l_65536, l_100000, l_1000000, l_m1, L_0, L_1, L_10, L_20, L_1000, L_10000, iI_add, iI_sub, iI_mul, iI_neg, iI_lt, iI_le, iI_eq, iI_max, iI_min, iI_l, jI_i, jI_add, jI_sub, jI_mul, jI_lt, jI_le, jI_eq, kmp_pos, kmp_neg, kmp_le, kmp_ge, if_pos, if_neg, if_true, if_false, true_or, or_true, Option.bind_some, xl, xg]
theorem r_steady (R : Rl s v a) (I : Iv v a) {p L r t m e : Int} (p0 : 0 ≤ p) (p1 : p < v 15) (L0 : 1 ≤ L) (L1 : L ≤ 200) (r0 : 0 ≤ r) (r1 : r ≤ 1000) (h0 : 0 ≤ t) (h1 : t ≤ 600) (m0 : 0 ≤ m) (m1 : m ≤ 300) (e0 : 0 ≤ e) (e1 : e ≤ 10) : FM_isSteadyWorse s (iI p) (iI L) (iI r) (iI t) (iI m) (iI e) = some (iI (sto a p r L m e t)) := by
  have ba := stA_b L0 L1 h0 h1
  have bb := stB_b L0 L1 m0 e0 e1 h0 h1
  have key : ∀ lo, lo = max (t - L + 1) 0 → FM_isSteadyWorse_28 s (iI p) (iI r) (iI t) (iI m) (iI e) (iI lo) xN 0 (iI lo) = some (iI (sto a p r L m e t)) := by
    intro lo hlo
    refine up_eq (fun n (q : Int32 × Int32) => FM_isSteadyWorse_28 s (iI p) (iI r) (iI t) (iI m) (iI e) (iI lo) n q.1 q.2) (fun j q => lo ≤ j ∧ q = (iI (e * max (j - max lo m) 0), iI j)) _ (t + 1) ?_ ?_ xN lo (0, iI lo) ⟨by omega, by
      have : max (lo - max lo m) 0 = 0 := by omega
      rw [this, Int.mul_zero]; rfl⟩ (by omega) (by unfold xN; omega)
    · rintro n j q ⟨hj, rfl⟩ hlt
      right
      refine ⟨_, ⟨by omega, rfl⟩, ?_⟩
      dsimp only
      by_cases c : j < m
      · have e2 : max (j + 1 - max lo m) 0 = max (j - max lo m) 0 := by omega
        rw [e2]
        simp (disch := omega) only [FM_isSteadyWorse_28, Int.add_zero, l_0, l_1, l_2, l_3, l_4, l_5, l_6, l_7, l_8, l_9, l_10, l_12, l_13, l_14, l_15, l_16, l_20, l_21, l_40, l_60, l_78, l_199, l_200, l_300, l_599, l_600, l_601, l_602, l_1000, l_1638, l_10000, l_65536, l_100000, l_1000000, l_m1, L_0, L_1, L_10, L_20, L_1000, L_10000, iI_add, iI_sub, iI_mul, iI_neg, iI_lt, iI_le, iI_eq, iI_max, iI_min, iI_l, jI_i, jI_add, jI_sub, jI_mul, jI_lt, jI_le, jI_eq, kmp_pos, kmp_neg, kmp_le, kmp_ge, if_pos, if_neg, if_true, if_false, true_or, or_true, Option.bind_some, xl, xg]
      · have e2 : max (j + 1 - max lo m) 0 = max (j - max lo m) 0 + 1 := by omega
        rw [e2, Int.mul_add, Int.mul_one]
        simp (disch := omega) only [FM_isSteadyWorse_28, l_0, l_1, l_2, l_3, l_4, l_5, l_6, l_7, l_8, l_9, l_10, l_12, l_13, l_14, l_15, l_16, l_20, l_21, l_40, l_60, l_78, l_199, l_200, l_300, l_599, l_600, l_601, l_602, l_1000, l_1638, l_10000, l_65536, l_100000, l_1000000, l_m1, L_0, L_1, L_10, L_20, L_1000, L_10000, iI_add, iI_sub, iI_mul, iI_neg, iI_lt, iI_le, iI_eq, iI_max, iI_min, iI_l, jI_i, jI_add, jI_sub, jI_mul, jI_lt, jI_le, jI_eq, kmp_pos, kmp_neg, kmp_le, kmp_ge, if_pos, if_neg, if_true, if_false, true_or, or_true, Option.bind_some, xl, xg]
    · rintro n q ⟨hj, rfl⟩
      dsimp only
      have e2 : max (t + 1 - max lo m) 0 = max (t - max (t - L + 1) m + 1) 0 := by omega
      have e3 : 10 * (t - lo + 1) = stA L t := by unfold stA; rw [hlo]
      have e4 := r_isWorse R I (r := r) (A := stA L t) (B := stB L m e t) p0 p1 r0 r1 (by omega) (by omega) (by omega) (by omega)
      have e5 : e * max (t + 1 - max lo m) 0 = stB L m e t := by unfold stB; rw [e2]
      rw [e5]
      unfold FM_isSteadyWorse_28
      rw [if_pos (by rw [iI_lt (by omega) (by omega) (by omega) (by omega)]; omega), l_1, iI_sub, iI_add, iI_l (by omega) (by omega), L_10, jI_mul, e3, iI_l (by omega) (by omega), e4, Option.bind_some]
      unfold xg
      refine if_pos ?_
      rcases ovr_01 a p r (stA L t) (stB L m e t) with q | q
      · rw [q]; exact Or.inl rfl
      · rw [q]; exact Or.inr rfl
  unfold FM_isSteadyWorse
  rw [l_0, l_1, iI_sub, iI_add]
  by_cases c : 0 ≤ t - L + 1
  · rw [if_pos (by rw [iI_le (by omega) (by omega) (by omega) (by omega)]; exact c)]
    exact key _ (by omega)
  · rw [if_neg (by rw [iI_le (by omega) (by omega) (by omega) (by omega)]; exact c)]
    exact key 0 (by omega)
/-- the alarm with spans A and B and rate r rings over the steady history -/
def rgs (a : Nat → Int → Int) (p r A B m e t : Int) : Prop := sto a p r A m e t = 1 ∧ sto a p r B m e t = 1
theorem sto_const {p r L m e t t' : Int} (ht : m + L ≤ t + 1) (ht' : m + L ≤ t' + 1) (m0 : 0 ≤ m) (L0 : 1 ≤ L) : sto a p r L m e t = sto a p r L m e t' := by
  have e1 : stA L t = stA L t' := by unfold stA; omega
  have e2 : stB L m e t = stB L m e t' := by
    unfold stB
    have : max (t - max (t - L + 1) m + 1) 0 = max (t' - max (t' - L + 1) m + 1) 0 := by omega
    rw [this]
  unfold sto
  rw [e1, e2]
theorem rgs_m (I : Iv v a) {p r A B m e t : Int} (p0 : 0 ≤ p) (p1 : p < v 15) (r0 : 0 ≤ r) (B0 : 1 ≤ B) (B1 : B ≤ 200) (m0 : 0 ≤ m) (e0 : 0 ≤ e) (t0 : 0 ≤ t) (t1 : t ≤ 600) (h : rgs a p r A B m e t) : m ≤ t := by
  have hp' := I.2.2.2.2.2.2.2.2.2.2.2.1 p p0 p1
  have ba := stA_b B0 B1 t0 t1
  have h2 := h.2
  unfold sto ovr at h2
  by_cases c : 10000 * stB B m e t ≤ r * (1000 - a 18 p) * stA B t
  · rw [if_pos c] at h2; omega
  · have m1 := Int.mul_nonneg r0 (show 0 ≤ 1000 - a 18 p by omega)
    have m2 := Int.mul_nonneg m1 (show 0 ≤ stA B t by omega)
    have b0 : 0 < stB B m e t := by omega
    by_cases q : m ≤ t
    · exact q
    · have z : max (t - max (t - B + 1) m + 1) 0 = 0 := by omega
      unfold stB at b0
      rw [z, Int.mul_zero] at b0
      omega
theorem r_soonestOf (R : Rl s v a) (I : Iv v a) {p A B r m e : Int} (p0 : 0 ≤ p) (p1 : p < v 15) (A0 : 1 ≤ A) (A1 : A ≤ 200) (B0 : 1 ≤ B) (BA : B ≤ A) (r0 : 0 ≤ r) (r1 : r ≤ 1000) (m0 : 0 ≤ m) (m1 : m ≤ 300) (e0 : 0 ≤ e) (e1 : e ≤ 10) : ∃ z, FM_soonestOf s (iI p) (iI A) (iI B) (iI r) (iI m) (iI e) = some (iI z) ∧ Fst (rgs a p r A B m e) 599 z := by
  have key : ∀ hi, 0 ≤ hi → hi ≤ 599 → ∃ z, FM_soonestOf_25 s (iI p) (iI A) (iI B) (iI r) (iI m) (iI e) (iI hi) xN 0 = some (iI z) ∧ Fst (rgs a p r A B m e) hi z := by
    intro hi h0 h1
    have := up_loop (fun n (q : Int32) => FM_soonestOf_25 s (iI p) (iI A) (iI B) (iI r) (iI m) (iI e) (iI hi) n q) (fun j q => 0 ≤ j ∧ q = iI j ∧ ∀ t, 0 ≤ t → t < j → ¬ rgs a p r A B m e t) (fun r' => ∃ z, r' = iI z ∧ Fst (rgs a p r A B m e) hi z) (hi + 1) ?_ ?_ xN 0 0 ⟨by omega, rfl, fun t _ _ => by omega⟩ (by omega) (by unfold xN; omega)
    · obtain ⟨r', e, z, rfl, hz⟩ := this
      exact ⟨z, e, hz⟩
    · rintro n j q ⟨hj, rfl, hq⟩ hlt
      have fB := r_steady R I (L := B) (r := r) (t := j) (m := m) (e := e) p0 p1 B0 (by omega) r0 r1 hj (by omega) m0 m1 e0 e1
      have fA := r_steady R I (L := A) (r := r) (t := j) (m := m) (e := e) p0 p1 A0 A1 r0 r1 hj (by omega) m0 m1 e0 e1
      have c0 : ¬ iI hi < iI j := by rw [iI_lt (by omega) (by omega) (by omega) (by omega)]; omega
      have nx : ¬ rgs a p r A B m e j → ∃ a', (0 ≤ j + 1 ∧ a' = iI (j + 1) ∧ ∀ t, 0 ≤ t → t < j + 1 → ¬ rgs a p r A B m e t) ∧ a' = iI (j + 1) := fun hn => ⟨_, ⟨by omega, rfl, fun t t0 t1 => if z : t = j then z ▸ hn else hq t t0 (by omega)⟩, rfl⟩
      rcases sto_01 a p r B m e j with q | q
      · right
        obtain ⟨a', h1, rfl⟩ := nx (fun z => by have := z.2; omega)
        refine ⟨_, h1, ?_⟩
        rw [q] at fB
        conv => lhs; unfold FM_soonestOf_25
        rw [if_neg c0, fB, Option.bind_some, if_pos (by decide), l_1, iI_add]
        rfl
      · rw [q] at fB
        rcases sto_01 a p r A m e j with q2 | q2
        · right
          obtain ⟨a', h1, rfl⟩ := nx (fun z => by have := z.1; omega)
          refine ⟨_, h1, ?_⟩
          rw [q2] at fA
          conv => lhs; unfold FM_soonestOf_25
          rw [if_neg c0, fB, Option.bind_some, if_neg (by decide), fA, Option.bind_some, if_pos (by decide), l_1, iI_add]
          rfl
        · left
          refine ⟨_, ?_, j, rfl, Or.inr ⟨hj, by omega, ⟨q2, q⟩, hq⟩⟩
          rw [q2] at fA
          unfold FM_soonestOf_25
          rw [if_neg c0, fB, Option.bind_some, if_neg (by decide), fA, Option.bind_some, if_neg (by decide)]
    · rintro n q ⟨hj, rfl, hq⟩
      refine ⟨_, ?_, -1, rfl, Or.inl ⟨rfl, fun t t0 t1 => hq t t0 (by omega)⟩⟩
      unfold FM_soonestOf_25
      rw [if_pos (by rw [iI_lt (by omega) (by omega) (by omega) (by omega)]; omega)]
      rfl
  unfold FM_soonestOf
  rw [l_599, iI_add]
  by_cases c : 599 ≤ m + A
  · rw [if_pos (by rw [iI_le (by omega) (by omega) (by omega) (by omega)]; exact c)]
    exact key 599 (by omega) (by omega)
  · rw [if_neg (by rw [iI_le (by omega) (by omega) (by omega) (by omega)]; exact c)]
    obtain ⟨z, ez, hz⟩ := key (m + A) (by omega) (by omega)
    refine ⟨z, ez, hz.wide (by omega) (by omega) (fun t t0 t1 ht => ?_)⟩
    exact ⟨(sto_const (L := A) (t := m + A) (t' := t) (by omega) (by omega) m0 A0).trans ht.1, (sto_const (L := B) (t := m + A) (t' := t) (by omega) (by omega) m0 B0).trans ht.2⟩
end SOO
