/-! made -/
def pf (a : Nat → Int → Int) (n f i : Int) : Int := if f = 0 then a 25 i else n - a 25 i
/-- y can be met: k * y ≤ the sum of the least of y and the parts -/
def Mt (a : Nat → Int → Int) (n f c k y : Int) : Prop := k * y ≤ pr (fun i => min (pf a n f i) y) c
def Gm (a : Nat → Int → Int) (n f c k g : Int) : Prop := 0 ≤ g ∧ g ≤ n ∧ Mt a n f c k g ∧ ∀ y, g < y → y ≤ n → ¬ Mt a n f c k y
theorem Gm.uniq {a : Nat → Int → Int} {n f c k g g' : Int} (h : Gm a n f c k g) (h' : Gm a n f c k g') : g = g' := by
  rcases Int.lt_trichotomy g g' with q | q | q
  · exact absurd h'.2.2.1 (h.2.2.2 g' q h'.2.1)
  · exact q
  · exact absurd h.2.2.1 (h'.2.2.2 g q h.2.1)
theorem mul_div_le {x y k s : Int} (hx : 0 < x) (h : x * (k * y) ≤ x * s) : k * y ≤ s := Int.le_of_mul_le_mul_left h hx
theorem min_mul {p y z : Int} (hp : 0 ≤ p) (z0 : 0 ≤ z) (zy : z ≤ y) : min p y * z ≤ min p z * y := by
  by_cases q : p ≤ z
  · rw [Int.min_eq_left (by omega), Int.min_eq_left q]
    exact Int.mul_le_mul_of_nonneg_left zy hp
  · rw [Int.min_eq_right (show z ≤ p by omega), Int.mul_comm z y]
    exact Int.mul_le_mul_of_nonneg_right (by omega) z0
theorem pr_mul (f : Int → Int) (k : Int) {z : Int} (hz : 0 ≤ z) : pr (fun i => f i * k) z = pr f z * k := by
  refine pr_ind (Q := fun z => pr (fun i => f i * k) z = pr f z * k) (by rw [pr_0, pr_0, Int.zero_mul]) (fun z hz ih => ?_) z hz
  rw [pr_1 _ hz, ih, pr_1 _ hz, Int.add_mul]
theorem Mt.down {a : Nat → Int → Int} {n f c k y z : Int} (hc : 0 ≤ c) (hp : ∀ i, 0 ≤ i → i < c → 0 ≤ pf a n f i) (z0 : 0 ≤ z) (zy : z ≤ y) (h : Mt a n f c k y) : Mt a n f c k z := by
  unfold Mt at *
  by_cases q : y = 0
  · have : z = y := by omega
    rw [this]; exact h
  · have b := pr_mono (f := fun i => min (pf a n f i) y * z) (g := fun i => min (pf a n f i) z * y) (x := 0) (y := c) (by omega) hc (fun j j0 j1 => min_mul (hp j j0 j1) z0 zy)
    rw [pr_0, pr_0, pr_mul _ _ hc, pr_mul _ _ hc] at b
    have b2 := Int.mul_le_mul_of_nonneg_right h z0
    apply mul_div_le (x := y) (by omega)
    have e1 : k * y * z = y * (k * z) := by rw [Int.mul_comm k y, Int.mul_assoc]
    have e2 : pr (fun i => min (pf a n f i) z) c * y = y * pr (fun i => min (pf a n f i) z) c := Int.mul_comm _ _
    omega
theorem shr_2 : ∀ j : Fin 17, iI (2 ^ (j.val + 1)) >>> ((1 : Int32) &&& 31) = iI (2 ^ j.val) := by decide
theorem shr_1 : iI 1 >>> ((1 : Int32) &&& 31) = iI 0 := by decide
section MAD
variable {G : Nat → Nat} {h : xH} {ad : Nat → Nat → Nat} {P : xP} {s : mS} {v : Nat → Int} {a : Nat → Int → Int} {el : Int → Int → Int} {cn : Int → Int}
theorem pf_b (I : Iv v a) {n f : Int} (n1 : n ≤ 100000) (hn : ∀ i, 0 ≤ i → i < v 24 → a 25 i ≤ n) : ∀ i, 0 ≤ i → i < v 24 → 0 ≤ pf a n f i ∧ pf a n f i ≤ 100000 := by
  intro i i0 i1
  have h1 := hn i i0 i1
  have h2 := I.2.2.2.2.2.2.2.2.2.2.2.2.2.2.1 i i0 i1
  unfold pf; split <;> omega
theorem mt_b (I : Iv v a) {n f y : Int} (n1 : n ≤ 100000) (hn : ∀ i, 0 ≤ i → i < v 24 → a 25 i ≤ n) (y0 : 0 ≤ y) (y1 : y ≤ 100000) {c : Int} (c0 : 0 ≤ c) (c1 : c ≤ v 24) : 0 ≤ pr (fun i => min (pf a n f i) y) c ∧ pr (fun i => min (pf a n f i) y) c ≤ 1000000 := by
  have i24 := I.2.2.2.2.1
  have b1 := pr_ge (f := fun i => min (pf a n f i) y) (x := 0) (y := c) (c := 0) (by omega) c0 (fun j j0 j1 => by
    have := pf_b I (f := f) n1 hn j j0 (by omega)
    omega)
  have b2 := pr_le (f := fun i => min (pf a n f i) y) (x := 0) (y := c) (c := 100000) (by omega) c0 (fun j j0 j1 => by
    have := pf_b I (f := f) n1 hn j j0 (by omega)
    omega)
  simp only [pr_0] at b1 b2
  omega
theorem c_canMeet (R : Rep G h ad P) (C : Cc G ad P v a el cn) (I : Iv v a) {n f k y : Int} (n0 : 0 ≤ n) (n1 : n ≤ 100000) (hf : f = 0 ∨ f = 1) (k0 : 0 ≤ k) (k1 : k ≤ 10) (y0 : 0 ≤ y) (y1 : y ≤ 100000) (hn : ∀ i, 0 ≤ i → i < v 24 → a 25 i ≤ n) : (Mt a n f (v 24) k y → F_X4_canMeet G h (ad 4 0) (iI n) (iI y) (iI k) (iI f) = some (iI 1)) ∧ (¬ Mt a n f (v 24) k y → F_X4_canMeet G h (ad 4 0) (iI n) (iI y) (iI k) (iI f) = some (iI 0)) := by
  have hT := C.2.2.2.2.2.1
  have i24 := I.2.2.2.2.1
  have ky := mul_b k0 k1 y0 y1
  have key : ∀ r, (∀ m, F_X4_canMeet_6 G h (ad 4 0) (iI n) (iI y) (iI k) (iI f) (m + 1) (iI (pr (fun i => min (pf a n f i) y) (v 24))) (iI (v 24)) = some (iI r)) → F_X4_canMeet G h (ad 4 0) (iI n) (iI y) (iI k) (iI f) = some (iI r) := by
    intro r hr
    unfold F_X4_canMeet
    refine up_eq (fun m (q : Int32 × Int32) => F_X4_canMeet_6 G h (ad 4 0) (iI n) (iI y) (iI k) (iI f) m q.1 q.2) (fun i q => 0 ≤ i ∧ q = (iI (pr (fun i => min (pf a n f i) y) i), iI i)) _ (v 24) ?_ ?_ xN 0 (0, 0) ⟨by omega, rfl⟩ (by omega) (by unfold xN; omega)
    · rintro m i q ⟨hi, rfl⟩ hlt
      right
      refine ⟨_, ⟨by omega, rfl⟩, ?_⟩
      have hb := mt_b I (f := f) n1 hn y0 y1 hi (show i ≤ v 24 by omega)
      have hp := pf_b I (f := f) n1 hn i hi hlt
      have hp2 := I.2.2.2.2.2.2.2.2.2.2.2.2.2.2.1 i hi hlt
      dsimp only
      simp only [pr_1 _ hi]
      rcases hf with rfl | rfl
      · have e : pf a n 0 i = a 25 i := if_pos rfl
        rw [e] at hp ⊢
        simp (disch := omega) only [F_X4_canMeet_6, R.getI hT.1 (j := 1) rfl, R.getR hT.1 (j := 0) rfl, R.ai (g := fun t => a 25 t) hT.2 (fun _ => rfl), l_0, l_1, l_2, l_3, l_4, l_5, l_6, l_7, l_8, l_9, l_10, l_12, l_13, l_14, l_15, l_16, l_20, l_21, l_40, l_60, l_78, l_199, l_200, l_300, l_599, l_600, l_601, l_602, l_1000, l_1638, l_10000, l_65536, l_100000, l_1000000, l_m1, L_0, L_1, L_10, L_20, L_1000, L_10000, iI_add, iI_sub, iI_mul, iI_neg, iI_lt, iI_le, iI_eq, iI_max, iI_min, iI_l, jI_i, jI_add, jI_sub, jI_mul, jI_lt, jI_le, jI_eq, kmp_pos, kmp_neg, kmp_le, kmp_ge, if_pos, if_neg, if_true, if_false, true_or, or_true, Option.bind_some, xl, xg]
      · have e : pf a n 1 i = n - a 25 i := if_neg (by decide)
        rw [e] at hp ⊢
        simp (disch := omega) only [F_X4_canMeet_6, R.getI hT.1 (j := 1) rfl, R.getR hT.1 (j := 0) rfl, R.ai (g := fun t => a 25 t) hT.2 (fun _ => rfl), l_0, l_1, l_2, l_3, l_4, l_5, l_6, l_7, l_8, l_9, l_10, l_12, l_13, l_14, l_15, l_16, l_20, l_21, l_40, l_60, l_78, l_199, l_200, l_300, l_599, l_600, l_601, l_602, l_1000, l_1638, l_10000, l_65536, l_100000, l_1000000, l_m1, L_0, L_1, L_10, L_20, L_1000, L_10000, iI_add, iI_sub, iI_mul, iI_neg, iI_lt, iI_le, iI_eq, iI_max, iI_min, iI_l, jI_i, jI_add, jI_sub, jI_mul, jI_lt, jI_le, jI_eq, kmp_pos, kmp_neg, kmp_le, kmp_ge, if_pos, if_neg, if_true, if_false, true_or, or_true, Option.bind_some, xl, xg]
    · rintro m q ⟨hi, rfl⟩
      exact hr m
  have hb := mt_b I (f := f) n1 hn y0 y1 i24.1 (Int.le_refl _)
  unfold Mt
  constructor
  · intro hm
    refine key 1 fun m => ?_
    simp (disch := omega) only [F_X4_canMeet_6, R.getI hT.1 (j := 1) rfl, l_0, l_1, l_2, l_3, l_4, l_5, l_6, l_7, l_8, l_9, l_10, l_12, l_13, l_14, l_15, l_16, l_20, l_21, l_40, l_60, l_78, l_199, l_200, l_300, l_599, l_600, l_601, l_602, l_1000, l_1638, l_10000, l_65536, l_100000, l_1000000, l_m1, L_0, L_1, L_10, L_20, L_1000, L_10000, iI_add, iI_sub, iI_mul, iI_neg, iI_lt, iI_le, iI_eq, iI_max, iI_min, iI_l, jI_i, jI_add, jI_sub, jI_mul, jI_lt, jI_le, jI_eq, kmp_pos, kmp_neg, kmp_le, kmp_ge, if_pos, if_neg, if_true, if_false, true_or, or_true, Option.bind_some, xl, xg]
  · intro hm
    refine key 0 fun m => ?_
    simp (disch := omega) only [F_X4_canMeet_6, R.getI hT.1 (j := 1) rfl, l_0, l_1, l_2, l_3, l_4, l_5, l_6, l_7, l_8, l_9, l_10, l_12, l_13, l_14, l_15, l_16, l_20, l_21, l_40, l_60, l_78, l_199, l_200, l_300, l_599, l_600, l_601, l_602, l_1000, l_1638, l_10000, l_65536, l_100000, l_1000000, l_m1, L_0, L_1, L_10, L_20, L_1000, L_10000, iI_add, iI_sub, iI_mul, iI_neg, iI_lt, iI_le, iI_eq, iI_max, iI_min, iI_l, jI_i, jI_add, jI_sub, jI_mul, jI_lt, jI_le, jI_eq, kmp_pos, kmp_neg, kmp_le, kmp_ge, if_pos, if_neg, if_true, if_false, true_or, or_true, Option.bind_some, xl, xg]
theorem c_most (R : Rep G h ad P) (C : Cc G ad P v a el cn) (I : Iv v a) {n f k : Int} (n0 : 0 ≤ n) (n1 : n ≤ 100000) (hf : f = 0 ∨ f = 1) (k0 : 0 ≤ k) (k1 : k ≤ 10) (hn : ∀ i, 0 ≤ i → i < v 24 → a 25 i ≤ n) : ∃ g, F_X4_mostMeeting G h (ad 4 0) (iI n) (iI k) (iI f) = some (iI g) ∧ Gm a n f (v 24) k g := by
  have hT := C.2.2.2.2.2.1
  have i24 := I.2.2.2.2.1
  have hpf := fun i i0 i1 => (pf_b I (f := f) n1 hn i i0 i1).1
  have bit : ∀ (m : Nat) (x4 B : Int) (y : Int32), 0 ≤ x4 → x4 ≤ n → 1 ≤ B → B ≤ 65536 → Mt a n f (v 24) k x4 → (∀ y, x4 + 2 * B ≤ y → y ≤ n → ¬ Mt a n f (v 24) k y) → iI B >>> ((1 : Int32) &&& 31) = y → ∃ x4', 0 ≤ x4' ∧ x4' ≤ n ∧ Mt a n f (v 24) k x4' ∧ (∀ y, x4' + B ≤ y → y ≤ n → ¬ Mt a n f (v 24) k y) ∧ F_X4_mostMeeting_7 G h (ad 4 0) (iI n) (iI k) (iI f) (m + 1) (iI x4) (iI B) = F_X4_mostMeeting_7 G h (ad 4 0) (iI n) (iI k) (iI f) m (iI x4') y := by
    intro m x4 B y h0 h1 h2 h3 h4 h5 hy
    have c0 : ¬ iI B ≤ 0 := by rw [l_0, iI_le (by omega) (by omega) (by omega) (by omega)]; omega
    by_cases q : n < x4 + B
    · refine ⟨x4, h0, h1, h4, fun z z0 z1 => by omega, ?_⟩
      have c1 : iI n < iI (x4 + B) := by rw [iI_lt (by omega) (by omega) (by omega) (by omega)]; exact q
      conv => lhs; unfold F_X4_mostMeeting_7
      rw [if_neg c0, iI_add, if_pos c1, hy]
      rfl
    · have c1 : ¬ iI n < iI (x4 + B) := by rw [iI_lt (by omega) (by omega) (by omega) (by omega)]; exact q
      have cm := c_canMeet R C I (f := f) (k := k) (y := x4 + B) n0 n1 hf k0 k1 (by omega) (by omega) hn
      by_cases q2 : Mt a n f (v 24) k (x4 + B)
      · refine ⟨x4 + B, by omega, by omega, q2, fun z z0 z1 => h5 z (by omega) z1, ?_⟩
        conv => lhs; unfold F_X4_mostMeeting_7
        rw [if_neg c0, iI_add, if_neg c1, R.obj hT.1, Option.bind_some, cm.1 q2, Option.bind_some, if_neg (by decide), hy]
        rfl
      · refine ⟨x4, h0, h1, h4, fun z z0 z1 hz => q2 (hz.down i24.1 hpf (by omega) z0), ?_⟩
        conv => lhs; unfold F_X4_mostMeeting_7
        rw [if_neg c0, iI_add, if_neg c1, R.obj hT.1, Option.bind_some, cm.2 q2, Option.bind_some, if_pos (by decide), hy]
        rfl
  have loop : ∀ (j : Nat) (m : Nat) (x4 : Int), j < 17 → j + 2 ≤ m → 0 ≤ x4 → x4 ≤ n → Mt a n f (v 24) k x4 → (∀ y, x4 + 2 * 2 ^ j ≤ y → y ≤ n → ¬ Mt a n f (v 24) k y) → ∃ g, F_X4_mostMeeting_7 G h (ad 4 0) (iI n) (iI k) (iI f) m (iI x4) (iI (2 ^ j)) = some (iI g) ∧ Gm a n f (v 24) k g := by
    intro j
    induction j with
    | zero =>
      intro m x4 _ hm h0 h1 h4 h5
      obtain ⟨m, rfl⟩ : ∃ m', m = m' + 2 := ⟨m - 2, by omega⟩
      obtain ⟨g, g0, g1, g2, g3, e⟩ := bit (m + 1) x4 (2 ^ 0) _ h0 h1 (by decide) (by decide) h4 h5 shr_1
      refine ⟨g, ?_, g0, g1, g2, fun y y0 y1 => g3 y (by have : (2 : Int) ^ 0 = 1 := rfl; omega) y1⟩
      rw [e]
      unfold F_X4_mostMeeting_7
      rw [if_pos (by decide)]
    | succ j ih =>
      intro m x4 hj hm h0 h1 h4 h5
      obtain ⟨m, rfl⟩ : ∃ m', m = m' + 1 := ⟨m - 1, by omega⟩
      have pw : (2 : Int) ^ (j + 1) = 2 * 2 ^ j := by rw [Int.pow_succ, Int.mul_comm]
      have pb : 1 ≤ (2 : Int) ^ (j + 1) ∧ (2 : Int) ^ (j + 1) ≤ 65536 := by
        have : ∀ j : Fin 16, 1 ≤ (2 : Int) ^ (j.val + 1) ∧ (2 : Int) ^ (j.val + 1) ≤ 65536 := by decide
        exact this ⟨j, by omega⟩
      obtain ⟨x4', g0, g1, g2, g3, e⟩ := bit m x4 (2 ^ (j + 1)) _ h0 h1 pb.1 pb.2 h4 h5 (shr_2 ⟨j, by omega⟩)
      rw [e]
      exact ih m x4' (by omega) (by omega) g0 g1 g2 (fun y y0 y1 => g3 y (by rw [pw]; exact y0) y1)
  unfold F_X4_mostMeeting
  have m0 : Mt a n f (v 24) k 0 := by
    have hb := mt_b I (f := f) n1 hn (y := 0) (by omega) (by omega) i24.1 (Int.le_refl _)
    unfold Mt
    rw [Int.mul_zero]
    exact hb.1
  have p16 : (2 : Int) * 2 ^ 16 = 131072 := by decide
  exact loop 16 xN 0 (by decide) (by decide) (by omega) n0 m0 (fun y y0 y1 => by rw [p16] at y0; omega)
theorem c_fit (R : Rep G h ad P) (C : Cc G ad P v a el cn) (I : Iv v a) {n : Int} (n0 : -2147483648 ≤ n) (n1 : n < 2147483648) : ∃ r, F_X4_fitInto G h (ad 4 0) (iI n) = some (iI r) ∧ ((r = 1 ∧ ∀ i, 0 ≤ i → i < v 24 → a 25 i ≤ n) ∨ (r = 0 ∧ ¬ ∀ i, 0 ≤ i → i < v 24 → a 25 i ≤ n)) := by
  have hT := C.2.2.2.2.2.1
  have i24 := I.2.2.2.2.1
  have := up_loop (fun m (q : Int32) => F_X4_fitInto_2 G h (ad 4 0) (iI n) m q) (fun i q => 0 ≤ i ∧ q = iI i ∧ ∀ j, 0 ≤ j → j < i → a 25 j ≤ n) (fun r => ∃ z, r = iI z ∧ ((z = 1 ∧ ∀ i, 0 ≤ i → i < v 24 → a 25 i ≤ n) ∨ (z = 0 ∧ ¬ ∀ i, 0 ≤ i → i < v 24 → a 25 i ≤ n))) (v 24) ?_ ?_ xN 0 0 ⟨by omega, rfl, fun j _ _ => by omega⟩ (by omega) (by unfold xN; omega)
  · obtain ⟨r, e, z, rfl, hz⟩ := this
    exact ⟨z, e, hz⟩
  · rintro m i q ⟨hi, rfl, hq⟩ hlt
    have hp2 := I.2.2.2.2.2.2.2.2.2.2.2.2.2.2.1 i hi hlt
    by_cases c : a 25 i ≤ n
    · right
      refine ⟨_, ⟨by omega, rfl, fun j j0 j1 => if q : j = i then q ▸ c else hq j j0 (by omega)⟩, ?_⟩
      simp (disch := omega) only [F_X4_fitInto_2, R.getI hT.1 (j := 1) rfl, R.getR hT.1 (j := 0) rfl, R.ai (g := fun t => a 25 t) hT.2 (fun _ => rfl), l_0, l_1, l_2, l_3, l_4, l_5, l_6, l_7, l_8, l_9, l_10, l_12, l_13, l_14, l_15, l_16, l_20, l_21, l_40, l_60, l_78, l_199, l_200, l_300, l_599, l_600, l_601, l_602, l_1000, l_1638, l_10000, l_65536, l_100000, l_1000000, l_m1, L_0, L_1, L_10, L_20, L_1000, L_10000, iI_add, iI_sub, iI_mul, iI_neg, iI_lt, iI_le, iI_eq, iI_max, iI_min, iI_l, jI_i, jI_add, jI_sub, jI_mul, jI_lt, jI_le, jI_eq, kmp_pos, kmp_neg, kmp_le, kmp_ge, if_pos, if_neg, if_true, if_false, true_or, or_true, Option.bind_some, xl, xg]
    · left
      refine ⟨_, ?_, 0, rfl, Or.inr ⟨rfl, fun z => c (z i hi hlt)⟩⟩
      simp (disch := omega) only [F_X4_fitInto_2, R.getI hT.1 (j := 1) rfl, R.getR hT.1 (j := 0) rfl, R.ai (g := fun t => a 25 t) hT.2 (fun _ => rfl), l_0, l_1, l_2, l_3, l_4, l_5, l_6, l_7, l_8, l_9, l_10, l_12, l_13, l_14, l_15, l_16, l_20, l_21, l_40, l_60, l_78, l_199, l_200, l_300, l_599, l_600, l_601, l_602, l_1000, l_1638, l_10000, l_65536, l_100000, l_1000000, l_m1, L_0, L_1, L_10, L_20, L_1000, L_10000, iI_add, iI_sub, iI_mul, iI_neg, iI_lt, iI_le, iI_eq, iI_max, iI_min, iI_l, jI_i, jI_add, jI_sub, jI_mul, jI_lt, jI_le, jI_eq, kmp_pos, kmp_neg, kmp_le, kmp_ge, if_pos, if_neg, if_true, if_false, true_or, or_true, Option.bind_some, xl, xg]
  · rintro m q ⟨hi, rfl, hq⟩
    refine ⟨_, ?_, 1, rfl, Or.inl ⟨rfl, hq⟩⟩
    simp (disch := omega) only [F_X4_fitInto_2, R.getI hT.1 (j := 1) rfl, l_0, l_1, l_2, l_3, l_4, l_5, l_6, l_7, l_8, l_9, l_10, l_12, l_13, l_14, l_15, l_16, l_20, l_21, l_40, l_60, l_78, l_199, l_200, l_300, l_599, l_600, l_601, l_602, l_1000, l_1638, l_10000, l_65536, l_100000, l_1000000, l_m1, L_0, L_1, L_10, L_20, L_1000, L_10000, iI_add, iI_sub, iI_mul, iI_neg, iI_lt, iI_le, iI_eq, iI_max, iI_min, iI_l, jI_i, jI_add, jI_sub, jI_mul, jI_lt, jI_le, jI_eq, kmp_pos, kmp_neg, kmp_le, kmp_ge, if_pos, if_neg, if_true, if_false, true_or, or_true, Option.bind_some, xl, xg]
end MAD
