/-! numbers once more: Int32 and Int64 by their integers; literals; prefix sums -/
theorem iI_neg (a : Int) : -iI a = iI (-a) := by unfold iI; rw [Int32.ofInt_neg]
theorem iI_inj {a b : Int} (a1 : -2147483648 ≤ a) (a2 : a < 2147483648) (b1 : -2147483648 ≤ b) (b2 : b < 2147483648) (h : iI a = iI b) : a = b := (iI_eq a1 a2 b1 b2).mp h
theorem iI_clamp {z : Int} (h1 : 0 ≤ z) (h2 : z < 2147483648) : (iI z).toNatClampNeg = z.toNat := by
  obtain ⟨n, rfl⟩ := Int.eq_ofNat_of_zero_le h1
  rw [iI_nI, nI_clamp (by omega)]
  omega
theorem iI_max {a b : Int} (a1 : -2147483648 ≤ a) (a2 : a < 2147483648) (b1 : -2147483648 ≤ b) (b2 : b < 2147483648) : xmax (iI a) (iI b) = iI (max a b) := by
  unfold xmax
  by_cases h : a < b
  · rw [if_pos ((iI_lt a1 a2 b1 b2).mpr h), Int.max_eq_right (by omega)]
  · rw [if_neg (fun q => h ((iI_lt a1 a2 b1 b2).mp q)), Int.max_eq_left (by omega)]
theorem iI_min {a b : Int} (a1 : -2147483648 ≤ a) (a2 : a < 2147483648) (b1 : -2147483648 ≤ b) (b2 : b < 2147483648) : xmin (iI a) (iI b) = iI (min a b) := by
  unfold xmin
  by_cases h : b < a
  · rw [if_pos ((iI_lt b1 b2 a1 a2).mpr h), Int.min_eq_right (by omega)]
  · rw [if_neg (fun q => h ((iI_lt b1 b2 a1 a2).mp q)), Int.min_eq_left (by omega)]
def jI (z : Int) : Int64 := Int64.ofInt z
theorem jI_add (a b : Int) : jI a + jI b = jI (a + b) := by unfold jI; rw [Int64.ofInt_add]
theorem jI_sub (a b : Int) : jI a - jI b = jI (a - b) := by unfold jI; rw [Int64.ofInt_sub]
theorem jI_mul (a b : Int) : jI a * jI b = jI (a * b) := by unfold jI; rw [Int64.ofInt_mul]
theorem jI_toInt {z : Int} (h1 : -9223372036854775808 ≤ z) (h2 : z < 9223372036854775808) : (jI z).toInt = z := Int64.toInt_ofInt_of_le (by simpa using h1) (by simpa using h2)
theorem iI_l {z : Int} (h1 : -2147483648 ≤ z) (h2 : z < 2147483648) : (iI z).toInt64 = jI z := by
  apply Int64.toInt_inj.mp
  rw [Int32.toInt_toInt64, iI_toInt h1 h2, jI_toInt (by omega) (by omega)]
theorem jI_i {z : Int} (h1 : -2147483648 ≤ z) (h2 : z < 2147483648) : (jI z).toInt32 = iI z := by
  apply Int32.toInt_inj.mp
  rw [Int64.toInt_toInt32, jI_toInt (by omega) (by omega), iI_toInt h1 h2]
  exact Int.bmod_eq_of_le (by omega) (by omega)
theorem jI_lt {a b : Int} (a1 : -9223372036854775808 ≤ a) (a2 : a < 9223372036854775808) (b1 : -9223372036854775808 ≤ b) (b2 : b < 9223372036854775808) : jI a < jI b ↔ a < b := by
  rw [Int64.lt_iff_toInt_lt, jI_toInt a1 a2, jI_toInt b1 b2]
theorem jI_le {a b : Int} (a1 : -9223372036854775808 ≤ a) (a2 : a < 9223372036854775808) (b1 : -9223372036854775808 ≤ b) (b2 : b < 9223372036854775808) : jI a ≤ jI b ↔ a ≤ b := by
  rw [Int64.le_iff_toInt_le, jI_toInt a1 a2, jI_toInt b1 b2]
theorem jI_eq {a b : Int} (a1 : -9223372036854775808 ≤ a) (a2 : a < 9223372036854775808) (b1 : -9223372036854775808 ≤ b) (b2 : b < 9223372036854775808) : jI a = jI b ↔ a = b := by
  constructor
  · intro h
    have := congrArg Int64.toInt h
    rwa [jI_toInt a1 a2, jI_toInt b1 b2] at this
  · intro h
    rw [h]
theorem jI_div {a b : Int} (a1 : 0 ≤ a) (a2 : a < 9223372036854775808) (b1 : 0 < b) (b2 : b < 9223372036854775808) : jI a / jI b = jI (a / b) := by
  apply Int64.toInt_inj.mp
  rw [Int64.toInt_div, jI_toInt (by omega) a2, jI_toInt (by omega) b2]
  have h0 : 0 ≤ a / b := Int.ediv_nonneg a1 (by omega)
  have h1 : a / b ≤ a := Int.ediv_le_self b a1
  rw [jI_toInt (by omega) (by omega), Int.tdiv_eq_ediv_of_nonneg a1]
  exact Int.bmod_eq_of_le (by omega) (by omega)
theorem iI_div {a b : Int} (a1 : 0 ≤ a) (a2 : a < 2147483648) (b1 : 0 < b) (b2 : b < 2147483648) : iI a / iI b = iI (a / b) := by
  apply Int32.toInt_inj.mp
  rw [Int32.toInt_div, iI_toInt (by omega) a2, iI_toInt (by omega) b2]
  have h0 : 0 ≤ a / b := Int.ediv_nonneg a1 (by omega)
  have h1 : a / b ≤ a := Int.ediv_le_self b a1
  rw [iI_toInt (by omega) (by omega), Int.tdiv_eq_ediv_of_nonneg a1]
  exact Int.bmod_eq_of_le (by omega) (by omega)
theorem jI_minJ {a b : Int} (a1 : -9223372036854775808 ≤ a) (a2 : a < 9223372036854775808) (b1 : -9223372036854775808 ≤ b) (b2 : b < 9223372036854775808) : xminJ (jI a) (jI b) = jI (min a b) := by
  unfold xminJ
  by_cases h : b < a
  · rw [if_pos ((jI_lt b1 b2 a1 a2).mpr h), Int.min_eq_right (by omega)]
  · rw [if_neg (fun q => h ((jI_lt b1 b2 a1 a2).mp q)), Int.min_eq_left (by omega)]
/-- lg_cmp against 0, in the four forms that occur -/
theorem cmp_pos {x y : Int64} : 0 < lg_cmp x y ↔ y < x := by
  unfold lg_cmp
  by_cases h : x > y
  · rw [if_pos h]; exact ⟨fun _ => h, fun _ => by decide⟩
  · rw [if_neg h]
    by_cases h2 : x = y
    · rw [if_pos h2]; exact ⟨fun q => absurd q (by decide), fun q => absurd q h⟩
    · rw [if_neg h2]; exact ⟨fun q => absurd q (by decide), fun q => absurd q h⟩
theorem cmp_neg {x y : Int64} : lg_cmp x y < 0 ↔ x < y := by
  unfold lg_cmp
  by_cases h : x > y
  · rw [if_pos h]
    refine ⟨fun q => absurd q (by decide), fun q => ?_⟩
    rw [gt_iff_lt, Int64.lt_iff_toInt_lt] at h
    rw [Int64.lt_iff_toInt_lt] at q
    omega
  · rw [if_neg h]
    by_cases h2 : x = y
    · rw [if_pos h2, h2]; exact ⟨fun q => absurd q (by decide), fun q => absurd q (Int64.lt_irrefl)⟩
    · rw [if_neg h2]
      refine ⟨fun _ => ?_, fun _ => by decide⟩
      rw [gt_iff_lt, Int64.lt_iff_toInt_lt] at h
      have h3 : x.toInt ≠ y.toInt := fun q => h2 (Int64.toInt_inj.mp q)
      rw [Int64.lt_iff_toInt_lt]
      omega
theorem cmp_le {x y : Int64} : lg_cmp x y ≤ 0 ↔ x ≤ y := by
  have := @cmp_pos x y
  rw [Int32.le_iff_toInt_le, Int64.le_iff_toInt_le]
  rw [Int32.lt_iff_toInt_lt, Int64.lt_iff_toInt_lt] at this
  omega
theorem cmp_ge {x y : Int64} : 0 ≤ lg_cmp x y ↔ y ≤ x := by
  have := @cmp_neg x y
  rw [Int32.le_iff_toInt_le, Int64.le_iff_toInt_le]
  rw [Int32.lt_iff_toInt_lt, Int64.lt_iff_toInt_lt] at this
  omega
theorem iI_arg (x : Int32) : ∃ z : Int, x = iI z ∧ -2147483648 ≤ z ∧ z < 2147483648 := ⟨x.toInt, (iI_self x).symm, by have := x.le_toInt; simpa using this, by have := x.toInt_lt; simpa using this⟩
/-! prefix sums -/
def sm (f : Int → Int) : Nat → Int
  | 0 => 0
  | n + 1 => sm f n + f n
def pr (f : Int → Int) (z : Int) : Int := sm f z.toNat
theorem pr_0 (f : Int → Int) : pr f 0 = 0 := rfl
theorem pr_1 (f : Int → Int) {z : Int} (h : 0 ≤ z) : pr f (z + 1) = pr f z + f z := by
  obtain ⟨n, rfl⟩ := Int.eq_ofNat_of_zero_le h
  rfl
theorem pr_ind {Q : Int → Prop} (h0 : Q 0) (h1 : ∀ z, 0 ≤ z → Q z → Q (z + 1)) : ∀ z, 0 ≤ z → Q z := by
  intro z hz
  obtain ⟨n, rfl⟩ := Int.eq_ofNat_of_zero_le hz
  clear hz
  induction n with
  | zero => exact h0
  | succ n ih => exact h1 n (by omega) ih
theorem pr_congr {f g : Int → Int} {z : Int} (h : ∀ j, 0 ≤ j → j < z → f j = g j) : pr f z = pr g z := by
  by_cases hz : 0 ≤ z
  · revert h
    refine pr_ind (Q := fun z => (∀ j, 0 ≤ j → j < z → f j = g j) → pr f z = pr g z) (fun _ => rfl) (fun z hz ih h => ?_) z hz
    rw [pr_1 f hz, pr_1 g hz, ih (fun j h1 h2 => h j h1 (by omega)), h z hz (by omega)]
  · have : z.toNat = 0 := by omega
    unfold pr
    rw [this]
    rfl
theorem pr_mono {f g : Int → Int} {x y : Int} (hx : 0 ≤ x) (hy : x ≤ y) (h : ∀ j, x ≤ j → j < y → f j ≤ g j) : pr f y - pr f x ≤ pr g y - pr g x := by
  obtain ⟨n, hn⟩ := Int.eq_ofNat_of_zero_le (show 0 ≤ y - x by omega)
  have e : y = x + n := by omega
  subst e
  clear hn hy
  induction n with
  | zero => simp
  | succ n ih =>
    have e : x + ((n + 1 : Nat) : Int) = (x + n) + 1 := by omega
    rw [e, pr_1 f (by omega), pr_1 g (by omega)]
    have h1 := ih (fun j h1 h2 => h j h1 (by omega))
    have h2 := h (x + n) (by omega) (by omega)
    omega
theorem pr_const (c : Int) {z : Int} (hz : 0 ≤ z) : pr (fun _ => c) z = c * z := by
  refine pr_ind (Q := fun z => pr (fun _ => c) z = c * z) (by rw [pr_0, Int.mul_zero]) (fun z hz ih => ?_) z hz
  rw [pr_1 _ hz, ih, Int.mul_add, Int.mul_one]
theorem pr_ge {f : Int → Int} {x y c : Int} (hx : 0 ≤ x) (hy : x ≤ y) (h : ∀ j, x ≤ j → j < y → c ≤ f j) : c * (y - x) ≤ pr f y - pr f x := by
  have := pr_mono (f := fun _ => c) (g := f) hx hy h
  rw [pr_const c (by omega), pr_const c hx] at this
  rw [Int.mul_sub]
  exact this
theorem pr_le {f : Int → Int} {x y c : Int} (hx : 0 ≤ x) (hy : x ≤ y) (h : ∀ j, x ≤ j → j < y → f j ≤ c) : pr f y - pr f x ≤ c * (y - x) := by
  have := pr_mono (f := f) (g := fun _ => c) hx hy h
  rw [pr_const c (by omega), pr_const c hx] at this
  rw [Int.mul_sub]
  exact this
theorem pr_add (f g : Int → Int) (z : Int) (hz : 0 ≤ z) : pr (fun j => f j + g j) z = pr f z + pr g z := by
  refine pr_ind (Q := fun z => pr (fun j => f j + g j) z = pr f z + pr g z) rfl (fun z hz ih => ?_) z hz
  rw [pr_1 _ hz, ih, pr_1 f hz, pr_1 g hz]
  omega
/-! a loop that counts up: I is kept, R is what its end answers -/
theorem up_loop {α β : Type} (L : Nat → α → Option β) (I : Int → α → Prop) (R : β → Prop) (hi : Int) (step : ∀ n i a, I i a → i < hi → (∃ r, L (n + 1) a = some r ∧ R r) ∨ ∃ a', I (i + 1) a' ∧ L (n + 1) a = L n a') (stop : ∀ n a, I hi a → ∃ r, L (n + 1) a = some r ∧ R r) : ∀ (n : Nat) (i : Int) (a : α), I i a → i ≤ hi → hi - i < n → ∃ r, L n a = some r ∧ R r := by
  intro n
  induction n with
  | zero => intro i a _ h1 h2; omega
  | succ n ih =>
    intro i a hI h1 h2
    by_cases h : i = hi
    · subst h; exact stop n a hI
    · rcases step n i a hI (by omega) with h3 | ⟨a', h3, h4⟩
      · exact h3
      · rw [h4]
        exact ih (i + 1) a' h3 (by omega) (by omega)
/-- the same, with an answer that is known -/
theorem up_eq {α β : Type} (L : Nat → α → Option β) (I : Int → α → Prop) (r : β) (hi : Int) (step : ∀ n i a, I i a → i < hi → L (n + 1) a = some r ∨ ∃ a', I (i + 1) a' ∧ L (n + 1) a = L n a') (stop : ∀ n a, I hi a → L (n + 1) a = some r) (n : Nat) (i : Int) (a : α) (hI : I i a) (h1 : i ≤ hi) (h2 : hi - i < n) : L n a = some r := by
  obtain ⟨r', e, rfl⟩ := up_loop L I (fun r' => r' = r) hi (fun n i a hI h => (step n i a hI h).imp (fun e => ⟨r, e, rfl⟩) id) (fun n a hI => ⟨r, stop n a hI, rfl⟩) n i a hI h1 h2
  exact e
/-! literals -/
theorem l_0 : (0 : Int32) = iI 0 := rfl
theorem l_1 : (1 : Int32) = iI 1 := rfl
theorem l_2 : (2 : Int32) = iI 2 := rfl
theorem l_3 : (3 : Int32) = iI 3 := rfl
theorem l_4 : (4 : Int32) = iI 4 := rfl
theorem l_5 : (5 : Int32) = iI 5 := rfl
theorem l_6 : (6 : Int32) = iI 6 := rfl
theorem l_7 : (7 : Int32) = iI 7 := rfl
theorem l_8 : (8 : Int32) = iI 8 := rfl
theorem l_9 : (9 : Int32) = iI 9 := rfl
theorem l_10 : (10 : Int32) = iI 10 := rfl
theorem l_11 : (11 : Int32) = iI 11 := rfl
theorem l_12 : (12 : Int32) = iI 12 := rfl
theorem l_13 : (13 : Int32) = iI 13 := rfl
theorem l_14 : (14 : Int32) = iI 14 := rfl
theorem l_15 : (15 : Int32) = iI 15 := rfl
theorem l_16 : (16 : Int32) = iI 16 := rfl
theorem l_17 : (17 : Int32) = iI 17 := rfl
theorem l_18 : (18 : Int32) = iI 18 := rfl
theorem l_19 : (19 : Int32) = iI 19 := rfl
theorem l_20 : (20 : Int32) = iI 20 := rfl
theorem l_21 : (21 : Int32) = iI 21 := rfl
theorem l_22 : (22 : Int32) = iI 22 := rfl
theorem l_23 : (23 : Int32) = iI 23 := rfl
theorem l_24 : (24 : Int32) = iI 24 := rfl
theorem l_25 : (25 : Int32) = iI 25 := rfl
theorem l_26 : (26 : Int32) = iI 26 := rfl
theorem l_27 : (27 : Int32) = iI 27 := rfl
theorem l_28 : (28 : Int32) = iI 28 := rfl
theorem l_29 : (29 : Int32) = iI 29 := rfl
theorem l_30 : (30 : Int32) = iI 30 := rfl
theorem l_31 : (31 : Int32) = iI 31 := rfl
theorem l_32 : (32 : Int32) = iI 32 := rfl
theorem l_33 : (33 : Int32) = iI 33 := rfl
theorem l_34 : (34 : Int32) = iI 34 := rfl
theorem l_35 : (35 : Int32) = iI 35 := rfl
theorem l_36 : (36 : Int32) = iI 36 := rfl
theorem l_37 : (37 : Int32) = iI 37 := rfl
theorem l_38 : (38 : Int32) = iI 38 := rfl
theorem l_39 : (39 : Int32) = iI 39 := rfl
theorem l_40 : (40 : Int32) = iI 40 := rfl
theorem l_41 : (41 : Int32) = iI 41 := rfl
theorem l_60 : (60 : Int32) = iI 60 := rfl
theorem l_63 : (63 : Int32) = iI 63 := rfl
theorem l_78 : (78 : Int32) = iI 78 := rfl
theorem l_199 : (199 : Int32) = iI 199 := rfl
theorem l_200 : (200 : Int32) = iI 200 := rfl
theorem l_300 : (300 : Int32) = iI 300 := rfl
theorem l_599 : (599 : Int32) = iI 599 := rfl
theorem l_600 : (600 : Int32) = iI 600 := rfl
theorem l_601 : (601 : Int32) = iI 601 := rfl
theorem l_602 : (602 : Int32) = iI 602 := rfl
theorem l_1000 : (1000 : Int32) = iI 1000 := rfl
theorem l_1638 : (1638 : Int32) = iI 1638 := rfl
theorem l_10000 : (10000 : Int32) = iI 10000 := rfl
theorem l_65536 : (65536 : Int32) = iI 65536 := rfl
theorem l_100000 : (100000 : Int32) = iI 100000 := rfl
theorem l_1000000 : (1000000 : Int32) = iI 1000000 := rfl
theorem l_252645135 : (252645135 : Int32) = iI 252645135 := rfl
theorem l_858993459 : (858993459 : Int32) = iI 858993459 := rfl
theorem l_1431655765 : (1431655765 : Int32) = iI 1431655765 := rfl
theorem l_2147483639 : (2147483639 : Int32) = iI 2147483639 := rfl
theorem L_0 : (0 : Int64) = jI 0 := rfl
theorem L_1 : (1 : Int64) = jI 1 := rfl
theorem L_2 : (2 : Int64) = jI 2 := rfl
theorem L_10 : (10 : Int64) = jI 10 := rfl
theorem L_20 : (20 : Int64) = jI 20 := rfl
theorem L_1000 : (1000 : Int64) = jI 1000 := rfl
theorem L_10000 : (10000 : Int64) = jI 10000 := rfl
theorem l_m1 : (-1 : Int32) = iI (-1) := rfl
/-- the same with the literal as iI 0 -/
theorem kmp_pos {x y : Int64} : iI 0 < lg_cmp x y ↔ y < x := cmp_pos
theorem kmp_neg {x y : Int64} : lg_cmp x y < iI 0 ↔ x < y := cmp_neg
theorem kmp_le {x y : Int64} : lg_cmp x y ≤ iI 0 ↔ x ≤ y := cmp_le
theorem kmp_ge {x y : Int64} : iI 0 ≤ lg_cmp x y ↔ y ≤ x := cmp_ge
theorem if_eq_self {α β : Type} {x : α} [Decidable (x = x)] {y z : β} : (if x = x then y else z) = y := if_pos rfl
