/-! the best subset; the reference's loops -/
def one1 : Nat → Int := fun _ => 1
def Dm (n : Nat) (wt : Nat → Int) (M' M : Nat) : Prop := tot wt n M < tot wt n M' ∨ (tot wt n M = tot wt n M' ∧ (tot one1 n M' < tot one1 n M ∨ (tot one1 n M = tot one1 n M' ∧ M ≤ M')))
def Op (n : Nat) (wt ct : Nat → Int) (rm : Int) (X M' : Nat) : Prop := M' < X ∧ tot ct n M' ≤ rm ∧ ∀ M, M < X → tot ct n M ≤ rm → Dm n wt M' M
theorem Op.uniq {n : Nat} {wt ct : Nat → Int} {rm : Int} {X M M' : Nat} (h : Op n wt ct rm X M) (h' : Op n wt ct rm X M') : M = M' := by
  have h1 := h.2.2 M' h'.1 h'.2.1
  have h2 := h'.2.2 M h.1 h.2.1
  unfold Dm at h1 h2
  omega
theorem tot_0 (f : Nat → Int) (n : Nat) : tot f n 0 = 0 := by
  have := tot_ext f 0 n 0
  rw [Nat.zero_mul, Nat.zero_add] at this
  exact this
theorem div_2 (M j : Nat) : M / 2 / 2 ^ j = M / 2 ^ (j + 1) := by
  rw [Nat.div_div_eq_div_mul, Nat.pow_succ, Nat.mul_comm]
theorem tot_ge {f : Nat → Int} (i : Nat) : ∀ (j M : Nat), (∀ k, k < i + j → 0 ≤ f k) → tot f i (M / 2 ^ j) ≤ tot f (i + j) M := by
  intro j
  induction j with
  | zero => intro M _; simp
  | succ j ih =>
    intro M hf
    have h1 := ih (M / 2) (fun k hk => hf k (by omega))
    rw [div_2] at h1
    have h2 := hf (i + j) (by omega)
    rw [← Nat.add_assoc, tot_s]
    split <;> omega
def sfx (f : Nat → Int) (i : Nat) : Nat → Int
  | 0 => 0
  | j + 1 => sfx f i j + f (i + j)
theorem tot_up {f : Nat → Int} (i : Nat) : ∀ (j M : Nat), (∀ k, k < i + j → 0 ≤ f k) → tot f (i + j) M ≤ tot f i (M / 2 ^ j) + sfx f i j := by
  intro j
  induction j with
  | zero => intro M _; simp [sfx]
  | succ j ih =>
    intro M hf
    have h1 := ih (M / 2) (fun k hk => hf k (by omega))
    rw [div_2] at h1
    have h2 := hf (i + j) (by omega)
    rw [← Nat.add_assoc, tot_s]
    unfold sfx
    split <;> omega
theorem one_eq (i : Nat) : ∀ (j M : Nat), tot one1 (i + j) M = tot one1 i (M / 2 ^ j) → M = M / 2 ^ j * 2 ^ j := by
  intro j
  induction j with
  | zero => intro M _; simp
  | succ j ih =>
    intro M h
    have h1 := tot_ge (f := one1) i j (M / 2) (fun _ _ => Int.zero_le_ofNat 1)
    rw [div_2] at h1
    rw [← Nat.add_assoc, tot_s] at h
    have h2 : ¬ M % 2 = 1 := by
      intro z
      rw [if_pos z] at h
      unfold one1 at *
      omega
    rw [if_neg h2, Int.add_zero, ← div_2] at h
    have h3 := ih (M / 2) h
    rw [div_2] at h3
    rw [Nat.pow_succ, ← Nat.mul_assoc]
    have e : M / (2 ^ j * 2) = M / 2 ^ (j + 1) := by rw [Nat.pow_succ]
    rw [e, ← h3]
    omega
section PLR
variable {s : mS} {v : Nat → Int} {a : Nat → Int → Int} {n : Nat} {wt ct : Nat → Int} {id : Nat → Int}
/-- the choice's items: numbers, costs, worths -/
def Ci (s : mS) (n : Nat) (wt ct : Nat → Int) (id : Nat → Int) : Prop := ∀ j, j < n → mld s 41 (iI (j : Int)) = some (iI (id j)) ∧ mld s 35 (iI (id j)) = some (iI (ct j)) ∧ mld s 36 (iI (id j)) = some (iI (wt j))
def Cb (n : Nat) (wt ct : Nat → Int) : Prop := n ≤ 14 ∧ ∀ j, j < n → 0 ≤ ct j ∧ ct j ≤ 100000 ∧ 0 ≤ wt j ∧ wt j ≤ 1000
theorem cb_b (C : Cb n wt ct) {i A : Nat} (hi : i ≤ n) : (0 ≤ tot wt i A ∧ tot wt i A ≤ 14000) ∧ (0 ≤ tot ct i A ∧ tot ct i A ≤ 1400000) ∧ (0 ≤ tot one1 i A ∧ tot one1 i A ≤ 14) := by
  obtain ⟨c1, c2⟩ := C
  have h1 := tot_nn (f := wt) i A (fun j hj => (c2 j (by omega)).2.2.1)
  have h2 := tot_le (f := wt) (c := 1000) (by omega) i A (fun j hj => (c2 j (by omega)).2.2.2)
  have h3 := tot_nn (f := ct) i A (fun j hj => (c2 j (by omega)).1)
  have h4 := tot_le (f := ct) (c := 100000) (by omega) i A (fun j hj => (c2 j (by omega)).2.1)
  have h5 := tot_nn (f := one1) i A (fun j hj => Int.zero_le_ofNat 1)
  have h6 := tot_le (f := one1) (c := 1) (by omega) i A (fun j hj => Int.le_refl 1)
  omega
theorem pow_b (C : Cb n wt ct) : 2 ^ n ≤ 16384 := by
  have : 2 ^ n ≤ 2 ^ 14 := Nat.pow_le_pow_right (by decide) C.1
  omega
theorem div_step {n i M : Nat} (hi : i < n) : M / 2 ^ (n - i) = M / 2 ^ (n - (i + 1)) / 2 := by
  have e : n - i = (n - (i + 1)) + 1 := by omega
  rw [e, Nat.pow_succ, Nat.div_div_eq_div_mul]
theorem r_112 (Q : Ci s n wt ct id) (C : Cb n wt ct) {M X : Nat} (hM : M < X) (hX : X < 2 ^ n) {rm : Int} (r0 : 0 ≤ rm) (r1 : rm ≤ 100000000) (k86 : Int32 → Int32 → Int32 → Int32 → Option (Int32 × mS)) : ∀ (m i : Nat), i ≤ n → n - i < m → FM_plan_112 s (iI (n : Int)) (jI rm) (iI (M : Int)) (iI (tot wt n M)) (iI (tot one1 n M)) (iI (X : Int)) k86 m (jI (tot ct i (X / 2 ^ (n - i)))) (iI (tot wt i (X / 2 ^ (n - i)))) (iI (tot one1 i (X / 2 ^ (n - i)))) (iI (i : Int)) = if tot ct n X ≤ rm ∧ (tot wt n M < tot wt n X ∨ (tot wt n X = tot wt n M ∧ tot one1 n X ≤ tot one1 n M)) then k86 (iI (X : Int)) (iI (tot wt n X)) (iI (tot one1 n X)) (iI ((X + 1 : Nat) : Int)) else k86 (iI (M : Int)) (iI (tot wt n M)) (iI (tot one1 n M)) (iI ((X + 1 : Nat) : Int)) := by
  have hp := pow_b C
  have n14 := C.1
  intro m
  induction m with
  | zero => intro i hi hm; omega
  | succ m ih =>
    intro i hi hm
    by_cases c : i = n
    · subst c
      have e0 : X / 2 ^ (i - i) = X := by rw [Nat.sub_self, Nat.pow_zero, Nat.div_one]
      rw [e0]
      have b1 := cb_b C (i := i) (A := X) (Nat.le_refl _)
      have b2 := cb_b C (i := i) (A := M) (Nat.le_refl _)
      have ex : iI (X : Int) + 1 = iI ((X + 1 : Nat) : Int) := by rw [l_1, iI_add]; rfl
      unfold FM_plan_112
      rw [if_pos (by rw [iI_le (by omega) (by omega) (by omega) (by omega)]; omega)]
      simp only [xl, ex]
      have d1 : ¬ ((1 : Int32) = 0) := by decide
      have d0 : (0 : Int32) = 0 := rfl
      generalize tot wt i X = wX at *
      generalize tot wt i M = wM at *
      generalize tot ct i X = cX at *
      generalize tot one1 i X = oX at *
      generalize tot one1 i M = oM at *
      by_cases k1 : wM < wX
      · rw [if_pos (show iI wM < iI wX by rw [iI_lt (by omega) (by omega) (by omega) (by omega)]; exact k1)]
        by_cases k2 : cX ≤ rm
        · rw [if_neg (by rw [cmp_pos, jI_lt (by omega) (by omega) (by omega) (by omega)]; omega), if_neg d1, if_pos ⟨k2, Or.inl k1⟩]
        · rw [if_pos (by rw [cmp_pos, jI_lt (by omega) (by omega) (by omega) (by omega)]; omega), if_neg (fun z => k2 z.1)]
      · rw [if_neg (show ¬ iI wM < iI wX by rw [iI_lt (by omega) (by omega) (by omega) (by omega)]; exact k1)]
        by_cases k3 : wX = wM
        · rw [if_pos (show iI wX = iI wM by rw [k3])]
          by_cases k4 : oX < oM
          · rw [if_pos (show iI oX < iI oM by rw [iI_lt (by omega) (by omega) (by omega) (by omega)]; exact k4)]
            by_cases k2 : cX ≤ rm
            · rw [if_neg (by rw [cmp_pos, jI_lt (by omega) (by omega) (by omega) (by omega)]; omega), if_neg d1, if_pos ⟨k2, Or.inr ⟨k3, by omega⟩⟩]
            · rw [if_pos (by rw [cmp_pos, jI_lt (by omega) (by omega) (by omega) (by omega)]; omega), if_neg (fun z => k2 z.1)]
          · rw [if_neg (show ¬ iI oX < iI oM by rw [iI_lt (by omega) (by omega) (by omega) (by omega)]; exact k4)]
            by_cases k5 : oX = oM
            · rw [if_pos (show iI oX = iI oM by rw [k5]), if_neg (show ¬ iI (X : Int) ≤ iI (M : Int) by rw [iI_le (by omega) (by omega) (by omega) (by omega)]; omega)]
              by_cases k2 : cX ≤ rm
              · rw [if_neg (by rw [cmp_pos, jI_lt (by omega) (by omega) (by omega) (by omega)]; omega), if_neg d1, if_pos ⟨k2, Or.inr ⟨k3, by omega⟩⟩]
              · rw [if_pos (by rw [cmp_pos, jI_lt (by omega) (by omega) (by omega) (by omega)]; omega), if_neg (fun z => k2 z.1)]
            · rw [if_neg (show ¬ iI oX = iI oM by rw [iI_eq (by omega) (by omega) (by omega) (by omega)]; exact k5)]
              rw [if_neg (show ¬ (cX ≤ rm ∧ (wM < wX ∨ (wX = wM ∧ oX ≤ oM))) by omega)]
              split
              · rfl
              · exact if_pos trivial
        · rw [if_neg (show ¬ iI wX = iI wM by rw [iI_eq (by omega) (by omega) (by omega) (by omega)]; exact k3)]
          rw [if_neg (show ¬ (cX ≤ rm ∧ (wM < wX ∨ (wX = wM ∧ oX ≤ oM))) by omega)]
          split
          · rfl
          · exact if_pos trivial
    · have hi' : i < n := by omega
      obtain ⟨q1, q2, q3⟩ := Q i hi'
      have cbi := C.2 i hi'
      rw [← ih (i + 1) (by omega) (by omega)]
      have sb := shr_M (n := n) (M := X) (j := i) n14 hi' hX
      have ed := div_step (M := X) hi'
      have ei : iI (i : Int) + 1 = iI ((i + 1 : Nat) : Int) := by rw [l_1, iI_add]; rfl
      have en : n - 1 - i = n - (i + 1) := by omega
      conv => lhs; unfold FM_plan_112
      rw [if_neg (show ¬ iI (n : Int) ≤ iI (i : Int) by rw [iI_le (by omega) (by omega) (by omega) (by omega)]; omega)]
      by_cases b : inn n X i
      · rw [if_pos (sb.mpr b)]
        unfold inn at b
        rw [en] at b
        rw [tot_s, tot_s, tot_s, if_pos b, if_pos b, if_pos b, ← ed, q1, Option.bind_some, q2, Option.bind_some, iI_l (by omega) (by omega), jI_add]
        unfold xl
        dsimp only
        rw [Option.bind_some, q3, Option.bind_some, ei, iI_add, l_1, iI_add]
        rfl
      · rw [if_neg (fun z => b (sb.mp z))]
        unfold inn at b
        rw [en] at b
        rw [tot_s, tot_s, tot_s, if_neg b, if_neg b, if_neg b, ← ed, ei, Int.add_zero, Int.add_zero, Int.add_zero]
        rfl
theorem r_86 (Q : Ci s n wt ct id) (C : Cb n wt ct) {rm : Int} (r0 : 0 ≤ rm) (r1 : rm ≤ 100000000) : ∀ (m X M : Nat), Op n wt ct rm X M → 1 ≤ X → X ≤ 2 ^ n → 2 ^ n - X < m → ∃ M' : Nat, FM_plan_86 s (iI (n : Int)) (jI rm) m (iI (M : Int)) (iI (tot wt n M)) (iI (tot one1 n M)) (iI (X : Int)) = FM_plan_257 (iI (n : Int)) (iI (M' : Int)) (iI (tot wt n M')) xN (mI s 39 0) 0 ∧ Op n wt ct rm (2 ^ n) M' := by
  have hp := pow_b C
  have n14 := C.1
  have sh : (1 : Int32) <<< (iI (n : Int) &&& 31) = iI ((2 ^ n : Nat) : Int) := shl_n ⟨n, by omega⟩
  intro m
  induction m with
  | zero => intro X M _ _ _ hm; omega
  | succ m ih =>
    intro X M O x0 x1 hm
    by_cases c : X = 2 ^ n
    · subst c
      refine ⟨M, ?_, O⟩
      unfold FM_plan_86
      rw [sh, if_pos (by rw [iI_le (by omega) (by omega) (by omega) (by omega)]; omega)]
      unfold xl
      rfl
    · have hX : X < 2 ^ n := by omega
      have e0 : X / 2 ^ (n - 0) = 0 := Nat.div_eq_of_lt (by rw [Nat.sub_zero]; exact hX)
      have key := r_112 Q C (M := M) (X := X) O.1 hX r0 r1 (fun x5' x6' x7' x8' => FM_plan_86 s (iI (n : Int)) (jI rm) m x5' x6' x7' x8') xN 0 (by omega) (by unfold xN; omega)
      rw [e0, tot_0, tot_0, tot_0] at key
      have pre : FM_plan_86 s (iI (n : Int)) (jI rm) (m + 1) (iI (M : Int)) (iI (tot wt n M)) (iI (tot one1 n M)) (iI (X : Int)) = FM_plan_112 s (iI (n : Int)) (jI rm) (iI (M : Int)) (iI (tot wt n M)) (iI (tot one1 n M)) (iI (X : Int)) (fun x5' x6' x7' x8' => FM_plan_86 s (iI (n : Int)) (jI rm) m x5' x6' x7' x8') xN 0 0 0 0 := by
        conv => lhs; unfold FM_plan_86
        rw [sh, if_neg (by rw [iI_le (by omega) (by omega) (by omega) (by omega)]; omega), if_neg (by rw [cmp_neg, L_0, jI_lt (by omega) (by omega) (by omega) (by omega)]; omega)]
      have key' : FM_plan_112 s (iI (n : Int)) (jI rm) (iI (M : Int)) (iI (tot wt n M)) (iI (tot one1 n M)) (iI (X : Int)) (fun x5' x6' x7' x8' => FM_plan_86 s (iI (n : Int)) (jI rm) m x5' x6' x7' x8') xN 0 0 0 0 = _ := key
      rw [pre, key']
      obtain ⟨o1, o2, o3⟩ := O
      by_cases k : tot ct n X ≤ rm ∧ (tot wt n M < tot wt n X ∨ (tot wt n X = tot wt n M ∧ tot one1 n X ≤ tot one1 n M))
      · rw [if_pos k]
        refine ih (X + 1) X ⟨by omega, k.1, fun Y hY hc => ?_⟩ (by omega) (by omega) (by omega)
        by_cases e : Y = X
        · subst e; exact Or.inr ⟨rfl, Or.inr ⟨rfl, Nat.le_refl _⟩⟩
        · have := o3 Y (by omega) hc
          unfold Dm at *
          omega
      · rw [if_neg k]
        refine ih (X + 1) M ⟨by omega, o2, fun Y hY hc => ?_⟩ (by omega) (by omega) (by omega)
        by_cases e : Y = X
        · subst e
          unfold Dm
          omega
        · exact o3 Y (by omega) hc
end PLR
