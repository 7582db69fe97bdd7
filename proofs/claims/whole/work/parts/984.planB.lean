/-! the planner of the class -/
def Px (G : Nat → Nat) (ad : Nat → Nat → Nat) (P0 : xP) (h : xH) (n x6 x7 x8 x9 : Int) (f0 f1 f2 f3 f4 : Int → Int) : Prop := ∃ P : xP, Rep G h ad P ∧ (∀ k i, k ≠ 5 → k ≠ 150 → k ≠ 151 → k ≠ 152 → k ≠ 153 → k ≠ 154 → P k i = P0 k i) ∧ P 5 0 = some (.inr (5, [.ref (ad 150 0), .ref (ad 151 0), .ref (ad 152 0), .ref (ad 153 0), .ref (ad 154 0), .int (iI n), .int (iI x6), .int (iI x7), .int (iI x8), .int (iI x9)])) ∧ P 150 0 = some (.inl (G 2, 14, .inl (fun i => iI (f0 i)))) ∧ P 151 0 = some (.inl (G 2, 14, .inl (fun i => iI (f1 i)))) ∧ P 152 0 = some (.inl (G 2, 14, .inl (fun i => iI (f2 i)))) ∧ P 153 0 = some (.inl (G 2, 14, .inl (fun i => iI (f3 i)))) ∧ P 154 0 = some (.inl (G 2, 14, .inl (fun i => iI (f4 i))))
section PLN
variable {G : Nat → Nat} {h : xH} {ad : Nat → Nat → Nat} {P0 : xP} {n x6 x7 x8 x9 : Int} {f0 f1 f2 f3 f4 : Int → Int}
theorem Px.g (S : Px G ad P0 h n x6 x7 x8 x9 f0 f1 f2 f3 f4) : (gR h (some (ad 5 0)) 5 0 = some (some (ad 150 0)) ∧ gR h (some (ad 5 0)) 5 1 = some (some (ad 151 0)) ∧ gR h (some (ad 5 0)) 5 2 = some (some (ad 152 0)) ∧ gR h (some (ad 5 0)) 5 3 = some (some (ad 153 0)) ∧ gR h (some (ad 5 0)) 5 4 = some (some (ad 154 0))) ∧ xc h (some (ad 5 0)) 5 = some (ad 5 0) := by
  obtain ⟨P, R, q, p, -⟩ := S
  exact ⟨⟨R.getR p (j := 0) rfl, R.getR p (j := 1) rfl, R.getR p (j := 2) rfl, R.getR p (j := 3) rfl, R.getR p (j := 4) rfl⟩, R.obj p⟩
theorem Px.i (S : Px G ad P0 h n x6 x7 x8 x9 f0 f1 f2 f3 f4) : gI h (some (ad 5 0)) 5 5 = some (iI n) ∧ gI h (some (ad 5 0)) 5 6 = some (iI x6) ∧ gI h (some (ad 5 0)) 5 7 = some (iI x7) ∧ gI h (some (ad 5 0)) 5 8 = some (iI x8) ∧ gI h (some (ad 5 0)) 5 9 = some (iI x9) := by
  obtain ⟨P, R, q, p, -⟩ := S
  exact ⟨R.getI p (j := 5) rfl, R.getI p (j := 6) rfl, R.getI p (j := 7) rfl, R.getI p (j := 8) rfl, R.getI p (j := 9) rfl⟩
theorem Px.l0 (S : Px G ad P0 h n x6 x7 x8 x9 f0 f1 f2 f3 f4) {z : Int} (z0 : 0 ≤ z) (z1 : z < 14) : ldI 2 G h (some (ad 150 0)) (iI z) = some (iI (f0 z)) := by
  obtain ⟨P, R, q, p, p0, p1, p2, p3, p4⟩ := S
  exact R.ai (g := f0) p0 (fun _ => rfl) z0 z1 (by decide)
theorem Px.l1 (S : Px G ad P0 h n x6 x7 x8 x9 f0 f1 f2 f3 f4) {z : Int} (z0 : 0 ≤ z) (z1 : z < 14) : ldI 2 G h (some (ad 151 0)) (iI z) = some (iI (f1 z)) := by
  obtain ⟨P, R, q, p, p0, p1, p2, p3, p4⟩ := S
  exact R.ai (g := f1) p1 (fun _ => rfl) z0 z1 (by decide)
theorem Px.l2 (S : Px G ad P0 h n x6 x7 x8 x9 f0 f1 f2 f3 f4) {z : Int} (z0 : 0 ≤ z) (z1 : z < 14) : ldI 2 G h (some (ad 152 0)) (iI z) = some (iI (f2 z)) := by
  obtain ⟨P, R, q, p, p0, p1, p2, p3, p4⟩ := S
  exact R.ai (g := f2) p2 (fun _ => rfl) z0 z1 (by decide)
theorem Px.l3 (S : Px G ad P0 h n x6 x7 x8 x9 f0 f1 f2 f3 f4) {z : Int} (z0 : 0 ≤ z) (z1 : z < 14) : ldI 2 G h (some (ad 153 0)) (iI z) = some (iI (f3 z)) := by
  obtain ⟨P, R, q, p, p0, p1, p2, p3, p4⟩ := S
  exact R.ai (g := f3) p3 (fun _ => rfl) z0 z1 (by decide)
theorem Px.l4 (S : Px G ad P0 h n x6 x7 x8 x9 f0 f1 f2 f3 f4) {z : Int} (z0 : 0 ≤ z) (z1 : z < 14) : ldI 2 G h (some (ad 154 0)) (iI z) = some (iI (f4 z)) := by
  obtain ⟨P, R, q, p, p0, p1, p2, p3, p4⟩ := S
  exact R.ai (g := f4) p4 (fun _ => rfl) z0 z1 (by decide)
theorem Px.s0 (S : Px G ad P0 h n x6 x7 x8 x9 f0 f1 f2 f3 f4) {z : Int} (z0 : 0 ≤ z) (z1 : z < 14) (w : Int) : ∃ h', stI 2 G h (some (ad 150 0)) (iI z) (iI w) = some h' ∧ Px G ad P0 h' n x6 x7 x8 x9 (fu f0 z w) f1 f2 f3 f4 := by
  obtain ⟨P, R, q, p, p0, p1, p2, p3, p4⟩ := S
  obtain ⟨h', P', e, R', o, q'⟩ := R.si' p0 z0 z1 (by decide) (iI w)
  rw [upd_iI z0] at o
  exact ⟨h', e, P', R', fun k i n1 n2 n3 n4 n5 n6 => (q' k i (by omega)).trans (q k i n1 n2 n3 n4 n5 n6), (q' 5 0 (by omega)).trans p, o, (q' 151 0 (by omega)).trans p1, (q' 152 0 (by omega)).trans p2, (q' 153 0 (by omega)).trans p3, (q' 154 0 (by omega)).trans p4⟩
theorem Px.s1 (S : Px G ad P0 h n x6 x7 x8 x9 f0 f1 f2 f3 f4) {z : Int} (z0 : 0 ≤ z) (z1 : z < 14) (w : Int) : ∃ h', stI 2 G h (some (ad 151 0)) (iI z) (iI w) = some h' ∧ Px G ad P0 h' n x6 x7 x8 x9 f0 (fu f1 z w) f2 f3 f4 := by
  obtain ⟨P, R, q, p, p0, p1, p2, p3, p4⟩ := S
  obtain ⟨h', P', e, R', o, q'⟩ := R.si' p1 z0 z1 (by decide) (iI w)
  rw [upd_iI z0] at o
  exact ⟨h', e, P', R', fun k i n1 n2 n3 n4 n5 n6 => (q' k i (by omega)).trans (q k i n1 n2 n3 n4 n5 n6), (q' 5 0 (by omega)).trans p, (q' 150 0 (by omega)).trans p0, o, (q' 152 0 (by omega)).trans p2, (q' 153 0 (by omega)).trans p3, (q' 154 0 (by omega)).trans p4⟩
theorem Px.s2 (S : Px G ad P0 h n x6 x7 x8 x9 f0 f1 f2 f3 f4) {z : Int} (z0 : 0 ≤ z) (z1 : z < 14) (w : Int) : ∃ h', stI 2 G h (some (ad 152 0)) (iI z) (iI w) = some h' ∧ Px G ad P0 h' n x6 x7 x8 x9 f0 f1 (fu f2 z w) f3 f4 := by
  obtain ⟨P, R, q, p, p0, p1, p2, p3, p4⟩ := S
  obtain ⟨h', P', e, R', o, q'⟩ := R.si' p2 z0 z1 (by decide) (iI w)
  rw [upd_iI z0] at o
  exact ⟨h', e, P', R', fun k i n1 n2 n3 n4 n5 n6 => (q' k i (by omega)).trans (q k i n1 n2 n3 n4 n5 n6), (q' 5 0 (by omega)).trans p, (q' 150 0 (by omega)).trans p0, (q' 151 0 (by omega)).trans p1, o, (q' 153 0 (by omega)).trans p3, (q' 154 0 (by omega)).trans p4⟩
theorem Px.s3 (S : Px G ad P0 h n x6 x7 x8 x9 f0 f1 f2 f3 f4) {z : Int} (z0 : 0 ≤ z) (z1 : z < 14) (w : Int) : ∃ h', stI 2 G h (some (ad 153 0)) (iI z) (iI w) = some h' ∧ Px G ad P0 h' n x6 x7 x8 x9 f0 f1 f2 (fu f3 z w) f4 := by
  obtain ⟨P, R, q, p, p0, p1, p2, p3, p4⟩ := S
  obtain ⟨h', P', e, R', o, q'⟩ := R.si' p3 z0 z1 (by decide) (iI w)
  rw [upd_iI z0] at o
  exact ⟨h', e, P', R', fun k i n1 n2 n3 n4 n5 n6 => (q' k i (by omega)).trans (q k i n1 n2 n3 n4 n5 n6), (q' 5 0 (by omega)).trans p, (q' 150 0 (by omega)).trans p0, (q' 151 0 (by omega)).trans p1, (q' 152 0 (by omega)).trans p2, o, (q' 154 0 (by omega)).trans p4⟩
theorem Px.s4 (S : Px G ad P0 h n x6 x7 x8 x9 f0 f1 f2 f3 f4) {z : Int} (z0 : 0 ≤ z) (z1 : z < 14) (w : Int) : ∃ h', stI 2 G h (some (ad 154 0)) (iI z) (iI w) = some h' ∧ Px G ad P0 h' n x6 x7 x8 x9 f0 f1 f2 f3 (fu f4 z w) := by
  obtain ⟨P, R, q, p, p0, p1, p2, p3, p4⟩ := S
  obtain ⟨h', P', e, R', o, q'⟩ := R.si' p4 z0 z1 (by decide) (iI w)
  rw [upd_iI z0] at o
  exact ⟨h', e, P', R', fun k i n1 n2 n3 n4 n5 n6 => (q' k i (by omega)).trans (q k i n1 n2 n3 n4 n5 n6), (q' 5 0 (by omega)).trans p, (q' 150 0 (by omega)).trans p0, (q' 151 0 (by omega)).trans p1, (q' 152 0 (by omega)).trans p2, (q' 153 0 (by omega)).trans p3, o⟩
theorem Px.p5 (S : Px G ad P0 h n x6 x7 x8 x9 f0 f1 f2 f3 f4) (w : Int) : ∃ h', xp G h (some (ad 5 0)) 5 5 (.int (iI w)) = some h' ∧ Px G ad P0 h' w x6 x7 x8 x9 f0 f1 f2 f3 f4 := by
  obtain ⟨P, R, q, p, p0, p1, p2, p3, p4⟩ := S
  obtain ⟨h', P', e, R', o, q'⟩ := R.sf' p (j := 5) (by simp) (.int (iI w))
  exact ⟨h', e, P', R', fun k i n1 n2 n3 n4 n5 n6 => (q' k i (by omega)).trans (q k i n1 n2 n3 n4 n5 n6), o, (q' 150 0 (by omega)).trans p0, (q' 151 0 (by omega)).trans p1, (q' 152 0 (by omega)).trans p2, (q' 153 0 (by omega)).trans p3, (q' 154 0 (by omega)).trans p4⟩
theorem Px.p6 (S : Px G ad P0 h n x6 x7 x8 x9 f0 f1 f2 f3 f4) (w : Int) : ∃ h', xp G h (some (ad 5 0)) 5 6 (.int (iI w)) = some h' ∧ Px G ad P0 h' n w x7 x8 x9 f0 f1 f2 f3 f4 := by
  obtain ⟨P, R, q, p, p0, p1, p2, p3, p4⟩ := S
  obtain ⟨h', P', e, R', o, q'⟩ := R.sf' p (j := 6) (by simp) (.int (iI w))
  exact ⟨h', e, P', R', fun k i n1 n2 n3 n4 n5 n6 => (q' k i (by omega)).trans (q k i n1 n2 n3 n4 n5 n6), o, (q' 150 0 (by omega)).trans p0, (q' 151 0 (by omega)).trans p1, (q' 152 0 (by omega)).trans p2, (q' 153 0 (by omega)).trans p3, (q' 154 0 (by omega)).trans p4⟩
theorem Px.p7 (S : Px G ad P0 h n x6 x7 x8 x9 f0 f1 f2 f3 f4) (w : Int) : ∃ h', xp G h (some (ad 5 0)) 5 7 (.int (iI w)) = some h' ∧ Px G ad P0 h' n x6 w x8 x9 f0 f1 f2 f3 f4 := by
  obtain ⟨P, R, q, p, p0, p1, p2, p3, p4⟩ := S
  obtain ⟨h', P', e, R', o, q'⟩ := R.sf' p (j := 7) (by simp) (.int (iI w))
  exact ⟨h', e, P', R', fun k i n1 n2 n3 n4 n5 n6 => (q' k i (by omega)).trans (q k i n1 n2 n3 n4 n5 n6), o, (q' 150 0 (by omega)).trans p0, (q' 151 0 (by omega)).trans p1, (q' 152 0 (by omega)).trans p2, (q' 153 0 (by omega)).trans p3, (q' 154 0 (by omega)).trans p4⟩
theorem Px.p8 (S : Px G ad P0 h n x6 x7 x8 x9 f0 f1 f2 f3 f4) (w : Int) : ∃ h', xp G h (some (ad 5 0)) 5 8 (.int (iI w)) = some h' ∧ Px G ad P0 h' n x6 x7 w x9 f0 f1 f2 f3 f4 := by
  obtain ⟨P, R, q, p, p0, p1, p2, p3, p4⟩ := S
  obtain ⟨h', P', e, R', o, q'⟩ := R.sf' p (j := 8) (by simp) (.int (iI w))
  exact ⟨h', e, P', R', fun k i n1 n2 n3 n4 n5 n6 => (q' k i (by omega)).trans (q k i n1 n2 n3 n4 n5 n6), o, (q' 150 0 (by omega)).trans p0, (q' 151 0 (by omega)).trans p1, (q' 152 0 (by omega)).trans p2, (q' 153 0 (by omega)).trans p3, (q' 154 0 (by omega)).trans p4⟩
theorem Px.p9 (S : Px G ad P0 h n x6 x7 x8 x9 f0 f1 f2 f3 f4) (w : Int) : ∃ h', xp G h (some (ad 5 0)) 5 9 (.int (iI w)) = some h' ∧ Px G ad P0 h' n x6 x7 x8 w f0 f1 f2 f3 f4 := by
  obtain ⟨P, R, q, p, p0, p1, p2, p3, p4⟩ := S
  obtain ⟨h', P', e, R', o, q'⟩ := R.sf' p (j := 9) (by simp) (.int (iI w))
  exact ⟨h', e, P', R', fun k i n1 n2 n3 n4 n5 n6 => (q' k i (by omega)).trans (q k i n1 n2 n3 n4 n5 n6), o, (q' 150 0 (by omega)).trans p0, (q' 151 0 (by omega)).trans p1, (q' 152 0 (by omega)).trans p2, (q' 153 0 (by omega)).trans p3, (q' 154 0 (by omega)).trans p4⟩
theorem c_isBetter (S : Px G ad P0 h n x6 x7 x8 x9 f0 f1 f2 f3 f4) {w b : Int} (w0 : 0 ≤ w) (w1 : w ≤ 100000) (b0 : 0 ≤ b) (b1 : b ≤ 100) (h80 : 0 ≤ x8) (h81 : x8 ≤ 100) (h90 : 0 ≤ x9) (h91 : x9 ≤ 100000) : F_X5_isBetter G h (ad 5 0) (iI w) (iI b) = some (iI (if x9 < w ∨ (w = x9 ∧ b < x8) then 1 else 0)) := by
  unfold F_X5_isBetter
  rw [S.i.2.2.2.2, Option.bind_some]
  by_cases c1 : x9 < w
  · rw [if_pos (by rw [iI_lt (by omega) (by omega) (by omega) (by omega)]; exact c1), if_pos (Or.inl c1)]; rfl
  · rw [if_neg (by rw [iI_lt (by omega) (by omega) (by omega) (by omega)]; exact c1), Option.bind_some]
    by_cases c2 : w = x9
    · rw [if_pos (by rw [c2]), S.i.2.2.2.1, Option.bind_some]
      by_cases c3 : x8 ≤ b
      · rw [if_pos (by rw [iI_le (by omega) (by omega) (by omega) (by omega)]; exact c3), if_neg (by omega)]; rfl
      · rw [if_neg (by rw [iI_le (by omega) (by omega) (by omega) (by omega)]; exact c3), if_pos (by omega)]; rfl
    · rw [if_neg (by rw [iI_eq (by omega) (by omega) (by omega) (by omega)]; exact c2), if_neg (by omega)]; rfl
end PLN
/-! the search of the planner -/
section EXP
variable {G : Nat → Nat} {ad : Nat → Nat → Nat} {P0 : xP} {x6 : Int} {f0 f1 f2 f3 f4 : Int → Int} {N : Nat} {wt ct : Nat → Int} {rm : Int}
abbrev Pb (G : Nat → Nat) (ad : Nat → Nat → Nat) (P0 : xP) (h : xH) (x6 : Int) (f0 f1 f2 f3 f4 : Int → Int) (N : Nat) (wt : Nat → Int) (M : Nat) : Prop := Px G ad P0 h (N : Int) x6 (cm N M : Int) (tot one1 N M) (tot wt N M) f0 f1 f2 f3 f4
def Te (N : Nat) (wt ct : Nat → Int) (rm : Int) (j A M' : Nat) : Prop := ∀ M, M < 2 ^ N → M / 2 ^ j = A → tot ct N M ≤ rm → tot wt N M = tot wt N M' → tot one1 N M = tot one1 N M' → M ≤ M'
def Ge (N : Nat) (wt ct : Nat → Int) (rm : Int) (X M' : Nat) : Prop := ∀ M, M < 2 ^ N → X ≤ M → tot ct N M ≤ rm → Dm N wt M' M
theorem in_or {j A M : Nat} (h : A * 2 ^ j ≤ M) : M / 2 ^ j = A ∨ (A + 1) * 2 ^ j ≤ M := by
  have hp : 0 < 2 ^ j := Nat.two_pow_pos j
  have h1 : A ≤ M / 2 ^ j := (Nat.le_div_iff_mul_le hp).mpr h
  by_cases c : M / 2 ^ j = A
  · exact Or.inl c
  · exact Or.inr ((Nat.le_div_iff_mul_le hp).mp (by omega))
theorem c_explore (C : Cb N wt ct) (h1 : ∀ j : Nat, j < N → f1 j = ct j) (h2 : ∀ j : Nat, j < N → f2 j = wt j) (h3 : ∀ i j : Nat, i < N → i + j = N → f3 i = sfx wt i j) (r0 : 0 ≤ rm) (r1 : rm ≤ 100000000) : ∀ (j d i A : Nat) (h : xH) (Mb : Nat), i + j = N → j + 1 ≤ d → A < 2 ^ i → tot ct i A ≤ rm → Pb G ad P0 h x6 f0 f1 f2 f3 f4 N wt Mb → Mb < 2 ^ N → tot ct N Mb ≤ rm → Ge N wt ct rm ((A + 1) * 2 ^ j) Mb → Te N wt ct rm j A Mb → ∃ h' Mb', F_X5_explore d G h (ad 5 0) (iI (i : Int)) (iI (cm i A : Int)) (iI (rm - tot ct i A)) (iI (tot wt i A)) = some h' ∧ Pb G ad P0 h' x6 f0 f1 f2 f3 f4 N wt Mb' ∧ Mb' < 2 ^ N ∧ tot ct N Mb' ≤ rm ∧ (Mb' = Mb ∨ Mb' / 2 ^ j = A) ∧ Ge N wt ct rm (A * 2 ^ j) Mb' := by
  have N14 := C.1
  have hp := pow_b C
  have ctn : ∀ k, k < N → 0 ≤ ct k := fun k hk => (C.2 k hk).1
  have wtn : ∀ k, k < N → 0 ≤ wt k := fun k hk => (C.2 k hk).2.2.1
  intro j
  induction j with
  | zero =>
    intro d i A h Mb hij hd hA hc S hMb hMc hG hT
    obtain ⟨d, rfl⟩ : ∃ d', d = d' + 1 := ⟨d - 1, by omega⟩
    have hi : i = N := by omega
    subst hi
    have b1 := cb_b C (i := i) (A := A) (Nat.le_refl _)
    have b2 := cb_b C (i := i) (A := Mb) (Nat.le_refl _)
    have eb := c_isBetter S (w := tot wt i A) (b := tot one1 i A) (by omega) (by omega) (by omega) (by omega) (by omega) (by omega) (by omega) (by omega)
    have bc := c_bitCount (i := i) (A := A) N14
    have hG' : Ge i wt ct rm (A + 1) Mb := by rw [Nat.pow_zero, Nat.mul_one] at hG; exact hG
    rw [Nat.pow_zero, Nat.mul_one]
    unfold F_X5_explore
    rw [bc, Option.bind_some, S.g.2, Option.bind_some, show (fun _ : Nat => (1 : Int)) = one1 from rfl, eb, Option.bind_some]
    by_cases c : tot wt i Mb < tot wt i A ∨ (tot wt i A = tot wt i Mb ∧ tot one1 i A < tot one1 i Mb)
    · rw [if_pos c, if_neg (by decide)]
      obtain ⟨g1, e1, S1⟩ := S.p7 (cm i A : Int)
      obtain ⟨g2, e2, S2⟩ := S1.p8 (tot one1 i A)
      obtain ⟨g3, e3, S3⟩ := S2.p9 (tot wt i A)
      refine ⟨g3, A, ?_, S3, hA, hc, Or.inr (by simp), fun M hM hX hf => ?_⟩
      · rw [e1, Option.bind_some, e2, Option.bind_some, e3, Option.bind_some, if_neg (by rw [l_0, iI_lt (by omega) (by omega) (by omega) (by omega)]; omega), S3.i.1, Option.bind_some, if_pos (by rw [iI_le (by omega) (by omega) (by omega) (by omega)]; omega)]
      · by_cases q : M = A
        · subst q; exact Or.inr ⟨rfl, Or.inr ⟨rfl, Nat.le_refl _⟩⟩
        · have := hG' M hM (by omega) hf
          unfold Dm at *
          omega
    · rw [if_neg c, if_pos (by decide)]
      refine ⟨h, Mb, ?_, S, hMb, hMc, Or.inl rfl, fun M hM hX hf => ?_⟩
      · rw [if_neg (by rw [l_0, iI_lt (by omega) (by omega) (by omega) (by omega)]; omega), S.i.1, Option.bind_some, if_pos (by rw [iI_le (by omega) (by omega) (by omega) (by omega)]; omega)]
      · by_cases q : M = A
        · subst q
          have := hT M hM (by simp) hf
          unfold Dm
          omega
        · exact hG' M hM (by omega) hf
  | succ j ih =>
    intro d i A h Mb hij hd hA hc S hMb hMc hG hT
    obtain ⟨d, rfl⟩ : ∃ d', d = d' + 1 := ⟨d - 1, by omega⟩
    have hi : i < N := by omega
    have b1 := cb_b C (i := i) (A := A) (by omega)
    have b2 := cb_b C (i := N) (A := Mb) (Nat.le_refl _)
    have eb := c_isBetter S (w := tot wt i A) (b := tot one1 i A) (by omega) (by omega) (by omega) (by omega) (by omega) (by omega) (by omega) (by omega)
    have bc := c_bitCount (i := i) (A := A) (by omega)
    have pj : 0 < 2 ^ (j + 1) := Nat.two_pow_pos _
    have cbi := C.2 i hi
    have sf0 : 0 ≤ sfx wt i (j + 1) ∧ sfx wt i (j + 1) ≤ 1000 * (j + 1 : Nat) := by
      have : ∀ k : Nat, i + k ≤ N → 0 ≤ sfx wt i k ∧ sfx wt i k ≤ 1000 * (k : Int) := by
        intro k
        induction k with
        | zero => intro _; simp [sfx]
        | succ k ihk =>
          intro hk
          have a1 := ihk (by omega)
          have a2 := C.2 (i + k) (by omega)
          unfold sfx
          omega
      exact this (j + 1) (by omega)
    have ew : ∀ M, M / 2 ^ (j + 1) = A → tot wt N M ≤ tot wt i A + sfx wt i (j + 1) ∧ tot one1 i A ≤ tot one1 N M ∧ tot wt i A ≤ tot wt N M ∧ tot ct i A ≤ tot ct N M := by
      intro M hM
      have a1 := tot_up (f := wt) i (j + 1) M (fun k hk => wtn k (by omega))
      have a2 := tot_ge (f := one1) i (j + 1) M (fun k hk => Int.zero_le_ofNat 1)
      have a3 := tot_ge (f := wt) i (j + 1) M (fun k hk => wtn k (by omega))
      have a4 := tot_ge (f := ct) i (j + 1) M (fun k hk => ctn k (by omega))
      rw [hM, hij] at a1 a2 a3 a4
      exact ⟨a1, a2, a3, a4⟩
    have eo : ∀ M, M / 2 ^ (j + 1) = A → tot one1 N M = tot one1 i A → M = A * 2 ^ (j + 1) := by
      intro M hM ho
      have := one_eq i (j + 1) M (by rw [hM, hij]; exact ho)
      rw [hM] at this
      exact this
    have m0 : A * 2 ^ (j + 1) / 2 ^ (j + 1) = A := Nat.mul_div_cancel _ pj
    have mlt : (A + 1) * 2 ^ (j + 1) ≤ 2 ^ N := by
      have e2 : 2 ^ N = 2 ^ i * 2 ^ (j + 1) := by rw [← hij]; exact Nat.pow_add 2 i (j + 1)
      rw [e2]
      exact Nat.mul_le_mul_right _ hA
    have m0lt : A * 2 ^ (j + 1) < 2 ^ N := by
      have : A * 2 ^ (j + 1) < (A + 1) * 2 ^ (j + 1) := by rw [Nat.add_mul]; omega
      omega
    have t0 : ∀ f, tot f N (A * 2 ^ (j + 1)) = tot f i A := fun f => by rw [← hij]; exact tot_ext f i (j + 1) A
    have rest : ∀ (g : xH) (M1 : Nat), Pb G ad P0 g x6 f0 f1 f2 f3 f4 N wt M1 → M1 < 2 ^ N → tot ct N M1 ≤ rm → Ge N wt ct rm ((A + 1) * 2 ^ (j + 1)) M1 → Te N wt ct rm (j + 1) A M1 → Dm N wt M1 (A * 2 ^ (j + 1)) → ∃ h' Mb', (if iI (i : Int) < 0 then some g else (gI g (some (ad 5 0)) 5 5).bind fun v20 => if v20 ≤ iI (i : Int) then some g else if 14 ≤ iI (i : Int) then some g else (gR g (some (ad 5 0)) 5 3).bind fun w23 => (ldI 2 G g w23 (iI (i : Int))).bind fun v24 => (xc g (some (ad 5 0)) 5).bind fun b26 => (F_X5_isBetter G g b26 (iI (tot wt i A) + v24) (iI (tot one1 i A) + 1)).bind fun v25 => if v25 = 0 then some g else (xc g (some (ad 5 0)) 5).bind fun b29 => (F_X5_branch (F_X5_explore d) G g b29 (iI (i : Int)) (iI (cm i A : Int)) (iI (rm - tot ct i A)) (iI (tot wt i A))).bind fun h28 => some h28) = some h' ∧ Pb G ad P0 h' x6 f0 f1 f2 f3 f4 N wt Mb' ∧ Mb' < 2 ^ N ∧ tot ct N Mb' ≤ rm ∧ (Mb' = M1 ∨ Mb' / 2 ^ (j + 1) = A) ∧ Ge N wt ct rm (A * 2 ^ (j + 1)) Mb' := by
      intro g M1 S1 hM1 hc1 hG1 hT1 hD1
      have b3 := cb_b C (i := N) (A := M1) (Nat.le_refl _)
      have e3 := S1.l3 (z := (i : Int)) (by omega) (by omega)
      rw [h3 i (j + 1) hi hij] at e3
      have eb2 := c_isBetter S1 (w := tot wt i A + sfx wt i (j + 1)) (b := tot one1 i A + 1) (by omega) (by omega) (by omega) (by omega) (by omega) (by omega) (by omega) (by omega)
      rw [if_neg (by rw [l_0, iI_lt (by omega) (by omega) (by omega) (by omega)]; omega), S1.i.1, Option.bind_some, if_neg (by rw [iI_le (by omega) (by omega) (by omega) (by omega)]; omega), if_neg (by rw [l_14, iI_le (by omega) (by omega) (by omega) (by omega)]; omega), S1.g.1.2.2.2.1, Option.bind_some, e3, Option.bind_some, S1.g.2, Option.bind_some, l_1, iI_add, iI_add, eb2, Option.bind_some]
      by_cases c : tot wt N M1 < tot wt i A + sfx wt i (j + 1) ∨ (tot wt i A + sfx wt i (j + 1) = tot wt N M1 ∧ tot one1 i A + 1 < tot one1 N M1)
      · rw [if_pos c, if_neg (by decide), Option.bind_some]
        have e1 := S1.l1 (z := (i : Int)) (by omega) (by omega)
        rw [h1 i hi] at e1
        have e2 := S1.l2 (z := (i : Int)) (by omega) (by omega)
        rw [h2 i hi] at e2
        have ei : iI (i : Int) + 1 = iI ((i + 1 : Nat) : Int) := by rw [l_1, iI_add]; rfl
        have p2 : 2 ^ (j + 1) = 2 * 2 ^ j := by rw [Nat.pow_succ, Nat.mul_comm]
        have p3 : 2 ^ (i + 1) = 2 * 2 ^ i := by rw [Nat.pow_succ, Nat.mul_comm]
        have x2 : (2 * A + 1 + 1) * 2 ^ j = (A + 1) * 2 ^ (j + 1) := by rw [p2, ← Nat.mul_assoc]; congr 1; omega
        have x3 : 2 * A * 2 ^ j = A * 2 ^ (j + 1) := by rw [p2, ← Nat.mul_assoc]; congr 1; omega
        have up1 : ∀ M, M / 2 ^ j = 2 * A + 1 → M / 2 ^ (j + 1) = A := fun M hM => by
          rw [Nat.pow_succ, ← Nat.div_div_eq_div_mul, hM]; omega
        have up0 : ∀ M, M / 2 ^ j = 2 * A → M / 2 ^ (j + 1) = A := fun M hM => by
          rw [Nat.pow_succ, ← Nat.div_div_eq_div_mul, hM]; omega
        have T0 : Te N wt ct rm j (2 * A) M1 := fun M a b c d e => hT1 M a (up0 M b) c d e
        have ex0 : ∀ (g2 : xH) (M2 : Nat), Pb G ad P0 g2 x6 f0 f1 f2 f3 f4 N wt M2 → M2 < 2 ^ N → tot ct N M2 ≤ rm → Ge N wt ct rm ((2 * A + 1) * 2 ^ j) M2 → Te N wt ct rm j (2 * A) M2 → ∃ h' Mb', F_X5_explore d G g2 (ad 5 0) (iI ((i + 1 : Nat) : Int)) (iI (cm i A : Int)) (iI (rm - tot ct i A)) (iI (tot wt i A)) = some h' ∧ Pb G ad P0 h' x6 f0 f1 f2 f3 f4 N wt Mb' ∧ Mb' < 2 ^ N ∧ tot ct N Mb' ≤ rm ∧ (Mb' = M2 ∨ Mb' / 2 ^ j = 2 * A) ∧ Ge N wt ct rm (2 * A * 2 ^ j) Mb' := by
          intro g2 M2 S2 hM2 hc2 hG2 hT2
          have := ih d (i + 1) (2 * A) g2 M2 (by omega) (by omega) (by omega) (by rw [tot_exc]; exact hc) S2 hM2 hc2 hG2 hT2
          rw [cm_exc, tot_exc, tot_exc] at this
          exact this
        unfold F_X5_branch
        rw [if_neg (by rw [l_0, iI_lt (by omega) (by omega) (by omega) (by omega)]; omega), if_pos (by rw [l_14, iI_lt (by omega) (by omega) (by omega) (by omega)]; omega), S1.g.1.2.1, Option.bind_some, e1, Option.bind_some]
        by_cases c2 : rm - tot ct i A < ct i
        · rw [if_pos (by rw [iI_lt (by omega) (by omega) (by omega) (by omega)]; exact c2), S1.g.2, Option.bind_some, ei]
          obtain ⟨g2, M2, k1, k2, k3, k4, k5, k6⟩ := ex0 g M1 S1 hM1 hc1 (fun M hM hX hf => by
            rcases in_or hX with w | w
            · exfalso
              have a4 := tot_ge (f := ct) (i + 1) j M (fun k hk => ctn k (by omega))
              rw [w, tot_inc, show i + 1 + j = N by omega] at a4
              omega
            · rw [x2] at w
              exact hG1 M hM w hf) T0
          refine ⟨g2, M2, ?_, k2, k3, k4, ?_, ?_⟩
          · rw [k1]; rfl
          · rcases k5 with k5 | k5
            · exact Or.inl k5
            · exact Or.inr (up0 M2 k5)
          · rw [x3] at k6; exact k6
        · rw [if_neg (by rw [iI_lt (by omega) (by omega) (by omega) (by omega)]; exact c2), Option.bind_some, e1, Option.bind_some, S1.g.1.2.2.1, Option.bind_some, e2, Option.bind_some, S1.g.2, Option.bind_some, ei, or_cm (by omega), iI_sub, iI_add]
          have en : rm - tot ct i A - ct i = rm - tot ct (i + 1) (2 * A + 1) := by rw [tot_inc]; omega
          have ew' : tot wt i A + wt i = tot wt (i + 1) (2 * A + 1) := (tot_inc wt i A).symm
          rw [en, ew']
          obtain ⟨g2, M2, k1, k2, k3, k4, k5, k6⟩ := ih d (i + 1) (2 * A + 1) g M1 (by omega) (by omega) (by omega) (by rw [tot_inc]; omega) S1 hM1 hc1 (by rw [x2]; exact hG1) (fun M a b c d e => hT1 M a (up1 M b) c d e)
          obtain ⟨g3, M3, q1, q2, q3, q4, q5, q6⟩ := ex0 g2 M2 k2 k3 k4 k6 (by
            rcases k5 with k5 | k5
            · rw [k5]; exact T0
            · intro M a b c d e
              have hp : 0 < 2 ^ j := Nat.two_pow_pos j
              by_cases z : M ≤ M2
              · exact z
              · have := Nat.div_le_div_right (c := 2 ^ j) (show M2 ≤ M by omega)
                omega)
          rw [k1, Option.bind_some, k2.g.2, Option.bind_some, q1]
          refine ⟨g3, M3, rfl, q2, q3, q4, ?_, ?_⟩
          · rcases q5 with q5 | q5
            · rcases k5 with k5 | k5
              · exact Or.inl (q5.trans k5)
              · exact Or.inr (by rw [q5]; exact up1 M2 k5)
            · exact Or.inr (up0 M3 q5)
          · rw [x3] at q6; exact q6
      · rw [if_neg c, if_pos (by decide)]
        refine ⟨g, M1, rfl, S1, hM1, hc1, Or.inl rfl, fun M hM hX hf => ?_⟩
        rcases in_or hX with w | w
        · by_cases z : tot one1 N M = tot one1 i A
          · rw [eo M w z]; exact hD1
          · have a := ew M w
            have t := hT1 M hM w hf
            unfold Dm
            omega
        · exact hG1 M hM w hf
    unfold F_X5_explore
    rw [bc, Option.bind_some, S.g.2, Option.bind_some, show (fun _ : Nat => (1 : Int)) = one1 from rfl, eb, Option.bind_some]
    by_cases c : tot wt N Mb < tot wt i A ∨ (tot wt i A = tot wt N Mb ∧ tot one1 i A < tot one1 N Mb)
    · rw [if_pos c, if_neg (by decide)]
      obtain ⟨g1, e1, S1⟩ := S.p7 (cm i A : Int)
      obtain ⟨g2, e2, S2⟩ := S1.p8 (tot one1 i A)
      obtain ⟨g3, e3, S3⟩ := S2.p9 (tot wt i A)
      rw [e1, Option.bind_some, e2, Option.bind_some, e3, Option.bind_some]
      have S4 : Pb G ad P0 g3 x6 f0 f1 f2 f3 f4 N wt (A * 2 ^ (j + 1)) := by
        unfold Pb
        have ecm : cm N (A * 2 ^ (j + 1)) = cm i A := by rw [← hij]; exact cm_ext i (j + 1) A
        rw [t0 one1, t0 wt, ecm]
        exact S3
      obtain ⟨h', Mb', k1, k2, k3, k4, k5, k6⟩ := rest g3 (A * 2 ^ (j + 1)) S4 m0lt (by rw [t0 ct]; exact hc) (fun M hM hX hf => by
        have := hG M hM hX hf
        have a1 := t0 wt
        have a2 := t0 one1
        unfold Dm at *
        omega) (fun M hM hA' hf hw ho => by
        rw [t0 one1] at ho
        exact Nat.le_of_eq (eo M hA' ho)) (Or.inr ⟨rfl, Or.inr ⟨rfl, Nat.le_refl _⟩⟩)
      refine ⟨h', Mb', k1, k2, k3, k4, Or.inr ?_, k6⟩
      rcases k5 with k5 | k5
      · rw [k5, m0]
      · exact k5
    · rw [if_neg c, if_pos (by decide)]
      obtain ⟨h', Mb', k1, k2, k3, k4, k5, k6⟩ := rest h Mb S hMb hMc hG hT (by
        have a1 := t0 wt
        have a2 := t0 one1
        have t := hT (A * 2 ^ (j + 1)) m0lt m0 (by rw [t0 ct]; exact hc)
        unfold Dm
        omega)
      rw [S.g.2] at k1
      exact ⟨h', Mb', k1, k2, k3, k4, k5, k6⟩
end EXP
