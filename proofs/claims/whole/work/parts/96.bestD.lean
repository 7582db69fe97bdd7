/-! the choice -/
def cd (x y l : Int) : Int := 1000000 * x + 1000 * y + 10 * l
def lt3 (x y l x' y' l' : Int) : Prop := x < x' ∨ (x = x' ∧ (y < y' ∨ (y = y' ∧ l < l')))
def Db (x0 y0 l0 x y l : Int) : Prop := (1 ≤ y ∧ y ≤ x ∧ x ≤ 12 ∧ 1 ≤ l ∧ l ≤ 20) ∧ lt3 x y l x0 y0 l0
def Bs (E : Int → Int → Int → Prop) (N : Int → Int → Int → Int) (D : Int → Int → Int → Prop) (b q : Int) : Prop := (b = -1 ∧ ∀ x y l, D x y l → ¬ E x y l) ∨ ∃ x y l, D x y l ∧ E x y l ∧ b = cd x y l ∧ q = N x y l ∧ ∀ x' y' l', D x' y' l' → E x' y' l' → N x y l ≤ N x' y' l' ∧ (lt3 x' y' l' x y l → N x y l < N x' y' l')
section CHO
variable {E : Int → Int → Int → Prop} {N : Int → Int → Int → Int} {D D' : Int → Int → Int → Prop} {b q b' q' : Int}
theorem Bs.dom (B : Bs E N D b q) (hd : ∀ x y l, D' x y l ↔ D x y l) : Bs E N D' b q := by
  rcases B with ⟨h1, h2⟩ | ⟨x, y, l, h1, h2, h3, h4, h5⟩
  · exact Or.inl ⟨h1, fun x y l h => h2 x y l ((hd x y l).mp h)⟩
  · exact Or.inr ⟨x, y, l, (hd x y l).mpr h1, h2, h3, h4, fun x' y' l' h => h5 x' y' l' ((hd x' y' l').mp h)⟩
theorem Bs.uniq (B : Bs E N D b q) (B' : Bs E N D b' q') : b = b' := by
  rcases B with ⟨h1, h2⟩ | ⟨x, y, l, h1, h2, h3, h4, h5⟩ <;> rcases B' with ⟨g1, g2⟩ | ⟨x', y', l', g1, g2, g3, g4, g5⟩
  · omega
  · exact absurd g2 (h2 _ _ _ g1)
  · exact absurd h2 (g2 _ _ _ h1)
  · have a1 := h5 x' y' l' g1 g2
    have a2 := g5 x y l h1 h2
    by_cases c1 : lt3 x y l x' y' l'
    · have := a2.2 c1; omega
    · by_cases c2 : lt3 x' y' l' x y l
      · have := a1.2 c2; omega
      · unfold lt3 at c1 c2
        have e1 : x = x' := by omega
        have e2 : y = y' := by omega
        have e3 : l = l' := by omega
        rw [h3, g3, e1, e2, e3]
theorem Bs.neg (B : Bs E N D b q) (hd : ∀ x y l, D x y l → 1 ≤ x ∧ 1 ≤ y ∧ 1 ≤ l ∧ x ≤ 12 ∧ y ≤ 12 ∧ l ≤ 20) : (b = -1 ∧ ∀ x y l, D x y l → ¬ E x y l) ∨ (0 ≤ b ∧ b ≤ 13000000 ∧ ∃ x y l, D x y l ∧ E x y l ∧ b = cd x y l ∧ q = N x y l ∧ ∀ x' y' l', D x' y' l' → E x' y' l' → N x y l ≤ N x' y' l' ∧ (lt3 x' y' l' x y l → N x y l < N x' y' l')) := by
  rcases B with h | ⟨x, y, l, h1, h2⟩
  · exact Or.inl h
  · have := hd x y l h1
    refine Or.inr ⟨?_, ?_, x, y, l, h1, h2⟩ <;> rw [h2.2.1] <;> unfold cd <;> omega
/-- one more that isn't eligible, or isn't better -/
theorem Bs.skip (B : Bs E N D b q) (hd : ∀ x y l, D' x y l → D x y l ∨ ¬ E x y l ∨ (0 ≤ b ∧ q ≤ N x y l ∧ ∀ x' y' l', D x' y' l' → lt3 x' y' l' x y l)) (hs : ∀ x y l, D x y l → D' x y l) (hn : b = -1 → ∀ x y l, D' x y l → D x y l ∨ ¬ E x y l) : Bs E N D' b q := by
  rcases B with ⟨h1, h2⟩ | ⟨x, y, l, h1, h2, h3, h4, h5⟩
  · refine Or.inl ⟨h1, fun x y l h => ?_⟩
    rcases hn h1 x y l h with g | g
    · exact h2 x y l g
    · exact g
  · refine Or.inr ⟨x, y, l, hs x y l h1, h2, h3, h4, fun x' y' l' h he => ?_⟩
    rcases hd x' y' l' h with g | g | ⟨g1, g2, g3⟩
    · exact h5 x' y' l' g he
    · exact absurd he g
    · refine ⟨by omega, fun z => ?_⟩
      have := g3 x y l h1
      unfold lt3 at z this
      omega
/-- one more that is better -/
theorem Bs.take (B : Bs E N D b q) {x0 y0 l0 : Int} (hD : D' x0 y0 l0) (hE : E x0 y0 l0) (hq : b = -1 ∨ N x0 y0 l0 < q) (hd : ∀ x y l, D' x y l → D x y l ∨ ¬ E x y l ∨ (N x0 y0 l0 ≤ N x y l ∧ (lt3 x y l x0 y0 l0 → N x0 y0 l0 < N x y l))) (hb : ∀ x y l, D x y l → 1 ≤ x ∧ 1 ≤ y ∧ 1 ≤ l ∧ x ≤ 12 ∧ y ≤ 12 ∧ l ≤ 20) : Bs E N D' (cd x0 y0 l0) (N x0 y0 l0) := by
  refine Or.inr ⟨x0, y0, l0, hD, hE, rfl, rfl, fun x' y' l' h he => ?_⟩
  rcases hd x' y' l' h with g | g | g
  · rcases B.neg hb with ⟨h1, h2⟩ | ⟨h0, h1, x, y, l, k1, k2, k3, k4, k5⟩
    · exact absurd he (h2 x' y' l' g)
    · have := (k5 x' y' l' g he).1
      have hq' : N x0 y0 l0 < q := by rcases hq with z | z <;> omega
      exact ⟨by omega, fun _ => by omega⟩
  · exact absurd he g
  · exact g
theorem Db_b {x0 y0 l0 x y l : Int} (h : Db x0 y0 l0 x y l) : 1 ≤ x ∧ 1 ≤ y ∧ 1 ≤ l ∧ x ≤ 12 ∧ y ≤ 12 ∧ l ≤ 20 := by
  unfold Db at h
  omega
end CHO
section SEC
variable {G : Nat → Nat} {h : xH} {ad : Nat → Nat → Nat} {P0 : xP} {l r c : Int → Int} {x3 x4 : Int}
theorem c_choose (S : Sx G ad P0 h l r c x3 x4) {N : Int → Int → Int → Int} (hN : ∀ x y k, 1 ≤ y → y ≤ x → x ≤ 12 → 1 ≤ k → k ≤ 20 → N x y k = N x y (k + 1) + c (pi' x y * 21 + k)) (h21 : ∀ x y, N x y 21 = 0) (hb : ∀ x y k, 1 ≤ y → y ≤ x → x ≤ 12 → 1 ≤ k → k ≤ 20 → 0 ≤ N x y k ∧ N x y k ≤ 601) (rb : ∀ x y, 1 ≤ y → y ≤ x → x ≤ 12 → 0 ≤ r (pi' x y) ∧ r (pi' x y) ≤ 20) : ∃ h' z3 z4 b q, F_X1_choose G h (ad 2 0) = some (iI b, h') ∧ Sx G ad P0 h' l r c z3 z4 ∧ Bs (fun x y k => k ≤ r (pi' x y)) N (Db 13 1 1) b q := by
  have inner : ∀ (x : Int), 1 ≤ x → x ≤ 12 → ∀ (k8 : xH → Int32 → Int32 → Int32 → Option (Int32 × xH)) (n : Nat) (y : Int) (h1 : xH) (z3 z4 b q : Int), Sx G ad P0 h1 l r c z3 z4 → Bs (fun x y k => k ≤ r (pi' x y)) N (Db x y 1) b q → (b = -1 → q = 602) → 0 ≤ q → q ≤ 602 → 1 ≤ y → y ≤ x + 1 → x + 1 - y < n → ∃ h2 z3 z4 b' q', F_X1_choose_17 G (ad 2 0) (iI x) k8 n h1 (iI b) (iI q) (iI y) = k8 h2 (iI b') (iI q') (iI (x + 1)) ∧ Sx G ad P0 h2 l r c z3 z4 ∧ Bs (fun x y k => k ≤ r (pi' x y)) N (Db (x + 1) 1 1) b' q' ∧ (b' = -1 → q' = 602) ∧ 0 ≤ q' ∧ q' ≤ 602 := by
    intro x x0 x1 k8 n
    induction n with
    | zero => intro y h1 z3 z4 b q _ _ _ _ _ y0 y1 hn; omega
    | succ n ih =>
      intro y h1 z3 z4 b q S1 B1 hq q0 q1 y0 y1 hn
      by_cases e : y = x + 1
      · subst e
        refine ⟨h1, z3, z4, b, q, ?_, S1, B1.dom (fun x' y' l' => by unfold Db lt3; omega), hq, q0, q1⟩
        unfold F_X1_choose_17
        rw [if_pos (by rw [iI_lt (by omega) (by omega) (by omega) (by omega)]; omega), l_1, iI_add]
        rfl
      · have yx : y ≤ x := by omega
        have pb := pi_b y0 yx x1
        obtain ⟨h2, L, e2, S2, hC⟩ := c_chooseRate S1 (q := pi' x y) pb.1 pb.2 (N := N x y) (fun k k0 k1 => hN x y k y0 yx x1 k0 k1) (h21 x y) (fun k k0 k1 => hb x y k y0 yx x1 k0 k1) (rb x y y0 yx x1)
        have Lb : 0 ≤ L ∧ L ≤ 20 := by rcases hC with ⟨d1, -⟩ | ⟨d1, d2, -⟩ <;> omega
        have bb : -1 ≤ b ∧ b ≤ 13000000 := by
          rcases B1.neg (fun x y l => Db_b) with ⟨g1, -⟩ | ⟨g0, g1, -⟩ <;> omega
        have dom : ∀ x' y' l', Db x (y + 1) 1 x' y' l' ↔ Db x y 21 x' y' l' := fun x' y' l' => by unfold Db lt3; omega
        have pre : F_X1_choose_17 G (ad 2 0) (iI x) k8 (n + 1) h1 (iI b) (iI q) (iI y) = (if iI L ≤ iI 0 then F_X1_choose_17 G (ad 2 0) (iI x) k8 n h2 (iI b) (iI q) (iI (y + 1)) else if iI q ≤ iI (if 1 ≤ L then N x y L else 602) then F_X1_choose_17 G (ad 2 0) (iI x) k8 n h2 (iI b) (iI q) (iI (y + 1)) else F_X1_choose_17 G (ad 2 0) (iI x) k8 n h2 (iI (cd x y L)) (iI (if 1 ≤ L then N x y L else 602)) (iI (y + 1))) := by
          conv => lhs; unfold F_X1_choose_17
          rw [if_neg (by rw [iI_lt (by omega) (by omega) (by omega) (by omega)]; omega), c_pairOf (by omega) x1, Option.bind_some, S1.g0.2.2.2.2.2, Option.bind_some, e2, Option.bind_some, S2.g0.2.2.2.1, Option.bind_some, S2.g0.2.2.2.2.1, Option.bind_some, Option.bind_some, Option.bind_some, l_1, l_1000000, l_1000, l_10, iI_mul, iI_mul, iI_mul, iI_add, iI_add, iI_add]
          rfl
        rw [pre]
        by_cases c1 : L ≤ 0
        · rw [if_pos (by rw [iI_le (by omega) (by omega) (by omega) (by omega)]; exact c1)]
          refine ih (y + 1) h2 _ _ b q S2 ?_ hq q0 q1 (by omega) (by omega) (by omega)
          refine (B1.skip (D' := Db x y 21) (fun x' y' l' hd => ?_) (fun x' y' l' hd => by unfold Db lt3 at *; omega) (fun _ x' y' l' hd => ?_)).dom dom
          · rcases hC with ⟨d1, d2⟩ | ⟨d1, -⟩
            · by_cases e : x' = x ∧ y' = y
              · exact Or.inr (Or.inl (by rw [e.1, e.2]; exact d2 l' (Db_b hd).2.2.1 (Db_b hd).2.2.2.2.2))
              · exact Or.inl (by unfold Db lt3 at *; omega)
            · omega
          · rcases hC with ⟨d1, d2⟩ | ⟨d1, -⟩
            · by_cases e : x' = x ∧ y' = y
              · exact Or.inr (by rw [e.1, e.2]; exact d2 l' (Db_b hd).2.2.1 (Db_b hd).2.2.2.2.2)
              · exact Or.inl (by unfold Db lt3 at *; omega)
            · omega
        · rw [if_neg (by rw [iI_le (by omega) (by omega) (by omega) (by omega)]; exact c1)]
          have hNL := hb x y L y0 yx x1 (by omega) (by omega)
          rw [if_pos (show 1 ≤ L by omega)]
          obtain ⟨d1, d2, d3, d4⟩ : 1 ≤ L ∧ L ≤ 20 ∧ L ≤ r (pi' x y) ∧ ∀ k, 1 ≤ k → k ≤ 20 → k ≤ r (pi' x y) → N x y L ≤ N x y k ∧ (k < L → N x y L < N x y k) := by
            rcases hC with ⟨d1, -⟩ | d
            · omega
            · exact d
          by_cases c2 : q ≤ N x y L
          · rw [if_pos (by rw [iI_le (by omega) (by omega) (by omega) (by omega)]; exact c2)]
            have b0 : b ≠ -1 := fun z => by have := hq z; omega
            refine ih (y + 1) h2 _ _ b q S2 ?_ hq q0 q1 (by omega) (by omega) (by omega)
            refine (B1.skip (D' := Db x y 21) (fun x' y' l' hd => ?_) (fun x' y' l' hd => by unfold Db lt3 at *; omega) (fun z => absurd z b0)).dom dom
            by_cases e : x' = x ∧ y' = y
            · by_cases e3 : l' ≤ r (pi' x y)
              · have := (d4 l' (Db_b hd).2.2.1 (Db_b hd).2.2.2.2.2 e3).1
                refine Or.inr (Or.inr ⟨by omega, by rw [e.1, e.2]; omega, fun x'' y'' l'' hd2 => by unfold Db lt3 at *; omega⟩)
              · exact Or.inr (Or.inl (by rw [e.1, e.2]; exact e3))
            · exact Or.inl (by unfold Db lt3 at *; omega)
          · rw [if_neg (by rw [iI_le (by omega) (by omega) (by omega) (by omega)]; exact c2)]
            refine ih (y + 1) h2 _ _ (cd x y L) (N x y L) S2 ?_ (fun z => by unfold cd at z; omega) (by omega) (by omega) (by omega) (by omega) (by omega)
            refine (B1.take (D' := Db x y 21) (x0 := x) (y0 := y) (l0 := L) (by unfold Db lt3; omega) d3 (Or.inr (by omega)) (fun x' y' l' hd => ?_) (fun x y l => Db_b)).dom dom
            by_cases e : x' = x ∧ y' = y
            · by_cases e3 : l' ≤ r (pi' x y)
              · have := d4 l' (Db_b hd).2.2.1 (Db_b hd).2.2.2.2.2 e3
                refine Or.inr (Or.inr ?_)
                rw [e.1, e.2]
                exact ⟨this.1, fun z => this.2 (by unfold lt3 at z; omega)⟩
              · exact Or.inr (Or.inl (by rw [e.1, e.2]; exact e3))
            · exact Or.inl (by unfold Db lt3 at *; omega)
  have outer : ∀ (n : Nat) (x : Int) (h1 : xH) (z3 z4 b q : Int), Sx G ad P0 h1 l r c z3 z4 → Bs (fun x y k => k ≤ r (pi' x y)) N (Db x 1 1) b q → (b = -1 → q = 602) → 0 ≤ q → q ≤ 602 → 1 ≤ x → x ≤ 13 → 13 - x < n → ∃ h2 z3 z4 b' q', F_X1_choose_8 G (ad 2 0) n h1 (iI b) (iI q) (iI x) = some (iI b', h2) ∧ Sx G ad P0 h2 l r c z3 z4 ∧ Bs (fun x y k => k ≤ r (pi' x y)) N (Db 13 1 1) b' q' := by
    intro n
    induction n with
    | zero => intro x h1 z3 z4 b q _ _ _ _ _ _ _ hn; omega
    | succ n ih =>
      intro x h1 z3 z4 b q S1 B1 hq q0 q1 x0 x1 hn
      by_cases e : x = 13
      · subst e
        refine ⟨h1, z3, z4, b, q, ?_, S1, B1⟩
        unfold F_X1_choose_8
        rw [if_pos (by decide)]
      · obtain ⟨h2, z3', z4', b', q', e2, S2, B2, hq', q0', q1'⟩ := inner x x0 (by omega) (fun h' x1' x2' x3' => F_X1_choose_8 G (ad 2 0) n h' x1' x2' x3') xN 1 h1 z3 z4 b q S1 B1 hq q0 q1 (by omega) (by omega) (by unfold xN; omega)
        obtain ⟨h3, z3'', z4'', b'', q'', e3, S3, B3⟩ := ih (x + 1) h2 _ _ b' q' S2 B2 hq' q0' q1' (by omega) (by omega) (by omega)
        refine ⟨h3, z3'', z4'', b'', q'', ?_, S3, B3⟩
        rw [← e3]
        conv => lhs; unfold F_X1_choose_8
        rw [if_neg (by rw [l_12, iI_lt (by omega) (by omega) (by omega) (by omega)]; omega)]
        exact e2
  obtain ⟨h2, z3, z4, b, q, e, S2, B2⟩ := outer xN 1 h x3 x4 (-1) 602 S (Or.inl ⟨rfl, fun x y l hd => by unfold Db lt3 at hd; omega⟩) (fun _ => rfl) (by omega) (by omega) (by omega) (by omega) (by unfold xN; omega)
  refine ⟨h2, z3, z4, b, q, ?_, S2, B2⟩
  unfold F_X1_choose
  rw [l_m1, l_602, l_1]
  exact e
end SEC
