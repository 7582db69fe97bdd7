/-! reached, rings, rates -/
section SEB
variable {G : Nat → Nat} {h : xH} {ad : Nat → Nat → Nat} {P0 : xP} {l r c : Int → Int} {x3 x4 : Int}
def Pd (l r r' : Int → Int) (x y : Int) : Prop := ∀ x' y', 1 ≤ y' → y' ≤ x' → x' ≤ 12 → r' (pi' x' y') = if x' < x ∨ (x' = x ∧ y' < y) then max (r (pi' x' y')) (min (l x') (l y')) else r (pi' x' y')
theorem c_reach (S : Sx G ad P0 h l r c x3 x4) (hl : ∀ x, 1 ≤ x → x ≤ 12 → 0 ≤ l x ∧ l x ≤ 20) (hr : ∀ x y, 1 ≤ y → y ≤ x → x ≤ 12 → 0 ≤ r (pi' x y) ∧ r (pi' x y) ≤ 20) : ∃ h' r', F_X1_noteReached G h (ad 2 0) = some h' ∧ Sx G ad P0 h' l r' c x3 x4 ∧ ∀ x y, 1 ≤ y → y ≤ x → x ≤ 12 → r' (pi' x y) = max (r (pi' x y)) (min (l x) (l y)) := by
  have inner : ∀ (x : Int), 1 ≤ x → x ≤ 12 → ∀ (k2 : xH → Int32 → Option xH) (n : Nat) (y : Int) (h1 : xH) (r1 : Int → Int), Sx G ad P0 h1 l r1 c x3 x4 → Pd l r r1 x y → 1 ≤ y → y ≤ x + 1 → x + 1 - y < n → ∃ h2 r2, F_X1_noteReached_10 G (ad 2 0) (iI x) k2 n h1 (iI y) = k2 h2 (iI (x + 1)) ∧ Sx G ad P0 h2 l r2 c x3 x4 ∧ Pd l r r2 (x + 1) 1 := by
    intro x x0 x1 k2 n
    induction n with
    | zero => intro y h1 r1 _ _ y0 y1 hn; omega
    | succ n ih =>
      intro y h1 r1 S1 D1 y0 y1 hn
      by_cases q : y = x + 1
      · subst q
        refine ⟨h1, r1, ?_, S1, fun x' y' a0 a1 a2 => ?_⟩
        · unfold F_X1_noteReached_10
          rw [if_pos (by rw [iI_lt (by omega) (by omega) (by omega) (by omega)]; omega), l_1, iI_add]
          rfl
        · rw [D1 x' y' a0 a1 a2]
          by_cases e : x' < x ∨ (x' = x ∧ y' < x + 1)
          · rw [if_pos e, if_pos (by omega)]
          · rw [if_neg e, if_neg (by omega)]
      · have yx : y ≤ x := by omega
        have pb := pi_b y0 yx x1
        have rv : r1 (pi' x y) = r (pi' x y) := by rw [D1 x y y0 yx x1, if_neg (by omega)]
        have b1 := hl x (by omega) x1
        have b2 := hl y (by omega) (by omega)
        have b3 := hr x y y0 yx x1
        obtain ⟨h2, e2, S2⟩ := S1.s1 (z := pi' x y) pb.1 (by omega) (max (r (pi' x y)) (min (l x) (l y)))
        obtain ⟨h3, r3, e3, S3, D3⟩ := ih (y + 1) h2 _ S2 (fun x' y' a0 a1 a2 => by
          by_cases e : x' = x ∧ y' = y
          · rw [e.1, e.2, fu_s, if_pos (by omega)]
          · rw [fu_n _ (fun z => e (pi_inj a0 a1 a2 y0 yx x1 z)), D1 x' y' a0 a1 a2]
            by_cases e2 : x' < x ∨ (x' = x ∧ y' < y)
            · rw [if_pos e2, if_pos (by omega)]
            · rw [if_neg e2, if_neg (by omega)]) (by omega) (by omega) (by omega)
        refine ⟨h3, r3, ?_, S3, D3⟩
        rw [← e3]
        conv => lhs; unfold F_X1_noteReached_10
        rw [if_neg (by rw [iI_lt (by omega) (by omega) (by omega) (by omega)]; omega), c_pairOf (by omega) x1, Option.bind_some, if_neg (by rw [l_0, iI_lt (by omega) (by omega) (by omega) (by omega)]; omega), if_neg (by rw [l_78, iI_le (by omega) (by omega) (by omega) (by omega)]; omega), S1.g0.2.1, Option.bind_some, Option.bind_some, S1.l1 pb.1 (by omega), Option.bind_some, S1.g0.1, Option.bind_some, S1.l0 (by omega) (by omega), Option.bind_some, Option.bind_some, S1.l0 (by omega) (by omega), Option.bind_some, rv, iI_min (by omega) (by omega) (by omega) (by omega), iI_max (by omega) (by omega) (by omega) (by omega), e2, Option.bind_some, l_1, iI_add]
        rfl
  have outer : ∀ (n : Nat) (x : Int) (h1 : xH) (r1 : Int → Int), Sx G ad P0 h1 l r1 c x3 x4 → Pd l r r1 x 1 → 1 ≤ x → x ≤ 13 → 13 - x < n → ∃ h2 r2, F_X1_noteReached_2 G (ad 2 0) n h1 (iI x) = some h2 ∧ Sx G ad P0 h2 l r2 c x3 x4 ∧ Pd l r r2 13 1 := by
    intro n
    induction n with
    | zero => intro x h1 r1 _ _ _ _ hn; omega
    | succ n ih =>
      intro x h1 r1 S1 D1 x0 x1 hn
      by_cases q : x = 13
      · subst q
        refine ⟨h1, r1, ?_, S1, D1⟩
        unfold F_X1_noteReached_2
        rw [if_pos (by decide)]
      · obtain ⟨h2, r2, e2, S2, D2⟩ := inner x x0 (by omega) (fun h' x1' => F_X1_noteReached_2 G (ad 2 0) n h' x1') xN 1 h1 r1 S1 D1 (by omega) (by omega) (by unfold xN; omega)
        obtain ⟨h3, r3, e3, S3, D3⟩ := ih (x + 1) h2 r2 S2 D2 (by omega) (by omega) (by omega)
        refine ⟨h3, r3, ?_, S3, D3⟩
        rw [← e3]
        conv => lhs; unfold F_X1_noteReached_2
        rw [if_neg (by rw [l_12, iI_lt (by omega) (by omega) (by omega) (by omega)]; omega)]
        exact e2
  obtain ⟨h2, r2, e2, S2, D2⟩ := outer xN 1 h r S (fun x' y' a0 a1 a2 => by rw [if_neg (by omega)]) (by omega) (by omega) (by unfold xN; omega)
  exact ⟨h2, r2, e2, S2, fun x y y0 y1 x1 => by rw [D2 x y y0 y1 x1, if_pos (by omega)]⟩
def Pe (l c c' : Int → Int) (x y : Int) : Prop := ∀ x' y' k, 1 ≤ y' → y' ≤ x' → x' ≤ 12 → 0 ≤ k → k ≤ 20 → c' (pi' x' y' * 21 + k) = c (pi' x' y' * 21 + k) + if (x' < x ∨ (x' = x ∧ y' < y)) ∧ k = min (l x') (l y') then 1 else 0
theorem c_rings (hG : G 1 < G 0) (S : Sx G ad P0 h l r c x3 x4) (hl : ∀ x, 1 ≤ x → x ≤ 12 → 0 ≤ l x ∧ l x ≤ 20) : ∃ h' c', F_X1_noteRings G h (ad 2 0) = some h' ∧ Sx G ad P0 h' l r c' x3 x4 ∧ ∀ x y k, 1 ≤ y → y ≤ x → x ≤ 12 → 0 ≤ k → k ≤ 20 → c' (pi' x y * 21 + k) = c (pi' x y * 21 + k) + if k = min (l x) (l y) then 1 else 0 := by
  have inner : ∀ (x : Int), 1 ≤ x → x ≤ 12 → ∀ (k2 : xH → Int32 → Option xH) (n : Nat) (y : Int) (h1 : xH) (c1 : Int → Int), Sx G ad P0 h1 l r c1 x3 x4 → Pe l c c1 x y → 1 ≤ y → y ≤ x + 1 → x + 1 - y < n → ∃ h2 c2, F_X1_noteRings_10 G (ad 2 0) (iI x) k2 n h1 (iI y) = k2 h2 (iI (x + 1)) ∧ Sx G ad P0 h2 l r c2 x3 x4 ∧ Pe l c c2 (x + 1) 1 := by
    intro x x0 x1 k2 n
    induction n with
    | zero => intro y h1 r1 _ _ y0 y1 hn; omega
    | succ n ih =>
      intro y h1 c1 S1 D1 y0 y1 hn
      by_cases q : y = x + 1
      · subst q
        refine ⟨h1, c1, ?_, S1, fun x' y' k a0 a1 a2 a3 a4 => ?_⟩
        · unfold F_X1_noteRings_10
          rw [if_pos (by rw [iI_lt (by omega) (by omega) (by omega) (by omega)]; omega), l_1, iI_add]
          rfl
        · rw [D1 x' y' k a0 a1 a2 a3 a4]
          by_cases e : (x' < x ∨ (x' = x ∧ y' < x + 1)) ∧ k = min (l x') (l y')
          · rw [if_pos e, if_pos ⟨by omega, e.2⟩]
          · rw [if_neg e, if_neg (fun z => e ⟨by omega, z.2⟩)]
      · have yx : y ≤ x := by omega
        have pb := pi_b y0 yx x1
        have b1 := hl x (by omega) x1
        have b2 := hl y (by omega) (by omega)
        obtain ⟨m, hm⟩ : ∃ m, m = min (l x) (l y) := ⟨_, rfl⟩
        have cv : c1 (pi' x y * 21 + m) = c (pi' x y * 21 + m) := by
          rw [D1 x y m y0 yx x1 (by omega) (by omega), if_neg (by omega), Int.add_zero]
        obtain ⟨h2, e2, S2⟩ := S1.s2 (z := pi' x y * 21 + m) (by omega) (by omega) (c (pi' x y * 21 + m) + 1)
        obtain ⟨h3, c3, e3, S3, D3⟩ := ih (y + 1) h2 _ S2 (fun x' y' k a0 a1 a2 a3 a4 => by
          by_cases e : x' = x ∧ y' = y ∧ k = m
          · rw [e.1, e.2.1, e.2.2, fu_s, if_pos ⟨by omega, hm⟩]
          · have ne : pi' x' y' * 21 + k ≠ pi' x y * 21 + m := by
              intro z
              have hp : pi' x' y' = pi' x y := by omega
              have := pi_inj a0 a1 a2 y0 yx x1 hp
              exact e ⟨this.1, this.2, by omega⟩
            rw [fu_n _ ne, D1 x' y' k a0 a1 a2 a3 a4]
            by_cases e2 : (x' < x ∨ (x' = x ∧ y' < y)) ∧ k = min (l x') (l y')
            · rw [if_pos e2, if_pos ⟨by omega, e2.2⟩]
            · rw [if_neg e2, if_neg (fun z => by
                by_cases e3 : x' = x ∧ y' = y
                · exact e ⟨e3.1, e3.2, by rw [hm, z.2, e3.1, e3.2]⟩
                · exact e2 ⟨by omega, z.2⟩)]) (by omega) (by omega) (by omega)
        refine ⟨h3, c3, ?_, S3, D3⟩
        rw [← e3]
        conv => lhs; unfold F_X1_noteRings_10
        rw [if_neg (by rw [iI_lt (by omega) (by omega) (by omega) (by omega)]; omega), c_pairOf (by omega) x1, Option.bind_some, S1.g0.1, Option.bind_some, S1.l0 (by omega) (by omega), Option.bind_some, Option.bind_some, S1.l0 (by omega) (by omega), Option.bind_some, iI_min (by omega) (by omega) (by omega) (by omega), ← hm, l_21, iI_mul, iI_add]
        unfold xl
        dsimp only
        rw [if_neg (by rw [l_0, iI_lt (by omega) (by omega) (by omega) (by omega)]; omega), S1.g0.2.2.1, Option.bind_some, S1.aln2 hG, Option.bind_some, if_neg (by rw [iI_le (by omega) (by omega) (by omega) (by omega)]; omega), Option.bind_some, S1.l2 (by omega) (by omega), Option.bind_some, cv, l_1, iI_add, e2, Option.bind_some, iI_add]
  have outer : ∀ (n : Nat) (x : Int) (h1 : xH) (c1 : Int → Int), Sx G ad P0 h1 l r c1 x3 x4 → Pe l c c1 x 1 → 1 ≤ x → x ≤ 13 → 13 - x < n → ∃ h2 c2, F_X1_noteRings_2 G (ad 2 0) n h1 (iI x) = some h2 ∧ Sx G ad P0 h2 l r c2 x3 x4 ∧ Pe l c c2 13 1 := by
    intro n
    induction n with
    | zero => intro x h1 r1 _ _ _ _ hn; omega
    | succ n ih =>
      intro x h1 c1 S1 D1 x0 x1 hn
      by_cases q : x = 13
      · subst q
        refine ⟨h1, c1, ?_, S1, D1⟩
        unfold F_X1_noteRings_2
        rw [if_pos (by decide)]
      · obtain ⟨h2, c2, e2, S2, D2⟩ := inner x x0 (by omega) (fun h' x1' => F_X1_noteRings_2 G (ad 2 0) n h' x1') xN 1 h1 c1 S1 D1 (by omega) (by omega) (by unfold xN; omega)
        obtain ⟨h3, c3, e3, S3, D3⟩ := ih (x + 1) h2 c2 S2 D2 (by omega) (by omega) (by omega)
        refine ⟨h3, c3, ?_, S3, D3⟩
        rw [← e3]
        conv => lhs; unfold F_X1_noteRings_2
        rw [if_neg (by rw [l_12, iI_lt (by omega) (by omega) (by omega) (by omega)]; omega)]
        exact e2
  obtain ⟨h2, c2, e2, S2, D2⟩ := outer xN 1 h c S (fun x' y' k a0 a1 a2 a3 a4 => by rw [if_neg (by omega), Int.add_zero]) (by omega) (by omega) (by unfold xN; omega)
  refine ⟨h2, c2, e2, S2, fun x y k y0 y1 x1 k0 k1 => ?_⟩
  rw [D2 x y k y0 y1 x1 k0 k1]
  by_cases e : k = min (l x) (l y)
  · rw [if_pos ⟨by omega, e⟩, if_pos e]
  · rw [if_neg (fun z => e z.2), if_neg e]
/-- the level that is chosen of one pair -/
def Ch (E : Int → Prop) (N : Int → Int) (L : Int) : Prop := (L = 0 ∧ ∀ k, 1 ≤ k → k ≤ 20 → ¬ E k) ∨ (1 ≤ L ∧ L ≤ 20 ∧ E L ∧ ∀ k, 1 ≤ k → k ≤ 20 → E k → N L ≤ N k ∧ (k < L → N L < N k))
theorem c_chooseRate (S : Sx G ad P0 h l r c x3 x4) {q : Int} (q0 : 0 ≤ q) (q1 : q ≤ 77) {N : Int → Int} (hN : ∀ k, 1 ≤ k → k ≤ 20 → N k = N (k + 1) + c (q * 21 + k)) (h21 : N 21 = 0) (hb : ∀ k, 1 ≤ k → k ≤ 20 → 0 ≤ N k ∧ N k ≤ 601) (rb : 0 ≤ r q ∧ r q ≤ 20) : ∃ h' L, F_X1_chooseRate G h (ad 2 0) (iI q) = some h' ∧ Sx G ad P0 h' l r c L (if 1 ≤ L then N L else 602) ∧ Ch (fun k => k ≤ r q) N L := by
  have loop : ∀ (n : Nat) (k : Int) (h1 : xH) (L : Int), Sx G ad P0 h1 l r c L (if 1 ≤ L then N L else 602) → 0 ≤ k → k ≤ 20 → ((L = 0 ∧ ∀ j, k < j → j ≤ 20 → ¬ j ≤ r q) ∨ (k < L ∧ L ≤ 20 ∧ L ≤ r q ∧ ∀ j, k < j → j ≤ 20 → j ≤ r q → N L ≤ N j ∧ (j < L → N L < N j))) → k < n → ∃ h' L', F_X1_chooseRate_28 G (ad 2 0) (iI q) n h1 (iI (N (k + 1))) (iI k) = some h' ∧ Sx G ad P0 h' l r c L' (if 1 ≤ L' then N L' else 602) ∧ Ch (fun k => k ≤ r q) N L' := by
    intro n
    induction n with
    | zero => intro k h1 L _ k0 k1 _ hn; omega
    | succ n ih =>
      intro k h1 L S1 k0 k1 D hn
      by_cases e0 : k = 0
      · subst e0
        refine ⟨h1, L, ?_, S1, ?_⟩
        · unfold F_X1_chooseRate_28
          rw [if_pos (by decide)]
        · rcases D with ⟨d1, d2⟩ | ⟨d1, d2, d3, d4⟩
          · exact Or.inl ⟨d1, fun j j0 j1 => d2 j (by omega) j1⟩
          · exact Or.inr ⟨by omega, d2, d3, fun j j0 j1 j2 => d4 j (by omega) j1 j2⟩
      · have hN' := hN k (by omega) k1
        have hb' := hb k (by omega) k1
        have x4b : 0 ≤ (if 1 ≤ L then N L else 602) ∧ (if 1 ≤ L then N L else 602) ≤ 602 := by
          by_cases e : 1 ≤ L
          · rw [if_pos e]
            have : L ≤ 20 := by rcases D with ⟨d1, -⟩ | ⟨-, d2, -⟩ <;> omega
            have := hb L e this
            omega
          · rw [if_neg e]; omega
        have kk : k + -1 + 1 = k := by omega
        have st : ∀ (h2 : xH) (L2 : Int), Sx G ad P0 h2 l r c L2 (if 1 ≤ L2 then N L2 else 602) → ((L2 = 0 ∧ ∀ j, k - 1 < j → j ≤ 20 → ¬ j ≤ r q) ∨ (k - 1 < L2 ∧ L2 ≤ 20 ∧ L2 ≤ r q ∧ ∀ j, k - 1 < j → j ≤ 20 → j ≤ r q → N L2 ≤ N j ∧ (j < L2 → N L2 < N j))) → ∃ h' L', F_X1_chooseRate_28 G (ad 2 0) (iI q) n h2 (iI (N k)) (iI (k + -1)) = some h' ∧ Sx G ad P0 h' l r c L' (if 1 ≤ L' then N L' else 602) ∧ Ch (fun k => k ≤ r q) N L' := by
          intro h2 L2 S2 D2
          have := ih (k + -1) h2 L2 S2 (by omega) (by omega) D2 (by omega)
          rw [kk] at this
          exact this
        have pre : F_X1_chooseRate_28 G (ad 2 0) (iI q) (n + 1) h1 (iI (N (k + 1))) (iI k) = (if iI (r q) < iI k then F_X1_chooseRate_28 G (ad 2 0) (iI q) n h1 (iI (N k)) (iI (k + -1)) else if iI (if 1 ≤ L then N L else 602) < iI (N k) then F_X1_chooseRate_28 G (ad 2 0) (iI q) n h1 (iI (N k)) (iI (k + -1)) else (xp G h1 (some (ad 2 0)) 2 4 (.int (iI (N k)))).bind fun h16 => (xp G h16 (some (ad 2 0)) 2 3 (.int (iI k))).bind fun h17 => F_X1_chooseRate_28 G (ad 2 0) (iI q) n h17 (iI (N k)) (iI (k + -1))) := by
          conv => lhs; unfold F_X1_chooseRate_28
          rw [if_neg (by rw [l_0, iI_le (by omega) (by omega) (by omega) (by omega)]; omega), S1.g0.2.2.1, Option.bind_some, l_21, iI_mul, iI_add, S1.l2 (by omega) (by omega), Option.bind_some, iI_add, ← hN', l_m1, iI_add]
          unfold xl
          dsimp only
          rw [S1.g0.2.1, Option.bind_some, S1.l1 q0 (by omega), Option.bind_some, S1.g0.2.2.2.2.1, Option.bind_some]
        rw [pre]
        by_cases c1 : r q < k
        · rw [if_pos (by rw [iI_lt (by omega) (by omega) (by omega) (by omega)]; exact c1)]
          refine st h1 L S1 ?_
          rcases D with ⟨d1, d2⟩ | ⟨d1, d2, d3, d4⟩
          · exact Or.inl ⟨d1, fun j j0 j1 => if e : j = k then by omega else d2 j (by omega) j1⟩
          · exact Or.inr ⟨by omega, d2, d3, fun j j0 j1 j2 => d4 j (by omega) j1 j2⟩
        · rw [if_neg (by rw [iI_lt (by omega) (by omega) (by omega) (by omega)]; exact c1)]
          by_cases c2 : (if 1 ≤ L then N L else 602) < N k
          · rw [if_pos (by rw [iI_lt (by omega) (by omega) (by omega) (by omega)]; exact c2)]
            refine st h1 L S1 ?_
            rcases D with ⟨d1, d2⟩ | ⟨d1, d2, d3, d4⟩
            · rw [if_neg (by omega)] at c2; omega
            · rw [if_pos (by omega)] at c2
              refine Or.inr ⟨by omega, d2, d3, fun j j0 j1 j2 => ?_⟩
              by_cases e : j = k
              · subst e; exact ⟨by omega, fun _ => c2⟩
              · exact d4 j (by omega) j1 j2
          · rw [if_neg (by rw [iI_lt (by omega) (by omega) (by omega) (by omega)]; exact c2)]
            obtain ⟨h2, e2, S2⟩ := S1.p4 (N k)
            obtain ⟨h3, e3, S3⟩ := S2.p3 k
            rw [e2, Option.bind_some, e3, Option.bind_some]
            refine st h3 k (by rw [if_pos (by omega)]; exact S3) ?_
            refine Or.inr ⟨by omega, k1, by omega, fun j j0 j1 j2 => ⟨?_, fun z => by omega⟩⟩
            by_cases e : j = k
            · rw [e]; exact Int.le_refl _
            · rcases D with ⟨d1, d2⟩ | ⟨d1, d2, d3, d4⟩
              · exact absurd j2 (d2 j (by omega) j1)
              · rw [if_pos (by omega)] at c2
                have := (d4 j (by omega) j1 j2).1
                omega
  obtain ⟨h1, e1, S1⟩ := S.p3 0
  obtain ⟨h2, e2, S2⟩ := S1.p4 602
  obtain ⟨h3, L, e3, S3, hc⟩ := loop xN 20 h2 0 (by rw [if_neg (by decide)]; exact S2) (by omega) (by omega) (Or.inl ⟨rfl, fun j j0 j1 => by omega⟩) (by unfold xN; omega)
  refine ⟨h3, L, ?_, S3, hc⟩
  have e21 : (20 : Int) + 1 = 21 := rfl
  rw [e21, h21] at e3
  unfold F_X1_chooseRate
  have e1' : xp G h (some (ad 2 0)) 2 3 (.int 0) = some h1 := e1
  have e2' : xp G h1 (some (ad 2 0)) 2 4 (.int 602) = some h2 := e2
  rw [e1', Option.bind_some, e2', Option.bind_some, if_neg (by rw [l_0, iI_lt (by omega) (by omega) (by omega) (by omega)]; omega), if_pos (by rw [l_78, iI_lt (by omega) (by omega) (by omega) (by omega)]; omega)]
  exact e3
end SEB
