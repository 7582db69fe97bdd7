/-! best -/
section BST
variable {G : Nat → Nat} {h : xH} {ad : Nat → Nat → Nat} {P P0 : xP} {s : mS} {v : Nat → Int} {a : Nat → Int → Int} {el : Int → Int → Int} {cn : Int → Int}
theorem Bs.congr {E E' : Int → Int → Int → Prop} {N N' : Int → Int → Int → Int} {D : Int → Int → Int → Prop} {b q : Int} (B : Bs E N D b q) (hE : ∀ x y l, D x y l → (E' x y l ↔ E x y l)) (hN : ∀ x y l, D x y l → N' x y l = N x y l) : Bs E' N' D b q := by
  rcases B with ⟨h1, h2⟩ | ⟨x, y, l, h1, h2, h3, h4, h5⟩
  · exact Or.inl ⟨h1, fun x y l h z => h2 x y l h ((hE x y l h).mp z)⟩
  · refine Or.inr ⟨x, y, l, h1, (hE x y l h1).mpr h2, h3, by rw [hN x y l h1]; exact h4, fun x' y' l' hd he => ?_⟩
    rw [hN x y l h1, hN x' y' l' hd]
    exact h5 x' y' l' hd ((hE x' y' l' hd).mp he)
/-- a rate is early enough -/
def Er (a : Nat → Int → Int) (p m e ps x y k : Int) : Prop := ∃ z, Fst (rgs a p (10 * k) x y m e) 599 z ∧ 0 ≤ z ∧ e * (z - m + 1) ≤ ps
def Nr (v : Nat → Int) (a : Nat → Int → Int) (p x y k : Int) : Int := pr (rn v a p (10 * k) x y) (v 9 + 1)
theorem nr_b (I : Iv v a) (p x y k : Int) : 0 ≤ Nr v a p x y k ∧ Nr v a p x y k ≤ 601 := by
  have i9 := I.2.2.1
  have b1 := pr_ge (f := rn v a p (10 * k) x y) (x := 0) (y := v 9 + 1) (c := 0) (by omega) (by omega) (fun j _ _ => by unfold rn; split <;> omega)
  have b2 := pr_le (f := rn v a p (10 * k) x y) (x := 0) (y := v 9 + 1) (c := 1) (by omega) (by omega) (fun j _ _ => by unfold rn; split <;> omega)
  rw [pr_0] at b1 b2
  unfold Nr
  omega
theorem rgs_lf (I : Iv v a) {p m e k x y t : Int} (p0 : 0 ≤ p) (p1 : p < v 15) (m0 : 0 ≤ m) (e0 : 0 ≤ e) (k0 : 1 ≤ k) (k1 : k ≤ 20) (x0 : 1 ≤ x) (x1 : x ≤ 12) (y0 : 1 ≤ y) (y1 : y ≤ 12) (t0 : 0 ≤ t) (t1 : t ≤ 600) : rgs a p (10 * k) x y m e t ↔ k ≤ Lf f9 (g9 m e) (1000 - a 18 p) t x ∧ k ≤ Lf f9 (g9 m e) (1000 - a 18 p) t y := by
  have hp' := I.2.2.2.2.2.2.2.2.2.2.2.1 p p0 p1
  have key : ∀ L, 1 ≤ L → L ≤ 12 → (sto a p (10 * k) L m e t = 1 ↔ k ≤ Lf f9 (g9 m e) (1000 - a 18 p) t L) := by
    intro L L0 L1
    have ba := stA_b (L := L) (t := t) L0 (by omega) t0 t1
    have b0 : 0 ≤ stB L m e t := by unfold stB; exact Int.mul_nonneg e0 (by omega)
    have e1 : pr (fun j => f9 (t - j)) L = stA L t := win_A t0 (by omega)
    have e2 : pr (fun j => g9 m e (t - j)) L = stB L m e t := win_B m0 t0 (by omega)
    unfold sto Lf
    rw [e1, e2]
    exact lv_ovr k0 k1 (by omega) (by omega) b0
  exact and_congr (key x x0 x1) (key y y0 y1)
theorem rn_lf (I : Iv v a) {p k x y t : Int} (p0 : 0 ≤ p) (p1 : p < v 15) (k0 : 1 ≤ k) (k1 : k ≤ 20) (x0 : 1 ≤ x) (x1 : x ≤ 12) (y0 : 1 ≤ y) (y1 : y ≤ 12) (t0 : 0 ≤ t) (t1 : t ≤ 600) : rn v a p (10 * k) x y t = if k ≤ mn (fq v a (a 16 p)) (gq v a (a 16 p)) (1000 - a 18 p) x y t then 1 else 0 := by
  have hp' := I.2.2.2.2.2.2.2.2.2.2.2.1 p p0 p1
  have key : ∀ L, 1 ≤ L → L ≤ 12 → (ovs v a p (10 * k) L t = 1 ↔ k ≤ Lf (fq v a (a 16 p)) (gq v a (a 16 p)) (1000 - a 18 p) t L) := by
    intro L L0 L1
    have hb := pq_b I (a 16 p) (x := max (t - L + 1) 0) (y := t + 1) (by omega) (by omega) (by omega)
    have e1 : pr (fun j => fq v a (a 16 p) (t - j)) L = pr (qa v a (a 16 p)) (t + 1) - pr (qa v a (a 16 p)) (max (t - L + 1) 0) := win_q (qa v a (a 16 p)) t0 (by omega)
    have e2 : pr (fun j => gq v a (a 16 p) (t - j)) L = pr (qb v a (a 16 p)) (t + 1) - pr (qb v a (a 16 p)) (max (t - L + 1) 0) := win_q (qb v a (a 16 p)) t0 (by omega)
    unfold ovs Lf
    rw [e1, e2]
    exact lv_ovr k0 k1 (by omega) (by omega) (by omega)
  have kx := key x x0 x1
  have ky := key y y0 y1
  unfold rn mn
  by_cases c : ovs v a p (10 * k) x t = 1 ∧ ovs v a p (10 * k) y t = 1
  · have := kx.mp c.1
    have := ky.mp c.2
    rw [if_pos c, if_pos (by omega)]
  · rw [if_neg c, if_neg]
    intro z
    exact c ⟨kx.mpr (by omega), ky.mpr (by omega)⟩
theorem er_iff (L : Rl s v a) (I : Iv v a) {p m e ps k x y : Int} {r : Int → Int} (D : Rh m e (1000 - a 18 p) ps (min (m + 12) 599 + 1) r) (p0 : 0 ≤ p) (p1 : p < v 15) (m0 : 0 ≤ m) (m1 : m ≤ 300) (e0 : 0 ≤ e) (e1 : e ≤ 10) (k0 : 1 ≤ k) (k1 : k ≤ 20) (y0 : 1 ≤ y) (yx : y ≤ x) (x1 : x ≤ 12) : Er a p m e ps x y k ↔ k ≤ r (pi' x y) := by
  rw [(D x y y0 yx x1).2 k k0]
  constructor
  · rintro ⟨z, hz, z0, hs⟩
    obtain ⟨z1, z2, z3⟩ : z ≤ 599 ∧ rgs a p (10 * k) x y m e z ∧ ∀ t, 0 ≤ t → t < z → ¬ rgs a p (10 * k) x y m e t := by
      rcases hz with ⟨q, -⟩ | ⟨-, q⟩
      · omega
      · exact q
    have hm := rgs_m I p0 p1 (by omega) y0 (by omega) m0 e0 z0 (by omega) z2
    have hx : z ≤ m + x := by
      by_cases q : z ≤ m + x
      · exact q
      · exfalso
        refine z3 (m + x) (by omega) (by omega) ⟨?_, ?_⟩
        · exact (sto_const (t := m + x) (t' := z) (by omega) (by omega) m0 (by omega)).trans z2.1
        · exact (sto_const (t := m + x) (t' := z) (by omega) (by omega) m0 (by omega)).trans z2.2
    have := (rgs_lf I p0 p1 m0 e0 k0 k1 (by omega) x1 y0 (by omega) z0 (by omega)).mp z2
    exact ⟨z, hm, by omega, hs, this⟩
  · rintro ⟨t, t0, t1, t2, t3⟩
    have ht := (rgs_lf I p0 p1 m0 e0 k0 k1 (by omega) x1 y0 (by omega) (show 0 ≤ t by omega) (by omega)).mpr t3
    obtain ⟨z, -, hz⟩ := r_soonestOf L I (p := p) (A := x) (B := y) (r := 10 * k) (m := m) (e := e) p0 p1 (by omega) (by omega) y0 yx (by omega) (by omega) m0 m1 e0 e1
    refine ⟨z, hz, ?_⟩
    rcases hz with ⟨q, q2⟩ | ⟨q1, q2, q3, q4⟩
    · exact absurd ht (q2 t (by omega) (by omega))
    · refine ⟨q1, ?_⟩
      have : z ≤ t := by
        by_cases q : z ≤ t
        · exact q
        · exact absurd ht (q4 t (by omega) (by omega))
      have := Int.mul_le_mul_of_nonneg_left (show z - m + 1 ≤ t - m + 1 by omega) e0
      omega
theorem r_best67 (L : Rl s v a) (I : Iv v a) {p m e ps : Int} (W : Wr v a s (a 16 p) 601) (p0 : 0 ≤ p) (p1 : p < v 15) (m0 : 0 ≤ m) (m1 : m ≤ 300) (e0 : 0 ≤ e) (e1 : e ≤ 10) (q0 : 0 ≤ ps) (q1 : ps ≤ 100000) : ∃ b q, FM_best_67 s (iI p) (iI m) (iI e) (iI ps) xN (-1) 0 1 = some (iI b, s) ∧ Bs (Er a p m e ps) (Nr v a p) (Db 13 1 1) b q := by
  have i88 : ∀ (x y : Int), 1 ≤ y → y ≤ x → x ≤ 12 → ∀ (k77 : Int32 → Int32 → Int32 → Option (Int32 × mS)) (n : Nat) (l b q : Int), Bs (Er a p m e ps) (Nr v a p) (Db x y l) b q → 0 ≤ q → q ≤ 601 → 1 ≤ l → l ≤ 21 → 21 - l < n → ∃ b' q', FM_best_88 s (iI p) (iI m) (iI e) (iI ps) (iI x) (iI y) k77 n (iI b) (iI q) (iI (10 * l)) = k77 (iI b') (iI q') (iI (y + 1)) ∧ Bs (Er a p m e ps) (Nr v a p) (Db x y 21) b' q' ∧ 0 ≤ q' ∧ q' ≤ 601 := by
    intro x y y0 yx x1 k77 n
    induction n with
    | zero => intro l b q _ _ _ _ _ hn; omega
    | succ n ih =>
      intro l b q B qa0 qa1 l0 l1 hn
      have bb : (b = -1 ∧ ∀ x' y' l', Db x y l x' y' l' → ¬ Er a p m e ps x' y' l') ∨ (0 ≤ b ∧ b ≤ 13000000) := by
        rcases B.neg (fun x y l => Db_b) with g | ⟨g0, g1, -⟩
        · exact Or.inl g
        · exact Or.inr ⟨g0, g1⟩
      by_cases c : l = 21
      · subst c
        refine ⟨b, q, ?_, B, qa0, qa1⟩
        unfold FM_best_88
        rw [if_pos (by decide), l_1, iI_add]
        rfl
      · obtain ⟨z, ez, hz⟩ := r_soonestOf L I (p := p) (A := x) (B := y) (r := 10 * l) (m := m) (e := e) p0 p1 (by omega) (by omega) y0 yx (by omega) (by omega) m0 m1 e0 e1
        have zb : -1 ≤ z ∧ z ≤ 599 := by rcases hz with ⟨w, -⟩ | ⟨w1, w2, -⟩ <;> omega
        have er := r_ringsTill L I (A := x) (B := y) (r := 10 * l) W p0 p1 (by omega) (by omega) y0 (by omega) (by omega) (by omega)
        have nb := nr_b I p x y l
        have c0 : ¬ 200 < iI (10 * l) := by rw [l_200, iI_lt (by omega) (by omega) (by omega) (by omega)]; omega
        have e10 : iI (10 * l) + 10 = iI (10 * (l + 1)) := by rw [l_10, iI_add]; congr 1; omega
        have sk : ¬ Er a p m e ps x y l → Bs (Er a p m e ps) (Nr v a p) (Db x y (l + 1)) b q := by
          intro ne
          refine B.skip (fun x' y' l' hd => ?_) (fun x' y' l' hd => by unfold Db lt3 at *; omega) (fun _ x' y' l' hd => ?_)
          · by_cases w : x' = x ∧ y' = y ∧ l' = l
            · exact Or.inr (Or.inl (by rw [w.1, w.2.1, w.2.2]; exact ne))
            · exact Or.inl (by unfold Db lt3 at *; omega)
          · by_cases w : x' = x ∧ y' = y ∧ l' = l
            · exact Or.inr (by rw [w.1, w.2.1, w.2.2]; exact ne)
            · exact Or.inl (by unfold Db lt3 at *; omega)
        have tk : Er a p m e ps x y l → (b = -1 ∨ Nr v a p x y l < q) → Bs (Er a p m e ps) (Nr v a p) (Db x y (l + 1)) (cd x y l) (Nr v a p x y l) := by
          intro he hq
          refine B.take (by unfold Db lt3; omega) he hq (fun x' y' l' hd => ?_) (fun x y l => Db_b)
          by_cases w : x' = x ∧ y' = y ∧ l' = l
          · rw [w.1, w.2.1, w.2.2]
            exact Or.inr (Or.inr ⟨Int.le_refl _, fun z => by unfold lt3 at z; omega⟩)
          · exact Or.inl (by unfold Db lt3 at *; omega)
        have go : ∀ b2 q2, Bs (Er a p m e ps) (Nr v a p) (Db x y (l + 1)) b2 q2 → 0 ≤ q2 → q2 ≤ 601 → ∃ b' q', FM_best_88 s (iI p) (iI m) (iI e) (iI ps) (iI x) (iI y) k77 n (iI b2) (iI q2) (iI (10 * (l + 1))) = k77 (iI b') (iI q') (iI (y + 1)) ∧ Bs (Er a p m e ps) (Nr v a p) (Db x y 21) b' q' ∧ 0 ≤ q' ∧ q' ≤ 601 := fun b2 q2 B2 a0 a1 => ih (l + 1) b2 q2 B2 a0 a1 (by omega) (by omega) (by omega)
        have cde : ((1000000 : Int32) * iI x + 1000 * iI y) + iI (10 * l) = iI (cd x y l) := by
          rw [l_1000000, l_1000, iI_mul, iI_mul, iI_add, iI_add]; rfl
        have eN : FM_ringsTill s (iI p) (iI x) (iI y) (iI (10 * l)) = some (iI (Nr v a p x y l)) := er
        conv => enter [1, b', 1, q', 1, 1]; unfold FM_best_88
        rw [if_neg c0, ez, Option.bind_some]
        by_cases z0 : z < 0
        · rw [if_pos (by rw [l_0, iI_lt (by omega) (by omega) (by omega) (by omega)]; exact z0), e10]
          exact go b q (sk (fun ⟨z', hz', z1, _⟩ => by have := hz.uniq hz'; omega)) qa0 qa1
        · rw [if_neg (by rw [l_0, iI_lt (by omega) (by omega) (by omega) (by omega)]; exact z0)]
          have zm : m ≤ z := by
            rcases hz with ⟨w, -⟩ | ⟨w1, w2, w3, -⟩
            · omega
            · exact rgs_m I p0 p1 (by omega) y0 (by omega) m0 e0 w1 (by omega) w3
          have mb := mul_b e0 e1 (show 0 ≤ z - m + 1 by omega) (show z - m + 1 ≤ 600 by omega)
          rw [l_1, iI_sub, iI_add, iI_mul]
          by_cases c3 : e * (z - m + 1) ≤ ps
          · have he : Er a p m e ps x y l := ⟨z, hz, by omega, c3⟩
            rw [if_pos (by rw [iI_le (by omega) (by omega) (by omega) (by omega)]; exact c3), eN, Option.bind_some]
            by_cases c4 : b < 0
            · have b1 : b = -1 := by rcases bb with ⟨g, -⟩ | g <;> omega
              rw [if_pos (by rw [l_0, iI_lt (by omega) (by omega) (by omega) (by omega)]; exact c4), cde, e10]
              exact go _ _ (tk he (Or.inl b1)) nb.1 nb.2
            · have b1 : 0 ≤ b ∧ b ≤ 13000000 := by rcases bb with ⟨g, -⟩ | g <;> omega
              rw [if_neg (by rw [l_0, iI_lt (by omega) (by omega) (by omega) (by omega)]; exact c4)]
              by_cases c5 : q ≤ Nr v a p x y l
              · rw [if_pos (by rw [iI_le (by omega) (by omega) (by omega) (by omega)]; exact c5), e10]
                refine go b q (B.skip (fun x' y' l' hd => ?_) (fun x' y' l' hd => by unfold Db lt3 at *; omega) (fun g => by omega)) qa0 qa1
                by_cases w : x' = x ∧ y' = y ∧ l' = l
                · rw [w.1, w.2.1, w.2.2]
                  exact Or.inr (Or.inr ⟨b1.1, c5, fun x'' y'' l'' hd2 => by unfold Db lt3 at *; omega⟩)
                · exact Or.inl (by unfold Db lt3 at *; omega)
              · rw [if_neg (by rw [iI_le (by omega) (by omega) (by omega) (by omega)]; exact c5), cde, e10]
                exact go _ _ (tk he (Or.inr (by omega))) nb.1 nb.2
          · rw [if_neg (by rw [iI_le (by omega) (by omega) (by omega) (by omega)]; exact c3), e10]
            exact go b q (sk (fun ⟨z', hz', z1, z2⟩ => by have := hz.uniq hz'; subst this; exact c3 z2)) qa0 qa1
  have i77 : ∀ (x : Int), 1 ≤ x → x ≤ 12 → ∀ (k67 : Int32 → Int32 → Int32 → Option (Int32 × mS)) (n : Nat) (y b q : Int), Bs (Er a p m e ps) (Nr v a p) (Db x y 1) b q → 0 ≤ q → q ≤ 601 → 1 ≤ y → y ≤ x + 1 → x + 1 - y < n → ∃ b' q', FM_best_77 s (iI p) (iI m) (iI e) (iI ps) (iI x) k67 n (iI b) (iI q) (iI y) = k67 (iI b') (iI q') (iI (x + 1)) ∧ Bs (Er a p m e ps) (Nr v a p) (Db (x + 1) 1 1) b' q' ∧ 0 ≤ q' ∧ q' ≤ 601 := by
    intro x x0 x1 k67 n
    induction n with
    | zero => intro y b q _ _ _ _ _ hn; omega
    | succ n ih =>
      intro y b q B qa0 qa1 y0 y1 hn
      by_cases c : y = x + 1
      · subst c
        refine ⟨b, q, ?_, B.dom (fun x' y' l' => by unfold Db lt3; omega), qa0, qa1⟩
        unfold FM_best_77
        rw [if_pos (by rw [iI_lt (by omega) (by omega) (by omega) (by omega)]; omega), l_1, iI_add]
        rfl
      · obtain ⟨b2, q2, f2, B2, r0, r1⟩ := i88 x y y0 (by omega) x1 (fun x5' x6' x8' => FM_best_77 s (iI p) (iI m) (iI e) (iI ps) (iI x) k67 n x5' x6' x8') xN 1 b q B qa0 qa1 (by omega) (by omega) (by unfold xN; omega)
        obtain ⟨b3, q3, f3, B3, s0, s1⟩ := ih (y + 1) b2 q2 (B2.dom (fun x' y' l' => by unfold Db lt3; omega)) r0 r1 (by omega) (by omega) (by omega)
        refine ⟨b3, q3, ?_, B3, s0, s1⟩
        rw [← f3]
        conv => lhs; unfold FM_best_77
        rw [if_neg (by rw [iI_lt (by omega) (by omega) (by omega) (by omega)]; omega)]
        exact f2
  have i67 : ∀ (n : Nat) (x b q : Int), Bs (Er a p m e ps) (Nr v a p) (Db x 1 1) b q → 0 ≤ q → q ≤ 601 → 1 ≤ x → x ≤ 13 → 13 - x < n → ∃ b' q', FM_best_67 s (iI p) (iI m) (iI e) (iI ps) n (iI b) (iI q) (iI x) = some (iI b', s) ∧ Bs (Er a p m e ps) (Nr v a p) (Db 13 1 1) b' q' := by
    intro n
    induction n with
    | zero => intro x b q _ _ _ _ _ hn; omega
    | succ n ih =>
      intro x b q B qa0 qa1 x0 x1 hn
      by_cases c : x = 13
      · subst c
        refine ⟨b, q, ?_, B⟩
        unfold FM_best_67
        rw [if_pos (by decide)]
      · obtain ⟨b2, q2, f2, B2, r0, r1⟩ := i77 x x0 (by omega) (fun x5' x6' x7' => FM_best_67 s (iI p) (iI m) (iI e) (iI ps) n x5' x6' x7') xN 1 b q B qa0 qa1 (by omega) (by omega) (by unfold xN; omega)
        obtain ⟨b3, q3, f3, B3⟩ := ih (x + 1) b2 q2 B2 r0 r1 (by omega) (by omega) (by omega)
        refine ⟨b3, q3, ?_, B3⟩
        rw [← f3]
        conv => lhs; unfold FM_best_67
        rw [if_neg (by rw [l_12, iI_lt (by omega) (by omega) (by omega) (by omega)]; omega)]
        exact f2
  obtain ⟨b, q, f, B⟩ := i67 xN 1 (-1) 0 (Or.inl ⟨rfl, fun x y l hd => by unfold Db lt3 at hd; omega⟩) (by omega) (by omega) (by omega) (by omega) (by unfold xN; omega)
  refine ⟨b, q, ?_, B⟩
  rw [l_m1, l_0, l_1]
  exact f
end BST
theorem js_best (G : Nat → Nat) (x m out : Nat) (hG : G 1 < G 0) : sJ_best (fun _ => Jx G x m out) G x m := by
  rintro i h ⟨ad, P, s, v, a, el, cn, ⟨rfl, rfl, rfl⟩, R, M, O, L, I, C⟩ a1 a2 a3 a4
  obtain ⟨p, rfl, p0, p1⟩ := iI_arg a1
  obtain ⟨m, rfl, m0, m1⟩ := iI_arg a2
  obtain ⟨e, rfl, e0, e1⟩ := iI_arg a3
  obtain ⟨f, rfl, f0, f1⟩ := iI_arg a4
  have R0 := L.m0 (iI 0)
  have i1 := I.1
  have i9 := I.2.2.1
  have i15 := I.2.2.2.1
  have ws := c_isSteady m0 m1 e0 e1
  have wf : F_X10_within (iI f) 0 100000 = some (iI (if 0 ≤ f ∧ f ≤ 100000 then 1 else 0)) := c_within (x := f) (y := 0) (z := 100000) (by omega) (by omega) (by omega) (by omega) (by omega) (by omega)
  by_cases c : (0 ≤ p ∧ p < v 15) ∧ ((0 ≤ m ∧ m ≤ 300) ∧ 0 ≤ e ∧ e ≤ 10) ∧ (0 ≤ f ∧ f ≤ 100000)
  · obtain ⟨c1, c2, c3⟩ := c
    have hp' := I.2.2.2.2.2.2.2.2.2.2.2.1 p c1.1 c1.2
    have ew := c_promiseAt R C c1.1 c1.2 (by omega)
    obtain ⟨g1, g2, ad2, P2, d1, d2, R2, o2, q2, C2⟩ := c_mk9 R C I m e
    obtain ⟨h3, l3, r3, c3', x3, x4, b, q, e3, S3, D3, B3⟩ := c_find hG R2 C2 I o2 c2.1.1 c2.1.2 c2.2.1 c2.2.2 c3.1 c3.2 c1.1 c1.2
    obtain ⟨s2, k1, L2, W2⟩ := r_sumsTo R0 I (w := a 16 p) (by omega) (by omega)
    obtain ⟨b', q', k2, B4⟩ := r_best67 L2 I W2 c1.1 c1.2 c2.1.1 c2.1.2 c2.2.1 c2.2.2 c3.1 c3.2
    have hbb : b = b' := by
      refine Bs.uniq (B3.congr (E' := Er a p m e f) (N' := Nr v a p) (fun x y l hd => ?_) (fun x y l hd => ?_)) B4
      · have hb := Db_b hd
        have : y ≤ x := by unfold Db at hd; omega
        exact er_iff L2 I D3 c1.1 c1.2 c2.1.1 c2.1.2 c2.2.1 c2.2.2 hb.2.2.1 hb.2.2.2.2.2 hb.2.1 this hb.2.2.2.1
      · have hb := Db_b hd
        exact pr_congr fun t t0 t1 => rn_lf I c1.1 c1.2 hb.2.2.1 hb.2.2.2.2.2 hb.1 hb.2.2.2.1 hb.2.1 hb.2.2.2.2.1 t0 (by omega)
    subst hbb
    obtain ⟨P3, R3, q3, p2, p120, p121, p122⟩ := S3
    have C3 : Cc G ad2 P3 v a el cn := by
      obtain ⟨z0, z1, z2, z3, z4, z5, z6, z7, z8, z9, z10⟩ := C2
      have Z : ∀ k, k ≠ 2 ∧ k ≠ 120 ∧ k ≠ 121 ∧ k ≠ 122 → ∀ i, P3 k i = P2 k i := fun k hk i => q3 k i hk.1 hk.2.1 hk.2.2.1 hk.2.2.2
      exact ⟨z0.c fun k q => Z k (by omega), z1.c fun k q => Z k (by omega), z2.c fun k q => Z k (by omega), z3.c fun k q => Z k (by omega), z4.c fun k q => Z k (by omega), z5.c fun k q => Z k (by omega), z6.c fun k q => Z k (by omega), z7.c fun k q => Z k (by omega), z8.c fun k q => Z k (by omega), ⟨iI x3, iI x4, _, _, _, p2, p120, p121, p122⟩, z10⟩
    have ef : FM_best s (iI p) (iI m) (iI e) (iI f) = some (iI b, s2) := by
      unfold FM_best FM_isPromise
      simp only [xl, l_0, l_1, l_300, l_10, l_100000, iI_neg, Rl.fd R0 15 (by decide) (by decide)]
      rw [if_neg (by (first | rw [iI_lt (by omega) (by omega) (by omega) (by omega)] | rw [iI_le (by omega) (by omega) (by omega) (by omega)] | rw [iI_eq (by omega) (by omega) (by omega) (by omega)]); omega), if_neg (by (first | rw [iI_lt (by omega) (by omega) (by omega) (by omega)] | rw [iI_le (by omega) (by omega) (by omega) (by omega)] | rw [iI_eq (by omega) (by omega) (by omega) (by omega)]); omega), Option.bind_some]
      refine (if_neg (by decide)).trans ?_
      rw [if_neg (by (first | rw [iI_lt (by omega) (by omega) (by omega) (by omega)] | rw [iI_le (by omega) (by omega) (by omega) (by omega)] | rw [iI_eq (by omega) (by omega) (by omega) (by omega)]); omega), if_neg (by (first | rw [iI_lt (by omega) (by omega) (by omega) (by omega)] | rw [iI_le (by omega) (by omega) (by omega) (by omega)] | rw [iI_eq (by omega) (by omega) (by omega) (by omega)]); omega), if_neg (by (first | rw [iI_lt (by omega) (by omega) (by omega) (by omega)] | rw [iI_le (by omega) (by omega) (by omega) (by omega)] | rw [iI_eq (by omega) (by omega) (by omega) (by omega)]); omega), if_neg (by (first | rw [iI_lt (by omega) (by omega) (by omega) (by omega)] | rw [iI_le (by omega) (by omega) (by omega) (by omega)] | rw [iI_eq (by omega) (by omega) (by omega) (by omega)]); omega), if_neg (by (first | rw [iI_lt (by omega) (by omega) (by omega) (by omega)] | rw [iI_le (by omega) (by omega) (by omega) (by omega)] | rw [iI_eq (by omega) (by omega) (by omega) (by omega)]); omega), if_pos (by (first | rw [iI_lt (by omega) (by omega) (by omega) (by omega)] | rw [iI_le (by omega) (by omega) (by omega) (by omega)] | rw [iI_eq (by omega) (by omega) (by omega) (by omega)]); omega), Rl.ld R0 16 12 (by decide) rfl c1.1 (by omega), Option.bind_some, k1, Option.bind_some]
      exact k2
    obtain ⟨y1, h7, y2, y3⟩ := Jgo (Fr.of2 (fun k i hk => ⟨(q2 k i (by omega)).1, (q3 k i (by omega) (by omega) (by omega) (by omega)).trans (q2 k i (by omega)).2⟩) (q2 10 0 (by decide)).1) M O R3 C3 I L2 (y := F_X11_best G h3 (ad 19 0) (iI p) (iI m) (iI e) (iI f)) (r := iI b) (fun M => by rw [← (q2 19 0 (by decide)).1]; exact u_best M ef)
    refine ⟨_, h3, h7, ?_, y1, y2, y3⟩
    have k8 := R2.getI C2.k (j := 8) rfl
    have x2 := R2.obj (C2.2.2.2.2.2.2.2.2.2.1.choose_spec.choose_spec.choose_spec.choose_spec.choose_spec.1)
    rw [(q2 10 0 (by decide)).1] at k8
    rw [(q2 2 0 (by decide)).1] at x2 e3
    rw [(q2 6 p.toNat (by decide)).1] at e3
    unfold F_X10_best
    rw [R.obj C.k, Option.bind_some, ew.1, Option.bind_some, if_neg (by simp), ws, Option.bind_some, if_pos c2, if_neg (by decide), wf, Option.bind_some, if_pos c3, if_neg (by decide), R.getR C.k (j := 7) rfl, Option.bind_some, d1, Option.bind_some]
    dsimp only
    rw [d2, Option.bind_some, k8, Option.bind_some, Option.bind_some, x2, Option.bind_some, e3, Option.bind_some]
  · have ef : FM_best s (iI p) (iI m) (iI e) (iI f) = some (iI (-1), mI s 0 (iI 0)) := by
      unfold FM_best FM_isPromise
      simp only [xl, l_0, l_1, l_300, l_10, l_100000, iI_neg, Rl.fd R0 15 (by decide) (by decide)]
      by_cases d1 : p < 0
      · rw [if_pos (by (first | rw [iI_lt (by omega) (by omega) (by omega) (by omega)] | rw [iI_le (by omega) (by omega) (by omega) (by omega)] | rw [iI_eq (by omega) (by omega) (by omega) (by omega)]); omega), Option.bind_some, if_pos rfl]
      · rw [if_neg (by (first | rw [iI_lt (by omega) (by omega) (by omega) (by omega)] | rw [iI_le (by omega) (by omega) (by omega) (by omega)] | rw [iI_eq (by omega) (by omega) (by omega) (by omega)]); omega)]
        by_cases d2 : v 15 ≤ p
        · rw [if_pos (by (first | rw [iI_lt (by omega) (by omega) (by omega) (by omega)] | rw [iI_le (by omega) (by omega) (by omega) (by omega)] | rw [iI_eq (by omega) (by omega) (by omega) (by omega)]); omega), Option.bind_some, if_pos rfl]
        · rw [if_neg (by (first | rw [iI_lt (by omega) (by omega) (by omega) (by omega)] | rw [iI_le (by omega) (by omega) (by omega) (by omega)] | rw [iI_eq (by omega) (by omega) (by omega) (by omega)]); omega), Option.bind_some, if_neg (by decide)]
          by_cases d3 : m < 0
          · rw [if_pos (by (first | rw [iI_lt (by omega) (by omega) (by omega) (by omega)] | rw [iI_le (by omega) (by omega) (by omega) (by omega)] | rw [iI_eq (by omega) (by omega) (by omega) (by omega)]); omega)]
          · rw [if_neg (by (first | rw [iI_lt (by omega) (by omega) (by omega) (by omega)] | rw [iI_le (by omega) (by omega) (by omega) (by omega)] | rw [iI_eq (by omega) (by omega) (by omega) (by omega)]); omega)]
            by_cases d4 : 300 < m
            · rw [if_pos (by (first | rw [iI_lt (by omega) (by omega) (by omega) (by omega)] | rw [iI_le (by omega) (by omega) (by omega) (by omega)] | rw [iI_eq (by omega) (by omega) (by omega) (by omega)]); omega)]
            · rw [if_neg (by (first | rw [iI_lt (by omega) (by omega) (by omega) (by omega)] | rw [iI_le (by omega) (by omega) (by omega) (by omega)] | rw [iI_eq (by omega) (by omega) (by omega) (by omega)]); omega)]
              by_cases d5 : e < 0
              · rw [if_pos (by (first | rw [iI_lt (by omega) (by omega) (by omega) (by omega)] | rw [iI_le (by omega) (by omega) (by omega) (by omega)] | rw [iI_eq (by omega) (by omega) (by omega) (by omega)]); omega)]
              · rw [if_neg (by (first | rw [iI_lt (by omega) (by omega) (by omega) (by omega)] | rw [iI_le (by omega) (by omega) (by omega) (by omega)] | rw [iI_eq (by omega) (by omega) (by omega) (by omega)]); omega)]
                by_cases d6 : 10 < e
                · rw [if_pos (by (first | rw [iI_lt (by omega) (by omega) (by omega) (by omega)] | rw [iI_le (by omega) (by omega) (by omega) (by omega)] | rw [iI_eq (by omega) (by omega) (by omega) (by omega)]); omega)]
                · rw [if_neg (by (first | rw [iI_lt (by omega) (by omega) (by omega) (by omega)] | rw [iI_le (by omega) (by omega) (by omega) (by omega)] | rw [iI_eq (by omega) (by omega) (by omega) (by omega)]); omega)]
                  by_cases d7 : f < 0
                  · rw [if_pos (by (first | rw [iI_lt (by omega) (by omega) (by omega) (by omega)] | rw [iI_le (by omega) (by omega) (by omega) (by omega)] | rw [iI_eq (by omega) (by omega) (by omega) (by omega)]); omega)]
                  · rw [if_neg (by (first | rw [iI_lt (by omega) (by omega) (by omega) (by omega)] | rw [iI_le (by omega) (by omega) (by omega) (by omega)] | rw [iI_eq (by omega) (by omega) (by omega) (by omega)]); omega), if_neg (by (first | rw [iI_lt (by omega) (by omega) (by omega) (by omega)] | rw [iI_le (by omega) (by omega) (by omega) (by omega)] | rw [iI_eq (by omega) (by omega) (by omega) (by omega)]); omega)]
    obtain ⟨q1, h6, q2, q3⟩ := Jgo0 R M O I C R0 (fun M => u_best M ef)
    refine ⟨_, h, h6, ?_, q1, q2, q3⟩
    unfold F_X10_best
    by_cases c1 : 0 ≤ p ∧ p < v 15
    · have ew := c_promiseAt R C c1.1 c1.2 (by omega)
      rw [R.obj C.k, Option.bind_some, ew.1, Option.bind_some, if_neg (by simp), ws, Option.bind_some]
      by_cases c2 : (0 ≤ m ∧ m ≤ 300) ∧ 0 ≤ e ∧ e ≤ 10
      · rw [if_pos c2, if_neg (by decide), wf, Option.bind_some, if_neg (show ¬ (0 ≤ f ∧ f ≤ 100000) by omega), if_pos (by decide)]; rfl
      · rw [if_neg c2, if_pos (by decide)]; rfl
    · have ew := c_promiseAtX R C p0 p1 (by omega) (by omega) c1
      rw [R.obj C.k, Option.bind_some, ew, Option.bind_some, if_pos rfl]; rfl
