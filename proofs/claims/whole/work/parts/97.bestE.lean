/-! the history noted; find -/
section SED
variable {G : Nat → Nat} {h : xH} {ad : Nat → Nat → Nat} {P P0 : xP} {l r c : Int → Int} {x3 x4 : Int} {v : Nat → Int} {a : Nat → Int → Int} {el : Int → Int → Int} {cn : Int → Int}
theorem fill0 {k i n : Nat} (hn : n < 100000) : ∀ (m : Nat) (h : xH) (P : xP) (f : Nat → Int32) (j : Int), Rep G h ad P → P k i = some (.inl (G 2, n, .inl f)) → 0 ≤ j → j ≤ n → n - j < m → ∃ h' P' f', F_J7_fill_53178_5 G (ad k i) 0 (iI n) m h (iI j) = some h' ∧ Rep G h' ad P' ∧ P' k i = some (.inl (G 2, n, .inl f')) ∧ (∀ k' i', ¬ (k' = k ∧ i' = i) → P' k' i' = P k' i') ∧ (∀ z : Nat, j ≤ z → z < n → f' z = iI 0) ∧ ∀ z : Nat, (z : Int) < j → f' z = f z := by
  intro m
  induction m with
  | zero => intro h P f j _ _ j0 j1 hm; omega
  | succ m ih =>
    intro h P f j R hp j0 j1 hm
    by_cases e : j = n
    · refine ⟨h, P, f, ?_, R, hp, fun _ _ _ => rfl, fun z z0 z1 => by omega, fun z _ => rfl⟩
      unfold F_J7_fill_53178_5
      rw [if_pos (by rw [iI_le (by omega) (by omega) (by omega) (by omega)]; omega)]
    · obtain ⟨h1, P1, e1, R1, o1, q1⟩ := R.si' hp (z := j) j0 (by omega) (by omega) (iI 0)
      obtain ⟨h2, P2, f2, e2, R2, o2, q2, z2, w2⟩ := ih h1 P1 _ (j + 1) R1 o1 (by omega) (by omega) (by omega)
      refine ⟨h2, P2, f2, ?_, R2, o2, fun k' i' hk => (q2 k' i' hk).trans (q1 k' i' hk), fun z z0 z1 => ?_, fun z z0 => ?_⟩
      · rw [← e2]
        conv => lhs; unfold F_J7_fill_53178_5
        have e1' : stI 2 G h (some (ad k i)) (iI j) 0 = some h1 := e1
        rw [if_neg (by rw [iI_le (by omega) (by omega) (by omega) (by omega)]; omega), e1', Option.bind_some, l_1, iI_add]
        rfl
      · by_cases e3 : (z : Int) = j
        · rw [w2 z (by omega)]
          exact if_pos (by omega)
        · exact z2 z (by omega) z1
      · rw [w2 z (by omega)]
        exact if_neg (by omega)
theorem fn_iI (f : Nat → Int32) : f = fun i : Nat => iI ((fun z : Int => (f z.toNat).toInt) i) := by
  funext i
  dsimp only
  rw [Int.toNat_natCast, iI_self]
/-- the rows cleared -/
theorem c_clear (hG : G 1 < G 0) (R : Rep G h ad P) (C : Cc G ad P v a el cn) : ∃ h1 h2 l r c x3 x4, gR h (some (ad 2 0)) 2 1 = some (some (ad 121 0)) ∧ F_J7_fill_53178 G h (ad 121 0) 0 = some h1 ∧ gR h1 (some (ad 2 0)) 2 2 = some (some (ad 122 0)) ∧ F_J7_fill_53178 G h1 (ad 122 0) 0 = some h2 ∧ Sx G ad P h2 l r c x3 x4 ∧ (∀ z, 0 ≤ z → z < 78 → r z = 0) ∧ ∀ z, 0 ≤ z → z < 1638 → c z = 0 := by
  obtain ⟨x3, x4, f0, f1, f2, p2, p120, p121, p122⟩ := C.2.2.2.2.2.2.2.2.2.1
  obtain ⟨h1, P1, g1, e1, R1, o1, q1, z1, -⟩ := fill0 (n := 78) (by decide) xN h P f1 0 R p121 (by omega) (by omega) (by unfold xN; omega)
  have a2 : P1 2 0 = _ := (q1 2 0 (by omega)).trans p2
  have a122 : P1 122 0 = _ := (q1 122 0 (by omega)).trans p122
  obtain ⟨h2, P2, g2, e2, R2, o2, q2, z2, -⟩ := fill0 (n := 1638) (by decide) xN h1 P1 f2 0 R1 a122 (by omega) (by omega) (by unfold xN; omega)
  refine ⟨h1, h2, fun z => (f0 z.toNat).toInt, fun z => (g1 z.toNat).toInt, fun z => (g2 z.toNat).toInt, x3.toInt, x4.toInt, R.getR p2 (j := 1) rfl, ?_, R1.getR a2 (j := 2) rfl, ?_, ⟨P2, R2, fun k i n1 n2 n3 n4 => (q2 k i (by omega)).trans (q1 k i (by omega)), ?_, ?_, ?_, ?_⟩, fun w w0 w1 => ?_, fun w w0 w1 => ?_⟩
  · unfold F_J7_fill_53178
    rw [aln_int R hG p121, Option.bind_some]
    exact e1
  · unfold F_J7_fill_53178
    rw [aln_int R1 hG a122, Option.bind_some]
    exact e2
  · rw [q2 2 0 (by omega), a2, iI_self, iI_self]
  · rw [q2 120 0 (by omega), q1 120 0 (by omega), p120]
    conv => lhs; rw [fn_iI f0]
  · rw [q2 121 0 (by omega), o1]
    conv => lhs; rw [fn_iI g1]
  · rw [o2]
    conv => lhs; rw [fn_iI g2]
  · show (g1 w.toNat).toInt = 0
    rw [z1 w.toNat (by omega) (by omega)]; rfl
  · show (g2 w.toNat).toInt = 0
    rw [z2 w.toNat (by omega) (by omega)]; rfl
def f9 (u : Int) : Int := if 0 ≤ u then 10 else 0
def g9 (m e u : Int) : Int := if m ≤ u then e else 0
def fq (v : Nat → Int) (a : Nat → Int → Int) (w u : Int) : Int := if 0 ≤ u then qa v a w u else 0
def gq (v : Nat → Int) (a : Nat → Int → Int) (w u : Int) : Int := if 0 ≤ u then qb v a w u else 0
theorem hs_9 {m e : Int} (h9 : P0 9 0 = some (.inr (9, [.int (iI m), .int (iI e)]))) (m0 : 0 ≤ m) (m1 : m ≤ 300) (e0 : 0 ≤ e) (e1 : e ≤ 10) : Hs G ad P0 (ad 9 0) f9 (g9 m e) := by
  refine ⟨fun h P R q u u0 u1 => ?_, fun u u1 => ?_⟩
  · have p9 := (q 9 0 (by decide) (by decide) (by decide) (by decide)).trans h9
    rw [xI_r (R.nob (c := 7) p9 (by decide)) (R.obj p9), xI_r (R.nob (c := 7) p9 (by decide)) (R.obj p9)]
    constructor
    · unfold F_X9_asksIn f9
      rw [l_0, l_1, l_10, iI_max (by omega) (by omega) (by omega) (by omega), iI_sub, iI_add, iI_max (by omega) (by omega) (by omega) (by omega), iI_mul]
      congr 2
      by_cases c : 0 ≤ u
      · rw [if_pos c]; omega
      · rw [if_neg c]; omega
    · unfold F_X9_badIn g9
      rw [R.getI p9 (j := 1) rfl, Option.bind_some, R.getI p9 (j := 0) rfl, Option.bind_some, l_0, l_1, iI_max (by omega) (by omega) (by omega) (by omega), iI_sub, iI_add, iI_max (by omega) (by omega) (by omega) (by omega), iI_mul]
      congr 2
      by_cases c : m ≤ u
      · have : max (u - max u m + 1) 0 = 1 := by omega
        rw [if_pos c, this, Int.mul_one]
      · have : max (u - max u m + 1) 0 = 0 := by omega
        rw [if_neg c, this, Int.mul_zero]
  · unfold f9 g9
    split <;> split <;> omega
theorem total_neg (R : Rep G h ad P) {k i : Nat} {u : Int} (u0 : u < 0) (u1 : -12 ≤ u) : F_X7_total G h (ad k i) (iI u) (iI u) = some (iI 0) := by
  have hm : max u 0 = 0 := by omega
  unfold F_X7_total
  rw [l_0, iI_max (by omega) (by omega) (by omega) (by omega), hm]
  show F_X7_total_9 G h (ad k i) (iI u) xN (iI 0) (iI 0) = _
  unfold xN F_X7_total_9
  rw [if_pos (by rw [iI_lt (by omega) (by omega) (by omega) (by omega)]; exact u0)]
theorem hs_q (hG : G 1 < G 0) (C : Cc G ad P0 v a el cn) (I : Iv v a) {w : Int} (w0 : 0 ≤ w) (w1 : w < v 1) : Hs G ad P0 (ad 7 w.toNat) (fq v a w) (gq v a w) := by
  have hw := C.2.2.1 w w0 w1
  refine ⟨fun h P R q u u0 u1 => ?_, fun u u1 => ?_⟩
  · have p7 := (q 7 w.toNat (by decide) (by decide) (by decide) (by decide)).trans hw.1
    have p71 := (q 71 w.toNat (by decide) (by decide) (by decide) (by decide)).trans hw.2.1
    have p72 := (q 72 w.toNat (by decide) (by decide) (by decide) (by decide)).trans hw.2.2
    rw [xI_l (R.obj p7), xI_l (R.obj p7)]
    unfold F_X7_asksIn F_X7_badIn fq gq
    rw [R.getR p7 (j := 1) rfl, Option.bind_some, Option.bind_some, R.getR p7 (j := 2) rfl, Option.bind_some, Option.bind_some]
    by_cases c : 0 ≤ u
    · have hm : max u 0 = u := by omega
      rw [c_total R hG (g := cl 601 (qa v a w)) p71 (by omega) (by omega) u1, c_total R hG (g := cl 601 (qb v a w)) p72 (by omega) (by omega) u1, hm, pr_1 _ c, pr_1 _ c, cl_in (by omega), cl_in (by omega), if_pos c, if_pos c]
      constructor
      · rw [Option.bind_some]; congr 2; omega
      · rw [Option.bind_some]; congr 2; omega
    · rw [total_neg R (by omega) u0, total_neg R (by omega) u0, if_neg c, if_neg c]
      exact ⟨rfl, rfl⟩
  · unfold fq gq
    by_cases c : 0 ≤ u
    · have := qa_b I (w := w) c u1
      rw [if_pos c, if_pos c]; omega
    · rw [if_neg c, if_neg c]; omega
/-- what the history says of a pair -/
def Rh (m e sl ps hi : Int) (r : Int → Int) : Prop := ∀ x y, 1 ≤ y → y ≤ x → x ≤ 12 → (0 ≤ r (pi' x y) ∧ r (pi' x y) ≤ 20) ∧ ∀ k, 1 ≤ k → (k ≤ r (pi' x y) ↔ ∃ t, m ≤ t ∧ t < hi ∧ e * (t - m + 1) ≤ ps ∧ k ≤ Lf f9 (g9 m e) sl t x ∧ k ≤ Lf f9 (g9 m e) sl t y)
theorem c_hist {m e sl ps : Int} (S : Sx G ad P0 h l r c x3 x4) (h9 : P0 9 0 = some (.inr (9, [.int (iI m), .int (iI e)]))) (m0 : 0 ≤ m) (m1 : m ≤ 300) (e0 : 0 ≤ e) (e1 : e ≤ 10) (s0 : 0 ≤ sl) (s1 : sl ≤ 1000) (q0 : 0 ≤ ps) (q1 : ps ≤ 100000) (hr : ∀ z, 0 ≤ z → z < 78 → r z = 0) : ∃ h' l' r', F_X1_noteHistory G h (ad 2 0) (ad 9 0) (iI sl) (iI ps) = some h' ∧ Sx G ad P0 h' l' r' c x3 x4 ∧ Rh m e sl ps (min (m + 12) 599 + 1) r' := by
  have H := hs_9 (G := G) (ad := ad) h9 m0 m1 e0 e1
  have g9' : ∀ {h : xH} {l r c : Int → Int} {x3 x4 : Int}, Sx G ad P0 h l r c x3 x4 → ∃ P, Rep G h ad P ∧ P 9 0 = some (.inr (9, [.int (iI m), .int (iI e)])) := fun S => by
    obtain ⟨P, R, q, -⟩ := S
    exact ⟨P, R, (q 9 0 (by decide) (by decide) (by decide) (by decide)).trans h9⟩
  have key := up_loop (fun n (q : xH × Int32) => F_X1_noteHistory_21 G (ad 2 0) (ad 9 0) (iI sl) (iI ps) (iI (min (m + 12) 599)) n q.1 q.2) (fun t q => m ≤ t ∧ q.2 = iI t ∧ ∃ l' r', Sx G ad P0 q.1 l' r' c x3 x4 ∧ Rh m e sl ps t r') (fun h' => ∃ l' r', Sx G ad P0 h' l' r' c x3 x4 ∧ Rh m e sl ps (min (m + 12) 599 + 1) r') (min (m + 12) 599 + 1) ?_ ?_ xN m (h, iI m) ⟨by omega, rfl, l, r, S, fun x y y0 y1 x1 => by
      have := pi_b y0 y1 x1
      rw [hr _ this.1 (by omega)]
      exact ⟨⟨by omega, by omega⟩, fun k k0 => ⟨fun z => by omega, fun ⟨t, t0, t1, _⟩ => by omega⟩⟩⟩ (by omega) (by unfold xN; omega)
  · obtain ⟨h', e, l', r', h1, h2⟩ := key
    refine ⟨h', l', r', ?_, h1, h2⟩
    obtain ⟨P, R, p9⟩ := g9' S
    unfold F_X1_noteHistory
    rw [R.getI p9 (j := 0) rfl, Option.bind_some, l_12, l_599, iI_add, iI_min (by omega) (by omega) (by omega) (by omega)]
    exact e
  · rintro n t ⟨h1, x5⟩ ⟨ht, hx, l1, r1, S1, D1⟩ hlt
    dsimp only at hx S1
    subst hx
    obtain ⟨P, R, p9⟩ := g9' S1
    have mb := mul_b e0 e1 (show 0 ≤ t - m + 1 by omega) (show t - m + 1 ≤ 20 by omega)
    have eb : F_X9_badIn G h1 (ad 9 0) 0 (iI t) = some (iI (e * (t - m + 1))) := by
      have := c_bad9 R p9 m0 m1 (lo := 0) (t := t) (by omega) (by omega) (by omega) (by omega)
      have z : max (t - max 0 m + 1) 0 = t - m + 1 := by omega
      rw [z] at this
      exact this
    have pre : F_X1_noteHistory_21 G (ad 2 0) (ad 9 0) (iI sl) (iI ps) (iI (min (m + 12) 599)) (n + 1) h1 (iI t) = (if iI ps < iI (e * (t - m + 1)) then some h1 else (xc h1 (some (ad 2 0)) 2).bind fun b10 => (F_X1_measure G h1 b10 (ad 9 0) (iI sl) (iI t)).bind fun (v8, h9) => if v8 = 0 then xl (iI t + 1) fun v12 => F_X1_noteHistory_21 G (ad 2 0) (ad 9 0) (iI sl) (iI ps) (iI (min (m + 12) 599)) n h9 v12 else (xc h9 (some (ad 2 0)) 2).bind fun b14 => (F_X1_noteReached G h9 b14).bind fun h13 => xl (iI t + 1) fun v15 => F_X1_noteHistory_21 G (ad 2 0) (ad 9 0) (iI sl) (iI ps) (iI (min (m + 12) 599)) n h13 v15) := by
      conv => lhs; unfold F_X1_noteHistory_21
      rw [if_neg (by rw [iI_lt (by omega) (by omega) (by omega) (by omega)]; omega), R.obj p9, Option.bind_some, eb, Option.bind_some]
    by_cases c1 : ps < e * (t - m + 1)
    · left
      refine ⟨h1, ?_, l1, r1, S1, fun x y y0 y1 x1 => ?_⟩
      · dsimp only
        rw [pre, if_pos (by rw [iI_lt (by omega) (by omega) (by omega) (by omega)]; exact c1)]
      · obtain ⟨d1, d2⟩ := D1 x y y0 y1 x1
        refine ⟨d1, fun k k0 => (d2 k k0).trans ⟨fun ⟨t', z⟩ => ⟨t', z.1, by omega, z.2.2⟩, fun ⟨t', z1, z2, z3, z4⟩ => ⟨t', z1, ?_, z3, z4⟩⟩⟩
        by_cases q : t' < t
        · exact q
        · exfalso
          have : e * (t - m + 1) ≤ e * (t' - m + 1) := Int.mul_le_mul_of_nonneg_left (by omega) e0
          omega
    · right
      obtain ⟨h2, l2, z, e2, S2, hl2, hz⟩ := c_measure S1 H s0 s1 (t := t) (by omega) (by omega)
      have nx : ∀ (r' : Int → Int), (∀ x y, 1 ≤ y → y ≤ x → x ≤ 12 → r' (pi' x y) = max (r1 (pi' x y)) (min (Lf f9 (g9 m e) sl t x) (Lf f9 (g9 m e) sl t y))) → Rh m e sl ps (t + 1) r' := by
        intro r' hr' x y y0 y1 x1
        obtain ⟨d1, d2⟩ := D1 x y y0 y1 x1
        have b1 := Lf_b f9 (g9 m e) sl t x
        have b2 := Lf_b f9 (g9 m e) sl t y
        rw [hr' x y y0 y1 x1]
        refine ⟨⟨by omega, by omega⟩, fun k k0 => ⟨fun hk => ?_, fun ⟨t', z1, z2, z3, z4, z5⟩ => ?_⟩⟩
        · by_cases q : k ≤ r1 (pi' x y)
          · obtain ⟨t', z1, z2, z3⟩ := (d2 k k0).mp q
            exact ⟨t', z1, by omega, z3⟩
          · exact ⟨t, ht, by omega, by omega, by omega, by omega⟩
        · by_cases q : t' = t
          · subst q; omega
          · have := (d2 k k0).mpr ⟨t', z1, by omega, z3, z4, z5⟩
            omega
      rcases hz with rfl | ⟨rfl, hz⟩
      · obtain ⟨h3, r3, e3, S3, hr3⟩ := c_reach S2 (fun x x0 x1 => by rw [hl2 x x0 x1]; exact Lf_b _ _ _ _ _) (fun x y y0 y1 x1 => (D1 x y y0 y1 x1).1)
        refine ⟨(h3, iI (t + 1)), ⟨by omega, rfl, l2, r3, S3, nx r3 (fun x y y0 y1 x1 => by rw [hr3 x y y0 y1 x1, hl2 x (by omega) x1, hl2 y y0 (by omega)])⟩, ?_⟩
        dsimp only
        rw [pre, if_neg (by rw [iI_lt (by omega) (by omega) (by omega) (by omega)]; exact c1), S1.g0.2.2.2.2.2, Option.bind_some, e2, Option.bind_some]
        dsimp only
        rw [if_neg (by decide), S2.g0.2.2.2.2.2, Option.bind_some, e3, Option.bind_some, l_1, iI_add]
        rfl
      · refine ⟨(h2, iI (t + 1)), ⟨by omega, rfl, l2, r1, S2, nx r1 (fun x y y0 y1 x1 => by
          have := (D1 x y y0 y1 x1).1
          rw [hz x (by omega) x1, hz y y0 (by omega)]; omega)⟩, ?_⟩
        dsimp only
        rw [pre, if_neg (by rw [iI_lt (by omega) (by omega) (by omega) (by omega)]; exact c1), S1.g0.2.2.2.2.2, Option.bind_some, e2, Option.bind_some]
        dsimp only
        rw [if_pos (by decide), l_1, iI_add]
        rfl
  · rintro n ⟨h1, x5⟩ ⟨ht, hx, l1, r1, S1, D1⟩
    dsimp only at hx S1
    subst hx
    refine ⟨h1, ?_, l1, r1, S1, D1⟩
    dsimp only
    unfold F_X1_noteHistory_21
    rw [if_pos (by rw [iI_lt (by omega) (by omega) (by omega) (by omega)]; omega)]
/-- the least of the two levels of a pair -/
def mn (f g : Int → Int) (sl x y t : Int) : Int := min (Lf f g sl t x) (Lf f g sl t y)
def Nq (f g : Int → Int) (sl T x y k : Int) : Int := pr (fun t => if k ≤ mn f g sl x y t then 1 else 0) T
theorem c_find {m e ps p : Int} (hG : G 1 < G 0) (R : Rep G h ad P0) (C : Cc G ad P0 v a el cn) (I : Iv v a) (h9 : P0 9 0 = some (.inr (9, [.int (iI m), .int (iI e)]))) (m0 : 0 ≤ m) (m1 : m ≤ 300) (e0 : 0 ≤ e) (e1 : e ≤ 10) (q0 : 0 ≤ ps) (q1 : ps ≤ 100000) (p0 : 0 ≤ p) (p1 : p < v 15) : ∃ h' l r c x3 x4 b q, F_X1_find G h (ad 2 0) (ad 6 p.toNat) (ad 9 0) (iI ps) (iI (v 9)) = some (iI b, h') ∧ Sx G ad P0 h' l r c x3 x4 ∧ Rh m e (1000 - a 18 p) ps (min (m + 12) 599 + 1) r ∧ Bs (fun x y k => k ≤ r (pi' x y)) (Nq (fq v a (a 16 p)) (gq v a (a 16 p)) (1000 - a 18 p) (v 9 + 1)) (Db 13 1 1) b q := by
  have hc := C.2.2.2.2.1 p p0 p1
  have hp' := I.2.2.2.2.2.2.2.2.2.2.2.1 p p0 p1
  have i9 := I.2.2.1
  have H := hs_q hG C I hp'.1 hp'.2.1
  obtain ⟨h1, h2, l2, r2, c2, x3, x4, d1, e2, e3, e4, S2, zr, zc⟩ := c_clear hG R C
  have g6 : ∀ {h : xH} {l r c : Int → Int} {x3 x4 : Int}, Sx G ad P0 h l r c x3 x4 → xc h (some (ad 6 p.toNat)) 6 = some (ad 6 p.toNat) ∧ F_X6_slack G h (ad 6 p.toNat) = some (iI (1000 - a 18 p)) ∧ gR h (some (ad 6 p.toNat)) 6 0 = some (some (ad 7 (a 16 p).toNat)) := fun S => by
    obtain ⟨P, R, q, -⟩ := S
    have p6 := (q 6 p.toNat (by decide) (by decide) (by decide) (by decide)).trans hc.1
    refine ⟨R.obj p6, ?_, R.getR p6 (j := 0) rfl⟩
    unfold F_X6_slack
    rw [R.getI p6 (j := 2) rfl, Option.bind_some, l_1000, iI_sub]
  obtain ⟨h3, l3, r3, e5, S3, D3⟩ := c_hist S2 h9 m0 m1 e0 e1 (sl := 1000 - a 18 p) (by omega) (by omega) q0 q1 zr
  have lb : ∀ t x, 0 ≤ Lf (fq v a (a 16 p)) (gq v a (a 16 p)) (1000 - a 18 p) t x ∧ Lf (fq v a (a 16 p)) (gq v a (a 16 p)) (1000 - a 18 p) t x ≤ 20 := fun t x => Lf_b _ _ _ _ _
  have key := up_loop (fun n (q : xH × Int32) => F_X1_find_29 G (ad 2 0) (ad 6 p.toNat) (iI (v 9)) n q.1 q.2) (fun t q => 0 ≤ t ∧ q.2 = iI t ∧ ∃ l' c', Sx G ad P0 q.1 l' r3 c' x3 x4 ∧ ∀ x y k, 1 ≤ y → y ≤ x → x ≤ 12 → 1 ≤ k → k ≤ 20 → c' (pi' x y * 21 + k) = pr (fun t => if k = mn (fq v a (a 16 p)) (gq v a (a 16 p)) (1000 - a 18 p) x y t then 1 else 0) t) (fun q => ∃ l r c x3 x4 b z, q.1 = iI b ∧ Sx G ad P0 q.2 l r c x3 x4 ∧ Rh m e (1000 - a 18 p) ps (min (m + 12) 599 + 1) r ∧ Bs (fun x y k => k ≤ r (pi' x y)) (Nq (fq v a (a 16 p)) (gq v a (a 16 p)) (1000 - a 18 p) (v 9 + 1)) (Db 13 1 1) b z) (v 9 + 1) ?_ ?_ xN 0 (h3, 0) ⟨by omega, rfl, l3, c2, S3, fun x y k y0 y1 x1 k0 k1 => by
      have := pi_b y0 y1 x1
      rw [zc _ (by omega) (by omega), pr_0]⟩ (by omega) (by unfold xN; omega)
  · obtain ⟨⟨b', h'⟩, e, l, r, c, x3, x4, b, z, hb, S, D, B⟩ := key
    dsimp only at hb S
    refine ⟨h', l, r, c, x3, x4, b, z, ?_, S, D, B⟩
    unfold F_X1_find
    rw [d1, Option.bind_some, Option.bind_some, e2, Option.bind_some, e3, Option.bind_some, Option.bind_some, e4, Option.bind_some, (g6 S2).1, Option.bind_some, (g6 S2).2.1, Option.bind_some, S2.g0.2.2.2.2.2, Option.bind_some, e5, Option.bind_some, ← hb]
    exact e
  · rintro n t ⟨h1, x5⟩ ⟨ht, hx, l1, c1, S1, D1⟩ hlt
    dsimp only at hx S1
    subst hx
    right
    obtain ⟨h4, l4, z, f4, S4, hl4, hz⟩ := c_measure S1 H (sl := 1000 - a 18 p) (by omega) (by omega) (t := t) ht (by omega)
    have pre : F_X1_find_29 G (ad 2 0) (ad 6 p.toNat) (iI (v 9)) (n + 1) h1 (iI t) = (if iI z = 0 then F_X1_find_29 G (ad 2 0) (ad 6 p.toNat) (iI (v 9)) n h4 (iI (t + 1)) else (xc h4 (some (ad 2 0)) 2).bind fun b25 => (F_X1_noteRings G h4 b25).bind fun h24 => F_X1_find_29 G (ad 2 0) (ad 6 p.toNat) (iI (v 9)) n h24 (iI (t + 1))) := by
      conv => lhs; unfold F_X1_find_29
      rw [if_neg (by rw [iI_lt (by omega) (by omega) (by omega) (by omega)]; omega), (g6 S1).2.2, Option.bind_some, (g6 S1).1, Option.bind_some, (g6 S1).2.1, Option.bind_some, Option.bind_some, S1.g0.2.2.2.2.2, Option.bind_some, f4, Option.bind_some, l_1, iI_add]
      rfl
    rcases hz with rfl | ⟨rfl, hz⟩
    · obtain ⟨h5, c5, f5, S5, hc5⟩ := c_rings hG S4 (fun x x0 x1 => by rw [hl4 x x0 x1]; exact Lf_b _ _ _ _ _)
      refine ⟨(h5, iI (t + 1)), ⟨by omega, rfl, l4, c5, S5, fun x y k y0 y1 x1 k0 k1 => ?_⟩, ?_⟩
      · rw [hc5 x y k y0 y1 x1 (by omega) k1, D1 x y k y0 y1 x1 k0 k1, pr_1 _ ht, hl4 x (by omega) x1, hl4 y y0 (by omega)]
        rfl
      · dsimp only
        rw [pre, if_neg (by decide), S4.g0.2.2.2.2.2, Option.bind_some, f5, Option.bind_some]
    · refine ⟨(h4, iI (t + 1)), ⟨by omega, rfl, l4, c1, S4, fun x y k y0 y1 x1 k0 k1 => ?_⟩, ?_⟩
      · rw [D1 x y k y0 y1 x1 k0 k1, pr_1 _ ht]
        have : (if k = mn (fq v a (a 16 p)) (gq v a (a 16 p)) (1000 - a 18 p) x y t then 1 else 0) = (0 : Int) := if_neg (by unfold mn; rw [hz x (by omega) x1, hz y y0 (by omega)]; omega)
        rw [this, Int.add_zero]
      · dsimp only
        rw [pre, if_pos (by decide)]
  · rintro n ⟨h1, x5⟩ ⟨ht, hx, l1, c1, S1, D1⟩
    dsimp only at hx S1
    subst hx
    obtain ⟨h4, z3, z4, b, q, f4, S4, B4⟩ := c_choose S1 (N := Nq (fq v a (a 16 p)) (gq v a (a 16 p)) (1000 - a 18 p) (v 9 + 1)) (fun x y k y0 y1 x1 k0 k1 => by
      rw [D1 x y k y0 y1 x1 k0 k1]
      unfold Nq
      rw [← pr_add _ _ _ ht]
      apply pr_congr
      intro j j0 j1
      by_cases q1 : k ≤ mn (fq v a (a 16 p)) (gq v a (a 16 p)) (1000 - a 18 p) x y j
      · by_cases q2 : k = mn (fq v a (a 16 p)) (gq v a (a 16 p)) (1000 - a 18 p) x y j
        · rw [if_pos q1, if_neg (by omega), if_pos q2]; rfl
        · rw [if_pos q1, if_pos (by omega), if_neg q2]; rfl
      · rw [if_neg q1, if_neg (by omega), if_neg (by omega)]; rfl) (fun x y => by
      unfold Nq
      have z : pr (fun _ => 0) (v 9 + 1) = 0 := by rw [pr_const 0 ht, Int.zero_mul]
      refine Eq.trans (pr_congr fun j j0 j1 => ?_) z
      have := lb j x
      exact if_neg (by unfold mn; omega)) (fun x y k y0 y1 x1 k0 k1 => by
      have b1 := pr_ge (f := fun t => if k ≤ mn (fq v a (a 16 p)) (gq v a (a 16 p)) (1000 - a 18 p) x y t then 1 else 0) (x := 0) (y := v 9 + 1) (c := 0) (by omega) ht (fun j _ _ => by split <;> omega)
      have b2 := pr_le (f := fun t => if k ≤ mn (fq v a (a 16 p)) (gq v a (a 16 p)) (1000 - a 18 p) x y t then 1 else 0) (x := 0) (y := v 9 + 1) (c := 1) (by omega) ht (fun j _ _ => by split <;> omega)
      rw [pr_0] at b1 b2
      unfold Nq
      omega) (fun x y y0 y1 x1 => (D3 x y y0 y1 x1).1)
    refine ⟨(iI b, h4), ?_, l1, r3, c1, z3, z4, b, q, rfl, S4, D3, B4⟩
    dsimp only
    unfold F_X1_find_29
    rw [if_pos (by rw [iI_lt (by omega) (by omega) (by omega) (by omega)]; omega), S1.g0.2.2.2.2.2, Option.bind_some, f4, Option.bind_some]
end SED
