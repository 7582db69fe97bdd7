/-! source -/
def sa (a : Nat → Int → Int) (n w x y : Int) : Nat → Int → Int := ta (ta (ta a 3 n w) 4 n x) 5 n y
def sel (el : Int → Int → Int) (cn : Int → Int) (n w : Int) (w' x : Int) : Int := if w' = w ∧ x = cn w then n else el w' x
def scn (cn : Int → Int) (w w' : Int) : Int := if w' = w then cn w + 1 else cn w'
section SRC
variable {G : Nat → Nat} {h : xH} {ad ad1 : Nat → Nat → Nat} {P P1 : xP} {s : mS} {v : Nat → Int} {a : Nat → Int → Int} {el : Int → Int → Int} {cn : Int → Int}
theorem sa_3 (a : Nat → Int → Int) (n w x y j : Int) : sa a n w x y 3 j = if j = n then w else a 3 j := by
  unfold sa; rw [ta_n _ _ _ _ 3 _ (by decide), ta_n _ _ _ _ 3 _ (by decide), ta_k]
theorem sa_4 (a : Nat → Int → Int) (n w x y j : Int) : sa a n w x y 4 j = if j = n then x else a 4 j := by
  unfold sa; rw [ta_n _ _ _ _ 4 _ (by decide), ta_k, ta_n _ _ _ _ 4 _ (by decide)]
theorem sa_5 (a : Nat → Int → Int) (n w x y j : Int) : sa a n w x y 5 j = if j = n then y else a 5 j := by
  unfold sa; rw [ta_k, ta_n _ _ _ _ 5 _ (by decide), ta_n _ _ _ _ 5 _ (by decide)]
theorem sa_q (I : Iv v a) (w x y : Int) (hn : v 2 < 16) {w' t : Int} (t0 : 0 ≤ t) (t1 : t < 601) : qa (tv v 2 (v 2 + 1)) (sa a (v 2) w x y) w' t = qa v a w' t ∧ qb (tv v 2 (v 2 + 1)) (sa a (v 2) w x y) w' t = qb v a w' t := by
  have i2 := I.2.1
  have h6 := I.2.2.2.2.2.2.2.2.2.1 (v 2) t i2.1 hn t0 t1
  have z6 : a 6 (601 * v 2 + t) = 0 := h6.2.2.2.2 (Int.le_refl _)
  have z7 : a 7 (601 * v 2 + t) = 0 := by omega
  constructor
  · show pr (fa (sa a (v 2) w x y) w' t) (v 2 + 1) = pr (fa a w' t) (v 2)
    rw [pr_1 _ i2.1, pr_congr (g := fa a w' t)]
    · have : fa (sa a (v 2) w x y) w' t (v 2) = 0 := by
        show (if sa a (v 2) w x y 3 (v 2) = w' then a 6 (601 * v 2 + t) else 0) = 0
        rw [z6]; split <;> rfl
      rw [this, Int.add_zero]
    · intro j j0 j1
      show (if sa a (v 2) w x y 3 j = w' then a 6 (601 * j + t) else 0) = _
      rw [sa_3, if_neg (show ¬ j = v 2 by omega)]; rfl
  · show pr (fb (sa a (v 2) w x y) w' t) (v 2 + 1) = pr (fb a w' t) (v 2)
    rw [pr_1 _ i2.1, pr_congr (g := fb a w' t)]
    · have : fb (sa a (v 2) w x y) w' t (v 2) = 0 := by
        show (if sa a (v 2) w x y 3 (v 2) = w' then a 7 (601 * v 2 + t) else 0) = 0
        rw [z7]; split <;> rfl
      rw [this, Int.add_zero]
    · intro j j0 j1
      show (if sa a (v 2) w x y 3 j = w' then a 7 (601 * j + t) else 0) = _
      rw [sa_3, if_neg (show ¬ j = v 2 by omega)]; rfl
theorem sa_ec (I : Iv v a) (E : Ec v a el cn) {w x y : Int} (w0 : 0 ≤ w) (w1 : w < v 1) : Ec (tv v 2 (v 2 + 1)) (sa a (v 2) w x y) (sel el cn (v 2) w) (scn cn w) := by
  have i2 := I.2.1
  intro w' w0' w1'
  obtain ⟨⟨n0, n1⟩, hx, hsum, hin⟩ := E w' w0' w1'
  show (0 ≤ scn cn w w' ∧ scn cn w w' ≤ v 2 + 1) ∧ (∀ x', 0 ≤ x' → x' < scn cn w w' → 0 ≤ sel el cn (v 2) w w' x' ∧ sel el cn (v 2) w w' x' < v 2 + 1 ∧ sa a (v 2) w x y 3 (sel el cn (v 2) w w' x') = w') ∧ (∀ f : Int → Int, pr (fun x' => f (sel el cn (v 2) w w' x')) (scn cn w w') = pr (fun s => if sa a (v 2) w x y 3 s = w' then f s else 0) (v 2 + 1)) ∧ ∀ s, 0 ≤ s → s < v 2 + 1 → sa a (v 2) w x y 3 s = w' → ∃ x', 0 ≤ x' ∧ x' < scn cn w w' ∧ sel el cn (v 2) w w' x' = s
  unfold scn
  by_cases q : w' = w
  · subst q
    simp only [if_true]
    have esel : ∀ x', 0 ≤ x' → x' < cn w' → sel el cn (v 2) w' w' x' = el w' x' := fun x' x0 x1 => if_neg (fun z => by omega)
    have enew : sel el cn (v 2) w' w' (cn w') = v 2 := if_pos ⟨rfl, rfl⟩
    refine ⟨⟨by omega, by omega⟩, fun x' x0 x1 => ?_, fun f => ?_, fun s s0 s1 s2 => ?_⟩
    · by_cases q2 : x' = cn w'
      · subst q2
        rw [enew, sa_3, if_pos rfl]
        exact ⟨by omega, by omega, rfl⟩
      · have := hx x' x0 (by omega)
        rw [esel x' x0 (by omega), sa_3, if_neg (by omega)]
        exact ⟨this.1, by omega, this.2.2⟩
    · rw [pr_1 _ n0, pr_1 _ i2.1, enew]
      have : (if sa a (v 2) w' x y 3 (v 2) = w' then f (v 2) else 0) = f (v 2) := if_pos (by rw [sa_3, if_pos rfl])
      rw [this, pr_congr (g := fun x' => f (el w' x')) (fun j j0 j1 => by rw [esel j j0 j1]), hsum f, pr_congr (f := fun s => if sa a (v 2) w' x y 3 s = w' then f s else 0) (g := fun s => if a 3 s = w' then f s else 0) (fun j j0 j1 => by rw [sa_3, if_neg (show ¬ j = v 2 by omega)])]
    · by_cases q2 : s = v 2
      · exact ⟨cn w', n0, by omega, by rw [enew, q2]⟩
      · rw [sa_3, if_neg q2] at s2
        obtain ⟨x', x0, x1, x2⟩ := hin s s0 (by omega) s2
        exact ⟨x', x0, by omega, by rw [esel x' x0 x1, x2]⟩
  · simp only [if_neg q]
    have esel : ∀ x', sel el cn (v 2) w w' x' = el w' x' := fun x' => if_neg (fun z => q z.1)
    refine ⟨⟨by omega, by omega⟩, fun x' x0 x1 => ?_, fun f => ?_, fun s s0 s1 s2 => ?_⟩
    · have := hx x' x0 x1
      rw [esel, sa_3, if_neg (by omega)]
      exact ⟨this.1, by omega, this.2.2⟩
    · rw [pr_1 _ i2.1]
      have : (if sa a (v 2) w x y 3 (v 2) = w' then f (v 2) else 0) = 0 := if_neg (by rw [sa_3, if_pos rfl]; exact fun z => q z.symm)
      rw [this, Int.add_zero, pr_congr (g := fun x' => f (el w' x')) (fun j j0 j1 => by rw [esel j]), hsum f, pr_congr (f := fun s => if sa a (v 2) w x y 3 s = w' then f s else 0) (g := fun s => if a 3 s = w' then f s else 0) (fun j j0 j1 => by rw [sa_3, if_neg (show ¬ j = v 2 by omega)])]
    · by_cases q2 : s = v 2
      · rw [sa_3, if_pos q2] at s2
        exact absurd s2.symm q
      · rw [sa_3, if_neg q2] at s2
        obtain ⟨x', x0, x1, x2⟩ := hin s s0 (by omega) s2
        exact ⟨x', x0, x1, by rw [esel x', x2]⟩
theorem sa_iv (I : Iv v a) {w x y : Int} (w0 : 0 ≤ w) (w1 : w < v 1) (x0 : 0 ≤ x) (x1 : x ≤ 60) (y0 : 1 ≤ y) (y1 : y ≤ 1000) (hn : v 2 < 16) : Iv (tv v 2 (v 2 + 1)) (sa a (v 2) w x y) := by
  obtain ⟨i1, i2, i9, i15, i24, i26, i33, i39, hs, hq, ht, hp, hg, hr, hpt, hal, hch, hz⟩ := I
  refine ⟨i1, ⟨show 0 ≤ v 2 + 1 by omega, show v 2 + 1 ≤ 16 by omega⟩, i9, i15, i24, i26, i33, i39, fun j j0 j1 => ?_, fun j t j0 j1 t0 t1 => ?_, fun j t j0 j1 t0 t1 => ?_, hp, hg, hr, hpt, hal, hch, hz⟩
  · have j1' : j < v 2 + 1 := j1
    rw [sa_3, sa_4, sa_5]
    by_cases q : j = v 2
    · rw [if_pos q, if_pos q, if_pos q]; exact ⟨w0, w1, x0, x1, y0, y1⟩
    · rw [if_neg q, if_neg q, if_neg q]; exact hs j j0 (by omega)
  · have h := hq j t j0 j1 t0 t1
    refine ⟨h.1, h.2.1, h.2.2.1, fun z => ?_, fun z => ?_⟩
    · have z' : j < v 2 + 1 := z
      rw [sa_5]
      by_cases q : j = v 2
      · rw [if_pos q]
        have := h.2.2.2.2 (by omega)
        show a 6 (601 * j + t) ≤ y
        omega
      · rw [if_neg q]; exact h.2.2.2.1 (by omega)
    · have z' : v 2 + 1 ≤ j := z
      exact h.2.2.2.2 (by omega)
  · have h := ht j t j0 j1 t0 t1
    refine ⟨h.1, fun z => h.2 ?_⟩
    have z' : v 2 + 1 ≤ j := z
    omega
end SRC
set_option maxHeartbeats 4000000 in
theorem js_source (G : Nat → Nat) (x m out : Nat) (hG : G 1 < G 0) : sJ_source (fun _ => Jx G x m out) G x m := by
  rintro i h ⟨ad, P, s, v, a, el, cn, ⟨rfl, rfl, rfl⟩, R, M, O, L, I, C⟩ a1 a2 a3
  obtain ⟨p, rfl, p0, p1⟩ := iI_arg a1
  obtain ⟨x, rfl, x0, x1⟩ := iI_arg a2
  obtain ⟨y, rfl, y0, y1⟩ := iI_arg a3
  have R0 := L.m0 (iI 0)
  have i1 := I.1
  have i2 := I.2.1
  have wx : F_X10_within (iI x) 0 60 = some (iI (if 0 ≤ x ∧ x ≤ 60 then 1 else 0)) := c_within (x := x) (y := 0) (z := 60) (by omega) (by omega) (by omega) (by omega) (by omega) (by omega)
  have wy : F_X10_within (iI y) 1 1000 = some (iI (if 1 ≤ y ∧ y ≤ 1000 then 1 else 0)) := c_within (x := y) (y := 1) (z := 1000) (by omega) (by omega) (by omega) (by omega) (by omega) (by omega)
  have lz := C.2.1.2.1.size R
  by_cases c : (0 ≤ p ∧ p < v 1) ∧ (0 ≤ x ∧ x ≤ 60) ∧ (1 ≤ y ∧ y ≤ 1000) ∧ v 2 < 16
  · obtain ⟨c1, c2, c3, c5⟩ := c
    have ew := c_serviceAt R C c1.1 c1.2 (by omega)
    have hw := C.2.2.1 p c1.1 c1.2
    obtain ⟨⟨n0, n1⟩, hx, -, -⟩ := C.2.2.2.2.2.2.2.2.2.2 p c1.1 c1.2
    obtain ⟨s2, f1, L1⟩ := R0.st 3 16 (by decide) rfl (z := v 2) (w := p) (by omega) (by omega)
    obtain ⟨s3, f2, L2⟩ := L1.st 4 16 (by decide) rfl (z := v 2) (w := x) (by omega) (by omega)
    obtain ⟨s4, f3, L3⟩ := L2.st 5 16 (by decide) rfl (z := v 2) (w := y) (by omega) (by omega)
    have L5 := L3.mI 2 (v 2 + 1)
    obtain ⟨g1, ad1, P1, e1, R1, o1, q1⟩ := R.nO 8 (v 2).toNat 8 [.int 0, .null, .int 0, .null, .null]
    obtain ⟨g2, ad2, P2, e2, R2, w2, q2⟩ := R1.nI 83 (v 2).toNat 601
    have o2 := (q2 8 (v 2).toNat (by omega)).2.trans o1
    have a2 := (q2 8 (v 2).toNat (by omega)).1
    obtain ⟨g3, P3, e3, R3, o3, q3⟩ := R2.sf' o2 (j := 3) (by simp) (.ref (ad2 83 (v 2).toNat))
    obtain ⟨g4, ad4, P4, e4, R4, w4, q4⟩ := R3.nZ 84 (v 2).toNat 200
    have o4 := (q4 8 (v 2).toNat (by omega)).2.trans o3
    have a4 := (q4 8 (v 2).toNat (by omega)).1
    obtain ⟨g5, P5, e5, R5, o5, q5⟩ := R4.sf' o4 (j := 4) (by simp) (.ref (ad4 84 (v 2).toNat))
    obtain ⟨g6, P6, e6, R6, o6, q6⟩ := R5.sf' o5 (j := 1) (by simp) (.ref (ad 7 p.toNat))
    obtain ⟨g7, P7, e7, R7, o7, q7⟩ := R6.sf' o6 (j := 0) (by simp) (.int (iI x))
    obtain ⟨g8, P8, e8, R8, o8, q8⟩ := R7.sf' o7 (j := 2) (by simp) (.int (iI y))
    rw [a2] at e3
    rw [a4, a2] at e5 e6 e7 e8
    have Q8 : ∀ k i, ¬ (k = 8 ∧ i = (v 2).toNat) → ¬ (k = 83 ∧ i = (v 2).toNat) → ¬ (k = 84 ∧ i = (v 2).toNat) → ad4 k i = ad k i ∧ P8 k i = P k i := fun k i n n2 n3 => ⟨(q4 k i n3).1.trans ((q2 k i n2).1.trans (q1 k i n).1), (q8 k i n).trans ((q7 k i n).trans ((q6 k i n).trans ((q5 k i n).trans ((q4 k i n3).2.trans ((q3 k i n).trans ((q2 k i n2).2.trans (q1 k i n).2))))))⟩
    have w8 : P8 83 (v 2).toNat = _ := (q8 _ _ (by omega)).trans ((q7 _ _ (by omega)).trans ((q6 _ _ (by omega)).trans ((q5 _ _ (by omega)).trans ((q4 _ _ (by omega)).2.trans ((q3 _ _ (by omega)).trans w2)))))
    have u8 : P8 84 (v 2).toNat = _ := (q8 _ _ (by omega)).trans ((q7 _ _ (by omega)).trans ((q6 _ _ (by omega)).trans ((q5 _ _ (by omega)).trans w4)))
    have b83 : ad4 83 (v 2).toNat = ad2 83 (v 2).toNat := (q4 _ _ (by omega)).1
    have lw : Ls G ad4 P8 (5 + p.toNat) 8 (cn p) (el p) := (C.2.1.2.2.2.2.2 p c1.1 c1.2).x (Q8 0 _ (by omega) (by omega) (by omega)).2 (Q8 50 _ (by omega) (by omega) (by omega)).2 (Q8 50 _ (by omega) (by omega) (by omega)).1 (fun z z0 z1 => by have := hx z z0 z1; exact (Q8 8 _ (by omega) (by omega) (by omega)).1)
    obtain ⟨g9, ad9, P9, e9, R9, l9, q9, r9⟩ := lw.add R8 hG n0 (by omega) (e := v 2) o8 (fun z z0 z1 => by have := hx z z0 z1; exact ⟨_, (Q8 8 _ (by omega) (by omega) (by omega)).2.trans (C.2.2.2.1 _ this.1 this.2.1).1⟩) (by decide) (by decide)
    have l1 : Ls G ad9 P9 1 8 (v 2) (fun x => x) := C.2.1.2.1.x ((q9 0 1 (by omega) (by omega)).trans (Q8 0 1 (by omega) (by omega) (by omega)).2) ((q9 50 1 (by omega) (by omega)).trans (Q8 50 1 (by omega) (by omega) (by omega)).2) ((r9 50 1 (by omega)).trans (Q8 50 1 (by omega) (by omega) (by omega)).1) (fun z z0 z1 => (r9 8 _ (by omega)).trans (Q8 8 _ (by omega) (by omega) (by omega)).1)
    have o9 := (q9 8 (v 2).toNat (by omega) (by omega)).trans o8
    obtain ⟨gA, adA, PA, eA, RA, lA, qA, rA⟩ := l1.add R9 hG i2.1 (by omega) (e := v 2) o9 (fun z z0 z1 => ⟨_, (q9 8 _ (by omega) (by omega)).trans ((Q8 8 z.toNat (by omega) (by omega) (by omega)).2.trans (C.2.2.2.1 z z0 z1).1)⟩) (by decide) (by decide)
    have QA : ∀ k i, ¬ (k = 8 ∧ i = (v 2).toNat) → ¬ (k = 83 ∧ i = (v 2).toNat) → ¬ (k = 84 ∧ i = (v 2).toNat) → ¬ (k = 0 ∧ i = 5 + p.toNat) → ¬ (k = 50 ∧ i = 5 + p.toNat) → ¬ (k = 0 ∧ i = 1) → ¬ (k = 50 ∧ i = 1) → adA k i = ad k i ∧ PA k i = P k i := fun k i n1 n2 n3 n4 n5 n6 n7 => ⟨(rA k i n7).trans ((r9 k i n5).trans (Q8 k i n1 n2 n3).1), (qA k i n6 n7).trans ((q9 k i n4 n5).trans (Q8 k i n1 n2 n3).2)⟩
    have a0 : ∀ i, adA 0 i = ad 0 i := fun i => (rA 0 i (by omega)).trans ((r9 0 i (by omega)).trans (Q8 0 i (by omega) (by omega) (by omega)).1)
    have N6 : Cn G adA PA v a := C.n.x I (fun k i u => by unfold Us at u; exact (QA k i (by omega) (by omega) (by omega) (by omega) (by omega) (by omega) (by omega)).2) (fun k i u => by unfold Us at u; exact (QA k i (by omega) (by omega) (by omega) (by omega) (by omega) (by omega) (by omega)).1) (fun i hi => a0 i)
    have oA : PA 8 (v 2).toNat = some (.inr (8, [.int (iI x), .ref (ad 7 p.toNat), .int (iI y), .ref (ad2 83 (v 2).toNat), .ref (ad4 84 (v 2).toNat)])) := (qA 8 _ (by omega) (by omega)).trans o9
    have C6 : Cc G adA PA (tv v 2 (v 2 + 1)) (sa a (v 2) p x y) (sel el cn (v 2) p) (scn cn p) := by
      obtain ⟨y0, y2, y3, y4, y5, y6, y7, y8, y9⟩ := N6
      obtain ⟨l0, l1', l2, l3, l4, l5⟩ := C.2.1
      have Z : ∀ k i, ¬ (k = 8) → ¬ (k = 83) → ¬ (k = 84) → ¬ (k = 0 ∧ (i = 1 ∨ i = 5 + p.toNat)) → ¬ (k = 50 ∧ (i = 1 ∨ i = 5 + p.toNat)) → adA k i = ad k i ∧ PA k i = P k i := fun k i n1 n2 n3 n4 n5 => QA k i (by omega) (by omega) (by omega) (by omega) (by omega) (by omega) (by omega)
      refine ⟨y0, ⟨l0.x (Z 0 0 (by omega) (by omega) (by omega) (by omega) (by omega)).2 (Z 50 0 (by omega) (by omega) (by omega) (by omega) (by omega)).2 (Z 50 0 (by omega) (by omega) (by omega) (by omega) (by omega)).1 (fun y _ _ => (Z 7 _ (by omega) (by omega) (by omega) (by omega) (by omega)).1), lA.e (fun y _ _ => by split <;> omega), l2.x (Z 0 2 (by omega) (by omega) (by omega) (by omega) (by omega)).2 (Z 50 2 (by omega) (by omega) (by omega) (by omega) (by omega)).2 (Z 50 2 (by omega) (by omega) (by omega) (by omega) (by omega)).1 (fun y _ _ => (Z 6 _ (by omega) (by omega) (by omega) (by omega) (by omega)).1), l3.x (Z 0 3 (by omega) (by omega) (by omega) (by omega) (by omega)).2 (Z 50 3 (by omega) (by omega) (by omega) (by omega) (by omega)).2 (Z 50 3 (by omega) (by omega) (by omega) (by omega) (by omega)).1 (fun y _ _ => (Z 1 _ (by omega) (by omega) (by omega) (by omega) (by omega)).1), l4.x (Z 0 4 (by omega) (by omega) (by omega) (by omega) (by omega)).2 (Z 50 4 (by omega) (by omega) (by omega) (by omega) (by omega)).2 (Z 50 4 (by omega) (by omega) (by omega) (by omega) (by omega)).1 (fun y _ _ => (Z 3 _ (by omega) (by omega) (by omega) (by omega) (by omega)).1), fun w w0 w1 => ?_⟩, ?_, ?_, y4, y5, y6, y7, y8, y9, sa_ec I C.2.2.2.2.2.2.2.2.2.2 c1.1 c1.2⟩
      · have w1' : w < v 1 := w1
        by_cases q : w = p
        · subst q
          have e : scn cn w w = cn w + 1 := if_pos rfl
          rw [e]
          refine (l9.x (qA 0 _ (by omega) (by omega)) (qA 50 _ (by omega) (by omega)) (rA 50 _ (by omega)) (fun z _ _ => rA 8 _ (by omega))).e (fun z z0 z1 => ?_)
          unfold sel
          by_cases q2 : z = cn w
          · rw [if_pos ⟨rfl, q2⟩, if_pos q2]
          · rw [if_neg (fun z => q2 z.2), if_neg q2]
        · have e : scn cn p w = cn w := if_neg q
          rw [e]
          refine ((l5 w w0 w1').x (Z 0 _ (by omega) (by omega) (by omega) (by omega) (by omega)).2 (Z 50 _ (by omega) (by omega) (by omega) (by omega) (by omega)).2 (Z 50 _ (by omega) (by omega) (by omega) (by omega) (by omega)).1 (fun z z0 z1 => ?_)).e (fun z z0 z1 => if_neg (fun z => q z.1))
          have := (C.2.2.2.2.2.2.2.2.2.2 w w0 w1').2.1 z z0 z1
          exact (QA 8 _ (by omega) (by omega) (by omega) (by omega) (by omega) (by omega) (by omega)).1
      · intro w w0 w1
        have := y2 w w0 w1
        refine ⟨this.1, ?_, ?_⟩
        · rw [this.2.1, cl_same (g' := qa (tv v 2 (v 2 + 1)) (sa a (v 2) p x y) w) (fun t t0 t1 => (sa_q I p x y c5 t0 t1).1)]
        · rw [this.2.2, cl_same (g' := qb (tv v 2 (v 2 + 1)) (sa a (v 2) p x y) w) (fun t t0 t1 => (sa_q I p x y c5 t0 t1).2)]
      · intro j j0 j1
        have j1' : j < v 2 + 1 := j1
        rw [sa_3, sa_4, sa_5]
        by_cases q : j = v 2
        · subst q
          rw [if_pos rfl, if_pos rfl, if_pos rfl]
          refine ⟨?_, ?_, ?_⟩
          · rw [oA, (Z 7 p.toNat (by omega) (by omega) (by omega) (by omega) (by omega)).1, rA 83 _ (by omega), r9 83 _ (by omega), b83, rA 84 _ (by omega), r9 84 _ (by omega)]
          · rw [qA 83 _ (by omega) (by omega), q9 83 _ (by omega) (by omega), w8, show (fun _ : Nat => (0 : Int32)) = (fun t : Nat => iI (cl 601 (fun t => sa a (v 2) p x y 6 (601 * v 2 + t)) t)) from funext fun t => by
              show (0 : Int32) = iI (if (t : Int) < 601 then a 6 (601 * v 2 + t) else 0)
              by_cases q : (t : Int) < 601
              · rw [if_pos q, (I.2.2.2.2.2.2.2.2.2.1 (v 2) t i2.1 c5 (by omega) q).2.2.2.2 (Int.le_refl _)]; rfl
              · rw [if_neg q]; rfl]
          · rw [qA 84 _ (by omega) (by omega), q9 84 _ (by omega) (by omega), u8, show (fun _ : Nat => (0 : Int32)) = (fun t : Nat => iI (cl 200 (fun t => sa a (v 2) p x y 8 (200 * v 2 + t)) t)) from funext fun t => by
              show (0 : Int32) = iI (if (t : Int) < 200 then a 8 (200 * v 2 + t) else 0)
              by_cases q : (t : Int) < 200
              · rw [if_pos q, (I.2.2.2.2.2.2.2.2.2.2.1 (v 2) t i2.1 c5 (by omega) q).2 (Int.le_refl _)]; rfl
              · rw [if_neg q]; rfl]
        · rw [if_neg q, if_neg q, if_neg q]
          exact y3 j j0 (by omega)
    have I6 := sa_iv I (w := p) (x := x) (y := y) c1.1 c1.2 c2.1 c2.2 c3.1 c3.2 c5
    have ef : FM_source s (iI p) (iI x) (iI y) = some (iI (v 2), mI s4 2 (iI (v 2 + 1))) := by
      have w1 : v 2 + 1 - 1 = v 2 := by omega
      simp (disch := omega) only [FM_source, FM_isService, Rl.fd R0 1 (by decide) (by decide), Rl.fd R0 2 (by decide) (by decide), f1, Rl.fd L1 2 (by decide) (by decide), f2, Rl.fd L2 2 (by decide) (by decide), f3, Rl.fd L3 2 (by decide) (by decide), mI_s, l_0, l_1, l_2, l_3, l_4, l_5, l_6, l_7, l_8, l_9, l_10, l_12, l_13, l_14, l_15, l_16, l_20, l_21, l_40, l_60, l_78, l_199, l_200, l_300, l_599, l_600, l_601, l_602, l_1000, l_1638, l_10000, l_65536, l_100000, l_1000000, l_m1, L_0, L_1, L_10, L_20, L_1000, L_10000, iI_add, iI_sub, iI_mul, iI_neg, iI_lt, iI_le, iI_eq, iI_max, iI_min, iI_l, jI_i, jI_add, jI_sub, jI_mul, jI_lt, jI_le, jI_eq, kmp_pos, kmp_neg, kmp_le, kmp_ge, if_pos, if_neg, if_true, if_false, true_or, or_true, Option.bind_some, xl, xg, w1]
    obtain ⟨y1, h9, y2, y3⟩ := Jgo (Fr.of2 (fun k i hk => QA k i (by omega) (by omega) (by omega) (by omega) (by omega) (by omega) (by omega)) (QA 10 0 (by omega) (by omega) (by omega) (by omega) (by omega) (by omega) (by omega)).1) M O RA C6 I6 L5 (y := F_X11_source G gA (ad 19 0) (iI p) (iI x) (iI y)) (r := iI (v 2)) (fun M => by rw [← (QA 19 0 (by omega) (by omega) (by omega) (by omega) (by omega) (by omega) (by omega)).1]; exact u_source M ef)
    refine ⟨_, gA, h9, ?_, y1, y2, y3⟩
    have t1 := (lw.size R8).1
    rw [(Q8 0 (5 + p.toNat) (by omega) (by omega) (by omega)).1] at t1
    have t2 := (l1.size R9).1
    have b1 : ad9 0 1 = ad 0 1 := (r9 0 1 (by omega)).trans (Q8 0 1 (by omega) (by omega) (by omega)).1
    rw [b1] at t2
    have b8 : ad4 8 (v 2).toNat = ad1 8 (v 2).toNat := a4.trans a2
    have b9 : ad9 8 (v 2).toNat = ad1 8 (v 2).toNat := (r9 8 _ (by omega)).trans b8
    rw [(Q8 0 (5 + p.toNat) (by omega) (by omega) (by omega)).1, b8] at e9
    rw [b1, b9] at eA
    have k7 : gR g8 (some (ad 7 p.toNat)) 7 0 = some (some (ad 0 (5 + p.toNat))) := by
      have := R8.getR ((Q8 7 p.toNat (by omega) (by omega) (by omega)).2.trans hw.1) (j := 0) rfl
      rw [(Q8 7 p.toNat (by omega) (by omega) (by omega)).1] at this
      exact this
    have k9 : gR g9 (some (ad 10 0)) 10 1 = some (some (ad 0 1)) := by
      have := R9.getR ((q9 10 0 (by omega) (by omega)).trans ((Q8 10 0 (by omega) (by omega) (by omega)).2.trans C.k)) (j := 1) rfl
      rw [r9 10 0 (by omega), (Q8 10 0 (by omega) (by omega) (by omega)).1] at this
      exact this
    have kA : gR gA (some (ad 10 0)) 10 1 = some (some (ad 0 1)) := by
      have := RA.getR N6.1 (j := 1) rfl
      rw [(QA 10 0 (by omega) (by omega) (by omega) (by omega) (by omega) (by omega) (by omega)).1, a0] at this
      exact this
    have z6 := lA.size RA
    rw [a0] at z6
    unfold F_X10_source
    rw [R.obj C.k, Option.bind_some, ew.1, Option.bind_some, if_neg (by simp), wx, Option.bind_some, if_pos c2, if_neg (by decide), wy, Option.bind_some, if_pos c3, if_neg (by decide), R.getR C.k (j := 1) rfl, Option.bind_some, lz.1, Option.bind_some, lz.2, Option.bind_some, l_16, if_pos (by (first | rw [iI_lt (by omega) (by omega) (by omega) (by omega)] | rw [iI_le (by omega) (by omega) (by omega) (by omega)] | rw [iI_eq (by omega) (by omega) (by omega) (by omega)]); omega), e1, Option.bind_some]
    dsimp only
    rw [Option.bind_some]
    unfold F_X8_init
    simp only [e2, rf_some, e3, e4, e5, e6, e7, e8, Option.bind_some, k7, t1, e9, k9, t2, eA, kA, z6.1, z6.2]
    rw [l_1, iI_sub]
    congr 3; omega
  · have ef : FM_source s (iI p) (iI x) (iI y) = some (iI (-1), mI s 0 (iI 0)) := by
      unfold FM_source FM_isService
      simp only [xl, l_0, l_1, l_16, l_60, l_1000, iI_neg, Rl.fd R0 1 (by decide) (by decide), Rl.fd R0 2 (by decide) (by decide)]
      by_cases d1 : p < 0
      · rw [if_pos (by (first | rw [iI_lt (by omega) (by omega) (by omega) (by omega)] | rw [iI_le (by omega) (by omega) (by omega) (by omega)] | rw [iI_eq (by omega) (by omega) (by omega) (by omega)]); omega), Option.bind_some, if_pos rfl]
      · rw [if_neg (by (first | rw [iI_lt (by omega) (by omega) (by omega) (by omega)] | rw [iI_le (by omega) (by omega) (by omega) (by omega)] | rw [iI_eq (by omega) (by omega) (by omega) (by omega)]); omega)]
        by_cases d2 : v 1 ≤ p
        · rw [if_pos (by (first | rw [iI_lt (by omega) (by omega) (by omega) (by omega)] | rw [iI_le (by omega) (by omega) (by omega) (by omega)] | rw [iI_eq (by omega) (by omega) (by omega) (by omega)]); omega), Option.bind_some, if_pos rfl]
        · rw [if_neg (by (first | rw [iI_lt (by omega) (by omega) (by omega) (by omega)] | rw [iI_le (by omega) (by omega) (by omega) (by omega)] | rw [iI_eq (by omega) (by omega) (by omega) (by omega)]); omega), Option.bind_some, if_neg (by decide)]
          by_cases d3 : x < 0
          · rw [if_pos (by (first | rw [iI_lt (by omega) (by omega) (by omega) (by omega)] | rw [iI_le (by omega) (by omega) (by omega) (by omega)] | rw [iI_eq (by omega) (by omega) (by omega) (by omega)]); omega)]
          · rw [if_neg (by (first | rw [iI_lt (by omega) (by omega) (by omega) (by omega)] | rw [iI_le (by omega) (by omega) (by omega) (by omega)] | rw [iI_eq (by omega) (by omega) (by omega) (by omega)]); omega)]
            by_cases d4 : 60 < x
            · rw [if_pos (by (first | rw [iI_lt (by omega) (by omega) (by omega) (by omega)] | rw [iI_le (by omega) (by omega) (by omega) (by omega)] | rw [iI_eq (by omega) (by omega) (by omega) (by omega)]); omega)]
            · rw [if_neg (by (first | rw [iI_lt (by omega) (by omega) (by omega) (by omega)] | rw [iI_le (by omega) (by omega) (by omega) (by omega)] | rw [iI_eq (by omega) (by omega) (by omega) (by omega)]); omega)]
              by_cases d5 : y < 1
              · rw [if_pos (by (first | rw [iI_lt (by omega) (by omega) (by omega) (by omega)] | rw [iI_le (by omega) (by omega) (by omega) (by omega)] | rw [iI_eq (by omega) (by omega) (by omega) (by omega)]); omega)]
              · rw [if_neg (by (first | rw [iI_lt (by omega) (by omega) (by omega) (by omega)] | rw [iI_le (by omega) (by omega) (by omega) (by omega)] | rw [iI_eq (by omega) (by omega) (by omega) (by omega)]); omega)]
                by_cases d6 : 1000 < y
                · rw [if_pos (by (first | rw [iI_lt (by omega) (by omega) (by omega) (by omega)] | rw [iI_le (by omega) (by omega) (by omega) (by omega)] | rw [iI_eq (by omega) (by omega) (by omega) (by omega)]); omega)]
                · rw [if_neg (by (first | rw [iI_lt (by omega) (by omega) (by omega) (by omega)] | rw [iI_le (by omega) (by omega) (by omega) (by omega)] | rw [iI_eq (by omega) (by omega) (by omega) (by omega)]); omega), if_pos (by (first | rw [iI_lt (by omega) (by omega) (by omega) (by omega)] | rw [iI_le (by omega) (by omega) (by omega) (by omega)] | rw [iI_eq (by omega) (by omega) (by omega) (by omega)]); omega)]
    obtain ⟨q1, h6, q2, q3⟩ := Jgo0 R M O I C R0 (fun M => u_source M ef)
    refine ⟨_, h, h6, ?_, q1, q2, q3⟩
    unfold F_X10_source
    by_cases c1 : 0 ≤ p ∧ p < v 1
    · have ew := c_serviceAt R C c1.1 c1.2 (by omega)
      rw [R.obj C.k, Option.bind_some, ew.1, Option.bind_some, if_neg (by simp), wx, Option.bind_some]
      by_cases c2 : 0 ≤ x ∧ x ≤ 60
      · rw [if_pos c2, if_neg (by decide), wy, Option.bind_some]
        by_cases c3 : 1 ≤ y ∧ y ≤ 1000
        · rw [if_pos c3, if_neg (by decide), R.getR C.k (j := 1) rfl, Option.bind_some, lz.1, Option.bind_some, lz.2, Option.bind_some, l_16, if_neg (by (first | rw [iI_lt (by omega) (by omega) (by omega) (by omega)] | rw [iI_le (by omega) (by omega) (by omega) (by omega)] | rw [iI_eq (by omega) (by omega) (by omega) (by omega)]); omega)]; rfl
        · rw [if_neg c3, if_pos (by decide)]; rfl
      · rw [if_neg c2, if_pos (by decide)]; rfl
    · have ew := c_serviceAtX R C p0 p1 (by omega) (by omega) c1
      rw [R.obj C.k, Option.bind_some, ew, Option.bind_some, if_pos rfl]; rfl
