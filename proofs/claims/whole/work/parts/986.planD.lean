/-! the candidates; plan -/
def nc (a : Nat → Int → Int) (p : Int) : Nat → Nat
  | 0 => 0
  | c + 1 => if (a 34 c = p ∧ a 37 c = 0) ∧ nc a p c < 14 then nc a p c + 1 else nc a p c
def idf (a : Nat → Int → Int) (p : Int) : Nat → Int → Int
  | 0 => fun _ => 0
  | c + 1 => if (a 34 c = p ∧ a 37 c = 0) ∧ nc a p c < 14 then fu (idf a p c) (nc a p c) c else idf a p c
section CAN
variable {G : Nat → Nat} {h : xH} {ad : Nat → Nat → Nat} {P P0 : xP} {s : mS} {v : Nat → Int} {a : Nat → Int → Int} {el : Int → Int → Int} {cn : Int → Int} {p : Int}
theorem nc_14 (a : Nat → Int → Int) (p : Int) : ∀ c, nc a p c ≤ 14 := by
  intro c
  induction c with
  | zero => exact Nat.zero_le _
  | succ c ih =>
    unfold nc
    split <;> omega
theorem idf_b (a : Nat → Int → Int) (p : Int) : ∀ (c j : Nat), j < nc a p c → 0 ≤ idf a p c j ∧ idf a p c j < c := by
  intro c
  induction c with
  | zero => intro j hj; exact absurd hj (Nat.not_lt_zero _)
  | succ c ih =>
    intro j hj
    unfold nc at hj
    unfold idf
    by_cases k : (a 34 c = p ∧ a 37 c = 0) ∧ nc a p c < 14
    · rw [if_pos k] at hj ⊢
      by_cases q : (j : Int) = (nc a p c : Int)
      · rw [q, fu_s]; omega
      · rw [fu_n _ q]
        have := ih j (by omega)
        omega
    · rw [if_neg k] at hj ⊢
      have := ih j hj
      omega
theorem nc_full (a : Nat → Int → Int) (p : Int) {c : Nat} (h : nc a p c = 14) : ∀ k, nc a p (c + k) = 14 ∧ idf a p (c + k) = idf a p c := by
  intro k
  induction k with
  | zero => exact ⟨h, rfl⟩
  | succ k ih =>
    have e1 : nc a p (c + k + 1) = nc a p (c + k) := if_neg (by omega)
    have e2 : idf a p (c + k + 1) = idf a p (c + k) := if_neg (by omega)
    rw [← Nat.add_assoc, e1, e2]
    exact ih
/-- the heap with the planner's cells changed -/
theorem Px.cc {n x7 x8 x9 : Int} {f0 f1 f2 f3 f4 : Int → Int} (S : Px G ad P0 h n (v 39) x7 x8 x9 f0 f1 f2 f3 f4) (C : Cc G ad P0 v a el cn) (hf : ∀ i : Nat, (i : Int) < v 39 → f4 i = a 40 i) : ∃ P, Rep G h ad P ∧ Cc G ad P v a el cn ∧ ∀ k i, k ≠ 5 → k ≠ 150 → k ≠ 151 → k ≠ 152 → k ≠ 153 → k ≠ 154 → P k i = P0 k i := by
  obtain ⟨P, R, q, p5, p0, p1, p2, p3, p4⟩ := S
  refine ⟨P, R, ?_, q⟩
  obtain ⟨z0, z1, z2, z3, z4, z5, z6, z7, z8, z9, z10⟩ := C
  have Z : ∀ k, k ≠ 5 ∧ k ≠ 150 ∧ k ≠ 151 ∧ k ≠ 152 ∧ k ≠ 153 ∧ k ≠ 154 → ∀ i, P k i = P0 k i := fun k hk i => q k i hk.1 hk.2.1 hk.2.2.1 hk.2.2.2.1 hk.2.2.2.2.1 hk.2.2.2.2.2
  exact ⟨z0.c fun k q => Z k (by omega), z1.c fun k q => Z k (by omega), z2.c fun k q => Z k (by omega), z3.c fun k q => Z k (by omega), z4.c fun k q => Z k (by omega), z5.c fun k q => Z k (by omega), z6.c fun k q => Z k (by omega), z7.c fun k q => Z k (by omega), ⟨iI n, iI x7, iI x8, iI x9, _, _, _, _, _, p5, p0, p1, p2, p3, p4, fun i hi => by rw [hf i hi]⟩, z9.c fun k q => Z k (by omega), z10⟩
theorem Px.of (R : Rep G h ad P0) (C : Cc G ad P0 v a el cn) : ∃ n x7 x8 x9 f0 f1 f2 f3 f4, Px G ad P0 h n (v 39) x7 x8 x9 f0 f1 f2 f3 f4 ∧ ∀ i : Nat, (i : Int) < v 39 → iI (f4 i) = iI (a 40 i) := by
  obtain ⟨x5, x7, x8, x9, f0, f1, f2, f3, f4, hp, p0, p1, p2, p3, p4, hf⟩ := C.2.2.2.2.2.2.2.2.1
  refine ⟨x5.toInt, x7.toInt, x8.toInt, x9.toInt, fun z => (f0 z.toNat).toInt, fun z => (f1 z.toNat).toInt, fun z => (f2 z.toNat).toInt, fun z => (f3 z.toNat).toInt, fun z => (f4 z.toNat).toInt, ⟨P0, R, fun _ _ _ _ _ _ _ _ => rfl, ?_, ?_, ?_, ?_, ?_, ?_⟩, fun i hi => ?_⟩
  · rw [iI_self, iI_self, iI_self, iI_self]; exact hp
  · rw [p0]; conv => lhs; rw [fn_iI f0]
  · rw [p1]; conv => lhs; rw [fn_iI f1]
  · rw [p2]; conv => lhs; rw [fn_iI f2]
  · rw [p3]; conv => lhs; rw [fn_iI f3]
  · rw [p4]; conv => lhs; rw [fn_iI f4]
  · show iI (f4 (i : Int).toNat).toInt = iI (a 40 i)
    rw [Int.toNat_natCast, iI_self]
    exact hf i hi
/-- rows of chosen numbers, with the reference's own -/
theorem Px.fix {n x6 x7 x8 x9 : Int} {f0 f1 f2 f3 f4 g4 : Int → Int} (S : Px G ad P0 h n x6 x7 x8 x9 f0 f1 f2 f3 f4) (hg : ∀ i : Nat, iI (f4 i) = iI (g4 i)) : Px G ad P0 h n x6 x7 x8 x9 f0 f1 f2 f3 g4 := by
  obtain ⟨P, R, q, p5, p0, p1, p2, p3, p4⟩ := S
  refine ⟨P, R, q, p5, p0, p1, p2, p3, ?_⟩
  rw [p4, show (fun i : Nat => iI (f4 i)) = (fun i : Nat => iI (g4 i)) from funext hg]
theorem c_offer {n x6 x7 x8 x9 : Int} {f0 f1 f2 f3 f4 : Int → Int} (S : Px G ad P0 h n x6 x7 x8 x9 f0 f1 f2 f3 f4) (n0 : 0 ≤ n) (n1 : n < 14) (i c w : Int) : ∃ h', F_X5_offer G h (ad 5 0) (iI i) (iI c) (iI w) = some h' ∧ Px G ad P0 h' (n + 1) x6 x7 x8 x9 (fu f0 n i) (fu f1 n c) (fu f2 n w) f3 f4 := by
  obtain ⟨g1, e1, S1⟩ := S.s0 (z := n) n0 n1 i
  obtain ⟨g2, e2, S2⟩ := S1.s1 (z := n) n0 n1 c
  obtain ⟨g3, e3, S3⟩ := S2.s2 (z := n) n0 n1 w
  obtain ⟨g4, e4, S4⟩ := S3.p5 (n + 1)
  refine ⟨g4, ?_, S4⟩
  unfold F_X5_offer
  rw [S.i.1, Option.bind_some, if_neg (by rw [l_0, iI_lt (by omega) (by omega) (by omega) (by omega)]; omega), Option.bind_some, if_neg (by rw [l_14, iI_le (by omega) (by omega) (by omega) (by omega)]; omega), S.g.1.1, Option.bind_some, Option.bind_some, e1, Option.bind_some, S1.g.1.2.1, Option.bind_some, S1.i.1, Option.bind_some, e2, Option.bind_some, S2.g.1.2.2.1, Option.bind_some, S2.i.1, Option.bind_some, e3, Option.bind_some, S3.i.1, Option.bind_some, l_1, iI_add, e4, Option.bind_some]
theorem c_offerX {n x6 x7 x8 x9 : Int} {f0 f1 f2 f3 f4 : Int → Int} (S : Px G ad P0 h n x6 x7 x8 x9 f0 f1 f2 f3 f4) (n1 : n = 14) (i c w : Int32) : F_X5_offer G h (ad 5 0) i c w = some h := by
  subst n1
  unfold F_X5_offer
  rw [S.i.1, Option.bind_some, if_neg (by decide), Option.bind_some, if_pos (by decide)]
theorem Rl.st41 (R : Rl s v a) {z : Int} (h0 : 0 ≤ z) (h1 : z < 14) (x : Int32) : ∃ s', mst s 41 (iI z) x = some s' ∧ Rl s' v a ∧ mld s' 41 (iI z) = some x ∧ ∀ y : Int, 0 ≤ y → y < 14 → y ≠ z → mld s' 41 (iI y) = mld s 41 (iI y) := by
  have e : (iI z).toNatClampNeg = z.toNat := iI_clamp h0 (by omega)
  have lt : ¬ (iI z < 0 ∨ mlen 41 ≤ z.toNat) := by
    rintro (h | h)
    · rw [l_0, iI_lt (by omega) (by omega) (by omega) (by omega)] at h; omega
    · have : mlen 41 = 14 := rfl
      omega
  refine ⟨mA s 41 z.toNat x, ?_, ⟨R.1, fun k hk i => ?_, R.2.2⟩, ?_, fun y y0 y1 yz => ?_⟩
  · unfold mst
    rw [e, if_neg lt]
  · simp only [mA, if_neg hk]
    exact R.2.1 k hk i
  · unfold mld
    rw [e, if_neg lt]
    simp [mA, upd]
  · have ey : (iI y).toNatClampNeg = y.toNat := iI_clamp y0 (by omega)
    unfold mld
    rw [ey]
    have : (mA s 41 z.toNat x).2.2.1 41 y.toNat = s.2.2.1 41 y.toNat := by
      simp only [mA, if_true, upd]
      exact if_neg (by omega)
    rw [this]
/-- the class: the changes offered -/
theorem c_scan (I : Iv v a) (C : Cc G ad P0 v a el cn) (p0 : 0 ≤ p) (p1 : p < 12) : ∀ (m c : Nat) (h : xH) (x7 x8 x9 : Int) (f0 f1 f2 f3 f4 : Int → Int), (c : Int) ≤ v 33 → v 33 - c < m → Px G ad P0 h (nc a p c : Int) (v 39) x7 x8 x9 f0 f1 f2 f3 f4 → (∀ i : Nat, (i : Int) < v 39 → f4 i = a 40 i) → (∀ j : Nat, j < nc a p c → f0 j = idf a p c j ∧ f1 j = a 35 (idf a p c j) ∧ f2 j = a 36 (idf a p c j)) → ∃ (h' : xH) (g0 g1 g2 : Int → Int) (m' : Nat), F_X10_plan_19 G (ad 10 0) (iI p) m h (iI (c : Int)) = F_X10_plan_19 G (ad 10 0) (iI p) (m' + 1) h' (iI (v 33)) ∧ Px G ad P0 h' (nc a p (v 33).toNat : Int) (v 39) x7 x8 x9 g0 g1 g2 f3 f4 ∧ ∀ j : Nat, j < nc a p (v 33).toNat → g0 j = idf a p (v 33).toNat j ∧ g1 j = a 35 (idf a p (v 33).toNat j) ∧ g2 j = a 36 (idf a p (v 33).toNat j) := by
  have i33 := I.2.2.2.2.2.2.1
  have hch := I.2.2.2.2.2.2.2.2.2.2.2.2.2.2.2.2.1
  intro m
  induction m with
  | zero => intro c h x7 x8 x9 f0 f1 f2 f3 f4 hc hm; omega
  | succ m ih =>
    intro c h x7 x8 x9 f0 f1 f2 f3 f4 hc hm S hf4 hrow
    by_cases q : (c : Int) = v 33
    · have qc : (v 33).toNat = c := by omega
      refine ⟨h, f0, f1, f2, m, by rw [← q], ?_, ?_⟩
      · rw [qc]; exact S
      · rw [qc]; exact hrow
    · obtain ⟨P, R, CC, -⟩ := S.cc C hf4
      have hlt : (c : Int) < v 33 := by omega
      have L := CC.2.1.2.2.2.2.1
      have e1 := L.size R
      have e2 := L.get R (x := (c : Int)) (by omega) hlt (by omega)
      have hH := CC.2.2.2.2.2.2.2.1 (c : Int) (by omega) hlt
      have hh := hch (c : Int) (by omega) hlt
      have n14 := nc_14 a p c
      have eN : iI (c : Int) + 1 = iI ((c + 1 : Nat) : Int) := by rw [l_1, iI_add]; rfl
      have pre : F_X10_plan_19 G (ad 10 0) (iI p) (m + 1) h (iI (c : Int)) = (if iI (a 34 c) = iI p then (if iI (a 37 c) = 0 then (F_X5_offer G h (ad 5 0) (iI (c : Int)) (iI (a 35 c)) (iI (a 36 c))).bind fun h30 => F_X10_plan_19 G (ad 10 0) (iI p) m h30 (iI ((c + 1 : Nat) : Int)) else F_X10_plan_19 G (ad 10 0) (iI p) m h (iI ((c + 1 : Nat) : Int))) else F_X10_plan_19 G (ad 10 0) (iI p) m h (iI ((c + 1 : Nat) : Int))) := by
        conv => lhs; unfold F_X10_plan_19
        rw [R.getR CC.k (j := 4) rfl, Option.bind_some, e1.1, Option.bind_some, e1.2, Option.bind_some, if_neg (by rw [iI_le (by omega) (by omega) (by omega) (by omega)]; omega), Option.bind_some, e1.1, Option.bind_some, e2, Option.bind_some, xk_ok (R.obj hH), R.getI hH (j := 0) rfl, Option.bind_some, R.getI hH (j := 3) rfl, Option.bind_some, R.getR CC.k (j := 6) rfl, Option.bind_some, R.getI hH (j := 1) rfl, Option.bind_some, R.getI hH (j := 2) rfl, Option.bind_some, S.g.2, Option.bind_some, eN]
        rfl
      have go0 : ¬ ((a 34 c = p ∧ a 37 c = 0) ∧ nc a p c < 14) → ∃ (h' : xH) (g0 g1 g2 : Int → Int) (m' : Nat), F_X10_plan_19 G (ad 10 0) (iI p) m h (iI ((c + 1 : Nat) : Int)) = F_X10_plan_19 G (ad 10 0) (iI p) (m' + 1) h' (iI (v 33)) ∧ Px G ad P0 h' (nc a p (v 33).toNat : Int) (v 39) x7 x8 x9 g0 g1 g2 f3 f4 ∧ ∀ j : Nat, j < nc a p (v 33).toNat → g0 j = idf a p (v 33).toNat j ∧ g1 j = a 35 (idf a p (v 33).toNat j) ∧ g2 j = a 36 (idf a p (v 33).toNat j) := by
        intro k
        have k1 : nc a p (c + 1) = nc a p c := if_neg k
        have k2 : idf a p (c + 1) = idf a p c := if_neg k
        refine ih (c + 1) h x7 x8 x9 f0 f1 f2 f3 f4 (by omega) (by omega) (by rw [k1]; exact S) hf4 ?_
        rw [k1, k2]
        exact hrow
      rw [pre]
      by_cases d1 : a 34 c = p
      · rw [if_pos (by rw [d1])]
        by_cases d2 : a 37 c = 0
        · rw [if_pos (by rw [d2]; rfl)]
          by_cases d3 : nc a p c < 14
          · obtain ⟨g1, e3, S1⟩ := c_offer S (by omega) (by omega) (c : Int) (a 35 c) (a 36 c)
            rw [e3, Option.bind_some]
            have k1 : nc a p (c + 1) = nc a p c + 1 := if_pos ⟨⟨d1, d2⟩, d3⟩
            have k2 : idf a p (c + 1) = fu (idf a p c) (nc a p c) c := if_pos ⟨⟨d1, d2⟩, d3⟩
            refine ih (c + 1) g1 x7 x8 x9 _ _ _ f3 f4 (by omega) (by omega) (by rw [k1]; exact S1) hf4 ?_
            rw [k1, k2]
            intro j hj
            by_cases w : (j : Int) = (nc a p c : Int)
            · rw [w, fu_s, fu_s, fu_s, fu_s]; exact ⟨rfl, rfl, rfl⟩
            · rw [fu_n _ w, fu_n _ w, fu_n _ w, fu_n _ w]
              exact hrow j (by omega)
          · rw [c_offerX S (by omega), Option.bind_some]
            exact go0 (fun z => d3 z.2)
        · rw [if_neg (by rw [l_0, iI_eq (by omega) (by omega) (by omega) (by omega)]; exact d2)]
          exact go0 (fun z => d2 z.1.2)
      · rw [if_neg (by
          intro z
          have i15 := I.2.2.2.1
          exact d1 (iI_inj (by omega) (by omega) (by omega) (by omega) z))]
        exact go0 (fun z => d1 z.1.1)
end CAN
