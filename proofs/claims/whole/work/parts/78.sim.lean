/-! the simulation -/
def Mc (G : Nat → Nat) (ad : Nat → Nat → Nat) (P : xP) (s : mS) : Prop := P 19 0 = some (.inr (11, mfs ad s)) ∧ (∀ k, mty k = 2 → P 20 k = some (.inl (G 2, mlen k, .inl (s.2.2.1 k)))) ∧ (∀ k, mty k = 3 → P 20 k = some (.inl (G 3, mlen k, .inl (s.2.2.1 k)))) ∧ (∀ k, mty k = 4 → P 20 k = some (.inl (G 4, mlen k, .inr (.inl (s.2.2.2 k)))))
def Ou (G : Nat → Nat) (P : xP) : Prop := ∃ f, P 23 0 = some (.inl (G 4, 1, .inr (.inl f)))
def Jx (G : Nat → Nat) (x m out : Nat) (h : xH) : Prop := ∃ (ad : Nat → Nat → Nat) (P : xP) (s : mS) (v : Nat → Int) (a : Nat → Int → Int) (el : Int → Int → Int) (cn : Int → Int), (x = ad 10 0 ∧ m = ad 19 0 ∧ out = ad 23 0) ∧ Rep G h ad P ∧ Mc G ad P s ∧ Ou G P ∧ Rl s v a ∧ Iv v a ∧ Cc G ad P v a el cn
/-- the reference's cells and the law's row stay -/
def Fr (ad ad' : Nat → Nat → Nat) (P P' : xP) : Prop := (∀ k i, k = 19 ∨ k = 20 ∨ k = 23 → ad' k i = ad k i ∧ P' k i = P k i) ∧ ad' 10 0 = ad 10 0
theorem Fr.rfl' (ad : Nat → Nat → Nat) (P : xP) : Fr ad ad P P := ⟨fun _ _ _ => ⟨rfl, rfl⟩, rfl⟩
theorem Fr.trans {ad ad' ad'' : Nat → Nat → Nat} {P P' P'' : xP} (F : Fr ad ad' P P') (F' : Fr ad' ad'' P' P'') : Fr ad ad'' P P'' := ⟨fun k i h => ⟨(F'.1 k i h).1.trans (F.1 k i h).1, (F'.1 k i h).2.trans (F.1 k i h).2⟩, F'.2.trans F.2⟩
theorem Fr.up {ad : Nat → Nat → Nat} {P : xP} {k i : Nat} {e : Option va_E} (h : k ≠ 19 ∧ k ≠ 20 ∧ k ≠ 23) : Fr ad ad P (up P k i e) := ⟨fun k' i' h' => ⟨rfl, up_kind _ (by omega)⟩, rfl⟩
theorem Fr.new {ad : Nat → Nat → Nat} {P : xP} {k i b : Nat} {e : Option va_E} (h : k ≠ 19 ∧ k ≠ 20 ∧ k ≠ 23 ∧ k ≠ 10) : Fr ad (Jvm.Pilot.CShareKeeperLaw_law_r6658_4d3c0c.up ad k i b) P (Jvm.Pilot.CShareKeeperLaw_law_r6658_4d3c0c.up P k i e) := ⟨fun k' i' h' => ⟨up_kind _ (by omega), up_kind _ (by omega)⟩, up_kind _ (by omega)⟩
section SIM
variable {G : Nat → Nat} {h h1 : xH} {ad ad1 : Nat → Nat → Nat} {P P1 : xP} {s s' : mS} {v v' : Nat → Int} {a a' : Nat → Int → Int} {el el' : Int → Int → Int} {cn cn' : Int → Int}
theorem Mc.fr (M : Mc G ad P s) (F : Fr ad ad1 P P1) : Mc G ad1 P1 s := by
  obtain ⟨m1, m2, m3, m4⟩ := M
  have e : mfs ad1 s = mfs ad s := by
    unfold mfs
    simp only [(F.1 20 _ (by decide)).1]
  refine ⟨?_, fun k hk => ?_, fun k hk => ?_, fun k hk => ?_⟩
  · rw [(F.1 19 0 (by decide)).2, e]; exact m1
  · rw [(F.1 20 k (by decide)).2]; exact m2 k hk
  · rw [(F.1 20 k (by decide)).2]; exact m3 k hk
  · rw [(F.1 20 k (by decide)).2]; exact m4 k hk
theorem Mc.mx (M : Mc G ad P s) (R : Rep G h ad P) : Mx G ad P h s := ⟨P, R, M.1, M.2.1, M.2.2.1, M.2.2.2, fun _ _ _ _ => rfl⟩
theorem Ls.congr {j kd : Nat} {n : Int} {e : Int → Int} (L : Ls G ad P j kd n e) (h0 : P1 0 j = P 0 j) (h5 : P1 50 j = P 50 j) : Ls G ad P1 j kd n e := by
  unfold Ls at *
  rw [h0, h5]
  exact L
theorem Cc.congr (C : Cc G ad P v a el cn) (hq : ∀ k i, k ≠ 19 → k ≠ 20 → k ≠ 23 → k ≠ 9 → P1 k i = P k i) : Cc G ad P1 v a el cn := by
  obtain ⟨h1, ⟨l0, l1, l2, l3, l4, l5⟩, h2, h3, h4, h5, h6, h7, h8, h9, h10⟩ := C
  have q : ∀ k, k ≠ 19 ∧ k ≠ 20 ∧ k ≠ 23 ∧ k ≠ 9 → ∀ i, P1 k i = P k i := fun k hk i => hq k i hk.1 hk.2.1 hk.2.2.1 hk.2.2.2
  have z0 := q 0 (by decide)
  have z5 := q 50 (by decide)
  refine ⟨?_, ⟨l0.congr (z0 _) (z5 _), l1.congr (z0 _) (z5 _), l2.congr (z0 _) (z5 _), l3.congr (z0 _) (z5 _), l4.congr (z0 _) (z5 _), fun w w0 w1 => (l5 w w0 w1).congr (z0 _) (z5 _)⟩, ?_, ?_, ?_, ?_, ?_, ?_, ?_, ?_, h10⟩
  · unfold cK at *; rw [q 10 (by decide)]; exact h1
  · unfold cS at *; intro w w0 w1; rw [q 7 (by decide), q 71 (by decide), q 72 (by decide)]; exact h2 w w0 w1
  · unfold cO at *; intro w w0 w1; rw [q 8 (by decide), q 83 (by decide), q 84 (by decide)]; exact h3 w w0 w1
  · unfold cP at *; intro w w0 w1; rw [q 6 (by decide), q 64 (by decide)]; exact h4 w w0 w1
  · unfold cT at *; rw [q 4 (by decide), q 40 (by decide)]; exact h5
  · unfold cA at *; intro w w0 w1; rw [q 1 (by decide)]; exact h6 w w0 w1
  · unfold cH at *; intro w w0 w1; rw [q 3 (by decide)]; exact h7 w w0 w1
  · unfold cL at *; rw [q 5 (by decide), q 150 (by decide), q 151 (by decide), q 152 (by decide), q 153 (by decide), q 154 (by decide)]; exact h8
  · unfold cQ at *; rw [q 2 (by decide), q 120 (by decide), q 121 (by decide), q 122 (by decide)]; exact h9
theorem Jmk (F : Fr ad ad1 P P1) (O : Ou G P) (C1 : Cc G ad1 P1 v' a' el' cn') (I1 : Iv v' a') (L1 : Rl s' v' a') (M2 : Mx G ad1 P1 h1 s') : Jx G (ad 10 0) (ad 19 0) (ad 23 0) h1 := by
  obtain ⟨P2, R2, m1, m2, m3, m4, m5⟩ := M2
  refine ⟨ad1, P2, s', v', a', el', cn', ⟨F.2.symm, (F.1 19 0 (by decide)).1.symm, (F.1 23 0 (by decide)).1.symm⟩, R2, ⟨m1, m2, m3, m4⟩, ?_, L1, I1, C1.congr fun k i k1 k2 k3 k4 => m5 k i k1 k2⟩
  unfold Ou
  rw [m5 23 0 (by decide) (by decide), (F.1 23 0 (by decide)).2]
  exact O
theorem Jgo (F : Fr ad ad1 P P1) (M : Mc G ad P s) (O : Ou G P) (R1 : Rep G h1 ad1 P1) (C1 : Cc G ad1 P1 v' a' el' cn') (I1 : Iv v' a') (L1 : Rl s' v' a') {y : Option (Int32 × xH)} {r : Int32} (u : Mx G ad1 P1 h1 s → Go y r (fun h' => Mx G ad1 P1 h' s')) : xc h1 (some (ad 19 0)) 11 = some (ad 19 0) ∧ ∃ h2, y = some (r, h2) ∧ Jx G (ad 10 0) (ad 19 0) (ad 23 0) h2 := by
  have M1 := (M.fr F).mx R1
  obtain ⟨h2, e, M2⟩ := u M1
  have e1 := M1.xc'
  rw [(F.1 19 0 (by decide)).1] at e1
  exact ⟨e1, h2, e, Jmk F O C1 I1 L1 M2⟩
/-- of a call that leaves the class as it was -/
theorem Jgo0 (R : Rep G h ad P) (M : Mc G ad P s) (O : Ou G P) (I : Iv v a) (C : Cc G ad P v a el cn) (L1 : Rl s' v a) {y : Option (Int32 × xH)} {r : Int32} (u : Mx G ad P h s → Go y r (fun h' => Mx G ad P h' s')) : xc h (some (ad 19 0)) 11 = some (ad 19 0) ∧ ∃ h2, y = some (r, h2) ∧ Jx G (ad 10 0) (ad 19 0) (ad 23 0) h2 := Jgo (Fr.rfl' ad P) M O R C I L1 u
theorem some_ne {α : Type} (x : α) : (some x = none) = False := by simp
theorem none_eq {α : Type} : ((none : Option α) = none) = True := by simp
end SIM
theorem js_sum (G : Nat → Nat) (x m out : Nat) (hG : G 1 < G 0) : sJ_sum (fun _ => Jx G x m out) G x m := by
  rintro i h ⟨ad, P, s, v, a, el, cn, ⟨rfl, rfl, rfl⟩, R, M, O, L, I, C⟩ a1 a2 a3 a4
  obtain ⟨w, rfl, w0, w1⟩ := iI_arg a1
  obtain ⟨x, rfl, x0, x1⟩ := iI_arg a2
  obtain ⟨y, rfl, y0, y1⟩ := iI_arg a3
  obtain ⟨k, rfl, k0, k1⟩ := iI_arg a4
  have R0 := L.m0 (iI 0)
  have i1 := I.1
  suffices hs : ∃ r s', F_X10_sum G h (ad 10 0) (iI w) (iI x) (iI y) (iI k) = some r ∧ FM_sum s (iI w) (iI x) (iI y) (iI k) = some (r, s') ∧ Rl s' v a by
    obtain ⟨r, s', e1, e2, L1⟩ := hs
    obtain ⟨q1, h2, q2, q3⟩ := Jgo0 R M O I C L1 (fun M => u_sum M e2)
    exact ⟨r, h, h2, ⟨e1, rfl⟩, q1, q2, q3⟩
  by_cases c1 : 0 ≤ w ∧ w < v 1
  · have ew := c_serviceAt R C c1.1 c1.2 (by omega)
    by_cases c2 : 0 ≤ x ∧ x ≤ y ∧ y ≤ 600
    · have ea := c_asksIn R C hG (w := w) (lo := x) (hi := y) c1.1 c1.2 (by omega) (by omega) (by omega)
      have eb := c_badIn R C hG (w := w) (lo := x) (hi := y) c1.1 c1.2 (by omega) (by omega) (by omega)
      have eo := c_toComeIn R C I (w := w) (lo := x) (hi := y) c1.1 c1.2 (by omega) (by omega) (by omega)
      have em := r_sums R0 I (w := w) (lo := x) (hi := y) (by omega) (by omega) (by omega) (by omega) (by omega) (by omega)
      have hm : max x 0 = x := by omega
      rw [hm] at ea eb em
      have hb := pq_b I w (x := x) (y := y + 1) (by omega) (by omega) (by omega)
      have R2 := R0.sL (pr (qa v a w) (y + 1) - pr (qa v a w) x) (pr (qb v a w) (y + 1) - pr (qb v a w) x) (pr (qo v a w) (y + 1) - pr (qo v a w) x)
      by_cases k2 : k = 0
      · subst k2
        refine ⟨iI (pr (qa v a w) (y + 1) - pr (qa v a w) x), _, ?_, ?_, R2⟩
        rotate_left
        · simp (disch := omega) only [FM_sum, FM_isService, Rl.fd R0 1 (by decide) (by decide), em, sL_12, l_0, l_1, l_2, l_3, l_4, l_5, l_6, l_7, l_8, l_9, l_10, l_12, l_13, l_14, l_15, l_16, l_20, l_21, l_40, l_60, l_78, l_199, l_200, l_300, l_599, l_600, l_601, l_602, l_1000, l_1638, l_10000, l_65536, l_100000, l_1000000, l_m1, L_0, L_1, L_10, L_20, L_1000, L_10000, iI_add, iI_sub, iI_mul, iI_neg, iI_lt, iI_le, iI_eq, iI_max, iI_min, iI_l, jI_i, jI_add, jI_sub, jI_mul, jI_lt, jI_le, jI_eq, kmp_pos, kmp_neg, kmp_le, kmp_ge, if_pos, if_neg, if_true, if_false, true_or, or_true, Option.bind_some, xl, xg]
        · simp (disch := omega) only [F_X10_sum, R.obj C.k, ew.1, ew.2, some_ne, c_within, ea, l_0, l_1, l_2, l_3, l_4, l_5, l_6, l_7, l_8, l_9, l_10, l_12, l_13, l_14, l_15, l_16, l_20, l_21, l_40, l_60, l_78, l_199, l_200, l_300, l_599, l_600, l_601, l_602, l_1000, l_1638, l_10000, l_65536, l_100000, l_1000000, l_m1, L_0, L_1, L_10, L_20, L_1000, L_10000, iI_add, iI_sub, iI_mul, iI_neg, iI_lt, iI_le, iI_eq, iI_max, iI_min, iI_l, jI_i, jI_add, jI_sub, jI_mul, jI_lt, jI_le, jI_eq, kmp_pos, kmp_neg, kmp_le, kmp_ge, if_pos, if_neg, if_true, if_false, true_or, or_true, Option.bind_some, xl, xg]
      · by_cases k3 : k = 1
        · subst k3
          refine ⟨iI (pr (qb v a w) (y + 1) - pr (qb v a w) x), _, ?_, ?_, R2⟩
          rotate_left
          · simp (disch := omega) only [FM_sum, FM_isService, Rl.fd R0 1 (by decide) (by decide), em, sL_13, l_0, l_1, l_2, l_3, l_4, l_5, l_6, l_7, l_8, l_9, l_10, l_12, l_13, l_14, l_15, l_16, l_20, l_21, l_40, l_60, l_78, l_199, l_200, l_300, l_599, l_600, l_601, l_602, l_1000, l_1638, l_10000, l_65536, l_100000, l_1000000, l_m1, L_0, L_1, L_10, L_20, L_1000, L_10000, iI_add, iI_sub, iI_mul, iI_neg, iI_lt, iI_le, iI_eq, iI_max, iI_min, iI_l, jI_i, jI_add, jI_sub, jI_mul, jI_lt, jI_le, jI_eq, kmp_pos, kmp_neg, kmp_le, kmp_ge, if_pos, if_neg, if_true, if_false, true_or, or_true, Option.bind_some, xl, xg]
          · simp (disch := omega) only [F_X10_sum, R.obj C.k, ew.1, ew.2, some_ne, c_within, eb, l_0, l_1, l_2, l_3, l_4, l_5, l_6, l_7, l_8, l_9, l_10, l_12, l_13, l_14, l_15, l_16, l_20, l_21, l_40, l_60, l_78, l_199, l_200, l_300, l_599, l_600, l_601, l_602, l_1000, l_1638, l_10000, l_65536, l_100000, l_1000000, l_m1, L_0, L_1, L_10, L_20, L_1000, L_10000, iI_add, iI_sub, iI_mul, iI_neg, iI_lt, iI_le, iI_eq, iI_max, iI_min, iI_l, jI_i, jI_add, jI_sub, jI_mul, jI_lt, jI_le, jI_eq, kmp_pos, kmp_neg, kmp_le, kmp_ge, if_pos, if_neg, if_true, if_false, true_or, or_true, Option.bind_some, xl, xg]
        · by_cases k4 : k = 2
          · subst k4
            refine ⟨iI (pr (qo v a w) (y + 1) - pr (qo v a w) x), _, ?_, ?_, R2⟩
            rotate_left
            · simp (disch := omega) only [FM_sum, FM_isService, Rl.fd R0 1 (by decide) (by decide), em, sL_14, l_0, l_1, l_2, l_3, l_4, l_5, l_6, l_7, l_8, l_9, l_10, l_12, l_13, l_14, l_15, l_16, l_20, l_21, l_40, l_60, l_78, l_199, l_200, l_300, l_599, l_600, l_601, l_602, l_1000, l_1638, l_10000, l_65536, l_100000, l_1000000, l_m1, L_0, L_1, L_10, L_20, L_1000, L_10000, iI_add, iI_sub, iI_mul, iI_neg, iI_lt, iI_le, iI_eq, iI_max, iI_min, iI_l, jI_i, jI_add, jI_sub, jI_mul, jI_lt, jI_le, jI_eq, kmp_pos, kmp_neg, kmp_le, kmp_ge, if_pos, if_neg, if_true, if_false, true_or, or_true, Option.bind_some, xl, xg]
            · simp (disch := omega) only [F_X10_sum, R.obj C.k, ew.1, ew.2, some_ne, c_within, R.getI C.k (j := 8) rfl, eo, l_0, l_1, l_2, l_3, l_4, l_5, l_6, l_7, l_8, l_9, l_10, l_12, l_13, l_14, l_15, l_16, l_20, l_21, l_40, l_60, l_78, l_199, l_200, l_300, l_599, l_600, l_601, l_602, l_1000, l_1638, l_10000, l_65536, l_100000, l_1000000, l_m1, L_0, L_1, L_10, L_20, L_1000, L_10000, iI_add, iI_sub, iI_mul, iI_neg, iI_lt, iI_le, iI_eq, iI_max, iI_min, iI_l, jI_i, jI_add, jI_sub, jI_mul, jI_lt, jI_le, jI_eq, kmp_pos, kmp_neg, kmp_le, kmp_ge, if_pos, if_neg, if_true, if_false, true_or, or_true, Option.bind_some, xl, xg]
          · refine ⟨iI (-1), _, ?_, ?_, R0⟩
            rotate_left
            · by_cases k5 : k < 0
              · simp (disch := omega) only [FM_sum, FM_isService, Rl.fd R0 1 (by decide) (by decide), l_0, l_1, l_2, l_3, l_4, l_5, l_6, l_7, l_8, l_9, l_10, l_12, l_13, l_14, l_15, l_16, l_20, l_21, l_40, l_60, l_78, l_199, l_200, l_300, l_599, l_600, l_601, l_602, l_1000, l_1638, l_10000, l_65536, l_100000, l_1000000, l_m1, L_0, L_1, L_10, L_20, L_1000, L_10000, iI_add, iI_sub, iI_mul, iI_neg, iI_lt, iI_le, iI_eq, iI_max, iI_min, iI_l, jI_i, jI_add, jI_sub, jI_mul, jI_lt, jI_le, jI_eq, kmp_pos, kmp_neg, kmp_le, kmp_ge, if_pos, if_neg, if_true, if_false, true_or, or_true, Option.bind_some, xl, xg]
              · simp (disch := omega) only [FM_sum, FM_isService, Rl.fd R0 1 (by decide) (by decide), l_0, l_1, l_2, l_3, l_4, l_5, l_6, l_7, l_8, l_9, l_10, l_12, l_13, l_14, l_15, l_16, l_20, l_21, l_40, l_60, l_78, l_199, l_200, l_300, l_599, l_600, l_601, l_602, l_1000, l_1638, l_10000, l_65536, l_100000, l_1000000, l_m1, L_0, L_1, L_10, L_20, L_1000, L_10000, iI_add, iI_sub, iI_mul, iI_neg, iI_lt, iI_le, iI_eq, iI_max, iI_min, iI_l, jI_i, jI_add, jI_sub, jI_mul, jI_lt, jI_le, jI_eq, kmp_pos, kmp_neg, kmp_le, kmp_ge, if_pos, if_neg, if_true, if_false, true_or, or_true, Option.bind_some, xl, xg]
            · simp (disch := omega) only [F_X10_sum, R.obj C.k, ew.1, ew.2, some_ne, c_within, l_0, l_1, l_2, l_3, l_4, l_5, l_6, l_7, l_8, l_9, l_10, l_12, l_13, l_14, l_15, l_16, l_20, l_21, l_40, l_60, l_78, l_199, l_200, l_300, l_599, l_600, l_601, l_602, l_1000, l_1638, l_10000, l_65536, l_100000, l_1000000, l_m1, L_0, L_1, L_10, L_20, L_1000, L_10000, iI_add, iI_sub, iI_mul, iI_neg, iI_lt, iI_le, iI_eq, iI_max, iI_min, iI_l, jI_i, jI_add, jI_sub, jI_mul, jI_lt, jI_le, jI_eq, kmp_pos, kmp_neg, kmp_le, kmp_ge, if_pos, if_neg, if_true, if_false, true_or, or_true, Option.bind_some, xl, xg]
    · refine ⟨iI (-1), _, ?_, ?_, R0⟩
      rotate_left
      · by_cases k5 : k < 0
        · simp (disch := omega) only [FM_sum, FM_isService, Rl.fd R0 1 (by decide) (by decide), l_0, l_1, l_2, l_3, l_4, l_5, l_6, l_7, l_8, l_9, l_10, l_12, l_13, l_14, l_15, l_16, l_20, l_21, l_40, l_60, l_78, l_199, l_200, l_300, l_599, l_600, l_601, l_602, l_1000, l_1638, l_10000, l_65536, l_100000, l_1000000, l_m1, L_0, L_1, L_10, L_20, L_1000, L_10000, iI_add, iI_sub, iI_mul, iI_neg, iI_lt, iI_le, iI_eq, iI_max, iI_min, iI_l, jI_i, jI_add, jI_sub, jI_mul, jI_lt, jI_le, jI_eq, kmp_pos, kmp_neg, kmp_le, kmp_ge, if_pos, if_neg, if_true, if_false, true_or, or_true, Option.bind_some, xl, xg]
        · by_cases k6 : 2 < k
          · simp (disch := omega) only [FM_sum, FM_isService, Rl.fd R0 1 (by decide) (by decide), l_0, l_1, l_2, l_3, l_4, l_5, l_6, l_7, l_8, l_9, l_10, l_12, l_13, l_14, l_15, l_16, l_20, l_21, l_40, l_60, l_78, l_199, l_200, l_300, l_599, l_600, l_601, l_602, l_1000, l_1638, l_10000, l_65536, l_100000, l_1000000, l_m1, L_0, L_1, L_10, L_20, L_1000, L_10000, iI_add, iI_sub, iI_mul, iI_neg, iI_lt, iI_le, iI_eq, iI_max, iI_min, iI_l, jI_i, jI_add, jI_sub, jI_mul, jI_lt, jI_le, jI_eq, kmp_pos, kmp_neg, kmp_le, kmp_ge, if_pos, if_neg, if_true, if_false, true_or, or_true, Option.bind_some, xl, xg]
          · by_cases c3 : x < 0
            · simp (disch := omega) only [FM_sum, FM_isService, Rl.fd R0 1 (by decide) (by decide), l_0, l_1, l_2, l_3, l_4, l_5, l_6, l_7, l_8, l_9, l_10, l_12, l_13, l_14, l_15, l_16, l_20, l_21, l_40, l_60, l_78, l_199, l_200, l_300, l_599, l_600, l_601, l_602, l_1000, l_1638, l_10000, l_65536, l_100000, l_1000000, l_m1, L_0, L_1, L_10, L_20, L_1000, L_10000, iI_add, iI_sub, iI_mul, iI_neg, iI_lt, iI_le, iI_eq, iI_max, iI_min, iI_l, jI_i, jI_add, jI_sub, jI_mul, jI_lt, jI_le, jI_eq, kmp_pos, kmp_neg, kmp_le, kmp_ge, if_pos, if_neg, if_true, if_false, true_or, or_true, Option.bind_some, xl, xg]
            · by_cases c4 : y < x
              · simp (disch := omega) only [FM_sum, FM_isService, Rl.fd R0 1 (by decide) (by decide), l_0, l_1, l_2, l_3, l_4, l_5, l_6, l_7, l_8, l_9, l_10, l_12, l_13, l_14, l_15, l_16, l_20, l_21, l_40, l_60, l_78, l_199, l_200, l_300, l_599, l_600, l_601, l_602, l_1000, l_1638, l_10000, l_65536, l_100000, l_1000000, l_m1, L_0, L_1, L_10, L_20, L_1000, L_10000, iI_add, iI_sub, iI_mul, iI_neg, iI_lt, iI_le, iI_eq, iI_max, iI_min, iI_l, jI_i, jI_add, jI_sub, jI_mul, jI_lt, jI_le, jI_eq, kmp_pos, kmp_neg, kmp_le, kmp_ge, if_pos, if_neg, if_true, if_false, true_or, or_true, Option.bind_some, xl, xg]
              · simp (disch := omega) only [FM_sum, FM_isService, Rl.fd R0 1 (by decide) (by decide), l_0, l_1, l_2, l_3, l_4, l_5, l_6, l_7, l_8, l_9, l_10, l_12, l_13, l_14, l_15, l_16, l_20, l_21, l_40, l_60, l_78, l_199, l_200, l_300, l_599, l_600, l_601, l_602, l_1000, l_1638, l_10000, l_65536, l_100000, l_1000000, l_m1, L_0, L_1, L_10, L_20, L_1000, L_10000, iI_add, iI_sub, iI_mul, iI_neg, iI_lt, iI_le, iI_eq, iI_max, iI_min, iI_l, jI_i, jI_add, jI_sub, jI_mul, jI_lt, jI_le, jI_eq, kmp_pos, kmp_neg, kmp_le, kmp_ge, if_pos, if_neg, if_true, if_false, true_or, or_true, Option.bind_some, xl, xg]
      · by_cases c3 : x < 0
        · simp (disch := omega) only [F_X10_sum, R.obj C.k, ew.1, some_ne, l_0, l_1, l_2, l_3, l_4, l_5, l_6, l_7, l_8, l_9, l_10, l_12, l_13, l_14, l_15, l_16, l_20, l_21, l_40, l_60, l_78, l_199, l_200, l_300, l_599, l_600, l_601, l_602, l_1000, l_1638, l_10000, l_65536, l_100000, l_1000000, l_m1, L_0, L_1, L_10, L_20, L_1000, L_10000, iI_add, iI_sub, iI_mul, iI_neg, iI_lt, iI_le, iI_eq, iI_max, iI_min, iI_l, jI_i, jI_add, jI_sub, jI_mul, jI_lt, jI_le, jI_eq, kmp_pos, kmp_neg, kmp_le, kmp_ge, if_pos, if_neg, if_true, if_false, true_or, or_true, Option.bind_some, xl, xg]
        · simp (disch := omega) only [F_X10_sum, R.obj C.k, ew.1, some_ne, c_within, l_0, l_1, l_2, l_3, l_4, l_5, l_6, l_7, l_8, l_9, l_10, l_12, l_13, l_14, l_15, l_16, l_20, l_21, l_40, l_60, l_78, l_199, l_200, l_300, l_599, l_600, l_601, l_602, l_1000, l_1638, l_10000, l_65536, l_100000, l_1000000, l_m1, L_0, L_1, L_10, L_20, L_1000, L_10000, iI_add, iI_sub, iI_mul, iI_neg, iI_lt, iI_le, iI_eq, iI_max, iI_min, iI_l, jI_i, jI_add, jI_sub, jI_mul, jI_lt, jI_le, jI_eq, kmp_pos, kmp_neg, kmp_le, kmp_ge, if_pos, if_neg, if_true, if_false, true_or, or_true, Option.bind_some, xl, xg]
  · have ew := c_serviceAtX R C w0 w1 (by omega) (by omega) c1
    refine ⟨iI (-1), _, ?_, ?_, R0⟩
    rotate_left
    · by_cases c2 : w < 0
      · simp (disch := omega) only [FM_sum, FM_isService, Rl.fd R0 1 (by decide) (by decide), l_0, l_1, l_2, l_3, l_4, l_5, l_6, l_7, l_8, l_9, l_10, l_12, l_13, l_14, l_15, l_16, l_20, l_21, l_40, l_60, l_78, l_199, l_200, l_300, l_599, l_600, l_601, l_602, l_1000, l_1638, l_10000, l_65536, l_100000, l_1000000, l_m1, L_0, L_1, L_10, L_20, L_1000, L_10000, iI_add, iI_sub, iI_mul, iI_neg, iI_lt, iI_le, iI_eq, iI_max, iI_min, iI_l, jI_i, jI_add, jI_sub, jI_mul, jI_lt, jI_le, jI_eq, kmp_pos, kmp_neg, kmp_le, kmp_ge, if_pos, if_neg, if_true, if_false, true_or, or_true, Option.bind_some, xl, xg]
      · simp (disch := omega) only [FM_sum, FM_isService, Rl.fd R0 1 (by decide) (by decide), l_0, l_1, l_2, l_3, l_4, l_5, l_6, l_7, l_8, l_9, l_10, l_12, l_13, l_14, l_15, l_16, l_20, l_21, l_40, l_60, l_78, l_199, l_200, l_300, l_599, l_600, l_601, l_602, l_1000, l_1638, l_10000, l_65536, l_100000, l_1000000, l_m1, L_0, L_1, L_10, L_20, L_1000, L_10000, iI_add, iI_sub, iI_mul, iI_neg, iI_lt, iI_le, iI_eq, iI_max, iI_min, iI_l, jI_i, jI_add, jI_sub, jI_mul, jI_lt, jI_le, jI_eq, kmp_pos, kmp_neg, kmp_le, kmp_ge, if_pos, if_neg, if_true, if_false, true_or, or_true, Option.bind_some, xl, xg]
    · simp (disch := omega) only [F_X10_sum, R.obj C.k, ew, none_eq, l_0, l_1, l_2, l_3, l_4, l_5, l_6, l_7, l_8, l_9, l_10, l_12, l_13, l_14, l_15, l_16, l_20, l_21, l_40, l_60, l_78, l_199, l_200, l_300, l_599, l_600, l_601, l_602, l_1000, l_1638, l_10000, l_65536, l_100000, l_1000000, l_m1, L_0, L_1, L_10, L_20, L_1000, L_10000, iI_add, iI_sub, iI_mul, iI_neg, iI_lt, iI_le, iI_eq, iI_max, iI_min, iI_l, jI_i, jI_add, jI_sub, jI_mul, jI_lt, jI_le, jI_eq, kmp_pos, kmp_neg, kmp_le, kmp_ge, if_pos, if_neg, if_true, if_false, true_or, or_true, Option.bind_some, xl, xg]
