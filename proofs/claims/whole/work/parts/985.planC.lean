/-! the worths added up, the choice kept -/
theorem sfx_f (f : Nat → Int) (i : Nat) : ∀ j, sfx f i (j + 1) = f i + sfx f (i + 1) j := by
  intro j
  induction j with
  | zero => simp [sfx]
  | succ j ih =>
    have e : sfx f i (j + 1 + 1) = sfx f i (j + 1) + f (i + (j + 1)) := rfl
    have e2 : sfx f (i + 1) (j + 1) = sfx f (i + 1) j + f (i + 1 + j) := rfl
    have e3 : i + (j + 1) = i + 1 + j := by omega
    rw [e, ih, e2, e3]
    omega
/-- the row of chosen ones, over the first i items -/
def chs (N M : Nat) (id : Nat → Int) (g : Int → Int) : Nat → Int → Int
  | 0 => g
  | i + 1 => if M / 2 ^ (N - 1 - i) % 2 = 1 then fu (chs N M id g i) (tot one1 i (M / 2 ^ (N - i))) (id i) else chs N M id g i
theorem tot_1 {N M i : Nat} (hi : i < N) (f : Nat → Int) : tot f (i + 1) (M / 2 ^ (N - (i + 1))) = tot f i (M / 2 ^ (N - i)) + if M / 2 ^ (N - 1 - i) % 2 = 1 then f i else 0 := by
  have e : N - (i + 1) = N - 1 - i := by omega
  rw [tot_s, ← div_step hi, e]
theorem chs_eq {N M : Nat} {id : Nat → Int} {g g' : Int → Int} : ∀ i, i ≤ N → ∀ k, 0 ≤ k → k < tot one1 i (M / 2 ^ (N - i)) → chs N M id g i k = chs N M id g' i k := by
  intro i
  induction i with
  | zero => intro _ k k0 k1; exact absurd k1 (by simp [tot]; omega)
  | succ i ih =>
    intro hi k k0 k1
    rw [tot_1 (by omega)] at k1
    have o1 : one1 i = 1 := rfl
    unfold chs
    by_cases b : M / 2 ^ (N - 1 - i) % 2 = 1
    · rw [if_pos b, if_pos b]
      rw [if_pos b, o1] at k1
      by_cases q : k = tot one1 i (M / 2 ^ (N - i))
      · rw [q, fu_s, fu_s]
      · rw [fu_n _ q, fu_n _ q]
        exact ih (by omega) k k0 (by omega)
    · rw [if_neg b, if_neg b]
      rw [if_neg b] at k1
      exact ih (by omega) k k0 (by omega)
section KEE
variable {G : Nat → Nat} {h : xH} {ad : Nat → Nat → Nat} {P0 : xP} {x6 x7 x8 x9 : Int} {f0 f1 f2 f3 f4 : Int → Int} {N : Nat} {wt ct : Nat → Int} {rm : Int}
theorem c_addUp (C : Cb N wt ct) (h2 : ∀ j : Nat, j < N → f2 j = wt j) (S : Px G ad P0 h (N : Int) x6 x7 x8 x9 f0 f1 f2 f3 f4) : ∃ h' f3', F_X5_addUpWorths G h (ad 5 0) = some h' ∧ Px G ad P0 h' (N : Int) x6 x7 x8 x9 f0 f1 f2 f3' f4 ∧ ∀ i j : Nat, i < N → i + j = N → f3' i = sfx wt i j := by
  have N14 := C.1
  have loop : ∀ (q m : Nat) (g : xH) (f : Int → Int), q ≤ 14 → Px G ad P0 g (N : Int) x6 x7 x8 x9 f0 f1 f2 f f4 → (∀ i : Nat, i < N → q ≤ i → f i = sfx wt i (N - i)) → q < m → ∃ h' f3', F_X5_addUpWorths_5 G (ad 5 0) m g (iI (sfx wt q (N - q))) (iI ((q : Int) - 1)) = some h' ∧ Px G ad P0 h' (N : Int) x6 x7 x8 x9 f0 f1 f2 f3' f4 ∧ ∀ i : Nat, i < N → f3' i = sfx wt i (N - i) := by
    intro q
    induction q with
    | zero =>
      intro m g f hq S1 hf hm
      obtain ⟨m, rfl⟩ : ∃ m', m = m' + 1 := ⟨m - 1, by omega⟩
      refine ⟨g, f, ?_, S1, fun i hi => hf i hi (by omega)⟩
      unfold F_X5_addUpWorths_5
      rw [if_pos (by decide)]
    | succ q ih =>
      intro m g f hq S1 hf hm
      obtain ⟨m, rfl⟩ : ∃ m', m = m' + 1 := ⟨m - 1, by omega⟩
      have eq : ((q + 1 : Nat) : Int) - 1 = (q : Int) := by omega
      have em : iI (q : Int) + (-1) = iI ((q : Int) - 1) := by rw [l_m1, iI_add]; rfl
      rw [eq]
      by_cases c : N ≤ q
      · have e0 : N - (q + 1) = 0 := by omega
        have e1 : N - q = 0 := by omega
        obtain ⟨g2, e2, S2⟩ := S1.s3 (z := (q : Int)) (by omega) (by omega) (sfx wt (q + 1) (N - (q + 1)))
        obtain ⟨h', f3', k1, k2, k3⟩ := ih m g2 _ (by omega) S2 (fun i hi hqi => by omega) (by omega)
        refine ⟨h', f3', ?_, k2, k3⟩
        rw [← k1]
        conv => lhs; unfold F_X5_addUpWorths_5
        rw [if_neg (by rw [l_0, iI_lt (by omega) (by omega) (by omega) (by omega)]; omega), S1.i.1, Option.bind_some, if_pos (by rw [iI_le (by omega) (by omega) (by omega) (by omega)]; omega), S1.g.1.2.2.2.1, Option.bind_some, e2, Option.bind_some, em, e0, e1]
        rfl
      · have e0 : N - q = (N - (q + 1)) + 1 := by omega
        have es : sfx wt (q + 1) (N - (q + 1)) + wt q = sfx wt q (N - q) := by rw [e0, sfx_f]; omega
        have l2 := S1.l2 (z := (q : Int)) (by omega) (by omega)
        rw [h2 q (by omega)] at l2
        obtain ⟨g2, e2, S2⟩ := S1.s3 (z := (q : Int)) (by omega) (by omega) (sfx wt q (N - q))
        obtain ⟨h', f3', k1, k2, k3⟩ := ih m g2 _ (by omega) S2 (fun i hi hqi => by
          by_cases z : i = q
          · subst z; rw [fu_s]
          · rw [fu_n _ (by omega)]; exact hf i hi (by omega)) (by omega)
        refine ⟨h', f3', ?_, k2, k3⟩
        rw [← k1]
        conv => lhs; unfold F_X5_addUpWorths_5
        rw [if_neg (by rw [l_0, iI_lt (by omega) (by omega) (by omega) (by omega)]; omega), S1.i.1, Option.bind_some, if_neg (by rw [iI_le (by omega) (by omega) (by omega) (by omega)]; omega), S1.g.1.2.2.1, Option.bind_some, l2, Option.bind_some, iI_add, es]
        unfold xl
        dsimp only
        rw [S1.g.1.2.2.2.1, Option.bind_some, e2, Option.bind_some, em]
  obtain ⟨h', f3', k1, k2, k3⟩ := loop 14 xN h f3 (by omega) S (fun i hi hq => by omega) (by unfold xN; omega)
  have e0 : N - 14 = 0 := by omega
  rw [e0] at k1
  refine ⟨h', f3', k1, k2, fun i j hi hj => ?_⟩
  have := k3 i hi
  rw [this]
  congr 1; omega
theorem c_keep (N14 : N ≤ 14) {M : Nat} {id : Nat → Int} (h0 : ∀ j : Nat, j < N → f0 j = id j) (S : Px G ad P0 h (N : Int) x6 (cm N M : Int) x8 x9 f0 f1 f2 f3 f4) : ∃ h', F_X5_keepBest G h (ad 5 0) = some h' ∧ Px G ad P0 h' (N : Int) (tot one1 N M) (cm N M : Int) x8 x9 f0 f1 f2 f3 (chs N M id f4 N) := by
  have ob : ∀ i A, 0 ≤ tot one1 i A ∧ tot one1 i A ≤ i := fun i A => by
    have a1 := tot_nn (f := one1) i A (fun j hj => Int.zero_le_ofNat 1)
    have a2 := tot_le (f := one1) (c := 1) (by omega) i A (fun j hj => Int.le_refl 1)
    omega
  have loop : ∀ (m i : Nat) (g : xH), i ≤ N → Px G ad P0 g (N : Int) (tot one1 i (M / 2 ^ (N - i))) (cm N M : Int) x8 x9 f0 f1 f2 f3 (chs N M id f4 i) → N - i < m → ∃ h', F_X5_keepBest_7 G (ad 5 0) m g (iI (i : Int)) = some h' ∧ Px G ad P0 h' (N : Int) (tot one1 N M) (cm N M : Int) x8 x9 f0 f1 f2 f3 (chs N M id f4 N) := by
    intro m
    induction m with
    | zero => intro i g hi _ hm; omega
    | succ m ih =>
      intro i g hi S1 hm
      by_cases c : i = N
      · subst c
        have e0 : M / 2 ^ (i - i) = M := by rw [Nat.sub_self, Nat.pow_zero, Nat.div_one]
        rw [e0] at S1
        refine ⟨g, ?_, S1⟩
        unfold F_X5_keepBest_7
        rw [S1.i.1, Option.bind_some, if_pos (by rw [iI_le (by omega) (by omega) (by omega) (by omega)]; omega)]
      · have hi' : i < N := by omega
        have t1 := tot_1 (M := M) hi' one1
        have o1 : one1 i = 1 := rfl
        have bo := ob i (M / 2 ^ (N - i))
        have ac := and_cm (M := M) N14 hi'
        have ei : iI (i : Int) + 1 = iI ((i + 1 : Nat) : Int) := by rw [l_1, iI_add]; rfl
        have pre : F_X5_keepBest_7 G (ad 5 0) (m + 1) g (iI (i : Int)) = (if (iI (cm N M : Int) &&& ((1 : Int32) <<< (iI (i : Int) &&& 31))) = 0 then F_X5_keepBest_7 G (ad 5 0) m g (iI ((i + 1 : Nat) : Int)) else (stI 2 G g (some (ad 154 0)) (iI (tot one1 i (M / 2 ^ (N - i)))) (iI (id i))).bind fun h15 => (gI h15 (some (ad 5 0)) 5 6).bind fun v16 => (xp G h15 (some (ad 5 0)) 5 6 (.int (v16 + 1))).bind fun h17 => F_X5_keepBest_7 G (ad 5 0) m h17 (iI ((i + 1 : Nat) : Int))) := by
          have l0 := S1.l0 (z := (i : Int)) (by omega) (by omega)
          rw [h0 i hi'] at l0
          conv => lhs; unfold F_X5_keepBest_7
          rw [S1.i.1, Option.bind_some, if_neg (by rw [iI_le (by omega) (by omega) (by omega) (by omega)]; omega), if_neg (by rw [l_14, iI_le (by omega) (by omega) (by omega) (by omega)]; omega), S1.i.2.2.1, Option.bind_some, S1.i.2.1, Option.bind_some, if_neg (show ¬ (14 : Int32) ≤ iI (tot one1 i (M / 2 ^ (N - i))) by rw [l_14, iI_le (by omega) (by omega) (by omega) (by omega)]; omega), S1.g.1.2.2.2.2, Option.bind_some, Option.bind_some, S1.g.1.1, Option.bind_some, l0, Option.bind_some, ei]
          rfl
        rw [pre]
        by_cases b : inn N M i
        · rw [if_neg (fun z => ac.mp z b)]
          obtain ⟨g2, e2, S2⟩ := S1.s4 (z := tot one1 i (M / 2 ^ (N - i))) bo.1 (by omega) (id i)
          obtain ⟨g3, e3, S3⟩ := S2.p6 (tot one1 i (M / 2 ^ (N - i)) + 1)
          rw [e2, Option.bind_some, S2.i.2.1, Option.bind_some, l_1, iI_add, e3, Option.bind_some]
          unfold inn at b
          refine ih (i + 1) g3 (by omega) ?_ (by omega)
          rw [t1, if_pos b, o1]
          have ec : chs N M id f4 (i + 1) = fu (chs N M id f4 i) (tot one1 i (M / 2 ^ (N - i))) (id i) := if_pos b
          rw [ec]
          exact S3
        · rw [if_pos (ac.mpr b)]
          unfold inn at b
          refine ih (i + 1) g (by omega) ?_ (by omega)
          rw [t1, if_neg b, Int.add_zero]
          have ec : chs N M id f4 (i + 1) = chs N M id f4 i := if_neg b
          rw [ec]
          exact S1
  obtain ⟨g, e, S1⟩ := S.p6 0
  obtain ⟨h', k1, k2⟩ := loop xN 0 g (by omega) S1 (by unfold xN; omega)
  refine ⟨h', ?_, k2⟩
  unfold F_X5_keepBest
  have e' : xp G h (some (ad 5 0)) 5 6 (.int 0) = some g := e
  rw [e', Option.bind_some]
  exact k1
theorem c_plchoose (C : Cb N wt ct) {id : Nat → Int} (h0 : ∀ j : Nat, j < N → f0 j = id j) (h1 : ∀ j : Nat, j < N → f1 j = ct j) (h2 : ∀ j : Nat, j < N → f2 j = wt j) (r0 : -100000000 ≤ rm) (r1 : rm ≤ 100000000) (S : Px G ad P0 h (N : Int) x6 x7 x8 x9 f0 f1 f2 f3 f4) : ∃ h' M f3', F_X5_choose G h (ad 5 0) (iI rm) = some (iI (tot wt N M), h') ∧ Px G ad P0 h' (N : Int) (tot one1 N M) (cm N M : Int) (tot one1 N M) (tot wt N M) f0 f1 f2 f3' (chs N M id f4 N) ∧ ((rm < 0 ∧ M = 0) ∨ (0 ≤ rm ∧ Op N wt ct rm (2 ^ N) M)) := by
  obtain ⟨g1, e1, S1⟩ := S.p7 0
  obtain ⟨g2, e2, S2⟩ := S1.p8 0
  obtain ⟨g3, e3, S3⟩ := S2.p9 0
  have e1' : xp G h (some (ad 5 0)) 5 7 (.int 0) = some g1 := e1
  have e2' : xp G g1 (some (ad 5 0)) 5 8 (.int 0) = some g2 := e2
  have e3' : xp G g2 (some (ad 5 0)) 5 9 (.int 0) = some g3 := e3
  have cm0 : cm N 0 = 0 := by unfold cm; rw [tot_0]; rfl
  have Sb : Pb G ad P0 g3 x6 f0 f1 f2 f3 f4 N wt 0 := by
    unfold Pb
    rw [tot_0, tot_0, cm0]
    exact S3
  unfold F_X5_choose
  rw [e1', Option.bind_some, e2', Option.bind_some, e3', Option.bind_some]
  by_cases c : rm < 0
  · rw [if_pos (by rw [l_0, iI_lt (by omega) (by omega) (by omega) (by omega)]; exact c), S3.g.2, Option.bind_some]
    obtain ⟨g4, e4, S4⟩ := c_keep C.1 h0 Sb
    refine ⟨g4, 0, f3, ?_, S4, Or.inl ⟨c, rfl⟩⟩
    rw [e4, Option.bind_some, S4.i.2.2.2.2, Option.bind_some]
  · rw [if_neg (by rw [l_0, iI_lt (by omega) (by omega) (by omega) (by omega)]; exact c), S3.g.2, Option.bind_some]
    obtain ⟨g4, f3', e4, S4, hf3⟩ := c_addUp C h2 S3
    have Sb4 : Pb G ad P0 g4 x6 f0 f1 f2 f3' f4 N wt 0 := by
      unfold Pb
      rw [tot_0, tot_0, cm0]
      exact S4
    have hpz : 0 < 2 ^ N := Nat.two_pow_pos N
    obtain ⟨g5, M, k1, k2, k3, k4, k5, k6⟩ := c_explore C h1 h2 hf3 (show 0 ≤ rm by omega) r1 N 16 0 0 g4 0 (by omega) (by have := C.1; omega) (by simp) (show (0 : Int) ≤ rm by omega) Sb4 hpz (by rw [tot_0]; omega) (fun M hM hX hf => by
      rw [Nat.zero_add, Nat.one_mul] at hX
      omega) (fun M hM hA hf hw ho => by
      rw [tot_0] at ho
      have := one_eq 0 N M (by rw [Nat.zero_add]; exact ho)
      rw [hA, Nat.zero_mul] at this
      omega)
    have k1' : F_X5_explore 16 G g4 (ad 5 0) 0 0 (iI rm) 0 = some g5 := by
      have e : rm - tot ct 0 0 = rm := Int.sub_zero rm
      rw [e] at k1
      exact k1
    obtain ⟨g6, e6, S6⟩ := c_keep C.1 h0 k2
    refine ⟨g6, M, f3', ?_, S6, Or.inr ⟨by omega, k3, k4, fun Y hY hf => k6 Y hY (by simp) hf⟩⟩
    rw [e4, Option.bind_some, S4.g.2, Option.bind_some, k1', Option.bind_some, k2.g.2, Option.bind_some, e6, Option.bind_some, S6.i.2.2.2.2, Option.bind_some]
end KEE
/-! the reference keeps its choice -/
def sb (a : Nat → Int → Int) (g : Int → Int) : Nat → Int → Int := fun k z => if k = 40 then g z else a k z
section KER
variable {s : mS} {v : Nat → Int} {a : Nat → Int → Int} {N : Nat} {id : Nat → Int}
theorem Rl.st40 (R : Rl s v a) {z w : Int} (h0 : 0 ≤ z) (h1 : z < 14) : ∃ s', mst s 40 (iI z) (iI w) = some s' ∧ Rl s' v (ta a 40 z w) ∧ ∀ x, mld s' 41 x = mld s 41 x := by
  obtain ⟨s', e, R'⟩ := R.st 40 14 (by decide) rfl (z := z) (w := w) h0 h1
  refine ⟨s', e, R', fun x => ?_⟩
  unfold mst at e
  split at e
  · cases e
  · cases e
    rfl
theorem sb_ta (a : Nat → Int → Int) (g : Int → Int) (z w : Int) : ta (sb a g) 40 z w = sb a (fu g z w) := by
  funext k y
  unfold ta sb fu
  by_cases q : k = 40
  · by_cases q2 : y = z
    · rw [if_pos ⟨q, q2⟩, if_pos q, if_pos q2]
    · rw [if_neg (fun h => q2 h.2), if_pos q, if_pos q, if_neg q2]
  · rw [if_neg (fun h => q h.1), if_neg q, if_neg q]
theorem sb_self (a : Nat → Int → Int) : sb a (a 40) = a := by
  funext k y
  unfold sb
  by_cases q : k = 40
  · rw [if_pos q, q]
  · rw [if_neg q]
theorem tv_tv (v : Nat → Int) (k : Nat) (x y : Int) : tv (tv v k x) k y = tv v k y := by
  funext j
  unfold tv
  by_cases q : j = k
  · rw [if_pos q, if_pos q]
  · rw [if_neg q, if_neg q, if_neg q]
theorem r_257 (N14 : N ≤ 14) {M : Nat} (hM : M < 2 ^ N) (w : Int32) : ∀ (m i : Nat) (s : mS), i ≤ N → Rl s (tv v 39 (tot one1 i (M / 2 ^ (N - i)))) (sb a (chs N M id (a 40) i)) → (∀ j, j < N → mld s 41 (iI (j : Int)) = some (iI (id j))) → N - i < m → ∃ s', FM_plan_257 (iI (N : Int)) (iI (M : Int)) w m s (iI (i : Int)) = some (w, s') ∧ Rl s' (tv v 39 (tot one1 N M)) (sb a (chs N M id (a 40) N)) := by
  have ob : ∀ i A, 0 ≤ tot one1 i A ∧ tot one1 i A ≤ i := fun i A => by
    have a1 := tot_nn (f := one1) i A (fun j hj => Int.zero_le_ofNat 1)
    have a2 := tot_le (f := one1) (c := 1) (by omega) i A (fun j hj => Int.le_refl 1)
    omega
  intro m
  induction m with
  | zero => intro i s hi _ _ hm; omega
  | succ m ih =>
    intro i s hi R hQ hm
    by_cases c : i = N
    · subst c
      have e0 : M / 2 ^ (i - i) = M := by rw [Nat.sub_self, Nat.pow_zero, Nat.div_one]
      rw [e0] at R
      refine ⟨s, ?_, R⟩
      unfold FM_plan_257
      rw [if_pos (by rw [iI_le (by omega) (by omega) (by omega) (by omega)]; omega)]
    · have hi' : i < N := by omega
      have t1 := tot_1 (M := M) hi' one1
      have o1 : one1 i = 1 := rfl
      have bo := ob i (M / 2 ^ (N - i))
      have sbb := shr_M (n := N) (M := M) (j := i) N14 hi' hM
      have ei : iI (i : Int) + 1 = iI ((i + 1 : Nat) : Int) := by rw [l_1, iI_add]; rfl
      have f39 : s.1 39 = iI (tot one1 i (M / 2 ^ (N - i))) := by
        have := R.fd 39 (by decide) (by decide)
        rw [tv_s] at this
        exact this
      by_cases b : inn N M i
      · obtain ⟨s2, e2, R2, q2⟩ := R.st40 (z := tot one1 i (M / 2 ^ (N - i))) (w := id i) bo.1 (by omega)
        have R3 := R2.mI 39 (tot one1 i (M / 2 ^ (N - i)) + 1)
        rw [tv_tv, sb_ta] at R3
        have f39' : s2.1 39 = iI (tot one1 i (M / 2 ^ (N - i))) := by
          have := R2.fd 39 (by decide) (by decide)
          rw [tv_s] at this
          exact this
        have b' := b
        unfold inn at b'
        have ec : chs N M id (a 40) (i + 1) = fu (chs N M id (a 40) i) (tot one1 i (M / 2 ^ (N - i))) (id i) := if_pos b'
        obtain ⟨s3, k1, k2⟩ := ih (i + 1) (mI s2 39 (iI (tot one1 i (M / 2 ^ (N - i)) + 1))) (by omega) (by
          rw [t1, if_pos b', o1, ec]
          exact R3) (fun j hj => (q2 _).trans (hQ j hj)) (by omega)
        refine ⟨s3, ?_, k2⟩
        rw [← k1]
        conv => lhs; unfold FM_plan_257
        rw [if_neg (by rw [iI_le (by omega) (by omega) (by omega) (by omega)]; omega), if_pos (sbb.mpr b), hQ i hi', Option.bind_some, f39, e2, Option.bind_some, f39', l_1, iI_add]
        unfold xl
        dsimp only
        rw [← l_1, ei]
      · have b' := b
        unfold inn at b'
        have ec : chs N M id (a 40) (i + 1) = chs N M id (a 40) i := if_neg b'
        obtain ⟨s3, k1, k2⟩ := ih (i + 1) s (by omega) (by
          rw [t1, if_neg b', Int.add_zero, ec]
          exact R) hQ (by omega)
        refine ⟨s3, ?_, k2⟩
        rw [← k1]
        conv => lhs; unfold FM_plan_257
        rw [if_neg (by rw [iI_le (by omega) (by omega) (by omega) (by omega)]; omega), if_neg (fun z => b (sbb.mp z)), ei]
        rfl
end KER
