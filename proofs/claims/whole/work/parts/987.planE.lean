/-! plan -/
section PLQ
variable {G : Nat → Nat} {h : xH} {ad : Nat → Nat → Nat} {P P0 : xP} {v : Nat → Int} {a : Nat → Int → Int} {el : Int → Int → Int} {cn : Int → Int} {p : Int}
/-- the reference: the candidates -/
theorem r_scan (I : Iv v a) (p0 : 0 ≤ p) (p1 : p < 12) : ∀ (m c : Nat) (s : mS), (c : Int) ≤ v 33 → v 33 - c < m → Rl s v a → (∀ j : Nat, j < nc a p c → mld s 41 (iI (j : Int)) = some (iI (idf a p c j))) → ∃ s', FM_plan_19 (iI p) m s (iI (nc a p c : Int)) (iI (c : Int)) = ((FM_room s' (iI p)).bind fun (v6, s7) => FM_plan_86 s7 (iI (nc a p (v 33).toNat : Int)) v6 xN 0 0 0 1) ∧ Rl s' v a ∧ ∀ j : Nat, j < nc a p (v 33).toNat → mld s' 41 (iI (j : Int)) = some (iI (idf a p (v 33).toNat j)) := by
  have i33 := I.2.2.2.2.2.2.1
  have i15 := I.2.2.2.1
  have hch := I.2.2.2.2.2.2.2.2.2.2.2.2.2.2.2.2.1
  intro m
  induction m with
  | zero => intro c s hc hm; omega
  | succ m ih =>
    intro c s hc hm R hQ
    have n14 := nc_14 a p c
    by_cases q : (c : Int) = v 33
    · have qc : (v 33).toNat = c := by omega
      refine ⟨s, ?_, R, by rw [qc]; exact hQ⟩
      rw [qc]
      unfold FM_plan_19
      rw [R.fd 33 (by decide) (by decide), if_pos (by rw [iI_le (by omega) (by omega) (by omega) (by omega)]; omega)]
    · by_cases q2 : nc a p c = 14
      · have nf := nc_full a p q2 ((v 33).toNat - c)
        have e0 : c + ((v 33).toNat - c) = (v 33).toNat := by omega
        rw [e0] at nf
        refine ⟨s, ?_, R, fun j hj => ?_⟩
        · rw [nf.1, ← q2]
          unfold FM_plan_19
          rw [R.fd 33 (by decide) (by decide), if_neg (by rw [iI_le (by omega) (by omega) (by omega) (by omega)]; omega), if_pos (by rw [l_14, iI_le (by omega) (by omega) (by omega) (by omega)]; omega)]
        · rw [nf.2]; exact hQ j (by omega)
      · have hlt : (c : Int) < v 33 := by omega
        have hh := hch (c : Int) (by omega) hlt
        have eN : iI (c : Int) + 1 = iI ((c + 1 : Nat) : Int) := by rw [l_1, iI_add]; rfl
        have eM : iI (nc a p c : Int) + 1 = iI ((nc a p c + 1 : Nat) : Int) := by rw [l_1, iI_add]; rfl
        have pre : FM_plan_19 (iI p) (m + 1) s (iI (nc a p c : Int)) (iI (c : Int)) = (if iI (a 34 c) = iI p then (if iI (a 37 c) = 0 then (mst s 41 (iI (nc a p c : Int)) (iI (c : Int))).bind fun s80 => FM_plan_19 (iI p) m s80 (iI ((nc a p c + 1 : Nat) : Int)) (iI ((c + 1 : Nat) : Int)) else FM_plan_19 (iI p) m s (iI (nc a p c : Int)) (iI ((c + 1 : Nat) : Int))) else FM_plan_19 (iI p) m s (iI (nc a p c : Int)) (iI ((c + 1 : Nat) : Int))) := by
          conv => lhs; unfold FM_plan_19
          rw [R.fd 33 (by decide) (by decide), if_neg (by rw [iI_le (by omega) (by omega) (by omega) (by omega)]; omega), if_neg (by rw [l_14, iI_le (by omega) (by omega) (by omega) (by omega)]; omega), Rl.ld R 34 40 (by decide) rfl (by omega) (by omega), Option.bind_some, Rl.ld R 37 40 (by decide) rfl (by omega) (by omega), Option.bind_some, eN, eM]
          rfl
        have go0 : ¬ ((a 34 c = p ∧ a 37 c = 0) ∧ nc a p c < 14) → ∃ s', FM_plan_19 (iI p) m s (iI (nc a p c : Int)) (iI ((c + 1 : Nat) : Int)) = ((FM_room s' (iI p)).bind fun (v6, s7) => FM_plan_86 s7 (iI (nc a p (v 33).toNat : Int)) v6 xN 0 0 0 1) ∧ Rl s' v a ∧ ∀ j : Nat, j < nc a p (v 33).toNat → mld s' 41 (iI (j : Int)) = some (iI (idf a p (v 33).toNat j)) := by
          intro k
          have k1 : nc a p (c + 1) = nc a p c := if_neg k
          have k2 : idf a p (c + 1) = idf a p c := if_neg k
          have := ih (c + 1) s (by omega) (by omega) R (by rw [k1, k2]; exact hQ)
          rw [k1] at this
          exact this
        rw [pre]
        by_cases d1 : a 34 c = p
        · rw [if_pos (by rw [d1])]
          by_cases d2 : a 37 c = 0
          · rw [if_pos (by rw [d2]; rfl)]
            obtain ⟨s2, e2, R2, w2, w3⟩ := R.st41 (z := (nc a p c : Int)) (by omega) (by omega) (iI (c : Int))
            rw [e2, Option.bind_some]
            have k1 : nc a p (c + 1) = nc a p c + 1 := if_pos ⟨⟨d1, d2⟩, by omega⟩
            have k2 : idf a p (c + 1) = fu (idf a p c) (nc a p c) c := if_pos ⟨⟨d1, d2⟩, by omega⟩
            have := ih (c + 1) s2 (by omega) (by omega) R2 (by
              rw [k1, k2]
              intro j hj
              by_cases w : (j : Int) = (nc a p c : Int)
              · rw [w, fu_s]; exact w2
              · rw [fu_n _ w, w3 j (by omega) (by omega) w]
                exact hQ j (by omega))
            rw [k1] at this
            exact this
          · rw [if_neg (by rw [l_0, iI_eq (by omega) (by omega) (by omega) (by omega)]; exact d2)]
            exact go0 (fun z => d2 z.1.2)
        · rw [if_neg (fun z => d1 (iI_inj (by omega) (by omega) (by omega) (by omega) z))]
          exact go0 (fun z => d1 z.1.1)
end PLQ
theorem js_plan (G : Nat → Nat) (x m out : Nat) : sJ_plan (fun _ => Jx G x m out) G x m := by
  rintro i h ⟨ad, P, s, v, a, el, cn, ⟨rfl, rfl, rfl⟩, R, M, O, L, I, C⟩ a1
  obtain ⟨p, rfl, p0, p1⟩ := iI_arg a1
  have R0 := L.m0 (iI 0)
  have i15 := I.2.2.2.1
  have i33 := I.2.2.2.2.2.2.1
  have i39 := I.2.2.2.2.2.2.2.1
  have hch := I.2.2.2.2.2.2.2.2.2.2.2.2.2.2.2.2.1
  by_cases c1 : 0 ≤ p ∧ p < v 15
  · have ew := c_promiseAt R C c1.1 c1.2 (by omega)
    obtain ⟨n5, x7, x8, x9, f0, f1, f2, f3, f4, S0, hf4⟩ := Px.of R C
    have S0' : Px G ad P h n5 (v 39) x7 x8 x9 f0 f1 f2 f3 (fun z => if z < v 39 then a 40 z else f4 z) := S0.fix (fun i => by
      by_cases q : (i : Int) < v 39
      · rw [if_pos q]; exact hf4 i q
      · rw [if_neg q])
    obtain ⟨g1, e1, S1⟩ := S0'.p5 0
    obtain ⟨g2, y0, y1, y2, m2, e2, S2, hrow⟩ := c_scan (p := p) I C c1.1 (by omega) xN 0 g1 x7 x8 x9 f0 f1 f2 f3 _ (by omega) (by unfold xN; omega) S1 (fun i hi => if_pos hi) (fun j hj => absurd hj (Nat.not_lt_zero _))
    obtain ⟨s2, k2, R2, Q2⟩ := r_scan (p := p) I c1.1 (by omega) xN 0 (mI s 0 (iI 0)) (by omega) (by unfold xN; omega) R0 (fun j hj => absurd hj (Nat.not_lt_zero _))
    obtain ⟨s3, k3, R3, z3⟩ := r_room R2 I c1.1 c1.2
    have rb := rm_b I c1.1 c1.2
    have n14 := nc_14 a p (v 33).toNat
    have ib := idf_b a p (v 33).toNat
    obtain ⟨P2, RR, CC, -⟩ := S2.cc C (fun i hi => if_pos hi)
    have er := c_roomOf RR CC I c1.1 c1.2
    have e1s := CC.2.1.2.2.2.2.1.size RR
    have CB : Cb (nc a p (v 33).toNat) (fun j => a 36 (idf a p (v 33).toNat j)) (fun j => a 35 (idf a p (v 33).toNat j)) := by
      refine ⟨n14, fun j hj => ?_⟩
      have h1 := ib j hj
      have h2 := hch (idf a p (v 33).toNat j) h1.1 (by omega)
      dsimp only
      omega
    obtain ⟨g3, Mm, f3', e3, S3, hM⟩ := c_plchoose CB (id := fun j => idf a p (v 33).toNat j) (rm := rm v a p) (fun j hj => (hrow j hj).1) (fun j hj => (hrow j hj).2.1) (fun j hj => (hrow j hj).2.2) (by omega) (by omega) S2
    generalize hN : nc a p (v 33).toNat = N at *
    generalize hid : idf a p (v 33).toNat = idn at *
    have mld3 : ∀ k x, mld s3 k x = mld s2 k x := fun k x => by unfold mld; rw [z3]
    have Q3 : ∀ j : Nat, j < N → mld s3 41 (iI (j : Int)) = some (iI (idn j)) := fun j hj => by rw [mld3]; exact Q2 j hj
    have CI : Ci s3 N (fun j => a 36 (idn j)) (fun j => a 35 (idn j)) (fun j => idn j) := by
      intro j hj
      have h1 := ib j hj
      refine ⟨Q3 j hj, Rl.ld R3 35 40 (by decide) rfl (z := idn j) h1.1 (by omega), Rl.ld R3 36 40 (by decide) rfl (z := idn j) h1.1 (by omega)⟩
    have hp0 : 0 < 2 ^ N := Nat.two_pow_pos N
    have key : Mm < 2 ^ N ∧ FM_plan_86 s3 (iI (N : Int)) (jI (rm v a p)) xN 0 0 0 1 = FM_plan_257 (iI (N : Int)) (iI (Mm : Int)) (iI (tot (fun j => a 36 (idn j)) N Mm)) xN (mI s3 39 0) 0 := by
      rcases hM with ⟨hr, rfl⟩ | ⟨hr, hO⟩
      · refine ⟨hp0, ?_⟩
        have za : iI ((0 : Nat) : Int) = 0 := rfl
        have zb : iI 0 = 0 := rfl
        rw [tot_0, za, zb]
        conv => lhs; rw [show xN = 199999 + 1 from rfl]; unfold FM_plan_86
        by_cases q : (1 : Int32) <<< (iI (N : Int) &&& 31) ≤ 1
        · rw [if_pos q]
          unfold xl
          dsimp only
        · rw [if_neg q, if_pos (by rw [cmp_neg, L_0, jI_lt (by omega) (by omega) (by omega) (by omega)]; exact hr)]
          unfold xl
          dsimp only
      · refine ⟨hO.1, ?_⟩
        obtain ⟨M', k4, O'⟩ := r_86 CI CB hr (by omega) xN 1 0 ⟨by omega, by rw [tot_0]; exact hr, fun Y hY hc => by
          have : Y = 0 := by omega
          subst this
          exact Or.inr ⟨rfl, Or.inr ⟨rfl, Nat.le_refl _⟩⟩⟩ (by omega) (by omega) (by have := pow_b CB; unfold xN; omega)
        have := O'.uniq hO
        subst this
        have za : iI ((0 : Nat) : Int) = 0 := rfl
        have zb : iI 0 = 0 := rfl
        have zc : iI ((1 : Nat) : Int) = 1 := rfl
        rw [tot_0, tot_0, za, zb, zc] at k4
        exact k4
    have ob : 0 ≤ tot one1 N Mm ∧ tot one1 N Mm ≤ 14 := (cb_b CB (i := N) (A := Mm) (Nat.le_refl _)).2.2
    have R4 := R3.mI 39 0
    obtain ⟨s5, k5, R5⟩ := r_257 (v := v) (a := a) (N := N) (id := fun j => idn j) n14 key.1 (iI (tot (fun j => a 36 (idn j)) N Mm)) xN 0 (mI s3 39 (iI 0)) (by omega) (by
      have e : chs N Mm (fun j => idn j) (a 40) 0 = a 40 := rfl
      rw [e, sb_self]
      exact R4) (fun j hj => Q3 j hj) (by unfold xN; omega)
    have ef : FM_plan s (iI p) = some (iI (tot (fun j => a 36 (idn j)) N Mm), s5) := by
      unfold FM_plan FM_isPromise
      have f15 := R0.fd 15 (by decide) (by decide)
      show ((if iI p < 0 then some 0 else if (mI s 0 (iI 0)).1 15 ≤ iI p then some 0 else some 1).bind fun v3 => if v3 = 0 then some (-1, mI s 0 (iI 0)) else FM_plan_19 (iI p) xN (mI s 0 (iI 0)) 0 0) = _
      rw [f15, if_neg (by rw [l_0, iI_lt (by omega) (by omega) (by omega) (by omega)]; omega), if_neg (by rw [iI_le (by omega) (by omega) (by omega) (by omega)]; omega), Option.bind_some, if_neg (by decide)]
      refine Eq.trans k2 ?_
      rw [k3, Option.bind_some]
      dsimp only
      rw [key.2]
      exact k5
    obtain ⟨P3, RR3, q3, p5, p150, p151, p152, p153, p154⟩ := S3
    have C3 : Cc G ad P3 (tv v 39 (tot one1 N Mm)) (sb a (chs N Mm (fun j => idn j) (a 40) N)) el cn := by
      obtain ⟨z0, z1, z2, z3, z4, z5, z6, z7, z8, z9, z10⟩ := C
      have Z : ∀ k, k ≠ 5 ∧ k ≠ 150 ∧ k ≠ 151 ∧ k ≠ 152 ∧ k ≠ 153 ∧ k ≠ 154 → ∀ i, P3 k i = P k i := fun k hk i => q3 k i hk.1 hk.2.1 hk.2.2.1 hk.2.2.2.1 hk.2.2.2.2.1 hk.2.2.2.2.2
      refine ⟨cK.c (P := P) z0 fun k q => Z k (by omega), z1.c fun k q => Z k (by omega), cS.c (P := P) z2 fun k q => Z k (by omega), cO.c (P := P) z3 fun k q => Z k (by omega), cP.c (P := P) z4 fun k q => Z k (by omega), cT.c (P := P) z5 fun k q => Z k (by omega), cA.c (P := P) z6 fun k q => Z k (by omega), cH.c (P := P) z7 fun k q => Z k (by omega), ⟨_, _, _, _, _, _, _, _, _, p5, p150, p151, p152, p153, p154, fun i hi => ?_⟩, z9.c fun k q => Z k (by omega), z10⟩
      have hi' : (i : Int) < tot one1 N Mm := hi
      have e0 : Mm / 2 ^ (N - N) = Mm := by rw [Nat.sub_self, Nat.pow_zero, Nat.div_one]
      have := chs_eq (N := N) (M := Mm) (id := fun j => idn j) (g := fun z => if z < v 39 then a 40 z else f4 z) (g' := a 40) N (Nat.le_refl _) (i : Int) (by omega) (by rw [e0]; exact hi')
      rw [this]
      rfl
    have I3 : Iv (tv v 39 (tot one1 N Mm)) (sb a (chs N Mm (fun j => idn j) (a 40) N)) := by
      obtain ⟨i1, i2, i9, i15, i24, i26, i33, i39, hs, hq, ht, hp, hg, hr, hpt, hal, hch, hz⟩ := I
      exact ⟨i1, i2, i9, i15, i24, i26, i33, ⟨ob.1, ob.2⟩, hs, hq, ht, hp, hg, hr, hpt, hal, hch, hz⟩
    obtain ⟨w1, h7, w2, w3⟩ := Jgo (Fr.of fun k i hk => q3 k i (by omega) (by omega) (by omega) (by omega) (by omega) (by omega)) M O RR3 C3 I3 R5 (fun M => u_plan M ef)
    refine ⟨_, g3, h7, ?_, w1, w2, w3⟩
    have e1' : F_X5_clear G h (ad 5 0) = some g1 := by
      unfold F_X5_clear
      have : xp G h (some (ad 5 0)) 5 5 (.int 0) = some g1 := e1
      rw [this]; rfl
    unfold F_X10_plan
    rw [R.obj C.k, Option.bind_some, ew.1, Option.bind_some, if_neg (by simp), R.getR C.k (j := 6) rfl, Option.bind_some, S0.g.2, Option.bind_some, e1', Option.bind_some]
    refine Eq.trans e2 ?_
    unfold F_X10_plan_19
    rw [RR.getR CC.k (j := 4) rfl, Option.bind_some, e1s.1, Option.bind_some, e1s.2, Option.bind_some, if_pos (by rw [iI_le (by omega) (by omega) (by omega) (by omega)]; omega), RR.getR CC.k (j := 6) rfl, Option.bind_some, RR.obj CC.k, Option.bind_some, er, Option.bind_some, S2.g.2, Option.bind_some, e3, Option.bind_some]
  · have ew := c_promiseAtX R C p0 p1 (by omega) (by omega) c1
    have ef : FM_plan s (iI p) = some (iI (-1), mI s 0 (iI 0)) := by
      unfold FM_plan FM_isPromise
      simp only [xl, l_0, l_1, iI_neg, Rl.fd R0 15 (by decide) (by decide)]
      by_cases d1 : p < 0
      · rw [if_pos (by (first | rw [iI_lt (by omega) (by omega) (by omega) (by omega)] | rw [iI_le (by omega) (by omega) (by omega) (by omega)] | rw [iI_eq (by omega) (by omega) (by omega) (by omega)]); omega), Option.bind_some, if_pos rfl]
      · rw [if_neg (by (first | rw [iI_lt (by omega) (by omega) (by omega) (by omega)] | rw [iI_le (by omega) (by omega) (by omega) (by omega)] | rw [iI_eq (by omega) (by omega) (by omega) (by omega)]); omega), if_pos (by (first | rw [iI_lt (by omega) (by omega) (by omega) (by omega)] | rw [iI_le (by omega) (by omega) (by omega) (by omega)] | rw [iI_eq (by omega) (by omega) (by omega) (by omega)]); omega), Option.bind_some, if_pos rfl]
    obtain ⟨q1, h6, q2, q3⟩ := Jgo0 R M O I C R0 (fun M => u_plan M ef)
    refine ⟨_, h, h6, ?_, q1, q2, q3⟩
    unfold F_X10_plan
    rw [R.obj C.k, Option.bind_some, ew, Option.bind_some, if_pos rfl]; rfl
