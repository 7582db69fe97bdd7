/-! soonest -/
section SON
variable {G : Nat → Nat} {h : xH} {ad : Nat → Nat → Nat} {P : xP} {s : mS} {v : Nat → Int} {a : Nat → Int → Int} {el : Int → Int → Int} {cn : Int → Int}
theorem c_isSteady {x y : Int} (x0 : -2147483648 ≤ x) (x1 : x < 2147483648) (y0 : -2147483648 ≤ y) (y1 : y < 2147483648) : F_X10_isSteady (iI x) (iI y) = some (iI (if (0 ≤ x ∧ x ≤ 300) ∧ 0 ≤ y ∧ y ≤ 10 then 1 else 0)) := by
  have wx : F_X10_within (iI x) 0 300 = some (iI (if 0 ≤ x ∧ x ≤ 300 then 1 else 0)) := c_within (x := x) (y := 0) (z := 300) (by omega) (by omega) (by omega) (by omega) (by omega) (by omega)
  have wy : F_X10_within (iI y) 0 10 = some (iI (if 0 ≤ y ∧ y ≤ 10 then 1 else 0)) := c_within (x := y) (y := 0) (z := 10) (by omega) (by omega) (by omega) (by omega) (by omega) (by omega)
  unfold F_X10_isSteady
  rw [wx, Option.bind_some]
  by_cases c : 0 ≤ x ∧ x ≤ 300
  · rw [if_pos c, if_neg (by decide), wy, Option.bind_some]
    by_cases d : 0 ≤ y ∧ y ≤ 10
    · rw [if_pos d, if_neg (by decide), if_pos ⟨c, d⟩]; rfl
    · rw [if_neg d, if_pos (by decide), if_neg (fun z => d z.2)]; rfl
  · rw [if_neg c, if_pos (by decide), if_neg (fun z => c z.1)]; rfl
theorem c_soon46 (R : Rep G h ad P) (C : Cc G ad P v a el cn) (I : Iv v a) {m e : Int} (h9 : P 9 0 = some (.inr (9, [.int (iI m), .int (iI e)]))) (m0 : 0 ≤ m) (m1 : m ≤ 300) (e0 : 0 ≤ e) (e1 : e ≤ 10) {i f : Int} (i0 : 0 ≤ i) (i1 : i < v 26) (hf : f = 0 ∨ f = 1) : ∃ z, F_X10_soonest_46 G h (iI f) (some (ad 1 i.toNat)) (ad 9 0) xN 0 = some (iI (if z < 0 then z else if f = 0 then z else e * (z - m + 1)), h) ∧ Fst (rgs a (a 27 i) (a 30 i) (a 28 i) (a 29 i) m e) 599 z := by
  have hA := C.2.2.2.2.2.2.1 i i0 i1
  have hi := I.2.2.2.2.2.2.2.2.2.2.2.2.2.2.2.1 i i0 i1
  have := up_loop (fun n (q : Int32) => F_X10_soonest_46 G h (iI f) (some (ad 1 i.toNat)) (ad 9 0) n q) (fun j q => 0 ≤ j ∧ q = iI j ∧ ∀ t, 0 ≤ t → t < j → ¬ rgs a (a 27 i) (a 30 i) (a 28 i) (a 29 i) m e t) (fun r' => ∃ z, r' = (iI (if z < 0 then z else if f = 0 then z else e * (z - m + 1)), h) ∧ Fst (rgs a (a 27 i) (a 30 i) (a 28 i) (a 29 i) m e) 599 z) 600 ?_ ?_ xN 0 0 ⟨by omega, rfl, fun t _ _ => by omega⟩ (by omega) (by unfold xN; omega)
  · obtain ⟨r', e, z, rfl, hz⟩ := this
    exact ⟨z, e, hz⟩
  · rintro n j q ⟨hj, rfl, hq⟩ hlt
    have fr := c_rings9 R C I h9 m0 m1 e0 e1 i0 i1 (t := j) hj (by omega)
    have c0 : ¬ 599 < iI j := by rw [l_599, iI_lt (by omega) (by omega) (by omega) (by omega)]; omega
    by_cases hr : rgs a (a 27 i) (a 30 i) (a 28 i) (a 29 i) m e j
    · left
      have hm := rgs_m I hi.1 hi.2.1 (by omega) (by omega) (by omega) m0 e0 hj (by omega) hr
      refine ⟨_, ?_, j, rfl, Or.inr ⟨hj, by omega, hr, hq⟩⟩
      rw [hr.1, if_neg (by decide), hr.2] at fr
      unfold F_X10_soonest_46
      rw [if_neg c0, R.obj hA, Option.bind_some, fr, Option.bind_some, if_neg (by decide), if_neg (show ¬ j < 0 by omega)]
      rcases hf with rfl | rfl
      · rw [if_pos (by decide), if_pos rfl]
      · have eb : F_X9_badIn G h (ad 9 0) 0 (iI j) = some (iI (e * (j - m + 1))) := by
          have := c_bad9 R h9 m0 m1 (lo := 0) (t := j) (by omega) (by omega) hj (by omega)
          have z : max (j - max 0 m + 1) 0 = j - m + 1 := by omega
          rw [z] at this
          exact this
        rw [if_neg (by decide), R.obj h9, Option.bind_some, eb, Option.bind_some, if_neg (by decide)]
    · right
      refine ⟨_, ⟨by omega, rfl, fun t t0 t1 => if z : t = j then z ▸ hr else hq t t0 (by omega)⟩, ?_⟩
      have z : (if sto a (a 27 i) (a 30 i) (a 28 i) m e j = 0 then 0 else sto a (a 27 i) (a 30 i) (a 29 i) m e j) = 0 := by
        rcases sto_01 a (a 27 i) (a 30 i) (a 28 i) m e j with q | q
        · rw [if_pos q]
        · rw [if_neg (by omega)]
          rcases sto_01 a (a 27 i) (a 30 i) (a 29 i) m e j with q2 | q2
          · exact q2
          · exact absurd ⟨q, q2⟩ hr
      rw [z] at fr
      conv => lhs; unfold F_X10_soonest_46
      rw [if_neg c0, R.obj hA, Option.bind_some, fr, Option.bind_some, if_pos (by decide), l_1, iI_add]
      rfl
  · rintro n q ⟨hj, rfl, hq⟩
    refine ⟨_, ?_, -1, rfl, Or.inl ⟨rfl, fun t t0 t1 => hq t t0 (by omega)⟩⟩
    unfold F_X10_soonest_46
    rw [if_pos (by decide), if_pos (by decide)]
    rfl
end SON
theorem js_soonest (G : Nat → Nat) (x m out : Nat) : sJ_soonest (fun _ => Jx G x m out) G x m := by
  rintro i h ⟨ad, P, s, v, a, el, cn, ⟨rfl, rfl, rfl⟩, R, M, O, L, I, C⟩ a1 a2 a3 a4
  obtain ⟨p, rfl, p0, p1⟩ := iI_arg a1
  obtain ⟨m, rfl, m0, m1⟩ := iI_arg a2
  obtain ⟨e, rfl, e0, e1⟩ := iI_arg a3
  obtain ⟨f, rfl, f0, f1⟩ := iI_arg a4
  have R0 := L.m0 (iI 0)
  have i26 := I.2.2.2.2.2.1
  have ws := c_isSteady m0 m1 e0 e1
  have wf : F_X10_within (iI f) 0 1 = some (iI (if 0 ≤ f ∧ f ≤ 1 then 1 else 0)) := c_within (x := f) (y := 0) (z := 1) (by omega) (by omega) (by omega) (by omega) (by omega) (by omega)
  by_cases c : (0 ≤ p ∧ p < v 26) ∧ ((0 ≤ m ∧ m ≤ 300) ∧ 0 ≤ e ∧ e ≤ 10) ∧ (0 ≤ f ∧ f ≤ 1)
  · obtain ⟨c1, c2, c3⟩ := c
    have hi := I.2.2.2.2.2.2.2.2.2.2.2.2.2.2.2.1 p c1.1 c1.2
    have ew := c_alarmAt R C c1.1 c1.2 (by omega)
    obtain ⟨g1, g2, ad2, P2, d1, d2, R2, o2, q2, C2⟩ := c_mk9 R C I m e
    obtain ⟨z, ez, hz⟩ := c_soon46 R2 C2 I o2 c2.1.1 c2.1.2 c2.2.1 c2.2.2 c1.1 c1.2 (f := f) (by omega)
    obtain ⟨z', ez', hz'⟩ := r_soonestOf R0 I (p := a 27 p) (A := a 28 p) (B := a 29 p) (r := a 30 p) (m := m) (e := e) hi.1 hi.2.1 (by omega) (by omega) (by omega) (by omega) (by omega) (by omega) c2.1.1 c2.1.2 c2.2.1 c2.2.2
    have := hz.uniq hz'
    subst this
    have zb : -1 ≤ z ∧ z ≤ 599 := by rcases hz with ⟨q, -⟩ | ⟨q1, q2, -⟩ <;> omega
    have ef : FM_soonest s (iI p) (iI m) (iI e) (iI f) = some (iI (if z < 0 then z else if f = 0 then z else e * (z - m + 1)), mI s 0 (iI 0)) := by
      generalize hZ : (if z < 0 then z else if f = 0 then z else e * (z - m + 1)) = Z
      unfold FM_soonest FM_isAlarm
      simp only [xl, l_0, l_1, l_300, l_10, iI_neg, Rl.fd R0 26 (by decide) (by decide)]
      rw [if_neg (by (first | rw [iI_lt (by omega) (by omega) (by omega) (by omega)] | rw [iI_le (by omega) (by omega) (by omega) (by omega)] | rw [iI_eq (by omega) (by omega) (by omega) (by omega)]); omega), if_neg (by (first | rw [iI_lt (by omega) (by omega) (by omega) (by omega)] | rw [iI_le (by omega) (by omega) (by omega) (by omega)] | rw [iI_eq (by omega) (by omega) (by omega) (by omega)]); omega), Option.bind_some]
      refine (if_neg (by decide)).trans ?_
      rw [if_neg (by (first | rw [iI_lt (by omega) (by omega) (by omega) (by omega)] | rw [iI_le (by omega) (by omega) (by omega) (by omega)] | rw [iI_eq (by omega) (by omega) (by omega) (by omega)]); omega), if_neg (by (first | rw [iI_lt (by omega) (by omega) (by omega) (by omega)] | rw [iI_le (by omega) (by omega) (by omega) (by omega)] | rw [iI_eq (by omega) (by omega) (by omega) (by omega)]); omega), if_neg (by (first | rw [iI_lt (by omega) (by omega) (by omega) (by omega)] | rw [iI_le (by omega) (by omega) (by omega) (by omega)] | rw [iI_eq (by omega) (by omega) (by omega) (by omega)]); omega), if_neg (by (first | rw [iI_lt (by omega) (by omega) (by omega) (by omega)] | rw [iI_le (by omega) (by omega) (by omega) (by omega)] | rw [iI_eq (by omega) (by omega) (by omega) (by omega)]); omega), if_neg (by (first | rw [iI_lt (by omega) (by omega) (by omega) (by omega)] | rw [iI_le (by omega) (by omega) (by omega) (by omega)] | rw [iI_eq (by omega) (by omega) (by omega) (by omega)]); omega), if_pos (by (first | rw [iI_lt (by omega) (by omega) (by omega) (by omega)] | rw [iI_le (by omega) (by omega) (by omega) (by omega)] | rw [iI_eq (by omega) (by omega) (by omega) (by omega)]); omega)]
      simp (disch := omega) only [Rl.ld R0 27 8 (by decide) rfl, Rl.ld R0 28 8 (by decide) rfl, Rl.ld R0 29 8 (by decide) rfl, Rl.ld R0 30 8 (by decide) rfl, Option.bind_some, ez']
      by_cases d : z < 0
      · refine (if_pos (by (first | rw [iI_lt (by omega) (by omega) (by omega) (by omega)] | rw [iI_le (by omega) (by omega) (by omega) (by omega)] | rw [iI_eq (by omega) (by omega) (by omega) (by omega)]); omega)).trans ?_
        rw [← hZ, if_pos d]
      · refine (if_neg (by (first | rw [iI_lt (by omega) (by omega) (by omega) (by omega)] | rw [iI_le (by omega) (by omega) (by omega) (by omega)] | rw [iI_eq (by omega) (by omega) (by omega) (by omega)]); omega)).trans ?_
        by_cases d2 : f = 0
        · refine (if_pos (by (first | rw [iI_lt (by omega) (by omega) (by omega) (by omega)] | rw [iI_le (by omega) (by omega) (by omega) (by omega)] | rw [iI_eq (by omega) (by omega) (by omega) (by omega)]); omega)).trans ?_
          rw [← hZ, if_neg d, if_pos d2]
        · refine (if_neg (by (first | rw [iI_lt (by omega) (by omega) (by omega) (by omega)] | rw [iI_le (by omega) (by omega) (by omega) (by omega)] | rw [iI_eq (by omega) (by omega) (by omega) (by omega)]); omega)).trans ?_
          rw [← hZ, if_neg d, if_neg d2, iI_sub, iI_add, iI_mul]
    obtain ⟨y1, h7, y2, y3⟩ := Jgo (Fr.of2 (fun k i hk => q2 k i (by omega)) (q2 10 0 (by decide)).1) M O R2 C2 I R0 (y := F_X11_soonest G g2 (ad 19 0) (iI p) (iI m) (iI e) (iI f)) (r := iI (if z < 0 then z else if f = 0 then z else e * (z - m + 1))) (fun M => by rw [← (q2 19 0 (by decide)).1]; exact u_soonest M ef)
    refine ⟨_, g2, h7, ?_, y1, y2, y3⟩
    rw [(q2 1 p.toNat (by decide)).1] at ez
    unfold F_X10_soonest
    rw [R.obj C.k, Option.bind_some, ew.1, Option.bind_some, if_neg (by simp), ws, Option.bind_some, if_pos c2, if_neg (by decide), wf, Option.bind_some, if_pos c3, if_neg (by decide), d1, Option.bind_some]
    dsimp only
    rw [d2, Option.bind_some, ez]
  · have ef : FM_soonest s (iI p) (iI m) (iI e) (iI f) = some (iI (-1), mI s 0 (iI 0)) := by
      unfold FM_soonest FM_isAlarm
      simp only [xl, l_0, l_1, l_300, l_10, iI_neg, Rl.fd R0 26 (by decide) (by decide)]
      by_cases d1 : p < 0
      · rw [if_pos (by (first | rw [iI_lt (by omega) (by omega) (by omega) (by omega)] | rw [iI_le (by omega) (by omega) (by omega) (by omega)] | rw [iI_eq (by omega) (by omega) (by omega) (by omega)]); omega), Option.bind_some, if_pos rfl]
      · rw [if_neg (by (first | rw [iI_lt (by omega) (by omega) (by omega) (by omega)] | rw [iI_le (by omega) (by omega) (by omega) (by omega)] | rw [iI_eq (by omega) (by omega) (by omega) (by omega)]); omega)]
        by_cases d2 : v 26 ≤ p
        · rw [if_pos (by (first | rw [iI_lt (by omega) (by omega) (by omega) (by omega)] | rw [iI_le (by omega) (by omega) (by omega) (by omega)] | rw [iI_eq (by omega) (by omega) (by omega) (by omega)]); omega), Option.bind_some, if_pos rfl]
        · rw [if_neg (by (first | rw [iI_lt (by omega) (by omega) (by omega) (by omega)] | rw [iI_le (by omega) (by omega) (by omega) (by omega)] | rw [iI_eq (by omega) (by omega) (by omega) (by omega)]); omega), Option.bind_some, if_neg (by decide)]
          by_cases d3 : m < 0
          · rw [if_pos (by (first | rw [iI_lt (by omega) (by omega) (by omega) (by omega)] | rw [iI_le (by omega) (by omega) (by omega) (by omega)] | rw [iI_eq (by omega) (by omega) (by omega) (by omega)]); omega)]
          · rw [if_neg (by (first | rw [iI_lt (by omega) (by omega) (by omega) (by omega)] | rw [iI_le (by omega) (by omega) (by omega) (by omega)] | rw [iI_eq (by omega) (by omega) (by omega) (by omega)]); omega)]
            by_cases d4 : 300 < m
            · rw [if_pos (by (first | rw [iI_lt (by omega) (by omega) (by omega) (by omega)] | rw [iI_le (by omega) (by omega) (by omega) (by omega)] | rw [iI_eq (by omega) (by omega) (by omega) (by omega)]); omega)]
            · rw [if_neg (by (first | rw [iI_lt (by omega) (by omega) (by omega) (by omega)] | rw [iI_le (by omega) (by omega) (by omega) (by omega)] | rw [iI_eq (by omega) (by omega) (by omega) (by omega)]); omega)]
              by_cases d5 : e < 0
              · rw [if_pos (by (first | rw [iI_lt (by omega) (by omega) (by omega) (by omega)] | rw [iI_le (by omega) (by omega) (by omega) (by omega)] | rw [iI_eq (by omega) (by omega) (by omega) (by omega)]); omega)]
              · rw [if_neg (by (first | rw [iI_lt (by omega) (by omega) (by omega) (by omega)] | rw [iI_le (by omega) (by omega) (by omega) (by omega)] | rw [iI_eq (by omega) (by omega) (by omega) (by omega)]); omega)]
                by_cases d6 : 10 < e
                · rw [if_pos (by (first | rw [iI_lt (by omega) (by omega) (by omega) (by omega)] | rw [iI_le (by omega) (by omega) (by omega) (by omega)] | rw [iI_eq (by omega) (by omega) (by omega) (by omega)]); omega)]
                · rw [if_neg (by (first | rw [iI_lt (by omega) (by omega) (by omega) (by omega)] | rw [iI_le (by omega) (by omega) (by omega) (by omega)] | rw [iI_eq (by omega) (by omega) (by omega) (by omega)]); omega)]
                  by_cases d7 : f < 0
                  · rw [if_pos (by (first | rw [iI_lt (by omega) (by omega) (by omega) (by omega)] | rw [iI_le (by omega) (by omega) (by omega) (by omega)] | rw [iI_eq (by omega) (by omega) (by omega) (by omega)]); omega)]
                  · rw [if_neg (by (first | rw [iI_lt (by omega) (by omega) (by omega) (by omega)] | rw [iI_le (by omega) (by omega) (by omega) (by omega)] | rw [iI_eq (by omega) (by omega) (by omega) (by omega)]); omega), if_neg (by (first | rw [iI_lt (by omega) (by omega) (by omega) (by omega)] | rw [iI_le (by omega) (by omega) (by omega) (by omega)] | rw [iI_eq (by omega) (by omega) (by omega) (by omega)]); omega)]
    obtain ⟨q1, h6, q2, q3⟩ := Jgo0 R M O I C R0 (fun M => u_soonest M ef)
    refine ⟨_, h, h6, ?_, q1, q2, q3⟩
    unfold F_X10_soonest
    by_cases c1 : 0 ≤ p ∧ p < v 26
    · have ew := c_alarmAt R C c1.1 c1.2 (by omega)
      rw [R.obj C.k, Option.bind_some, ew.1, Option.bind_some, if_neg (by simp), ws, Option.bind_some]
      by_cases c2 : (0 ≤ m ∧ m ≤ 300) ∧ 0 ≤ e ∧ e ≤ 10
      · rw [if_pos c2, if_neg (by decide), wf, Option.bind_some, if_neg (show ¬ (0 ≤ f ∧ f ≤ 1) by omega), if_pos (by decide)]; rfl
      · rw [if_neg c2, if_pos (by decide)]; rfl
    · have ew := c_alarmAtX R C p0 p1 (by omega) (by omega) c1
      rw [R.obj C.k, Option.bind_some, ew, Option.bind_some, if_pos rfl]; rfl
