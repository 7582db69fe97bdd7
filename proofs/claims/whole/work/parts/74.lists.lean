/-! The class's cells -/
def Ls (G : Nat → Nat) (ad : Nat → Nat → Nat) (P : xP) (j kd : Nat) (n : Int) (el : Int → Int) : Prop := ∃ m : Int32, (n = 0 ∧ P 0 j = some (.inr (0, [.int m, .ref (G 1), .int (iI 0)]))) ∨ ∃ (cap : Nat) (f : Nat → Option Nat), P 0 j = some (.inr (0, [.int m, .ref (ad 50 j), .int (iI n)])) ∧ P 50 j = some (.inl (G 5, cap, .inr (.inr (.inr (.inr f))))) ∧ n ≤ cap ∧ (cap = 10 ∨ cap = 15 ∨ cap = 22 ∨ cap = 33 ∨ cap = 49) ∧ ∀ x, 0 ≤ x → x < n → f x.toNat = some (ad kd (el x).toNat)
theorem nI_nonneg' {n : Nat} (hn : n < 2 ^ 31) : ¬ nI n < 0 := by
  have := nI_le (a := 0) (b := n) (by omega) hn
  rw [Int32.le_iff_toInt_le] at this
  rw [Int32.lt_iff_toInt_lt]
  have e : (nI 0).toInt = 0 := by decide
  have e2 : (0 : Int32).toInt = 0 := by decide
  omega
section LS
variable {G : Nat → Nat} {h : xH} {ad : Nat → Nat → Nat} {P : xP} {k i : Nat}
theorem Rep.ai (R : Rep G h ad P) {t n : Nat} {f : Nat → Int32} {g : Int → Int} (hp : P k i = some (.inl (G t, n, .inl f))) (hf : ∀ j : Nat, f j = iI (g j)) {z : Int} (h0 : 0 ≤ z) (h1 : z < n) (hn : n < 2 ^ 31) : ldI t G h (some (ad k i)) (iI z) = some (iI (g z)) := by
  obtain ⟨x, rfl⟩ := Int.eq_ofNat_of_zero_le h0
  rw [iI_nI, R.aI hp (show x < n by omega) hn, hf]
theorem Rep.si (R : Rep G h ad P) {t n : Nat} {f : Nat → Int32} (hp : P k i = some (.inl (G t, n, .inl f))) {z : Int} (h0 : 0 ≤ z) (h1 : z < n) (hn : n < 2 ^ 31) (v : Int32) : ∃ h', stI t G h (some (ad k i)) (iI z) v = some h' ∧ Rep G h' ad (up P k i (some (.inl (G t, n, .inl (upd f z.toNat v))))) := by
  obtain ⟨x, rfl⟩ := Int.eq_ofNat_of_zero_le h0
  rw [iI_nI, R.sI hp (show x < n by omega) hn v]
  exact ⟨_, rfl, R.put hp _⟩
theorem Rep.sf (R : Rep G h ad P) {ci j : Nat} {fs : List Value} (hp : P k i = some (.inr (ci, fs))) (hj : j < fs.length) (v : Value) : ∃ h', xp G h (some (ad k i)) ci j v = some h' ∧ Rep G h' ad (up P k i (some (.inr (ci, fs.set j v)))) := ⟨_, R.putF hp hj v, R.put hp _⟩
theorem Rep.ne (R : Rep G h ad P) {k' i' : Nat} (h1 : P k i ≠ none) (h2 : P k' i' ≠ none) (hn : ¬ (k = k' ∧ i = i')) : ad k i ≠ ad k' i' := fun e => hn (R.2.2 k i k' i' h1 h2 e)
theorem Rep.in (R : Rep G h ad P) {e : va_E} (hp : P k i = some e) : ad k i < h.1 := (R.2.1 k i e hp).2.2
theorem Ls.size {j kd : Nat} {n : Int} {el : Int → Int} (L : Ls G ad P j kd n el) (R : Rep G h ad P) : xc h (some (ad 0 j)) 0 = some (ad 0 j) ∧ F_Jx4a65c_size_8abf5 G h (ad 0 j) = some (iI n) := by
  obtain ⟨m, ⟨rfl, h1⟩ | ⟨cap, f, h1, -⟩⟩ := L
  · exact ⟨R.obj h1, by unfold F_Jx4a65c_size_8abf5; rw [R.getI h1 (j := 2) rfl]; rfl⟩
  · exact ⟨R.obj h1, by unfold F_Jx4a65c_size_8abf5; rw [R.getI h1 (j := 2) rfl]; rfl⟩
theorem Ls.emp {j kd : Nat} {n : Int} {el : Int → Int} (L : Ls G ad P j kd n el) (R : Rep G h ad P) (h0 : 0 ≤ n) (hn : n ≤ 64) : F_Jx4a65c_isEmpty_aae02 G h (ad 0 j) = some (iI (if n = 0 then 1 else 0)) := by
  have e : gI h (some (ad 0 j)) 0 2 = some (iI n) := by
    obtain ⟨m, ⟨rfl, h1⟩ | ⟨cap, f, h1, -⟩⟩ := L
    · exact R.getI h1 (j := 2) rfl
    · exact R.getI h1 (j := 2) rfl
  unfold F_Jx4a65c_isEmpty_aae02
  by_cases c : n = 0
  · simp (disch := omega) only [e, l_0, l_1, l_2, l_3, l_4, l_5, l_6, l_7, l_8, l_9, l_10, l_12, l_13, l_14, l_15, l_16, l_20, l_21, l_40, l_60, l_78, l_199, l_200, l_300, l_599, l_600, l_601, l_602, l_1000, l_1638, l_10000, l_65536, l_100000, l_1000000, l_m1, L_0, L_1, L_10, L_20, L_1000, L_10000, iI_add, iI_sub, iI_mul, iI_neg, iI_lt, iI_le, iI_eq, iI_max, iI_min, iI_l, jI_i, jI_add, jI_sub, jI_mul, jI_lt, jI_le, jI_eq, kmp_pos, kmp_neg, kmp_le, kmp_ge, if_pos, if_neg, if_true, if_false, true_or, or_true, Option.bind_some, xl, xg]
  · simp (disch := omega) only [e, l_0, l_1, l_2, l_3, l_4, l_5, l_6, l_7, l_8, l_9, l_10, l_12, l_13, l_14, l_15, l_16, l_20, l_21, l_40, l_60, l_78, l_199, l_200, l_300, l_599, l_600, l_601, l_602, l_1000, l_1638, l_10000, l_65536, l_100000, l_1000000, l_m1, L_0, L_1, L_10, L_20, L_1000, L_10000, iI_add, iI_sub, iI_mul, iI_neg, iI_lt, iI_le, iI_eq, iI_max, iI_min, iI_l, jI_i, jI_add, jI_sub, jI_mul, jI_lt, jI_le, jI_eq, kmp_pos, kmp_neg, kmp_le, kmp_ge, if_pos, if_neg, if_true, if_false, true_or, or_true, Option.bind_some, xl, xg]
theorem Ls.get {j kd : Nat} {n : Int} {el : Int → Int} (L : Ls G ad P j kd n el) (R : Rep G h ad P) {x : Int} (h0 : 0 ≤ x) (h1 : x < n) (hn : n ≤ 64) : F_Jx4a65c_get_915e3 G h (ad 0 j) (iI x) = some (some (ad kd (el x).toNat)) := by
  obtain ⟨m, ⟨rfl, h2⟩ | ⟨cap, f, h2, h3, h4, h5, h6⟩⟩ := L
  · omega
  · have e1 := R.getI h2 (j := 2) rfl
    have e2 := R.getR h2 (j := 1) rfl
    have e3 := R.aR h3 (x := x.toNat) (by omega) (by omega)
    have e4 : nI x.toNat = iI x := by rw [← iI_nI, Int.toNat_of_nonneg h0]
    rw [e4, h6 x h0 h1] at e3
    simp (disch := omega) only [F_Jx4a65c_get_915e3, F_J15_checkIndex_7cf53, F_J3_checkIndex_8e157, F_Jx4a65c_elementData_915e3, R.obj h2, e1, e2, e3, l_0, l_1, l_2, l_3, l_4, l_5, l_6, l_7, l_8, l_9, l_10, l_12, l_13, l_14, l_15, l_16, l_20, l_21, l_40, l_60, l_78, l_199, l_200, l_300, l_599, l_600, l_601, l_602, l_1000, l_1638, l_10000, l_65536, l_100000, l_1000000, l_m1, L_0, L_1, L_10, L_20, L_1000, L_10000, iI_add, iI_sub, iI_mul, iI_neg, iI_lt, iI_le, iI_eq, iI_max, iI_min, iI_l, jI_i, jI_add, jI_sub, jI_mul, jI_lt, jI_le, jI_eq, kmp_pos, kmp_neg, kmp_le, kmp_ge, if_pos, if_neg, if_true, if_false, true_or, or_true, Option.bind_some, xl, xg]
theorem Rep.xob (R : Rep G h ad P) {q : Nat × List Value} (hp : P k i = some (.inr q)) : xob h (ad k i) = true := by
  unfold Jvm.Pilot.CShareKeeperLaw_law_r6658_4d3c0c.xob
  rw [R.at hp]
theorem Rep.sr (R : Rep G h ad P) {n : Nat} {f : Nat → Option Nat} (hp : P k i = some (.inl (G 5, n, .inr (.inr (.inr (.inr f)))))) {z : Int} (h0 : 0 ≤ z) (h1 : z < n) (hn : n < 2 ^ 31) {k' i' : Nat} {q : Nat × List Value} (hq : P k' i' = some (.inr q)) : ∃ h', stR G h (some (ad k i)) (iI z) (some (ad k' i')) = some h' ∧ Rep G h' ad (up P k i (some (.inl (G 5, n, .inr (.inr (.inr (.inr (va_up f z.toNat (some (ad k' i')))))))))) := by
  obtain ⟨x, rfl⟩ := Int.eq_ofNat_of_zero_le h0
  have h2 := nI_ok (show x < n by omega) hn
  have h3 : (nI x).toNatClampNeg = x := nI_clamp (by omega)
  rw [h3] at h2
  refine ⟨_, ?_, R.put hp _⟩
  rw [iI_nI]
  simp only [stR, R.at hp, Option.bind_some, h3]
  exact if_pos ⟨trivial, R.lo hp, h2, R.xob hq⟩
theorem aln_ref (R : Rep G h ad P) (hG : G 1 < G 0) {n : Nat} {f : Nat → Option Nat} (hp : P k i = some (.inl (G 5, n, .inr (.inr (.inr (.inr f)))))) : aln G h (some (ad k i)) = some (Int32.ofNat n) := by
  unfold aln
  rw [if_neg]
  · rw [Option.bind_some, R.at hp, Option.bind_some]
    exact if_pos (Or.inr (Or.inr (Or.inr rfl)))
  · intro q
    have := R.lo hp
    injection q with q
    omega
theorem aln_int (R : Rep G h ad P) (hG : G 1 < G 0) {n : Nat} {f : Nat → Int32} (hp : P k i = some (.inl (G 2, n, .inl f))) : aln G h (some (ad k i)) = some (Int32.ofNat n) := by
  unfold aln
  rw [if_neg]
  · rw [Option.bind_some, R.at hp, Option.bind_some]
    exact if_pos (Or.inl rfl)
  · intro q
    have := R.lo hp
    injection q with q
    omega
theorem Ls_grow (R : Rep G h ad P) (hG : G 1 < G 0) {j : Nat} {m : Int32} {cap cap' : Nat} {f : Nat → Option Nat} (h0 : P 0 j = some (.inr (0, [.int m, .ref (ad 50 j), .int (Int32.ofNat cap)]))) (h50 : P 50 j = some (.inl (G 5, cap, .inr (.inr (.inr (.inr f)))))) (hc : 0 < cap) (hl : F_J8_newLength_cabcc (Int32.ofNat cap) (Int32.ofNat cap + 1 - Int32.ofNat cap) (Int32.ofNat cap >>> (1 &&& 31)) = some (Int32.ofNat cap')) (h1 : cap < cap') (h2 : cap' ≤ 64) (hf : ∀ x, x < cap → ∃ k i q, f x = some (ad k i) ∧ P k i = some (.inr q)) : ∃ h', F_Jx4a65c_grow_d5877 G h (ad 0 j) = some (some h.1, h') ∧ Rep G h' (up ad 50 j h.1) (up (up P 50 j (some (.inl (G 5, cap', .inr (.inr (.inr (.inr (va_cpy f (fun _ => none) 0 0 cap)))))))) 0 j (some (.inr (0, [.int m, .ref h.1, .int (Int32.ofNat cap)])))) := by
  have z1 : (Int32.ofNat cap').toNatClampNeg = cap' := nI_clamp (n := cap') (by omega)
  have z2 : ¬ Int32.ofNat cap' < 0 := (nI_nonneg' (n := cap') (by omega))
  have z3 : (Int32.ofNat cap).toNatClampNeg = cap := nI_clamp (n := cap) (by omega)
  have z4 : ¬ Int32.ofNat cap < 0 := (nI_nonneg' (n := cap) (by omega))
  have z5 : (0 : Int32) < Int32.ofNat cap := by
    have := nI_le (a := 1) (b := cap) (by omega) (by omega)
    rw [Int32.lt_iff_toInt_lt]
    rw [Int32.le_iff_toInt_le] at this
    have e1 : (nI 1).toInt = 1 := by decide
    have e0 : (0 : Int32).toInt = 0 := by decide
    have e2 : (nI cap).toInt = (Int32.ofNat cap).toInt := rfl
    omega
  have z6 : xmin (Int32.ofNat cap) (Int32.ofNat cap') = Int32.ofNat cap := by
    unfold xmin
    rw [if_neg]
    intro q
    have := nI_le (a := cap) (b := cap') (by omega) (by omega)
    rw [Int32.le_iff_toInt_le] at this
    rw [Int32.lt_iff_toInt_lt] at q
    have e1 : (nI cap).toInt = (Int32.ofNat cap).toInt := rfl
    have e2 : (nI cap').toInt = (Int32.ofNat cap').toInt := rfl
    omega
  have R1 := R.new 50 j (.inl (G 5, cap', .inr (.inr (.inr (.inr (fun _ => none))))))
  have hold : ∀ k i e, P k i = some e → (xn h (.inl (G 5, cap', .inr (.inr (.inr (.inr (fun _ => none))))))).2 (ad k i) = some e := fun k i e he => (if_neg (Nat.ne_of_lt (R.in he))).trans (R.at he)
  have hnew : (xn h (.inl (G 5, cap', .inr (.inr (.inr (.inr (fun _ => none))))))).2 h.1 = some (.inl (G 5, cap', .inr (.inr (.inr (.inr (fun _ => none)))))) := if_pos rfl
  have a1 : aln G (xn h (.inl (G 5, cap', .inr (.inr (.inr (.inr (fun _ => none))))))) (some (ad 50 j)) = some (Int32.ofNat cap) := by
    unfold aln
    rw [if_neg]
    · rw [Option.bind_some, hold _ _ _ h50, Option.bind_some]
      exact if_pos (Or.inr (Or.inr (Or.inr rfl)))
    · intro q
      have := R.lo h50
      injection q with q
      omega
  have R2 := R1.put (k := 50) (i := j) (up_same _ _ _ _) (.inl (G 5, cap', .inr (.inr (.inr (.inr (va_cpy f (fun _ => none) 0 0 cap))))))
  rw [up_same] at R2
  have c1 : cpR G (xn h (.inl (G 5, cap', .inr (.inr (.inr (.inr (fun _ => none))))))) (some (ad 50 j)) 0 (some h.1) 0 (Int32.ofNat cap) = some (xs (xn h (.inl (G 5, cap', .inr (.inr (.inr (.inr (fun _ => none))))))) h.1 (.inl (G 5, cap', .inr (.inr (.inr (.inr (va_cpy f (fun _ => none) 0 0 cap))))))) := by
    unfold cpR
    simp only [Option.bind_some, hold _ _ _ h50, hnew, z3]
    have d0 : (0 : Int32).toNatClampNeg = 0 := by decide
    rw [d0]
    refine if_pos ⟨⟨trivial, trivial, R.1⟩, ⟨by decide, by decide, z4⟩, by omega, by omega, fun x hx => ?_⟩
    rw [Nat.zero_add]
    obtain ⟨k, i, q, e1, e2⟩ := hf x hx
    rw [e1]
    show Jvm.Pilot.CShareKeeperLaw_law_r6658_4d3c0c.xob _ (ad k i) = true
    unfold Jvm.Pilot.CShareKeeperLaw_law_r6658_4d3c0c.xob
    rw [hold _ _ _ e2]
  have e20 : up (up P 50 j (some (.inl (G 5, cap', .inr (.inr (.inr (.inr (fun _ => none)))))))) 50 j (some (.inl (G 5, cap', .inr (.inr (.inr (.inr (va_cpy f (fun _ => none) 0 0 cap))))))) = up P 50 j (some (.inl (G 5, cap', .inr (.inr (.inr (.inr (va_cpy f (fun _ => none) 0 0 cap))))))) := by
    funext k i
    unfold up
    by_cases q : k = 50 ∧ i = j
    · rw [if_pos q, if_pos q]
    · rw [if_neg q, if_neg q, if_neg q]
  rw [e20] at R2
  have h0' : up P 50 j (some (.inl (G 5, cap', .inr (.inr (.inr (.inr (va_cpy f (fun _ => none) 0 0 cap))))))) 0 j = some (.inr (0, [.int m, .ref (ad 50 j), .int (Int32.ofNat cap)])) := by rw [up_kind _ (by decide), h0]
  obtain ⟨h', e3, R3⟩ := R2.sf h0' (j := 1) (by simp) (.ref h.1)
  have ea : up ad 50 j h.1 0 j = ad 0 j := up_kind _ (by decide)
  rw [ea] at e3
  refine ⟨h', ?_, R3⟩
  unfold F_Jx4a65c_grow_d5877
  rw [R.getI h0 (j := 2) rfl, Option.bind_some, R.obj h0, Option.bind_some]
  unfold F_Jx4a65c_grow_92f84
  rw [R.getR h0 (j := 1) rfl, Option.bind_some, aln_ref R hG h50, Option.bind_some, if_pos z5, hl, Option.bind_some, Option.bind_some, Option.bind_some]
  unfold F_J7_copyOf_1904c F_J7_copyOf_6403c
  have x1 : xAO G h (some (ad 50 j)) = some (ad 50 j) := by
    unfold xAO
    rw [Option.bind_some, R.at h50, Option.bind_some]
    exact if_pos rfl
  have x2 : nAR G h (Int32.ofNat cap') = some (h.1, xn h (.inl (G 5, cap', .inr (.inr (.inr (.inr (fun _ => none))))))) := by
    unfold nAR
    rw [z1]
    exact if_pos ⟨z2, h2⟩
  rw [x1, Option.bind_some, if_pos rfl, x2, Option.bind_some]
  simp only [a1, Option.bind_some, z6, c1]
  have v1 : va_rf (some h.1) = .ref h.1 := rfl
  rw [v1, e3]
  rfl
/-- an element is added -/
theorem Ls.add {j kd : Nat} {n : Int} {el : Int → Int} (L : Ls G ad P j kd n el) (R : Rep G h ad P) (hG : G 1 < G 0) (h0 : 0 ≤ n) (hn : n < 40) {e : Int} {q : Nat × List Value} (he : P kd e.toNat = some (.inr q)) (ho : ∀ x, 0 ≤ x → x < n → ∃ q, P kd (el x).toNat = some (.inr q)) (k0 : kd ≠ 0) (k5 : kd ≠ 50) : ∃ h' ad' P', F_Jx4a65c_add_9ea2d G h (ad 0 j) (ad kd e.toNat) = some (1, h') ∧ Rep G h' ad' P' ∧ Ls G ad' P' j kd (n + 1) (fun x => if x = n then e else el x) ∧ (∀ k i, ¬ (k = 0 ∧ i = j) → ¬ (k = 50 ∧ i = j) → P' k i = P k i) ∧ ∀ k i, ¬ (k = 50 ∧ i = j) → ad' k i = ad k i := by
  obtain ⟨m, ⟨rfl, h1⟩ | ⟨cap, f, h1, h2, h3, h4, h5⟩⟩ := L
  · obtain ⟨g1, e1, R1⟩ := R.sf h1 (j := 0) (by simp) (.int (m + 1))
    have p1 : up P 0 j (some (.inr (0, [.int (m + 1), .ref (G 1), .int (iI 0)]))) 0 j = some (.inr (0, [.int (m + 1), .ref (G 1), .int (iI 0)])) := up_same _ _ _ _
    have R2 := R1.new 50 j (.inl (G 5, 10, .inr (.inr (.inr (.inr (fun _ => none))))))
    have ea : up ad 50 j g1.1 0 j = ad 0 j := up_kind _ (by decide)
    have ek : up ad 50 j g1.1 kd e.toNat = ad kd e.toNat := up_kind _ k5
    have e5 : up ad 50 j g1.1 50 j = g1.1 := up_same _ _ _ _
    obtain ⟨g3, e3, R3⟩ := R2.sf (k := 0) (i := j) (by rw [up_kind _ (by decide)]; exact p1) (j := 1) (by simp) (.ref g1.1)
    rw [ea] at e3
    obtain ⟨g4, e4, R4⟩ := R3.sr (k := 50) (i := j) (z := 0) (k' := kd) (i' := e.toNat) (by rw [up_kind _ (by decide)]; exact up_same _ _ _ _) (by omega) (by omega) (by decide) (by rw [up_kind _ k0, up_kind _ k5, up_kind (i' := e.toNat) (k' := kd) _ k0]; exact he)
    rw [e5, ek] at e4
    obtain ⟨g6, e6, R6⟩ := R4.sf (k := 0) (i := j) (by rw [up_kind _ (by decide)]; exact up_same _ _ _ _) (j := 2) (by simp) (.int (0 + 1))
    rw [ea] at e6
    refine ⟨g6, _, _, ?_, R6, ⟨m + 1, Or.inr ⟨10, _, ?_, by rw [up_kind _ (by decide)]; exact up_same _ _ _ _, by omega, Or.inl rfl, ?_⟩⟩, ?_, ?_⟩
    · have a1 : aln G g1 (some (G 1)) = some 0 := if_pos rfl
      have n1 : nAR G g1 (xmax 10 (iI 0 + 1)) = some (g1.1, xn g1 (.inl (G 5, 10, .inr (.inr (.inr (.inr (fun _ => none))))))) := by
        have d : xmax 10 (iI 0 + 1) = 10 := by decide
        rw [d]
        unfold nAR
        exact if_pos (by decide)
      unfold F_Jx4a65c_add_9ea2d
      rw [R.getI h1 (j := 0) rfl, Option.bind_some, e1, Option.bind_some, R1.getR p1 (j := 1) rfl, Option.bind_some, R1.getI p1 (j := 2) rfl, Option.bind_some, Option.bind_some, R1.obj p1, Option.bind_some]
      unfold F_Jx4a65c_add_72be8
      rw [a1, Option.bind_some, if_pos (by decide), R1.obj p1, Option.bind_some]
      unfold F_Jx4a65c_grow_d5877
      rw [R1.getI p1 (j := 2) rfl, Option.bind_some, R1.obj p1, Option.bind_some]
      unfold F_Jx4a65c_grow_92f84
      rw [R1.getR p1 (j := 1) rfl, Option.bind_some, a1, Option.bind_some, if_neg (by decide), Option.bind_some, if_pos rfl, n1, Option.bind_some]
      have v1 : va_rf (some g1.1) = .ref g1.1 := rfl
      have e4' : stR G g3 (some g1.1) 0 (some (ad kd e.toNat)) = some g4 := e4
      have l0 : (iI 0) = (0 : Int32) := rfl
      simp only [v1, e3, Option.bind_some, l0]
      rw [e4', Option.bind_some, e6]
      rfl
    · rw [up_same, up_same]
      rfl
    · intro x x0 x1
      have : x = 0 := by omega
      subst this
      dsimp only
      rw [if_pos rfl, ek]
      exact if_pos rfl
    · intro k i n1 n2
      simp only [up, n1, n2, if_false]
    · intro k i n1
      exact if_neg n1
  · obtain ⟨g1, e1, R1⟩ := R.sf h1 (j := 0) (by simp) (.int (m + 1))
    have p1 : up P 0 j (some (.inr (0, [.int (m + 1), .ref (ad 50 j), .int (iI n)]))) 0 j = some (.inr (0, [.int (m + 1), .ref (ad 50 j), .int (iI n)])) := up_same _ _ _ _
    have p5 : up P 0 j (some (.inr (0, [.int (m + 1), .ref (ad 50 j), .int (iI n)]))) 50 j = some (.inl (G 5, cap, .inr (.inr (.inr (.inr f))))) := by rw [up_kind _ (by decide)]; exact h2
    have al := aln_ref R1 hG p5
    have ec : Int32.ofNat cap = iI cap := (iI_nI cap).symm
    have cb : cap ≤ 49 := by omega
    by_cases c : n = cap
    · have hc : ∃ cap' : Nat, F_J8_newLength_cabcc (Int32.ofNat cap) (Int32.ofNat cap + 1 - Int32.ofNat cap) (Int32.ofNat cap >>> (1 &&& 31)) = some (Int32.ofNat cap') ∧ cap < cap' ∧ cap' ≤ 64 ∧ (cap' = 10 ∨ cap' = 15 ∨ cap' = 22 ∨ cap' = 33 ∨ cap' = 49) := by
        rcases h4 with rfl | rfl | rfl | rfl | rfl
        · exact ⟨15, by decide, by decide, by decide, by decide⟩
        · exact ⟨22, by decide, by decide, by decide, by decide⟩
        · exact ⟨33, by decide, by decide, by decide, by decide⟩
        · exact ⟨49, by decide, by decide, by decide, by decide⟩
        · omega
      obtain ⟨cap', c1, c2, c3, c4⟩ := hc
      subst c
      obtain ⟨g2, e2, R2⟩ := Ls_grow R1 hG (j := j) (m := m + 1) (cap := cap) (cap' := cap') (f := f) (by rw [ec]; exact p1) p5 (by omega) c1 c2 c3 (fun x hx => by
        obtain ⟨q', hq'⟩ := ho x (by omega) (by omega)
        refine ⟨kd, (el x).toNat, q', ?_, by rw [up_kind _ k0]; exact hq'⟩
        have := h5 x (by omega) (by omega)
        rw [Int.toNat_natCast] at this
        exact this)
      have ea : up ad 50 j g1.1 0 j = ad 0 j := up_kind _ (by decide)
      have ek : ∀ i, up ad 50 j g1.1 kd i = ad kd i := fun i => up_kind _ k5
      have e5 : up ad 50 j g1.1 50 j = g1.1 := up_same _ _ _ _
      obtain ⟨g4, e4, R4⟩ := R2.sr (k := 50) (i := j) (z := cap) (k' := kd) (i' := e.toNat) (by rw [up_kind _ (by decide)]; exact up_same _ _ _ _) (by omega) (by omega) (by omega) (by rw [up_kind _ k0, up_kind _ k5, up_kind (i' := e.toNat) (k' := kd) _ k0]; exact he)
      rw [e5, ek] at e4
      obtain ⟨g6, e6, R6⟩ := R4.sf (k := 0) (i := j) (by rw [up_kind _ (by decide)]; exact up_same _ _ _ _) (j := 2) (by simp) (.int (iI cap + 1))
      rw [ea] at e6
      refine ⟨g6, _, _, ?_, R6, ⟨m + 1, Or.inr ⟨cap', _, ?_, by rw [up_kind _ (by decide)]; exact up_same _ _ _ _, by omega, c4, ?_⟩⟩, ?_, ?_⟩
      · unfold F_Jx4a65c_add_9ea2d
        rw [R.getI h1 (j := 0) rfl, Option.bind_some, e1, Option.bind_some, R1.getR p1 (j := 1) rfl, Option.bind_some, R1.getI p1 (j := 2) rfl, Option.bind_some, Option.bind_some, R1.obj p1, Option.bind_some]
        unfold F_Jx4a65c_add_72be8
        rw [al, Option.bind_some, if_pos ec.symm, R1.obj p1, Option.bind_some, e2]
        simp only [Option.bind_some, e4, e6]
      · rw [up_same, e5, l_1, iI_add]
        rfl
      · intro x x0 x1
        by_cases q : x = cap
        · subst q
          dsimp only
          rw [if_pos rfl, ek]
          exact if_pos (Int.toNat_natCast cap)
        · dsimp only
          rw [if_neg q, ek e.toNat, ek (el x).toNat]
          have h6 := h5 x x0 (by omega)
          have e7 : ¬ x.toNat = (cap : Int).toNat := by omega
          show va_up _ _ _ _ = _
          unfold va_up va_cpy
          rw [if_neg e7, if_pos (by omega), Nat.zero_add, Nat.sub_zero]
          exact h6
      · intro k i n1 n2
        simp only [up, n1, n2, if_false]
      · intro k i n1
        exact if_neg n1
    · obtain ⟨g4, e4, R4⟩ := R1.sr (k := 50) (i := j) (z := n) (k' := kd) (i' := e.toNat) p5 (by omega) (by omega) (by omega) (by rw [up_kind _ k0]; exact he)
      obtain ⟨g6, e6, R6⟩ := R4.sf (k := 0) (i := j) (by rw [up_kind _ (by decide)]; exact p1) (j := 2) (by simp) (.int (iI n + 1))
      refine ⟨g6, _, _, ?_, R6, ⟨m + 1, Or.inr ⟨cap, _, ?_, by rw [up_kind _ (by decide)]; exact up_same _ _ _ _, by omega, h4, ?_⟩⟩, ?_, fun _ _ _ => rfl⟩
      · unfold F_Jx4a65c_add_9ea2d
        rw [R.getI h1 (j := 0) rfl, Option.bind_some, e1, Option.bind_some, R1.getR p1 (j := 1) rfl, Option.bind_some, R1.getI p1 (j := 2) rfl, Option.bind_some, Option.bind_some, R1.obj p1, Option.bind_some]
        unfold F_Jx4a65c_add_72be8
        rw [al, Option.bind_some, if_neg (by rw [ec, iI_eq (by omega) (by omega) (by omega) (by omega)]; exact c), e4, Option.bind_some, e6]
        rfl
      · rw [up_same, l_1, iI_add]
        rfl
      · intro x x0 x1
        by_cases q : x = n
        · subst q
          dsimp only
          rw [if_pos rfl]
          exact if_pos rfl
        · dsimp only
          rw [if_neg q]
          have h6 := h5 x x0 (by omega)
          have e7 : ¬ x.toNat = n.toNat := by omega
          exact (if_neg e7).trans h6
      · intro k i n1 n2
        simp only [up, n1, n2, if_false]
end LS
