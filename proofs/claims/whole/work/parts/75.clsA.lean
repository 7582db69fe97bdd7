/-! the class's cells, by the numbers -/
/-- a row's numbers up to its length -/
def cl (n : Int) (g : Int → Int) (t : Int) : Int := if t < n then g t else 0
theorem cl_in {n t : Int} {g : Int → Int} (h : t < n) : cl n g t = g t := if_pos h
def cK (ad : Nat → Nat → Nat) (P : xP) (v : Nat → Int) : Prop := P 10 0 = some (.inr (10, [.ref (ad 0 0), .ref (ad 0 1), .ref (ad 0 2), .ref (ad 0 3), .ref (ad 0 4), .ref (ad 4 0), .ref (ad 5 0), .ref (ad 2 0), .int (iI (v 9)), .int (iI (v 10)), .int (iI (v 11))]))
def cS (G : Nat → Nat) (ad : Nat → Nat → Nat) (P : xP) (v : Nat → Int) (a : Nat → Int → Int) : Prop := ∀ w, 0 ≤ w → w < v 1 → P 7 w.toNat = some (.inr (7, [.ref (ad 0 (5 + w.toNat)), .ref (ad 71 w.toNat), .ref (ad 72 w.toNat)])) ∧ P 71 w.toNat = some (.inl (G 2, 601, .inl (fun t => iI (cl 601 (qa v a w) t)))) ∧ P 72 w.toNat = some (.inl (G 2, 601, .inl (fun t => iI (cl 601 (qb v a w) t))))
def cO (G : Nat → Nat) (ad : Nat → Nat → Nat) (P : xP) (v : Nat → Int) (a : Nat → Int → Int) : Prop := ∀ s, 0 ≤ s → s < v 2 → P 8 s.toNat = some (.inr (8, [.int (iI (a 4 s)), .ref (ad 7 (a 3 s).toNat), .int (iI (a 5 s)), .ref (ad 83 s.toNat), .ref (ad 84 s.toNat)])) ∧ P 83 s.toNat = some (.inl (G 2, 601, .inl (fun t => iI (cl 601 (fun t => a 6 (601 * s + t)) t)))) ∧ P 84 s.toNat = some (.inl (G 3, 200, .inl (fun t => iI (cl 200 (fun t => a 8 (200 * s + t)) t))))
def cP (G : Nat → Nat) (ad : Nat → Nat → Nat) (P : xP) (v : Nat → Int) (a : Nat → Int → Int) : Prop := ∀ p, 0 ≤ p → p < v 15 → P 6 p.toNat = some (.inr (6, [.ref (ad 7 (a 16 p).toNat), .int (iI (a 17 p)), .int (iI (a 18 p)), .int (iI (a 19 p)), .ref (ad 64 p.toNat), .int (iI (a 20 p))])) ∧ P 64 p.toNat = some (.inl (G 3, 601, .inl (fun t => iI (gl a p t))))
def cT (G : Nat → Nat) (ad : Nat → Nat → Nat) (P : xP) (v : Nat → Int) (a : Nat → Int → Int) : Prop := P 4 0 = some (.inr (4, [.ref (ad 40 0), .int (iI (v 24))])) ∧ P 40 0 = some (.inl (G 2, 10, .inl (fun t => iI (a 25 t))))
def cA (ad : Nat → Nat → Nat) (P : xP) (v : Nat → Int) (a : Nat → Int → Int) : Prop := ∀ i, 0 ≤ i → i < v 26 → P 1 i.toNat = some (.inr (1, [.ref (ad 6 (a 27 i).toNat), .int (iI (a 28 i)), .int (iI (a 29 i)), .int (iI (a 30 i))]))
def cH (P : xP) (v : Nat → Int) (a : Nat → Int → Int) : Prop := ∀ c, 0 ≤ c → c < v 33 → P 3 c.toNat = some (.inr (3, [.int (iI (a 34 c)), .int (iI (a 35 c)), .int (iI (a 36 c)), .int (iI (a 37 c)), .int (iI (a 38 c))]))
def cL (G : Nat → Nat) (ad : Nat → Nat → Nat) (P : xP) (v : Nat → Int) (a : Nat → Int → Int) : Prop := ∃ (x5 x7 x8 x9 : Int32) (f0 f1 f2 f3 f4 : Nat → Int32), P 5 0 = some (.inr (5, [.ref (ad 150 0), .ref (ad 151 0), .ref (ad 152 0), .ref (ad 153 0), .ref (ad 154 0), .int x5, .int (iI (v 39)), .int x7, .int x8, .int x9])) ∧ P 150 0 = some (.inl (G 2, 14, .inl f0)) ∧ P 151 0 = some (.inl (G 2, 14, .inl f1)) ∧ P 152 0 = some (.inl (G 2, 14, .inl f2)) ∧ P 153 0 = some (.inl (G 2, 14, .inl f3)) ∧ P 154 0 = some (.inl (G 2, 14, .inl f4)) ∧ ∀ i : Nat, (i : Int) < v 39 → f4 i = iI (a 40 i)
def cQ (G : Nat → Nat) (ad : Nat → Nat → Nat) (P : xP) : Prop := ∃ (x3 x4 : Int32) (f0 f1 f2 : Nat → Int32), P 2 0 = some (.inr (2, [.ref (ad 120 0), .ref (ad 121 0), .ref (ad 122 0), .int x3, .int x4])) ∧ P 120 0 = some (.inl (G 2, 13, .inl f0)) ∧ P 121 0 = some (.inl (G 2, 78, .inl f1)) ∧ P 122 0 = some (.inl (G 2, 1638, .inl f2))
/-- the sources of a service: its list's elements -/
def Ec (v : Nat → Int) (a : Nat → Int → Int) (el : Int → Int → Int) (cn : Int → Int) : Prop := ∀ w, 0 ≤ w → w < v 1 → (0 ≤ cn w ∧ cn w ≤ v 2) ∧ (∀ x, 0 ≤ x → x < cn w → 0 ≤ el w x ∧ el w x < v 2 ∧ a 3 (el w x) = w) ∧ (∀ f : Int → Int, pr (fun x => f (el w x)) (cn w) = pr (fun s => if a 3 s = w then f s else 0) (v 2)) ∧ ∀ s, 0 ≤ s → s < v 2 → a 3 s = w → ∃ x, 0 ≤ x ∧ x < cn w ∧ el w x = s
def cI (G : Nat → Nat) (ad : Nat → Nat → Nat) (P : xP) (v : Nat → Int) (el : Int → Int → Int) (cn : Int → Int) : Prop := Ls G ad P 0 7 (v 1) (fun x => x) ∧ Ls G ad P 1 8 (v 2) (fun x => x) ∧ Ls G ad P 2 6 (v 15) (fun x => x) ∧ Ls G ad P 3 1 (v 26) (fun x => x) ∧ Ls G ad P 4 3 (v 33) (fun x => x) ∧ ∀ w, 0 ≤ w → w < v 1 → Ls G ad P (5 + w.toNat) 8 (cn w) (el w)
def Cc (G : Nat → Nat) (ad : Nat → Nat → Nat) (P : xP) (v : Nat → Int) (a : Nat → Int → Int) (el : Int → Int → Int) (cn : Int → Int) : Prop := cK ad P v ∧ cI G ad P v el cn ∧ cS G ad P v a ∧ cO G ad P v a ∧ cP G ad P v a ∧ cT G ad P v a ∧ cA ad P v a ∧ cH P v a ∧ cL G ad P v a ∧ cQ G ad P ∧ Ec v a el cn
theorem xk_ok {α : Type} {h : xH} {o : Option Nat} {ci b : Nat} {x : Option α} (e : xc h o ci = some b) : xk h o ci x = x := by
  unfold xk
  rw [e]
  exact if_pos (Or.inr rfl)
section CLS
variable {G : Nat → Nat} {h : xH} {ad : Nat → Nat → Nat} {P : xP} {v : Nat → Int} {a : Nat → Int → Int} {el : Int → Int → Int} {cn : Int → Int}
theorem Cc.k (C : Cc G ad P v a el cn) : P 10 0 = some (.inr (10, [.ref (ad 0 0), .ref (ad 0 1), .ref (ad 0 2), .ref (ad 0 3), .ref (ad 0 4), .ref (ad 4 0), .ref (ad 5 0), .ref (ad 2 0), .int (iI (v 9)), .int (iI (v 10)), .int (iI (v 11))])) := C.1
theorem c_within {x y z : Int} (x0 : -2147483648 ≤ x) (x1 : x < 2147483648) (y0 : -2147483648 ≤ y) (y1 : y < 2147483648) (z0 : -2147483648 ≤ z) (z1 : z < 2147483648) : F_X10_within (iI x) (iI y) (iI z) = some (iI (if y ≤ x ∧ x ≤ z then 1 else 0)) := by
  unfold F_X10_within
  by_cases c : x < y
  · simp (disch := omega) only [l_0, l_1, l_2, l_3, l_4, l_5, l_6, l_7, l_8, l_9, l_10, l_12, l_13, l_14, l_15, l_16, l_20, l_21, l_40, l_60, l_78, l_199, l_200, l_300, l_599, l_600, l_601, l_602, l_1000, l_1638, l_10000, l_65536, l_100000, l_1000000, l_m1, L_0, L_1, L_10, L_20, L_1000, L_10000, iI_add, iI_sub, iI_mul, iI_neg, iI_lt, iI_le, iI_eq, iI_max, iI_min, iI_l, jI_i, jI_add, jI_sub, jI_mul, jI_lt, jI_le, jI_eq, kmp_pos, kmp_neg, kmp_le, kmp_ge, if_pos, if_neg, if_true, if_false, true_or, or_true, Option.bind_some, xl, xg]
  · by_cases c2 : z < x
    · simp (disch := omega) only [l_0, l_1, l_2, l_3, l_4, l_5, l_6, l_7, l_8, l_9, l_10, l_12, l_13, l_14, l_15, l_16, l_20, l_21, l_40, l_60, l_78, l_199, l_200, l_300, l_599, l_600, l_601, l_602, l_1000, l_1638, l_10000, l_65536, l_100000, l_1000000, l_m1, L_0, L_1, L_10, L_20, L_1000, L_10000, iI_add, iI_sub, iI_mul, iI_neg, iI_lt, iI_le, iI_eq, iI_max, iI_min, iI_l, jI_i, jI_add, jI_sub, jI_mul, jI_lt, jI_le, jI_eq, kmp_pos, kmp_neg, kmp_le, kmp_ge, if_pos, if_neg, if_true, if_false, true_or, or_true, Option.bind_some, xl, xg]
    · simp (disch := omega) only [l_0, l_1, l_2, l_3, l_4, l_5, l_6, l_7, l_8, l_9, l_10, l_12, l_13, l_14, l_15, l_16, l_20, l_21, l_40, l_60, l_78, l_199, l_200, l_300, l_599, l_600, l_601, l_602, l_1000, l_1638, l_10000, l_65536, l_100000, l_1000000, l_m1, L_0, L_1, L_10, L_20, L_1000, L_10000, iI_add, iI_sub, iI_mul, iI_neg, iI_lt, iI_le, iI_eq, iI_max, iI_min, iI_l, jI_i, jI_add, jI_sub, jI_mul, jI_lt, jI_le, jI_eq, kmp_pos, kmp_neg, kmp_le, kmp_ge, if_pos, if_neg, if_true, if_false, true_or, or_true, Option.bind_some, xl, xg]
theorem c_serviceAt (R : Rep G h ad P) (C : Cc G ad P v a el cn) {w : Int} (w0 : 0 ≤ w) (w1 : w < v 1) (hb : v 1 ≤ 8) : F_X10_serviceAt G h (ad 10 0) (iI w) = some (some (ad 7 w.toNat)) ∧ xc h (some (ad 7 w.toNat)) 7 = some (ad 7 w.toNat) := by
  have L := C.2.1.1
  have e1 := L.size R
  have e2 := L.get R w0 w1 (by omega)
  have e3 := R.obj ((C.2.2.1 w w0 w1).1)
  refine ⟨?_, e3⟩
  simp (disch := omega) only [F_X10_serviceAt, R.getR C.k (j := 0) rfl, e1.1, e1.2, e2, xk_ok e3, l_0, l_1, l_2, l_3, l_4, l_5, l_6, l_7, l_8, l_9, l_10, l_12, l_13, l_14, l_15, l_16, l_20, l_21, l_40, l_60, l_78, l_199, l_200, l_300, l_599, l_600, l_601, l_602, l_1000, l_1638, l_10000, l_65536, l_100000, l_1000000, l_m1, L_0, L_1, L_10, L_20, L_1000, L_10000, iI_add, iI_sub, iI_mul, iI_neg, iI_lt, iI_le, iI_eq, iI_max, iI_min, iI_l, jI_i, jI_add, jI_sub, jI_mul, jI_lt, jI_le, jI_eq, kmp_pos, kmp_neg, kmp_le, kmp_ge, if_pos, if_neg, if_true, if_false, true_or, or_true, Option.bind_some, xl, xg]
theorem c_serviceAtX (R : Rep G h ad P) (C : Cc G ad P v a el cn) {w : Int} (b0 : -2147483648 ≤ w) (b1 : w < 2147483648) (hb0 : 0 ≤ v 1) (hb : v 1 ≤ 8) (hn : ¬ (0 ≤ w ∧ w < v 1)) : F_X10_serviceAt G h (ad 10 0) (iI w) = some none := by
  have L := C.2.1.1
  have e1 := L.size R
  by_cases c : w < 0
  · simp (disch := omega) only [F_X10_serviceAt, l_0, l_1, l_2, l_3, l_4, l_5, l_6, l_7, l_8, l_9, l_10, l_12, l_13, l_14, l_15, l_16, l_20, l_21, l_40, l_60, l_78, l_199, l_200, l_300, l_599, l_600, l_601, l_602, l_1000, l_1638, l_10000, l_65536, l_100000, l_1000000, l_m1, L_0, L_1, L_10, L_20, L_1000, L_10000, iI_add, iI_sub, iI_mul, iI_neg, iI_lt, iI_le, iI_eq, iI_max, iI_min, iI_l, jI_i, jI_add, jI_sub, jI_mul, jI_lt, jI_le, jI_eq, kmp_pos, kmp_neg, kmp_le, kmp_ge, if_pos, if_neg, if_true, if_false, true_or, or_true, Option.bind_some, xl, xg]
  · simp (disch := omega) only [F_X10_serviceAt, R.getR C.k (j := 0) rfl, e1.1, e1.2, l_0, l_1, l_2, l_3, l_4, l_5, l_6, l_7, l_8, l_9, l_10, l_12, l_13, l_14, l_15, l_16, l_20, l_21, l_40, l_60, l_78, l_199, l_200, l_300, l_599, l_600, l_601, l_602, l_1000, l_1638, l_10000, l_65536, l_100000, l_1000000, l_m1, L_0, L_1, L_10, L_20, L_1000, L_10000, iI_add, iI_sub, iI_mul, iI_neg, iI_lt, iI_le, iI_eq, iI_max, iI_min, iI_l, jI_i, jI_add, jI_sub, jI_mul, jI_lt, jI_le, jI_eq, kmp_pos, kmp_neg, kmp_le, kmp_ge, if_pos, if_neg, if_true, if_false, true_or, or_true, Option.bind_some, xl, xg]
theorem c_sourceAt (R : Rep G h ad P) (C : Cc G ad P v a el cn) {w : Int} (w0 : 0 ≤ w) (w1 : w < v 2) (hb : v 2 ≤ 16) : F_X10_sourceAt G h (ad 10 0) (iI w) = some (some (ad 8 w.toNat)) ∧ xc h (some (ad 8 w.toNat)) 8 = some (ad 8 w.toNat) := by
  have L := C.2.1.2.1
  have e1 := L.size R
  have e2 := L.get R w0 w1 (by omega)
  have e3 := R.obj ((C.2.2.2.1 w w0 w1).1)
  refine ⟨?_, e3⟩
  simp (disch := omega) only [F_X10_sourceAt, R.getR C.k (j := 1) rfl, e1.1, e1.2, e2, xk_ok e3, l_0, l_1, l_2, l_3, l_4, l_5, l_6, l_7, l_8, l_9, l_10, l_12, l_13, l_14, l_15, l_16, l_20, l_21, l_40, l_60, l_78, l_199, l_200, l_300, l_599, l_600, l_601, l_602, l_1000, l_1638, l_10000, l_65536, l_100000, l_1000000, l_m1, L_0, L_1, L_10, L_20, L_1000, L_10000, iI_add, iI_sub, iI_mul, iI_neg, iI_lt, iI_le, iI_eq, iI_max, iI_min, iI_l, jI_i, jI_add, jI_sub, jI_mul, jI_lt, jI_le, jI_eq, kmp_pos, kmp_neg, kmp_le, kmp_ge, if_pos, if_neg, if_true, if_false, true_or, or_true, Option.bind_some, xl, xg]
theorem c_sourceAtX (R : Rep G h ad P) (C : Cc G ad P v a el cn) {w : Int} (b0 : -2147483648 ≤ w) (b1 : w < 2147483648) (hb0 : 0 ≤ v 2) (hb : v 2 ≤ 16) (hn : ¬ (0 ≤ w ∧ w < v 2)) : F_X10_sourceAt G h (ad 10 0) (iI w) = some none := by
  have L := C.2.1.2.1
  have e1 := L.size R
  by_cases c : w < 0
  · simp (disch := omega) only [F_X10_sourceAt, l_0, l_1, l_2, l_3, l_4, l_5, l_6, l_7, l_8, l_9, l_10, l_12, l_13, l_14, l_15, l_16, l_20, l_21, l_40, l_60, l_78, l_199, l_200, l_300, l_599, l_600, l_601, l_602, l_1000, l_1638, l_10000, l_65536, l_100000, l_1000000, l_m1, L_0, L_1, L_10, L_20, L_1000, L_10000, iI_add, iI_sub, iI_mul, iI_neg, iI_lt, iI_le, iI_eq, iI_max, iI_min, iI_l, jI_i, jI_add, jI_sub, jI_mul, jI_lt, jI_le, jI_eq, kmp_pos, kmp_neg, kmp_le, kmp_ge, if_pos, if_neg, if_true, if_false, true_or, or_true, Option.bind_some, xl, xg]
  · simp (disch := omega) only [F_X10_sourceAt, R.getR C.k (j := 1) rfl, e1.1, e1.2, l_0, l_1, l_2, l_3, l_4, l_5, l_6, l_7, l_8, l_9, l_10, l_12, l_13, l_14, l_15, l_16, l_20, l_21, l_40, l_60, l_78, l_199, l_200, l_300, l_599, l_600, l_601, l_602, l_1000, l_1638, l_10000, l_65536, l_100000, l_1000000, l_m1, L_0, L_1, L_10, L_20, L_1000, L_10000, iI_add, iI_sub, iI_mul, iI_neg, iI_lt, iI_le, iI_eq, iI_max, iI_min, iI_l, jI_i, jI_add, jI_sub, jI_mul, jI_lt, jI_le, jI_eq, kmp_pos, kmp_neg, kmp_le, kmp_ge, if_pos, if_neg, if_true, if_false, true_or, or_true, Option.bind_some, xl, xg]
theorem c_promiseAt (R : Rep G h ad P) (C : Cc G ad P v a el cn) {w : Int} (w0 : 0 ≤ w) (w1 : w < v 15) (hb : v 15 ≤ 12) : F_X10_promiseAt G h (ad 10 0) (iI w) = some (some (ad 6 w.toNat)) ∧ xc h (some (ad 6 w.toNat)) 6 = some (ad 6 w.toNat) := by
  have L := C.2.1.2.2.1
  have e1 := L.size R
  have e2 := L.get R w0 w1 (by omega)
  have e3 := R.obj ((C.2.2.2.2.1 w w0 w1).1)
  refine ⟨?_, e3⟩
  simp (disch := omega) only [F_X10_promiseAt, R.getR C.k (j := 2) rfl, e1.1, e1.2, e2, xk_ok e3, l_0, l_1, l_2, l_3, l_4, l_5, l_6, l_7, l_8, l_9, l_10, l_12, l_13, l_14, l_15, l_16, l_20, l_21, l_40, l_60, l_78, l_199, l_200, l_300, l_599, l_600, l_601, l_602, l_1000, l_1638, l_10000, l_65536, l_100000, l_1000000, l_m1, L_0, L_1, L_10, L_20, L_1000, L_10000, iI_add, iI_sub, iI_mul, iI_neg, iI_lt, iI_le, iI_eq, iI_max, iI_min, iI_l, jI_i, jI_add, jI_sub, jI_mul, jI_lt, jI_le, jI_eq, kmp_pos, kmp_neg, kmp_le, kmp_ge, if_pos, if_neg, if_true, if_false, true_or, or_true, Option.bind_some, xl, xg]
theorem c_promiseAtX (R : Rep G h ad P) (C : Cc G ad P v a el cn) {w : Int} (b0 : -2147483648 ≤ w) (b1 : w < 2147483648) (hb0 : 0 ≤ v 15) (hb : v 15 ≤ 12) (hn : ¬ (0 ≤ w ∧ w < v 15)) : F_X10_promiseAt G h (ad 10 0) (iI w) = some none := by
  have L := C.2.1.2.2.1
  have e1 := L.size R
  by_cases c : w < 0
  · simp (disch := omega) only [F_X10_promiseAt, l_0, l_1, l_2, l_3, l_4, l_5, l_6, l_7, l_8, l_9, l_10, l_12, l_13, l_14, l_15, l_16, l_20, l_21, l_40, l_60, l_78, l_199, l_200, l_300, l_599, l_600, l_601, l_602, l_1000, l_1638, l_10000, l_65536, l_100000, l_1000000, l_m1, L_0, L_1, L_10, L_20, L_1000, L_10000, iI_add, iI_sub, iI_mul, iI_neg, iI_lt, iI_le, iI_eq, iI_max, iI_min, iI_l, jI_i, jI_add, jI_sub, jI_mul, jI_lt, jI_le, jI_eq, kmp_pos, kmp_neg, kmp_le, kmp_ge, if_pos, if_neg, if_true, if_false, true_or, or_true, Option.bind_some, xl, xg]
  · simp (disch := omega) only [F_X10_promiseAt, R.getR C.k (j := 2) rfl, e1.1, e1.2, l_0, l_1, l_2, l_3, l_4, l_5, l_6, l_7, l_8, l_9, l_10, l_12, l_13, l_14, l_15, l_16, l_20, l_21, l_40, l_60, l_78, l_199, l_200, l_300, l_599, l_600, l_601, l_602, l_1000, l_1638, l_10000, l_65536, l_100000, l_1000000, l_m1, L_0, L_1, L_10, L_20, L_1000, L_10000, iI_add, iI_sub, iI_mul, iI_neg, iI_lt, iI_le, iI_eq, iI_max, iI_min, iI_l, jI_i, jI_add, jI_sub, jI_mul, jI_lt, jI_le, jI_eq, kmp_pos, kmp_neg, kmp_le, kmp_ge, if_pos, if_neg, if_true, if_false, true_or, or_true, Option.bind_some, xl, xg]
theorem c_alarmAt (R : Rep G h ad P) (C : Cc G ad P v a el cn) {w : Int} (w0 : 0 ≤ w) (w1 : w < v 26) (hb : v 26 ≤ 8) : F_X10_alarmAt G h (ad 10 0) (iI w) = some (some (ad 1 w.toNat)) ∧ xc h (some (ad 1 w.toNat)) 1 = some (ad 1 w.toNat) := by
  have L := C.2.1.2.2.2.1
  have e1 := L.size R
  have e2 := L.get R w0 w1 (by omega)
  have e3 := R.obj (C.2.2.2.2.2.2.1 w w0 w1)
  refine ⟨?_, e3⟩
  simp (disch := omega) only [F_X10_alarmAt, R.getR C.k (j := 3) rfl, e1.1, e1.2, e2, xk_ok e3, l_0, l_1, l_2, l_3, l_4, l_5, l_6, l_7, l_8, l_9, l_10, l_12, l_13, l_14, l_15, l_16, l_20, l_21, l_40, l_60, l_78, l_199, l_200, l_300, l_599, l_600, l_601, l_602, l_1000, l_1638, l_10000, l_65536, l_100000, l_1000000, l_m1, L_0, L_1, L_10, L_20, L_1000, L_10000, iI_add, iI_sub, iI_mul, iI_neg, iI_lt, iI_le, iI_eq, iI_max, iI_min, iI_l, jI_i, jI_add, jI_sub, jI_mul, jI_lt, jI_le, jI_eq, kmp_pos, kmp_neg, kmp_le, kmp_ge, if_pos, if_neg, if_true, if_false, true_or, or_true, Option.bind_some, xl, xg]
theorem c_alarmAtX (R : Rep G h ad P) (C : Cc G ad P v a el cn) {w : Int} (b0 : -2147483648 ≤ w) (b1 : w < 2147483648) (hb0 : 0 ≤ v 26) (hb : v 26 ≤ 8) (hn : ¬ (0 ≤ w ∧ w < v 26)) : F_X10_alarmAt G h (ad 10 0) (iI w) = some none := by
  have L := C.2.1.2.2.2.1
  have e1 := L.size R
  by_cases c : w < 0
  · simp (disch := omega) only [F_X10_alarmAt, l_0, l_1, l_2, l_3, l_4, l_5, l_6, l_7, l_8, l_9, l_10, l_12, l_13, l_14, l_15, l_16, l_20, l_21, l_40, l_60, l_78, l_199, l_200, l_300, l_599, l_600, l_601, l_602, l_1000, l_1638, l_10000, l_65536, l_100000, l_1000000, l_m1, L_0, L_1, L_10, L_20, L_1000, L_10000, iI_add, iI_sub, iI_mul, iI_neg, iI_lt, iI_le, iI_eq, iI_max, iI_min, iI_l, jI_i, jI_add, jI_sub, jI_mul, jI_lt, jI_le, jI_eq, kmp_pos, kmp_neg, kmp_le, kmp_ge, if_pos, if_neg, if_true, if_false, true_or, or_true, Option.bind_some, xl, xg]
  · simp (disch := omega) only [F_X10_alarmAt, R.getR C.k (j := 3) rfl, e1.1, e1.2, l_0, l_1, l_2, l_3, l_4, l_5, l_6, l_7, l_8, l_9, l_10, l_12, l_13, l_14, l_15, l_16, l_20, l_21, l_40, l_60, l_78, l_199, l_200, l_300, l_599, l_600, l_601, l_602, l_1000, l_1638, l_10000, l_65536, l_100000, l_1000000, l_m1, L_0, L_1, L_10, L_20, L_1000, L_10000, iI_add, iI_sub, iI_mul, iI_neg, iI_lt, iI_le, iI_eq, iI_max, iI_min, iI_l, jI_i, jI_add, jI_sub, jI_mul, jI_lt, jI_le, jI_eq, kmp_pos, kmp_neg, kmp_le, kmp_ge, if_pos, if_neg, if_true, if_false, true_or, or_true, Option.bind_some, xl, xg]
theorem c_changeAt (R : Rep G h ad P) (C : Cc G ad P v a el cn) {w : Int} (w0 : 0 ≤ w) (w1 : w < v 33) (hb : v 33 ≤ 40) : F_X10_changeAt G h (ad 10 0) (iI w) = some (some (ad 3 w.toNat)) ∧ xc h (some (ad 3 w.toNat)) 3 = some (ad 3 w.toNat) := by
  have L := C.2.1.2.2.2.2.1
  have e1 := L.size R
  have e2 := L.get R w0 w1 (by omega)
  have e3 := R.obj (C.2.2.2.2.2.2.2.1 w w0 w1)
  refine ⟨?_, e3⟩
  simp (disch := omega) only [F_X10_changeAt, R.getR C.k (j := 4) rfl, e1.1, e1.2, e2, xk_ok e3, l_0, l_1, l_2, l_3, l_4, l_5, l_6, l_7, l_8, l_9, l_10, l_12, l_13, l_14, l_15, l_16, l_20, l_21, l_40, l_60, l_78, l_199, l_200, l_300, l_599, l_600, l_601, l_602, l_1000, l_1638, l_10000, l_65536, l_100000, l_1000000, l_m1, L_0, L_1, L_10, L_20, L_1000, L_10000, iI_add, iI_sub, iI_mul, iI_neg, iI_lt, iI_le, iI_eq, iI_max, iI_min, iI_l, jI_i, jI_add, jI_sub, jI_mul, jI_lt, jI_le, jI_eq, kmp_pos, kmp_neg, kmp_le, kmp_ge, if_pos, if_neg, if_true, if_false, true_or, or_true, Option.bind_some, xl, xg]
theorem c_changeAtX (R : Rep G h ad P) (C : Cc G ad P v a el cn) {w : Int} (b0 : -2147483648 ≤ w) (b1 : w < 2147483648) (hb0 : 0 ≤ v 33) (hb : v 33 ≤ 40) (hn : ¬ (0 ≤ w ∧ w < v 33)) : F_X10_changeAt G h (ad 10 0) (iI w) = some none := by
  have L := C.2.1.2.2.2.2.1
  have e1 := L.size R
  by_cases c : w < 0
  · simp (disch := omega) only [F_X10_changeAt, l_0, l_1, l_2, l_3, l_4, l_5, l_6, l_7, l_8, l_9, l_10, l_12, l_13, l_14, l_15, l_16, l_20, l_21, l_40, l_60, l_78, l_199, l_200, l_300, l_599, l_600, l_601, l_602, l_1000, l_1638, l_10000, l_65536, l_100000, l_1000000, l_m1, L_0, L_1, L_10, L_20, L_1000, L_10000, iI_add, iI_sub, iI_mul, iI_neg, iI_lt, iI_le, iI_eq, iI_max, iI_min, iI_l, jI_i, jI_add, jI_sub, jI_mul, jI_lt, jI_le, jI_eq, kmp_pos, kmp_neg, kmp_le, kmp_ge, if_pos, if_neg, if_true, if_false, true_or, or_true, Option.bind_some, xl, xg]
  · simp (disch := omega) only [F_X10_changeAt, R.getR C.k (j := 4) rfl, e1.1, e1.2, l_0, l_1, l_2, l_3, l_4, l_5, l_6, l_7, l_8, l_9, l_10, l_12, l_13, l_14, l_15, l_16, l_20, l_21, l_40, l_60, l_78, l_199, l_200, l_300, l_599, l_600, l_601, l_602, l_1000, l_1638, l_10000, l_65536, l_100000, l_1000000, l_m1, L_0, L_1, L_10, L_20, L_1000, L_10000, iI_add, iI_sub, iI_mul, iI_neg, iI_lt, iI_le, iI_eq, iI_max, iI_min, iI_l, jI_i, jI_add, jI_sub, jI_mul, jI_lt, jI_le, jI_eq, kmp_pos, kmp_neg, kmp_le, kmp_ge, if_pos, if_neg, if_true, if_false, true_or, or_true, Option.bind_some, xl, xg]
theorem c_toCome (R : Rep G h ad P) (C : Cc G ad P v a el cn) (I : Iv v a) {s t : Int} (s0 : 0 ≤ s) (s1 : s < v 2) (h0 : 0 ≤ t) (h1 : t ≤ 600) : F_X8_toCome G h (ad 8 s.toNat) (iI t) (iI (v 9)) = some (iI (if t < v 9 - a 4 s then 0 else a 5 s - a 6 (601 * s + t))) := by
  have hc := C.2.2.2.1 s s0 s1
  obtain ⟨i1, i2, i9, i15, i24, i26, i33, i39, hs, -⟩ := I
  have hs' := hs s s0 s1
  unfold F_X8_toCome F_X8_isOpen
  by_cases c : t < v 9 - a 4 s
  · simp (disch := omega) only [R.obj hc.1, R.getI hc.1 (j := 0) rfl, l_0, l_1, l_2, l_3, l_4, l_5, l_6, l_7, l_8, l_9, l_10, l_12, l_13, l_14, l_15, l_16, l_20, l_21, l_40, l_60, l_78, l_199, l_200, l_300, l_599, l_600, l_601, l_602, l_1000, l_1638, l_10000, l_65536, l_100000, l_1000000, l_m1, L_0, L_1, L_10, L_20, L_1000, L_10000, iI_add, iI_sub, iI_mul, iI_neg, iI_lt, iI_le, iI_eq, iI_max, iI_min, iI_l, jI_i, jI_add, jI_sub, jI_mul, jI_lt, jI_le, jI_eq, kmp_pos, kmp_neg, kmp_le, kmp_ge, if_pos, if_neg, if_true, if_false, true_or, or_true, Option.bind_some, xl, xg]
  · simp (disch := omega) only [R.obj hc.1, R.getI hc.1 (j := 0) rfl, R.getI hc.1 (j := 2) rfl, R.getR hc.1 (j := 3) rfl, R.ai (g := cl 601 (fun t => a 6 (601 * s + t))) hc.2.1 (fun _ => rfl), cl_in, l_0, l_1, l_2, l_3, l_4, l_5, l_6, l_7, l_8, l_9, l_10, l_12, l_13, l_14, l_15, l_16, l_20, l_21, l_40, l_60, l_78, l_199, l_200, l_300, l_599, l_600, l_601, l_602, l_1000, l_1638, l_10000, l_65536, l_100000, l_1000000, l_m1, L_0, L_1, L_10, L_20, L_1000, L_10000, iI_add, iI_sub, iI_mul, iI_neg, iI_lt, iI_le, iI_eq, iI_max, iI_min, iI_l, jI_i, jI_add, jI_sub, jI_mul, jI_lt, jI_le, jI_eq, kmp_pos, kmp_neg, kmp_le, kmp_ge, if_pos, if_neg, if_true, if_false, true_or, or_true, Option.bind_some, xl, xg]
theorem c_toComeAt (R : Rep G h ad P) (C : Cc G ad P v a el cn) (I : Iv v a) {w t : Int} (w0 : 0 ≤ w) (w1 : w < v 1) (h0 : 0 ≤ t) (h1 : t ≤ 600) : F_X7_toComeAt G h (ad 7 w.toNat) (iI t) (iI (v 9)) = some (iI (qo v a w t)) := by
  have hc := C.2.2.1 w w0 w1
  have hl := C.2.1.2.2.2.2.2 w w0 w1
  obtain ⟨⟨n0, n1⟩, hx, hsum, -⟩ := C.2.2.2.2.2.2.2.2.2.2 w w0 w1
  have i2 := I.2.1
  have e1 := hl.size R
  have hq : qo v a w t = pr (fun x => (fun s => if t < v 9 - a 4 s then 0 else a 5 s - a 6 (601 * s + t)) (el w x)) (cn w) := (hsum _).symm
  rw [hq]
  unfold F_X7_toComeAt
  refine up_eq (fun n (q : Int32 × Int32) => F_X7_toComeAt_5 G h (ad 7 w.toNat) (iI t) (iI (v 9)) n q.1 q.2) (fun i q => 0 ≤ i ∧ q = (iI (pr (fun x => (fun s => if t < v 9 - a 4 s then 0 else a 5 s - a 6 (601 * s + t)) (el w x)) i), iI i)) _ (cn w) ?_ ?_ xN 0 (0, 0) ⟨by omega, rfl⟩ (by omega) (by unfold xN; omega)
  · rintro n i q ⟨hi, rfl⟩ hlt
    right
    refine ⟨_, ⟨by omega, rfl⟩, ?_⟩
    have hx' := hx i hi hlt
    have hc' := C.2.2.2.1 (el w i) hx'.1 hx'.2.1
    have e2 := hl.get R hi hlt (by omega)
    have e3 := c_toCome R C I hx'.1 hx'.2.1 h0 h1
    dsimp only
    simp only [pr_1 _ hi]
    simp (disch := omega) only [F_X7_toComeAt_5, R.getR hc.1 (j := 0) rfl, e1.1, e1.2, e2, xk_ok (R.obj hc'.1), R.obj hc'.1, e3, l_0, l_1, l_2, l_3, l_4, l_5, l_6, l_7, l_8, l_9, l_10, l_12, l_13, l_14, l_15, l_16, l_20, l_21, l_40, l_60, l_78, l_199, l_200, l_300, l_599, l_600, l_601, l_602, l_1000, l_1638, l_10000, l_65536, l_100000, l_1000000, l_m1, L_0, L_1, L_10, L_20, L_1000, L_10000, iI_add, iI_sub, iI_mul, iI_neg, iI_lt, iI_le, iI_eq, iI_max, iI_min, iI_l, jI_i, jI_add, jI_sub, jI_mul, jI_lt, jI_le, jI_eq, kmp_pos, kmp_neg, kmp_le, kmp_ge, if_pos, if_neg, if_true, if_false, true_or, or_true, Option.bind_some, xl, xg]
  · rintro n q ⟨hi, rfl⟩
    dsimp only
    simp (disch := omega) only [F_X7_toComeAt_5, R.getR hc.1 (j := 0) rfl, e1.1, e1.2, l_0, l_1, l_2, l_3, l_4, l_5, l_6, l_7, l_8, l_9, l_10, l_12, l_13, l_14, l_15, l_16, l_20, l_21, l_40, l_60, l_78, l_199, l_200, l_300, l_599, l_600, l_601, l_602, l_1000, l_1638, l_10000, l_65536, l_100000, l_1000000, l_m1, L_0, L_1, L_10, L_20, L_1000, L_10000, iI_add, iI_sub, iI_mul, iI_neg, iI_lt, iI_le, iI_eq, iI_max, iI_min, iI_l, jI_i, jI_add, jI_sub, jI_mul, jI_lt, jI_le, jI_eq, kmp_pos, kmp_neg, kmp_le, kmp_ge, if_pos, if_neg, if_true, if_false, true_or, or_true, Option.bind_some, xl, xg]
theorem c_latest (R : Rep G h ad P) (C : Cc G ad P v a el cn) (I : Iv v a) {w : Int} (w0 : 0 ≤ w) (w1 : w < v 1) : ∃ z, F_X7_latest G h (ad 7 w.toNat) = some (iI z) ∧ 0 ≤ z ∧ z ≤ 60 ∧ (∀ x, 0 ≤ x → x < cn w → a 4 (el w x) ≤ z) ∧ (z = 0 ∨ ∃ x, 0 ≤ x ∧ x < cn w ∧ z = a 4 (el w x)) := by
  have hc := C.2.2.1 w w0 w1
  have hl := C.2.1.2.2.2.2.2 w w0 w1
  obtain ⟨⟨n0, n1⟩, hx, hsum, -⟩ := C.2.2.2.2.2.2.2.2.2.2 w w0 w1
  obtain ⟨i1, i2, i9, i15, i24, i26, i33, i39, hs, -⟩ := I
  have e1 := hl.size R
  have := up_loop (fun n (q : Int32 × Int32) => F_X7_latest_4 G h (ad 7 w.toNat) n q.1 q.2) (fun i q => 0 ≤ i ∧ ∃ z, q = (iI z, iI i) ∧ 0 ≤ z ∧ z ≤ 60 ∧ (∀ x, 0 ≤ x → x < i → a 4 (el w x) ≤ z) ∧ (z = 0 ∨ ∃ x, 0 ≤ x ∧ x < i ∧ z = a 4 (el w x))) (fun r => ∃ z, r = iI z ∧ 0 ≤ z ∧ z ≤ 60 ∧ (∀ x, 0 ≤ x → x < cn w → a 4 (el w x) ≤ z) ∧ (z = 0 ∨ ∃ x, 0 ≤ x ∧ x < cn w ∧ z = a 4 (el w x))) (cn w) ?_ ?_ xN 0 (0, 0) ⟨by omega, 0, rfl, by omega, by omega, fun x _ _ => by omega, Or.inl rfl⟩ (by omega) (by unfold xN; omega)
  · obtain ⟨r, e, z, rfl, hz⟩ := this
    exact ⟨z, e, hz⟩
  · rintro n i q ⟨hi, z, rfl, z0, z1, z2, z3⟩ hlt
    right
    have hx' := hx i hi hlt
    have hs' := hs _ hx'.1 hx'.2.1
    have hc' := C.2.2.2.1 (el w i) hx'.1 hx'.2.1
    have e2 := hl.get R hi hlt (by omega)
    refine ⟨_, ⟨by omega, max z (a 4 (el w i)), rfl, by omega, by omega, fun x x0 x1 => if q : x = i then by rw [q]; omega else by have := z2 x x0 (by omega); omega, ?_⟩, ?_⟩
    · by_cases c : z ≤ a 4 (el w i)
      · exact Or.inr ⟨i, hi, by omega, by omega⟩
      · rcases z3 with z3 | ⟨x, x0, x1, x2⟩
        · omega
        · exact Or.inr ⟨x, x0, by omega, by omega⟩
    · dsimp only
      simp (disch := omega) only [F_X7_latest_4, R.getR hc.1 (j := 0) rfl, e1.1, e1.2, e2, xk_ok (R.obj hc'.1), R.getI hc'.1 (j := 0) rfl, l_0, l_1, l_2, l_3, l_4, l_5, l_6, l_7, l_8, l_9, l_10, l_12, l_13, l_14, l_15, l_16, l_20, l_21, l_40, l_60, l_78, l_199, l_200, l_300, l_599, l_600, l_601, l_602, l_1000, l_1638, l_10000, l_65536, l_100000, l_1000000, l_m1, L_0, L_1, L_10, L_20, L_1000, L_10000, iI_add, iI_sub, iI_mul, iI_neg, iI_lt, iI_le, iI_eq, iI_max, iI_min, iI_l, jI_i, jI_add, jI_sub, jI_mul, jI_lt, jI_le, jI_eq, kmp_pos, kmp_neg, kmp_le, kmp_ge, if_pos, if_neg, if_true, if_false, true_or, or_true, Option.bind_some, xl, xg]
  · rintro n q ⟨hi, z, rfl, hz⟩
    refine ⟨_, ?_, z, rfl, hz⟩
    dsimp only
    simp (disch := omega) only [F_X7_latest_4, R.getR hc.1 (j := 0) rfl, e1.1, e1.2, l_0, l_1, l_2, l_3, l_4, l_5, l_6, l_7, l_8, l_9, l_10, l_12, l_13, l_14, l_15, l_16, l_20, l_21, l_40, l_60, l_78, l_199, l_200, l_300, l_599, l_600, l_601, l_602, l_1000, l_1638, l_10000, l_65536, l_100000, l_1000000, l_m1, L_0, L_1, L_10, L_20, L_1000, L_10000, iI_add, iI_sub, iI_mul, iI_neg, iI_lt, iI_le, iI_eq, iI_max, iI_min, iI_l, jI_i, jI_add, jI_sub, jI_mul, jI_lt, jI_le, jI_eq, kmp_pos, kmp_neg, kmp_le, kmp_ge, if_pos, if_neg, if_true, if_false, true_or, or_true, Option.bind_some, xl, xg]
/-- a row of a service is added up -/
theorem c_total (R : Rep G h ad P) (hG : G 1 < G 0) {k i : Nat} {g : Int → Int} (hp : P k i = some (.inl (G 2, 601, .inl (fun t => iI (g t))))) {lo hi : Int} (h0 : -1000 ≤ lo) (h1 : max lo 0 ≤ hi + 1) (h2 : hi ≤ 600) : F_X7_total G h (ad k i) (iI lo) (iI hi) = some (iI (pr g (hi + 1) - pr g (max lo 0))) := by
  have al := aln_int R hG hp
  have a6 : Int32.ofNat 601 = iI 601 := rfl
  rw [a6] at al
  unfold F_X7_total
  simp (disch := omega) only [xl, l_0, iI_max]
  have hm : 0 ≤ max lo 0 := by omega
  refine up_eq (fun n (q : Int32 × Int32) => F_X7_total_9 G h (ad k i) (iI hi) n q.1 q.2) (fun i q => max lo 0 ≤ i ∧ q = (iI (pr g i - pr g (max lo 0)), iI i)) _ (hi + 1) ?_ ?_ xN (max lo 0) (iI 0, iI (max lo 0)) ⟨by omega, by rw [Int.sub_self]⟩ (by omega) (by unfold xN; omega)
  · rintro n j q ⟨hj, rfl⟩ hlt
    right
    refine ⟨_, ⟨by omega, rfl⟩, ?_⟩
    dsimp only
    simp only [pr_1 _ (show 0 ≤ j by omega)]
    simp (disch := omega) only [F_X7_total_9, al, R.ai (g := g) hp (fun _ => rfl), l_0, l_1, l_2, l_3, l_4, l_5, l_6, l_7, l_8, l_9, l_10, l_12, l_13, l_14, l_15, l_16, l_20, l_21, l_40, l_60, l_78, l_199, l_200, l_300, l_599, l_600, l_601, l_602, l_1000, l_1638, l_10000, l_65536, l_100000, l_1000000, l_m1, L_0, L_1, L_10, L_20, L_1000, L_10000, iI_add, iI_sub, iI_mul, iI_neg, iI_lt, iI_le, iI_eq, iI_max, iI_min, iI_l, jI_i, jI_add, jI_sub, jI_mul, jI_lt, jI_le, jI_eq, kmp_pos, kmp_neg, kmp_le, kmp_ge, if_pos, if_neg, if_true, if_false, true_or, or_true, Option.bind_some, xl, xg]
    congr 2; omega
  · rintro n q ⟨hj, rfl⟩
    dsimp only
    simp (disch := omega) only [F_X7_total_9, l_0, l_1, l_2, l_3, l_4, l_5, l_6, l_7, l_8, l_9, l_10, l_12, l_13, l_14, l_15, l_16, l_20, l_21, l_40, l_60, l_78, l_199, l_200, l_300, l_599, l_600, l_601, l_602, l_1000, l_1638, l_10000, l_65536, l_100000, l_1000000, l_m1, L_0, L_1, L_10, L_20, L_1000, L_10000, iI_add, iI_sub, iI_mul, iI_neg, iI_lt, iI_le, iI_eq, iI_max, iI_min, iI_l, jI_i, jI_add, jI_sub, jI_mul, jI_lt, jI_le, jI_eq, kmp_pos, kmp_neg, kmp_le, kmp_ge, if_pos, if_neg, if_true, if_false, true_or, or_true, Option.bind_some, xl, xg]
theorem c_asksIn (R : Rep G h ad P) (C : Cc G ad P v a el cn) (hG : G 1 < G 0) {w lo hi : Int} (w0 : 0 ≤ w) (w1 : w < v 1) (h0 : -1000 ≤ lo) (h1 : max lo 0 ≤ hi + 1) (h2 : hi ≤ 600) : F_X7_asksIn G h (ad 7 w.toNat) (iI lo) (iI hi) = some (iI (pr (qa v a w) (hi + 1) - pr (qa v a w) (max lo 0))) := by
  have hc := C.2.2.1 w w0 w1
  simp only [F_X7_asksIn, R.getR hc.1 (j := 1) rfl, Option.bind_some, c_total R hG (g := cl 601 (qa v a w)) hc.2.1 h0 h1 h2]
  rw [pr_congr (f := cl 601 (qa v a w)) (g := qa v a w) (z := hi + 1) (fun j _ _ => cl_in (by omega)), pr_congr (f := cl 601 (qa v a w)) (g := qa v a w) (z := max lo 0) (fun j _ _ => cl_in (by omega))]
theorem c_badIn (R : Rep G h ad P) (C : Cc G ad P v a el cn) (hG : G 1 < G 0) {w lo hi : Int} (w0 : 0 ≤ w) (w1 : w < v 1) (h0 : -1000 ≤ lo) (h1 : max lo 0 ≤ hi + 1) (h2 : hi ≤ 600) : F_X7_badIn G h (ad 7 w.toNat) (iI lo) (iI hi) = some (iI (pr (qb v a w) (hi + 1) - pr (qb v a w) (max lo 0))) := by
  have hc := C.2.2.1 w w0 w1
  simp only [F_X7_badIn, R.getR hc.1 (j := 2) rfl, Option.bind_some, c_total R hG (g := cl 601 (qb v a w)) hc.2.2 h0 h1 h2]
  rw [pr_congr (f := cl 601 (qb v a w)) (g := qb v a w) (z := hi + 1) (fun j _ _ => cl_in (by omega)), pr_congr (f := cl 601 (qb v a w)) (g := qb v a w) (z := max lo 0) (fun j _ _ => cl_in (by omega))]
theorem c_toComeIn (R : Rep G h ad P) (C : Cc G ad P v a el cn) (I : Iv v a) {w lo hi : Int} (w0 : 0 ≤ w) (w1 : w < v 1) (h0 : 0 ≤ lo) (h1 : lo ≤ hi) (h2 : hi ≤ 600) : F_X7_toComeIn G h (ad 7 w.toNat) (iI lo) (iI hi) (iI (v 9)) = some (iI (pr (qo v a w) (hi + 1) - pr (qo v a w) lo)) := by
  have hc := C.2.2.1 w w0 w1
  unfold F_X7_toComeIn
  simp (disch := omega) only [xl, l_0, iI_max]
  have hm : max lo 0 = lo := by omega
  rw [hm]
  refine up_eq (fun n (q : Int32 × Int32) => F_X7_toComeIn_10 G h (ad 7 w.toNat) (iI hi) (iI (v 9)) n q.1 q.2) (fun i q => lo ≤ i ∧ q = (iI (pr (qo v a w) i - pr (qo v a w) lo), iI i)) _ (hi + 1) ?_ ?_ xN lo (iI 0, iI lo) ⟨by omega, by rw [Int.sub_self]⟩ (by omega) (by unfold xN; omega)
  · rintro n j q ⟨hj, rfl⟩ hlt
    right
    refine ⟨_, ⟨by omega, rfl⟩, ?_⟩
    dsimp only
    simp only [pr_1 _ (show 0 ≤ j by omega)]
    simp (disch := omega) only [F_X7_toComeIn_10, R.obj hc.1, c_toComeAt R C I w0 w1 (show 0 ≤ j by omega) (show j ≤ 600 by omega), l_0, l_1, l_2, l_3, l_4, l_5, l_6, l_7, l_8, l_9, l_10, l_12, l_13, l_14, l_15, l_16, l_20, l_21, l_40, l_60, l_78, l_199, l_200, l_300, l_599, l_600, l_601, l_602, l_1000, l_1638, l_10000, l_65536, l_100000, l_1000000, l_m1, L_0, L_1, L_10, L_20, L_1000, L_10000, iI_add, iI_sub, iI_mul, iI_neg, iI_lt, iI_le, iI_eq, iI_max, iI_min, iI_l, jI_i, jI_add, jI_sub, jI_mul, jI_lt, jI_le, jI_eq, kmp_pos, kmp_neg, kmp_le, kmp_ge, if_pos, if_neg, if_true, if_false, true_or, or_true, Option.bind_some, xl, xg]
    congr 2; omega
  · rintro n q ⟨hj, rfl⟩
    dsimp only
    simp (disch := omega) only [F_X7_toComeIn_10, l_0, l_1, l_2, l_3, l_4, l_5, l_6, l_7, l_8, l_9, l_10, l_12, l_13, l_14, l_15, l_16, l_20, l_21, l_40, l_60, l_78, l_199, l_200, l_300, l_599, l_600, l_601, l_602, l_1000, l_1638, l_10000, l_65536, l_100000, l_1000000, l_m1, L_0, L_1, L_10, L_20, L_1000, L_10000, iI_add, iI_sub, iI_mul, iI_neg, iI_lt, iI_le, iI_eq, iI_max, iI_min, iI_l, jI_i, jI_add, jI_sub, jI_mul, jI_lt, jI_le, jI_eq, kmp_pos, kmp_neg, kmp_le, kmp_ge, if_pos, if_neg, if_true, if_false, true_or, or_true, Option.bind_some, xl, xg]
end CLS
