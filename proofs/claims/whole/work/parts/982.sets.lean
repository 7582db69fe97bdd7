/-! subsets of items, the first item first; numbers of subsets -/
def tot (f : Nat → Int) : Nat → Nat → Int
  | 0, _ => 0
  | i + 1, A => tot f i (A / 2) + if A % 2 = 1 then f i else 0
theorem tot_s (f : Nat → Int) (i A : Nat) : tot f (i + 1) A = tot f i (A / 2) + if A % 2 = 1 then f i else 0 := rfl
theorem tot_nn {f : Nat → Int} : ∀ (i A : Nat), (∀ j, j < i → 0 ≤ f j) → 0 ≤ tot f i A := by
  intro i
  induction i with
  | zero => intro A _; exact Int.le_refl _
  | succ i ih =>
    intro A hf
    have h1 := ih (A / 2) (fun j hj => hf j (by omega))
    have h2 := hf i (by omega)
    rw [tot_s]
    split <;> omega
theorem tot_le {f : Nat → Int} {c : Int} (c0 : 0 ≤ c) : ∀ (i A : Nat), (∀ j, j < i → f j ≤ c) → tot f i A ≤ c * i := by
  intro i
  induction i with
  | zero => intro A _; simp [tot]
  | succ i ih =>
    intro A hf
    have h1 := ih (A / 2) (fun j hj => hf j (by omega))
    have h2 := hf i (by omega)
    have e : c * ((i + 1 : Nat) : Int) = c * i + c := by rw [Int.natCast_add, Int.mul_add]; simp
    rw [tot_s, e]
    split <;> omega
theorem tot_inc (f : Nat → Int) (i A : Nat) : tot f (i + 1) (2 * A + 1) = tot f i A + f i := by
  rw [tot_s, if_pos (by omega)]
  congr 2; omega
theorem tot_exc (f : Nat → Int) (i A : Nat) : tot f (i + 1) (2 * A) = tot f i A := by
  rw [tot_s, if_neg (by omega), Int.add_zero]
  congr 1; omega
theorem tot_ext (f : Nat → Int) (i j A : Nat) : tot f (i + j) (A * 2 ^ j) = tot f i A := by
  induction j with
  | zero => simp
  | succ j ih =>
    have e : A * 2 ^ (j + 1) = 2 * (A * 2 ^ j) := by rw [Nat.pow_succ, ← Nat.mul_assoc, Nat.mul_comm]
    rw [← Nat.add_assoc, e, tot_exc, ih]
/-- the class's mask of the subset -/
def cm (i A : Nat) : Nat := (tot (fun j => ((2 ^ j : Nat) : Int)) i A).toNat
theorem cm_e (i A : Nat) : (cm i A : Int) = tot (fun j => ((2 ^ j : Nat) : Int)) i A := by
  unfold cm
  exact Int.toNat_of_nonneg (tot_nn i A (fun j _ => Int.natCast_nonneg _))
theorem cm_inc (i A : Nat) : cm (i + 1) (2 * A + 1) = cm i A + 2 ^ i := by
  have h1 := cm_e (i + 1) (2 * A + 1)
  have h2 := cm_e i A
  rw [tot_inc] at h1
  omega
theorem cm_exc (i A : Nat) : cm (i + 1) (2 * A) = cm i A := by
  have h1 := cm_e (i + 1) (2 * A)
  have h2 := cm_e i A
  rw [tot_exc] at h1
  omega
theorem bit_cases (A : Nat) : A = 2 * (A / 2) + 1 ∨ A = 2 * (A / 2) := by omega
theorem cm_lt : ∀ (i A : Nat), cm i A < 2 ^ i := by
  intro i
  induction i with
  | zero => intro A; exact Nat.zero_lt_one
  | succ i ih =>
    intro A
    have h := ih (A / 2)
    have e : 2 ^ (i + 1) = 2 * 2 ^ i := by rw [Nat.pow_succ, Nat.mul_comm]
    rcases bit_cases A with q | q
    · rw [q, cm_inc, e]; omega
    · rw [q, cm_exc, e]; omega
theorem cm_ext (i j A : Nat) : cm (i + j) (A * 2 ^ j) = cm i A := by
  have h1 := cm_e (i + j) (A * 2 ^ j)
  have h2 := cm_e i A
  rw [tot_ext] at h1
  omega
/-- which items are in: the first of i, by the bits -/
def inn (n M j : Nat) : Prop := M / 2 ^ (n - 1 - j) % 2 = 1
theorem cm_bit : ∀ (i A j : Nat), j < i → cm i A / 2 ^ j % 2 = A / 2 ^ (i - 1 - j) % 2 := by
  intro i
  induction i with
  | zero => intro A j hj; omega
  | succ i ih =>
    intro A j hj
    have hl := cm_lt i (A / 2)
    by_cases q : j = i
    · subst q
      have e0 : j + 1 - 1 - j = 0 := by omega
      rw [e0, Nat.pow_zero, Nat.div_one]
      have hp : 0 < 2 ^ j := Nat.two_pow_pos j
      rcases bit_cases A with w | w
      · have : cm (j + 1) A = cm j (A / 2) + 2 ^ j := by
          conv => lhs; rw [w]
          exact cm_inc j (A / 2)
        rw [this, Nat.add_div_right _ hp, Nat.div_eq_of_lt hl]
        omega
      · have : cm (j + 1) A = cm j (A / 2) := by
          conv => lhs; rw [w]
          exact cm_exc j (A / 2)
        rw [this, Nat.div_eq_of_lt hl]
        omega
    · have h := ih (A / 2) j (by omega)
      have e1 : i + 1 - 1 - j = (i - 1 - j) + 1 := by omega
      have e2 : A / 2 ^ (i + 1 - 1 - j) = A / 2 / 2 ^ (i - 1 - j) := by rw [e1, Nat.pow_succ, Nat.mul_comm, Nat.div_div_eq_div_mul]
      rw [e2, ← h]
      rcases bit_cases A with w | w
      · have : cm (i + 1) A = cm i (A / 2) + 2 ^ i := by
          conv => lhs; rw [w]
          exact cm_inc i (A / 2)
        have e3 : 2 ^ i = 2 ^ j * (2 * 2 ^ (i - 1 - j)) := by
          rw [← Nat.pow_succ', ← Nat.pow_add]
          congr 1; omega
        rw [this, e3, Nat.add_mul_div_left _ _ (Nat.two_pow_pos j)]
        omega
      · have : cm (i + 1) A = cm i (A / 2) := by
          conv => lhs; rw [w]
          exact cm_exc i (A / 2)
        rw [this]
theorem pcn_0 : ∀ k, pcn k 0 = 0 := by
  intro k
  induction k with
  | zero => rfl
  | succ k ih => unfold pcn; rw [Nat.zero_div, ih]
theorem pcn_add : ∀ (i k M : Nat), M < 2 ^ i → i < k → pcn k (M + 2 ^ i) = pcn k M + 1 := by
  intro i
  induction i with
  | zero =>
    intro k M hM hk
    obtain ⟨k, rfl⟩ : ∃ k', k = k' + 1 := ⟨k - 1, by omega⟩
    have : M = 0 := by simpa using hM
    subst this
    rw [pcn_0]
    unfold pcn
    have : (0 + 2 ^ 0) / 2 = 0 := by decide
    rw [this, pcn_0]
  | succ i ih =>
    intro k M hM hk
    obtain ⟨k, rfl⟩ : ∃ k', k = k' + 1 := ⟨k - 1, by omega⟩
    have e : 2 ^ (i + 1) = 2 * 2 ^ i := by rw [Nat.pow_succ, Nat.mul_comm]
    unfold pcn
    have e1 : (M + 2 ^ (i + 1)) % 2 = M % 2 := by omega
    have e2 : (M + 2 ^ (i + 1)) / 2 = M / 2 + 2 ^ i := by omega
    rw [e1, e2, ih k (M / 2) (by omega) (by omega)]
    omega
theorem pcn_cm : ∀ (i A k : Nat), i ≤ k → (pcn k (cm i A) : Int) = tot (fun _ => 1) i A := by
  intro i
  induction i with
  | zero => intro A k _; show (pcn k 0 : Int) = 0; rw [pcn_0]; rfl
  | succ i ih =>
    intro A k hk
    have hl := cm_lt i (A / 2)
    rcases bit_cases A with w | w
    · rw [w, cm_inc, tot_inc, pcn_add i k _ hl (by omega), ← ih (A / 2) k (by omega)]
      rfl
    · rw [w, cm_exc, tot_exc, ih (A / 2) k (by omega)]
theorem c_bitCount {i A : Nat} (hi : i ≤ 14) : F_J6_bitCount_0f7a4 (iI (cm i A)) = some (iI (tot (fun _ => 1) i A)) := by
  have hl := cm_lt i A
  have h14 : 2 ^ i ≤ 2 ^ 14 := Nat.pow_le_pow_right (by decide) hi
  have e14 : 2 ^ 14 = 16384 := by decide
  have := bc_all (cm i A) (by omega)
  rw [iI_nI, ← pcn_cm i A 14 hi, iI_nI]
  exact this
theorem shl_n : ∀ n : Fin 15, (1 : Int32) <<< (iI (n.val : Int) &&& 31) = iI ((2 ^ n.val : Nat) : Int) := by decide
theorem sh_31 : ∀ n : Fin 15, iI (n.val : Int) &&& 31 = Int32.ofNat n.val := by decide
theorem or_cm {i A : Nat} (hi : i < 14) : iI (cm i A) ||| ((1 : Int32) <<< (iI (i : Int) &&& 31)) = iI (cm (i + 1) (2 * A + 1)) := by
  have hl := cm_lt i A
  rw [shl_n ⟨i, by omega⟩, cm_inc, iI_nI, iI_nI, iI_nI]
  show Int32.ofNat (cm i A) ||| Int32.ofNat (2 ^ i) = Int32.ofNat (cm i A + 2 ^ i)
  rw [bv_or, Nat.or_comm]
  have := Nat.two_pow_add_eq_or_of_lt hl 1
  rw [Nat.mul_one] at this
  rw [← this, Nat.add_comm]
theorem and_2p (x j : Nat) : x &&& 2 ^ j = if x / 2 ^ j % 2 = 1 then 2 ^ j else 0 := by
  apply Nat.eq_of_testBit_eq
  intro i
  rw [Nat.testBit_and, Nat.testBit_two_pow]
  by_cases h : j = i
  · subst h
    rw [decide_eq_true rfl, Bool.and_true, Nat.testBit_eq_decide_div_mod_eq]
    by_cases c : x / 2 ^ j % 2 = 1
    · rw [if_pos c, decide_eq_true c, Nat.testBit_two_pow_self]
    · rw [if_neg c, decide_eq_false c, Nat.zero_testBit]
  · rw [decide_eq_false h, Bool.and_false]
    split
    · rw [Nat.testBit_two_pow_of_ne h]
    · rw [Nat.zero_testBit]
/-- the class's test of a bit -/
theorem and_cm {n M j : Nat} (hn : n ≤ 14) (hj : j < n) : (iI (cm n M) &&& ((1 : Int32) <<< (iI (j : Int) &&& 31))) = 0 ↔ ¬ inn n M j := by
  have hl := cm_lt n M
  unfold inn
  rw [← cm_bit n M j hj, shl_n ⟨j, by omega⟩, iI_nI, iI_nI]
  show Int32.ofNat (cm n M) &&& Int32.ofNat (2 ^ j) = 0 ↔ _
  rw [bv_and, and_2p]
  have hp : (2 : Nat) ^ j ≤ 2 ^ 13 := Nat.pow_le_pow_right (by decide) (by omega)
  have e13 : 2 ^ 13 = 8192 := by decide
  have hp0 : 0 < (2 : Nat) ^ j := Nat.two_pow_pos j
  by_cases c : cm n M / 2 ^ j % 2 = 1
  · rw [if_pos c]
    constructor
    · intro h
      exfalso
      have h' : iI ((2 ^ j : Nat) : Int) = iI 0 := by rw [iI_nI]; exact h
      have := (iI_eq (by omega) (by omega) (by omega) (by omega)).mp h'
      omega
    · intro h; exact absurd c h
  · rw [if_neg c]
    exact ⟨fun _ => c, fun _ => rfl⟩
/-- the reference's test of a bit -/
theorem shr_M {n M j : Nat} (hn : n ≤ 14) (hj : j < n) (hM : M < 2 ^ n) : ((iI (M : Int) >>> (((iI (n : Int) - 1) - iI (j : Int)) &&& 31)) &&& 1) = 1 ↔ inn n M j := by
  have h14 : 2 ^ n ≤ 2 ^ 14 := Nat.pow_le_pow_right (by decide) hn
  have e14 : 2 ^ 14 = 16384 := by decide
  have e1 : iI (n : Int) - 1 - iI (j : Int) = iI ((n - 1 - j : Nat) : Int) := by
    rw [l_1, iI_sub, iI_sub]; congr 1; omega
  unfold inn
  rw [e1, sh_31 ⟨n - 1 - j, by omega⟩, iI_nI]
  show (Int32.ofNat M >>> Int32.ofNat (n - 1 - j)) &&& Int32.ofNat 1 = 1 ↔ _
  rw [bv_shr M _ (by omega) (by omega), bv_and, Nat.and_one_is_mod]
  have e2 : Int32.ofNat (M / 2 ^ (n - 1 - j) % 2) = iI ((M / 2 ^ (n - 1 - j) % 2 : Nat) : Int) := (iI_nI _).symm
  rw [e2, l_1, iI_eq (by omega) (by omega) (by omega) (by omega)]
  omega
