/-! bits -/
theorem bv_or (a b : Nat) : Int32.ofNat a ||| Int32.ofNat b = Int32.ofNat (a ||| b) := by
  apply Int32.toBitVec_inj.1
  apply BitVec.eq_of_toNat_eq
  simp
theorem bv_and (a b : Nat) : Int32.ofNat a &&& Int32.ofNat b = Int32.ofNat (a &&& b) := by
  apply Int32.toBitVec_inj.1
  apply BitVec.eq_of_toNat_eq
  simp
theorem bv_shr (a s : Nat) (ha : a < 2 ^ 31) (hs : s < 32) : Int32.ofNat a >>> Int32.ofNat s = Int32.ofNat (a / 2 ^ s) := by
  apply Int32.toBitVec_inj.1
  rw [Int32.toBitVec_shiftRight]
  have hm : (Int32.ofNat a).toBitVec.msb = false := by
    rw [Int32.toBitVec_ofNat', BitVec.msb_eq_decide]
    simp
    omega
  have h2 : ((Int32.ofNat s).toBitVec.smod 32).toNat = s := by
    have : ∀ s : Fin 32, ((Int32.ofNat s.val).toBitVec.smod 32).toNat = s.val := by decide
    exact this ⟨s, hs⟩
  rw [BitVec.sshiftRight', BitVec.sshiftRight_eq_of_msb_false hm, h2]
  apply BitVec.eq_of_toNat_eq
  rw [BitVec.toNat_ushiftRight, Int32.toBitVec_ofNat', Int32.toBitVec_ofNat', BitVec.toNat_ofNat, BitVec.toNat_ofNat, Nat.shiftRight_eq_div_pow, Nat.mod_eq_of_lt (by omega), Nat.mod_eq_of_lt]
  have := Nat.div_le_self a (2 ^ s)
  omega
def pcn : Nat → Nat → Nat
  | 0, _ => 0
  | k + 1, M => M % 2 + pcn k (M / 2)
theorem bc_0 : ∀ a : Fin 8, ∀ b : Fin 128, F_J6_bitCount_0f7a4 (Int32.ofNat (128 * (8 * 0 + a.val) + b.val)) = some (Int32.ofNat (pcn 14 (128 * (8 * 0 + a.val) + b.val))) := by decide +kernel
theorem bc_1 : ∀ a : Fin 8, ∀ b : Fin 128, F_J6_bitCount_0f7a4 (Int32.ofNat (128 * (8 * 1 + a.val) + b.val)) = some (Int32.ofNat (pcn 14 (128 * (8 * 1 + a.val) + b.val))) := by decide +kernel
theorem bc_2 : ∀ a : Fin 8, ∀ b : Fin 128, F_J6_bitCount_0f7a4 (Int32.ofNat (128 * (8 * 2 + a.val) + b.val)) = some (Int32.ofNat (pcn 14 (128 * (8 * 2 + a.val) + b.val))) := by decide +kernel
theorem bc_3 : ∀ a : Fin 8, ∀ b : Fin 128, F_J6_bitCount_0f7a4 (Int32.ofNat (128 * (8 * 3 + a.val) + b.val)) = some (Int32.ofNat (pcn 14 (128 * (8 * 3 + a.val) + b.val))) := by decide +kernel
theorem bc_4 : ∀ a : Fin 8, ∀ b : Fin 128, F_J6_bitCount_0f7a4 (Int32.ofNat (128 * (8 * 4 + a.val) + b.val)) = some (Int32.ofNat (pcn 14 (128 * (8 * 4 + a.val) + b.val))) := by decide +kernel
theorem bc_5 : ∀ a : Fin 8, ∀ b : Fin 128, F_J6_bitCount_0f7a4 (Int32.ofNat (128 * (8 * 5 + a.val) + b.val)) = some (Int32.ofNat (pcn 14 (128 * (8 * 5 + a.val) + b.val))) := by decide +kernel
theorem bc_6 : ∀ a : Fin 8, ∀ b : Fin 128, F_J6_bitCount_0f7a4 (Int32.ofNat (128 * (8 * 6 + a.val) + b.val)) = some (Int32.ofNat (pcn 14 (128 * (8 * 6 + a.val) + b.val))) := by decide +kernel
theorem bc_7 : ∀ a : Fin 8, ∀ b : Fin 128, F_J6_bitCount_0f7a4 (Int32.ofNat (128 * (8 * 7 + a.val) + b.val)) = some (Int32.ofNat (pcn 14 (128 * (8 * 7 + a.val) + b.val))) := by decide +kernel
theorem bc_8 : ∀ a : Fin 8, ∀ b : Fin 128, F_J6_bitCount_0f7a4 (Int32.ofNat (128 * (8 * 8 + a.val) + b.val)) = some (Int32.ofNat (pcn 14 (128 * (8 * 8 + a.val) + b.val))) := by decide +kernel
theorem bc_9 : ∀ a : Fin 8, ∀ b : Fin 128, F_J6_bitCount_0f7a4 (Int32.ofNat (128 * (8 * 9 + a.val) + b.val)) = some (Int32.ofNat (pcn 14 (128 * (8 * 9 + a.val) + b.val))) := by decide +kernel
theorem bc_10 : ∀ a : Fin 8, ∀ b : Fin 128, F_J6_bitCount_0f7a4 (Int32.ofNat (128 * (8 * 10 + a.val) + b.val)) = some (Int32.ofNat (pcn 14 (128 * (8 * 10 + a.val) + b.val))) := by decide +kernel
theorem bc_11 : ∀ a : Fin 8, ∀ b : Fin 128, F_J6_bitCount_0f7a4 (Int32.ofNat (128 * (8 * 11 + a.val) + b.val)) = some (Int32.ofNat (pcn 14 (128 * (8 * 11 + a.val) + b.val))) := by decide +kernel
theorem bc_12 : ∀ a : Fin 8, ∀ b : Fin 128, F_J6_bitCount_0f7a4 (Int32.ofNat (128 * (8 * 12 + a.val) + b.val)) = some (Int32.ofNat (pcn 14 (128 * (8 * 12 + a.val) + b.val))) := by decide +kernel
theorem bc_13 : ∀ a : Fin 8, ∀ b : Fin 128, F_J6_bitCount_0f7a4 (Int32.ofNat (128 * (8 * 13 + a.val) + b.val)) = some (Int32.ofNat (pcn 14 (128 * (8 * 13 + a.val) + b.val))) := by decide +kernel
theorem bc_14 : ∀ a : Fin 8, ∀ b : Fin 128, F_J6_bitCount_0f7a4 (Int32.ofNat (128 * (8 * 14 + a.val) + b.val)) = some (Int32.ofNat (pcn 14 (128 * (8 * 14 + a.val) + b.val))) := by decide +kernel
theorem bc_15 : ∀ a : Fin 8, ∀ b : Fin 128, F_J6_bitCount_0f7a4 (Int32.ofNat (128 * (8 * 15 + a.val) + b.val)) = some (Int32.ofNat (pcn 14 (128 * (8 * 15 + a.val) + b.val))) := by decide +kernel
theorem bc_all (M : Nat) (h : M < 16384) : F_J6_bitCount_0f7a4 (Int32.ofNat M) = some (Int32.ofNat (pcn 14 M)) := by
  have key : ∀ k, k < 16 → ∀ a : Fin 8, ∀ b : Fin 128, F_J6_bitCount_0f7a4 (Int32.ofNat (128 * (8 * k + a.val) + b.val)) = some (Int32.ofNat (pcn 14 (128 * (8 * k + a.val) + b.val))) := by
    intro k hk
    match k, hk with
    | 0, _ => exact bc_0
    | 1, _ => exact bc_1
    | 2, _ => exact bc_2
    | 3, _ => exact bc_3
    | 4, _ => exact bc_4
    | 5, _ => exact bc_5
    | 6, _ => exact bc_6
    | 7, _ => exact bc_7
    | 8, _ => exact bc_8
    | 9, _ => exact bc_9
    | 10, _ => exact bc_10
    | 11, _ => exact bc_11
    | 12, _ => exact bc_12
    | 13, _ => exact bc_13
    | 14, _ => exact bc_14
    | 15, _ => exact bc_15
    | k + 16, hk => omega
  have := key (M / 1024) (by omega) ⟨M / 128 % 8, by omega⟩ ⟨M % 128, by omega⟩
  have e : 128 * (8 * (M / 1024) + M / 128 % 8) + M % 128 = M := by omega
  dsimp only at this
  rw [e] at this
  exact this
