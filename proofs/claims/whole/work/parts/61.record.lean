/-! The reference as a record: int fields, long fields, rows of ints and booleans, rows of longs, each by the number of its field. -/
abbrev mS : Type := (Nat → Int32) × (Nat → Int64) × (Nat → Nat → Int32) × (Nat → Nat → Int64)
def mlen : Nat → Nat := fun k => match k with
  | 3 => 16
  | 4 => 16
  | 5 => 16
  | 6 => 9616
  | 7 => 9616
  | 8 => 3200
  | 16 => 12
  | 17 => 12
  | 18 => 12
  | 19 => 12
  | 20 => 12
  | 21 => 120
  | 22 => 120
  | 25 => 10
  | 27 => 8
  | 28 => 8
  | 29 => 8
  | 30 => 8
  | 31 => 602
  | 32 => 602
  | 34 => 40
  | 35 => 40
  | 36 => 40
  | 37 => 40
  | 38 => 40
  | 40 => 14
  | 41 => 14
  | _ => 0
def mty : Nat → Nat := fun k => match k with
  | 3 => 2
  | 4 => 2
  | 5 => 2
  | 6 => 2
  | 7 => 2
  | 8 => 3
  | 16 => 2
  | 17 => 2
  | 18 => 2
  | 19 => 3
  | 20 => 2
  | 21 => 2
  | 22 => 2
  | 25 => 2
  | 27 => 2
  | 28 => 2
  | 29 => 2
  | 30 => 2
  | 31 => 4
  | 32 => 4
  | 34 => 2
  | 35 => 2
  | 36 => 2
  | 37 => 2
  | 38 => 2
  | 40 => 2
  | 41 => 2
  | _ => 0
def mfs (ad : Nat → Nat → Nat) (s : mS) : List Value := [.int (s.1 0), .int (s.1 1), .int (s.1 2), .ref (ad 20 3), .ref (ad 20 4), .ref (ad 20 5), .ref (ad 20 6), .ref (ad 20 7), .ref (ad 20 8), .int (s.1 9), .int (s.1 10), .int (s.1 11), .long (s.2.1 12), .long (s.2.1 13), .long (s.2.1 14), .int (s.1 15), .ref (ad 20 16), .ref (ad 20 17), .ref (ad 20 18), .ref (ad 20 19), .ref (ad 20 20), .ref (ad 20 21), .ref (ad 20 22), .int (s.1 23), .int (s.1 24), .ref (ad 20 25), .int (s.1 26), .ref (ad 20 27), .ref (ad 20 28), .ref (ad 20 29), .ref (ad 20 30), .ref (ad 20 31), .ref (ad 20 32), .int (s.1 33), .ref (ad 20 34), .ref (ad 20 35), .ref (ad 20 36), .ref (ad 20 37), .ref (ad 20 38), .int (s.1 39), .ref (ad 20 40), .ref (ad 20 41)]
def mI (s : mS) (k : Nat) (v : Int32) : mS := (fun j => if j = k then v else s.1 j, s.2)
def mJ (s : mS) (k : Nat) (v : Int64) : mS := (s.1, fun j => if j = k then v else s.2.1 j, s.2.2)
def mA (s : mS) (k x : Nat) (v : Int32) : mS := (s.1, s.2.1, fun j => if j = k then upd (s.2.2.1 j) x v else s.2.2.1 j, s.2.2.2)
def mB (s : mS) (k x : Nat) (v : Int64) : mS := (s.1, s.2.1, s.2.2.1, fun j => if j = k then vp_updL (s.2.2.2 j) x v else s.2.2.2 j)
def mld (s : mS) (k : Nat) (x : Int32) : Option Int32 := if x < 0 ∨ mlen k ≤ x.toNatClampNeg then none else some (s.2.2.1 k x.toNatClampNeg)
def mldJ (s : mS) (k : Nat) (x : Int32) : Option Int64 := if x < 0 ∨ mlen k ≤ x.toNatClampNeg then none else some (s.2.2.2 k x.toNatClampNeg)
def mst (s : mS) (k : Nat) (x v : Int32) : Option mS := if x < 0 ∨ mlen k ≤ x.toNatClampNeg then none else some (mA s k x.toNatClampNeg v)
def mstJ (s : mS) (k : Nat) (x : Int32) (v : Int64) : Option mS := if x < 0 ∨ mlen k ≤ x.toNatClampNeg then none else some (mB s k x.toNatClampNeg v)
/-- the heap holds the record s; all other logical cells are P0's -/
def Mx (G : Nat → Nat) (ad : Nat → Nat → Nat) (P0 : xP) (h : xH) (s : mS) : Prop := ∃ P : xP, Rep G h ad P ∧ P 19 0 = some (.inr (11, mfs ad s)) ∧ (∀ k, mty k = 2 → P 20 k = some (.inl (G 2, mlen k, .inl (s.2.2.1 k)))) ∧ (∀ k, mty k = 3 → P 20 k = some (.inl (G 3, mlen k, .inl (s.2.2.1 k)))) ∧ (∀ k, mty k = 4 → P 20 k = some (.inl (G 4, mlen k, .inr (.inl (s.2.2.2 k))))) ∧ ∀ k i, k ≠ 19 → k ≠ 20 → P k i = P0 k i
section MX
variable {G : Nat → Nat} {ad : Nat → Nat → Nat} {P0 : xP} {h : xH} {s : mS} {k : Nat}
theorem Mx.gI' (M : Mx G ad P0 h s) {v : Int32} (hk : (mfs ad s)[k]? = some (.int v)) : gI h (some (ad 19 0)) 11 k = some v := by
  obtain ⟨P, R, h1, -⟩ := M
  exact R.getI h1 hk
theorem Mx.gJ' (M : Mx G ad P0 h s) {v : Int64} (hk : (mfs ad s)[k]? = some (.long v)) : gJ h (some (ad 19 0)) 11 k = some v := by
  obtain ⟨P, R, h1, -⟩ := M
  exact R.getJ h1 hk
theorem Mx.gR' (M : Mx G ad P0 h s) {b : Nat} (hk : (mfs ad s)[k]? = some (.ref b)) : gR h (some (ad 19 0)) 11 k = some (some b) := by
  obtain ⟨P, R, h1, -⟩ := M
  exact R.getR h1 hk
theorem Mx.xc' (M : Mx G ad P0 h s) : xc h (some (ad 19 0)) 11 = some (ad 19 0) := by
  obtain ⟨P, R, h1, -⟩ := M
  exact R.obj h1
theorem Mx.put (M : Mx G ad P0 h s) {v : Value} (s' : mS) (hk : k < 42) (hs : (mfs ad s).set k v = mfs ad s') (ha : s'.2.2 = s.2.2) : ∃ h', xp G h (some (ad 19 0)) 11 k v = some h' ∧ Mx G ad P0 h' s' := by
  obtain ⟨P, R, h1, h2, h3, h4, h5⟩ := M
  refine ⟨_, R.putF h1 hk v, up P 19 0 _, R.put h1 _, ?_, fun k hk => ?_, fun k hk => ?_, fun k hk => ?_, fun k i n1 n2 => ?_⟩
  · rw [up_same, hs]
  · rw [up_kind _ (by decide), ha]; exact h2 k hk
  · rw [up_kind _ (by decide), ha]; exact h3 k hk
  · rw [up_kind _ (by decide), ha]; exact h4 k hk
  · rw [up_kind _ n1]; exact h5 k i n1 n2
theorem mld_in {x : Int32} {n : Nat} (h : ¬ (x < 0 ∨ n ≤ x.toNatClampNeg)) : x.toNatClampNeg < n ∧ x = nI x.toNatClampNeg := by
  refine ⟨Nat.not_le.mp fun q => h (Or.inr q), ?_⟩
  obtain ⟨j, hj, e⟩ := nI_of (x := x) (fun q => h (Or.inl q))
  rw [e, nI_clamp hj]
theorem mlen_lt (k : Nat) : mlen k < 2 ^ 31 := by
  unfold mlen
  split <;> decide
theorem Mx.ld (M : Mx G ad P0 h s) (hk : mty k = 2) {x v : Int32} (e : mld s k x = some v) : ldI 2 G h (some (ad 20 k)) x = some v := by
  obtain ⟨P, R, -, h2, -⟩ := M
  unfold mld at e
  split at e
  · cases e
  · rename_i hx
    cases e
    obtain ⟨q1, q2⟩ := mld_in hx
    rw [q2, nI_clamp (Nat.lt_trans q1 (mlen_lt k))]
    exact R.aI (h2 k hk) q1 (mlen_lt k)
theorem Mx.ldZ (M : Mx G ad P0 h s) (hk : mty k = 3) {x v : Int32} (e : mld s k x = some v) : ldI 3 G h (some (ad 20 k)) x = some v := by
  obtain ⟨P, R, -, -, h2, -⟩ := M
  unfold mld at e
  split at e
  · cases e
  · rename_i hx
    cases e
    obtain ⟨q1, q2⟩ := mld_in hx
    rw [q2, nI_clamp (Nat.lt_trans q1 (mlen_lt k))]
    exact R.aI (h2 k hk) q1 (mlen_lt k)
theorem Mx.ldJ' (M : Mx G ad P0 h s) (hk : mty k = 4) {x : Int32} {v : Int64} (e : mldJ s k x = some v) : ldJ G h (some (ad 20 k)) x = some v := by
  obtain ⟨P, R, -, -, -, h2, -⟩ := M
  unfold mldJ at e
  split at e
  · cases e
  · rename_i hx
    cases e
    obtain ⟨q1, q2⟩ := mld_in hx
    rw [q2, nI_clamp (Nat.lt_trans q1 (mlen_lt k))]
    exact R.aJ (h2 k hk) q1 (mlen_lt k)
theorem Mx.st (M : Mx G ad P0 h s) (hk : mty k = 2) {x v : Int32} {s' : mS} (e : mst s k x v = some s') : ∃ h', stI 2 G h (some (ad 20 k)) x v = some h' ∧ Mx G ad P0 h' s' := by
  obtain ⟨P, R, h1, h2, h3, h4, h5⟩ := M
  unfold mst at e
  split at e
  · cases e
  · rename_i hx
    cases e
    obtain ⟨q1, q2⟩ := mld_in hx
    have e1 := R.sI (h2 k hk) q1 (mlen_lt k) v
    rw [← q2] at e1
    refine ⟨_, e1, up P 20 k _, R.put (h2 k hk) _, ?_, fun j hj => ?_, fun j hj => ?_, fun j hj => ?_, fun j i n1 n2 => ?_⟩
    · rw [up_kind _ (by decide)]; exact h1
    · by_cases q : j = k
      · subst q; rw [up_same]; simp [mA]
      · rw [up_idx _ q]; simp only [mA, if_neg q]; exact h2 j hj
    · have q : j ≠ k := fun z => by rw [z, hk] at hj; cases hj
      rw [up_idx _ q]; simp only [mA, if_neg q]; exact h3 j hj
    · have q : j ≠ k := fun z => by rw [z, hk] at hj; cases hj
      rw [up_idx _ q]; exact h4 j hj
    · rw [up_kind _ n2]; exact h5 j i n1 n2
theorem Mx.stZ (M : Mx G ad P0 h s) (hk : mty k = 3) {x v : Int32} {s' : mS} (e : mst s k x v = some s') : ∃ h', stI 3 G h (some (ad 20 k)) x v = some h' ∧ Mx G ad P0 h' s' := by
  obtain ⟨P, R, h1, h2, h3, h4, h5⟩ := M
  unfold mst at e
  split at e
  · cases e
  · rename_i hx
    cases e
    obtain ⟨q1, q2⟩ := mld_in hx
    have e1 := R.sI (h3 k hk) q1 (mlen_lt k) v
    rw [← q2] at e1
    refine ⟨_, e1, up P 20 k _, R.put (h3 k hk) _, ?_, fun j hj => ?_, fun j hj => ?_, fun j hj => ?_, fun j i n1 n2 => ?_⟩
    · rw [up_kind _ (by decide)]; exact h1
    · have q : j ≠ k := fun z => by rw [z, hk] at hj; cases hj
      rw [up_idx _ q]; simp only [mA, if_neg q]; exact h2 j hj
    · by_cases q : j = k
      · subst q; rw [up_same]; simp [mA]
      · rw [up_idx _ q]; simp only [mA, if_neg q]; exact h3 j hj
    · have q : j ≠ k := fun z => by rw [z, hk] at hj; cases hj
      rw [up_idx _ q]; exact h4 j hj
    · rw [up_kind _ n2]; exact h5 j i n1 n2
theorem Mx.stJ' (M : Mx G ad P0 h s) (hk : mty k = 4) {x : Int32} {v : Int64} {s' : mS} (e : mstJ s k x v = some s') : ∃ h', stJ G h (some (ad 20 k)) x v = some h' ∧ Mx G ad P0 h' s' := by
  obtain ⟨P, R, h1, h2, h3, h4, h5⟩ := M
  unfold mstJ at e
  split at e
  · cases e
  · rename_i hx
    cases e
    obtain ⟨q1, q2⟩ := mld_in hx
    have e1 := R.sL (h4 k hk) q1 (mlen_lt k) v
    rw [← q2] at e1
    refine ⟨_, e1, up P 20 k _, R.put (h4 k hk) _, ?_, fun j hj => ?_, fun j hj => ?_, fun j hj => ?_, fun j i n1 n2 => ?_⟩
    · rw [up_kind _ (by decide)]; exact h1
    · have q : j ≠ k := fun z => by rw [z, hk] at hj; cases hj
      rw [up_idx _ q]; exact h2 j hj
    · have q : j ≠ k := fun z => by rw [z, hk] at hj; cases hj
      rw [up_idx _ q]; exact h3 j hj
    · by_cases q : j = k
      · subst q; rw [up_same]; simp [mB]
      · rw [up_idx _ q]; simp only [mB, if_neg q]; exact h4 j hj
    · rw [up_kind _ n2]; exact h5 j i n1 n2
end MX
/-- an Option that answers y, with a heap of which T holds (Go); of a method that only reads (Gr); without an answer (Gv) -/
def Go {α : Type} (y : Option (α × xH)) (r : α) (T : xH → Prop) : Prop := ∃ h', y = some (r, h') ∧ T h'
def Gv (y : Option xH) (T : xH → Prop) : Prop := ∃ h', y = some h' ∧ T h'
def Gr {α : Type} (y : Option α) (r : α) : Prop := y = some r
theorem Go.b {α : Type} {r : α} {T : xH → Prop} {γ : Type} {x : Option γ} {a : γ} {f : γ → Option (α × xH)} (e : x = some a) (k : Go (f a) r T) : Go (x.bind f) r T := by rw [e]; exact k
theorem Go.t {α : Type} {r : α} {T : xH → Prop} {c : Prop} [Decidable c] {x y : Option (α × xH)} (hc : c) (k : Go x r T) : Go (if c then x else y) r T := by rw [if_pos hc]; exact k
theorem Go.f {α : Type} {r : α} {T : xH → Prop} {c : Prop} [Decidable c] {x y : Option (α × xH)} (hc : ¬ c) (k : Go y r T) : Go (if c then x else y) r T := by rw [if_neg hc]; exact k
theorem Go.l {α : Type} {r : α} {T : xH → Prop} {γ : Type} {a v : γ} {f : γ → Option (α × xH)} (e : v = a) (k : Go (f v) r T) : Go (xl a f) r T := by subst e; exact k
theorem Go.g {α : Type} {r : α} {T : xH → Prop} {c : Prop} [Decidable c] {x : Option (α × xH)} (hc : c) (k : Go x r T) : Go (xg c x) r T := by unfold xg; rw [if_pos hc]; exact k
theorem Gv.b {T : xH → Prop} {γ : Type} {x : Option γ} {a : γ} {f : γ → Option xH} (e : x = some a) (k : Gv (f a) T) : Gv (x.bind f) T := by rw [e]; exact k
theorem Gv.t {T : xH → Prop} {c : Prop} [Decidable c] {x y : Option xH} (hc : c) (k : Gv x T) : Gv (if c then x else y) T := by rw [if_pos hc]; exact k
theorem Gv.f {T : xH → Prop} {c : Prop} [Decidable c] {x y : Option xH} (hc : ¬ c) (k : Gv y T) : Gv (if c then x else y) T := by rw [if_neg hc]; exact k
theorem Gv.l {T : xH → Prop} {γ : Type} {a v : γ} {f : γ → Option xH} (e : v = a) (k : Gv (f v) T) : Gv (xl a f) T := by subst e; exact k
theorem Gv.g {T : xH → Prop} {c : Prop} [Decidable c] {x : Option xH} (hc : c) (k : Gv x T) : Gv (xg c x) T := by unfold xg; rw [if_pos hc]; exact k
theorem Gr.b {α : Type} {r : α} {γ : Type} {x : Option γ} {a : γ} {f : γ → Option α} (e : x = some a) (k : Gr (f a) r) : Gr (x.bind f) r := by rw [e]; exact k
theorem Gr.t {α : Type} {r : α} {c : Prop} [Decidable c] {x y : Option α} (hc : c) (k : Gr x r) : Gr (if c then x else y) r := by rw [if_pos hc]; exact k
theorem Gr.f {α : Type} {r : α} {c : Prop} [Decidable c] {x y : Option α} (hc : ¬ c) (k : Gr y r) : Gr (if c then x else y) r := by rw [if_neg hc]; exact k
theorem Gr.l {α : Type} {r : α} {γ : Type} {a v : γ} {f : γ → Option α} (e : v = a) (k : Gr (f v) r) : Gr (xl a f) r := by subst e; exact k
theorem Gr.g {α : Type} {r : α} {c : Prop} [Decidable c] {x : Option α} (hc : c) (k : Gr x r) : Gr (xg c x) r := by unfold xg; rw [if_pos hc]; exact k
