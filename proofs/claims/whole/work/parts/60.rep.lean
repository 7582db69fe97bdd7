/-! PURE PART. Logical cells: kind and index; where they lie (ad), what they hold (P). -/
def up {α : Type} (P : Nat → Nat → α) (k i : Nat) (e : α) : Nat → Nat → α := fun k' i' => if k' = k ∧ i' = i then e else P k' i'
theorem up_same {α : Type} (P : Nat → Nat → α) (k i : Nat) (e : α) : up P k i e k i = e := if_pos ⟨rfl, rfl⟩
theorem up_kind {α : Type} (P : Nat → Nat → α) {k i k' i' : Nat} {e : α} (h : k' ≠ k) : up P k i e k' i' = P k' i' := if_neg (fun q => h q.1)
theorem up_idx {α : Type} (P : Nat → Nat → α) {k i k' i' : Nat} {e : α} (h : i' ≠ i) : up P k i e k' i' = P k' i' := if_neg (fun q => h q.2)
abbrev xP : Type := Nat → Nat → Option va_E
def Rep (G : Nat → Nat) (h : xH) (ad : Nat → Nat → Nat) (P : xP) : Prop := G 0 ≤ h.1 ∧ (∀ k i e, P k i = some e → h.2 (ad k i) = some e ∧ G 0 ≤ ad k i ∧ ad k i < h.1) ∧ ∀ k i k' i', P k i ≠ none → P k' i' ≠ none → ad k i = ad k' i' → k = k' ∧ i = i'
section REP
variable {G : Nat → Nat} {h : xH} {ad : Nat → Nat → Nat} {P : xP} {k i : Nat}
theorem Rep.put (R : Rep G h ad P) {e0 : va_E} (hp : P k i = some e0) (e : va_E) : Rep G (xs h (ad k i) e) ad (up P k i (some e)) := by
  obtain ⟨r0, r1, r2⟩ := R
  have ne : ∀ k' i', up P k i (some e) k' i' ≠ none → P k' i' ≠ none := by
    intro k' i' h1 h2
    by_cases q : k' = k ∧ i' = i
    · obtain ⟨rfl, rfl⟩ := q
      rw [hp] at h2
      cases h2
    · exact h1 ((if_neg q).trans h2)
  refine ⟨r0, fun k' i' e' he => ?_, fun k1 i1 k2 i2 h1 h2 => r2 k1 i1 k2 i2 (ne _ _ h1) (ne _ _ h2)⟩
  by_cases q : k' = k ∧ i' = i
  · obtain ⟨rfl, rfl⟩ := q
    rw [up_same] at he
    cases he
    exact ⟨if_pos rfl, (r1 _ _ _ hp).2⟩
  · have he' : P k' i' = some e' := (if_neg q).symm.trans he
    have hne : ad k' i' ≠ ad k i := fun z => q (r2 k' i' k i (by rw [he']; simp) (by rw [hp]; simp) z)
    exact ⟨(if_neg hne).trans (r1 _ _ _ he').1, (r1 _ _ _ he').2⟩
theorem Rep.new (R : Rep G h ad P) (k i : Nat) (e : va_E) : Rep G (xn h e) (up ad k i h.1) (up P k i (some e)) := by
  obtain ⟨r0, r1, r2⟩ := R
  refine ⟨Nat.le_succ_of_le r0, fun k' i' e' he => ?_, fun k1 i1 k2 i2 h1 h2 hq => ?_⟩
  · by_cases q : k' = k ∧ i' = i
    · obtain ⟨rfl, rfl⟩ := q
      rw [up_same] at he ⊢
      cases he
      exact ⟨if_pos rfl, r0, Nat.lt_succ_self _⟩
    · have he' : P k' i' = some e' := (if_neg q).symm.trans he
      have hl := r1 _ _ _ he'
      have ea : up ad k i h.1 k' i' = ad k' i' := if_neg q
      rw [ea]
      exact ⟨(if_neg (Nat.ne_of_lt hl.2.2)).trans hl.1, hl.2.1, Nat.lt_succ_of_lt hl.2.2⟩
  · have lt : ∀ k' i', ¬ (k' = k ∧ i' = i) → up P k i (some e) k' i' ≠ none → ad k' i' < h.1 ∧ P k' i' ≠ none := by
      intro k' i' q hn
      have e1 : up P k i (some e) k' i' = P k' i' := if_neg q
      rw [e1] at hn
      obtain ⟨x, hx⟩ := Option.ne_none_iff_exists'.mp hn
      exact ⟨(r1 _ _ _ hx).2.2, hn⟩
    by_cases q1 : k1 = k ∧ i1 = i <;> by_cases q2 : k2 = k ∧ i2 = i
    · exact ⟨q1.1.trans q2.1.symm, q1.2.trans q2.2.symm⟩
    · have e1 : up ad k i h.1 k1 i1 = h.1 := if_pos q1
      have e2 : up ad k i h.1 k2 i2 = ad k2 i2 := if_neg q2
      rw [e1, e2] at hq
      have := (lt k2 i2 q2 h2).1
      omega
    · have e1 : up ad k i h.1 k1 i1 = ad k1 i1 := if_neg q1
      have e2 : up ad k i h.1 k2 i2 = h.1 := if_pos q2
      rw [e1, e2] at hq
      have := (lt k1 i1 q1 h1).1
      omega
    · have e1 : up ad k i h.1 k1 i1 = ad k1 i1 := if_neg q1
      have e2 : up ad k i h.1 k2 i2 = ad k2 i2 := if_neg q2
      rw [e1, e2] at hq
      exact r2 _ _ _ _ (lt k1 i1 q1 h1).2 (lt k2 i2 q2 h2).2 hq
theorem Rep.wide (R : Rep G h ad P) {z : Nat} (hz : h.1 ≤ z) : Rep G (z, h.2) ad P := ⟨Nat.le_trans R.1 hz, fun k i e he => ⟨(R.2.1 k i e he).1, (R.2.1 k i e he).2.1, Nat.lt_of_lt_of_le (R.2.1 k i e he).2.2 hz⟩, R.2.2⟩
theorem Rep.at (R : Rep G h ad P) {e : va_E} (hp : P k i = some e) : h.2 (ad k i) = some e := (R.2.1 k i e hp).1
theorem Rep.lo (R : Rep G h ad P) {e : va_E} (hp : P k i = some e) : G 0 ≤ ad k i := (R.2.1 k i e hp).2.1
/-! reads and writes of logical cells -/
variable {ci j : Nat} {fs : List Value} {o : Option Nat}
theorem Rep.getI (R : Rep G h ad P) (hp : P k i = some (.inr (ci, fs))) {v : Int32} (hv : fs[j]? = some (.int v)) : gI h (some (ad k i)) ci j = some v := by
  simp [gI, xf, R.at hp, hv]
theorem Rep.getJ (R : Rep G h ad P) (hp : P k i = some (.inr (ci, fs))) {v : Int64} (hv : fs[j]? = some (.long v)) : gJ h (some (ad k i)) ci j = some v := by
  simp [gJ, xf, R.at hp, hv]
theorem Rep.getR (R : Rep G h ad P) (hp : P k i = some (.inr (ci, fs))) {b : Nat} (hv : fs[j]? = some (.ref b)) : gR h (some (ad k i)) ci j = some (some b) := by
  simp [gR, xf, R.at hp, hv]
theorem Rep.putF (R : Rep G h ad P) (hp : P k i = some (.inr (ci, fs))) (hj : j < fs.length) (v : Value) : xp G h (some (ad k i)) ci j v = some (xs h (ad k i) (.inr (ci, fs.set j v))) := by
  simp [xp, R.at hp, R.lo hp, hj]
theorem Rep.obj (R : Rep G h ad P) (hp : P k i = some (.inr (ci, fs))) : xc h (some (ad k i)) ci = some (ad k i) := by
  simp [xc, R.at hp]
theorem nI_ok {n N : Nat} (h : n < N) (hN : N < 2 ^ 31) : ¬ (nI n < 0 ∨ N ≤ (nI n).toNatClampNeg) := nI_in h hN
theorem Rep.aI (R : Rep G h ad P) {t n x : Nat} {f : Nat → Int32} (hp : P k i = some (.inl (G t, n, .inl f))) (hx : x < n) (hn : n < 2 ^ 31) : ldI t G h (some (ad k i)) (nI x) = some (f x) := by
  have h1 := nI_ok hx hn
  have h2 : (nI x).toNatClampNeg = x := nI_clamp (by omega)
  rw [h2] at h1
  simp only [ldI, R.at hp, Option.bind_some, h2]
  exact if_pos ⟨trivial, h1⟩
theorem Rep.aJ (R : Rep G h ad P) {n x : Nat} {f : Nat → Int64} (hp : P k i = some (.inl (G 4, n, .inr (.inl f)))) (hx : x < n) (hn : n < 2 ^ 31) : ldJ G h (some (ad k i)) (nI x) = some (f x) := by
  have h1 := nI_ok hx hn
  have h2 : (nI x).toNatClampNeg = x := nI_clamp (by omega)
  rw [h2] at h1
  simp only [ldJ, R.at hp, Option.bind_some, h2]
  exact if_pos ⟨trivial, h1⟩
theorem Rep.aR (R : Rep G h ad P) {n x : Nat} {f : Nat → Option Nat} (hp : P k i = some (.inl (G 5, n, .inr (.inr (.inr (.inr f)))))) (hx : x < n) (hn : n < 2 ^ 31) : ldR G h (some (ad k i)) (nI x) = some (f x) := by
  have h1 := nI_ok hx hn
  have h2 : (nI x).toNatClampNeg = x := nI_clamp (by omega)
  rw [h2] at h1
  simp only [ldR, R.at hp, Option.bind_some, h2]
  exact if_pos ⟨trivial, h1⟩
theorem Rep.sI (R : Rep G h ad P) {t n x : Nat} {f : Nat → Int32} (hp : P k i = some (.inl (G t, n, .inl f))) (hx : x < n) (hn : n < 2 ^ 31) (v : Int32) : stI t G h (some (ad k i)) (nI x) v = some (xs h (ad k i) (.inl (G t, n, .inl (upd f x v)))) := by
  have h1 := nI_ok hx hn
  have h2 : (nI x).toNatClampNeg = x := nI_clamp (by omega)
  rw [h2] at h1
  simp only [stI, R.at hp, Option.bind_some, h2]
  exact if_pos ⟨trivial, R.lo hp, h1⟩
theorem Rep.sL (R : Rep G h ad P) {n x : Nat} {f : Nat → Int64} (hp : P k i = some (.inl (G 4, n, .inr (.inl f)))) (hx : x < n) (hn : n < 2 ^ 31) (v : Int64) : stJ G h (some (ad k i)) (nI x) v = some (xs h (ad k i) (.inl (G 4, n, .inr (.inl (vp_updL f x v))))) := by
  have h1 := nI_ok hx hn
  have h2 : (nI x).toNatClampNeg = x := nI_clamp (by omega)
  rw [h2] at h1
  simp only [stJ, R.at hp, Option.bind_some, h2]
  exact if_pos ⟨trivial, R.lo hp, h1⟩
end REP
/-! numbers: an Int32 by its integer -/
def iI (z : Int) : Int32 := Int32.ofInt z
theorem iI_add (a b : Int) : iI a + iI b = iI (a + b) := by unfold iI; rw [Int32.ofInt_add]
theorem iI_sub (a b : Int) : iI a - iI b = iI (a - b) := by unfold iI; rw [Int32.ofInt_sub]
theorem iI_mul (a b : Int) : iI a * iI b = iI (a * b) := by unfold iI; rw [Int32.ofInt_mul]
theorem iI_nI (n : Nat) : iI (n : Int) = nI n := Int32.ofInt_eq_ofNat
theorem iI_self (x : Int32) : iI x.toInt = x := Int32.ofInt_toInt x
theorem iI_toInt {z : Int} (h1 : -2147483648 ≤ z) (h2 : z < 2147483648) : (iI z).toInt = z := Int32.toInt_ofInt_of_le (by simpa using h1) (by simpa using h2)
theorem iI_lt {a b : Int} (a1 : -2147483648 ≤ a) (a2 : a < 2147483648) (b1 : -2147483648 ≤ b) (b2 : b < 2147483648) : iI a < iI b ↔ a < b := by
  rw [Int32.lt_iff_toInt_lt, iI_toInt a1 a2, iI_toInt b1 b2]
theorem iI_le {a b : Int} (a1 : -2147483648 ≤ a) (a2 : a < 2147483648) (b1 : -2147483648 ≤ b) (b2 : b < 2147483648) : iI a ≤ iI b ↔ a ≤ b := by
  rw [Int32.le_iff_toInt_le, iI_toInt a1 a2, iI_toInt b1 b2]
theorem iI_eq {a b : Int} (a1 : -2147483648 ≤ a) (a2 : a < 2147483648) (b1 : -2147483648 ≤ b) (b2 : b < 2147483648) : iI a = iI b ↔ a = b := by
  constructor
  · intro h
    have := congrArg Int32.toInt h
    rwa [iI_toInt a1 a2, iI_toInt b1 b2] at this
  · intro h
    rw [h]
