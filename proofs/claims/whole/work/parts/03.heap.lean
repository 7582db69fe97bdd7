/-! The heap as a function: constants (0: the first address that may be written, 1: the empty list's array, 2 .. 5: the classes of int[], boolean[], long[], Object[]), the size, the cells. -/
abbrev xH : Type := Nat × (Nat → Option va_E)
def xTy (c : Nat → Nat) : List (ClassId × FieldType) := [(c 2, .int), (c 3, .boolean), (c 4, .long), (c 5, .object "java/lang/Object")]
def xA (c : Nat → Nat) : Nat → Prop := fun q => c 0 ≤ q
/-- calls by an interface: class, the interface's method, the class's method -/
def xFs : List (String × MethodName × MethodName) := [(RX7, ⟨"ShareKeeper$History", "asksIn", "(II)I"⟩, yX7_asksIn), (RX9, ⟨"ShareKeeper$History", "asksIn", "(II)I"⟩, yX9_asksIn), (RX7, ⟨"ShareKeeper$History", "badIn", "(II)I"⟩, yX7_badIn), (RX9, ⟨"ShareKeeper$History", "badIn", "(II)I"⟩, yX9_badIn), (RJx4a65c, ⟨"java/util/List", "size", "()I"⟩, yJx4a65c_size_8abf5), (RJx4a65c, ⟨"java/util/List", "get", "(I)Ljava/lang/Object;"⟩, yJx4a65c_get_915e3), (RJx4a65c, ⟨"java/util/List", "isEmpty", "()Z"⟩, yJx4a65c_isEmpty_aae02), (RJx4a65c, ⟨"java/util/List", "add", "(Ljava/lang/Object;)Z"⟩, yJx4a65c_add_9ea2d)]
/-- the empty list's array -/
def xEm (c : Nat → Nat) (U : State) (H : Heap) : Prop := ¬ xA c (c 1) ∧ ∃ cell : Cell, H[c 1]? = some cell ∧ U.isArrayOf cell (.object "java/lang/Object") ∧ cell.slots.size.toInt32 = 0
/-- what stands beside the cells: statics that nobody writes, and words of the tables that are not handed on by themselves -/
def xE (c : Nat → Nat) (U : State) (H : Heap) : Prop := va_Z "java/util/ArrayList" "DEFAULTCAPACITY_EMPTY_ELEMENTDATA" "[Ljava/lang/Object;" (.ref (c 1)) (xA c) U H ∧ (∀ q ∈ xFs, va_Fw q.1 q.2.1 q.2.2 U) ∧ (∀ q ∈ vwCl, va_Nw (.castable q.1 "java/lang/Object") U) ∧ va_Mi "[Ljava/lang/Object;" (c 6) U ∧ va_Dc U ∧ va_AO "java/lang/Object" U ∧ vx_Zq Jvm.Bundle.tN "UNASSIGNED_STACK" Jvm.Bundle.steD (xA c) U H ∧ vx_Zq Jvm.Bundle.tN "SUPPRESSED_SENTINEL" Jvm.Bundle.listD (xA c) U H ∧ xEm c U H
def xR (D : va_G) (G : Nat → Nat) (h : xH) (U : State) (H : Heap) : Prop := H.size = h.1 ∧ G 0 ≤ h.1 ∧ va_K D vwCl (xTy G) U ∧ xE G U H ∧ ∀ a e, h.2 a = some e → va_at D vwCl (a, e) H
/-- a cell is written -/
def xs (h : xH) (a : Nat) (e : va_E) : xH := (h.1, fun b => if b = a then some e else h.2 b)
/-- a cell is made -/
def xn (h : xH) (e : va_E) : xH := (h.1 + 1, fun b => if b = h.1 then some e else h.2 b)
theorem xFs_ok : ∀ q ∈ xFs, q.2.1.cls ≠ "java/lang/invoke/MethodHandle" ∧ q.2.1.cls ≠ "java/lang/invoke/VarHandle" := by decide +kernel
theorem xcast_moved {C T : String} {u U : State} (hvm : u.vm.Alike U.vm) (h : va_Nw (.castable C T) u) : va_Nw (.castable C T) U := va_tabs rfl (rfl : (u.setVm U.vm).vm = U.vm) (by rw [Cond.castable_setVm hvm]; exact h)
theorem xE.moved {c : Nat → Nat} {u U : State} {H : Heap} (hvm : u.vm.Alike U.vm) (h : xE c u H) : xE c U H := by
  obtain ⟨h1, h2, h3, h4, h5, h6, h7, h8, h9, cell, g1, g2, g3⟩ := h
  exact ⟨h1.moved hvm, fun q hq => (h2 q hq).moved (xFs_ok q hq) hvm, fun q hq => xcast_moved hvm (h3 q hq), h4.moved hvm, h5.moved hvm, h6.moved hvm, h7.moved hvm, h8.moved hvm, h9, cell, g1, State.isArrayOf_alike hvm g2, g3⟩
theorem xE.kept {c : Nat → Nat} {U : State} {H H1 : Heap} (h : xE c U H) (hq : ∀ a : Nat, a < H.size → ¬ xA c a → H1[a]? = H[a]?) : xE c U H1 := by
  obtain ⟨h1, h2, h3, h4, h5, h6, h7, h8, h9, cell, g1, g2, g3⟩ := h
  exact ⟨h1.kept hq, h2, h3, h4, h5, h6, h7.kept hq, h8.kept hq, h9, cell, by rw [hq _ (Array.getElem?_eq_some_iff.mp g1).1 h9]; exact g1, g2, g3⟩
theorem xR.moved {D : va_G} {G : Nat → Nat} {h : xH} {u U : State} {H : Heap} (hvm : u.vm.Alike U.vm) (r : xR D G h u H) : xR D G h U H := ⟨r.1, r.2.1, r.2.2.1.moved hvm, r.2.2.2.1.moved hvm, r.2.2.2.2⟩
theorem xR.lt {D : va_G} {G : Nat → Nat} {h : xH} {U : State} {H : Heap} (r : xR D G h U H) {a : Nat} {e : va_E} (ha : h.2 a = some e) : a < H.size := (r.2.2.2.2 a e ha).lt
theorem xR.set {D : va_G} {G : Nat → Nat} {h : xH} {U : State} {H H1 : Heap} {a : Nat} {e' : va_E} (r : xR D G h U H) (hlo : G 0 ≤ a) (he : va_at D vwCl (a, e') H1) (z : H1.size = H.size) (oq : ∀ q : Nat, q ≠ a → H1[q]? = H[q]?) : xR D G (xs h a e') U H1 := by
  obtain ⟨r1, r2, r3, r4, r5⟩ := r
  refine ⟨by rw [z]; exact r1, r2, r3, r4.kept (fun q _ hq => oq q (fun e => hq (by rw [e]; exact hlo))), fun b e hb => ?_⟩
  by_cases hba : b = a
  · subst hba
    simp only [xs, if_true] at hb
    cases hb
    exact he
  · simp only [xs, if_neg hba] at hb
    exact (r5 b e hb).kept (oq b hba)
theorem xR.new {D : va_G} {G : Nat → Nat} {h : xH} {U : State} {H H1 : Heap} {e' : va_E} (r : xR D G h U H) (he : va_at D vwCl (h.1, e') H1) (z : H1.size = H.size + 1) (oq : ∀ q : Nat, q < H.size → H1[q]? = H[q]?) : xR D G (xn h e') U H1 := by
  obtain ⟨r1, r2, r3, r4, r5⟩ := r
  refine ⟨by rw [z, r1]; rfl, Nat.le_succ_of_le r2, r3, r4.kept (fun q h1 _ => oq q h1), fun b e hb => ?_⟩
  by_cases hba : b = h.1
  · subst hba
    simp only [xn, if_true] at hb
    cases hb
    exact he
  · simp only [xn, if_neg hba] at hb
    exact (r5 b e hb).kept (oq b (r5 b e hb).lt)
/-! reads and writes -/
def xf (h : xH) (o : Option Nat) (ci k : Nat) : Option Value := o.bind fun a => (h.2 a).bind fun e => match e with
  | .inr q => if q.1 = ci then q.2[k]? else none
  | .inl _ => none
def gI (h : xH) (o : Option Nat) (ci k : Nat) : Option Int32 := (xf h o ci k).bind fun v => match v with
  | .int x => some x
  | _ => none
def gJ (h : xH) (o : Option Nat) (ci k : Nat) : Option Int64 := (xf h o ci k).bind fun v => match v with
  | .long x => some x
  | _ => none
def gR (h : xH) (o : Option Nat) (ci k : Nat) : Option (Option Nat) := (xf h o ci k).bind fun v => match v with
  | .ref x => some (some x)
  | .null => some none
  | _ => none
def xp (G : Nat → Nat) (h : xH) (o : Option Nat) (ci k : Nat) (v : Value) : Option xH := o.bind fun a => (h.2 a).bind fun e => match e with
  | .inr q => if q.1 = ci ∧ k < q.2.length ∧ G 0 ≤ a then some (xs h a (.inr (ci, q.2.set k v))) else none
  | .inl _ => none
def ldI (t : Nat) (G : Nat → Nat) (h : xH) (o : Option Nat) (i : Int32) : Option Int32 := o.bind fun a => (h.2 a).bind fun e => match e with
  | .inl (c, n, .inl f) => if c = G t ∧ ¬ (i < 0 ∨ n ≤ i.toNatClampNeg) then some (f i.toNatClampNeg) else none
  | _ => none
def ldJ (G : Nat → Nat) (h : xH) (o : Option Nat) (i : Int32) : Option Int64 := o.bind fun a => (h.2 a).bind fun e => match e with
  | .inl (c, n, .inr (.inl f)) => if c = G 4 ∧ ¬ (i < 0 ∨ n ≤ i.toNatClampNeg) then some (f i.toNatClampNeg) else none
  | _ => none
def ldR (G : Nat → Nat) (h : xH) (o : Option Nat) (i : Int32) : Option (Option Nat) := o.bind fun a => (h.2 a).bind fun e => match e with
  | .inl (c, n, .inr (.inr (.inr (.inr f)))) => if c = G 5 ∧ ¬ (i < 0 ∨ n ≤ i.toNatClampNeg) then some (f i.toNatClampNeg) else none
  | _ => none
def stI (t : Nat) (G : Nat → Nat) (h : xH) (o : Option Nat) (i x : Int32) : Option xH := o.bind fun a => (h.2 a).bind fun e => match e with
  | .inl (c, n, .inl f) => if c = G t ∧ G 0 ≤ a ∧ ¬ (i < 0 ∨ n ≤ i.toNatClampNeg) then some (xs h a (.inl (c, n, .inl (upd f i.toNatClampNeg x)))) else none
  | _ => none
def stJ (G : Nat → Nat) (h : xH) (o : Option Nat) (i : Int32) (x : Int64) : Option xH := o.bind fun a => (h.2 a).bind fun e => match e with
  | .inl (c, n, .inr (.inl f)) => if c = G 4 ∧ G 0 ≤ a ∧ ¬ (i < 0 ∨ n ≤ i.toNatClampNeg) then some (xs h a (.inl (c, n, .inr (.inl (vp_updL f i.toNatClampNeg x))))) else none
  | _ => none
def aln (G : Nat → Nat) (h : xH) (o : Option Nat) : Option Int32 := if o = some (G 1) then some 0 else o.bind fun a => (h.2 a).bind fun e => match e with
  | .inl (c, n, _) => if c = G 2 ∨ c = G 3 ∨ c = G 4 ∨ c = G 5 then some (Int32.ofNat n) else none
  | _ => none
/-- an object of a class -/
def xc (h : xH) (o : Option Nat) (ci : Nat) : Option Nat := o.bind fun a => (h.2 a).bind fun e => match e with
  | .inr q => if q.1 = ci then some a else none
  | .inl _ => none
theorem xf_spec {h : xH} {o : Option Nat} {ci k : Nat} {v : Value} (e : xf h o ci k = some v) : ∃ a fs, o = some a ∧ h.2 a = some (.inr (ci, fs)) ∧ fs[k]? = some v := by
  unfold xf at e
  obtain ⟨a, ho, e1⟩ := Option.bind_eq_some_iff.mp e
  clear e
  subst ho
  obtain ⟨c, h1, e⟩ := Option.bind_eq_some_iff.mp e1
  clear e1
  rcases c with c | ⟨c, fs⟩
  · cases e
  · dsimp only at e
    split at e
    · rename_i hc
      subst hc
      exact ⟨a, fs, rfl, h1, e⟩
    · cases e
theorem gI_spec {h : xH} {o : Option Nat} {ci k : Nat} {x : Int32} (e : gI h o ci k = some x) : ∃ a fs, o = some a ∧ h.2 a = some (.inr (ci, fs)) ∧ fs[k]? = some (.int x) := by
  unfold gI at e
  obtain ⟨v, h1, e1⟩ := Option.bind_eq_some_iff.mp e
  clear e
  cases v <;> first | cases e1 | skip
  exact xf_spec h1
theorem gJ_spec {h : xH} {o : Option Nat} {ci k : Nat} {x : Int64} (e : gJ h o ci k = some x) : ∃ a fs, o = some a ∧ h.2 a = some (.inr (ci, fs)) ∧ fs[k]? = some (.long x) := by
  unfold gJ at e
  obtain ⟨v, h1, e1⟩ := Option.bind_eq_some_iff.mp e
  clear e
  cases v <;> first | cases e1 | skip
  exact xf_spec h1
theorem gR_spec {h : xH} {o : Option Nat} {ci k : Nat} {x : Option Nat} (e : gR h o ci k = some x) : ∃ a fs, o = some a ∧ h.2 a = some (.inr (ci, fs)) ∧ fs[k]? = some (va_rf x) := by
  unfold gR at e
  obtain ⟨v, h1, e1⟩ := Option.bind_eq_some_iff.mp e
  clear e
  cases v <;> first | cases e1 | skip
  · exact xf_spec h1
  · exact xf_spec h1
theorem xp_spec {G : Nat → Nat} {h h' : xH} {o : Option Nat} {ci k : Nat} {v : Value} (e : xp G h o ci k v = some h') : ∃ a fs, o = some a ∧ h.2 a = some (.inr (ci, fs)) ∧ k < fs.length ∧ G 0 ≤ a ∧ h' = xs h a (.inr (ci, fs.set k v)) := by
  unfold xp at e
  obtain ⟨a, ho, e1⟩ := Option.bind_eq_some_iff.mp e
  clear e
  subst ho
  obtain ⟨c, h1, e⟩ := Option.bind_eq_some_iff.mp e1
  clear e1
  rcases c with c | ⟨c, fs⟩
  · cases e
  · dsimp only at e
    split at e
    · rename_i hc
      obtain ⟨rfl, h2, h3⟩ := hc
      cases e
      exact ⟨a, fs, rfl, h1, h2, h3, rfl⟩
    · cases e
theorem xc_spec {h : xH} {o : Option Nat} {ci a : Nat} (e : xc h o ci = some a) : o = some a ∧ ∃ fs, h.2 a = some (.inr (ci, fs)) := by
  unfold xc at e
  obtain ⟨a', ho, e1⟩ := Option.bind_eq_some_iff.mp e
  clear e
  subst ho
  obtain ⟨c, h1, e⟩ := Option.bind_eq_some_iff.mp e1
  clear e1
  rcases c with c | ⟨c, fs⟩
  · cases e
  · dsimp only at e
    split at e
    · rename_i hc
      subst hc
      cases e
      exact ⟨rfl, fs, h1⟩
    · cases e
theorem ldI_spec {G : Nat → Nat} {t : Nat} {h : xH} {o : Option Nat} {i x : Int32} (e : ldI t G h o i = some x) : ∃ a n f, o = some a ∧ h.2 a = some (.inl (G t, n, .inl f)) ∧ vp_in i n ∧ x = f i.toNatClampNeg := by
  unfold ldI at e
  obtain ⟨a, ho, e1⟩ := Option.bind_eq_some_iff.mp e
  clear e
  subst ho
  obtain ⟨c, h1, e⟩ := Option.bind_eq_some_iff.mp e1
  clear e1
  rcases c with ⟨c, n, f | f⟩ | c
  · dsimp only at e
    split at e
    · rename_i hc
      obtain ⟨rfl, h2⟩ := hc
      cases e
      exact ⟨a, n, f, rfl, h1, h2, rfl⟩
    · cases e
  · cases e
  · cases e
theorem ldJ_spec {G : Nat → Nat} {h : xH} {o : Option Nat} {i : Int32} {x : Int64} (e : ldJ G h o i = some x) : ∃ a n f, o = some a ∧ h.2 a = some (.inl (G 4, n, .inr (.inl f))) ∧ vp_in i n ∧ x = f i.toNatClampNeg := by
  unfold ldJ at e
  obtain ⟨a, ho, e1⟩ := Option.bind_eq_some_iff.mp e
  clear e
  subst ho
  obtain ⟨c, h1, e⟩ := Option.bind_eq_some_iff.mp e1
  clear e1
  rcases c with ⟨c, n, f | f | f⟩ | c
  · cases e
  · dsimp only at e
    split at e
    · rename_i hc
      obtain ⟨rfl, h2⟩ := hc
      cases e
      exact ⟨a, n, f, rfl, h1, h2, rfl⟩
    · cases e
  · cases e
  · cases e
theorem ldR_spec {G : Nat → Nat} {h : xH} {o : Option Nat} {i : Int32} {x : Option Nat} (e : ldR G h o i = some x) : ∃ a n f, o = some a ∧ h.2 a = some (.inl (G 5, n, .inr (.inr (.inr (.inr f))))) ∧ vp_in i n ∧ x = f i.toNatClampNeg := by
  unfold ldR at e
  obtain ⟨a, ho, e1⟩ := Option.bind_eq_some_iff.mp e
  clear e
  subst ho
  obtain ⟨c, h1, e⟩ := Option.bind_eq_some_iff.mp e1
  clear e1
  rcases c with ⟨c, n, f | f | f | f | f⟩ | c
  · cases e
  · cases e
  · cases e
  · cases e
  · dsimp only at e
    split at e
    · rename_i hc
      obtain ⟨rfl, h2⟩ := hc
      cases e
      exact ⟨a, n, f, rfl, h1, h2, rfl⟩
    · cases e
  · cases e
theorem stI_spec {G : Nat → Nat} {t : Nat} {h h' : xH} {o : Option Nat} {i x : Int32} (e : stI t G h o i x = some h') : ∃ a n f, o = some a ∧ h.2 a = some (.inl (G t, n, .inl f)) ∧ G 0 ≤ a ∧ vp_in i n ∧ h' = xs h a (.inl (G t, n, .inl (upd f i.toNatClampNeg x))) := by
  unfold stI at e
  obtain ⟨a, ho, e1⟩ := Option.bind_eq_some_iff.mp e
  clear e
  subst ho
  obtain ⟨c, h1, e⟩ := Option.bind_eq_some_iff.mp e1
  clear e1
  rcases c with ⟨c, n, f | f⟩ | c
  · dsimp only at e
    split at e
    · rename_i hc
      obtain ⟨rfl, h2, h3⟩ := hc
      cases e
      exact ⟨a, n, f, rfl, h1, h2, h3, rfl⟩
    · cases e
  · cases e
  · cases e
theorem stJ_spec {G : Nat → Nat} {h h' : xH} {o : Option Nat} {i : Int32} {x : Int64} (e : stJ G h o i x = some h') : ∃ a n f, o = some a ∧ h.2 a = some (.inl (G 4, n, .inr (.inl f))) ∧ G 0 ≤ a ∧ vp_in i n ∧ h' = xs h a (.inl (G 4, n, .inr (.inl (vp_updL f i.toNatClampNeg x)))) := by
  unfold stJ at e
  obtain ⟨a, ho, e1⟩ := Option.bind_eq_some_iff.mp e
  clear e
  subst ho
  obtain ⟨c, h1, e⟩ := Option.bind_eq_some_iff.mp e1
  clear e1
  rcases c with ⟨c, n, f | f | f⟩ | c
  · cases e
  · dsimp only at e
    split at e
    · rename_i hc
      obtain ⟨rfl, h2, h3⟩ := hc
      cases e
      exact ⟨a, n, f, rfl, h1, h2, h3, rfl⟩
    · cases e
  · cases e
  · cases e
theorem aln_spec {G : Nat → Nat} {h : xH} {o : Option Nat} {x : Int32} (hne : ¬ o = some (G 1)) (e : aln G h o = some x) : ∃ (a : Nat) (c : ClassId) (n : Nat) (f : (Nat → Int32) ⊕ (Nat → Int64) ⊕ (Nat → UInt32) ⊕ (Nat → UInt64) ⊕ (Nat → Option Nat)) (t0 : Nat) (ty : FieldType), o = some a ∧ h.2 a = some (.inl (c, n, f)) ∧ (xTy G)[t0]? = some (c, ty) ∧ x = Int32.ofNat n := by
  unfold aln at e
  rw [if_neg hne] at e
  obtain ⟨a, ho, e1⟩ := Option.bind_eq_some_iff.mp e
  clear e
  clear hne
  subst ho
  obtain ⟨c, h1, e⟩ := Option.bind_eq_some_iff.mp e1
  clear e1
  rcases c with ⟨c, n, f⟩ | c
  · dsimp only at e
    split at e
    · rename_i hc
      cases e
      rcases hc with rfl | rfl | rfl | rfl
      · exact ⟨a, _, n, f, 0, _, rfl, h1, rfl, rfl⟩
      · exact ⟨a, _, n, f, 1, _, rfl, h1, rfl, rfl⟩
      · exact ⟨a, _, n, f, 2, _, rfl, h1, rfl, rfl⟩
      · exact ⟨a, _, n, f, 3, _, rfl, h1, rfl, rfl⟩
    · cases e
  · cases e
