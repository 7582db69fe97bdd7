/-! arrays of references: made, written, copied -/
def xob (h : xH) (b : Nat) : Bool := match h.2 b with
  | some (.inr _) => true
  | _ => false
theorem xob_spec {h : xH} {b : Nat} (e : xob h b = true) : ∃ q, h.2 b = some (.inr q) := by
  unfold xob at e
  split at e
  · rename_i q hq
    exact ⟨q, hq⟩
  · cases e
def stR (G : Nat → Nat) (h : xH) (o : Option Nat) (i : Int32) (v : Option Nat) : Option xH := o.bind fun a => v.bind fun b => (h.2 a).bind fun e => match e with
  | .inl (c, n, .inr (.inr (.inr (.inr f)))) => if c = G 5 ∧ G 0 ≤ a ∧ ¬ (i < 0 ∨ n ≤ i.toNatClampNeg) ∧ xob h b = true then some (xs h a (.inl (c, n, .inr (.inr (.inr (.inr (va_up f i.toNatClampNeg (some b)))))))) else none
  | _ => none
theorem stR_spec {G : Nat → Nat} {h h' : xH} {o v : Option Nat} {i : Int32} (e : stR G h o i v = some h') : ∃ a b n f q, o = some a ∧ v = some b ∧ h.2 a = some (.inl (G 5, n, .inr (.inr (.inr (.inr f))))) ∧ G 0 ≤ a ∧ vp_in i n ∧ h.2 b = some (.inr q) ∧ h' = xs h a (.inl (G 5, n, .inr (.inr (.inr (.inr (va_up f i.toNatClampNeg (some b))))))) := by
  unfold stR at e
  obtain ⟨a, ho, e1⟩ := Option.bind_eq_some_iff.mp e
  obtain ⟨b, hv, e2⟩ := Option.bind_eq_some_iff.mp e1
  obtain ⟨x, hx, e3⟩ := Option.bind_eq_some_iff.mp e2
  clear e e1 e2
  subst ho hv
  rcases x with ⟨c, n, f | f | f | f | f⟩ | c
  · cases e3
  · cases e3
  · cases e3
  · cases e3
  · dsimp only at e3
    split at e3
    · rename_i hc
      obtain ⟨rfl, h2, h3, h4⟩ := hc
      cases e3
      obtain ⟨q, hq⟩ := xob_spec h4
      exact ⟨a, b, n, f, q, rfl, rfl, hx, h2, h3, hq, rfl⟩
    · cases e3
  · cases e3
def nAR (G : Nat → Nat) (h : xH) (n : Int32) : Option (Nat × xH) := if ¬ n < 0 ∧ n.toNatClampNeg ≤ 64 then some (h.1, xn h (.inl (G 5, n.toNatClampNeg, .inr (.inr (.inr (.inr (fun _ => none))))))) else none
def cpR (G : Nat → Nat) (h : xH) (o : Option Nat) (sp : Int32) (o' : Option Nat) (dp n : Int32) : Option xH := o.bind fun a0 => o'.bind fun a => (h.2 a0).bind fun e0 => (h.2 a).bind fun e => match e0, e with
  | .inl (c0, n0, .inr (.inr (.inr (.inr f)))), .inl (c1, n1, .inr (.inr (.inr (.inr g)))) => if (c0 = G 5 ∧ c1 = G 5 ∧ G 0 ≤ a) ∧ (¬ sp < 0 ∧ ¬ dp < 0 ∧ ¬ n < 0) ∧ sp.toNatClampNeg + n.toNatClampNeg ≤ n0 ∧ dp.toNatClampNeg + n.toNatClampNeg ≤ n1 ∧ (∀ i, i < n.toNatClampNeg → (f (sp.toNatClampNeg + i)).all (xob h) = true) then some (xs h a (.inl (c1, n1, .inr (.inr (.inr (.inr (va_cpy f g sp.toNatClampNeg dp.toNatClampNeg n.toNatClampNeg))))))) else none
  | _, _ => none
theorem cpR_spec {G : Nat → Nat} {h h' : xH} {o o' : Option Nat} {sp dp n : Int32} (e : cpR G h o sp o' dp n = some h') : ∃ a0 a n0 n1 f g, o = some a0 ∧ o' = some a ∧ h.2 a0 = some (.inl (G 5, n0, .inr (.inr (.inr (.inr f))))) ∧ h.2 a = some (.inl (G 5, n1, .inr (.inr (.inr (.inr g))))) ∧ G 0 ≤ a ∧ ¬ sp < 0 ∧ ¬ dp < 0 ∧ ¬ n < 0 ∧ sp.toNatClampNeg + n.toNatClampNeg ≤ n0 ∧ dp.toNatClampNeg + n.toNatClampNeg ≤ n1 ∧ (∀ i, i < n.toNatClampNeg → ∀ y, f (sp.toNatClampNeg + i) = some y → ∃ q, h.2 y = some (.inr q)) ∧ h' = xs h a (.inl (G 5, n1, .inr (.inr (.inr (.inr (va_cpy f g sp.toNatClampNeg dp.toNatClampNeg n.toNatClampNeg)))))) := by
  unfold cpR at e
  obtain ⟨a0, ho, e1⟩ := Option.bind_eq_some_iff.mp e
  obtain ⟨a, ho', e2⟩ := Option.bind_eq_some_iff.mp e1
  obtain ⟨x0, hx0, e3⟩ := Option.bind_eq_some_iff.mp e2
  obtain ⟨x, hx, e4⟩ := Option.bind_eq_some_iff.mp e3
  clear e e1 e2 e3
  subst ho ho'
  split at e4
  · rename_i c0 n0 f c1 n1 g
    split at e4
    · rename_i hc
      obtain ⟨⟨rfl, rfl, h1⟩, ⟨h2, h3, h4⟩, h5, h6, h7⟩ := hc
      cases e4
      refine ⟨a0, a, n0, n1, f, g, rfl, rfl, hx0, hx, h1, h2, h3, h4, h5, h6, fun i hi y hy => ?_, rfl⟩
      have h8 := h7 i hi
      rw [hy] at h8
      exact xob_spec h8
    · cases e4
  · cases e4
section XLISTS
variable {p : Program} {l : Launch} {e : Env} {R : Room} {s : State} {m : MethodId} {args : Array Value} {below : List Frame} {meth : Method} {c : Code} {H : Heap} {locs : List Loc} {cells slots : Nat} {Q : State → Prop}
variable {cc : ByteArray} {pc : Nat} {ls : Array Slot} {rest : List Value} {D : va_G} {G : Nat → Nat} {h h' : xH} {H0 : Heap} {o o' v : Option Nat}
/-- a cell of the heap is an object that can be cast to Object -/
theorem xR.any (hR : xR D G h s H) {b : Nat} {q : Nat × List Value} (hb : h.2 b = some (.inr q)) : ∃ cellV : Cell, H[b]? = some cellV ∧ cellV.vm.isStatics = false ∧ (∃ kC : Class, s.vm.classes[cellV.cls]? = some kC) ∧ ∀ comp : ClassId, s.vm.findClass "java/lang/Object" = some comp → s.vm.assignable cellV.cls comp = true := by
  obtain ⟨r, hr, cell, g1, g2, g3, -⟩ := hR.2.2.2.2 b _ hb
  have hK := (hR.2.2.1.1 q.1 r hr).2
  obtain ⟨kC, hkC, -⟩ := hK.2
  refine ⟨cell, g1, by rw [g3]; rfl, ⟨kC, by rw [g2]; exact hkC⟩, fun comp hc => ?_⟩
  obtain ⟨c0, t1, f1, f2, f3⟩ := Cond.castable_spec (va_Nw.use (A := #[]) rfl (hR.2.2.2.1.2.2.1 r (List.mem_of_getElem? hr)))
  cases hK.1.symm.trans f1
  cases hc.symm.trans f2
  rw [g2]
  exact f3
theorem x_ast (hexec : p.tables.exec = Jvm.exec) (hb : c.code = cc) (hR : xR D G h s H) (hS : va_S (xA G) H0 H locs) {i : Int32} (hv : stR G h o i v = some h') (hdg : decode cc pc = .ok (.aastore, 1))
    (kk : ∀ (H1 : Heap) (locs1 : List Loc), xR D G h' s H1 → va_S (xA G) H0 H1 locs1 → W p l e R s m args below meth c H1 locs1 cells slots Q (F0 m (pc + 1) ls rest)) : W p l e R s m args below meth c H locs cells slots Q (F0 m pc ls (va_rf v :: .int i :: va_rf o :: rest)) := by
  obtain ⟨a, b, n, f, q, rfl, rfl, ha, hlo, hin, hq, rfl⟩ := stR_spec hv
  have hlt : i.toNatClampNeg < n := Nat.not_le.mp fun q => hin (Or.inr q)
  have h0 : ¬ i < 0 := fun q => hin (Or.inl q)
  obtain ⟨cellV, g1, g3, ⟨kC, hkC⟩, hasg⟩ := hR.any hq
  obtain ⟨kA, comp, k1, k2, k3, -⟩ := (hR.2.2.1.2 3 _ rfl).2
  obtain ⟨kE, hkE, -⟩ := Vm.findClass_spec k3
  refine W.aast hexec hb (hR.2.2.2.2 a _ ha) (fun q h => by cases h) (fun h => by cases h) k1 k2 rfl hkE ⟨h0, by show _ < (arrV _ _ _).slots.size; rw [arrV_size]; exact hlt⟩ g1 (fun q h => by rw [h] at g3; cases g3) hkC (hasg _ k3) rfl rfl hdg fun H1 e z oq => ?_
  refine kk H1 _ (hR.set hlo ?_ z oq) (hS.put z oq hlo)
  show H1[a]? = some (vp_cell _ _)
  rw [e]
  rw [vp_cell_q, vp_cell_q, arrV_store]
  congr 2
  funext q
  by_cases hq : q = i.toNatClampNeg
  · subst hq
    simp [updV, va_up, va_rf]
  · simp [updV, va_up, hq]
theorem x_anew (hexec : p.tables.exec = Jvm.exec) (hb : c.code = cc) {own : String} {index : Nat} (hown : s.vm.findClass own = some m.cls) {Ts : List Cond} (hts : ∀ w ∈ Ts, w.before args s = true) (hcl : Cond.classLink own index "java/lang/Object" ∈ Ts) (hR : xR D G h s H) (hS : va_S (xA G) H0 H locs) {n : Int32} {q : Nat} (hv : nAR G h n = some (q, h')) (hcells : cells + 1 ≤ R.cells) (hslots : slots + 64 ≤ R.slots) (hdg : decode cc pc = .ok (.anewarray index, 3))
    (kk : ∀ (H1 : Heap), xR D G h' s H1 → va_S (xA G) H0 H1 locs → W p l e R s m args below meth c H1 locs (cells + 1) (slots + 64) Q (F0 m (pc + 3) ls (va_rf (some q) :: rest))) : W p l e R s m args below meth c H locs cells slots Q (F0 m pc ls (.int n :: rest)) := by
  unfold nAR at hv
  split at hv
  · rename_i hn
    cases hv
    refine W.anew hexec hb hown (hts _ hcl) (va_AO.use hR.2.2.2.1.2.2.2.2.2.1) rfl hdg rfl hn.1 (by omega) hcells (by omega) fun cA kA comp f1 f2 f3 f4 => ?_
    obtain ⟨kB, compB, b1, b2, b3, b4⟩ := (hR.2.2.1.2 3 _ rfl).2
    cases b4.symm.trans f1
    generalize hH1 : H.push ({ cls := G 5, slots := Array.replicate n.toNatClampNeg .null, vm := .none } : Cell) = H1
    have z1 : H1.size = H.size + 1 := by rw [← hH1, Array.size_push]
    have e1 : H1[H.size]? = some (arrV (G 5) n.toNatClampNeg (fun _ => .null)) := by rw [← hH1, Array.getElem?_push_size, ← arrV_new]
    have o1 : ∀ q : Nat, q < H.size → H1[q]? = H[q]? := fun q hq => by rw [← hH1, Array.getElem?_push, if_neg (Nat.ne_of_lt hq)]
    refine W.widen (k := cells + 1) (n := slots + 64) (Nat.le_refl _) (by omega) ?_
    rw [hR.1] at e1
    have hk := kk H1 (hR.new (e' := .inl (G 5, n.toNatClampNeg, .inr (.inr (.inr (.inr (fun _ => none)))))) (by exact e1) z1 o1) ⟨by rw [z1]; exact Nat.le_succ_of_le hS.1, fun x h1 h2 => (o1 x (Nat.lt_of_lt_of_le h1 hS.1)).trans (hS.2.1 x h1 h2), hS.2.2⟩
    rw [← hR.1] at hk
    exact hk
  · cases hv
theorem x_ldcM (hexec : p.tables.exec = Jvm.exec) (hb : c.code = cc) {own : String} {index : Nat} (hown : s.vm.findClass own = some m.cls) {Ts : List Cond} (hts : ∀ w ∈ Ts, w.before args s = true) (hlink : Cond.classLink own index "[Ljava/lang/Object;" ∈ Ts) (hR : xR D G h s H) (hdg : decode cc pc = .ok (.ldc index, 2))
    (kk : W p l e R s m args below meth c H locs cells slots Q (F0 m (pc + 2) ls (va_rf (some (G 6)) :: rest))) : W p l e R s m args below meth c H locs cells slots Q (F0 m pc ls rest) := va_ldcM hexec hb hown (hts _ hlink) hR.2.2.2.1.2.2.2.1 hdg kk
def xAO (G : Nat → Nat) (h : xH) (o : Option Nat) : Option Nat := o.bind fun a => (h.2 a).bind fun e => match e with
  | .inl (c, _, .inr (.inr (.inr (.inr _)))) => if c = G 5 then some a else none
  | _ => none
theorem xAO_spec {G : Nat → Nat} {h : xH} {o : Option Nat} {a : Nat} (e : xAO G h o = some a) : o = some a ∧ ∃ n f, h.2 a = some (.inl (G 5, n, .inr (.inr (.inr (.inr f))))) := by
  unfold xAO at e
  obtain ⟨b, ho, e1⟩ := Option.bind_eq_some_iff.mp e
  obtain ⟨x, hx, e2⟩ := Option.bind_eq_some_iff.mp e1
  clear e e1
  subst ho
  rcases x with ⟨c, n, f | f | f | f | f⟩ | c
  · cases e2
  · cases e2
  · cases e2
  · cases e2
  · dsimp only at e2
    split at e2
    · rename_i hc
      subst hc
      cases e2
      exact ⟨rfl, n, f, hx⟩
    · cases e2
  · cases e2
theorem x_getC (hexec : p.tables.exec = Jvm.exec) (hb : c.code = cc) (hml : c.maxLocals = ls.size) {own : String} {index : Nat} (hown : s.vm.findClass own = some m.cls) {Ts : List Cond} (hts : ∀ w ∈ Ts, w.before args s = true) (hlink : Cond.methodLink own index ⟨"java/lang/Object", "getClass", "()Ljava/lang/Class;"⟩ ∈ Ts) (hsel : Cond.selects "[Ljava/lang/Object;" ⟨"java/lang/Object", "getClass", "()Ljava/lang/Class;"⟩ ⟨"java/lang/Object", "getClass", "()Ljava/lang/Class;"⟩ ∈ Ts) (hinst : Cond.instanceMethod ⟨"java/lang/Object", "getClass", "()Ljava/lang/Class;"⟩ ∈ Ts) (hnat : Cond.native ⟨"java/lang/Object", "getClass", "()Ljava/lang/Class;"⟩ ∈ Ts) (hR : xR D G h s H) {a : Nat} (hv : xAO G h o = some a)
    (hframes : 1 ≤ R.frames) (hW : (rest.map fun v => v.category).sum ≤ 8) (hlocals : 22 ≤ R.locals) (hdg : decode cc pc = .ok (.invokevirtual index, 3))
    (kk : W p l e R s m args below meth c H locs cells slots Q (F0 m (pc + 3) ls (va_rf (some (G 6)) :: rest))) : W p l e R s m args below meth c H locs cells slots Q (F0 m pc ls (va_rf o :: rest)) := by
  obtain ⟨rfl, n, f, ha⟩ := xAO_spec hv
  obtain ⟨kB, compB, b1, b2, b3, b4⟩ := (hR.2.2.1.2 3 _ rfl).2
  exact va_getC hexec hb hml hown (hts _ hlink) (va_Dc.use hR.2.2.2.1.2.2.2.2.1) (hts _ hsel) (hts _ hinst) (hts _ hnat) hR.2.2.2.1.2.2.2.1 ⟨_, hR.2.2.2.2 a _ ha, rfl, b4⟩ hframes (by omega) hdg kk
theorem x_acopy (hexec : p.tables.exec = Jvm.exec) (hb : c.code = cc) (hml : c.maxLocals = ls.size) {own : String} {index : Nat} (hown : s.vm.findClass own = some m.cls) {Ts : List Cond} (hts : ∀ w ∈ Ts, w.before args s = true) (hlink : Cond.methodLink own index arraycopyName ∈ Ts) (hnat : Cond.native arraycopyName ∈ Ts) (hstat : Cond.static arraycopyName ∈ Ts) (hini : Cond.initialized "java/lang/System" ∈ Ts) (hR : xR D G h s H) (hS : va_S (xA G) H0 H locs) {sp dp n : Int32} (hv : cpR G h o sp o' dp n = some h')
    (hframes : 1 ≤ R.frames) (hW : (rest.map fun v => v.category).sum ≤ 8) (hlocals : 8 + (nativeFrameWords "java/lang/System" "arraycopy" 5 + 11) ≤ R.locals) (hdg : decode cc pc = .ok (.invokestatic index, 3))
    (kk : ∀ (H1 : Heap) (locs1 : List Loc), xR D G h' s H1 → va_S (xA G) H0 H1 locs1 → W p l e R s m args below meth c H1 locs1 cells slots Q (F0 m (pc + 3) ls rest)) : W p l e R s m args below meth c H locs cells slots Q (F0 m pc ls (.int n :: .int dp :: va_rf o' :: .int sp :: va_rf o :: rest)) := by
  obtain ⟨a0, a, n0, n1, f, g, rfl, rfl, ha0, ha1, hlo, h1, h2, h3, h4, h5, hel, rfl⟩ := cpR_spec hv
  have nn : ∀ z : Int32, ¬ z < 0 → z.toInt = (z.toNatClampNeg : Int) := by
    intro z hz
    have hz0 : (0 : Int) ≤ z.toInt := by
      have := Int32.not_lt.mp hz
      simpa using Int32.le_iff_toInt_le.mp this
    show z.toInt = ((z.toInt.toNat : Nat) : Int)
    omega
  intro T hT X
  have hc0 : H[a0]? = some (vp_cell (G 5) (n0, .inr (.inr (.inr (.inr f))))) := hR.2.2.2.2 a0 _ ha0
  have hc1 : H[a]? = some (vp_cell (G 5) (n1, .inr (.inr (.inr (.inr g))))) := hR.2.2.2.2 a _ ha1
  have hK := hR.2.2.1.2 3 _ rfl
  obtain ⟨-, k0, hk0, cm0, hkk0⟩ := hK.1 n0 (fun j => va_rf (f j))
  obtain ⟨vm', X', step⟩ := X.arraycopy hexec hown (hts _ hlink) (hts _ hnat) (hts _ hstat) (hts _ hini) (src := a0) (dst := a) (cs := vp_cell (G 5) (n0, .inr (.inr (.inr (.inr f))))) (cd := vp_cell (G 5) (n1, .inr (.inr (.inr (.inr g))))) (srcPos := sp) (destPos := dp) (n := n) (by rw [hT]; exact hc0) (by rw [hT]; exact hc1)
    (fun _ h => by cases h) (fun _ h => by cases h) (fun h => by cases h) (fun h => by cases h) hk0 hk0 hkk0 hkk0 rfl h1 h2 h3
    (by rw [nn sp h1, nn n h3]; show ¬ _ > ((arrV (G 5) n0 (fun j => va_rf (f j))).slots.size : Int); rw [arrV_size]; omega)
    (by rw [nn dp h2, nn n h3]; show ¬ _ > ((arrV (G 5) n1 (fun j => va_rf (g j))).slots.size : Int); rw [arrV_size]; omega)
    (fun vm₁ hal i hi => by
      have e : (vp_cell (G 5) (n0, .inr (.inr (.inr (.inr f))))).slots.getD (sp.toNatClampNeg + i) .null = va_rf (f (sp.toNatClampNeg + i)) := by
        show (arrV (G 5) n0 (fun j => va_rf (f j))).slots.getD _ _ = _
        rw [Array.getD_eq_getD_getElem?, arrV_read _ _ (by omega)]
        rfl
      rw [e]
      cases hy : f (sp.toNatClampNeg + i) with
      | none => exact ⟨rfl, trivial⟩
      | some y =>
        obtain ⟨q, hq⟩ := hel i hi y hy
        obtain ⟨cellV, g1, g2, ⟨kC, hkC⟩, hasg⟩ := hR.any hq
        obtain ⟨kA, comp, r1, r2, r3, -⟩ := hK.2
        cases hk0.symm.trans r1
        cases hkk0.symm.trans r2
        obtain ⟨kE, hkE, -⟩ := Vm.findClass_spec r3
        obtain ⟨kC', hkC', -⟩ := hal.2.2 _ _ hkC
        obtain ⟨kE', hkE', -⟩ := hal.2.2 _ _ hkE
        refine ⟨rfl, cellV, (show T.heap[y]? = some cellV by rw [hT]; exact g1), (fun q h => by rw [h] at g2; cases g2), ⟨kC', hkC'⟩, ?_, ?_⟩
        · exact ⟨kE', hkE'⟩
        · show vm₁.assignable _ _ = true
          rw [hal.assignable]
          exact hasg _ r3)
    (g := F0 m pc ls (.int n :: .int dp :: .ref a :: .int sp :: .ref a0 :: rest)) rfl (by rw [hml]) (rest := rest) rfl (by rw [hb]; exact hdg) hframes (by show 2 * 0 + _ + _ ≤ _; omega)
  have e1 : copied (vp_cell (G 5) (n0, .inr (.inr (.inr (.inr f))))) (vp_cell (G 5) (n1, .inr (.inr (.inr (.inr g))))) sp dp n = vp_cell (G 5) (n1, .inr (.inr (.inr (.inr (va_cpy f g sp.toNatClampNeg dp.toNatClampNeg n.toNatClampNeg))))) := by
    rw [vp_cell_q, vp_cell_q, vp_cell_q]
    exact va_copied (fun z => va_rf z) (G 5) (G 5) f g h4
  rw [e1] at X' step
  have hl : a < H.size := (Array.getElem?_eq_some_iff.mp hc1).1
  have oq : ∀ q : Nat, q ≠ a → (H.setIfInBounds a (vp_cell (G 5) (n1, .inr (.inr (.inr (.inr (va_cpy f g sp.toNatClampNeg dp.toNatClampNeg n.toNatClampNeg)))))))[q]? = H[q]? := fun q hq => by simp [Array.getElem?_setIfInBounds, Ne.symm hq]
  obtain ⟨t, a1, b1⟩ := kk _ _ (hR.set hlo (show (H.setIfInBounds a _)[a]? = some _ by simp [Array.getElem?_setIfInBounds, hl]) (by simp) oq) ⟨by simp; exact hS.1, fun q g1 g2 => by
      rw [oq q (fun e => g2 (by rw [e]; exact hlo))]
      exact hS.2.1 q g1 g2, fun q hq => by
      rcases List.mem_append.mp hq with h | h
      · exact hS.2.2 q h
      · obtain ⟨z, -, hz⟩ := List.mem_map.mp h
        rw [← hz]
        exact hlo⟩ _ (by rw [← hT]; rfl) X'
  exact ⟨t, step t a1, b1⟩
end XLISTS
