/-- a method's start: these arguments, this heap -/
def xPc (D : va_G) (G : Nat → Nat) (h : xH) (as : List Value) : Array Value → State → Prop := va_Pc as (fun U => xR D G h U U.heap)
/-- a method's end: this answer, this heap; what lies below G 0 is as it was -/
def xQ (D : va_G) (G : Nat → Nat) (v : Option Value) (h' : xH) : Array Value → State → Outcome → State → Prop := fun _ st oc t => oc = .returned v ∧ xR D G h' t t.heap ∧ va_F (xA G) st t
/-- THE CONTRACT of a method at a heap and arguments: its answer and the heap behind it -/
def xC (l : Launch) (y : MethodName) (b : ByteArray) (n : Nat) (r : Option FieldType) (rm : Room) (D : va_G) (G : Nat → Nat) (h : xH) (as : List Value) (v : Option Value) (h' : xH) : Prop := Met l y (xW y b n r) rm (xPc D G h as) (xQ D G v h') rm.cells rm.slots (xA G)
/-- what the tables say of a method -/
def xM (y : MethodName) (b : ByteArray) (n : Nat) (r : Option FieldType) (k : Nat) : Prop := Cond.code y b n r ∈ xt ∧ Cond.initialized y.cls ∈ xt ∧ (y.cls ≠ "java/lang/invoke/MethodHandle" ∧ y.cls ≠ "java/lang/invoke/VarHandle") ∧ (parseMethodDescriptor y.desc).map (fun d => d.parameters.length) = some k
theorem xPc_blind {D : va_G} {G : Nat → Nat} {h : xH} {as : List Value} : FrameBlind (xPc D G h as) := fun a U g mk q => ⟨q.1, xR.moved (u := U) (U := U.calling g mk a) (Vm.Alike.refl U.vm) q.2⟩
section XCALLS
variable {p : Program} {l : Launch} {e : Env} {R : Room} {s : State} {m : MethodId} {args : Array Value} {below : List Frame} {meth : Method} {c : Code} {H : Heap} {locs : List Loc} {cells slots : Nat} {Q : State → Prop}
variable {cc : ByteArray} {pc : Nat} {ls : Array Slot} {rest st0 : List Value} {D : va_G} {G : Nat → Nat} {h h' : xH} {H0 : Heap} {o : Option Nat}
variable {y : MethodName} {b : ByteArray} {n k nL index : Nat} {r : Option FieldType} {rm : Room} {v : Option Value} {As : List Value} {own : String}
theorem xcallB (hts : ∀ w ∈ xt, w.before args s = true) (hf : xM y b n r k) (hl : Cond.methodLink own index y ∈ xt) (hroom : rm.frames + 1 ≤ R.frames ∧ 8 + (n + 11) + rm.locals ≤ R.locals) : CallB R s args own index y b n r (xW y b n r) rm rm.cells rm.slots k :=
  callB_of (Ts := xt) k hts (fun w hw => (List.mem_cons.mp hw).elim (fun e => ⟨e ▸ hf.1, good_of_word (List.mem_filter.mp (e ▸ hf.1)).2⟩) (fun e => ⟨e, good_of_word (List.mem_filter.mp e).2⟩)) rfl rfl rfl (hts _ hf.2.1) (hts _ hl) ⟨hf.2.2.1.1, hf.2.2.1.2, hf.2.2.2⟩ hroom
/-- behind a call -/
theorem x_ret (hr : va_Run p l e R s m args below meth c H locs cells slots rm.cells rm.slots (F0 m pc ls st0) rest (xQ D G v h' As.toArray) (xA G)) (hS : va_S (xA G) H0 H locs)
    (kk : ∀ (H1 : Heap) (locs1 : List Loc), xR D G h' s H1 → va_S (xA G) H0 H1 locs1 → W p l e R s m args below meth c H1 locs1 (cells + rm.cells) (slots + rm.slots) Q (F0 m (pc + 3) ls (v.toList ++ rest))) : W p l e R s m args below meth c H locs cells slots Q (F0 m pc ls st0) := by
  intro T hT X
  obtain ⟨v1, st₀, t, T', L, h0, X', hL, e1, e2, ⟨hv, hR, hz, hk⟩, st⟩ := hr T hT X
  cases hv
  rw [h0] at hz hk
  rw [← e1] at hR hz hk
  obtain ⟨t2, a1, b1⟩ := kk T'.heap (locs ++ L) (hR.moved (by rw [← e2]; exact X'.warmed.alike.symm))
    ⟨Nat.le_trans hS.1 hz, fun q h1 h2 => by rw [hk q (Nat.lt_of_lt_of_le h1 hS.1) h2]; exact hS.2.1 q h1 h2, fun q hq => by
      rcases List.mem_append.mp hq with h | h
      · exact hS.2.2 q h
      · exact hL q h⟩ T' rfl X'
  exact ⟨t2, st t2 a1, b1⟩
theorem x_ret5 (hr : va_Run5 p l e R s m args below meth c H locs cells slots rm.cells rm.slots (F0 m pc ls st0) rest (xQ D G v h' As.toArray) (xA G)) (hS : va_S (xA G) H0 H locs)
    (kk : ∀ (H1 : Heap) (locs1 : List Loc), xR D G h' s H1 → va_S (xA G) H0 H1 locs1 → W p l e R s m args below meth c H1 locs1 (cells + rm.cells) (slots + rm.slots) Q (F0 m (pc + 5) ls (v.toList ++ rest))) : W p l e R s m args below meth c H locs cells slots Q (F0 m pc ls st0) := by
  intro T hT X
  obtain ⟨v1, st₀, t, T', L, h0, X', hL, e1, e2, ⟨hv, hR, hz, hk⟩, st⟩ := hr T hT X
  cases hv
  rw [h0] at hz hk
  rw [← e1] at hR hz hk
  obtain ⟨t2, a1, b1⟩ := kk T'.heap (locs ++ L) (hR.moved (by rw [← e2]; exact X'.warmed.alike.symm))
    ⟨Nat.le_trans hS.1 hz, fun q h1 h2 => by rw [hk q (Nat.lt_of_lt_of_le h1 hS.1) h2]; exact hS.2.1 q h1 h2, fun q hq => by
      rcases List.mem_append.mp hq with h | h
      · exact hS.2.2 q h
      · exact hL q h⟩ T' rfl X'
  exact ⟨t2, st t2 a1, b1⟩
theorem xR.recv {a ci : Nat} {q : vw_C} {fs : List Value} (hR : xR D G h s H) (hc : vwCl[ci]? = some q) (ha : h.2 a = some (.inr (ci, fs))) : ∃ cell : Cell, H[a]? = some cell ∧ cell.vm.isStatics = false ∧ s.vm.findClass q.1 = some cell.cls := va_recv hR.2.2.1 (hR.one ha) hc (q0 := 0) rfl
theorem x_callS (hexec : p.tables.exec = Jvm.exec) (hb : c.code = cc) (hml : c.maxLocals = nL) (hown : s.vm.findClass own = some m.cls) (hts : ∀ w ∈ xt, w.before args s = true) (hR : xR D G h s H) (hS : va_S (xA G) H0 H locs) (hM : xC l y b n r rm D G h As v h') (hf : xM y b n r k) (hl : Cond.methodLink own index y ∈ xt) (hst : Cond.static y ∈ xt)
    (hn : As.length = k) (hsize : ls.size = nL) (hstack : st0 = As.reverse ++ rest) (hW : (rest.map fun v => v.category).sum ≤ 8) (hdg : decode cc pc = .ok (.invokestatic index, 3)) (hroom : rm.frames + 1 ≤ R.frames ∧ 8 + (n + 11) + rm.locals ≤ R.locals) (hcs : cells + rm.cells ≤ R.cells ∧ slots + rm.slots ≤ R.slots) {st1 : List Value} (hst1 : v.toList ++ rest = st1)
    (kk : ∀ (H1 : Heap) (locs1 : List Loc), xR D G h' s H1 → va_S (xA G) H0 H1 locs1 → W p l e R s m args below meth c H1 locs1 (cells + rm.cells) (slots + rm.slots) Q (F0 m (pc + 3) ls st1)) : W p l e R s m args below meth c H locs cells slots Q (F0 m pc ls st0) := by
  subst hst1
  exact x_ret (va_runS (rest := rest) (g := F0 m pc ls st0) ⟨hexec, hb, hml, hown, hts⟩ hM ⟨xcallB hts hf hl hroom, hts _ hst⟩ ⟨xPc_blind, fun U hU hW => ⟨rfl, by show xR D G h U U.heap; rw [hU]; exact hR.moved hW.alike⟩⟩ rfl hn hsize hstack (by show 2 * 0 + _ ≤ 8; omega) hdg hcs) hS kk
theorem x_callV (hexec : p.tables.exec = Jvm.exec) (hb : c.code = cc) (hml : c.maxLocals = nL) (hown : s.vm.findClass own = some m.cls) (hts : ∀ w ∈ xt, w.before args s = true) (hR : xR D G h s H) (hS : va_S (xA G) H0 H locs) {a ci : Nat} {q : vw_C} (hxc : xc h o ci = some a) (hc : vwCl[ci]? = some q) (hq : q.1 = y.cls) (hM : xC l y b n r rm D G h (.ref a :: As) v h') (hf : xM y b n r k) (hl : Cond.methodLink own index y ∈ xt) (hin : Cond.instanceMethod y ∈ xt) (hse : Cond.selects y.cls y y ∈ xt)
    (hn : As.length = k) (hsize : ls.size = nL) (hstack : st0 = As.reverse ++ va_rf o :: rest) (hW : (rest.map fun v => v.category).sum ≤ 8) (hdg : decode cc pc = .ok (.invokevirtual index, 3)) (hroom : rm.frames + 1 ≤ R.frames ∧ 8 + (n + 11) + rm.locals ≤ R.locals) (hcs : cells + rm.cells ≤ R.cells ∧ slots + rm.slots ≤ R.slots) {st1 : List Value} (hst1 : v.toList ++ rest = st1)
    (kk : ∀ (H1 : Heap) (locs1 : List Loc), xR D G h' s H1 → va_S (xA G) H0 H1 locs1 → W p l e R s m args below meth c H1 locs1 (cells + rm.cells) (slots + rm.slots) Q (F0 m (pc + 3) ls st1)) : W p l e R s m args below meth c H locs cells slots Q (F0 m pc ls st0) := by
  subst hst1
  obtain ⟨rfl, fs, ha⟩ := xc_spec hxc
  exact x_ret (As := .ref a :: As) (va_runV (C := y.cls) (b := a) (rest := rest) (g := F0 m pc ls st0) ⟨hexec, hb, hml, hown, hts⟩ hM ⟨xcallB hts hf hl hroom, hts _ hin, hts _ hse⟩ ⟨xPc_blind, by rw [← hq]; exact hR.recv hc ha, fun U hU hW => ⟨rfl, by show xR D G h U U.heap; rw [hU]; exact hR.moved hW.alike⟩⟩ rfl hn hsize hstack (by show 2 * 0 + _ ≤ 8; omega) hdg hcs) hS kk
theorem x_callI (hexec : p.tables.exec = Jvm.exec) (hb : c.code = cc) (hml : c.maxLocals = nL) (hown : s.vm.findClass own = some m.cls) (hts : ∀ w ∈ xt, w.before args s = true) (hR : xR D G h s H) (hS : va_S (xA G) H0 H locs) {a : Nat} (ho : o = some a) (hM : xC l y b n none rm D G h (.ref a :: As) v h') (hf : xM y b n none k) (hl : Cond.methodLink own index y ∈ xt) (hin : Cond.instanceMethod y ∈ xt) (hy1 : y.name = "<init>")
    (hn : As.length = k) (hsize : ls.size = nL) (hstack : st0 = As.reverse ++ va_rf o :: rest) (hW : (rest.map fun v => v.category).sum ≤ 8) (hdg : decode cc pc = .ok (.invokespecial index, 3)) (hroom : rm.frames + 1 ≤ R.frames ∧ 8 + (n + 11) + rm.locals ≤ R.locals) (hcs : cells + rm.cells ≤ R.cells ∧ slots + rm.slots ≤ R.slots) {st1 : List Value} (hst1 : v.toList ++ rest = st1)
    (kk : ∀ (H1 : Heap) (locs1 : List Loc), xR D G h' s H1 → va_S (xA G) H0 H1 locs1 → W p l e R s m args below meth c H1 locs1 (cells + rm.cells) (slots + rm.slots) Q (F0 m (pc + 3) ls st1)) : W p l e R s m args below meth c H locs cells slots Q (F0 m pc ls st0) := by
  subst hst1
  subst ho
  exact x_ret (As := .ref a :: As) (va_runI (b := a) (rest := rest) (g := F0 m pc ls st0) ⟨hexec, hb, hml, hown, hts⟩ hM ⟨xcallB hts hf hl hroom, hy1, hts _ hin⟩ ⟨xPc_blind, fun U hU hW => ⟨rfl, by show xR D G h U U.heap; rw [hU]; exact hR.moved hW.alike⟩⟩ rfl hn hsize hstack (by show 2 * 0 + _ ≤ 8; omega) hdg hcs) hS kk
theorem x_callF (hexec : p.tables.exec = Jvm.exec) (hb : c.code = cc) (hml : c.maxLocals = nL) (hown : s.vm.findClass own = some m.cls) (hts : ∀ w ∈ xt, w.before args s = true) (hR : xR D G h s H) (hS : va_S (xA G) H0 H locs) {a ci count : Nat} {q : vw_C} {x : MethodName} (hxc : xc h o ci = some a) (hc : vwCl[ci]? = some q) (hq : (q.1, x, y) ∈ xFs) (hM : xC l y b n r rm D G h (.ref a :: As) v h') (hf : xM y b n r k) (hl : Cond.methodLink own index x ∈ xt) (hin : Cond.instanceMethod y ∈ xt) (hse : Cond.selects q.1 x y ∈ xt) (hdn : (parseMethodDescriptor x.desc).map (fun d => d.parameters.length) = some k)
    (hn : As.length = k) (hsize : ls.size = nL) (hstack : st0 = As.reverse ++ va_rf o :: rest) (hW : (rest.map fun v => v.category).sum ≤ 8) (hdg : decode cc pc = .ok (.invokeinterface index count, 5)) (hroom : rm.frames + 1 ≤ R.frames ∧ 8 + (n + 11) + rm.locals ≤ R.locals) (hcs : cells + rm.cells ≤ R.cells ∧ slots + rm.slots ≤ R.slots) {st1 : List Value} (hst1 : v.toList ++ rest = st1)
    (kk : ∀ (H1 : Heap) (locs1 : List Loc), xR D G h' s H1 → va_S (xA G) H0 H1 locs1 → W p l e R s m args below meth c H1 locs1 (cells + rm.cells) (slots + rm.slots) Q (F0 m (pc + 5) ls st1)) : W p l e R s m args below meth c H locs cells slots Q (F0 m pc ls st0) := by
  subst hst1
  obtain ⟨rfl, fs, ha⟩ := xc_spec hxc
  have hT : GoodIn xt (va_wsF own index q.1 x y (xW y b n r)) := by
    refine fun w hw => ?_
    have key : w ∈ xt := by
      simp only [va_wsF, List.mem_append, List.mem_cons, List.not_mem_nil, or_false] at hw
      rcases hw with (rfl | rfl | rfl | rfl) | hw
      · exact hl
      · exact hse
      · exact hin
      · exact hf.2.1
      · exact (List.mem_cons.mp hw).elim (fun e => e ▸ hf.1) (fun e => e)
    exact ⟨key, good_of_word (List.mem_filter.mp key).2⟩
  exact x_ret5 (As := .ref a :: As) (va_runF (C := q.1) (b := a) (rest := rest) (g := F0 m pc ls st0) (hR.2.2.1.1 ci q hc).2 ⟨hexec, hb, hml, hown, hts⟩ hM (va_cwF k hts hT rfl rfl rfl (hR.2.2.2.1.2.1 _ hq) ⟨(xFs_ok _ hq).1, (xFs_ok _ hq).2, hdn⟩ hroom) ⟨xPc_blind, hR.recv hc ha, fun U hU hW => ⟨rfl, by show xR D G h U U.heap; rw [hU]; exact hR.moved hW.alike⟩⟩ rfl hn hsize hstack (by show 2 * 0 + _ ≤ 8; omega) hdg hcs) hS kk
end XCALLS
