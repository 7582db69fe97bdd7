section XLS
variable {p : Program} {l : Launch} {e : Env} {R : Room} {s : State} {m : MethodId} {args : Array Value} {below : List Frame} {meth : Method} {c : Code} {H : Heap} {locs : List Loc} {cells slots : Nat} {Q : State → Prop}
variable {cc : ByteArray} {pc : Nat} {ls : Array Slot} {rest st0 : List Value} {D : va_G} {G : Nat → Nat} {h h0 h' : xH} {H0 : Heap} {o : Option Nat}
variable {y : MethodName} {b : ByteArray} {n k nL index : Nat} {r : Option FieldType} {rm : Room} {As : List Value} {own : String} {res : Option Int32}
/-- a call of a method that may throw -/
theorem x_callVx (hexec : p.tables.exec = Jvm.exec) (hb : c.code = cc) (hml : c.maxLocals = nL) (hown : s.vm.findClass own = some m.cls) (hts : ∀ w ∈ xt, w.before args s = true) (hB : xB s) (hR : xR D G h s H) (hS : va_S (xA G) H0 H locs) {a ci : Nat} {q : vw_C} (hxc : xc h o ci = some a) (hc : vwCl[ci]? = some q) (hq : q.1 = y.cls) (hM : xCx l y b n r rm D G h (.ref a :: As) res) (hf : xM y b n r k) (hl : Cond.methodLink own index y ∈ xt) (hin : Cond.instanceMethod y ∈ xt) (hse : Cond.selects y.cls y y ∈ xt)
    (hn : As.length = k) (hsize : ls.size = nL) (hstack : st0 = As.reverse ++ va_rf o :: rest) (hW : (rest.map fun v => v.category).sum ≤ 8) (hdg : decode cc pc = .ok (.invokevirtual index, 3)) (hroom : rm.frames + 1 ≤ R.frames ∧ 8 + (n + 11) + rm.locals ≤ R.locals) (hcs : cells + rm.cells ≤ R.cells ∧ slots + rm.slots ≤ R.slots)
    (kk : ∀ (v : Int32) (H1 : Heap) (locs1 : List Loc), res = some v → xR D G h s H1 → va_S (xA G) H0 H1 locs1 → W p l e R s m args below meth c H1 locs1 (cells + rm.cells) (slots + rm.slots) Q (F0 m (pc + 3) ls (.int v :: rest)))
    (kx : ∀ (z a9 : Nat) (ce : Cell) (H1 : Heap) (locs1 : List Loc), res = none → h.1 ≤ z → xR D G (z, h.2) s H1 → va_S (xA G) H0 H1 locs1 → H1[a9]? = some ce → ce.vm = .none → s.vm.findClass "java/util/NoSuchElementException" = some ce.cls → vx_W p l e R s m args below meth c H1 locs1 (cells + rm.cells) (slots + rm.slots) Q (F0 m pc ls rest) a9) : W p l e R s m args below meth c H locs cells slots Q (F0 m pc ls st0) := by
  obtain ⟨rfl, fs, ha⟩ := xc_spec hxc
  have hr := vx_runV (C := y.cls) (b := a) (rest := rest) (g := F0 m pc ls st0) (H := H) (locs := locs) (cells := cells) (slots := slots) ⟨hexec, hb, hml, hown, hts⟩ hM ⟨xcallB (R := R) hts hf hl hroom, hts _ hin, hts _ hse⟩ ⟨xPb_blind, by rw [← hq]; exact hR.recv hc ha, fun U hU hW => ⟨⟨rfl, by show xR D G h U U.heap; rw [hU]; exact hR.moved hW.alike⟩, hB.warm hW⟩⟩ rfl hn hsize hstack (by show 2 * 0 + _ ≤ 8; omega) hdg hcs (below := below) (e := e) (meth := meth)
  intro T hT X
  have keep : ∀ (st₀ t T' : State) (L : List Loc), st₀.heap = H → T'.heap = t.heap → va_F (xA G) st₀ t → (∀ z ∈ L, xA G z.base) → va_S (xA G) H0 T'.heap (locs ++ L) := by
    intro st₀ t T' L h0 e1 hF hL
    obtain ⟨hz, hk⟩ := hF
    rw [h0] at hz hk
    rw [← e1] at hz hk
    exact ⟨Nat.le_trans hS.1 hz, fun q h1 h2 => by rw [hk q (Nat.lt_of_lt_of_le h1 hS.1) h2]; exact hS.2.1 q h1 h2, fun q hq => (List.mem_append.mp hq).elim (hS.2.2 q) (hL q)⟩
  rcases hr T hT X with ⟨v1, st₀, t, T', L, h0, X', hL, e1, e2, ⟨v, hv, hv1, hR1, hF⟩, st⟩ | ⟨a9, st₀, t, T', L, E, ce, h0, X', hL, e1, e2, ⟨hv, rfl, ⟨z, hz, hR1⟩, hF⟩, hc9, hvm9, hcl9, st⟩
  · cases hv1
    obtain ⟨t2, a1, b1⟩ := kk v T'.heap (locs ++ L) hv (by rw [e1]; exact hR1.moved (by rw [← e2]; exact X'.warmed.alike.symm)) (keep st₀ t T' L h0 e1 hF hL) T' rfl X'
    exact ⟨t2, st t2 a1, b1⟩
  · obtain ⟨t2, a1, b1⟩ := kx z a9 ce T'.heap (locs ++ L) hv hz (by rw [e1]; exact hR1.moved (by rw [← e2]; exact X'.warmed.alike.symm)) (keep st₀ t T' L h0 e1 hF hL) (by rw [e1]; exact hc9) hvm9 hcl9 T' rfl X'
    exact ⟨t2, st.trans a1, b1⟩
end XLS
def xWs : List Cond := .codeWith yL_span cL_span 6 (some .int) [(0, 12, 15, 13)] :: xt
def rm_L_span : Room := { frames := 8, cells := 1, slots := 6, locals := 200 }
/-- the end of the law's own span: an answer was written to the row and 0 answered; or 1 after a throw -/
def xQs (D : va_G) (G : Nat → Nat) (h : xH) (a4 : Nat) (res : Option Int32) : Array Value → State → Outcome → State → Prop := fun _ st oc t => va_F (xA G) st t ∧ ((∃ v h', res = some v ∧ stJ G h (some a4) 0 v.toInt64 = some h' ∧ oc = .returned (some (.int 0)) ∧ xR D G h' t t.heap) ∨ (res = none ∧ oc = .returned (some (.int 1)) ∧ ∃ z, h.1 ≤ z ∧ xR D G (z, h.2) t t.heap))
