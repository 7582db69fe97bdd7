/-! a method that throws NoSuchElementException: what a caller gets -/
def xXC (D : va_G) (G : Nat → Nat) (h : xH) : String → State → State → Prop := fun E st t => E = "java/util/NoSuchElementException" ∧ (∃ z, h.1 ≤ z ∧ xR D G (z, h.2) t t.heap) ∧ va_F (xA G) st t
/-- it answers (res = some v) or throws (res = none); the heap's cells stay -/
def xCx (l : Launch) (y : MethodName) (b : ByteArray) (n : Nat) (r : Option FieldType) (rm : Room) (D : va_G) (G : Nat → Nat) (h : xH) (as : List Value) (res : Option Int32) : Prop := vx_Met l y (xW y b n r) rm (xPb D G h as) (fun a st oc t => ∃ v, res = some v ∧ xQ D G (some (.int v)) h a st oc t) (fun E st t => res = none ∧ xXC D G h E st t) rm.cells rm.slots (xA G)
theorem xCx_of {l : Launch} {y : MethodName} {b : ByteArray} {n : Nat} {r : Option FieldType} {rm : Room} {D : va_G} {G : Nat → Nat} {h : xH} {as : List Value} {res : Option Int32} (hy : plainName y.cls = true) (hn : (lg_sl as).length ≤ n)
    (body : ∀ (p : Program) (e : Env) (s : State) (m : MethodId) (args : Array Value) (below : List Frame) (meth : Method) (c : Code) (ls : Array Slot), p.tables.exec = Jvm.exec → c.code = b → meth.sig.returnType = r → meth.locks = false → c.maxLocals = n → s.vm.findClass y.cls = some m.cls → meth.name = y.name → (∀ w ∈ xt, w.before args s = true) → xB s → (∀ x ∈ c.exceptionTable.toList, False) → xR D G h s s.heap → va_S (xA G) s.heap s.heap [] → lv_has ls n (lv_args 0 as) →
      W p l e rm s m args below meth c s.heap [] 0 0 (vx_MQ below (fun a st oc t => ∃ v, res = some v ∧ xQ D G (some (.int v)) h a st oc t) (fun E st t => res = none ∧ xXC D G h E st t) args s rm.cells rm.slots (xA G)) (F0 m 0 ls [])) : xCx l y b n r rm D G h as res := by
  refine vx_ofW (cc := b) (maxL := n) (ret := r) hy rfl ?_
  intro p e s m args below meth c s₁ B hml hout hv
  obtain ⟨⟨rfl, hR⟩, hB⟩ := hv
  have hl := lv_entry as (n := n) hn
  rw [lg_entry_eq]
  have hts := atoms_spec (ws := xW y b n r) B.pre
  exact body p e s m _ below meth c _ B.exec B.bytes B.returns B.notSynchronized hml (findClass_of_methodNamed B.named) (name_of_methodNamed B.named B.method).1 (fun w hw => hts w (List.mem_cons_of_mem _ hw)) hB hout hR va_S.rf hl
section XTHR
variable {p : Program} {l : Launch} {e : Env} {R : Room} {s : State} {m : MethodId} {args : Array Value} {below : List Frame} {meth : Method} {c : Code} {H : Heap} {locs : List Loc} {cells slots : Nat} {Q : State → Prop}
variable {cc : ByteArray} {pc : Nat} {ls : Array Slot} {rest st0 : List Value} {D : va_G} {G : Nat → Nat} {h h0 h' : xH} {H0 : Heap} {o : Option Nat}
theorem x_xret {g : JFrame} {mc ms : Nat} {free : Addr → Prop} {v : Int32} {XC : String → State → State → Prop} (k : W p l e R s m args below meth c H locs cells slots (MQ below (xQ D G (some (.int v)) h) args s mc ms free) g) : W p l e R s m args below meth c H locs cells slots (vx_MQ below (fun a st oc t => ∃ w, some v = some w ∧ xQ D G (some (.int w)) h a st oc t) XC args s mc ms free) g :=
  vx_ret (fun T hT X => by
    obtain ⟨t, a1, o, b1, b2, b3, b4⟩ := k T hT X
    exact ⟨t, a1, o, b1, b2, ⟨v, rfl, b3⟩, b4⟩)
theorem xThr_ok : ∀ w ∈ Cond.classLink "ShareKeeper" 122 "java/util/NoSuchElementException" :: Cond.initialized "java/util/NoSuchElementException" :: xThr, vx_ot w = true := by decide +kernel
theorem x_thr {Qc : Array Value → State → Outcome → State → Prop} {mc ms : Nat} (hexec : p.tables.exec = Jvm.exec) (hb : c.code = cc) (hlt : l.stackTraces = false) (hown : s.vm.findClass "ShareKeeper" = some m.cls) (hts : ∀ w ∈ xt, w.before args s = true) (hcl : Cond.classLink "ShareKeeper" 122 "java/util/NoSuchElementException" ∈ xt) (hini : Cond.initialized "java/util/NoSuchElementException" ∈ xt) (hB : xB s) (hR0 : xR D G h0 s s.heap) (hR : xR D G h s H) (hS : va_S (xA G) s.heap H locs) (hsize : ls.size = c.maxLocals) (hlk : meth.locks = false) (hout : ∀ x ∈ c.exceptionTable.toList, False)
    (d0 : decode cc pc = .ok (.new 122, 3)) (d3 : decode cc (pc + 3) = .ok (.dup, 1)) (d4 : decode cc (pc + 4) = .ok (.invokespecial 124, 3)) (d7 : decode cc (pc + 7) = .ok (.athrow, 1))
    (hRframes : 5 < R.frames) (hW : (rest.map fun v => v.category).sum ≤ 8) (hRlocals : 89 ≤ R.locals) (hRcells : cells + 1 ≤ R.cells) (hRslots : slots + 6 ≤ R.slots) (hc : cells + 1 ≤ mc) (hs : slots + 6 ≤ ms) :
    W p l e R s m args below meth c H locs cells slots (vx_MQ below Qc (fun E st t => (none : Option Int32) = none ∧ xXC D G h E st t) args s mc ms (xA G)) (F0 m pc ls rest) := by
  refine vx_throw0 (A := xA G) (names := ["java/lang/RuntimeException", "java/lang/Exception"]) (cls := "java/util/NoSuchElementException") (ik := 122) (ic := 124) hexec hb hlt hown (by decide +kernel) (by decide +kernel) (hts _ hcl) (hts _ hini) ?_ xThr_ok hR0.2.2.2.1.2.2.2.2.2.2.1 hR0.2.2.2.1.2.2.2.2.2.2.2.1 hS hsize d0 d3 d4 d7 (fun x hx => (hout x hx).elim) hRframes (by show _ + (13 * 3 + 42) ≤ _; omega) hRcells hRslots hlk ?_ hS.2.2 hc hs
  · intro w hw
    by_cases hg : goodWord w = true
    · exact hts w (xThr_good w (List.mem_filter.mpr ⟨hw, hg⟩))
    · have hm : w ∈ xBs := List.mem_append_right _ (List.mem_filter.mpr ⟨hw, by simp [hg]⟩)
      exact va_Nw.use (xbk_tab (List.all_eq_true.mp xBs_ok w hm)) (hB w hm)
  · intro t hal hz hq
    obtain ⟨r1, r2, r3, r4, r5⟩ := hR
    refine ⟨rfl, rfl, ⟨t.heap.size, by rw [← r1]; exact hz, rfl, by rw [← r1] at r2; exact Nat.le_trans r2 hz, r3.moved hal, (r4.kept (fun a ha _ => hq a ha)).moved hal, fun a x hx => (r5 a x hx).kept (hq a (r5 a x hx).lt)⟩, Nat.le_trans hS.1 hz, fun q h1 h2 => ?_⟩
    rw [hq q (Nat.lt_of_lt_of_le h1 hS.1)]
    exact hS.2.1 q h1 h2
end XTHR
