/-! words that a callee gets only from its caller: a nest mate's constructors, and what a throw needs -/
def xThr : List Cond := vx_at0 "ShareKeeper" 124 "java/util/NoSuchElementException" ["java/lang/RuntimeException", "java/lang/Exception"]
def xBs : List Cond := [.methodLinkNest "ShareKeeper" 30 ⟨"ShareKeeper$Parts", "<init>", "()V"⟩ "ShareKeeper", .methodLinkNest "ShareKeeper" 37 ⟨"ShareKeeper$Planner", "<init>", "()V"⟩ "ShareKeeper", .methodLinkNest "ShareKeeper" 44 ⟨"ShareKeeper$AlarmSearch", "<init>", "()V"⟩ "ShareKeeper", .methodLinkNest "ShareKeeper" 57 ⟨"ShareKeeper$Service", "<init>", "()V"⟩ "ShareKeeper", .castable "java/util/NoSuchElementException" "java/util/NoSuchElementException"] ++ xThr.filter (fun w => !goodWord w)
def xbk : Cond → Bool
  | .castable _ _ => true
  | .declares _ => true
  | .methodLinkNest _ _ _ _ => true
  | _ => false
theorem xBs_ok : xBs.all xbk = true := by decide +kernel
theorem xBs_lw : ∀ w ∈ xBs, w ∈ lw_tbl := by decide +kernel
theorem xThr_good : ∀ w ∈ xThr.filter goodWord, w ∈ xt := by decide +kernel
def xB (U : State) : Prop := ∀ w ∈ xBs, va_Nw w U
theorem xbk_tab {w : Cond} (h : xbk w = true) : w.onTables = true := by
  cases w <;> first | rfl | (simp [xbk] at h)
theorem xB.warm {s U : State} (hW : s.WarmedH U.vm) (h : xB s) : xB U := by
  intro w hw
  have hk := List.all_eq_true.mp xBs_ok w hw
  have h1 := h w hw
  cases w with
  | castable C T => exact va_Nw.warmC hW h1
  | declares x => exact va_Nw.warmD hW h1
  | methodLinkNest a i x h9 => exact va_Nw.warmM hW h1
  | _ => simp [xbk] at hk
theorem xB.same {u U : State} (e : u.vm = U.vm) (h : xB u) : xB U := fun w hw => va_Nw.same (xbk_tab (List.all_eq_true.mp xBs_ok w hw)) e (h w hw)
theorem xB.of {s : State} {args : Array Value} (hts : ∀ w ∈ lw_tbl, w.before args s = true) : xB s := fun w hw => va_Nw.of (xbk_tab (List.all_eq_true.mp xBs_ok w hw)) (hts w (xBs_lw w hw))
def xPb (D : va_G) (G : Nat → Nat) (h : xH) (as : List Value) : Array Value → State → Prop := fun a U => xPc D G h as a U ∧ xB U
/-- the contract of a method that needs those words -/
def xCb (l : Launch) (y : MethodName) (b : ByteArray) (n : Nat) (r : Option FieldType) (rm : Room) (D : va_G) (G : Nat → Nat) (h : xH) (as : List Value) (v : Option Value) (h' : xH) : Prop := Met l y (xW y b n r) rm (xPb D G h as) (xQ D G v h') rm.cells rm.slots (xA G)
theorem xPb_blind {D : va_G} {G : Nat → Nat} {h : xH} {as : List Value} : FrameBlind (xPb D G h as) := fun a U g mk q => ⟨xPc_blind a U g mk q.1, xB.same (u := U) (U := U.calling g mk a) rfl q.2⟩
theorem xCb_of {l : Launch} {y : MethodName} {b : ByteArray} {n : Nat} {r : Option FieldType} {rm : Room} {D : va_G} {G : Nat → Nat} {h h' : xH} {as : List Value} {v : Option Value} (hy : plainName y.cls = true) (hn : (lg_sl as).length ≤ n)
    (body : ∀ (p : Program) (e : Env) (s : State) (m : MethodId) (args : Array Value) (below : List Frame) (meth : Method) (c : Code) (ls : Array Slot), p.tables.exec = Jvm.exec → c.code = b → meth.sig.returnType = r → meth.locks = false → c.maxLocals = n → s.vm.findClass y.cls = some m.cls → meth.name = y.name → (∀ w ∈ xt, w.before args s = true) → xB s → xR D G h s s.heap → va_S (xA G) s.heap s.heap [] → lv_has ls n (lv_args 0 as) →
      W p l e rm s m args below meth c s.heap [] 0 0 (MQ below (xQ D G v h') args s rm.cells rm.slots (xA G)) (F0 m 0 ls [])) : xCb l y b n r rm D G h as v h' := by
  refine Met.ofW (cc := b) (maxL := n) (ret := r) hy rfl ?_
  intro p e s m args below meth c s₁ B hml hv
  obtain ⟨⟨rfl, hR⟩, hB⟩ := hv
  have hl := lv_entry as (n := n) hn
  rw [lg_entry_eq]
  have hts := atoms_spec (ws := xW y b n r) B.pre
  exact body p e s m _ below meth c _ B.exec B.bytes B.returns B.notSynchronized hml (findClass_of_methodNamed B.named) (name_of_methodNamed B.named B.method).1 (fun w hw => hts w (List.mem_cons_of_mem _ hw)) hB hR va_S.rf hl
section XOWN
variable {p : Program} {l : Launch} {e : Env} {R : Room} {s : State} {m : MethodId} {args : Array Value} {below : List Frame} {meth : Method} {c : Code} {H : Heap} {locs : List Loc} {cells slots : Nat} {Q : State → Prop}
variable {cc : ByteArray} {pc : Nat} {ls : Array Slot} {rest st0 : List Value} {D : va_G} {G : Nat → Nat} {h h' : xH} {H0 : Heap} {o : Option Nat}
variable {y : MethodName} {b : ByteArray} {n k nL index : Nat} {r : Option FieldType} {rm : Room} {v : Option Value} {As : List Value} {own : String}
theorem x_callVb (hexec : p.tables.exec = Jvm.exec) (hb : c.code = cc) (hml : c.maxLocals = nL) (hown : s.vm.findClass own = some m.cls) (hts : ∀ w ∈ xt, w.before args s = true) (hB : xB s) (hR : xR D G h s H) (hS : va_S (xA G) H0 H locs) {a ci : Nat} {q : vw_C} (hxc : xc h o ci = some a) (hc : vwCl[ci]? = some q) (hq : q.1 = y.cls) (hM : xCb l y b n r rm D G h (.ref a :: As) v h') (hf : xM y b n r k) (hl : Cond.methodLink own index y ∈ xt) (hin : Cond.instanceMethod y ∈ xt) (hse : Cond.selects y.cls y y ∈ xt)
    (hn : As.length = k) (hsize : ls.size = nL) (hstack : st0 = As.reverse ++ va_rf o :: rest) (hW : (rest.map fun v => v.category).sum ≤ 8) (hdg : decode cc pc = .ok (.invokevirtual index, 3)) (hroom : rm.frames + 1 ≤ R.frames ∧ 8 + (n + 11) + rm.locals ≤ R.locals) (hcs : cells + rm.cells ≤ R.cells ∧ slots + rm.slots ≤ R.slots) {st1 : List Value} (hst1 : v.toList ++ rest = st1)
    (kk : ∀ (H1 : Heap) (locs1 : List Loc), xR D G h' s H1 → va_S (xA G) H0 H1 locs1 → W p l e R s m args below meth c H1 locs1 (cells + rm.cells) (slots + rm.slots) Q (F0 m (pc + 3) ls st1)) : W p l e R s m args below meth c H locs cells slots Q (F0 m pc ls st0) := by
  subst hst1
  obtain ⟨rfl, fs, ha⟩ := xc_spec hxc
  exact x_ret (As := .ref a :: As) (va_runV (C := y.cls) (b := a) (rest := rest) (g := F0 m pc ls st0) ⟨hexec, hb, hml, hown, hts⟩ hM ⟨xcallB hts hf hl hroom, hts _ hin, hts _ hse⟩ ⟨xPb_blind, by rw [← hq]; exact hR.recv hc ha, fun U hU hW => ⟨⟨rfl, by show xR D G h U U.heap; rw [hU]; exact hR.moved hW.alike⟩, hB.warm hW⟩⟩ rfl hn hsize hstack (by show 2 * 0 + _ ≤ 8; omega) hdg hcs) hS kk
theorem x_callIb (hexec : p.tables.exec = Jvm.exec) (hb : c.code = cc) (hml : c.maxLocals = nL) (hown : s.vm.findClass own = some m.cls) (hts : ∀ w ∈ xt, w.before args s = true) (hB : xB s) (hR : xR D G h s H) (hS : va_S (xA G) H0 H locs) {a : Nat} (ho : o = some a) (hM : xCb l y b n none rm D G h (.ref a :: As) v h') (hf : xM y b n none k) (hl : Cond.methodLink own index y ∈ xt) (hin : Cond.instanceMethod y ∈ xt) (hy1 : y.name = "<init>")
    (hn : As.length = k) (hsize : ls.size = nL) (hstack : st0 = As.reverse ++ va_rf o :: rest) (hW : (rest.map fun v => v.category).sum ≤ 8) (hdg : decode cc pc = .ok (.invokespecial index, 3)) (hroom : rm.frames + 1 ≤ R.frames ∧ 8 + (n + 11) + rm.locals ≤ R.locals) (hcs : cells + rm.cells ≤ R.cells ∧ slots + rm.slots ≤ R.slots) {st1 : List Value} (hst1 : v.toList ++ rest = st1)
    (kk : ∀ (H1 : Heap) (locs1 : List Loc), xR D G h' s H1 → va_S (xA G) H0 H1 locs1 → W p l e R s m args below meth c H1 locs1 (cells + rm.cells) (slots + rm.slots) Q (F0 m (pc + 3) ls st1)) : W p l e R s m args below meth c H locs cells slots Q (F0 m pc ls st0) := by
  subst hst1
  subst ho
  exact x_ret (As := .ref a :: As) (va_runI (b := a) (rest := rest) (g := F0 m pc ls st0) ⟨hexec, hb, hml, hown, hts⟩ hM ⟨xcallB hts hf hl hroom, hy1, hts _ hin⟩ ⟨xPb_blind, fun U hU hW => ⟨⟨rfl, by show xR D G h U U.heap; rw [hU]; exact hR.moved hW.alike⟩, hB.warm hW⟩⟩ rfl hn hsize hstack (by show 2 * 0 + _ ≤ 8; omega) hdg hcs) hS kk
/-- a nest mate's private constructor -/
theorem x_callIN (hexec : p.tables.exec = Jvm.exec) (hb : c.code = cc) (hml : c.maxLocals = nL) (hown : s.vm.findClass own = some m.cls) (hts : ∀ w ∈ xt, w.before args s = true) (hR : xR D G h s H) (hS : va_S (xA G) H0 H locs) (hB : xB s) {a : Nat} (ho : o = some a) (hM : xC l y b n none rm D G h (.ref a :: As) v h') (hf : xM y b n none k) {host : String} (hl : Cond.methodLinkNest own index y host ∈ xBs) (hin : Cond.instanceMethod y ∈ xt) (hy1 : y.name = "<init>")
    (hn : As.length = k) (hsize : ls.size = nL) (hstack : st0 = As.reverse ++ va_rf o :: rest) (hW : (rest.map fun v => v.category).sum ≤ 8) (hdg : decode cc pc = .ok (.invokespecial index, 3)) (hroom : rm.frames + 1 ≤ R.frames ∧ 8 + (n + 11) + rm.locals ≤ R.locals) (hcs : cells + rm.cells ≤ R.cells ∧ slots + rm.slots ≤ R.slots) {st1 : List Value} (hst1 : v.toList ++ rest = st1)
    (kk : ∀ (H1 : Heap) (locs1 : List Loc), xR D G h' s H1 → va_S (xA G) H0 H1 locs1 → W p l e R s m args below meth c H1 locs1 (cells + rm.cells) (slots + rm.slots) Q (F0 m (pc + 3) ls st1)) : W p l e R s m args below meth c H locs cells slots Q (F0 m pc ls st0) := by
  subst hst1
  subst ho
  exact x_ret (As := .ref a :: As) (va_runIN (host := host) (b := a) (rest := rest) (g := F0 m pc ls st0) ⟨hexec, hb, hml, hown, hts⟩ hM ⟨va_cnB k hts (fun w hw => (List.mem_cons.mp hw).elim (fun e => ⟨e ▸ hf.1, good_of_word (List.mem_filter.mp (e ▸ hf.1)).2⟩) (fun e => ⟨e, good_of_word (List.mem_filter.mp e).2⟩)) rfl rfl rfl (hB _ hl) (hts _ hf.2.1) ⟨hf.2.2.1.1, hf.2.2.1.2, hf.2.2.2⟩ hroom, hy1, hts _ hin⟩ ⟨xPc_blind, fun U hU hW => ⟨rfl, by show xR D G h U U.heap; rw [hU]; exact hR.moved hW.alike⟩⟩ rfl hn hsize hstack (by show 2 * 0 + _ ≤ 8; omega) hdg hcs) hS kk
end XOWN
