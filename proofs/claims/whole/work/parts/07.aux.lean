/-! small words of the functions that a program lays, and what their answers say -/
def xl {α β : Type} (a : α) (f : α → β) : β := f a
theorem xlet {α β : Type} {a v : α} {f : α → β} {r : β} (e : v = a) (h : xl a f = r) : f v = r := by subst e; exact h
theorem xbind {α β : Type} {x : Option α} {f : α → Option β} {r : β} (h : x.bind f = some r) : ∃ a, x = some a ∧ f a = some r := Option.bind_eq_some_iff.mp h
theorem xift {c : Prop} [Decidable c] {α : Type} {a b r : α} (hc : c) (h : (if c then a else b) = r) : a = r := by rw [if_pos hc] at h; exact h
theorem xiff {c : Prop} [Decidable c] {α : Type} {a b r : α} (hc : ¬ c) (h : (if c then a else b) = r) : b = r := by rw [if_neg hc] at h; exact h
def xg {α : Type} (c : Prop) [Decidable c] (x : Option α) : Option α := if c then x else none
theorem xguard {α : Type} {c : Prop} [Decidable c] {x : Option α} {r : α} (h : xg c x = some r) : c ∧ x = some r := by
  unfold xg at h
  split at h
  · rename_i hc
    exact ⟨hc, h⟩
  · cases h
def xk {α : Type} (h : xH) (o : Option Nat) (ci : Nat) (x : Option α) : Option α := if o = none ∨ (xc h o ci).isSome then x else none
theorem xkguard {α : Type} {h : xH} {o : Option Nat} {ci : Nat} {x : Option α} {r : α} (e : xk h o ci x = some r) : (o = none ∨ ∃ a, xc h o ci = some a) ∧ x = some r := by
  unfold xk at e
  split at e
  · rename_i hc
    exact ⟨hc.imp id Option.isSome_iff_exists.mp, e⟩
  · cases e
/-- the bound of every loop: far above what a run needs -/
def xN : Nat := 200000
def nO (h : xH) (ci : Nat) (fs : List Value) : Option (Nat × xH) := some (h.1, xn h (.inr (ci, fs)))
def nAI (G : Nat → Nat) (h : xH) (n : Nat) : Option (Nat × xH) := some (h.1, xn h (.inl (G 2, n, .inl (fun _ => 0))))
def nAZ (G : Nat → Nat) (h : xH) (n : Nat) : Option (Nat × xH) := some (h.1, xn h (.inl (G 3, n, .inl (fun _ => 0))))
def nAJ (G : Nat → Nat) (h : xH) (n : Nat) : Option (Nat × xH) := some (h.1, xn h (.inl (G 4, n, .inr (.inl (fun _ => 0)))))
theorem xrf_cat {o : Option Nat} : (va_rf o).category = 1 := by cases o <;> rfl
theorem xcI {x : Int32} : (Value.int x).category = 1 := rfl
theorem xcJ {x : Int64} : (Value.long x).category = 2 := rfl
theorem xcA {x : Nat} : (Value.ref x).category = 1 := rfl
theorem xnarZ {v : Int32} (h : v = 0 ∨ v = 1) : narrow .boolean (.int v) = .int v := by rcases h with rfl | rfl <;> rfl
theorem xfitZ {v : Int32} (h : v = 0 ∨ v = 1) : fits .boolean (.int v) = true := by rcases h with rfl | rfl <;> rfl
theorem xnarR {o : Option Nat} {C : String} : narrow (.object C) (va_rf o) = va_rf o := by cases o <;> rfl
theorem xfitR {o : Option Nat} {C : String} : fits (.object C) (va_rf o) = true := by cases o <;> rfl
theorem xnarRA {o : Option Nat} {t : FieldType} : narrow (.array t) (va_rf o) = va_rf o := by cases o <;> rfl
theorem xfitRA {o : Option Nat} {t : FieldType} : fits (.array t) (va_rf o) = true := by cases o <;> rfl
/-- one of two classes behind an interface -/
def xI {α : Type} (h : xH) (o : Option Nat) (c0 c1 : Nat) (f g : Nat → Option α) : Option α := match xc h o c0 with
  | some a => f a
  | none => (xc h o c1).bind g
theorem xI_or {α : Type} {h : xH} {o : Option Nat} {c0 c1 : Nat} {f g : Nat → Option α} {r : α} {P Q : Nat → Prop} (e : xI h o c0 c1 f g = some r) (hf : ∀ z, f z = some r → P z) (hg : ∀ z, g z = some r → Q z) : (∃ a, xc h o c0 = some a ∧ P a) ∨ (∃ a, xc h o c1 = some a ∧ Q a) := by
  unfold xI at e
  split at e
  · rename_i a ha
    exact Or.inl ⟨a, ha, hf a e⟩
  · obtain ⟨a, ha, e2⟩ := xbind e
    exact Or.inr ⟨a, ha, hg a e2⟩
section XAUX
variable {p : Program} {l : Launch} {e : Env} {R : Room} {s : State} {m : MethodId} {args : Array Value} {below : List Frame} {meth : Method} {c : Code} {H : Heap} {locs : List Loc} {cells slots : Nat} {Q : State → Prop}
variable {cc : ByteArray} {pc : Nat} {ls : Array Slot} {rest st0 : List Value} {D : va_G} {G : Nat → Nat} {h h' : xH} {H0 : Heap} {o : Option Nat}
theorem x_newO (hexec : p.tables.exec = Jvm.exec) (hb : c.code = cc) {own C : String} {T : u_T} {N ci index : Nat} {Ts : List Cond} (hts : ∀ w ∈ Ts, w.before args s = true) (hin : ∀ w ∈ u_ws C T N, w ∈ Ts) {ty : Nat → FieldType} (hty : ∀ k, k < N → parseFieldDescriptor (T k).2.2.1 = some (ty k)) (hown : s.vm.findClass own = some m.cls) (hcl : Cond.classLink own index C ∈ Ts) (hinst : Cond.instantiable C N ∈ Ts) (hini : Cond.initialized C ∈ Ts)
    (hR : xR D G h s H) (hS : va_S (xA G) H0 H locs) (hc : vwCl[ci]? = some (C, T, N)) {fs : List Value} (hfs : (List.range N).map (fun j => defaultValue (ty j)) = fs) (hcells : cells + 1 ≤ R.cells) (hslots : slots + N ≤ R.slots) {q : Nat} (hv : nO h ci fs = some (q, h')) (hdg : decode cc pc = .ok (.new index, 3))
    (kk : ∀ (H1 : Heap), xR D G h' s H1 → va_S (xA G) H0 H1 locs → W p l e R s m args below meth c H1 locs (cells + 1) (slots + N) Q (F0 m (pc + 3) ls (va_rf (some q) :: rest))) : W p l e R s m args below meth c H locs cells slots Q (F0 m pc ls rest) := by
  cases hv
  exact x_new hexec hb hts hin hty hown hcl hinst hini hR hS hc hfs hcells hslots hdg kk
theorem x_nAI (hexec : p.tables.exec = Jvm.exec) (hb : c.code = cc) {Ts : List Cond} (hts : ∀ w ∈ Ts, w.before args s = true) (harr : Cond.arrayClass .int ∈ Ts) (hR : xR D G h s H) (hS : va_S (xA G) H0 H locs) {n : Int32} {N : Nat} (hn : ¬ n < 0) (hN : n.toNatClampNeg = N) (hbytes : N ≤ 100000) (hcells : cells + 1 ≤ R.cells) (hslots : slots + N ≤ R.slots) {q : Nat} (hv : nAI G h N = some (q, h')) (hdg : decode cc pc = .ok (.newarray .int, 2))
    (kk : ∀ (H1 : Heap), xR D G h' s H1 → va_S (xA G) H0 H1 locs → W p l e R s m args below meth c H1 locs (cells + 1) (slots + N) Q (F0 m (pc + 2) ls (va_rf (some q) :: rest))) : W p l e R s m args below meth c H locs cells slots Q (F0 m pc ls (.int n :: rest)) := by
  cases hv
  exact x_newI hexec hb hts harr hR hS hn hN hbytes hcells hslots hdg kk
theorem x_nAZ (hexec : p.tables.exec = Jvm.exec) (hb : c.code = cc) {Ts : List Cond} (hts : ∀ w ∈ Ts, w.before args s = true) (harr : Cond.arrayClass .boolean ∈ Ts) (hR : xR D G h s H) (hS : va_S (xA G) H0 H locs) {n : Int32} {N : Nat} (hn : ¬ n < 0) (hN : n.toNatClampNeg = N) (hbytes : N ≤ 100000) (hcells : cells + 1 ≤ R.cells) (hslots : slots + N ≤ R.slots) {q : Nat} (hv : nAZ G h N = some (q, h')) (hdg : decode cc pc = .ok (.newarray .boolean, 2))
    (kk : ∀ (H1 : Heap), xR D G h' s H1 → va_S (xA G) H0 H1 locs → W p l e R s m args below meth c H1 locs (cells + 1) (slots + N) Q (F0 m (pc + 2) ls (va_rf (some q) :: rest))) : W p l e R s m args below meth c H locs cells slots Q (F0 m pc ls (.int n :: rest)) := by
  cases hv
  exact x_newZ hexec hb hts harr hR hS hn hN hbytes hcells hslots hdg kk
theorem x_nAJ (hexec : p.tables.exec = Jvm.exec) (hb : c.code = cc) {Ts : List Cond} (hts : ∀ w ∈ Ts, w.before args s = true) (harr : Cond.arrayClass .long ∈ Ts) (hR : xR D G h s H) (hS : va_S (xA G) H0 H locs) {n : Int32} {N : Nat} (hn : ¬ n < 0) (hN : n.toNatClampNeg = N) (hbytes : N ≤ 100000) (hcells : cells + 1 ≤ R.cells) (hslots : slots + N ≤ R.slots) {q : Nat} (hv : nAJ G h N = some (q, h')) (hdg : decode cc pc = .ok (.newarray .long, 2))
    (kk : ∀ (H1 : Heap), xR D G h' s H1 → va_S (xA G) H0 H1 locs → W p l e R s m args below meth c H1 locs (cells + 1) (slots + N) Q (F0 m (pc + 2) ls (va_rf (some q) :: rest))) : W p l e R s m args below meth c H locs cells slots Q (F0 m pc ls (.int n :: rest)) := by
  cases hv
  exact x_newJ hexec hb hts harr hR hS hn hN hbytes hcells hslots hdg kk
theorem x_callF2 {y0 y1 x : MethodName} {b0 b1 : ByteArray} {n0 n1 k nL index count ci0 ci1 : Nat} {r0 r1 : Option FieldType} {rm0 rm1 : Room} {v : Option Value} {As : List Value} {own : String} {q0 q1 : vw_C} (hexec : p.tables.exec = Jvm.exec) (hb : c.code = cc) (hml : c.maxLocals = nL) (hown : s.vm.findClass own = some m.cls) (hts : ∀ w ∈ xt, w.before args s = true) (hR : xR D G h s H) (hS : va_S (xA G) H0 H locs) (hc0 : vwCl[ci0]? = some q0) (hc1 : vwCl[ci1]? = some q1) (hq0 : (q0.1, x, y0) ∈ xFs) (hq1 : (q1.1, x, y1) ∈ xFs)
    (hd : (∃ a, xc h o ci0 = some a ∧ xC l y0 b0 n0 r0 rm0 D G h (.ref a :: As) v h) ∨ (∃ a, xc h o ci1 = some a ∧ xC l y1 b1 n1 r1 rm1 D G h (.ref a :: As) v h)) (hf0 : xM y0 b0 n0 r0 k) (hf1 : xM y1 b1 n1 r1 k) (hl : Cond.methodLink own index x ∈ xt) (hin0 : Cond.instanceMethod y0 ∈ xt) (hin1 : Cond.instanceMethod y1 ∈ xt) (hse0 : Cond.selects q0.1 x y0 ∈ xt) (hse1 : Cond.selects q1.1 x y1 ∈ xt) (hdn : (parseMethodDescriptor x.desc).map (fun d => d.parameters.length) = some k)
    (z0 : rm0.cells = 0) (z0' : rm0.slots = 0) (z1 : rm1.cells = 0) (z1' : rm1.slots = 0) (hn : As.length = k) (hsize : ls.size = nL) (hstack : st0 = As.reverse ++ va_rf o :: rest) (hW : (rest.map fun v => v.category).sum ≤ 8) (hdg : decode cc pc = .ok (.invokeinterface index count, 5)) (hroom0 : rm0.frames + 1 ≤ R.frames ∧ 8 + (n0 + 11) + rm0.locals ≤ R.locals) (hroom1 : rm1.frames + 1 ≤ R.frames ∧ 8 + (n1 + 11) + rm1.locals ≤ R.locals) (hcs : cells ≤ R.cells ∧ slots ≤ R.slots) {st1 : List Value} (hst1 : v.toList ++ rest = st1)
    (kk : ∀ (H1 : Heap) (locs1 : List Loc), xR D G h s H1 → va_S (xA G) H0 H1 locs1 → W p l e R s m args below meth c H1 locs1 cells slots Q (F0 m (pc + 5) ls st1)) : W p l e R s m args below meth c H locs cells slots Q (F0 m pc ls st0) := by
  rcases hd with ⟨a, ha, hM⟩ | ⟨a, ha, hM⟩
  · exact x_callF hexec hb hml hown hts hR hS ha hc0 hq0 hM hf0 hl hin0 hse0 hdn hn hsize hstack hW hdg hroom0 (by rw [z0, z0']; exact hcs) hst1 (by rw [z0, z0']; exact kk)
  · exact x_callF hexec hb hml hown hts hR hS ha hc1 hq1 hM hf1 hl hin1 hse1 hdn hn hsize hstack hW hdg hroom1 (by rw [z1, z1']; exact hcs) hst1 (by rw [z1, z1']; exact kk)
def xmax (x y : Int32) : Int32 := if x < y then y else x
def xmin (x y : Int32) : Int32 := if y < x then y else x
def xminJ (x y : Int64) : Int64 := if y < x then y else x
theorem x_max (hexec : p.tables.exec = Jvm.exec) (hb : c.code = cc) (hml : c.maxLocals = ls.size) {own : String} {index : Nat} (hown : s.vm.findClass own = some m.cls) {Ts : List Cond} (hts : ∀ w ∈ Ts, w.before args s = true) (hl : Cond.methodLink own index Lib.Math.max.name ∈ Ts) (hst : Cond.static Lib.Math.max.name ∈ Ts) (hini : Cond.initialized "java/lang/Math" ∈ Ts) (hcode : Cond.code Lib.Math.max.name Lib.Math.max.code 2 (some .int) ∈ Ts)
    (hframes : 1 ≤ R.frames) (hW : (rest.map fun v => v.category).sum ≤ 8) (hlocals : 23 ≤ R.locals) (hcs : cells ≤ R.cells ∧ slots ≤ R.slots) {x y : Int32} (hdg : decode cc pc = .ok (.invokestatic index, 3))
    (kk : W p l e R s m args below meth c H locs cells slots Q (F0 m (pc + 3) ls (.int (xmax x y) :: rest))) : W p l e R s m args below meth c H locs cells slots Q (F0 m pc ls (.int y :: .int x :: rest)) := va_mmax hexec hb hml hown (hts _ hl) (hts _ hst) (hts _ hini) (hts _ hcode) hframes (by omega) hcs.1 hcs.2 hdg kk
theorem x_min (hexec : p.tables.exec = Jvm.exec) (hb : c.code = cc) (hml : c.maxLocals = ls.size) {own : String} {index : Nat} (hown : s.vm.findClass own = some m.cls) {Ts : List Cond} (hts : ∀ w ∈ Ts, w.before args s = true) (hl : Cond.methodLink own index Lib.Math.min.name ∈ Ts) (hst : Cond.static Lib.Math.min.name ∈ Ts) (hini : Cond.initialized "java/lang/Math" ∈ Ts) (hcode : Cond.code Lib.Math.min.name Lib.Math.min.code 2 (some .int) ∈ Ts)
    (hframes : 1 ≤ R.frames) (hW : (rest.map fun v => v.category).sum ≤ 8) (hlocals : 23 ≤ R.locals) (hcs : cells ≤ R.cells ∧ slots ≤ R.slots) {x y : Int32} (hdg : decode cc pc = .ok (.invokestatic index, 3))
    (kk : W p l e R s m args below meth c H locs cells slots Q (F0 m (pc + 3) ls (.int (xmin x y) :: rest))) : W p l e R s m args below meth c H locs cells slots Q (F0 m pc ls (.int y :: .int x :: rest)) := va_mmin hexec hb hml hown (hts _ hl) (hts _ hst) (hts _ hini) (hts _ hcode) hframes (by omega) hcs.1 hcs.2 hdg kk
theorem x_minJ (hexec : p.tables.exec = Jvm.exec) (hb : c.code = cc) (hml : c.maxLocals = ls.size) {own : String} {index : Nat} (hown : s.vm.findClass own = some m.cls) {Ts : List Cond} (hts : ∀ w ∈ Ts, w.before args s = true) (hl : Cond.methodLink own index Lib.MathLoose.min_long.x ∈ Ts) (hst : Cond.static Lib.MathLoose.min_long.x ∈ Ts) (hini : Cond.initialized "java/lang/Math" ∈ Ts) (hcode : Cond.code Lib.MathLoose.min_long.x Lib.MathLoose.min_long.code 4 (some .long) ∈ Ts)
    (hframes : 1 ≤ R.frames) (hW : (rest.map fun v => v.category).sum ≤ 8) (hlocals : 23 ≤ R.locals) (hcs : cells ≤ R.cells ∧ slots ≤ R.slots) {x y : Int64} (hdg : decode cc pc = .ok (.invokestatic index, 3))
    (kk : W p l e R s m args below meth c H locs cells slots Q (F0 m (pc + 3) ls (.long (xminJ x y) :: rest))) : W p l e R s m args below meth c H locs cells slots Q (F0 m pc ls (.long y :: .long x :: rest)) := va_mmin_long hexec hb hml hown (hts _ hl) (hts _ hst) (hts _ hini) (hts _ hcode) hframes (by omega) hcs.1 hcs.2 hdg kk
end XAUX
