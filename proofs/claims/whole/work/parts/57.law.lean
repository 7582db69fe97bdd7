def R_law : String := "ShareKeeperLaw"
def lw_P (b : Addr) (xs : List Int32) (args : Array Value) (s : State) : Prop := args = #[.ref b] ∧ s.IntsAt b xs ∧ xs.length ≤ 3072 ∧ (Jvm.Cond.and given_1 narrow_1).before args s = true
def lw_Q (_ : Array Value) (s : State) (o : Outcome) (t : State) : Prop := o = .returned (some (.int 1)) ∧ Framed s o t [] 601024 7293034
def lw_Z (below : List Frame) (a : Array Value) (s : State) : State → Prop := fun t => ∃ o, t.status = .running ∧ Ended t below o ∧ lw_Q a s o t
/-- the law's own end, with 1 on the stack, nothing written that was there before, its room as the claim has it -/
theorem lw_ret {p : Program} {l : Launch} {e : Env} {s : State} {m : MethodId} {below : List Frame} {meth : Method} {c : Code} {b : Nat} (hx : p.tables.exec = Jvm.exec) (hb : c.code = code) (hr : meth.sig.returnType = ret) (hlocks : meth.locks = false) {pc : Nat} {H : Heap} {ls : Array Slot} (hdg : decode code pc = .ok (.ireturn, 1)) : W p l e room_1 s m #[Value.ref b] below meth c H [] 601024 7293034 (lw_Z below #[Value.ref b] s) (F0 m pc ls [.int 1]) := by
  intro T hT X
  obtain ⟨fs, hret, hrun, hended, hW, hframe⟩ := X.leave (v := some (.int 1)) (hlocks := hlocks) (fun h => by rw [hr] at h; cases h)
  have hmeth' : T.vm.method? m = some meth := X.method'
  refine ⟨T.setFrames fs, ?_, .returned (some (.int 1)), hrun, hended, rfl, ⟨_, rfl⟩, hW, hframe⟩
  jvm_step X.here [X.here.top, hx, hb, hdg, hmeth', hr, ret, narrow_b1]
  (try refine ⟨rfl, ?_⟩); (try refine ⟨rfl, ?_⟩)
  first | (intro acts; rw [hret _ acts rfl rfl rfl]) | rw [hret _ _ rfl rfl rfl]
  exact Steps.refl _
/-- what holds at the law's entry: the machine, the code, the tables' words (any of lw_tbl by 'hts w (by decide +kernel)'), the script of L ints xs at the cell b, what the Statement gives of the start (any of its parts by flat_of_before) -/
def lw_At (p : Program) (s : State) (m : MethodId) (meth : Method) (c : Code) (b L : Nat) (xs : Nat → Int32) : Prop :=
  p.tables.exec = Jvm.exec ∧ c.code = code ∧ meth.sig.returnType = ret ∧ c.maxLocals = 7 ∧ s.vm.findClass R_law = some m.cls ∧ (∀ w ∈ lw_tbl, w.before #[Value.ref b] s = true) ∧ va_X b L xs s s.heap ∧ b < s.heap.size ∧ meth.locks = false ∧ (Jvm.Cond.and given_1 narrow_1).before #[Value.ref b] s = true
theorem lw_cond {L i : Nat} (hL : L ≤ 3072) (hi : i ≤ 600) : (Int32.ofNat L - 6 < nI (6 * i)) ↔ L < 6 * i + 6 := by
  have e : (Int32.ofNat L - 6).toInt = (L : Int) - 6 := pk_sub_toInt (a := L) (b := 6) (by omega) (by omega)
  rw [Int32.lt_iff_toInt_lt, e, nI_toInt (by omega)]
  omega
theorem lw_in {L i k : Nat} (x : Int32) {kk : Int32} (hx : x = nI (6 * i)) (hk : kk = nI k) (h : 6 * i + k < L) (hL : L ≤ 3072) : vp_in (x + kk) L := by
  rw [hx, hk, nI_add]
  exact vp_in_nI h (by omega)
theorem lw_in0 {L i : Nat} (x : Int32) (hx : x = nI (6 * i)) (h : 6 * i < L) (hL : L ≤ 3072) : vp_in x L := by
  rw [hx]
  exact vp_in_nI h (by omega)
theorem lw_cmp (x : Int64) : lg_cmp x x = 0 := by
  unfold lg_cmp
  rw [if_neg (Int64.lt_irrefl), if_pos rfl]
def sJ_service (J : Nat → xH → Prop) (G : Nat → Nat) (x m : Nat) : Prop := ∀ (i : Nat) (h : xH), J i h → ∃ (r : Int32) (h1 h2 : xH), F_X10_service G h x = some (r, h1) ∧ xc h1 (some m) 11 = some m ∧ F_X11_service G h1 m = some (r, h2) ∧ J (i + 1) h2
def sJ_source (J : Nat → xH → Prop) (G : Nat → Nat) (x m : Nat) : Prop := ∀ (i : Nat) (h : xH), J i h → ∀ (a1 : Int32) (a2 : Int32) (a3 : Int32), ∃ (r : Int32) (h1 h2 : xH), F_X10_source G h x a1 a2 a3 = some (r, h1) ∧ xc h1 (some m) 11 = some m ∧ F_X11_source G h1 m a1 a2 a3 = some (r, h2) ∧ J (i + 1) h2
def sJ_count (J : Nat → xH → Prop) (G : Nat → Nat) (x m : Nat) : Prop := ∀ (i : Nat) (h : xH), J i h → ∀ (a1 : Int32) (a2 : Int32) (a3 : Int32) (a4 : Int32) (a5 : Int32), ∃ (r : Int32) (h1 h2 : xH), F_X10_count G h x a1 a2 a3 a4 a5 = some (r, h1) ∧ xc h1 (some m) 11 = some m ∧ F_X11_count G h1 m a1 a2 a3 a4 a5 = some (r, h2) ∧ J (i + 1) h2
def sJ_ticks (J : Nat → xH → Prop) (G : Nat → Nat) (x m : Nat) : Prop := ∀ (i : Nat) (h : xH), J i h → ∀ (a1 : Int32), ∃ (r : Int32) (h1 h2 : xH), F_X10_ticks G h x a1 = some (r, h1) ∧ xc h1 (some m) 11 = some m ∧ F_X11_ticks G h1 m a1 = some (r, h2) ∧ J (i + 1) h2
def sJ_promise (J : Nat → xH → Prop) (G : Nat → Nat) (x m : Nat) : Prop := ∀ (i : Nat) (h : xH), J i h → ∀ (a1 : Int32) (a2 : Int32) (a3 : Int32) (a4 : Int32), (a4 = 0 ∨ a4 = 1) → ∃ (r : Int32) (h1 h2 : xH), F_X10_promise G h x a1 a2 a3 a4 = some (r, h1) ∧ xc h1 (some m) 11 = some m ∧ F_X11_promise G h1 m a1 a2 a3 a4 = some (r, h2) ∧ J (i + 1) h2
def sJ_grace (J : Nat → xH → Prop) (G : Nat → Nat) (x m : Nat) : Prop := ∀ (i : Nat) (h : xH), J i h → ∀ (a1 : Int32) (a2 : Int32) (a3 : Int32), ∃ (r : Int32) (h1 h2 : xH), F_X10_grace G h x a1 a2 a3 = some (r, h1) ∧ xc h1 (some m) 11 = some m ∧ F_X11_grace G h1 m a1 a2 a3 = some (r, h2) ∧ J (i + 1) h2
def sJ_sum (J : Nat → xH → Prop) (G : Nat → Nat) (x m : Nat) : Prop := ∀ (i : Nat) (h : xH), J i h → ∀ (a1 : Int32) (a2 : Int32) (a3 : Int32) (a4 : Int32), ∃ (r : Int32) (h1 h2 : xH), (F_X10_sum G h x a1 a2 a3 a4 = some r ∧ h1 = h) ∧ xc h1 (some m) 11 = some m ∧ F_X11_sum G h1 m a1 a2 a3 a4 = some (r, h2) ∧ J (i + 1) h2
def sJ_span (J : Nat → xH → Prop) (G : Nat → Nat) (x m out : Nat) : Prop := ∀ (i : Nat) (h : xH), J i h → ∀ (a1 : Int32) (a2 : Int32) (a3 : Int32), ∃ res : Option Int32, F_X10_span G h x a1 a2 a3 = some res ∧ (∀ v, res = some v → ∃ h1 h2 : xH, stJ G h (some out) 0 v.toInt64 = some h1 ∧ xc h1 (some m) 11 = some m ∧ F_X11_span G h1 m a1 a2 a3 = some (v, h2) ∧ xc h2 (some m) 11 = some m ∧ F_X11_thrown G h2 m = some 0 ∧ ldJ G h2 (some out) 0 = some v.toInt64 ∧ J (i + 1) h2) ∧ (res = none → ∀ z, h.1 ≤ z → ∃ (v : Int32) (h2 : xH), xc (z, h.2) (some m) 11 = some m ∧ F_X11_span G (z, h.2) m a1 a2 a3 = some (v, h2) ∧ xc h2 (some m) 11 = some m ∧ F_X11_thrown G h2 m = some 1 ∧ J (i + 1) h2)
def sJ_broken (J : Nat → xH → Prop) (G : Nat → Nat) (x m : Nat) : Prop := ∀ (i : Nat) (h : xH), J i h → ∀ (a1 : Int32) (a2 : Int32), ∃ (r : Int32) (h1 h2 : xH), (F_X10_broken G h x a1 a2 = some r ∧ h1 = h) ∧ xc h1 (some m) 11 = some m ∧ F_X11_broken G h1 m a1 a2 = some (r, h2) ∧ J (i + 1) h2
def sJ_part (J : Nat → xH → Prop) (G : Nat → Nat) (x m : Nat) : Prop := ∀ (i : Nat) (h : xH), J i h → ∀ (a1 : Int32), ∃ (r : Int32) (h1 h2 : xH), F_X10_part G h x a1 = some (r, h1) ∧ xc h1 (some m) 11 = some m ∧ F_X11_part G h1 m a1 = some (r, h2) ∧ J (i + 1) h2
def sJ_made (J : Nat → xH → Prop) (G : Nat → Nat) (x m : Nat) : Prop := ∀ (i : Nat) (h : xH), J i h → ∀ (a1 : Int32) (a2 : Int32) (a3 : Int32), ∃ (r : Int32) (h1 h2 : xH), F_X10_made G h x a1 a2 a3 = some (r, h1) ∧ xc h1 (some m) 11 = some m ∧ F_X11_made G h1 m a1 a2 a3 = some (r, h2) ∧ J (i + 1) h2
def sJ_alarm (J : Nat → xH → Prop) (G : Nat → Nat) (x m : Nat) : Prop := ∀ (i : Nat) (h : xH), J i h → ∀ (a1 : Int32) (a2 : Int32) (a3 : Int32) (a4 : Int32), ∃ (r : Int32) (h1 h2 : xH), F_X10_alarm G h x a1 a2 a3 a4 = some (r, h1) ∧ xc h1 (some m) 11 = some m ∧ F_X11_alarm G h1 m a1 a2 a3 a4 = some (r, h2) ∧ J (i + 1) h2
def sJ_rings (J : Nat → xH → Prop) (G : Nat → Nat) (x m : Nat) : Prop := ∀ (i : Nat) (h : xH), J i h → ∀ (a1 : Int32) (a2 : Int32), ∃ (r : Int32) (h1 h2 : xH), (F_X10_rings G h x a1 a2 = some r ∧ h1 = h) ∧ xc h1 (some m) 11 = some m ∧ F_X11_rings G h1 m a1 a2 = some (r, h2) ∧ J (i + 1) h2
def sJ_soonest (J : Nat → xH → Prop) (G : Nat → Nat) (x m : Nat) : Prop := ∀ (i : Nat) (h : xH), J i h → ∀ (a1 : Int32) (a2 : Int32) (a3 : Int32) (a4 : Int32), ∃ (r : Int32) (h1 h2 : xH), F_X10_soonest G h x a1 a2 a3 a4 = some (r, h1) ∧ xc h1 (some m) 11 = some m ∧ F_X11_soonest G h1 m a1 a2 a3 a4 = some (r, h2) ∧ J (i + 1) h2
def sJ_best (J : Nat → xH → Prop) (G : Nat → Nat) (x m : Nat) : Prop := ∀ (i : Nat) (h : xH), J i h → ∀ (a1 : Int32) (a2 : Int32) (a3 : Int32) (a4 : Int32), ∃ (r : Int32) (h1 h2 : xH), F_X10_best G h x a1 a2 a3 a4 = some (r, h1) ∧ xc h1 (some m) 11 = some m ∧ F_X11_best G h1 m a1 a2 a3 a4 = some (r, h2) ∧ J (i + 1) h2
def sJ_change (J : Nat → xH → Prop) (G : Nat → Nat) (x m : Nat) : Prop := ∀ (i : Nat) (h : xH), J i h → ∀ (a1 : Int32) (a2 : Int32) (a3 : Int32), ∃ (r : Int32) (h1 h2 : xH), F_X10_change G h x a1 a2 a3 = some (r, h1) ∧ xc h1 (some m) 11 = some m ∧ F_X11_change G h1 m a1 a2 a3 = some (r, h2) ∧ J (i + 1) h2
def sJ_let (J : Nat → xH → Prop) (G : Nat → Nat) (x m : Nat) : Prop := ∀ (i : Nat) (h : xH), J i h → ∀ (a1 : Int32), ∃ (r : Int32) (h1 h2 : xH), F_X10_let G h x a1 = some (r, h1) ∧ xc h1 (some m) 11 = some m ∧ F_X11_let G h1 m a1 = some (r, h2) ∧ J (i + 1) h2
def sJ_settle (J : Nat → xH → Prop) (G : Nat → Nat) (x m : Nat) : Prop := ∀ (i : Nat) (h : xH), J i h → ∀ (a1 : Int32) (a2 : Int32), ∃ (r : Int32) (h1 h2 : xH), F_X10_settle G h x a1 a2 = some (r, h1) ∧ xc h1 (some m) 11 = some m ∧ F_X11_settle G h1 m a1 a2 = some (r, h2) ∧ J (i + 1) h2
def sJ_plan (J : Nat → xH → Prop) (G : Nat → Nat) (x m : Nat) : Prop := ∀ (i : Nat) (h : xH), J i h → ∀ (a1 : Int32), ∃ (r : Int32) (h1 h2 : xH), F_X10_plan G h x a1 = some (r, h1) ∧ xc h1 (some m) 11 = some m ∧ F_X11_plan G h1 m a1 = some (r, h2) ∧ J (i + 1) h2
def sJ_planned (J : Nat → xH → Prop) (G : Nat → Nat) (x m : Nat) : Prop := ∀ (i : Nat) (h : xH), J i h → ∀ (a1 : Int32), ∃ (r : Int32) (h1 h2 : xH), (F_X10_planned G h x a1 = some r ∧ h1 = h) ∧ xc h1 (some m) 11 = some m ∧ F_X11_planned G h1 m a1 = some (r, h2) ∧ J (i + 1) h2
def sJ_look (J : Nat → xH → Prop) (G : Nat → Nat) (x m : Nat) : Prop := ∀ (i : Nat) (h : xH), J i h → ∀ (a1 : Int32) (a2 : Int32), ∃ (r : Int32) (h1 h2 : xH), (F_X10_look G h x a1 a2 = some r ∧ h1 = h) ∧ xc h1 (some m) 11 = some m ∧ F_X11_look G h1 m a1 a2 = some (r, h2) ∧ J (i + 1) h2
def sJ_desk (J : Nat → xH → Prop) (G : Nat → Nat) (x m : Nat) : Prop := ∀ (i : Nat) (h : xH), J i h → ∀ (a1 : Int32), ∃ (r : Int32) (h1 h2 : xH), (F_X10_desk G h x a1 = some r ∧ h1 = h) ∧ xc h1 (some m) 11 = some m ∧ F_X11_desk G h1 m a1 = some (r, h2) ∧ J (i + 1) h2
def sJ (J : Nat → xH → Prop) (G : Nat → Nat) (x m out : Nat) : Prop := (∀ i h, J i h → xc h (some x) 10 = some x) ∧ sJ_service J G x m ∧ sJ_source J G x m ∧ sJ_count J G x m ∧ sJ_ticks J G x m ∧ sJ_promise J G x m ∧ sJ_grace J G x m ∧ sJ_sum J G x m ∧ sJ_span J G x m out ∧ sJ_broken J G x m ∧ sJ_part J G x m ∧ sJ_made J G x m ∧ sJ_alarm J G x m ∧ sJ_rings J G x m ∧ sJ_soonest J G x m ∧ sJ_best J G x m ∧ sJ_change J G x m ∧ sJ_let J G x m ∧ sJ_settle J G x m ∧ sJ_plan J G x m ∧ sJ_planned J G x m ∧ sJ_look J G x m ∧ sJ_desk J G x m
set_option maxHeartbeats 4000000 in
set_option maxRecDepth 100000 in
theorem lc_service {p : Program} {l : Launch} {e : Env} {s : State} {m : MethodId} {below : List Frame} {meth : Method} {c : Code} {b L : Nat} {xs : Nat → Int32} {D : va_G} {G : Nat → Nat} {J : Nat → xH → Prop} {x m9 out : Nat} (hlt : l.stackTraces = false) (hL : L ≤ 3072) (hx : p.tables.exec = Jvm.exec) (hb : c.code = code) (hr : meth.sig.returnType = ret) (hlk : meth.locks = false) (hml : c.maxLocals = 7) (hown : s.vm.findClass R_law = some m.cls) (hts : ∀ w ∈ xt, w.before #[Value.ref b] s = true) (hB : xB s) (hX : va_X b L xs s s.heap) (hbl : b < s.heap.size) (hG0 : G 0 = s.heap.size) (hJ : sJ J G x m9 out) {n : Nat} (ih : ∀ (i : Nat) (h : xH) (x4 : Int32), 6 * i ≤ L + 6 → L + 6 < 6 * i + n → x4 = nI (6 * i) → J i h → ∀ (H : Heap) (locs : List Loc) (ls : Array Slot), xR D G h s H → va_S (xA G) s.heap H locs → lv_has ls 7 [(0, va_rf (some b)), (1, va_rf (some x)), (2, va_rf (some m9)), (3, va_rf (some out)), (4, .int x4)] → W p l e room_1 s m #[Value.ref b] below meth c H locs (50 + 20 * i) (30000 + 2000 * i) (lw_Z below #[Value.ref b] s) (F0 m 23 ls [])) (i : Nat) (h : xH) (x4 : Int32) (hi : 6 * i + 6 ≤ L) (hn : L + 6 < 6 * i + (n + 1)) (ex4 : x4 = nI (6 * i)) (hj : J i h) (H : Heap) (locs : List Loc) (ls : Array Slot) (hR : xR D G h s H) (hS : va_S (xA G) s.heap H locs) (hl : lv_has ls 7 [(0, va_rf (some b)), (1, va_rf (some x)), (2, va_rf (some m9)), (3, va_rf (some out)), (4, .int x4)]) : W p l e room_1 s m #[Value.ref b] below meth c H locs (50 + 20 * i) (30000 + 2000 * i) (lw_Z below #[Value.ref b] s) (F0 m 144 ls []) := by
  have hbA : ¬ xA G b := by show ¬ G 0 ≤ b; omega
  have hi1 : vp_in (x4 + 1) L := lw_in (k := 1) x4 ex4 (by decide) (by omega) hL
  have hi2 : vp_in (x4 + 2) L := lw_in (k := 2) x4 ex4 (by decide) (by omega) hL
  have hi3 : vp_in (x4 + 3) L := lw_in (k := 3) x4 ex4 (by decide) (by omega) hL
  have hi4 : vp_in (x4 + 4) L := lw_in (k := 4) x4 ex4 (by decide) (by omega) hL
  have hi5 : vp_in (x4 + 5) L := lw_in (k := 5) x4 ex4 (by decide) (by omega) hL
  obtain ⟨r, h1, h2, e1, e2, e3, e4⟩ := hJ.2.1 i h hj
  refine x_aload_n (o := (some x)) hx hb dL_law_144 rfl (lv_at hl 1 rfl) ?_
  refine x_callVb (o := (some x)) (ci := 10) (As := []) (rest := []) (v := (some (.int r))) (k := 0) hx hb hml hown hts hB hR hS (hJ.1 i h hj) rfl rfl (t_X10_service l D G h x r h1 e1) f_X10_service mm_221 mm_222 mm_223 rfl hl.1 rfl (by first | exact Nat.le_of_ble_eq_true rfl | simp [xrf_cat, xcI, xcJ, xcA]) dL_law_145 (by decide) (by simp only [rm_X10_service, room_1]; omega) rfl (fun H locs hR hS => ?_)
  refine x_aload_n (o := (some m9)) hx hb dL_law_148 rfl (lv_at hl 2 rfl) ?_
  refine x_callV (o := (some m9)) (ci := 11) (As := []) (rest := [.int r]) (v := (some (.int r))) (k := 0) hx hb hml hown hts hR hS e2 rfl rfl (t_X11_service l D G h1 m9 r h2 e3) f_X11_service mm_1075 mm_1076 mm_1077 rfl hl.1 rfl (by first | exact Nat.le_of_ble_eq_true rfl | simp [xrf_cat, xcI, xcJ, xcA]) dL_law_149 (by decide) (by simp only [rm_X10_service, rm_X11_service, room_1]; omega) rfl (fun H locs hR hS => ?_)
  refine lv_icmp_eq (tgt := 1125) hx hb dL_law_152 (by decide) (fun _ => ?_) (fun c9 => absurd rfl c9)
  obtain ⟨v4, ev4⟩ : ∃ z : Int32, z = x4 + 6 := ⟨_, rfl⟩
  refine lv_iinc (v := v4) (lv' := [(4, .int v4), (0, va_rf (some b)), (1, va_rf (some x)), (2, va_rf (some m9)), (3, va_rf (some out))]) hx hb dL_law_1125 hl (k := 4) rfl (by rw [ev4]; rfl) (by decide) (by first | rfl | (simp [xrf_cat, xcI, xcJ, xcA]; done) | (simp [xrf_cat, xcI, xcJ, xcA]; decide)) (fun ls hl => ?_)
  refine lv_goto (tgt := 23) hx hb dL_law_1128 (by decide) ?_
  refine W.widen (k := 50 + 20 * (i + 1)) (n := 30000 + 2000 * (i + 1)) (by simp only [rm_X10_service, rm_X11_service]; omega) (by simp only [rm_X10_service, rm_X11_service]; omega) ?_
  exact ih (i + 1) h2 v4 (by omega) (by omega) (by rw [ev4, ex4]; exact nI_add (6 * i) 6) e4 _ _ _ hR hS (lv_sub hl [1, 2, 3, 4, 0] rfl)
set_option maxHeartbeats 4000000 in
set_option maxRecDepth 100000 in
theorem lc_source {p : Program} {l : Launch} {e : Env} {s : State} {m : MethodId} {below : List Frame} {meth : Method} {c : Code} {b L : Nat} {xs : Nat → Int32} {D : va_G} {G : Nat → Nat} {J : Nat → xH → Prop} {x m9 out : Nat} (hlt : l.stackTraces = false) (hL : L ≤ 3072) (hx : p.tables.exec = Jvm.exec) (hb : c.code = code) (hr : meth.sig.returnType = ret) (hlk : meth.locks = false) (hml : c.maxLocals = 7) (hown : s.vm.findClass R_law = some m.cls) (hts : ∀ w ∈ xt, w.before #[Value.ref b] s = true) (hB : xB s) (hX : va_X b L xs s s.heap) (hbl : b < s.heap.size) (hG0 : G 0 = s.heap.size) (hJ : sJ J G x m9 out) {n : Nat} (ih : ∀ (i : Nat) (h : xH) (x4 : Int32), 6 * i ≤ L + 6 → L + 6 < 6 * i + n → x4 = nI (6 * i) → J i h → ∀ (H : Heap) (locs : List Loc) (ls : Array Slot), xR D G h s H → va_S (xA G) s.heap H locs → lv_has ls 7 [(0, va_rf (some b)), (1, va_rf (some x)), (2, va_rf (some m9)), (3, va_rf (some out)), (4, .int x4)] → W p l e room_1 s m #[Value.ref b] below meth c H locs (50 + 20 * i) (30000 + 2000 * i) (lw_Z below #[Value.ref b] s) (F0 m 23 ls [])) (i : Nat) (h : xH) (x4 : Int32) (hi : 6 * i + 6 ≤ L) (hn : L + 6 < 6 * i + (n + 1)) (ex4 : x4 = nI (6 * i)) (hj : J i h) (H : Heap) (locs : List Loc) (ls : Array Slot) (hR : xR D G h s H) (hS : va_S (xA G) s.heap H locs) (hl : lv_has ls 7 [(0, va_rf (some b)), (1, va_rf (some x)), (2, va_rf (some m9)), (3, va_rf (some out)), (4, .int x4)]) : W p l e room_1 s m #[Value.ref b] below meth c H locs (50 + 20 * i) (30000 + 2000 * i) (lw_Z below #[Value.ref b] s) (F0 m 157 ls []) := by
  have hbA : ¬ xA G b := by show ¬ G 0 ≤ b; omega
  have hi1 : vp_in (x4 + 1) L := lw_in (k := 1) x4 ex4 (by decide) (by omega) hL
  have hi2 : vp_in (x4 + 2) L := lw_in (k := 2) x4 ex4 (by decide) (by omega) hL
  have hi3 : vp_in (x4 + 3) L := lw_in (k := 3) x4 ex4 (by decide) (by omega) hL
  have hi4 : vp_in (x4 + 4) L := lw_in (k := 4) x4 ex4 (by decide) (by omega) hL
  have hi5 : vp_in (x4 + 5) L := lw_in (k := 5) x4 ex4 (by decide) (by omega) hL
  obtain ⟨r, h1, h2, e1, e2, e3, e4⟩ := hJ.2.2.1 i h hj (xs (x4 + 1).toNatClampNeg) (xs (x4 + 2).toNatClampNeg) (xs (x4 + 3).toNatClampNeg)
  refine x_aload_n (o := (some x)) hx hb dL_law_157 rfl (lv_at hl 1 rfl) ?_
  refine x_aload_n (o := (some b)) hx hb dL_law_158 rfl (lv_at hl 0 rfl) ?_
  refine lv_iload hx hb dL_law_159 (lv_at hl 4 rfl) ?_
  refine lv_iconst (v := 1) hx hb dL_law_161 (by decide) ?_
  refine lv_iadd hx hb dL_law_162 ?_
  refine va_sld hx hb hX hbl hbA hS hi1 dL_law_163 ?_
  refine x_aload_n (o := (some b)) hx hb dL_law_164 rfl (lv_at hl 0 rfl) ?_
  refine lv_iload hx hb dL_law_165 (lv_at hl 4 rfl) ?_
  refine lv_iconst (v := 2) hx hb dL_law_167 (by decide) ?_
  refine lv_iadd hx hb dL_law_168 ?_
  refine va_sld hx hb hX hbl hbA hS hi2 dL_law_169 ?_
  refine x_aload_n (o := (some b)) hx hb dL_law_170 rfl (lv_at hl 0 rfl) ?_
  refine lv_iload hx hb dL_law_171 (lv_at hl 4 rfl) ?_
  refine lv_iconst (v := 3) hx hb dL_law_173 (by decide) ?_
  refine lv_iadd hx hb dL_law_174 ?_
  refine va_sld hx hb hX hbl hbA hS hi3 dL_law_175 ?_
  refine x_callV (o := (some x)) (ci := 10) (As := [.int (xs (x4 + 1).toNatClampNeg), .int (xs (x4 + 2).toNatClampNeg), .int (xs (x4 + 3).toNatClampNeg)]) (rest := []) (v := (some (.int r))) (k := 3) hx hb hml hown hts hR hS (hJ.1 i h hj) rfl rfl (t_X10_source l D G h x (xs (x4 + 1).toNatClampNeg) (xs (x4 + 2).toNatClampNeg) (xs (x4 + 3).toNatClampNeg) r h1 e1) f_X10_source mm_320 mm_321 mm_322 rfl hl.1 rfl (by first | exact Nat.le_of_ble_eq_true rfl | simp [xrf_cat, xcI, xcJ, xcA]) dL_law_176 (by decide) (by simp only [rm_X10_source, room_1]; omega) rfl (fun H locs hR hS => ?_)
  refine x_aload_n (o := (some m9)) hx hb dL_law_179 rfl (lv_at hl 2 rfl) ?_
  refine x_aload_n (o := (some b)) hx hb dL_law_180 rfl (lv_at hl 0 rfl) ?_
  refine lv_iload hx hb dL_law_181 (lv_at hl 4 rfl) ?_
  refine lv_iconst (v := 1) hx hb dL_law_183 (by decide) ?_
  refine lv_iadd hx hb dL_law_184 ?_
  refine va_sld hx hb hX hbl hbA hS hi1 dL_law_185 ?_
  refine x_aload_n (o := (some b)) hx hb dL_law_186 rfl (lv_at hl 0 rfl) ?_
  refine lv_iload hx hb dL_law_187 (lv_at hl 4 rfl) ?_
  refine lv_iconst (v := 2) hx hb dL_law_189 (by decide) ?_
  refine lv_iadd hx hb dL_law_190 ?_
  refine va_sld hx hb hX hbl hbA hS hi2 dL_law_191 ?_
  refine x_aload_n (o := (some b)) hx hb dL_law_192 rfl (lv_at hl 0 rfl) ?_
  refine lv_iload hx hb dL_law_193 (lv_at hl 4 rfl) ?_
  refine lv_iconst (v := 3) hx hb dL_law_195 (by decide) ?_
  refine lv_iadd hx hb dL_law_196 ?_
  refine va_sld hx hb hX hbl hbA hS hi3 dL_law_197 ?_
  refine x_callV (o := (some m9)) (ci := 11) (As := [.int (xs (x4 + 1).toNatClampNeg), .int (xs (x4 + 2).toNatClampNeg), .int (xs (x4 + 3).toNatClampNeg)]) (rest := [.int r]) (v := (some (.int r))) (k := 3) hx hb hml hown hts hR hS e2 rfl rfl (t_X11_source l D G h1 m9 (xs (x4 + 1).toNatClampNeg) (xs (x4 + 2).toNatClampNeg) (xs (x4 + 3).toNatClampNeg) r h2 e3) f_X11_source mm_1079 mm_1080 mm_1081 rfl hl.1 rfl (by first | exact Nat.le_of_ble_eq_true rfl | simp [xrf_cat, xcI, xcJ, xcA]) dL_law_198 (by decide) (by simp only [rm_X10_source, rm_X11_source, room_1]; omega) rfl (fun H locs hR hS => ?_)
  refine lv_icmp_eq (tgt := 1125) hx hb dL_law_201 (by decide) (fun _ => ?_) (fun c9 => absurd rfl c9)
  obtain ⟨v4, ev4⟩ : ∃ z : Int32, z = x4 + 6 := ⟨_, rfl⟩
  refine lv_iinc (v := v4) (lv' := [(4, .int v4), (0, va_rf (some b)), (1, va_rf (some x)), (2, va_rf (some m9)), (3, va_rf (some out))]) hx hb dL_law_1125 hl (k := 4) rfl (by rw [ev4]; rfl) (by decide) (by first | rfl | (simp [xrf_cat, xcI, xcJ, xcA]; done) | (simp [xrf_cat, xcI, xcJ, xcA]; decide)) (fun ls hl => ?_)
  refine lv_goto (tgt := 23) hx hb dL_law_1128 (by decide) ?_
  refine W.widen (k := 50 + 20 * (i + 1)) (n := 30000 + 2000 * (i + 1)) (by simp only [rm_X10_source, rm_X11_source]; omega) (by simp only [rm_X10_source, rm_X11_source]; omega) ?_
  exact ih (i + 1) h2 v4 (by omega) (by omega) (by rw [ev4, ex4]; exact nI_add (6 * i) 6) e4 _ _ _ hR hS (lv_sub hl [1, 2, 3, 4, 0] rfl)
set_option maxHeartbeats 4000000 in
set_option maxRecDepth 100000 in
theorem lc_count {p : Program} {l : Launch} {e : Env} {s : State} {m : MethodId} {below : List Frame} {meth : Method} {c : Code} {b L : Nat} {xs : Nat → Int32} {D : va_G} {G : Nat → Nat} {J : Nat → xH → Prop} {x m9 out : Nat} (hlt : l.stackTraces = false) (hL : L ≤ 3072) (hx : p.tables.exec = Jvm.exec) (hb : c.code = code) (hr : meth.sig.returnType = ret) (hlk : meth.locks = false) (hml : c.maxLocals = 7) (hown : s.vm.findClass R_law = some m.cls) (hts : ∀ w ∈ xt, w.before #[Value.ref b] s = true) (hB : xB s) (hX : va_X b L xs s s.heap) (hbl : b < s.heap.size) (hG0 : G 0 = s.heap.size) (hJ : sJ J G x m9 out) {n : Nat} (ih : ∀ (i : Nat) (h : xH) (x4 : Int32), 6 * i ≤ L + 6 → L + 6 < 6 * i + n → x4 = nI (6 * i) → J i h → ∀ (H : Heap) (locs : List Loc) (ls : Array Slot), xR D G h s H → va_S (xA G) s.heap H locs → lv_has ls 7 [(0, va_rf (some b)), (1, va_rf (some x)), (2, va_rf (some m9)), (3, va_rf (some out)), (4, .int x4)] → W p l e room_1 s m #[Value.ref b] below meth c H locs (50 + 20 * i) (30000 + 2000 * i) (lw_Z below #[Value.ref b] s) (F0 m 23 ls [])) (i : Nat) (h : xH) (x4 : Int32) (hi : 6 * i + 6 ≤ L) (hn : L + 6 < 6 * i + (n + 1)) (ex4 : x4 = nI (6 * i)) (hj : J i h) (H : Heap) (locs : List Loc) (ls : Array Slot) (hR : xR D G h s H) (hS : va_S (xA G) s.heap H locs) (hl : lv_has ls 7 [(0, va_rf (some b)), (1, va_rf (some x)), (2, va_rf (some m9)), (3, va_rf (some out)), (4, .int x4)]) : W p l e room_1 s m #[Value.ref b] below meth c H locs (50 + 20 * i) (30000 + 2000 * i) (lw_Z below #[Value.ref b] s) (F0 m 206 ls []) := by
  have hbA : ¬ xA G b := by show ¬ G 0 ≤ b; omega
  have hi1 : vp_in (x4 + 1) L := lw_in (k := 1) x4 ex4 (by decide) (by omega) hL
  have hi2 : vp_in (x4 + 2) L := lw_in (k := 2) x4 ex4 (by decide) (by omega) hL
  have hi3 : vp_in (x4 + 3) L := lw_in (k := 3) x4 ex4 (by decide) (by omega) hL
  have hi4 : vp_in (x4 + 4) L := lw_in (k := 4) x4 ex4 (by decide) (by omega) hL
  have hi5 : vp_in (x4 + 5) L := lw_in (k := 5) x4 ex4 (by decide) (by omega) hL
  obtain ⟨r, h1, h2, e1, e2, e3, e4⟩ := hJ.2.2.2.1 i h hj (xs (x4 + 1).toNatClampNeg) (xs (x4 + 2).toNatClampNeg) (xs (x4 + 3).toNatClampNeg) (xs (x4 + 4).toNatClampNeg) (xs (x4 + 5).toNatClampNeg)
  refine x_aload_n (o := (some x)) hx hb dL_law_206 rfl (lv_at hl 1 rfl) ?_
  refine x_aload_n (o := (some b)) hx hb dL_law_207 rfl (lv_at hl 0 rfl) ?_
  refine lv_iload hx hb dL_law_208 (lv_at hl 4 rfl) ?_
  refine lv_iconst (v := 1) hx hb dL_law_210 (by decide) ?_
  refine lv_iadd hx hb dL_law_211 ?_
  refine va_sld hx hb hX hbl hbA hS hi1 dL_law_212 ?_
  refine x_aload_n (o := (some b)) hx hb dL_law_213 rfl (lv_at hl 0 rfl) ?_
  refine lv_iload hx hb dL_law_214 (lv_at hl 4 rfl) ?_
  refine lv_iconst (v := 2) hx hb dL_law_216 (by decide) ?_
  refine lv_iadd hx hb dL_law_217 ?_
  refine va_sld hx hb hX hbl hbA hS hi2 dL_law_218 ?_
  refine x_aload_n (o := (some b)) hx hb dL_law_219 rfl (lv_at hl 0 rfl) ?_
  refine lv_iload hx hb dL_law_220 (lv_at hl 4 rfl) ?_
  refine lv_iconst (v := 3) hx hb dL_law_222 (by decide) ?_
  refine lv_iadd hx hb dL_law_223 ?_
  refine va_sld hx hb hX hbl hbA hS hi3 dL_law_224 ?_
  refine x_aload_n (o := (some b)) hx hb dL_law_225 rfl (lv_at hl 0 rfl) ?_
  refine lv_iload hx hb dL_law_226 (lv_at hl 4 rfl) ?_
  refine lv_iconst (v := 4) hx hb dL_law_228 (by decide) ?_
  refine lv_iadd hx hb dL_law_229 ?_
  refine va_sld hx hb hX hbl hbA hS hi4 dL_law_230 ?_
  refine x_aload_n (o := (some b)) hx hb dL_law_231 rfl (lv_at hl 0 rfl) ?_
  refine lv_iload hx hb dL_law_232 (lv_at hl 4 rfl) ?_
  refine lv_iconst (v := 5) hx hb dL_law_234 (by decide) ?_
  refine lv_iadd hx hb dL_law_235 ?_
  refine va_sld hx hb hX hbl hbA hS hi5 dL_law_236 ?_
  refine x_callV (o := (some x)) (ci := 10) (As := [.int (xs (x4 + 1).toNatClampNeg), .int (xs (x4 + 2).toNatClampNeg), .int (xs (x4 + 3).toNatClampNeg), .int (xs (x4 + 4).toNatClampNeg), .int (xs (x4 + 5).toNatClampNeg)]) (rest := []) (v := (some (.int r))) (k := 5) hx hb hml hown hts hR hS (hJ.1 i h hj) rfl rfl (t_X10_count l D G h x (xs (x4 + 1).toNatClampNeg) (xs (x4 + 2).toNatClampNeg) (xs (x4 + 3).toNatClampNeg) (xs (x4 + 4).toNatClampNeg) (xs (x4 + 5).toNatClampNeg) r h1 e1) f_X10_count mm_374 mm_375 mm_376 rfl hl.1 rfl (by first | exact Nat.le_of_ble_eq_true rfl | simp [xrf_cat, xcI, xcJ, xcA]) dL_law_237 (by decide) (by simp only [rm_X10_count, room_1]; omega) rfl (fun H locs hR hS => ?_)
  refine x_aload_n (o := (some m9)) hx hb dL_law_240 rfl (lv_at hl 2 rfl) ?_
  refine x_aload_n (o := (some b)) hx hb dL_law_241 rfl (lv_at hl 0 rfl) ?_
  refine lv_iload hx hb dL_law_242 (lv_at hl 4 rfl) ?_
  refine lv_iconst (v := 1) hx hb dL_law_244 (by decide) ?_
  refine lv_iadd hx hb dL_law_245 ?_
  refine va_sld hx hb hX hbl hbA hS hi1 dL_law_246 ?_
  refine x_aload_n (o := (some b)) hx hb dL_law_247 rfl (lv_at hl 0 rfl) ?_
  refine lv_iload hx hb dL_law_248 (lv_at hl 4 rfl) ?_
  refine lv_iconst (v := 2) hx hb dL_law_250 (by decide) ?_
  refine lv_iadd hx hb dL_law_251 ?_
  refine va_sld hx hb hX hbl hbA hS hi2 dL_law_252 ?_
  refine x_aload_n (o := (some b)) hx hb dL_law_253 rfl (lv_at hl 0 rfl) ?_
  refine lv_iload hx hb dL_law_254 (lv_at hl 4 rfl) ?_
  refine lv_iconst (v := 3) hx hb dL_law_256 (by decide) ?_
  refine lv_iadd hx hb dL_law_257 ?_
  refine va_sld hx hb hX hbl hbA hS hi3 dL_law_258 ?_
  refine x_aload_n (o := (some b)) hx hb dL_law_259 rfl (lv_at hl 0 rfl) ?_
  refine lv_iload hx hb dL_law_260 (lv_at hl 4 rfl) ?_
  refine lv_iconst (v := 4) hx hb dL_law_262 (by decide) ?_
  refine lv_iadd hx hb dL_law_263 ?_
  refine va_sld hx hb hX hbl hbA hS hi4 dL_law_264 ?_
  refine x_aload_n (o := (some b)) hx hb dL_law_265 rfl (lv_at hl 0 rfl) ?_
  refine lv_iload hx hb dL_law_266 (lv_at hl 4 rfl) ?_
  refine lv_iconst (v := 5) hx hb dL_law_268 (by decide) ?_
  refine lv_iadd hx hb dL_law_269 ?_
  refine va_sld hx hb hX hbl hbA hS hi5 dL_law_270 ?_
  refine x_callV (o := (some m9)) (ci := 11) (As := [.int (xs (x4 + 1).toNatClampNeg), .int (xs (x4 + 2).toNatClampNeg), .int (xs (x4 + 3).toNatClampNeg), .int (xs (x4 + 4).toNatClampNeg), .int (xs (x4 + 5).toNatClampNeg)]) (rest := [.int r]) (v := (some (.int r))) (k := 5) hx hb hml hown hts hR hS e2 rfl rfl (t_X11_count l D G h1 m9 (xs (x4 + 1).toNatClampNeg) (xs (x4 + 2).toNatClampNeg) (xs (x4 + 3).toNatClampNeg) (xs (x4 + 4).toNatClampNeg) (xs (x4 + 5).toNatClampNeg) r h2 e3) f_X11_count mm_1087 mm_1088 mm_1089 rfl hl.1 rfl (by first | exact Nat.le_of_ble_eq_true rfl | simp [xrf_cat, xcI, xcJ, xcA]) dL_law_271 (by decide) (by simp only [rm_X10_count, rm_X11_count, room_1]; omega) rfl (fun H locs hR hS => ?_)
  refine lv_icmp_eq (tgt := 1125) hx hb dL_law_274 (by decide) (fun _ => ?_) (fun c9 => absurd rfl c9)
  obtain ⟨v4, ev4⟩ : ∃ z : Int32, z = x4 + 6 := ⟨_, rfl⟩
  refine lv_iinc (v := v4) (lv' := [(4, .int v4), (0, va_rf (some b)), (1, va_rf (some x)), (2, va_rf (some m9)), (3, va_rf (some out))]) hx hb dL_law_1125 hl (k := 4) rfl (by rw [ev4]; rfl) (by decide) (by first | rfl | (simp [xrf_cat, xcI, xcJ, xcA]; done) | (simp [xrf_cat, xcI, xcJ, xcA]; decide)) (fun ls hl => ?_)
  refine lv_goto (tgt := 23) hx hb dL_law_1128 (by decide) ?_
  refine W.widen (k := 50 + 20 * (i + 1)) (n := 30000 + 2000 * (i + 1)) (by simp only [rm_X10_count, rm_X11_count]; omega) (by simp only [rm_X10_count, rm_X11_count]; omega) ?_
  exact ih (i + 1) h2 v4 (by omega) (by omega) (by rw [ev4, ex4]; exact nI_add (6 * i) 6) e4 _ _ _ hR hS (lv_sub hl [1, 2, 3, 4, 0] rfl)
set_option maxHeartbeats 4000000 in
set_option maxRecDepth 100000 in
theorem lc_ticks {p : Program} {l : Launch} {e : Env} {s : State} {m : MethodId} {below : List Frame} {meth : Method} {c : Code} {b L : Nat} {xs : Nat → Int32} {D : va_G} {G : Nat → Nat} {J : Nat → xH → Prop} {x m9 out : Nat} (hlt : l.stackTraces = false) (hL : L ≤ 3072) (hx : p.tables.exec = Jvm.exec) (hb : c.code = code) (hr : meth.sig.returnType = ret) (hlk : meth.locks = false) (hml : c.maxLocals = 7) (hown : s.vm.findClass R_law = some m.cls) (hts : ∀ w ∈ xt, w.before #[Value.ref b] s = true) (hB : xB s) (hX : va_X b L xs s s.heap) (hbl : b < s.heap.size) (hG0 : G 0 = s.heap.size) (hJ : sJ J G x m9 out) {n : Nat} (ih : ∀ (i : Nat) (h : xH) (x4 : Int32), 6 * i ≤ L + 6 → L + 6 < 6 * i + n → x4 = nI (6 * i) → J i h → ∀ (H : Heap) (locs : List Loc) (ls : Array Slot), xR D G h s H → va_S (xA G) s.heap H locs → lv_has ls 7 [(0, va_rf (some b)), (1, va_rf (some x)), (2, va_rf (some m9)), (3, va_rf (some out)), (4, .int x4)] → W p l e room_1 s m #[Value.ref b] below meth c H locs (50 + 20 * i) (30000 + 2000 * i) (lw_Z below #[Value.ref b] s) (F0 m 23 ls [])) (i : Nat) (h : xH) (x4 : Int32) (hi : 6 * i + 6 ≤ L) (hn : L + 6 < 6 * i + (n + 1)) (ex4 : x4 = nI (6 * i)) (hj : J i h) (H : Heap) (locs : List Loc) (ls : Array Slot) (hR : xR D G h s H) (hS : va_S (xA G) s.heap H locs) (hl : lv_has ls 7 [(0, va_rf (some b)), (1, va_rf (some x)), (2, va_rf (some m9)), (3, va_rf (some out)), (4, .int x4)]) : W p l e room_1 s m #[Value.ref b] below meth c H locs (50 + 20 * i) (30000 + 2000 * i) (lw_Z below #[Value.ref b] s) (F0 m 279 ls []) := by
  have hbA : ¬ xA G b := by show ¬ G 0 ≤ b; omega
  have hi1 : vp_in (x4 + 1) L := lw_in (k := 1) x4 ex4 (by decide) (by omega) hL
  have hi2 : vp_in (x4 + 2) L := lw_in (k := 2) x4 ex4 (by decide) (by omega) hL
  have hi3 : vp_in (x4 + 3) L := lw_in (k := 3) x4 ex4 (by decide) (by omega) hL
  have hi4 : vp_in (x4 + 4) L := lw_in (k := 4) x4 ex4 (by decide) (by omega) hL
  have hi5 : vp_in (x4 + 5) L := lw_in (k := 5) x4 ex4 (by decide) (by omega) hL
  obtain ⟨r, h1, h2, e1, e2, e3, e4⟩ := hJ.2.2.2.2.1 i h hj (xs (x4 + 1).toNatClampNeg)
  refine x_aload_n (o := (some x)) hx hb dL_law_279 rfl (lv_at hl 1 rfl) ?_
  refine x_aload_n (o := (some b)) hx hb dL_law_280 rfl (lv_at hl 0 rfl) ?_
  refine lv_iload hx hb dL_law_281 (lv_at hl 4 rfl) ?_
  refine lv_iconst (v := 1) hx hb dL_law_283 (by decide) ?_
  refine lv_iadd hx hb dL_law_284 ?_
  refine va_sld hx hb hX hbl hbA hS hi1 dL_law_285 ?_
  refine x_callV (o := (some x)) (ci := 10) (As := [.int (xs (x4 + 1).toNatClampNeg)]) (rest := []) (v := (some (.int r))) (k := 1) hx hb hml hown hts hR hS (hJ.1 i h hj) rfl rfl (t_X10_ticks l D G h x (xs (x4 + 1).toNatClampNeg) r h1 e1) f_X10_ticks mm_398 mm_399 mm_400 rfl hl.1 rfl (by first | exact Nat.le_of_ble_eq_true rfl | simp [xrf_cat, xcI, xcJ, xcA]) dL_law_286 (by decide) (by simp only [rm_X10_ticks, room_1]; omega) rfl (fun H locs hR hS => ?_)
  refine x_aload_n (o := (some m9)) hx hb dL_law_289 rfl (lv_at hl 2 rfl) ?_
  refine x_aload_n (o := (some b)) hx hb dL_law_290 rfl (lv_at hl 0 rfl) ?_
  refine lv_iload hx hb dL_law_291 (lv_at hl 4 rfl) ?_
  refine lv_iconst (v := 1) hx hb dL_law_293 (by decide) ?_
  refine lv_iadd hx hb dL_law_294 ?_
  refine va_sld hx hb hX hbl hbA hS hi1 dL_law_295 ?_
  refine x_callV (o := (some m9)) (ci := 11) (As := [.int (xs (x4 + 1).toNatClampNeg)]) (rest := [.int r]) (v := (some (.int r))) (k := 1) hx hb hml hown hts hR hS e2 rfl rfl (t_X11_ticks l D G h1 m9 (xs (x4 + 1).toNatClampNeg) r h2 e3) f_X11_ticks mm_1091 mm_1092 mm_1093 rfl hl.1 rfl (by first | exact Nat.le_of_ble_eq_true rfl | simp [xrf_cat, xcI, xcJ, xcA]) dL_law_296 (by decide) (by simp only [rm_X10_ticks, rm_X11_ticks, room_1]; omega) rfl (fun H locs hR hS => ?_)
  refine lv_icmp_eq (tgt := 1125) hx hb dL_law_299 (by decide) (fun _ => ?_) (fun c9 => absurd rfl c9)
  obtain ⟨v4, ev4⟩ : ∃ z : Int32, z = x4 + 6 := ⟨_, rfl⟩
  refine lv_iinc (v := v4) (lv' := [(4, .int v4), (0, va_rf (some b)), (1, va_rf (some x)), (2, va_rf (some m9)), (3, va_rf (some out))]) hx hb dL_law_1125 hl (k := 4) rfl (by rw [ev4]; rfl) (by decide) (by first | rfl | (simp [xrf_cat, xcI, xcJ, xcA]; done) | (simp [xrf_cat, xcI, xcJ, xcA]; decide)) (fun ls hl => ?_)
  refine lv_goto (tgt := 23) hx hb dL_law_1128 (by decide) ?_
  refine W.widen (k := 50 + 20 * (i + 1)) (n := 30000 + 2000 * (i + 1)) (by simp only [rm_X10_ticks, rm_X11_ticks]; omega) (by simp only [rm_X10_ticks, rm_X11_ticks]; omega) ?_
  exact ih (i + 1) h2 v4 (by omega) (by omega) (by rw [ev4, ex4]; exact nI_add (6 * i) 6) e4 _ _ _ hR hS (lv_sub hl [1, 2, 3, 4, 0] rfl)
set_option maxHeartbeats 4000000 in
set_option maxRecDepth 100000 in
theorem lc_promise {p : Program} {l : Launch} {e : Env} {s : State} {m : MethodId} {below : List Frame} {meth : Method} {c : Code} {b L : Nat} {xs : Nat → Int32} {D : va_G} {G : Nat → Nat} {J : Nat → xH → Prop} {x m9 out : Nat} (hlt : l.stackTraces = false) (hL : L ≤ 3072) (hx : p.tables.exec = Jvm.exec) (hb : c.code = code) (hr : meth.sig.returnType = ret) (hlk : meth.locks = false) (hml : c.maxLocals = 7) (hown : s.vm.findClass R_law = some m.cls) (hts : ∀ w ∈ xt, w.before #[Value.ref b] s = true) (hB : xB s) (hX : va_X b L xs s s.heap) (hbl : b < s.heap.size) (hG0 : G 0 = s.heap.size) (hJ : sJ J G x m9 out) {n : Nat} (ih : ∀ (i : Nat) (h : xH) (x4 : Int32), 6 * i ≤ L + 6 → L + 6 < 6 * i + n → x4 = nI (6 * i) → J i h → ∀ (H : Heap) (locs : List Loc) (ls : Array Slot), xR D G h s H → va_S (xA G) s.heap H locs → lv_has ls 7 [(0, va_rf (some b)), (1, va_rf (some x)), (2, va_rf (some m9)), (3, va_rf (some out)), (4, .int x4)] → W p l e room_1 s m #[Value.ref b] below meth c H locs (50 + 20 * i) (30000 + 2000 * i) (lw_Z below #[Value.ref b] s) (F0 m 23 ls [])) (i : Nat) (h : xH) (x4 : Int32) (hi : 6 * i + 6 ≤ L) (hn : L + 6 < 6 * i + (n + 1)) (ex4 : x4 = nI (6 * i)) (hj : J i h) (H : Heap) (locs : List Loc) (ls : Array Slot) (hR : xR D G h s H) (hS : va_S (xA G) s.heap H locs) (hl : lv_has ls 7 [(0, va_rf (some b)), (1, va_rf (some x)), (2, va_rf (some m9)), (3, va_rf (some out)), (4, .int x4)]) : W p l e room_1 s m #[Value.ref b] below meth c H locs (50 + 20 * i) (30000 + 2000 * i) (lw_Z below #[Value.ref b] s) (F0 m 304 ls []) := by
  have hbA : ¬ xA G b := by show ¬ G 0 ≤ b; omega
  have hi1 : vp_in (x4 + 1) L := lw_in (k := 1) x4 ex4 (by decide) (by omega) hL
  have hi2 : vp_in (x4 + 2) L := lw_in (k := 2) x4 ex4 (by decide) (by omega) hL
  have hi3 : vp_in (x4 + 3) L := lw_in (k := 3) x4 ex4 (by decide) (by omega) hL
  have hi4 : vp_in (x4 + 4) L := lw_in (k := 4) x4 ex4 (by decide) (by omega) hL
  have hi5 : vp_in (x4 + 5) L := lw_in (k := 5) x4 ex4 (by decide) (by omega) hL
  refine x_aload_n (o := (some x)) hx hb dL_law_304 rfl (lv_at hl 1 rfl) ?_
  refine x_aload_n (o := (some b)) hx hb dL_law_305 rfl (lv_at hl 0 rfl) ?_
  refine lv_iload hx hb dL_law_306 (lv_at hl 4 rfl) ?_
  refine lv_iconst (v := 1) hx hb dL_law_308 (by decide) ?_
  refine lv_iadd hx hb dL_law_309 ?_
  refine va_sld hx hb hX hbl hbA hS hi1 dL_law_310 ?_
  refine x_aload_n (o := (some b)) hx hb dL_law_311 rfl (lv_at hl 0 rfl) ?_
  refine lv_iload hx hb dL_law_312 (lv_at hl 4 rfl) ?_
  refine lv_iconst (v := 2) hx hb dL_law_314 (by decide) ?_
  refine lv_iadd hx hb dL_law_315 ?_
  refine va_sld hx hb hX hbl hbA hS hi2 dL_law_316 ?_
  refine x_aload_n (o := (some b)) hx hb dL_law_317 rfl (lv_at hl 0 rfl) ?_
  refine lv_iload hx hb dL_law_318 (lv_at hl 4 rfl) ?_
  refine lv_iconst (v := 3) hx hb dL_law_320 (by decide) ?_
  refine lv_iadd hx hb dL_law_321 ?_
  refine va_sld hx hb hX hbl hbA hS hi3 dL_law_322 ?_
  refine x_aload_n (o := (some b)) hx hb dL_law_323 rfl (lv_at hl 0 rfl) ?_
  refine lv_iload hx hb dL_law_324 (lv_at hl 4 rfl) ?_
  refine lv_iconst (v := 4) hx hb dL_law_326 (by decide) ?_
  refine lv_iadd hx hb dL_law_327 ?_
  refine va_sld hx hb hX hbl hbA hS hi4 dL_law_328 ?_
  refine lv_if_eq (tgt := 336) hx hb dL_law_329 (by decide) (fun c4 => ?_) (fun c4 => ?_)
  · obtain ⟨r, h1, h2, e1, e2, e3, e4⟩ := hJ.2.2.2.2.2.1 i h hj (xs (x4 + 1).toNatClampNeg) (xs (x4 + 2).toNatClampNeg) (xs (x4 + 3).toNatClampNeg) 0 (by decide)
    refine lv_iconst (v := 0) hx hb dL_law_336 (by decide) ?_
    refine x_callV (o := (some x)) (ci := 10) (As := [.int (xs (x4 + 1).toNatClampNeg), .int (xs (x4 + 2).toNatClampNeg), .int (xs (x4 + 3).toNatClampNeg), .int 0]) (rest := []) (v := (some (.int r))) (k := 4) hx hb hml hown hts hR hS (hJ.1 i h hj) rfl rfl (t_X10_promise l D G h x (xs (x4 + 1).toNatClampNeg) (xs (x4 + 2).toNatClampNeg) (xs (x4 + 3).toNatClampNeg) 0 r h1 e1) f_X10_promise mm_402 mm_403 mm_404 rfl hl.1 rfl (by first | exact Nat.le_of_ble_eq_true rfl | simp [xrf_cat, xcI, xcJ, xcA]) dL_law_337 (by decide) (by simp only [rm_X10_promise, room_1]; omega) rfl (fun H locs hR hS => ?_)
    refine x_aload_n (o := (some m9)) hx hb dL_law_340 rfl (lv_at hl 2 rfl) ?_
    refine x_aload_n (o := (some b)) hx hb dL_law_341 rfl (lv_at hl 0 rfl) ?_
    refine lv_iload hx hb dL_law_342 (lv_at hl 4 rfl) ?_
    refine lv_iconst (v := 1) hx hb dL_law_344 (by decide) ?_
    refine lv_iadd hx hb dL_law_345 ?_
    refine va_sld hx hb hX hbl hbA hS hi1 dL_law_346 ?_
    refine x_aload_n (o := (some b)) hx hb dL_law_347 rfl (lv_at hl 0 rfl) ?_
    refine lv_iload hx hb dL_law_348 (lv_at hl 4 rfl) ?_
    refine lv_iconst (v := 2) hx hb dL_law_350 (by decide) ?_
    refine lv_iadd hx hb dL_law_351 ?_
    refine va_sld hx hb hX hbl hbA hS hi2 dL_law_352 ?_
    refine x_aload_n (o := (some b)) hx hb dL_law_353 rfl (lv_at hl 0 rfl) ?_
    refine lv_iload hx hb dL_law_354 (lv_at hl 4 rfl) ?_
    refine lv_iconst (v := 3) hx hb dL_law_356 (by decide) ?_
    refine lv_iadd hx hb dL_law_357 ?_
    refine va_sld hx hb hX hbl hbA hS hi3 dL_law_358 ?_
    refine x_aload_n (o := (some b)) hx hb dL_law_359 rfl (lv_at hl 0 rfl) ?_
    refine lv_iload hx hb dL_law_360 (lv_at hl 4 rfl) ?_
    refine lv_iconst (v := 4) hx hb dL_law_362 (by decide) ?_
    refine lv_iadd hx hb dL_law_363 ?_
    refine va_sld hx hb hX hbl hbA hS hi4 dL_law_364 ?_
    refine lv_if_eq (tgt := 372) hx hb dL_law_365 (by decide) (fun _ => ?_) (fun c5 => absurd c4 c5)
    refine lv_iconst (v := 0) hx hb dL_law_372 (by decide) ?_
    refine x_callV (o := (some m9)) (ci := 11) (As := [.int (xs (x4 + 1).toNatClampNeg), .int (xs (x4 + 2).toNatClampNeg), .int (xs (x4 + 3).toNatClampNeg), .int 0]) (rest := [.int r]) (v := (some (.int r))) (k := 4) hx hb hml hown hts hR hS e2 rfl rfl (t_X11_promise l D G h1 m9 (xs (x4 + 1).toNatClampNeg) (xs (x4 + 2).toNatClampNeg) (xs (x4 + 3).toNatClampNeg) 0 r h2 e3) f_X11_promise mm_1107 mm_1108 mm_1109 rfl hl.1 rfl (by first | exact Nat.le_of_ble_eq_true rfl | simp [xrf_cat, xcI, xcJ, xcA]) dL_law_373 (by decide) (by simp only [rm_X10_promise, rm_X11_promise, room_1]; omega) rfl (fun H locs hR hS => ?_)
    refine lv_icmp_eq (tgt := 1125) hx hb dL_law_376 (by decide) (fun _ => ?_) (fun c9 => absurd rfl c9)
    obtain ⟨v4, ev4⟩ : ∃ z : Int32, z = x4 + 6 := ⟨_, rfl⟩
    refine lv_iinc (v := v4) (lv' := [(4, .int v4), (0, va_rf (some b)), (1, va_rf (some x)), (2, va_rf (some m9)), (3, va_rf (some out))]) hx hb dL_law_1125 hl (k := 4) rfl (by rw [ev4]; rfl) (by decide) (by first | rfl | (simp [xrf_cat, xcI, xcJ, xcA]; done) | (simp [xrf_cat, xcI, xcJ, xcA]; decide)) (fun ls hl => ?_)
    refine lv_goto (tgt := 23) hx hb dL_law_1128 (by decide) ?_
    refine W.widen (k := 50 + 20 * (i + 1)) (n := 30000 + 2000 * (i + 1)) (by simp only [rm_X10_promise, rm_X11_promise]; omega) (by simp only [rm_X10_promise, rm_X11_promise]; omega) ?_
    exact ih (i + 1) h2 v4 (by omega) (by omega) (by rw [ev4, ex4]; exact nI_add (6 * i) 6) e4 _ _ _ hR hS (lv_sub hl [1, 2, 3, 4, 0] rfl)
  · obtain ⟨r, h1, h2, e1, e2, e3, e4⟩ := hJ.2.2.2.2.2.1 i h hj (xs (x4 + 1).toNatClampNeg) (xs (x4 + 2).toNatClampNeg) (xs (x4 + 3).toNatClampNeg) 1 (by decide)
    refine lv_iconst (v := 1) hx hb dL_law_332 (by decide) ?_
    refine lv_goto (tgt := 337) hx hb dL_law_333 (by decide) ?_
    refine x_callV (o := (some x)) (ci := 10) (As := [.int (xs (x4 + 1).toNatClampNeg), .int (xs (x4 + 2).toNatClampNeg), .int (xs (x4 + 3).toNatClampNeg), .int 1]) (rest := []) (v := (some (.int r))) (k := 4) hx hb hml hown hts hR hS (hJ.1 i h hj) rfl rfl (t_X10_promise l D G h x (xs (x4 + 1).toNatClampNeg) (xs (x4 + 2).toNatClampNeg) (xs (x4 + 3).toNatClampNeg) 1 r h1 e1) f_X10_promise mm_402 mm_403 mm_404 rfl hl.1 rfl (by first | exact Nat.le_of_ble_eq_true rfl | simp [xrf_cat, xcI, xcJ, xcA]) dL_law_337 (by decide) (by simp only [rm_X10_promise, room_1]; omega) rfl (fun H locs hR hS => ?_)
    refine x_aload_n (o := (some m9)) hx hb dL_law_340 rfl (lv_at hl 2 rfl) ?_
    refine x_aload_n (o := (some b)) hx hb dL_law_341 rfl (lv_at hl 0 rfl) ?_
    refine lv_iload hx hb dL_law_342 (lv_at hl 4 rfl) ?_
    refine lv_iconst (v := 1) hx hb dL_law_344 (by decide) ?_
    refine lv_iadd hx hb dL_law_345 ?_
    refine va_sld hx hb hX hbl hbA hS hi1 dL_law_346 ?_
    refine x_aload_n (o := (some b)) hx hb dL_law_347 rfl (lv_at hl 0 rfl) ?_
    refine lv_iload hx hb dL_law_348 (lv_at hl 4 rfl) ?_
    refine lv_iconst (v := 2) hx hb dL_law_350 (by decide) ?_
    refine lv_iadd hx hb dL_law_351 ?_
    refine va_sld hx hb hX hbl hbA hS hi2 dL_law_352 ?_
    refine x_aload_n (o := (some b)) hx hb dL_law_353 rfl (lv_at hl 0 rfl) ?_
    refine lv_iload hx hb dL_law_354 (lv_at hl 4 rfl) ?_
    refine lv_iconst (v := 3) hx hb dL_law_356 (by decide) ?_
    refine lv_iadd hx hb dL_law_357 ?_
    refine va_sld hx hb hX hbl hbA hS hi3 dL_law_358 ?_
    refine x_aload_n (o := (some b)) hx hb dL_law_359 rfl (lv_at hl 0 rfl) ?_
    refine lv_iload hx hb dL_law_360 (lv_at hl 4 rfl) ?_
    refine lv_iconst (v := 4) hx hb dL_law_362 (by decide) ?_
    refine lv_iadd hx hb dL_law_363 ?_
    refine va_sld hx hb hX hbl hbA hS hi4 dL_law_364 ?_
    refine lv_if_eq (tgt := 372) hx hb dL_law_365 (by decide) (fun c5 => absurd c5 c4) (fun _ => ?_)
    refine lv_iconst (v := 1) hx hb dL_law_368 (by decide) ?_
    refine lv_goto (tgt := 373) hx hb dL_law_369 (by decide) ?_
    refine x_callV (o := (some m9)) (ci := 11) (As := [.int (xs (x4 + 1).toNatClampNeg), .int (xs (x4 + 2).toNatClampNeg), .int (xs (x4 + 3).toNatClampNeg), .int 1]) (rest := [.int r]) (v := (some (.int r))) (k := 4) hx hb hml hown hts hR hS e2 rfl rfl (t_X11_promise l D G h1 m9 (xs (x4 + 1).toNatClampNeg) (xs (x4 + 2).toNatClampNeg) (xs (x4 + 3).toNatClampNeg) 1 r h2 e3) f_X11_promise mm_1107 mm_1108 mm_1109 rfl hl.1 rfl (by first | exact Nat.le_of_ble_eq_true rfl | simp [xrf_cat, xcI, xcJ, xcA]) dL_law_373 (by decide) (by simp only [rm_X10_promise, rm_X11_promise, room_1]; omega) rfl (fun H locs hR hS => ?_)
    refine lv_icmp_eq (tgt := 1125) hx hb dL_law_376 (by decide) (fun _ => ?_) (fun c9 => absurd rfl c9)
    obtain ⟨v4, ev4⟩ : ∃ z : Int32, z = x4 + 6 := ⟨_, rfl⟩
    refine lv_iinc (v := v4) (lv' := [(4, .int v4), (0, va_rf (some b)), (1, va_rf (some x)), (2, va_rf (some m9)), (3, va_rf (some out))]) hx hb dL_law_1125 hl (k := 4) rfl (by rw [ev4]; rfl) (by decide) (by first | rfl | (simp [xrf_cat, xcI, xcJ, xcA]; done) | (simp [xrf_cat, xcI, xcJ, xcA]; decide)) (fun ls hl => ?_)
    refine lv_goto (tgt := 23) hx hb dL_law_1128 (by decide) ?_
    refine W.widen (k := 50 + 20 * (i + 1)) (n := 30000 + 2000 * (i + 1)) (by simp only [rm_X10_promise, rm_X11_promise]; omega) (by simp only [rm_X10_promise, rm_X11_promise]; omega) ?_
    exact ih (i + 1) h2 v4 (by omega) (by omega) (by rw [ev4, ex4]; exact nI_add (6 * i) 6) e4 _ _ _ hR hS (lv_sub hl [1, 2, 3, 4, 0] rfl)
set_option maxHeartbeats 4000000 in
set_option maxRecDepth 100000 in
theorem lc_grace {p : Program} {l : Launch} {e : Env} {s : State} {m : MethodId} {below : List Frame} {meth : Method} {c : Code} {b L : Nat} {xs : Nat → Int32} {D : va_G} {G : Nat → Nat} {J : Nat → xH → Prop} {x m9 out : Nat} (hlt : l.stackTraces = false) (hL : L ≤ 3072) (hx : p.tables.exec = Jvm.exec) (hb : c.code = code) (hr : meth.sig.returnType = ret) (hlk : meth.locks = false) (hml : c.maxLocals = 7) (hown : s.vm.findClass R_law = some m.cls) (hts : ∀ w ∈ xt, w.before #[Value.ref b] s = true) (hB : xB s) (hX : va_X b L xs s s.heap) (hbl : b < s.heap.size) (hG0 : G 0 = s.heap.size) (hJ : sJ J G x m9 out) {n : Nat} (ih : ∀ (i : Nat) (h : xH) (x4 : Int32), 6 * i ≤ L + 6 → L + 6 < 6 * i + n → x4 = nI (6 * i) → J i h → ∀ (H : Heap) (locs : List Loc) (ls : Array Slot), xR D G h s H → va_S (xA G) s.heap H locs → lv_has ls 7 [(0, va_rf (some b)), (1, va_rf (some x)), (2, va_rf (some m9)), (3, va_rf (some out)), (4, .int x4)] → W p l e room_1 s m #[Value.ref b] below meth c H locs (50 + 20 * i) (30000 + 2000 * i) (lw_Z below #[Value.ref b] s) (F0 m 23 ls [])) (i : Nat) (h : xH) (x4 : Int32) (hi : 6 * i + 6 ≤ L) (hn : L + 6 < 6 * i + (n + 1)) (ex4 : x4 = nI (6 * i)) (hj : J i h) (H : Heap) (locs : List Loc) (ls : Array Slot) (hR : xR D G h s H) (hS : va_S (xA G) s.heap H locs) (hl : lv_has ls 7 [(0, va_rf (some b)), (1, va_rf (some x)), (2, va_rf (some m9)), (3, va_rf (some out)), (4, .int x4)]) : W p l e room_1 s m #[Value.ref b] below meth c H locs (50 + 20 * i) (30000 + 2000 * i) (lw_Z below #[Value.ref b] s) (F0 m 381 ls []) := by
  have hbA : ¬ xA G b := by show ¬ G 0 ≤ b; omega
  have hi1 : vp_in (x4 + 1) L := lw_in (k := 1) x4 ex4 (by decide) (by omega) hL
  have hi2 : vp_in (x4 + 2) L := lw_in (k := 2) x4 ex4 (by decide) (by omega) hL
  have hi3 : vp_in (x4 + 3) L := lw_in (k := 3) x4 ex4 (by decide) (by omega) hL
  have hi4 : vp_in (x4 + 4) L := lw_in (k := 4) x4 ex4 (by decide) (by omega) hL
  have hi5 : vp_in (x4 + 5) L := lw_in (k := 5) x4 ex4 (by decide) (by omega) hL
  obtain ⟨r, h1, h2, e1, e2, e3, e4⟩ := hJ.2.2.2.2.2.2.1 i h hj (xs (x4 + 1).toNatClampNeg) (xs (x4 + 2).toNatClampNeg) (xs (x4 + 3).toNatClampNeg)
  refine x_aload_n (o := (some x)) hx hb dL_law_381 rfl (lv_at hl 1 rfl) ?_
  refine x_aload_n (o := (some b)) hx hb dL_law_382 rfl (lv_at hl 0 rfl) ?_
  refine lv_iload hx hb dL_law_383 (lv_at hl 4 rfl) ?_
  refine lv_iconst (v := 1) hx hb dL_law_385 (by decide) ?_
  refine lv_iadd hx hb dL_law_386 ?_
  refine va_sld hx hb hX hbl hbA hS hi1 dL_law_387 ?_
  refine x_aload_n (o := (some b)) hx hb dL_law_388 rfl (lv_at hl 0 rfl) ?_
  refine lv_iload hx hb dL_law_389 (lv_at hl 4 rfl) ?_
  refine lv_iconst (v := 2) hx hb dL_law_391 (by decide) ?_
  refine lv_iadd hx hb dL_law_392 ?_
  refine va_sld hx hb hX hbl hbA hS hi2 dL_law_393 ?_
  refine x_aload_n (o := (some b)) hx hb dL_law_394 rfl (lv_at hl 0 rfl) ?_
  refine lv_iload hx hb dL_law_395 (lv_at hl 4 rfl) ?_
  refine lv_iconst (v := 3) hx hb dL_law_397 (by decide) ?_
  refine lv_iadd hx hb dL_law_398 ?_
  refine va_sld hx hb hX hbl hbA hS hi3 dL_law_399 ?_
  refine x_callV (o := (some x)) (ci := 10) (As := [.int (xs (x4 + 1).toNatClampNeg), .int (xs (x4 + 2).toNatClampNeg), .int (xs (x4 + 3).toNatClampNeg)]) (rest := []) (v := (some (.int r))) (k := 3) hx hb hml hown hts hR hS (hJ.1 i h hj) rfl rfl (t_X10_grace l D G h x (xs (x4 + 1).toNatClampNeg) (xs (x4 + 2).toNatClampNeg) (xs (x4 + 3).toNatClampNeg) r h1 e1) f_X10_grace mm_433 mm_434 mm_435 rfl hl.1 rfl (by first | exact Nat.le_of_ble_eq_true rfl | simp [xrf_cat, xcI, xcJ, xcA]) dL_law_400 (by decide) (by simp only [rm_X10_grace, room_1]; omega) rfl (fun H locs hR hS => ?_)
  refine x_aload_n (o := (some m9)) hx hb dL_law_403 rfl (lv_at hl 2 rfl) ?_
  refine x_aload_n (o := (some b)) hx hb dL_law_404 rfl (lv_at hl 0 rfl) ?_
  refine lv_iload hx hb dL_law_405 (lv_at hl 4 rfl) ?_
  refine lv_iconst (v := 1) hx hb dL_law_407 (by decide) ?_
  refine lv_iadd hx hb dL_law_408 ?_
  refine va_sld hx hb hX hbl hbA hS hi1 dL_law_409 ?_
  refine x_aload_n (o := (some b)) hx hb dL_law_410 rfl (lv_at hl 0 rfl) ?_
  refine lv_iload hx hb dL_law_411 (lv_at hl 4 rfl) ?_
  refine lv_iconst (v := 2) hx hb dL_law_413 (by decide) ?_
  refine lv_iadd hx hb dL_law_414 ?_
  refine va_sld hx hb hX hbl hbA hS hi2 dL_law_415 ?_
  refine x_aload_n (o := (some b)) hx hb dL_law_416 rfl (lv_at hl 0 rfl) ?_
  refine lv_iload hx hb dL_law_417 (lv_at hl 4 rfl) ?_
  refine lv_iconst (v := 3) hx hb dL_law_419 (by decide) ?_
  refine lv_iadd hx hb dL_law_420 ?_
  refine va_sld hx hb hX hbl hbA hS hi3 dL_law_421 ?_
  refine x_callV (o := (some m9)) (ci := 11) (As := [.int (xs (x4 + 1).toNatClampNeg), .int (xs (x4 + 2).toNatClampNeg), .int (xs (x4 + 3).toNatClampNeg)]) (rest := [.int r]) (v := (some (.int r))) (k := 3) hx hb hml hown hts hR hS e2 rfl rfl (t_X11_grace l D G h1 m9 (xs (x4 + 1).toNatClampNeg) (xs (x4 + 2).toNatClampNeg) (xs (x4 + 3).toNatClampNeg) r h2 e3) f_X11_grace mm_1111 mm_1112 mm_1113 rfl hl.1 rfl (by first | exact Nat.le_of_ble_eq_true rfl | simp [xrf_cat, xcI, xcJ, xcA]) dL_law_422 (by decide) (by simp only [rm_X10_grace, rm_X11_grace, room_1]; omega) rfl (fun H locs hR hS => ?_)
  refine lv_icmp_eq (tgt := 1125) hx hb dL_law_425 (by decide) (fun _ => ?_) (fun c9 => absurd rfl c9)
  obtain ⟨v4, ev4⟩ : ∃ z : Int32, z = x4 + 6 := ⟨_, rfl⟩
  refine lv_iinc (v := v4) (lv' := [(4, .int v4), (0, va_rf (some b)), (1, va_rf (some x)), (2, va_rf (some m9)), (3, va_rf (some out))]) hx hb dL_law_1125 hl (k := 4) rfl (by rw [ev4]; rfl) (by decide) (by first | rfl | (simp [xrf_cat, xcI, xcJ, xcA]; done) | (simp [xrf_cat, xcI, xcJ, xcA]; decide)) (fun ls hl => ?_)
  refine lv_goto (tgt := 23) hx hb dL_law_1128 (by decide) ?_
  refine W.widen (k := 50 + 20 * (i + 1)) (n := 30000 + 2000 * (i + 1)) (by simp only [rm_X10_grace, rm_X11_grace]; omega) (by simp only [rm_X10_grace, rm_X11_grace]; omega) ?_
  exact ih (i + 1) h2 v4 (by omega) (by omega) (by rw [ev4, ex4]; exact nI_add (6 * i) 6) e4 _ _ _ hR hS (lv_sub hl [1, 2, 3, 4, 0] rfl)
set_option maxHeartbeats 4000000 in
set_option maxRecDepth 100000 in
theorem lc_sum {p : Program} {l : Launch} {e : Env} {s : State} {m : MethodId} {below : List Frame} {meth : Method} {c : Code} {b L : Nat} {xs : Nat → Int32} {D : va_G} {G : Nat → Nat} {J : Nat → xH → Prop} {x m9 out : Nat} (hlt : l.stackTraces = false) (hL : L ≤ 3072) (hx : p.tables.exec = Jvm.exec) (hb : c.code = code) (hr : meth.sig.returnType = ret) (hlk : meth.locks = false) (hml : c.maxLocals = 7) (hown : s.vm.findClass R_law = some m.cls) (hts : ∀ w ∈ xt, w.before #[Value.ref b] s = true) (hB : xB s) (hX : va_X b L xs s s.heap) (hbl : b < s.heap.size) (hG0 : G 0 = s.heap.size) (hJ : sJ J G x m9 out) {n : Nat} (ih : ∀ (i : Nat) (h : xH) (x4 : Int32), 6 * i ≤ L + 6 → L + 6 < 6 * i + n → x4 = nI (6 * i) → J i h → ∀ (H : Heap) (locs : List Loc) (ls : Array Slot), xR D G h s H → va_S (xA G) s.heap H locs → lv_has ls 7 [(0, va_rf (some b)), (1, va_rf (some x)), (2, va_rf (some m9)), (3, va_rf (some out)), (4, .int x4)] → W p l e room_1 s m #[Value.ref b] below meth c H locs (50 + 20 * i) (30000 + 2000 * i) (lw_Z below #[Value.ref b] s) (F0 m 23 ls [])) (i : Nat) (h : xH) (x4 : Int32) (hi : 6 * i + 6 ≤ L) (hn : L + 6 < 6 * i + (n + 1)) (ex4 : x4 = nI (6 * i)) (hj : J i h) (H : Heap) (locs : List Loc) (ls : Array Slot) (hR : xR D G h s H) (hS : va_S (xA G) s.heap H locs) (hl : lv_has ls 7 [(0, va_rf (some b)), (1, va_rf (some x)), (2, va_rf (some m9)), (3, va_rf (some out)), (4, .int x4)]) : W p l e room_1 s m #[Value.ref b] below meth c H locs (50 + 20 * i) (30000 + 2000 * i) (lw_Z below #[Value.ref b] s) (F0 m 430 ls []) := by
  have hbA : ¬ xA G b := by show ¬ G 0 ≤ b; omega
  have hi1 : vp_in (x4 + 1) L := lw_in (k := 1) x4 ex4 (by decide) (by omega) hL
  have hi2 : vp_in (x4 + 2) L := lw_in (k := 2) x4 ex4 (by decide) (by omega) hL
  have hi3 : vp_in (x4 + 3) L := lw_in (k := 3) x4 ex4 (by decide) (by omega) hL
  have hi4 : vp_in (x4 + 4) L := lw_in (k := 4) x4 ex4 (by decide) (by omega) hL
  have hi5 : vp_in (x4 + 5) L := lw_in (k := 5) x4 ex4 (by decide) (by omega) hL
  obtain ⟨r, h1, h2, e1, e2, e3, e4⟩ := hJ.2.2.2.2.2.2.2.1 i h hj (xs (x4 + 1).toNatClampNeg) (xs (x4 + 2).toNatClampNeg) (xs (x4 + 3).toNatClampNeg) (xs (x4 + 4).toNatClampNeg)
  refine x_aload_n (o := (some x)) hx hb dL_law_430 rfl (lv_at hl 1 rfl) ?_
  refine x_aload_n (o := (some b)) hx hb dL_law_431 rfl (lv_at hl 0 rfl) ?_
  refine lv_iload hx hb dL_law_432 (lv_at hl 4 rfl) ?_
  refine lv_iconst (v := 1) hx hb dL_law_434 (by decide) ?_
  refine lv_iadd hx hb dL_law_435 ?_
  refine va_sld hx hb hX hbl hbA hS hi1 dL_law_436 ?_
  refine x_aload_n (o := (some b)) hx hb dL_law_437 rfl (lv_at hl 0 rfl) ?_
  refine lv_iload hx hb dL_law_438 (lv_at hl 4 rfl) ?_
  refine lv_iconst (v := 2) hx hb dL_law_440 (by decide) ?_
  refine lv_iadd hx hb dL_law_441 ?_
  refine va_sld hx hb hX hbl hbA hS hi2 dL_law_442 ?_
  refine x_aload_n (o := (some b)) hx hb dL_law_443 rfl (lv_at hl 0 rfl) ?_
  refine lv_iload hx hb dL_law_444 (lv_at hl 4 rfl) ?_
  refine lv_iconst (v := 3) hx hb dL_law_446 (by decide) ?_
  refine lv_iadd hx hb dL_law_447 ?_
  refine va_sld hx hb hX hbl hbA hS hi3 dL_law_448 ?_
  refine x_aload_n (o := (some b)) hx hb dL_law_449 rfl (lv_at hl 0 rfl) ?_
  refine lv_iload hx hb dL_law_450 (lv_at hl 4 rfl) ?_
  refine lv_iconst (v := 4) hx hb dL_law_452 (by decide) ?_
  refine lv_iadd hx hb dL_law_453 ?_
  refine va_sld hx hb hX hbl hbA hS hi4 dL_law_454 ?_
  refine x_callV (o := (some x)) (ci := 10) (As := [.int (xs (x4 + 1).toNatClampNeg), .int (xs (x4 + 2).toNatClampNeg), .int (xs (x4 + 3).toNatClampNeg), .int (xs (x4 + 4).toNatClampNeg)]) (rest := []) (v := (some (.int r))) (k := 4) hx hb hml hown hts hR hS (hJ.1 i h hj) rfl rfl (t_X10_sum l D G h x (xs (x4 + 1).toNatClampNeg) (xs (x4 + 2).toNatClampNeg) (xs (x4 + 3).toNatClampNeg) (xs (x4 + 4).toNatClampNeg) r e1.1) f_X10_sum mm_446 mm_447 mm_448 rfl hl.1 rfl (by first | exact Nat.le_of_ble_eq_true rfl | simp [xrf_cat, xcI, xcJ, xcA]) dL_law_455 (by decide) (by simp only [rm_X10_sum, room_1]; omega) rfl (fun H locs hR hS => ?_)
  have hR : xR D G h1 s H := by rw [e1.2]; exact hR
  refine x_aload_n (o := (some m9)) hx hb dL_law_458 rfl (lv_at hl 2 rfl) ?_
  refine x_aload_n (o := (some b)) hx hb dL_law_459 rfl (lv_at hl 0 rfl) ?_
  refine lv_iload hx hb dL_law_460 (lv_at hl 4 rfl) ?_
  refine lv_iconst (v := 1) hx hb dL_law_462 (by decide) ?_
  refine lv_iadd hx hb dL_law_463 ?_
  refine va_sld hx hb hX hbl hbA hS hi1 dL_law_464 ?_
  refine x_aload_n (o := (some b)) hx hb dL_law_465 rfl (lv_at hl 0 rfl) ?_
  refine lv_iload hx hb dL_law_466 (lv_at hl 4 rfl) ?_
  refine lv_iconst (v := 2) hx hb dL_law_468 (by decide) ?_
  refine lv_iadd hx hb dL_law_469 ?_
  refine va_sld hx hb hX hbl hbA hS hi2 dL_law_470 ?_
  refine x_aload_n (o := (some b)) hx hb dL_law_471 rfl (lv_at hl 0 rfl) ?_
  refine lv_iload hx hb dL_law_472 (lv_at hl 4 rfl) ?_
  refine lv_iconst (v := 3) hx hb dL_law_474 (by decide) ?_
  refine lv_iadd hx hb dL_law_475 ?_
  refine va_sld hx hb hX hbl hbA hS hi3 dL_law_476 ?_
  refine x_aload_n (o := (some b)) hx hb dL_law_477 rfl (lv_at hl 0 rfl) ?_
  refine lv_iload hx hb dL_law_478 (lv_at hl 4 rfl) ?_
  refine lv_iconst (v := 4) hx hb dL_law_480 (by decide) ?_
  refine lv_iadd hx hb dL_law_481 ?_
  refine va_sld hx hb hX hbl hbA hS hi4 dL_law_482 ?_
  refine x_callV (o := (some m9)) (ci := 11) (As := [.int (xs (x4 + 1).toNatClampNeg), .int (xs (x4 + 2).toNatClampNeg), .int (xs (x4 + 3).toNatClampNeg), .int (xs (x4 + 4).toNatClampNeg)]) (rest := [.int r]) (v := (some (.int r))) (k := 4) hx hb hml hown hts hR hS e2 rfl rfl (t_X11_sum l D G h1 m9 (xs (x4 + 1).toNatClampNeg) (xs (x4 + 2).toNatClampNeg) (xs (x4 + 3).toNatClampNeg) (xs (x4 + 4).toNatClampNeg) r h2 e3) f_X11_sum mm_1095 mm_1096 mm_1097 rfl hl.1 rfl (by first | exact Nat.le_of_ble_eq_true rfl | simp [xrf_cat, xcI, xcJ, xcA]) dL_law_483 (by decide) (by simp only [rm_X10_sum, rm_X11_sum, room_1]; omega) rfl (fun H locs hR hS => ?_)
  refine lv_icmp_eq (tgt := 1125) hx hb dL_law_486 (by decide) (fun _ => ?_) (fun c9 => absurd rfl c9)
  obtain ⟨v4, ev4⟩ : ∃ z : Int32, z = x4 + 6 := ⟨_, rfl⟩
  refine lv_iinc (v := v4) (lv' := [(4, .int v4), (0, va_rf (some b)), (1, va_rf (some x)), (2, va_rf (some m9)), (3, va_rf (some out))]) hx hb dL_law_1125 hl (k := 4) rfl (by rw [ev4]; rfl) (by decide) (by first | rfl | (simp [xrf_cat, xcI, xcJ, xcA]; done) | (simp [xrf_cat, xcI, xcJ, xcA]; decide)) (fun ls hl => ?_)
  refine lv_goto (tgt := 23) hx hb dL_law_1128 (by decide) ?_
  refine W.widen (k := 50 + 20 * (i + 1)) (n := 30000 + 2000 * (i + 1)) (by simp only [rm_X10_sum, rm_X11_sum]; omega) (by simp only [rm_X10_sum, rm_X11_sum]; omega) ?_
  exact ih (i + 1) h2 v4 (by omega) (by omega) (by rw [ev4, ex4]; exact nI_add (6 * i) 6) e4 _ _ _ hR hS (lv_sub hl [1, 2, 3, 4, 0] rfl)
set_option maxHeartbeats 4000000 in
set_option maxRecDepth 100000 in
theorem lc_span {p : Program} {l : Launch} {e : Env} {s : State} {m : MethodId} {below : List Frame} {meth : Method} {c : Code} {b L : Nat} {xs : Nat → Int32} {D : va_G} {G : Nat → Nat} {J : Nat → xH → Prop} {x m9 out : Nat} (hlt : l.stackTraces = false) (hL : L ≤ 3072) (hx : p.tables.exec = Jvm.exec) (hb : c.code = code) (hr : meth.sig.returnType = ret) (hlk : meth.locks = false) (hml : c.maxLocals = 7) (hown : s.vm.findClass R_law = some m.cls) (hts : ∀ w ∈ xt, w.before #[Value.ref b] s = true) (hB : xB s) (hX : va_X b L xs s s.heap) (hbl : b < s.heap.size) (hG0 : G 0 = s.heap.size) (hJ : sJ J G x m9 out) {n : Nat} (ih : ∀ (i : Nat) (h : xH) (x4 : Int32), 6 * i ≤ L + 6 → L + 6 < 6 * i + n → x4 = nI (6 * i) → J i h → ∀ (H : Heap) (locs : List Loc) (ls : Array Slot), xR D G h s H → va_S (xA G) s.heap H locs → lv_has ls 7 [(0, va_rf (some b)), (1, va_rf (some x)), (2, va_rf (some m9)), (3, va_rf (some out)), (4, .int x4)] → W p l e room_1 s m #[Value.ref b] below meth c H locs (50 + 20 * i) (30000 + 2000 * i) (lw_Z below #[Value.ref b] s) (F0 m 23 ls [])) (i : Nat) (h : xH) (x4 : Int32) (hi : 6 * i + 6 ≤ L) (hn : L + 6 < 6 * i + (n + 1)) (ex4 : x4 = nI (6 * i)) (hj : J i h) (H : Heap) (locs : List Loc) (ls : Array Slot) (hR : xR D G h s H) (hS : va_S (xA G) s.heap H locs) (hl : lv_has ls 7 [(0, va_rf (some b)), (1, va_rf (some x)), (2, va_rf (some m9)), (3, va_rf (some out)), (4, .int x4)]) : W p l e room_1 s m #[Value.ref b] below meth c H locs (50 + 20 * i) (30000 + 2000 * i) (lw_Z below #[Value.ref b] s) (F0 m 491 ls []) := by
  have hbA : ¬ xA G b := by show ¬ G 0 ≤ b; omega
  have hi1 : vp_in (x4 + 1) L := lw_in (k := 1) x4 ex4 (by decide) (by omega) hL
  have hi2 : vp_in (x4 + 2) L := lw_in (k := 2) x4 ex4 (by decide) (by omega) hL
  have hi3 : vp_in (x4 + 3) L := lw_in (k := 3) x4 ex4 (by decide) (by omega) hL
  have hi4 : vp_in (x4 + 4) L := lw_in (k := 4) x4 ex4 (by decide) (by omega) hL
  have hi5 : vp_in (x4 + 5) L := lw_in (k := 5) x4 ex4 (by decide) (by omega) hL
  obtain ⟨res, e0, eA, eB⟩ := hJ.2.2.2.2.2.2.2.2.1 i h hj (xs (x4 + 1).toNatClampNeg) (xs (x4 + 2).toNatClampNeg) (xs (x4 + 3).toNatClampNeg)
  refine x_aload_n (o := (some x)) hx hb dL_law_491 rfl (lv_at hl 1 rfl) ?_
  refine x_aload_n (o := (some b)) hx hb dL_law_492 rfl (lv_at hl 0 rfl) ?_
  refine lv_iload hx hb dL_law_493 (lv_at hl 4 rfl) ?_
  refine lv_iconst (v := 1) hx hb dL_law_495 (by decide) ?_
  refine lv_iadd hx hb dL_law_496 ?_
  refine va_sld hx hb hX hbl hbA hS hi1 dL_law_497 ?_
  refine x_aload_n (o := (some b)) hx hb dL_law_498 rfl (lv_at hl 0 rfl) ?_
  refine lv_iload hx hb dL_law_499 (lv_at hl 4 rfl) ?_
  refine lv_iconst (v := 2) hx hb dL_law_501 (by decide) ?_
  refine lv_iadd hx hb dL_law_502 ?_
  refine va_sld hx hb hX hbl hbA hS hi2 dL_law_503 ?_
  refine x_aload_n (o := (some b)) hx hb dL_law_504 rfl (lv_at hl 0 rfl) ?_
  refine lv_iload hx hb dL_law_505 (lv_at hl 4 rfl) ?_
  refine lv_iconst (v := 3) hx hb dL_law_507 (by decide) ?_
  refine lv_iadd hx hb dL_law_508 ?_
  refine va_sld hx hb hX hbl hbA hS hi3 dL_law_509 ?_
  refine x_aload_n (o := (some out)) hx hb dL_law_510 rfl (lv_at hl 3 rfl) ?_
  refine x_callSs (As := [.ref x, .int (xs (x4 + 1).toNatClampNeg), .int (xs (x4 + 2).toNatClampNeg), .int (xs (x4 + 3).toNatClampNeg), .ref out]) (rest := []) (k := 5) hx hb hml hown hts hB hR hS (t_L_span l hlt D G h x (xs (x4 + 1).toNatClampNeg) (xs (x4 + 2).toNatClampNeg) (xs (x4 + 3).toNatClampNeg) out res (hJ.1 i h hj) e0 (fun v hv => by obtain ⟨h1, -, q1, -⟩ := eA v hv; exact ⟨h1, q1⟩)) (by decide +kernel) mm_835 mm_836 mm_54 (by decide +kernel) rfl hl.1 rfl (by decide) dL_law_511 (by decide) (by simp only [rm_L_span, room_1]; omega) (fun r h1 H locs hv q1 hR hS => ?_) (fun z H locs hv hz hR hS => ?_)
  · obtain ⟨h1', h2, q1', e2, e3, xct, ethr, e6, e4⟩ := eA r hv
    cases q1.symm.trans q1'
    refine lv_istore (lv' := [(5, .int 0), (0, va_rf (some b)), (1, va_rf (some x)), (2, va_rf (some m9)), (3, va_rf (some out)), (4, .int x4)]) hx hb dL_law_514 hl (by decide) (by first | rfl | (simp [xrf_cat, xcI, xcJ, xcA]; done) | (simp [xrf_cat, xcI, xcJ, xcA]; decide)) (fun ls hl => ?_)
    refine x_aload_n (o := (some m9)) hx hb dL_law_516 rfl (lv_at hl 3 rfl) ?_
    refine x_aload_n (o := (some b)) hx hb dL_law_517 rfl (lv_at hl 1 rfl) ?_
    refine lv_iload hx hb dL_law_518 (lv_at hl 5 rfl) ?_
    refine lv_iconst (v := 1) hx hb dL_law_520 (by decide) ?_
    refine lv_iadd hx hb dL_law_521 ?_
    refine va_sld hx hb hX hbl hbA hS hi1 dL_law_522 ?_
    refine x_aload_n (o := (some b)) hx hb dL_law_523 rfl (lv_at hl 1 rfl) ?_
    refine lv_iload hx hb dL_law_524 (lv_at hl 5 rfl) ?_
    refine lv_iconst (v := 2) hx hb dL_law_526 (by decide) ?_
    refine lv_iadd hx hb dL_law_527 ?_
    refine va_sld hx hb hX hbl hbA hS hi2 dL_law_528 ?_
    refine x_aload_n (o := (some b)) hx hb dL_law_529 rfl (lv_at hl 1 rfl) ?_
    refine lv_iload hx hb dL_law_530 (lv_at hl 5 rfl) ?_
    refine lv_iconst (v := 3) hx hb dL_law_532 (by decide) ?_
    refine lv_iadd hx hb dL_law_533 ?_
    refine va_sld hx hb hX hbl hbA hS hi3 dL_law_534 ?_
    refine x_callV (o := (some m9)) (ci := 11) (As := [.int (xs (x4 + 1).toNatClampNeg), .int (xs (x4 + 2).toNatClampNeg), .int (xs (x4 + 3).toNatClampNeg)]) (rest := []) (v := (some (.int r))) (k := 3) hx hb hml hown hts hR hS e2 rfl rfl (t_X11_span l D G h1 m9 (xs (x4 + 1).toNatClampNeg) (xs (x4 + 2).toNatClampNeg) (xs (x4 + 3).toNatClampNeg) r h2 e3) f_X11_span mm_1119 mm_1120 mm_1121 rfl hl.1 rfl (by first | exact Nat.le_of_ble_eq_true rfl | simp [xrf_cat, xcI, xcJ, xcA]) dL_law_535 (by decide) (by simp only [rm_L_span, rm_X11_span, room_1]; omega) rfl (fun H locs hR hS => ?_)
    refine lv_istore (lv' := [(6, .int r), (5, .int 0), (0, va_rf (some b)), (1, va_rf (some x)), (2, va_rf (some m9)), (3, va_rf (some out)), (4, .int x4)]) hx hb dL_law_538 hl (by decide) (by first | rfl | (simp [xrf_cat, xcI, xcJ, xcA]; done) | (simp [xrf_cat, xcI, xcJ, xcA]; decide)) (fun ls hl => ?_)
    refine x_aload_n (o := (some m9)) hx hb dL_law_540 rfl (lv_at hl 4 rfl) ?_
    refine x_callV (o := (some m9)) (ci := 11) (As := []) (rest := []) (v := (some (.int 0))) (k := 0) hx hb hml hown hts hR hS xct rfl rfl (t_X11_thrown l D G h2 m9 0 ethr) f_X11_thrown mm_1071 mm_1072 mm_1073 rfl hl.1 rfl (by first | exact Nat.le_of_ble_eq_true rfl | simp [xrf_cat, xcI, xcJ, xcA]) dL_law_541 (by decide) (by simp only [rm_L_span, rm_X11_span, rm_X11_thrown, room_1]; omega) rfl (fun H locs hR hS => ?_)
    refine lv_iload hx hb dL_law_544 (lv_at hl 1 rfl) ?_
    refine lv_icmp_eq (tgt := 551) hx hb dL_law_546 (by decide) (fun _ => ?_) (fun c9 => absurd rfl c9)
    refine lv_iload hx hb dL_law_551 (lv_at hl 1 rfl) ?_
    refine lv_if_ne (tgt := 568) hx hb dL_law_553 (by decide) (fun c9 => absurd c9 (by decide)) (fun _ => ?_)
    refine x_aload_n (o := (some out)) hx hb dL_law_556 rfl (lv_at hl 5 rfl) ?_
    refine lv_iconst (v := 0) hx hb dL_law_557 (by decide) ?_
    refine x_lld (o := (some out)) hx hb hR e6 dL_law_558 ?_
    refine lv_iload hx hb dL_law_559 (lv_at hl 0 rfl) ?_
    refine lv_i2l (v := r.toInt64) hx hb dL_law_561 rfl ?_
    refine W.lcmp hx hb dL_law_562 ?_
    refine lv_if_eq (tgt := 568) hx hb dL_law_563 (by decide) (fun _ => ?_) (fun c9 => absurd (lw_cmp _) c9)
    refine lv_goto (tgt := 1125) hx hb dL_law_568 (by decide) ?_
    obtain ⟨v4, ev4⟩ : ∃ z : Int32, z = x4 + 6 := ⟨_, rfl⟩
    refine lv_iinc (v := v4) (lv' := [(4, .int v4), (6, .int r), (5, .int 0), (0, va_rf (some b)), (1, va_rf (some x)), (2, va_rf (some m9)), (3, va_rf (some out))]) hx hb dL_law_1125 hl (k := 6) rfl (by rw [ev4]; rfl) (by decide) (by first | rfl | (simp [xrf_cat, xcI, xcJ, xcA]; done) | (simp [xrf_cat, xcI, xcJ, xcA]; decide)) (fun ls hl => ?_)
    refine lv_goto (tgt := 23) hx hb dL_law_1128 (by decide) ?_
    refine W.widen (k := 50 + 20 * (i + 1)) (n := 30000 + 2000 * (i + 1)) (by simp only [rm_L_span, rm_X11_span, rm_X11_thrown]; omega) (by simp only [rm_L_span, rm_X11_span, rm_X11_thrown]; omega) ?_
    exact ih (i + 1) h2 v4 (by omega) (by omega) (by rw [ev4, ex4]; exact nI_add (6 * i) 6) e4 _ _ _ hR hS (lv_sub hl [3, 4, 5, 6, 0] rfl)
  · obtain ⟨v, h2, e2, e3, xct, ethr, e4⟩ := eB hv z hz
    refine lv_istore (lv' := [(5, .int 1), (0, va_rf (some b)), (1, va_rf (some x)), (2, va_rf (some m9)), (3, va_rf (some out)), (4, .int x4)]) hx hb dL_law_514 hl (by decide) (by first | rfl | (simp [xrf_cat, xcI, xcJ, xcA]; done) | (simp [xrf_cat, xcI, xcJ, xcA]; decide)) (fun ls hl => ?_)
    refine x_aload_n (o := (some m9)) hx hb dL_law_516 rfl (lv_at hl 3 rfl) ?_
    refine x_aload_n (o := (some b)) hx hb dL_law_517 rfl (lv_at hl 1 rfl) ?_
    refine lv_iload hx hb dL_law_518 (lv_at hl 5 rfl) ?_
    refine lv_iconst (v := 1) hx hb dL_law_520 (by decide) ?_
    refine lv_iadd hx hb dL_law_521 ?_
    refine va_sld hx hb hX hbl hbA hS hi1 dL_law_522 ?_
    refine x_aload_n (o := (some b)) hx hb dL_law_523 rfl (lv_at hl 1 rfl) ?_
    refine lv_iload hx hb dL_law_524 (lv_at hl 5 rfl) ?_
    refine lv_iconst (v := 2) hx hb dL_law_526 (by decide) ?_
    refine lv_iadd hx hb dL_law_527 ?_
    refine va_sld hx hb hX hbl hbA hS hi2 dL_law_528 ?_
    refine x_aload_n (o := (some b)) hx hb dL_law_529 rfl (lv_at hl 1 rfl) ?_
    refine lv_iload hx hb dL_law_530 (lv_at hl 5 rfl) ?_
    refine lv_iconst (v := 3) hx hb dL_law_532 (by decide) ?_
    refine lv_iadd hx hb dL_law_533 ?_
    refine va_sld hx hb hX hbl hbA hS hi3 dL_law_534 ?_
    refine x_callV (o := (some m9)) (ci := 11) (As := [.int (xs (x4 + 1).toNatClampNeg), .int (xs (x4 + 2).toNatClampNeg), .int (xs (x4 + 3).toNatClampNeg)]) (rest := []) (v := (some (.int v))) (k := 3) hx hb hml hown hts hR hS e2 rfl rfl (t_X11_span l D G (z, h.2) m9 (xs (x4 + 1).toNatClampNeg) (xs (x4 + 2).toNatClampNeg) (xs (x4 + 3).toNatClampNeg) v h2 e3) f_X11_span mm_1119 mm_1120 mm_1121 rfl hl.1 rfl (by first | exact Nat.le_of_ble_eq_true rfl | simp [xrf_cat, xcI, xcJ, xcA]) dL_law_535 (by decide) (by simp only [rm_L_span, rm_X11_span, room_1]; omega) rfl (fun H locs hR hS => ?_)
    refine lv_istore (lv' := [(6, .int v), (5, .int 1), (0, va_rf (some b)), (1, va_rf (some x)), (2, va_rf (some m9)), (3, va_rf (some out)), (4, .int x4)]) hx hb dL_law_538 hl (by decide) (by first | rfl | (simp [xrf_cat, xcI, xcJ, xcA]; done) | (simp [xrf_cat, xcI, xcJ, xcA]; decide)) (fun ls hl => ?_)
    refine x_aload_n (o := (some m9)) hx hb dL_law_540 rfl (lv_at hl 4 rfl) ?_
    refine x_callV (o := (some m9)) (ci := 11) (As := []) (rest := []) (v := (some (.int 1))) (k := 0) hx hb hml hown hts hR hS xct rfl rfl (t_X11_thrown l D G h2 m9 1 ethr) f_X11_thrown mm_1071 mm_1072 mm_1073 rfl hl.1 rfl (by first | exact Nat.le_of_ble_eq_true rfl | simp [xrf_cat, xcI, xcJ, xcA]) dL_law_541 (by decide) (by simp only [rm_L_span, rm_X11_span, rm_X11_thrown, room_1]; omega) rfl (fun H locs hR hS => ?_)
    refine lv_iload hx hb dL_law_544 (lv_at hl 1 rfl) ?_
    refine lv_icmp_eq (tgt := 551) hx hb dL_law_546 (by decide) (fun _ => ?_) (fun c9 => absurd rfl c9)
    refine lv_iload hx hb dL_law_551 (lv_at hl 1 rfl) ?_
    refine lv_if_ne (tgt := 568) hx hb dL_law_553 (by decide) (fun _ => ?_) (fun c9 => absurd c9 (by decide))
    refine lv_goto (tgt := 1125) hx hb dL_law_568 (by decide) ?_
    obtain ⟨v4, ev4⟩ : ∃ z : Int32, z = x4 + 6 := ⟨_, rfl⟩
    refine lv_iinc (v := v4) (lv' := [(4, .int v4), (6, .int v), (5, .int 1), (0, va_rf (some b)), (1, va_rf (some x)), (2, va_rf (some m9)), (3, va_rf (some out))]) hx hb dL_law_1125 hl (k := 6) rfl (by rw [ev4]; rfl) (by decide) (by first | rfl | (simp [xrf_cat, xcI, xcJ, xcA]; done) | (simp [xrf_cat, xcI, xcJ, xcA]; decide)) (fun ls hl => ?_)
    refine lv_goto (tgt := 23) hx hb dL_law_1128 (by decide) ?_
    refine W.widen (k := 50 + 20 * (i + 1)) (n := 30000 + 2000 * (i + 1)) (by simp only [rm_L_span, rm_X11_span, rm_X11_thrown]; omega) (by simp only [rm_L_span, rm_X11_span, rm_X11_thrown]; omega) ?_
    exact ih (i + 1) h2 v4 (by omega) (by omega) (by rw [ev4, ex4]; exact nI_add (6 * i) 6) e4 _ _ _ hR hS (lv_sub hl [3, 4, 5, 6, 0] rfl)
set_option maxHeartbeats 4000000 in
set_option maxRecDepth 100000 in
theorem lc_broken {p : Program} {l : Launch} {e : Env} {s : State} {m : MethodId} {below : List Frame} {meth : Method} {c : Code} {b L : Nat} {xs : Nat → Int32} {D : va_G} {G : Nat → Nat} {J : Nat → xH → Prop} {x m9 out : Nat} (hlt : l.stackTraces = false) (hL : L ≤ 3072) (hx : p.tables.exec = Jvm.exec) (hb : c.code = code) (hr : meth.sig.returnType = ret) (hlk : meth.locks = false) (hml : c.maxLocals = 7) (hown : s.vm.findClass R_law = some m.cls) (hts : ∀ w ∈ xt, w.before #[Value.ref b] s = true) (hB : xB s) (hX : va_X b L xs s s.heap) (hbl : b < s.heap.size) (hG0 : G 0 = s.heap.size) (hJ : sJ J G x m9 out) {n : Nat} (ih : ∀ (i : Nat) (h : xH) (x4 : Int32), 6 * i ≤ L + 6 → L + 6 < 6 * i + n → x4 = nI (6 * i) → J i h → ∀ (H : Heap) (locs : List Loc) (ls : Array Slot), xR D G h s H → va_S (xA G) s.heap H locs → lv_has ls 7 [(0, va_rf (some b)), (1, va_rf (some x)), (2, va_rf (some m9)), (3, va_rf (some out)), (4, .int x4)] → W p l e room_1 s m #[Value.ref b] below meth c H locs (50 + 20 * i) (30000 + 2000 * i) (lw_Z below #[Value.ref b] s) (F0 m 23 ls [])) (i : Nat) (h : xH) (x4 : Int32) (hi : 6 * i + 6 ≤ L) (hn : L + 6 < 6 * i + (n + 1)) (ex4 : x4 = nI (6 * i)) (hj : J i h) (H : Heap) (locs : List Loc) (ls : Array Slot) (hR : xR D G h s H) (hS : va_S (xA G) s.heap H locs) (hl : lv_has ls 7 [(0, va_rf (some b)), (1, va_rf (some x)), (2, va_rf (some m9)), (3, va_rf (some out)), (4, .int x4)]) : W p l e room_1 s m #[Value.ref b] below meth c H locs (50 + 20 * i) (30000 + 2000 * i) (lw_Z below #[Value.ref b] s) (F0 m 571 ls []) := by
  have hbA : ¬ xA G b := by show ¬ G 0 ≤ b; omega
  have hi1 : vp_in (x4 + 1) L := lw_in (k := 1) x4 ex4 (by decide) (by omega) hL
  have hi2 : vp_in (x4 + 2) L := lw_in (k := 2) x4 ex4 (by decide) (by omega) hL
  have hi3 : vp_in (x4 + 3) L := lw_in (k := 3) x4 ex4 (by decide) (by omega) hL
  have hi4 : vp_in (x4 + 4) L := lw_in (k := 4) x4 ex4 (by decide) (by omega) hL
  have hi5 : vp_in (x4 + 5) L := lw_in (k := 5) x4 ex4 (by decide) (by omega) hL
  obtain ⟨r, h1, h2, e1, e2, e3, e4⟩ := hJ.2.2.2.2.2.2.2.2.2.1 i h hj (xs (x4 + 1).toNatClampNeg) (xs (x4 + 2).toNatClampNeg)
  refine x_aload_n (o := (some x)) hx hb dL_law_571 rfl (lv_at hl 1 rfl) ?_
  refine x_aload_n (o := (some b)) hx hb dL_law_572 rfl (lv_at hl 0 rfl) ?_
  refine lv_iload hx hb dL_law_573 (lv_at hl 4 rfl) ?_
  refine lv_iconst (v := 1) hx hb dL_law_575 (by decide) ?_
  refine lv_iadd hx hb dL_law_576 ?_
  refine va_sld hx hb hX hbl hbA hS hi1 dL_law_577 ?_
  refine x_aload_n (o := (some b)) hx hb dL_law_578 rfl (lv_at hl 0 rfl) ?_
  refine lv_iload hx hb dL_law_579 (lv_at hl 4 rfl) ?_
  refine lv_iconst (v := 2) hx hb dL_law_581 (by decide) ?_
  refine lv_iadd hx hb dL_law_582 ?_
  refine va_sld hx hb hX hbl hbA hS hi2 dL_law_583 ?_
  refine x_callV (o := (some x)) (ci := 10) (As := [.int (xs (x4 + 1).toNatClampNeg), .int (xs (x4 + 2).toNatClampNeg)]) (rest := []) (v := (some (.int r))) (k := 2) hx hb hml hown hts hR hS (hJ.1 i h hj) rfl rfl (t_X10_broken l D G h x (xs (x4 + 1).toNatClampNeg) (xs (x4 + 2).toNatClampNeg) r e1.1) f_X10_broken mm_479 mm_480 mm_481 rfl hl.1 rfl (by first | exact Nat.le_of_ble_eq_true rfl | simp [xrf_cat, xcI, xcJ, xcA]) dL_law_584 (by decide) (by simp only [rm_X10_broken, room_1]; omega) rfl (fun H locs hR hS => ?_)
  have hR : xR D G h1 s H := by rw [e1.2]; exact hR
  refine x_aload_n (o := (some m9)) hx hb dL_law_587 rfl (lv_at hl 2 rfl) ?_
  refine x_aload_n (o := (some b)) hx hb dL_law_588 rfl (lv_at hl 0 rfl) ?_
  refine lv_iload hx hb dL_law_589 (lv_at hl 4 rfl) ?_
  refine lv_iconst (v := 1) hx hb dL_law_591 (by decide) ?_
  refine lv_iadd hx hb dL_law_592 ?_
  refine va_sld hx hb hX hbl hbA hS hi1 dL_law_593 ?_
  refine x_aload_n (o := (some b)) hx hb dL_law_594 rfl (lv_at hl 0 rfl) ?_
  refine lv_iload hx hb dL_law_595 (lv_at hl 4 rfl) ?_
  refine lv_iconst (v := 2) hx hb dL_law_597 (by decide) ?_
  refine lv_iadd hx hb dL_law_598 ?_
  refine va_sld hx hb hX hbl hbA hS hi2 dL_law_599 ?_
  refine x_callV (o := (some m9)) (ci := 11) (As := [.int (xs (x4 + 1).toNatClampNeg), .int (xs (x4 + 2).toNatClampNeg)]) (rest := [.int r]) (v := (some (.int r))) (k := 2) hx hb hml hown hts hR hS e2 rfl rfl (t_X11_broken l D G h1 m9 (xs (x4 + 1).toNatClampNeg) (xs (x4 + 2).toNatClampNeg) r h2 e3) f_X11_broken mm_1152 mm_1153 mm_1154 rfl hl.1 rfl (by first | exact Nat.le_of_ble_eq_true rfl | simp [xrf_cat, xcI, xcJ, xcA]) dL_law_600 (by decide) (by simp only [rm_X10_broken, rm_X11_broken, room_1]; omega) rfl (fun H locs hR hS => ?_)
  refine lv_icmp_eq (tgt := 1125) hx hb dL_law_603 (by decide) (fun _ => ?_) (fun c9 => absurd rfl c9)
  obtain ⟨v4, ev4⟩ : ∃ z : Int32, z = x4 + 6 := ⟨_, rfl⟩
  refine lv_iinc (v := v4) (lv' := [(4, .int v4), (0, va_rf (some b)), (1, va_rf (some x)), (2, va_rf (some m9)), (3, va_rf (some out))]) hx hb dL_law_1125 hl (k := 4) rfl (by rw [ev4]; rfl) (by decide) (by first | rfl | (simp [xrf_cat, xcI, xcJ, xcA]; done) | (simp [xrf_cat, xcI, xcJ, xcA]; decide)) (fun ls hl => ?_)
  refine lv_goto (tgt := 23) hx hb dL_law_1128 (by decide) ?_
  refine W.widen (k := 50 + 20 * (i + 1)) (n := 30000 + 2000 * (i + 1)) (by simp only [rm_X10_broken, rm_X11_broken]; omega) (by simp only [rm_X10_broken, rm_X11_broken]; omega) ?_
  exact ih (i + 1) h2 v4 (by omega) (by omega) (by rw [ev4, ex4]; exact nI_add (6 * i) 6) e4 _ _ _ hR hS (lv_sub hl [1, 2, 3, 4, 0] rfl)
set_option maxHeartbeats 4000000 in
set_option maxRecDepth 100000 in
theorem lc_part {p : Program} {l : Launch} {e : Env} {s : State} {m : MethodId} {below : List Frame} {meth : Method} {c : Code} {b L : Nat} {xs : Nat → Int32} {D : va_G} {G : Nat → Nat} {J : Nat → xH → Prop} {x m9 out : Nat} (hlt : l.stackTraces = false) (hL : L ≤ 3072) (hx : p.tables.exec = Jvm.exec) (hb : c.code = code) (hr : meth.sig.returnType = ret) (hlk : meth.locks = false) (hml : c.maxLocals = 7) (hown : s.vm.findClass R_law = some m.cls) (hts : ∀ w ∈ xt, w.before #[Value.ref b] s = true) (hB : xB s) (hX : va_X b L xs s s.heap) (hbl : b < s.heap.size) (hG0 : G 0 = s.heap.size) (hJ : sJ J G x m9 out) {n : Nat} (ih : ∀ (i : Nat) (h : xH) (x4 : Int32), 6 * i ≤ L + 6 → L + 6 < 6 * i + n → x4 = nI (6 * i) → J i h → ∀ (H : Heap) (locs : List Loc) (ls : Array Slot), xR D G h s H → va_S (xA G) s.heap H locs → lv_has ls 7 [(0, va_rf (some b)), (1, va_rf (some x)), (2, va_rf (some m9)), (3, va_rf (some out)), (4, .int x4)] → W p l e room_1 s m #[Value.ref b] below meth c H locs (50 + 20 * i) (30000 + 2000 * i) (lw_Z below #[Value.ref b] s) (F0 m 23 ls [])) (i : Nat) (h : xH) (x4 : Int32) (hi : 6 * i + 6 ≤ L) (hn : L + 6 < 6 * i + (n + 1)) (ex4 : x4 = nI (6 * i)) (hj : J i h) (H : Heap) (locs : List Loc) (ls : Array Slot) (hR : xR D G h s H) (hS : va_S (xA G) s.heap H locs) (hl : lv_has ls 7 [(0, va_rf (some b)), (1, va_rf (some x)), (2, va_rf (some m9)), (3, va_rf (some out)), (4, .int x4)]) : W p l e room_1 s m #[Value.ref b] below meth c H locs (50 + 20 * i) (30000 + 2000 * i) (lw_Z below #[Value.ref b] s) (F0 m 608 ls []) := by
  have hbA : ¬ xA G b := by show ¬ G 0 ≤ b; omega
  have hi1 : vp_in (x4 + 1) L := lw_in (k := 1) x4 ex4 (by decide) (by omega) hL
  have hi2 : vp_in (x4 + 2) L := lw_in (k := 2) x4 ex4 (by decide) (by omega) hL
  have hi3 : vp_in (x4 + 3) L := lw_in (k := 3) x4 ex4 (by decide) (by omega) hL
  have hi4 : vp_in (x4 + 4) L := lw_in (k := 4) x4 ex4 (by decide) (by omega) hL
  have hi5 : vp_in (x4 + 5) L := lw_in (k := 5) x4 ex4 (by decide) (by omega) hL
  obtain ⟨r, h1, h2, e1, e2, e3, e4⟩ := hJ.2.2.2.2.2.2.2.2.2.2.1 i h hj (xs (x4 + 1).toNatClampNeg)
  refine x_aload_n (o := (some x)) hx hb dL_law_608 rfl (lv_at hl 1 rfl) ?_
  refine x_aload_n (o := (some b)) hx hb dL_law_609 rfl (lv_at hl 0 rfl) ?_
  refine lv_iload hx hb dL_law_610 (lv_at hl 4 rfl) ?_
  refine lv_iconst (v := 1) hx hb dL_law_612 (by decide) ?_
  refine lv_iadd hx hb dL_law_613 ?_
  refine va_sld hx hb hX hbl hbA hS hi1 dL_law_614 ?_
  refine x_callV (o := (some x)) (ci := 10) (As := [.int (xs (x4 + 1).toNatClampNeg)]) (rest := []) (v := (some (.int r))) (k := 1) hx hb hml hown hts hR hS (hJ.1 i h hj) rfl rfl (t_X10_part l D G h x (xs (x4 + 1).toNatClampNeg) r h1 e1) f_X10_part mm_525 mm_526 mm_527 rfl hl.1 rfl (by first | exact Nat.le_of_ble_eq_true rfl | simp [xrf_cat, xcI, xcJ, xcA]) dL_law_615 (by decide) (by simp only [rm_X10_part, room_1]; omega) rfl (fun H locs hR hS => ?_)
  refine x_aload_n (o := (some m9)) hx hb dL_law_618 rfl (lv_at hl 2 rfl) ?_
  refine x_aload_n (o := (some b)) hx hb dL_law_619 rfl (lv_at hl 0 rfl) ?_
  refine lv_iload hx hb dL_law_620 (lv_at hl 4 rfl) ?_
  refine lv_iconst (v := 1) hx hb dL_law_622 (by decide) ?_
  refine lv_iadd hx hb dL_law_623 ?_
  refine va_sld hx hb hX hbl hbA hS hi1 dL_law_624 ?_
  refine x_callV (o := (some m9)) (ci := 11) (As := [.int (xs (x4 + 1).toNatClampNeg)]) (rest := [.int r]) (v := (some (.int r))) (k := 1) hx hb hml hown hts hR hS e2 rfl rfl (t_X11_part l D G h1 m9 (xs (x4 + 1).toNatClampNeg) r h2 e3) f_X11_part mm_1156 mm_1157 mm_1158 rfl hl.1 rfl (by first | exact Nat.le_of_ble_eq_true rfl | simp [xrf_cat, xcI, xcJ, xcA]) dL_law_625 (by decide) (by simp only [rm_X10_part, rm_X11_part, room_1]; omega) rfl (fun H locs hR hS => ?_)
  refine lv_icmp_eq (tgt := 1125) hx hb dL_law_628 (by decide) (fun _ => ?_) (fun c9 => absurd rfl c9)
  obtain ⟨v4, ev4⟩ : ∃ z : Int32, z = x4 + 6 := ⟨_, rfl⟩
  refine lv_iinc (v := v4) (lv' := [(4, .int v4), (0, va_rf (some b)), (1, va_rf (some x)), (2, va_rf (some m9)), (3, va_rf (some out))]) hx hb dL_law_1125 hl (k := 4) rfl (by rw [ev4]; rfl) (by decide) (by first | rfl | (simp [xrf_cat, xcI, xcJ, xcA]; done) | (simp [xrf_cat, xcI, xcJ, xcA]; decide)) (fun ls hl => ?_)
  refine lv_goto (tgt := 23) hx hb dL_law_1128 (by decide) ?_
  refine W.widen (k := 50 + 20 * (i + 1)) (n := 30000 + 2000 * (i + 1)) (by simp only [rm_X10_part, rm_X11_part]; omega) (by simp only [rm_X10_part, rm_X11_part]; omega) ?_
  exact ih (i + 1) h2 v4 (by omega) (by omega) (by rw [ev4, ex4]; exact nI_add (6 * i) 6) e4 _ _ _ hR hS (lv_sub hl [1, 2, 3, 4, 0] rfl)
set_option maxHeartbeats 4000000 in
set_option maxRecDepth 100000 in
theorem lc_made {p : Program} {l : Launch} {e : Env} {s : State} {m : MethodId} {below : List Frame} {meth : Method} {c : Code} {b L : Nat} {xs : Nat → Int32} {D : va_G} {G : Nat → Nat} {J : Nat → xH → Prop} {x m9 out : Nat} (hlt : l.stackTraces = false) (hL : L ≤ 3072) (hx : p.tables.exec = Jvm.exec) (hb : c.code = code) (hr : meth.sig.returnType = ret) (hlk : meth.locks = false) (hml : c.maxLocals = 7) (hown : s.vm.findClass R_law = some m.cls) (hts : ∀ w ∈ xt, w.before #[Value.ref b] s = true) (hB : xB s) (hX : va_X b L xs s s.heap) (hbl : b < s.heap.size) (hG0 : G 0 = s.heap.size) (hJ : sJ J G x m9 out) {n : Nat} (ih : ∀ (i : Nat) (h : xH) (x4 : Int32), 6 * i ≤ L + 6 → L + 6 < 6 * i + n → x4 = nI (6 * i) → J i h → ∀ (H : Heap) (locs : List Loc) (ls : Array Slot), xR D G h s H → va_S (xA G) s.heap H locs → lv_has ls 7 [(0, va_rf (some b)), (1, va_rf (some x)), (2, va_rf (some m9)), (3, va_rf (some out)), (4, .int x4)] → W p l e room_1 s m #[Value.ref b] below meth c H locs (50 + 20 * i) (30000 + 2000 * i) (lw_Z below #[Value.ref b] s) (F0 m 23 ls [])) (i : Nat) (h : xH) (x4 : Int32) (hi : 6 * i + 6 ≤ L) (hn : L + 6 < 6 * i + (n + 1)) (ex4 : x4 = nI (6 * i)) (hj : J i h) (H : Heap) (locs : List Loc) (ls : Array Slot) (hR : xR D G h s H) (hS : va_S (xA G) s.heap H locs) (hl : lv_has ls 7 [(0, va_rf (some b)), (1, va_rf (some x)), (2, va_rf (some m9)), (3, va_rf (some out)), (4, .int x4)]) : W p l e room_1 s m #[Value.ref b] below meth c H locs (50 + 20 * i) (30000 + 2000 * i) (lw_Z below #[Value.ref b] s) (F0 m 633 ls []) := by
  have hbA : ¬ xA G b := by show ¬ G 0 ≤ b; omega
  have hi1 : vp_in (x4 + 1) L := lw_in (k := 1) x4 ex4 (by decide) (by omega) hL
  have hi2 : vp_in (x4 + 2) L := lw_in (k := 2) x4 ex4 (by decide) (by omega) hL
  have hi3 : vp_in (x4 + 3) L := lw_in (k := 3) x4 ex4 (by decide) (by omega) hL
  have hi4 : vp_in (x4 + 4) L := lw_in (k := 4) x4 ex4 (by decide) (by omega) hL
  have hi5 : vp_in (x4 + 5) L := lw_in (k := 5) x4 ex4 (by decide) (by omega) hL
  obtain ⟨r, h1, h2, e1, e2, e3, e4⟩ := hJ.2.2.2.2.2.2.2.2.2.2.2.1 i h hj (xs (x4 + 1).toNatClampNeg) (xs (x4 + 2).toNatClampNeg) (xs (x4 + 3).toNatClampNeg)
  refine x_aload_n (o := (some x)) hx hb dL_law_633 rfl (lv_at hl 1 rfl) ?_
  refine x_aload_n (o := (some b)) hx hb dL_law_634 rfl (lv_at hl 0 rfl) ?_
  refine lv_iload hx hb dL_law_635 (lv_at hl 4 rfl) ?_
  refine lv_iconst (v := 1) hx hb dL_law_637 (by decide) ?_
  refine lv_iadd hx hb dL_law_638 ?_
  refine va_sld hx hb hX hbl hbA hS hi1 dL_law_639 ?_
  refine x_aload_n (o := (some b)) hx hb dL_law_640 rfl (lv_at hl 0 rfl) ?_
  refine lv_iload hx hb dL_law_641 (lv_at hl 4 rfl) ?_
  refine lv_iconst (v := 2) hx hb dL_law_643 (by decide) ?_
  refine lv_iadd hx hb dL_law_644 ?_
  refine va_sld hx hb hX hbl hbA hS hi2 dL_law_645 ?_
  refine x_aload_n (o := (some b)) hx hb dL_law_646 rfl (lv_at hl 0 rfl) ?_
  refine lv_iload hx hb dL_law_647 (lv_at hl 4 rfl) ?_
  refine lv_iconst (v := 3) hx hb dL_law_649 (by decide) ?_
  refine lv_iadd hx hb dL_law_650 ?_
  refine va_sld hx hb hX hbl hbA hS hi3 dL_law_651 ?_
  refine x_callV (o := (some x)) (ci := 10) (As := [.int (xs (x4 + 1).toNatClampNeg), .int (xs (x4 + 2).toNatClampNeg), .int (xs (x4 + 3).toNatClampNeg)]) (rest := []) (v := (some (.int r))) (k := 3) hx hb hml hown hts hR hS (hJ.1 i h hj) rfl rfl (t_X10_made l D G h x (xs (x4 + 1).toNatClampNeg) (xs (x4 + 2).toNatClampNeg) (xs (x4 + 3).toNatClampNeg) r h1 e1) f_X10_made mm_534 mm_535 mm_536 rfl hl.1 rfl (by first | exact Nat.le_of_ble_eq_true rfl | simp [xrf_cat, xcI, xcJ, xcA]) dL_law_652 (by decide) (by simp only [rm_X10_made, room_1]; omega) rfl (fun H locs hR hS => ?_)
  refine x_aload_n (o := (some m9)) hx hb dL_law_655 rfl (lv_at hl 2 rfl) ?_
  refine x_aload_n (o := (some b)) hx hb dL_law_656 rfl (lv_at hl 0 rfl) ?_
  refine lv_iload hx hb dL_law_657 (lv_at hl 4 rfl) ?_
  refine lv_iconst (v := 1) hx hb dL_law_659 (by decide) ?_
  refine lv_iadd hx hb dL_law_660 ?_
  refine va_sld hx hb hX hbl hbA hS hi1 dL_law_661 ?_
  refine x_aload_n (o := (some b)) hx hb dL_law_662 rfl (lv_at hl 0 rfl) ?_
  refine lv_iload hx hb dL_law_663 (lv_at hl 4 rfl) ?_
  refine lv_iconst (v := 2) hx hb dL_law_665 (by decide) ?_
  refine lv_iadd hx hb dL_law_666 ?_
  refine va_sld hx hb hX hbl hbA hS hi2 dL_law_667 ?_
  refine x_aload_n (o := (some b)) hx hb dL_law_668 rfl (lv_at hl 0 rfl) ?_
  refine lv_iload hx hb dL_law_669 (lv_at hl 4 rfl) ?_
  refine lv_iconst (v := 3) hx hb dL_law_671 (by decide) ?_
  refine lv_iadd hx hb dL_law_672 ?_
  refine va_sld hx hb hX hbl hbA hS hi3 dL_law_673 ?_
  refine x_callV (o := (some m9)) (ci := 11) (As := [.int (xs (x4 + 1).toNatClampNeg), .int (xs (x4 + 2).toNatClampNeg), .int (xs (x4 + 3).toNatClampNeg)]) (rest := [.int r]) (v := (some (.int r))) (k := 3) hx hb hml hown hts hR hS e2 rfl rfl (t_X11_made l D G h1 m9 (xs (x4 + 1).toNatClampNeg) (xs (x4 + 2).toNatClampNeg) (xs (x4 + 3).toNatClampNeg) r h2 e3) f_X11_made mm_1161 mm_1162 mm_1163 rfl hl.1 rfl (by first | exact Nat.le_of_ble_eq_true rfl | simp [xrf_cat, xcI, xcJ, xcA]) dL_law_674 (by decide) (by simp only [rm_X10_made, rm_X11_made, room_1]; omega) rfl (fun H locs hR hS => ?_)
  refine lv_icmp_eq (tgt := 1125) hx hb dL_law_677 (by decide) (fun _ => ?_) (fun c9 => absurd rfl c9)
  obtain ⟨v4, ev4⟩ : ∃ z : Int32, z = x4 + 6 := ⟨_, rfl⟩
  refine lv_iinc (v := v4) (lv' := [(4, .int v4), (0, va_rf (some b)), (1, va_rf (some x)), (2, va_rf (some m9)), (3, va_rf (some out))]) hx hb dL_law_1125 hl (k := 4) rfl (by rw [ev4]; rfl) (by decide) (by first | rfl | (simp [xrf_cat, xcI, xcJ, xcA]; done) | (simp [xrf_cat, xcI, xcJ, xcA]; decide)) (fun ls hl => ?_)
  refine lv_goto (tgt := 23) hx hb dL_law_1128 (by decide) ?_
  refine W.widen (k := 50 + 20 * (i + 1)) (n := 30000 + 2000 * (i + 1)) (by simp only [rm_X10_made, rm_X11_made]; omega) (by simp only [rm_X10_made, rm_X11_made]; omega) ?_
  exact ih (i + 1) h2 v4 (by omega) (by omega) (by rw [ev4, ex4]; exact nI_add (6 * i) 6) e4 _ _ _ hR hS (lv_sub hl [1, 2, 3, 4, 0] rfl)
set_option maxHeartbeats 4000000 in
set_option maxRecDepth 100000 in
theorem lc_alarm {p : Program} {l : Launch} {e : Env} {s : State} {m : MethodId} {below : List Frame} {meth : Method} {c : Code} {b L : Nat} {xs : Nat → Int32} {D : va_G} {G : Nat → Nat} {J : Nat → xH → Prop} {x m9 out : Nat} (hlt : l.stackTraces = false) (hL : L ≤ 3072) (hx : p.tables.exec = Jvm.exec) (hb : c.code = code) (hr : meth.sig.returnType = ret) (hlk : meth.locks = false) (hml : c.maxLocals = 7) (hown : s.vm.findClass R_law = some m.cls) (hts : ∀ w ∈ xt, w.before #[Value.ref b] s = true) (hB : xB s) (hX : va_X b L xs s s.heap) (hbl : b < s.heap.size) (hG0 : G 0 = s.heap.size) (hJ : sJ J G x m9 out) {n : Nat} (ih : ∀ (i : Nat) (h : xH) (x4 : Int32), 6 * i ≤ L + 6 → L + 6 < 6 * i + n → x4 = nI (6 * i) → J i h → ∀ (H : Heap) (locs : List Loc) (ls : Array Slot), xR D G h s H → va_S (xA G) s.heap H locs → lv_has ls 7 [(0, va_rf (some b)), (1, va_rf (some x)), (2, va_rf (some m9)), (3, va_rf (some out)), (4, .int x4)] → W p l e room_1 s m #[Value.ref b] below meth c H locs (50 + 20 * i) (30000 + 2000 * i) (lw_Z below #[Value.ref b] s) (F0 m 23 ls [])) (i : Nat) (h : xH) (x4 : Int32) (hi : 6 * i + 6 ≤ L) (hn : L + 6 < 6 * i + (n + 1)) (ex4 : x4 = nI (6 * i)) (hj : J i h) (H : Heap) (locs : List Loc) (ls : Array Slot) (hR : xR D G h s H) (hS : va_S (xA G) s.heap H locs) (hl : lv_has ls 7 [(0, va_rf (some b)), (1, va_rf (some x)), (2, va_rf (some m9)), (3, va_rf (some out)), (4, .int x4)]) : W p l e room_1 s m #[Value.ref b] below meth c H locs (50 + 20 * i) (30000 + 2000 * i) (lw_Z below #[Value.ref b] s) (F0 m 682 ls []) := by
  have hbA : ¬ xA G b := by show ¬ G 0 ≤ b; omega
  have hi1 : vp_in (x4 + 1) L := lw_in (k := 1) x4 ex4 (by decide) (by omega) hL
  have hi2 : vp_in (x4 + 2) L := lw_in (k := 2) x4 ex4 (by decide) (by omega) hL
  have hi3 : vp_in (x4 + 3) L := lw_in (k := 3) x4 ex4 (by decide) (by omega) hL
  have hi4 : vp_in (x4 + 4) L := lw_in (k := 4) x4 ex4 (by decide) (by omega) hL
  have hi5 : vp_in (x4 + 5) L := lw_in (k := 5) x4 ex4 (by decide) (by omega) hL
  obtain ⟨r, h1, h2, e1, e2, e3, e4⟩ := hJ.2.2.2.2.2.2.2.2.2.2.2.2.1 i h hj (xs (x4 + 1).toNatClampNeg) (xs (x4 + 2).toNatClampNeg) (xs (x4 + 3).toNatClampNeg) (xs (x4 + 4).toNatClampNeg)
  refine x_aload_n (o := (some x)) hx hb dL_law_682 rfl (lv_at hl 1 rfl) ?_
  refine x_aload_n (o := (some b)) hx hb dL_law_683 rfl (lv_at hl 0 rfl) ?_
  refine lv_iload hx hb dL_law_684 (lv_at hl 4 rfl) ?_
  refine lv_iconst (v := 1) hx hb dL_law_686 (by decide) ?_
  refine lv_iadd hx hb dL_law_687 ?_
  refine va_sld hx hb hX hbl hbA hS hi1 dL_law_688 ?_
  refine x_aload_n (o := (some b)) hx hb dL_law_689 rfl (lv_at hl 0 rfl) ?_
  refine lv_iload hx hb dL_law_690 (lv_at hl 4 rfl) ?_
  refine lv_iconst (v := 2) hx hb dL_law_692 (by decide) ?_
  refine lv_iadd hx hb dL_law_693 ?_
  refine va_sld hx hb hX hbl hbA hS hi2 dL_law_694 ?_
  refine x_aload_n (o := (some b)) hx hb dL_law_695 rfl (lv_at hl 0 rfl) ?_
  refine lv_iload hx hb dL_law_696 (lv_at hl 4 rfl) ?_
  refine lv_iconst (v := 3) hx hb dL_law_698 (by decide) ?_
  refine lv_iadd hx hb dL_law_699 ?_
  refine va_sld hx hb hX hbl hbA hS hi3 dL_law_700 ?_
  refine x_aload_n (o := (some b)) hx hb dL_law_701 rfl (lv_at hl 0 rfl) ?_
  refine lv_iload hx hb dL_law_702 (lv_at hl 4 rfl) ?_
  refine lv_iconst (v := 4) hx hb dL_law_704 (by decide) ?_
  refine lv_iadd hx hb dL_law_705 ?_
  refine va_sld hx hb hX hbl hbA hS hi4 dL_law_706 ?_
  refine x_callV (o := (some x)) (ci := 10) (As := [.int (xs (x4 + 1).toNatClampNeg), .int (xs (x4 + 2).toNatClampNeg), .int (xs (x4 + 3).toNatClampNeg), .int (xs (x4 + 4).toNatClampNeg)]) (rest := []) (v := (some (.int r))) (k := 4) hx hb hml hown hts hR hS (hJ.1 i h hj) rfl rfl (t_X10_alarm l D G h x (xs (x4 + 1).toNatClampNeg) (xs (x4 + 2).toNatClampNeg) (xs (x4 + 3).toNatClampNeg) (xs (x4 + 4).toNatClampNeg) r h1 e1) f_X10_alarm mm_568 mm_569 mm_570 rfl hl.1 rfl (by first | exact Nat.le_of_ble_eq_true rfl | simp [xrf_cat, xcI, xcJ, xcA]) dL_law_707 (by decide) (by simp only [rm_X10_alarm, room_1]; omega) rfl (fun H locs hR hS => ?_)
  refine x_aload_n (o := (some m9)) hx hb dL_law_710 rfl (lv_at hl 2 rfl) ?_
  refine x_aload_n (o := (some b)) hx hb dL_law_711 rfl (lv_at hl 0 rfl) ?_
  refine lv_iload hx hb dL_law_712 (lv_at hl 4 rfl) ?_
  refine lv_iconst (v := 1) hx hb dL_law_714 (by decide) ?_
  refine lv_iadd hx hb dL_law_715 ?_
  refine va_sld hx hb hX hbl hbA hS hi1 dL_law_716 ?_
  refine x_aload_n (o := (some b)) hx hb dL_law_717 rfl (lv_at hl 0 rfl) ?_
  refine lv_iload hx hb dL_law_718 (lv_at hl 4 rfl) ?_
  refine lv_iconst (v := 2) hx hb dL_law_720 (by decide) ?_
  refine lv_iadd hx hb dL_law_721 ?_
  refine va_sld hx hb hX hbl hbA hS hi2 dL_law_722 ?_
  refine x_aload_n (o := (some b)) hx hb dL_law_723 rfl (lv_at hl 0 rfl) ?_
  refine lv_iload hx hb dL_law_724 (lv_at hl 4 rfl) ?_
  refine lv_iconst (v := 3) hx hb dL_law_726 (by decide) ?_
  refine lv_iadd hx hb dL_law_727 ?_
  refine va_sld hx hb hX hbl hbA hS hi3 dL_law_728 ?_
  refine x_aload_n (o := (some b)) hx hb dL_law_729 rfl (lv_at hl 0 rfl) ?_
  refine lv_iload hx hb dL_law_730 (lv_at hl 4 rfl) ?_
  refine lv_iconst (v := 4) hx hb dL_law_732 (by decide) ?_
  refine lv_iadd hx hb dL_law_733 ?_
  refine va_sld hx hb hX hbl hbA hS hi4 dL_law_734 ?_
  refine x_callV (o := (some m9)) (ci := 11) (As := [.int (xs (x4 + 1).toNatClampNeg), .int (xs (x4 + 2).toNatClampNeg), .int (xs (x4 + 3).toNatClampNeg), .int (xs (x4 + 4).toNatClampNeg)]) (rest := [.int r]) (v := (some (.int r))) (k := 4) hx hb hml hown hts hR hS e2 rfl rfl (t_X11_alarm l D G h1 m9 (xs (x4 + 1).toNatClampNeg) (xs (x4 + 2).toNatClampNeg) (xs (x4 + 3).toNatClampNeg) (xs (x4 + 4).toNatClampNeg) r h2 e3) f_X11_alarm mm_1169 mm_1170 mm_1171 rfl hl.1 rfl (by first | exact Nat.le_of_ble_eq_true rfl | simp [xrf_cat, xcI, xcJ, xcA]) dL_law_735 (by decide) (by simp only [rm_X10_alarm, rm_X11_alarm, room_1]; omega) rfl (fun H locs hR hS => ?_)
  refine lv_icmp_eq (tgt := 1125) hx hb dL_law_738 (by decide) (fun _ => ?_) (fun c9 => absurd rfl c9)
  obtain ⟨v4, ev4⟩ : ∃ z : Int32, z = x4 + 6 := ⟨_, rfl⟩
  refine lv_iinc (v := v4) (lv' := [(4, .int v4), (0, va_rf (some b)), (1, va_rf (some x)), (2, va_rf (some m9)), (3, va_rf (some out))]) hx hb dL_law_1125 hl (k := 4) rfl (by rw [ev4]; rfl) (by decide) (by first | rfl | (simp [xrf_cat, xcI, xcJ, xcA]; done) | (simp [xrf_cat, xcI, xcJ, xcA]; decide)) (fun ls hl => ?_)
  refine lv_goto (tgt := 23) hx hb dL_law_1128 (by decide) ?_
  refine W.widen (k := 50 + 20 * (i + 1)) (n := 30000 + 2000 * (i + 1)) (by simp only [rm_X10_alarm, rm_X11_alarm]; omega) (by simp only [rm_X10_alarm, rm_X11_alarm]; omega) ?_
  exact ih (i + 1) h2 v4 (by omega) (by omega) (by rw [ev4, ex4]; exact nI_add (6 * i) 6) e4 _ _ _ hR hS (lv_sub hl [1, 2, 3, 4, 0] rfl)
set_option maxHeartbeats 4000000 in
set_option maxRecDepth 100000 in
theorem lc_rings {p : Program} {l : Launch} {e : Env} {s : State} {m : MethodId} {below : List Frame} {meth : Method} {c : Code} {b L : Nat} {xs : Nat → Int32} {D : va_G} {G : Nat → Nat} {J : Nat → xH → Prop} {x m9 out : Nat} (hlt : l.stackTraces = false) (hL : L ≤ 3072) (hx : p.tables.exec = Jvm.exec) (hb : c.code = code) (hr : meth.sig.returnType = ret) (hlk : meth.locks = false) (hml : c.maxLocals = 7) (hown : s.vm.findClass R_law = some m.cls) (hts : ∀ w ∈ xt, w.before #[Value.ref b] s = true) (hB : xB s) (hX : va_X b L xs s s.heap) (hbl : b < s.heap.size) (hG0 : G 0 = s.heap.size) (hJ : sJ J G x m9 out) {n : Nat} (ih : ∀ (i : Nat) (h : xH) (x4 : Int32), 6 * i ≤ L + 6 → L + 6 < 6 * i + n → x4 = nI (6 * i) → J i h → ∀ (H : Heap) (locs : List Loc) (ls : Array Slot), xR D G h s H → va_S (xA G) s.heap H locs → lv_has ls 7 [(0, va_rf (some b)), (1, va_rf (some x)), (2, va_rf (some m9)), (3, va_rf (some out)), (4, .int x4)] → W p l e room_1 s m #[Value.ref b] below meth c H locs (50 + 20 * i) (30000 + 2000 * i) (lw_Z below #[Value.ref b] s) (F0 m 23 ls [])) (i : Nat) (h : xH) (x4 : Int32) (hi : 6 * i + 6 ≤ L) (hn : L + 6 < 6 * i + (n + 1)) (ex4 : x4 = nI (6 * i)) (hj : J i h) (H : Heap) (locs : List Loc) (ls : Array Slot) (hR : xR D G h s H) (hS : va_S (xA G) s.heap H locs) (hl : lv_has ls 7 [(0, va_rf (some b)), (1, va_rf (some x)), (2, va_rf (some m9)), (3, va_rf (some out)), (4, .int x4)]) : W p l e room_1 s m #[Value.ref b] below meth c H locs (50 + 20 * i) (30000 + 2000 * i) (lw_Z below #[Value.ref b] s) (F0 m 743 ls []) := by
  have hbA : ¬ xA G b := by show ¬ G 0 ≤ b; omega
  have hi1 : vp_in (x4 + 1) L := lw_in (k := 1) x4 ex4 (by decide) (by omega) hL
  have hi2 : vp_in (x4 + 2) L := lw_in (k := 2) x4 ex4 (by decide) (by omega) hL
  have hi3 : vp_in (x4 + 3) L := lw_in (k := 3) x4 ex4 (by decide) (by omega) hL
  have hi4 : vp_in (x4 + 4) L := lw_in (k := 4) x4 ex4 (by decide) (by omega) hL
  have hi5 : vp_in (x4 + 5) L := lw_in (k := 5) x4 ex4 (by decide) (by omega) hL
  obtain ⟨r, h1, h2, e1, e2, e3, e4⟩ := hJ.2.2.2.2.2.2.2.2.2.2.2.2.2.1 i h hj (xs (x4 + 1).toNatClampNeg) (xs (x4 + 2).toNatClampNeg)
  refine x_aload_n (o := (some x)) hx hb dL_law_743 rfl (lv_at hl 1 rfl) ?_
  refine x_aload_n (o := (some b)) hx hb dL_law_744 rfl (lv_at hl 0 rfl) ?_
  refine lv_iload hx hb dL_law_745 (lv_at hl 4 rfl) ?_
  refine lv_iconst (v := 1) hx hb dL_law_747 (by decide) ?_
  refine lv_iadd hx hb dL_law_748 ?_
  refine va_sld hx hb hX hbl hbA hS hi1 dL_law_749 ?_
  refine x_aload_n (o := (some b)) hx hb dL_law_750 rfl (lv_at hl 0 rfl) ?_
  refine lv_iload hx hb dL_law_751 (lv_at hl 4 rfl) ?_
  refine lv_iconst (v := 2) hx hb dL_law_753 (by decide) ?_
  refine lv_iadd hx hb dL_law_754 ?_
  refine va_sld hx hb hX hbl hbA hS hi2 dL_law_755 ?_
  refine x_callV (o := (some x)) (ci := 10) (As := [.int (xs (x4 + 1).toNatClampNeg), .int (xs (x4 + 2).toNatClampNeg)]) (rest := []) (v := (some (.int r))) (k := 2) hx hb hml hown hts hR hS (hJ.1 i h hj) rfl rfl (t_X10_rings l D G h x (xs (x4 + 1).toNatClampNeg) (xs (x4 + 2).toNatClampNeg) r e1.1) f_X10_rings mm_592 mm_593 mm_594 rfl hl.1 rfl (by first | exact Nat.le_of_ble_eq_true rfl | simp [xrf_cat, xcI, xcJ, xcA]) dL_law_756 (by decide) (by simp only [rm_X10_rings, room_1]; omega) rfl (fun H locs hR hS => ?_)
  have hR : xR D G h1 s H := by rw [e1.2]; exact hR
  refine x_aload_n (o := (some m9)) hx hb dL_law_759 rfl (lv_at hl 2 rfl) ?_
  refine x_aload_n (o := (some b)) hx hb dL_law_760 rfl (lv_at hl 0 rfl) ?_
  refine lv_iload hx hb dL_law_761 (lv_at hl 4 rfl) ?_
  refine lv_iconst (v := 1) hx hb dL_law_763 (by decide) ?_
  refine lv_iadd hx hb dL_law_764 ?_
  refine va_sld hx hb hX hbl hbA hS hi1 dL_law_765 ?_
  refine x_aload_n (o := (some b)) hx hb dL_law_766 rfl (lv_at hl 0 rfl) ?_
  refine lv_iload hx hb dL_law_767 (lv_at hl 4 rfl) ?_
  refine lv_iconst (v := 2) hx hb dL_law_769 (by decide) ?_
  refine lv_iadd hx hb dL_law_770 ?_
  refine va_sld hx hb hX hbl hbA hS hi2 dL_law_771 ?_
  refine x_callV (o := (some m9)) (ci := 11) (As := [.int (xs (x4 + 1).toNatClampNeg), .int (xs (x4 + 2).toNatClampNeg)]) (rest := [.int r]) (v := (some (.int r))) (k := 2) hx hb hml hown hts hR hS e2 rfl rfl (t_X11_rings l D G h1 m9 (xs (x4 + 1).toNatClampNeg) (xs (x4 + 2).toNatClampNeg) r h2 e3) f_X11_rings mm_1173 mm_1174 mm_1175 rfl hl.1 rfl (by first | exact Nat.le_of_ble_eq_true rfl | simp [xrf_cat, xcI, xcJ, xcA]) dL_law_772 (by decide) (by simp only [rm_X10_rings, rm_X11_rings, room_1]; omega) rfl (fun H locs hR hS => ?_)
  refine lv_icmp_eq (tgt := 1125) hx hb dL_law_775 (by decide) (fun _ => ?_) (fun c9 => absurd rfl c9)
  obtain ⟨v4, ev4⟩ : ∃ z : Int32, z = x4 + 6 := ⟨_, rfl⟩
  refine lv_iinc (v := v4) (lv' := [(4, .int v4), (0, va_rf (some b)), (1, va_rf (some x)), (2, va_rf (some m9)), (3, va_rf (some out))]) hx hb dL_law_1125 hl (k := 4) rfl (by rw [ev4]; rfl) (by decide) (by first | rfl | (simp [xrf_cat, xcI, xcJ, xcA]; done) | (simp [xrf_cat, xcI, xcJ, xcA]; decide)) (fun ls hl => ?_)
  refine lv_goto (tgt := 23) hx hb dL_law_1128 (by decide) ?_
  refine W.widen (k := 50 + 20 * (i + 1)) (n := 30000 + 2000 * (i + 1)) (by simp only [rm_X10_rings, rm_X11_rings]; omega) (by simp only [rm_X10_rings, rm_X11_rings]; omega) ?_
  exact ih (i + 1) h2 v4 (by omega) (by omega) (by rw [ev4, ex4]; exact nI_add (6 * i) 6) e4 _ _ _ hR hS (lv_sub hl [1, 2, 3, 4, 0] rfl)
set_option maxHeartbeats 4000000 in
set_option maxRecDepth 100000 in
theorem lc_soonest {p : Program} {l : Launch} {e : Env} {s : State} {m : MethodId} {below : List Frame} {meth : Method} {c : Code} {b L : Nat} {xs : Nat → Int32} {D : va_G} {G : Nat → Nat} {J : Nat → xH → Prop} {x m9 out : Nat} (hlt : l.stackTraces = false) (hL : L ≤ 3072) (hx : p.tables.exec = Jvm.exec) (hb : c.code = code) (hr : meth.sig.returnType = ret) (hlk : meth.locks = false) (hml : c.maxLocals = 7) (hown : s.vm.findClass R_law = some m.cls) (hts : ∀ w ∈ xt, w.before #[Value.ref b] s = true) (hB : xB s) (hX : va_X b L xs s s.heap) (hbl : b < s.heap.size) (hG0 : G 0 = s.heap.size) (hJ : sJ J G x m9 out) {n : Nat} (ih : ∀ (i : Nat) (h : xH) (x4 : Int32), 6 * i ≤ L + 6 → L + 6 < 6 * i + n → x4 = nI (6 * i) → J i h → ∀ (H : Heap) (locs : List Loc) (ls : Array Slot), xR D G h s H → va_S (xA G) s.heap H locs → lv_has ls 7 [(0, va_rf (some b)), (1, va_rf (some x)), (2, va_rf (some m9)), (3, va_rf (some out)), (4, .int x4)] → W p l e room_1 s m #[Value.ref b] below meth c H locs (50 + 20 * i) (30000 + 2000 * i) (lw_Z below #[Value.ref b] s) (F0 m 23 ls [])) (i : Nat) (h : xH) (x4 : Int32) (hi : 6 * i + 6 ≤ L) (hn : L + 6 < 6 * i + (n + 1)) (ex4 : x4 = nI (6 * i)) (hj : J i h) (H : Heap) (locs : List Loc) (ls : Array Slot) (hR : xR D G h s H) (hS : va_S (xA G) s.heap H locs) (hl : lv_has ls 7 [(0, va_rf (some b)), (1, va_rf (some x)), (2, va_rf (some m9)), (3, va_rf (some out)), (4, .int x4)]) : W p l e room_1 s m #[Value.ref b] below meth c H locs (50 + 20 * i) (30000 + 2000 * i) (lw_Z below #[Value.ref b] s) (F0 m 780 ls []) := by
  have hbA : ¬ xA G b := by show ¬ G 0 ≤ b; omega
  have hi1 : vp_in (x4 + 1) L := lw_in (k := 1) x4 ex4 (by decide) (by omega) hL
  have hi2 : vp_in (x4 + 2) L := lw_in (k := 2) x4 ex4 (by decide) (by omega) hL
  have hi3 : vp_in (x4 + 3) L := lw_in (k := 3) x4 ex4 (by decide) (by omega) hL
  have hi4 : vp_in (x4 + 4) L := lw_in (k := 4) x4 ex4 (by decide) (by omega) hL
  have hi5 : vp_in (x4 + 5) L := lw_in (k := 5) x4 ex4 (by decide) (by omega) hL
  obtain ⟨r, h1, h2, e1, e2, e3, e4⟩ := hJ.2.2.2.2.2.2.2.2.2.2.2.2.2.2.1 i h hj (xs (x4 + 1).toNatClampNeg) (xs (x4 + 2).toNatClampNeg) (xs (x4 + 3).toNatClampNeg) (xs (x4 + 4).toNatClampNeg)
  refine x_aload_n (o := (some x)) hx hb dL_law_780 rfl (lv_at hl 1 rfl) ?_
  refine x_aload_n (o := (some b)) hx hb dL_law_781 rfl (lv_at hl 0 rfl) ?_
  refine lv_iload hx hb dL_law_782 (lv_at hl 4 rfl) ?_
  refine lv_iconst (v := 1) hx hb dL_law_784 (by decide) ?_
  refine lv_iadd hx hb dL_law_785 ?_
  refine va_sld hx hb hX hbl hbA hS hi1 dL_law_786 ?_
  refine x_aload_n (o := (some b)) hx hb dL_law_787 rfl (lv_at hl 0 rfl) ?_
  refine lv_iload hx hb dL_law_788 (lv_at hl 4 rfl) ?_
  refine lv_iconst (v := 2) hx hb dL_law_790 (by decide) ?_
  refine lv_iadd hx hb dL_law_791 ?_
  refine va_sld hx hb hX hbl hbA hS hi2 dL_law_792 ?_
  refine x_aload_n (o := (some b)) hx hb dL_law_793 rfl (lv_at hl 0 rfl) ?_
  refine lv_iload hx hb dL_law_794 (lv_at hl 4 rfl) ?_
  refine lv_iconst (v := 3) hx hb dL_law_796 (by decide) ?_
  refine lv_iadd hx hb dL_law_797 ?_
  refine va_sld hx hb hX hbl hbA hS hi3 dL_law_798 ?_
  refine x_aload_n (o := (some b)) hx hb dL_law_799 rfl (lv_at hl 0 rfl) ?_
  refine lv_iload hx hb dL_law_800 (lv_at hl 4 rfl) ?_
  refine lv_iconst (v := 4) hx hb dL_law_802 (by decide) ?_
  refine lv_iadd hx hb dL_law_803 ?_
  refine va_sld hx hb hX hbl hbA hS hi4 dL_law_804 ?_
  refine x_callV (o := (some x)) (ci := 10) (As := [.int (xs (x4 + 1).toNatClampNeg), .int (xs (x4 + 2).toNatClampNeg), .int (xs (x4 + 3).toNatClampNeg), .int (xs (x4 + 4).toNatClampNeg)]) (rest := []) (v := (some (.int r))) (k := 4) hx hb hml hown hts hR hS (hJ.1 i h hj) rfl rfl (t_X10_soonest l D G h x (xs (x4 + 1).toNatClampNeg) (xs (x4 + 2).toNatClampNeg) (xs (x4 + 3).toNatClampNeg) (xs (x4 + 4).toNatClampNeg) r h1 e1) f_X10_soonest mm_637 mm_638 mm_639 rfl hl.1 rfl (by first | exact Nat.le_of_ble_eq_true rfl | simp [xrf_cat, xcI, xcJ, xcA]) dL_law_805 (by decide) (by simp only [rm_X10_soonest, room_1]; omega) rfl (fun H locs hR hS => ?_)
  refine x_aload_n (o := (some m9)) hx hb dL_law_808 rfl (lv_at hl 2 rfl) ?_
  refine x_aload_n (o := (some b)) hx hb dL_law_809 rfl (lv_at hl 0 rfl) ?_
  refine lv_iload hx hb dL_law_810 (lv_at hl 4 rfl) ?_
  refine lv_iconst (v := 1) hx hb dL_law_812 (by decide) ?_
  refine lv_iadd hx hb dL_law_813 ?_
  refine va_sld hx hb hX hbl hbA hS hi1 dL_law_814 ?_
  refine x_aload_n (o := (some b)) hx hb dL_law_815 rfl (lv_at hl 0 rfl) ?_
  refine lv_iload hx hb dL_law_816 (lv_at hl 4 rfl) ?_
  refine lv_iconst (v := 2) hx hb dL_law_818 (by decide) ?_
  refine lv_iadd hx hb dL_law_819 ?_
  refine va_sld hx hb hX hbl hbA hS hi2 dL_law_820 ?_
  refine x_aload_n (o := (some b)) hx hb dL_law_821 rfl (lv_at hl 0 rfl) ?_
  refine lv_iload hx hb dL_law_822 (lv_at hl 4 rfl) ?_
  refine lv_iconst (v := 3) hx hb dL_law_824 (by decide) ?_
  refine lv_iadd hx hb dL_law_825 ?_
  refine va_sld hx hb hX hbl hbA hS hi3 dL_law_826 ?_
  refine x_aload_n (o := (some b)) hx hb dL_law_827 rfl (lv_at hl 0 rfl) ?_
  refine lv_iload hx hb dL_law_828 (lv_at hl 4 rfl) ?_
  refine lv_iconst (v := 4) hx hb dL_law_830 (by decide) ?_
  refine lv_iadd hx hb dL_law_831 ?_
  refine va_sld hx hb hX hbl hbA hS hi4 dL_law_832 ?_
  refine x_callV (o := (some m9)) (ci := 11) (As := [.int (xs (x4 + 1).toNatClampNeg), .int (xs (x4 + 2).toNatClampNeg), .int (xs (x4 + 3).toNatClampNeg), .int (xs (x4 + 4).toNatClampNeg)]) (rest := [.int r]) (v := (some (.int r))) (k := 4) hx hb hml hown hts hR hS e2 rfl rfl (t_X11_soonest l D G h1 m9 (xs (x4 + 1).toNatClampNeg) (xs (x4 + 2).toNatClampNeg) (xs (x4 + 3).toNatClampNeg) (xs (x4 + 4).toNatClampNeg) r h2 e3) f_X11_soonest mm_1190 mm_1191 mm_1192 rfl hl.1 rfl (by first | exact Nat.le_of_ble_eq_true rfl | simp [xrf_cat, xcI, xcJ, xcA]) dL_law_833 (by decide) (by simp only [rm_X10_soonest, rm_X11_soonest, room_1]; omega) rfl (fun H locs hR hS => ?_)
  refine lv_icmp_eq (tgt := 1125) hx hb dL_law_836 (by decide) (fun _ => ?_) (fun c9 => absurd rfl c9)
  obtain ⟨v4, ev4⟩ : ∃ z : Int32, z = x4 + 6 := ⟨_, rfl⟩
  refine lv_iinc (v := v4) (lv' := [(4, .int v4), (0, va_rf (some b)), (1, va_rf (some x)), (2, va_rf (some m9)), (3, va_rf (some out))]) hx hb dL_law_1125 hl (k := 4) rfl (by rw [ev4]; rfl) (by decide) (by first | rfl | (simp [xrf_cat, xcI, xcJ, xcA]; done) | (simp [xrf_cat, xcI, xcJ, xcA]; decide)) (fun ls hl => ?_)
  refine lv_goto (tgt := 23) hx hb dL_law_1128 (by decide) ?_
  refine W.widen (k := 50 + 20 * (i + 1)) (n := 30000 + 2000 * (i + 1)) (by simp only [rm_X10_soonest, rm_X11_soonest]; omega) (by simp only [rm_X10_soonest, rm_X11_soonest]; omega) ?_
  exact ih (i + 1) h2 v4 (by omega) (by omega) (by rw [ev4, ex4]; exact nI_add (6 * i) 6) e4 _ _ _ hR hS (lv_sub hl [1, 2, 3, 4, 0] rfl)
set_option maxHeartbeats 4000000 in
set_option maxRecDepth 100000 in
theorem lc_best {p : Program} {l : Launch} {e : Env} {s : State} {m : MethodId} {below : List Frame} {meth : Method} {c : Code} {b L : Nat} {xs : Nat → Int32} {D : va_G} {G : Nat → Nat} {J : Nat → xH → Prop} {x m9 out : Nat} (hlt : l.stackTraces = false) (hL : L ≤ 3072) (hx : p.tables.exec = Jvm.exec) (hb : c.code = code) (hr : meth.sig.returnType = ret) (hlk : meth.locks = false) (hml : c.maxLocals = 7) (hown : s.vm.findClass R_law = some m.cls) (hts : ∀ w ∈ xt, w.before #[Value.ref b] s = true) (hB : xB s) (hX : va_X b L xs s s.heap) (hbl : b < s.heap.size) (hG0 : G 0 = s.heap.size) (hJ : sJ J G x m9 out) {n : Nat} (ih : ∀ (i : Nat) (h : xH) (x4 : Int32), 6 * i ≤ L + 6 → L + 6 < 6 * i + n → x4 = nI (6 * i) → J i h → ∀ (H : Heap) (locs : List Loc) (ls : Array Slot), xR D G h s H → va_S (xA G) s.heap H locs → lv_has ls 7 [(0, va_rf (some b)), (1, va_rf (some x)), (2, va_rf (some m9)), (3, va_rf (some out)), (4, .int x4)] → W p l e room_1 s m #[Value.ref b] below meth c H locs (50 + 20 * i) (30000 + 2000 * i) (lw_Z below #[Value.ref b] s) (F0 m 23 ls [])) (i : Nat) (h : xH) (x4 : Int32) (hi : 6 * i + 6 ≤ L) (hn : L + 6 < 6 * i + (n + 1)) (ex4 : x4 = nI (6 * i)) (hj : J i h) (H : Heap) (locs : List Loc) (ls : Array Slot) (hR : xR D G h s H) (hS : va_S (xA G) s.heap H locs) (hl : lv_has ls 7 [(0, va_rf (some b)), (1, va_rf (some x)), (2, va_rf (some m9)), (3, va_rf (some out)), (4, .int x4)]) : W p l e room_1 s m #[Value.ref b] below meth c H locs (50 + 20 * i) (30000 + 2000 * i) (lw_Z below #[Value.ref b] s) (F0 m 841 ls []) := by
  have hbA : ¬ xA G b := by show ¬ G 0 ≤ b; omega
  have hi1 : vp_in (x4 + 1) L := lw_in (k := 1) x4 ex4 (by decide) (by omega) hL
  have hi2 : vp_in (x4 + 2) L := lw_in (k := 2) x4 ex4 (by decide) (by omega) hL
  have hi3 : vp_in (x4 + 3) L := lw_in (k := 3) x4 ex4 (by decide) (by omega) hL
  have hi4 : vp_in (x4 + 4) L := lw_in (k := 4) x4 ex4 (by decide) (by omega) hL
  have hi5 : vp_in (x4 + 5) L := lw_in (k := 5) x4 ex4 (by decide) (by omega) hL
  obtain ⟨r, h1, h2, e1, e2, e3, e4⟩ := hJ.2.2.2.2.2.2.2.2.2.2.2.2.2.2.2.1 i h hj (xs (x4 + 1).toNatClampNeg) (xs (x4 + 2).toNatClampNeg) (xs (x4 + 3).toNatClampNeg) (xs (x4 + 4).toNatClampNeg)
  refine x_aload_n (o := (some x)) hx hb dL_law_841 rfl (lv_at hl 1 rfl) ?_
  refine x_aload_n (o := (some b)) hx hb dL_law_842 rfl (lv_at hl 0 rfl) ?_
  refine lv_iload hx hb dL_law_843 (lv_at hl 4 rfl) ?_
  refine lv_iconst (v := 1) hx hb dL_law_845 (by decide) ?_
  refine lv_iadd hx hb dL_law_846 ?_
  refine va_sld hx hb hX hbl hbA hS hi1 dL_law_847 ?_
  refine x_aload_n (o := (some b)) hx hb dL_law_848 rfl (lv_at hl 0 rfl) ?_
  refine lv_iload hx hb dL_law_849 (lv_at hl 4 rfl) ?_
  refine lv_iconst (v := 2) hx hb dL_law_851 (by decide) ?_
  refine lv_iadd hx hb dL_law_852 ?_
  refine va_sld hx hb hX hbl hbA hS hi2 dL_law_853 ?_
  refine x_aload_n (o := (some b)) hx hb dL_law_854 rfl (lv_at hl 0 rfl) ?_
  refine lv_iload hx hb dL_law_855 (lv_at hl 4 rfl) ?_
  refine lv_iconst (v := 3) hx hb dL_law_857 (by decide) ?_
  refine lv_iadd hx hb dL_law_858 ?_
  refine va_sld hx hb hX hbl hbA hS hi3 dL_law_859 ?_
  refine x_aload_n (o := (some b)) hx hb dL_law_860 rfl (lv_at hl 0 rfl) ?_
  refine lv_iload hx hb dL_law_861 (lv_at hl 4 rfl) ?_
  refine lv_iconst (v := 4) hx hb dL_law_863 (by decide) ?_
  refine lv_iadd hx hb dL_law_864 ?_
  refine va_sld hx hb hX hbl hbA hS hi4 dL_law_865 ?_
  refine x_callV (o := (some x)) (ci := 10) (As := [.int (xs (x4 + 1).toNatClampNeg), .int (xs (x4 + 2).toNatClampNeg), .int (xs (x4 + 3).toNatClampNeg), .int (xs (x4 + 4).toNatClampNeg)]) (rest := []) (v := (some (.int r))) (k := 4) hx hb hml hown hts hR hS (hJ.1 i h hj) rfl rfl (t_X10_best l D G h x (xs (x4 + 1).toNatClampNeg) (xs (x4 + 2).toNatClampNeg) (xs (x4 + 3).toNatClampNeg) (xs (x4 + 4).toNatClampNeg) r h1 e1) f_X10_best mm_659 mm_660 mm_661 rfl hl.1 rfl (by first | exact Nat.le_of_ble_eq_true rfl | simp [xrf_cat, xcI, xcJ, xcA]) dL_law_866 (by decide) (by simp only [rm_X10_best, room_1]; omega) rfl (fun H locs hR hS => ?_)
  refine x_aload_n (o := (some m9)) hx hb dL_law_869 rfl (lv_at hl 2 rfl) ?_
  refine x_aload_n (o := (some b)) hx hb dL_law_870 rfl (lv_at hl 0 rfl) ?_
  refine lv_iload hx hb dL_law_871 (lv_at hl 4 rfl) ?_
  refine lv_iconst (v := 1) hx hb dL_law_873 (by decide) ?_
  refine lv_iadd hx hb dL_law_874 ?_
  refine va_sld hx hb hX hbl hbA hS hi1 dL_law_875 ?_
  refine x_aload_n (o := (some b)) hx hb dL_law_876 rfl (lv_at hl 0 rfl) ?_
  refine lv_iload hx hb dL_law_877 (lv_at hl 4 rfl) ?_
  refine lv_iconst (v := 2) hx hb dL_law_879 (by decide) ?_
  refine lv_iadd hx hb dL_law_880 ?_
  refine va_sld hx hb hX hbl hbA hS hi2 dL_law_881 ?_
  refine x_aload_n (o := (some b)) hx hb dL_law_882 rfl (lv_at hl 0 rfl) ?_
  refine lv_iload hx hb dL_law_883 (lv_at hl 4 rfl) ?_
  refine lv_iconst (v := 3) hx hb dL_law_885 (by decide) ?_
  refine lv_iadd hx hb dL_law_886 ?_
  refine va_sld hx hb hX hbl hbA hS hi3 dL_law_887 ?_
  refine x_aload_n (o := (some b)) hx hb dL_law_888 rfl (lv_at hl 0 rfl) ?_
  refine lv_iload hx hb dL_law_889 (lv_at hl 4 rfl) ?_
  refine lv_iconst (v := 4) hx hb dL_law_891 (by decide) ?_
  refine lv_iadd hx hb dL_law_892 ?_
  refine va_sld hx hb hX hbl hbA hS hi4 dL_law_893 ?_
  refine x_callV (o := (some m9)) (ci := 11) (As := [.int (xs (x4 + 1).toNatClampNeg), .int (xs (x4 + 2).toNatClampNeg), .int (xs (x4 + 3).toNatClampNeg), .int (xs (x4 + 4).toNatClampNeg)]) (rest := [.int r]) (v := (some (.int r))) (k := 4) hx hb hml hown hts hR hS e2 rfl rfl (t_X11_best l D G h1 m9 (xs (x4 + 1).toNatClampNeg) (xs (x4 + 2).toNatClampNeg) (xs (x4 + 3).toNatClampNeg) (xs (x4 + 4).toNatClampNeg) r h2 e3) f_X11_best mm_1203 mm_1204 mm_1205 rfl hl.1 rfl (by first | exact Nat.le_of_ble_eq_true rfl | simp [xrf_cat, xcI, xcJ, xcA]) dL_law_894 (by decide) (by simp only [rm_X10_best, rm_X11_best, room_1]; omega) rfl (fun H locs hR hS => ?_)
  refine lv_icmp_eq (tgt := 1125) hx hb dL_law_897 (by decide) (fun _ => ?_) (fun c9 => absurd rfl c9)
  obtain ⟨v4, ev4⟩ : ∃ z : Int32, z = x4 + 6 := ⟨_, rfl⟩
  refine lv_iinc (v := v4) (lv' := [(4, .int v4), (0, va_rf (some b)), (1, va_rf (some x)), (2, va_rf (some m9)), (3, va_rf (some out))]) hx hb dL_law_1125 hl (k := 4) rfl (by rw [ev4]; rfl) (by decide) (by first | rfl | (simp [xrf_cat, xcI, xcJ, xcA]; done) | (simp [xrf_cat, xcI, xcJ, xcA]; decide)) (fun ls hl => ?_)
  refine lv_goto (tgt := 23) hx hb dL_law_1128 (by decide) ?_
  refine W.widen (k := 50 + 20 * (i + 1)) (n := 30000 + 2000 * (i + 1)) (by simp only [rm_X10_best, rm_X11_best]; omega) (by simp only [rm_X10_best, rm_X11_best]; omega) ?_
  exact ih (i + 1) h2 v4 (by omega) (by omega) (by rw [ev4, ex4]; exact nI_add (6 * i) 6) e4 _ _ _ hR hS (lv_sub hl [1, 2, 3, 4, 0] rfl)
set_option maxHeartbeats 4000000 in
set_option maxRecDepth 100000 in
theorem lc_change {p : Program} {l : Launch} {e : Env} {s : State} {m : MethodId} {below : List Frame} {meth : Method} {c : Code} {b L : Nat} {xs : Nat → Int32} {D : va_G} {G : Nat → Nat} {J : Nat → xH → Prop} {x m9 out : Nat} (hlt : l.stackTraces = false) (hL : L ≤ 3072) (hx : p.tables.exec = Jvm.exec) (hb : c.code = code) (hr : meth.sig.returnType = ret) (hlk : meth.locks = false) (hml : c.maxLocals = 7) (hown : s.vm.findClass R_law = some m.cls) (hts : ∀ w ∈ xt, w.before #[Value.ref b] s = true) (hB : xB s) (hX : va_X b L xs s s.heap) (hbl : b < s.heap.size) (hG0 : G 0 = s.heap.size) (hJ : sJ J G x m9 out) {n : Nat} (ih : ∀ (i : Nat) (h : xH) (x4 : Int32), 6 * i ≤ L + 6 → L + 6 < 6 * i + n → x4 = nI (6 * i) → J i h → ∀ (H : Heap) (locs : List Loc) (ls : Array Slot), xR D G h s H → va_S (xA G) s.heap H locs → lv_has ls 7 [(0, va_rf (some b)), (1, va_rf (some x)), (2, va_rf (some m9)), (3, va_rf (some out)), (4, .int x4)] → W p l e room_1 s m #[Value.ref b] below meth c H locs (50 + 20 * i) (30000 + 2000 * i) (lw_Z below #[Value.ref b] s) (F0 m 23 ls [])) (i : Nat) (h : xH) (x4 : Int32) (hi : 6 * i + 6 ≤ L) (hn : L + 6 < 6 * i + (n + 1)) (ex4 : x4 = nI (6 * i)) (hj : J i h) (H : Heap) (locs : List Loc) (ls : Array Slot) (hR : xR D G h s H) (hS : va_S (xA G) s.heap H locs) (hl : lv_has ls 7 [(0, va_rf (some b)), (1, va_rf (some x)), (2, va_rf (some m9)), (3, va_rf (some out)), (4, .int x4)]) : W p l e room_1 s m #[Value.ref b] below meth c H locs (50 + 20 * i) (30000 + 2000 * i) (lw_Z below #[Value.ref b] s) (F0 m 902 ls []) := by
  have hbA : ¬ xA G b := by show ¬ G 0 ≤ b; omega
  have hi1 : vp_in (x4 + 1) L := lw_in (k := 1) x4 ex4 (by decide) (by omega) hL
  have hi2 : vp_in (x4 + 2) L := lw_in (k := 2) x4 ex4 (by decide) (by omega) hL
  have hi3 : vp_in (x4 + 3) L := lw_in (k := 3) x4 ex4 (by decide) (by omega) hL
  have hi4 : vp_in (x4 + 4) L := lw_in (k := 4) x4 ex4 (by decide) (by omega) hL
  have hi5 : vp_in (x4 + 5) L := lw_in (k := 5) x4 ex4 (by decide) (by omega) hL
  obtain ⟨r, h1, h2, e1, e2, e3, e4⟩ := hJ.2.2.2.2.2.2.2.2.2.2.2.2.2.2.2.2.1 i h hj (xs (x4 + 1).toNatClampNeg) (xs (x4 + 2).toNatClampNeg) (xs (x4 + 3).toNatClampNeg)
  refine x_aload_n (o := (some x)) hx hb dL_law_902 rfl (lv_at hl 1 rfl) ?_
  refine x_aload_n (o := (some b)) hx hb dL_law_903 rfl (lv_at hl 0 rfl) ?_
  refine lv_iload hx hb dL_law_904 (lv_at hl 4 rfl) ?_
  refine lv_iconst (v := 1) hx hb dL_law_906 (by decide) ?_
  refine lv_iadd hx hb dL_law_907 ?_
  refine va_sld hx hb hX hbl hbA hS hi1 dL_law_908 ?_
  refine x_aload_n (o := (some b)) hx hb dL_law_909 rfl (lv_at hl 0 rfl) ?_
  refine lv_iload hx hb dL_law_910 (lv_at hl 4 rfl) ?_
  refine lv_iconst (v := 2) hx hb dL_law_912 (by decide) ?_
  refine lv_iadd hx hb dL_law_913 ?_
  refine va_sld hx hb hX hbl hbA hS hi2 dL_law_914 ?_
  refine x_aload_n (o := (some b)) hx hb dL_law_915 rfl (lv_at hl 0 rfl) ?_
  refine lv_iload hx hb dL_law_916 (lv_at hl 4 rfl) ?_
  refine lv_iconst (v := 3) hx hb dL_law_918 (by decide) ?_
  refine lv_iadd hx hb dL_law_919 ?_
  refine va_sld hx hb hX hbl hbA hS hi3 dL_law_920 ?_
  refine x_callV (o := (some x)) (ci := 10) (As := [.int (xs (x4 + 1).toNatClampNeg), .int (xs (x4 + 2).toNatClampNeg), .int (xs (x4 + 3).toNatClampNeg)]) (rest := []) (v := (some (.int r))) (k := 3) hx hb hml hown hts hR hS (hJ.1 i h hj) rfl rfl (t_X10_change l D G h x (xs (x4 + 1).toNatClampNeg) (xs (x4 + 2).toNatClampNeg) (xs (x4 + 3).toNatClampNeg) r h1 e1) f_X10_change mm_714 mm_715 mm_716 rfl hl.1 rfl (by first | exact Nat.le_of_ble_eq_true rfl | simp [xrf_cat, xcI, xcJ, xcA]) dL_law_921 (by decide) (by simp only [rm_X10_change, room_1]; omega) rfl (fun H locs hR hS => ?_)
  refine x_aload_n (o := (some m9)) hx hb dL_law_924 rfl (lv_at hl 2 rfl) ?_
  refine x_aload_n (o := (some b)) hx hb dL_law_925 rfl (lv_at hl 0 rfl) ?_
  refine lv_iload hx hb dL_law_926 (lv_at hl 4 rfl) ?_
  refine lv_iconst (v := 1) hx hb dL_law_928 (by decide) ?_
  refine lv_iadd hx hb dL_law_929 ?_
  refine va_sld hx hb hX hbl hbA hS hi1 dL_law_930 ?_
  refine x_aload_n (o := (some b)) hx hb dL_law_931 rfl (lv_at hl 0 rfl) ?_
  refine lv_iload hx hb dL_law_932 (lv_at hl 4 rfl) ?_
  refine lv_iconst (v := 2) hx hb dL_law_934 (by decide) ?_
  refine lv_iadd hx hb dL_law_935 ?_
  refine va_sld hx hb hX hbl hbA hS hi2 dL_law_936 ?_
  refine x_aload_n (o := (some b)) hx hb dL_law_937 rfl (lv_at hl 0 rfl) ?_
  refine lv_iload hx hb dL_law_938 (lv_at hl 4 rfl) ?_
  refine lv_iconst (v := 3) hx hb dL_law_940 (by decide) ?_
  refine lv_iadd hx hb dL_law_941 ?_
  refine va_sld hx hb hX hbl hbA hS hi3 dL_law_942 ?_
  refine x_callV (o := (some m9)) (ci := 11) (As := [.int (xs (x4 + 1).toNatClampNeg), .int (xs (x4 + 2).toNatClampNeg), .int (xs (x4 + 3).toNatClampNeg)]) (rest := [.int r]) (v := (some (.int r))) (k := 3) hx hb hml hown hts hR hS e2 rfl rfl (t_X11_change l D G h1 m9 (xs (x4 + 1).toNatClampNeg) (xs (x4 + 2).toNatClampNeg) (xs (x4 + 3).toNatClampNeg) r h2 e3) f_X11_change mm_1220 mm_1221 mm_1222 rfl hl.1 rfl (by first | exact Nat.le_of_ble_eq_true rfl | simp [xrf_cat, xcI, xcJ, xcA]) dL_law_943 (by decide) (by simp only [rm_X10_change, rm_X11_change, room_1]; omega) rfl (fun H locs hR hS => ?_)
  refine lv_icmp_eq (tgt := 1125) hx hb dL_law_946 (by decide) (fun _ => ?_) (fun c9 => absurd rfl c9)
  obtain ⟨v4, ev4⟩ : ∃ z : Int32, z = x4 + 6 := ⟨_, rfl⟩
  refine lv_iinc (v := v4) (lv' := [(4, .int v4), (0, va_rf (some b)), (1, va_rf (some x)), (2, va_rf (some m9)), (3, va_rf (some out))]) hx hb dL_law_1125 hl (k := 4) rfl (by rw [ev4]; rfl) (by decide) (by first | rfl | (simp [xrf_cat, xcI, xcJ, xcA]; done) | (simp [xrf_cat, xcI, xcJ, xcA]; decide)) (fun ls hl => ?_)
  refine lv_goto (tgt := 23) hx hb dL_law_1128 (by decide) ?_
  refine W.widen (k := 50 + 20 * (i + 1)) (n := 30000 + 2000 * (i + 1)) (by simp only [rm_X10_change, rm_X11_change]; omega) (by simp only [rm_X10_change, rm_X11_change]; omega) ?_
  exact ih (i + 1) h2 v4 (by omega) (by omega) (by rw [ev4, ex4]; exact nI_add (6 * i) 6) e4 _ _ _ hR hS (lv_sub hl [1, 2, 3, 4, 0] rfl)
set_option maxHeartbeats 4000000 in
set_option maxRecDepth 100000 in
theorem lc_let {p : Program} {l : Launch} {e : Env} {s : State} {m : MethodId} {below : List Frame} {meth : Method} {c : Code} {b L : Nat} {xs : Nat → Int32} {D : va_G} {G : Nat → Nat} {J : Nat → xH → Prop} {x m9 out : Nat} (hlt : l.stackTraces = false) (hL : L ≤ 3072) (hx : p.tables.exec = Jvm.exec) (hb : c.code = code) (hr : meth.sig.returnType = ret) (hlk : meth.locks = false) (hml : c.maxLocals = 7) (hown : s.vm.findClass R_law = some m.cls) (hts : ∀ w ∈ xt, w.before #[Value.ref b] s = true) (hB : xB s) (hX : va_X b L xs s s.heap) (hbl : b < s.heap.size) (hG0 : G 0 = s.heap.size) (hJ : sJ J G x m9 out) {n : Nat} (ih : ∀ (i : Nat) (h : xH) (x4 : Int32), 6 * i ≤ L + 6 → L + 6 < 6 * i + n → x4 = nI (6 * i) → J i h → ∀ (H : Heap) (locs : List Loc) (ls : Array Slot), xR D G h s H → va_S (xA G) s.heap H locs → lv_has ls 7 [(0, va_rf (some b)), (1, va_rf (some x)), (2, va_rf (some m9)), (3, va_rf (some out)), (4, .int x4)] → W p l e room_1 s m #[Value.ref b] below meth c H locs (50 + 20 * i) (30000 + 2000 * i) (lw_Z below #[Value.ref b] s) (F0 m 23 ls [])) (i : Nat) (h : xH) (x4 : Int32) (hi : 6 * i + 6 ≤ L) (hn : L + 6 < 6 * i + (n + 1)) (ex4 : x4 = nI (6 * i)) (hj : J i h) (H : Heap) (locs : List Loc) (ls : Array Slot) (hR : xR D G h s H) (hS : va_S (xA G) s.heap H locs) (hl : lv_has ls 7 [(0, va_rf (some b)), (1, va_rf (some x)), (2, va_rf (some m9)), (3, va_rf (some out)), (4, .int x4)]) : W p l e room_1 s m #[Value.ref b] below meth c H locs (50 + 20 * i) (30000 + 2000 * i) (lw_Z below #[Value.ref b] s) (F0 m 951 ls []) := by
  have hbA : ¬ xA G b := by show ¬ G 0 ≤ b; omega
  have hi1 : vp_in (x4 + 1) L := lw_in (k := 1) x4 ex4 (by decide) (by omega) hL
  have hi2 : vp_in (x4 + 2) L := lw_in (k := 2) x4 ex4 (by decide) (by omega) hL
  have hi3 : vp_in (x4 + 3) L := lw_in (k := 3) x4 ex4 (by decide) (by omega) hL
  have hi4 : vp_in (x4 + 4) L := lw_in (k := 4) x4 ex4 (by decide) (by omega) hL
  have hi5 : vp_in (x4 + 5) L := lw_in (k := 5) x4 ex4 (by decide) (by omega) hL
  obtain ⟨r, h1, h2, e1, e2, e3, e4⟩ := hJ.2.2.2.2.2.2.2.2.2.2.2.2.2.2.2.2.2.1 i h hj (xs (x4 + 1).toNatClampNeg)
  refine x_aload_n (o := (some x)) hx hb dL_law_951 rfl (lv_at hl 1 rfl) ?_
  refine x_aload_n (o := (some b)) hx hb dL_law_952 rfl (lv_at hl 0 rfl) ?_
  refine lv_iload hx hb dL_law_953 (lv_at hl 4 rfl) ?_
  refine lv_iconst (v := 1) hx hb dL_law_955 (by decide) ?_
  refine lv_iadd hx hb dL_law_956 ?_
  refine va_sld hx hb hX hbl hbA hS hi1 dL_law_957 ?_
  refine x_callV (o := (some x)) (ci := 10) (As := [.int (xs (x4 + 1).toNatClampNeg)]) (rest := []) (v := (some (.int r))) (k := 1) hx hb hml hown hts hR hS (hJ.1 i h hj) rfl rfl (t_X10_let l D G h x (xs (x4 + 1).toNatClampNeg) r h1 e1) f_X10_let mm_744 mm_745 mm_746 rfl hl.1 rfl (by first | exact Nat.le_of_ble_eq_true rfl | simp [xrf_cat, xcI, xcJ, xcA]) dL_law_958 (by decide) (by simp only [rm_X10_let, room_1]; omega) rfl (fun H locs hR hS => ?_)
  refine x_aload_n (o := (some m9)) hx hb dL_law_961 rfl (lv_at hl 2 rfl) ?_
  refine x_aload_n (o := (some b)) hx hb dL_law_962 rfl (lv_at hl 0 rfl) ?_
  refine lv_iload hx hb dL_law_963 (lv_at hl 4 rfl) ?_
  refine lv_iconst (v := 1) hx hb dL_law_965 (by decide) ?_
  refine lv_iadd hx hb dL_law_966 ?_
  refine va_sld hx hb hX hbl hbA hS hi1 dL_law_967 ?_
  refine x_callV (o := (some m9)) (ci := 11) (As := [.int (xs (x4 + 1).toNatClampNeg)]) (rest := [.int r]) (v := (some (.int r))) (k := 1) hx hb hml hown hts hR hS e2 rfl rfl (t_X11_let l D G h1 m9 (xs (x4 + 1).toNatClampNeg) r h2 e3) f_X11_let mm_1224 mm_1225 mm_1226 rfl hl.1 rfl (by first | exact Nat.le_of_ble_eq_true rfl | simp [xrf_cat, xcI, xcJ, xcA]) dL_law_968 (by decide) (by simp only [rm_X10_let, rm_X11_let, room_1]; omega) rfl (fun H locs hR hS => ?_)
  refine lv_icmp_eq (tgt := 1125) hx hb dL_law_971 (by decide) (fun _ => ?_) (fun c9 => absurd rfl c9)
  obtain ⟨v4, ev4⟩ : ∃ z : Int32, z = x4 + 6 := ⟨_, rfl⟩
  refine lv_iinc (v := v4) (lv' := [(4, .int v4), (0, va_rf (some b)), (1, va_rf (some x)), (2, va_rf (some m9)), (3, va_rf (some out))]) hx hb dL_law_1125 hl (k := 4) rfl (by rw [ev4]; rfl) (by decide) (by first | rfl | (simp [xrf_cat, xcI, xcJ, xcA]; done) | (simp [xrf_cat, xcI, xcJ, xcA]; decide)) (fun ls hl => ?_)
  refine lv_goto (tgt := 23) hx hb dL_law_1128 (by decide) ?_
  refine W.widen (k := 50 + 20 * (i + 1)) (n := 30000 + 2000 * (i + 1)) (by simp only [rm_X10_let, rm_X11_let]; omega) (by simp only [rm_X10_let, rm_X11_let]; omega) ?_
  exact ih (i + 1) h2 v4 (by omega) (by omega) (by rw [ev4, ex4]; exact nI_add (6 * i) 6) e4 _ _ _ hR hS (lv_sub hl [1, 2, 3, 4, 0] rfl)
set_option maxHeartbeats 4000000 in
set_option maxRecDepth 100000 in
theorem lc_settle {p : Program} {l : Launch} {e : Env} {s : State} {m : MethodId} {below : List Frame} {meth : Method} {c : Code} {b L : Nat} {xs : Nat → Int32} {D : va_G} {G : Nat → Nat} {J : Nat → xH → Prop} {x m9 out : Nat} (hlt : l.stackTraces = false) (hL : L ≤ 3072) (hx : p.tables.exec = Jvm.exec) (hb : c.code = code) (hr : meth.sig.returnType = ret) (hlk : meth.locks = false) (hml : c.maxLocals = 7) (hown : s.vm.findClass R_law = some m.cls) (hts : ∀ w ∈ xt, w.before #[Value.ref b] s = true) (hB : xB s) (hX : va_X b L xs s s.heap) (hbl : b < s.heap.size) (hG0 : G 0 = s.heap.size) (hJ : sJ J G x m9 out) {n : Nat} (ih : ∀ (i : Nat) (h : xH) (x4 : Int32), 6 * i ≤ L + 6 → L + 6 < 6 * i + n → x4 = nI (6 * i) → J i h → ∀ (H : Heap) (locs : List Loc) (ls : Array Slot), xR D G h s H → va_S (xA G) s.heap H locs → lv_has ls 7 [(0, va_rf (some b)), (1, va_rf (some x)), (2, va_rf (some m9)), (3, va_rf (some out)), (4, .int x4)] → W p l e room_1 s m #[Value.ref b] below meth c H locs (50 + 20 * i) (30000 + 2000 * i) (lw_Z below #[Value.ref b] s) (F0 m 23 ls [])) (i : Nat) (h : xH) (x4 : Int32) (hi : 6 * i + 6 ≤ L) (hn : L + 6 < 6 * i + (n + 1)) (ex4 : x4 = nI (6 * i)) (hj : J i h) (H : Heap) (locs : List Loc) (ls : Array Slot) (hR : xR D G h s H) (hS : va_S (xA G) s.heap H locs) (hl : lv_has ls 7 [(0, va_rf (some b)), (1, va_rf (some x)), (2, va_rf (some m9)), (3, va_rf (some out)), (4, .int x4)]) : W p l e room_1 s m #[Value.ref b] below meth c H locs (50 + 20 * i) (30000 + 2000 * i) (lw_Z below #[Value.ref b] s) (F0 m 976 ls []) := by
  have hbA : ¬ xA G b := by show ¬ G 0 ≤ b; omega
  have hi1 : vp_in (x4 + 1) L := lw_in (k := 1) x4 ex4 (by decide) (by omega) hL
  have hi2 : vp_in (x4 + 2) L := lw_in (k := 2) x4 ex4 (by decide) (by omega) hL
  have hi3 : vp_in (x4 + 3) L := lw_in (k := 3) x4 ex4 (by decide) (by omega) hL
  have hi4 : vp_in (x4 + 4) L := lw_in (k := 4) x4 ex4 (by decide) (by omega) hL
  have hi5 : vp_in (x4 + 5) L := lw_in (k := 5) x4 ex4 (by decide) (by omega) hL
  obtain ⟨r, h1, h2, e1, e2, e3, e4⟩ := hJ.2.2.2.2.2.2.2.2.2.2.2.2.2.2.2.2.2.2.1 i h hj (xs (x4 + 1).toNatClampNeg) (xs (x4 + 2).toNatClampNeg)
  refine x_aload_n (o := (some x)) hx hb dL_law_976 rfl (lv_at hl 1 rfl) ?_
  refine x_aload_n (o := (some b)) hx hb dL_law_977 rfl (lv_at hl 0 rfl) ?_
  refine lv_iload hx hb dL_law_978 (lv_at hl 4 rfl) ?_
  refine lv_iconst (v := 1) hx hb dL_law_980 (by decide) ?_
  refine lv_iadd hx hb dL_law_981 ?_
  refine va_sld hx hb hX hbl hbA hS hi1 dL_law_982 ?_
  refine x_aload_n (o := (some b)) hx hb dL_law_983 rfl (lv_at hl 0 rfl) ?_
  refine lv_iload hx hb dL_law_984 (lv_at hl 4 rfl) ?_
  refine lv_iconst (v := 2) hx hb dL_law_986 (by decide) ?_
  refine lv_iadd hx hb dL_law_987 ?_
  refine va_sld hx hb hX hbl hbA hS hi2 dL_law_988 ?_
  refine x_callV (o := (some x)) (ci := 10) (As := [.int (xs (x4 + 1).toNatClampNeg), .int (xs (x4 + 2).toNatClampNeg)]) (rest := []) (v := (some (.int r))) (k := 2) hx hb hml hown hts hR hS (hJ.1 i h hj) rfl rfl (t_X10_settle l D G h x (xs (x4 + 1).toNatClampNeg) (xs (x4 + 2).toNatClampNeg) r h1 e1) f_X10_settle mm_773 mm_774 mm_775 rfl hl.1 rfl (by first | exact Nat.le_of_ble_eq_true rfl | simp [xrf_cat, xcI, xcJ, xcA]) dL_law_989 (by decide) (by simp only [rm_X10_settle, room_1]; omega) rfl (fun H locs hR hS => ?_)
  refine x_aload_n (o := (some m9)) hx hb dL_law_992 rfl (lv_at hl 2 rfl) ?_
  refine x_aload_n (o := (some b)) hx hb dL_law_993 rfl (lv_at hl 0 rfl) ?_
  refine lv_iload hx hb dL_law_994 (lv_at hl 4 rfl) ?_
  refine lv_iconst (v := 1) hx hb dL_law_996 (by decide) ?_
  refine lv_iadd hx hb dL_law_997 ?_
  refine va_sld hx hb hX hbl hbA hS hi1 dL_law_998 ?_
  refine x_aload_n (o := (some b)) hx hb dL_law_999 rfl (lv_at hl 0 rfl) ?_
  refine lv_iload hx hb dL_law_1000 (lv_at hl 4 rfl) ?_
  refine lv_iconst (v := 2) hx hb dL_law_1002 (by decide) ?_
  refine lv_iadd hx hb dL_law_1003 ?_
  refine va_sld hx hb hX hbl hbA hS hi2 dL_law_1004 ?_
  refine x_callV (o := (some m9)) (ci := 11) (As := [.int (xs (x4 + 1).toNatClampNeg), .int (xs (x4 + 2).toNatClampNeg)]) (rest := [.int r]) (v := (some (.int r))) (k := 2) hx hb hml hown hts hR hS e2 rfl rfl (t_X11_settle l D G h1 m9 (xs (x4 + 1).toNatClampNeg) (xs (x4 + 2).toNatClampNeg) r h2 e3) f_X11_settle mm_1236 mm_1237 mm_1238 rfl hl.1 rfl (by first | exact Nat.le_of_ble_eq_true rfl | simp [xrf_cat, xcI, xcJ, xcA]) dL_law_1005 (by decide) (by simp only [rm_X10_settle, rm_X11_settle, room_1]; omega) rfl (fun H locs hR hS => ?_)
  refine lv_icmp_eq (tgt := 1125) hx hb dL_law_1008 (by decide) (fun _ => ?_) (fun c9 => absurd rfl c9)
  obtain ⟨v4, ev4⟩ : ∃ z : Int32, z = x4 + 6 := ⟨_, rfl⟩
  refine lv_iinc (v := v4) (lv' := [(4, .int v4), (0, va_rf (some b)), (1, va_rf (some x)), (2, va_rf (some m9)), (3, va_rf (some out))]) hx hb dL_law_1125 hl (k := 4) rfl (by rw [ev4]; rfl) (by decide) (by first | rfl | (simp [xrf_cat, xcI, xcJ, xcA]; done) | (simp [xrf_cat, xcI, xcJ, xcA]; decide)) (fun ls hl => ?_)
  refine lv_goto (tgt := 23) hx hb dL_law_1128 (by decide) ?_
  refine W.widen (k := 50 + 20 * (i + 1)) (n := 30000 + 2000 * (i + 1)) (by simp only [rm_X10_settle, rm_X11_settle]; omega) (by simp only [rm_X10_settle, rm_X11_settle]; omega) ?_
  exact ih (i + 1) h2 v4 (by omega) (by omega) (by rw [ev4, ex4]; exact nI_add (6 * i) 6) e4 _ _ _ hR hS (lv_sub hl [1, 2, 3, 4, 0] rfl)
set_option maxHeartbeats 4000000 in
set_option maxRecDepth 100000 in
theorem lc_plan {p : Program} {l : Launch} {e : Env} {s : State} {m : MethodId} {below : List Frame} {meth : Method} {c : Code} {b L : Nat} {xs : Nat → Int32} {D : va_G} {G : Nat → Nat} {J : Nat → xH → Prop} {x m9 out : Nat} (hlt : l.stackTraces = false) (hL : L ≤ 3072) (hx : p.tables.exec = Jvm.exec) (hb : c.code = code) (hr : meth.sig.returnType = ret) (hlk : meth.locks = false) (hml : c.maxLocals = 7) (hown : s.vm.findClass R_law = some m.cls) (hts : ∀ w ∈ xt, w.before #[Value.ref b] s = true) (hB : xB s) (hX : va_X b L xs s s.heap) (hbl : b < s.heap.size) (hG0 : G 0 = s.heap.size) (hJ : sJ J G x m9 out) {n : Nat} (ih : ∀ (i : Nat) (h : xH) (x4 : Int32), 6 * i ≤ L + 6 → L + 6 < 6 * i + n → x4 = nI (6 * i) → J i h → ∀ (H : Heap) (locs : List Loc) (ls : Array Slot), xR D G h s H → va_S (xA G) s.heap H locs → lv_has ls 7 [(0, va_rf (some b)), (1, va_rf (some x)), (2, va_rf (some m9)), (3, va_rf (some out)), (4, .int x4)] → W p l e room_1 s m #[Value.ref b] below meth c H locs (50 + 20 * i) (30000 + 2000 * i) (lw_Z below #[Value.ref b] s) (F0 m 23 ls [])) (i : Nat) (h : xH) (x4 : Int32) (hi : 6 * i + 6 ≤ L) (hn : L + 6 < 6 * i + (n + 1)) (ex4 : x4 = nI (6 * i)) (hj : J i h) (H : Heap) (locs : List Loc) (ls : Array Slot) (hR : xR D G h s H) (hS : va_S (xA G) s.heap H locs) (hl : lv_has ls 7 [(0, va_rf (some b)), (1, va_rf (some x)), (2, va_rf (some m9)), (3, va_rf (some out)), (4, .int x4)]) : W p l e room_1 s m #[Value.ref b] below meth c H locs (50 + 20 * i) (30000 + 2000 * i) (lw_Z below #[Value.ref b] s) (F0 m 1013 ls []) := by
  have hbA : ¬ xA G b := by show ¬ G 0 ≤ b; omega
  have hi1 : vp_in (x4 + 1) L := lw_in (k := 1) x4 ex4 (by decide) (by omega) hL
  have hi2 : vp_in (x4 + 2) L := lw_in (k := 2) x4 ex4 (by decide) (by omega) hL
  have hi3 : vp_in (x4 + 3) L := lw_in (k := 3) x4 ex4 (by decide) (by omega) hL
  have hi4 : vp_in (x4 + 4) L := lw_in (k := 4) x4 ex4 (by decide) (by omega) hL
  have hi5 : vp_in (x4 + 5) L := lw_in (k := 5) x4 ex4 (by decide) (by omega) hL
  obtain ⟨r, h1, h2, e1, e2, e3, e4⟩ := hJ.2.2.2.2.2.2.2.2.2.2.2.2.2.2.2.2.2.2.2.1 i h hj (xs (x4 + 1).toNatClampNeg)
  refine x_aload_n (o := (some x)) hx hb dL_law_1013 rfl (lv_at hl 1 rfl) ?_
  refine x_aload_n (o := (some b)) hx hb dL_law_1014 rfl (lv_at hl 0 rfl) ?_
  refine lv_iload hx hb dL_law_1015 (lv_at hl 4 rfl) ?_
  refine lv_iconst (v := 1) hx hb dL_law_1017 (by decide) ?_
  refine lv_iadd hx hb dL_law_1018 ?_
  refine va_sld hx hb hX hbl hbA hS hi1 dL_law_1019 ?_
  refine x_callV (o := (some x)) (ci := 10) (As := [.int (xs (x4 + 1).toNatClampNeg)]) (rest := []) (v := (some (.int r))) (k := 1) hx hb hml hown hts hR hS (hJ.1 i h hj) rfl rfl (t_X10_plan l D G h x (xs (x4 + 1).toNatClampNeg) r h1 e1) f_X10_plan mm_777 mm_778 mm_779 rfl hl.1 rfl (by first | exact Nat.le_of_ble_eq_true rfl | simp [xrf_cat, xcI, xcJ, xcA]) dL_law_1020 (by decide) (by simp only [rm_X10_plan, room_1]; omega) rfl (fun H locs hR hS => ?_)
  refine x_aload_n (o := (some m9)) hx hb dL_law_1023 rfl (lv_at hl 2 rfl) ?_
  refine x_aload_n (o := (some b)) hx hb dL_law_1024 rfl (lv_at hl 0 rfl) ?_
  refine lv_iload hx hb dL_law_1025 (lv_at hl 4 rfl) ?_
  refine lv_iconst (v := 1) hx hb dL_law_1027 (by decide) ?_
  refine lv_iadd hx hb dL_law_1028 ?_
  refine va_sld hx hb hX hbl hbA hS hi1 dL_law_1029 ?_
  refine x_callV (o := (some m9)) (ci := 11) (As := [.int (xs (x4 + 1).toNatClampNeg)]) (rest := [.int r]) (v := (some (.int r))) (k := 1) hx hb hml hown hts hR hS e2 rfl rfl (t_X11_plan l D G h1 m9 (xs (x4 + 1).toNatClampNeg) r h2 e3) f_X11_plan mm_1240 mm_1241 mm_1242 rfl hl.1 rfl (by first | exact Nat.le_of_ble_eq_true rfl | simp [xrf_cat, xcI, xcJ, xcA]) dL_law_1030 (by decide) (by simp only [rm_X10_plan, rm_X11_plan, room_1]; omega) rfl (fun H locs hR hS => ?_)
  refine lv_icmp_eq (tgt := 1125) hx hb dL_law_1033 (by decide) (fun _ => ?_) (fun c9 => absurd rfl c9)
  obtain ⟨v4, ev4⟩ : ∃ z : Int32, z = x4 + 6 := ⟨_, rfl⟩
  refine lv_iinc (v := v4) (lv' := [(4, .int v4), (0, va_rf (some b)), (1, va_rf (some x)), (2, va_rf (some m9)), (3, va_rf (some out))]) hx hb dL_law_1125 hl (k := 4) rfl (by rw [ev4]; rfl) (by decide) (by first | rfl | (simp [xrf_cat, xcI, xcJ, xcA]; done) | (simp [xrf_cat, xcI, xcJ, xcA]; decide)) (fun ls hl => ?_)
  refine lv_goto (tgt := 23) hx hb dL_law_1128 (by decide) ?_
  refine W.widen (k := 50 + 20 * (i + 1)) (n := 30000 + 2000 * (i + 1)) (by simp only [rm_X10_plan, rm_X11_plan]; omega) (by simp only [rm_X10_plan, rm_X11_plan]; omega) ?_
  exact ih (i + 1) h2 v4 (by omega) (by omega) (by rw [ev4, ex4]; exact nI_add (6 * i) 6) e4 _ _ _ hR hS (lv_sub hl [1, 2, 3, 4, 0] rfl)
set_option maxHeartbeats 4000000 in
set_option maxRecDepth 100000 in
theorem lc_planned {p : Program} {l : Launch} {e : Env} {s : State} {m : MethodId} {below : List Frame} {meth : Method} {c : Code} {b L : Nat} {xs : Nat → Int32} {D : va_G} {G : Nat → Nat} {J : Nat → xH → Prop} {x m9 out : Nat} (hlt : l.stackTraces = false) (hL : L ≤ 3072) (hx : p.tables.exec = Jvm.exec) (hb : c.code = code) (hr : meth.sig.returnType = ret) (hlk : meth.locks = false) (hml : c.maxLocals = 7) (hown : s.vm.findClass R_law = some m.cls) (hts : ∀ w ∈ xt, w.before #[Value.ref b] s = true) (hB : xB s) (hX : va_X b L xs s s.heap) (hbl : b < s.heap.size) (hG0 : G 0 = s.heap.size) (hJ : sJ J G x m9 out) {n : Nat} (ih : ∀ (i : Nat) (h : xH) (x4 : Int32), 6 * i ≤ L + 6 → L + 6 < 6 * i + n → x4 = nI (6 * i) → J i h → ∀ (H : Heap) (locs : List Loc) (ls : Array Slot), xR D G h s H → va_S (xA G) s.heap H locs → lv_has ls 7 [(0, va_rf (some b)), (1, va_rf (some x)), (2, va_rf (some m9)), (3, va_rf (some out)), (4, .int x4)] → W p l e room_1 s m #[Value.ref b] below meth c H locs (50 + 20 * i) (30000 + 2000 * i) (lw_Z below #[Value.ref b] s) (F0 m 23 ls [])) (i : Nat) (h : xH) (x4 : Int32) (hi : 6 * i + 6 ≤ L) (hn : L + 6 < 6 * i + (n + 1)) (ex4 : x4 = nI (6 * i)) (hj : J i h) (H : Heap) (locs : List Loc) (ls : Array Slot) (hR : xR D G h s H) (hS : va_S (xA G) s.heap H locs) (hl : lv_has ls 7 [(0, va_rf (some b)), (1, va_rf (some x)), (2, va_rf (some m9)), (3, va_rf (some out)), (4, .int x4)]) : W p l e room_1 s m #[Value.ref b] below meth c H locs (50 + 20 * i) (30000 + 2000 * i) (lw_Z below #[Value.ref b] s) (F0 m 1038 ls []) := by
  have hbA : ¬ xA G b := by show ¬ G 0 ≤ b; omega
  have hi1 : vp_in (x4 + 1) L := lw_in (k := 1) x4 ex4 (by decide) (by omega) hL
  have hi2 : vp_in (x4 + 2) L := lw_in (k := 2) x4 ex4 (by decide) (by omega) hL
  have hi3 : vp_in (x4 + 3) L := lw_in (k := 3) x4 ex4 (by decide) (by omega) hL
  have hi4 : vp_in (x4 + 4) L := lw_in (k := 4) x4 ex4 (by decide) (by omega) hL
  have hi5 : vp_in (x4 + 5) L := lw_in (k := 5) x4 ex4 (by decide) (by omega) hL
  obtain ⟨r, h1, h2, e1, e2, e3, e4⟩ := hJ.2.2.2.2.2.2.2.2.2.2.2.2.2.2.2.2.2.2.2.2.1 i h hj (xs (x4 + 1).toNatClampNeg)
  refine x_aload_n (o := (some x)) hx hb dL_law_1038 rfl (lv_at hl 1 rfl) ?_
  refine x_aload_n (o := (some b)) hx hb dL_law_1039 rfl (lv_at hl 0 rfl) ?_
  refine lv_iload hx hb dL_law_1040 (lv_at hl 4 rfl) ?_
  refine lv_iconst (v := 1) hx hb dL_law_1042 (by decide) ?_
  refine lv_iadd hx hb dL_law_1043 ?_
  refine va_sld hx hb hX hbl hbA hS hi1 dL_law_1044 ?_
  refine x_callV (o := (some x)) (ci := 10) (As := [.int (xs (x4 + 1).toNatClampNeg)]) (rest := []) (v := (some (.int r))) (k := 1) hx hb hml hown hts hR hS (hJ.1 i h hj) rfl rfl (t_X10_planned l D G h x (xs (x4 + 1).toNatClampNeg) r e1.1) f_X10_planned mm_819 mm_820 mm_821 rfl hl.1 rfl (by first | exact Nat.le_of_ble_eq_true rfl | simp [xrf_cat, xcI, xcJ, xcA]) dL_law_1045 (by decide) (by simp only [rm_X10_planned, room_1]; omega) rfl (fun H locs hR hS => ?_)
  have hR : xR D G h1 s H := by rw [e1.2]; exact hR
  refine x_aload_n (o := (some m9)) hx hb dL_law_1048 rfl (lv_at hl 2 rfl) ?_
  refine x_aload_n (o := (some b)) hx hb dL_law_1049 rfl (lv_at hl 0 rfl) ?_
  refine lv_iload hx hb dL_law_1050 (lv_at hl 4 rfl) ?_
  refine lv_iconst (v := 1) hx hb dL_law_1052 (by decide) ?_
  refine lv_iadd hx hb dL_law_1053 ?_
  refine va_sld hx hb hX hbl hbA hS hi1 dL_law_1054 ?_
  refine x_callV (o := (some m9)) (ci := 11) (As := [.int (xs (x4 + 1).toNatClampNeg)]) (rest := [.int r]) (v := (some (.int r))) (k := 1) hx hb hml hown hts hR hS e2 rfl rfl (t_X11_planned l D G h1 m9 (xs (x4 + 1).toNatClampNeg) r h2 e3) f_X11_planned mm_1244 mm_1245 mm_1246 rfl hl.1 rfl (by first | exact Nat.le_of_ble_eq_true rfl | simp [xrf_cat, xcI, xcJ, xcA]) dL_law_1055 (by decide) (by simp only [rm_X10_planned, rm_X11_planned, room_1]; omega) rfl (fun H locs hR hS => ?_)
  refine lv_icmp_eq (tgt := 1125) hx hb dL_law_1058 (by decide) (fun _ => ?_) (fun c9 => absurd rfl c9)
  obtain ⟨v4, ev4⟩ : ∃ z : Int32, z = x4 + 6 := ⟨_, rfl⟩
  refine lv_iinc (v := v4) (lv' := [(4, .int v4), (0, va_rf (some b)), (1, va_rf (some x)), (2, va_rf (some m9)), (3, va_rf (some out))]) hx hb dL_law_1125 hl (k := 4) rfl (by rw [ev4]; rfl) (by decide) (by first | rfl | (simp [xrf_cat, xcI, xcJ, xcA]; done) | (simp [xrf_cat, xcI, xcJ, xcA]; decide)) (fun ls hl => ?_)
  refine lv_goto (tgt := 23) hx hb dL_law_1128 (by decide) ?_
  refine W.widen (k := 50 + 20 * (i + 1)) (n := 30000 + 2000 * (i + 1)) (by simp only [rm_X10_planned, rm_X11_planned]; omega) (by simp only [rm_X10_planned, rm_X11_planned]; omega) ?_
  exact ih (i + 1) h2 v4 (by omega) (by omega) (by rw [ev4, ex4]; exact nI_add (6 * i) 6) e4 _ _ _ hR hS (lv_sub hl [1, 2, 3, 4, 0] rfl)
set_option maxHeartbeats 4000000 in
set_option maxRecDepth 100000 in
theorem lc_look {p : Program} {l : Launch} {e : Env} {s : State} {m : MethodId} {below : List Frame} {meth : Method} {c : Code} {b L : Nat} {xs : Nat → Int32} {D : va_G} {G : Nat → Nat} {J : Nat → xH → Prop} {x m9 out : Nat} (hlt : l.stackTraces = false) (hL : L ≤ 3072) (hx : p.tables.exec = Jvm.exec) (hb : c.code = code) (hr : meth.sig.returnType = ret) (hlk : meth.locks = false) (hml : c.maxLocals = 7) (hown : s.vm.findClass R_law = some m.cls) (hts : ∀ w ∈ xt, w.before #[Value.ref b] s = true) (hB : xB s) (hX : va_X b L xs s s.heap) (hbl : b < s.heap.size) (hG0 : G 0 = s.heap.size) (hJ : sJ J G x m9 out) {n : Nat} (ih : ∀ (i : Nat) (h : xH) (x4 : Int32), 6 * i ≤ L + 6 → L + 6 < 6 * i + n → x4 = nI (6 * i) → J i h → ∀ (H : Heap) (locs : List Loc) (ls : Array Slot), xR D G h s H → va_S (xA G) s.heap H locs → lv_has ls 7 [(0, va_rf (some b)), (1, va_rf (some x)), (2, va_rf (some m9)), (3, va_rf (some out)), (4, .int x4)] → W p l e room_1 s m #[Value.ref b] below meth c H locs (50 + 20 * i) (30000 + 2000 * i) (lw_Z below #[Value.ref b] s) (F0 m 23 ls [])) (i : Nat) (h : xH) (x4 : Int32) (hi : 6 * i + 6 ≤ L) (hn : L + 6 < 6 * i + (n + 1)) (ex4 : x4 = nI (6 * i)) (hj : J i h) (H : Heap) (locs : List Loc) (ls : Array Slot) (hR : xR D G h s H) (hS : va_S (xA G) s.heap H locs) (hl : lv_has ls 7 [(0, va_rf (some b)), (1, va_rf (some x)), (2, va_rf (some m9)), (3, va_rf (some out)), (4, .int x4)]) : W p l e room_1 s m #[Value.ref b] below meth c H locs (50 + 20 * i) (30000 + 2000 * i) (lw_Z below #[Value.ref b] s) (F0 m 1063 ls []) := by
  have hbA : ¬ xA G b := by show ¬ G 0 ≤ b; omega
  have hi1 : vp_in (x4 + 1) L := lw_in (k := 1) x4 ex4 (by decide) (by omega) hL
  have hi2 : vp_in (x4 + 2) L := lw_in (k := 2) x4 ex4 (by decide) (by omega) hL
  have hi3 : vp_in (x4 + 3) L := lw_in (k := 3) x4 ex4 (by decide) (by omega) hL
  have hi4 : vp_in (x4 + 4) L := lw_in (k := 4) x4 ex4 (by decide) (by omega) hL
  have hi5 : vp_in (x4 + 5) L := lw_in (k := 5) x4 ex4 (by decide) (by omega) hL
  obtain ⟨r, h1, h2, e1, e2, e3, e4⟩ := hJ.2.2.2.2.2.2.2.2.2.2.2.2.2.2.2.2.2.2.2.2.2.1 i h hj (xs (x4 + 1).toNatClampNeg) (xs (x4 + 2).toNatClampNeg)
  refine x_aload_n (o := (some x)) hx hb dL_law_1063 rfl (lv_at hl 1 rfl) ?_
  refine x_aload_n (o := (some b)) hx hb dL_law_1064 rfl (lv_at hl 0 rfl) ?_
  refine lv_iload hx hb dL_law_1065 (lv_at hl 4 rfl) ?_
  refine lv_iconst (v := 1) hx hb dL_law_1067 (by decide) ?_
  refine lv_iadd hx hb dL_law_1068 ?_
  refine va_sld hx hb hX hbl hbA hS hi1 dL_law_1069 ?_
  refine x_aload_n (o := (some b)) hx hb dL_law_1070 rfl (lv_at hl 0 rfl) ?_
  refine lv_iload hx hb dL_law_1071 (lv_at hl 4 rfl) ?_
  refine lv_iconst (v := 2) hx hb dL_law_1073 (by decide) ?_
  refine lv_iadd hx hb dL_law_1074 ?_
  refine va_sld hx hb hX hbl hbA hS hi2 dL_law_1075 ?_
  refine x_callV (o := (some x)) (ci := 10) (As := [.int (xs (x4 + 1).toNatClampNeg), .int (xs (x4 + 2).toNatClampNeg)]) (rest := []) (v := (some (.int r))) (k := 2) hx hb hml hown hts hR hS (hJ.1 i h hj) rfl rfl (t_X10_look l D G h x (xs (x4 + 1).toNatClampNeg) (xs (x4 + 2).toNatClampNeg) r e1.1) f_X10_look mm_827 mm_828 mm_829 rfl hl.1 rfl (by first | exact Nat.le_of_ble_eq_true rfl | simp [xrf_cat, xcI, xcJ, xcA]) dL_law_1076 (by decide) (by simp only [rm_X10_look, room_1]; omega) rfl (fun H locs hR hS => ?_)
  have hR : xR D G h1 s H := by rw [e1.2]; exact hR
  refine x_aload_n (o := (some m9)) hx hb dL_law_1079 rfl (lv_at hl 2 rfl) ?_
  refine x_aload_n (o := (some b)) hx hb dL_law_1080 rfl (lv_at hl 0 rfl) ?_
  refine lv_iload hx hb dL_law_1081 (lv_at hl 4 rfl) ?_
  refine lv_iconst (v := 1) hx hb dL_law_1083 (by decide) ?_
  refine lv_iadd hx hb dL_law_1084 ?_
  refine va_sld hx hb hX hbl hbA hS hi1 dL_law_1085 ?_
  refine x_aload_n (o := (some b)) hx hb dL_law_1086 rfl (lv_at hl 0 rfl) ?_
  refine lv_iload hx hb dL_law_1087 (lv_at hl 4 rfl) ?_
  refine lv_iconst (v := 2) hx hb dL_law_1089 (by decide) ?_
  refine lv_iadd hx hb dL_law_1090 ?_
  refine va_sld hx hb hX hbl hbA hS hi2 dL_law_1091 ?_
  refine x_callV (o := (some m9)) (ci := 11) (As := [.int (xs (x4 + 1).toNatClampNeg), .int (xs (x4 + 2).toNatClampNeg)]) (rest := [.int r]) (v := (some (.int r))) (k := 2) hx hb hml hown hts hR hS e2 rfl rfl (t_X11_look l D G h1 m9 (xs (x4 + 1).toNatClampNeg) (xs (x4 + 2).toNatClampNeg) r h2 e3) f_X11_look mm_1248 mm_1249 mm_1250 rfl hl.1 rfl (by first | exact Nat.le_of_ble_eq_true rfl | simp [xrf_cat, xcI, xcJ, xcA]) dL_law_1092 (by decide) (by simp only [rm_X10_look, rm_X11_look, room_1]; omega) rfl (fun H locs hR hS => ?_)
  refine lv_icmp_eq (tgt := 1125) hx hb dL_law_1095 (by decide) (fun _ => ?_) (fun c9 => absurd rfl c9)
  obtain ⟨v4, ev4⟩ : ∃ z : Int32, z = x4 + 6 := ⟨_, rfl⟩
  refine lv_iinc (v := v4) (lv' := [(4, .int v4), (0, va_rf (some b)), (1, va_rf (some x)), (2, va_rf (some m9)), (3, va_rf (some out))]) hx hb dL_law_1125 hl (k := 4) rfl (by rw [ev4]; rfl) (by decide) (by first | rfl | (simp [xrf_cat, xcI, xcJ, xcA]; done) | (simp [xrf_cat, xcI, xcJ, xcA]; decide)) (fun ls hl => ?_)
  refine lv_goto (tgt := 23) hx hb dL_law_1128 (by decide) ?_
  refine W.widen (k := 50 + 20 * (i + 1)) (n := 30000 + 2000 * (i + 1)) (by simp only [rm_X10_look, rm_X11_look]; omega) (by simp only [rm_X10_look, rm_X11_look]; omega) ?_
  exact ih (i + 1) h2 v4 (by omega) (by omega) (by rw [ev4, ex4]; exact nI_add (6 * i) 6) e4 _ _ _ hR hS (lv_sub hl [1, 2, 3, 4, 0] rfl)
set_option maxHeartbeats 4000000 in
set_option maxRecDepth 100000 in
theorem lc_desk {p : Program} {l : Launch} {e : Env} {s : State} {m : MethodId} {below : List Frame} {meth : Method} {c : Code} {b L : Nat} {xs : Nat → Int32} {D : va_G} {G : Nat → Nat} {J : Nat → xH → Prop} {x m9 out : Nat} (hlt : l.stackTraces = false) (hL : L ≤ 3072) (hx : p.tables.exec = Jvm.exec) (hb : c.code = code) (hr : meth.sig.returnType = ret) (hlk : meth.locks = false) (hml : c.maxLocals = 7) (hown : s.vm.findClass R_law = some m.cls) (hts : ∀ w ∈ xt, w.before #[Value.ref b] s = true) (hB : xB s) (hX : va_X b L xs s s.heap) (hbl : b < s.heap.size) (hG0 : G 0 = s.heap.size) (hJ : sJ J G x m9 out) {n : Nat} (ih : ∀ (i : Nat) (h : xH) (x4 : Int32), 6 * i ≤ L + 6 → L + 6 < 6 * i + n → x4 = nI (6 * i) → J i h → ∀ (H : Heap) (locs : List Loc) (ls : Array Slot), xR D G h s H → va_S (xA G) s.heap H locs → lv_has ls 7 [(0, va_rf (some b)), (1, va_rf (some x)), (2, va_rf (some m9)), (3, va_rf (some out)), (4, .int x4)] → W p l e room_1 s m #[Value.ref b] below meth c H locs (50 + 20 * i) (30000 + 2000 * i) (lw_Z below #[Value.ref b] s) (F0 m 23 ls [])) (i : Nat) (h : xH) (x4 : Int32) (hi : 6 * i + 6 ≤ L) (hn : L + 6 < 6 * i + (n + 1)) (ex4 : x4 = nI (6 * i)) (hj : J i h) (H : Heap) (locs : List Loc) (ls : Array Slot) (hR : xR D G h s H) (hS : va_S (xA G) s.heap H locs) (hl : lv_has ls 7 [(0, va_rf (some b)), (1, va_rf (some x)), (2, va_rf (some m9)), (3, va_rf (some out)), (4, .int x4)]) : W p l e room_1 s m #[Value.ref b] below meth c H locs (50 + 20 * i) (30000 + 2000 * i) (lw_Z below #[Value.ref b] s) (F0 m 1100 ls []) := by
  have hbA : ¬ xA G b := by show ¬ G 0 ≤ b; omega
  have hi1 : vp_in (x4 + 1) L := lw_in (k := 1) x4 ex4 (by decide) (by omega) hL
  have hi2 : vp_in (x4 + 2) L := lw_in (k := 2) x4 ex4 (by decide) (by omega) hL
  have hi3 : vp_in (x4 + 3) L := lw_in (k := 3) x4 ex4 (by decide) (by omega) hL
  have hi4 : vp_in (x4 + 4) L := lw_in (k := 4) x4 ex4 (by decide) (by omega) hL
  have hi5 : vp_in (x4 + 5) L := lw_in (k := 5) x4 ex4 (by decide) (by omega) hL
  obtain ⟨r, h1, h2, e1, e2, e3, e4⟩ := hJ.2.2.2.2.2.2.2.2.2.2.2.2.2.2.2.2.2.2.2.2.2.2 i h hj (xs (x4 + 1).toNatClampNeg)
  refine x_aload_n (o := (some x)) hx hb dL_law_1100 rfl (lv_at hl 1 rfl) ?_
  refine x_aload_n (o := (some b)) hx hb dL_law_1101 rfl (lv_at hl 0 rfl) ?_
  refine lv_iload hx hb dL_law_1102 (lv_at hl 4 rfl) ?_
  refine lv_iconst (v := 1) hx hb dL_law_1104 (by decide) ?_
  refine lv_iadd hx hb dL_law_1105 ?_
  refine va_sld hx hb hX hbl hbA hS hi1 dL_law_1106 ?_
  refine x_callV (o := (some x)) (ci := 10) (As := [.int (xs (x4 + 1).toNatClampNeg)]) (rest := []) (v := (some (.int r))) (k := 1) hx hb hml hown hts hR hS (hJ.1 i h hj) rfl rfl (t_X10_desk l D G h x (xs (x4 + 1).toNatClampNeg) r e1.1) f_X10_desk mm_831 mm_832 mm_833 rfl hl.1 rfl (by first | exact Nat.le_of_ble_eq_true rfl | simp [xrf_cat, xcI, xcJ, xcA]) dL_law_1107 (by decide) (by simp only [rm_X10_desk, room_1]; omega) rfl (fun H locs hR hS => ?_)
  have hR : xR D G h1 s H := by rw [e1.2]; exact hR
  refine x_aload_n (o := (some m9)) hx hb dL_law_1110 rfl (lv_at hl 2 rfl) ?_
  refine x_aload_n (o := (some b)) hx hb dL_law_1111 rfl (lv_at hl 0 rfl) ?_
  refine lv_iload hx hb dL_law_1112 (lv_at hl 4 rfl) ?_
  refine lv_iconst (v := 1) hx hb dL_law_1114 (by decide) ?_
  refine lv_iadd hx hb dL_law_1115 ?_
  refine va_sld hx hb hX hbl hbA hS hi1 dL_law_1116 ?_
  refine x_callV (o := (some m9)) (ci := 11) (As := [.int (xs (x4 + 1).toNatClampNeg)]) (rest := [.int r]) (v := (some (.int r))) (k := 1) hx hb hml hown hts hR hS e2 rfl rfl (t_X11_desk l D G h1 m9 (xs (x4 + 1).toNatClampNeg) r h2 e3) f_X11_desk mm_1252 mm_1253 mm_1254 rfl hl.1 rfl (by first | exact Nat.le_of_ble_eq_true rfl | simp [xrf_cat, xcI, xcJ, xcA]) dL_law_1117 (by decide) (by simp only [rm_X10_desk, rm_X11_desk, room_1]; omega) rfl (fun H locs hR hS => ?_)
  refine lv_icmp_eq (tgt := 1125) hx hb dL_law_1120 (by decide) (fun _ => ?_) (fun c9 => absurd rfl c9)
  obtain ⟨v4, ev4⟩ : ∃ z : Int32, z = x4 + 6 := ⟨_, rfl⟩
  refine lv_iinc (v := v4) (lv' := [(4, .int v4), (0, va_rf (some b)), (1, va_rf (some x)), (2, va_rf (some m9)), (3, va_rf (some out))]) hx hb dL_law_1125 hl (k := 4) rfl (by rw [ev4]; rfl) (by decide) (by first | rfl | (simp [xrf_cat, xcI, xcJ, xcA]; done) | (simp [xrf_cat, xcI, xcJ, xcA]; decide)) (fun ls hl => ?_)
  refine lv_goto (tgt := 23) hx hb dL_law_1128 (by decide) ?_
  refine W.widen (k := 50 + 20 * (i + 1)) (n := 30000 + 2000 * (i + 1)) (by simp only [rm_X10_desk, rm_X11_desk]; omega) (by simp only [rm_X10_desk, rm_X11_desk]; omega) ?_
  exact ih (i + 1) h2 v4 (by omega) (by omega) (by rw [ev4, ex4]; exact nI_add (6 * i) 6) e4 _ _ _ hR hS (lv_sub hl [1, 2, 3, 4, 0] rfl)
set_option maxHeartbeats 4000000 in
set_option maxRecDepth 100000 in
theorem law_loop {p : Program} {l : Launch} {e : Env} {s : State} {m : MethodId} {below : List Frame} {meth : Method} {c : Code} {b L : Nat} {xs : Nat → Int32} {D : va_G} {G : Nat → Nat} {J : Nat → xH → Prop} {x m9 out : Nat} (hlt : l.stackTraces = false) (hL : L ≤ 3072) (hx : p.tables.exec = Jvm.exec) (hb : c.code = code) (hr : meth.sig.returnType = ret) (hlk : meth.locks = false) (hml : c.maxLocals = 7) (hown : s.vm.findClass R_law = some m.cls) (hts : ∀ w ∈ xt, w.before #[Value.ref b] s = true) (hB : xB s) (hX : va_X b L xs s s.heap) (hbl : b < s.heap.size) (hG0 : G 0 = s.heap.size) (hJ : sJ J G x m9 out) (hJ0 : ∀ i h, J i h → J (i + 1) h) : ∀ (n : Nat) (i : Nat) (h : xH) (x4 : Int32), 6 * i ≤ L + 6 → L + 6 < 6 * i + n → x4 = nI (6 * i) → J i h → ∀ (H : Heap) (locs : List Loc) (ls : Array Slot), xR D G h s H → va_S (xA G) s.heap H locs → lv_has ls 7 [(0, va_rf (some b)), (1, va_rf (some x)), (2, va_rf (some m9)), (3, va_rf (some out)), (4, .int x4)] → W p l e room_1 s m #[Value.ref b] below meth c H locs (50 + 20 * i) (30000 + 2000 * i) (lw_Z below #[Value.ref b] s) (F0 m 23 ls []) := by
  have hbA : ¬ xA G b := by show ¬ G 0 ≤ b; omega
  have fin : ∀ (i : Nat) (H : Heap) (locs : List Loc) (ls : Array Slot), 6 * i ≤ L + 6 → va_S (xA G) s.heap H locs → W p l e room_1 s m #[Value.ref b] below meth c H locs (50 + 20 * i) (30000 + 2000 * i) (lw_Z below #[Value.ref b] s) (F0 m 1131 ls []) := by
    intro i H locs ls hi hS
    refine lv_iconst (v := 1) hx hb dL_law_1131 (by decide) ?_
    refine va_forget (fun q hq => by have := hS.2.2 q hq; rw [← hG0]; exact this) ?_
    refine W.widen (k := 601024) (n := 7293034) (by omega) (by omega) ?_
    exact lw_ret hx hb hr hlk dL_law_1132
  intro n
  induction n with
  | zero => intro i h x4 h1 h2; omega
  | succ n ih =>
    intro i h x4 hle hn ex4 hj H locs ls hR hS hl
    refine lv_iload hx hb dL_law_23 (lv_at hl 4 rfl) ?_
    refine x_aload_n (o := some b) hx hb dL_law_25 rfl (lv_at hl 0 rfl) ?_
    refine va_slen hx hb hX hbl hbA hS dL_law_26 ?_
    refine lv_bipush (v := 6) hx hb dL_law_27 (by decide) ?_
    refine lv_isub hx hb dL_law_29 ?_
    refine lv_icmp_gt (tgt := 1131) hx hb dL_law_30 (by decide) (fun c1 => ?_) (fun c1 => ?_)
    · exact fin i H locs ls hle hS
    · have hi : 6 * i + 6 ≤ L := by
        rw [ex4] at c1
        have := (not_congr (lw_cond (L := L) (i := i) hL (by omega))).mp c1
        omega
      refine x_aload_n (o := some b) hx hb dL_law_33 rfl (lv_at hl 0 rfl) ?_
      refine lv_iload hx hb dL_law_34 (lv_at hl 4 rfl) ?_
      refine va_sld hx hb hX hbl hbA hS (lw_in0 x4 ex4 (by omega) hL) dL_law_36 ?_
      refine lv_bipush (v := 31) hx hb dL_law_37 (by decide) ?_
      refine lv_iand hx hb dL_law_39 ?_
      refine lv_topi (fun key ekey => ?_)
      by_cases k0 : key = 0
      · refine lv_tableIn (off := 104) (tgt := 144) hx hb dL_law_40 (by rw [k0]; decide) (by rw [k0]; decide) (by rw [k0]; rfl) (by decide) ?_
        exact lc_service hlt hL hx hb hr hlk hml hown hts hB hX hbl hG0 hJ ih i h x4 hi (by omega) ex4 hj H locs ls hR hS hl
      by_cases k1 : key = 1
      · refine lv_tableIn (off := 117) (tgt := 157) hx hb dL_law_40 (by rw [k1]; decide) (by rw [k1]; decide) (by rw [k1]; rfl) (by decide) ?_
        exact lc_source hlt hL hx hb hr hlk hml hown hts hB hX hbl hG0 hJ ih i h x4 hi (by omega) ex4 hj H locs ls hR hS hl
      by_cases k2 : key = 2
      · refine lv_tableIn (off := 166) (tgt := 206) hx hb dL_law_40 (by rw [k2]; decide) (by rw [k2]; decide) (by rw [k2]; rfl) (by decide) ?_
        exact lc_count hlt hL hx hb hr hlk hml hown hts hB hX hbl hG0 hJ ih i h x4 hi (by omega) ex4 hj H locs ls hR hS hl
      by_cases k3 : key = 3
      · refine lv_tableIn (off := 239) (tgt := 279) hx hb dL_law_40 (by rw [k3]; decide) (by rw [k3]; decide) (by rw [k3]; rfl) (by decide) ?_
        exact lc_ticks hlt hL hx hb hr hlk hml hown hts hB hX hbl hG0 hJ ih i h x4 hi (by omega) ex4 hj H locs ls hR hS hl
      by_cases k4 : key = 4
      · refine lv_tableIn (off := 264) (tgt := 304) hx hb dL_law_40 (by rw [k4]; decide) (by rw [k4]; decide) (by rw [k4]; rfl) (by decide) ?_
        exact lc_promise hlt hL hx hb hr hlk hml hown hts hB hX hbl hG0 hJ ih i h x4 hi (by omega) ex4 hj H locs ls hR hS hl
      by_cases k5 : key = 5
      · refine lv_tableIn (off := 341) (tgt := 381) hx hb dL_law_40 (by rw [k5]; decide) (by rw [k5]; decide) (by rw [k5]; rfl) (by decide) ?_
        exact lc_grace hlt hL hx hb hr hlk hml hown hts hB hX hbl hG0 hJ ih i h x4 hi (by omega) ex4 hj H locs ls hR hS hl
      by_cases k6 : key = 6
      · refine lv_tableIn (off := 390) (tgt := 430) hx hb dL_law_40 (by rw [k6]; decide) (by rw [k6]; decide) (by rw [k6]; rfl) (by decide) ?_
        exact lc_sum hlt hL hx hb hr hlk hml hown hts hB hX hbl hG0 hJ ih i h x4 hi (by omega) ex4 hj H locs ls hR hS hl
      by_cases k7 : key = 7
      · refine lv_tableIn (off := 451) (tgt := 491) hx hb dL_law_40 (by rw [k7]; decide) (by rw [k7]; decide) (by rw [k7]; rfl) (by decide) ?_
        exact lc_span hlt hL hx hb hr hlk hml hown hts hB hX hbl hG0 hJ ih i h x4 hi (by omega) ex4 hj H locs ls hR hS hl
      by_cases k8 : key = 8
      · refine lv_tableIn (off := 531) (tgt := 571) hx hb dL_law_40 (by rw [k8]; decide) (by rw [k8]; decide) (by rw [k8]; rfl) (by decide) ?_
        exact lc_broken hlt hL hx hb hr hlk hml hown hts hB hX hbl hG0 hJ ih i h x4 hi (by omega) ex4 hj H locs ls hR hS hl
      by_cases k9 : key = 9
      · refine lv_tableIn (off := 568) (tgt := 608) hx hb dL_law_40 (by rw [k9]; decide) (by rw [k9]; decide) (by rw [k9]; rfl) (by decide) ?_
        exact lc_part hlt hL hx hb hr hlk hml hown hts hB hX hbl hG0 hJ ih i h x4 hi (by omega) ex4 hj H locs ls hR hS hl
      by_cases k10 : key = 10
      · refine lv_tableIn (off := 593) (tgt := 633) hx hb dL_law_40 (by rw [k10]; decide) (by rw [k10]; decide) (by rw [k10]; rfl) (by decide) ?_
        exact lc_made hlt hL hx hb hr hlk hml hown hts hB hX hbl hG0 hJ ih i h x4 hi (by omega) ex4 hj H locs ls hR hS hl
      by_cases k11 : key = 11
      · refine lv_tableIn (off := 642) (tgt := 682) hx hb dL_law_40 (by rw [k11]; decide) (by rw [k11]; decide) (by rw [k11]; rfl) (by decide) ?_
        exact lc_alarm hlt hL hx hb hr hlk hml hown hts hB hX hbl hG0 hJ ih i h x4 hi (by omega) ex4 hj H locs ls hR hS hl
      by_cases k12 : key = 12
      · refine lv_tableIn (off := 703) (tgt := 743) hx hb dL_law_40 (by rw [k12]; decide) (by rw [k12]; decide) (by rw [k12]; rfl) (by decide) ?_
        exact lc_rings hlt hL hx hb hr hlk hml hown hts hB hX hbl hG0 hJ ih i h x4 hi (by omega) ex4 hj H locs ls hR hS hl
      by_cases k13 : key = 13
      · refine lv_tableIn (off := 740) (tgt := 780) hx hb dL_law_40 (by rw [k13]; decide) (by rw [k13]; decide) (by rw [k13]; rfl) (by decide) ?_
        exact lc_soonest hlt hL hx hb hr hlk hml hown hts hB hX hbl hG0 hJ ih i h x4 hi (by omega) ex4 hj H locs ls hR hS hl
      by_cases k14 : key = 14
      · refine lv_tableIn (off := 801) (tgt := 841) hx hb dL_law_40 (by rw [k14]; decide) (by rw [k14]; decide) (by rw [k14]; rfl) (by decide) ?_
        exact lc_best hlt hL hx hb hr hlk hml hown hts hB hX hbl hG0 hJ ih i h x4 hi (by omega) ex4 hj H locs ls hR hS hl
      by_cases k15 : key = 15
      · refine lv_tableIn (off := 862) (tgt := 902) hx hb dL_law_40 (by rw [k15]; decide) (by rw [k15]; decide) (by rw [k15]; rfl) (by decide) ?_
        exact lc_change hlt hL hx hb hr hlk hml hown hts hB hX hbl hG0 hJ ih i h x4 hi (by omega) ex4 hj H locs ls hR hS hl
      by_cases k16 : key = 16
      · refine lv_tableIn (off := 911) (tgt := 951) hx hb dL_law_40 (by rw [k16]; decide) (by rw [k16]; decide) (by rw [k16]; rfl) (by decide) ?_
        exact lc_let hlt hL hx hb hr hlk hml hown hts hB hX hbl hG0 hJ ih i h x4 hi (by omega) ex4 hj H locs ls hR hS hl
      by_cases k17 : key = 17
      · refine lv_tableIn (off := 936) (tgt := 976) hx hb dL_law_40 (by rw [k17]; decide) (by rw [k17]; decide) (by rw [k17]; rfl) (by decide) ?_
        exact lc_settle hlt hL hx hb hr hlk hml hown hts hB hX hbl hG0 hJ ih i h x4 hi (by omega) ex4 hj H locs ls hR hS hl
      by_cases k18 : key = 18
      · refine lv_tableIn (off := 973) (tgt := 1013) hx hb dL_law_40 (by rw [k18]; decide) (by rw [k18]; decide) (by rw [k18]; rfl) (by decide) ?_
        exact lc_plan hlt hL hx hb hr hlk hml hown hts hB hX hbl hG0 hJ ih i h x4 hi (by omega) ex4 hj H locs ls hR hS hl
      by_cases k19 : key = 19
      · refine lv_tableIn (off := 998) (tgt := 1038) hx hb dL_law_40 (by rw [k19]; decide) (by rw [k19]; decide) (by rw [k19]; rfl) (by decide) ?_
        exact lc_planned hlt hL hx hb hr hlk hml hown hts hB hX hbl hG0 hJ ih i h x4 hi (by omega) ex4 hj H locs ls hR hS hl
      by_cases k20 : key = 20
      · refine lv_tableIn (off := 1023) (tgt := 1063) hx hb dL_law_40 (by rw [k20]; decide) (by rw [k20]; decide) (by rw [k20]; rfl) (by decide) ?_
        exact lc_look hlt hL hx hb hr hlk hml hown hts hB hX hbl hG0 hJ ih i h x4 hi (by omega) ex4 hj H locs ls hR hS hl
      by_cases k21 : key = 21
      · refine lv_tableIn (off := 1060) (tgt := 1100) hx hb dL_law_40 (by rw [k21]; decide) (by rw [k21]; decide) (by rw [k21]; rfl) (by decide) ?_
        exact lc_desk hlt hL hx hb hr hlk hml hown hts hB hX hbl hG0 hJ ih i h x4 hi (by omega) ex4 hj H locs ls hR hS hl
      refine lv_tableOut (tgt := 1125) hx hb dL_law_40 (by have := lv_neT k0 (a := 0) (by decide); have := lv_neT k1 (a := 1) (by decide); have := lv_neT k2 (a := 2) (by decide); have := lv_neT k3 (a := 3) (by decide); have := lv_neT k4 (a := 4) (by decide); have := lv_neT k5 (a := 5) (by decide); have := lv_neT k6 (a := 6) (by decide); have := lv_neT k7 (a := 7) (by decide); have := lv_neT k8 (a := 8) (by decide); have := lv_neT k9 (a := 9) (by decide); have := lv_neT k10 (a := 10) (by decide); have := lv_neT k11 (a := 11) (by decide); have := lv_neT k12 (a := 12) (by decide); have := lv_neT k13 (a := 13) (by decide); have := lv_neT k14 (a := 14) (by decide); have := lv_neT k15 (a := 15) (by decide); have := lv_neT k16 (a := 16) (by decide); have := lv_neT k17 (a := 17) (by decide); have := lv_neT k18 (a := 18) (by decide); have := lv_neT k19 (a := 19) (by decide); have := lv_neT k20 (a := 20) (by decide); have := lv_neT k21 (a := 21) (by decide); omega) (by decide) ?_
      obtain ⟨v4, ev4⟩ : ∃ z : Int32, z = x4 + 6 := ⟨_, rfl⟩
      refine lv_iinc (v := v4) (lv' := [(4, .int v4), (0, va_rf (some b)), (1, va_rf (some x)), (2, va_rf (some m9)), (3, va_rf (some out))]) hx hb dL_law_1125 hl (k := 4) rfl (by rw [ev4]; rfl) (by decide) rfl (fun ls hl => ?_)
      refine lv_goto (tgt := 23) hx hb dL_law_1128 (by decide) ?_
      refine W.widen (k := 50 + 20 * (i + 1)) (n := 30000 + 2000 * (i + 1)) (by omega) (by omega) ?_
      exact ih (i + 1) h v4 (by omega) (by omega) (by rw [ev4, ex4]; exact nI_add (6 * i) 6) (hJ0 i h hj) _ _ _ hR hS (lv_sub hl [1, 2, 3, 4, 0] rfl)
