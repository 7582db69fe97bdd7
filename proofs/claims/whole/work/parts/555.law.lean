section XSS
variable {p : Program} {l : Launch} {e : Env} {R : Room} {s : State} {m : MethodId} {args : Array Value} {below : List Frame} {meth : Method} {c : Code} {H : Heap} {locs : List Loc} {cells slots : Nat} {Q : State → Prop}
variable {cc : ByteArray} {pc : Nat} {ls : Array Slot} {rest st0 : List Value} {D : va_G} {G : Nat → Nat} {h : xH} {H0 : Heap} {k nL index : Nat} {As : List Value} {own : String} {res : Option Int32} {a4 : Nat}
/-- the law calls its own span -/
theorem x_callSs (hexec : p.tables.exec = Jvm.exec) (hb : c.code = cc) (hml : c.maxLocals = nL) (hown : s.vm.findClass own = some m.cls) (hts : ∀ w ∈ xt, w.before args s = true) (hB : xB s) (hR : xR D G h s H) (hS : va_S (xA G) H0 H locs) (hM : Met l yL_span xWs rm_L_span (xPb D G h As) (xQs D G h a4 res) rm_L_span.cells rm_L_span.slots (xA G)) (hcw : Cond.codeWith yL_span cL_span 6 (some .int) [(0, 12, 15, 13)] ∈ xt) (hl : Cond.methodLink own index yL_span ∈ xt) (hst : Cond.static yL_span ∈ xt) (hini : Cond.initialized yL_span.cls ∈ xt) (hd : (parseMethodDescriptor yL_span.desc).map (fun d => d.parameters.length) = some k)
    (hn : As.length = k) (hsize : ls.size = nL) (hstack : st0 = As.reverse ++ rest) (hW : (rest.map fun v => v.category).sum ≤ 8) (hdg : decode cc pc = .ok (.invokestatic index, 3)) (hroom : rm_L_span.frames + 1 ≤ R.frames ∧ 8 + (6 + 11) + rm_L_span.locals ≤ R.locals) (hcs : cells + rm_L_span.cells ≤ R.cells ∧ slots + rm_L_span.slots ≤ R.slots)
    (kk : ∀ (v : Int32) (h' : xH) (H1 : Heap) (locs1 : List Loc), res = some v → stJ G h (some a4) 0 v.toInt64 = some h' → xR D G h' s H1 → va_S (xA G) H0 H1 locs1 → W p l e R s m args below meth c H1 locs1 (cells + rm_L_span.cells) (slots + rm_L_span.slots) Q (F0 m (pc + 3) ls (.int 0 :: rest)))
    (kx : ∀ (z : Nat) (H1 : Heap) (locs1 : List Loc), res = none → h.1 ≤ z → xR D G (z, h.2) s H1 → va_S (xA G) H0 H1 locs1 → W p l e R s m args below meth c H1 locs1 (cells + rm_L_span.cells) (slots + rm_L_span.slots) Q (F0 m (pc + 3) ls (.int 1 :: rest))) : W p l e R s m args below meth c H locs cells slots Q (F0 m pc ls st0) := by
  have hT : GoodIn xt (va_wsS own index yL_span xWs) := by
    refine fun w hw => ?_
    have key : w ∈ xt := by
      simp only [va_wsS, List.mem_append, List.mem_cons, List.not_mem_nil, or_false] at hw
      rcases hw with (rfl | rfl | rfl) | hw
      · exact hl
      · exact hst
      · exact hini
      · exact (List.mem_cons.mp hw).elim (fun e => e ▸ hcw) (fun e => e)
    exact ⟨key, good_of_word (List.mem_filter.mp key).2⟩
  have hr := vx_runSW (hh := [(0, 12, 15, 13)]) (bytes := cL_span) (maxL := 6) (ret := some .int) (rest := rest) (g := F0 m pc ls st0) (H := H) (locs := locs) (cells := cells) (slots := slots) (below := below) (e := e) (meth := meth) (R := R) ⟨hexec, hb, hml, hown, hts⟩ hM (vx_cwSW k hts hT rfl rfl rfl ⟨by decide, by decide, hd⟩ hroom) ⟨xPb_blind, fun U hU hW => ⟨⟨rfl, by show xR D G h U U.heap; rw [hU]; exact hR.moved hW.alike⟩, hB.warm hW⟩⟩ rfl hn hsize hstack (by show 2 * 0 + _ ≤ 8; omega) hdg hcs
  intro T hT X
  obtain ⟨v1, st₀, t, T', L, h0, X', hL, e1, e2, ⟨⟨hz, hk⟩, hq⟩, st⟩ := hr T hT X
  rw [h0] at hz hk
  rw [← e1] at hz hk hq
  have hS1 : va_S (xA G) H0 T'.heap (locs ++ L) := ⟨Nat.le_trans hS.1 hz, fun q h1 h2 => by rw [hk q (Nat.lt_of_lt_of_le h1 hS.1) h2]; exact hS.2.1 q h1 h2, fun q hq => (List.mem_append.mp hq).elim (hS.2.2 q) (hL q)⟩
  have hal : t.vm.Alike s.vm := by rw [← e2]; exact X'.warmed.alike.symm
  rcases hq with ⟨v, h', hv, hs, ho, hR1⟩ | ⟨hv, ho, z, hz1, hR1⟩
  · cases ho
    obtain ⟨t2, a1, b1⟩ := kk v h' T'.heap (locs ++ L) hv hs (hR1.moved hal) hS1 T' rfl X'
    exact ⟨t2, st t2 a1, b1⟩
  · cases ho
    obtain ⟨t2, a1, b1⟩ := kx z T'.heap (locs ++ L) hv hz1 (hR1.moved hal) hS1 T' rfl X'
    exact ⟨t2, st t2 a1, b1⟩
end XSS
