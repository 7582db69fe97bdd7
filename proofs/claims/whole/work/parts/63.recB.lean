def FM_isPromise (s : mS) (x1 : Int32) : Option Int32 :=
  if x1 < 0 then
    some 0
  else
  if (s.1 15) ≤ x1 then
    some 0
  else
  some 1
set_option maxHeartbeats 4000000 in
theorem u_isPromise {G : Nat → Nat} {ad : Nat → Nat → Nat} {P0 : xP} {h : xH} {s : mS} {x1 : Int32} {r : Int32} (M : Mx G ad P0 h s) (hF : FM_isPromise s x1 = some r) : Gr (F_X11_isPromise G h (ad 19 0) x1) r := by
  unfold FM_isPromise at hF
  unfold F_X11_isPromise
  by_cases c1 : x1 < 0
  · replace hF := xift c1 hF
    refine Gr.t c1 ?_
    exact hF
  · replace hF := xiff c1 hF
    refine Gr.f c1 ?_
    refine Gr.b (M.gI' (k := 15) rfl) ?_
    by_cases c2 : (s.1 15) ≤ x1
    · replace hF := xift c2 hF
      refine Gr.t c2 ?_
      exact hF
    · replace hF := xiff c2 hF
      refine Gr.f c2 ?_
      exact hF
def FM_promise (s : mS) (x1 : Int32) (x2 : Int32) (x3 : Int32) (x4 : Int32) : Option (Int32 × mS) :=
  xl (mI s 0 0) fun s1 =>
  (FM_isService s1 x1).bind fun v3 =>
  if v3 = 0 then
    some ((-1), s1)
  else
  if x2 < 1 then
    some ((-1), s1)
  else
  if 200 < x2 then
    some ((-1), s1)
  else
  if x3 < 0 then
    some ((-1), s1)
  else
  if 1000 < x3 then
    some ((-1), s1)
  else
  if (s1.1 15) = 12 then
    some ((-1), s1)
  else
  (mst s1 16 (s1.1 15) x1).bind fun s10 =>
  (mst s10 17 (s10.1 15) x2).bind fun s12 =>
  (mst s12 18 (s12.1 15) x3).bind fun s14 =>
  (mst s14 19 (s14.1 15) (vp_nar .boolean x4)).bind fun s16 =>
  xl (mI s16 15 ((s16.1 15) + 1)) fun s18 =>
  some (((s18.1 15) - 1), s18)
set_option maxHeartbeats 4000000 in
theorem u_promise {G : Nat → Nat} {ad : Nat → Nat → Nat} {P0 : xP} {h : xH} {s : mS} {x1 : Int32} {x2 : Int32} {x3 : Int32} {x4 : Int32} {r : Int32} {s' : mS} (M : Mx G ad P0 h s) (hF : FM_promise s x1 x2 x3 x4 = some (r, s')) : Go (F_X11_promise G h (ad 19 0) x1 x2 x3 x4) r (fun h' => Mx G ad P0 h' s') := by
  unfold FM_promise at hF
  unfold F_X11_promise
  obtain ⟨s1, es1⟩ : ∃ z : mS, z = (mI s 0 0) := ⟨_, rfl⟩
  replace hF := xlet es1 hF
  replace M := M.put (k := 0) (v := .int 0) s1 (by decide) (by rw [es1]; rfl) (by rw [es1]; rfl)
  obtain ⟨h2, eh2, M⟩ := M
  refine Go.b eh2 ?_
  refine Go.b M.xc' ?_
  replace hF := xbind hF; obtain ⟨v3, ev3, hF⟩ := hF
  refine Go.b (u_isService M ev3) ?_
  by_cases c4 : v3 = 0
  · replace hF := xift c4 hF
    refine Go.t c4 ?_
    cases hF
    exact ⟨_, rfl, M⟩
  · replace hF := xiff c4 hF
    refine Go.f c4 ?_
    by_cases c5 : x2 < 1
    · replace hF := xift c5 hF
      refine Go.t c5 ?_
      cases hF
      exact ⟨_, rfl, M⟩
    · replace hF := xiff c5 hF
      refine Go.f c5 ?_
      by_cases c6 : 200 < x2
      · replace hF := xift c6 hF
        refine Go.t c6 ?_
        cases hF
        exact ⟨_, rfl, M⟩
      · replace hF := xiff c6 hF
        refine Go.f c6 ?_
        by_cases c7 : x3 < 0
        · replace hF := xift c7 hF
          refine Go.t c7 ?_
          cases hF
          exact ⟨_, rfl, M⟩
        · replace hF := xiff c7 hF
          refine Go.f c7 ?_
          by_cases c8 : 1000 < x3
          · replace hF := xift c8 hF
            refine Go.t c8 ?_
            cases hF
            exact ⟨_, rfl, M⟩
          · replace hF := xiff c8 hF
            refine Go.f c8 ?_
            refine Go.b (M.gI' (k := 15) rfl) ?_
            by_cases c9 : (s1.1 15) = 12
            · replace hF := xift c9 hF
              refine Go.t c9 ?_
              cases hF
              exact ⟨_, rfl, M⟩
            · replace hF := xiff c9 hF
              refine Go.f c9 ?_
              refine Go.b (M.gR' (k := 16) rfl) ?_
              refine Go.b (M.gI' (k := 15) rfl) ?_
              replace hF := xbind hF; obtain ⟨s10, es10, hF⟩ := hF
              replace M := M.st (k := 16) rfl es10
              obtain ⟨h11, eh11, M⟩ := M
              refine Go.b eh11 ?_
              refine Go.b (M.gR' (k := 17) rfl) ?_
              refine Go.b (M.gI' (k := 15) rfl) ?_
              replace hF := xbind hF; obtain ⟨s12, es12, hF⟩ := hF
              replace M := M.st (k := 17) rfl es12
              obtain ⟨h13, eh13, M⟩ := M
              refine Go.b eh13 ?_
              refine Go.b (M.gR' (k := 18) rfl) ?_
              refine Go.b (M.gI' (k := 15) rfl) ?_
              replace hF := xbind hF; obtain ⟨s14, es14, hF⟩ := hF
              replace M := M.st (k := 18) rfl es14
              obtain ⟨h15, eh15, M⟩ := M
              refine Go.b eh15 ?_
              refine Go.b (M.gR' (k := 19) rfl) ?_
              refine Go.b (M.gI' (k := 15) rfl) ?_
              replace hF := xbind hF; obtain ⟨s16, es16, hF⟩ := hF
              replace M := M.stZ (k := 19) rfl es16
              obtain ⟨h17, eh17, M⟩ := M
              refine Go.b eh17 ?_
              refine Go.b (M.gI' (k := 15) rfl) ?_
              obtain ⟨s18, es18⟩ : ∃ z : mS, z = (mI s16 15 ((s16.1 15) + 1)) := ⟨_, rfl⟩
              replace hF := xlet es18 hF
              replace M := M.put (k := 15) (v := .int ((s16.1 15) + 1)) s18 (by decide) (by rw [es18]; rfl) (by rw [es18]; rfl)
              obtain ⟨h19, eh19, M⟩ := M
              refine Go.b eh19 ?_
              refine Go.b (M.gI' (k := 15) rfl) ?_
              cases hF
              exact ⟨_, rfl, M⟩
def FM_grace (s : mS) (x1 : Int32) (x2 : Int32) (x3 : Int32) : Option (Int32 × mS) :=
  xl (mI s 0 0) fun s1 =>
  (FM_isPromise s1 x1).bind fun v3 =>
  if v3 = 0 then
    some (0, s1)
  else
  if x2 ≤ (s1.1 9) then
    some (0, s1)
  else
  if x3 < x2 then
    some (0, s1)
  else
  if 600 < x3 then
    some (0, s1)
  else
  (mld s1 20 x1).bind fun v8 =>
  if v8 = 10 then
    some (0, s1)
  else
  (mld s1 20 x1).bind fun v10 =>
  (mst s1 21 ((10 * x1) + v10) x2).bind fun s11 =>
  (mld s11 20 x1).bind fun v13 =>
  (mst s11 22 ((10 * x1) + v13) x3).bind fun s14 =>
  (mld s14 20 x1).bind fun v16 =>
  (mst s14 20 x1 (v16 + 1)).bind fun s17 =>
  some (1, s17)
set_option maxHeartbeats 4000000 in
theorem u_grace {G : Nat → Nat} {ad : Nat → Nat → Nat} {P0 : xP} {h : xH} {s : mS} {x1 : Int32} {x2 : Int32} {x3 : Int32} {r : Int32} {s' : mS} (M : Mx G ad P0 h s) (hF : FM_grace s x1 x2 x3 = some (r, s')) : Go (F_X11_grace G h (ad 19 0) x1 x2 x3) r (fun h' => Mx G ad P0 h' s') := by
  unfold FM_grace at hF
  unfold F_X11_grace
  obtain ⟨s1, es1⟩ : ∃ z : mS, z = (mI s 0 0) := ⟨_, rfl⟩
  replace hF := xlet es1 hF
  replace M := M.put (k := 0) (v := .int 0) s1 (by decide) (by rw [es1]; rfl) (by rw [es1]; rfl)
  obtain ⟨h2, eh2, M⟩ := M
  refine Go.b eh2 ?_
  refine Go.b M.xc' ?_
  replace hF := xbind hF; obtain ⟨v3, ev3, hF⟩ := hF
  refine Go.b (u_isPromise M ev3) ?_
  by_cases c4 : v3 = 0
  · replace hF := xift c4 hF
    refine Go.t c4 ?_
    cases hF
    exact ⟨_, rfl, M⟩
  · replace hF := xiff c4 hF
    refine Go.f c4 ?_
    refine Go.b (M.gI' (k := 9) rfl) ?_
    by_cases c5 : x2 ≤ (s1.1 9)
    · replace hF := xift c5 hF
      refine Go.t c5 ?_
      cases hF
      exact ⟨_, rfl, M⟩
    · replace hF := xiff c5 hF
      refine Go.f c5 ?_
      by_cases c6 : x3 < x2
      · replace hF := xift c6 hF
        refine Go.t c6 ?_
        cases hF
        exact ⟨_, rfl, M⟩
      · replace hF := xiff c6 hF
        refine Go.f c6 ?_
        by_cases c7 : 600 < x3
        · replace hF := xift c7 hF
          refine Go.t c7 ?_
          cases hF
          exact ⟨_, rfl, M⟩
        · replace hF := xiff c7 hF
          refine Go.f c7 ?_
          refine Go.b (M.gR' (k := 20) rfl) ?_
          replace hF := xbind hF; obtain ⟨v8, ev8, hF⟩ := hF
          refine Go.b (M.ld (k := 20) rfl ev8) ?_
          by_cases c9 : v8 = 10
          · replace hF := xift c9 hF
            refine Go.t c9 ?_
            cases hF
            exact ⟨_, rfl, M⟩
          · replace hF := xiff c9 hF
            refine Go.f c9 ?_
            refine Go.b (M.gR' (k := 21) rfl) ?_
            refine Go.b (M.gR' (k := 20) rfl) ?_
            replace hF := xbind hF; obtain ⟨v10, ev10, hF⟩ := hF
            refine Go.b (M.ld (k := 20) rfl ev10) ?_
            replace hF := xbind hF; obtain ⟨s11, es11, hF⟩ := hF
            replace M := M.st (k := 21) rfl es11
            obtain ⟨h12, eh12, M⟩ := M
            refine Go.b eh12 ?_
            refine Go.b (M.gR' (k := 22) rfl) ?_
            refine Go.b (M.gR' (k := 20) rfl) ?_
            replace hF := xbind hF; obtain ⟨v13, ev13, hF⟩ := hF
            refine Go.b (M.ld (k := 20) rfl ev13) ?_
            replace hF := xbind hF; obtain ⟨s14, es14, hF⟩ := hF
            replace M := M.st (k := 22) rfl es14
            obtain ⟨h15, eh15, M⟩ := M
            refine Go.b eh15 ?_
            refine Go.b (M.gR' (k := 20) rfl) ?_
            replace hF := xbind hF; obtain ⟨v16, ev16, hF⟩ := hF
            refine Go.b (M.ld (k := 20) rfl ev16) ?_
            replace hF := xbind hF; obtain ⟨s17, es17, hF⟩ := hF
            replace M := M.st (k := 20) rfl es17
            obtain ⟨h18, eh18, M⟩ := M
            refine Go.b eh18 ?_
            cases hF
            exact ⟨_, rfl, M⟩
def FM_isGrace_8 (s : mS) (x1 : Int32) (x2 : Int32) : Nat → Int32 → Int32 → Option Int32
  | 0, _, _ => none
  | n + 1, x3, x4 =>
    (mld s 20 x1).bind fun v2 =>
    if ((10 * x1) + v2) ≤ x4 then
      xg (x3 = 0 ∨ x3 = 1) <|
      some x3
    else
    if x3 = 0 then
      (mld s 21 x4).bind fun v7 =>
      if x2 < v7 then
        xl (x4 + 1) fun v9 =>
        FM_isGrace_8 s x1 x2 n 0 v9
      else
      (mld s 22 x4).bind fun v10 =>
      if v10 < x2 then
        xl (x4 + 1) fun v12 =>
        FM_isGrace_8 s x1 x2 n 0 v12
      else
      xl (x4 + 1) fun v13 =>
      FM_isGrace_8 s x1 x2 n 1 v13
    else
    xl (x4 + 1) fun v6 =>
    FM_isGrace_8 s x1 x2 n 1 v6
set_option maxHeartbeats 4000000 in
theorem ul_isGrace_8 {G : Nat → Nat} {ad : Nat → Nat → Nat} {P0 : xP} {r : Int32} {h : xH} {s : mS} (M : Mx G ad P0 h s) (x1 : Int32) (x2 : Int32) : ∀ (n : Nat) (x3 : Int32) (x4 : Int32), FM_isGrace_8 s x1 x2 n x3 x4 = some r → Gr (F_X11_isGrace_8 G h (ad 19 0) x1 x2 n x3 x4) r := by
  intro n
  induction n with
  | zero =>
    intro x3 x4 hF
    rw [FM_isGrace_8.eq_1] at hF
    cases hF
  | succ n ih =>
    intro x3 x4 hF
    rw [FM_isGrace_8.eq_2] at hF
    rw [F_X11_isGrace_8.eq_2]
    refine Gr.b (M.gR' (k := 20) rfl) ?_
    replace hF := xbind hF; obtain ⟨v2, ev2, hF⟩ := hF
    refine Gr.b (M.ld (k := 20) rfl ev2) ?_
    by_cases c3 : ((10 * x1) + v2) ≤ x4
    · replace hF := xift c3 hF
      refine Gr.t c3 ?_
      replace hF := xguard hF; obtain ⟨c4, hF⟩ := hF
      refine Gr.g c4 ?_
      exact hF
    · replace hF := xiff c3 hF
      refine Gr.f c3 ?_
      by_cases c5 : x3 = 0
      · replace hF := xift c5 hF
        refine Gr.t c5 ?_
        refine Gr.b (M.gR' (k := 21) rfl) ?_
        replace hF := xbind hF; obtain ⟨v7, ev7, hF⟩ := hF
        refine Gr.b (M.ld (k := 21) rfl ev7) ?_
        by_cases c8 : x2 < v7
        · replace hF := xift c8 hF
          refine Gr.t c8 ?_
          obtain ⟨v9, ev9⟩ : ∃ z : Int32, z = (x4 + 1) := ⟨_, rfl⟩
          replace hF := xlet ev9 hF
          refine Gr.l ev9 ?_
          exact ih 0 v9 hF
        · replace hF := xiff c8 hF
          refine Gr.f c8 ?_
          refine Gr.b (M.gR' (k := 22) rfl) ?_
          replace hF := xbind hF; obtain ⟨v10, ev10, hF⟩ := hF
          refine Gr.b (M.ld (k := 22) rfl ev10) ?_
          by_cases c11 : v10 < x2
          · replace hF := xift c11 hF
            refine Gr.t c11 ?_
            obtain ⟨v12, ev12⟩ : ∃ z : Int32, z = (x4 + 1) := ⟨_, rfl⟩
            replace hF := xlet ev12 hF
            refine Gr.l ev12 ?_
            exact ih 0 v12 hF
          · replace hF := xiff c11 hF
            refine Gr.f c11 ?_
            obtain ⟨v13, ev13⟩ : ∃ z : Int32, z = (x4 + 1) := ⟨_, rfl⟩
            replace hF := xlet ev13 hF
            refine Gr.l ev13 ?_
            exact ih 1 v13 hF
      · replace hF := xiff c5 hF
        refine Gr.f c5 ?_
        obtain ⟨v6, ev6⟩ : ∃ z : Int32, z = (x4 + 1) := ⟨_, rfl⟩
        replace hF := xlet ev6 hF
        refine Gr.l ev6 ?_
        exact ih 1 v6 hF
def FM_isGrace (s : mS) (x1 : Int32) (x2 : Int32) : Option Int32 :=
  xl (10 * x1) fun v1 =>
  FM_isGrace_8 s x1 x2 xN 0 v1
set_option maxHeartbeats 4000000 in
theorem u_isGrace {G : Nat → Nat} {ad : Nat → Nat → Nat} {P0 : xP} {h : xH} {s : mS} {x1 : Int32} {x2 : Int32} {r : Int32} (M : Mx G ad P0 h s) (hF : FM_isGrace s x1 x2 = some r) : Gr (F_X11_isGrace G h (ad 19 0) x1 x2) r := by
  unfold FM_isGrace at hF
  unfold F_X11_isGrace
  obtain ⟨v1, ev1⟩ : ∃ z : Int32, z = (10 * x1) := ⟨_, rfl⟩
  replace hF := xlet ev1 hF
  refine Gr.l ev1 ?_
  exact ul_isGrace_8 M x1 x2 _ 0 v1 hF
def FM_spans_94 (x1 : Int32) (x4 : Int32) : Nat → mS → Int32 → Option mS
  | 0, _, _ => none
  | n + 1, s, x5 =>
    if x4 < x5 then
      some s
    else
    if 601 ≤ x5 then
      some s
    else
    (FM_isGrace s x1 x5).bind fun v18 =>
    if v18 = 0 then
      (mld s 16 x1).bind fun v21 =>
      (FM_addTick s v21 x5).bind fun s22 =>
      xl (mI s22 23 x5) fun s24 =>
      xl (x5 + 1) fun v26 =>
      FM_spans_94 x1 x4 n s24 v26
    else
    xl (x5 + 1) fun v20 =>
    FM_spans_94 x1 x4 n s v20
set_option maxHeartbeats 4000000 in
theorem ul_spans_94 {G : Nat → Nat} {ad : Nat → Nat → Nat} {P0 : xP} {s' : mS} (x1 : Int32) (x4 : Int32) : ∀ (n : Nat) (s : mS) (x5 : Int32) (h : xH), Mx G ad P0 h s → FM_spans_94 x1 x4 n s x5 = some s' → Gv (F_X11_spans_94 G (ad 19 0) x1 x4 n h x5) (fun h' => Mx G ad P0 h' s') := by
  intro n
  induction n with
  | zero =>
    intro s x5 h M hF
    rw [FM_spans_94.eq_1] at hF
    cases hF
  | succ n ih =>
    intro s x5 h M hF
    rw [FM_spans_94.eq_2] at hF
    rw [F_X11_spans_94.eq_2]
    by_cases c16 : x4 < x5
    · replace hF := xift c16 hF
      refine Gv.t c16 ?_
      cases hF
      exact ⟨_, rfl, M⟩
    · replace hF := xiff c16 hF
      refine Gv.f c16 ?_
      by_cases c17 : 601 ≤ x5
      · replace hF := xift c17 hF
        refine Gv.t c17 ?_
        cases hF
        exact ⟨_, rfl, M⟩
      · replace hF := xiff c17 hF
        refine Gv.f c17 ?_
        refine Gv.b M.xc' ?_
        replace hF := xbind hF; obtain ⟨v18, ev18, hF⟩ := hF
        refine Gv.b (u_isGrace M ev18) ?_
        by_cases c19 : v18 = 0
        · replace hF := xift c19 hF
          refine Gv.t c19 ?_
          refine Gv.b (M.gR' (k := 16) rfl) ?_
          replace hF := xbind hF; obtain ⟨v21, ev21, hF⟩ := hF
          refine Gv.b (M.ld (k := 16) rfl ev21) ?_
          refine Gv.b M.xc' ?_
          replace hF := xbind hF; obtain ⟨s22, es22, hF⟩ := hF
          replace M := u_addTick M es22
          obtain ⟨h23, eh23, M⟩ := M
          refine Gv.b eh23 ?_
          obtain ⟨s24, es24⟩ : ∃ z : mS, z = (mI s22 23 x5) := ⟨_, rfl⟩
          replace hF := xlet es24 hF
          replace M := M.put (k := 23) (v := .int x5) s24 (by decide) (by rw [es24]; rfl) (by rw [es24]; rfl)
          obtain ⟨h25, eh25, M⟩ := M
          refine Gv.b eh25 ?_
          obtain ⟨v26, ev26⟩ : ∃ z : Int32, z = (x5 + 1) := ⟨_, rfl⟩
          replace hF := xlet ev26 hF
          refine Gv.l ev26 ?_
          exact ih s24 v26 _ M hF
        · replace hF := xiff c19 hF
          refine Gv.f c19 ?_
          obtain ⟨v20, ev20⟩ : ∃ z : Int32, z = (x5 + 1) := ⟨_, rfl⟩
          replace hF := xlet ev20 hF
          refine Gv.l ev20 ?_
          exact ih s v20 _ M hF
def FM_spans (s : mS) (x1 : Int32) (x2 : Int32) : Option mS :=
  (mld s 19 x1).bind fun v1 =>
  if v1 = 0 then
    (mld s 17 x1).bind fun v3 =>
    xl ((x2 - v3) + 1) fun v4 =>
    (mld s 19 x1).bind fun v5 =>
    if v5 = 0 then
      xl (mJ s 12 0) fun s7 =>
      xl (mJ s7 13 0) fun s9 =>
      xl (mJ s9 14 0) fun s11 =>
      xl (mI s11 23 (-1)) fun s13 =>
      if 0 ≤ v4 then
        FM_spans_94 x1 x2 xN s13 v4
      else
      FM_spans_94 x1 x2 xN s13 0
    else
    (mld s 17 x1).bind fun v27 =>
    xl ((v4 + v27) - 1) fun v28 =>
    xl (mJ s 12 0) fun s29 =>
    xl (mJ s29 13 0) fun s31 =>
    xl (mJ s31 14 0) fun s33 =>
    xl (mI s33 23 (-1)) fun s35 =>
    if 0 ≤ v4 then
      FM_spans_94 x1 v28 xN s35 v4
    else
    FM_spans_94 x1 v28 xN s35 0
  else
  (mld s 17 x1).bind fun v38 =>
  xg (¬ v38 = 0) <|
  (mld s 17 x1).bind fun v40 =>
  xl ((x2 / v38) * v40) fun v41 =>
  (mld s 19 x1).bind fun v42 =>
  if v42 = 0 then
    xl (mJ s 12 0) fun s44 =>
    xl (mJ s44 13 0) fun s46 =>
    xl (mJ s46 14 0) fun s48 =>
    xl (mI s48 23 (-1)) fun s50 =>
    if 0 ≤ v41 then
      FM_spans_94 x1 x2 xN s50 v41
    else
    FM_spans_94 x1 x2 xN s50 0
  else
  (mld s 17 x1).bind fun v53 =>
  xl ((v41 + v53) - 1) fun v54 =>
  xl (mJ s 12 0) fun s55 =>
  xl (mJ s55 13 0) fun s57 =>
  xl (mJ s57 14 0) fun s59 =>
  xl (mI s59 23 (-1)) fun s61 =>
  if 0 ≤ v41 then
    FM_spans_94 x1 v54 xN s61 v41
  else
  FM_spans_94 x1 v54 xN s61 0
set_option maxHeartbeats 4000000 in
theorem u_spans {G : Nat → Nat} {ad : Nat → Nat → Nat} {P0 : xP} {h : xH} {s : mS} {x1 : Int32} {x2 : Int32} {s' : mS} (M : Mx G ad P0 h s) (hF : FM_spans s x1 x2 = some s') : Gv (F_X11_spans G h (ad 19 0) x1 x2) (fun h' => Mx G ad P0 h' s') := by
  unfold FM_spans at hF
  unfold F_X11_spans
  refine Gv.b (M.gR' (k := 19) rfl) ?_
  replace hF := xbind hF; obtain ⟨v1, ev1, hF⟩ := hF
  refine Gv.b (M.ldZ (k := 19) rfl ev1) ?_
  by_cases c2 : v1 = 0
  · replace hF := xift c2 hF
    refine Gv.t c2 ?_
    refine Gv.b (M.gR' (k := 17) rfl) ?_
    replace hF := xbind hF; obtain ⟨v3, ev3, hF⟩ := hF
    refine Gv.b (M.ld (k := 17) rfl ev3) ?_
    obtain ⟨v4, ev4⟩ : ∃ z : Int32, z = ((x2 - v3) + 1) := ⟨_, rfl⟩
    replace hF := xlet ev4 hF
    refine Gv.l ev4 ?_
    refine Gv.b (M.gR' (k := 19) rfl) ?_
    replace hF := xbind hF; obtain ⟨v5, ev5, hF⟩ := hF
    refine Gv.b (M.ldZ (k := 19) rfl ev5) ?_
    by_cases c6 : v5 = 0
    · replace hF := xift c6 hF
      refine Gv.t c6 ?_
      obtain ⟨s7, es7⟩ : ∃ z : mS, z = (mJ s 12 0) := ⟨_, rfl⟩
      replace hF := xlet es7 hF
      replace M := M.put (k := 12) (v := .long 0) s7 (by decide) (by rw [es7]; rfl) (by rw [es7]; rfl)
      obtain ⟨h8, eh8, M⟩ := M
      refine Gv.b eh8 ?_
      obtain ⟨s9, es9⟩ : ∃ z : mS, z = (mJ s7 13 0) := ⟨_, rfl⟩
      replace hF := xlet es9 hF
      replace M := M.put (k := 13) (v := .long 0) s9 (by decide) (by rw [es9]; rfl) (by rw [es9]; rfl)
      obtain ⟨h10, eh10, M⟩ := M
      refine Gv.b eh10 ?_
      obtain ⟨s11, es11⟩ : ∃ z : mS, z = (mJ s9 14 0) := ⟨_, rfl⟩
      replace hF := xlet es11 hF
      replace M := M.put (k := 14) (v := .long 0) s11 (by decide) (by rw [es11]; rfl) (by rw [es11]; rfl)
      obtain ⟨h12, eh12, M⟩ := M
      refine Gv.b eh12 ?_
      obtain ⟨s13, es13⟩ : ∃ z : mS, z = (mI s11 23 (-1)) := ⟨_, rfl⟩
      replace hF := xlet es13 hF
      replace M := M.put (k := 23) (v := .int (-1)) s13 (by decide) (by rw [es13]; rfl) (by rw [es13]; rfl)
      obtain ⟨h14, eh14, M⟩ := M
      refine Gv.b eh14 ?_
      by_cases c15 : 0 ≤ v4
      · replace hF := xift c15 hF
        refine Gv.t c15 ?_
        exact ul_spans_94 x1 x2 _ s13 v4 _ M hF
      · replace hF := xiff c15 hF
        refine Gv.f c15 ?_
        exact ul_spans_94 x1 x2 _ s13 0 _ M hF
    · replace hF := xiff c6 hF
      refine Gv.f c6 ?_
      refine Gv.b (M.gR' (k := 17) rfl) ?_
      replace hF := xbind hF; obtain ⟨v27, ev27, hF⟩ := hF
      refine Gv.b (M.ld (k := 17) rfl ev27) ?_
      obtain ⟨v28, ev28⟩ : ∃ z : Int32, z = ((v4 + v27) - 1) := ⟨_, rfl⟩
      replace hF := xlet ev28 hF
      refine Gv.l ev28 ?_
      obtain ⟨s29, es29⟩ : ∃ z : mS, z = (mJ s 12 0) := ⟨_, rfl⟩
      replace hF := xlet es29 hF
      replace M := M.put (k := 12) (v := .long 0) s29 (by decide) (by rw [es29]; rfl) (by rw [es29]; rfl)
      obtain ⟨h30, eh30, M⟩ := M
      refine Gv.b eh30 ?_
      obtain ⟨s31, es31⟩ : ∃ z : mS, z = (mJ s29 13 0) := ⟨_, rfl⟩
      replace hF := xlet es31 hF
      replace M := M.put (k := 13) (v := .long 0) s31 (by decide) (by rw [es31]; rfl) (by rw [es31]; rfl)
      obtain ⟨h32, eh32, M⟩ := M
      refine Gv.b eh32 ?_
      obtain ⟨s33, es33⟩ : ∃ z : mS, z = (mJ s31 14 0) := ⟨_, rfl⟩
      replace hF := xlet es33 hF
      replace M := M.put (k := 14) (v := .long 0) s33 (by decide) (by rw [es33]; rfl) (by rw [es33]; rfl)
      obtain ⟨h34, eh34, M⟩ := M
      refine Gv.b eh34 ?_
      obtain ⟨s35, es35⟩ : ∃ z : mS, z = (mI s33 23 (-1)) := ⟨_, rfl⟩
      replace hF := xlet es35 hF
      replace M := M.put (k := 23) (v := .int (-1)) s35 (by decide) (by rw [es35]; rfl) (by rw [es35]; rfl)
      obtain ⟨h36, eh36, M⟩ := M
      refine Gv.b eh36 ?_
      by_cases c37 : 0 ≤ v4
      · replace hF := xift c37 hF
        refine Gv.t c37 ?_
        exact ul_spans_94 x1 v28 _ s35 v4 _ M hF
      · replace hF := xiff c37 hF
        refine Gv.f c37 ?_
        exact ul_spans_94 x1 v28 _ s35 0 _ M hF
  · replace hF := xiff c2 hF
    refine Gv.f c2 ?_
    refine Gv.b (M.gR' (k := 17) rfl) ?_
    replace hF := xbind hF; obtain ⟨v38, ev38, hF⟩ := hF
    refine Gv.b (M.ld (k := 17) rfl ev38) ?_
    replace hF := xguard hF; obtain ⟨c39, hF⟩ := hF
    refine Gv.g c39 ?_
    refine Gv.b (M.gR' (k := 17) rfl) ?_
    replace hF := xbind hF; obtain ⟨v40, ev40, hF⟩ := hF
    refine Gv.b (M.ld (k := 17) rfl ev40) ?_
    obtain ⟨v41, ev41⟩ : ∃ z : Int32, z = ((x2 / v38) * v40) := ⟨_, rfl⟩
    replace hF := xlet ev41 hF
    refine Gv.l ev41 ?_
    refine Gv.b (M.gR' (k := 19) rfl) ?_
    replace hF := xbind hF; obtain ⟨v42, ev42, hF⟩ := hF
    refine Gv.b (M.ldZ (k := 19) rfl ev42) ?_
    by_cases c43 : v42 = 0
    · replace hF := xift c43 hF
      refine Gv.t c43 ?_
      obtain ⟨s44, es44⟩ : ∃ z : mS, z = (mJ s 12 0) := ⟨_, rfl⟩
      replace hF := xlet es44 hF
      replace M := M.put (k := 12) (v := .long 0) s44 (by decide) (by rw [es44]; rfl) (by rw [es44]; rfl)
      obtain ⟨h45, eh45, M⟩ := M
      refine Gv.b eh45 ?_
      obtain ⟨s46, es46⟩ : ∃ z : mS, z = (mJ s44 13 0) := ⟨_, rfl⟩
      replace hF := xlet es46 hF
      replace M := M.put (k := 13) (v := .long 0) s46 (by decide) (by rw [es46]; rfl) (by rw [es46]; rfl)
      obtain ⟨h47, eh47, M⟩ := M
      refine Gv.b eh47 ?_
      obtain ⟨s48, es48⟩ : ∃ z : mS, z = (mJ s46 14 0) := ⟨_, rfl⟩
      replace hF := xlet es48 hF
      replace M := M.put (k := 14) (v := .long 0) s48 (by decide) (by rw [es48]; rfl) (by rw [es48]; rfl)
      obtain ⟨h49, eh49, M⟩ := M
      refine Gv.b eh49 ?_
      obtain ⟨s50, es50⟩ : ∃ z : mS, z = (mI s48 23 (-1)) := ⟨_, rfl⟩
      replace hF := xlet es50 hF
      replace M := M.put (k := 23) (v := .int (-1)) s50 (by decide) (by rw [es50]; rfl) (by rw [es50]; rfl)
      obtain ⟨h51, eh51, M⟩ := M
      refine Gv.b eh51 ?_
      by_cases c52 : 0 ≤ v41
      · replace hF := xift c52 hF
        refine Gv.t c52 ?_
        exact ul_spans_94 x1 x2 _ s50 v41 _ M hF
      · replace hF := xiff c52 hF
        refine Gv.f c52 ?_
        exact ul_spans_94 x1 x2 _ s50 0 _ M hF
    · replace hF := xiff c43 hF
      refine Gv.f c43 ?_
      refine Gv.b (M.gR' (k := 17) rfl) ?_
      replace hF := xbind hF; obtain ⟨v53, ev53, hF⟩ := hF
      refine Gv.b (M.ld (k := 17) rfl ev53) ?_
      obtain ⟨v54, ev54⟩ : ∃ z : Int32, z = ((v41 + v53) - 1) := ⟨_, rfl⟩
      replace hF := xlet ev54 hF
      refine Gv.l ev54 ?_
      obtain ⟨s55, es55⟩ : ∃ z : mS, z = (mJ s 12 0) := ⟨_, rfl⟩
      replace hF := xlet es55 hF
      replace M := M.put (k := 12) (v := .long 0) s55 (by decide) (by rw [es55]; rfl) (by rw [es55]; rfl)
      obtain ⟨h56, eh56, M⟩ := M
      refine Gv.b eh56 ?_
      obtain ⟨s57, es57⟩ : ∃ z : mS, z = (mJ s55 13 0) := ⟨_, rfl⟩
      replace hF := xlet es57 hF
      replace M := M.put (k := 13) (v := .long 0) s57 (by decide) (by rw [es57]; rfl) (by rw [es57]; rfl)
      obtain ⟨h58, eh58, M⟩ := M
      refine Gv.b eh58 ?_
      obtain ⟨s59, es59⟩ : ∃ z : mS, z = (mJ s57 14 0) := ⟨_, rfl⟩
      replace hF := xlet es59 hF
      replace M := M.put (k := 14) (v := .long 0) s59 (by decide) (by rw [es59]; rfl) (by rw [es59]; rfl)
      obtain ⟨h60, eh60, M⟩ := M
      refine Gv.b eh60 ?_
      obtain ⟨s61, es61⟩ : ∃ z : mS, z = (mI s59 23 (-1)) := ⟨_, rfl⟩
      replace hF := xlet es61 hF
      replace M := M.put (k := 23) (v := .int (-1)) s61 (by decide) (by rw [es61]; rfl) (by rw [es61]; rfl)
      obtain ⟨h62, eh62, M⟩ := M
      refine Gv.b eh62 ?_
      by_cases c63 : 0 ≤ v41
      · replace hF := xift c63 hF
        refine Gv.t c63 ?_
        exact ul_spans_94 x1 v54 _ s61 v41 _ M hF
      · replace hF := xiff c63 hF
        refine Gv.f c63 ?_
        exact ul_spans_94 x1 v54 _ s61 0 _ M hF
def FM_leftOf (s : mS) (x1 : Int32) (y2 : Int64) (y4 : Int64) : Option Int64 :=
  (mld s 18 x1).bind fun v1 =>
  some (((y2 * (((1000 - v1) : Int32).toInt64)) / 1000) - y4)
set_option maxHeartbeats 4000000 in
theorem u_leftOf {G : Nat → Nat} {ad : Nat → Nat → Nat} {P0 : xP} {h : xH} {s : mS} {x1 : Int32} {y2 : Int64} {y4 : Int64} {r : Int64} (M : Mx G ad P0 h s) (hF : FM_leftOf s x1 y2 y4 = some r) : Gr (F_X11_leftOf G h (ad 19 0) x1 y2 y4) r := by
  unfold FM_leftOf at hF
  unfold F_X11_leftOf
  refine Gr.b (M.gR' (k := 18) rfl) ?_
  replace hF := xbind hF; obtain ⟨v1, ev1, hF⟩ := hF
  refine Gr.b (M.ld (k := 18) rfl ev1) ?_
  exact hF
def FM_least (s : mS) (x1 : Int32) : Option Int64 :=
  (FM_leftOf s x1 ((s.2.1 12) + (s.2.1 14)) ((s.2.1 13) + (s.2.1 14))).bind fun v1 =>
  some v1
set_option maxHeartbeats 4000000 in
theorem u_least {G : Nat → Nat} {ad : Nat → Nat → Nat} {P0 : xP} {h : xH} {s : mS} {x1 : Int32} {r : Int64} (M : Mx G ad P0 h s) (hF : FM_least s x1 = some r) : Gr (F_X11_least G h (ad 19 0) x1) r := by
  unfold FM_least at hF
  unfold F_X11_least
  refine Gr.b (M.gJ' (k := 12) rfl) ?_
  refine Gr.b (M.gJ' (k := 14) rfl) ?_
  refine Gr.b (M.gJ' (k := 13) rfl) ?_
  refine Gr.b (M.gJ' (k := 14) rfl) ?_
  refine Gr.b M.xc' ?_
  replace hF := xbind hF; obtain ⟨v1, ev1, hF⟩ := hF
  refine Gr.b (u_leftOf M ev1) ?_
  exact hF
def FM_greatest (s : mS) (x1 : Int32) : Option Int64 :=
  (FM_leftOf s x1 ((s.2.1 12) + (s.2.1 14)) (s.2.1 13)).bind fun v1 =>
  some v1
set_option maxHeartbeats 4000000 in
theorem u_greatest {G : Nat → Nat} {ad : Nat → Nat → Nat} {P0 : xP} {h : xH} {s : mS} {x1 : Int32} {r : Int64} (M : Mx G ad P0 h s) (hF : FM_greatest s x1 = some r) : Gr (F_X11_greatest G h (ad 19 0) x1) r := by
  unfold FM_greatest at hF
  unfold F_X11_greatest
  refine Gr.b (M.gJ' (k := 12) rfl) ?_
  refine Gr.b (M.gJ' (k := 14) rfl) ?_
  refine Gr.b (M.gJ' (k := 13) rfl) ?_
  refine Gr.b M.xc' ?_
  replace hF := xbind hF; obtain ⟨v1, ev1, hF⟩ := hF
  refine Gr.b (u_leftOf M ev1) ?_
  exact hF
def FM_isWhole (s : mS) (x1 : Int32) : Option Int32 :=
  (mld s 18 x1).bind fun v1 =>
  if 0 < (lg_cmp ((s.2.1 13) * 1000) ((s.2.1 12) * (((1000 - v1) : Int32).toInt64))) then
    some 0
  else
  some 1
set_option maxHeartbeats 4000000 in
theorem u_isWhole {G : Nat → Nat} {ad : Nat → Nat → Nat} {P0 : xP} {h : xH} {s : mS} {x1 : Int32} {r : Int32} (M : Mx G ad P0 h s) (hF : FM_isWhole s x1 = some r) : Gr (F_X11_isWhole G h (ad 19 0) x1) r := by
  unfold FM_isWhole at hF
  unfold F_X11_isWhole
  refine Gr.b (M.gJ' (k := 13) rfl) ?_
  refine Gr.b (M.gJ' (k := 12) rfl) ?_
  refine Gr.b (M.gR' (k := 18) rfl) ?_
  replace hF := xbind hF; obtain ⟨v1, ev1, hF⟩ := hF
  refine Gr.b (M.ld (k := 18) rfl ev1) ?_
  by_cases c2 : 0 < (lg_cmp ((s.2.1 13) * 1000) ((s.2.1 12) * (((1000 - v1) : Int32).toInt64)))
  · replace hF := xift c2 hF
    refine Gr.t c2 ?_
    exact hF
  · replace hF := xiff c2 hF
    refine Gr.f c2 ?_
    exact hF
def FM_settledAt_4 (s : mS) (x1 : Int32) : Nat → Int32 → Int32 → Option Int32
  | 0, _, _ => none
  | n + 1, x2, x3 =>
    if (s.1 2) ≤ x3 then
      some x2
    else
    if (s.1 23) < 0 then
      some x2
    else
    (mld s 3 x3).bind fun v3 =>
    (mld s 16 x1).bind fun v4 =>
    if v3 = v4 then
      (mld s 4 x3).bind fun v7 =>
      if (((s.1 23) + v7) + 1) ≤ x2 then
        xl (x3 + 1) fun v9 =>
        FM_settledAt_4 s x1 n x2 v9
      else
      (mld s 4 x3).bind fun v10 =>
      xl (((s.1 23) + v10) + 1) fun v11 =>
      xl (x3 + 1) fun v12 =>
      FM_settledAt_4 s x1 n v11 v12
    else
    xl (x3 + 1) fun v6 =>
    FM_settledAt_4 s x1 n x2 v6
set_option maxHeartbeats 4000000 in
theorem ul_settledAt_4 {G : Nat → Nat} {ad : Nat → Nat → Nat} {P0 : xP} {r : Int32} {h : xH} {s : mS} (M : Mx G ad P0 h s) (x1 : Int32) : ∀ (n : Nat) (x2 : Int32) (x3 : Int32), FM_settledAt_4 s x1 n x2 x3 = some r → Gr (F_X11_settledAt_4 G h (ad 19 0) x1 n x2 x3) r := by
  intro n
  induction n with
  | zero =>
    intro x2 x3 hF
    rw [FM_settledAt_4.eq_1] at hF
    cases hF
  | succ n ih =>
    intro x2 x3 hF
    rw [FM_settledAt_4.eq_2] at hF
    rw [F_X11_settledAt_4.eq_2]
    refine Gr.b (M.gI' (k := 2) rfl) ?_
    by_cases c1 : (s.1 2) ≤ x3
    · replace hF := xift c1 hF
      refine Gr.t c1 ?_
      exact hF
    · replace hF := xiff c1 hF
      refine Gr.f c1 ?_
      refine Gr.b (M.gI' (k := 23) rfl) ?_
      by_cases c2 : (s.1 23) < 0
      · replace hF := xift c2 hF
        refine Gr.t c2 ?_
        exact hF
      · replace hF := xiff c2 hF
        refine Gr.f c2 ?_
        refine Gr.b (M.gR' (k := 3) rfl) ?_
        replace hF := xbind hF; obtain ⟨v3, ev3, hF⟩ := hF
        refine Gr.b (M.ld (k := 3) rfl ev3) ?_
        refine Gr.b (M.gR' (k := 16) rfl) ?_
        replace hF := xbind hF; obtain ⟨v4, ev4, hF⟩ := hF
        refine Gr.b (M.ld (k := 16) rfl ev4) ?_
        by_cases c5 : v3 = v4
        · replace hF := xift c5 hF
          refine Gr.t c5 ?_
          refine Gr.b (M.gI' (k := 23) rfl) ?_
          refine Gr.b (M.gR' (k := 4) rfl) ?_
          replace hF := xbind hF; obtain ⟨v7, ev7, hF⟩ := hF
          refine Gr.b (M.ld (k := 4) rfl ev7) ?_
          by_cases c8 : (((s.1 23) + v7) + 1) ≤ x2
          · replace hF := xift c8 hF
            refine Gr.t c8 ?_
            obtain ⟨v9, ev9⟩ : ∃ z : Int32, z = (x3 + 1) := ⟨_, rfl⟩
            replace hF := xlet ev9 hF
            refine Gr.l ev9 ?_
            exact ih x2 v9 hF
          · replace hF := xiff c8 hF
            refine Gr.f c8 ?_
            refine Gr.b (M.gI' (k := 23) rfl) ?_
            refine Gr.b (M.gR' (k := 4) rfl) ?_
            replace hF := xbind hF; obtain ⟨v10, ev10, hF⟩ := hF
            refine Gr.b (M.ld (k := 4) rfl ev10) ?_
            obtain ⟨v11, ev11⟩ : ∃ z : Int32, z = (((s.1 23) + v10) + 1) := ⟨_, rfl⟩
            replace hF := xlet ev11 hF
            refine Gr.l ev11 ?_
            obtain ⟨v12, ev12⟩ : ∃ z : Int32, z = (x3 + 1) := ⟨_, rfl⟩
            replace hF := xlet ev12 hF
            refine Gr.l ev12 ?_
            exact ih v11 v12 hF
        · replace hF := xiff c5 hF
          refine Gr.f c5 ?_
          obtain ⟨v6, ev6⟩ : ∃ z : Int32, z = (x3 + 1) := ⟨_, rfl⟩
          replace hF := xlet ev6 hF
          refine Gr.l ev6 ?_
          exact ih x2 v6 hF
def FM_settledAt (s : mS) (x1 : Int32) : Option Int32 :=
  FM_settledAt_4 s x1 xN 0 0
set_option maxHeartbeats 4000000 in
theorem u_settledAt {G : Nat → Nat} {ad : Nat → Nat → Nat} {P0 : xP} {h : xH} {s : mS} {x1 : Int32} {r : Int32} (M : Mx G ad P0 h s) (hF : FM_settledAt s x1 = some r) : Gr (F_X11_settledAt G h (ad 19 0) x1) r := by
  unfold FM_settledAt at hF
  unfold F_X11_settledAt
  exact ul_settledAt_4 M x1 _ 0 0 hF
def FM_span (s : mS) (x1 : Int32) (x2 : Int32) (x3 : Int32) : Option (Int32 × mS) :=
  (FM_isPromise s x1).bind fun v1 =>
  if v1 = 0 then
    xl (mI s 0 1) fun s3 =>
    if (s3.1 0) ≤ 0 then
      (FM_spans s3 x1 x2).bind fun s6 =>
      if x3 = 0 then
        (FM_leftOf s6 x1 (s6.2.1 12) (s6.2.1 13)).bind fun v9 =>
        some (((v9 : Int64).toInt32), s6)
      else
      if x3 = 1 then
        (FM_least s6 x1).bind fun v11 =>
        some (((v11 : Int64).toInt32), s6)
      else
      if x3 = 2 then
        (FM_greatest s6 x1).bind fun v13 =>
        some (((v13 : Int64).toInt32), s6)
      else
      if x3 = 3 then
        (FM_isWhole s6 x1).bind fun v15 =>
        if v15 = 0 then
          some (0, s6)
        else
        some (1, s6)
      else
      if x3 = 4 then
        (FM_least s6 x1).bind fun v18 =>
        if (lg_cmp v18 0) < 0 then
          (FM_greatest s6 x1).bind fun v20 =>
          if 0 ≤ (lg_cmp v20 0) then
            some (0, s6)
          else
          some (2, s6)
        else
        some (1, s6)
      else
      if x3 = 5 then
        (FM_settledAt s6 x1).bind fun v23 =>
        some (v23, s6)
      else
      if x3 = 6 then
        some ((((s6.2.1 12) : Int64).toInt32), s6)
      else
      some ((((s6.2.1 13) : Int64).toInt32), s6)
    else
    some (0, s3)
  else
  if x2 < 0 then
    xl (mI s 0 1) fun s26 =>
    if (s26.1 0) ≤ 0 then
      (FM_spans s26 x1 x2).bind fun s29 =>
      if x3 = 0 then
        (FM_leftOf s29 x1 (s29.2.1 12) (s29.2.1 13)).bind fun v32 =>
        some (((v32 : Int64).toInt32), s29)
      else
      if x3 = 1 then
        (FM_least s29 x1).bind fun v34 =>
        some (((v34 : Int64).toInt32), s29)
      else
      if x3 = 2 then
        (FM_greatest s29 x1).bind fun v36 =>
        some (((v36 : Int64).toInt32), s29)
      else
      if x3 = 3 then
        (FM_isWhole s29 x1).bind fun v38 =>
        if v38 = 0 then
          some (0, s29)
        else
        some (1, s29)
      else
      if x3 = 4 then
        (FM_least s29 x1).bind fun v41 =>
        if (lg_cmp v41 0) < 0 then
          (FM_greatest s29 x1).bind fun v43 =>
          if 0 ≤ (lg_cmp v43 0) then
            some (0, s29)
          else
          some (2, s29)
        else
        some (1, s29)
      else
      if x3 = 5 then
        (FM_settledAt s29 x1).bind fun v46 =>
        some (v46, s29)
      else
      if x3 = 6 then
        some ((((s29.2.1 12) : Int64).toInt32), s29)
      else
      some ((((s29.2.1 13) : Int64).toInt32), s29)
    else
    some (0, s26)
  else
  if 600 < x2 then
    xl (mI s 0 1) fun s49 =>
    if (s49.1 0) ≤ 0 then
      (FM_spans s49 x1 x2).bind fun s52 =>
      if x3 = 0 then
        (FM_leftOf s52 x1 (s52.2.1 12) (s52.2.1 13)).bind fun v55 =>
        some (((v55 : Int64).toInt32), s52)
      else
      if x3 = 1 then
        (FM_least s52 x1).bind fun v57 =>
        some (((v57 : Int64).toInt32), s52)
      else
      if x3 = 2 then
        (FM_greatest s52 x1).bind fun v59 =>
        some (((v59 : Int64).toInt32), s52)
      else
      if x3 = 3 then
        (FM_isWhole s52 x1).bind fun v61 =>
        if v61 = 0 then
          some (0, s52)
        else
        some (1, s52)
      else
      if x3 = 4 then
        (FM_least s52 x1).bind fun v64 =>
        if (lg_cmp v64 0) < 0 then
          (FM_greatest s52 x1).bind fun v66 =>
          if 0 ≤ (lg_cmp v66 0) then
            some (0, s52)
          else
          some (2, s52)
        else
        some (1, s52)
      else
      if x3 = 5 then
        (FM_settledAt s52 x1).bind fun v69 =>
        some (v69, s52)
      else
      if x3 = 6 then
        some ((((s52.2.1 12) : Int64).toInt32), s52)
      else
      some ((((s52.2.1 13) : Int64).toInt32), s52)
    else
    some (0, s49)
  else
  if x3 < 0 then
    xl (mI s 0 1) fun s72 =>
    if (s72.1 0) ≤ 0 then
      (FM_spans s72 x1 x2).bind fun s75 =>
      if x3 = 0 then
        (FM_leftOf s75 x1 (s75.2.1 12) (s75.2.1 13)).bind fun v78 =>
        some (((v78 : Int64).toInt32), s75)
      else
      if x3 = 1 then
        (FM_least s75 x1).bind fun v80 =>
        some (((v80 : Int64).toInt32), s75)
      else
      if x3 = 2 then
        (FM_greatest s75 x1).bind fun v82 =>
        some (((v82 : Int64).toInt32), s75)
      else
      if x3 = 3 then
        (FM_isWhole s75 x1).bind fun v84 =>
        if v84 = 0 then
          some (0, s75)
        else
        some (1, s75)
      else
      if x3 = 4 then
        (FM_least s75 x1).bind fun v87 =>
        if (lg_cmp v87 0) < 0 then
          (FM_greatest s75 x1).bind fun v89 =>
          if 0 ≤ (lg_cmp v89 0) then
            some (0, s75)
          else
          some (2, s75)
        else
        some (1, s75)
      else
      if x3 = 5 then
        (FM_settledAt s75 x1).bind fun v92 =>
        some (v92, s75)
      else
      if x3 = 6 then
        some ((((s75.2.1 12) : Int64).toInt32), s75)
      else
      some ((((s75.2.1 13) : Int64).toInt32), s75)
    else
    some (0, s72)
  else
  if 7 < x3 then
    xl (mI s 0 1) fun s95 =>
    if (s95.1 0) ≤ 0 then
      (FM_spans s95 x1 x2).bind fun s98 =>
      if x3 = 0 then
        (FM_leftOf s98 x1 (s98.2.1 12) (s98.2.1 13)).bind fun v101 =>
        some (((v101 : Int64).toInt32), s98)
      else
      if x3 = 1 then
        (FM_least s98 x1).bind fun v103 =>
        some (((v103 : Int64).toInt32), s98)
      else
      if x3 = 2 then
        (FM_greatest s98 x1).bind fun v105 =>
        some (((v105 : Int64).toInt32), s98)
      else
      if x3 = 3 then
        (FM_isWhole s98 x1).bind fun v107 =>
        if v107 = 0 then
          some (0, s98)
        else
        some (1, s98)
      else
      if x3 = 4 then
        (FM_least s98 x1).bind fun v110 =>
        if (lg_cmp v110 0) < 0 then
          (FM_greatest s98 x1).bind fun v112 =>
          if 0 ≤ (lg_cmp v112 0) then
            some (0, s98)
          else
          some (2, s98)
        else
        some (1, s98)
      else
      if x3 = 5 then
        (FM_settledAt s98 x1).bind fun v115 =>
        some (v115, s98)
      else
      if x3 = 6 then
        some ((((s98.2.1 12) : Int64).toInt32), s98)
      else
      some ((((s98.2.1 13) : Int64).toInt32), s98)
    else
    some (0, s95)
  else
  xl (mI s 0 0) fun s117 =>
  if (s117.1 0) ≤ 0 then
    (FM_spans s117 x1 x2).bind fun s120 =>
    if x3 = 0 then
      (FM_leftOf s120 x1 (s120.2.1 12) (s120.2.1 13)).bind fun v123 =>
      some (((v123 : Int64).toInt32), s120)
    else
    if x3 = 1 then
      (FM_least s120 x1).bind fun v125 =>
      some (((v125 : Int64).toInt32), s120)
    else
    if x3 = 2 then
      (FM_greatest s120 x1).bind fun v127 =>
      some (((v127 : Int64).toInt32), s120)
    else
    if x3 = 3 then
      (FM_isWhole s120 x1).bind fun v129 =>
      if v129 = 0 then
        some (0, s120)
      else
      some (1, s120)
    else
    if x3 = 4 then
      (FM_least s120 x1).bind fun v132 =>
      if (lg_cmp v132 0) < 0 then
        (FM_greatest s120 x1).bind fun v134 =>
        if 0 ≤ (lg_cmp v134 0) then
          some (0, s120)
        else
        some (2, s120)
      else
      some (1, s120)
    else
    if x3 = 5 then
      (FM_settledAt s120 x1).bind fun v137 =>
      some (v137, s120)
    else
    if x3 = 6 then
      some ((((s120.2.1 12) : Int64).toInt32), s120)
    else
    some ((((s120.2.1 13) : Int64).toInt32), s120)
  else
  some (0, s117)
set_option maxHeartbeats 4000000 in
theorem u_span {G : Nat → Nat} {ad : Nat → Nat → Nat} {P0 : xP} {h : xH} {s : mS} {x1 : Int32} {x2 : Int32} {x3 : Int32} {r : Int32} {s' : mS} (M : Mx G ad P0 h s) (hF : FM_span s x1 x2 x3 = some (r, s')) : Go (F_X11_span G h (ad 19 0) x1 x2 x3) r (fun h' => Mx G ad P0 h' s') := by
  unfold FM_span at hF
  unfold F_X11_span
  refine Go.b M.xc' ?_
  replace hF := xbind hF; obtain ⟨v1, ev1, hF⟩ := hF
  refine Go.b (u_isPromise M ev1) ?_
  by_cases c2 : v1 = 0
  · replace hF := xift c2 hF
    refine Go.t c2 ?_
    obtain ⟨s3, es3⟩ : ∃ z : mS, z = (mI s 0 1) := ⟨_, rfl⟩
    replace hF := xlet es3 hF
    replace M := M.put (k := 0) (v := .int 1) s3 (by decide) (by rw [es3]; rfl) (by rw [es3]; rfl)
    obtain ⟨h4, eh4, M⟩ := M
    refine Go.b eh4 ?_
    refine Go.b (M.gI' (k := 0) rfl) ?_
    by_cases c5 : (s3.1 0) ≤ 0
    · replace hF := xift c5 hF
      refine Go.t c5 ?_
      refine Go.b M.xc' ?_
      replace hF := xbind hF; obtain ⟨s6, es6, hF⟩ := hF
      replace M := u_spans M es6
      obtain ⟨h7, eh7, M⟩ := M
      refine Go.b eh7 ?_
      by_cases c8 : x3 = 0
      · replace hF := xift c8 hF
        refine Go.t c8 ?_
        refine Go.b (M.gJ' (k := 12) rfl) ?_
        refine Go.b (M.gJ' (k := 13) rfl) ?_
        refine Go.b M.xc' ?_
        replace hF := xbind hF; obtain ⟨v9, ev9, hF⟩ := hF
        refine Go.b (u_leftOf M ev9) ?_
        cases hF
        exact ⟨_, rfl, M⟩
      replace hF := xiff c8 hF
      refine Go.f c8 ?_
      by_cases c10 : x3 = 1
      · replace hF := xift c10 hF
        refine Go.t c10 ?_
        refine Go.b M.xc' ?_
        replace hF := xbind hF; obtain ⟨v11, ev11, hF⟩ := hF
        refine Go.b (u_least M ev11) ?_
        cases hF
        exact ⟨_, rfl, M⟩
      replace hF := xiff c10 hF
      refine Go.f c10 ?_
      by_cases c12 : x3 = 2
      · replace hF := xift c12 hF
        refine Go.t c12 ?_
        refine Go.b M.xc' ?_
        replace hF := xbind hF; obtain ⟨v13, ev13, hF⟩ := hF
        refine Go.b (u_greatest M ev13) ?_
        cases hF
        exact ⟨_, rfl, M⟩
      replace hF := xiff c12 hF
      refine Go.f c12 ?_
      by_cases c14 : x3 = 3
      · replace hF := xift c14 hF
        refine Go.t c14 ?_
        refine Go.b M.xc' ?_
        replace hF := xbind hF; obtain ⟨v15, ev15, hF⟩ := hF
        refine Go.b (u_isWhole M ev15) ?_
        by_cases c16 : v15 = 0
        · replace hF := xift c16 hF
          refine Go.t c16 ?_
          cases hF
          exact ⟨_, rfl, M⟩
        · replace hF := xiff c16 hF
          refine Go.f c16 ?_
          cases hF
          exact ⟨_, rfl, M⟩
      replace hF := xiff c14 hF
      refine Go.f c14 ?_
      by_cases c17 : x3 = 4
      · replace hF := xift c17 hF
        refine Go.t c17 ?_
        refine Go.b M.xc' ?_
        replace hF := xbind hF; obtain ⟨v18, ev18, hF⟩ := hF
        refine Go.b (u_least M ev18) ?_
        by_cases c19 : (lg_cmp v18 0) < 0
        · replace hF := xift c19 hF
          refine Go.t c19 ?_
          refine Go.b M.xc' ?_
          replace hF := xbind hF; obtain ⟨v20, ev20, hF⟩ := hF
          refine Go.b (u_greatest M ev20) ?_
          by_cases c21 : 0 ≤ (lg_cmp v20 0)
          · replace hF := xift c21 hF
            refine Go.t c21 ?_
            cases hF
            exact ⟨_, rfl, M⟩
          · replace hF := xiff c21 hF
            refine Go.f c21 ?_
            cases hF
            exact ⟨_, rfl, M⟩
        · replace hF := xiff c19 hF
          refine Go.f c19 ?_
          cases hF
          exact ⟨_, rfl, M⟩
      replace hF := xiff c17 hF
      refine Go.f c17 ?_
      by_cases c22 : x3 = 5
      · replace hF := xift c22 hF
        refine Go.t c22 ?_
        refine Go.b M.xc' ?_
        replace hF := xbind hF; obtain ⟨v23, ev23, hF⟩ := hF
        refine Go.b (u_settledAt M ev23) ?_
        cases hF
        exact ⟨_, rfl, M⟩
      replace hF := xiff c22 hF
      refine Go.f c22 ?_
      by_cases c24 : x3 = 6
      · replace hF := xift c24 hF
        refine Go.t c24 ?_
        refine Go.b (M.gJ' (k := 12) rfl) ?_
        cases hF
        exact ⟨_, rfl, M⟩
      replace hF := xiff c24 hF
      refine Go.f c24 ?_
      refine Go.b (M.gJ' (k := 13) rfl) ?_
      cases hF
      exact ⟨_, rfl, M⟩
    · replace hF := xiff c5 hF
      refine Go.f c5 ?_
      cases hF
      exact ⟨_, rfl, M⟩
  · replace hF := xiff c2 hF
    refine Go.f c2 ?_
    by_cases c25 : x2 < 0
    · replace hF := xift c25 hF
      refine Go.t c25 ?_
      obtain ⟨s26, es26⟩ : ∃ z : mS, z = (mI s 0 1) := ⟨_, rfl⟩
      replace hF := xlet es26 hF
      replace M := M.put (k := 0) (v := .int 1) s26 (by decide) (by rw [es26]; rfl) (by rw [es26]; rfl)
      obtain ⟨h27, eh27, M⟩ := M
      refine Go.b eh27 ?_
      refine Go.b (M.gI' (k := 0) rfl) ?_
      by_cases c28 : (s26.1 0) ≤ 0
      · replace hF := xift c28 hF
        refine Go.t c28 ?_
        refine Go.b M.xc' ?_
        replace hF := xbind hF; obtain ⟨s29, es29, hF⟩ := hF
        replace M := u_spans M es29
        obtain ⟨h30, eh30, M⟩ := M
        refine Go.b eh30 ?_
        by_cases c31 : x3 = 0
        · replace hF := xift c31 hF
          refine Go.t c31 ?_
          refine Go.b (M.gJ' (k := 12) rfl) ?_
          refine Go.b (M.gJ' (k := 13) rfl) ?_
          refine Go.b M.xc' ?_
          replace hF := xbind hF; obtain ⟨v32, ev32, hF⟩ := hF
          refine Go.b (u_leftOf M ev32) ?_
          cases hF
          exact ⟨_, rfl, M⟩
        replace hF := xiff c31 hF
        refine Go.f c31 ?_
        by_cases c33 : x3 = 1
        · replace hF := xift c33 hF
          refine Go.t c33 ?_
          refine Go.b M.xc' ?_
          replace hF := xbind hF; obtain ⟨v34, ev34, hF⟩ := hF
          refine Go.b (u_least M ev34) ?_
          cases hF
          exact ⟨_, rfl, M⟩
        replace hF := xiff c33 hF
        refine Go.f c33 ?_
        by_cases c35 : x3 = 2
        · replace hF := xift c35 hF
          refine Go.t c35 ?_
          refine Go.b M.xc' ?_
          replace hF := xbind hF; obtain ⟨v36, ev36, hF⟩ := hF
          refine Go.b (u_greatest M ev36) ?_
          cases hF
          exact ⟨_, rfl, M⟩
        replace hF := xiff c35 hF
        refine Go.f c35 ?_
        by_cases c37 : x3 = 3
        · replace hF := xift c37 hF
          refine Go.t c37 ?_
          refine Go.b M.xc' ?_
          replace hF := xbind hF; obtain ⟨v38, ev38, hF⟩ := hF
          refine Go.b (u_isWhole M ev38) ?_
          by_cases c39 : v38 = 0
          · replace hF := xift c39 hF
            refine Go.t c39 ?_
            cases hF
            exact ⟨_, rfl, M⟩
          · replace hF := xiff c39 hF
            refine Go.f c39 ?_
            cases hF
            exact ⟨_, rfl, M⟩
        replace hF := xiff c37 hF
        refine Go.f c37 ?_
        by_cases c40 : x3 = 4
        · replace hF := xift c40 hF
          refine Go.t c40 ?_
          refine Go.b M.xc' ?_
          replace hF := xbind hF; obtain ⟨v41, ev41, hF⟩ := hF
          refine Go.b (u_least M ev41) ?_
          by_cases c42 : (lg_cmp v41 0) < 0
          · replace hF := xift c42 hF
            refine Go.t c42 ?_
            refine Go.b M.xc' ?_
            replace hF := xbind hF; obtain ⟨v43, ev43, hF⟩ := hF
            refine Go.b (u_greatest M ev43) ?_
            by_cases c44 : 0 ≤ (lg_cmp v43 0)
            · replace hF := xift c44 hF
              refine Go.t c44 ?_
              cases hF
              exact ⟨_, rfl, M⟩
            · replace hF := xiff c44 hF
              refine Go.f c44 ?_
              cases hF
              exact ⟨_, rfl, M⟩
          · replace hF := xiff c42 hF
            refine Go.f c42 ?_
            cases hF
            exact ⟨_, rfl, M⟩
        replace hF := xiff c40 hF
        refine Go.f c40 ?_
        by_cases c45 : x3 = 5
        · replace hF := xift c45 hF
          refine Go.t c45 ?_
          refine Go.b M.xc' ?_
          replace hF := xbind hF; obtain ⟨v46, ev46, hF⟩ := hF
          refine Go.b (u_settledAt M ev46) ?_
          cases hF
          exact ⟨_, rfl, M⟩
        replace hF := xiff c45 hF
        refine Go.f c45 ?_
        by_cases c47 : x3 = 6
        · replace hF := xift c47 hF
          refine Go.t c47 ?_
          refine Go.b (M.gJ' (k := 12) rfl) ?_
          cases hF
          exact ⟨_, rfl, M⟩
        replace hF := xiff c47 hF
        refine Go.f c47 ?_
        refine Go.b (M.gJ' (k := 13) rfl) ?_
        cases hF
        exact ⟨_, rfl, M⟩
      · replace hF := xiff c28 hF
        refine Go.f c28 ?_
        cases hF
        exact ⟨_, rfl, M⟩
    · replace hF := xiff c25 hF
      refine Go.f c25 ?_
      by_cases c48 : 600 < x2
      · replace hF := xift c48 hF
        refine Go.t c48 ?_
        obtain ⟨s49, es49⟩ : ∃ z : mS, z = (mI s 0 1) := ⟨_, rfl⟩
        replace hF := xlet es49 hF
        replace M := M.put (k := 0) (v := .int 1) s49 (by decide) (by rw [es49]; rfl) (by rw [es49]; rfl)
        obtain ⟨h50, eh50, M⟩ := M
        refine Go.b eh50 ?_
        refine Go.b (M.gI' (k := 0) rfl) ?_
        by_cases c51 : (s49.1 0) ≤ 0
        · replace hF := xift c51 hF
          refine Go.t c51 ?_
          refine Go.b M.xc' ?_
          replace hF := xbind hF; obtain ⟨s52, es52, hF⟩ := hF
          replace M := u_spans M es52
          obtain ⟨h53, eh53, M⟩ := M
          refine Go.b eh53 ?_
          by_cases c54 : x3 = 0
          · replace hF := xift c54 hF
            refine Go.t c54 ?_
            refine Go.b (M.gJ' (k := 12) rfl) ?_
            refine Go.b (M.gJ' (k := 13) rfl) ?_
            refine Go.b M.xc' ?_
            replace hF := xbind hF; obtain ⟨v55, ev55, hF⟩ := hF
            refine Go.b (u_leftOf M ev55) ?_
            cases hF
            exact ⟨_, rfl, M⟩
          replace hF := xiff c54 hF
          refine Go.f c54 ?_
          by_cases c56 : x3 = 1
          · replace hF := xift c56 hF
            refine Go.t c56 ?_
            refine Go.b M.xc' ?_
            replace hF := xbind hF; obtain ⟨v57, ev57, hF⟩ := hF
            refine Go.b (u_least M ev57) ?_
            cases hF
            exact ⟨_, rfl, M⟩
          replace hF := xiff c56 hF
          refine Go.f c56 ?_
          by_cases c58 : x3 = 2
          · replace hF := xift c58 hF
            refine Go.t c58 ?_
            refine Go.b M.xc' ?_
            replace hF := xbind hF; obtain ⟨v59, ev59, hF⟩ := hF
            refine Go.b (u_greatest M ev59) ?_
            cases hF
            exact ⟨_, rfl, M⟩
          replace hF := xiff c58 hF
          refine Go.f c58 ?_
          by_cases c60 : x3 = 3
          · replace hF := xift c60 hF
            refine Go.t c60 ?_
            refine Go.b M.xc' ?_
            replace hF := xbind hF; obtain ⟨v61, ev61, hF⟩ := hF
            refine Go.b (u_isWhole M ev61) ?_
            by_cases c62 : v61 = 0
            · replace hF := xift c62 hF
              refine Go.t c62 ?_
              cases hF
              exact ⟨_, rfl, M⟩
            · replace hF := xiff c62 hF
              refine Go.f c62 ?_
              cases hF
              exact ⟨_, rfl, M⟩
          replace hF := xiff c60 hF
          refine Go.f c60 ?_
          by_cases c63 : x3 = 4
          · replace hF := xift c63 hF
            refine Go.t c63 ?_
            refine Go.b M.xc' ?_
            replace hF := xbind hF; obtain ⟨v64, ev64, hF⟩ := hF
            refine Go.b (u_least M ev64) ?_
            by_cases c65 : (lg_cmp v64 0) < 0
            · replace hF := xift c65 hF
              refine Go.t c65 ?_
              refine Go.b M.xc' ?_
              replace hF := xbind hF; obtain ⟨v66, ev66, hF⟩ := hF
              refine Go.b (u_greatest M ev66) ?_
              by_cases c67 : 0 ≤ (lg_cmp v66 0)
              · replace hF := xift c67 hF
                refine Go.t c67 ?_
                cases hF
                exact ⟨_, rfl, M⟩
              · replace hF := xiff c67 hF
                refine Go.f c67 ?_
                cases hF
                exact ⟨_, rfl, M⟩
            · replace hF := xiff c65 hF
              refine Go.f c65 ?_
              cases hF
              exact ⟨_, rfl, M⟩
          replace hF := xiff c63 hF
          refine Go.f c63 ?_
          by_cases c68 : x3 = 5
          · replace hF := xift c68 hF
            refine Go.t c68 ?_
            refine Go.b M.xc' ?_
            replace hF := xbind hF; obtain ⟨v69, ev69, hF⟩ := hF
            refine Go.b (u_settledAt M ev69) ?_
            cases hF
            exact ⟨_, rfl, M⟩
          replace hF := xiff c68 hF
          refine Go.f c68 ?_
          by_cases c70 : x3 = 6
          · replace hF := xift c70 hF
            refine Go.t c70 ?_
            refine Go.b (M.gJ' (k := 12) rfl) ?_
            cases hF
            exact ⟨_, rfl, M⟩
          replace hF := xiff c70 hF
          refine Go.f c70 ?_
          refine Go.b (M.gJ' (k := 13) rfl) ?_
          cases hF
          exact ⟨_, rfl, M⟩
        · replace hF := xiff c51 hF
          refine Go.f c51 ?_
          cases hF
          exact ⟨_, rfl, M⟩
      · replace hF := xiff c48 hF
        refine Go.f c48 ?_
        by_cases c71 : x3 < 0
        · replace hF := xift c71 hF
          refine Go.t c71 ?_
          obtain ⟨s72, es72⟩ : ∃ z : mS, z = (mI s 0 1) := ⟨_, rfl⟩
          replace hF := xlet es72 hF
          replace M := M.put (k := 0) (v := .int 1) s72 (by decide) (by rw [es72]; rfl) (by rw [es72]; rfl)
          obtain ⟨h73, eh73, M⟩ := M
          refine Go.b eh73 ?_
          refine Go.b (M.gI' (k := 0) rfl) ?_
          by_cases c74 : (s72.1 0) ≤ 0
          · replace hF := xift c74 hF
            refine Go.t c74 ?_
            refine Go.b M.xc' ?_
            replace hF := xbind hF; obtain ⟨s75, es75, hF⟩ := hF
            replace M := u_spans M es75
            obtain ⟨h76, eh76, M⟩ := M
            refine Go.b eh76 ?_
            by_cases c77 : x3 = 0
            · replace hF := xift c77 hF
              refine Go.t c77 ?_
              refine Go.b (M.gJ' (k := 12) rfl) ?_
              refine Go.b (M.gJ' (k := 13) rfl) ?_
              refine Go.b M.xc' ?_
              replace hF := xbind hF; obtain ⟨v78, ev78, hF⟩ := hF
              refine Go.b (u_leftOf M ev78) ?_
              cases hF
              exact ⟨_, rfl, M⟩
            replace hF := xiff c77 hF
            refine Go.f c77 ?_
            by_cases c79 : x3 = 1
            · replace hF := xift c79 hF
              refine Go.t c79 ?_
              refine Go.b M.xc' ?_
              replace hF := xbind hF; obtain ⟨v80, ev80, hF⟩ := hF
              refine Go.b (u_least M ev80) ?_
              cases hF
              exact ⟨_, rfl, M⟩
            replace hF := xiff c79 hF
            refine Go.f c79 ?_
            by_cases c81 : x3 = 2
            · replace hF := xift c81 hF
              refine Go.t c81 ?_
              refine Go.b M.xc' ?_
              replace hF := xbind hF; obtain ⟨v82, ev82, hF⟩ := hF
              refine Go.b (u_greatest M ev82) ?_
              cases hF
              exact ⟨_, rfl, M⟩
            replace hF := xiff c81 hF
            refine Go.f c81 ?_
            by_cases c83 : x3 = 3
            · replace hF := xift c83 hF
              refine Go.t c83 ?_
              refine Go.b M.xc' ?_
              replace hF := xbind hF; obtain ⟨v84, ev84, hF⟩ := hF
              refine Go.b (u_isWhole M ev84) ?_
              by_cases c85 : v84 = 0
              · replace hF := xift c85 hF
                refine Go.t c85 ?_
                cases hF
                exact ⟨_, rfl, M⟩
              · replace hF := xiff c85 hF
                refine Go.f c85 ?_
                cases hF
                exact ⟨_, rfl, M⟩
            replace hF := xiff c83 hF
            refine Go.f c83 ?_
            by_cases c86 : x3 = 4
            · replace hF := xift c86 hF
              refine Go.t c86 ?_
              refine Go.b M.xc' ?_
              replace hF := xbind hF; obtain ⟨v87, ev87, hF⟩ := hF
              refine Go.b (u_least M ev87) ?_
              by_cases c88 : (lg_cmp v87 0) < 0
              · replace hF := xift c88 hF
                refine Go.t c88 ?_
                refine Go.b M.xc' ?_
                replace hF := xbind hF; obtain ⟨v89, ev89, hF⟩ := hF
                refine Go.b (u_greatest M ev89) ?_
                by_cases c90 : 0 ≤ (lg_cmp v89 0)
                · replace hF := xift c90 hF
                  refine Go.t c90 ?_
                  cases hF
                  exact ⟨_, rfl, M⟩
                · replace hF := xiff c90 hF
                  refine Go.f c90 ?_
                  cases hF
                  exact ⟨_, rfl, M⟩
              · replace hF := xiff c88 hF
                refine Go.f c88 ?_
                cases hF
                exact ⟨_, rfl, M⟩
            replace hF := xiff c86 hF
            refine Go.f c86 ?_
            by_cases c91 : x3 = 5
            · replace hF := xift c91 hF
              refine Go.t c91 ?_
              refine Go.b M.xc' ?_
              replace hF := xbind hF; obtain ⟨v92, ev92, hF⟩ := hF
              refine Go.b (u_settledAt M ev92) ?_
              cases hF
              exact ⟨_, rfl, M⟩
            replace hF := xiff c91 hF
            refine Go.f c91 ?_
            by_cases c93 : x3 = 6
            · replace hF := xift c93 hF
              refine Go.t c93 ?_
              refine Go.b (M.gJ' (k := 12) rfl) ?_
              cases hF
              exact ⟨_, rfl, M⟩
            replace hF := xiff c93 hF
            refine Go.f c93 ?_
            refine Go.b (M.gJ' (k := 13) rfl) ?_
            cases hF
            exact ⟨_, rfl, M⟩
          · replace hF := xiff c74 hF
            refine Go.f c74 ?_
            cases hF
            exact ⟨_, rfl, M⟩
        · replace hF := xiff c71 hF
          refine Go.f c71 ?_
          by_cases c94 : 7 < x3
          · replace hF := xift c94 hF
            refine Go.t c94 ?_
            obtain ⟨s95, es95⟩ : ∃ z : mS, z = (mI s 0 1) := ⟨_, rfl⟩
            replace hF := xlet es95 hF
            replace M := M.put (k := 0) (v := .int 1) s95 (by decide) (by rw [es95]; rfl) (by rw [es95]; rfl)
            obtain ⟨h96, eh96, M⟩ := M
            refine Go.b eh96 ?_
            refine Go.b (M.gI' (k := 0) rfl) ?_
            by_cases c97 : (s95.1 0) ≤ 0
            · replace hF := xift c97 hF
              refine Go.t c97 ?_
              refine Go.b M.xc' ?_
              replace hF := xbind hF; obtain ⟨s98, es98, hF⟩ := hF
              replace M := u_spans M es98
              obtain ⟨h99, eh99, M⟩ := M
              refine Go.b eh99 ?_
              by_cases c100 : x3 = 0
              · replace hF := xift c100 hF
                refine Go.t c100 ?_
                refine Go.b (M.gJ' (k := 12) rfl) ?_
                refine Go.b (M.gJ' (k := 13) rfl) ?_
                refine Go.b M.xc' ?_
                replace hF := xbind hF; obtain ⟨v101, ev101, hF⟩ := hF
                refine Go.b (u_leftOf M ev101) ?_
                cases hF
                exact ⟨_, rfl, M⟩
              replace hF := xiff c100 hF
              refine Go.f c100 ?_
              by_cases c102 : x3 = 1
              · replace hF := xift c102 hF
                refine Go.t c102 ?_
                refine Go.b M.xc' ?_
                replace hF := xbind hF; obtain ⟨v103, ev103, hF⟩ := hF
                refine Go.b (u_least M ev103) ?_
                cases hF
                exact ⟨_, rfl, M⟩
              replace hF := xiff c102 hF
              refine Go.f c102 ?_
              by_cases c104 : x3 = 2
              · replace hF := xift c104 hF
                refine Go.t c104 ?_
                refine Go.b M.xc' ?_
                replace hF := xbind hF; obtain ⟨v105, ev105, hF⟩ := hF
                refine Go.b (u_greatest M ev105) ?_
                cases hF
                exact ⟨_, rfl, M⟩
              replace hF := xiff c104 hF
              refine Go.f c104 ?_
              by_cases c106 : x3 = 3
              · replace hF := xift c106 hF
                refine Go.t c106 ?_
                refine Go.b M.xc' ?_
                replace hF := xbind hF; obtain ⟨v107, ev107, hF⟩ := hF
                refine Go.b (u_isWhole M ev107) ?_
                by_cases c108 : v107 = 0
                · replace hF := xift c108 hF
                  refine Go.t c108 ?_
                  cases hF
                  exact ⟨_, rfl, M⟩
                · replace hF := xiff c108 hF
                  refine Go.f c108 ?_
                  cases hF
                  exact ⟨_, rfl, M⟩
              replace hF := xiff c106 hF
              refine Go.f c106 ?_
              by_cases c109 : x3 = 4
              · replace hF := xift c109 hF
                refine Go.t c109 ?_
                refine Go.b M.xc' ?_
                replace hF := xbind hF; obtain ⟨v110, ev110, hF⟩ := hF
                refine Go.b (u_least M ev110) ?_
                by_cases c111 : (lg_cmp v110 0) < 0
                · replace hF := xift c111 hF
                  refine Go.t c111 ?_
                  refine Go.b M.xc' ?_
                  replace hF := xbind hF; obtain ⟨v112, ev112, hF⟩ := hF
                  refine Go.b (u_greatest M ev112) ?_
                  by_cases c113 : 0 ≤ (lg_cmp v112 0)
                  · replace hF := xift c113 hF
                    refine Go.t c113 ?_
                    cases hF
                    exact ⟨_, rfl, M⟩
                  · replace hF := xiff c113 hF
                    refine Go.f c113 ?_
                    cases hF
                    exact ⟨_, rfl, M⟩
                · replace hF := xiff c111 hF
                  refine Go.f c111 ?_
                  cases hF
                  exact ⟨_, rfl, M⟩
              replace hF := xiff c109 hF
              refine Go.f c109 ?_
              by_cases c114 : x3 = 5
              · replace hF := xift c114 hF
                refine Go.t c114 ?_
                refine Go.b M.xc' ?_
                replace hF := xbind hF; obtain ⟨v115, ev115, hF⟩ := hF
                refine Go.b (u_settledAt M ev115) ?_
                cases hF
                exact ⟨_, rfl, M⟩
              replace hF := xiff c114 hF
              refine Go.f c114 ?_
              by_cases c116 : x3 = 6
              · replace hF := xift c116 hF
                refine Go.t c116 ?_
                refine Go.b (M.gJ' (k := 12) rfl) ?_
                cases hF
                exact ⟨_, rfl, M⟩
              replace hF := xiff c116 hF
              refine Go.f c116 ?_
              refine Go.b (M.gJ' (k := 13) rfl) ?_
              cases hF
              exact ⟨_, rfl, M⟩
            · replace hF := xiff c97 hF
              refine Go.f c97 ?_
              cases hF
              exact ⟨_, rfl, M⟩
          · replace hF := xiff c94 hF
            refine Go.f c94 ?_
            obtain ⟨s117, es117⟩ : ∃ z : mS, z = (mI s 0 0) := ⟨_, rfl⟩
            replace hF := xlet es117 hF
            replace M := M.put (k := 0) (v := .int 0) s117 (by decide) (by rw [es117]; rfl) (by rw [es117]; rfl)
            obtain ⟨h118, eh118, M⟩ := M
            refine Go.b eh118 ?_
            refine Go.b (M.gI' (k := 0) rfl) ?_
            by_cases c119 : (s117.1 0) ≤ 0
            · replace hF := xift c119 hF
              refine Go.t c119 ?_
              refine Go.b M.xc' ?_
              replace hF := xbind hF; obtain ⟨s120, es120, hF⟩ := hF
              replace M := u_spans M es120
              obtain ⟨h121, eh121, M⟩ := M
              refine Go.b eh121 ?_
              by_cases c122 : x3 = 0
              · replace hF := xift c122 hF
                refine Go.t c122 ?_
                refine Go.b (M.gJ' (k := 12) rfl) ?_
                refine Go.b (M.gJ' (k := 13) rfl) ?_
                refine Go.b M.xc' ?_
                replace hF := xbind hF; obtain ⟨v123, ev123, hF⟩ := hF
                refine Go.b (u_leftOf M ev123) ?_
                cases hF
                exact ⟨_, rfl, M⟩
              replace hF := xiff c122 hF
              refine Go.f c122 ?_
              by_cases c124 : x3 = 1
              · replace hF := xift c124 hF
                refine Go.t c124 ?_
                refine Go.b M.xc' ?_
                replace hF := xbind hF; obtain ⟨v125, ev125, hF⟩ := hF
                refine Go.b (u_least M ev125) ?_
                cases hF
                exact ⟨_, rfl, M⟩
              replace hF := xiff c124 hF
              refine Go.f c124 ?_
              by_cases c126 : x3 = 2
              · replace hF := xift c126 hF
                refine Go.t c126 ?_
                refine Go.b M.xc' ?_
                replace hF := xbind hF; obtain ⟨v127, ev127, hF⟩ := hF
                refine Go.b (u_greatest M ev127) ?_
                cases hF
                exact ⟨_, rfl, M⟩
              replace hF := xiff c126 hF
              refine Go.f c126 ?_
              by_cases c128 : x3 = 3
              · replace hF := xift c128 hF
                refine Go.t c128 ?_
                refine Go.b M.xc' ?_
                replace hF := xbind hF; obtain ⟨v129, ev129, hF⟩ := hF
                refine Go.b (u_isWhole M ev129) ?_
                by_cases c130 : v129 = 0
                · replace hF := xift c130 hF
                  refine Go.t c130 ?_
                  cases hF
                  exact ⟨_, rfl, M⟩
                · replace hF := xiff c130 hF
                  refine Go.f c130 ?_
                  cases hF
                  exact ⟨_, rfl, M⟩
              replace hF := xiff c128 hF
              refine Go.f c128 ?_
              by_cases c131 : x3 = 4
              · replace hF := xift c131 hF
                refine Go.t c131 ?_
                refine Go.b M.xc' ?_
                replace hF := xbind hF; obtain ⟨v132, ev132, hF⟩ := hF
                refine Go.b (u_least M ev132) ?_
                by_cases c133 : (lg_cmp v132 0) < 0
                · replace hF := xift c133 hF
                  refine Go.t c133 ?_
                  refine Go.b M.xc' ?_
                  replace hF := xbind hF; obtain ⟨v134, ev134, hF⟩ := hF
                  refine Go.b (u_greatest M ev134) ?_
                  by_cases c135 : 0 ≤ (lg_cmp v134 0)
                  · replace hF := xift c135 hF
                    refine Go.t c135 ?_
                    cases hF
                    exact ⟨_, rfl, M⟩
                  · replace hF := xiff c135 hF
                    refine Go.f c135 ?_
                    cases hF
                    exact ⟨_, rfl, M⟩
                · replace hF := xiff c133 hF
                  refine Go.f c133 ?_
                  cases hF
                  exact ⟨_, rfl, M⟩
              replace hF := xiff c131 hF
              refine Go.f c131 ?_
              by_cases c136 : x3 = 5
              · replace hF := xift c136 hF
                refine Go.t c136 ?_
                refine Go.b M.xc' ?_
                replace hF := xbind hF; obtain ⟨v137, ev137, hF⟩ := hF
                refine Go.b (u_settledAt M ev137) ?_
                cases hF
                exact ⟨_, rfl, M⟩
              replace hF := xiff c136 hF
              refine Go.f c136 ?_
              by_cases c138 : x3 = 6
              · replace hF := xift c138 hF
                refine Go.t c138 ?_
                refine Go.b (M.gJ' (k := 12) rfl) ?_
                cases hF
                exact ⟨_, rfl, M⟩
              replace hF := xiff c138 hF
              refine Go.f c138 ?_
              refine Go.b (M.gJ' (k := 13) rfl) ?_
              cases hF
              exact ⟨_, rfl, M⟩
            · replace hF := xiff c119 hF
              refine Go.f c119 ?_
              cases hF
              exact ⟨_, rfl, M⟩
def FM_broken_28 (x1 : Int32) : Nat → mS → Int32 → Option (Int32 × mS)
  | 0, _, _ => none
  | n + 1, s, x3 =>
    if 600 < x3 then
      some ((-1), s)
    else
    (FM_spans s x1 x3).bind fun s8 =>
    (FM_isWhole s8 x1).bind fun v10 =>
    if v10 = 0 then
      some (x3, s8)
    else
    xl (x3 + 1) fun v12 =>
    FM_broken_28 x1 n s8 v12
set_option maxHeartbeats 4000000 in
theorem ul_broken_28 {G : Nat → Nat} {ad : Nat → Nat → Nat} {P0 : xP} {r : Int32} {s' : mS} (x1 : Int32) : ∀ (n : Nat) (s : mS) (x3 : Int32) (h : xH), Mx G ad P0 h s → FM_broken_28 x1 n s x3 = some (r, s') → Go (F_X11_broken_28 G (ad 19 0) x1 n h x3) r (fun h' => Mx G ad P0 h' s') := by
  intro n
  induction n with
  | zero =>
    intro s x3 h M hF
    rw [FM_broken_28.eq_1] at hF
    cases hF
  | succ n ih =>
    intro s x3 h M hF
    rw [FM_broken_28.eq_2] at hF
    rw [F_X11_broken_28.eq_2]
    by_cases c7 : 600 < x3
    · replace hF := xift c7 hF
      refine Go.t c7 ?_
      cases hF
      exact ⟨_, rfl, M⟩
    · replace hF := xiff c7 hF
      refine Go.f c7 ?_
      refine Go.b M.xc' ?_
      replace hF := xbind hF; obtain ⟨s8, es8, hF⟩ := hF
      replace M := u_spans M es8
      obtain ⟨h9, eh9, M⟩ := M
      refine Go.b eh9 ?_
      refine Go.b M.xc' ?_
      replace hF := xbind hF; obtain ⟨v10, ev10, hF⟩ := hF
      refine Go.b (u_isWhole M ev10) ?_
      by_cases c11 : v10 = 0
      · replace hF := xift c11 hF
        refine Go.t c11 ?_
        cases hF
        exact ⟨_, rfl, M⟩
      · replace hF := xiff c11 hF
        refine Go.f c11 ?_
        obtain ⟨v12, ev12⟩ : ∃ z : Int32, z = (x3 + 1) := ⟨_, rfl⟩
        replace hF := xlet ev12 hF
        refine Go.l ev12 ?_
        exact ih s8 v12 _ M hF
def FM_broken (s : mS) (x1 : Int32) (x2 : Int32) : Option (Int32 × mS) :=
  xl (mI s 0 0) fun s1 =>
  (FM_isPromise s1 x1).bind fun v3 =>
  if v3 = 0 then
    some ((-1), s1)
  else
  if x2 < 0 then
    some ((-1), s1)
  else
  if x2 ≤ 600 then
    FM_broken_28 x1 xN s1 x2
  else
  some ((-1), s1)
set_option maxHeartbeats 4000000 in
theorem u_broken {G : Nat → Nat} {ad : Nat → Nat → Nat} {P0 : xP} {h : xH} {s : mS} {x1 : Int32} {x2 : Int32} {r : Int32} {s' : mS} (M : Mx G ad P0 h s) (hF : FM_broken s x1 x2 = some (r, s')) : Go (F_X11_broken G h (ad 19 0) x1 x2) r (fun h' => Mx G ad P0 h' s') := by
  unfold FM_broken at hF
  unfold F_X11_broken
  obtain ⟨s1, es1⟩ : ∃ z : mS, z = (mI s 0 0) := ⟨_, rfl⟩
  replace hF := xlet es1 hF
  replace M := M.put (k := 0) (v := .int 0) s1 (by decide) (by rw [es1]; rfl) (by rw [es1]; rfl)
  obtain ⟨h2, eh2, M⟩ := M
  refine Go.b eh2 ?_
  refine Go.b M.xc' ?_
  replace hF := xbind hF; obtain ⟨v3, ev3, hF⟩ := hF
  refine Go.b (u_isPromise M ev3) ?_
  by_cases c4 : v3 = 0
  · replace hF := xift c4 hF
    refine Go.t c4 ?_
    cases hF
    exact ⟨_, rfl, M⟩
  · replace hF := xiff c4 hF
    refine Go.f c4 ?_
    by_cases c5 : x2 < 0
    · replace hF := xift c5 hF
      refine Go.t c5 ?_
      cases hF
      exact ⟨_, rfl, M⟩
    · replace hF := xiff c5 hF
      refine Go.f c5 ?_
      by_cases c6 : x2 ≤ 600
      · replace hF := xift c6 hF
        refine Go.t c6 ?_
        exact ul_broken_28 x1 _ s1 x2 _ M hF
      · replace hF := xiff c6 hF
        refine Go.f c6 ?_
        cases hF
        exact ⟨_, rfl, M⟩
