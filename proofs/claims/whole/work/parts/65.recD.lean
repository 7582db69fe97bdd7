def FM_alarm (s : mS) (x1 : Int32) (x2 : Int32) (x3 : Int32) (x4 : Int32) : Option (Int32 × mS) :=
  xl (mI s 0 0) fun s1 =>
  (FM_isPromise s1 x1).bind fun v3 =>
  if v3 = 0 then
    some ((-1), s1)
  else
  if x2 < 1 then
    some ((-1), s1)
  else
  if 200 < x2 then
    some ((-1), s1)
  else
  if x3 < 1 then
    some ((-1), s1)
  else
  if x2 < x3 then
    some ((-1), s1)
  else
  if x4 < 1 then
    some ((-1), s1)
  else
  if 1000 < x4 then
    some ((-1), s1)
  else
  if (s1.1 26) = 8 then
    some ((-1), s1)
  else
  (mst s1 27 (s1.1 26) x1).bind fun s12 =>
  (mst s12 28 (s12.1 26) x2).bind fun s14 =>
  (mst s14 29 (s14.1 26) x3).bind fun s16 =>
  (mst s16 30 (s16.1 26) x4).bind fun s18 =>
  xl (mI s18 26 ((s18.1 26) + 1)) fun s20 =>
  some (((s20.1 26) - 1), s20)
set_option maxHeartbeats 4000000 in
theorem u_alarm {G : Nat → Nat} {ad : Nat → Nat → Nat} {P0 : xP} {h : xH} {s : mS} {x1 : Int32} {x2 : Int32} {x3 : Int32} {x4 : Int32} {r : Int32} {s' : mS} (M : Mx G ad P0 h s) (hF : FM_alarm s x1 x2 x3 x4 = some (r, s')) : Go (F_X11_alarm G h (ad 19 0) x1 x2 x3 x4) r (fun h' => Mx G ad P0 h' s') := by
  unfold FM_alarm at hF
  unfold F_X11_alarm
  obtain ⟨s1, es1⟩ : ∃ z : mS, z = (mI s 0 0) := ⟨_, rfl⟩
  replace hF := xlet es1 hF
  replace M := M.put (k := 0) (v := .int 0) s1 (by decide) (by rw [es1]; rfl) (by rw [es1]; rfl)
  obtain ⟨h2, eh2, M⟩ := M
  refine Go.b eh2 ?_
  refine Go.b M.xc' ?_
  replace hF := xbind hF; obtain ⟨v3, ev3, hF⟩ := hF
  refine Go.b (u_isPromise M ev3) ?_
  by_cases c4 : v3 = 0
  · replace hF := xift c4 hF
    refine Go.t c4 ?_
    cases hF
    exact ⟨_, rfl, M⟩
  · replace hF := xiff c4 hF
    refine Go.f c4 ?_
    by_cases c5 : x2 < 1
    · replace hF := xift c5 hF
      refine Go.t c5 ?_
      cases hF
      exact ⟨_, rfl, M⟩
    · replace hF := xiff c5 hF
      refine Go.f c5 ?_
      by_cases c6 : 200 < x2
      · replace hF := xift c6 hF
        refine Go.t c6 ?_
        cases hF
        exact ⟨_, rfl, M⟩
      · replace hF := xiff c6 hF
        refine Go.f c6 ?_
        by_cases c7 : x3 < 1
        · replace hF := xift c7 hF
          refine Go.t c7 ?_
          cases hF
          exact ⟨_, rfl, M⟩
        · replace hF := xiff c7 hF
          refine Go.f c7 ?_
          by_cases c8 : x2 < x3
          · replace hF := xift c8 hF
            refine Go.t c8 ?_
            cases hF
            exact ⟨_, rfl, M⟩
          · replace hF := xiff c8 hF
            refine Go.f c8 ?_
            by_cases c9 : x4 < 1
            · replace hF := xift c9 hF
              refine Go.t c9 ?_
              cases hF
              exact ⟨_, rfl, M⟩
            · replace hF := xiff c9 hF
              refine Go.f c9 ?_
              by_cases c10 : 1000 < x4
              · replace hF := xift c10 hF
                refine Go.t c10 ?_
                cases hF
                exact ⟨_, rfl, M⟩
              · replace hF := xiff c10 hF
                refine Go.f c10 ?_
                refine Go.b (M.gI' (k := 26) rfl) ?_
                by_cases c11 : (s1.1 26) = 8
                · replace hF := xift c11 hF
                  refine Go.t c11 ?_
                  cases hF
                  exact ⟨_, rfl, M⟩
                · replace hF := xiff c11 hF
                  refine Go.f c11 ?_
                  refine Go.b (M.gR' (k := 27) rfl) ?_
                  refine Go.b (M.gI' (k := 26) rfl) ?_
                  replace hF := xbind hF; obtain ⟨s12, es12, hF⟩ := hF
                  replace M := M.st (k := 27) rfl es12
                  obtain ⟨h13, eh13, M⟩ := M
                  refine Go.b eh13 ?_
                  refine Go.b (M.gR' (k := 28) rfl) ?_
                  refine Go.b (M.gI' (k := 26) rfl) ?_
                  replace hF := xbind hF; obtain ⟨s14, es14, hF⟩ := hF
                  replace M := M.st (k := 28) rfl es14
                  obtain ⟨h15, eh15, M⟩ := M
                  refine Go.b eh15 ?_
                  refine Go.b (M.gR' (k := 29) rfl) ?_
                  refine Go.b (M.gI' (k := 26) rfl) ?_
                  replace hF := xbind hF; obtain ⟨s16, es16, hF⟩ := hF
                  replace M := M.st (k := 29) rfl es16
                  obtain ⟨h17, eh17, M⟩ := M
                  refine Go.b eh17 ?_
                  refine Go.b (M.gR' (k := 30) rfl) ?_
                  refine Go.b (M.gI' (k := 26) rfl) ?_
                  replace hF := xbind hF; obtain ⟨s18, es18, hF⟩ := hF
                  replace M := M.st (k := 30) rfl es18
                  obtain ⟨h19, eh19, M⟩ := M
                  refine Go.b eh19 ?_
                  refine Go.b (M.gI' (k := 26) rfl) ?_
                  obtain ⟨s20, es20⟩ : ∃ z : mS, z = (mI s18 26 ((s18.1 26) + 1)) := ⟨_, rfl⟩
                  replace hF := xlet es20 hF
                  replace M := M.put (k := 26) (v := .int ((s18.1 26) + 1)) s20 (by decide) (by rw [es20]; rfl) (by rw [es20]; rfl)
                  obtain ⟨h21, eh21, M⟩ := M
                  refine Go.b eh21 ?_
                  refine Go.b (M.gI' (k := 26) rfl) ?_
                  cases hF
                  exact ⟨_, rfl, M⟩
def FM_sumsTo_2 (x1 : Int32) : Nat → mS → Int32 → Option mS
  | 0, _, _ => none
  | n + 1, s, x2 =>
    if 601 ≤ x2 then
      some s
    else
    (FM_sums s x1 x2 x2).bind fun s2 =>
    (mldJ s2 31 x2).bind fun v4 =>
    (mstJ s2 31 (x2 + 1) (v4 + (s2.2.1 12))).bind fun s5 =>
    (mldJ s5 32 x2).bind fun v7 =>
    (mstJ s5 32 (x2 + 1) (v7 + (s5.2.1 13))).bind fun s8 =>
    xl (x2 + 1) fun v10 =>
    FM_sumsTo_2 x1 n s8 v10
set_option maxHeartbeats 4000000 in
theorem ul_sumsTo_2 {G : Nat → Nat} {ad : Nat → Nat → Nat} {P0 : xP} {s' : mS} (x1 : Int32) : ∀ (n : Nat) (s : mS) (x2 : Int32) (h : xH), Mx G ad P0 h s → FM_sumsTo_2 x1 n s x2 = some s' → Gv (F_X11_sumsTo_2 G (ad 19 0) x1 n h x2) (fun h' => Mx G ad P0 h' s') := by
  intro n
  induction n with
  | zero =>
    intro s x2 h M hF
    rw [FM_sumsTo_2.eq_1] at hF
    cases hF
  | succ n ih =>
    intro s x2 h M hF
    rw [FM_sumsTo_2.eq_2] at hF
    rw [F_X11_sumsTo_2.eq_2]
    by_cases c1 : 601 ≤ x2
    · replace hF := xift c1 hF
      refine Gv.t c1 ?_
      cases hF
      exact ⟨_, rfl, M⟩
    · replace hF := xiff c1 hF
      refine Gv.f c1 ?_
      refine Gv.b M.xc' ?_
      replace hF := xbind hF; obtain ⟨s2, es2, hF⟩ := hF
      replace M := u_sums M es2
      obtain ⟨h3, eh3, M⟩ := M
      refine Gv.b eh3 ?_
      refine Gv.b (M.gR' (k := 31) rfl) ?_
      refine Gv.b (M.gR' (k := 31) rfl) ?_
      replace hF := xbind hF; obtain ⟨v4, ev4, hF⟩ := hF
      refine Gv.b (M.ldJ' (k := 31) rfl ev4) ?_
      refine Gv.b (M.gJ' (k := 12) rfl) ?_
      replace hF := xbind hF; obtain ⟨s5, es5, hF⟩ := hF
      replace M := M.stJ' (k := 31) rfl es5
      obtain ⟨h6, eh6, M⟩ := M
      refine Gv.b eh6 ?_
      refine Gv.b (M.gR' (k := 32) rfl) ?_
      refine Gv.b (M.gR' (k := 32) rfl) ?_
      replace hF := xbind hF; obtain ⟨v7, ev7, hF⟩ := hF
      refine Gv.b (M.ldJ' (k := 32) rfl ev7) ?_
      refine Gv.b (M.gJ' (k := 13) rfl) ?_
      replace hF := xbind hF; obtain ⟨s8, es8, hF⟩ := hF
      replace M := M.stJ' (k := 32) rfl es8
      obtain ⟨h9, eh9, M⟩ := M
      refine Gv.b eh9 ?_
      obtain ⟨v10, ev10⟩ : ∃ z : Int32, z = (x2 + 1) := ⟨_, rfl⟩
      replace hF := xlet ev10 hF
      refine Gv.l ev10 ?_
      exact ih s8 v10 _ M hF
def FM_sumsTo (s : mS) (x1 : Int32) : Option mS :=
  FM_sumsTo_2 x1 xN s 0
set_option maxHeartbeats 4000000 in
theorem u_sumsTo {G : Nat → Nat} {ad : Nat → Nat → Nat} {P0 : xP} {h : xH} {s : mS} {x1 : Int32} {s' : mS} (M : Mx G ad P0 h s) (hF : FM_sumsTo s x1 = some s') : Gv (F_X11_sumsTo G h (ad 19 0) x1) (fun h' => Mx G ad P0 h' s') := by
  unfold FM_sumsTo at hF
  unfold F_X11_sumsTo
  exact ul_sumsTo_2 x1 _ s 0 _ M hF
def FM_isWorseTo (s : mS) (x1 : Int32) (x2 : Int32) (x3 : Int32) (x4 : Int32) : Option Int32 :=
  if 0 ≤ ((x4 - x2) + 1) then
    xl ((x4 - x2) + 1) fun v2 =>
    (mldJ s 31 (x4 + 1)).bind fun v3 =>
    (mldJ s 31 v2).bind fun v4 =>
    (mldJ s 32 (x4 + 1)).bind fun v5 =>
    (mldJ s 32 v2).bind fun v6 =>
    (FM_isWorse s x1 x3 (v3 - v4) (v5 - v6)).bind fun v7 =>
    xg (v7 = 0 ∨ v7 = 1) <|
    some v7
  else
  (mldJ s 31 (x4 + 1)).bind fun v9 =>
  (mldJ s 31 0).bind fun v10 =>
  (mldJ s 32 (x4 + 1)).bind fun v11 =>
  (mldJ s 32 0).bind fun v12 =>
  (FM_isWorse s x1 x3 (v9 - v10) (v11 - v12)).bind fun v13 =>
  xg (v13 = 0 ∨ v13 = 1) <|
  some v13
set_option maxHeartbeats 4000000 in
theorem u_isWorseTo {G : Nat → Nat} {ad : Nat → Nat → Nat} {P0 : xP} {h : xH} {s : mS} {x1 : Int32} {x2 : Int32} {x3 : Int32} {x4 : Int32} {r : Int32} (M : Mx G ad P0 h s) (hF : FM_isWorseTo s x1 x2 x3 x4 = some r) : Gr (F_X11_isWorseTo G h (ad 19 0) x1 x2 x3 x4) r := by
  unfold FM_isWorseTo at hF
  unfold F_X11_isWorseTo
  by_cases c1 : 0 ≤ ((x4 - x2) + 1)
  · replace hF := xift c1 hF
    refine Gr.t c1 ?_
    obtain ⟨v2, ev2⟩ : ∃ z : Int32, z = ((x4 - x2) + 1) := ⟨_, rfl⟩
    replace hF := xlet ev2 hF
    refine Gr.l ev2 ?_
    refine Gr.b (M.gR' (k := 31) rfl) ?_
    replace hF := xbind hF; obtain ⟨v3, ev3, hF⟩ := hF
    refine Gr.b (M.ldJ' (k := 31) rfl ev3) ?_
    refine Gr.b (M.gR' (k := 31) rfl) ?_
    replace hF := xbind hF; obtain ⟨v4, ev4, hF⟩ := hF
    refine Gr.b (M.ldJ' (k := 31) rfl ev4) ?_
    refine Gr.b (M.gR' (k := 32) rfl) ?_
    replace hF := xbind hF; obtain ⟨v5, ev5, hF⟩ := hF
    refine Gr.b (M.ldJ' (k := 32) rfl ev5) ?_
    refine Gr.b (M.gR' (k := 32) rfl) ?_
    replace hF := xbind hF; obtain ⟨v6, ev6, hF⟩ := hF
    refine Gr.b (M.ldJ' (k := 32) rfl ev6) ?_
    refine Gr.b M.xc' ?_
    replace hF := xbind hF; obtain ⟨v7, ev7, hF⟩ := hF
    refine Gr.b (u_isWorse M ev7) ?_
    replace hF := xguard hF; obtain ⟨c8, hF⟩ := hF
    refine Gr.g c8 ?_
    exact hF
  · replace hF := xiff c1 hF
    refine Gr.f c1 ?_
    refine Gr.b (M.gR' (k := 31) rfl) ?_
    replace hF := xbind hF; obtain ⟨v9, ev9, hF⟩ := hF
    refine Gr.b (M.ldJ' (k := 31) rfl ev9) ?_
    refine Gr.b (M.gR' (k := 31) rfl) ?_
    replace hF := xbind hF; obtain ⟨v10, ev10, hF⟩ := hF
    refine Gr.b (M.ldJ' (k := 31) rfl ev10) ?_
    refine Gr.b (M.gR' (k := 32) rfl) ?_
    replace hF := xbind hF; obtain ⟨v11, ev11, hF⟩ := hF
    refine Gr.b (M.ldJ' (k := 32) rfl ev11) ?_
    refine Gr.b (M.gR' (k := 32) rfl) ?_
    replace hF := xbind hF; obtain ⟨v12, ev12, hF⟩ := hF
    refine Gr.b (M.ldJ' (k := 32) rfl ev12) ?_
    refine Gr.b M.xc' ?_
    replace hF := xbind hF; obtain ⟨v13, ev13, hF⟩ := hF
    refine Gr.b (u_isWorse M ev13) ?_
    replace hF := xguard hF; obtain ⟨c14, hF⟩ := hF
    refine Gr.g c14 ?_
    exact hF
def FM_ringsTill_6 (s : mS) (x1 : Int32) (x2 : Int32) (x3 : Int32) (x4 : Int32) : Nat → Int32 → Int32 → Option Int32
  | 0, _, _ => none
  | n + 1, x5, x6 =>
    if (s.1 9) < x6 then
      some x5
    else
    (FM_isWorseTo s x1 x3 x4 x6).bind fun v2 =>
    if v2 = 0 then
      xl (x5 + 0) fun v4 =>
      xl (x6 + 1) fun v5 =>
      FM_ringsTill_6 s x1 x2 x3 x4 n v4 v5
    else
    (FM_isWorseTo s x1 x2 x4 x6).bind fun v6 =>
    if v6 = 0 then
      xl (x5 + 0) fun v8 =>
      xl (x6 + 1) fun v9 =>
      FM_ringsTill_6 s x1 x2 x3 x4 n v8 v9
    else
    xl (x5 + 1) fun v10 =>
    xl (x6 + 1) fun v11 =>
    FM_ringsTill_6 s x1 x2 x3 x4 n v10 v11
set_option maxHeartbeats 4000000 in
theorem ul_ringsTill_6 {G : Nat → Nat} {ad : Nat → Nat → Nat} {P0 : xP} {r : Int32} {h : xH} {s : mS} (M : Mx G ad P0 h s) (x1 : Int32) (x2 : Int32) (x3 : Int32) (x4 : Int32) : ∀ (n : Nat) (x5 : Int32) (x6 : Int32), FM_ringsTill_6 s x1 x2 x3 x4 n x5 x6 = some r → Gr (F_X11_ringsTill_6 G h (ad 19 0) x1 x2 x3 x4 n x5 x6) r := by
  intro n
  induction n with
  | zero =>
    intro x5 x6 hF
    rw [FM_ringsTill_6.eq_1] at hF
    cases hF
  | succ n ih =>
    intro x5 x6 hF
    rw [FM_ringsTill_6.eq_2] at hF
    rw [F_X11_ringsTill_6.eq_2]
    refine Gr.b (M.gI' (k := 9) rfl) ?_
    by_cases c1 : (s.1 9) < x6
    · replace hF := xift c1 hF
      refine Gr.t c1 ?_
      exact hF
    · replace hF := xiff c1 hF
      refine Gr.f c1 ?_
      refine Gr.b M.xc' ?_
      replace hF := xbind hF; obtain ⟨v2, ev2, hF⟩ := hF
      refine Gr.b (u_isWorseTo M ev2) ?_
      by_cases c3 : v2 = 0
      · replace hF := xift c3 hF
        refine Gr.t c3 ?_
        obtain ⟨v4, ev4⟩ : ∃ z : Int32, z = (x5 + 0) := ⟨_, rfl⟩
        replace hF := xlet ev4 hF
        refine Gr.l ev4 ?_
        obtain ⟨v5, ev5⟩ : ∃ z : Int32, z = (x6 + 1) := ⟨_, rfl⟩
        replace hF := xlet ev5 hF
        refine Gr.l ev5 ?_
        exact ih v4 v5 hF
      · replace hF := xiff c3 hF
        refine Gr.f c3 ?_
        refine Gr.b M.xc' ?_
        replace hF := xbind hF; obtain ⟨v6, ev6, hF⟩ := hF
        refine Gr.b (u_isWorseTo M ev6) ?_
        by_cases c7 : v6 = 0
        · replace hF := xift c7 hF
          refine Gr.t c7 ?_
          obtain ⟨v8, ev8⟩ : ∃ z : Int32, z = (x5 + 0) := ⟨_, rfl⟩
          replace hF := xlet ev8 hF
          refine Gr.l ev8 ?_
          obtain ⟨v9, ev9⟩ : ∃ z : Int32, z = (x6 + 1) := ⟨_, rfl⟩
          replace hF := xlet ev9 hF
          refine Gr.l ev9 ?_
          exact ih v8 v9 hF
        · replace hF := xiff c7 hF
          refine Gr.f c7 ?_
          obtain ⟨v10, ev10⟩ : ∃ z : Int32, z = (x5 + 1) := ⟨_, rfl⟩
          replace hF := xlet ev10 hF
          refine Gr.l ev10 ?_
          obtain ⟨v11, ev11⟩ : ∃ z : Int32, z = (x6 + 1) := ⟨_, rfl⟩
          replace hF := xlet ev11 hF
          refine Gr.l ev11 ?_
          exact ih v10 v11 hF
def FM_ringsTill (s : mS) (x1 : Int32) (x2 : Int32) (x3 : Int32) (x4 : Int32) : Option Int32 :=
  FM_ringsTill_6 s x1 x2 x3 x4 xN 0 0
set_option maxHeartbeats 4000000 in
theorem u_ringsTill {G : Nat → Nat} {ad : Nat → Nat → Nat} {P0 : xP} {h : xH} {s : mS} {x1 : Int32} {x2 : Int32} {x3 : Int32} {x4 : Int32} {r : Int32} (M : Mx G ad P0 h s) (hF : FM_ringsTill s x1 x2 x3 x4 = some r) : Gr (F_X11_ringsTill G h (ad 19 0) x1 x2 x3 x4) r := by
  unfold FM_ringsTill at hF
  unfold F_X11_ringsTill
  exact ul_ringsTill_6 M x1 x2 x3 x4 _ 0 0 hF
def FM_best_88 (s : mS) (x1 : Int32) (x2 : Int32) (x3 : Int32) (x4 : Int32) (x7 : Int32) (x8 : Int32) (k77 : Int32 → Int32 → Int32 → Option (Int32 × mS)) : Nat → Int32 → Int32 → Int32 → Option (Int32 × mS)
  | 0, _, _, _ => none
  | n + 1, x5, x6, x9 =>
    if 200 < x9 then
      xl (x8 + 1) fun v18 =>
      k77 x5 x6 v18
    else
    (FM_soonestOf s x1 x7 x8 x9 x2 x3).bind fun v19 =>
    if v19 < 0 then
      xl (x9 + 10) fun v21 =>
      FM_best_88 s x1 x2 x3 x4 x7 x8 k77 n x5 x6 v21
    else
    if (x3 * ((v19 - x2) + 1)) ≤ x4 then
      (FM_ringsTill s x1 x7 x8 x9).bind fun v23 =>
      if x5 < 0 then
        xl (((1000000 * x7) + (1000 * x8)) + x9) fun v25 =>
        xl (x9 + 10) fun v26 =>
        FM_best_88 s x1 x2 x3 x4 x7 x8 k77 n v25 v23 v26
      else
      if x6 ≤ v23 then
        xl (x9 + 10) fun v28 =>
        FM_best_88 s x1 x2 x3 x4 x7 x8 k77 n x5 x6 v28
      else
      xl (((1000000 * x7) + (1000 * x8)) + x9) fun v29 =>
      xl (x9 + 10) fun v30 =>
      FM_best_88 s x1 x2 x3 x4 x7 x8 k77 n v29 v23 v30
    else
    xl (x9 + 10) fun v31 =>
    FM_best_88 s x1 x2 x3 x4 x7 x8 k77 n x5 x6 v31
set_option maxHeartbeats 4000000 in
theorem ul_best_88 {G : Nat → Nat} {ad : Nat → Nat → Nat} {P0 : xP} {r : Int32} {s' : mS} {h : xH} {s : mS} (M : Mx G ad P0 h s) (x1 : Int32) (x2 : Int32) (x3 : Int32) (x4 : Int32) (x7 : Int32) (x8 : Int32) (k77 : Int32 → Int32 → Int32 → Option (Int32 × mS)) (q77 : Int32 → Int32 → Int32 → Option (Int32 × xH)) (hk77 : ∀ (x5' : Int32) (x6' : Int32) (x8' : Int32), k77 x5' x6' x8' = some (r, s') → Go (q77 x5' x6' x8') r (fun h' => Mx G ad P0 h' s')) : ∀ (n : Nat) (x5 : Int32) (x6 : Int32) (x9 : Int32), FM_best_88 s x1 x2 x3 x4 x7 x8 k77 n x5 x6 x9 = some (r, s') → Go (F_X11_best_88 G h (ad 19 0) x1 x2 x3 x4 x7 x8 q77 n x5 x6 x9) r (fun h' => Mx G ad P0 h' s') := by
  intro n
  induction n with
  | zero =>
    intro x5 x6 x9 hF
    rw [FM_best_88.eq_1] at hF
    cases hF
  | succ n ih =>
    intro x5 x6 x9 hF
    rw [FM_best_88.eq_2] at hF
    rw [F_X11_best_88.eq_2]
    by_cases c17 : 200 < x9
    · replace hF := xift c17 hF
      refine Go.t c17 ?_
      obtain ⟨v18, ev18⟩ : ∃ z : Int32, z = (x8 + 1) := ⟨_, rfl⟩
      replace hF := xlet ev18 hF
      refine Go.l ev18 ?_
      exact hk77 x5 x6 v18 hF
    · replace hF := xiff c17 hF
      refine Go.f c17 ?_
      refine Go.b M.xc' ?_
      replace hF := xbind hF; obtain ⟨v19, ev19, hF⟩ := hF
      refine Go.b (u_soonestOf M ev19) ?_
      by_cases c20 : v19 < 0
      · replace hF := xift c20 hF
        refine Go.t c20 ?_
        obtain ⟨v21, ev21⟩ : ∃ z : Int32, z = (x9 + 10) := ⟨_, rfl⟩
        replace hF := xlet ev21 hF
        refine Go.l ev21 ?_
        exact ih x5 x6 v21 hF
      · replace hF := xiff c20 hF
        refine Go.f c20 ?_
        by_cases c22 : (x3 * ((v19 - x2) + 1)) ≤ x4
        · replace hF := xift c22 hF
          refine Go.t c22 ?_
          refine Go.b M.xc' ?_
          replace hF := xbind hF; obtain ⟨v23, ev23, hF⟩ := hF
          refine Go.b (u_ringsTill M ev23) ?_
          by_cases c24 : x5 < 0
          · replace hF := xift c24 hF
            refine Go.t c24 ?_
            obtain ⟨v25, ev25⟩ : ∃ z : Int32, z = (((1000000 * x7) + (1000 * x8)) + x9) := ⟨_, rfl⟩
            replace hF := xlet ev25 hF
            refine Go.l ev25 ?_
            obtain ⟨v26, ev26⟩ : ∃ z : Int32, z = (x9 + 10) := ⟨_, rfl⟩
            replace hF := xlet ev26 hF
            refine Go.l ev26 ?_
            exact ih v25 v23 v26 hF
          · replace hF := xiff c24 hF
            refine Go.f c24 ?_
            by_cases c27 : x6 ≤ v23
            · replace hF := xift c27 hF
              refine Go.t c27 ?_
              obtain ⟨v28, ev28⟩ : ∃ z : Int32, z = (x9 + 10) := ⟨_, rfl⟩
              replace hF := xlet ev28 hF
              refine Go.l ev28 ?_
              exact ih x5 x6 v28 hF
            · replace hF := xiff c27 hF
              refine Go.f c27 ?_
              obtain ⟨v29, ev29⟩ : ∃ z : Int32, z = (((1000000 * x7) + (1000 * x8)) + x9) := ⟨_, rfl⟩
              replace hF := xlet ev29 hF
              refine Go.l ev29 ?_
              obtain ⟨v30, ev30⟩ : ∃ z : Int32, z = (x9 + 10) := ⟨_, rfl⟩
              replace hF := xlet ev30 hF
              refine Go.l ev30 ?_
              exact ih v29 v23 v30 hF
        · replace hF := xiff c22 hF
          refine Go.f c22 ?_
          obtain ⟨v31, ev31⟩ : ∃ z : Int32, z = (x9 + 10) := ⟨_, rfl⟩
          replace hF := xlet ev31 hF
          refine Go.l ev31 ?_
          exact ih x5 x6 v31 hF
def FM_best_77 (s : mS) (x1 : Int32) (x2 : Int32) (x3 : Int32) (x4 : Int32) (x7 : Int32) (k67 : Int32 → Int32 → Int32 → Option (Int32 × mS)) : Nat → Int32 → Int32 → Int32 → Option (Int32 × mS)
  | 0, _, _, _ => none
  | n + 1, x5, x6, x8 =>
    if x7 < x8 then
      xl (x7 + 1) fun v16 =>
      k67 x5 x6 v16
    else
    FM_best_88 s x1 x2 x3 x4 x7 x8 (fun x5' x6' x8' => FM_best_77 s x1 x2 x3 x4 x7 k67 n x5' x6' x8') xN x5 x6 10
set_option maxHeartbeats 4000000 in
theorem ul_best_77 {G : Nat → Nat} {ad : Nat → Nat → Nat} {P0 : xP} {r : Int32} {s' : mS} {h : xH} {s : mS} (M : Mx G ad P0 h s) (x1 : Int32) (x2 : Int32) (x3 : Int32) (x4 : Int32) (x7 : Int32) (k67 : Int32 → Int32 → Int32 → Option (Int32 × mS)) (q67 : Int32 → Int32 → Int32 → Option (Int32 × xH)) (hk67 : ∀ (x5' : Int32) (x6' : Int32) (x7' : Int32), k67 x5' x6' x7' = some (r, s') → Go (q67 x5' x6' x7') r (fun h' => Mx G ad P0 h' s')) : ∀ (n : Nat) (x5 : Int32) (x6 : Int32) (x8 : Int32), FM_best_77 s x1 x2 x3 x4 x7 k67 n x5 x6 x8 = some (r, s') → Go (F_X11_best_77 G h (ad 19 0) x1 x2 x3 x4 x7 q67 n x5 x6 x8) r (fun h' => Mx G ad P0 h' s') := by
  intro n
  induction n with
  | zero =>
    intro x5 x6 x8 hF
    rw [FM_best_77.eq_1] at hF
    cases hF
  | succ n ih =>
    intro x5 x6 x8 hF
    rw [FM_best_77.eq_2] at hF
    rw [F_X11_best_77.eq_2]
    by_cases c15 : x7 < x8
    · replace hF := xift c15 hF
      refine Go.t c15 ?_
      obtain ⟨v16, ev16⟩ : ∃ z : Int32, z = (x7 + 1) := ⟨_, rfl⟩
      replace hF := xlet ev16 hF
      refine Go.l ev16 ?_
      exact hk67 x5 x6 v16 hF
    · replace hF := xiff c15 hF
      refine Go.f c15 ?_
      exact ul_best_88 M x1 x2 x3 x4 x7 x8 (fun x5' x6' x8' => FM_best_77 s x1 x2 x3 x4 x7 k67 n x5' x6' x8') _ (fun x5' x6' x8' => ih x5' x6' x8') _ x5 x6 10 hF
def FM_best_67 (s : mS) (x1 : Int32) (x2 : Int32) (x3 : Int32) (x4 : Int32) : Nat → Int32 → Int32 → Int32 → Option (Int32 × mS)
  | 0, _, _, _ => none
  | n + 1, x5, x6, x7 =>
    if 12 < x7 then
      some (x5, s)
    else
    FM_best_77 s x1 x2 x3 x4 x7 (fun x5' x6' x7' => FM_best_67 s x1 x2 x3 x4 n x5' x6' x7') xN x5 x6 1
set_option maxHeartbeats 4000000 in
theorem ul_best_67 {G : Nat → Nat} {ad : Nat → Nat → Nat} {P0 : xP} {r : Int32} {s' : mS} {h : xH} {s : mS} (M : Mx G ad P0 h s) (x1 : Int32) (x2 : Int32) (x3 : Int32) (x4 : Int32) : ∀ (n : Nat) (x5 : Int32) (x6 : Int32) (x7 : Int32), FM_best_67 s x1 x2 x3 x4 n x5 x6 x7 = some (r, s') → Go (F_X11_best_67 G h (ad 19 0) x1 x2 x3 x4 n x5 x6 x7) r (fun h' => Mx G ad P0 h' s') := by
  intro n
  induction n with
  | zero =>
    intro x5 x6 x7 hF
    rw [FM_best_67.eq_1] at hF
    cases hF
  | succ n ih =>
    intro x5 x6 x7 hF
    rw [FM_best_67.eq_2] at hF
    rw [F_X11_best_67.eq_2]
    by_cases c14 : 12 < x7
    · replace hF := xift c14 hF
      refine Go.t c14 ?_
      cases hF
      exact ⟨_, rfl, M⟩
    · replace hF := xiff c14 hF
      refine Go.f c14 ?_
      exact ul_best_77 M x1 x2 x3 x4 x7 (fun x5' x6' x7' => FM_best_67 s x1 x2 x3 x4 n x5' x6' x7') _ (fun x5' x6' x7' => ih x5' x6' x7') _ x5 x6 1 hF
def FM_best (s : mS) (x1 : Int32) (x2 : Int32) (x3 : Int32) (x4 : Int32) : Option (Int32 × mS) :=
  xl (mI s 0 0) fun s1 =>
  (FM_isPromise s1 x1).bind fun v3 =>
  if v3 = 0 then
    some ((-1), s1)
  else
  if x2 < 0 then
    some ((-1), s1)
  else
  if 300 < x2 then
    some ((-1), s1)
  else
  if x3 < 0 then
    some ((-1), s1)
  else
  if 10 < x3 then
    some ((-1), s1)
  else
  if x4 < 0 then
    some ((-1), s1)
  else
  if x4 ≤ 100000 then
    (mld s1 16 x1).bind fun v11 =>
    (FM_sumsTo s1 v11).bind fun s12 =>
    FM_best_67 s12 x1 x2 x3 x4 xN (-1) 0 1
  else
  some ((-1), s1)
set_option maxHeartbeats 4000000 in
theorem u_best {G : Nat → Nat} {ad : Nat → Nat → Nat} {P0 : xP} {h : xH} {s : mS} {x1 : Int32} {x2 : Int32} {x3 : Int32} {x4 : Int32} {r : Int32} {s' : mS} (M : Mx G ad P0 h s) (hF : FM_best s x1 x2 x3 x4 = some (r, s')) : Go (F_X11_best G h (ad 19 0) x1 x2 x3 x4) r (fun h' => Mx G ad P0 h' s') := by
  unfold FM_best at hF
  unfold F_X11_best
  obtain ⟨s1, es1⟩ : ∃ z : mS, z = (mI s 0 0) := ⟨_, rfl⟩
  replace hF := xlet es1 hF
  replace M := M.put (k := 0) (v := .int 0) s1 (by decide) (by rw [es1]; rfl) (by rw [es1]; rfl)
  obtain ⟨h2, eh2, M⟩ := M
  refine Go.b eh2 ?_
  refine Go.b M.xc' ?_
  replace hF := xbind hF; obtain ⟨v3, ev3, hF⟩ := hF
  refine Go.b (u_isPromise M ev3) ?_
  by_cases c4 : v3 = 0
  · replace hF := xift c4 hF
    refine Go.t c4 ?_
    cases hF
    exact ⟨_, rfl, M⟩
  · replace hF := xiff c4 hF
    refine Go.f c4 ?_
    by_cases c5 : x2 < 0
    · replace hF := xift c5 hF
      refine Go.t c5 ?_
      cases hF
      exact ⟨_, rfl, M⟩
    · replace hF := xiff c5 hF
      refine Go.f c5 ?_
      by_cases c6 : 300 < x2
      · replace hF := xift c6 hF
        refine Go.t c6 ?_
        cases hF
        exact ⟨_, rfl, M⟩
      · replace hF := xiff c6 hF
        refine Go.f c6 ?_
        by_cases c7 : x3 < 0
        · replace hF := xift c7 hF
          refine Go.t c7 ?_
          cases hF
          exact ⟨_, rfl, M⟩
        · replace hF := xiff c7 hF
          refine Go.f c7 ?_
          by_cases c8 : 10 < x3
          · replace hF := xift c8 hF
            refine Go.t c8 ?_
            cases hF
            exact ⟨_, rfl, M⟩
          · replace hF := xiff c8 hF
            refine Go.f c8 ?_
            by_cases c9 : x4 < 0
            · replace hF := xift c9 hF
              refine Go.t c9 ?_
              cases hF
              exact ⟨_, rfl, M⟩
            · replace hF := xiff c9 hF
              refine Go.f c9 ?_
              by_cases c10 : x4 ≤ 100000
              · replace hF := xift c10 hF
                refine Go.t c10 ?_
                refine Go.b (M.gR' (k := 16) rfl) ?_
                replace hF := xbind hF; obtain ⟨v11, ev11, hF⟩ := hF
                refine Go.b (M.ld (k := 16) rfl ev11) ?_
                refine Go.b M.xc' ?_
                replace hF := xbind hF; obtain ⟨s12, es12, hF⟩ := hF
                replace M := u_sumsTo M es12
                obtain ⟨h13, eh13, M⟩ := M
                refine Go.b eh13 ?_
                exact ul_best_67 M x1 x2 x3 x4 _ (-1) 0 1 hF
              · replace hF := xiff c10 hF
                refine Go.f c10 ?_
                cases hF
                exact ⟨_, rfl, M⟩
def FM_isChange (s : mS) (x1 : Int32) : Option Int32 :=
  if x1 < 0 then
    some 0
  else
  if (s.1 33) ≤ x1 then
    some 0
  else
  some 1
set_option maxHeartbeats 4000000 in
theorem u_isChange {G : Nat → Nat} {ad : Nat → Nat → Nat} {P0 : xP} {h : xH} {s : mS} {x1 : Int32} {r : Int32} (M : Mx G ad P0 h s) (hF : FM_isChange s x1 = some r) : Gr (F_X11_isChange G h (ad 19 0) x1) r := by
  unfold FM_isChange at hF
  unfold F_X11_isChange
  by_cases c1 : x1 < 0
  · replace hF := xift c1 hF
    refine Gr.t c1 ?_
    exact hF
  · replace hF := xiff c1 hF
    refine Gr.f c1 ?_
    refine Gr.b (M.gI' (k := 33) rfl) ?_
    by_cases c2 : (s.1 33) ≤ x1
    · replace hF := xift c2 hF
      refine Gr.t c2 ?_
      exact hF
    · replace hF := xiff c2 hF
      refine Gr.f c2 ?_
      exact hF
def FM_change (s : mS) (x1 : Int32) (x2 : Int32) (x3 : Int32) : Option (Int32 × mS) :=
  xl (mI s 0 0) fun s1 =>
  (FM_isPromise s1 x1).bind fun v3 =>
  if v3 = 0 then
    some ((-1), s1)
  else
  if x2 < 0 then
    some ((-1), s1)
  else
  if 100000 < x2 then
    some ((-1), s1)
  else
  if x3 < 0 then
    some ((-1), s1)
  else
  if 1000 < x3 then
    some ((-1), s1)
  else
  if (s1.1 33) = 40 then
    some ((-1), s1)
  else
  (mst s1 34 (s1.1 33) x1).bind fun s10 =>
  (mst s10 35 (s10.1 33) x2).bind fun s12 =>
  (mst s12 36 (s12.1 33) x3).bind fun s14 =>
  xl (mI s14 33 ((s14.1 33) + 1)) fun s16 =>
  some (((s16.1 33) - 1), s16)
set_option maxHeartbeats 4000000 in
theorem u_change {G : Nat → Nat} {ad : Nat → Nat → Nat} {P0 : xP} {h : xH} {s : mS} {x1 : Int32} {x2 : Int32} {x3 : Int32} {r : Int32} {s' : mS} (M : Mx G ad P0 h s) (hF : FM_change s x1 x2 x3 = some (r, s')) : Go (F_X11_change G h (ad 19 0) x1 x2 x3) r (fun h' => Mx G ad P0 h' s') := by
  unfold FM_change at hF
  unfold F_X11_change
  obtain ⟨s1, es1⟩ : ∃ z : mS, z = (mI s 0 0) := ⟨_, rfl⟩
  replace hF := xlet es1 hF
  replace M := M.put (k := 0) (v := .int 0) s1 (by decide) (by rw [es1]; rfl) (by rw [es1]; rfl)
  obtain ⟨h2, eh2, M⟩ := M
  refine Go.b eh2 ?_
  refine Go.b M.xc' ?_
  replace hF := xbind hF; obtain ⟨v3, ev3, hF⟩ := hF
  refine Go.b (u_isPromise M ev3) ?_
  by_cases c4 : v3 = 0
  · replace hF := xift c4 hF
    refine Go.t c4 ?_
    cases hF
    exact ⟨_, rfl, M⟩
  · replace hF := xiff c4 hF
    refine Go.f c4 ?_
    by_cases c5 : x2 < 0
    · replace hF := xift c5 hF
      refine Go.t c5 ?_
      cases hF
      exact ⟨_, rfl, M⟩
    · replace hF := xiff c5 hF
      refine Go.f c5 ?_
      by_cases c6 : 100000 < x2
      · replace hF := xift c6 hF
        refine Go.t c6 ?_
        cases hF
        exact ⟨_, rfl, M⟩
      · replace hF := xiff c6 hF
        refine Go.f c6 ?_
        by_cases c7 : x3 < 0
        · replace hF := xift c7 hF
          refine Go.t c7 ?_
          cases hF
          exact ⟨_, rfl, M⟩
        · replace hF := xiff c7 hF
          refine Go.f c7 ?_
          by_cases c8 : 1000 < x3
          · replace hF := xift c8 hF
            refine Go.t c8 ?_
            cases hF
            exact ⟨_, rfl, M⟩
          · replace hF := xiff c8 hF
            refine Go.f c8 ?_
            refine Go.b (M.gI' (k := 33) rfl) ?_
            by_cases c9 : (s1.1 33) = 40
            · replace hF := xift c9 hF
              refine Go.t c9 ?_
              cases hF
              exact ⟨_, rfl, M⟩
            · replace hF := xiff c9 hF
              refine Go.f c9 ?_
              refine Go.b (M.gR' (k := 34) rfl) ?_
              refine Go.b (M.gI' (k := 33) rfl) ?_
              replace hF := xbind hF; obtain ⟨s10, es10, hF⟩ := hF
              replace M := M.st (k := 34) rfl es10
              obtain ⟨h11, eh11, M⟩ := M
              refine Go.b eh11 ?_
              refine Go.b (M.gR' (k := 35) rfl) ?_
              refine Go.b (M.gI' (k := 33) rfl) ?_
              replace hF := xbind hF; obtain ⟨s12, es12, hF⟩ := hF
              replace M := M.st (k := 35) rfl es12
              obtain ⟨h13, eh13, M⟩ := M
              refine Go.b eh13 ?_
              refine Go.b (M.gR' (k := 36) rfl) ?_
              refine Go.b (M.gI' (k := 33) rfl) ?_
              replace hF := xbind hF; obtain ⟨s14, es14, hF⟩ := hF
              replace M := M.st (k := 36) rfl es14
              obtain ⟨h15, eh15, M⟩ := M
              refine Go.b eh15 ?_
              refine Go.b (M.gI' (k := 33) rfl) ?_
              obtain ⟨s16, es16⟩ : ∃ z : mS, z = (mI s14 33 ((s14.1 33) + 1)) := ⟨_, rfl⟩
              replace hF := xlet es16 hF
              replace M := M.put (k := 33) (v := .int ((s14.1 33) + 1)) s16 (by decide) (by rw [es16]; rfl) (by rw [es16]; rfl)
              obtain ⟨h17, eh17, M⟩ := M
              refine Go.b eh17 ?_
              refine Go.b (M.gI' (k := 33) rfl) ?_
              cases hF
              exact ⟨_, rfl, M⟩
def FM_room_18 (s : mS) (x1 : Int32) : Nat → Int64 → Int32 → Option (Int64 × mS)
  | 0, _, _ => none
  | n + 1, y2, x4 =>
    if (s.1 33) ≤ x4 then
      some (y2, s)
    else
    (mld s 34 x4).bind fun v5 =>
    if v5 = x1 then
      (mld s 37 x4).bind fun v9 =>
      if v9 = 1 then
        (mld s 35 x4).bind fun v13 =>
        xl (y2 - ((v13 : Int32).toInt64)) fun v14 =>
        xl (x4 + 1) fun v15 =>
        FM_room_18 s x1 n v14 v15
      else
      xl (y2 - 0) fun v11 =>
      xl (x4 + 1) fun v12 =>
      FM_room_18 s x1 n v11 v12
    else
    xl (y2 - 0) fun v7 =>
    xl (x4 + 1) fun v8 =>
    FM_room_18 s x1 n v7 v8
set_option maxHeartbeats 4000000 in
theorem ul_room_18 {G : Nat → Nat} {ad : Nat → Nat → Nat} {P0 : xP} {r : Int64} {s' : mS} {h : xH} {s : mS} (M : Mx G ad P0 h s) (x1 : Int32) : ∀ (n : Nat) (y2 : Int64) (x4 : Int32), FM_room_18 s x1 n y2 x4 = some (r, s') → Go (F_X11_room_18 G h (ad 19 0) x1 n y2 x4) r (fun h' => Mx G ad P0 h' s') := by
  intro n
  induction n with
  | zero =>
    intro y2 x4 hF
    rw [FM_room_18.eq_1] at hF
    cases hF
  | succ n ih =>
    intro y2 x4 hF
    rw [FM_room_18.eq_2] at hF
    rw [F_X11_room_18.eq_2]
    refine Go.b (M.gI' (k := 33) rfl) ?_
    by_cases c4 : (s.1 33) ≤ x4
    · replace hF := xift c4 hF
      refine Go.t c4 ?_
      cases hF
      exact ⟨_, rfl, M⟩
    · replace hF := xiff c4 hF
      refine Go.f c4 ?_
      refine Go.b (M.gR' (k := 34) rfl) ?_
      replace hF := xbind hF; obtain ⟨v5, ev5, hF⟩ := hF
      refine Go.b (M.ld (k := 34) rfl ev5) ?_
      by_cases c6 : v5 = x1
      · replace hF := xift c6 hF
        refine Go.t c6 ?_
        refine Go.b (M.gR' (k := 37) rfl) ?_
        replace hF := xbind hF; obtain ⟨v9, ev9, hF⟩ := hF
        refine Go.b (M.ld (k := 37) rfl ev9) ?_
        by_cases c10 : v9 = 1
        · replace hF := xift c10 hF
          refine Go.t c10 ?_
          refine Go.b (M.gR' (k := 35) rfl) ?_
          replace hF := xbind hF; obtain ⟨v13, ev13, hF⟩ := hF
          refine Go.b (M.ld (k := 35) rfl ev13) ?_
          obtain ⟨v14, ev14⟩ : ∃ z : Int64, z = (y2 - ((v13 : Int32).toInt64)) := ⟨_, rfl⟩
          replace hF := xlet ev14 hF
          refine Go.l ev14 ?_
          obtain ⟨v15, ev15⟩ : ∃ z : Int32, z = (x4 + 1) := ⟨_, rfl⟩
          replace hF := xlet ev15 hF
          refine Go.l ev15 ?_
          exact ih v14 v15 hF
        · replace hF := xiff c10 hF
          refine Go.f c10 ?_
          obtain ⟨v11, ev11⟩ : ∃ z : Int64, z = (y2 - 0) := ⟨_, rfl⟩
          replace hF := xlet ev11 hF
          refine Go.l ev11 ?_
          obtain ⟨v12, ev12⟩ : ∃ z : Int32, z = (x4 + 1) := ⟨_, rfl⟩
          replace hF := xlet ev12 hF
          refine Go.l ev12 ?_
          exact ih v11 v12 hF
      · replace hF := xiff c6 hF
        refine Go.f c6 ?_
        obtain ⟨v7, ev7⟩ : ∃ z : Int64, z = (y2 - 0) := ⟨_, rfl⟩
        replace hF := xlet ev7 hF
        refine Go.l ev7 ?_
        obtain ⟨v8, ev8⟩ : ∃ z : Int32, z = (x4 + 1) := ⟨_, rfl⟩
        replace hF := xlet ev8 hF
        refine Go.l ev8 ?_
        exact ih v7 v8 hF
def FM_room (s : mS) (x1 : Int32) : Option (Int64 × mS) :=
  (FM_spans s x1 (s.1 9)).bind fun s1 =>
  (FM_least s1 x1).bind fun v3 =>
  FM_room_18 s1 x1 xN v3 0
set_option maxHeartbeats 4000000 in
theorem u_room {G : Nat → Nat} {ad : Nat → Nat → Nat} {P0 : xP} {h : xH} {s : mS} {x1 : Int32} {r : Int64} {s' : mS} (M : Mx G ad P0 h s) (hF : FM_room s x1 = some (r, s')) : Go (F_X11_room G h (ad 19 0) x1) r (fun h' => Mx G ad P0 h' s') := by
  unfold FM_room at hF
  unfold F_X11_room
  refine Go.b (M.gI' (k := 9) rfl) ?_
  refine Go.b M.xc' ?_
  replace hF := xbind hF; obtain ⟨s1, es1, hF⟩ := hF
  replace M := u_spans M es1
  obtain ⟨h2, eh2, M⟩ := M
  refine Go.b eh2 ?_
  refine Go.b M.xc' ?_
  replace hF := xbind hF; obtain ⟨v3, ev3, hF⟩ := hF
  refine Go.b (u_least M ev3) ?_
  exact ul_room_18 M x1 _ v3 0 hF
def FM_let (s : mS) (x1 : Int32) : Option (Int32 × mS) :=
  xl (mI s 0 0) fun s1 =>
  (FM_isChange s1 x1).bind fun v3 =>
  if v3 = 0 then
    some (0, s1)
  else
  (mld s1 37 x1).bind fun v5 =>
  if v5 = 0 then
    (mld s1 34 x1).bind fun v7 =>
    (FM_room s1 v7).bind fun (v8, s9) =>
    (mld s9 35 x1).bind fun v11 =>
    if 0 ≤ (lg_cmp v8 ((v11 : Int32).toInt64)) then
      (mst s9 37 x1 1).bind fun s13 =>
      some (1, s13)
    else
    some (0, s9)
  else
  some (0, s1)
set_option maxHeartbeats 4000000 in
theorem u_let {G : Nat → Nat} {ad : Nat → Nat → Nat} {P0 : xP} {h : xH} {s : mS} {x1 : Int32} {r : Int32} {s' : mS} (M : Mx G ad P0 h s) (hF : FM_let s x1 = some (r, s')) : Go (F_X11_let G h (ad 19 0) x1) r (fun h' => Mx G ad P0 h' s') := by
  unfold FM_let at hF
  unfold F_X11_let
  obtain ⟨s1, es1⟩ : ∃ z : mS, z = (mI s 0 0) := ⟨_, rfl⟩
  replace hF := xlet es1 hF
  replace M := M.put (k := 0) (v := .int 0) s1 (by decide) (by rw [es1]; rfl) (by rw [es1]; rfl)
  obtain ⟨h2, eh2, M⟩ := M
  refine Go.b eh2 ?_
  refine Go.b M.xc' ?_
  replace hF := xbind hF; obtain ⟨v3, ev3, hF⟩ := hF
  refine Go.b (u_isChange M ev3) ?_
  by_cases c4 : v3 = 0
  · replace hF := xift c4 hF
    refine Go.t c4 ?_
    cases hF
    exact ⟨_, rfl, M⟩
  · replace hF := xiff c4 hF
    refine Go.f c4 ?_
    refine Go.b (M.gR' (k := 37) rfl) ?_
    replace hF := xbind hF; obtain ⟨v5, ev5, hF⟩ := hF
    refine Go.b (M.ld (k := 37) rfl ev5) ?_
    by_cases c6 : v5 = 0
    · replace hF := xift c6 hF
      refine Go.t c6 ?_
      refine Go.b (M.gR' (k := 34) rfl) ?_
      replace hF := xbind hF; obtain ⟨v7, ev7, hF⟩ := hF
      refine Go.b (M.ld (k := 34) rfl ev7) ?_
      refine Go.b M.xc' ?_
      replace hF := xbind hF; obtain ⟨⟨v8, s9⟩, es9, hF⟩ := hF
      replace M := u_room M es9
      obtain ⟨h10, eh10, M⟩ := M
      refine Go.b eh10 ?_
      refine Go.b (M.gR' (k := 35) rfl) ?_
      replace hF := xbind hF; obtain ⟨v11, ev11, hF⟩ := hF
      refine Go.b (M.ld (k := 35) rfl ev11) ?_
      by_cases c12 : 0 ≤ (lg_cmp v8 ((v11 : Int32).toInt64))
      · replace hF := xift c12 hF
        refine Go.t c12 ?_
        refine Go.b (M.gR' (k := 37) rfl) ?_
        replace hF := xbind hF; obtain ⟨s13, es13, hF⟩ := hF
        replace M := M.st (k := 37) rfl es13
        obtain ⟨h14, eh14, M⟩ := M
        refine Go.b eh14 ?_
        cases hF
        exact ⟨_, rfl, M⟩
      · replace hF := xiff c12 hF
        refine Go.f c12 ?_
        cases hF
        exact ⟨_, rfl, M⟩
    · replace hF := xiff c6 hF
      refine Go.f c6 ?_
      cases hF
      exact ⟨_, rfl, M⟩
def FM_settle (s : mS) (x1 : Int32) (x2 : Int32) : Option (Int32 × mS) :=
  xl (mI s 0 0) fun s1 =>
  (FM_isChange s1 x1).bind fun v3 =>
  if v3 = 0 then
    some (0, s1)
  else
  (mld s1 37 x1).bind fun v5 =>
  if v5 = 1 then
    if x2 < 0 then
      some (0, s1)
    else
    if x2 ≤ 100000 then
      (mst s1 37 x1 2).bind fun s9 =>
      (mst s9 38 x1 x2).bind fun s11 =>
      some (1, s11)
    else
    some (0, s1)
  else
  some (0, s1)
set_option maxHeartbeats 4000000 in
theorem u_settle {G : Nat → Nat} {ad : Nat → Nat → Nat} {P0 : xP} {h : xH} {s : mS} {x1 : Int32} {x2 : Int32} {r : Int32} {s' : mS} (M : Mx G ad P0 h s) (hF : FM_settle s x1 x2 = some (r, s')) : Go (F_X11_settle G h (ad 19 0) x1 x2) r (fun h' => Mx G ad P0 h' s') := by
  unfold FM_settle at hF
  unfold F_X11_settle
  obtain ⟨s1, es1⟩ : ∃ z : mS, z = (mI s 0 0) := ⟨_, rfl⟩
  replace hF := xlet es1 hF
  replace M := M.put (k := 0) (v := .int 0) s1 (by decide) (by rw [es1]; rfl) (by rw [es1]; rfl)
  obtain ⟨h2, eh2, M⟩ := M
  refine Go.b eh2 ?_
  refine Go.b M.xc' ?_
  replace hF := xbind hF; obtain ⟨v3, ev3, hF⟩ := hF
  refine Go.b (u_isChange M ev3) ?_
  by_cases c4 : v3 = 0
  · replace hF := xift c4 hF
    refine Go.t c4 ?_
    cases hF
    exact ⟨_, rfl, M⟩
  · replace hF := xiff c4 hF
    refine Go.f c4 ?_
    refine Go.b (M.gR' (k := 37) rfl) ?_
    replace hF := xbind hF; obtain ⟨v5, ev5, hF⟩ := hF
    refine Go.b (M.ld (k := 37) rfl ev5) ?_
    by_cases c6 : v5 = 1
    · replace hF := xift c6 hF
      refine Go.t c6 ?_
      by_cases c7 : x2 < 0
      · replace hF := xift c7 hF
        refine Go.t c7 ?_
        cases hF
        exact ⟨_, rfl, M⟩
      · replace hF := xiff c7 hF
        refine Go.f c7 ?_
        by_cases c8 : x2 ≤ 100000
        · replace hF := xift c8 hF
          refine Go.t c8 ?_
          refine Go.b (M.gR' (k := 37) rfl) ?_
          replace hF := xbind hF; obtain ⟨s9, es9, hF⟩ := hF
          replace M := M.st (k := 37) rfl es9
          obtain ⟨h10, eh10, M⟩ := M
          refine Go.b eh10 ?_
          refine Go.b (M.gR' (k := 38) rfl) ?_
          replace hF := xbind hF; obtain ⟨s11, es11, hF⟩ := hF
          replace M := M.st (k := 38) rfl es11
          obtain ⟨h12, eh12, M⟩ := M
          refine Go.b eh12 ?_
          cases hF
          exact ⟨_, rfl, M⟩
        · replace hF := xiff c8 hF
          refine Go.f c8 ?_
          cases hF
          exact ⟨_, rfl, M⟩
    · replace hF := xiff c6 hF
      refine Go.f c6 ?_
      cases hF
      exact ⟨_, rfl, M⟩
def FM_plan_257 (x2 : Int32) (x5 : Int32) (x6 : Int32) : Nat → mS → Int32 → Option (Int32 × mS)
  | 0, _, _ => none
  | n + 1, s, x8 =>
    if x2 ≤ x8 then
      some (x6, s)
    else
    if ((x5 >>> (((x2 - 1) - x8) &&& 31)) &&& 1) = 1 then
      (mld s 41 x8).bind fun v15 =>
      (mst s 40 (s.1 39) v15).bind fun s16 =>
      xl (mI s16 39 ((s16.1 39) + 1)) fun s18 =>
      xl (x8 + 1) fun v20 =>
      FM_plan_257 x2 x5 x6 n s18 v20
    else
    xl (x8 + 1) fun v14 =>
    FM_plan_257 x2 x5 x6 n s v14
set_option maxHeartbeats 4000000 in
theorem ul_plan_257 {G : Nat → Nat} {ad : Nat → Nat → Nat} {P0 : xP} {r : Int32} {s' : mS} (x2 : Int32) (x5 : Int32) (x6 : Int32) : ∀ (n : Nat) (s : mS) (x8 : Int32) (h : xH), Mx G ad P0 h s → FM_plan_257 x2 x5 x6 n s x8 = some (r, s') → Go (F_X11_plan_257 G (ad 19 0) x2 x5 x6 n h x8) r (fun h' => Mx G ad P0 h' s') := by
  intro n
  induction n with
  | zero =>
    intro s x8 h M hF
    rw [FM_plan_257.eq_1] at hF
    cases hF
  | succ n ih =>
    intro s x8 h M hF
    rw [FM_plan_257.eq_2] at hF
    rw [F_X11_plan_257.eq_2]
    by_cases c12 : x2 ≤ x8
    · replace hF := xift c12 hF
      refine Go.t c12 ?_
      cases hF
      exact ⟨_, rfl, M⟩
    · replace hF := xiff c12 hF
      refine Go.f c12 ?_
      by_cases c13 : ((x5 >>> (((x2 - 1) - x8) &&& 31)) &&& 1) = 1
      · replace hF := xift c13 hF
        refine Go.t c13 ?_
        refine Go.b (M.gR' (k := 40) rfl) ?_
        refine Go.b (M.gI' (k := 39) rfl) ?_
        refine Go.b (M.gR' (k := 41) rfl) ?_
        replace hF := xbind hF; obtain ⟨v15, ev15, hF⟩ := hF
        refine Go.b (M.ld (k := 41) rfl ev15) ?_
        replace hF := xbind hF; obtain ⟨s16, es16, hF⟩ := hF
        replace M := M.st (k := 40) rfl es16
        obtain ⟨h17, eh17, M⟩ := M
        refine Go.b eh17 ?_
        refine Go.b (M.gI' (k := 39) rfl) ?_
        obtain ⟨s18, es18⟩ : ∃ z : mS, z = (mI s16 39 ((s16.1 39) + 1)) := ⟨_, rfl⟩
        replace hF := xlet es18 hF
        replace M := M.put (k := 39) (v := .int ((s16.1 39) + 1)) s18 (by decide) (by rw [es18]; rfl) (by rw [es18]; rfl)
        obtain ⟨h19, eh19, M⟩ := M
        refine Go.b eh19 ?_
        obtain ⟨v20, ev20⟩ : ∃ z : Int32, z = (x8 + 1) := ⟨_, rfl⟩
        replace hF := xlet ev20 hF
        refine Go.l ev20 ?_
        exact ih s18 v20 _ M hF
      · replace hF := xiff c13 hF
        refine Go.f c13 ?_
        obtain ⟨v14, ev14⟩ : ∃ z : Int32, z = (x8 + 1) := ⟨_, rfl⟩
        replace hF := xlet ev14 hF
        refine Go.l ev14 ?_
        exact ih s v14 _ M hF
def FM_plan_112 (s : mS) (x2 : Int32) (y3 : Int64) (x5 : Int32) (x6 : Int32) (x7 : Int32) (x8 : Int32) (k86 : Int32 → Int32 → Int32 → Int32 → Option (Int32 × mS)) : Nat → Int64 → Int32 → Int32 → Int32 → Option (Int32 × mS)
  | 0, _, _, _, _ => none
  | n + 1, y9, x11, x12, x13 =>
    if x2 ≤ x13 then
      if x6 < x11 then
        if 0 < (lg_cmp y9 y3) then
          xl (x8 + 1) fun v27 =>
          k86 x5 x6 x7 v27
        else
        if (1 : Int32) = 0 then
          xl (x8 + 1) fun v29 =>
          k86 x5 x6 x7 v29
        else
        xl (x8 + 1) fun v30 =>
        k86 x8 x11 x12 v30
      else
      if x11 = x6 then
        if x12 < x7 then
          if 0 < (lg_cmp y9 y3) then
            xl (x8 + 1) fun v39 =>
            k86 x5 x6 x7 v39
          else
          if (1 : Int32) = 0 then
            xl (x8 + 1) fun v41 =>
            k86 x5 x6 x7 v41
          else
          xl (x8 + 1) fun v42 =>
          k86 x8 x11 x12 v42
        else
        if x12 = x7 then
          if x8 ≤ x5 then
            if 0 < (lg_cmp y9 y3) then
              xl (x8 + 1) fun v51 =>
              k86 x5 x6 x7 v51
            else
            if (0 : Int32) = 0 then
              xl (x8 + 1) fun v53 =>
              k86 x5 x6 x7 v53
            else
            xl (x8 + 1) fun v54 =>
            k86 x8 x11 x12 v54
          else
          if 0 < (lg_cmp y9 y3) then
            xl (x8 + 1) fun v56 =>
            k86 x5 x6 x7 v56
          else
          if (1 : Int32) = 0 then
            xl (x8 + 1) fun v58 =>
            k86 x5 x6 x7 v58
          else
          xl (x8 + 1) fun v59 =>
          k86 x8 x11 x12 v59
        else
        if 0 < (lg_cmp y9 y3) then
          xl (x8 + 1) fun v45 =>
          k86 x5 x6 x7 v45
        else
        if (0 : Int32) = 0 then
          xl (x8 + 1) fun v47 =>
          k86 x5 x6 x7 v47
        else
        xl (x8 + 1) fun v48 =>
        k86 x8 x11 x12 v48
      else
      if 0 < (lg_cmp y9 y3) then
        xl (x8 + 1) fun v33 =>
        k86 x5 x6 x7 v33
      else
      if (0 : Int32) = 0 then
        xl (x8 + 1) fun v35 =>
        k86 x5 x6 x7 v35
      else
      xl (x8 + 1) fun v36 =>
      k86 x8 x11 x12 v36
    else
    if ((x8 >>> (((x2 - 1) - x13) &&& 31)) &&& 1) = 1 then
      (mld s 41 x13).bind fun v62 =>
      (mld s 35 v62).bind fun v63 =>
      xl (y9 + ((v63 : Int32).toInt64)) fun v64 =>
      (mld s 41 x13).bind fun v65 =>
      (mld s 36 v65).bind fun v66 =>
      xl (x11 + v66) fun v67 =>
      xl (x12 + 1) fun v68 =>
      xl (x13 + 1) fun v69 =>
      FM_plan_112 s x2 y3 x5 x6 x7 x8 k86 n v64 v67 v68 v69
    else
    xl (x13 + 1) fun v61 =>
    FM_plan_112 s x2 y3 x5 x6 x7 x8 k86 n y9 x11 x12 v61
set_option maxHeartbeats 4000000 in
theorem ul_plan_112 {G : Nat → Nat} {ad : Nat → Nat → Nat} {P0 : xP} {r : Int32} {s' : mS} {h : xH} {s : mS} (M : Mx G ad P0 h s) (x2 : Int32) (y3 : Int64) (x5 : Int32) (x6 : Int32) (x7 : Int32) (x8 : Int32) (k86 : Int32 → Int32 → Int32 → Int32 → Option (Int32 × mS)) (q86 : Int32 → Int32 → Int32 → Int32 → Option (Int32 × xH)) (hk86 : ∀ (x5' : Int32) (x6' : Int32) (x7' : Int32) (x8' : Int32), k86 x5' x6' x7' x8' = some (r, s') → Go (q86 x5' x6' x7' x8') r (fun h' => Mx G ad P0 h' s')) : ∀ (n : Nat) (y9 : Int64) (x11 : Int32) (x12 : Int32) (x13 : Int32), FM_plan_112 s x2 y3 x5 x6 x7 x8 k86 n y9 x11 x12 x13 = some (r, s') → Go (F_X11_plan_112 G h (ad 19 0) x2 y3 x5 x6 x7 x8 q86 n y9 x11 x12 x13) r (fun h' => Mx G ad P0 h' s') := by
  intro n
  induction n with
  | zero =>
    intro y9 x11 x12 x13 hF
    rw [FM_plan_112.eq_1] at hF
    cases hF
  | succ n ih =>
    intro y9 x11 x12 x13 hF
    rw [FM_plan_112.eq_2] at hF
    rw [F_X11_plan_112.eq_2]
    by_cases c24 : x2 ≤ x13
    · replace hF := xift c24 hF
      refine Go.t c24 ?_
      by_cases c25 : x6 < x11
      · replace hF := xift c25 hF
        refine Go.t c25 ?_
        by_cases c26 : 0 < (lg_cmp y9 y3)
        · replace hF := xift c26 hF
          refine Go.t c26 ?_
          obtain ⟨v27, ev27⟩ : ∃ z : Int32, z = (x8 + 1) := ⟨_, rfl⟩
          replace hF := xlet ev27 hF
          refine Go.l ev27 ?_
          exact hk86 x5 x6 x7 v27 hF
        · replace hF := xiff c26 hF
          refine Go.f c26 ?_
          by_cases c28 : (1 : Int32) = 0
          · replace hF := xift c28 hF
            refine Go.t c28 ?_
            obtain ⟨v29, ev29⟩ : ∃ z : Int32, z = (x8 + 1) := ⟨_, rfl⟩
            replace hF := xlet ev29 hF
            refine Go.l ev29 ?_
            exact hk86 x5 x6 x7 v29 hF
          · replace hF := xiff c28 hF
            refine Go.f c28 ?_
            obtain ⟨v30, ev30⟩ : ∃ z : Int32, z = (x8 + 1) := ⟨_, rfl⟩
            replace hF := xlet ev30 hF
            refine Go.l ev30 ?_
            exact hk86 x8 x11 x12 v30 hF
      · replace hF := xiff c25 hF
        refine Go.f c25 ?_
        by_cases c31 : x11 = x6
        · replace hF := xift c31 hF
          refine Go.t c31 ?_
          by_cases c37 : x12 < x7
          · replace hF := xift c37 hF
            refine Go.t c37 ?_
            by_cases c38 : 0 < (lg_cmp y9 y3)
            · replace hF := xift c38 hF
              refine Go.t c38 ?_
              obtain ⟨v39, ev39⟩ : ∃ z : Int32, z = (x8 + 1) := ⟨_, rfl⟩
              replace hF := xlet ev39 hF
              refine Go.l ev39 ?_
              exact hk86 x5 x6 x7 v39 hF
            · replace hF := xiff c38 hF
              refine Go.f c38 ?_
              by_cases c40 : (1 : Int32) = 0
              · replace hF := xift c40 hF
                refine Go.t c40 ?_
                obtain ⟨v41, ev41⟩ : ∃ z : Int32, z = (x8 + 1) := ⟨_, rfl⟩
                replace hF := xlet ev41 hF
                refine Go.l ev41 ?_
                exact hk86 x5 x6 x7 v41 hF
              · replace hF := xiff c40 hF
                refine Go.f c40 ?_
                obtain ⟨v42, ev42⟩ : ∃ z : Int32, z = (x8 + 1) := ⟨_, rfl⟩
                replace hF := xlet ev42 hF
                refine Go.l ev42 ?_
                exact hk86 x8 x11 x12 v42 hF
          · replace hF := xiff c37 hF
            refine Go.f c37 ?_
            by_cases c43 : x12 = x7
            · replace hF := xift c43 hF
              refine Go.t c43 ?_
              by_cases c49 : x8 ≤ x5
              · replace hF := xift c49 hF
                refine Go.t c49 ?_
                by_cases c50 : 0 < (lg_cmp y9 y3)
                · replace hF := xift c50 hF
                  refine Go.t c50 ?_
                  obtain ⟨v51, ev51⟩ : ∃ z : Int32, z = (x8 + 1) := ⟨_, rfl⟩
                  replace hF := xlet ev51 hF
                  refine Go.l ev51 ?_
                  exact hk86 x5 x6 x7 v51 hF
                · replace hF := xiff c50 hF
                  refine Go.f c50 ?_
                  by_cases c52 : (0 : Int32) = 0
                  · replace hF := xift c52 hF
                    refine Go.t c52 ?_
                    obtain ⟨v53, ev53⟩ : ∃ z : Int32, z = (x8 + 1) := ⟨_, rfl⟩
                    replace hF := xlet ev53 hF
                    refine Go.l ev53 ?_
                    exact hk86 x5 x6 x7 v53 hF
                  · replace hF := xiff c52 hF
                    refine Go.f c52 ?_
                    obtain ⟨v54, ev54⟩ : ∃ z : Int32, z = (x8 + 1) := ⟨_, rfl⟩
                    replace hF := xlet ev54 hF
                    refine Go.l ev54 ?_
                    exact hk86 x8 x11 x12 v54 hF
              · replace hF := xiff c49 hF
                refine Go.f c49 ?_
                by_cases c55 : 0 < (lg_cmp y9 y3)
                · replace hF := xift c55 hF
                  refine Go.t c55 ?_
                  obtain ⟨v56, ev56⟩ : ∃ z : Int32, z = (x8 + 1) := ⟨_, rfl⟩
                  replace hF := xlet ev56 hF
                  refine Go.l ev56 ?_
                  exact hk86 x5 x6 x7 v56 hF
                · replace hF := xiff c55 hF
                  refine Go.f c55 ?_
                  by_cases c57 : (1 : Int32) = 0
                  · replace hF := xift c57 hF
                    refine Go.t c57 ?_
                    obtain ⟨v58, ev58⟩ : ∃ z : Int32, z = (x8 + 1) := ⟨_, rfl⟩
                    replace hF := xlet ev58 hF
                    refine Go.l ev58 ?_
                    exact hk86 x5 x6 x7 v58 hF
                  · replace hF := xiff c57 hF
                    refine Go.f c57 ?_
                    obtain ⟨v59, ev59⟩ : ∃ z : Int32, z = (x8 + 1) := ⟨_, rfl⟩
                    replace hF := xlet ev59 hF
                    refine Go.l ev59 ?_
                    exact hk86 x8 x11 x12 v59 hF
            · replace hF := xiff c43 hF
              refine Go.f c43 ?_
              by_cases c44 : 0 < (lg_cmp y9 y3)
              · replace hF := xift c44 hF
                refine Go.t c44 ?_
                obtain ⟨v45, ev45⟩ : ∃ z : Int32, z = (x8 + 1) := ⟨_, rfl⟩
                replace hF := xlet ev45 hF
                refine Go.l ev45 ?_
                exact hk86 x5 x6 x7 v45 hF
              · replace hF := xiff c44 hF
                refine Go.f c44 ?_
                by_cases c46 : (0 : Int32) = 0
                · replace hF := xift c46 hF
                  refine Go.t c46 ?_
                  obtain ⟨v47, ev47⟩ : ∃ z : Int32, z = (x8 + 1) := ⟨_, rfl⟩
                  replace hF := xlet ev47 hF
                  refine Go.l ev47 ?_
                  exact hk86 x5 x6 x7 v47 hF
                · replace hF := xiff c46 hF
                  refine Go.f c46 ?_
                  obtain ⟨v48, ev48⟩ : ∃ z : Int32, z = (x8 + 1) := ⟨_, rfl⟩
                  replace hF := xlet ev48 hF
                  refine Go.l ev48 ?_
                  exact hk86 x8 x11 x12 v48 hF
        · replace hF := xiff c31 hF
          refine Go.f c31 ?_
          by_cases c32 : 0 < (lg_cmp y9 y3)
          · replace hF := xift c32 hF
            refine Go.t c32 ?_
            obtain ⟨v33, ev33⟩ : ∃ z : Int32, z = (x8 + 1) := ⟨_, rfl⟩
            replace hF := xlet ev33 hF
            refine Go.l ev33 ?_
            exact hk86 x5 x6 x7 v33 hF
          · replace hF := xiff c32 hF
            refine Go.f c32 ?_
            by_cases c34 : (0 : Int32) = 0
            · replace hF := xift c34 hF
              refine Go.t c34 ?_
              obtain ⟨v35, ev35⟩ : ∃ z : Int32, z = (x8 + 1) := ⟨_, rfl⟩
              replace hF := xlet ev35 hF
              refine Go.l ev35 ?_
              exact hk86 x5 x6 x7 v35 hF
            · replace hF := xiff c34 hF
              refine Go.f c34 ?_
              obtain ⟨v36, ev36⟩ : ∃ z : Int32, z = (x8 + 1) := ⟨_, rfl⟩
              replace hF := xlet ev36 hF
              refine Go.l ev36 ?_
              exact hk86 x8 x11 x12 v36 hF
    · replace hF := xiff c24 hF
      refine Go.f c24 ?_
      by_cases c60 : ((x8 >>> (((x2 - 1) - x13) &&& 31)) &&& 1) = 1
      · replace hF := xift c60 hF
        refine Go.t c60 ?_
        refine Go.b (M.gR' (k := 35) rfl) ?_
        refine Go.b (M.gR' (k := 41) rfl) ?_
        replace hF := xbind hF; obtain ⟨v62, ev62, hF⟩ := hF
        refine Go.b (M.ld (k := 41) rfl ev62) ?_
        replace hF := xbind hF; obtain ⟨v63, ev63, hF⟩ := hF
        refine Go.b (M.ld (k := 35) rfl ev63) ?_
        obtain ⟨v64, ev64⟩ : ∃ z : Int64, z = (y9 + ((v63 : Int32).toInt64)) := ⟨_, rfl⟩
        replace hF := xlet ev64 hF
        refine Go.l ev64 ?_
        refine Go.b (M.gR' (k := 36) rfl) ?_
        refine Go.b (M.gR' (k := 41) rfl) ?_
        replace hF := xbind hF; obtain ⟨v65, ev65, hF⟩ := hF
        refine Go.b (M.ld (k := 41) rfl ev65) ?_
        replace hF := xbind hF; obtain ⟨v66, ev66, hF⟩ := hF
        refine Go.b (M.ld (k := 36) rfl ev66) ?_
        obtain ⟨v67, ev67⟩ : ∃ z : Int32, z = (x11 + v66) := ⟨_, rfl⟩
        replace hF := xlet ev67 hF
        refine Go.l ev67 ?_
        obtain ⟨v68, ev68⟩ : ∃ z : Int32, z = (x12 + 1) := ⟨_, rfl⟩
        replace hF := xlet ev68 hF
        refine Go.l ev68 ?_
        obtain ⟨v69, ev69⟩ : ∃ z : Int32, z = (x13 + 1) := ⟨_, rfl⟩
        replace hF := xlet ev69 hF
        refine Go.l ev69 ?_
        exact ih v64 v67 v68 v69 hF
      · replace hF := xiff c60 hF
        refine Go.f c60 ?_
        obtain ⟨v61, ev61⟩ : ∃ z : Int32, z = (x13 + 1) := ⟨_, rfl⟩
        replace hF := xlet ev61 hF
        refine Go.l ev61 ?_
        exact ih y9 x11 x12 v61 hF
def FM_plan_86 (s : mS) (x2 : Int32) (y3 : Int64) : Nat → Int32 → Int32 → Int32 → Int32 → Option (Int32 × mS)
  | 0, _, _, _, _ => none
  | n + 1, x5, x6, x7, x8 =>
    if (1 <<< (x2 &&& 31)) ≤ x8 then
      xl (mI s 39 0) fun s10 =>
      FM_plan_257 x2 x5 x6 xN s10 0
    else
    if (lg_cmp y3 0) < 0 then
      xl (mI s 39 0) fun s22 =>
      FM_plan_257 x2 x5 x6 xN s22 0
    else
    FM_plan_112 s x2 y3 x5 x6 x7 x8 (fun x5' x6' x7' x8' => FM_plan_86 s x2 y3 n x5' x6' x7' x8') xN 0 0 0 0
set_option maxHeartbeats 4000000 in
theorem ul_plan_86 {G : Nat → Nat} {ad : Nat → Nat → Nat} {P0 : xP} {r : Int32} {s' : mS} {h : xH} {s : mS} (M : Mx G ad P0 h s) (x2 : Int32) (y3 : Int64) : ∀ (n : Nat) (x5 : Int32) (x6 : Int32) (x7 : Int32) (x8 : Int32), FM_plan_86 s x2 y3 n x5 x6 x7 x8 = some (r, s') → Go (F_X11_plan_86 G h (ad 19 0) x2 y3 n x5 x6 x7 x8) r (fun h' => Mx G ad P0 h' s') := by
  intro n
  induction n with
  | zero =>
    intro x5 x6 x7 x8 hF
    rw [FM_plan_86.eq_1] at hF
    cases hF
  | succ n ih =>
    intro x5 x6 x7 x8 hF
    rw [FM_plan_86.eq_2] at hF
    rw [F_X11_plan_86.eq_2]
    by_cases c9 : (1 <<< (x2 &&& 31)) ≤ x8
    · replace hF := xift c9 hF
      refine Go.t c9 ?_
      obtain ⟨s10, es10⟩ : ∃ z : mS, z = (mI s 39 0) := ⟨_, rfl⟩
      replace hF := xlet es10 hF
      replace M := M.put (k := 39) (v := .int 0) s10 (by decide) (by rw [es10]; rfl) (by rw [es10]; rfl)
      obtain ⟨h11, eh11, M⟩ := M
      refine Go.b eh11 ?_
      exact ul_plan_257 x2 x5 x6 _ s10 0 _ M hF
    · replace hF := xiff c9 hF
      refine Go.f c9 ?_
      by_cases c21 : (lg_cmp y3 0) < 0
      · replace hF := xift c21 hF
        refine Go.t c21 ?_
        obtain ⟨s22, es22⟩ : ∃ z : mS, z = (mI s 39 0) := ⟨_, rfl⟩
        replace hF := xlet es22 hF
        replace M := M.put (k := 39) (v := .int 0) s22 (by decide) (by rw [es22]; rfl) (by rw [es22]; rfl)
        obtain ⟨h23, eh23, M⟩ := M
        refine Go.b eh23 ?_
        exact ul_plan_257 x2 x5 x6 _ s22 0 _ M hF
      · replace hF := xiff c21 hF
        refine Go.f c21 ?_
        exact ul_plan_112 M x2 y3 x5 x6 x7 x8 (fun x5' x6' x7' x8' => FM_plan_86 s x2 y3 n x5' x6' x7' x8') _ (fun x5' x6' x7' x8' => ih x5' x6' x7' x8') _ 0 0 0 0 hF
def FM_plan_19 (x1 : Int32) : Nat → mS → Int32 → Int32 → Option (Int32 × mS)
  | 0, _, _, _ => none
  | n + 1, s, x2, x3 =>
    if (s.1 33) ≤ x3 then
      (FM_room s x1).bind fun (v6, s7) =>
      FM_plan_86 s7 x2 v6 xN 0 0 0 1
    else
    if 14 ≤ x2 then
      (FM_room s x1).bind fun (v71, s72) =>
      FM_plan_86 s72 x2 v71 xN 0 0 0 1
    else
    (mld s 34 x3).bind fun v74 =>
    if v74 = x1 then
      (mld s 37 x3).bind fun v77 =>
      if v77 = 0 then
        (mst s 41 x2 x3).bind fun s80 =>
        xl (x2 + 1) fun v82 =>
        xl (x3 + 1) fun v83 =>
        FM_plan_19 x1 n s80 v82 v83
      else
      xl (x3 + 1) fun v79 =>
      FM_plan_19 x1 n s x2 v79
    else
    xl (x3 + 1) fun v76 =>
    FM_plan_19 x1 n s x2 v76
set_option maxHeartbeats 4000000 in
theorem ul_plan_19 {G : Nat → Nat} {ad : Nat → Nat → Nat} {P0 : xP} {r : Int32} {s' : mS} (x1 : Int32) : ∀ (n : Nat) (s : mS) (x2 : Int32) (x3 : Int32) (h : xH), Mx G ad P0 h s → FM_plan_19 x1 n s x2 x3 = some (r, s') → Go (F_X11_plan_19 G (ad 19 0) x1 n h x2 x3) r (fun h' => Mx G ad P0 h' s') := by
  intro n
  induction n with
  | zero =>
    intro s x2 x3 h M hF
    rw [FM_plan_19.eq_1] at hF
    cases hF
  | succ n ih =>
    intro s x2 x3 h M hF
    rw [FM_plan_19.eq_2] at hF
    rw [F_X11_plan_19.eq_2]
    refine Go.b (M.gI' (k := 33) rfl) ?_
    by_cases c5 : (s.1 33) ≤ x3
    · replace hF := xift c5 hF
      refine Go.t c5 ?_
      refine Go.b M.xc' ?_
      replace hF := xbind hF; obtain ⟨⟨v6, s7⟩, es7, hF⟩ := hF
      replace M := u_room M es7
      obtain ⟨h8, eh8, M⟩ := M
      refine Go.b eh8 ?_
      exact ul_plan_86 M x2 v6 _ 0 0 0 1 hF
    · replace hF := xiff c5 hF
      refine Go.f c5 ?_
      by_cases c70 : 14 ≤ x2
      · replace hF := xift c70 hF
        refine Go.t c70 ?_
        refine Go.b M.xc' ?_
        replace hF := xbind hF; obtain ⟨⟨v71, s72⟩, es72, hF⟩ := hF
        replace M := u_room M es72
        obtain ⟨h73, eh73, M⟩ := M
        refine Go.b eh73 ?_
        exact ul_plan_86 M x2 v71 _ 0 0 0 1 hF
      · replace hF := xiff c70 hF
        refine Go.f c70 ?_
        refine Go.b (M.gR' (k := 34) rfl) ?_
        replace hF := xbind hF; obtain ⟨v74, ev74, hF⟩ := hF
        refine Go.b (M.ld (k := 34) rfl ev74) ?_
        by_cases c75 : v74 = x1
        · replace hF := xift c75 hF
          refine Go.t c75 ?_
          refine Go.b (M.gR' (k := 37) rfl) ?_
          replace hF := xbind hF; obtain ⟨v77, ev77, hF⟩ := hF
          refine Go.b (M.ld (k := 37) rfl ev77) ?_
          by_cases c78 : v77 = 0
          · replace hF := xift c78 hF
            refine Go.t c78 ?_
            refine Go.b (M.gR' (k := 41) rfl) ?_
            replace hF := xbind hF; obtain ⟨s80, es80, hF⟩ := hF
            replace M := M.st (k := 41) rfl es80
            obtain ⟨h81, eh81, M⟩ := M
            refine Go.b eh81 ?_
            obtain ⟨v82, ev82⟩ : ∃ z : Int32, z = (x2 + 1) := ⟨_, rfl⟩
            replace hF := xlet ev82 hF
            refine Go.l ev82 ?_
            obtain ⟨v83, ev83⟩ : ∃ z : Int32, z = (x3 + 1) := ⟨_, rfl⟩
            replace hF := xlet ev83 hF
            refine Go.l ev83 ?_
            exact ih s80 v82 v83 _ M hF
          · replace hF := xiff c78 hF
            refine Go.f c78 ?_
            obtain ⟨v79, ev79⟩ : ∃ z : Int32, z = (x3 + 1) := ⟨_, rfl⟩
            replace hF := xlet ev79 hF
            refine Go.l ev79 ?_
            exact ih s x2 v79 _ M hF
        · replace hF := xiff c75 hF
          refine Go.f c75 ?_
          obtain ⟨v76, ev76⟩ : ∃ z : Int32, z = (x3 + 1) := ⟨_, rfl⟩
          replace hF := xlet ev76 hF
          refine Go.l ev76 ?_
          exact ih s x2 v76 _ M hF
def FM_plan (s : mS) (x1 : Int32) : Option (Int32 × mS) :=
  xl (mI s 0 0) fun s1 =>
  (FM_isPromise s1 x1).bind fun v3 =>
  if v3 = 0 then
    some ((-1), s1)
  else
  FM_plan_19 x1 xN s1 0 0
set_option maxHeartbeats 4000000 in
theorem u_plan {G : Nat → Nat} {ad : Nat → Nat → Nat} {P0 : xP} {h : xH} {s : mS} {x1 : Int32} {r : Int32} {s' : mS} (M : Mx G ad P0 h s) (hF : FM_plan s x1 = some (r, s')) : Go (F_X11_plan G h (ad 19 0) x1) r (fun h' => Mx G ad P0 h' s') := by
  unfold FM_plan at hF
  unfold F_X11_plan
  obtain ⟨s1, es1⟩ : ∃ z : mS, z = (mI s 0 0) := ⟨_, rfl⟩
  replace hF := xlet es1 hF
  replace M := M.put (k := 0) (v := .int 0) s1 (by decide) (by rw [es1]; rfl) (by rw [es1]; rfl)
  obtain ⟨h2, eh2, M⟩ := M
  refine Go.b eh2 ?_
  refine Go.b M.xc' ?_
  replace hF := xbind hF; obtain ⟨v3, ev3, hF⟩ := hF
  refine Go.b (u_isPromise M ev3) ?_
  by_cases c4 : v3 = 0
  · replace hF := xift c4 hF
    refine Go.t c4 ?_
    cases hF
    exact ⟨_, rfl, M⟩
  · replace hF := xiff c4 hF
    refine Go.f c4 ?_
    exact ul_plan_19 x1 _ s1 0 0 _ M hF
def FM_planned (s : mS) (x1 : Int32) : Option (Int32 × mS) :=
  xl (mI s 0 0) fun s1 =>
  if x1 < 0 then
    some ((-1), s1)
  else
  if x1 < (s1.1 39) then
    (mld s1 40 x1).bind fun v5 =>
    some (v5, s1)
  else
  some ((-1), s1)
set_option maxHeartbeats 4000000 in
theorem u_planned {G : Nat → Nat} {ad : Nat → Nat → Nat} {P0 : xP} {h : xH} {s : mS} {x1 : Int32} {r : Int32} {s' : mS} (M : Mx G ad P0 h s) (hF : FM_planned s x1 = some (r, s')) : Go (F_X11_planned G h (ad 19 0) x1) r (fun h' => Mx G ad P0 h' s') := by
  unfold FM_planned at hF
  unfold F_X11_planned
  obtain ⟨s1, es1⟩ : ∃ z : mS, z = (mI s 0 0) := ⟨_, rfl⟩
  replace hF := xlet es1 hF
  replace M := M.put (k := 0) (v := .int 0) s1 (by decide) (by rw [es1]; rfl) (by rw [es1]; rfl)
  obtain ⟨h2, eh2, M⟩ := M
  refine Go.b eh2 ?_
  by_cases c3 : x1 < 0
  · replace hF := xift c3 hF
    refine Go.t c3 ?_
    cases hF
    exact ⟨_, rfl, M⟩
  · replace hF := xiff c3 hF
    refine Go.f c3 ?_
    refine Go.b (M.gI' (k := 39) rfl) ?_
    by_cases c4 : x1 < (s1.1 39)
    · replace hF := xift c4 hF
      refine Go.t c4 ?_
      refine Go.b (M.gR' (k := 40) rfl) ?_
      replace hF := xbind hF; obtain ⟨v5, ev5, hF⟩ := hF
      refine Go.b (M.ld (k := 40) rfl ev5) ?_
      cases hF
      exact ⟨_, rfl, M⟩
    · replace hF := xiff c4 hF
      refine Go.f c4 ?_
      cases hF
      exact ⟨_, rfl, M⟩
def FM_look (s : mS) (x1 : Int32) (x2 : Int32) : Option (Int32 × mS) :=
  xl (mI s 0 0) fun s1 =>
  (FM_isChange s1 x1).bind fun v3 =>
  if v3 = 0 then
    some ((-1), s1)
  else
  if x2 = 0 then
    (mld s1 37 x1).bind fun v14 =>
    some (v14, s1)
  else
  if x2 = 1 then
    (mld s1 34 x1).bind fun v13 =>
    some (v13, s1)
  else
  if x2 = 2 then
    (mld s1 35 x1).bind fun v12 =>
    some (v12, s1)
  else
  if x2 = 3 then
    (mld s1 36 x1).bind fun v11 =>
    some (v11, s1)
  else
  if x2 = 4 then
    (mld s1 38 x1).bind fun v10 =>
    some (v10, s1)
  else
  some ((-1), s1)
set_option maxHeartbeats 4000000 in
theorem u_look {G : Nat → Nat} {ad : Nat → Nat → Nat} {P0 : xP} {h : xH} {s : mS} {x1 : Int32} {x2 : Int32} {r : Int32} {s' : mS} (M : Mx G ad P0 h s) (hF : FM_look s x1 x2 = some (r, s')) : Go (F_X11_look G h (ad 19 0) x1 x2) r (fun h' => Mx G ad P0 h' s') := by
  unfold FM_look at hF
  unfold F_X11_look
  obtain ⟨s1, es1⟩ : ∃ z : mS, z = (mI s 0 0) := ⟨_, rfl⟩
  replace hF := xlet es1 hF
  replace M := M.put (k := 0) (v := .int 0) s1 (by decide) (by rw [es1]; rfl) (by rw [es1]; rfl)
  obtain ⟨h2, eh2, M⟩ := M
  refine Go.b eh2 ?_
  refine Go.b M.xc' ?_
  replace hF := xbind hF; obtain ⟨v3, ev3, hF⟩ := hF
  refine Go.b (u_isChange M ev3) ?_
  by_cases c4 : v3 = 0
  · replace hF := xift c4 hF
    refine Go.t c4 ?_
    cases hF
    exact ⟨_, rfl, M⟩
  · replace hF := xiff c4 hF
    refine Go.f c4 ?_
    by_cases c5 : x2 = 0
    · replace hF := xift c5 hF
      refine Go.t c5 ?_
      refine Go.b (M.gR' (k := 37) rfl) ?_
      replace hF := xbind hF; obtain ⟨v14, ev14, hF⟩ := hF
      refine Go.b (M.ld (k := 37) rfl ev14) ?_
      cases hF
      exact ⟨_, rfl, M⟩
    · replace hF := xiff c5 hF
      refine Go.f c5 ?_
      by_cases c6 : x2 = 1
      · replace hF := xift c6 hF
        refine Go.t c6 ?_
        refine Go.b (M.gR' (k := 34) rfl) ?_
        replace hF := xbind hF; obtain ⟨v13, ev13, hF⟩ := hF
        refine Go.b (M.ld (k := 34) rfl ev13) ?_
        cases hF
        exact ⟨_, rfl, M⟩
      · replace hF := xiff c6 hF
        refine Go.f c6 ?_
        by_cases c7 : x2 = 2
        · replace hF := xift c7 hF
          refine Go.t c7 ?_
          refine Go.b (M.gR' (k := 35) rfl) ?_
          replace hF := xbind hF; obtain ⟨v12, ev12, hF⟩ := hF
          refine Go.b (M.ld (k := 35) rfl ev12) ?_
          cases hF
          exact ⟨_, rfl, M⟩
        · replace hF := xiff c7 hF
          refine Go.f c7 ?_
          by_cases c8 : x2 = 3
          · replace hF := xift c8 hF
            refine Go.t c8 ?_
            refine Go.b (M.gR' (k := 36) rfl) ?_
            replace hF := xbind hF; obtain ⟨v11, ev11, hF⟩ := hF
            refine Go.b (M.ld (k := 36) rfl ev11) ?_
            cases hF
            exact ⟨_, rfl, M⟩
          · replace hF := xiff c8 hF
            refine Go.f c8 ?_
            by_cases c9 : x2 = 4
            · replace hF := xift c9 hF
              refine Go.t c9 ?_
              refine Go.b (M.gR' (k := 38) rfl) ?_
              replace hF := xbind hF; obtain ⟨v10, ev10, hF⟩ := hF
              refine Go.b (M.ld (k := 38) rfl ev10) ?_
              cases hF
              exact ⟨_, rfl, M⟩
            · replace hF := xiff c9 hF
              refine Go.f c9 ?_
              cases hF
              exact ⟨_, rfl, M⟩
def FM_desk (s : mS) (x1 : Int32) : Option (Int32 × mS) :=
  xl (mI s 0 0) fun s1 =>
  if x1 = 0 then
    some ((s1.1 1), s1)
  else
  if x1 = 1 then
    some ((s1.1 2), s1)
  else
  if x1 = 2 then
    some ((s1.1 9), s1)
  else
  if x1 = 3 then
    some ((s1.1 15), s1)
  else
  if x1 = 4 then
    some ((s1.1 10), s1)
  else
  if x1 = 5 then
    some ((s1.1 11), s1)
  else
  if x1 = 6 then
    some ((s1.1 26), s1)
  else
  if x1 = 7 then
    some ((s1.1 33), s1)
  else
  if x1 = 8 then
    some ((s1.1 24), s1)
  else
  some ((-1), s1)
set_option maxHeartbeats 4000000 in
theorem u_desk {G : Nat → Nat} {ad : Nat → Nat → Nat} {P0 : xP} {h : xH} {s : mS} {x1 : Int32} {r : Int32} {s' : mS} (M : Mx G ad P0 h s) (hF : FM_desk s x1 = some (r, s')) : Go (F_X11_desk G h (ad 19 0) x1) r (fun h' => Mx G ad P0 h' s') := by
  unfold FM_desk at hF
  unfold F_X11_desk
  obtain ⟨s1, es1⟩ : ∃ z : mS, z = (mI s 0 0) := ⟨_, rfl⟩
  replace hF := xlet es1 hF
  replace M := M.put (k := 0) (v := .int 0) s1 (by decide) (by rw [es1]; rfl) (by rw [es1]; rfl)
  obtain ⟨h2, eh2, M⟩ := M
  refine Go.b eh2 ?_
  by_cases c3 : x1 = 0
  · replace hF := xift c3 hF
    refine Go.t c3 ?_
    refine Go.b (M.gI' (k := 1) rfl) ?_
    cases hF
    exact ⟨_, rfl, M⟩
  replace hF := xiff c3 hF
  refine Go.f c3 ?_
  by_cases c4 : x1 = 1
  · replace hF := xift c4 hF
    refine Go.t c4 ?_
    refine Go.b (M.gI' (k := 2) rfl) ?_
    cases hF
    exact ⟨_, rfl, M⟩
  replace hF := xiff c4 hF
  refine Go.f c4 ?_
  by_cases c5 : x1 = 2
  · replace hF := xift c5 hF
    refine Go.t c5 ?_
    refine Go.b (M.gI' (k := 9) rfl) ?_
    cases hF
    exact ⟨_, rfl, M⟩
  replace hF := xiff c5 hF
  refine Go.f c5 ?_
  by_cases c6 : x1 = 3
  · replace hF := xift c6 hF
    refine Go.t c6 ?_
    refine Go.b (M.gI' (k := 15) rfl) ?_
    cases hF
    exact ⟨_, rfl, M⟩
  replace hF := xiff c6 hF
  refine Go.f c6 ?_
  by_cases c7 : x1 = 4
  · replace hF := xift c7 hF
    refine Go.t c7 ?_
    refine Go.b (M.gI' (k := 10) rfl) ?_
    cases hF
    exact ⟨_, rfl, M⟩
  replace hF := xiff c7 hF
  refine Go.f c7 ?_
  by_cases c8 : x1 = 5
  · replace hF := xift c8 hF
    refine Go.t c8 ?_
    refine Go.b (M.gI' (k := 11) rfl) ?_
    cases hF
    exact ⟨_, rfl, M⟩
  replace hF := xiff c8 hF
  refine Go.f c8 ?_
  by_cases c9 : x1 = 6
  · replace hF := xift c9 hF
    refine Go.t c9 ?_
    refine Go.b (M.gI' (k := 26) rfl) ?_
    cases hF
    exact ⟨_, rfl, M⟩
  replace hF := xiff c9 hF
  refine Go.f c9 ?_
  by_cases c10 : x1 = 7
  · replace hF := xift c10 hF
    refine Go.t c10 ?_
    refine Go.b (M.gI' (k := 33) rfl) ?_
    cases hF
    exact ⟨_, rfl, M⟩
  replace hF := xiff c10 hF
  refine Go.f c10 ?_
  by_cases c11 : x1 = 8
  · replace hF := xift c11 hF
    refine Go.t c11 ?_
    refine Go.b (M.gI' (k := 24) rfl) ?_
    cases hF
    exact ⟨_, rfl, M⟩
  replace hF := xiff c11 hF
  refine Go.f c11 ?_
  cases hF
  exact ⟨_, rfl, M⟩
