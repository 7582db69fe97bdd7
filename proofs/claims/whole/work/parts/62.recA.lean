def FM_thrown (s : mS) : Option Int32 :=
  some (s.1 0)
set_option maxHeartbeats 4000000 in
theorem u_thrown {G : Nat → Nat} {ad : Nat → Nat → Nat} {P0 : xP} {h : xH} {s : mS} {r : Int32} (M : Mx G ad P0 h s) (hF : FM_thrown s = some r) : Gr (F_X11_thrown G h (ad 19 0)) r := by
  unfold FM_thrown at hF
  unfold F_X11_thrown
  refine Gr.b (M.gI' (k := 0) rfl) ?_
  exact hF
def FM_isService (s : mS) (x1 : Int32) : Option Int32 :=
  if x1 < 0 then
    some 0
  else
  if (s.1 1) ≤ x1 then
    some 0
  else
  some 1
set_option maxHeartbeats 4000000 in
theorem u_isService {G : Nat → Nat} {ad : Nat → Nat → Nat} {P0 : xP} {h : xH} {s : mS} {x1 : Int32} {r : Int32} (M : Mx G ad P0 h s) (hF : FM_isService s x1 = some r) : Gr (F_X11_isService G h (ad 19 0) x1) r := by
  unfold FM_isService at hF
  unfold F_X11_isService
  by_cases c1 : x1 < 0
  · replace hF := xift c1 hF
    refine Gr.t c1 ?_
    exact hF
  · replace hF := xiff c1 hF
    refine Gr.f c1 ?_
    refine Gr.b (M.gI' (k := 1) rfl) ?_
    by_cases c2 : (s.1 1) ≤ x1
    · replace hF := xift c2 hF
      refine Gr.t c2 ?_
      exact hF
    · replace hF := xiff c2 hF
      refine Gr.f c2 ?_
      exact hF
def FM_service (s : mS) : Option (Int32 × mS) :=
  xl (mI s 0 0) fun s1 =>
  if (s1.1 1) = 8 then
    some ((-1), s1)
  else
  xl (mI s1 1 ((s1.1 1) + 1)) fun s4 =>
  some (((s4.1 1) - 1), s4)
set_option maxHeartbeats 4000000 in
theorem u_service {G : Nat → Nat} {ad : Nat → Nat → Nat} {P0 : xP} {h : xH} {s : mS} {r : Int32} {s' : mS} (M : Mx G ad P0 h s) (hF : FM_service s = some (r, s')) : Go (F_X11_service G h (ad 19 0)) r (fun h' => Mx G ad P0 h' s') := by
  unfold FM_service at hF
  unfold F_X11_service
  obtain ⟨s1, es1⟩ : ∃ z : mS, z = (mI s 0 0) := ⟨_, rfl⟩
  replace hF := xlet es1 hF
  replace M := M.put (k := 0) (v := .int 0) s1 (by decide) (by rw [es1]; rfl) (by rw [es1]; rfl)
  obtain ⟨h2, eh2, M⟩ := M
  refine Go.b eh2 ?_
  refine Go.b (M.gI' (k := 1) rfl) ?_
  by_cases c3 : (s1.1 1) = 8
  · replace hF := xift c3 hF
    refine Go.t c3 ?_
    cases hF
    exact ⟨_, rfl, M⟩
  · replace hF := xiff c3 hF
    refine Go.f c3 ?_
    refine Go.b (M.gI' (k := 1) rfl) ?_
    obtain ⟨s4, es4⟩ : ∃ z : mS, z = (mI s1 1 ((s1.1 1) + 1)) := ⟨_, rfl⟩
    replace hF := xlet es4 hF
    replace M := M.put (k := 1) (v := .int ((s1.1 1) + 1)) s4 (by decide) (by rw [es4]; rfl) (by rw [es4]; rfl)
    obtain ⟨h5, eh5, M⟩ := M
    refine Go.b eh5 ?_
    refine Go.b (M.gI' (k := 1) rfl) ?_
    cases hF
    exact ⟨_, rfl, M⟩
def FM_source (s : mS) (x1 : Int32) (x2 : Int32) (x3 : Int32) : Option (Int32 × mS) :=
  xl (mI s 0 0) fun s1 =>
  (FM_isService s1 x1).bind fun v3 =>
  if v3 = 0 then
    some ((-1), s1)
  else
  if x2 < 0 then
    some ((-1), s1)
  else
  if 60 < x2 then
    some ((-1), s1)
  else
  if x3 < 1 then
    some ((-1), s1)
  else
  if 1000 < x3 then
    some ((-1), s1)
  else
  if (s1.1 2) = 16 then
    some ((-1), s1)
  else
  (mst s1 3 (s1.1 2) x1).bind fun s10 =>
  (mst s10 4 (s10.1 2) x2).bind fun s12 =>
  (mst s12 5 (s12.1 2) x3).bind fun s14 =>
  xl (mI s14 2 ((s14.1 2) + 1)) fun s16 =>
  some (((s16.1 2) - 1), s16)
set_option maxHeartbeats 4000000 in
theorem u_source {G : Nat → Nat} {ad : Nat → Nat → Nat} {P0 : xP} {h : xH} {s : mS} {x1 : Int32} {x2 : Int32} {x3 : Int32} {r : Int32} {s' : mS} (M : Mx G ad P0 h s) (hF : FM_source s x1 x2 x3 = some (r, s')) : Go (F_X11_source G h (ad 19 0) x1 x2 x3) r (fun h' => Mx G ad P0 h' s') := by
  unfold FM_source at hF
  unfold F_X11_source
  obtain ⟨s1, es1⟩ : ∃ z : mS, z = (mI s 0 0) := ⟨_, rfl⟩
  replace hF := xlet es1 hF
  replace M := M.put (k := 0) (v := .int 0) s1 (by decide) (by rw [es1]; rfl) (by rw [es1]; rfl)
  obtain ⟨h2, eh2, M⟩ := M
  refine Go.b eh2 ?_
  refine Go.b M.xc' ?_
  replace hF := xbind hF; obtain ⟨v3, ev3, hF⟩ := hF
  refine Go.b (u_isService M ev3) ?_
  by_cases c4 : v3 = 0
  · replace hF := xift c4 hF
    refine Go.t c4 ?_
    cases hF
    exact ⟨_, rfl, M⟩
  · replace hF := xiff c4 hF
    refine Go.f c4 ?_
    by_cases c5 : x2 < 0
    · replace hF := xift c5 hF
      refine Go.t c5 ?_
      cases hF
      exact ⟨_, rfl, M⟩
    · replace hF := xiff c5 hF
      refine Go.f c5 ?_
      by_cases c6 : 60 < x2
      · replace hF := xift c6 hF
        refine Go.t c6 ?_
        cases hF
        exact ⟨_, rfl, M⟩
      · replace hF := xiff c6 hF
        refine Go.f c6 ?_
        by_cases c7 : x3 < 1
        · replace hF := xift c7 hF
          refine Go.t c7 ?_
          cases hF
          exact ⟨_, rfl, M⟩
        · replace hF := xiff c7 hF
          refine Go.f c7 ?_
          by_cases c8 : 1000 < x3
          · replace hF := xift c8 hF
            refine Go.t c8 ?_
            cases hF
            exact ⟨_, rfl, M⟩
          · replace hF := xiff c8 hF
            refine Go.f c8 ?_
            refine Go.b (M.gI' (k := 2) rfl) ?_
            by_cases c9 : (s1.1 2) = 16
            · replace hF := xift c9 hF
              refine Go.t c9 ?_
              cases hF
              exact ⟨_, rfl, M⟩
            · replace hF := xiff c9 hF
              refine Go.f c9 ?_
              refine Go.b (M.gR' (k := 3) rfl) ?_
              refine Go.b (M.gI' (k := 2) rfl) ?_
              replace hF := xbind hF; obtain ⟨s10, es10, hF⟩ := hF
              replace M := M.st (k := 3) rfl es10
              obtain ⟨h11, eh11, M⟩ := M
              refine Go.b eh11 ?_
              refine Go.b (M.gR' (k := 4) rfl) ?_
              refine Go.b (M.gI' (k := 2) rfl) ?_
              replace hF := xbind hF; obtain ⟨s12, es12, hF⟩ := hF
              replace M := M.st (k := 4) rfl es12
              obtain ⟨h13, eh13, M⟩ := M
              refine Go.b eh13 ?_
              refine Go.b (M.gR' (k := 5) rfl) ?_
              refine Go.b (M.gI' (k := 2) rfl) ?_
              replace hF := xbind hF; obtain ⟨s14, es14, hF⟩ := hF
              replace M := M.st (k := 5) rfl es14
              obtain ⟨h15, eh15, M⟩ := M
              refine Go.b eh15 ?_
              refine Go.b (M.gI' (k := 2) rfl) ?_
              obtain ⟨s16, es16⟩ : ∃ z : mS, z = (mI s14 2 ((s14.1 2) + 1)) := ⟨_, rfl⟩
              replace hF := xlet es16 hF
              replace M := M.put (k := 2) (v := .int ((s14.1 2) + 1)) s16 (by decide) (by rw [es16]; rfl) (by rw [es16]; rfl)
              obtain ⟨h17, eh17, M⟩ := M
              refine Go.b eh17 ?_
              refine Go.b (M.gI' (k := 2) rfl) ?_
              cases hF
              exact ⟨_, rfl, M⟩
def FM_count (s : mS) (x1 : Int32) (x2 : Int32) (x3 : Int32) (x4 : Int32) (x5 : Int32) : Option (Int32 × mS) :=
  xl (mI s 0 0) fun s1 =>
  if x1 < 0 then
    some (1, s1)
  else
  if (s1.1 2) ≤ x1 then
    some (1, s1)
  else
  if x2 < 0 then
    some (1, s1)
  else
  if 199 < x2 then
    some (1, s1)
  else
  if x3 < 0 then
    some (1, s1)
  else
  if x4 < 0 then
    some (1, s1)
  else
  if x5 < 0 then
    some (1, s1)
  else
  if 1000 < x4 then
    some (1, s1)
  else
  if 1000 < x5 then
    some (1, s1)
  else
  if (x4 + x5) ≤ 1000 then
    (mld s1 8 ((200 * x1) + x2)).bind fun v13 =>
    if v13 = 0 then
      if x3 ≤ (s1.1 9) then
        (mld s1 4 x1).bind fun v16 =>
        if ((s1.1 9) - v16) ≤ x3 then
          xl ((601 * x1) + x3) fun v18 =>
          (mld s1 6 v18).bind fun v19 =>
          (mld s1 5 x1).bind fun v20 =>
          if ((v19 + x4) + x5) ≤ v20 then
            (mst s1 8 ((200 * x1) + x2) (vp_nar .boolean 1)).bind fun s22 =>
            (mld s22 6 v18).bind fun v24 =>
            (mst s22 6 v18 (v24 + (x4 + x5))).bind fun s25 =>
            (mld s25 7 v18).bind fun v27 =>
            (mst s25 7 v18 (v27 + x5)).bind fun s28 =>
            xl (mI s28 10 ((s28.1 10) + 1)) fun s30 =>
            some (0, s30)
          else
          some (5, s1)
        else
        some (4, s1)
      else
      some (3, s1)
    else
    xl (mI s1 11 ((s1.1 11) + 1)) fun s32 =>
    some (2, s32)
  else
  some (1, s1)
set_option maxHeartbeats 4000000 in
theorem u_count {G : Nat → Nat} {ad : Nat → Nat → Nat} {P0 : xP} {h : xH} {s : mS} {x1 : Int32} {x2 : Int32} {x3 : Int32} {x4 : Int32} {x5 : Int32} {r : Int32} {s' : mS} (M : Mx G ad P0 h s) (hF : FM_count s x1 x2 x3 x4 x5 = some (r, s')) : Go (F_X11_count G h (ad 19 0) x1 x2 x3 x4 x5) r (fun h' => Mx G ad P0 h' s') := by
  unfold FM_count at hF
  unfold F_X11_count
  obtain ⟨s1, es1⟩ : ∃ z : mS, z = (mI s 0 0) := ⟨_, rfl⟩
  replace hF := xlet es1 hF
  replace M := M.put (k := 0) (v := .int 0) s1 (by decide) (by rw [es1]; rfl) (by rw [es1]; rfl)
  obtain ⟨h2, eh2, M⟩ := M
  refine Go.b eh2 ?_
  by_cases c3 : x1 < 0
  · replace hF := xift c3 hF
    refine Go.t c3 ?_
    cases hF
    exact ⟨_, rfl, M⟩
  · replace hF := xiff c3 hF
    refine Go.f c3 ?_
    refine Go.b (M.gI' (k := 2) rfl) ?_
    by_cases c4 : (s1.1 2) ≤ x1
    · replace hF := xift c4 hF
      refine Go.t c4 ?_
      cases hF
      exact ⟨_, rfl, M⟩
    · replace hF := xiff c4 hF
      refine Go.f c4 ?_
      by_cases c5 : x2 < 0
      · replace hF := xift c5 hF
        refine Go.t c5 ?_
        cases hF
        exact ⟨_, rfl, M⟩
      · replace hF := xiff c5 hF
        refine Go.f c5 ?_
        by_cases c6 : 199 < x2
        · replace hF := xift c6 hF
          refine Go.t c6 ?_
          cases hF
          exact ⟨_, rfl, M⟩
        · replace hF := xiff c6 hF
          refine Go.f c6 ?_
          by_cases c7 : x3 < 0
          · replace hF := xift c7 hF
            refine Go.t c7 ?_
            cases hF
            exact ⟨_, rfl, M⟩
          · replace hF := xiff c7 hF
            refine Go.f c7 ?_
            by_cases c8 : x4 < 0
            · replace hF := xift c8 hF
              refine Go.t c8 ?_
              cases hF
              exact ⟨_, rfl, M⟩
            · replace hF := xiff c8 hF
              refine Go.f c8 ?_
              by_cases c9 : x5 < 0
              · replace hF := xift c9 hF
                refine Go.t c9 ?_
                cases hF
                exact ⟨_, rfl, M⟩
              · replace hF := xiff c9 hF
                refine Go.f c9 ?_
                by_cases c10 : 1000 < x4
                · replace hF := xift c10 hF
                  refine Go.t c10 ?_
                  cases hF
                  exact ⟨_, rfl, M⟩
                · replace hF := xiff c10 hF
                  refine Go.f c10 ?_
                  by_cases c11 : 1000 < x5
                  · replace hF := xift c11 hF
                    refine Go.t c11 ?_
                    cases hF
                    exact ⟨_, rfl, M⟩
                  · replace hF := xiff c11 hF
                    refine Go.f c11 ?_
                    by_cases c12 : (x4 + x5) ≤ 1000
                    · replace hF := xift c12 hF
                      refine Go.t c12 ?_
                      refine Go.b (M.gR' (k := 8) rfl) ?_
                      replace hF := xbind hF; obtain ⟨v13, ev13, hF⟩ := hF
                      refine Go.b (M.ldZ (k := 8) rfl ev13) ?_
                      by_cases c14 : v13 = 0
                      · replace hF := xift c14 hF
                        refine Go.t c14 ?_
                        refine Go.b (M.gI' (k := 9) rfl) ?_
                        by_cases c15 : x3 ≤ (s1.1 9)
                        · replace hF := xift c15 hF
                          refine Go.t c15 ?_
                          refine Go.b (M.gI' (k := 9) rfl) ?_
                          refine Go.b (M.gR' (k := 4) rfl) ?_
                          replace hF := xbind hF; obtain ⟨v16, ev16, hF⟩ := hF
                          refine Go.b (M.ld (k := 4) rfl ev16) ?_
                          by_cases c17 : ((s1.1 9) - v16) ≤ x3
                          · replace hF := xift c17 hF
                            refine Go.t c17 ?_
                            obtain ⟨v18, ev18⟩ : ∃ z : Int32, z = ((601 * x1) + x3) := ⟨_, rfl⟩
                            replace hF := xlet ev18 hF
                            refine Go.l ev18 ?_
                            refine Go.b (M.gR' (k := 6) rfl) ?_
                            replace hF := xbind hF; obtain ⟨v19, ev19, hF⟩ := hF
                            refine Go.b (M.ld (k := 6) rfl ev19) ?_
                            refine Go.b (M.gR' (k := 5) rfl) ?_
                            replace hF := xbind hF; obtain ⟨v20, ev20, hF⟩ := hF
                            refine Go.b (M.ld (k := 5) rfl ev20) ?_
                            by_cases c21 : ((v19 + x4) + x5) ≤ v20
                            · replace hF := xift c21 hF
                              refine Go.t c21 ?_
                              refine Go.b (M.gR' (k := 8) rfl) ?_
                              replace hF := xbind hF; obtain ⟨s22, es22, hF⟩ := hF
                              replace M := M.stZ (k := 8) rfl es22
                              obtain ⟨h23, eh23, M⟩ := M
                              refine Go.b eh23 ?_
                              refine Go.b (M.gR' (k := 6) rfl) ?_
                              replace hF := xbind hF; obtain ⟨v24, ev24, hF⟩ := hF
                              refine Go.b (M.ld (k := 6) rfl ev24) ?_
                              replace hF := xbind hF; obtain ⟨s25, es25, hF⟩ := hF
                              replace M := M.st (k := 6) rfl es25
                              obtain ⟨h26, eh26, M⟩ := M
                              refine Go.b eh26 ?_
                              refine Go.b (M.gR' (k := 7) rfl) ?_
                              replace hF := xbind hF; obtain ⟨v27, ev27, hF⟩ := hF
                              refine Go.b (M.ld (k := 7) rfl ev27) ?_
                              replace hF := xbind hF; obtain ⟨s28, es28, hF⟩ := hF
                              replace M := M.st (k := 7) rfl es28
                              obtain ⟨h29, eh29, M⟩ := M
                              refine Go.b eh29 ?_
                              refine Go.b (M.gI' (k := 10) rfl) ?_
                              obtain ⟨s30, es30⟩ : ∃ z : mS, z = (mI s28 10 ((s28.1 10) + 1)) := ⟨_, rfl⟩
                              replace hF := xlet es30 hF
                              replace M := M.put (k := 10) (v := .int ((s28.1 10) + 1)) s30 (by decide) (by rw [es30]; rfl) (by rw [es30]; rfl)
                              obtain ⟨h31, eh31, M⟩ := M
                              refine Go.b eh31 ?_
                              cases hF
                              exact ⟨_, rfl, M⟩
                            · replace hF := xiff c21 hF
                              refine Go.f c21 ?_
                              cases hF
                              exact ⟨_, rfl, M⟩
                          · replace hF := xiff c17 hF
                            refine Go.f c17 ?_
                            cases hF
                            exact ⟨_, rfl, M⟩
                        · replace hF := xiff c15 hF
                          refine Go.f c15 ?_
                          cases hF
                          exact ⟨_, rfl, M⟩
                      · replace hF := xiff c14 hF
                        refine Go.f c14 ?_
                        refine Go.b (M.gI' (k := 11) rfl) ?_
                        obtain ⟨s32, es32⟩ : ∃ z : mS, z = (mI s1 11 ((s1.1 11) + 1)) := ⟨_, rfl⟩
                        replace hF := xlet es32 hF
                        replace M := M.put (k := 11) (v := .int ((s1.1 11) + 1)) s32 (by decide) (by rw [es32]; rfl) (by rw [es32]; rfl)
                        obtain ⟨h33, eh33, M⟩ := M
                        refine Go.b eh33 ?_
                        cases hF
                        exact ⟨_, rfl, M⟩
                    · replace hF := xiff c12 hF
                      refine Go.f c12 ?_
                      cases hF
                      exact ⟨_, rfl, M⟩
def FM_ticks (s : mS) (x1 : Int32) : Option (Int32 × mS) :=
  xl (mI s 0 0) fun s1 =>
  if x1 < 0 then
    some ((-1), s1)
  else
  if 600 < x1 then
    some ((-1), s1)
  else
  if ((s1.1 9) + x1) ≤ 600 then
    xl (mI s1 9 ((s1.1 9) + x1)) fun s6 =>
    some ((s6.1 9), s6)
  else
  some ((-1), s1)
set_option maxHeartbeats 4000000 in
theorem u_ticks {G : Nat → Nat} {ad : Nat → Nat → Nat} {P0 : xP} {h : xH} {s : mS} {x1 : Int32} {r : Int32} {s' : mS} (M : Mx G ad P0 h s) (hF : FM_ticks s x1 = some (r, s')) : Go (F_X11_ticks G h (ad 19 0) x1) r (fun h' => Mx G ad P0 h' s') := by
  unfold FM_ticks at hF
  unfold F_X11_ticks
  obtain ⟨s1, es1⟩ : ∃ z : mS, z = (mI s 0 0) := ⟨_, rfl⟩
  replace hF := xlet es1 hF
  replace M := M.put (k := 0) (v := .int 0) s1 (by decide) (by rw [es1]; rfl) (by rw [es1]; rfl)
  obtain ⟨h2, eh2, M⟩ := M
  refine Go.b eh2 ?_
  by_cases c3 : x1 < 0
  · replace hF := xift c3 hF
    refine Go.t c3 ?_
    cases hF
    exact ⟨_, rfl, M⟩
  · replace hF := xiff c3 hF
    refine Go.f c3 ?_
    by_cases c4 : 600 < x1
    · replace hF := xift c4 hF
      refine Go.t c4 ?_
      cases hF
      exact ⟨_, rfl, M⟩
    · replace hF := xiff c4 hF
      refine Go.f c4 ?_
      refine Go.b (M.gI' (k := 9) rfl) ?_
      by_cases c5 : ((s1.1 9) + x1) ≤ 600
      · replace hF := xift c5 hF
        refine Go.t c5 ?_
        refine Go.b (M.gI' (k := 9) rfl) ?_
        obtain ⟨s6, es6⟩ : ∃ z : mS, z = (mI s1 9 ((s1.1 9) + x1)) := ⟨_, rfl⟩
        replace hF := xlet es6 hF
        replace M := M.put (k := 9) (v := .int ((s1.1 9) + x1)) s6 (by decide) (by rw [es6]; rfl) (by rw [es6]; rfl)
        obtain ⟨h7, eh7, M⟩ := M
        refine Go.b eh7 ?_
        refine Go.b (M.gI' (k := 9) rfl) ?_
        cases hF
        exact ⟨_, rfl, M⟩
      · replace hF := xiff c5 hF
        refine Go.f c5 ?_
        cases hF
        exact ⟨_, rfl, M⟩
def FM_addTick_2 (x1 : Int32) (x2 : Int32) : Nat → mS → Int32 → Option mS
  | 0, _, _ => none
  | n + 1, s, x3 =>
    if (s.1 2) ≤ x3 then
      some s
    else
    (mld s 3 x3).bind fun v2 =>
    if v2 = x1 then
      (mld s 6 ((601 * x3) + x2)).bind fun v5 =>
      xl (mJ s 12 ((s.2.1 12) + ((v5 : Int32).toInt64))) fun s6 =>
      (mld s6 7 ((601 * x3) + x2)).bind fun v8 =>
      xl (mJ s6 13 ((s6.2.1 13) + ((v8 : Int32).toInt64))) fun s9 =>
      (mld s9 4 x3).bind fun v11 =>
      if x2 < ((s9.1 9) - v11) then
        xl (mJ s9 14 ((s9.2.1 14) + 0)) fun s13 =>
        xl (x3 + 1) fun v15 =>
        FM_addTick_2 x1 x2 n s13 v15
      else
      (mld s9 5 x3).bind fun v16 =>
      (mld s9 6 ((601 * x3) + x2)).bind fun v17 =>
      xl (mJ s9 14 ((s9.2.1 14) + (((v16 - v17) : Int32).toInt64))) fun s18 =>
      xl (x3 + 1) fun v20 =>
      FM_addTick_2 x1 x2 n s18 v20
    else
    xl (x3 + 1) fun v4 =>
    FM_addTick_2 x1 x2 n s v4
set_option maxHeartbeats 4000000 in
theorem ul_addTick_2 {G : Nat → Nat} {ad : Nat → Nat → Nat} {P0 : xP} {s' : mS} (x1 : Int32) (x2 : Int32) : ∀ (n : Nat) (s : mS) (x3 : Int32) (h : xH), Mx G ad P0 h s → FM_addTick_2 x1 x2 n s x3 = some s' → Gv (F_X11_addTick_2 G (ad 19 0) x1 x2 n h x3) (fun h' => Mx G ad P0 h' s') := by
  intro n
  induction n with
  | zero =>
    intro s x3 h M hF
    rw [FM_addTick_2.eq_1] at hF
    cases hF
  | succ n ih =>
    intro s x3 h M hF
    rw [FM_addTick_2.eq_2] at hF
    rw [F_X11_addTick_2.eq_2]
    refine Gv.b (M.gI' (k := 2) rfl) ?_
    by_cases c1 : (s.1 2) ≤ x3
    · replace hF := xift c1 hF
      refine Gv.t c1 ?_
      cases hF
      exact ⟨_, rfl, M⟩
    · replace hF := xiff c1 hF
      refine Gv.f c1 ?_
      refine Gv.b (M.gR' (k := 3) rfl) ?_
      replace hF := xbind hF; obtain ⟨v2, ev2, hF⟩ := hF
      refine Gv.b (M.ld (k := 3) rfl ev2) ?_
      by_cases c3 : v2 = x1
      · replace hF := xift c3 hF
        refine Gv.t c3 ?_
        refine Gv.b (M.gJ' (k := 12) rfl) ?_
        refine Gv.b (M.gR' (k := 6) rfl) ?_
        replace hF := xbind hF; obtain ⟨v5, ev5, hF⟩ := hF
        refine Gv.b (M.ld (k := 6) rfl ev5) ?_
        obtain ⟨s6, es6⟩ : ∃ z : mS, z = (mJ s 12 ((s.2.1 12) + ((v5 : Int32).toInt64))) := ⟨_, rfl⟩
        replace hF := xlet es6 hF
        replace M := M.put (k := 12) (v := .long ((s.2.1 12) + ((v5 : Int32).toInt64))) s6 (by decide) (by rw [es6]; rfl) (by rw [es6]; rfl)
        obtain ⟨h7, eh7, M⟩ := M
        refine Gv.b eh7 ?_
        refine Gv.b (M.gJ' (k := 13) rfl) ?_
        refine Gv.b (M.gR' (k := 7) rfl) ?_
        replace hF := xbind hF; obtain ⟨v8, ev8, hF⟩ := hF
        refine Gv.b (M.ld (k := 7) rfl ev8) ?_
        obtain ⟨s9, es9⟩ : ∃ z : mS, z = (mJ s6 13 ((s6.2.1 13) + ((v8 : Int32).toInt64))) := ⟨_, rfl⟩
        replace hF := xlet es9 hF
        replace M := M.put (k := 13) (v := .long ((s6.2.1 13) + ((v8 : Int32).toInt64))) s9 (by decide) (by rw [es9]; rfl) (by rw [es9]; rfl)
        obtain ⟨h10, eh10, M⟩ := M
        refine Gv.b eh10 ?_
        refine Gv.b (M.gJ' (k := 14) rfl) ?_
        refine Gv.b (M.gI' (k := 9) rfl) ?_
        refine Gv.b (M.gR' (k := 4) rfl) ?_
        replace hF := xbind hF; obtain ⟨v11, ev11, hF⟩ := hF
        refine Gv.b (M.ld (k := 4) rfl ev11) ?_
        by_cases c12 : x2 < ((s9.1 9) - v11)
        · replace hF := xift c12 hF
          refine Gv.t c12 ?_
          obtain ⟨s13, es13⟩ : ∃ z : mS, z = (mJ s9 14 ((s9.2.1 14) + 0)) := ⟨_, rfl⟩
          replace hF := xlet es13 hF
          replace M := M.put (k := 14) (v := .long ((s9.2.1 14) + 0)) s13 (by decide) (by rw [es13]; rfl) (by rw [es13]; rfl)
          obtain ⟨h14, eh14, M⟩ := M
          refine Gv.b eh14 ?_
          obtain ⟨v15, ev15⟩ : ∃ z : Int32, z = (x3 + 1) := ⟨_, rfl⟩
          replace hF := xlet ev15 hF
          refine Gv.l ev15 ?_
          exact ih s13 v15 _ M hF
        · replace hF := xiff c12 hF
          refine Gv.f c12 ?_
          refine Gv.b (M.gR' (k := 5) rfl) ?_
          replace hF := xbind hF; obtain ⟨v16, ev16, hF⟩ := hF
          refine Gv.b (M.ld (k := 5) rfl ev16) ?_
          refine Gv.b (M.gR' (k := 6) rfl) ?_
          replace hF := xbind hF; obtain ⟨v17, ev17, hF⟩ := hF
          refine Gv.b (M.ld (k := 6) rfl ev17) ?_
          obtain ⟨s18, es18⟩ : ∃ z : mS, z = (mJ s9 14 ((s9.2.1 14) + (((v16 - v17) : Int32).toInt64))) := ⟨_, rfl⟩
          replace hF := xlet es18 hF
          replace M := M.put (k := 14) (v := .long ((s9.2.1 14) + (((v16 - v17) : Int32).toInt64))) s18 (by decide) (by rw [es18]; rfl) (by rw [es18]; rfl)
          obtain ⟨h19, eh19, M⟩ := M
          refine Gv.b eh19 ?_
          obtain ⟨v20, ev20⟩ : ∃ z : Int32, z = (x3 + 1) := ⟨_, rfl⟩
          replace hF := xlet ev20 hF
          refine Gv.l ev20 ?_
          exact ih s18 v20 _ M hF
      · replace hF := xiff c3 hF
        refine Gv.f c3 ?_
        obtain ⟨v4, ev4⟩ : ∃ z : Int32, z = (x3 + 1) := ⟨_, rfl⟩
        replace hF := xlet ev4 hF
        refine Gv.l ev4 ?_
        exact ih s v4 _ M hF
def FM_addTick (s : mS) (x1 : Int32) (x2 : Int32) : Option mS :=
  FM_addTick_2 x1 x2 xN s 0
set_option maxHeartbeats 4000000 in
theorem u_addTick {G : Nat → Nat} {ad : Nat → Nat → Nat} {P0 : xP} {h : xH} {s : mS} {x1 : Int32} {x2 : Int32} {s' : mS} (M : Mx G ad P0 h s) (hF : FM_addTick s x1 x2 = some s') : Gv (F_X11_addTick G h (ad 19 0) x1 x2) (fun h' => Mx G ad P0 h' s') := by
  unfold FM_addTick at hF
  unfold F_X11_addTick
  exact ul_addTick_2 x1 x2 _ s 0 _ M hF
def FM_sums_26 (x1 : Int32) (x3 : Int32) : Nat → mS → Int32 → Option mS
  | 0, _, _ => none
  | n + 1, s, x4 =>
    if x3 < x4 then
      some s
    else
    (FM_addTick s x1 x4).bind fun s9 =>
    xl (x4 + 1) fun v11 =>
    FM_sums_26 x1 x3 n s9 v11
set_option maxHeartbeats 4000000 in
theorem ul_sums_26 {G : Nat → Nat} {ad : Nat → Nat → Nat} {P0 : xP} {s' : mS} (x1 : Int32) (x3 : Int32) : ∀ (n : Nat) (s : mS) (x4 : Int32) (h : xH), Mx G ad P0 h s → FM_sums_26 x1 x3 n s x4 = some s' → Gv (F_X11_sums_26 G (ad 19 0) x1 x3 n h x4) (fun h' => Mx G ad P0 h' s') := by
  intro n
  induction n with
  | zero =>
    intro s x4 h M hF
    rw [FM_sums_26.eq_1] at hF
    cases hF
  | succ n ih =>
    intro s x4 h M hF
    rw [FM_sums_26.eq_2] at hF
    rw [F_X11_sums_26.eq_2]
    by_cases c8 : x3 < x4
    · replace hF := xift c8 hF
      refine Gv.t c8 ?_
      cases hF
      exact ⟨_, rfl, M⟩
    · replace hF := xiff c8 hF
      refine Gv.f c8 ?_
      refine Gv.b M.xc' ?_
      replace hF := xbind hF; obtain ⟨s9, es9, hF⟩ := hF
      replace M := u_addTick M es9
      obtain ⟨h10, eh10, M⟩ := M
      refine Gv.b eh10 ?_
      obtain ⟨v11, ev11⟩ : ∃ z : Int32, z = (x4 + 1) := ⟨_, rfl⟩
      replace hF := xlet ev11 hF
      refine Gv.l ev11 ?_
      exact ih s9 v11 _ M hF
def FM_sums (s : mS) (x1 : Int32) (x2 : Int32) (x3 : Int32) : Option mS :=
  xl (mJ s 12 0) fun s1 =>
  xl (mJ s1 13 0) fun s3 =>
  xl (mJ s3 14 0) fun s5 =>
  if 0 ≤ x2 then
    FM_sums_26 x1 x3 xN s5 x2
  else
  FM_sums_26 x1 x3 xN s5 0
set_option maxHeartbeats 4000000 in
theorem u_sums {G : Nat → Nat} {ad : Nat → Nat → Nat} {P0 : xP} {h : xH} {s : mS} {x1 : Int32} {x2 : Int32} {x3 : Int32} {s' : mS} (M : Mx G ad P0 h s) (hF : FM_sums s x1 x2 x3 = some s') : Gv (F_X11_sums G h (ad 19 0) x1 x2 x3) (fun h' => Mx G ad P0 h' s') := by
  unfold FM_sums at hF
  unfold F_X11_sums
  obtain ⟨s1, es1⟩ : ∃ z : mS, z = (mJ s 12 0) := ⟨_, rfl⟩
  replace hF := xlet es1 hF
  replace M := M.put (k := 12) (v := .long 0) s1 (by decide) (by rw [es1]; rfl) (by rw [es1]; rfl)
  obtain ⟨h2, eh2, M⟩ := M
  refine Gv.b eh2 ?_
  obtain ⟨s3, es3⟩ : ∃ z : mS, z = (mJ s1 13 0) := ⟨_, rfl⟩
  replace hF := xlet es3 hF
  replace M := M.put (k := 13) (v := .long 0) s3 (by decide) (by rw [es3]; rfl) (by rw [es3]; rfl)
  obtain ⟨h4, eh4, M⟩ := M
  refine Gv.b eh4 ?_
  obtain ⟨s5, es5⟩ : ∃ z : mS, z = (mJ s3 14 0) := ⟨_, rfl⟩
  replace hF := xlet es5 hF
  replace M := M.put (k := 14) (v := .long 0) s5 (by decide) (by rw [es5]; rfl) (by rw [es5]; rfl)
  obtain ⟨h6, eh6, M⟩ := M
  refine Gv.b eh6 ?_
  by_cases c7 : 0 ≤ x2
  · replace hF := xift c7 hF
    refine Gv.t c7 ?_
    exact ul_sums_26 x1 x3 _ s5 x2 _ M hF
  · replace hF := xiff c7 hF
    refine Gv.f c7 ?_
    exact ul_sums_26 x1 x3 _ s5 0 _ M hF
def FM_sum (s : mS) (x1 : Int32) (x2 : Int32) (x3 : Int32) (x4 : Int32) : Option (Int32 × mS) :=
  xl (mI s 0 0) fun s1 =>
  (FM_isService s1 x1).bind fun v3 =>
  if v3 = 0 then
    some ((-1), s1)
  else
  if x4 < 0 then
    some ((-1), s1)
  else
  if 2 < x4 then
    some ((-1), s1)
  else
  if x2 < 0 then
    some ((-1), s1)
  else
  if x3 < x2 then
    some ((-1), s1)
  else
  if x3 ≤ 600 then
    (FM_sums s1 x1 x2 x3).bind fun s10 =>
    if x4 = 0 then
      some ((((s10.2.1 12) : Int64).toInt32), s10)
    else
    if x4 = 1 then
      some ((((s10.2.1 13) : Int64).toInt32), s10)
    else
    some ((((s10.2.1 14) : Int64).toInt32), s10)
  else
  some ((-1), s1)
set_option maxHeartbeats 4000000 in
theorem u_sum {G : Nat → Nat} {ad : Nat → Nat → Nat} {P0 : xP} {h : xH} {s : mS} {x1 : Int32} {x2 : Int32} {x3 : Int32} {x4 : Int32} {r : Int32} {s' : mS} (M : Mx G ad P0 h s) (hF : FM_sum s x1 x2 x3 x4 = some (r, s')) : Go (F_X11_sum G h (ad 19 0) x1 x2 x3 x4) r (fun h' => Mx G ad P0 h' s') := by
  unfold FM_sum at hF
  unfold F_X11_sum
  obtain ⟨s1, es1⟩ : ∃ z : mS, z = (mI s 0 0) := ⟨_, rfl⟩
  replace hF := xlet es1 hF
  replace M := M.put (k := 0) (v := .int 0) s1 (by decide) (by rw [es1]; rfl) (by rw [es1]; rfl)
  obtain ⟨h2, eh2, M⟩ := M
  refine Go.b eh2 ?_
  refine Go.b M.xc' ?_
  replace hF := xbind hF; obtain ⟨v3, ev3, hF⟩ := hF
  refine Go.b (u_isService M ev3) ?_
  by_cases c4 : v3 = 0
  · replace hF := xift c4 hF
    refine Go.t c4 ?_
    cases hF
    exact ⟨_, rfl, M⟩
  · replace hF := xiff c4 hF
    refine Go.f c4 ?_
    by_cases c5 : x4 < 0
    · replace hF := xift c5 hF
      refine Go.t c5 ?_
      cases hF
      exact ⟨_, rfl, M⟩
    · replace hF := xiff c5 hF
      refine Go.f c5 ?_
      by_cases c6 : 2 < x4
      · replace hF := xift c6 hF
        refine Go.t c6 ?_
        cases hF
        exact ⟨_, rfl, M⟩
      · replace hF := xiff c6 hF
        refine Go.f c6 ?_
        by_cases c7 : x2 < 0
        · replace hF := xift c7 hF
          refine Go.t c7 ?_
          cases hF
          exact ⟨_, rfl, M⟩
        · replace hF := xiff c7 hF
          refine Go.f c7 ?_
          by_cases c8 : x3 < x2
          · replace hF := xift c8 hF
            refine Go.t c8 ?_
            cases hF
            exact ⟨_, rfl, M⟩
          · replace hF := xiff c8 hF
            refine Go.f c8 ?_
            by_cases c9 : x3 ≤ 600
            · replace hF := xift c9 hF
              refine Go.t c9 ?_
              refine Go.b M.xc' ?_
              replace hF := xbind hF; obtain ⟨s10, es10, hF⟩ := hF
              replace M := u_sums M es10
              obtain ⟨h11, eh11, M⟩ := M
              refine Go.b eh11 ?_
              by_cases c12 : x4 = 0
              · replace hF := xift c12 hF
                refine Go.t c12 ?_
                refine Go.b (M.gJ' (k := 12) rfl) ?_
                cases hF
                exact ⟨_, rfl, M⟩
              · replace hF := xiff c12 hF
                refine Go.f c12 ?_
                by_cases c13 : x4 = 1
                · replace hF := xift c13 hF
                  refine Go.t c13 ?_
                  refine Go.b (M.gJ' (k := 13) rfl) ?_
                  cases hF
                  exact ⟨_, rfl, M⟩
                · replace hF := xiff c13 hF
                  refine Go.f c13 ?_
                  refine Go.b (M.gJ' (k := 14) rfl) ?_
                  cases hF
                  exact ⟨_, rfl, M⟩
            · replace hF := xiff c9 hF
              refine Go.f c9 ?_
              cases hF
              exact ⟨_, rfl, M⟩
