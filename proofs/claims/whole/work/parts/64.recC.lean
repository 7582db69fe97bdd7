def FM_part (s : mS) (x1 : Int32) : Option (Int32 × mS) :=
  xl (mI s 0 0) fun s1 =>
  if x1 < 0 then
    some ((-1), s1)
  else
  if 100000 < x1 then
    some ((-1), s1)
  else
  if (s1.1 24) = 10 then
    some ((-1), s1)
  else
  (mst s1 25 (s1.1 24) x1).bind fun s6 =>
  xl (mI s6 24 ((s6.1 24) + 1)) fun s8 =>
  some ((s8.1 24), s8)
set_option maxHeartbeats 4000000 in
theorem u_part {G : Nat → Nat} {ad : Nat → Nat → Nat} {P0 : xP} {h : xH} {s : mS} {x1 : Int32} {r : Int32} {s' : mS} (M : Mx G ad P0 h s) (hF : FM_part s x1 = some (r, s')) : Go (F_X11_part G h (ad 19 0) x1) r (fun h' => Mx G ad P0 h' s') := by
  unfold FM_part at hF
  unfold F_X11_part
  obtain ⟨s1, es1⟩ : ∃ z : mS, z = (mI s 0 0) := ⟨_, rfl⟩
  replace hF := xlet es1 hF
  replace M := M.put (k := 0) (v := .int 0) s1 (by decide) (by rw [es1]; rfl) (by rw [es1]; rfl)
  obtain ⟨h2, eh2, M⟩ := M
  refine Go.b eh2 ?_
  by_cases c3 : x1 < 0
  · replace hF := xift c3 hF
    refine Go.t c3 ?_
    cases hF
    exact ⟨_, rfl, M⟩
  · replace hF := xiff c3 hF
    refine Go.f c3 ?_
    by_cases c4 : 100000 < x1
    · replace hF := xift c4 hF
      refine Go.t c4 ?_
      cases hF
      exact ⟨_, rfl, M⟩
    · replace hF := xiff c4 hF
      refine Go.f c4 ?_
      refine Go.b (M.gI' (k := 24) rfl) ?_
      by_cases c5 : (s1.1 24) = 10
      · replace hF := xift c5 hF
        refine Go.t c5 ?_
        cases hF
        exact ⟨_, rfl, M⟩
      · replace hF := xiff c5 hF
        refine Go.f c5 ?_
        refine Go.b (M.gR' (k := 25) rfl) ?_
        refine Go.b (M.gI' (k := 24) rfl) ?_
        replace hF := xbind hF; obtain ⟨s6, es6, hF⟩ := hF
        replace M := M.st (k := 25) rfl es6
        obtain ⟨h7, eh7, M⟩ := M
        refine Go.b eh7 ?_
        refine Go.b (M.gI' (k := 24) rfl) ?_
        obtain ⟨s8, es8⟩ : ∃ z : mS, z = (mI s6 24 ((s6.1 24) + 1)) := ⟨_, rfl⟩
        replace hF := xlet es8 hF
        replace M := M.put (k := 24) (v := .int ((s6.1 24) + 1)) s8 (by decide) (by rw [es8]; rfl) (by rw [es8]; rfl)
        obtain ⟨h9, eh9, M⟩ := M
        refine Go.b eh9 ?_
        refine Go.b (M.gI' (k := 24) rfl) ?_
        cases hF
        exact ⟨_, rfl, M⟩
def FM_marks_6 (s : mS) (x1 : Int32) (x2 : Int32) (x3 : Int32) : Nat → Int64 → Int32 → Option Int64
  | 0, _, _ => none
  | n + 1, y4, x6 =>
    if x3 ≤ x6 then
      some y4
    else
    if x2 = 0 then
      (mld s 25 x6).bind fun v3 =>
      if v3 ≤ x1 then
        xl (y4 + 0) fun v5 =>
        xl (x6 + 1) fun v6 =>
        FM_marks_6 s x1 x2 x3 n v5 v6
      else
      (mld s 25 x6).bind fun v7 =>
      xl (y4 + (((v7 - x1) : Int32).toInt64)) fun v8 =>
      xl (x6 + 1) fun v9 =>
      FM_marks_6 s x1 x2 x3 n v8 v9
    else
    (mld s 25 x6).bind fun v10 =>
    if x1 ≤ v10 then
      xl (y4 + ((x1 : Int32).toInt64)) fun v12 =>
      xl (x6 + 1) fun v13 =>
      FM_marks_6 s x1 x2 x3 n v12 v13
    else
    (mld s 25 x6).bind fun v14 =>
    xl (y4 + ((v14 : Int32).toInt64)) fun v15 =>
    xl (x6 + 1) fun v16 =>
    FM_marks_6 s x1 x2 x3 n v15 v16
set_option maxHeartbeats 4000000 in
theorem ul_marks_6 {G : Nat → Nat} {ad : Nat → Nat → Nat} {P0 : xP} {r : Int64} {h : xH} {s : mS} (M : Mx G ad P0 h s) (x1 : Int32) (x2 : Int32) (x3 : Int32) : ∀ (n : Nat) (y4 : Int64) (x6 : Int32), FM_marks_6 s x1 x2 x3 n y4 x6 = some r → Gr (F_X11_marks_6 G h (ad 19 0) x1 x2 x3 n y4 x6) r := by
  intro n
  induction n with
  | zero =>
    intro y4 x6 hF
    rw [FM_marks_6.eq_1] at hF
    cases hF
  | succ n ih =>
    intro y4 x6 hF
    rw [FM_marks_6.eq_2] at hF
    rw [F_X11_marks_6.eq_2]
    by_cases c1 : x3 ≤ x6
    · replace hF := xift c1 hF
      refine Gr.t c1 ?_
      exact hF
    · replace hF := xiff c1 hF
      refine Gr.f c1 ?_
      by_cases c2 : x2 = 0
      · replace hF := xift c2 hF
        refine Gr.t c2 ?_
        refine Gr.b (M.gR' (k := 25) rfl) ?_
        replace hF := xbind hF; obtain ⟨v3, ev3, hF⟩ := hF
        refine Gr.b (M.ld (k := 25) rfl ev3) ?_
        by_cases c4 : v3 ≤ x1
        · replace hF := xift c4 hF
          refine Gr.t c4 ?_
          obtain ⟨v5, ev5⟩ : ∃ z : Int64, z = (y4 + 0) := ⟨_, rfl⟩
          replace hF := xlet ev5 hF
          refine Gr.l ev5 ?_
          obtain ⟨v6, ev6⟩ : ∃ z : Int32, z = (x6 + 1) := ⟨_, rfl⟩
          replace hF := xlet ev6 hF
          refine Gr.l ev6 ?_
          exact ih v5 v6 hF
        · replace hF := xiff c4 hF
          refine Gr.f c4 ?_
          refine Gr.b (M.gR' (k := 25) rfl) ?_
          replace hF := xbind hF; obtain ⟨v7, ev7, hF⟩ := hF
          refine Gr.b (M.ld (k := 25) rfl ev7) ?_
          obtain ⟨v8, ev8⟩ : ∃ z : Int64, z = (y4 + (((v7 - x1) : Int32).toInt64)) := ⟨_, rfl⟩
          replace hF := xlet ev8 hF
          refine Gr.l ev8 ?_
          obtain ⟨v9, ev9⟩ : ∃ z : Int32, z = (x6 + 1) := ⟨_, rfl⟩
          replace hF := xlet ev9 hF
          refine Gr.l ev9 ?_
          exact ih v8 v9 hF
      · replace hF := xiff c2 hF
        refine Gr.f c2 ?_
        refine Gr.b (M.gR' (k := 25) rfl) ?_
        replace hF := xbind hF; obtain ⟨v10, ev10, hF⟩ := hF
        refine Gr.b (M.ld (k := 25) rfl ev10) ?_
        by_cases c11 : x1 ≤ v10
        · replace hF := xift c11 hF
          refine Gr.t c11 ?_
          obtain ⟨v12, ev12⟩ : ∃ z : Int64, z = (y4 + ((x1 : Int32).toInt64)) := ⟨_, rfl⟩
          replace hF := xlet ev12 hF
          refine Gr.l ev12 ?_
          obtain ⟨v13, ev13⟩ : ∃ z : Int32, z = (x6 + 1) := ⟨_, rfl⟩
          replace hF := xlet ev13 hF
          refine Gr.l ev13 ?_
          exact ih v12 v13 hF
        · replace hF := xiff c11 hF
          refine Gr.f c11 ?_
          refine Gr.b (M.gR' (k := 25) rfl) ?_
          replace hF := xbind hF; obtain ⟨v14, ev14, hF⟩ := hF
          refine Gr.b (M.ld (k := 25) rfl ev14) ?_
          obtain ⟨v15, ev15⟩ : ∃ z : Int64, z = (y4 + ((v14 : Int32).toInt64)) := ⟨_, rfl⟩
          replace hF := xlet ev15 hF
          refine Gr.l ev15 ?_
          obtain ⟨v16, ev16⟩ : ∃ z : Int32, z = (x6 + 1) := ⟨_, rfl⟩
          replace hF := xlet ev16 hF
          refine Gr.l ev16 ?_
          exact ih v15 v16 hF
def FM_marks (s : mS) (x1 : Int32) (x2 : Int32) (x3 : Int32) : Option Int64 :=
  FM_marks_6 s x1 x2 x3 xN 0 0
set_option maxHeartbeats 4000000 in
theorem u_marks {G : Nat → Nat} {ad : Nat → Nat → Nat} {P0 : xP} {h : xH} {s : mS} {x1 : Int32} {x2 : Int32} {x3 : Int32} {r : Int64} (M : Mx G ad P0 h s) (hF : FM_marks s x1 x2 x3 = some r) : Gr (F_X11_marks G h (ad 19 0) x1 x2 x3) r := by
  unfold FM_marks at hF
  unfold F_X11_marks
  exact ul_marks_6 M x1 x2 x3 _ 0 0 hF
def FM_made_157 (s : mS) (x4 : Int32) (y6 : Int64) : Nat → Int32 → Option (Int32 × mS)
  | 0, _ => none
  | n + 1, x8 =>
    (FM_marks s x8 1 x4).bind fun v11 =>
    if 0 ≤ (lg_cmp v11 (y6 * ((x8 : Int32).toInt64))) then
      some (x8, s)
    else
    xl (x8 + (-1)) fun v13 =>
    FM_made_157 s x4 y6 n v13
set_option maxHeartbeats 4000000 in
theorem ul_made_157 {G : Nat → Nat} {ad : Nat → Nat → Nat} {P0 : xP} {r : Int32} {s' : mS} {h : xH} {s : mS} (M : Mx G ad P0 h s) (x4 : Int32) (y6 : Int64) : ∀ (n : Nat) (x8 : Int32), FM_made_157 s x4 y6 n x8 = some (r, s') → Go (F_X11_made_157 G h (ad 19 0) x4 y6 n x8) r (fun h' => Mx G ad P0 h' s') := by
  intro n
  induction n with
  | zero =>
    intro x8 hF
    rw [FM_made_157.eq_1] at hF
    cases hF
  | succ n ih =>
    intro x8 hF
    rw [FM_made_157.eq_2] at hF
    rw [F_X11_made_157.eq_2]
    refine Go.b M.xc' ?_
    replace hF := xbind hF; obtain ⟨v11, ev11, hF⟩ := hF
    refine Go.b (u_marks M ev11) ?_
    by_cases c12 : 0 ≤ (lg_cmp v11 (y6 * ((x8 : Int32).toInt64)))
    · replace hF := xift c12 hF
      refine Go.t c12 ?_
      cases hF
      exact ⟨_, rfl, M⟩
    · replace hF := xiff c12 hF
      refine Go.f c12 ?_
      obtain ⟨v13, ev13⟩ : ∃ z : Int32, z = (x8 + (-1)) := ⟨_, rfl⟩
      replace hF := xlet ev13 hF
      refine Go.l ev13 ?_
      exact ih v13 hF
def FM_made_128 (s : mS) (x1 : Int32) (x4 : Int32) (y6 : Int64) : Nat → Int32 → Option (Int32 × mS)
  | 0, _ => none
  | n + 1, x8 =>
    (FM_marks s x8 0 x4).bind fun v14 =>
    if (lg_cmp v14 ((y6 - 1) * (((x1 - x8) : Int32).toInt64))) ≤ 0 then
      some (x8, s)
    else
    xl (x8 + 1) fun v16 =>
    FM_made_128 s x1 x4 y6 n v16
set_option maxHeartbeats 4000000 in
theorem ul_made_128 {G : Nat → Nat} {ad : Nat → Nat → Nat} {P0 : xP} {r : Int32} {s' : mS} {h : xH} {s : mS} (M : Mx G ad P0 h s) (x1 : Int32) (x4 : Int32) (y6 : Int64) : ∀ (n : Nat) (x8 : Int32), FM_made_128 s x1 x4 y6 n x8 = some (r, s') → Go (F_X11_made_128 G h (ad 19 0) x1 x4 y6 n x8) r (fun h' => Mx G ad P0 h' s') := by
  intro n
  induction n with
  | zero =>
    intro x8 hF
    rw [FM_made_128.eq_1] at hF
    cases hF
  | succ n ih =>
    intro x8 hF
    rw [FM_made_128.eq_2] at hF
    rw [F_X11_made_128.eq_2]
    refine Go.b M.xc' ?_
    replace hF := xbind hF; obtain ⟨v14, ev14, hF⟩ := hF
    refine Go.b (u_marks M ev14) ?_
    by_cases c15 : (lg_cmp v14 ((y6 - 1) * (((x1 - x8) : Int32).toInt64))) ≤ 0
    · replace hF := xift c15 hF
      refine Go.t c15 ?_
      cases hF
      exact ⟨_, rfl, M⟩
    · replace hF := xiff c15 hF
      refine Go.f c15 ?_
      obtain ⟨v16, ev16⟩ : ∃ z : Int32, z = (x8 + 1) := ⟨_, rfl⟩
      replace hF := xlet ev16 hF
      refine Go.l ev16 ?_
      exact ih v16 hF
def FM_made_61 (s : mS) (x1 : Int32) (x2 : Int32) (x3 : Int32) (x4 : Int32) : Nat → Int32 → Int32 → Option (Int32 × mS)
  | 0, _, _ => none
  | n + 1, x5, x6 =>
    if x4 ≤ x6 then
      if x5 = 0 then
        some ((-1), s)
      else
      xl ((((x4 - x2) + 1) : Int32).toInt64) fun v8 =>
      if x3 = 0 then
        if x3 = 0 then
          FM_made_128 s x1 x4 v8 xN 0
        else
        FM_made_157 s x4 v8 xN 0
      else
      if x3 = 0 then
        FM_made_128 s x1 x4 v8 xN x1
      else
      FM_made_157 s x4 v8 xN x1
    else
    if x5 = 0 then
      xl (x6 + 1) fun v19 =>
      FM_made_61 s x1 x2 x3 x4 n 0 v19
    else
    (mld s 25 x6).bind fun v20 =>
    if x1 < v20 then
      xl (x6 + 1) fun v22 =>
      FM_made_61 s x1 x2 x3 x4 n 0 v22
    else
    xl (x6 + 1) fun v23 =>
    FM_made_61 s x1 x2 x3 x4 n 1 v23
set_option maxHeartbeats 4000000 in
theorem ul_made_61 {G : Nat → Nat} {ad : Nat → Nat → Nat} {P0 : xP} {r : Int32} {s' : mS} {h : xH} {s : mS} (M : Mx G ad P0 h s) (x1 : Int32) (x2 : Int32) (x3 : Int32) (x4 : Int32) : ∀ (n : Nat) (x5 : Int32) (x6 : Int32), FM_made_61 s x1 x2 x3 x4 n x5 x6 = some (r, s') → Go (F_X11_made_61 G h (ad 19 0) x1 x2 x3 x4 n x5 x6) r (fun h' => Mx G ad P0 h' s') := by
  intro n
  induction n with
  | zero =>
    intro x5 x6 hF
    rw [FM_made_61.eq_1] at hF
    cases hF
  | succ n ih =>
    intro x5 x6 hF
    rw [FM_made_61.eq_2] at hF
    rw [F_X11_made_61.eq_2]
    by_cases c6 : x4 ≤ x6
    · replace hF := xift c6 hF
      refine Go.t c6 ?_
      by_cases c7 : x5 = 0
      · replace hF := xift c7 hF
        refine Go.t c7 ?_
        cases hF
        exact ⟨_, rfl, M⟩
      · replace hF := xiff c7 hF
        refine Go.f c7 ?_
        obtain ⟨v8, ev8⟩ : ∃ z : Int64, z = ((((x4 - x2) + 1) : Int32).toInt64) := ⟨_, rfl⟩
        replace hF := xlet ev8 hF
        refine Go.l ev8 ?_
        by_cases c9 : x3 = 0
        · replace hF := xift c9 hF
          refine Go.t c9 ?_
          by_cases c17 : x3 = 0
          · replace hF := xift c17 hF
            refine Go.t c17 ?_
            exact ul_made_128 M x1 x4 v8 _ 0 hF
          · replace hF := xiff c17 hF
            refine Go.f c17 ?_
            exact ul_made_157 M x4 v8 _ 0 hF
        · replace hF := xiff c9 hF
          refine Go.f c9 ?_
          by_cases c10 : x3 = 0
          · replace hF := xift c10 hF
            refine Go.t c10 ?_
            exact ul_made_128 M x1 x4 v8 _ x1 hF
          · replace hF := xiff c10 hF
            refine Go.f c10 ?_
            exact ul_made_157 M x4 v8 _ x1 hF
    · replace hF := xiff c6 hF
      refine Go.f c6 ?_
      by_cases c18 : x5 = 0
      · replace hF := xift c18 hF
        refine Go.t c18 ?_
        obtain ⟨v19, ev19⟩ : ∃ z : Int32, z = (x6 + 1) := ⟨_, rfl⟩
        replace hF := xlet ev19 hF
        refine Go.l ev19 ?_
        exact ih 0 v19 hF
      · replace hF := xiff c18 hF
        refine Go.f c18 ?_
        refine Go.b (M.gR' (k := 25) rfl) ?_
        replace hF := xbind hF; obtain ⟨v20, ev20, hF⟩ := hF
        refine Go.b (M.ld (k := 25) rfl ev20) ?_
        by_cases c21 : x1 < v20
        · replace hF := xift c21 hF
          refine Go.t c21 ?_
          obtain ⟨v22, ev22⟩ : ∃ z : Int32, z = (x6 + 1) := ⟨_, rfl⟩
          replace hF := xlet ev22 hF
          refine Go.l ev22 ?_
          exact ih 0 v22 hF
        · replace hF := xiff c21 hF
          refine Go.f c21 ?_
          obtain ⟨v23, ev23⟩ : ∃ z : Int32, z = (x6 + 1) := ⟨_, rfl⟩
          replace hF := xlet ev23 hF
          refine Go.l ev23 ?_
          exact ih 1 v23 hF
def FM_made (s : mS) (x1 : Int32) (x2 : Int32) (x3 : Int32) : Option (Int32 × mS) :=
  xl (mI s 0 0) fun s1 =>
  xl (mI s1 24 0) fun s3 =>
  if (s1.1 24) ≤ 0 then
    FM_made_61 s3 x1 x2 x3 (s1.1 24) xN 0 0
  else
  if x2 < 1 then
    FM_made_61 s3 x1 x2 x3 (s1.1 24) xN 0 0
  else
  if (s1.1 24) < x2 then
    FM_made_61 s3 x1 x2 x3 (s1.1 24) xN 0 0
  else
  if x3 < 0 then
    FM_made_61 s3 x1 x2 x3 (s1.1 24) xN 0 0
  else
  if 1 < x3 then
    FM_made_61 s3 x1 x2 x3 (s1.1 24) xN 0 0
  else
  if x1 < 0 then
    FM_made_61 s3 x1 x2 x3 (s1.1 24) xN 0 0
  else
  if 100000 < x1 then
    FM_made_61 s3 x1 x2 x3 (s1.1 24) xN 0 0
  else
  FM_made_61 s3 x1 x2 x3 (s1.1 24) xN 1 0
set_option maxHeartbeats 4000000 in
theorem u_made {G : Nat → Nat} {ad : Nat → Nat → Nat} {P0 : xP} {h : xH} {s : mS} {x1 : Int32} {x2 : Int32} {x3 : Int32} {r : Int32} {s' : mS} (M : Mx G ad P0 h s) (hF : FM_made s x1 x2 x3 = some (r, s')) : Go (F_X11_made G h (ad 19 0) x1 x2 x3) r (fun h' => Mx G ad P0 h' s') := by
  unfold FM_made at hF
  unfold F_X11_made
  obtain ⟨s1, es1⟩ : ∃ z : mS, z = (mI s 0 0) := ⟨_, rfl⟩
  replace hF := xlet es1 hF
  replace M := M.put (k := 0) (v := .int 0) s1 (by decide) (by rw [es1]; rfl) (by rw [es1]; rfl)
  obtain ⟨h2, eh2, M⟩ := M
  refine Go.b eh2 ?_
  refine Go.b (M.gI' (k := 24) rfl) ?_
  obtain ⟨s3, es3⟩ : ∃ z : mS, z = (mI s1 24 0) := ⟨_, rfl⟩
  replace hF := xlet es3 hF
  replace M := M.put (k := 24) (v := .int 0) s3 (by decide) (by rw [es3]; rfl) (by rw [es3]; rfl)
  obtain ⟨h4, eh4, M⟩ := M
  refine Go.b eh4 ?_
  by_cases c5 : (s1.1 24) ≤ 0
  · replace hF := xift c5 hF
    refine Go.t c5 ?_
    exact ul_made_61 M x1 x2 x3 (s1.1 24) _ 0 0 hF
  · replace hF := xiff c5 hF
    refine Go.f c5 ?_
    by_cases c24 : x2 < 1
    · replace hF := xift c24 hF
      refine Go.t c24 ?_
      exact ul_made_61 M x1 x2 x3 (s1.1 24) _ 0 0 hF
    · replace hF := xiff c24 hF
      refine Go.f c24 ?_
      by_cases c25 : (s1.1 24) < x2
      · replace hF := xift c25 hF
        refine Go.t c25 ?_
        exact ul_made_61 M x1 x2 x3 (s1.1 24) _ 0 0 hF
      · replace hF := xiff c25 hF
        refine Go.f c25 ?_
        by_cases c26 : x3 < 0
        · replace hF := xift c26 hF
          refine Go.t c26 ?_
          exact ul_made_61 M x1 x2 x3 (s1.1 24) _ 0 0 hF
        · replace hF := xiff c26 hF
          refine Go.f c26 ?_
          by_cases c27 : 1 < x3
          · replace hF := xift c27 hF
            refine Go.t c27 ?_
            exact ul_made_61 M x1 x2 x3 (s1.1 24) _ 0 0 hF
          · replace hF := xiff c27 hF
            refine Go.f c27 ?_
            by_cases c28 : x1 < 0
            · replace hF := xift c28 hF
              refine Go.t c28 ?_
              exact ul_made_61 M x1 x2 x3 (s1.1 24) _ 0 0 hF
            · replace hF := xiff c28 hF
              refine Go.f c28 ?_
              by_cases c29 : 100000 < x1
              · replace hF := xift c29 hF
                refine Go.t c29 ?_
                exact ul_made_61 M x1 x2 x3 (s1.1 24) _ 0 0 hF
              · replace hF := xiff c29 hF
                refine Go.f c29 ?_
                exact ul_made_61 M x1 x2 x3 (s1.1 24) _ 1 0 hF
def FM_isAlarm (s : mS) (x1 : Int32) : Option Int32 :=
  if x1 < 0 then
    some 0
  else
  if (s.1 26) ≤ x1 then
    some 0
  else
  some 1
set_option maxHeartbeats 4000000 in
theorem u_isAlarm {G : Nat → Nat} {ad : Nat → Nat → Nat} {P0 : xP} {h : xH} {s : mS} {x1 : Int32} {r : Int32} (M : Mx G ad P0 h s) (hF : FM_isAlarm s x1 = some r) : Gr (F_X11_isAlarm G h (ad 19 0) x1) r := by
  unfold FM_isAlarm at hF
  unfold F_X11_isAlarm
  by_cases c1 : x1 < 0
  · replace hF := xift c1 hF
    refine Gr.t c1 ?_
    exact hF
  · replace hF := xiff c1 hF
    refine Gr.f c1 ?_
    refine Gr.b (M.gI' (k := 26) rfl) ?_
    by_cases c2 : (s.1 26) ≤ x1
    · replace hF := xift c2 hF
      refine Gr.t c2 ?_
      exact hF
    · replace hF := xiff c2 hF
      refine Gr.f c2 ?_
      exact hF
def FM_isWorse (s : mS) (x1 : Int32) (x2 : Int32) (y3 : Int64) (y5 : Int64) : Option Int32 :=
  (mld s 18 x1).bind fun v1 =>
  if (lg_cmp (10000 * y5) ((((x2 : Int32).toInt64) * (((1000 - v1) : Int32).toInt64)) * y3)) ≤ 0 then
    some 0
  else
  some 1
set_option maxHeartbeats 4000000 in
theorem u_isWorse {G : Nat → Nat} {ad : Nat → Nat → Nat} {P0 : xP} {h : xH} {s : mS} {x1 : Int32} {x2 : Int32} {y3 : Int64} {y5 : Int64} {r : Int32} (M : Mx G ad P0 h s) (hF : FM_isWorse s x1 x2 y3 y5 = some r) : Gr (F_X11_isWorse G h (ad 19 0) x1 x2 y3 y5) r := by
  unfold FM_isWorse at hF
  unfold F_X11_isWorse
  refine Gr.b (M.gR' (k := 18) rfl) ?_
  replace hF := xbind hF; obtain ⟨v1, ev1, hF⟩ := hF
  refine Gr.b (M.ld (k := 18) rfl ev1) ?_
  by_cases c2 : (lg_cmp (10000 * y5) ((((x2 : Int32).toInt64) * (((1000 - v1) : Int32).toInt64)) * y3)) ≤ 0
  · replace hF := xift c2 hF
    refine Gr.t c2 ?_
    exact hF
  · replace hF := xiff c2 hF
    refine Gr.f c2 ?_
    exact hF
def FM_isWorseIn (s : mS) (x1 : Int32) (x2 : Int32) (x3 : Int32) (x4 : Int32) : Option (Int32 × mS) :=
  (mld s 16 x1).bind fun v1 =>
  (FM_sums s v1 ((x4 - x2) + 1) x4).bind fun s2 =>
  (FM_isWorse s2 x1 x3 (s2.2.1 12) (s2.2.1 13)).bind fun v4 =>
  xg (v4 = 0 ∨ v4 = 1) <|
  some (v4, s2)
set_option maxHeartbeats 4000000 in
theorem u_isWorseIn {G : Nat → Nat} {ad : Nat → Nat → Nat} {P0 : xP} {h : xH} {s : mS} {x1 : Int32} {x2 : Int32} {x3 : Int32} {x4 : Int32} {r : Int32} {s' : mS} (M : Mx G ad P0 h s) (hF : FM_isWorseIn s x1 x2 x3 x4 = some (r, s')) : Go (F_X11_isWorseIn G h (ad 19 0) x1 x2 x3 x4) r (fun h' => Mx G ad P0 h' s') := by
  unfold FM_isWorseIn at hF
  unfold F_X11_isWorseIn
  refine Go.b (M.gR' (k := 16) rfl) ?_
  replace hF := xbind hF; obtain ⟨v1, ev1, hF⟩ := hF
  refine Go.b (M.ld (k := 16) rfl ev1) ?_
  refine Go.b M.xc' ?_
  replace hF := xbind hF; obtain ⟨s2, es2, hF⟩ := hF
  replace M := u_sums M es2
  obtain ⟨h3, eh3, M⟩ := M
  refine Go.b eh3 ?_
  refine Go.b (M.gJ' (k := 12) rfl) ?_
  refine Go.b (M.gJ' (k := 13) rfl) ?_
  refine Go.b M.xc' ?_
  replace hF := xbind hF; obtain ⟨v4, ev4, hF⟩ := hF
  refine Go.b (u_isWorse M ev4) ?_
  replace hF := xguard hF; obtain ⟨c5, hF⟩ := hF
  refine Go.g c5 ?_
  cases hF
  exact ⟨_, rfl, M⟩
def FM_rings (s : mS) (x1 : Int32) (x2 : Int32) : Option (Int32 × mS) :=
  xl (mI s 0 0) fun s1 =>
  (FM_isAlarm s1 x1).bind fun v3 =>
  if v3 = 0 then
    some ((-1), s1)
  else
  if x2 < 0 then
    some ((-1), s1)
  else
  if x2 ≤ 600 then
    (mld s1 27 x1).bind fun v7 =>
    (mld s1 28 x1).bind fun v8 =>
    (mld s1 30 x1).bind fun v9 =>
    (FM_isWorseIn s1 v7 v8 v9 x2).bind fun (v10, s11) =>
    if v10 = 0 then
      some (0, s11)
    else
    (mld s11 29 x1).bind fun v14 =>
    (mld s11 30 x1).bind fun v15 =>
    (FM_isWorseIn s11 v7 v14 v15 x2).bind fun (v16, s17) =>
    if v16 = 0 then
      some (0, s17)
    else
    some (1, s17)
  else
  some ((-1), s1)
set_option maxHeartbeats 4000000 in
theorem u_rings {G : Nat → Nat} {ad : Nat → Nat → Nat} {P0 : xP} {h : xH} {s : mS} {x1 : Int32} {x2 : Int32} {r : Int32} {s' : mS} (M : Mx G ad P0 h s) (hF : FM_rings s x1 x2 = some (r, s')) : Go (F_X11_rings G h (ad 19 0) x1 x2) r (fun h' => Mx G ad P0 h' s') := by
  unfold FM_rings at hF
  unfold F_X11_rings
  obtain ⟨s1, es1⟩ : ∃ z : mS, z = (mI s 0 0) := ⟨_, rfl⟩
  replace hF := xlet es1 hF
  replace M := M.put (k := 0) (v := .int 0) s1 (by decide) (by rw [es1]; rfl) (by rw [es1]; rfl)
  obtain ⟨h2, eh2, M⟩ := M
  refine Go.b eh2 ?_
  refine Go.b M.xc' ?_
  replace hF := xbind hF; obtain ⟨v3, ev3, hF⟩ := hF
  refine Go.b (u_isAlarm M ev3) ?_
  by_cases c4 : v3 = 0
  · replace hF := xift c4 hF
    refine Go.t c4 ?_
    cases hF
    exact ⟨_, rfl, M⟩
  · replace hF := xiff c4 hF
    refine Go.f c4 ?_
    by_cases c5 : x2 < 0
    · replace hF := xift c5 hF
      refine Go.t c5 ?_
      cases hF
      exact ⟨_, rfl, M⟩
    · replace hF := xiff c5 hF
      refine Go.f c5 ?_
      by_cases c6 : x2 ≤ 600
      · replace hF := xift c6 hF
        refine Go.t c6 ?_
        refine Go.b (M.gR' (k := 27) rfl) ?_
        replace hF := xbind hF; obtain ⟨v7, ev7, hF⟩ := hF
        refine Go.b (M.ld (k := 27) rfl ev7) ?_
        refine Go.b (M.gR' (k := 28) rfl) ?_
        replace hF := xbind hF; obtain ⟨v8, ev8, hF⟩ := hF
        refine Go.b (M.ld (k := 28) rfl ev8) ?_
        refine Go.b (M.gR' (k := 30) rfl) ?_
        replace hF := xbind hF; obtain ⟨v9, ev9, hF⟩ := hF
        refine Go.b (M.ld (k := 30) rfl ev9) ?_
        refine Go.b M.xc' ?_
        replace hF := xbind hF; obtain ⟨⟨v10, s11⟩, es11, hF⟩ := hF
        replace M := u_isWorseIn M es11
        obtain ⟨h12, eh12, M⟩ := M
        refine Go.b eh12 ?_
        by_cases c13 : v10 = 0
        · replace hF := xift c13 hF
          refine Go.t c13 ?_
          cases hF
          exact ⟨_, rfl, M⟩
        · replace hF := xiff c13 hF
          refine Go.f c13 ?_
          refine Go.b (M.gR' (k := 29) rfl) ?_
          replace hF := xbind hF; obtain ⟨v14, ev14, hF⟩ := hF
          refine Go.b (M.ld (k := 29) rfl ev14) ?_
          refine Go.b (M.gR' (k := 30) rfl) ?_
          replace hF := xbind hF; obtain ⟨v15, ev15, hF⟩ := hF
          refine Go.b (M.ld (k := 30) rfl ev15) ?_
          refine Go.b M.xc' ?_
          replace hF := xbind hF; obtain ⟨⟨v16, s17⟩, es17, hF⟩ := hF
          replace M := u_isWorseIn M es17
          obtain ⟨h18, eh18, M⟩ := M
          refine Go.b eh18 ?_
          by_cases c19 : v16 = 0
          · replace hF := xift c19 hF
            refine Go.t c19 ?_
            cases hF
            exact ⟨_, rfl, M⟩
          · replace hF := xiff c19 hF
            refine Go.f c19 ?_
            cases hF
            exact ⟨_, rfl, M⟩
      · replace hF := xiff c6 hF
        refine Go.f c6 ?_
        cases hF
        exact ⟨_, rfl, M⟩
def FM_isSteadyWorse_28 (s : mS) (x1 : Int32) (x3 : Int32) (x4 : Int32) (x5 : Int32) (x6 : Int32) (x7 : Int32) : Nat → Int32 → Int32 → Option Int32
  | 0, _, _ => none
  | n + 1, x8, x9 =>
    if x4 < x9 then
      (FM_isWorse s x1 x3 (10 * ((((x4 - x7) + 1) : Int32).toInt64)) ((x8 : Int32).toInt64)).bind fun v4 =>
      xg (v4 = 0 ∨ v4 = 1) <|
      some v4
    else
    if x9 < x5 then
      xl (x8 + 0) fun v7 =>
      xl (x9 + 1) fun v8 =>
      FM_isSteadyWorse_28 s x1 x3 x4 x5 x6 x7 n v7 v8
    else
    xl (x8 + x6) fun v9 =>
    xl (x9 + 1) fun v10 =>
    FM_isSteadyWorse_28 s x1 x3 x4 x5 x6 x7 n v9 v10
set_option maxHeartbeats 4000000 in
theorem ul_isSteadyWorse_28 {G : Nat → Nat} {ad : Nat → Nat → Nat} {P0 : xP} {r : Int32} {h : xH} {s : mS} (M : Mx G ad P0 h s) (x1 : Int32) (x3 : Int32) (x4 : Int32) (x5 : Int32) (x6 : Int32) (x7 : Int32) : ∀ (n : Nat) (x8 : Int32) (x9 : Int32), FM_isSteadyWorse_28 s x1 x3 x4 x5 x6 x7 n x8 x9 = some r → Gr (F_X11_isSteadyWorse_28 G h (ad 19 0) x1 x3 x4 x5 x6 x7 n x8 x9) r := by
  intro n
  induction n with
  | zero =>
    intro x8 x9 hF
    rw [FM_isSteadyWorse_28.eq_1] at hF
    cases hF
  | succ n ih =>
    intro x8 x9 hF
    rw [FM_isSteadyWorse_28.eq_2] at hF
    rw [F_X11_isSteadyWorse_28.eq_2]
    by_cases c3 : x4 < x9
    · replace hF := xift c3 hF
      refine Gr.t c3 ?_
      refine Gr.b M.xc' ?_
      replace hF := xbind hF; obtain ⟨v4, ev4, hF⟩ := hF
      refine Gr.b (u_isWorse M ev4) ?_
      replace hF := xguard hF; obtain ⟨c5, hF⟩ := hF
      refine Gr.g c5 ?_
      exact hF
    · replace hF := xiff c3 hF
      refine Gr.f c3 ?_
      by_cases c6 : x9 < x5
      · replace hF := xift c6 hF
        refine Gr.t c6 ?_
        obtain ⟨v7, ev7⟩ : ∃ z : Int32, z = (x8 + 0) := ⟨_, rfl⟩
        replace hF := xlet ev7 hF
        refine Gr.l ev7 ?_
        obtain ⟨v8, ev8⟩ : ∃ z : Int32, z = (x9 + 1) := ⟨_, rfl⟩
        replace hF := xlet ev8 hF
        refine Gr.l ev8 ?_
        exact ih v7 v8 hF
      · replace hF := xiff c6 hF
        refine Gr.f c6 ?_
        obtain ⟨v9, ev9⟩ : ∃ z : Int32, z = (x8 + x6) := ⟨_, rfl⟩
        replace hF := xlet ev9 hF
        refine Gr.l ev9 ?_
        obtain ⟨v10, ev10⟩ : ∃ z : Int32, z = (x9 + 1) := ⟨_, rfl⟩
        replace hF := xlet ev10 hF
        refine Gr.l ev10 ?_
        exact ih v9 v10 hF
def FM_isSteadyWorse (s : mS) (x1 : Int32) (x2 : Int32) (x3 : Int32) (x4 : Int32) (x5 : Int32) (x6 : Int32) : Option Int32 :=
  if 0 ≤ ((x4 - x2) + 1) then
    xl ((x4 - x2) + 1) fun v2 =>
    FM_isSteadyWorse_28 s x1 x3 x4 x5 x6 v2 xN 0 v2
  else
  FM_isSteadyWorse_28 s x1 x3 x4 x5 x6 0 xN 0 0
set_option maxHeartbeats 4000000 in
theorem u_isSteadyWorse {G : Nat → Nat} {ad : Nat → Nat → Nat} {P0 : xP} {h : xH} {s : mS} {x1 : Int32} {x2 : Int32} {x3 : Int32} {x4 : Int32} {x5 : Int32} {x6 : Int32} {r : Int32} (M : Mx G ad P0 h s) (hF : FM_isSteadyWorse s x1 x2 x3 x4 x5 x6 = some r) : Gr (F_X11_isSteadyWorse G h (ad 19 0) x1 x2 x3 x4 x5 x6) r := by
  unfold FM_isSteadyWorse at hF
  unfold F_X11_isSteadyWorse
  by_cases c1 : 0 ≤ ((x4 - x2) + 1)
  · replace hF := xift c1 hF
    refine Gr.t c1 ?_
    obtain ⟨v2, ev2⟩ : ∃ z : Int32, z = ((x4 - x2) + 1) := ⟨_, rfl⟩
    replace hF := xlet ev2 hF
    refine Gr.l ev2 ?_
    exact ul_isSteadyWorse_28 M x1 x3 x4 x5 x6 v2 _ 0 v2 hF
  · replace hF := xiff c1 hF
    refine Gr.f c1 ?_
    exact ul_isSteadyWorse_28 M x1 x3 x4 x5 x6 0 _ 0 0 hF
def FM_soonestOf_25 (s : mS) (x1 : Int32) (x2 : Int32) (x3 : Int32) (x4 : Int32) (x5 : Int32) (x6 : Int32) (x7 : Int32) : Nat → Int32 → Option Int32
  | 0, _ => none
  | n + 1, x8 =>
    if x7 < x8 then
      some (-1)
    else
    (FM_isSteadyWorse s x1 x3 x4 x8 x5 x6).bind fun v3 =>
    if v3 = 0 then
      xl (x8 + 1) fun v5 =>
      FM_soonestOf_25 s x1 x2 x3 x4 x5 x6 x7 n v5
    else
    (FM_isSteadyWorse s x1 x2 x4 x8 x5 x6).bind fun v6 =>
    if v6 = 0 then
      xl (x8 + 1) fun v8 =>
      FM_soonestOf_25 s x1 x2 x3 x4 x5 x6 x7 n v8
    else
    some x8
set_option maxHeartbeats 4000000 in
theorem ul_soonestOf_25 {G : Nat → Nat} {ad : Nat → Nat → Nat} {P0 : xP} {r : Int32} {h : xH} {s : mS} (M : Mx G ad P0 h s) (x1 : Int32) (x2 : Int32) (x3 : Int32) (x4 : Int32) (x5 : Int32) (x6 : Int32) (x7 : Int32) : ∀ (n : Nat) (x8 : Int32), FM_soonestOf_25 s x1 x2 x3 x4 x5 x6 x7 n x8 = some r → Gr (F_X11_soonestOf_25 G h (ad 19 0) x1 x2 x3 x4 x5 x6 x7 n x8) r := by
  intro n
  induction n with
  | zero =>
    intro x8 hF
    rw [FM_soonestOf_25.eq_1] at hF
    cases hF
  | succ n ih =>
    intro x8 hF
    rw [FM_soonestOf_25.eq_2] at hF
    rw [F_X11_soonestOf_25.eq_2]
    by_cases c2 : x7 < x8
    · replace hF := xift c2 hF
      refine Gr.t c2 ?_
      exact hF
    · replace hF := xiff c2 hF
      refine Gr.f c2 ?_
      refine Gr.b M.xc' ?_
      replace hF := xbind hF; obtain ⟨v3, ev3, hF⟩ := hF
      refine Gr.b (u_isSteadyWorse M ev3) ?_
      by_cases c4 : v3 = 0
      · replace hF := xift c4 hF
        refine Gr.t c4 ?_
        obtain ⟨v5, ev5⟩ : ∃ z : Int32, z = (x8 + 1) := ⟨_, rfl⟩
        replace hF := xlet ev5 hF
        refine Gr.l ev5 ?_
        exact ih v5 hF
      · replace hF := xiff c4 hF
        refine Gr.f c4 ?_
        refine Gr.b M.xc' ?_
        replace hF := xbind hF; obtain ⟨v6, ev6, hF⟩ := hF
        refine Gr.b (u_isSteadyWorse M ev6) ?_
        by_cases c7 : v6 = 0
        · replace hF := xift c7 hF
          refine Gr.t c7 ?_
          obtain ⟨v8, ev8⟩ : ∃ z : Int32, z = (x8 + 1) := ⟨_, rfl⟩
          replace hF := xlet ev8 hF
          refine Gr.l ev8 ?_
          exact ih v8 hF
        · replace hF := xiff c7 hF
          refine Gr.f c7 ?_
          exact hF
def FM_soonestOf (s : mS) (x1 : Int32) (x2 : Int32) (x3 : Int32) (x4 : Int32) (x5 : Int32) (x6 : Int32) : Option Int32 :=
  if 599 ≤ (x5 + x2) then
    FM_soonestOf_25 s x1 x2 x3 x4 x5 x6 599 xN 0
  else
  xl (x5 + x2) fun v9 =>
  FM_soonestOf_25 s x1 x2 x3 x4 x5 x6 v9 xN 0
set_option maxHeartbeats 4000000 in
theorem u_soonestOf {G : Nat → Nat} {ad : Nat → Nat → Nat} {P0 : xP} {h : xH} {s : mS} {x1 : Int32} {x2 : Int32} {x3 : Int32} {x4 : Int32} {x5 : Int32} {x6 : Int32} {r : Int32} (M : Mx G ad P0 h s) (hF : FM_soonestOf s x1 x2 x3 x4 x5 x6 = some r) : Gr (F_X11_soonestOf G h (ad 19 0) x1 x2 x3 x4 x5 x6) r := by
  unfold FM_soonestOf at hF
  unfold F_X11_soonestOf
  by_cases c1 : 599 ≤ (x5 + x2)
  · replace hF := xift c1 hF
    refine Gr.t c1 ?_
    exact ul_soonestOf_25 M x1 x2 x3 x4 x5 x6 599 _ 0 hF
  · replace hF := xiff c1 hF
    refine Gr.f c1 ?_
    obtain ⟨v9, ev9⟩ : ∃ z : Int32, z = (x5 + x2) := ⟨_, rfl⟩
    replace hF := xlet ev9 hF
    refine Gr.l ev9 ?_
    exact ul_soonestOf_25 M x1 x2 x3 x4 x5 x6 v9 _ 0 hF
def FM_soonest (s : mS) (x1 : Int32) (x2 : Int32) (x3 : Int32) (x4 : Int32) : Option (Int32 × mS) :=
  xl (mI s 0 0) fun s1 =>
  (FM_isAlarm s1 x1).bind fun v3 =>
  if v3 = 0 then
    some ((-1), s1)
  else
  if x2 < 0 then
    some ((-1), s1)
  else
  if 300 < x2 then
    some ((-1), s1)
  else
  if x3 < 0 then
    some ((-1), s1)
  else
  if 10 < x3 then
    some ((-1), s1)
  else
  if x4 < 0 then
    some ((-1), s1)
  else
  if x4 ≤ 1 then
    (mld s1 27 x1).bind fun v11 =>
    (mld s1 28 x1).bind fun v12 =>
    (mld s1 29 x1).bind fun v13 =>
    (mld s1 30 x1).bind fun v14 =>
    (FM_soonestOf s1 v11 v12 v13 v14 x2 x3).bind fun v15 =>
    if v15 < 0 then
      some (v15, s1)
    else
    if x4 = 0 then
      some (v15, s1)
    else
    some ((x3 * ((v15 - x2) + 1)), s1)
  else
  some ((-1), s1)
set_option maxHeartbeats 4000000 in
theorem u_soonest {G : Nat → Nat} {ad : Nat → Nat → Nat} {P0 : xP} {h : xH} {s : mS} {x1 : Int32} {x2 : Int32} {x3 : Int32} {x4 : Int32} {r : Int32} {s' : mS} (M : Mx G ad P0 h s) (hF : FM_soonest s x1 x2 x3 x4 = some (r, s')) : Go (F_X11_soonest G h (ad 19 0) x1 x2 x3 x4) r (fun h' => Mx G ad P0 h' s') := by
  unfold FM_soonest at hF
  unfold F_X11_soonest
  obtain ⟨s1, es1⟩ : ∃ z : mS, z = (mI s 0 0) := ⟨_, rfl⟩
  replace hF := xlet es1 hF
  replace M := M.put (k := 0) (v := .int 0) s1 (by decide) (by rw [es1]; rfl) (by rw [es1]; rfl)
  obtain ⟨h2, eh2, M⟩ := M
  refine Go.b eh2 ?_
  refine Go.b M.xc' ?_
  replace hF := xbind hF; obtain ⟨v3, ev3, hF⟩ := hF
  refine Go.b (u_isAlarm M ev3) ?_
  by_cases c4 : v3 = 0
  · replace hF := xift c4 hF
    refine Go.t c4 ?_
    cases hF
    exact ⟨_, rfl, M⟩
  · replace hF := xiff c4 hF
    refine Go.f c4 ?_
    by_cases c5 : x2 < 0
    · replace hF := xift c5 hF
      refine Go.t c5 ?_
      cases hF
      exact ⟨_, rfl, M⟩
    · replace hF := xiff c5 hF
      refine Go.f c5 ?_
      by_cases c6 : 300 < x2
      · replace hF := xift c6 hF
        refine Go.t c6 ?_
        cases hF
        exact ⟨_, rfl, M⟩
      · replace hF := xiff c6 hF
        refine Go.f c6 ?_
        by_cases c7 : x3 < 0
        · replace hF := xift c7 hF
          refine Go.t c7 ?_
          cases hF
          exact ⟨_, rfl, M⟩
        · replace hF := xiff c7 hF
          refine Go.f c7 ?_
          by_cases c8 : 10 < x3
          · replace hF := xift c8 hF
            refine Go.t c8 ?_
            cases hF
            exact ⟨_, rfl, M⟩
          · replace hF := xiff c8 hF
            refine Go.f c8 ?_
            by_cases c9 : x4 < 0
            · replace hF := xift c9 hF
              refine Go.t c9 ?_
              cases hF
              exact ⟨_, rfl, M⟩
            · replace hF := xiff c9 hF
              refine Go.f c9 ?_
              by_cases c10 : x4 ≤ 1
              · replace hF := xift c10 hF
                refine Go.t c10 ?_
                refine Go.b (M.gR' (k := 27) rfl) ?_
                replace hF := xbind hF; obtain ⟨v11, ev11, hF⟩ := hF
                refine Go.b (M.ld (k := 27) rfl ev11) ?_
                refine Go.b (M.gR' (k := 28) rfl) ?_
                replace hF := xbind hF; obtain ⟨v12, ev12, hF⟩ := hF
                refine Go.b (M.ld (k := 28) rfl ev12) ?_
                refine Go.b (M.gR' (k := 29) rfl) ?_
                replace hF := xbind hF; obtain ⟨v13, ev13, hF⟩ := hF
                refine Go.b (M.ld (k := 29) rfl ev13) ?_
                refine Go.b (M.gR' (k := 30) rfl) ?_
                replace hF := xbind hF; obtain ⟨v14, ev14, hF⟩ := hF
                refine Go.b (M.ld (k := 30) rfl ev14) ?_
                refine Go.b M.xc' ?_
                replace hF := xbind hF; obtain ⟨v15, ev15, hF⟩ := hF
                refine Go.b (u_soonestOf M ev15) ?_
                by_cases c16 : v15 < 0
                · replace hF := xift c16 hF
                  refine Go.t c16 ?_
                  cases hF
                  exact ⟨_, rfl, M⟩
                · replace hF := xiff c16 hF
                  refine Go.f c16 ?_
                  by_cases c17 : x4 = 0
                  · replace hF := xift c17 hF
                    refine Go.t c17 ?_
                    cases hF
                    exact ⟨_, rfl, M⟩
                  · replace hF := xiff c17 hF
                    refine Go.f c17 ?_
                    cases hF
                    exact ⟨_, rfl, M⟩
              · replace hF := xiff c10 hF
                refine Go.f c10 ?_
                cases hF
                exact ⟨_, rfl, M⟩
