/-! the constructors -/
def rfD (ad : Nat → Nat → Nat) (b k : Nat) : Value := if k < b then .ref (ad 20 k) else .null
def mfsD (ad : Nat → Nat → Nat) (b : Nat) : List Value := [.int 0, .int 0, .int 0, (rfD ad b 3), (rfD ad b 4), (rfD ad b 5), (rfD ad b 6), (rfD ad b 7), (rfD ad b 8), .int 0, .int 0, .int 0, .long 0, .long 0, .long 0, .int 0, (rfD ad b 16), (rfD ad b 17), (rfD ad b 18), (rfD ad b 19), (rfD ad b 20), (rfD ad b 21), (rfD ad b 22), .int 0, .int 0, (rfD ad b 25), .int 0, (rfD ad b 27), (rfD ad b 28), (rfD ad b 29), (rfD ad b 30), (rfD ad b 31), (rfD ad b 32), .int 0, (rfD ad b 34), (rfD ad b 35), (rfD ad b 36), (rfD ad b 37), (rfD ad b 38), .int 0, (rfD ad b 40), (rfD ad b 41)]
def zS : mS := (fun _ => 0, fun _ => 0, fun _ _ => 0, fun _ _ => 0)
/-- the reference half made -/
def Ai (G : Nat → Nat) (ad0 : Nat → Nat → Nat) (P0 : xP) (m : Nat) (ad : Nat → Nat → Nat) (b : Nat) (h : xH) : Prop := m = ad 19 0 ∧ ∃ P : xP, Rep G h ad P ∧ P 19 0 = some (.inr (11, mfsD ad b)) ∧ (∀ j, j < b → mty j = 2 → P 20 j = some (.inl (G 2, mlen j, .inl (fun _ => 0)))) ∧ (∀ j, j < b → mty j = 3 → P 20 j = some (.inl (G 3, mlen j, .inl (fun _ => 0)))) ∧ (∀ j, j < b → mty j = 4 → P 20 j = some (.inl (G 4, mlen j, .inr (.inl (fun _ => 0))))) ∧ ∀ k i, k ≠ 19 → k ≠ 20 → P k i = P0 k i ∧ ad k i = ad0 k i
theorem bnd {α β : Type} {x : Option α} {y : α} {f : α → Option β} {r : Option β} (e : x = some y) (k : f y = r) : x.bind f = r := by rw [e]; exact k
section INI
variable {G : Nat → Nat} {h : xH} {ad ad0 ad1 : Nat → Nat → Nat} {P P0 P1 : xP} {m b k n : Nat} {v : Nat → Int} {a : Nat → Int → Int} {el : Int → Int → Int} {cn : Int → Int}
theorem ai_any (A : Ai G ad0 P0 m ad b h) (e : va_E) (hb : b ≤ k) (hk : k < 42) (hset : ∀ q, (mfsD ad b).set k (.ref q) = mfsD (up ad 20 k q) (k + 1)) (hno : ∀ j, b ≤ j → j < k → mty j = 0) (h2 : mty k = 2 → e = .inl (G 2, mlen k, .inl (fun _ => 0))) (h3 : mty k = 3 → e = .inl (G 3, mlen k, .inl (fun _ => 0))) (h4 : mty k = 4 → e = .inl (G 4, mlen k, .inr (.inl (fun _ => 0)))) : ∃ g ad', xp G (xn h e) (some m) 11 k (va_rf (some h.1)) = some g ∧ Ai G ad0 P0 m ad' (k + 1) g := by
  obtain ⟨hm, P, R, p19, c2, c3, c4, q⟩ := A
  have R1 := R.new 20 k e
  have a19 : up ad 20 k h.1 19 0 = ad 19 0 := up_kind _ (by decide)
  have p1 : up P 20 k (some e) 19 0 = some (.inr (11, mfsD ad b)) := by rw [up_kind _ (by decide)]; exact p19
  obtain ⟨g, P', e', R', o', q'⟩ := R1.sf' p1 (j := k) (by simpa [mfsD] using hk) (.ref h.1)
  rw [a19, ← hm] at e'
  have old : ∀ j, j < k + 1 → j ≠ k → mty j ≠ 0 → j < b := fun j hj hjk hty => by
    by_cases z : j < b
    · exact z
    · exact absurd (hno j (by omega) (by omega)) hty
  have cell : ∀ j, j ≠ k → P' 20 j = P 20 j := fun j hj => (q' 20 j (by omega)).trans (up_idx _ hj)
  have new : P' 20 k = some e := (q' 20 k (by omega)).trans (up_same _ _ _ _)
  refine ⟨g, _, e', by rw [a19]; exact hm, P', R', by rw [o', hset], fun j hj hty => ?_, fun j hj hty => ?_, fun j hj hty => ?_, fun k' i' n1 n2 => ?_⟩
  · by_cases z : j = k
    · subst z; rw [new, h2 hty]
    · rw [cell j z]; exact c2 j (old j hj z (by omega)) hty
  · by_cases z : j = k
    · subst z; rw [new, h3 hty]
    · rw [cell j z]; exact c3 j (old j hj z (by omega)) hty
  · by_cases z : j = k
    · subst z; rw [new, h4 hty]
    · rw [cell j z]; exact c4 j (old j hj z (by omega)) hty
  · have := q k' i' n1 n2
    refine ⟨((q' k' i' (by omega)).trans (up_kind _ n2)).trans this.1, (up_kind _ n2).trans this.2⟩
theorem no_0_3 : ∀ j : Nat, 0 ≤ j → j < 3 → mty j = 0 := by
  intro j j0 j1
  have : j = 0 ∨ j = 1 ∨ j = 2 := by omega
  rcases this with rfl | rfl | rfl <;> rfl
theorem no_9_16 : ∀ j : Nat, 9 ≤ j → j < 16 → mty j = 0 := by
  intro j j0 j1
  have : j = 9 ∨ j = 10 ∨ j = 11 ∨ j = 12 ∨ j = 13 ∨ j = 14 ∨ j = 15 := by omega
  rcases this with rfl | rfl | rfl | rfl | rfl | rfl | rfl <;> rfl
theorem no_23_25 : ∀ j : Nat, 23 ≤ j → j < 25 → mty j = 0 := by
  intro j j0 j1
  have : j = 23 ∨ j = 24 := by omega
  rcases this with rfl | rfl <;> rfl
theorem no_26_27 : ∀ j : Nat, 26 ≤ j → j < 27 → mty j = 0 := by
  intro j j0 j1
  have : j = 26 := by omega
  rcases this with rfl <;> rfl
theorem no_33_34 : ∀ j : Nat, 33 ≤ j → j < 34 → mty j = 0 := by
  intro j j0 j1
  have : j = 33 := by omega
  rcases this with rfl <;> rfl
theorem no_39_40 : ∀ j : Nat, 39 ≤ j → j < 40 → mty j = 0 := by
  intro j j0 j1
  have : j = 39 := by omega
  rcases this with rfl <;> rfl
theorem hs_3 (ad : Nat → Nat → Nat) (q : Nat) : (mfsD ad 0).set 3 (.ref q) = mfsD (up ad 20 3 q) (3 + 1) := rfl
theorem hs_4 (ad : Nat → Nat → Nat) (q : Nat) : (mfsD ad 4).set 4 (.ref q) = mfsD (up ad 20 4 q) (4 + 1) := rfl
theorem hs_5 (ad : Nat → Nat → Nat) (q : Nat) : (mfsD ad 5).set 5 (.ref q) = mfsD (up ad 20 5 q) (5 + 1) := rfl
theorem hs_6 (ad : Nat → Nat → Nat) (q : Nat) : (mfsD ad 6).set 6 (.ref q) = mfsD (up ad 20 6 q) (6 + 1) := rfl
theorem hs_7 (ad : Nat → Nat → Nat) (q : Nat) : (mfsD ad 7).set 7 (.ref q) = mfsD (up ad 20 7 q) (7 + 1) := rfl
theorem hs_8 (ad : Nat → Nat → Nat) (q : Nat) : (mfsD ad 8).set 8 (.ref q) = mfsD (up ad 20 8 q) (8 + 1) := rfl
theorem hs_16 (ad : Nat → Nat → Nat) (q : Nat) : (mfsD ad 9).set 16 (.ref q) = mfsD (up ad 20 16 q) (16 + 1) := rfl
theorem hs_17 (ad : Nat → Nat → Nat) (q : Nat) : (mfsD ad 17).set 17 (.ref q) = mfsD (up ad 20 17 q) (17 + 1) := rfl
theorem hs_18 (ad : Nat → Nat → Nat) (q : Nat) : (mfsD ad 18).set 18 (.ref q) = mfsD (up ad 20 18 q) (18 + 1) := rfl
theorem hs_19 (ad : Nat → Nat → Nat) (q : Nat) : (mfsD ad 19).set 19 (.ref q) = mfsD (up ad 20 19 q) (19 + 1) := rfl
theorem hs_20 (ad : Nat → Nat → Nat) (q : Nat) : (mfsD ad 20).set 20 (.ref q) = mfsD (up ad 20 20 q) (20 + 1) := rfl
theorem hs_21 (ad : Nat → Nat → Nat) (q : Nat) : (mfsD ad 21).set 21 (.ref q) = mfsD (up ad 20 21 q) (21 + 1) := rfl
theorem hs_22 (ad : Nat → Nat → Nat) (q : Nat) : (mfsD ad 22).set 22 (.ref q) = mfsD (up ad 20 22 q) (22 + 1) := rfl
theorem hs_25 (ad : Nat → Nat → Nat) (q : Nat) : (mfsD ad 23).set 25 (.ref q) = mfsD (up ad 20 25 q) (25 + 1) := rfl
theorem hs_27 (ad : Nat → Nat → Nat) (q : Nat) : (mfsD ad 26).set 27 (.ref q) = mfsD (up ad 20 27 q) (27 + 1) := rfl
theorem hs_28 (ad : Nat → Nat → Nat) (q : Nat) : (mfsD ad 28).set 28 (.ref q) = mfsD (up ad 20 28 q) (28 + 1) := rfl
theorem hs_29 (ad : Nat → Nat → Nat) (q : Nat) : (mfsD ad 29).set 29 (.ref q) = mfsD (up ad 20 29 q) (29 + 1) := rfl
theorem hs_30 (ad : Nat → Nat → Nat) (q : Nat) : (mfsD ad 30).set 30 (.ref q) = mfsD (up ad 20 30 q) (30 + 1) := rfl
theorem hs_31 (ad : Nat → Nat → Nat) (q : Nat) : (mfsD ad 31).set 31 (.ref q) = mfsD (up ad 20 31 q) (31 + 1) := rfl
theorem hs_32 (ad : Nat → Nat → Nat) (q : Nat) : (mfsD ad 32).set 32 (.ref q) = mfsD (up ad 20 32 q) (32 + 1) := rfl
theorem hs_34 (ad : Nat → Nat → Nat) (q : Nat) : (mfsD ad 33).set 34 (.ref q) = mfsD (up ad 20 34 q) (34 + 1) := rfl
theorem hs_35 (ad : Nat → Nat → Nat) (q : Nat) : (mfsD ad 35).set 35 (.ref q) = mfsD (up ad 20 35 q) (35 + 1) := rfl
theorem hs_36 (ad : Nat → Nat → Nat) (q : Nat) : (mfsD ad 36).set 36 (.ref q) = mfsD (up ad 20 36 q) (36 + 1) := rfl
theorem hs_37 (ad : Nat → Nat → Nat) (q : Nat) : (mfsD ad 37).set 37 (.ref q) = mfsD (up ad 20 37 q) (37 + 1) := rfl
theorem hs_38 (ad : Nat → Nat → Nat) (q : Nat) : (mfsD ad 38).set 38 (.ref q) = mfsD (up ad 20 38 q) (38 + 1) := rfl
theorem hs_40 (ad : Nat → Nat → Nat) (q : Nat) : (mfsD ad 39).set 40 (.ref q) = mfsD (up ad 20 40 q) (40 + 1) := rfl
theorem hs_41 (ad : Nat → Nat → Nat) (q : Nat) : (mfsD ad 41).set 41 (.ref q) = mfsD (up ad 20 41 q) (41 + 1) := rfl
theorem x11_init (A : Ai G ad0 P0 m ad 0 h) : ∃ g ad', F_X11_init G h m = some g ∧ Ai G ad0 P0 m ad' 42 g := by
  obtain ⟨g3, _, e3, A3⟩ := ai_any A (.inl (G 2, 16, .inl (fun _ => 0))) (k := 3) (by decide) (by decide) (hs_3 _) (fun j j0 j1 => no_0_3 j j0 j1) (fun _ => rfl) (fun z => by cases z) (fun z => by cases z)
  obtain ⟨g4, _, e4, A4⟩ := ai_any A3 (.inl (G 2, 16, .inl (fun _ => 0))) (k := 4) (by decide) (by decide) (hs_4 _) (fun j j0 j1 => by omega) (fun _ => rfl) (fun z => by cases z) (fun z => by cases z)
  obtain ⟨g5, _, e5, A5⟩ := ai_any A4 (.inl (G 2, 16, .inl (fun _ => 0))) (k := 5) (by decide) (by decide) (hs_5 _) (fun j j0 j1 => by omega) (fun _ => rfl) (fun z => by cases z) (fun z => by cases z)
  obtain ⟨g6, _, e6, A6⟩ := ai_any A5 (.inl (G 2, 9616, .inl (fun _ => 0))) (k := 6) (by decide) (by decide) (hs_6 _) (fun j j0 j1 => by omega) (fun _ => rfl) (fun z => by cases z) (fun z => by cases z)
  obtain ⟨g7, _, e7, A7⟩ := ai_any A6 (.inl (G 2, 9616, .inl (fun _ => 0))) (k := 7) (by decide) (by decide) (hs_7 _) (fun j j0 j1 => by omega) (fun _ => rfl) (fun z => by cases z) (fun z => by cases z)
  obtain ⟨g8, _, e8, A8⟩ := ai_any A7 (.inl (G 3, 3200, .inl (fun _ => 0))) (k := 8) (by decide) (by decide) (hs_8 _) (fun j j0 j1 => by omega) (fun z => by cases z) (fun _ => rfl) (fun z => by cases z)
  obtain ⟨g16, _, e16, A16⟩ := ai_any A8 (.inl (G 2, 12, .inl (fun _ => 0))) (k := 16) (by decide) (by decide) (hs_16 _) (fun j j0 j1 => no_9_16 j j0 j1) (fun _ => rfl) (fun z => by cases z) (fun z => by cases z)
  obtain ⟨g17, _, e17, A17⟩ := ai_any A16 (.inl (G 2, 12, .inl (fun _ => 0))) (k := 17) (by decide) (by decide) (hs_17 _) (fun j j0 j1 => by omega) (fun _ => rfl) (fun z => by cases z) (fun z => by cases z)
  obtain ⟨g18, _, e18, A18⟩ := ai_any A17 (.inl (G 2, 12, .inl (fun _ => 0))) (k := 18) (by decide) (by decide) (hs_18 _) (fun j j0 j1 => by omega) (fun _ => rfl) (fun z => by cases z) (fun z => by cases z)
  obtain ⟨g19, _, e19, A19⟩ := ai_any A18 (.inl (G 3, 12, .inl (fun _ => 0))) (k := 19) (by decide) (by decide) (hs_19 _) (fun j j0 j1 => by omega) (fun z => by cases z) (fun _ => rfl) (fun z => by cases z)
  obtain ⟨g20, _, e20, A20⟩ := ai_any A19 (.inl (G 2, 12, .inl (fun _ => 0))) (k := 20) (by decide) (by decide) (hs_20 _) (fun j j0 j1 => by omega) (fun _ => rfl) (fun z => by cases z) (fun z => by cases z)
  obtain ⟨g21, _, e21, A21⟩ := ai_any A20 (.inl (G 2, 120, .inl (fun _ => 0))) (k := 21) (by decide) (by decide) (hs_21 _) (fun j j0 j1 => by omega) (fun _ => rfl) (fun z => by cases z) (fun z => by cases z)
  obtain ⟨g22, _, e22, A22⟩ := ai_any A21 (.inl (G 2, 120, .inl (fun _ => 0))) (k := 22) (by decide) (by decide) (hs_22 _) (fun j j0 j1 => by omega) (fun _ => rfl) (fun z => by cases z) (fun z => by cases z)
  obtain ⟨g25, _, e25, A25⟩ := ai_any A22 (.inl (G 2, 10, .inl (fun _ => 0))) (k := 25) (by decide) (by decide) (hs_25 _) (fun j j0 j1 => no_23_25 j j0 j1) (fun _ => rfl) (fun z => by cases z) (fun z => by cases z)
  obtain ⟨g27, _, e27, A27⟩ := ai_any A25 (.inl (G 2, 8, .inl (fun _ => 0))) (k := 27) (by decide) (by decide) (hs_27 _) (fun j j0 j1 => no_26_27 j j0 j1) (fun _ => rfl) (fun z => by cases z) (fun z => by cases z)
  obtain ⟨g28, _, e28, A28⟩ := ai_any A27 (.inl (G 2, 8, .inl (fun _ => 0))) (k := 28) (by decide) (by decide) (hs_28 _) (fun j j0 j1 => by omega) (fun _ => rfl) (fun z => by cases z) (fun z => by cases z)
  obtain ⟨g29, _, e29, A29⟩ := ai_any A28 (.inl (G 2, 8, .inl (fun _ => 0))) (k := 29) (by decide) (by decide) (hs_29 _) (fun j j0 j1 => by omega) (fun _ => rfl) (fun z => by cases z) (fun z => by cases z)
  obtain ⟨g30, _, e30, A30⟩ := ai_any A29 (.inl (G 2, 8, .inl (fun _ => 0))) (k := 30) (by decide) (by decide) (hs_30 _) (fun j j0 j1 => by omega) (fun _ => rfl) (fun z => by cases z) (fun z => by cases z)
  obtain ⟨g31, _, e31, A31⟩ := ai_any A30 (.inl (G 4, 602, .inr (.inl (fun _ => 0)))) (k := 31) (by decide) (by decide) (hs_31 _) (fun j j0 j1 => by omega) (fun z => by cases z) (fun z => by cases z) (fun _ => rfl)
  obtain ⟨g32, _, e32, A32⟩ := ai_any A31 (.inl (G 4, 602, .inr (.inl (fun _ => 0)))) (k := 32) (by decide) (by decide) (hs_32 _) (fun j j0 j1 => by omega) (fun z => by cases z) (fun z => by cases z) (fun _ => rfl)
  obtain ⟨g34, _, e34, A34⟩ := ai_any A32 (.inl (G 2, 40, .inl (fun _ => 0))) (k := 34) (by decide) (by decide) (hs_34 _) (fun j j0 j1 => no_33_34 j j0 j1) (fun _ => rfl) (fun z => by cases z) (fun z => by cases z)
  obtain ⟨g35, _, e35, A35⟩ := ai_any A34 (.inl (G 2, 40, .inl (fun _ => 0))) (k := 35) (by decide) (by decide) (hs_35 _) (fun j j0 j1 => by omega) (fun _ => rfl) (fun z => by cases z) (fun z => by cases z)
  obtain ⟨g36, _, e36, A36⟩ := ai_any A35 (.inl (G 2, 40, .inl (fun _ => 0))) (k := 36) (by decide) (by decide) (hs_36 _) (fun j j0 j1 => by omega) (fun _ => rfl) (fun z => by cases z) (fun z => by cases z)
  obtain ⟨g37, _, e37, A37⟩ := ai_any A36 (.inl (G 2, 40, .inl (fun _ => 0))) (k := 37) (by decide) (by decide) (hs_37 _) (fun j j0 j1 => by omega) (fun _ => rfl) (fun z => by cases z) (fun z => by cases z)
  obtain ⟨g38, _, e38, A38⟩ := ai_any A37 (.inl (G 2, 40, .inl (fun _ => 0))) (k := 38) (by decide) (by decide) (hs_38 _) (fun j j0 j1 => by omega) (fun _ => rfl) (fun z => by cases z) (fun z => by cases z)
  obtain ⟨g40, _, e40, A40⟩ := ai_any A38 (.inl (G 2, 14, .inl (fun _ => 0))) (k := 40) (by decide) (by decide) (hs_40 _) (fun j j0 j1 => no_39_40 j j0 j1) (fun _ => rfl) (fun z => by cases z) (fun z => by cases z)
  obtain ⟨g41, _, e41, A41⟩ := ai_any A40 (.inl (G 2, 14, .inl (fun _ => 0))) (k := 41) (by decide) (by decide) (hs_41 _) (fun j j0 j1 => by omega) (fun _ => rfl) (fun z => by cases z) (fun z => by cases z)
  refine ⟨g41, _, ?_, A41⟩
  unfold F_X11_init
  refine bnd (y := _) rfl ?_
  dsimp only
  refine bnd e3 ?_
  refine bnd (y := _) rfl ?_
  dsimp only
  refine bnd e4 ?_
  refine bnd (y := _) rfl ?_
  dsimp only
  refine bnd e5 ?_
  refine bnd (y := _) rfl ?_
  dsimp only
  refine bnd e6 ?_
  refine bnd (y := _) rfl ?_
  dsimp only
  refine bnd e7 ?_
  refine bnd (y := _) rfl ?_
  dsimp only
  refine bnd e8 ?_
  refine bnd (y := _) rfl ?_
  dsimp only
  refine bnd e16 ?_
  refine bnd (y := _) rfl ?_
  dsimp only
  refine bnd e17 ?_
  refine bnd (y := _) rfl ?_
  dsimp only
  refine bnd e18 ?_
  refine bnd (y := _) rfl ?_
  dsimp only
  refine bnd e19 ?_
  refine bnd (y := _) rfl ?_
  dsimp only
  refine bnd e20 ?_
  refine bnd (y := _) rfl ?_
  dsimp only
  refine bnd e21 ?_
  refine bnd (y := _) rfl ?_
  dsimp only
  refine bnd e22 ?_
  refine bnd (y := _) rfl ?_
  dsimp only
  refine bnd e25 ?_
  refine bnd (y := _) rfl ?_
  dsimp only
  refine bnd e27 ?_
  refine bnd (y := _) rfl ?_
  dsimp only
  refine bnd e28 ?_
  refine bnd (y := _) rfl ?_
  dsimp only
  refine bnd e29 ?_
  refine bnd (y := _) rfl ?_
  dsimp only
  refine bnd e30 ?_
  refine bnd (y := _) rfl ?_
  dsimp only
  refine bnd e31 ?_
  refine bnd (y := _) rfl ?_
  dsimp only
  refine bnd e32 ?_
  refine bnd (y := _) rfl ?_
  dsimp only
  refine bnd e34 ?_
  refine bnd (y := _) rfl ?_
  dsimp only
  refine bnd e35 ?_
  refine bnd (y := _) rfl ?_
  dsimp only
  refine bnd e36 ?_
  refine bnd (y := _) rfl ?_
  dsimp only
  refine bnd e37 ?_
  refine bnd (y := _) rfl ?_
  dsimp only
  refine bnd e38 ?_
  refine bnd (y := _) rfl ?_
  dsimp only
  refine bnd e40 ?_
  refine bnd (y := _) rfl ?_
  dsimp only
  refine bnd e41 ?_
  rfl
theorem Ai.mc (A : Ai G ad0 P0 m ad 42 h) : ∃ P, Rep G h ad P ∧ m = ad 19 0 ∧ Mc G ad P zS ∧ ∀ k i, k ≠ 19 → k ≠ 20 → P k i = P0 k i ∧ ad k i = ad0 k i := by
  obtain ⟨hm, P, R, p19, c2, c3, c4, q⟩ := A
  have lt : ∀ k, mty k ≠ 0 → k < 42 := by
    intro k hk
    by_cases z : k < 42
    · exact z
    · exfalso
      apply hk
      unfold mty
      split <;> first | omega | rfl
  exact ⟨P, R, hm, ⟨p19, fun k hk => c2 k (lt k (by omega)) hk, fun k hk => c3 k (lt k (by omega)) hk, fun k hk => c4 k (lt k (by omega)) hk⟩, q⟩
/-- the class half made -/
def rfK (ad : Nat → Nat → Nat) (b j k i : Nat) : Value := if j < b then .ref (ad k i) else .null
def kfs (ad : Nat → Nat → Nat) (b : Nat) : List Value := [rfK ad b 0 0 0, rfK ad b 1 0 1, rfK ad b 2 0 2, rfK ad b 3 0 3, rfK ad b 4 0 4, rfK ad b 5 4 0, rfK ad b 6 5 0, rfK ad b 7 2 0, .int 0, .int 0, .int 0]
def Kl (G : Nat → Nat) (P : xP) (b : Nat) : Prop := ∀ i, i < b → P 0 i = some (.inr (0, [.int 0, .ref (G 1), .int 0]))
def Kt (G : Nat → Nat) (ad : Nat → Nat → Nat) (P : xP) : Prop := P 4 0 = some (.inr (4, [.ref (ad 40 0), .int 0])) ∧ P 40 0 = some (.inl (G 2, 10, .inl (fun _ => 0)))
def Kp (G : Nat → Nat) (ad : Nat → Nat → Nat) (P : xP) : Prop := P 5 0 = some (.inr (5, [.ref (ad 150 0), .ref (ad 151 0), .ref (ad 152 0), .ref (ad 153 0), .ref (ad 154 0), .int 0, .int 0, .int 0, .int 0, .int 0])) ∧ P 150 0 = some (.inl (G 2, 14, .inl (fun _ => 0))) ∧ P 151 0 = some (.inl (G 2, 14, .inl (fun _ => 0))) ∧ P 152 0 = some (.inl (G 2, 14, .inl (fun _ => 0))) ∧ P 153 0 = some (.inl (G 2, 14, .inl (fun _ => 0))) ∧ P 154 0 = some (.inl (G 2, 14, .inl (fun _ => 0)))
def Kq (G : Nat → Nat) (ad : Nat → Nat → Nat) (P : xP) : Prop := P 2 0 = some (.inr (2, [.ref (ad 120 0), .ref (ad 121 0), .ref (ad 122 0), .int 0, .int 0])) ∧ P 120 0 = some (.inl (G 2, 13, .inl (fun _ => 0))) ∧ P 121 0 = some (.inl (G 2, 78, .inl (fun _ => 0))) ∧ P 122 0 = some (.inl (G 2, 1638, .inl (fun _ => 0)))
theorem ki_list {x : Nat} (R : Rep G h ad P) (hx : x = ad 10 0) {j : Nat} (hj : j < 5) (p10 : P 10 0 = some (.inr (10, kfs ad j))) (hl : Kl G P j) : ∃ h1 h2 h3 ad' P', nO h 0 [.int 0, .null, .int 0] = some (ad' 0 j, h1) ∧ F_Jx4a65c_init_da8c8 G h1 (ad' 0 j) = some h2 ∧ xp G h2 (some x) 10 j (.ref (ad' 0 j)) = some h3 ∧ Rep G h3 ad' P' ∧ x = ad' 10 0 ∧ P' 10 0 = some (.inr (10, kfs ad' (j + 1))) ∧ Kl G P' (j + 1) := by
  obtain ⟨g1, ad1, P1, e1, R1, o1, q1⟩ := R.nO 0 j 0 [.int 0, .null, .int 0]
  obtain ⟨g2, P2, e2, R2, o2, q2⟩ := R1.sf' o1 (j := 0) (by simp) (.int 0)
  obtain ⟨g3, P3, e3, R3, o3, q3⟩ := R2.sf' o2 (j := 1) (by simp) (.ref (G 1))
  have a10 : ad1 10 0 = ad 10 0 := (q1 10 0 (by omega)).1
  have p3 : P3 10 0 = some (.inr (10, kfs ad j)) := (q3 10 0 (by omega)).trans ((q2 10 0 (by omega)).trans ((q1 10 0 (by omega)).2.trans p10))
  obtain ⟨g4, P4, e4, R4, o4, q4⟩ := R3.sf' p3 (j := j) (by simp [kfs]; omega) (.ref (ad1 0 j))
  rw [a10, ← hx] at e4
  refine ⟨g1, g3, g4, ad1, P4, e1, ?_, e4, R4, by rw [a10]; exact hx, ?_, fun i hi => ?_⟩
  · unfold F_Jx4a65c_init_da8c8 F_Jxc12de_init_da8c8 F_Jxa1e45_init_da8c8
    simp only [Option.bind_some, e2, rf_some, e3]
  · rw [o4]
    have ha : ∀ i, i ≠ j → ad1 0 i = ad 0 i := fun i hi => (q1 0 i (by omega)).1
    have hb : ∀ k i, k ≠ 0 → ad1 k i = ad k i := fun k i hk => (q1 k i (by omega)).1
    match j, hj with
    | 0, _ => rfl
    | 1, _ => simp [kfs, rfK, ha 0 (by decide)]
    | 2, _ => simp [kfs, rfK, ha 0 (by decide), ha 1 (by decide)]
    | 3, _ => simp [kfs, rfK, ha 0 (by decide), ha 1 (by decide), ha 2 (by decide)]
    | 4, _ => simp [kfs, rfK, ha 0 (by decide), ha 1 (by decide), ha 2 (by decide), ha 3 (by decide)]
  · by_cases z : i = j
    · subst z
      exact (q4 0 i (by omega)).trans o3
    · rw [q4 0 i (by omega), q3 0 i (by omega), q2 0 i (by omega), (q1 0 i (by omega)).2]
      exact hl i (by omega)
theorem x10_init {x : Nat} (R : Rep G h ad P) (hx : x = ad 10 0) (p10 : P 10 0 = some (.inr (10, [.null, .null, .null, .null, .null, .null, .null, .null, .int 0, .int 0, .int 0]))) : ∃ g ad' P', F_X10_init G h x = some g ∧ Rep G g ad' P' ∧ x = ad' 10 0 ∧ P' 10 0 = some (.inr (10, kfs ad' 8)) ∧ Kl G P' 5 ∧ Kt G ad' P' ∧ Kp G ad' P' ∧ Kq G ad' P' := by
  obtain ⟨a0, b0, c0, ad10, P10, d0, f0, e0, R10, x10, p10, l10⟩ := ki_list R hx (j := 0) (by decide) p10 (fun i hi => absurd hi (Nat.not_lt_zero _))
  obtain ⟨a1, b1, c1, ad11, P11, d1, f1, e1, R11, x11, p11, l11⟩ := ki_list R10 x10 (j := 1) (by decide) p10 l10
  obtain ⟨a2, b2, c2, ad12, P12, d2, f2, e2, R12, x12, p12, l12⟩ := ki_list R11 x11 (j := 2) (by decide) p11 l11
  obtain ⟨a3, b3, c3, ad13, P13, d3, f3, e3, R13, x13, p13, l13⟩ := ki_list R12 x12 (j := 3) (by decide) p12 l12
  obtain ⟨a4, b4, c4, ad14, P14, d4, f4, e4, R14, x14, p14, l14⟩ := ki_list R13 x13 (j := 4) (by decide) p13 l13
  obtain ⟨u1, av1, Q1, z1, T1, o1, q1⟩ := R14.nO 4 0 4 [.null, .int 0]
  have k10_1 := (q1 10 0 (by omega)).2.trans p14
  obtain ⟨u2, av2, Q2, z2, T2, o2, q2⟩ := T1.nI 40 0 10
  have k10_2 := (q2 10 0 (by omega)).2.trans k10_1
  have k4_2 := (q2 4 0 (by omega)).2.trans o1
  obtain ⟨u3, Q3, z3, T3, o3, q3⟩ := T2.sf' k4_2 (j := 0) (by simp [kfs]) (.ref (av2 40 0))
  rw [show av2 4 0 = av1 4 0 from (q2 4 0 (by omega)).1] at z3
  have k10_3 := (q3 10 0 (by omega)).trans k10_2
  have k40_3 := (q3 40 0 (by omega)).trans o2
  obtain ⟨u4, Q4, z4, T4, o4, q4⟩ := T3.sf' k10_3 (j := 5) (by simp [kfs]) (.ref (av1 4 0))
  rw [show av2 10 0 = x from (q2 10 0 (by omega)).1.trans ((q1 10 0 (by omega)).1.trans (x14.symm))] at z4
  have k4_4 := (q4 4 0 (by omega)).trans o3
  have k40_4 := (q4 40 0 (by omega)).trans k40_3
  obtain ⟨u5, av5, Q5, z5, T5, o5, q5⟩ := T4.nO 5 0 5 [.null, .null, .null, .null, .null, .int 0, .int 0, .int 0, .int 0, .int 0]
  have k10_5 := (q5 10 0 (by omega)).2.trans o4
  have k4_5 := (q5 4 0 (by omega)).2.trans k4_4
  have k40_5 := (q5 40 0 (by omega)).2.trans k40_4
  obtain ⟨u6, av6, Q6, z6, T6, o6, q6⟩ := T5.nI 150 0 14
  have k10_6 := (q6 10 0 (by omega)).2.trans k10_5
  have k4_6 := (q6 4 0 (by omega)).2.trans k4_5
  have k40_6 := (q6 40 0 (by omega)).2.trans k40_5
  have k5_6 := (q6 5 0 (by omega)).2.trans o5
  obtain ⟨u7, Q7, z7, T7, o7, q7⟩ := T6.sf' k5_6 (j := 0) (by simp [kfs]) (.ref (av6 150 0))
  rw [show av6 5 0 = av5 5 0 from (q6 5 0 (by omega)).1] at z7
  have k10_7 := (q7 10 0 (by omega)).trans k10_6
  have k4_7 := (q7 4 0 (by omega)).trans k4_6
  have k40_7 := (q7 40 0 (by omega)).trans k40_6
  have k150_7 := (q7 150 0 (by omega)).trans o6
  obtain ⟨u8, av8, Q8, z8, T8, o8, q8⟩ := T7.nI 151 0 14
  have k10_8 := (q8 10 0 (by omega)).2.trans k10_7
  have k4_8 := (q8 4 0 (by omega)).2.trans k4_7
  have k40_8 := (q8 40 0 (by omega)).2.trans k40_7
  have k5_8 := (q8 5 0 (by omega)).2.trans o7
  have k150_8 := (q8 150 0 (by omega)).2.trans k150_7
  obtain ⟨u9, Q9, z9, T9, o9, q9⟩ := T8.sf' k5_8 (j := 1) (by simp [kfs]) (.ref (av8 151 0))
  rw [show av8 5 0 = av5 5 0 from (q8 5 0 (by omega)).1.trans ((q6 5 0 (by omega)).1)] at z9
  have k10_9 := (q9 10 0 (by omega)).trans k10_8
  have k4_9 := (q9 4 0 (by omega)).trans k4_8
  have k40_9 := (q9 40 0 (by omega)).trans k40_8
  have k150_9 := (q9 150 0 (by omega)).trans k150_8
  have k151_9 := (q9 151 0 (by omega)).trans o8
  obtain ⟨u10, av10, Q10, z10, T10, o10, q10⟩ := T9.nI 152 0 14
  have k10_10 := (q10 10 0 (by omega)).2.trans k10_9
  have k4_10 := (q10 4 0 (by omega)).2.trans k4_9
  have k40_10 := (q10 40 0 (by omega)).2.trans k40_9
  have k5_10 := (q10 5 0 (by omega)).2.trans o9
  have k150_10 := (q10 150 0 (by omega)).2.trans k150_9
  have k151_10 := (q10 151 0 (by omega)).2.trans k151_9
  obtain ⟨u11, Q11, z11, T11, o11, q11⟩ := T10.sf' k5_10 (j := 2) (by simp [kfs]) (.ref (av10 152 0))
  rw [show av10 5 0 = av5 5 0 from (q10 5 0 (by omega)).1.trans ((q8 5 0 (by omega)).1.trans ((q6 5 0 (by omega)).1))] at z11
  have k10_11 := (q11 10 0 (by omega)).trans k10_10
  have k4_11 := (q11 4 0 (by omega)).trans k4_10
  have k40_11 := (q11 40 0 (by omega)).trans k40_10
  have k150_11 := (q11 150 0 (by omega)).trans k150_10
  have k151_11 := (q11 151 0 (by omega)).trans k151_10
  have k152_11 := (q11 152 0 (by omega)).trans o10
  obtain ⟨u12, av12, Q12, z12, T12, o12, q12⟩ := T11.nI 153 0 14
  have k10_12 := (q12 10 0 (by omega)).2.trans k10_11
  have k4_12 := (q12 4 0 (by omega)).2.trans k4_11
  have k40_12 := (q12 40 0 (by omega)).2.trans k40_11
  have k5_12 := (q12 5 0 (by omega)).2.trans o11
  have k150_12 := (q12 150 0 (by omega)).2.trans k150_11
  have k151_12 := (q12 151 0 (by omega)).2.trans k151_11
  have k152_12 := (q12 152 0 (by omega)).2.trans k152_11
  obtain ⟨u13, Q13, z13, T13, o13, q13⟩ := T12.sf' k5_12 (j := 3) (by simp [kfs]) (.ref (av12 153 0))
  rw [show av12 5 0 = av5 5 0 from (q12 5 0 (by omega)).1.trans ((q10 5 0 (by omega)).1.trans ((q8 5 0 (by omega)).1.trans ((q6 5 0 (by omega)).1)))] at z13
  have k10_13 := (q13 10 0 (by omega)).trans k10_12
  have k4_13 := (q13 4 0 (by omega)).trans k4_12
  have k40_13 := (q13 40 0 (by omega)).trans k40_12
  have k150_13 := (q13 150 0 (by omega)).trans k150_12
  have k151_13 := (q13 151 0 (by omega)).trans k151_12
  have k152_13 := (q13 152 0 (by omega)).trans k152_12
  have k153_13 := (q13 153 0 (by omega)).trans o12
  obtain ⟨u14, av14, Q14, z14, T14, o14, q14⟩ := T13.nI 154 0 14
  have k10_14 := (q14 10 0 (by omega)).2.trans k10_13
  have k4_14 := (q14 4 0 (by omega)).2.trans k4_13
  have k40_14 := (q14 40 0 (by omega)).2.trans k40_13
  have k5_14 := (q14 5 0 (by omega)).2.trans o13
  have k150_14 := (q14 150 0 (by omega)).2.trans k150_13
  have k151_14 := (q14 151 0 (by omega)).2.trans k151_13
  have k152_14 := (q14 152 0 (by omega)).2.trans k152_13
  have k153_14 := (q14 153 0 (by omega)).2.trans k153_13
  obtain ⟨u15, Q15, z15, T15, o15, q15⟩ := T14.sf' k5_14 (j := 4) (by simp [kfs]) (.ref (av14 154 0))
  rw [show av14 5 0 = av5 5 0 from (q14 5 0 (by omega)).1.trans ((q12 5 0 (by omega)).1.trans ((q10 5 0 (by omega)).1.trans ((q8 5 0 (by omega)).1.trans ((q6 5 0 (by omega)).1))))] at z15
  have k10_15 := (q15 10 0 (by omega)).trans k10_14
  have k4_15 := (q15 4 0 (by omega)).trans k4_14
  have k40_15 := (q15 40 0 (by omega)).trans k40_14
  have k150_15 := (q15 150 0 (by omega)).trans k150_14
  have k151_15 := (q15 151 0 (by omega)).trans k151_14
  have k152_15 := (q15 152 0 (by omega)).trans k152_14
  have k153_15 := (q15 153 0 (by omega)).trans k153_14
  have k154_15 := (q15 154 0 (by omega)).trans o14
  obtain ⟨u16, Q16, z16, T16, o16, q16⟩ := T15.sf' k10_15 (j := 6) (by simp [kfs]) (.ref (av5 5 0))
  rw [show av14 10 0 = x from (q14 10 0 (by omega)).1.trans ((q12 10 0 (by omega)).1.trans ((q10 10 0 (by omega)).1.trans ((q8 10 0 (by omega)).1.trans ((q6 10 0 (by omega)).1.trans ((q5 10 0 (by omega)).1.trans ((q2 10 0 (by omega)).1.trans ((q1 10 0 (by omega)).1.trans (x14.symm))))))))] at z16
  have k4_16 := (q16 4 0 (by omega)).trans k4_15
  have k40_16 := (q16 40 0 (by omega)).trans k40_15
  have k5_16 := (q16 5 0 (by omega)).trans o15
  have k150_16 := (q16 150 0 (by omega)).trans k150_15
  have k151_16 := (q16 151 0 (by omega)).trans k151_15
  have k152_16 := (q16 152 0 (by omega)).trans k152_15
  have k153_16 := (q16 153 0 (by omega)).trans k153_15
  have k154_16 := (q16 154 0 (by omega)).trans k154_15
  obtain ⟨u17, av17, Q17, z17, T17, o17, q17⟩ := T16.nO 2 0 2 [.null, .null, .null, .int 0, .int 0]
  have k10_17 := (q17 10 0 (by omega)).2.trans o16
  have k4_17 := (q17 4 0 (by omega)).2.trans k4_16
  have k40_17 := (q17 40 0 (by omega)).2.trans k40_16
  have k5_17 := (q17 5 0 (by omega)).2.trans k5_16
  have k150_17 := (q17 150 0 (by omega)).2.trans k150_16
  have k151_17 := (q17 151 0 (by omega)).2.trans k151_16
  have k152_17 := (q17 152 0 (by omega)).2.trans k152_16
  have k153_17 := (q17 153 0 (by omega)).2.trans k153_16
  have k154_17 := (q17 154 0 (by omega)).2.trans k154_16
  obtain ⟨u18, av18, Q18, z18, T18, o18, q18⟩ := T17.nI 120 0 13
  have k10_18 := (q18 10 0 (by omega)).2.trans k10_17
  have k4_18 := (q18 4 0 (by omega)).2.trans k4_17
  have k40_18 := (q18 40 0 (by omega)).2.trans k40_17
  have k5_18 := (q18 5 0 (by omega)).2.trans k5_17
  have k150_18 := (q18 150 0 (by omega)).2.trans k150_17
  have k151_18 := (q18 151 0 (by omega)).2.trans k151_17
  have k152_18 := (q18 152 0 (by omega)).2.trans k152_17
  have k153_18 := (q18 153 0 (by omega)).2.trans k153_17
  have k154_18 := (q18 154 0 (by omega)).2.trans k154_17
  have k2_18 := (q18 2 0 (by omega)).2.trans o17
  obtain ⟨u19, Q19, z19, T19, o19, q19⟩ := T18.sf' k2_18 (j := 0) (by simp [kfs]) (.ref (av18 120 0))
  rw [show av18 2 0 = av17 2 0 from (q18 2 0 (by omega)).1] at z19
  have k10_19 := (q19 10 0 (by omega)).trans k10_18
  have k4_19 := (q19 4 0 (by omega)).trans k4_18
  have k40_19 := (q19 40 0 (by omega)).trans k40_18
  have k5_19 := (q19 5 0 (by omega)).trans k5_18
  have k150_19 := (q19 150 0 (by omega)).trans k150_18
  have k151_19 := (q19 151 0 (by omega)).trans k151_18
  have k152_19 := (q19 152 0 (by omega)).trans k152_18
  have k153_19 := (q19 153 0 (by omega)).trans k153_18
  have k154_19 := (q19 154 0 (by omega)).trans k154_18
  have k120_19 := (q19 120 0 (by omega)).trans o18
  obtain ⟨u20, av20, Q20, z20, T20, o20, q20⟩ := T19.nI 121 0 78
  have k10_20 := (q20 10 0 (by omega)).2.trans k10_19
  have k4_20 := (q20 4 0 (by omega)).2.trans k4_19
  have k40_20 := (q20 40 0 (by omega)).2.trans k40_19
  have k5_20 := (q20 5 0 (by omega)).2.trans k5_19
  have k150_20 := (q20 150 0 (by omega)).2.trans k150_19
  have k151_20 := (q20 151 0 (by omega)).2.trans k151_19
  have k152_20 := (q20 152 0 (by omega)).2.trans k152_19
  have k153_20 := (q20 153 0 (by omega)).2.trans k153_19
  have k154_20 := (q20 154 0 (by omega)).2.trans k154_19
  have k2_20 := (q20 2 0 (by omega)).2.trans o19
  have k120_20 := (q20 120 0 (by omega)).2.trans k120_19
  obtain ⟨u21, Q21, z21, T21, o21, q21⟩ := T20.sf' k2_20 (j := 1) (by simp [kfs]) (.ref (av20 121 0))
  rw [show av20 2 0 = av17 2 0 from (q20 2 0 (by omega)).1.trans ((q18 2 0 (by omega)).1)] at z21
  have k10_21 := (q21 10 0 (by omega)).trans k10_20
  have k4_21 := (q21 4 0 (by omega)).trans k4_20
  have k40_21 := (q21 40 0 (by omega)).trans k40_20
  have k5_21 := (q21 5 0 (by omega)).trans k5_20
  have k150_21 := (q21 150 0 (by omega)).trans k150_20
  have k151_21 := (q21 151 0 (by omega)).trans k151_20
  have k152_21 := (q21 152 0 (by omega)).trans k152_20
  have k153_21 := (q21 153 0 (by omega)).trans k153_20
  have k154_21 := (q21 154 0 (by omega)).trans k154_20
  have k120_21 := (q21 120 0 (by omega)).trans k120_20
  have k121_21 := (q21 121 0 (by omega)).trans o20
  obtain ⟨u22, av22, Q22, z22, T22, o22, q22⟩ := T21.nI 122 0 1638
  have k10_22 := (q22 10 0 (by omega)).2.trans k10_21
  have k4_22 := (q22 4 0 (by omega)).2.trans k4_21
  have k40_22 := (q22 40 0 (by omega)).2.trans k40_21
  have k5_22 := (q22 5 0 (by omega)).2.trans k5_21
  have k150_22 := (q22 150 0 (by omega)).2.trans k150_21
  have k151_22 := (q22 151 0 (by omega)).2.trans k151_21
  have k152_22 := (q22 152 0 (by omega)).2.trans k152_21
  have k153_22 := (q22 153 0 (by omega)).2.trans k153_21
  have k154_22 := (q22 154 0 (by omega)).2.trans k154_21
  have k2_22 := (q22 2 0 (by omega)).2.trans o21
  have k120_22 := (q22 120 0 (by omega)).2.trans k120_21
  have k121_22 := (q22 121 0 (by omega)).2.trans k121_21
  obtain ⟨u23, Q23, z23, T23, o23, q23⟩ := T22.sf' k2_22 (j := 2) (by simp [kfs]) (.ref (av22 122 0))
  rw [show av22 2 0 = av17 2 0 from (q22 2 0 (by omega)).1.trans ((q20 2 0 (by omega)).1.trans ((q18 2 0 (by omega)).1))] at z23
  have k10_23 := (q23 10 0 (by omega)).trans k10_22
  have k4_23 := (q23 4 0 (by omega)).trans k4_22
  have k40_23 := (q23 40 0 (by omega)).trans k40_22
  have k5_23 := (q23 5 0 (by omega)).trans k5_22
  have k150_23 := (q23 150 0 (by omega)).trans k150_22
  have k151_23 := (q23 151 0 (by omega)).trans k151_22
  have k152_23 := (q23 152 0 (by omega)).trans k152_22
  have k153_23 := (q23 153 0 (by omega)).trans k153_22
  have k154_23 := (q23 154 0 (by omega)).trans k154_22
  have k120_23 := (q23 120 0 (by omega)).trans k120_22
  have k121_23 := (q23 121 0 (by omega)).trans k121_22
  have k122_23 := (q23 122 0 (by omega)).trans o22
  obtain ⟨u24, Q24, z24, T24, o24, q24⟩ := T23.sf' k10_23 (j := 7) (by simp [kfs]) (.ref (av17 2 0))
  rw [show av22 10 0 = x from (q22 10 0 (by omega)).1.trans ((q20 10 0 (by omega)).1.trans ((q18 10 0 (by omega)).1.trans ((q17 10 0 (by omega)).1.trans ((q14 10 0 (by omega)).1.trans ((q12 10 0 (by omega)).1.trans ((q10 10 0 (by omega)).1.trans ((q8 10 0 (by omega)).1.trans ((q6 10 0 (by omega)).1.trans ((q5 10 0 (by omega)).1.trans ((q2 10 0 (by omega)).1.trans ((q1 10 0 (by omega)).1.trans (x14.symm))))))))))))] at z24
  have k4_24 := (q24 4 0 (by omega)).trans k4_23
  have k40_24 := (q24 40 0 (by omega)).trans k40_23
  have k5_24 := (q24 5 0 (by omega)).trans k5_23
  have k150_24 := (q24 150 0 (by omega)).trans k150_23
  have k151_24 := (q24 151 0 (by omega)).trans k151_23
  have k152_24 := (q24 152 0 (by omega)).trans k152_23
  have k153_24 := (q24 153 0 (by omega)).trans k153_23
  have k154_24 := (q24 154 0 (by omega)).trans k154_23
  have k2_24 := (q24 2 0 (by omega)).trans o23
  have k120_24 := (q24 120 0 (by omega)).trans k120_23
  have k121_24 := (q24 121 0 (by omega)).trans k121_23
  have k122_24 := (q24 122 0 (by omega)).trans k122_23
  have y4 : av22 4 0 = av1 4 0 := (q22 4 0 (by omega)).1.trans ((q20 4 0 (by omega)).1.trans ((q18 4 0 (by omega)).1.trans ((q17 4 0 (by omega)).1.trans ((q14 4 0 (by omega)).1.trans ((q12 4 0 (by omega)).1.trans ((q10 4 0 (by omega)).1.trans ((q8 4 0 (by omega)).1.trans ((q6 4 0 (by omega)).1.trans ((q5 4 0 (by omega)).1.trans ((q2 4 0 (by omega)).1))))))))))
  have y40 : av22 40 0 = av2 40 0 := (q22 40 0 (by omega)).1.trans ((q20 40 0 (by omega)).1.trans ((q18 40 0 (by omega)).1.trans ((q17 40 0 (by omega)).1.trans ((q14 40 0 (by omega)).1.trans ((q12 40 0 (by omega)).1.trans ((q10 40 0 (by omega)).1.trans ((q8 40 0 (by omega)).1.trans ((q6 40 0 (by omega)).1.trans ((q5 40 0 (by omega)).1)))))))))
  have y5 : av22 5 0 = av5 5 0 := (q22 5 0 (by omega)).1.trans ((q20 5 0 (by omega)).1.trans ((q18 5 0 (by omega)).1.trans ((q17 5 0 (by omega)).1.trans ((q14 5 0 (by omega)).1.trans ((q12 5 0 (by omega)).1.trans ((q10 5 0 (by omega)).1.trans ((q8 5 0 (by omega)).1.trans ((q6 5 0 (by omega)).1))))))))
  have y150 : av22 150 0 = av6 150 0 := (q22 150 0 (by omega)).1.trans ((q20 150 0 (by omega)).1.trans ((q18 150 0 (by omega)).1.trans ((q17 150 0 (by omega)).1.trans ((q14 150 0 (by omega)).1.trans ((q12 150 0 (by omega)).1.trans ((q10 150 0 (by omega)).1.trans ((q8 150 0 (by omega)).1)))))))
  have y151 : av22 151 0 = av8 151 0 := (q22 151 0 (by omega)).1.trans ((q20 151 0 (by omega)).1.trans ((q18 151 0 (by omega)).1.trans ((q17 151 0 (by omega)).1.trans ((q14 151 0 (by omega)).1.trans ((q12 151 0 (by omega)).1.trans ((q10 151 0 (by omega)).1))))))
  have y152 : av22 152 0 = av10 152 0 := (q22 152 0 (by omega)).1.trans ((q20 152 0 (by omega)).1.trans ((q18 152 0 (by omega)).1.trans ((q17 152 0 (by omega)).1.trans ((q14 152 0 (by omega)).1.trans ((q12 152 0 (by omega)).1)))))
  have y153 : av22 153 0 = av12 153 0 := (q22 153 0 (by omega)).1.trans ((q20 153 0 (by omega)).1.trans ((q18 153 0 (by omega)).1.trans ((q17 153 0 (by omega)).1.trans ((q14 153 0 (by omega)).1))))
  have y154 : av22 154 0 = av14 154 0 := (q22 154 0 (by omega)).1.trans ((q20 154 0 (by omega)).1.trans ((q18 154 0 (by omega)).1.trans ((q17 154 0 (by omega)).1)))
  have y2 : av22 2 0 = av17 2 0 := (q22 2 0 (by omega)).1.trans ((q20 2 0 (by omega)).1.trans ((q18 2 0 (by omega)).1))
  have y120 : av22 120 0 = av18 120 0 := (q22 120 0 (by omega)).1.trans ((q20 120 0 (by omega)).1)
  have y121 : av22 121 0 = av20 121 0 := (q22 121 0 (by omega)).1
  have y122 : av22 122 0 = av22 122 0 := rfl
  have y10 : av22 10 0 = x := (q22 10 0 (by omega)).1.trans ((q20 10 0 (by omega)).1.trans ((q18 10 0 (by omega)).1.trans ((q17 10 0 (by omega)).1.trans ((q14 10 0 (by omega)).1.trans ((q12 10 0 (by omega)).1.trans ((q10 10 0 (by omega)).1.trans ((q8 10 0 (by omega)).1.trans ((q6 10 0 (by omega)).1.trans ((q5 10 0 (by omega)).1.trans ((q2 10 0 (by omega)).1.trans ((q1 10 0 (by omega)).1.trans (x14.symm))))))))))))
  have yl : ∀ i, av22 0 i = ad14 0 i := fun i => (q22 0 i (by omega)).1.trans ((q20 0 i (by omega)).1.trans ((q18 0 i (by omega)).1.trans ((q17 0 i (by omega)).1.trans ((q14 0 i (by omega)).1.trans ((q12 0 i (by omega)).1.trans ((q10 0 i (by omega)).1.trans ((q8 0 i (by omega)).1.trans ((q6 0 i (by omega)).1.trans ((q5 0 i (by omega)).1.trans ((q2 0 i (by omega)).1.trans ((q1 0 i (by omega)).1)))))))))))
  refine ⟨u24, av22, Q24, ?_, T24, y10.symm, ?_, fun i hi => (q24 0 i (by omega)).trans ((q23 0 i (by omega)).trans ((q22 0 i (by omega)).2.trans ((q21 0 i (by omega)).trans ((q20 0 i (by omega)).2.trans ((q19 0 i (by omega)).trans ((q18 0 i (by omega)).2.trans ((q17 0 i (by omega)).2.trans ((q16 0 i (by omega)).trans ((q15 0 i (by omega)).trans ((q14 0 i (by omega)).2.trans ((q13 0 i (by omega)).trans ((q12 0 i (by omega)).2.trans ((q11 0 i (by omega)).trans ((q10 0 i (by omega)).2.trans ((q9 0 i (by omega)).trans ((q8 0 i (by omega)).2.trans ((q7 0 i (by omega)).trans ((q6 0 i (by omega)).2.trans ((q5 0 i (by omega)).2.trans ((q4 0 i (by omega)).trans ((q3 0 i (by omega)).trans ((q2 0 i (by omega)).2.trans ((q1 0 i (by omega)).2.trans (l14 i hi)))))))))))))))))))))))), ⟨?_, k40_24⟩, ⟨?_, k150_24, k151_24, k152_24, k153_24, k154_24⟩, ⟨?_, k120_24, k121_24, k122_24⟩⟩
  · unfold F_X10_init F_X4_init F_X5_init F_X1_init
    simp only [Option.bind_some, rf_some, d0, f0, e0, d1, f1, e1, d2, f2, e2, d3, f3, e3, d4, f4, e4, z1, z2, z3, z4, z5, z6, z7, z8, z9, z10, z11, z12, z13, z14, z15, z16, z17, z18, z19, z20, z21, z22, z23, z24]
  · rw [o24]
    simp [kfs, rfK, yl, y4, y5, y2]
  · rw [k4_24, y40]
    rfl
  · rw [k5_24, y150, y151, y152, y153, y154]
    rfl
  · rw [k2_24, y120, y121, y122]
    rfl
theorem Cc.xx (C : Cc G ad P v a el cn) (I : Iv v a) (q : ∀ k i, k ≠ 9 → k ≠ 19 → k ≠ 20 → k ≠ 23 → ad1 k i = ad k i ∧ P1 k i = P k i) : Cc G ad1 P1 v a el cn := by
  have Q : ∀ k i, (k ≠ 9 ∧ k ≠ 19 ∧ k ≠ 20 ∧ k ≠ 23) → ad1 k i = ad k i ∧ P1 k i = P k i := fun k i h => q k i h.1 h.2.1 h.2.2.1 h.2.2.2
  obtain ⟨z0, z2, z3, z4, z5, z6, z7, z8, z9⟩ := C.n.x (ad1 := ad1) (P1 := P1) I (fun k i u => (Q k i (by unfold Us at u; omega)).2) (fun k i u => (Q k i (by unfold Us at u; omega)).1) (fun i _ => (Q 0 i (by decide)).1)
  obtain ⟨l0, l1, l2, l3, l4, l5⟩ := C.2.1
  have Z : ∀ {j kd : Nat} {n : Int} {e : Int → Int}, (kd ≠ 9 ∧ kd ≠ 19 ∧ kd ≠ 20 ∧ kd ≠ 23) → Ls G ad P j kd n e → Ls G ad1 P1 j kd n e := fun {j kd n e} hk L => L.x (Q 0 j (by decide)).2 (Q 50 j (by decide)).2 (Q 50 j (by decide)).1 (fun y _ _ => (Q kd _ hk).1)
  exact ⟨z0, ⟨Z (by decide) l0, Z (by decide) l1, Z (by decide) l2, Z (by decide) l3, Z (by decide) l4, fun w w0 w1 => Z (by decide) (l5 w w0 w1)⟩, z2, z3, z4, z5, z6, z7, z8, z9, C.2.2.2.2.2.2.2.2.2.2⟩
theorem iv_0 : Iv (fun _ => 0) (fun _ _ => 0) := by
  refine ⟨by decide, by decide, by decide, by decide, by decide, by decide, by decide, by decide, fun s s0 s1 => ?_, fun s t _ _ _ _ => ⟨Int.le_refl 0, Int.le_refl 0, show (0 : Int) ≤ 1000 by decide, fun z => Int.le_refl 0, fun _ => rfl⟩, fun s n _ _ _ _ => ⟨Or.inl rfl, fun _ => rfl⟩, fun p h0 h1 => ?_, fun p _ _ => ⟨Int.le_refl 0, show (0 : Int) ≤ 10 by decide, fun _ => rfl⟩, fun p k _ _ k0 k1 => ⟨Int.le_refl 0, Int.le_refl 0, show (0 : Int) ≤ 600 by decide⟩, fun i i0 i1 => ?_, fun i i0 i1 => ?_, fun c c0 c1 => ?_, fun c _ _ => ⟨rfl, rfl⟩⟩
  all_goals first | omega | (exact absurd (show _ < (0 : Int) by assumption) (by omega))
theorem rl_0 : Rl zS (fun _ => 0) (fun _ _ => 0) := ⟨fun _ _ _ => rfl, fun _ _ _ => rfl, rfl, rfl⟩
theorem cc_0 (p10 : P 10 0 = some (.inr (10, kfs ad 8))) (l : Kl G P 5) (t : Kt G ad P) (p : Kp G ad P) (q : Kq G ad P) : Cc G ad P (fun _ => 0) (fun _ _ => 0) (fun _ _ => 0) (fun _ => 0) := by
  refine ⟨p10, ⟨⟨0, Or.inl ⟨rfl, l 0 (by decide)⟩⟩, ⟨0, Or.inl ⟨rfl, l 1 (by decide)⟩⟩, ⟨0, Or.inl ⟨rfl, l 2 (by decide)⟩⟩, ⟨0, Or.inl ⟨rfl, l 3 (by decide)⟩⟩, ⟨0, Or.inl ⟨rfl, l 4 (by decide)⟩⟩, fun w w0 w1 => ?_⟩, fun w w0 w1 => ?_, fun w w0 w1 => ?_, fun w w0 w1 => ?_, t, fun w w0 w1 => ?_, fun w w0 w1 => ?_, ⟨0, 0, 0, 0, _, _, _, _, _, p.1, p.2.1, p.2.2.1, p.2.2.2.1, p.2.2.2.2.1, p.2.2.2.2.2, fun i hi => ?_⟩, ⟨0, 0, _, _, _, q.1, q.2.1, q.2.2.1, q.2.2.2⟩, fun w w0 w1 => ?_⟩
  all_goals first | (exact absurd (show w < (0 : Int) from w1) (by omega)) | (exact absurd (show (i : Int) < 0 from hi) (by omega))
end INI
theorem pure_ok : xPure := by
  intro G h0 hG hG1 hh
  have R0 : Rep G h0 (fun _ _ => 0) (fun _ _ => none) := ⟨Nat.le_of_eq hG, fun k i e he => by (cases he), fun k i k' i' h1 h2 => absurd rfl h1⟩
  obtain ⟨h1, ad1, P1, e1, R1, o1, -⟩ := R0.nO 10 0 10 [.null, .null, .null, .null, .null, .null, .null, .null, .int 0, .int 0, .int 0]
  obtain ⟨h2, ad2, P2, e2, R2, x2, p10, kl, kt, kp, kq⟩ := x10_init R1 rfl o1
  have C2 := cc_0 p10 kl kt kp kq
  obtain ⟨h3, ad3, P3, e3, R3, o3, q3⟩ := R2.nO 19 0 11 [.int 0, .int 0, .int 0, .null, .null, .null, .null, .null, .null, .int 0, .int 0, .int 0, .long 0, .long 0, .long 0, .int 0, .null, .null, .null, .null, .null, .null, .null, .int 0, .int 0, .null, .int 0, .null, .null, .null, .null, .null, .null, .int 0, .null, .null, .null, .null, .null, .int 0, .null, .null]
  have A3 : Ai G ad3 P3 (ad3 19 0) ad3 0 h3 := ⟨rfl, P3, R3, o3, fun j hj => absurd hj (Nat.not_lt_zero _), fun j hj => absurd hj (Nat.not_lt_zero _), fun j hj => absurd hj (Nat.not_lt_zero _), fun _ _ _ _ => ⟨rfl, rfl⟩⟩
  obtain ⟨h4, ad4, e4, A4⟩ := x11_init A3
  obtain ⟨P4, R4, m4, M4, q4⟩ := A4.mc
  have R5 := R4.new 23 0 (.inl (G 4, 1, .inr (.inl (fun _ => 0))))
  have fr : ∀ k i, k ≠ 9 → k ≠ 19 → k ≠ 20 → k ≠ 23 → up ad4 23 0 h4.1 k i = ad2 k i ∧ up P4 23 0 (some (.inl (G 4, 1, .inr (.inl (fun _ => 0))))) k i = P2 k i := fun k i _ k1 k2 k3 => ⟨(up_kind _ k3).trans ((q4 k i k1 k2).2.trans (q3 k i (by omega)).1), (up_kind _ k3).trans ((q4 k i k1 k2).1.trans (q3 k i (by omega)).2)⟩
  have C5 := C2.xx iv_0 fr
  have M5 : Mc G (up ad4 23 0 h4.1) (up P4 23 0 (some (.inl (G 4, 1, .inr (.inl (fun _ => 0)))))) zS := by
    have F : ∀ k, k ≠ 23 → ∀ i, up ad4 23 0 h4.1 k i = ad4 k i := fun k hk i => up_kind _ hk
    refine ⟨?_, fun k hk => ?_, fun k hk => ?_, fun k hk => ?_⟩
    · rw [up_kind _ (by decide)]
      have e : mfs (up ad4 23 0 h4.1) zS = mfs ad4 zS := by
        unfold mfs
        simp only [F 20 (by decide)]
      rw [e]; exact M4.1
    · rw [up_kind _ (by decide)]; exact M4.2.1 k hk
    · rw [up_kind _ (by decide)]; exact M4.2.2.1 k hk
    · rw [up_kind _ (by decide)]; exact M4.2.2.2 k hk
  have x5 : up ad4 23 0 h4.1 10 0 = ad1 10 0 := (fr 10 0 (by decide) (by decide) (by decide) (by decide)).1.trans x2.symm
  have m5 : up ad4 23 0 h4.1 19 0 = ad3 19 0 := (up_kind _ (by decide)).trans m4.symm
  refine ⟨ad1 10 0, ad3 19 0, h4.1, h1, h2, h3, h4, _, fun _ => Jx G (ad1 10 0) (ad3 19 0) h4.1, e1, e2, e3, e4, rfl, ?_, fun _ _ h => h, ?_⟩
  · refine ⟨?_, js_service _ _ _ _ hG1, js_source _ _ _ _ hG1, js_count _ _ _ _, js_ticks _ _ _ _, js_promise _ _ _ _ hG1, js_grace _ _ _ _, js_sum _ _ _ _ hG1, js_span _ _ _ _, js_broken _ _ _ _, js_part _ _ _ _, js_made _ _ _ _, js_alarm _ _ _ _ hG1, js_rings _ _ _ _ hG1, js_soonest _ _ _ _, js_best _ _ _ _ hG1, js_change _ _ _ _ hG1, js_let _ _ _ _, js_settle _ _ _ _, js_plan _ _ _ _, js_planned _ _ _ _, js_look _ _ _ _, js_desk _ _ _ _⟩
    rintro i h ⟨ad, P, s, v, a, el, cn, ⟨rx, rm, ro⟩, R, M, O, L, I, C⟩
    rw [rx]
    exact R.obj C.k
  · exact ⟨_, _, zS, _, _, _, _, ⟨x5.symm, m5.symm, (up_same _ _ _ _).symm⟩, R5, M5, ⟨_, up_same _ _ _ _⟩, rl_0, iv_0, C5⟩
