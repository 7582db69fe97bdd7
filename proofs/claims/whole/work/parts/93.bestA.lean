/-! best: the reference's rows, levels -/
section BSR
variable {s : mS} {v : Nat → Int} {a : Nat → Int → Int}
theorem mldJ_in (s : mS) (k n : Nat) (hn : mlen k = n) {z : Int} (h0 : 0 ≤ z) (h1 : z < n) : mldJ s k (iI z) = some (s.2.2.2 k z.toNat) := by
  have hl := mlen_lt k
  have e : (iI z).toNatClampNeg = z.toNat := iI_clamp h0 (by omega)
  unfold mldJ
  rw [e, hn, if_neg]
  rintro (h | h)
  · rw [l_0, iI_lt (by omega) (by omega) (by omega) (by omega)] at h; omega
  · omega
theorem mstJ_in (s : mS) (k n : Nat) (hn : mlen k = n) {z : Int} (x : Int64) (h0 : 0 ≤ z) (h1 : z < n) : mstJ s k (iI z) x = some (mB s k z.toNat x) := by
  have hl := mlen_lt k
  have e : (iI z).toNatClampNeg = z.toNat := iI_clamp h0 (by omega)
  unfold mstJ
  rw [e, hn, if_neg]
  rintro (h | h)
  · rw [l_0, iI_lt (by omega) (by omega) (by omega) (by omega)] at h; omega
  · omega
theorem Rl.mB (R : Rl s v a) (k n : Nat) (hn : n ≠ 0) (x : Int64) : Rl (mB s k n x) v a := by
  refine ⟨R.1, R.2.1, ?_, ?_⟩
  · show (if 31 = k then vp_updL (s.2.2.2 31) n x else s.2.2.2 31) 0 = 0
    split
    · exact (if_neg (Ne.symm hn)).trans R.2.2.1
    · exact R.2.2.1
  · show (if 32 = k then vp_updL (s.2.2.2 32) n x else s.2.2.2 32) 0 = 0
    split
    · exact (if_neg (Ne.symm hn)).trans R.2.2.2
    · exact R.2.2.2
def Wr (v : Nat → Int) (a : Nat → Int → Int) (s : mS) (w j : Int) : Prop := ∀ i, 0 ≤ i → i ≤ j → s.2.2.2 31 i.toNat = jI (pr (qa v a w) i) ∧ s.2.2.2 32 i.toNat = jI (pr (qb v a w) i)
theorem r_sumsTo (R : Rl s v a) (I : Iv v a) {w : Int} (w0 : 0 ≤ w) (w1 : w < 8) : ∃ s', FM_sumsTo s (iI w) = some s' ∧ Rl s' v a ∧ Wr v a s' w 601 := by
  have := up_loop (fun n (q : mS × Int32) => FM_sumsTo_2 (iI w) n q.1 q.2) (fun j q => 0 ≤ j ∧ ∃ s', q = (s', iI j) ∧ Rl s' v a ∧ Wr v a s' w j) (fun r => ∃ s', r = s' ∧ Rl s' v a ∧ Wr v a s' w 601) 601 ?_ ?_ xN 0 (s, 0) ⟨by omega, s, rfl, R, fun i i0 i1 => by
      have : i = 0 := by omega
      subst this
      exact ⟨R.2.2.1, R.2.2.2⟩⟩ (by omega) (by unfold xN; omega)
  · obtain ⟨r, e, s', rfl, h1, h2⟩ := this
    exact ⟨r, e, h1, h2⟩
  · rintro n j q ⟨hj, s', rfl, R', W⟩ hlt
    right
    have e := r_sums R' I (w := w) (lo := j) (hi := j) w0 w1 (by omega) (by omega) (by omega) (by omega)
    have hm : max j 0 = j := by omega
    rw [hm, pr_1 _ hj, pr_1 _ hj, pr_1 _ hj] at e
    have R2 := R'.sL (pr (qa v a w) j + qa v a w j - pr (qa v a w) j) (pr (qb v a w) j + qb v a w j - pr (qb v a w) j) (pr (qo v a w) j + qo v a w j - pr (qo v a w) j)
    have R3 := R2.mB 31 (j + 1).toNat (by omega) (jI (pr (qa v a w) j) + jI (pr (qa v a w) j + qa v a w j - pr (qa v a w) j))
    have R4 := R3.mB 32 (j + 1).toNat (by omega) (jI (pr (qb v a w) j) + jI (pr (qb v a w) j + qb v a w j - pr (qb v a w) j))
    have c : ¬ 601 ≤ iI j := by rw [l_601, iI_le (by omega) (by omega) (by omega) (by omega)]; omega
    have f1 : (sL s' (pr (qa v a w) j + qa v a w j - pr (qa v a w) j) (pr (qb v a w) j + qb v a w j - pr (qb v a w) j) (pr (qo v a w) j + qo v a w j - pr (qo v a w) j)).2.2.2 31 j.toNat = jI (pr (qa v a w) j) := (W j hj (Int.le_refl _)).1
    have f2 : ∀ x, (mB (sL s' (pr (qa v a w) j + qa v a w j - pr (qa v a w) j) (pr (qb v a w) j + qb v a w j - pr (qb v a w) j) (pr (qo v a w) j + qo v a w j - pr (qo v a w) j)) 31 (j + 1).toNat x).2.2.2 32 j.toNat = jI (pr (qb v a w) j) := fun x => (W j hj (Int.le_refl _)).2
    have f3 : ∀ x, (mB (sL s' (pr (qa v a w) j + qa v a w j - pr (qa v a w) j) (pr (qb v a w) j + qb v a w j - pr (qb v a w) j) (pr (qo v a w) j + qo v a w j - pr (qo v a w) j)) 31 (j + 1).toNat x).2.1 13 = jI (pr (qb v a w) j + qb v a w j - pr (qb v a w) j) := fun x => rfl
    refine ⟨_, ⟨by omega, _, rfl, R4, ?_⟩, ?_⟩
    · intro i i0 i1
      by_cases q : i = j + 1
      · subst q
        rw [pr_1 _ hj, pr_1 _ hj]
        refine ⟨(if_pos rfl).trans ?_, (if_pos rfl).trans ?_⟩
        · rw [jI_add]; congr 1; omega
        · rw [jI_add]; congr 1; omega
      · have := W i i0 (by omega)
        have ne : ¬ i.toNat = (j + 1).toNat := by omega
        exact ⟨(if_neg ne).trans this.1, (if_neg ne).trans this.2⟩
    · dsimp only
      conv => lhs; unfold FM_sumsTo_2
      rw [if_neg c, e, Option.bind_some, mldJ_in _ 31 602 rfl hj (by omega), Option.bind_some, f1, sL_12, l_1, iI_add, mstJ_in _ 31 602 rfl _ (by omega) (by omega), Option.bind_some, mldJ_in _ 32 602 rfl hj (by omega), Option.bind_some, f2, f3, mstJ_in _ 32 602 rfl _ (by omega) (by omega), Option.bind_some]
      rfl
  · rintro n q ⟨hj, s', rfl, R', W⟩
    exact ⟨s', by dsimp only; unfold FM_sumsTo_2; rw [if_pos (by decide)], s', rfl, R', W⟩
theorem r_isWorseTo (R : Rl s v a) (I : Iv v a) {p L r t : Int} (W : Wr v a s (a 16 p) 601) (p0 : 0 ≤ p) (p1 : p < v 15) (L0 : 1 ≤ L) (L1 : L ≤ 200) (r0 : 0 ≤ r) (r1 : r ≤ 1000) (h0 : 0 ≤ t) (h1 : t ≤ 600) : FM_isWorseTo s (iI p) (iI L) (iI r) (iI t) = some (iI (ovs v a p r L t)) := by
  have key : ∀ lo, lo = max (t - L + 1) 0 → ((mldJ s 31 (iI (t + 1))).bind fun v3 => (mldJ s 31 (iI lo)).bind fun v4 => (mldJ s 32 (iI (t + 1))).bind fun v5 => (mldJ s 32 (iI lo)).bind fun v6 => (FM_isWorse s (iI p) (iI r) (v3 - v4) (v5 - v6)).bind fun v7 => xg (v7 = 0 ∨ v7 = 1) <| some v7) = some (iI (ovs v a p r L t)) := by
    intro lo hlo
    have hb := pq_b I (a 16 p) (x := lo) (y := t + 1) (by omega) (by omega) (by omega)
    have w1 := W (t + 1) (by omega) (by omega)
    have w2 := W lo (by omega) (by omega)
    have e4 := r_isWorse R I (r := r) (A := pr (qa v a (a 16 p)) (t + 1) - pr (qa v a (a 16 p)) lo) (B := pr (qb v a (a 16 p)) (t + 1) - pr (qb v a (a 16 p)) lo) p0 p1 r0 r1 (by omega) (by omega) (by omega) (by omega)
    rw [mldJ_in _ 31 602 rfl (by omega) (by omega), Option.bind_some, mldJ_in _ 31 602 rfl (by omega) (by omega), Option.bind_some, mldJ_in _ 32 602 rfl (by omega) (by omega), Option.bind_some, mldJ_in _ 32 602 rfl (by omega) (by omega), Option.bind_some, w1.1, w1.2, w2.1, w2.2, jI_sub, jI_sub, e4, Option.bind_some]
    unfold xg ovs
    rw [← hlo]
    refine if_pos ?_
    rcases ovr_01 a p r (pr (qa v a (a 16 p)) (t + 1) - pr (qa v a (a 16 p)) lo) (pr (qb v a (a 16 p)) (t + 1) - pr (qb v a (a 16 p)) lo) with q | q
    · rw [q]; exact Or.inl rfl
    · rw [q]; exact Or.inr rfl
  unfold FM_isWorseTo
  rw [l_0, l_1, iI_sub, iI_add, iI_add]
  by_cases c : 0 ≤ t - L + 1
  · rw [if_pos (by rw [iI_le (by omega) (by omega) (by omega) (by omega)]; exact c)]
    exact key _ (by omega)
  · rw [if_neg (by rw [iI_le (by omega) (by omega) (by omega) (by omega)]; exact c)]
    exact key 0 (by omega)
/-- rings of the alarm over a service -/
def rn (v : Nat → Int) (a : Nat → Int → Int) (p r A B t : Int) : Int := if ovs v a p r A t = 1 ∧ ovs v a p r B t = 1 then 1 else 0
theorem r_ringsTill (R : Rl s v a) (I : Iv v a) {p A B r : Int} (W : Wr v a s (a 16 p) 601) (p0 : 0 ≤ p) (p1 : p < v 15) (A0 : 1 ≤ A) (A1 : A ≤ 200) (B0 : 1 ≤ B) (B1 : B ≤ 200) (r0 : 0 ≤ r) (r1 : r ≤ 1000) : FM_ringsTill s (iI p) (iI A) (iI B) (iI r) = some (iI (pr (rn v a p r A B) (v 9 + 1))) := by
  have i9 := I.2.2.1
  unfold FM_ringsTill
  refine up_eq (fun n (q : Int32 × Int32) => FM_ringsTill_6 s (iI p) (iI A) (iI B) (iI r) n q.1 q.2) (fun j q => 0 ≤ j ∧ q = (iI (pr (rn v a p r A B) j), iI j)) _ (v 9 + 1) ?_ ?_ xN 0 (0, 0) ⟨by omega, rfl⟩ (by omega) (by unfold xN; omega)
  · rintro n j q ⟨hj, rfl⟩ hlt
    right
    refine ⟨_, ⟨by omega, rfl⟩, ?_⟩
    have eB := r_isWorseTo R I (r := r) (t := j) W p0 p1 B0 B1 r0 r1 hj (by omega)
    have eA := r_isWorseTo R I (r := r) (t := j) W p0 p1 A0 A1 r0 r1 hj (by omega)
    have c : ¬ iI (v 9) < iI j := by rw [iI_lt (by omega) (by omega) (by omega) (by omega)]; omega
    dsimp only
    rw [pr_1 _ hj]
    conv => lhs; unfold FM_ringsTill_6
    rw [R.fd 9 (by decide) (by decide), if_neg c, eB, Option.bind_some]
    rcases ovs_01 v a p r B j with q | q
    · have z : rn v a p r A B j = 0 := if_neg (by rw [q]; exact fun z => absurd z.2 (by decide))
      rw [q, if_pos (by decide), z, l_0, l_1, iI_add, iI_add]
      rfl
    · rw [q, if_neg (by decide), eA, Option.bind_some]
      rcases ovs_01 v a p r A j with q2 | q2
      · have z : rn v a p r A B j = 0 := if_neg (by rw [q2]; exact fun z => absurd z.1 (by decide))
        rw [q2, if_pos (by decide), z, l_0, l_1, iI_add, iI_add]
        rfl
      · have z : rn v a p r A B j = 1 := if_pos ⟨q2, q⟩
        rw [q2, if_neg (by decide), z, l_1, iI_add, iI_add]
        rfl
  · rintro n q ⟨hj, rfl⟩
    dsimp only
    unfold FM_ringsTill_6
    rw [R.fd 9 (by decide) (by decide), if_pos (by rw [iI_lt (by omega) (by omega) (by omega) (by omega)]; omega)]
end BSR
/-! levels -/
def lv (y B : Int) : Int := if 0 < B then (if 0 < y then min ((1000 * B - 1) / y) 20 else 20) else 0
theorem lv_b {y B : Int} : 0 ≤ lv y B ∧ lv y B ≤ 20 := by
  unfold lv
  by_cases c : 0 < B
  · rw [if_pos c]
    by_cases d : 0 < y
    · rw [if_pos d]
      have : 0 ≤ (1000 * B - 1) / y := Int.ediv_nonneg (by omega) (by omega)
      omega
    · rw [if_neg d]; omega
  · rw [if_neg c]; omega
theorem lv_iff {l y B : Int} (l0 : 1 ≤ l) (l1 : l ≤ 20) (y0 : 0 ≤ y) (B0 : 0 ≤ B) : l ≤ lv y B ↔ l * y < 1000 * B := by
  unfold lv
  by_cases c : 0 < B
  · rw [if_pos c]
    by_cases d : 0 < y
    · rw [if_pos d]
      have := Int.le_ediv_iff_mul_le (a := l) (b := 1000 * B - 1) d
      omega
    · have : y = 0 := by omega
      subst this
      rw [if_neg d, Int.mul_zero]
      omega
  · rw [if_neg c]
    have := Int.mul_nonneg (show 0 ≤ l by omega) y0
    omega
theorem lv_ovr {a : Nat → Int → Int} {p l A B : Int} (l0 : 1 ≤ l) (l1 : l ≤ 20) (h0 : a 18 p ≤ 1000) (A0 : 0 ≤ A) (B0 : 0 ≤ B) : ovr a p (10 * l) A B = 1 ↔ l ≤ lv ((1000 - a 18 p) * A) B := by
  rw [lv_iff l0 l1 (Int.mul_nonneg (by omega) A0) B0]
  unfold ovr
  have e : 10 * l * (1000 - a 18 p) * A = 10 * (l * ((1000 - a 18 p) * A)) := by rw [Int.mul_assoc, Int.mul_assoc]
  rw [e]
  generalize l * ((1000 - a 18 p) * A) = X
  split <;> omega
/-! windows -/
theorem win_q (q : Int → Int) {t : Int} (t0 : 0 ≤ t) {x : Int} (x0 : 0 ≤ x) : pr (fun j => if 0 ≤ t - j then q (t - j) else 0) x = pr q (t + 1) - pr q (max (t - x + 1) 0) := by
  refine pr_ind (Q := fun x => pr (fun j => if 0 ≤ t - j then q (t - j) else 0) x = pr q (t + 1) - pr q (max (t - x + 1) 0)) ?_ (fun x x0 ih => ?_) x x0
  · have : max (t - 0 + 1) 0 = t + 1 := by omega
    rw [pr_0, this, Int.sub_self]
  · rw [pr_1 _ x0, ih]
    by_cases c : 0 ≤ t - x
    · have e1 : max (t - x + 1) 0 = t - x + 1 := by omega
      have e2 : max (t - (x + 1) + 1) 0 = t - x := by omega
      rw [if_pos c, e1, e2, pr_1 _ c]
      omega
    · have e1 : max (t - x + 1) 0 = 0 := by omega
      have e2 : max (t - (x + 1) + 1) 0 = 0 := by omega
      rw [if_neg c, e1, e2, Int.add_zero]
theorem win_A {t : Int} (t0 : 0 ≤ t) {x : Int} (x0 : 0 ≤ x) : pr (fun j => if 0 ≤ t - j then 10 else 0) x = stA x t := by
  have := win_q (fun _ => 10) t0 x0
  rw [this, pr_const 10 (by omega), pr_const 10 (by omega)]
  unfold stA
  omega
theorem win_B {m e t : Int} (m0 : 0 ≤ m) (t0 : 0 ≤ t) {x : Int} (x0 : 0 ≤ x) : pr (fun j => if m ≤ t - j then e else 0) x = stB x m e t := by
  refine pr_ind (Q := fun x => pr (fun j => if m ≤ t - j then e else 0) x = stB x m e t) ?_ (fun x x0 ih => ?_) x x0
  · unfold stB
    have : max (t - max (t - 0 + 1) m + 1) 0 = 0 := by omega
    rw [this, Int.mul_zero, pr_0]
  · rw [pr_1 _ x0, ih]
    unfold stB
    by_cases c : m ≤ t - x
    · have : max (t - max (t - (x + 1) + 1) m + 1) 0 = max (t - max (t - x + 1) m + 1) 0 + 1 := by omega
      rw [if_pos c, this, Int.mul_add, Int.mul_one]
    · have : max (t - max (t - (x + 1) + 1) m + 1) 0 = max (t - max (t - x + 1) m + 1) 0 := by omega
      rw [if_neg c, this, Int.add_zero]
