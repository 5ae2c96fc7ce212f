/-! the true distances of both; loss of the reference: written by wip/whole/m31.py -/
def wy_ (d : Int32) : Int32 := if d < nI 1000000 then d else -1
theorem i_M : (nI 1000000).toInt = 1000000 := by decide
theorem wy_f {d : Int32} (h : d.toInt < 1000000) : wy_ d = d := by
  unfold wy_
  rw [if_pos (by rw [Int32.lt_iff_toInt_lt, i_M]; exact h)]
theorem wy_i {d : Int32} (h : ¬ d.toInt < 1000000) : wy_ d = -1 := by
  unfold wy_
  rw [if_neg (by rw [Int32.lt_iff_toInt_lt, i_M]; exact h)]
def vb_ (B : Int) (x : Int32) : Prop := 0 ≤ x.toInt ∧ x.toInt ≤ 1000000 ∧ (x.toInt < 1000000 → x.toInt ≤ B)
theorem st_v {x y z : Int32} {B : Int} (hx : vb_ B x) (hy : vb_ B y) (hz : vb_ (2 * B) z) (hB : 2 * B < 1000000) : vb_ (2 * B) (if x + y < z then x + y else z) ∧ (if 0 ≤ wy_ x ∧ 0 ≤ wy_ y ∧ (wy_ z < 0 ∨ wy_ x + wy_ y < wy_ z) then wy_ x + wy_ y else wy_ z) = wy_ (if x + y < z then x + y else z) := by
  obtain ⟨x0, x1, x2⟩ := hx
  obtain ⟨y0, y1, y2⟩ := hy
  obtain ⟨z0, z1, z2⟩ := hz
  have e : (x + y).toInt = x.toInt + y.toInt := by
    rw [Int32.toInt_add]
    exact Int.bmod_eq_of_le (by omega) (by omega)
  have m1 : ¬ (0 : Int32) ≤ -1 := by decide
  by_cases fx : x.toInt < 1000000
  · by_cases fy : y.toInt < 1000000
    · have fs : (x + y).toInt < 1000000 := by have := x2 fx; have := y2 fy; omega
      have px : (0 : Int32) ≤ x := by rw [Int32.le_iff_toInt_le, i_0]; exact x0
      have py : (0 : Int32) ≤ y := by rw [Int32.le_iff_toInt_le, i_0]; exact y0
      rw [wy_f fx, wy_f fy]
      by_cases fz : z.toInt < 1000000
      · rw [wy_f fz]
        have pz : ¬ z < 0 := by rw [Int32.lt_iff_toInt_lt, i_0]; omega
        by_cases c : x + y < z
        · rw [if_pos c, if_pos ⟨px, py, Or.inr c⟩, wy_f fs]
          exact ⟨⟨by omega, by omega, fun _ => by have := x2 fx; have := y2 fy; omega⟩, rfl⟩
        · rw [if_neg c, if_neg (fun q => q.2.2.elim pz c), wy_f fz]
          exact ⟨⟨z0, z1, z2⟩, rfl⟩
      · have c : x + y < z := by rw [Int32.lt_iff_toInt_lt]; omega
        rw [wy_i fz, if_pos c, if_pos ⟨px, py, Or.inl (by decide)⟩, wy_f fs]
        exact ⟨⟨by omega, by omega, fun _ => by have := x2 fx; have := y2 fy; omega⟩, rfl⟩
    · have c : ¬ x + y < z := by rw [Int32.lt_iff_toInt_lt]; omega
      rw [wy_i fy, if_neg c, if_neg (fun q => m1 q.2.1)]
      exact ⟨⟨z0, z1, z2⟩, rfl⟩
  · have c : ¬ x + y < z := by rw [Int32.lt_iff_toInt_lt]; omega
    rw [wy_i fx, if_neg c, if_neg (fun q => m1 q.1)]
    exact ⟨⟨z0, z1, z2⟩, rfl⟩
theorem it_rel {α β : Type} {R : Nat → α → β → Prop} {f : Nat → α → α} {g : Nat → β → β} {x : α} {y : β} (h0 : R 0 x y) : ∀ {n : Nat}, (∀ i u v, i < n → R i u v → R (i + 1) (f i u) (g i v)) → R n (it_ f n x) (it_ g n y)
  | 0, _ => h0
  | n + 1, h => h n _ _ (Nat.lt_succ_self n) (it_rel h0 (fun i u v hi => h i u v (by omega)))
/-- the class's distances and the reference's: the same, bounded -/
def Ok_ (n : Nat) (B : Int) (D W : Nat → Int32) : Prop := ∀ a b, a < n → b < n → vb_ B (D (a * 8 + b)) ∧ W (8 * a + b) = wy_ (D (a * 8 + b))
theorem in_at {s : Sg_} {n k : Nat} {D : Nat → Int32} (hn8 : n ≤ 8) (h1 : k / 8 < n) (h2 : k % 8 < n) : in_ s n D k = mi_ s (k / 8) (k % 8) := by
  have inner : ∀ (a : Nat) (D : Nat → Int32) (j : Nat), j ≤ 8 → it_ (fun b D => i1_ s a b D) j D k = if k / 8 = a ∧ k % 8 < j then mi_ s a (k % 8) else D k := by
    intro a D j
    induction j with
    | zero => intro _; rw [if_neg (by omega)]; rfl
    | succ j ih =>
      intro hj
      show upd (it_ (fun b D => i1_ s a b D) j D) (a * 8 + j) (mi_ s a j) k = _
      by_cases c : k = a * 8 + j
      · subst c
        rw [pk_us, if_pos (by omega), show (a * 8 + j) % 8 = j by omega]
      · rw [pk_un c, ih (by omega)]
        by_cases d : k / 8 = a ∧ k % 8 < j
        · rw [if_pos d, if_pos (by omega)]
        · rw [if_neg d, if_neg (by omega)]
  have outer : ∀ (i : Nat), i ≤ n → it_ (fun a D => it_ (fun b D => i1_ s a b D) n D) i D k = if k / 8 < i then mi_ s (k / 8) (k % 8) else D k := by
    intro i
    induction i with
    | zero => intro _; rw [if_neg (by omega)]; rfl
    | succ i ih =>
      intro hi
      show it_ (fun b D => i1_ s i b D) n (it_ (fun a D => it_ (fun b D => i1_ s a b D) n D) i D) k = _
      rw [inner i _ n hn8]
      by_cases c : k / 8 = i
      · rw [if_pos ⟨c, h2⟩, if_pos (by omega), c]
      · rw [if_neg (fun z => c z.1), ih (by omega)]
        by_cases d : k / 8 < i
        · rw [if_pos d, if_pos (by omega)]
        · rw [if_neg d, if_neg (by omega)]
  show it_ (fun a D => it_ (fun b D => i1_ s a b D) n D) n D k = _
  rw [outer n (Nat.le_refl n), if_pos h1]
theorem Ok_in {s : Sg_} {n : Nat} {D W : Nat → Int32} (iv : IV_ s) (hn8 : n ≤ 8) : Ok_ n 500 (in_ s n D) (fr_ (wi_ s) W 64) := by
  intro a b ha hb
  rw [in_at hn8 (by omega) (by omega), fr_in (by omega), show (a * 8 + b) / 8 = a by omega, show (a * 8 + b) % 8 = b by omega]
  unfold wi_ mi_
  rw [show (8 * a + b) / 8 = a by omega, show (8 * a + b) % 8 = b by omega, show 8 * a + b = a * 8 + b by omega]
  by_cases c : a = b
  · rw [if_pos c, if_pos c]; exact ⟨⟨by decide, by decide, fun _ => by decide⟩, by decide⟩
  · rw [if_neg c, if_neg c]
    by_cases d : s 5 (a * 8 + b) = nI 1
    · rw [if_pos d, if_pos d]
      have h4 := iv.l4 (a * 8 + b) (by omega)
      have i5 : (500 : Int32).toInt = 500 := by decide
      rw [Int32.le_iff_toInt_le, Int32.le_iff_toInt_le, i_0, i5] at h4
      exact ⟨⟨h4.1, by omega, fun _ => h4.2⟩, (wy_f (by omega)).symm⟩
    · rw [if_neg d, if_neg d]; exact ⟨⟨by decide, by decide, fun h => absurd h (by decide)⟩, by decide⟩
theorem Ok_sh {n m : Nat} {B : Int} {D W : Nat → Int32} (hn8 : n ≤ 8) (hm : m < n) (hB0 : 0 ≤ B) (hB : 2 * B < 1000000) (h : Ok_ n B D W) : Ok_ n (2 * B) (sh_ n m D) (rh_ n m W) := by
  have h0 : Ok_ n (2 * B) D W ∧ (∀ a, a < n → D (a * 8 + m) = D (a * 8 + m)) ∧ ∀ b, b < n → D (m * 8 + b) = D (m * 8 + b) := by
    refine ⟨fun a b ha hb => ?_, fun _ _ => rfl, fun _ _ => rfl⟩
    obtain ⟨⟨q0, q1, q2⟩, q3⟩ := h a b ha hb
    exact ⟨⟨q0, q1, fun z => by have := q2 z; omega⟩, q3⟩
  have key : Ok_ n (2 * B) (sh_ n m D) (rh_ n m W) ∧ (∀ a, a < n → sh_ n m D (a * 8 + m) = D (a * 8 + m)) ∧ ∀ b, b < n → sh_ n m D (m * 8 + b) = D (m * 8 + b) := by
    refine it_rel (R := fun _ E U => Ok_ n (2 * B) E U ∧ (∀ a, a < n → E (a * 8 + m) = D (a * 8 + m)) ∧ ∀ b, b < n → E (m * 8 + b) = D (m * 8 + b)) h0 (fun a E U ha hE => ?_)
    refine it_rel (R := fun _ E U => Ok_ n (2 * B) E U ∧ (∀ a, a < n → E (a * 8 + m) = D (a * 8 + m)) ∧ ∀ b, b < n → E (m * 8 + b) = D (m * 8 + b)) hE (fun b E U hb hE => ?_)
    obtain ⟨h1, h2, h3⟩ := hE
    have bx : vb_ B (E (a * 8 + m)) := by rw [h2 a ha]; exact (h a m ha hm).1
    have by' : vb_ B (E (m * 8 + b)) := by rw [h3 b hb]; exact (h m b hm hb).1
    have bm : vb_ B (E (m * 8 + m)) := by rw [h2 m hm]; exact (h m m hm hm).1
    have sv := st_v bx by' (h1 a b ha hb).1 hB
    have e1 : 8 * a + b = a * 8 + b := by omega
    have pos : ∀ {x y : Int32}, vb_ B x → vb_ B y → (x + y).toInt = x.toInt + y.toInt := by
      intro x y hx hy
      rw [Int32.toInt_add]
      exact Int.bmod_eq_of_le (by have := hx.1; have := hy.1; omega) (by have := hx.2.1; have := hy.2.1; omega)
    refine ⟨fun a' b' ha' hb' => ?_, fun a' ha' => ?_, fun b' hb' => ?_⟩
    · unfold s1_ r1_
      by_cases c : a' * 8 + b' = a * 8 + b
      · rw [show 8 * a' + b' = 8 * a + b by omega, c, pk_us, pk_us]
        refine ⟨sv.1, ?_⟩
        rw [(h1 a m ha hm).2, (h1 m b hm hb).2, (h1 a b ha hb).2]
        exact sv.2
      · rw [pk_un c, pk_un (by omega)]
        exact h1 a' b' ha' hb'
    · unfold s1_
      by_cases c : a' * 8 + m = a * 8 + b
      · rw [c, pk_us, if_neg, ← c, h2 a' ha']
        rw [Int32.lt_iff_toInt_lt, pos bx by', show b = m by omega]
        have := bm.1
        omega
      · rw [pk_un c]; exact h2 a' ha'
    · unfold s1_
      by_cases c : m * 8 + b' = a * 8 + b
      · rw [c, pk_us, if_neg, ← c, h3 b' hb']
        rw [Int32.lt_iff_toInt_lt, pos bx by', show a = m by omega]
        have := bm.1
        omega
      · rw [pk_un c]; exact h3 b' hb'
  exact key.1
theorem Ok_ms {s : Sg_} {n : Nat} {D W : Nat → Int32} (iv : IV_ s) (hn8 : n ≤ 8) : Ok_ n (500 * 2 ^ n) (ms_ s n D) (mr_ s n W) := by
  refine it_rel (R := fun i E U => Ok_ n (500 * 2 ^ i) E U) (by show Ok_ n (500 * 2 ^ 0) (in_ s n D) (fr_ (wi_ s) W 64); rw [Int.pow_zero, Int.mul_one]; exact Ok_in iv hn8) (fun i E U hi hE => ?_)
  have e : (500 : Int) * 2 ^ (i + 1) = 2 * (500 * 2 ^ i) := by rw [Int.pow_succ]; omega
  rw [e]
  have hb : (500 : Int) * 2 ^ i ≤ 500 * 128 := by
    obtain rfl | rfl | rfl | rfl | rfl | rfl | rfl | rfl : i = 0 ∨ i = 1 ∨ i = 2 ∨ i = 3 ∨ i = 4 ∨ i = 5 ∨ i = 6 ∨ i = 7 := by omega
    all_goals decide
  have hb0 : (0 : Int) ≤ 500 * 2 ^ i := Int.mul_nonneg (by decide) (Int.pow_nonneg (by decide))
  exact Ok_sh hn8 hi hb0 (by omega) hE
theorem ms_mr {s : Sg_} {n a b : Nat} {D W : Nat → Int32} (iv : IV_ s) (hn8 : n ≤ 8) (ha : a < n) (hb : b < n) : 0 ≤ (ms_ s n D (a * 8 + b)).toInt ∧ mr_ s n W (8 * a + b) = wy_ (ms_ s n D (a * 8 + b)) := ⟨(Ok_ms (W := W) iv hn8 a b ha hb).1.1, (Ok_ms (D := D) (W := W) iv hn8 a b ha hb).2⟩
theorem wy_0 {d : Int32} (h : 0 ≤ d.toInt) : (wy_ d < 0) = ¬ (d < nI 1000000) := by
  unfold wy_
  refine propext ⟨fun q z => ?_, fun q => ?_⟩
  · rw [if_pos z, Int32.lt_iff_toInt_lt, i_0] at q; omega
  · rw [if_neg q]; decide
theorem wy_p {d : Int32} (h : 0 ≤ d.toInt) : (0 ≤ wy_ d) = (d < nI 1000000) := by
  refine propext ⟨fun q => ?_, fun q => ?_⟩
  · exact Classical.byContradiction fun z => absurd (by rw [wy_0 h]; exact z : wy_ d < 0) (Int32.not_lt.mpr q)
  · exact Int32.not_lt.mp (fun z => by rw [wy_0 h] at z; exact z q)
/-- a true distance, told by both -/
theorem td_eq {s : Sg_} {n a b : Nat} {D W : Nat → Int32} (iv : IV_ s) (hn8 : n ≤ 8) (ha : a < n) (hb : b < n) : (if mr_ s n W (8 * a + b) < 0 then -4 else mr_ s n W (8 * a + b)) = if ms_ s n D (a * 8 + b) < nI 1000000 then ms_ s n D (a * 8 + b) else -4 := by
  obtain ⟨h0, e⟩ := ms_mr (D := D) (W := W) iv hn8 ha hb
  rw [e]
  by_cases c : ms_ s n D (a * 8 + b) < nI 1000000
  · rw [if_neg (fun z => by rw [wy_0 h0] at z; exact z c), if_pos c]; unfold wy_; rw [if_pos c]
  · rw [if_pos (by rw [wy_0 h0]; exact c), if_neg c]
theorem ce_eq {s : Sg_} {n : Nat} {D W : Nat → Int32} (iv : IV_ s) (hn8 : n ≤ 8) : c2_ (fun a b => decide (¬ a = b) && decide (0 ≤ mr_ s n W (8 * a + b))) n n = ce_ n (ms_ s n D) := by
  unfold ce_
  refine c2_cong (fun a b ha hb => ?_)
  obtain ⟨h0, e⟩ := ms_mr (D := D) (W := W) iv hn8 ha hb
  rw [e, Bool.decide_and]
  refine congrArg (fun z => decide (¬ a = b) && z) ?_
  exact decide_eq_decide.mpr (by rw [wy_p h0])
theorem du_0 {x : Int32} (h : x = -1 ∨ (0 ≤ x ∧ x ≤ 30000)) : (x < 0) = (x = -1) := by
  refine propext ⟨fun z => ?_, fun z => by rw [z]; decide⟩
  rcases h with h | h
  · exact h
  · exact absurd z (Int32.not_lt.mpr h.1)
theorem wb_eq {s : Sg_} {inf : Int32} {n a b : Nat} {D W : Nat → Int32} (iv : IV_ s) (hn8 : n ≤ 8) (ha : a < n) (hb : b < n) : wb_ (Dl_ s inf n) (Du_ s inf n) (ms_ s n D) (a * 8 + b) = !rg2_ (dl_ s inf n a b) (du_ s inf n a b) (mr_ s n W (8 * a + b)) := by
  obtain ⟨h0, e⟩ := ms_mr (D := D) (W := W) iv hn8 ha hb
  have hd := du_b (inf := inf) (n := n) iv (show a < 8 by omega) (show b < 8 by omega) hn8
  unfold wb_ rg2_
  rw [Dl_at (by omega), Du_at (by omega), e]
  by_cases c : ms_ s n D (a * 8 + b) < nI 1000000
  · rw [if_pos c]
    have ew : wy_ (ms_ s n D (a * 8 + b)) = ms_ s n D (a * 8 + b) := by unfold wy_; rw [if_pos c]
    have p0 : (0 : Int32) ≤ ms_ s n D (a * 8 + b) := by rw [Int32.le_iff_toInt_le, i_0]; exact h0
    rw [ew]
    by_cases d : du_ s inf n a b < 0
    · rw [if_pos d, decide_eq_false (Int32.not_lt.mpr p0), decide_eq_false (fun z => absurd (Int32.lt_of_le_of_lt (Int32.le_trans p0 z.2) d) (Int32.lt_irrefl))]
    · rw [if_neg d, decide_eq_true p0, Bool.true_and]
  · rw [if_neg c]
    have ew : wy_ (ms_ s n D (a * 8 + b)) = -1 := by unfold wy_; rw [if_neg c]
    rw [ew]
    by_cases d : du_ s inf n a b < 0
    · rw [if_pos d, decide_eq_true (show (-1 : Int32) < 0 by decide), decide_eq_false (fun z => z (by rw [du_0 hd] at d; exact d))]; rfl
    · rw [if_neg d, decide_eq_false (show ¬ (0 : Int32) ≤ -1 by decide), decide_eq_true (p := ¬ du_ s inf n a b = -1) (fun z => d (by rw [z]; decide))]; rfl
theorem ms_cong {s s' : Sg_} {n : Nat} {D : Nat → Int32} (hn8 : n ≤ 8) (h : ∀ k, k < 64 → s' 4 k = s 4 k ∧ s' 5 k = s 5 k) : ms_ s' n D = ms_ s n D := by
  have e : in_ s' n D = in_ s n D := by
    unfold in_
    refine it_cong _ (fun a y ha => it_cong _ (fun b y hb => ?_))
    unfold i1_ mi_
    rw [(h (a * 8 + b) (by omega)).1, (h (a * 8 + b) (by omega)).2]
  unfold ms_
  rw [e]

theorem ls_back {V : Mm_} {i j : Nat} {x y : Int32} {f g : Nat → Int32} (hx : V 0 34 (4 * (i * 8 + j) + 3) = x) (hy : V 0 34 (4 * (j * 8 + i) + 3) = x) : lw_ (a_set (lw_ (a_set V 0 44 f) i j 3 y) 0 44 g) i j 3 x = a_set V 0 44 g := by
  funext q r k
  by_cases h : q = 0 ∧ r = 34
  · obtain ⟨h1, h2⟩ := h
    subst h1
    subst h2
    unfold lw_
    by_cases k2 : k = 4 * (j * 8 + i) + 3
    · rw [m_j k2, a_ne (by decide), k2, hy]
    · rw [m_i k2]
      by_cases k1 : k = 4 * (i * 8 + j) + 3
      · rw [m_j k1, a_ne (by decide), k1, hx]
      · rw [m_i k1, a_ne (by decide), m_i k2, m_i k1]
        rw [a_ne (by decide), a_ne (by decide)]
  · rw [lw_ne h]
    by_cases h4 : q = 0 ∧ r = 44
    · obtain ⟨h1, h2⟩ := h4
      subst h1
      subst h2
      rw [a_same, a_same]
    · rw [a_ne h4, a_ne h4, lw_ne h, a_ne h4]
set_option maxRecDepth 100000 in
set_option maxHeartbeats 4000000 in
theorem c_X8_loss_bad {PL : List (Nat × Nat)} {V : Mm_} {n : Nat} (hm : V 0 33 0 = nI n) (hn1 : 2 ≤ n) (hn8 : n ≤ 8) {a b : Int32} (hbad : ¬ (pr_ok (nI n) a b)) : Cp_ PL mX8_loss [vR 0 33, vI a, vI b] V ((-1)) := by
  refine Ca_.of mv_X8_loss.2.2.2.2.2.2 3 (lo := [some (vR 0 33), some (vI a), some (vI b), none, none, none]) rfl (Nat.le_of_ble_eq_true rfl) ?_
  refine r_aload_n (pc2 := 1) dX8_loss_0 rfl rfl ?_
  refine r_iload_n (pc2 := 2) dX8_loss_1 rfl rfl ?_
  refine r_iload_n (pc2 := 3) dX8_loss_2 rfl rfl ?_
  refine r_cv2p (pc2 := 6) dX8_loss_3 st_X8_loss_74 rl_X8_arePair (Nat.le_of_ble_eq_true rfl) rfl (c_X8_arePair hm hn1 hn8) ?_
  refine r_ifB_ne (pc2 := 9) (tgt := 11) dX8_loss_6 (by decide) rfl (fun c6 => ?_) (fun c6 => ?_)
  · skip
    exact absurd (of_decide_eq_true c6) hbad
  · skip
    refine r_iconst (pc2 := 10) (-1) dX8_loss_9 (by decide) rfl ?_
    exact r_iret dX8_loss_10 rfl (⟨rfl, rfl⟩)

set_option maxRecDepth 100000 in
set_option maxHeartbeats 4000000 in
theorem c_X8_loss_ok {PL : List (Nat × Nat)} {V : Mm_} {s : Sg_} (h : RT_ (V 0 34) s) {n : Nat} (hm : V 0 33 0 = nI n) (hn1 : 2 ≤ n) (hn8 : n ≤ 8) {i j : Nat} (hi : i < n) (hj : j < n) (hij : ¬ i = j) (h5 : s 5 (j * 8 + i) = s 5 (i * 8 + j)) : Ci_ PL mX8_loss [vR 0 33, vI (nI i), vI (nI j)] V (fun x V' => if 0 < s 2 (i * 8 + j) then x = nI (c2_ (fun a b => decide (¬ a = b) && decide (0 ≤ (mr_ s n (V 0 44)) (8 * a + b))) n n) - nI (c2_ (fun a b => decide (¬ a = b) && decide (0 ≤ (mr_ (b1_ s 5 i j (nI 0)) n (mr_ s n (V 0 44))) (8 * a + b))) n n) ∧ V' = a_set V 0 44 (mr_ (b1_ s 5 i j (nI 0)) n (mr_ s n (V 0 44))) else x = -4 ∧ V' = V) := by
  refine Ca_.of mv_X8_loss.2.2.2.2.2.2 3 (lo := [some (vR 0 33), some (vI (nI i)), some (vI (nI j)), none, none, none]) rfl (Nat.le_of_ble_eq_true rfl) ?_
  refine r_aload_n (pc2 := 1) dX8_loss_0 rfl rfl ?_
  refine r_iload_n (pc2 := 2) dX8_loss_1 rfl rfl ?_
  refine r_iload_n (pc2 := 3) dX8_loss_2 rfl rfl ?_
  refine r_cv2p (pc2 := 6) dX8_loss_3 st_X8_loss_74 rl_X8_arePair (Nat.le_of_ble_eq_true rfl) rfl (c_arePair_ok hm hn1 hn8 hi hj hij) ?_
  refine r_if0N_ne (pc2 := 9) (tgt := 11) (by omega) dX8_loss_6 (by decide) rfl (fun c6 => ?_) (fun c6 => ?_)
  · skip
    refine r_aload_n (pc2 := 12) dX8_loss_11 rfl rfl ?_
    refine r_iload_n (pc2 := 13) dX8_loss_12 rfl rfl ?_
    refine r_iload_n (pc2 := 14) dX8_loss_13 rfl rfl ?_
    refine r_cv2p (pc2 := 17) dX8_loss_14 st_X8_loss_66 rl_X8_isLink (Nat.le_of_ble_eq_true rfl) rfl (c_X8_isLink h (by omega) (by omega)) ?_
    refine r_ifB_ne (pc2 := 20) (tgt := 23) dX8_loss_17 (by decide) rfl (fun c17 => ?_) (fun c17 => ?_)
    · skip
      refine r_aload_n (pc2 := 24) dX8_loss_23 rfl rfl ?_
      refine r_cv0i (pc2 := 27) dX8_loss_24 st_X8_loss_166 rl_X8_pairs (Nat.le_of_ble_eq_true rfl) rfl (c_X8_pairs h hm hn1 hn8) (fun x24 V24 h24 => ?_)
      obtain ⟨rfl, e24⟩ := h24
      refine r_istore_n (pc2 := 28) dX8_loss_27 (by decide) rfl rfl ?_
      refine r_aload_n (pc2 := 29) dX8_loss_28 rfl rfl ?_
      refine r_getR (pc2 := 32) dX8_loss_29 fl_X8_13 (by decide) rfl rfl rfl ?_
      refine r_iload_n (pc2 := 33) dX8_loss_32 rfl rfl ?_
      refine r_iload_n (pc2 := 34) dX8_loss_33 rfl rfl ?_
      refine r_iconst (pc2 := 35) (nI 3) dX8_loss_34 (by decide) rfl ?_
      refine r_cs3p (pc2 := 38) dX8_loss_35 st_X8_loss_62 (Nat.le_of_ble_eq_true rfl) rfl (c_X8_linkAt) ?_
      refine r_ialde (pc2 := 39) (x := ((s 5 (i * 8 + j)))) (j := _) (by rw [a_ne (by decide)]; exact h.lk (i * 8 + j) 3 (by omega) (by omega)) dX8_loss_38 (by decide) rfl rfl (rfl) (by show _ < 3596; omega) rfl ?_
      refine r_istore (pc2 := 41) dX8_loss_39 (by decide) rfl rfl ?_
      refine r_aload_n (pc2 := 42) dX8_loss_41 rfl rfl ?_
      refine r_iload_n (pc2 := 43) dX8_loss_42 rfl rfl ?_
      refine r_iload_n (pc2 := 44) dX8_loss_43 rfl rfl ?_
      refine r_iconst (pc2 := 45) (nI 3) dX8_loss_44 (by decide) rfl ?_
      refine r_iconst (pc2 := 46) (nI 0) dX8_loss_45 (by decide) rfl ?_
      refine r_cv4m (pc2 := 49) dX8_loss_46 st_X8_loss_77 rl_X8_sets (Nat.le_of_ble_eq_true rfl) rfl (c_X8_sets (by omega) (by omega) (by decide)) ?_
      show Rc_ PL _ _ _ _ (lw_ (a_set V 0 44 (mr_ s n (V 0 44))) i j 3 (nI 0)) _
      refine r_aload_n (pc2 := 50) dX8_loss_49 rfl rfl ?_
      refine r_cv0i (pc2 := 53) dX8_loss_50 st_X8_loss_166 rl_X8_pairs (Nat.le_of_ble_eq_true rfl) rfl (c_X8_pairs (V := lw_ (a_set V 0 44 (mr_ s n (V 0 44))) i j 3 (nI 0)) (RT_.b1 (w := 3) (h.a44 (by decide)) (by omega) (by omega) (by decide) (h.iv.b5 (by omega) (by omega) hij (of_decide_eq_true c17) (Or.inl rfl))) (by rw [lw_ne (by decide), a_ne (by decide)]; exact hm) hn1 hn8) (fun x50 V50 h50 => ?_)
      obtain ⟨rfl, e50⟩ := h50
      rw [lw_ne (by decide), a_same] at e50
      refine r_istore (pc2 := 55) dX8_loss_53 (by decide) rfl rfl ?_
      refine r_aload_n (pc2 := 56) dX8_loss_55 rfl rfl ?_
      refine r_iload_n (pc2 := 57) dX8_loss_56 rfl rfl ?_
      refine r_iload_n (pc2 := 58) dX8_loss_57 rfl rfl ?_
      refine r_iconst (pc2 := 59) (nI 3) dX8_loss_58 (by decide) rfl ?_
      refine r_iload (pc2 := 61) dX8_loss_59 rfl rfl ?_
      refine r_cv4m (pc2 := 64) dX8_loss_61 st_X8_loss_77 rl_X8_sets (Nat.le_of_ble_eq_true rfl) rfl (c_X8_sets (by omega) (by omega) (by decide)) ?_
      show Rc_ PL _ _ _ _ (lw_ (a_set (lw_ (a_set V 0 44 (mr_ s n (V 0 44))) i j 3 (nI 0)) 0 44 _) i j 3 (s 5 (i * 8 + j))) _
      refine r_iload_n (pc2 := 65) dX8_loss_64 rfl rfl ?_
      refine r_iload (pc2 := 67) dX8_loss_65 rfl rfl ?_
      refine r_isub (pc2 := 68) dX8_loss_67 rfl ?_
      exact r_iret dX8_loss_68 rfl (by show if _ then _ else _; rw [if_pos (of_decide_eq_true c17)]; exact ⟨by rw [e24, e50], (ls_back (h.lk (i * 8 + j) 3 (by omega) (by omega)) ((h.lk (j * 8 + i) 3 (by omega) (by omega)).trans h5)).trans (by rw [lw_ne (by decide), a_same])⟩)
    · skip
      refine r_bipush (pc2 := 22) (-4) dX8_loss_20 (by decide) rfl ?_
      exact r_iret dX8_loss_22 rfl (by show if _ then _ else _; rw [if_neg (of_decide_eq_false c17)]; exact ⟨rfl, rfl⟩)
  · skip
    exact absurd c6 (by decide)
