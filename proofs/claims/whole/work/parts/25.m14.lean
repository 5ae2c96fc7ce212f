/-! reference: choices, domination: written by wip/whole/m14.py -/
theorem ul_pre {s : Sg_} {inf : Int32} {a b m : Nat} : ∀ n, m ≤ n → ∃ r, ul_ s inf n a b = ul_ s inf m a b ++ r
  | 0, h => by
    obtain rfl : m = 0 := by omega
    exact ⟨[], by simp⟩
  | n + 1, h => by
    by_cases e : m = n + 1
    · subst e; exact ⟨[], by simp⟩
    · obtain ⟨r, hr⟩ := ul_pre (s := s) (inf := inf) (a := a) (b := b) (m := m) n (by omega)
      cases hu : us_ s inf a b n with
      | false => exact ⟨r, by rw [ul_f hu, hr]⟩
      | true => exact ⟨r ++ [n], by rw [ul_t hu, hr, List.append_assoc]⟩
theorem ul_get {s : Sg_} {inf : Int32} {a b m n i : Nat} (h : m ≤ n) (hi : i < (ul_ s inf m a b).length) : (ul_ s inf n a b).getD i 0 = (ul_ s inf m a b).getD i 0 := by
  obtain ⟨r, hr⟩ := ul_pre (s := s) (inf := inf) (a := a) (b := b) n h
  rw [hr, List.getD_eq_getElem?_getD, List.getD_eq_getElem?_getD, List.getElem?_append_left hi]
theorem ul_le {s : Sg_} {inf : Int32} {a b m n : Nat} (h : m ≤ n) : (ul_ s inf m a b).length ≤ (ul_ s inf n a b).length := by
  obtain ⟨r, hr⟩ := ul_pre (s := s) (inf := inf) (a := a) (b := b) n h
  rw [hr, List.length_append]
  omega
theorem ul_at {s : Sg_} {inf : Int32} {a b m n : Nat} (h : m < n) (hu : us_ s inf a b m = true) : (ul_ s inf m a b).length < (ul_ s inf n a b).length ∧ (ul_ s inf n a b).getD (ul_ s inf m a b).length 0 = m := by
  have h1 := ul_le (s := s) (inf := inf) (a := a) (b := b) (show m + 1 ≤ n from h)
  rw [ul_t hu, List.length_append] at h1
  have hl : (ul_ s inf m a b).length < (ul_ s inf n a b).length := by
    have : ([m] : List Nat).length = 1 := rfl
    omega
  refine ⟨hl, ?_⟩
  rw [ul_get (show m + 1 ≤ n from h) (by rw [ul_t hu, List.length_append]; exact Nat.lt_succ_self _), ul_t hu, gD_r]
theorem ul_inj {s : Sg_} {inf : Int32} {a b n i j : Nat} (hi : i < (ul_ s inf n a b).length) (hj : j < (ul_ s inf n a b).length) (h : (ul_ s inf n a b).getD i 0 = (ul_ s inf n a b).getD j 0) : i = j := by
  have hp : (ul_ s inf n a b).Pairwise (· < ·) := List.Pairwise.filter _ List.pairwise_lt_range
  rw [List.pairwise_iff_getElem] at hp
  rw [List.getD_eq_getElem?_getD, List.getD_eq_getElem?_getD, List.getElem?_eq_getElem hi, List.getElem?_eq_getElem hj] at h
  simp only [Option.getD_some] at h
  rcases Nat.lt_trichotomy i j with e | e | e
  · have := hp i j hi hj e; omega
  · exact e
  · have := hp j i hj hi e; omega
/-- one more number against the regret -/
theorem fn1_step {U o v : Int32} (hU : 0 ≤ U ∧ U ≤ 30000) (hv : 0 ≤ v ∧ v ≤ 30000) (ho : o = -1 ∨ (0 ≤ o ∧ o ≤ 30000)) : (if fn1_ U o < U - v then U - v else fn1_ U o) = fn1_ U (if o < 0 ∨ v < o then v else o) := by
  have e1 := sub_i hU hv
  have hz : (nI 0).toInt = 0 := by decide
  have hU' := hU
  have hv' := hv
  simp only [Int32.le_iff_toInt_le, i_3, i_0] at hU' hv'
  have fin : ∀ {w : Int32}, (0 ≤ w ∧ w ≤ 30000) → (fn1_ U w).toInt = if U.toInt < w.toInt then 0 else U.toInt - w.toInt := by
    intro w hw
    unfold fn1_
    by_cases c : U < w
    · rw [if_pos (Or.inr c), if_pos (Int32.lt_iff_toInt_lt.mp c), hz]
    · rw [if_neg (fun z => z.elim (nn_i hw.1) c), if_neg (fun z => c (Int32.lt_iff_toInt_lt.mpr z)), sub_i hU hw]
  rw [← Int32.toInt_inj]
  rcases ho with ho | ho
  · subst ho
    have e0 : fn1_ U (-1) = nI 0 := by unfold fn1_; rw [if_pos (Or.inl (by decide))]
    rw [if_pos (show (-1 : Int32) < 0 ∨ v < -1 from Or.inl (by decide)), fin hv, e0]
    by_cases c : nI 0 < U - v
    · rw [if_pos c, e1]
      have c' := Int32.lt_iff_toInt_lt.mp c
      rw [e1, hz] at c'
      rw [if_neg (by omega)]
    · rw [if_neg c, hz]
      have c' := Int32.le_iff_toInt_le.mp (Int32.not_lt.mp c)
      rw [e1, hz] at c'
      by_cases c2 : U.toInt < v.toInt
      · rw [if_pos c2]
      · rw [if_neg c2]; omega
  · have ho' := ho
    simp only [Int32.le_iff_toInt_le, i_3, i_0] at ho'
    have hb : 0 ≤ (if o < 0 ∨ v < o then v else o) ∧ (if o < 0 ∨ v < o then v else o) ≤ 30000 := by split <;> assumption
    have ev : (if o < 0 ∨ v < o then v else o).toInt = if v.toInt < o.toInt then v.toInt else o.toInt := by
      by_cases c : v < o
      · rw [if_pos (Or.inr c), if_pos (Int32.lt_iff_toInt_lt.mp c)]
      · rw [if_neg (fun z => z.elim (nn_i ho.1) c), if_neg (fun z => c (Int32.lt_iff_toInt_lt.mpr z))]
    have el : (if fn1_ U o < U - v then U - v else fn1_ U o).toInt = if (fn1_ U o).toInt < U.toInt - v.toInt then U.toInt - v.toInt else (fn1_ U o).toInt := by
      by_cases c : fn1_ U o < U - v
      · have c' := Int32.lt_iff_toInt_lt.mp c
        rw [e1] at c'
        rw [if_pos c, if_pos c', e1]
      · have c' := fun z => c (Int32.lt_iff_toInt_lt.mpr z)
        rw [e1] at c'
        rw [if_neg c, if_neg c']
    rw [el, fin ho, fin hb, ev]
    split <;> split <;> split <;> first | omega | (split <;> omega) | skip
theorem fn1_b {U o : Int32} (hU : 0 ≤ U ∧ U ≤ 30000) (ho : o = -1 ∨ (0 ≤ o ∧ o ≤ 30000)) : 0 ≤ fn1_ U o ∧ fn1_ U o ≤ 30000 := by
  unfold fn1_
  split
  · decide
  · rename_i hn
    have h1 : 0 ≤ o ∧ o ≤ 30000 := ho.resolve_left (fun z => hn (Or.inl (by rw [z]; decide)))
    have e1 := sub_i hU h1
    have h2 : ¬ U < o := fun z => hn (Or.inr z)
    rw [Int32.le_iff_toInt_le, Int32.le_iff_toInt_le, e1, i_3, i_0]
    simp only [Int32.le_iff_toInt_le, Int32.lt_iff_toInt_lt, i_3, i_0] at hU h1 h2
    omega
theorem le_b {s : Sg_} {inf bt : Int32} {a b r : Nat} (ha : a < 8) (hb : b < 8) (hr : ∀ k, k < 512 → 0 ≤ s r k ∧ s r k ≤ 30000) : ∀ m, m ≤ 8 → le_ s inf a b r bt m = -1 ∨ (0 ≤ le_ s inf a b r bt m ∧ le_ s inf a b r bt m ≤ 30000)
  | 0, _ => Or.inl rfl
  | m + 1, h => by
    rw [le_]
    split
    · split
      · exact Or.inr (hr _ (by omega))
      · exact le_b ha hb hr m (by omega)
    · exact le_b ha hb hr m (by omega)
theorem rg_le {s : Sg_} {inf : Int32} {a b n i : Nat} (iv : IV_ s) (ha : a < 8) (hb : b < 8) (hn8 : n ≤ 8) (hi : i < (ul_ s inf n a b).length) : ∀ m, m ≤ n → rg_ (pb_ s inf n 7 a b) (pb_ s inf n 8 a b) i (ul_ s inf m a b).length = fn1_ (pb_ s inf n 8 a b i) (le_ s inf a b 7 (nI ((ul_ s inf n a b).getD i 0)) m)
  | 0, _ => by
    show nI 0 = fn1_ _ (-1)
    unfold fn1_
    rw [if_pos (Or.inl (by decide))]
  | m + 1, h => by
    have ih := rg_le iv ha hb hn8 hi m (by omega)
    have hL : (ul_ s inf n a b).getD i 0 < n := ul_mem hi
    cases hu : us_ s inf a b m with
    | false =>
      rw [ul_f hu, ih]
      refine congrArg (fn1_ _) ?_
      show _ = (if _ then _ else _)
      rw [if_neg (fun z => by rw [hu] at z; exact absurd z.2.2 (by decide))]
    | true =>
      obtain ⟨h1, h2⟩ := ul_at (show m < n from h) hu
      have hma : ¬ m = a := fun z => by rw [z, us_self iv ha] at hu; cases hu
      have hl : (ul_ s inf (m + 1) a b).length = (ul_ s inf m a b).length + 1 := by rw [ul_t hu, List.length_append]; rfl
      rw [hl, rg_]
      by_cases e : (ul_ s inf m a b).length = i
      · rw [if_pos e, ih]
        refine congrArg (fn1_ _) ?_
        show _ = (if _ then _ else _)
        rw [if_neg (fun z => z.2.1 (by rw [← e, h2]))]
      · have hne : ¬ nI m = nI ((ul_ s inf n a b).getD i 0) := fun z => by
          have z2 := (nI_eq (by omega) (by omega)).mp z
          exact e (ul_inj h1 hi (by rw [h2, ← z2]))
        have e7 : pb_ s inf n 7 a b (ul_ s inf m a b).length = s 7 ((a * 8 + b) * 8 + m) := by unfold pb_; rw [h2]
        rw [if_neg e, ih, e7, fn1_step (by unfold pb_; exact iv.b8 _ (by omega)) (iv.b7 _ (by omega)) (le_b ha hb iv.b7 m (by omega))]
        exact congrArg (fn1_ _) (if_pos ⟨hma, hne, hu⟩).symm
/-- the best sender among the first ones -/
def cb_ (rule : Int32) (s : Sg_) (inf : Int32) (n a b : Nat) : Nat → Option Nat
  | 0 => none
  | c + 1 => if us_ s inf a b c = true then (match cb_ rule s inf n a b c with
    | none => some c
    | some d => if w1_ rule s inf n a b c < w1_ rule s inf n a b d ∨ (w1_ rule s inf n a b c = w1_ rule s inf n a b d ∧ w2_ rule s a b c < w2_ rule s a b d) then some c else some d) else cb_ rule s inf n a b c
theorem cb_lt {rule : Int32} {s : Sg_} {inf : Int32} {n a b : Nat} : ∀ {c d : Nat}, cb_ rule s inf n a b c = some d → d < c
  | 0, d, h => by cases h
  | c + 1, d, h => by
    rw [cb_] at h
    split at h
    · cases e : cb_ rule s inf n a b c with
      | none => rw [e] at h; cases h; omega
      | some d' =>
        rw [e] at h
        have := cb_lt e
        simp only at h
        split at h
        · cases h; omega
        · cases h; omega
    · have := cb_lt h
      omega
theorem cb_own {rule : Int32} {s : Sg_} {inf : Int32} {n a : Nat} (iv : IV_ s) (ha : a < 8) : ∀ c, c ≤ 8 → cb_ rule s inf n a a c = none
  | 0, _ => rfl
  | c + 1, h => by
    rw [cb_, if_neg (by rw [us_own iv ha (by omega)]; decide)]
    exact cb_own iv ha c (by omega)
theorem rk_w1 {rule : Int32} {s : Sg_} {inf : Int32} {n a b i : Nat} (iv : IV_ s) (ha : a < 8) (hb : b < 8) (hn8 : n ≤ 8) (hi : i < (ul_ s inf n a b).length) : rk_ rule (pb_ s inf n 7 a b) (pb_ s inf n 8 a b) (ul_ s inf n a b).length i = w1_ rule s inf n a b ((ul_ s inf n a b).getD i 0) := by
  unfold rk_ w1_
  rw [rg_le iv ha hb hn8 hi n (Nat.le_refl _)]
  rfl
theorem sc_w2 {rule : Int32} {s : Sg_} {inf : Int32} {n a b i : Nat} : sc_ rule (pb_ s inf n 7 a b) (pb_ s inf n 8 a b) i = w2_ rule s a b ((ul_ s inf n a b).getD i 0) := rfl
theorem bs_cb {rule : Int32} {s : Sg_} {inf : Int32} {n a b : Nat} (iv : IV_ s) (ha : a < 8) (hb : b < 8) (hn8 : n ≤ 8) : ∀ m, m ≤ n → (bs_ (rk_ rule (pb_ s inf n 7 a b) (pb_ s inf n 8 a b) (ul_ s inf n a b).length) (sc_ rule (pb_ s inf n 7 a b) (pb_ s inf n 8 a b)) (ul_ s inf m a b).length).map (fun i => (ul_ s inf n a b).getD i 0) = cb_ rule s inf n a b m
  | 0, _ => rfl
  | m + 1, h => by
    have ih := bs_cb (rule := rule) (inf := inf) iv ha hb hn8 m (by omega)
    cases hu : us_ s inf a b m with
    | false => rw [ul_f hu, ih, cb_, if_neg (by rw [hu]; decide)]
    | true =>
      obtain ⟨h1, h2⟩ := ul_at (show m < n from h) hu
      have hl : (ul_ s inf (m + 1) a b).length = (ul_ s inf m a b).length + 1 := by rw [ul_t hu, List.length_append]; rfl
      rw [hl, bs_, cb_, if_pos hu, ← ih]
      cases e : bs_ (rk_ rule (pb_ s inf n 7 a b) (pb_ s inf n 8 a b) (ul_ s inf n a b).length) (sc_ rule (pb_ s inf n 7 a b) (pb_ s inf n 8 a b)) (ul_ s inf m a b).length with
      | none =>
        simp only [Option.map_none, Option.map_some, h2]
      | some d =>
        have hd := bs_lt e
        simp only [Option.map_some]
        rw [rk_w1 iv ha hb hn8 h1, rk_w1 iv ha hb hn8 (by omega), sc_w2, sc_w2, h2]
        split
        · simp only [Option.map_some, h2]
        · rfl
theorem cb_ch {rule : Int32} {s : Sg_} {inf : Int32} {n a b : Nat} (iv : IV_ s) (ha : a < 8) (hb : b < 8) (hn8 : n ≤ 8) : oN_ (cb_ rule s inf n a b n) = ch_ rule s inf n a b := by
  rw [← bs_cb iv ha hb hn8 n (Nat.le_refl _)]
  unfold ch_
  cases bs_ (rk_ rule (pb_ s inf n 7 a b) (pb_ s inf n 8 a b) (ul_ s inf n a b).length) (sc_ rule (pb_ s inf n 7 a b) (pb_ s inf n 8 a b)) (ul_ s inf n a b).length <;> rfl
theorem w1_b {rule : Int32} {s : Sg_} {inf : Int32} {n a b c : Nat} (iv : IV_ s) (ha : a < 8) (hb : b < 8) (hc : c < 8) (hn8 : n ≤ 8) : 0 ≤ w1_ rule s inf n a b c ∧ w1_ rule s inf n a b c ≤ 30000 := by
  unfold w1_
  split
  · exact fn1_b (iv.b8 _ (by omega)) (le_b ha hb iv.b7 n hn8)
  · split
    · exact iv.b7 _ (by omega)
    · exact iv.b8 _ (by omega)
theorem w2_b {rule : Int32} {s : Sg_} {a b c : Nat} (iv : IV_ s) (ha : a < 8) (hb : b < 8) (hc : c < 8) : 0 ≤ w2_ rule s a b c ∧ w2_ rule s a b c ≤ 30000 := by
  unfold w2_
  split
  · exact iv.b8 _ (by omega)
  · split
    · exact iv.b8 _ (by omega)
    · exact iv.b7 _ (by omega)
theorem sub_lt {x y : Int32} (h : 0 ≤ x ∧ x ≤ 30000) (h2 : 0 ≤ y ∧ y ≤ 30000) : (0 ≤ x - y ↔ ¬ x < y) ∧ (x - y = 0 ↔ x = y) := by
  have e := sub_i h h2
  constructor
  · rw [Int32.le_iff_toInt_le, Int32.lt_iff_toInt_lt, e, i_0]; omega
  · rw [← Int32.toInt_inj, ← Int32.toInt_inj, e, i_0]; omega

set_option maxRecDepth 100000 in
set_option maxHeartbeats 4000000 in
theorem c_X8_choiceOf {PL : List (Nat × Nat)} {n : Nat} {V : Mm_} {s : Sg_} (h : RT_ (V 0 34) s) (hm : V 0 33 0 = nI n) (hn1 : 2 ≤ n) (hn8 : n ≤ 8) (hr : ru_ (V 0 37 2)) {i j : Nat} (hi : i < 8) (hj : j < 8) : Cp_ PL mX8_choiceOf [vR 0 33, vI (nI i), vI (nI j)] V (ch_ (V 0 37 2) s (V 0 37 6) n i j) := by
  refine Ca_.of mv_X8_choiceOf.2.2.2.2.2.2 3 (lo := [some (vR 0 33), some (vI (nI i)), some (vI (nI j)), none, none, none]) rfl (Nat.le_of_ble_eq_true rfl) ?_
  refine r_iconst (pc2 := 1) (-1) dX8_choiceOf_0 (by decide) rfl ?_
  refine r_istore_n (pc2 := 2) dX8_choiceOf_1 (by decide) rfl rfl ?_
  refine r_iconst (pc2 := 3) (nI 0) dX8_choiceOf_2 (by decide) rfl ?_
  refine r_istore (pc2 := 5) dX8_choiceOf_3 (by decide) rfl rfl ?_
  refine Rc_.to (V' := (fun _ => V) 0) (lo' := (fun c : Nat => [some (vR 0 33), some (vI (nI i)), some (vI (nI j)), some (vI ((oN_ (cb_ (V 0 37 2) s (V 0 37 6) n i j c)))), some (vI (nI c)), none]) 0) (rfl) ⟨rfl, rfl, rfl, rfl, rfl, trivial⟩ ?_
  refine Rc_for 0 (n) (fun c : Nat => [some (vR 0 33), some (vI (nI i)), some (vI (nI j)), some (vI ((oN_ (cb_ (V 0 37 2) s (V 0 37 6) n i j c)))), some (vI (nI c)), none]) (fun _ => V) (by omega) (fun c hc0 hcN ih5 => ?_)
  refine r_iload (pc2 := 7) dX8_choiceOf_5 rfl rfl ?_
  refine r_aload_n (pc2 := 8) dX8_choiceOf_7 rfl rfl ?_
  refine r_getIe (pc2 := 11) (x := (nI n)) (hm) dX8_choiceOf_8 fl_X8_7 (by decide) rfl rfl rfl ?_
  refine r_icN_ge (pc2 := 14) (tgt := 112) (by omega) (by omega) dX8_choiceOf_11 (by decide) rfl (fun c11 => ?_) (fun c11 => ?_)
  · skip
    refine r_iload_n (pc2 := 113) dX8_choiceOf_112 rfl rfl ?_
    exact r_iret dX8_choiceOf_113 rfl (⟨by rw [← cb_ch h.iv hi hj hn8]; (have e : c = n := by omega); rw [e], rfl⟩)
  · skip
    refine r_iload_n (pc2 := 15) dX8_choiceOf_14 rfl rfl ?_
    refine r_iload_n (pc2 := 16) dX8_choiceOf_15 rfl rfl ?_
    refine r_icN_eq (pc2 := 19) (tgt := 112) (by omega) (by omega) dX8_choiceOf_16 (by decide) rfl (fun c16 => ?_) (fun c16 => ?_)
    · skip
      refine r_iload_n (pc2 := 113) dX8_choiceOf_112 rfl rfl ?_
      exact r_iret dX8_choiceOf_113 rfl (⟨by rw [← c16, ← cb_ch h.iv hi hi hn8, cb_own h.iv hi n hn8, cb_own h.iv hi c (by omega)], rfl⟩)
    · skip
      refine r_iload (pc2 := 21) dX8_choiceOf_19 rfl rfl ?_
      refine r_iload_n (pc2 := 22) dX8_choiceOf_21 rfl rfl ?_
      refine r_icN_eq (pc2 := 25) (tgt := 106) (by omega) (by omega) dX8_choiceOf_22 (by decide) rfl (fun c22 => ?_) (fun c22 => ?_)
      · skip
        refine r_iincN (pc2 := 109) dX8_choiceOf_106 rfl (by decide) rfl rfl ?_
        refine r_goto (pc2 := 5) dX8_choiceOf_109 (by decide) ?_
        exact Rc_.to (lo' := (fun c : Nat => [some (vR 0 33), some (vI (nI i)), some (vI (nI j)), some (vI ((oN_ (cb_ (V 0 37 2) s (V 0 37 6) n i j c)))), some (vI (nI c)), none]) (c + 1)) (rfl) ⟨rfl, rfl, rfl, (congrArg (fun z => some (vI z)) (by rw [cb_, if_neg (by rw [c22, us_self h.iv hi]; decide)])), rfl, trivial⟩ (ih5 (by omega))
      · skip
        refine r_aload_n (pc2 := 26) dX8_choiceOf_25 rfl rfl ?_
        refine r_iload_n (pc2 := 27) dX8_choiceOf_26 rfl rfl ?_
        refine r_iload_n (pc2 := 28) dX8_choiceOf_27 rfl rfl ?_
        refine r_iload (pc2 := 30) dX8_choiceOf_28 rfl rfl ?_
        refine r_cv3p (pc2 := 33) dX8_choiceOf_30 st_X8_choiceOf_94 rl_X8_isUsable (Nat.le_of_ble_eq_true rfl) rfl (c_X8_isUsable h (by omega) (by omega) (by omega)) ?_
        refine r_ifB_eq (pc2 := 36) (tgt := 106) dX8_choiceOf_33 (by decide) rfl (fun c33 => ?_) (fun c33 => ?_)
        · skip
          refine r_iincN (pc2 := 109) dX8_choiceOf_106 rfl (by decide) rfl rfl ?_
          refine r_goto (pc2 := 5) dX8_choiceOf_109 (by decide) ?_
          exact Rc_.to (lo' := (fun c : Nat => [some (vR 0 33), some (vI (nI i)), some (vI (nI j)), some (vI ((oN_ (cb_ (V 0 37 2) s (V 0 37 6) n i j c)))), some (vI (nI c)), none]) (c + 1)) (rfl) ⟨rfl, rfl, rfl, (congrArg (fun z => some (vI z)) (by rw [cb_, if_neg (by rw [c33]; decide)])), rfl, trivial⟩ (ih5 (by omega))
        · skip
          refine r_iload_n (pc2 := 37) dX8_choiceOf_36 rfl rfl ?_
          refine r_if_ge (pc2 := 40) (tgt := 44) dX8_choiceOf_37 (by decide) rfl (fun c37 => ?_) (fun c37 => ?_)
          · skip
            obtain ⟨d, hd⟩ := oN_some (o := cb_ (V 0 37 2) s (V 0 37 6) n i j c) (fun z => by rw [z] at c37; exact absurd c37 (by decide))
            have hdl := cb_lt hd
            have hw1 := sub_lt (w1_b (rule := V 0 37 2) (inf := V 0 37 6) (n := n) (b := j) (c := c) h.iv hi hj (by omega) hn8) (w1_b (rule := V 0 37 2) (inf := V 0 37 6) (n := n) (b := j) (c := d) h.iv hi hj (by omega) hn8)
            have hw2 := sub_lt (w2_b (rule := V 0 37 2) (b := j) (c := c) h.iv hi hj (by omega)) (w2_b (rule := V 0 37 2) (b := j) (c := d) h.iv hi hj (by omega))
            have hcb : cb_ (V 0 37 2) s (V 0 37 6) n i j (c + 1) = if w1_ (V 0 37 2) s (V 0 37 6) n i j c < w1_ (V 0 37 2) s (V 0 37 6) n i j d ∨ (w1_ (V 0 37 2) s (V 0 37 6) n i j c = w1_ (V 0 37 2) s (V 0 37 6) n i j d ∧ w2_ (V 0 37 2) s i j c < w2_ (V 0 37 2) s i j d) then some c else some d := by rw [cb_, if_pos c33, hd]
            rw [hd]
            refine r_aload_n (pc2 := 45) dX8_choiceOf_44 rfl rfl ?_
            refine r_iload_n (pc2 := 46) dX8_choiceOf_45 rfl rfl ?_
            refine r_iload_n (pc2 := 47) dX8_choiceOf_46 rfl rfl ?_
            refine r_iload (pc2 := 49) dX8_choiceOf_47 rfl rfl ?_
            refine r_iconst (pc2 := 50) (nI 1) dX8_choiceOf_49 (by decide) rfl ?_
            refine r_cv4p (pc2 := 53) dX8_choiceOf_50 st_X8_choiceOf_100 rl_X8_weight (Nat.le_of_ble_eq_true rfl) rfl (c_X8_weight1 h hm hn8 hr hi hj (by omega)) ?_
            refine r_aload_n (pc2 := 54) dX8_choiceOf_53 rfl rfl ?_
            refine r_iload_n (pc2 := 55) dX8_choiceOf_54 rfl rfl ?_
            refine r_iload_n (pc2 := 56) dX8_choiceOf_55 rfl rfl ?_
            refine r_iload_n (pc2 := 57) dX8_choiceOf_56 rfl rfl ?_
            refine r_iconst (pc2 := 58) (nI 1) dX8_choiceOf_57 (by decide) rfl ?_
            refine r_cv4p (pc2 := 61) dX8_choiceOf_58 st_X8_choiceOf_100 rl_X8_weight (Nat.le_of_ble_eq_true rfl) rfl (c_X8_weight1 h hm hn8 hr hi hj (by omega)) ?_
            refine r_isub (pc2 := 62) dX8_choiceOf_61 rfl ?_
            refine r_istore (pc2 := 64) dX8_choiceOf_62 (by decide) rfl rfl ?_
            refine r_iload (pc2 := 66) dX8_choiceOf_64 rfl rfl ?_
            refine r_if_ne (pc2 := 69) (tgt := 90) dX8_choiceOf_66 (by decide) rfl (fun c66 => ?_) (fun c66 => ?_)
            · skip
              refine r_iload (pc2 := 92) dX8_choiceOf_90 rfl rfl ?_
              refine r_istore (pc2 := 94) dX8_choiceOf_92 (by decide) rfl rfl ?_
              refine r_iload (pc2 := 96) dX8_choiceOf_94 rfl rfl ?_
              refine r_if_ge (pc2 := 99) (tgt := 104) dX8_choiceOf_96 (by decide) rfl (fun c96 => ?_) (fun c96 => ?_)
              · skip
                refine r_iload_n (pc2 := 105) dX8_choiceOf_104 rfl rfl ?_
                refine r_istore_n (pc2 := 106) dX8_choiceOf_105 (by decide) rfl rfl ?_
                refine r_iincN (pc2 := 109) dX8_choiceOf_106 rfl (by decide) rfl rfl ?_
                refine r_goto (pc2 := 5) dX8_choiceOf_109 (by decide) ?_
                exact Rc_.to (lo' := (fun c : Nat => [some (vR 0 33), some (vI (nI i)), some (vI (nI j)), some (vI ((oN_ (cb_ (V 0 37 2) s (V 0 37 6) n i j c)))), some (vI (nI c)), none]) (c + 1)) (rfl) ⟨rfl, rfl, rfl, (congrArg (fun z => some (vI z)) (by rw [hcb]; rw [if_neg (fun z => z.elim (hw1.1.mp c96) (fun q => c66 (hw1.2.mpr q.1)))]; first | done | rfl)), rfl, trivial⟩ (ih5 (by omega))
              · skip
                refine r_iload (pc2 := 101) dX8_choiceOf_99 rfl rfl ?_
                refine r_goto (pc2 := 105) dX8_choiceOf_101 (by decide) ?_
                refine r_istore_n (pc2 := 106) dX8_choiceOf_105 (by decide) rfl rfl ?_
                refine r_iincN (pc2 := 109) dX8_choiceOf_106 rfl (by decide) rfl rfl ?_
                refine r_goto (pc2 := 5) dX8_choiceOf_109 (by decide) ?_
                exact Rc_.to (lo' := (fun c : Nat => [some (vR 0 33), some (vI (nI i)), some (vI (nI j)), some (vI ((oN_ (cb_ (V 0 37 2) s (V 0 37 6) n i j c)))), some (vI (nI c)), none]) (c + 1)) (rfl) ⟨rfl, rfl, rfl, (congrArg (fun z => some (vI z)) (by rw [hcb]; rw [if_pos (Or.inl (Decidable.not_not.mp (fun q => c96 (hw1.1.mpr q))))]; first | done | rfl)), rfl, trivial⟩ (ih5 (by omega))
            · skip
              refine r_aload_n (pc2 := 70) dX8_choiceOf_69 rfl rfl ?_
              refine r_iload_n (pc2 := 71) dX8_choiceOf_70 rfl rfl ?_
              refine r_iload_n (pc2 := 72) dX8_choiceOf_71 rfl rfl ?_
              refine r_iload (pc2 := 74) dX8_choiceOf_72 rfl rfl ?_
              refine r_iconst (pc2 := 75) (nI 0) dX8_choiceOf_74 (by decide) rfl ?_
              refine r_cv4p (pc2 := 78) dX8_choiceOf_75 st_X8_choiceOf_100 rl_X8_weight (Nat.le_of_ble_eq_true rfl) rfl (c_X8_weight2 h hr hi hj (by omega)) ?_
              refine r_aload_n (pc2 := 79) dX8_choiceOf_78 rfl rfl ?_
              refine r_iload_n (pc2 := 80) dX8_choiceOf_79 rfl rfl ?_
              refine r_iload_n (pc2 := 81) dX8_choiceOf_80 rfl rfl ?_
              refine r_iload_n (pc2 := 82) dX8_choiceOf_81 rfl rfl ?_
              refine r_iconst (pc2 := 83) (nI 0) dX8_choiceOf_82 (by decide) rfl ?_
              refine r_cv4p (pc2 := 86) dX8_choiceOf_83 st_X8_choiceOf_100 rl_X8_weight (Nat.le_of_ble_eq_true rfl) rfl (c_X8_weight2 h hr hi hj (by omega)) ?_
              refine r_isub (pc2 := 87) dX8_choiceOf_86 rfl ?_
              refine r_goto (pc2 := 92) dX8_choiceOf_87 (by decide) ?_
              refine r_istore (pc2 := 94) dX8_choiceOf_92 (by decide) rfl rfl ?_
              refine r_iload (pc2 := 96) dX8_choiceOf_94 rfl rfl ?_
              refine r_if_ge (pc2 := 99) (tgt := 104) dX8_choiceOf_96 (by decide) rfl (fun c96 => ?_) (fun c96 => ?_)
              · skip
                refine r_iload_n (pc2 := 105) dX8_choiceOf_104 rfl rfl ?_
                refine r_istore_n (pc2 := 106) dX8_choiceOf_105 (by decide) rfl rfl ?_
                refine r_iincN (pc2 := 109) dX8_choiceOf_106 rfl (by decide) rfl rfl ?_
                refine r_goto (pc2 := 5) dX8_choiceOf_109 (by decide) ?_
                exact Rc_.to (lo' := (fun c : Nat => [some (vR 0 33), some (vI (nI i)), some (vI (nI j)), some (vI ((oN_ (cb_ (V 0 37 2) s (V 0 37 6) n i j c)))), some (vI (nI c)), none]) (c + 1)) (rfl) ⟨rfl, rfl, rfl, (congrArg (fun z => some (vI z)) (by rw [hcb]; rw [if_neg (fun z => z.elim (fun q => by rw [hw1.2.mp c66] at q; exact Int32.lt_irrefl q) (fun q => hw2.1.mp c96 q.2))]; first | done | rfl)), rfl, trivial⟩ (ih5 (by omega))
              · skip
                refine r_iload (pc2 := 101) dX8_choiceOf_99 rfl rfl ?_
                refine r_goto (pc2 := 105) dX8_choiceOf_101 (by decide) ?_
                refine r_istore_n (pc2 := 106) dX8_choiceOf_105 (by decide) rfl rfl ?_
                refine r_iincN (pc2 := 109) dX8_choiceOf_106 rfl (by decide) rfl rfl ?_
                refine r_goto (pc2 := 5) dX8_choiceOf_109 (by decide) ?_
                exact Rc_.to (lo' := (fun c : Nat => [some (vR 0 33), some (vI (nI i)), some (vI (nI j)), some (vI ((oN_ (cb_ (V 0 37 2) s (V 0 37 6) n i j c)))), some (vI (nI c)), none]) (c + 1)) (rfl) ⟨rfl, rfl, rfl, (congrArg (fun z => some (vI z)) (by rw [hcb]; rw [if_pos (Or.inr ⟨hw1.2.mp c66, Decidable.not_not.mp (fun q => c96 (hw2.1.mpr q))⟩)]; first | done | rfl)), rfl, trivial⟩ (ih5 (by omega))
          · skip
            have hnone : cb_ (V 0 37 2) s (V 0 37 6) n i j c = none := by
              cases e : cb_ (V 0 37 2) s (V 0 37 6) n i j c with
              | none => rfl
              | some d => rw [e] at c37; exact absurd (nI_pos' (by have := cb_lt e; omega)) c37
            have hcb : cb_ (V 0 37 2) s (V 0 37 6) n i j (c + 1) = some c := by rw [cb_, if_pos c33, hnone]
            refine r_iconst (pc2 := 41) (-1) dX8_choiceOf_40 (by decide) rfl ?_
            refine r_goto (pc2 := 62) dX8_choiceOf_41 (by decide) ?_
            refine r_istore (pc2 := 64) dX8_choiceOf_62 (by decide) rfl rfl ?_
            refine r_iload (pc2 := 66) dX8_choiceOf_64 rfl rfl ?_
            refine r_if_ne (pc2 := 69) (tgt := 90) dX8_choiceOf_66 (by decide) rfl (fun c66 => ?_) (fun c66 => ?_)
            · skip
              refine r_iload (pc2 := 92) dX8_choiceOf_90 rfl rfl ?_
              refine r_istore (pc2 := 94) dX8_choiceOf_92 (by decide) rfl rfl ?_
              refine r_iload (pc2 := 96) dX8_choiceOf_94 rfl rfl ?_
              refine r_if_ge (pc2 := 99) (tgt := 104) dX8_choiceOf_96 (by decide) rfl (fun c96 => ?_) (fun c96 => ?_)
              · skip
                exact absurd c96 (by decide)
              · skip
                refine r_iload (pc2 := 101) dX8_choiceOf_99 rfl rfl ?_
                refine r_goto (pc2 := 105) dX8_choiceOf_101 (by decide) ?_
                refine r_istore_n (pc2 := 106) dX8_choiceOf_105 (by decide) rfl rfl ?_
                refine r_iincN (pc2 := 109) dX8_choiceOf_106 rfl (by decide) rfl rfl ?_
                refine r_goto (pc2 := 5) dX8_choiceOf_109 (by decide) ?_
                exact Rc_.to (lo' := (fun c : Nat => [some (vR 0 33), some (vI (nI i)), some (vI (nI j)), some (vI ((oN_ (cb_ (V 0 37 2) s (V 0 37 6) n i j c)))), some (vI (nI c)), none]) (c + 1)) (rfl) ⟨rfl, rfl, rfl, (congrArg (fun z => some (vI z)) (by rw [hcb]; rfl)), rfl, trivial⟩ (ih5 (by omega))
            · skip
              exact absurd c66 (by decide)

set_option maxRecDepth 100000 in
set_option maxHeartbeats 4000000 in
theorem c_X8_isDominated {PL : List (Nat × Nat)} {n : Nat} {V : Mm_} {s : Sg_} (h : RT_ (V 0 34) s) (hm : V 0 33 0 = nI n) (hn8 : n ≤ 8) {i j c : Nat} (hi : i < 8) (hj : j < 8) (hc : c < 8) : Cp_ PL mX8_isDominated [vR 0 33, vI (nI i), vI (nI j), vI (nI c)] V (b2 (do_ s (V 0 37 6) n i j c)) := by
  refine Ca_.of mv_X8_isDominated.2.2.2.2.2.2 3 (lo := [some (vR 0 33), some (vI (nI i)), some (vI (nI j)), some (vI (nI c)), none, none, none]) rfl (Nat.le_of_ble_eq_true rfl) ?_
  refine r_aload_n (pc2 := 1) dX8_isDominated_0 rfl rfl ?_
  refine r_iload_n (pc2 := 2) dX8_isDominated_1 rfl rfl ?_
  refine r_iload_n (pc2 := 3) dX8_isDominated_2 rfl rfl ?_
  refine r_iload_n (pc2 := 4) dX8_isDominated_3 rfl rfl ?_
  refine r_cv3p (pc2 := 7) dX8_isDominated_4 st_X8_isDominated_94 rl_X8_isUsable (Nat.le_of_ble_eq_true rfl) rfl (c_X8_isUsable h (by omega) (by omega) (by omega)) ?_
  refine r_ifB_ne (pc2 := 10) (tgt := 12) dX8_isDominated_7 (by decide) rfl (fun c7 => ?_) (fun c7 => ?_)
  · skip
    refine r_iconst (pc2 := 13) (nI 0) dX8_isDominated_12 (by decide) rfl ?_
    refine r_istore (pc2 := 15) dX8_isDominated_13 (by decide) rfl rfl ?_
    refine r_iconst (pc2 := 16) (nI 0) dX8_isDominated_15 (by decide) rfl ?_
    refine r_istore (pc2 := 18) dX8_isDominated_16 (by decide) rfl rfl ?_
    refine Rc_.to (V' := (fun _ => V) 0) (lo' := (fun o : Nat => [some (vR 0 33), some (vI (nI i)), some (vI (nI j)), some (vI (nI c)), some (vI (b2 ((an_ (fun o => decide (¬ o = c) && us_ s (V 0 37 6) i j o && dm_ s ((i * 8 + j) * 8 + o) ((i * 8 + j) * 8 + c)) o)))), some (vI (nI o)), none]) 0) (rfl) ⟨rfl, rfl, rfl, rfl, rfl, rfl, trivial⟩ ?_
    refine Rc_for 0 (n) (fun o : Nat => [some (vR 0 33), some (vI (nI i)), some (vI (nI j)), some (vI (nI c)), some (vI (b2 ((an_ (fun o => decide (¬ o = c) && us_ s (V 0 37 6) i j o && dm_ s ((i * 8 + j) * 8 + o) ((i * 8 + j) * 8 + c)) o)))), some (vI (nI o)), none]) (fun _ => V) (by omega) (fun o ho0 hoN ih18 => ?_)
    refine r_iload (pc2 := 20) dX8_isDominated_18 rfl rfl ?_
    refine r_aload_n (pc2 := 21) dX8_isDominated_20 rfl rfl ?_
    refine r_getIe (pc2 := 24) (x := (nI n)) (hm) dX8_isDominated_21 fl_X8_7 (by decide) rfl rfl rfl ?_
    refine r_icN_ge (pc2 := 27) (tgt := 126) (by omega) (by omega) dX8_isDominated_24 (by decide) rfl (fun c24 => ?_) (fun c24 => ?_)
    · skip
      refine r_iload (pc2 := 128) dX8_isDominated_126 rfl rfl ?_
      exact r_zret dX8_isDominated_128 rfl (b2_01 _) (⟨by (have e : o = n := by omega); rw [e]; unfold do_; rw [c7]; rfl, rfl⟩)
    · skip
      refine r_iload (pc2 := 29) dX8_isDominated_27 rfl rfl ?_
      refine r_iload_n (pc2 := 30) dX8_isDominated_29 rfl rfl ?_
      refine r_icN_eq (pc2 := 33) (tgt := 120) (by omega) (by omega) dX8_isDominated_30 (by decide) rfl (fun c30 => ?_) (fun c30 => ?_)
      · skip
        refine r_iincN (pc2 := 123) dX8_isDominated_120 rfl (by decide) rfl rfl ?_
        refine r_goto (pc2 := 18) dX8_isDominated_123 (by decide) ?_
        exact Rc_.to (lo' := (fun o : Nat => [some (vR 0 33), some (vI (nI i)), some (vI (nI j)), some (vI (nI c)), some (vI (b2 ((an_ (fun o => decide (¬ o = c) && us_ s (V 0 37 6) i j o && dm_ s ((i * 8 + j) * 8 + o) ((i * 8 + j) * 8 + c)) o)))), some (vI (nI o)), none]) (o + 1)) (rfl) ⟨rfl, rfl, rfl, rfl, (congrArg (fun z => some (vI z)) (by show b2 (an_ (fun o => decide (¬ o = c) && us_ s (V 0 37 6) i j o && dm_ s ((i * 8 + j) * 8 + o) ((i * 8 + j) * 8 + c)) o || _) = _; rw [show (fun o => decide (¬ o = c) && us_ s (V 0 37 6) i j o && dm_ s ((i * 8 + j) * 8 + o) ((i * 8 + j) * 8 + c)) o = false from by simp only []; rw [decide_eq_false (fun z => z c30)]; rfl, Bool.or_false])), rfl, trivial⟩ (ih18 (by omega))
      · skip
        refine r_iload (pc2 := 35) dX8_isDominated_33 rfl rfl ?_
        refine r_iload_n (pc2 := 36) dX8_isDominated_35 rfl rfl ?_
        refine r_icN_eq (pc2 := 39) (tgt := 120) (by omega) (by omega) dX8_isDominated_36 (by decide) rfl (fun c36 => ?_) (fun c36 => ?_)
        · skip
          refine r_iincN (pc2 := 123) dX8_isDominated_120 rfl (by decide) rfl rfl ?_
          refine r_goto (pc2 := 18) dX8_isDominated_123 (by decide) ?_
          exact Rc_.to (lo' := (fun o : Nat => [some (vR 0 33), some (vI (nI i)), some (vI (nI j)), some (vI (nI c)), some (vI (b2 ((an_ (fun o => decide (¬ o = c) && us_ s (V 0 37 6) i j o && dm_ s ((i * 8 + j) * 8 + o) ((i * 8 + j) * 8 + c)) o)))), some (vI (nI o)), none]) (o + 1)) (rfl) ⟨rfl, rfl, rfl, rfl, (congrArg (fun z => some (vI z)) (by show b2 (an_ (fun o => decide (¬ o = c) && us_ s (V 0 37 6) i j o && dm_ s ((i * 8 + j) * 8 + o) ((i * 8 + j) * 8 + c)) o || _) = _; rw [show (fun o => decide (¬ o = c) && us_ s (V 0 37 6) i j o && dm_ s ((i * 8 + j) * 8 + o) ((i * 8 + j) * 8 + c)) o = false from by simp only []; rw [c36, us_self h.iv hi, Bool.and_false]; rfl, Bool.or_false])), rfl, trivial⟩ (ih18 (by omega))
        · skip
          refine r_aload_n (pc2 := 40) dX8_isDominated_39 rfl rfl ?_
          refine r_iload_n (pc2 := 41) dX8_isDominated_40 rfl rfl ?_
          refine r_iload_n (pc2 := 42) dX8_isDominated_41 rfl rfl ?_
          refine r_iload (pc2 := 44) dX8_isDominated_42 rfl rfl ?_
          refine r_cv3p (pc2 := 47) dX8_isDominated_44 st_X8_isDominated_94 rl_X8_isUsable (Nat.le_of_ble_eq_true rfl) rfl (c_X8_isUsable h (by omega) (by omega) (by omega)) ?_
          refine r_ifB_eq (pc2 := 50) (tgt := 120) dX8_isDominated_47 (by decide) rfl (fun c47 => ?_) (fun c47 => ?_)
          · skip
            refine r_iincN (pc2 := 123) dX8_isDominated_120 rfl (by decide) rfl rfl ?_
            refine r_goto (pc2 := 18) dX8_isDominated_123 (by decide) ?_
            exact Rc_.to (lo' := (fun o : Nat => [some (vR 0 33), some (vI (nI i)), some (vI (nI j)), some (vI (nI c)), some (vI (b2 ((an_ (fun o => decide (¬ o = c) && us_ s (V 0 37 6) i j o && dm_ s ((i * 8 + j) * 8 + o) ((i * 8 + j) * 8 + c)) o)))), some (vI (nI o)), none]) (o + 1)) (rfl) ⟨rfl, rfl, rfl, rfl, (congrArg (fun z => some (vI z)) (by show b2 (an_ (fun o => decide (¬ o = c) && us_ s (V 0 37 6) i j o && dm_ s ((i * 8 + j) * 8 + o) ((i * 8 + j) * 8 + c)) o || _) = _; rw [show (fun o => decide (¬ o = c) && us_ s (V 0 37 6) i j o && dm_ s ((i * 8 + j) * 8 + o) ((i * 8 + j) * 8 + c)) o = false from by simp only []; rw [c47, Bool.and_false]; rfl, Bool.or_false])), rfl, trivial⟩ (ih18 (by omega))
          · skip
            refine r_aload_n (pc2 := 51) dX8_isDominated_50 rfl rfl ?_
            refine r_iload_n (pc2 := 52) dX8_isDominated_51 rfl rfl ?_
            refine r_iload_n (pc2 := 53) dX8_isDominated_52 rfl rfl ?_
            refine r_iload (pc2 := 55) dX8_isDominated_53 rfl rfl ?_
            refine r_iconst (pc2 := 56) (nI 2) dX8_isDominated_55 (by decide) rfl ?_
            refine r_cv4p (pc2 := 59) dX8_isDominated_56 st_X8_isDominated_85 rl_X8_of (Nat.le_of_ble_eq_true rfl) rfl (c_X8_of h (by omega) (by omega) (by omega) (w := 2) (r := 8) (by omega) (by omega) rfl) ?_
            refine r_aload_n (pc2 := 60) dX8_isDominated_59 rfl rfl ?_
            refine r_iload_n (pc2 := 61) dX8_isDominated_60 rfl rfl ?_
            refine r_iload_n (pc2 := 62) dX8_isDominated_61 rfl rfl ?_
            refine r_iload_n (pc2 := 63) dX8_isDominated_62 rfl rfl ?_
            refine r_iconst (pc2 := 64) (nI 1) dX8_isDominated_63 (by decide) rfl ?_
            refine r_cv4p (pc2 := 67) dX8_isDominated_64 st_X8_isDominated_85 rl_X8_of (Nat.le_of_ble_eq_true rfl) rfl (c_X8_of h (by omega) (by omega) (by omega) (w := 1) (r := 7) (by omega) (by omega) rfl) ?_
            refine r_ic_gt (pc2 := 70) (tgt := 120) dX8_isDominated_67 (by decide) rfl (fun c67 => ?_) (fun c67 => ?_)
            · skip
              refine r_iincN (pc2 := 123) dX8_isDominated_120 rfl (by decide) rfl rfl ?_
              refine r_goto (pc2 := 18) dX8_isDominated_123 (by decide) ?_
              exact Rc_.to (lo' := (fun o : Nat => [some (vR 0 33), some (vI (nI i)), some (vI (nI j)), some (vI (nI c)), some (vI (b2 ((an_ (fun o => decide (¬ o = c) && us_ s (V 0 37 6) i j o && dm_ s ((i * 8 + j) * 8 + o) ((i * 8 + j) * 8 + c)) o)))), some (vI (nI o)), none]) (o + 1)) (rfl) ⟨rfl, rfl, rfl, rfl, (congrArg (fun z => some (vI z)) (by show b2 (an_ (fun o => decide (¬ o = c) && us_ s (V 0 37 6) i j o && dm_ s ((i * 8 + j) * 8 + o) ((i * 8 + j) * 8 + c)) o || _) = _; rw [show (fun o => decide (¬ o = c) && us_ s (V 0 37 6) i j o && dm_ s ((i * 8 + j) * 8 + o) ((i * 8 + j) * 8 + c)) o = false from by simp only []; rw [show dm_ s ((i * 8 + j) * 8 + o) ((i * 8 + j) * 8 + c) = false from decide_eq_false (fun z => absurd c67 (Int32.not_lt.mpr z.1)), Bool.and_false], Bool.or_false])), rfl, trivial⟩ (ih18 (by omega))
            · skip
              refine r_aload_n (pc2 := 71) dX8_isDominated_70 rfl rfl ?_
              refine r_iload_n (pc2 := 72) dX8_isDominated_71 rfl rfl ?_
              refine r_iload_n (pc2 := 73) dX8_isDominated_72 rfl rfl ?_
              refine r_iload_n (pc2 := 74) dX8_isDominated_73 rfl rfl ?_
              refine r_iconst (pc2 := 75) (nI 2) dX8_isDominated_74 (by decide) rfl ?_
              refine r_cv4p (pc2 := 78) dX8_isDominated_75 st_X8_isDominated_85 rl_X8_of (Nat.le_of_ble_eq_true rfl) rfl (c_X8_of h (by omega) (by omega) (by omega) (w := 2) (r := 8) (by omega) (by omega) rfl) ?_
              refine r_aload_n (pc2 := 79) dX8_isDominated_78 rfl rfl ?_
              refine r_iload_n (pc2 := 80) dX8_isDominated_79 rfl rfl ?_
              refine r_iload_n (pc2 := 81) dX8_isDominated_80 rfl rfl ?_
              refine r_iload (pc2 := 83) dX8_isDominated_81 rfl rfl ?_
              refine r_iconst (pc2 := 84) (nI 1) dX8_isDominated_83 (by decide) rfl ?_
              refine r_cv4p (pc2 := 87) dX8_isDominated_84 st_X8_isDominated_85 rl_X8_of (Nat.le_of_ble_eq_true rfl) rfl (c_X8_of h (by omega) (by omega) (by omega) (w := 1) (r := 7) (by omega) (by omega) rfl) ?_
              refine r_ic_gt (pc2 := 90) (tgt := 94) dX8_isDominated_87 (by decide) rfl (fun c87 => ?_) (fun c87 => ?_)
              · skip
                refine r_iconst (pc2 := 95) (nI 0) dX8_isDominated_94 (by decide) rfl ?_
                refine r_istore (pc2 := 97) dX8_isDominated_95 (by decide) rfl rfl ?_
                refine r_iload (pc2 := 99) dX8_isDominated_97 rfl rfl ?_
                refine r_ifB_ne (pc2 := 102) (tgt := 113) dX8_isDominated_99 (by decide) rfl (fun c99 => ?_) (fun c99 => ?_)
                · skip
                  refine r_iconst (pc2 := 114) (nI 1) dX8_isDominated_113 (by decide) rfl ?_
                  refine r_goto (pc2 := 118) dX8_isDominated_114 (by decide) ?_
                  refine r_istore (pc2 := 120) dX8_isDominated_118 (by decide) rfl rfl ?_
                  refine r_iincN (pc2 := 123) dX8_isDominated_120 rfl (by decide) rfl rfl ?_
                  refine r_goto (pc2 := 18) dX8_isDominated_123 (by decide) ?_
                  exact Rc_.to (lo' := (fun o : Nat => [some (vR 0 33), some (vI (nI i)), some (vI (nI j)), some (vI (nI c)), some (vI (b2 ((an_ (fun o => decide (¬ o = c) && us_ s (V 0 37 6) i j o && dm_ s ((i * 8 + j) * 8 + o) ((i * 8 + j) * 8 + c)) o)))), some (vI (nI o)), none]) (o + 1)) (rfl) ⟨rfl, rfl, rfl, rfl, (congrArg (fun z => some (vI z)) ((b2_1 (by show (an_ (fun o => decide (¬ o = c) && us_ s (V 0 37 6) i j o && dm_ s ((i * 8 + j) * 8 + o) ((i * 8 + j) * 8 + c)) o || _) = _; rw [c99]; rfl)).symm)), rfl, trivial⟩ (ih18 (by omega))
                · skip
                  refine r_iload (pc2 := 104) dX8_isDominated_102 rfl rfl ?_
                  refine r_if0N_eq (pc2 := 107) (tgt := 113) (by omega) dX8_isDominated_104 (by decide) rfl (fun c104 => ?_) (fun c104 => ?_)
                  · skip
                    refine r_iconst (pc2 := 114) (nI 1) dX8_isDominated_113 (by decide) rfl ?_
                    refine r_goto (pc2 := 118) dX8_isDominated_114 (by decide) ?_
                    refine r_istore (pc2 := 120) dX8_isDominated_118 (by decide) rfl rfl ?_
                    refine r_iincN (pc2 := 123) dX8_isDominated_120 rfl (by decide) rfl rfl ?_
                    refine r_goto (pc2 := 18) dX8_isDominated_123 (by decide) ?_
                    exact Rc_.to (lo' := (fun o : Nat => [some (vR 0 33), some (vI (nI i)), some (vI (nI j)), some (vI (nI c)), some (vI (b2 ((an_ (fun o => decide (¬ o = c) && us_ s (V 0 37 6) i j o && dm_ s ((i * 8 + j) * 8 + o) ((i * 8 + j) * 8 + c)) o)))), some (vI (nI o)), none]) (o + 1)) (rfl) ⟨rfl, rfl, rfl, rfl, (congrArg (fun z => some (vI z)) ((b2_1 (by show (an_ (fun o => decide (¬ o = c) && us_ s (V 0 37 6) i j o && dm_ s ((i * 8 + j) * 8 + o) ((i * 8 + j) * 8 + c)) o || _) = _; rw [show (fun o => decide (¬ o = c) && us_ s (V 0 37 6) i j o && dm_ s ((i * 8 + j) * 8 + o) ((i * 8 + j) * 8 + c)) o = true from by show (decide (¬ o = c) && us_ s (V 0 37 6) i j o && dm_ s ((i * 8 + j) * 8 + o) ((i * 8 + j) * 8 + c)) = true; rw [decide_eq_true c30, c47, show dm_ s ((i * 8 + j) * 8 + o) ((i * 8 + j) * 8 + c) = true from decide_eq_true ⟨by first | exact c67 | exact Int32.not_lt.mp c67, Or.inl (by first | exact c87 | exact Int32.not_le.mp c87)⟩]; rfl, Bool.or_true])).symm)), rfl, trivial⟩ (ih18 (by omega))
                  · skip
                    exact absurd rfl c104
              · skip
                refine r_iconst (pc2 := 91) (nI 1) dX8_isDominated_90 (by decide) rfl ?_
                refine r_goto (pc2 := 95) dX8_isDominated_91 (by decide) ?_
                refine r_istore (pc2 := 97) dX8_isDominated_95 (by decide) rfl rfl ?_
                refine r_iload (pc2 := 99) dX8_isDominated_97 rfl rfl ?_
                refine r_ifB_ne (pc2 := 102) (tgt := 113) dX8_isDominated_99 (by decide) rfl (fun c99 => ?_) (fun c99 => ?_)
                · skip
                  refine r_iconst (pc2 := 114) (nI 1) dX8_isDominated_113 (by decide) rfl ?_
                  refine r_goto (pc2 := 118) dX8_isDominated_114 (by decide) ?_
                  refine r_istore (pc2 := 120) dX8_isDominated_118 (by decide) rfl rfl ?_
                  refine r_iincN (pc2 := 123) dX8_isDominated_120 rfl (by decide) rfl rfl ?_
                  refine r_goto (pc2 := 18) dX8_isDominated_123 (by decide) ?_
                  exact Rc_.to (lo' := (fun o : Nat => [some (vR 0 33), some (vI (nI i)), some (vI (nI j)), some (vI (nI c)), some (vI (b2 ((an_ (fun o => decide (¬ o = c) && us_ s (V 0 37 6) i j o && dm_ s ((i * 8 + j) * 8 + o) ((i * 8 + j) * 8 + c)) o)))), some (vI (nI o)), none]) (o + 1)) (rfl) ⟨rfl, rfl, rfl, rfl, (congrArg (fun z => some (vI z)) ((b2_1 (by show (an_ (fun o => decide (¬ o = c) && us_ s (V 0 37 6) i j o && dm_ s ((i * 8 + j) * 8 + o) ((i * 8 + j) * 8 + c)) o || _) = _; rw [c99]; rfl)).symm)), rfl, trivial⟩ (ih18 (by omega))
                · skip
                  refine r_iload (pc2 := 104) dX8_isDominated_102 rfl rfl ?_
                  refine r_if0N_eq (pc2 := 107) (tgt := 113) (by omega) dX8_isDominated_104 (by decide) rfl (fun c104 => ?_) (fun c104 => ?_)
                  · skip
                    exact absurd c104 (by decide)
                  · skip
                    refine r_iload_n (pc2 := 108) dX8_isDominated_107 rfl rfl ?_
                    refine r_iload (pc2 := 110) dX8_isDominated_108 rfl rfl ?_
                    refine r_icN_le (pc2 := 113) (tgt := 117) (by omega) (by omega) dX8_isDominated_110 (by decide) rfl (fun c110 => ?_) (fun c110 => ?_)
                    · skip
                      refine r_iconst (pc2 := 118) (nI 0) dX8_isDominated_117 (by decide) rfl ?_
                      refine r_istore (pc2 := 120) dX8_isDominated_118 (by decide) rfl rfl ?_
                      refine r_iincN (pc2 := 123) dX8_isDominated_120 rfl (by decide) rfl rfl ?_
                      refine r_goto (pc2 := 18) dX8_isDominated_123 (by decide) ?_
                      exact Rc_.to (lo' := (fun o : Nat => [some (vR 0 33), some (vI (nI i)), some (vI (nI j)), some (vI (nI c)), some (vI (b2 ((an_ (fun o => decide (¬ o = c) && us_ s (V 0 37 6) i j o && dm_ s ((i * 8 + j) * 8 + o) ((i * 8 + j) * 8 + c)) o)))), some (vI (nI o)), none]) (o + 1)) (rfl) ⟨rfl, rfl, rfl, rfl, (congrArg (fun z => some (vI z)) ((b2_0 (by show (an_ (fun o => decide (¬ o = c) && us_ s (V 0 37 6) i j o && dm_ s ((i * 8 + j) * 8 + o) ((i * 8 + j) * 8 + c)) o || _) = _; rw [c99, show (fun o => decide (¬ o = c) && us_ s (V 0 37 6) i j o && dm_ s ((i * 8 + j) * 8 + o) ((i * 8 + j) * 8 + c)) o = false from by show (decide (¬ o = c) && us_ s (V 0 37 6) i j o && dm_ s ((i * 8 + j) * 8 + o) ((i * 8 + j) * 8 + c)) = false; rw [show dm_ s ((i * 8 + j) * 8 + o) ((i * 8 + j) * 8 + c) = false from decide_eq_false (fun z => z.2.elim (fun q => c87 q) (fun q => by omega)), Bool.and_false]]; rfl)).symm)), rfl, trivial⟩ (ih18 (by omega))
                    · skip
                      refine r_iconst (pc2 := 114) (nI 1) dX8_isDominated_113 (by decide) rfl ?_
                      refine r_goto (pc2 := 118) dX8_isDominated_114 (by decide) ?_
                      refine r_istore (pc2 := 120) dX8_isDominated_118 (by decide) rfl rfl ?_
                      refine r_iincN (pc2 := 123) dX8_isDominated_120 rfl (by decide) rfl rfl ?_
                      refine r_goto (pc2 := 18) dX8_isDominated_123 (by decide) ?_
                      exact Rc_.to (lo' := (fun o : Nat => [some (vR 0 33), some (vI (nI i)), some (vI (nI j)), some (vI (nI c)), some (vI (b2 ((an_ (fun o => decide (¬ o = c) && us_ s (V 0 37 6) i j o && dm_ s ((i * 8 + j) * 8 + o) ((i * 8 + j) * 8 + c)) o)))), some (vI (nI o)), none]) (o + 1)) (rfl) ⟨rfl, rfl, rfl, rfl, (congrArg (fun z => some (vI z)) ((b2_1 (by show (an_ (fun o => decide (¬ o = c) && us_ s (V 0 37 6) i j o && dm_ s ((i * 8 + j) * 8 + o) ((i * 8 + j) * 8 + c)) o || _) = _; rw [show (fun o => decide (¬ o = c) && us_ s (V 0 37 6) i j o && dm_ s ((i * 8 + j) * 8 + o) ((i * 8 + j) * 8 + c)) o = true from by show (decide (¬ o = c) && us_ s (V 0 37 6) i j o && dm_ s ((i * 8 + j) * 8 + o) ((i * 8 + j) * 8 + c)) = true; rw [decide_eq_true c30, c47, show dm_ s ((i * 8 + j) * 8 + o) ((i * 8 + j) * 8 + c) = true from decide_eq_true ⟨by first | exact c67 | exact Int32.not_lt.mp c67, Or.inr (by omega)⟩]; rfl, Bool.or_true])).symm)), rfl, trivial⟩ (ih18 (by omega))
  · skip
    refine r_iconst (pc2 := 11) (nI 0) dX8_isDominated_10 (by decide) rfl ?_
    exact r_zret dX8_isDominated_11 rfl (Or.inl rfl) (⟨b2_0 (by unfold do_; rw [c7]; rfl), rfl⟩)
