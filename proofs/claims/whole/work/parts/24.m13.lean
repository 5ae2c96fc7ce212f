/-! reference: bounds, choices, domination: written by wip/whole/m13.py -/
theorem nI_m1 {c : Nat} (hc : c < 2 ^ 31) : ¬ nI c = -1 := fun h => by
  have h2 := congrArg Int32.toInt h
  rw [nI_toInt hc] at h2
  have : (-1 : Int32).toInt = -1 := by decide
  omega
theorem i_3 : (30000 : Int32).toInt = 30000 := by decide
theorem i_0 : (0 : Int32).toInt = 0 := by decide
theorem i_m1 : (-1 : Int32).toInt = -1 := by decide
theorem sub_i {x y : Int32} (h : 0 ≤ x ∧ x ≤ 30000) (h2 : 0 ≤ y ∧ y ≤ 30000) : (x - y).toInt = x.toInt - y.toInt := by
  simp only [Int32.le_iff_toInt_le, i_3, i_0] at h h2
  rw [Int32.toInt_sub]
  exact Int.bmod_eq_of_le (by omega) (by omega)
theorem ul_t {s : Sg_} {inf : Int32} {m a b : Nat} (h : us_ s inf a b m = true) : ul_ s inf (m + 1) a b = ul_ s inf m a b ++ [m] := by
  unfold ul_
  rw [List.range_succ, List.filter_append]
  simp [h]
theorem ul_f {s : Sg_} {inf : Int32} {m a b : Nat} (h : us_ s inf a b m = false) : ul_ s inf (m + 1) a b = ul_ s inf m a b := by
  unfold ul_
  rw [List.range_succ, List.filter_append]
  simp [h]
theorem us_self {s : Sg_} {inf : Int32} {a b : Nat} (iv : IV_ s) (ha : a < 8) : us_ s inf a b a = false := decide_eq_false (fun z => iv.ud a ha z.1)
theorem us_own {s : Sg_} {inf : Int32} {a c : Nat} (iv : IV_ s) (ha : a < 8) (hc : c < 8) : us_ s inf a a c = false := decide_eq_false (fun z => iv.sd a c ha hc z.2.1)
theorem ul_own {s : Sg_} {inf : Int32} {a : Nat} (iv : IV_ s) (ha : a < 8) : ∀ m, m ≤ 8 → ul_ s inf m a a = []
  | 0, _ => rfl
  | m + 1, h => by rw [ul_f (us_own iv ha (by omega)), ul_own iv ha m (by omega)]
theorem gD_l {L : List Nat} {m i : Nat} (h : i < L.length) : (L ++ [m]).getD i 0 = L.getD i 0 := by
  rw [List.getD_eq_getElem?_getD, List.getD_eq_getElem?_getD, List.getElem?_append_left h]
theorem gD_r {L : List Nat} {m : Nat} : (L ++ [m]).getD L.length 0 = m := by
  rw [List.getD_eq_getElem?_getD, List.getElem?_append_right (Nat.le_refl _), Nat.sub_self]; rfl
theorem nn_i {x : Int32} (h : 0 ≤ x) : ¬ x < 0 := Int32.not_lt.mpr h
theorem le_mn {s : Sg_} {inf : Int32} {a b r : Nat} (iv : IV_ s) (ha : a < 8) (hb : b < 8) (hr : ∀ k, k < 512 → 0 ≤ s r k ∧ s r k ≤ 30000) : ∀ m, m ≤ 8 → le_ s inf a b r (-1) m = mn_ (pb_ s inf m r a b) (-1) (ul_ s inf m a b).length ∧ ((0 ≤ le_ s inf a b r (-1) m ∧ le_ s inf a b r (-1) m ≤ 30000) ∨ (ul_ s inf m a b).length = 0)
  | 0, _ => ⟨rfl, Or.inr rfl⟩
  | m + 1, h => by
    obtain ⟨ih1, ih2⟩ := le_mn (inf := inf) iv ha hb hr m (by omega)
    cases hu : us_ s inf a b m with
    | false =>
      have e : le_ s inf a b r (-1) (m + 1) = le_ s inf a b r (-1) m := by
        show (if _ then _ else _) = _
        rw [if_neg (fun z => by rw [hu] at z; exact absurd z.2.2 (by decide))]
      have e2 : pb_ s inf (m + 1) r a b = pb_ s inf m r a b := by unfold pb_; rw [ul_f hu]
      rw [e, e2, ul_f hu]
      exact ⟨ih1, ih2⟩
    | true =>
      have hma : ¬ m = a := fun z => by rw [z, us_self iv ha] at hu; cases hu
      have hv := hr ((a * 8 + b) * 8 + m) (by omega)
      have e : le_ s inf a b r (-1) (m + 1) = if le_ s inf a b r (-1) m < 0 ∨ s r ((a * 8 + b) * 8 + m) < le_ s inf a b r (-1) m then s r ((a * 8 + b) * 8 + m) else le_ s inf a b r (-1) m := by
        show (if _ then _ else _) = _
        rw [if_pos ⟨hma, nI_m1 (by omega), hu⟩]
      have hl : (ul_ s inf (m + 1) a b).length = (ul_ s inf m a b).length + 1 := by rw [ul_t hu, List.length_append]; rfl
      have ep : ∀ i, i < (ul_ s inf m a b).length → pb_ s inf (m + 1) r a b i = pb_ s inf m r a b i := fun i hi => by unfold pb_; rw [ul_t hu, gD_l hi]
      have eq : pb_ s inf (m + 1) r a b (ul_ s inf m a b).length = s r ((a * 8 + b) * 8 + m) := by unfold pb_; rw [ul_t hu, gD_r]
      have em : mn_ (pb_ s inf (m + 1) r a b) (-1) (ul_ s inf m a b).length = le_ s inf a b r (-1) m := by rw [ih1]; exact mn_cong ep
      refine ⟨?_, Or.inl ?_⟩
      · rw [e, hl]
        by_cases e0 : (ul_ s inf m a b).length = 0
        · have el : le_ s inf a b r (-1) m = -1 := by rw [ih1, e0]; rfl
          rw [mn_, if_pos e0, if_pos (Or.inl (by rw [el]; decide)), ← eq, e0]
        · rw [mn_1 e0, eq, em]
          rcases ih2 with h2 | h2
          · by_cases hc : s r ((a * 8 + b) * 8 + m) < le_ s inf a b r (-1) m
            · rw [if_pos (Or.inr hc), if_pos hc]
            · rw [if_neg (fun z => z.elim (nn_i h2.1) hc), if_neg hc]
          · exact absurd h2 e0
      · rw [e]
        split
        · exact hv
        · rename_i hn
          rcases ih2 with h2 | h2
          · exact h2
          · exact absurd (Or.inl (by rw [ih1, h2]; exact (by decide : (-1 : Int32) < 0))) hn
theorem bo_1 {s : Sg_} {inf : Int32} {n a b : Nat} (iv : IV_ s) (ha : a < 8) (hb : b < 8) (hn8 : n ≤ 8) : (if a = b then nI 0 else le_ s inf a b 7 (-1) n) = dl_ s inf n a b := by
  unfold dl_
  by_cases e : a = b
  · subst e; rw [if_pos rfl, if_pos rfl, ul_own iv ha n hn8]; rfl
  · rw [if_neg e, if_neg e]; exact (le_mn iv ha hb iv.b7 n hn8).1
theorem bo_2 {s : Sg_} {inf : Int32} {n a b : Nat} (iv : IV_ s) (ha : a < 8) (hb : b < 8) (hn8 : n ≤ 8) : (if a = b then nI 0 else le_ s inf a b 8 (-1) n) = du_ s inf n a b := by
  unfold du_
  by_cases e : a = b
  · subst e; rw [if_pos rfl, if_pos rfl, ul_own iv ha n hn8]; rfl
  · rw [if_neg e, if_neg e]; exact (le_mn iv ha hb iv.b8 n hn8).1
/-- bounds of a bound -/
theorem du_b {s : Sg_} {inf : Int32} {n a b : Nat} (iv : IV_ s) (ha : a < 8) (hb : b < 8) (hn8 : n ≤ 8) : du_ s inf n a b = -1 ∨ (0 ≤ du_ s inf n a b ∧ du_ s inf n a b ≤ 30000) := by
  rw [← bo_2 iv ha hb hn8]
  by_cases e : a = b
  · rw [if_pos e]; exact Or.inr (by decide)
  · rw [if_neg e]
    obtain ⟨h1, h2⟩ := le_mn (inf := inf) (b := b) iv ha hb iv.b8 n hn8
    rcases h2 with h2 | h2
    · exact Or.inr h2
    · exact Or.inl (by rw [h1, h2]; rfl)
theorem dl_b {s : Sg_} {inf : Int32} {n a b : Nat} (iv : IV_ s) (ha : a < 8) (hb : b < 8) (hn8 : n ≤ 8) : (du_ s inf n a b = -1 ∧ dl_ s inf n a b = -1) ∨ (¬ du_ s inf n a b = -1 ∧ 0 ≤ dl_ s inf n a b ∧ dl_ s inf n a b ≤ 30000) := by
  rw [← bo_2 iv ha hb hn8, ← bo_1 iv ha hb hn8]
  by_cases e : a = b
  · rw [if_pos e, if_pos e]; exact Or.inr (by decide)
  · rw [if_neg e, if_neg e]
    obtain ⟨h1, h2⟩ := le_mn (inf := inf) (b := b) iv ha hb iv.b8 n hn8
    obtain ⟨h3, h4⟩ := le_mn (inf := inf) (b := b) iv ha hb iv.b7 n hn8
    by_cases e0 : (ul_ s inf n a b).length = 0
    · exact Or.inl ⟨by rw [h1, e0]; rfl, by rw [h3, e0]; rfl⟩
    · refine Or.inr ⟨fun z => ?_, h4.resolve_right e0⟩
      have := (h2.resolve_right e0).1
      rw [z] at this
      exact absurd this (by decide)

set_option maxRecDepth 100000 in
set_option maxHeartbeats 4000000 in
theorem c_X8_boundOf1 {PL : List (Nat × Nat)} {n : Nat} {V : Mm_} {s : Sg_} (h : RT_ (V 0 34) s) (hm : V 0 33 0 = nI n) (hn8 : n ≤ 8) {i j : Nat} (hi : i < 8) (hj : j < 8) : Cp_ PL mX8_boundOf [vR 0 33, vI (nI i), vI (nI j), vI (nI 1)] V (dl_ s (V 0 37 6) n i j) := by
  refine Ca_.of mv_X8_boundOf.2.2.2.2.2.2 0 (lo := [some (vR 0 33), some (vI (nI i)), some (vI (nI j)), some (vI (nI 1))]) rfl (Nat.le_of_ble_eq_true rfl) ?_
  refine r_iload_n (pc2 := 1) dX8_boundOf_0 rfl rfl ?_
  refine r_iload_n (pc2 := 2) dX8_boundOf_1 rfl rfl ?_
  refine r_icN_ne (pc2 := 5) (tgt := 9) (by omega) (by omega) dX8_boundOf_2 (by decide) rfl (fun c2 => ?_) (fun c2 => ?_)
  · skip
    refine r_aload_n (pc2 := 10) dX8_boundOf_9 rfl rfl ?_
    refine r_iload_n (pc2 := 11) dX8_boundOf_10 rfl rfl ?_
    refine r_iload_n (pc2 := 12) dX8_boundOf_11 rfl rfl ?_
    refine r_iload_n (pc2 := 13) dX8_boundOf_12 rfl rfl ?_
    refine r_iconst (pc2 := 14) (-1) dX8_boundOf_13 (by decide) rfl ?_
    refine r_cv4p (pc2 := 17) dX8_boundOf_14 st_X8_boundOf_97 rl_X8_least (Nat.le_of_ble_eq_true rfl) rfl (c_X8_least h hm hn8 hi hj (w := 1) (by omega) (by omega)) ?_
    exact r_iret dX8_boundOf_17 rfl (⟨(if_neg c2).symm.trans (bo_1 h.iv hi hj hn8), rfl⟩)
  · skip
    refine r_iconst (pc2 := 6) (nI 0) dX8_boundOf_5 (by decide) rfl ?_
    refine r_goto (pc2 := 17) dX8_boundOf_6 (by decide) ?_
    exact r_iret dX8_boundOf_17 rfl (⟨(if_pos c2).symm.trans (bo_1 h.iv hi hj hn8), rfl⟩)

set_option maxRecDepth 100000 in
set_option maxHeartbeats 4000000 in
theorem c_X8_boundOf2 {PL : List (Nat × Nat)} {n : Nat} {V : Mm_} {s : Sg_} (h : RT_ (V 0 34) s) (hm : V 0 33 0 = nI n) (hn8 : n ≤ 8) {i j : Nat} (hi : i < 8) (hj : j < 8) : Cp_ PL mX8_boundOf [vR 0 33, vI (nI i), vI (nI j), vI (nI 2)] V (du_ s (V 0 37 6) n i j) := by
  refine Ca_.of mv_X8_boundOf.2.2.2.2.2.2 0 (lo := [some (vR 0 33), some (vI (nI i)), some (vI (nI j)), some (vI (nI 2))]) rfl (Nat.le_of_ble_eq_true rfl) ?_
  refine r_iload_n (pc2 := 1) dX8_boundOf_0 rfl rfl ?_
  refine r_iload_n (pc2 := 2) dX8_boundOf_1 rfl rfl ?_
  refine r_icN_ne (pc2 := 5) (tgt := 9) (by omega) (by omega) dX8_boundOf_2 (by decide) rfl (fun c2 => ?_) (fun c2 => ?_)
  · skip
    refine r_aload_n (pc2 := 10) dX8_boundOf_9 rfl rfl ?_
    refine r_iload_n (pc2 := 11) dX8_boundOf_10 rfl rfl ?_
    refine r_iload_n (pc2 := 12) dX8_boundOf_11 rfl rfl ?_
    refine r_iload_n (pc2 := 13) dX8_boundOf_12 rfl rfl ?_
    refine r_iconst (pc2 := 14) (-1) dX8_boundOf_13 (by decide) rfl ?_
    refine r_cv4p (pc2 := 17) dX8_boundOf_14 st_X8_boundOf_97 rl_X8_least (Nat.le_of_ble_eq_true rfl) rfl (c_X8_least h hm hn8 hi hj (w := 2) (by omega) (by omega)) ?_
    exact r_iret dX8_boundOf_17 rfl (⟨(if_neg c2).symm.trans (bo_2 h.iv hi hj hn8), rfl⟩)
  · skip
    refine r_iconst (pc2 := 6) (nI 0) dX8_boundOf_5 (by decide) rfl ?_
    refine r_goto (pc2 := 17) dX8_boundOf_6 (by decide) ?_
    exact r_iret dX8_boundOf_17 rfl (⟨(if_pos c2).symm.trans (bo_2 h.iv hi hj hn8), rfl⟩)

/-- what is looked at first, and then -/
def fn1_ (U o : Int32) : Int32 := if o < 0 ∨ U < o then nI 0 else U - o
def w1_ (rule : Int32) (s : Sg_) (inf : Int32) (n a b c : Nat) : Int32 := if rule = nI 1 then fn1_ (s 8 ((a * 8 + b) * 8 + c)) (le_ s inf a b 7 (nI c) n) else if rule = nI 2 then s 7 ((a * 8 + b) * 8 + c) else s 8 ((a * 8 + b) * 8 + c)
def w2_ (rule : Int32) (s : Sg_) (a b c : Nat) : Int32 := if rule = nI 1 then s 8 ((a * 8 + b) * 8 + c) else if rule = nI 2 then s 8 ((a * 8 + b) * 8 + c) else s 7 ((a * 8 + b) * 8 + c)
def ru_ (x : Int32) : Prop := x = nI 0 ∨ x = nI 1 ∨ x = nI 2
set_option maxRecDepth 100000 in
set_option maxHeartbeats 4000000 in
theorem c_X8_weight1 {PL : List (Nat × Nat)} {n : Nat} {V : Mm_} {s : Sg_} (h : RT_ (V 0 34) s) (hm : V 0 33 0 = nI n) (hn8 : n ≤ 8) (hr : ru_ (V 0 37 2)) {i j c : Nat} (hi : i < 8) (hj : j < 8) (hc : c < 8) : Cp_ PL mX8_weight [vR 0 33, vI (nI i), vI (nI j), vI (nI c), vI (nI 1)] V (w1_ (V 0 37 2) s (V 0 37 6) n i j c) := by
  refine Ca_.of mv_X8_weight.2.2.2.2.2.2 3 (lo := [some (vR 0 33), some (vI (nI i)), some (vI (nI j)), some (vI (nI c)), some (vI (nI 1)), none, none, none]) rfl (Nat.le_of_ble_eq_true rfl) ?_
  refine r_aload_n (pc2 := 1) dX8_weight_0 rfl rfl ?_
  refine r_iload_n (pc2 := 2) dX8_weight_1 rfl rfl ?_
  refine r_iload_n (pc2 := 3) dX8_weight_2 rfl rfl ?_
  refine r_iload_n (pc2 := 4) dX8_weight_3 rfl rfl ?_
  refine r_iconst (pc2 := 5) (nI 1) dX8_weight_4 (by decide) rfl ?_
  refine r_cv4p (pc2 := 8) dX8_weight_5 st_X8_weight_85 rl_X8_of (Nat.le_of_ble_eq_true rfl) rfl (c_X8_of h (by omega) (by omega) (by omega) (w := 1) (r := 7) (by omega) (by omega) rfl) ?_
  refine r_istore (pc2 := 10) dX8_weight_8 (by decide) rfl rfl ?_
  refine r_aload_n (pc2 := 11) dX8_weight_10 rfl rfl ?_
  refine r_iload_n (pc2 := 12) dX8_weight_11 rfl rfl ?_
  refine r_iload_n (pc2 := 13) dX8_weight_12 rfl rfl ?_
  refine r_iload_n (pc2 := 14) dX8_weight_13 rfl rfl ?_
  refine r_iconst (pc2 := 15) (nI 2) dX8_weight_14 (by decide) rfl ?_
  refine r_cv4p (pc2 := 18) dX8_weight_15 st_X8_weight_85 rl_X8_of (Nat.le_of_ble_eq_true rfl) rfl (c_X8_of h (by omega) (by omega) (by omega) (w := 2) (r := 8) (by omega) (by omega) rfl) ?_
  refine r_istore (pc2 := 20) dX8_weight_18 (by decide) rfl rfl ?_
  refine r_aload_n (pc2 := 21) dX8_weight_20 rfl rfl ?_
  refine r_getR (pc2 := 24) dX8_weight_21 fl_X8_23 (by decide) rfl rfl rfl ?_
  refine r_iconst (pc2 := 25) (nI 2) dX8_weight_24 (by decide) rfl ?_
  refine r_ialde (pc2 := 26) (x := ((V 0 37 2))) (j := _) (rfl) dX8_weight_25 (by decide) rfl rfl (rfl) (by show _ < 10; omega) rfl ?_
  refine r_iconst (pc2 := 27) (nI 1) dX8_weight_26 (by decide) rfl ?_
  refine r_ic_ne (pc2 := 30) (tgt := 67) dX8_weight_27 (by decide) rfl (fun c27 => ?_) (fun c27 => ?_)
  · skip
    refine r_aload_n (pc2 := 68) dX8_weight_67 rfl rfl ?_
    refine r_getR (pc2 := 71) dX8_weight_68 fl_X8_23 (by decide) rfl rfl rfl ?_
    refine r_iconst (pc2 := 72) (nI 2) dX8_weight_71 (by decide) rfl ?_
    refine r_iald (pc2 := 73) (j := _) dX8_weight_72 (by decide) rfl rfl (rfl) (by show _ < 10; omega) rfl ?_
    refine r_if_ne (pc2 := 76) (tgt := 80) dX8_weight_73 (by decide) rfl (fun c73 => ?_) (fun c73 => ?_)
    · skip
      refine r_iconst (pc2 := 81) (nI 0) dX8_weight_80 (by decide) rfl ?_
      refine r_iload (pc2 := 83) dX8_weight_81 rfl rfl ?_
      refine r_icN_eq (pc2 := 86) (tgt := 96) (by omega) (by omega) dX8_weight_83 (by decide) rfl (fun c83 => ?_) (fun c83 => ?_)
      · skip
        refine r_iload (pc2 := 98) dX8_weight_96 rfl rfl ?_
        refine r_goto (pc2 := 103) dX8_weight_98 (by decide) ?_
        exact r_iret dX8_weight_103 rfl (⟨by unfold w1_; generalize V 0 37 2 = q at hr c27 c73 c83 ⊢; rcases hr with rfl | rfl | rfl <;> first | rfl | exact absurd c27 (by decide) | exact absurd c73 (by decide) | exact absurd c83 (by decide), rfl⟩)
      · skip
        refine r_aload_n (pc2 := 87) dX8_weight_86 rfl rfl ?_
        refine r_getR (pc2 := 90) dX8_weight_87 fl_X8_23 (by decide) rfl rfl rfl ?_
        refine r_iconst (pc2 := 91) (nI 2) dX8_weight_90 (by decide) rfl ?_
        refine r_iald (pc2 := 92) (j := _) dX8_weight_91 (by decide) rfl rfl (rfl) (by show _ < 10; omega) rfl ?_
        refine r_iconst (pc2 := 93) (nI 1) dX8_weight_92 (by decide) rfl ?_
        refine r_ic_ne (pc2 := 96) (tgt := 101) dX8_weight_93 (by decide) rfl (fun c93 => ?_) (fun c93 => ?_)
        · skip
          refine r_iload (pc2 := 103) dX8_weight_101 rfl rfl ?_
          exact r_iret dX8_weight_103 rfl (⟨by unfold w1_; generalize V 0 37 2 = q at hr c27 c73 c83 c93 ⊢; rcases hr with rfl | rfl | rfl <;> first | rfl | exact absurd c27 (by decide) | exact absurd c73 (by decide) | exact absurd c83 (by decide) | exact absurd c93 (by decide), rfl⟩)
        · skip
          refine r_iload (pc2 := 98) dX8_weight_96 rfl rfl ?_
          refine r_goto (pc2 := 103) dX8_weight_98 (by decide) ?_
          exact r_iret dX8_weight_103 rfl (⟨by unfold w1_; generalize V 0 37 2 = q at hr c27 c73 c83 c93 ⊢; rcases hr with rfl | rfl | rfl <;> first | rfl | exact absurd c27 (by decide) | exact absurd c73 (by decide) | exact absurd c83 (by decide) | exact absurd c93 (by decide), rfl⟩)
    · skip
      refine r_iconst (pc2 := 77) (nI 1) dX8_weight_76 (by decide) rfl ?_
      refine r_goto (pc2 := 81) dX8_weight_77 (by decide) ?_
      refine r_iload (pc2 := 83) dX8_weight_81 rfl rfl ?_
      refine r_icN_eq (pc2 := 86) (tgt := 96) (by omega) (by omega) dX8_weight_83 (by decide) rfl (fun c83 => ?_) (fun c83 => ?_)
      · skip
        refine r_iload (pc2 := 98) dX8_weight_96 rfl rfl ?_
        refine r_goto (pc2 := 103) dX8_weight_98 (by decide) ?_
        exact r_iret dX8_weight_103 rfl (⟨by unfold w1_; generalize V 0 37 2 = q at hr c27 c73 c83 ⊢; rcases hr with rfl | rfl | rfl <;> first | rfl | exact absurd c27 (by decide) | exact absurd c73 (by decide) | exact absurd c83 (by decide), rfl⟩)
      · skip
        refine r_aload_n (pc2 := 87) dX8_weight_86 rfl rfl ?_
        refine r_getR (pc2 := 90) dX8_weight_87 fl_X8_23 (by decide) rfl rfl rfl ?_
        refine r_iconst (pc2 := 91) (nI 2) dX8_weight_90 (by decide) rfl ?_
        refine r_iald (pc2 := 92) (j := _) dX8_weight_91 (by decide) rfl rfl (rfl) (by show _ < 10; omega) rfl ?_
        refine r_iconst (pc2 := 93) (nI 1) dX8_weight_92 (by decide) rfl ?_
        refine r_ic_ne (pc2 := 96) (tgt := 101) dX8_weight_93 (by decide) rfl (fun c93 => ?_) (fun c93 => ?_)
        · skip
          refine r_iload (pc2 := 103) dX8_weight_101 rfl rfl ?_
          exact r_iret dX8_weight_103 rfl (⟨by unfold w1_; generalize V 0 37 2 = q at hr c27 c73 c83 c93 ⊢; rcases hr with rfl | rfl | rfl <;> first | rfl | exact absurd c27 (by decide) | exact absurd c73 (by decide) | exact absurd c83 (by decide) | exact absurd c93 (by decide), rfl⟩)
        · skip
          refine r_iload (pc2 := 98) dX8_weight_96 rfl rfl ?_
          refine r_goto (pc2 := 103) dX8_weight_98 (by decide) ?_
          exact r_iret dX8_weight_103 rfl (⟨by unfold w1_; generalize V 0 37 2 = q at hr c27 c73 c83 c93 ⊢; rcases hr with rfl | rfl | rfl <;> first | rfl | exact absurd c27 (by decide) | exact absurd c73 (by decide) | exact absurd c83 (by decide) | exact absurd c93 (by decide), rfl⟩)
  · skip
    refine r_iload (pc2 := 32) dX8_weight_30 rfl rfl ?_
    refine r_if0N_eq (pc2 := 35) (tgt := 67) (by omega) dX8_weight_32 (by decide) rfl (fun c32 => ?_) (fun c32 => ?_)
    · skip
      exact absurd c32 (by decide)
    · skip
      refine r_aload_n (pc2 := 36) dX8_weight_35 rfl rfl ?_
      refine r_iload_n (pc2 := 37) dX8_weight_36 rfl rfl ?_
      refine r_iload_n (pc2 := 38) dX8_weight_37 rfl rfl ?_
      refine r_iconst (pc2 := 39) (nI 1) dX8_weight_38 (by decide) rfl ?_
      refine r_iload_n (pc2 := 40) dX8_weight_39 rfl rfl ?_
      refine r_cv4p (pc2 := 43) dX8_weight_40 st_X8_weight_97 rl_X8_least (Nat.le_of_ble_eq_true rfl) rfl (c_X8_least h hm hn8 hi hj (w := 1) (by omega) (by omega)) ?_
      refine r_istore (pc2 := 45) dX8_weight_43 (by decide) rfl rfl ?_
      refine r_iload (pc2 := 47) dX8_weight_45 rfl rfl ?_
      refine r_if_lt (pc2 := 50) (tgt := 57) dX8_weight_47 (by decide) rfl (fun c47 => ?_) (fun c47 => ?_)
      · skip
        refine r_iconst (pc2 := 58) (nI 0) dX8_weight_57 (by decide) rfl ?_
        refine r_goto (pc2 := 66) dX8_weight_58 (by decide) ?_
        exact r_iret dX8_weight_66 rfl (⟨by unfold w1_ fn1_; rw [if_pos c27]; rw [if_pos (Or.inl c47)], rfl⟩)
      · skip
        refine r_iload (pc2 := 52) dX8_weight_50 rfl rfl ?_
        refine r_iload (pc2 := 54) dX8_weight_52 rfl rfl ?_
        refine r_ic_ge (pc2 := 57) (tgt := 61) dX8_weight_54 (by decide) rfl (fun c54 => ?_) (fun c54 => ?_)
        · skip
          refine r_iload (pc2 := 63) dX8_weight_61 rfl rfl ?_
          refine r_iload (pc2 := 65) dX8_weight_63 rfl rfl ?_
          refine r_isub (pc2 := 66) dX8_weight_65 rfl ?_
          exact r_iret dX8_weight_66 rfl (⟨by unfold w1_ fn1_; rw [if_pos c27]; rw [if_neg (fun z => z.elim c47 (Int32.not_lt.mpr c54))], rfl⟩)
        · skip
          refine r_iconst (pc2 := 58) (nI 0) dX8_weight_57 (by decide) rfl ?_
          refine r_goto (pc2 := 66) dX8_weight_58 (by decide) ?_
          exact r_iret dX8_weight_66 rfl (⟨by unfold w1_ fn1_; rw [if_pos c27]; rw [if_pos (Or.inr (Int32.not_le.mp c54))], rfl⟩)

set_option maxRecDepth 100000 in
set_option maxHeartbeats 4000000 in
theorem c_X8_weight2 {PL : List (Nat × Nat)} {V : Mm_} {s : Sg_} (h : RT_ (V 0 34) s) (hr : ru_ (V 0 37 2)) {i j c : Nat} (hi : i < 8) (hj : j < 8) (hc : c < 8) : Cp_ PL mX8_weight [vR 0 33, vI (nI i), vI (nI j), vI (nI c), vI (nI 0)] V (w2_ (V 0 37 2) s i j c) := by
  refine Ca_.of mv_X8_weight.2.2.2.2.2.2 3 (lo := [some (vR 0 33), some (vI (nI i)), some (vI (nI j)), some (vI (nI c)), some (vI (nI 0)), none, none, none]) rfl (Nat.le_of_ble_eq_true rfl) ?_
  refine r_aload_n (pc2 := 1) dX8_weight_0 rfl rfl ?_
  refine r_iload_n (pc2 := 2) dX8_weight_1 rfl rfl ?_
  refine r_iload_n (pc2 := 3) dX8_weight_2 rfl rfl ?_
  refine r_iload_n (pc2 := 4) dX8_weight_3 rfl rfl ?_
  refine r_iconst (pc2 := 5) (nI 1) dX8_weight_4 (by decide) rfl ?_
  refine r_cv4p (pc2 := 8) dX8_weight_5 st_X8_weight_85 rl_X8_of (Nat.le_of_ble_eq_true rfl) rfl (c_X8_of h (by omega) (by omega) (by omega) (w := 1) (r := 7) (by omega) (by omega) rfl) ?_
  refine r_istore (pc2 := 10) dX8_weight_8 (by decide) rfl rfl ?_
  refine r_aload_n (pc2 := 11) dX8_weight_10 rfl rfl ?_
  refine r_iload_n (pc2 := 12) dX8_weight_11 rfl rfl ?_
  refine r_iload_n (pc2 := 13) dX8_weight_12 rfl rfl ?_
  refine r_iload_n (pc2 := 14) dX8_weight_13 rfl rfl ?_
  refine r_iconst (pc2 := 15) (nI 2) dX8_weight_14 (by decide) rfl ?_
  refine r_cv4p (pc2 := 18) dX8_weight_15 st_X8_weight_85 rl_X8_of (Nat.le_of_ble_eq_true rfl) rfl (c_X8_of h (by omega) (by omega) (by omega) (w := 2) (r := 8) (by omega) (by omega) rfl) ?_
  refine r_istore (pc2 := 20) dX8_weight_18 (by decide) rfl rfl ?_
  refine r_aload_n (pc2 := 21) dX8_weight_20 rfl rfl ?_
  refine r_getR (pc2 := 24) dX8_weight_21 fl_X8_23 (by decide) rfl rfl rfl ?_
  refine r_iconst (pc2 := 25) (nI 2) dX8_weight_24 (by decide) rfl ?_
  refine r_ialde (pc2 := 26) (x := ((V 0 37 2))) (j := _) (rfl) dX8_weight_25 (by decide) rfl rfl (rfl) (by show _ < 10; omega) rfl ?_
  refine r_iconst (pc2 := 27) (nI 1) dX8_weight_26 (by decide) rfl ?_
  refine r_ic_ne (pc2 := 30) (tgt := 67) dX8_weight_27 (by decide) rfl (fun c27 => ?_) (fun c27 => ?_)
  · skip
    refine r_aload_n (pc2 := 68) dX8_weight_67 rfl rfl ?_
    refine r_getR (pc2 := 71) dX8_weight_68 fl_X8_23 (by decide) rfl rfl rfl ?_
    refine r_iconst (pc2 := 72) (nI 2) dX8_weight_71 (by decide) rfl ?_
    refine r_iald (pc2 := 73) (j := _) dX8_weight_72 (by decide) rfl rfl (rfl) (by show _ < 10; omega) rfl ?_
    refine r_if_ne (pc2 := 76) (tgt := 80) dX8_weight_73 (by decide) rfl (fun c73 => ?_) (fun c73 => ?_)
    · skip
      refine r_iconst (pc2 := 81) (nI 0) dX8_weight_80 (by decide) rfl ?_
      refine r_iload (pc2 := 83) dX8_weight_81 rfl rfl ?_
      refine r_icN_eq (pc2 := 86) (tgt := 96) (by omega) (by omega) dX8_weight_83 (by decide) rfl (fun c83 => ?_) (fun c83 => ?_)
      · skip
        refine r_iload (pc2 := 98) dX8_weight_96 rfl rfl ?_
        refine r_goto (pc2 := 103) dX8_weight_98 (by decide) ?_
        exact r_iret dX8_weight_103 rfl (⟨by unfold w2_; generalize V 0 37 2 = q at hr c27 c73 c83 ⊢; rcases hr with rfl | rfl | rfl <;> first | rfl | exact absurd c27 (by decide) | exact absurd c73 (by decide) | exact absurd c83 (by decide), rfl⟩)
      · skip
        refine r_aload_n (pc2 := 87) dX8_weight_86 rfl rfl ?_
        refine r_getR (pc2 := 90) dX8_weight_87 fl_X8_23 (by decide) rfl rfl rfl ?_
        refine r_iconst (pc2 := 91) (nI 2) dX8_weight_90 (by decide) rfl ?_
        refine r_iald (pc2 := 92) (j := _) dX8_weight_91 (by decide) rfl rfl (rfl) (by show _ < 10; omega) rfl ?_
        refine r_iconst (pc2 := 93) (nI 1) dX8_weight_92 (by decide) rfl ?_
        refine r_ic_ne (pc2 := 96) (tgt := 101) dX8_weight_93 (by decide) rfl (fun c93 => ?_) (fun c93 => ?_)
        · skip
          refine r_iload (pc2 := 103) dX8_weight_101 rfl rfl ?_
          exact r_iret dX8_weight_103 rfl (⟨by unfold w2_; generalize V 0 37 2 = q at hr c27 c73 c83 c93 ⊢; rcases hr with rfl | rfl | rfl <;> first | rfl | exact absurd c27 (by decide) | exact absurd c73 (by decide) | exact absurd c83 (by decide) | exact absurd c93 (by decide), rfl⟩)
        · skip
          refine r_iload (pc2 := 98) dX8_weight_96 rfl rfl ?_
          refine r_goto (pc2 := 103) dX8_weight_98 (by decide) ?_
          exact r_iret dX8_weight_103 rfl (⟨by unfold w2_; generalize V 0 37 2 = q at hr c27 c73 c83 c93 ⊢; rcases hr with rfl | rfl | rfl <;> first | rfl | exact absurd c27 (by decide) | exact absurd c73 (by decide) | exact absurd c83 (by decide) | exact absurd c93 (by decide), rfl⟩)
    · skip
      refine r_iconst (pc2 := 77) (nI 1) dX8_weight_76 (by decide) rfl ?_
      refine r_goto (pc2 := 81) dX8_weight_77 (by decide) ?_
      refine r_iload (pc2 := 83) dX8_weight_81 rfl rfl ?_
      refine r_icN_eq (pc2 := 86) (tgt := 96) (by omega) (by omega) dX8_weight_83 (by decide) rfl (fun c83 => ?_) (fun c83 => ?_)
      · skip
        refine r_iload (pc2 := 98) dX8_weight_96 rfl rfl ?_
        refine r_goto (pc2 := 103) dX8_weight_98 (by decide) ?_
        exact r_iret dX8_weight_103 rfl (⟨by unfold w2_; generalize V 0 37 2 = q at hr c27 c73 c83 ⊢; rcases hr with rfl | rfl | rfl <;> first | rfl | exact absurd c27 (by decide) | exact absurd c73 (by decide) | exact absurd c83 (by decide), rfl⟩)
      · skip
        refine r_aload_n (pc2 := 87) dX8_weight_86 rfl rfl ?_
        refine r_getR (pc2 := 90) dX8_weight_87 fl_X8_23 (by decide) rfl rfl rfl ?_
        refine r_iconst (pc2 := 91) (nI 2) dX8_weight_90 (by decide) rfl ?_
        refine r_iald (pc2 := 92) (j := _) dX8_weight_91 (by decide) rfl rfl (rfl) (by show _ < 10; omega) rfl ?_
        refine r_iconst (pc2 := 93) (nI 1) dX8_weight_92 (by decide) rfl ?_
        refine r_ic_ne (pc2 := 96) (tgt := 101) dX8_weight_93 (by decide) rfl (fun c93 => ?_) (fun c93 => ?_)
        · skip
          refine r_iload (pc2 := 103) dX8_weight_101 rfl rfl ?_
          exact r_iret dX8_weight_103 rfl (⟨by unfold w2_; generalize V 0 37 2 = q at hr c27 c73 c83 c93 ⊢; rcases hr with rfl | rfl | rfl <;> first | rfl | exact absurd c27 (by decide) | exact absurd c73 (by decide) | exact absurd c83 (by decide) | exact absurd c93 (by decide), rfl⟩)
        · skip
          refine r_iload (pc2 := 98) dX8_weight_96 rfl rfl ?_
          refine r_goto (pc2 := 103) dX8_weight_98 (by decide) ?_
          exact r_iret dX8_weight_103 rfl (⟨by unfold w2_; generalize V 0 37 2 = q at hr c27 c73 c83 c93 ⊢; rcases hr with rfl | rfl | rfl <;> first | rfl | exact absurd c27 (by decide) | exact absurd c73 (by decide) | exact absurd c83 (by decide) | exact absurd c93 (by decide), rfl⟩)
  · skip
    refine r_iload (pc2 := 32) dX8_weight_30 rfl rfl ?_
    refine r_if0N_eq (pc2 := 35) (tgt := 67) (by omega) dX8_weight_32 (by decide) rfl (fun c32 => ?_) (fun c32 => ?_)
    · skip
      refine r_aload_n (pc2 := 68) dX8_weight_67 rfl rfl ?_
      refine r_getR (pc2 := 71) dX8_weight_68 fl_X8_23 (by decide) rfl rfl rfl ?_
      refine r_iconst (pc2 := 72) (nI 2) dX8_weight_71 (by decide) rfl ?_
      refine r_iald (pc2 := 73) (j := _) dX8_weight_72 (by decide) rfl rfl (rfl) (by show _ < 10; omega) rfl ?_
      refine r_if_ne (pc2 := 76) (tgt := 80) dX8_weight_73 (by decide) rfl (fun c73 => ?_) (fun c73 => ?_)
      · skip
        refine r_iconst (pc2 := 81) (nI 0) dX8_weight_80 (by decide) rfl ?_
        refine r_iload (pc2 := 83) dX8_weight_81 rfl rfl ?_
        refine r_icN_eq (pc2 := 86) (tgt := 96) (by omega) (by omega) dX8_weight_83 (by decide) rfl (fun c83 => ?_) (fun c83 => ?_)
        · skip
          refine r_iload (pc2 := 98) dX8_weight_96 rfl rfl ?_
          refine r_goto (pc2 := 103) dX8_weight_98 (by decide) ?_
          exact r_iret dX8_weight_103 rfl (⟨by unfold w2_; generalize V 0 37 2 = q at hr c27 c73 c83 ⊢; rcases hr with rfl | rfl | rfl <;> first | rfl | exact absurd c27 (by decide) | exact absurd c73 (by decide) | exact absurd c83 (by decide), rfl⟩)
        · skip
          refine r_aload_n (pc2 := 87) dX8_weight_86 rfl rfl ?_
          refine r_getR (pc2 := 90) dX8_weight_87 fl_X8_23 (by decide) rfl rfl rfl ?_
          refine r_iconst (pc2 := 91) (nI 2) dX8_weight_90 (by decide) rfl ?_
          refine r_iald (pc2 := 92) (j := _) dX8_weight_91 (by decide) rfl rfl (rfl) (by show _ < 10; omega) rfl ?_
          refine r_iconst (pc2 := 93) (nI 1) dX8_weight_92 (by decide) rfl ?_
          refine r_ic_ne (pc2 := 96) (tgt := 101) dX8_weight_93 (by decide) rfl (fun c93 => ?_) (fun c93 => ?_)
          · skip
            refine r_iload (pc2 := 103) dX8_weight_101 rfl rfl ?_
            exact r_iret dX8_weight_103 rfl (⟨by unfold w2_; generalize V 0 37 2 = q at hr c27 c73 c83 c93 ⊢; rcases hr with rfl | rfl | rfl <;> first | rfl | exact absurd c27 (by decide) | exact absurd c73 (by decide) | exact absurd c83 (by decide) | exact absurd c93 (by decide), rfl⟩)
          · skip
            refine r_iload (pc2 := 98) dX8_weight_96 rfl rfl ?_
            refine r_goto (pc2 := 103) dX8_weight_98 (by decide) ?_
            exact r_iret dX8_weight_103 rfl (⟨by unfold w2_; generalize V 0 37 2 = q at hr c27 c73 c83 c93 ⊢; rcases hr with rfl | rfl | rfl <;> first | rfl | exact absurd c27 (by decide) | exact absurd c73 (by decide) | exact absurd c83 (by decide) | exact absurd c93 (by decide), rfl⟩)
      · skip
        refine r_iconst (pc2 := 77) (nI 1) dX8_weight_76 (by decide) rfl ?_
        refine r_goto (pc2 := 81) dX8_weight_77 (by decide) ?_
        refine r_iload (pc2 := 83) dX8_weight_81 rfl rfl ?_
        refine r_icN_eq (pc2 := 86) (tgt := 96) (by omega) (by omega) dX8_weight_83 (by decide) rfl (fun c83 => ?_) (fun c83 => ?_)
        · skip
          refine r_iload (pc2 := 98) dX8_weight_96 rfl rfl ?_
          refine r_goto (pc2 := 103) dX8_weight_98 (by decide) ?_
          exact r_iret dX8_weight_103 rfl (⟨by unfold w2_; generalize V 0 37 2 = q at hr c27 c73 c83 ⊢; rcases hr with rfl | rfl | rfl <;> first | rfl | exact absurd c27 (by decide) | exact absurd c73 (by decide) | exact absurd c83 (by decide), rfl⟩)
        · skip
          refine r_aload_n (pc2 := 87) dX8_weight_86 rfl rfl ?_
          refine r_getR (pc2 := 90) dX8_weight_87 fl_X8_23 (by decide) rfl rfl rfl ?_
          refine r_iconst (pc2 := 91) (nI 2) dX8_weight_90 (by decide) rfl ?_
          refine r_iald (pc2 := 92) (j := _) dX8_weight_91 (by decide) rfl rfl (rfl) (by show _ < 10; omega) rfl ?_
          refine r_iconst (pc2 := 93) (nI 1) dX8_weight_92 (by decide) rfl ?_
          refine r_ic_ne (pc2 := 96) (tgt := 101) dX8_weight_93 (by decide) rfl (fun c93 => ?_) (fun c93 => ?_)
          · skip
            refine r_iload (pc2 := 103) dX8_weight_101 rfl rfl ?_
            exact r_iret dX8_weight_103 rfl (⟨by unfold w2_; generalize V 0 37 2 = q at hr c27 c73 c83 c93 ⊢; rcases hr with rfl | rfl | rfl <;> first | rfl | exact absurd c27 (by decide) | exact absurd c73 (by decide) | exact absurd c83 (by decide) | exact absurd c93 (by decide), rfl⟩)
          · skip
            refine r_iload (pc2 := 98) dX8_weight_96 rfl rfl ?_
            refine r_goto (pc2 := 103) dX8_weight_98 (by decide) ?_
            exact r_iret dX8_weight_103 rfl (⟨by unfold w2_; generalize V 0 37 2 = q at hr c27 c73 c83 c93 ⊢; rcases hr with rfl | rfl | rfl <;> first | rfl | exact absurd c27 (by decide) | exact absurd c73 (by decide) | exact absurd c83 (by decide) | exact absurd c93 (by decide), rfl⟩)
    · skip
      exact absurd rfl c32
