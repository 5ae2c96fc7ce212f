/-! class, leaves: written by wip/whole/m1.py -/
/-- the first n numbers of an array are x -/
def fl_ (x : Int32) (n : Nat) (f : Nat → Int32) : Nat → Int32 := fun i => if i < n then x else f i
theorem fl_s (x : Int32) (n : Nat) (f : Nat → Int32) : upd (fl_ x n f) n x = fl_ x (n + 1) f := by
  funext j
  simp only [upd, fl_]
  by_cases h : j = n
  · subst h; simp
  · by_cases h2 : j < n
    · rw [if_neg h, if_pos h2, if_pos (by omega)]
    · rw [if_neg h, if_neg h2, if_neg (by omega)]
theorem fl_0 (x : Int32) (f : Nat → Int32) : fl_ x 0 f = f := by funext j; simp [fl_]
theorem a_same {V : Mm_} {g r : Nat} {f : Nat → Int32} : a_set V g r f g r = f := a_self V g r f
theorem a_ne {V : Mm_} {g r g' r' : Nat} {f : Nat → Int32} (h : ¬ (g' = g ∧ r' = r)) : a_set V g r f g' r' = V g' r' := by unfold a_set; rw [if_neg h]
theorem a_id (V : Mm_) (g r : Nat) : a_set V g r (V g r) = V := by
  funext g' r'
  unfold a_set
  by_cases h : g' = g ∧ r' = r
  · rw [if_pos h, h.1, h.2]
  · rw [if_neg h]
theorem a_twice (V : Mm_) (g r : Nat) (f f' : Nat → Int32) : a_set (a_set V g r f) g r f' = a_set V g r f' := by
  funext g' r'
  unfold a_set
  by_cases h : g' = g ∧ r' = r
  · rw [if_pos h, if_pos h]
  · rw [if_neg h, if_neg h, if_neg h]
/-- a state's memory -/
abbrev Sg_ : Type := Nat → Nat → Int32
def us_ (s : Sg_) (inf : Int32) (a b c : Nat) : Bool := decide (s 5 (a * 8 + c) = nI 1 ∧ 0 < s 9 ((a * 8 + b) * 8 + c) ∧ s 0 1 ≤ s 9 ((a * 8 + b) * 8 + c) ∧ s 8 ((a * 8 + b) * 8 + c) < inf ∧ s 11 ((a * 8 + b) * 8 + c) < s 0 1)
/-- entry j dominates entry k -/
def dm_ (s : Sg_) (j k : Nat) : Bool := decide (s 8 j ≤ s 7 k ∧ (s 7 j < s 8 k ∨ j < k))
def an_ (p : Nat → Bool) : Nat → Bool
  | 0 => false
  | n + 1 => an_ p n || p n
def do_ (s : Sg_) (inf : Int32) (n a b c : Nat) : Bool := us_ s inf a b c && an_ (fun o => decide (¬ o = c) && us_ s inf a b o && dm_ s ((a * 8 + b) * 8 + o) ((a * 8 + b) * 8 + c)) n

set_option maxRecDepth 100000 in
set_option maxHeartbeats 4000000 in
theorem c_X7_pair {PL : List (Nat × Nat)} {a b : Nat} {V : Mm_} : Cp_ PL mX7_pair [vI (nI a), vI (nI b)] V (nI (a * 8 + b)) := by
  refine Ca_.of ms_X7_pair.2.2.2.2.2 0 (lo := [some (vI (nI a)), some (vI (nI b))]) rfl (Nat.le_of_ble_eq_true rfl) ?_
  refine r_iload_n (pc2 := 1) dX7_pair_0 rfl rfl ?_
  refine r_bipush (pc2 := 3) (nI 8) dX7_pair_1 (by decide) rfl ?_
  refine r_imulN (pc2 := 4) dX7_pair_3 rfl ?_
  refine r_iload_n (pc2 := 5) dX7_pair_4 rfl rfl ?_
  refine r_iaddN (pc2 := 6) dX7_pair_5 rfl ?_
  exact r_iret dX7_pair_6 rfl (⟨rfl, rfl⟩)

set_option maxRecDepth 100000 in
set_option maxHeartbeats 4000000 in
theorem c_X7_slot {PL : List (Nat × Nat)} {a b c : Nat} {V : Mm_} : Cp_ PL mX7_slot [vI (nI a), vI (nI b), vI (nI c)] V (nI ((a * 8 + b) * 8 + c)) := by
  refine Ca_.of ms_X7_slot.2.2.2.2.2 0 (lo := [some (vI (nI a)), some (vI (nI b)), some (vI (nI c))]) rfl (Nat.le_of_ble_eq_true rfl) ?_
  refine r_iload_n (pc2 := 1) dX7_slot_0 rfl rfl ?_
  refine r_bipush (pc2 := 3) (nI 8) dX7_slot_1 (by decide) rfl ?_
  refine r_imulN (pc2 := 4) dX7_slot_3 rfl ?_
  refine r_iload_n (pc2 := 5) dX7_slot_4 rfl rfl ?_
  refine r_iaddN (pc2 := 6) dX7_slot_5 rfl ?_
  refine r_bipush (pc2 := 8) (nI 8) dX7_slot_6 (by decide) rfl ?_
  refine r_imulN (pc2 := 9) dX7_slot_8 rfl ?_
  refine r_iload_n (pc2 := 10) dX7_slot_9 rfl rfl ?_
  refine r_iaddN (pc2 := 11) dX7_slot_10 rfl ?_
  exact r_iret dX7_slot_11 rfl (⟨rfl, rfl⟩)

set_option maxRecDepth 100000 in
set_option maxHeartbeats 4000000 in
theorem c_X7_isBetween {PL : List (Nat × Nat)} {v a b : Int32} {V : Mm_} : Cp_ PL mX7_isBetween [vI v, vI a, vI b] V (b2 (decide (a ≤ v ∧ v ≤ b))) := by
  refine Ca_.of ms_X7_isBetween.2.2.2.2.2 0 (lo := [some (vI v), some (vI a), some (vI b)]) rfl (Nat.le_of_ble_eq_true rfl) ?_
  refine r_iload_n (pc2 := 1) dX7_isBetween_0 rfl rfl ?_
  refine r_iload_n (pc2 := 2) dX7_isBetween_1 rfl rfl ?_
  refine r_ic_lt (pc2 := 5) (tgt := 14) dX7_isBetween_2 (by decide) rfl (fun c2 => ?_) (fun c2 => ?_)
  · skip
    refine r_iconst (pc2 := 15) (nI 0) dX7_isBetween_14 (by decide) rfl ?_
    exact r_zret dX7_isBetween_15 rfl (Or.inl rfl) (⟨b2_f (by simp only [Int32.lt_iff_toInt_lt, Int32.le_iff_toInt_le, ← Int32.toInt_inj, decide_eq_true_eq, decide_eq_false_iff_not] at c2 ⊢; omega), rfl⟩)
  · skip
    refine r_iload_n (pc2 := 6) dX7_isBetween_5 rfl rfl ?_
    refine r_iload_n (pc2 := 7) dX7_isBetween_6 rfl rfl ?_
    refine r_ic_gt (pc2 := 10) (tgt := 14) dX7_isBetween_7 (by decide) rfl (fun c7 => ?_) (fun c7 => ?_)
    · skip
      refine r_iconst (pc2 := 15) (nI 0) dX7_isBetween_14 (by decide) rfl ?_
      exact r_zret dX7_isBetween_15 rfl (Or.inl rfl) (⟨b2_f (by simp only [Int32.lt_iff_toInt_lt, Int32.le_iff_toInt_le, ← Int32.toInt_inj, decide_eq_true_eq, decide_eq_false_iff_not] at c2 c7 ⊢; omega), rfl⟩)
    · skip
      refine r_iconst (pc2 := 11) (nI 1) dX7_isBetween_10 (by decide) rfl ?_
      refine r_goto (pc2 := 15) dX7_isBetween_11 (by decide) ?_
      exact r_zret dX7_isBetween_15 rfl (Or.inr rfl) (⟨b2_t (by simp only [Int32.lt_iff_toInt_lt, Int32.le_iff_toInt_le, ← Int32.toInt_inj, decide_eq_true_eq, decide_eq_false_iff_not] at c2 c7 ⊢; omega), rfl⟩)

set_option maxRecDepth 100000 in
set_option maxHeartbeats 4000000 in
theorem c_X7_asNumber {PL : List (Nat × Nat)} {b : Bool} {V : Mm_} : Cp_ PL mX7_asNumber [vI (b2 b)] V (b2 b) := by
  refine Ca_.of ms_X7_asNumber.2.2.2.2.2 0 (lo := [some (vI (b2 b))]) rfl (Nat.le_of_ble_eq_true rfl) ?_
  refine r_iload_n (pc2 := 1) dX7_asNumber_0 rfl rfl ?_
  refine r_ifB_eq (pc2 := 4) (tgt := 8) dX7_asNumber_1 (by decide) rfl (fun c1 => ?_) (fun c1 => ?_)
  · skip
    refine r_iconst (pc2 := 9) (nI 0) dX7_asNumber_8 (by decide) rfl ?_
    exact r_iret dX7_asNumber_9 rfl (⟨b2_0 c1, rfl⟩)
  · skip
    refine r_iconst (pc2 := 5) (nI 1) dX7_asNumber_4 (by decide) rfl ?_
    refine r_goto (pc2 := 9) dX7_asNumber_5 (by decide) ?_
    exact r_iret dX7_asNumber_9 rfl (⟨b2_1 c1, rfl⟩)

set_option maxRecDepth 100000 in
set_option maxHeartbeats 4000000 in
theorem c_X7_isNode {PL : List (Nat × Nat)} {v : Int32} {V : Mm_} : Cp_ PL mX7_isNode [vR 0 18, vI v] V (b2 (decide (0 ≤ v ∧ v < V 1 0 0))) := by
  refine Ca_.of mv_X7_isNode.2.2.2.2.2.2 0 (lo := [some (vR 0 18), some (vI v)]) rfl (Nat.le_of_ble_eq_true rfl) ?_
  refine r_iload_n (pc2 := 1) dX7_isNode_0 rfl rfl ?_
  refine r_if_lt (pc2 := 4) (tgt := 19) dX7_isNode_1 (by decide) rfl (fun c1 => ?_) (fun c1 => ?_)
  · skip
    refine r_iconst (pc2 := 20) (nI 0) dX7_isNode_19 (by decide) rfl ?_
    exact r_zret dX7_isNode_20 rfl (Or.inl rfl) (⟨b2_f (by simp only [Int32.lt_iff_toInt_lt, Int32.le_iff_toInt_le, ← Int32.toInt_inj, decide_eq_true_eq, decide_eq_false_iff_not] at c1 ⊢; omega), rfl⟩)
  · skip
    refine r_iload_n (pc2 := 5) dX7_isNode_4 rfl rfl ?_
    refine r_aload_n (pc2 := 6) dX7_isNode_5 rfl rfl ?_
    refine r_getR (pc2 := 9) dX7_isNode_6 fl_X7_24 (by decide) rfl rfl rfl ?_
    refine r_getI (pc2 := 12) dX7_isNode_9 fl_X7_60 (by decide) rfl rfl rfl ?_
    refine r_ic_ge (pc2 := 15) (tgt := 19) dX7_isNode_12 (by decide) rfl (fun c12 => ?_) (fun c12 => ?_)
    · skip
      refine r_iconst (pc2 := 20) (nI 0) dX7_isNode_19 (by decide) rfl ?_
      exact r_zret dX7_isNode_20 rfl (Or.inl rfl) (⟨b2_f (by simp only [Int32.lt_iff_toInt_lt, Int32.le_iff_toInt_le, ← Int32.toInt_inj, decide_eq_true_eq, decide_eq_false_iff_not] at c1 c12 ⊢; omega), rfl⟩)
    · skip
      refine r_iconst (pc2 := 16) (nI 1) dX7_isNode_15 (by decide) rfl ?_
      refine r_goto (pc2 := 20) dX7_isNode_16 (by decide) ?_
      exact r_zret dX7_isNode_20 rfl (Or.inr rfl) (⟨b2_t (by simp only [Int32.lt_iff_toInt_lt, Int32.le_iff_toInt_le, ← Int32.toInt_inj, decide_eq_true_eq, decide_eq_false_iff_not] at c1 c12 ⊢; omega), rfl⟩)

set_option maxRecDepth 100000 in
set_option maxHeartbeats 4000000 in
theorem c_X7_isPair {PL : List (Nat × Nat)} {a b : Int32} {V : Mm_} : Cp_ PL mX7_isPair [vR 0 18, vI a, vI b] V (b2 (decide (0 ≤ a ∧ a < V 1 0 0 ∧ 0 ≤ b ∧ b < V 1 0 0 ∧ ¬ a = b))) := by
  refine Ca_.of mv_X7_isPair.2.2.2.2.2.2 0 (lo := [some (vR 0 18), some (vI a), some (vI b)]) rfl (Nat.le_of_ble_eq_true rfl) ?_
  refine r_aload_n (pc2 := 1) dX7_isPair_0 rfl rfl ?_
  refine r_iload_n (pc2 := 2) dX7_isPair_1 rfl rfl ?_
  refine r_cv1p (pc2 := 5) dX7_isPair_2 st_X7_isPair_171 rl_X7_isNode (Nat.le_of_ble_eq_true rfl) rfl (c_X7_isNode) ?_
  refine r_ifB_eq (pc2 := 8) (tgt := 25) dX7_isPair_5 (by decide) rfl (fun c5 => ?_) (fun c5 => ?_)
  · skip
    refine r_iconst (pc2 := 26) (nI 0) dX7_isPair_25 (by decide) rfl ?_
    exact r_zret dX7_isPair_26 rfl (Or.inl rfl) (⟨b2_f (by simp only [Int32.lt_iff_toInt_lt, Int32.le_iff_toInt_le, ← Int32.toInt_inj, decide_eq_true_eq, decide_eq_false_iff_not] at c5 ⊢; omega), rfl⟩)
  · skip
    refine r_aload_n (pc2 := 9) dX7_isPair_8 rfl rfl ?_
    refine r_iload_n (pc2 := 10) dX7_isPair_9 rfl rfl ?_
    refine r_cv1p (pc2 := 13) dX7_isPair_10 st_X7_isPair_171 rl_X7_isNode (Nat.le_of_ble_eq_true rfl) rfl (c_X7_isNode) ?_
    refine r_ifB_eq (pc2 := 16) (tgt := 25) dX7_isPair_13 (by decide) rfl (fun c13 => ?_) (fun c13 => ?_)
    · skip
      refine r_iconst (pc2 := 26) (nI 0) dX7_isPair_25 (by decide) rfl ?_
      exact r_zret dX7_isPair_26 rfl (Or.inl rfl) (⟨b2_f (by simp only [Int32.lt_iff_toInt_lt, Int32.le_iff_toInt_le, ← Int32.toInt_inj, decide_eq_true_eq, decide_eq_false_iff_not] at c5 c13 ⊢; omega), rfl⟩)
    · skip
      refine r_iload_n (pc2 := 17) dX7_isPair_16 rfl rfl ?_
      refine r_iload_n (pc2 := 18) dX7_isPair_17 rfl rfl ?_
      refine r_ic_eq (pc2 := 21) (tgt := 25) dX7_isPair_18 (by decide) rfl (fun c18 => ?_) (fun c18 => ?_)
      · skip
        refine r_iconst (pc2 := 26) (nI 0) dX7_isPair_25 (by decide) rfl ?_
        exact r_zret dX7_isPair_26 rfl (Or.inl rfl) (⟨b2_f (by simp only [Int32.lt_iff_toInt_lt, Int32.le_iff_toInt_le, ← Int32.toInt_inj, decide_eq_true_eq, decide_eq_false_iff_not] at c5 c13 c18 ⊢; omega), rfl⟩)
      · skip
        refine r_iconst (pc2 := 22) (nI 1) dX7_isPair_21 (by decide) rfl ?_
        refine r_goto (pc2 := 26) dX7_isPair_22 (by decide) ?_
        exact r_zret dX7_isPair_26 rfl (Or.inr rfl) (⟨b2_t (by simp only [Int32.lt_iff_toInt_lt, Int32.le_iff_toInt_le, ← Int32.toInt_inj, decide_eq_true_eq, decide_eq_false_iff_not] at c5 c13 c18 ⊢; omega), rfl⟩)

set_option maxRecDepth 100000 in
set_option maxHeartbeats 4000000 in
theorem c_X7_isSetting {PL : List (Nat × Nat)} {v : Int32} {V : Mm_} : Cp_ PL mX7_isSetting [vI v] V (b2 (decide ((nI 0 ≤ v ∧ v ≤ nI 3) ∨ (nI 6 ≤ v ∧ v ≤ nI 9)))) := by
  refine Ca_.of ms_X7_isSetting.2.2.2.2.2 0 (lo := [some (vI v)]) rfl (Nat.le_of_ble_eq_true rfl) ?_
  refine r_iload_n (pc2 := 1) dX7_isSetting_0 rfl rfl ?_
  refine r_iconst (pc2 := 2) (nI 0) dX7_isSetting_1 (by decide) rfl ?_
  refine r_iconst (pc2 := 3) (nI 3) dX7_isSetting_2 (by decide) rfl ?_
  refine r_cs3p (pc2 := 6) dX7_isSetting_3 st_X7_isSetting_105 (Nat.le_of_ble_eq_true rfl) rfl (c_X7_isBetween) ?_
  refine r_ifB_ne (pc2 := 9) (tgt := 20) dX7_isSetting_6 (by decide) rfl (fun c6 => ?_) (fun c6 => ?_)
  · skip
    refine r_iconst (pc2 := 21) (nI 1) dX7_isSetting_20 (by decide) rfl ?_
    refine r_goto (pc2 := 25) dX7_isSetting_21 (by decide) ?_
    exact r_zret dX7_isSetting_25 rfl (Or.inr rfl) (⟨b2_t (by simp only [Int32.lt_iff_toInt_lt, Int32.le_iff_toInt_le, ← Int32.toInt_inj, decide_eq_true_eq, decide_eq_false_iff_not] at c6 ⊢; omega), rfl⟩)
  · skip
    refine r_iload_n (pc2 := 10) dX7_isSetting_9 rfl rfl ?_
    refine r_bipush (pc2 := 12) (nI 6) dX7_isSetting_10 (by decide) rfl ?_
    refine r_bipush (pc2 := 14) (nI 9) dX7_isSetting_12 (by decide) rfl ?_
    refine r_cs3p (pc2 := 17) dX7_isSetting_14 st_X7_isSetting_105 (Nat.le_of_ble_eq_true rfl) rfl (c_X7_isBetween) ?_
    refine r_ifB_eq (pc2 := 20) (tgt := 24) dX7_isSetting_17 (by decide) rfl (fun c17 => ?_) (fun c17 => ?_)
    · skip
      refine r_iconst (pc2 := 25) (nI 0) dX7_isSetting_24 (by decide) rfl ?_
      exact r_zret dX7_isSetting_25 rfl (Or.inl rfl) (⟨b2_f (by simp only [Int32.lt_iff_toInt_lt, Int32.le_iff_toInt_le, ← Int32.toInt_inj, decide_eq_true_eq, decide_eq_false_iff_not] at c6 c17 ⊢; omega), rfl⟩)
    · skip
      refine r_iconst (pc2 := 21) (nI 1) dX7_isSetting_20 (by decide) rfl ?_
      refine r_goto (pc2 := 25) dX7_isSetting_21 (by decide) ?_
      exact r_zret dX7_isSetting_25 rfl (Or.inr rfl) (⟨b2_t (by simp only [Int32.lt_iff_toInt_lt, Int32.le_iff_toInt_le, ← Int32.toInt_inj, decide_eq_true_eq, decide_eq_false_iff_not] at c6 c17 ⊢; omega), rfl⟩)


set_option maxRecDepth 100000 in
set_option maxHeartbeats 4000000 in
theorem c_fill64 {PL : List (Nat × Nat)} {g r : Nat} {x : Int32} {V : Mm_} (hr : r < 46) (hc : k_cls r = none) (hz : k_isZ r = false) (hl : k_len r = 64) : Cm_ PL mJ7_fill_53178 [vR g r, vI x] V (a_set V g r (fl_ x 64 (V g r))) := by
  refine Ca_.of ms_J7_fill_53178.2.2.2.2.2 2 (lo := [some (vR g r), some (vI x), none, none]) rfl (Nat.le_of_ble_eq_true rfl) ?_
  refine r_iconst (pc2 := 1) (nI 0) dJ7_fill_53178_0 (by decide) rfl ?_
  refine r_istore_n (pc2 := 2) dJ7_fill_53178_1 (by decide) rfl rfl ?_
  refine r_aload_n (pc2 := 3) dJ7_fill_53178_2 rfl rfl ?_
  refine r_alen (pc2 := 4) dJ7_fill_53178_3 hr hc rfl ?_
  refine r_as (x' := nI 64) (by rw [hl]) ?_
  refine r_istore_n (pc2 := 5) dJ7_fill_53178_4 (by decide) rfl rfl ?_
  refine Rc_.to (V' := (fun i : Nat => a_set V g r (fl_ x i (V g r))) 0) (lo' := (fun i : Nat => [some (vR g r), some (vI x), some (vI (nI i)), some (vI (nI 64))]) 0) (by show V = a_set V g r (fl_ x 0 (V g r)); rw [fl_0, a_id]) ⟨rfl, rfl, rfl, rfl, trivial⟩ ?_
  refine Rc_for 0 (64) (fun i : Nat => [some (vR g r), some (vI x), some (vI (nI i)), some (vI (nI 64))]) (fun i : Nat => a_set V g r (fl_ x i (V g r))) (by omega) (fun i hi0 hiN ih5 => ?_)
  refine r_iload_n (pc2 := 6) dJ7_fill_53178_5 rfl rfl ?_
  refine r_iload_n (pc2 := 7) dJ7_fill_53178_6 rfl rfl ?_
  refine r_icN_ge (pc2 := 10) (tgt := 20) (by omega) (by omega) dJ7_fill_53178_7 (by decide) rfl (fun c7 => ?_) (fun c7 => ?_)
  · skip
    exact r_vret dJ7_fill_53178_20 rfl ((by omega : i = 64) ▸ rfl)
  · skip
    refine r_aload_n (pc2 := 11) dJ7_fill_53178_10 rfl rfl ?_
    refine r_iload_n (pc2 := 12) dJ7_fill_53178_11 rfl rfl ?_
    refine r_iload_n (pc2 := 13) dJ7_fill_53178_12 rfl rfl ?_
    refine r_iast (pc2 := 14) (j := _) dJ7_fill_53178_13 hr hc hz (rfl) (by rw [hl]; omega) rfl ?_
    refine r_iincN (pc2 := 17) dJ7_fill_53178_14 rfl (by decide) rfl rfl ?_
    refine r_goto (pc2 := 5) dJ7_fill_53178_17 (by decide) ?_
    exact Rc_.to (lo' := (fun i : Nat => [some (vR g r), some (vI x), some (vI (nI i)), some (vI (nI 64))]) (i + 1)) (by show a_set _ _ _ _ = a_set _ _ _ _; rw [a_same, a_twice, fl_s]) ⟨rfl, rfl, rfl, rfl, trivial⟩ (ih5 (by omega))

set_option maxRecDepth 100000 in
set_option maxHeartbeats 4000000 in
theorem c_fill512 {PL : List (Nat × Nat)} {g r : Nat} {x : Int32} {V : Mm_} (hr : r < 46) (hc : k_cls r = none) (hz : k_isZ r = false) (hl : k_len r = 512) : Cm_ PL mJ7_fill_53178 [vR g r, vI x] V (a_set V g r (fl_ x 512 (V g r))) := by
  refine Ca_.of ms_J7_fill_53178.2.2.2.2.2 2 (lo := [some (vR g r), some (vI x), none, none]) rfl (Nat.le_of_ble_eq_true rfl) ?_
  refine r_iconst (pc2 := 1) (nI 0) dJ7_fill_53178_0 (by decide) rfl ?_
  refine r_istore_n (pc2 := 2) dJ7_fill_53178_1 (by decide) rfl rfl ?_
  refine r_aload_n (pc2 := 3) dJ7_fill_53178_2 rfl rfl ?_
  refine r_alen (pc2 := 4) dJ7_fill_53178_3 hr hc rfl ?_
  refine r_as (x' := nI 512) (by rw [hl]) ?_
  refine r_istore_n (pc2 := 5) dJ7_fill_53178_4 (by decide) rfl rfl ?_
  refine Rc_.to (V' := (fun i : Nat => a_set V g r (fl_ x i (V g r))) 0) (lo' := (fun i : Nat => [some (vR g r), some (vI x), some (vI (nI i)), some (vI (nI 512))]) 0) (by show V = a_set V g r (fl_ x 0 (V g r)); rw [fl_0, a_id]) ⟨rfl, rfl, rfl, rfl, trivial⟩ ?_
  refine Rc_for 0 (512) (fun i : Nat => [some (vR g r), some (vI x), some (vI (nI i)), some (vI (nI 512))]) (fun i : Nat => a_set V g r (fl_ x i (V g r))) (by omega) (fun i hi0 hiN ih5 => ?_)
  refine r_iload_n (pc2 := 6) dJ7_fill_53178_5 rfl rfl ?_
  refine r_iload_n (pc2 := 7) dJ7_fill_53178_6 rfl rfl ?_
  refine r_icN_ge (pc2 := 10) (tgt := 20) (by omega) (by omega) dJ7_fill_53178_7 (by decide) rfl (fun c7 => ?_) (fun c7 => ?_)
  · skip
    exact r_vret dJ7_fill_53178_20 rfl ((by omega : i = 512) ▸ rfl)
  · skip
    refine r_aload_n (pc2 := 11) dJ7_fill_53178_10 rfl rfl ?_
    refine r_iload_n (pc2 := 12) dJ7_fill_53178_11 rfl rfl ?_
    refine r_iload_n (pc2 := 13) dJ7_fill_53178_12 rfl rfl ?_
    refine r_iast (pc2 := 14) (j := _) dJ7_fill_53178_13 hr hc hz (rfl) (by rw [hl]; omega) rfl ?_
    refine r_iincN (pc2 := 17) dJ7_fill_53178_14 rfl (by decide) rfl rfl ?_
    refine r_goto (pc2 := 5) dJ7_fill_53178_17 (by decide) ?_
    exact Rc_.to (lo' := (fun i : Nat => [some (vR g r), some (vI x), some (vI (nI i)), some (vI (nI 512))]) (i + 1)) (by show a_set _ _ _ _ = a_set _ _ _ _; rw [a_same, a_twice, fl_s]) ⟨rfl, rfl, rfl, rfl, trivial⟩ (ih5 (by omega))

set_option maxRecDepth 100000 in
set_option maxHeartbeats 4000000 in
theorem c_X1_joins {PL : List (Nat × Nat)} {g a b : Nat} {V : Mm_} (ha : a < 8) (hb : b < 8) : Cp_ PL mX1_joins [vR g 1, vI (nI a), vI (nI b)] V (b2 (decide (0 < V g 2 (a * 8 + b)))) := by
  refine Ca_.of mv_X1_joins.2.2.2.2.2.2 0 (lo := [some (vR g 1), some (vI (nI a)), some (vI (nI b))]) rfl (Nat.le_of_ble_eq_true rfl) ?_
  refine r_aload_n (pc2 := 1) dX1_joins_0 rfl rfl ?_
  refine r_getR (pc2 := 4) dX1_joins_1 fl_X1_9 (by decide) rfl rfl rfl ?_
  refine r_iload_n (pc2 := 5) dX1_joins_4 rfl rfl ?_
  refine r_iload_n (pc2 := 6) dX1_joins_5 rfl rfl ?_
  refine r_cn2p (pc2 := 9) dX1_joins_6 st_X1_joins_24 (Nat.le_of_ble_eq_true rfl) rfl (c_X7_pair) ?_
  refine r_iald (pc2 := 10) (j := _) dX1_joins_9 (by decide) rfl rfl (rfl) (by show _ < 64; omega) rfl ?_
  refine r_if_le (pc2 := 13) (tgt := 17) dX1_joins_10 (by decide) rfl (fun c10 => ?_) (fun c10 => ?_)
  · skip
    refine r_iconst (pc2 := 18) (nI 0) dX1_joins_17 (by decide) rfl ?_
    exact r_zret dX1_joins_18 rfl (Or.inl rfl) (⟨b2_f (by simp only [Int32.lt_iff_toInt_lt, Int32.le_iff_toInt_le, ← Int32.toInt_inj, decide_eq_true_eq, decide_eq_false_iff_not] at c10 ⊢; omega), rfl⟩)
  · skip
    refine r_iconst (pc2 := 14) (nI 1) dX1_joins_13 (by decide) rfl ?_
    refine r_goto (pc2 := 18) dX1_joins_14 (by decide) ?_
    exact r_zret dX1_joins_18 rfl (Or.inr rfl) (⟨b2_t (by simp only [Int32.lt_iff_toInt_lt, Int32.le_iff_toInt_le, ← Int32.toInt_inj, decide_eq_true_eq, decide_eq_false_iff_not] at c10 ⊢; omega), rfl⟩)

set_option maxRecDepth 100000 in
set_option maxHeartbeats 4000000 in
theorem c_X1_isUp {PL : List (Nat × Nat)} {g a b : Nat} {V : Mm_} (ha : a < 8) (hb : b < 8) : Cp_ PL mX1_isUp [vR g 1, vI (nI a), vI (nI b)] V (b2 (decide (V g 5 (a * 8 + b) = nI 1))) := by
  refine Ca_.of mv_X1_isUp.2.2.2.2.2.2 0 (lo := [some (vR g 1), some (vI (nI a)), some (vI (nI b))]) rfl (Nat.le_of_ble_eq_true rfl) ?_
  refine r_aload_n (pc2 := 1) dX1_isUp_0 rfl rfl ?_
  refine r_getR (pc2 := 4) dX1_isUp_1 fl_X1_21 (by decide) rfl rfl rfl ?_
  refine r_iload_n (pc2 := 5) dX1_isUp_4 rfl rfl ?_
  refine r_iload_n (pc2 := 6) dX1_isUp_5 rfl rfl ?_
  refine r_cn2p (pc2 := 9) dX1_isUp_6 st_X1_isUp_24 (Nat.le_of_ble_eq_true rfl) rfl (c_X7_pair) ?_
  refine r_iald (pc2 := 10) (j := _) dX1_isUp_9 (by decide) rfl rfl (rfl) (by show _ < 64; omega) rfl ?_
  refine r_iconst (pc2 := 11) (nI 1) dX1_isUp_10 (by decide) rfl ?_
  refine r_ic_ne (pc2 := 14) (tgt := 18) dX1_isUp_11 (by decide) rfl (fun c11 => ?_) (fun c11 => ?_)
  · skip
    refine r_iconst (pc2 := 19) (nI 0) dX1_isUp_18 (by decide) rfl ?_
    exact r_zret dX1_isUp_19 rfl (Or.inl rfl) (⟨b2_f (by simp only [Int32.lt_iff_toInt_lt, Int32.le_iff_toInt_le, ← Int32.toInt_inj, decide_eq_true_eq, decide_eq_false_iff_not] at c11 ⊢; omega), rfl⟩)
  · skip
    refine r_iconst (pc2 := 15) (nI 1) dX1_isUp_14 (by decide) rfl ?_
    refine r_goto (pc2 := 19) dX1_isUp_15 (by decide) ?_
    exact r_zret dX1_isUp_19 rfl (Or.inr rfl) (⟨b2_t (by simp only [Int32.lt_iff_toInt_lt, Int32.le_iff_toInt_le, ← Int32.toInt_inj, decide_eq_true_eq, decide_eq_false_iff_not] at c11 ⊢; omega), rfl⟩)

set_option maxRecDepth 100000 in
set_option maxHeartbeats 4000000 in
theorem c_X1_putCost {PL : List (Nat × Nat)} {g a b : Nat} {x : Int32} {V : Mm_} (ha : a < 8) (hb : b < 8) : Cm_ PL mX1_putCost [vR g 1, vI (nI a), vI (nI b), vI x] V (m_set (m_set V g 4 (a * 8 + b) x) g 4 (b * 8 + a) x) := by
  refine Ca_.of mv_X1_putCost.2.2.2.2.2.2 0 (lo := [some (vR g 1), some (vI (nI a)), some (vI (nI b)), some (vI x)]) rfl (Nat.le_of_ble_eq_true rfl) ?_
  refine r_aload_n (pc2 := 1) dX1_putCost_0 rfl rfl ?_
  refine r_getR (pc2 := 4) dX1_putCost_1 fl_X1_18 (by decide) rfl rfl rfl ?_
  refine r_iload_n (pc2 := 5) dX1_putCost_4 rfl rfl ?_
  refine r_iload_n (pc2 := 6) dX1_putCost_5 rfl rfl ?_
  refine r_cn2p (pc2 := 9) dX1_putCost_6 st_X1_putCost_24 (Nat.le_of_ble_eq_true rfl) rfl (c_X7_pair) ?_
  refine r_iload_n (pc2 := 10) dX1_putCost_9 rfl rfl ?_
  refine r_iast (pc2 := 11) (j := _) dX1_putCost_10 (by decide) rfl rfl (rfl) (by show _ < 64; omega) rfl ?_
  refine r_aload_n (pc2 := 12) dX1_putCost_11 rfl rfl ?_
  refine r_getR (pc2 := 15) dX1_putCost_12 fl_X1_18 (by decide) rfl rfl rfl ?_
  refine r_iload_n (pc2 := 16) dX1_putCost_15 rfl rfl ?_
  refine r_iload_n (pc2 := 17) dX1_putCost_16 rfl rfl ?_
  refine r_cn2p (pc2 := 20) dX1_putCost_17 st_X1_putCost_24 (Nat.le_of_ble_eq_true rfl) rfl (c_X7_pair) ?_
  refine r_iload_n (pc2 := 21) dX1_putCost_20 rfl rfl ?_
  refine r_iast (pc2 := 22) (j := _) dX1_putCost_21 (by decide) rfl rfl (rfl) (by show _ < 64; omega) rfl ?_
  exact r_vret dX1_putCost_22 rfl (rfl)

set_option maxRecDepth 100000 in
set_option maxHeartbeats 4000000 in
theorem c_X1_putUp {PL : List (Nat × Nat)} {g a b : Nat} {x : Int32} {V : Mm_} (ha : a < 8) (hb : b < 8) : Cm_ PL mX1_putUp [vR g 1, vI (nI a), vI (nI b), vI x] V (m_set (m_set V g 5 (a * 8 + b) x) g 5 (b * 8 + a) x) := by
  refine Ca_.of mv_X1_putUp.2.2.2.2.2.2 0 (lo := [some (vR g 1), some (vI (nI a)), some (vI (nI b)), some (vI x)]) rfl (Nat.le_of_ble_eq_true rfl) ?_
  refine r_aload_n (pc2 := 1) dX1_putUp_0 rfl rfl ?_
  refine r_getR (pc2 := 4) dX1_putUp_1 fl_X1_21 (by decide) rfl rfl rfl ?_
  refine r_iload_n (pc2 := 5) dX1_putUp_4 rfl rfl ?_
  refine r_iload_n (pc2 := 6) dX1_putUp_5 rfl rfl ?_
  refine r_cn2p (pc2 := 9) dX1_putUp_6 st_X1_putUp_24 (Nat.le_of_ble_eq_true rfl) rfl (c_X7_pair) ?_
  refine r_iload_n (pc2 := 10) dX1_putUp_9 rfl rfl ?_
  refine r_iast (pc2 := 11) (j := _) dX1_putUp_10 (by decide) rfl rfl (rfl) (by show _ < 64; omega) rfl ?_
  refine r_aload_n (pc2 := 12) dX1_putUp_11 rfl rfl ?_
  refine r_getR (pc2 := 15) dX1_putUp_12 fl_X1_21 (by decide) rfl rfl rfl ?_
  refine r_iload_n (pc2 := 16) dX1_putUp_15 rfl rfl ?_
  refine r_iload_n (pc2 := 17) dX1_putUp_16 rfl rfl ?_
  refine r_cn2p (pc2 := 20) dX1_putUp_17 st_X1_putUp_24 (Nat.le_of_ble_eq_true rfl) rfl (c_X7_pair) ?_
  refine r_iload_n (pc2 := 21) dX1_putUp_20 rfl rfl ?_
  refine r_iast (pc2 := 22) (j := _) dX1_putUp_21 (by decide) rfl rfl (rfl) (by show _ < 64; omega) rfl ?_
  exact r_vret dX1_putUp_22 rfl (rfl)

set_option maxRecDepth 100000 in
set_option maxHeartbeats 4000000 in
theorem c_X1_putBounds {PL : List (Nat × Nat)} {g a b : Nat} {x z : Int32} {V : Mm_} (ha : a < 8) (hb : b < 8) : Cm_ PL mX1_putBounds [vR g 1, vI (nI a), vI (nI b), vI x, vI z] V (m_set (m_set  (m_set (m_set V g 2 (a * 8 + b) x) g 2 (b * 8 + a) x) g 3 (a * 8 + b) z) g 3 (b * 8 + a) z) := by
  refine Ca_.of mv_X1_putBounds.2.2.2.2.2.2 0 (lo := [some (vR g 1), some (vI (nI a)), some (vI (nI b)), some (vI x), some (vI z)]) rfl (Nat.le_of_ble_eq_true rfl) ?_
  refine r_aload_n (pc2 := 1) dX1_putBounds_0 rfl rfl ?_
  refine r_getR (pc2 := 4) dX1_putBounds_1 fl_X1_9 (by decide) rfl rfl rfl ?_
  refine r_iload_n (pc2 := 5) dX1_putBounds_4 rfl rfl ?_
  refine r_iload_n (pc2 := 6) dX1_putBounds_5 rfl rfl ?_
  refine r_cn2p (pc2 := 9) dX1_putBounds_6 st_X1_putBounds_24 (Nat.le_of_ble_eq_true rfl) rfl (c_X7_pair) ?_
  refine r_iload_n (pc2 := 10) dX1_putBounds_9 rfl rfl ?_
  refine r_iast (pc2 := 11) (j := _) dX1_putBounds_10 (by decide) rfl rfl (rfl) (by show _ < 64; omega) rfl ?_
  refine r_aload_n (pc2 := 12) dX1_putBounds_11 rfl rfl ?_
  refine r_getR (pc2 := 15) dX1_putBounds_12 fl_X1_9 (by decide) rfl rfl rfl ?_
  refine r_iload_n (pc2 := 16) dX1_putBounds_15 rfl rfl ?_
  refine r_iload_n (pc2 := 17) dX1_putBounds_16 rfl rfl ?_
  refine r_cn2p (pc2 := 20) dX1_putBounds_17 st_X1_putBounds_24 (Nat.le_of_ble_eq_true rfl) rfl (c_X7_pair) ?_
  refine r_iload_n (pc2 := 21) dX1_putBounds_20 rfl rfl ?_
  refine r_iast (pc2 := 22) (j := _) dX1_putBounds_21 (by decide) rfl rfl (rfl) (by show _ < 64; omega) rfl ?_
  refine r_aload_n (pc2 := 23) dX1_putBounds_22 rfl rfl ?_
  refine r_getR (pc2 := 26) dX1_putBounds_23 fl_X1_15 (by decide) rfl rfl rfl ?_
  refine r_iload_n (pc2 := 27) dX1_putBounds_26 rfl rfl ?_
  refine r_iload_n (pc2 := 28) dX1_putBounds_27 rfl rfl ?_
  refine r_cn2p (pc2 := 31) dX1_putBounds_28 st_X1_putBounds_24 (Nat.le_of_ble_eq_true rfl) rfl (c_X7_pair) ?_
  refine r_iload (pc2 := 33) dX1_putBounds_31 rfl rfl ?_
  refine r_iast (pc2 := 34) (j := _) dX1_putBounds_33 (by decide) rfl rfl (rfl) (by show _ < 64; omega) rfl ?_
  refine r_aload_n (pc2 := 35) dX1_putBounds_34 rfl rfl ?_
  refine r_getR (pc2 := 38) dX1_putBounds_35 fl_X1_15 (by decide) rfl rfl rfl ?_
  refine r_iload_n (pc2 := 39) dX1_putBounds_38 rfl rfl ?_
  refine r_iload_n (pc2 := 40) dX1_putBounds_39 rfl rfl ?_
  refine r_cn2p (pc2 := 43) dX1_putBounds_40 st_X1_putBounds_24 (Nat.le_of_ble_eq_true rfl) rfl (c_X7_pair) ?_
  refine r_iload (pc2 := 45) dX1_putBounds_43 rfl rfl ?_
  refine r_iast (pc2 := 46) (j := _) dX1_putBounds_45 (by decide) rfl rfl (rfl) (by show _ < 64; omega) rfl ?_
  exact r_vret dX1_putBounds_46 rfl (rfl)

/-- both orders of a pair -/
def b_set (V : Mm_) (g r a b : Nat) (x : Int32) : Mm_ := m_set (m_set V g r (a * 8 + b) x) g r (b * 8 + a) x
set_option maxRecDepth 100000 in
set_option maxHeartbeats 4000000 in
theorem c_X1_insert {PL : List (Nat × Nat)} {g a b : Nat} {x z : Int32} {V : Mm_} (ha : a < 8) (hb : b < 8) : Cm_ PL mX1_insert [vR g 1, vI (nI a), vI (nI b), vI x, vI z] V (m_set (b_set (b_set (b_set (b_set (V) g 2 a b x) g 3 a b z) g 4 a b x) g 5 a b (nI 1)) g 1 0 (V g 1 0 + nI 1)) := by
  refine Ca_.of mv_X1_insert.2.2.2.2.2.2 0 (lo := [some (vR g 1), some (vI (nI a)), some (vI (nI b)), some (vI x), some (vI z)]) rfl (Nat.le_of_ble_eq_true rfl) ?_
  refine r_aload_n (pc2 := 1) dX1_insert_0 rfl rfl ?_
  refine r_iload_n (pc2 := 2) dX1_insert_1 rfl rfl ?_
  refine r_iload_n (pc2 := 3) dX1_insert_2 rfl rfl ?_
  refine r_iload_n (pc2 := 4) dX1_insert_3 rfl rfl ?_
  refine r_iload (pc2 := 6) dX1_insert_4 rfl rfl ?_
  refine r_cv4m (pc2 := 9) dX1_insert_6 st_X1_insert_28 rl_X1_putBounds (Nat.le_of_ble_eq_true rfl) rfl (c_X1_putBounds (by omega) (by omega)) ?_
  refine r_aload_n (pc2 := 10) dX1_insert_9 rfl rfl ?_
  refine r_iload_n (pc2 := 11) dX1_insert_10 rfl rfl ?_
  refine r_iload_n (pc2 := 12) dX1_insert_11 rfl rfl ?_
  refine r_iload_n (pc2 := 13) dX1_insert_12 rfl rfl ?_
  refine r_cv3m (pc2 := 16) dX1_insert_13 st_X1_insert_32 rl_X1_putCost (Nat.le_of_ble_eq_true rfl) rfl (c_X1_putCost (by omega) (by omega)) ?_
  refine r_aload_n (pc2 := 17) dX1_insert_16 rfl rfl ?_
  refine r_iload_n (pc2 := 18) dX1_insert_17 rfl rfl ?_
  refine r_iload_n (pc2 := 19) dX1_insert_18 rfl rfl ?_
  refine r_iconst (pc2 := 20) (nI 1) dX1_insert_19 (by decide) rfl ?_
  refine r_cv3m (pc2 := 23) dX1_insert_20 st_X1_insert_36 rl_X1_putUp (Nat.le_of_ble_eq_true rfl) rfl (c_X1_putUp (by omega) (by omega)) ?_
  refine r_aload_n (pc2 := 24) dX1_insert_23 rfl rfl ?_
  refine r_dup (pc2 := 25) dX1_insert_24 rfl ?_
  refine r_getI (pc2 := 28) dX1_insert_25 fl_X1_39 (by decide) rfl rfl rfl ?_
  refine r_iconst (pc2 := 29) (nI 1) dX1_insert_28 (by decide) rfl ?_
  refine r_iadd (pc2 := 30) dX1_insert_29 rfl ?_
  refine r_put (pc2 := 33) dX1_insert_30 fl_X1_39 (by decide) rfl rfl ft_1_0 rfl rfl rfl ?_
  exact r_vret dX1_insert_33 rfl (congrArg (fun z => m_set _ g 1 0 (z + nI 1)) (by simp [b_set, a_set]))

set_option maxRecDepth 100000 in
set_option maxHeartbeats 4000000 in
theorem c_X1_delete {PL : List (Nat × Nat)} {g a b : Nat} {V : Mm_} (ha : a < 8) (hb : b < 8) : Cm_ PL mX1_delete [vR g 1, vI (nI a), vI (nI b)] V (m_set (b_set (b_set (b_set (b_set (V) g 2 a b (nI 0)) g 3 a b (nI 0)) g 4 a b (nI 0)) g 5 a b (nI 0)) g 1 0 (V g 1 0 - nI 1)) := by
  refine Ca_.of mv_X1_delete.2.2.2.2.2.2 0 (lo := [some (vR g 1), some (vI (nI a)), some (vI (nI b))]) rfl (Nat.le_of_ble_eq_true rfl) ?_
  refine r_aload_n (pc2 := 1) dX1_delete_0 rfl rfl ?_
  refine r_iload_n (pc2 := 2) dX1_delete_1 rfl rfl ?_
  refine r_iload_n (pc2 := 3) dX1_delete_2 rfl rfl ?_
  refine r_iconst (pc2 := 4) (nI 0) dX1_delete_3 (by decide) rfl ?_
  refine r_iconst (pc2 := 5) (nI 0) dX1_delete_4 (by decide) rfl ?_
  refine r_cv4m (pc2 := 8) dX1_delete_5 st_X1_delete_28 rl_X1_putBounds (Nat.le_of_ble_eq_true rfl) rfl (c_X1_putBounds (by omega) (by omega)) ?_
  refine r_aload_n (pc2 := 9) dX1_delete_8 rfl rfl ?_
  refine r_iload_n (pc2 := 10) dX1_delete_9 rfl rfl ?_
  refine r_iload_n (pc2 := 11) dX1_delete_10 rfl rfl ?_
  refine r_iconst (pc2 := 12) (nI 0) dX1_delete_11 (by decide) rfl ?_
  refine r_cv3m (pc2 := 15) dX1_delete_12 st_X1_delete_32 rl_X1_putCost (Nat.le_of_ble_eq_true rfl) rfl (c_X1_putCost (by omega) (by omega)) ?_
  refine r_aload_n (pc2 := 16) dX1_delete_15 rfl rfl ?_
  refine r_iload_n (pc2 := 17) dX1_delete_16 rfl rfl ?_
  refine r_iload_n (pc2 := 18) dX1_delete_17 rfl rfl ?_
  refine r_iconst (pc2 := 19) (nI 0) dX1_delete_18 (by decide) rfl ?_
  refine r_cv3m (pc2 := 22) dX1_delete_19 st_X1_delete_36 rl_X1_putUp (Nat.le_of_ble_eq_true rfl) rfl (c_X1_putUp (by omega) (by omega)) ?_
  refine r_aload_n (pc2 := 23) dX1_delete_22 rfl rfl ?_
  refine r_dup (pc2 := 24) dX1_delete_23 rfl ?_
  refine r_getI (pc2 := 27) dX1_delete_24 fl_X1_39 (by decide) rfl rfl rfl ?_
  refine r_iconst (pc2 := 28) (nI 1) dX1_delete_27 (by decide) rfl ?_
  refine r_isub (pc2 := 29) dX1_delete_28 rfl ?_
  refine r_put (pc2 := 32) dX1_delete_29 fl_X1_39 (by decide) rfl rfl ft_1_0 rfl rfl rfl ?_
  exact r_vret dX1_delete_32 rfl (congrArg (fun z => m_set _ g 1 0 (z - nI 1)) (by simp [b_set, a_set]))

set_option maxRecDepth 100000 in
set_option maxHeartbeats 4000000 in
theorem c_X1_clear {PL : List (Nat × Nat)} {g : Nat} {V : Mm_} : Cm_ PL mX1_clear [vR g 1] V (a_set (a_set (a_set (a_set (m_set V g 1 0 (nI 0)) g 2 (fl_ (nI 0) 64 (V g 2))) g 3 (fl_ (nI 0) 64 (V g 3))) g 4 (fl_ (nI 0) 64 (V g 4))) g 5 (fl_ (nI 0) 64 (V g 5))) := by
  refine Ca_.of mv_X1_clear.2.2.2.2.2.2 0 (lo := [some (vR g 1)]) rfl (Nat.le_of_ble_eq_true rfl) ?_
  refine r_aload_n (pc2 := 1) dX1_clear_0 rfl rfl ?_
  refine r_iconst (pc2 := 2) (nI 0) dX1_clear_1 (by decide) rfl ?_
  refine r_put (pc2 := 5) dX1_clear_2 fl_X1_39 (by decide) rfl rfl ft_1_0 rfl rfl rfl ?_
  refine r_aload_n (pc2 := 6) dX1_clear_5 rfl rfl ?_
  refine r_getR (pc2 := 9) dX1_clear_6 fl_X1_9 (by decide) rfl rfl rfl ?_
  refine r_iconst (pc2 := 10) (nI 0) dX1_clear_9 (by decide) rfl ?_
  refine r_cs2m (pc2 := 13) dX1_clear_10 st_X1_clear_43 (Nat.le_of_ble_eq_true rfl) rfl (c_fill64 (by decide) rfl rfl rfl) ?_
  refine r_aload_n (pc2 := 14) dX1_clear_13 rfl rfl ?_
  refine r_getR (pc2 := 17) dX1_clear_14 fl_X1_15 (by decide) rfl rfl rfl ?_
  refine r_iconst (pc2 := 18) (nI 0) dX1_clear_17 (by decide) rfl ?_
  refine r_cs2m (pc2 := 21) dX1_clear_18 st_X1_clear_43 (Nat.le_of_ble_eq_true rfl) rfl (c_fill64 (by decide) rfl rfl rfl) ?_
  refine r_aload_n (pc2 := 22) dX1_clear_21 rfl rfl ?_
  refine r_getR (pc2 := 25) dX1_clear_22 fl_X1_18 (by decide) rfl rfl rfl ?_
  refine r_iconst (pc2 := 26) (nI 0) dX1_clear_25 (by decide) rfl ?_
  refine r_cs2m (pc2 := 29) dX1_clear_26 st_X1_clear_43 (Nat.le_of_ble_eq_true rfl) rfl (c_fill64 (by decide) rfl rfl rfl) ?_
  refine r_aload_n (pc2 := 30) dX1_clear_29 rfl rfl ?_
  refine r_getR (pc2 := 33) dX1_clear_30 fl_X1_21 (by decide) rfl rfl rfl ?_
  refine r_iconst (pc2 := 34) (nI 0) dX1_clear_33 (by decide) rfl ?_
  refine r_cs2m (pc2 := 37) dX1_clear_34 st_X1_clear_43 (Nat.le_of_ble_eq_true rfl) rfl (c_fill64 (by decide) rfl rfl rfl) ?_
  exact r_vret dX1_clear_37 rfl (by simp [a_set])

/-- the first n numbers of an array from another one -/
def cp_ (f h : Nat → Int32) (n : Nat) : Nat → Int32 := va_cpy f h 0 0 n
theorem cp_in {f h : Nat → Int32} {n k : Nat} (hk : k < n) : cp_ f h n k = f k := sb_cpy0 hk
set_option maxRecDepth 100000 in
set_option maxHeartbeats 4000000 in
theorem c_X1_copyFrom {PL : List (Nat × Nat)} {g0 g : Nat} {V : Mm_} (hg : ¬ g0 = g) : Cm_ PL mX1_copyFrom [vR g 1, vR g0 1] V (a_set (a_set (a_set (a_set (m_set V g 1 0 (V g0 1 0)) g 2 (cp_ (V g0 2) (V g 2) 64)) g 3 (cp_ (V g0 3) (V g 3) 64)) g 4 (cp_ (V g0 4) (V g 4) 64)) g 5 (cp_ (V g0 5) (V g 5) 64)) := by
  refine Ca_.of mv_X1_copyFrom.2.2.2.2.2.2 0 (lo := [some (vR g 1), some (vR g0 1)]) rfl (Nat.le_of_ble_eq_true rfl) ?_
  refine r_aload_n (pc2 := 1) dX1_copyFrom_0 rfl rfl ?_
  refine r_aload_n (pc2 := 2) dX1_copyFrom_1 rfl rfl ?_
  refine r_getI (pc2 := 5) dX1_copyFrom_2 fl_X1_39 (by decide) rfl rfl rfl ?_
  refine r_put (pc2 := 8) dX1_copyFrom_5 fl_X1_39 (by decide) rfl rfl ft_1_0 rfl rfl rfl ?_
  refine r_aload_n (pc2 := 9) dX1_copyFrom_8 rfl rfl ?_
  refine r_getR (pc2 := 12) dX1_copyFrom_9 fl_X1_9 (by decide) rfl rfl rfl ?_
  refine r_iconst (pc2 := 13) (nI 0) dX1_copyFrom_12 (by decide) rfl ?_
  refine r_aload_n (pc2 := 14) dX1_copyFrom_13 rfl rfl ?_
  refine r_getR (pc2 := 17) dX1_copyFrom_14 fl_X1_9 (by decide) rfl rfl rfl ?_
  refine r_iconst (pc2 := 18) (nI 0) dX1_copyFrom_17 (by decide) rfl ?_
  refine r_bipush (pc2 := 20) (nI 64) dX1_copyFrom_18 (by decide) rfl ?_
  refine r_cpy (pc2 := 23) dX1_copyFrom_20 st_X1_copyFrom_49 (by decide) (by decide) rfl rfl rfl rfl (by decide) (by decide) (Nat.le_of_ble_eq_true rfl) rfl ?_
  refine r_aload_n (pc2 := 24) dX1_copyFrom_23 rfl rfl ?_
  refine r_getR (pc2 := 27) dX1_copyFrom_24 fl_X1_15 (by decide) rfl rfl rfl ?_
  refine r_iconst (pc2 := 28) (nI 0) dX1_copyFrom_27 (by decide) rfl ?_
  refine r_aload_n (pc2 := 29) dX1_copyFrom_28 rfl rfl ?_
  refine r_getR (pc2 := 32) dX1_copyFrom_29 fl_X1_15 (by decide) rfl rfl rfl ?_
  refine r_iconst (pc2 := 33) (nI 0) dX1_copyFrom_32 (by decide) rfl ?_
  refine r_bipush (pc2 := 35) (nI 64) dX1_copyFrom_33 (by decide) rfl ?_
  refine r_cpy (pc2 := 38) dX1_copyFrom_35 st_X1_copyFrom_49 (by decide) (by decide) rfl rfl rfl rfl (by decide) (by decide) (Nat.le_of_ble_eq_true rfl) rfl ?_
  refine r_aload_n (pc2 := 39) dX1_copyFrom_38 rfl rfl ?_
  refine r_getR (pc2 := 42) dX1_copyFrom_39 fl_X1_18 (by decide) rfl rfl rfl ?_
  refine r_iconst (pc2 := 43) (nI 0) dX1_copyFrom_42 (by decide) rfl ?_
  refine r_aload_n (pc2 := 44) dX1_copyFrom_43 rfl rfl ?_
  refine r_getR (pc2 := 47) dX1_copyFrom_44 fl_X1_18 (by decide) rfl rfl rfl ?_
  refine r_iconst (pc2 := 48) (nI 0) dX1_copyFrom_47 (by decide) rfl ?_
  refine r_bipush (pc2 := 50) (nI 64) dX1_copyFrom_48 (by decide) rfl ?_
  refine r_cpy (pc2 := 53) dX1_copyFrom_50 st_X1_copyFrom_49 (by decide) (by decide) rfl rfl rfl rfl (by decide) (by decide) (Nat.le_of_ble_eq_true rfl) rfl ?_
  refine r_aload_n (pc2 := 54) dX1_copyFrom_53 rfl rfl ?_
  refine r_getR (pc2 := 57) dX1_copyFrom_54 fl_X1_21 (by decide) rfl rfl rfl ?_
  refine r_iconst (pc2 := 58) (nI 0) dX1_copyFrom_57 (by decide) rfl ?_
  refine r_aload_n (pc2 := 59) dX1_copyFrom_58 rfl rfl ?_
  refine r_getR (pc2 := 62) dX1_copyFrom_59 fl_X1_21 (by decide) rfl rfl rfl ?_
  refine r_iconst (pc2 := 63) (nI 0) dX1_copyFrom_62 (by decide) rfl ?_
  refine r_bipush (pc2 := 65) (nI 64) dX1_copyFrom_63 (by decide) rfl ?_
  refine r_cpy (pc2 := 68) dX1_copyFrom_65 st_X1_copyFrom_49 (by decide) (by decide) rfl rfl rfl rfl (by decide) (by decide) (Nat.le_of_ble_eq_true rfl) rfl ?_
  exact r_vret dX1_copyFrom_68 rfl (by unfold cp_; simp [a_set, hg])

set_option maxRecDepth 100000 in
set_option maxHeartbeats 4000000 in
theorem c_X4_has {PL : List (Nat × Nat)} {g k : Nat} {V : Mm_} (hk : k < 512) : Cp_ PL mX4_has [vR g 6, vI (nI k)] V (b2 (decide (0 < V g 9 k))) := by
  refine Ca_.of mv_X4_has.2.2.2.2.2.2 0 (lo := [some (vR g 6), some (vI (nI k))]) rfl (Nat.le_of_ble_eq_true rfl) ?_
  refine r_aload_n (pc2 := 1) dX4_has_0 rfl rfl ?_
  refine r_getR (pc2 := 4) dX4_has_1 fl_X4_18 (by decide) rfl rfl rfl ?_
  refine r_iload_n (pc2 := 5) dX4_has_4 rfl rfl ?_
  refine r_iald (pc2 := 6) (j := _) dX4_has_5 (by decide) rfl rfl (rfl) (by show _ < 512; omega) rfl ?_
  refine r_if_le (pc2 := 9) (tgt := 13) dX4_has_6 (by decide) rfl (fun c6 => ?_) (fun c6 => ?_)
  · skip
    refine r_iconst (pc2 := 14) (nI 0) dX4_has_13 (by decide) rfl ?_
    exact r_zret dX4_has_14 rfl (Or.inl rfl) (⟨b2_f (by simp only [Int32.lt_iff_toInt_lt, Int32.le_iff_toInt_le, ← Int32.toInt_inj, decide_eq_true_eq, decide_eq_false_iff_not] at c6 ⊢; omega), rfl⟩)
  · skip
    refine r_iconst (pc2 := 10) (nI 1) dX4_has_9 (by decide) rfl ?_
    refine r_goto (pc2 := 14) dX4_has_10 (by decide) ?_
    exact r_zret dX4_has_14 rfl (Or.inr rfl) (⟨b2_t (by simp only [Int32.lt_iff_toInt_lt, Int32.le_iff_toInt_le, ← Int32.toInt_inj, decide_eq_true_eq, decide_eq_false_iff_not] at c6 ⊢; omega), rfl⟩)

set_option maxRecDepth 100000 in
set_option maxHeartbeats 4000000 in
theorem c_X4_isOpen {PL : List (Nat × Nat)} {g k : Nat} {t inf : Int32} {V : Mm_} (hk : k < 512) : Cp_ PL mX4_isOpen [vR g 6, vI (nI k), vI t, vI inf] V (b2 (decide (0 < V g 9 k ∧ t ≤ V g 9 k ∧ V g 8 k < inf ∧ V g 11 k < t))) := by
  refine Ca_.of mv_X4_isOpen.2.2.2.2.2.2 0 (lo := [some (vR g 6), some (vI (nI k)), some (vI t), some (vI inf)]) rfl (Nat.le_of_ble_eq_true rfl) ?_
  refine r_aload_n (pc2 := 1) dX4_isOpen_0 rfl rfl ?_
  refine r_iload_n (pc2 := 2) dX4_isOpen_1 rfl rfl ?_
  refine r_cv1p (pc2 := 5) dX4_isOpen_2 st_X4_isOpen_27 rl_X4_has (Nat.le_of_ble_eq_true rfl) rfl (c_X4_has (by omega)) ?_
  refine r_ifB_eq (pc2 := 8) (tgt := 42) dX4_isOpen_5 (by decide) rfl (fun c5 => ?_) (fun c5 => ?_)
  · skip
    refine r_iconst (pc2 := 43) (nI 0) dX4_isOpen_42 (by decide) rfl ?_
    exact r_zret dX4_isOpen_43 rfl (Or.inl rfl) (⟨b2_f (by simp only [Int32.lt_iff_toInt_lt, Int32.le_iff_toInt_le, ← Int32.toInt_inj, decide_eq_true_eq, decide_eq_false_iff_not] at c5 ⊢; omega), rfl⟩)
  · skip
    refine r_aload_n (pc2 := 9) dX4_isOpen_8 rfl rfl ?_
    refine r_getR (pc2 := 12) dX4_isOpen_9 fl_X4_18 (by decide) rfl rfl rfl ?_
    refine r_iload_n (pc2 := 13) dX4_isOpen_12 rfl rfl ?_
    refine r_iald (pc2 := 14) (j := _) dX4_isOpen_13 (by decide) rfl rfl (rfl) (by show _ < 512; omega) rfl ?_
    refine r_iload_n (pc2 := 15) dX4_isOpen_14 rfl rfl ?_
    refine r_ic_lt (pc2 := 18) (tgt := 42) dX4_isOpen_15 (by decide) rfl (fun c15 => ?_) (fun c15 => ?_)
    · skip
      refine r_iconst (pc2 := 43) (nI 0) dX4_isOpen_42 (by decide) rfl ?_
      exact r_zret dX4_isOpen_43 rfl (Or.inl rfl) (⟨b2_f (by simp only [Int32.lt_iff_toInt_lt, Int32.le_iff_toInt_le, ← Int32.toInt_inj, decide_eq_true_eq, decide_eq_false_iff_not] at c5 c15 ⊢; omega), rfl⟩)
    · skip
      refine r_aload_n (pc2 := 19) dX4_isOpen_18 rfl rfl ?_
      refine r_getR (pc2 := 22) dX4_isOpen_19 fl_X4_15 (by decide) rfl rfl rfl ?_
      refine r_iload_n (pc2 := 23) dX4_isOpen_22 rfl rfl ?_
      refine r_iald (pc2 := 24) (j := _) dX4_isOpen_23 (by decide) rfl rfl (rfl) (by show _ < 512; omega) rfl ?_
      refine r_iload_n (pc2 := 25) dX4_isOpen_24 rfl rfl ?_
      refine r_ic_ge (pc2 := 28) (tgt := 42) dX4_isOpen_25 (by decide) rfl (fun c25 => ?_) (fun c25 => ?_)
      · skip
        refine r_iconst (pc2 := 43) (nI 0) dX4_isOpen_42 (by decide) rfl ?_
        exact r_zret dX4_isOpen_43 rfl (Or.inl rfl) (⟨b2_f (by simp only [Int32.lt_iff_toInt_lt, Int32.le_iff_toInt_le, ← Int32.toInt_inj, decide_eq_true_eq, decide_eq_false_iff_not] at c5 c15 c25 ⊢; omega), rfl⟩)
      · skip
        refine r_iload_n (pc2 := 29) dX4_isOpen_28 rfl rfl ?_
        refine r_aload_n (pc2 := 30) dX4_isOpen_29 rfl rfl ?_
        refine r_getR (pc2 := 33) dX4_isOpen_30 fl_X4_24 (by decide) rfl rfl rfl ?_
        refine r_iload_n (pc2 := 34) dX4_isOpen_33 rfl rfl ?_
        refine r_iald (pc2 := 35) (j := _) dX4_isOpen_34 (by decide) rfl rfl (rfl) (by show _ < 512; omega) rfl ?_
        refine r_ic_le (pc2 := 38) (tgt := 42) dX4_isOpen_35 (by decide) rfl (fun c35 => ?_) (fun c35 => ?_)
        · skip
          refine r_iconst (pc2 := 43) (nI 0) dX4_isOpen_42 (by decide) rfl ?_
          exact r_zret dX4_isOpen_43 rfl (Or.inl rfl) (⟨b2_f (by simp only [Int32.lt_iff_toInt_lt, Int32.le_iff_toInt_le, ← Int32.toInt_inj, decide_eq_true_eq, decide_eq_false_iff_not] at c5 c15 c25 c35 ⊢; omega), rfl⟩)
        · skip
          refine r_iconst (pc2 := 39) (nI 1) dX4_isOpen_38 (by decide) rfl ?_
          refine r_goto (pc2 := 43) dX4_isOpen_39 (by decide) ?_
          exact r_zret dX4_isOpen_43 rfl (Or.inr rfl) (⟨b2_t (by simp only [Int32.lt_iff_toInt_lt, Int32.le_iff_toInt_le, ← Int32.toInt_inj, decide_eq_true_eq, decide_eq_false_iff_not] at c5 c15 c25 c35 ⊢; omega), rfl⟩)

set_option maxRecDepth 100000 in
set_option maxHeartbeats 4000000 in
theorem c_X4_dominates {PL : List (Nat × Nat)} {g j k : Nat} {V : Mm_} (hj : j < 512) (hk : k < 512) : Cp_ PL mX4_dominates [vR g 6, vI (nI j), vI (nI k)] V (b2 (dm_ (V g) j k)) := by
  refine Ca_.of mv_X4_dominates.2.2.2.2.2.2 1 (lo := [some (vR g 6), some (vI (nI j)), some (vI (nI k)), none]) rfl (Nat.le_of_ble_eq_true rfl) ?_
  refine r_aload_n (pc2 := 1) dX4_dominates_0 rfl rfl ?_
  refine r_getR (pc2 := 4) dX4_dominates_1 fl_X4_15 (by decide) rfl rfl rfl ?_
  refine r_iload_n (pc2 := 5) dX4_dominates_4 rfl rfl ?_
  refine r_iald (pc2 := 6) (j := _) dX4_dominates_5 (by decide) rfl rfl (rfl) (by show _ < 512; omega) rfl ?_
  refine r_aload_n (pc2 := 7) dX4_dominates_6 rfl rfl ?_
  refine r_getR (pc2 := 10) dX4_dominates_7 fl_X4_9 (by decide) rfl rfl rfl ?_
  refine r_iload_n (pc2 := 11) dX4_dominates_10 rfl rfl ?_
  refine r_iald (pc2 := 12) (j := _) dX4_dominates_11 (by decide) rfl rfl (rfl) (by show _ < 512; omega) rfl ?_
  refine r_ic_le (pc2 := 15) (tgt := 17) dX4_dominates_12 (by decide) rfl (fun c12 => ?_) (fun c12 => ?_)
  · skip
    refine r_aload_n (pc2 := 18) dX4_dominates_17 rfl rfl ?_
    refine r_getR (pc2 := 21) dX4_dominates_18 fl_X4_15 (by decide) rfl rfl rfl ?_
    refine r_iload_n (pc2 := 22) dX4_dominates_21 rfl rfl ?_
    refine r_iald (pc2 := 23) (j := _) dX4_dominates_22 (by decide) rfl rfl (rfl) (by show _ < 512; omega) rfl ?_
    refine r_aload_n (pc2 := 24) dX4_dominates_23 rfl rfl ?_
    refine r_getR (pc2 := 27) dX4_dominates_24 fl_X4_9 (by decide) rfl rfl rfl ?_
    refine r_iload_n (pc2 := 28) dX4_dominates_27 rfl rfl ?_
    refine r_iald (pc2 := 29) (j := _) dX4_dominates_28 (by decide) rfl rfl (rfl) (by show _ < 512; omega) rfl ?_
    refine r_ic_gt (pc2 := 32) (tgt := 36) dX4_dominates_29 (by decide) rfl (fun c29 => ?_) (fun c29 => ?_)
    · skip
      refine r_iconst (pc2 := 37) (nI 0) dX4_dominates_36 (by decide) rfl ?_
      refine r_istore_n (pc2 := 38) dX4_dominates_37 (by decide) rfl rfl ?_
      refine r_iload_n (pc2 := 39) dX4_dominates_38 rfl rfl ?_
      refine r_if0N_eq (pc2 := 42) (tgt := 47) (by omega) dX4_dominates_39 (by decide) rfl (fun c39 => ?_) (fun c39 => ?_)
      · skip
        refine r_iconst (pc2 := 48) (nI 1) dX4_dominates_47 (by decide) rfl ?_
        refine r_goto (pc2 := 52) dX4_dominates_48 (by decide) ?_
        exact r_zret dX4_dominates_52 rfl (Or.inr rfl) (⟨by unfold dm_; exact b2_t (by simp only [Int32.lt_iff_toInt_lt, Int32.le_iff_toInt_le, ← Int32.toInt_inj, decide_eq_true_eq, decide_eq_false_iff_not] at c12 c29 c39 ⊢; omega), rfl⟩)
      · skip
        exact absurd rfl c39
    · skip
      refine r_iconst (pc2 := 33) (nI 1) dX4_dominates_32 (by decide) rfl ?_
      refine r_goto (pc2 := 37) dX4_dominates_33 (by decide) ?_
      refine r_istore_n (pc2 := 38) dX4_dominates_37 (by decide) rfl rfl ?_
      refine r_iload_n (pc2 := 39) dX4_dominates_38 rfl rfl ?_
      refine r_if0N_eq (pc2 := 42) (tgt := 47) (by omega) dX4_dominates_39 (by decide) rfl (fun c39 => ?_) (fun c39 => ?_)
      · skip
        exact absurd c39 (by decide)
      · skip
        refine r_iload_n (pc2 := 43) dX4_dominates_42 rfl rfl ?_
        refine r_iload_n (pc2 := 44) dX4_dominates_43 rfl rfl ?_
        refine r_icN_ge (pc2 := 47) (tgt := 51) (by omega) (by omega) dX4_dominates_44 (by decide) rfl (fun c44 => ?_) (fun c44 => ?_)
        · skip
          refine r_iconst (pc2 := 52) (nI 0) dX4_dominates_51 (by decide) rfl ?_
          exact r_zret dX4_dominates_52 rfl (Or.inl rfl) (⟨by unfold dm_; exact b2_f (by simp only [Int32.lt_iff_toInt_lt, Int32.le_iff_toInt_le, ← Int32.toInt_inj, decide_eq_true_eq, decide_eq_false_iff_not] at c12 c29 c39 c44 ⊢; omega), rfl⟩)
        · skip
          refine r_iconst (pc2 := 48) (nI 1) dX4_dominates_47 (by decide) rfl ?_
          refine r_goto (pc2 := 52) dX4_dominates_48 (by decide) ?_
          exact r_zret dX4_dominates_52 rfl (Or.inr rfl) (⟨by unfold dm_; exact b2_t (by simp only [Int32.lt_iff_toInt_lt, Int32.le_iff_toInt_le, ← Int32.toInt_inj, decide_eq_true_eq, decide_eq_false_iff_not] at c12 c29 c39 c44 ⊢; omega), rfl⟩)
  · skip
    refine r_iconst (pc2 := 16) (nI 0) dX4_dominates_15 (by decide) rfl ?_
    exact r_zret dX4_dominates_16 rfl (Or.inl rfl) (⟨by unfold dm_; exact b2_f (by simp only [Int32.lt_iff_toInt_lt, Int32.le_iff_toInt_le, ← Int32.toInt_inj, decide_eq_true_eq, decide_eq_false_iff_not] at c12 ⊢; omega), rfl⟩)

def gw_ (s : Sg_) (k : Nat) (x : Int32) : Int32 := if s 8 k < x then s 10 k + nI 1 else if x < s 8 k then nI 0 else s 10 k
set_option maxRecDepth 100000 in
set_option maxHeartbeats 4000000 in
theorem c_X4_countGrowth {PL : List (Nat × Nat)} {g k : Nat} {x : Int32} {V : Mm_} (hk : k < 512) : Cm_ PL mX4_countGrowth [vR g 6, vI (nI k), vI x] V (m_set V g 10 k (gw_ (V g) k x)) := by
  refine Ca_.of mv_X4_countGrowth.2.2.2.2.2.2 0 (lo := [some (vR g 6), some (vI (nI k)), some (vI x)]) rfl (Nat.le_of_ble_eq_true rfl) ?_
  refine r_iload_n (pc2 := 1) dX4_countGrowth_0 rfl rfl ?_
  refine r_aload_n (pc2 := 2) dX4_countGrowth_1 rfl rfl ?_
  refine r_getR (pc2 := 5) dX4_countGrowth_2 fl_X4_15 (by decide) rfl rfl rfl ?_
  refine r_iload_n (pc2 := 6) dX4_countGrowth_5 rfl rfl ?_
  refine r_iald (pc2 := 7) (j := _) dX4_countGrowth_6 (by decide) rfl rfl (rfl) (by show _ < 512; omega) rfl ?_
  refine r_ic_le (pc2 := 10) (tgt := 23) dX4_countGrowth_7 (by decide) rfl (fun c7 => ?_) (fun c7 => ?_)
  · skip
    refine r_iload_n (pc2 := 24) dX4_countGrowth_23 rfl rfl ?_
    refine r_aload_n (pc2 := 25) dX4_countGrowth_24 rfl rfl ?_
    refine r_getR (pc2 := 28) dX4_countGrowth_25 fl_X4_15 (by decide) rfl rfl rfl ?_
    refine r_iload_n (pc2 := 29) dX4_countGrowth_28 rfl rfl ?_
    refine r_iald (pc2 := 30) (j := _) dX4_countGrowth_29 (by decide) rfl rfl (rfl) (by show _ < 512; omega) rfl ?_
    refine r_ic_ge (pc2 := 33) (tgt := 40) dX4_countGrowth_30 (by decide) rfl (fun c30 => ?_) (fun c30 => ?_)
    · skip
      exact r_vret dX4_countGrowth_40 rfl (by unfold gw_; first | rw [if_pos (by simp only [Int32.lt_iff_toInt_lt, Int32.le_iff_toInt_le, ← Int32.toInt_inj, decide_eq_true_eq, decide_eq_false_iff_not] at c7 c30 ⊢; omega)] | rw [if_neg (by simp only [Int32.lt_iff_toInt_lt, Int32.le_iff_toInt_le, ← Int32.toInt_inj, decide_eq_true_eq, decide_eq_false_iff_not] at c7 c30 ⊢; omega), if_pos (by simp only [Int32.lt_iff_toInt_lt, Int32.le_iff_toInt_le, ← Int32.toInt_inj, decide_eq_true_eq, decide_eq_false_iff_not] at c7 c30 ⊢; omega)] | (rw [if_neg (by simp only [Int32.lt_iff_toInt_lt, Int32.le_iff_toInt_le, ← Int32.toInt_inj, decide_eq_true_eq, decide_eq_false_iff_not] at c7 c30 ⊢; omega), if_neg (by simp only [Int32.lt_iff_toInt_lt, Int32.le_iff_toInt_le, ← Int32.toInt_inj, decide_eq_true_eq, decide_eq_false_iff_not] at c7 c30 ⊢; omega)]; unfold m_set; rw [show upd (V g 10) k (V g 10 k) = V g 10 from by funext j; unfold upd; split; (subst_vars; rfl); rfl, a_id]))
    · skip
      refine r_aload_n (pc2 := 34) dX4_countGrowth_33 rfl rfl ?_
      refine r_getR (pc2 := 37) dX4_countGrowth_34 fl_X4_21 (by decide) rfl rfl rfl ?_
      refine r_iload_n (pc2 := 38) dX4_countGrowth_37 rfl rfl ?_
      refine r_iconst (pc2 := 39) (nI 0) dX4_countGrowth_38 (by decide) rfl ?_
      refine r_iast (pc2 := 40) (j := _) dX4_countGrowth_39 (by decide) rfl rfl (rfl) (by show _ < 512; omega) rfl ?_
      exact r_vret dX4_countGrowth_40 rfl (by unfold gw_; first | rw [if_pos (by simp only [Int32.lt_iff_toInt_lt, Int32.le_iff_toInt_le, ← Int32.toInt_inj, decide_eq_true_eq, decide_eq_false_iff_not] at c7 c30 ⊢; omega)] | rw [if_neg (by simp only [Int32.lt_iff_toInt_lt, Int32.le_iff_toInt_le, ← Int32.toInt_inj, decide_eq_true_eq, decide_eq_false_iff_not] at c7 c30 ⊢; omega), if_pos (by simp only [Int32.lt_iff_toInt_lt, Int32.le_iff_toInt_le, ← Int32.toInt_inj, decide_eq_true_eq, decide_eq_false_iff_not] at c7 c30 ⊢; omega)] | (rw [if_neg (by simp only [Int32.lt_iff_toInt_lt, Int32.le_iff_toInt_le, ← Int32.toInt_inj, decide_eq_true_eq, decide_eq_false_iff_not] at c7 c30 ⊢; omega), if_neg (by simp only [Int32.lt_iff_toInt_lt, Int32.le_iff_toInt_le, ← Int32.toInt_inj, decide_eq_true_eq, decide_eq_false_iff_not] at c7 c30 ⊢; omega)]; unfold m_set; rw [show upd (V g 10) k (V g 10 k) = V g 10 from by funext j; unfold upd; split; (subst_vars; rfl); rfl, a_id]))
  · skip
    refine r_aload_n (pc2 := 11) dX4_countGrowth_10 rfl rfl ?_
    refine r_getR (pc2 := 14) dX4_countGrowth_11 fl_X4_21 (by decide) rfl rfl rfl ?_
    refine r_iload_n (pc2 := 15) dX4_countGrowth_14 rfl rfl ?_
    refine r_dup2 (pc2 := 16) dX4_countGrowth_15 rfl ?_
    refine r_iald (pc2 := 17) (j := _) dX4_countGrowth_16 (by decide) rfl rfl (rfl) (by show _ < 512; omega) rfl ?_
    refine r_iconst (pc2 := 18) (nI 1) dX4_countGrowth_17 (by decide) rfl ?_
    refine r_iadd (pc2 := 19) dX4_countGrowth_18 rfl ?_
    refine r_iast (pc2 := 20) (j := _) dX4_countGrowth_19 (by decide) rfl rfl (rfl) (by show _ < 512; omega) rfl ?_
    refine r_goto (pc2 := 40) dX4_countGrowth_20 (by decide) ?_
    exact r_vret dX4_countGrowth_40 rfl (by unfold gw_; first | rw [if_pos (by simp only [Int32.lt_iff_toInt_lt, Int32.le_iff_toInt_le, ← Int32.toInt_inj, decide_eq_true_eq, decide_eq_false_iff_not] at c7 ⊢; omega)] | rw [if_neg (by simp only [Int32.lt_iff_toInt_lt, Int32.le_iff_toInt_le, ← Int32.toInt_inj, decide_eq_true_eq, decide_eq_false_iff_not] at c7 ⊢; omega), if_pos (by simp only [Int32.lt_iff_toInt_lt, Int32.le_iff_toInt_le, ← Int32.toInt_inj, decide_eq_true_eq, decide_eq_false_iff_not] at c7 ⊢; omega)] | (rw [if_neg (by simp only [Int32.lt_iff_toInt_lt, Int32.le_iff_toInt_le, ← Int32.toInt_inj, decide_eq_true_eq, decide_eq_false_iff_not] at c7 ⊢; omega), if_neg (by simp only [Int32.lt_iff_toInt_lt, Int32.le_iff_toInt_le, ← Int32.toInt_inj, decide_eq_true_eq, decide_eq_false_iff_not] at c7 ⊢; omega)]; unfold m_set; rw [show upd (V g 10) k (V g 10 k) = V g 10 from by funext j; unfold upd; split; (subst_vars; rfl); rfl, a_id]))

set_option maxRecDepth 100000 in
set_option maxHeartbeats 4000000 in
theorem c_X4_clear {PL : List (Nat × Nat)} {g : Nat} {V : Mm_} : Cm_ PL mX4_clear [vR g 6] V (a_set (a_set (a_set (a_set (a_set (V) g 7 (fl_ (nI 0) 512 (V g 7))) g 8 (fl_ (nI 0) 512 (V g 8))) g 9 (fl_ (nI 0) 512 (V g 9))) g 10 (fl_ (nI 0) 512 (V g 10))) g 11 (fl_ (nI 0) 512 (V g 11))) := by
  refine Ca_.of mv_X4_clear.2.2.2.2.2.2 0 (lo := [some (vR g 6)]) rfl (Nat.le_of_ble_eq_true rfl) ?_
  refine r_aload_n (pc2 := 1) dX4_clear_0 rfl rfl ?_
  refine r_getR (pc2 := 4) dX4_clear_1 fl_X4_9 (by decide) rfl rfl rfl ?_
  refine r_iconst (pc2 := 5) (nI 0) dX4_clear_4 (by decide) rfl ?_
  refine r_cs2m (pc2 := 8) dX4_clear_5 st_X4_clear_35 (Nat.le_of_ble_eq_true rfl) rfl (c_fill512 (by decide) rfl rfl rfl) ?_
  refine r_aload_n (pc2 := 9) dX4_clear_8 rfl rfl ?_
  refine r_getR (pc2 := 12) dX4_clear_9 fl_X4_15 (by decide) rfl rfl rfl ?_
  refine r_iconst (pc2 := 13) (nI 0) dX4_clear_12 (by decide) rfl ?_
  refine r_cs2m (pc2 := 16) dX4_clear_13 st_X4_clear_35 (Nat.le_of_ble_eq_true rfl) rfl (c_fill512 (by decide) rfl rfl rfl) ?_
  refine r_aload_n (pc2 := 17) dX4_clear_16 rfl rfl ?_
  refine r_getR (pc2 := 20) dX4_clear_17 fl_X4_18 (by decide) rfl rfl rfl ?_
  refine r_iconst (pc2 := 21) (nI 0) dX4_clear_20 (by decide) rfl ?_
  refine r_cs2m (pc2 := 24) dX4_clear_21 st_X4_clear_35 (Nat.le_of_ble_eq_true rfl) rfl (c_fill512 (by decide) rfl rfl rfl) ?_
  refine r_aload_n (pc2 := 25) dX4_clear_24 rfl rfl ?_
  refine r_getR (pc2 := 28) dX4_clear_25 fl_X4_21 (by decide) rfl rfl rfl ?_
  refine r_iconst (pc2 := 29) (nI 0) dX4_clear_28 (by decide) rfl ?_
  refine r_cs2m (pc2 := 32) dX4_clear_29 st_X4_clear_35 (Nat.le_of_ble_eq_true rfl) rfl (c_fill512 (by decide) rfl rfl rfl) ?_
  refine r_aload_n (pc2 := 33) dX4_clear_32 rfl rfl ?_
  refine r_getR (pc2 := 36) dX4_clear_33 fl_X4_24 (by decide) rfl rfl rfl ?_
  refine r_iconst (pc2 := 37) (nI 0) dX4_clear_36 (by decide) rfl ?_
  refine r_cs2m (pc2 := 40) dX4_clear_37 st_X4_clear_35 (Nat.le_of_ble_eq_true rfl) rfl (c_fill512 (by decide) rfl rfl rfl) ?_
  exact r_vret dX4_clear_40 rfl (by simp [a_set])

set_option maxRecDepth 100000 in
set_option maxHeartbeats 4000000 in
theorem c_X4_copyFrom {PL : List (Nat × Nat)} {g0 g : Nat} {V : Mm_} (hg : ¬ g0 = g) : Cm_ PL mX4_copyFrom [vR g 6, vR g0 6] V (a_set (a_set (a_set (a_set (a_set (V) g 7 (cp_ (V g0 7) (V g 7) 512)) g 8 (cp_ (V g0 8) (V g 8) 512)) g 9 (cp_ (V g0 9) (V g 9) 512)) g 10 (cp_ (V g0 10) (V g 10) 512)) g 11 (cp_ (V g0 11) (V g 11) 512)) := by
  refine Ca_.of mv_X4_copyFrom.2.2.2.2.2.2 0 (lo := [some (vR g 6), some (vR g0 6)]) rfl (Nat.le_of_ble_eq_true rfl) ?_
  refine r_aload_n (pc2 := 1) dX4_copyFrom_0 rfl rfl ?_
  refine r_getR (pc2 := 4) dX4_copyFrom_1 fl_X4_9 (by decide) rfl rfl rfl ?_
  refine r_iconst (pc2 := 5) (nI 0) dX4_copyFrom_4 (by decide) rfl ?_
  refine r_aload_n (pc2 := 6) dX4_copyFrom_5 rfl rfl ?_
  refine r_getR (pc2 := 9) dX4_copyFrom_6 fl_X4_9 (by decide) rfl rfl rfl ?_
  refine r_iconst (pc2 := 10) (nI 0) dX4_copyFrom_9 (by decide) rfl ?_
  refine r_sipush (pc2 := 13) (nI 512) dX4_copyFrom_10 (by decide) rfl ?_
  refine r_cpy (pc2 := 16) dX4_copyFrom_13 st_X4_copyFrom_41 (by decide) (by decide) rfl rfl rfl rfl (by decide) (by decide) (Nat.le_of_ble_eq_true rfl) rfl ?_
  refine r_aload_n (pc2 := 17) dX4_copyFrom_16 rfl rfl ?_
  refine r_getR (pc2 := 20) dX4_copyFrom_17 fl_X4_15 (by decide) rfl rfl rfl ?_
  refine r_iconst (pc2 := 21) (nI 0) dX4_copyFrom_20 (by decide) rfl ?_
  refine r_aload_n (pc2 := 22) dX4_copyFrom_21 rfl rfl ?_
  refine r_getR (pc2 := 25) dX4_copyFrom_22 fl_X4_15 (by decide) rfl rfl rfl ?_
  refine r_iconst (pc2 := 26) (nI 0) dX4_copyFrom_25 (by decide) rfl ?_
  refine r_sipush (pc2 := 29) (nI 512) dX4_copyFrom_26 (by decide) rfl ?_
  refine r_cpy (pc2 := 32) dX4_copyFrom_29 st_X4_copyFrom_41 (by decide) (by decide) rfl rfl rfl rfl (by decide) (by decide) (Nat.le_of_ble_eq_true rfl) rfl ?_
  refine r_aload_n (pc2 := 33) dX4_copyFrom_32 rfl rfl ?_
  refine r_getR (pc2 := 36) dX4_copyFrom_33 fl_X4_18 (by decide) rfl rfl rfl ?_
  refine r_iconst (pc2 := 37) (nI 0) dX4_copyFrom_36 (by decide) rfl ?_
  refine r_aload_n (pc2 := 38) dX4_copyFrom_37 rfl rfl ?_
  refine r_getR (pc2 := 41) dX4_copyFrom_38 fl_X4_18 (by decide) rfl rfl rfl ?_
  refine r_iconst (pc2 := 42) (nI 0) dX4_copyFrom_41 (by decide) rfl ?_
  refine r_sipush (pc2 := 45) (nI 512) dX4_copyFrom_42 (by decide) rfl ?_
  refine r_cpy (pc2 := 48) dX4_copyFrom_45 st_X4_copyFrom_41 (by decide) (by decide) rfl rfl rfl rfl (by decide) (by decide) (Nat.le_of_ble_eq_true rfl) rfl ?_
  refine r_aload_n (pc2 := 49) dX4_copyFrom_48 rfl rfl ?_
  refine r_getR (pc2 := 52) dX4_copyFrom_49 fl_X4_21 (by decide) rfl rfl rfl ?_
  refine r_iconst (pc2 := 53) (nI 0) dX4_copyFrom_52 (by decide) rfl ?_
  refine r_aload_n (pc2 := 54) dX4_copyFrom_53 rfl rfl ?_
  refine r_getR (pc2 := 57) dX4_copyFrom_54 fl_X4_21 (by decide) rfl rfl rfl ?_
  refine r_iconst (pc2 := 58) (nI 0) dX4_copyFrom_57 (by decide) rfl ?_
  refine r_sipush (pc2 := 61) (nI 512) dX4_copyFrom_58 (by decide) rfl ?_
  refine r_cpy (pc2 := 64) dX4_copyFrom_61 st_X4_copyFrom_41 (by decide) (by decide) rfl rfl rfl rfl (by decide) (by decide) (Nat.le_of_ble_eq_true rfl) rfl ?_
  refine r_aload_n (pc2 := 65) dX4_copyFrom_64 rfl rfl ?_
  refine r_getR (pc2 := 68) dX4_copyFrom_65 fl_X4_24 (by decide) rfl rfl rfl ?_
  refine r_iconst (pc2 := 69) (nI 0) dX4_copyFrom_68 (by decide) rfl ?_
  refine r_aload_n (pc2 := 70) dX4_copyFrom_69 rfl rfl ?_
  refine r_getR (pc2 := 73) dX4_copyFrom_70 fl_X4_24 (by decide) rfl rfl rfl ?_
  refine r_iconst (pc2 := 74) (nI 0) dX4_copyFrom_73 (by decide) rfl ?_
  refine r_sipush (pc2 := 77) (nI 512) dX4_copyFrom_74 (by decide) rfl ?_
  refine r_cpy (pc2 := 80) dX4_copyFrom_77 st_X4_copyFrom_41 (by decide) (by decide) rfl rfl rfl rfl (by decide) (by decide) (Nat.le_of_ble_eq_true rfl) rfl ?_
  exact r_vret dX4_copyFrom_80 rfl (by unfold cp_; simp [a_set, hg])

set_option maxRecDepth 100000 in
set_option maxHeartbeats 4000000 in
theorem c_X5_clear {PL : List (Nat × Nat)} {g : Nat} {V : Mm_} : Cm_ PL mX5_clear [vR g 12] V (a_set (a_set (V) g 13 (fl_ (-2) 64 (V g 13))) g 14 (fl_ (-2) 64 (V g 14))) := by
  refine Ca_.of mv_X5_clear.2.2.2.2.2.2 0 (lo := [some (vR g 12)]) rfl (Nat.le_of_ble_eq_true rfl) ?_
  refine r_aload_n (pc2 := 1) dX5_clear_0 rfl rfl ?_
  refine r_getR (pc2 := 4) dX5_clear_1 fl_X5_9 (by decide) rfl rfl rfl ?_
  refine r_bipush (pc2 := 6) (-2) dX5_clear_4 (by decide) rfl ?_
  refine r_cs2m (pc2 := 9) dX5_clear_6 st_X5_clear_26 (Nat.le_of_ble_eq_true rfl) rfl (c_fill64 (by decide) rfl rfl rfl) ?_
  refine r_aload_n (pc2 := 10) dX5_clear_9 rfl rfl ?_
  refine r_getR (pc2 := 13) dX5_clear_10 fl_X5_15 (by decide) rfl rfl rfl ?_
  refine r_bipush (pc2 := 15) (-2) dX5_clear_13 (by decide) rfl ?_
  refine r_cs2m (pc2 := 18) dX5_clear_15 st_X5_clear_26 (Nat.le_of_ble_eq_true rfl) rfl (c_fill64 (by decide) rfl rfl rfl) ?_
  exact r_vret dX5_clear_18 rfl (by simp [a_set])

set_option maxRecDepth 100000 in
set_option maxHeartbeats 4000000 in
theorem c_X5_copyFrom {PL : List (Nat × Nat)} {g0 g : Nat} {V : Mm_} (hg : ¬ g0 = g) : Cm_ PL mX5_copyFrom [vR g 12, vR g0 12] V (a_set (a_set (V) g 13 (cp_ (V g0 13) (V g 13) 64)) g 14 (cp_ (V g0 14) (V g 14) 64)) := by
  refine Ca_.of mv_X5_copyFrom.2.2.2.2.2.2 0 (lo := [some (vR g 12), some (vR g0 12)]) rfl (Nat.le_of_ble_eq_true rfl) ?_
  refine r_aload_n (pc2 := 1) dX5_copyFrom_0 rfl rfl ?_
  refine r_getR (pc2 := 4) dX5_copyFrom_1 fl_X5_9 (by decide) rfl rfl rfl ?_
  refine r_iconst (pc2 := 5) (nI 0) dX5_copyFrom_4 (by decide) rfl ?_
  refine r_aload_n (pc2 := 6) dX5_copyFrom_5 rfl rfl ?_
  refine r_getR (pc2 := 9) dX5_copyFrom_6 fl_X5_9 (by decide) rfl rfl rfl ?_
  refine r_iconst (pc2 := 10) (nI 0) dX5_copyFrom_9 (by decide) rfl ?_
  refine r_bipush (pc2 := 12) (nI 64) dX5_copyFrom_10 (by decide) rfl ?_
  refine r_cpy (pc2 := 15) dX5_copyFrom_12 st_X5_copyFrom_32 (by decide) (by decide) rfl rfl rfl rfl (by decide) (by decide) (Nat.le_of_ble_eq_true rfl) rfl ?_
  refine r_aload_n (pc2 := 16) dX5_copyFrom_15 rfl rfl ?_
  refine r_getR (pc2 := 19) dX5_copyFrom_16 fl_X5_15 (by decide) rfl rfl rfl ?_
  refine r_iconst (pc2 := 20) (nI 0) dX5_copyFrom_19 (by decide) rfl ?_
  refine r_aload_n (pc2 := 21) dX5_copyFrom_20 rfl rfl ?_
  refine r_getR (pc2 := 24) dX5_copyFrom_21 fl_X5_15 (by decide) rfl rfl rfl ?_
  refine r_iconst (pc2 := 25) (nI 0) dX5_copyFrom_24 (by decide) rfl ?_
  refine r_bipush (pc2 := 27) (nI 64) dX5_copyFrom_25 (by decide) rfl ?_
  refine r_cpy (pc2 := 30) dX5_copyFrom_27 st_X5_copyFrom_32 (by decide) (by decide) rfl rfl rfl rfl (by decide) (by decide) (Nat.le_of_ble_eq_true rfl) rfl ?_
  exact r_vret dX5_copyFrom_30 rfl (by unfold cp_; simp [a_set, hg])

set_option maxRecDepth 100000 in
set_option maxHeartbeats 4000000 in
theorem c_X0_clear {PL : List (Nat × Nat)} {g : Nat} {V : Mm_} : Cm_ PL mX0_clear [vR g 15] V (a_set (m_set V g 15 1 (nI 0)) g 16 (fl_ (nI 0) 64 (V g 16))) := by
  refine Ca_.of mv_X0_clear.2.2.2.2.2.2 0 (lo := [some (vR g 15)]) rfl (Nat.le_of_ble_eq_true rfl) ?_
  refine r_aload_n (pc2 := 1) dX0_clear_0 rfl rfl ?_
  refine r_iconst (pc2 := 2) (nI 0) dX0_clear_1 (by decide) rfl ?_
  refine r_put (pc2 := 5) dX0_clear_2 fl_X0_15 (by decide) rfl rfl ft_0_1 rfl rfl rfl ?_
  refine r_aload_n (pc2 := 6) dX0_clear_5 rfl rfl ?_
  refine r_getR (pc2 := 9) dX0_clear_6 fl_X0_9 (by decide) rfl rfl rfl ?_
  refine r_iconst (pc2 := 10) (nI 0) dX0_clear_9 (by decide) rfl ?_
  refine r_cs2m (pc2 := 13) dX0_clear_10 st_X0_clear_25 (Nat.le_of_ble_eq_true rfl) rfl (c_fill64 (by decide) rfl rfl rfl) ?_
  exact r_vret dX0_clear_13 rfl (by simp [a_set])

set_option maxRecDepth 100000 in
set_option maxHeartbeats 4000000 in
theorem c_X0_copyFrom {PL : List (Nat × Nat)} {g0 g : Nat} {V : Mm_} (hg : ¬ g0 = g) : Cm_ PL mX0_copyFrom [vR g 15, vR g0 15] V (a_set (m_set V g 15 1 (V g0 15 1)) g 16 (cp_ (V g0 16) (V g 16) 64)) := by
  refine Ca_.of mv_X0_copyFrom.2.2.2.2.2.2 0 (lo := [some (vR g 15), some (vR g0 15)]) rfl (Nat.le_of_ble_eq_true rfl) ?_
  refine r_aload_n (pc2 := 1) dX0_copyFrom_0 rfl rfl ?_
  refine r_aload_n (pc2 := 2) dX0_copyFrom_1 rfl rfl ?_
  refine r_getI (pc2 := 5) dX0_copyFrom_2 fl_X0_15 (by decide) rfl rfl rfl ?_
  refine r_put (pc2 := 8) dX0_copyFrom_5 fl_X0_15 (by decide) rfl rfl ft_0_1 rfl rfl rfl ?_
  refine r_aload_n (pc2 := 9) dX0_copyFrom_8 rfl rfl ?_
  refine r_getR (pc2 := 12) dX0_copyFrom_9 fl_X0_9 (by decide) rfl rfl rfl ?_
  refine r_iconst (pc2 := 13) (nI 0) dX0_copyFrom_12 (by decide) rfl ?_
  refine r_aload_n (pc2 := 14) dX0_copyFrom_13 rfl rfl ?_
  refine r_getR (pc2 := 17) dX0_copyFrom_14 fl_X0_9 (by decide) rfl rfl rfl ?_
  refine r_iconst (pc2 := 18) (nI 0) dX0_copyFrom_17 (by decide) rfl ?_
  refine r_bipush (pc2 := 20) (nI 64) dX0_copyFrom_18 (by decide) rfl ?_
  refine r_cpy (pc2 := 23) dX0_copyFrom_20 st_X0_copyFrom_31 (by decide) (by decide) rfl rfl rfl rfl (by decide) (by decide) (Nat.le_of_ble_eq_true rfl) rfl ?_
  exact r_vret dX0_copyFrom_23 rfl (by unfold cp_; simp [a_set, hg])

set_option maxRecDepth 100000 in
set_option maxHeartbeats 4000000 in
theorem c_X0_size {PL : List (Nat × Nat)} {g : Nat} {V : Mm_} : Cp_ PL mX0_size [vR g 15] V (if nI 16 < V g 15 1 then nI 16 else V g 15 1) := by
  refine Ca_.of mv_X0_size.2.2.2.2.2.2 0 (lo := [some (vR g 15)]) rfl (Nat.le_of_ble_eq_true rfl) ?_
  refine r_aload_n (pc2 := 1) dX0_size_0 rfl rfl ?_
  refine r_getI (pc2 := 4) dX0_size_1 fl_X0_15 (by decide) rfl rfl rfl ?_
  refine r_bipush (pc2 := 6) (nI 16) dX0_size_4 (by decide) rfl ?_
  refine r_mn (pc2 := 9) dX0_size_6 st_X0_size_19 (Nat.le_of_ble_eq_true rfl) rfl ?_
  exact r_iret dX0_size_9 rfl (⟨rfl, rfl⟩)

set_option maxRecDepth 100000 in
set_option maxHeartbeats 4000000 in
theorem c_X0_add {PL : List (Nat × Nat)} {g m : Nat} {t c a b : Int32} {V : Mm_} (hm : m < 2 ^ 30) (ha : V g 15 1 = nI m) : Cm_ PL mX0_add [vR g 15, vI t, vI a, vI b, vI c] V (m_set (m_set (m_set (m_set (m_set V g 16 (m % 16 * 4) t) g 16 (m % 16 * 4 + 1) a) g 16 (m % 16 * 4 + 2) b) g 16 (m % 16 * 4 + 3) c) g 15 1 (nI (m + 1))) := by
  refine Ca_.of mv_X0_add.2.2.2.2.2.2 1 (lo := [some (vR g 15), some (vI t), some (vI a), some (vI b), some (vI c), none]) rfl (Nat.le_of_ble_eq_true rfl) ?_
  refine r_aload_n (pc2 := 1) dX0_add_0 rfl rfl ?_
  refine r_getIe (pc2 := 4) (x := (nI m)) (ha) dX0_add_1 fl_X0_15 (by decide) rfl rfl rfl ?_
  refine r_bipush (pc2 := 6) (nI 16) dX0_add_4 (by decide) rfl ?_
  refine r_iremN (pc2 := 7) (by omega) (by omega) (by omega) dX0_add_6 rfl ?_
  refine r_iconst (pc2 := 8) (nI 4) dX0_add_7 (by decide) rfl ?_
  refine r_imulN (pc2 := 9) dX0_add_8 rfl ?_
  refine r_istore (pc2 := 11) dX0_add_9 (by decide) rfl rfl ?_
  refine r_aload_n (pc2 := 12) dX0_add_11 rfl rfl ?_
  refine r_getR (pc2 := 15) dX0_add_12 fl_X0_9 (by decide) rfl rfl rfl ?_
  refine r_iload (pc2 := 17) dX0_add_15 rfl rfl ?_
  refine r_iload_n (pc2 := 18) dX0_add_17 rfl rfl ?_
  refine r_iast (pc2 := 19) (j := _) dX0_add_18 (by decide) rfl rfl (rfl) (by show _ < 64; omega) rfl ?_
  refine r_aload_n (pc2 := 20) dX0_add_19 rfl rfl ?_
  refine r_getR (pc2 := 23) dX0_add_20 fl_X0_9 (by decide) rfl rfl rfl ?_
  refine r_iload (pc2 := 25) dX0_add_23 rfl rfl ?_
  refine r_iconst (pc2 := 26) (nI 1) dX0_add_25 (by decide) rfl ?_
  refine r_iaddN (pc2 := 27) dX0_add_26 rfl ?_
  refine r_iload_n (pc2 := 28) dX0_add_27 rfl rfl ?_
  refine r_iast (pc2 := 29) (j := _) dX0_add_28 (by decide) rfl rfl (rfl) (by show _ < 64; omega) rfl ?_
  refine r_aload_n (pc2 := 30) dX0_add_29 rfl rfl ?_
  refine r_getR (pc2 := 33) dX0_add_30 fl_X0_9 (by decide) rfl rfl rfl ?_
  refine r_iload (pc2 := 35) dX0_add_33 rfl rfl ?_
  refine r_iconst (pc2 := 36) (nI 2) dX0_add_35 (by decide) rfl ?_
  refine r_iaddN (pc2 := 37) dX0_add_36 rfl ?_
  refine r_iload_n (pc2 := 38) dX0_add_37 rfl rfl ?_
  refine r_iast (pc2 := 39) (j := _) dX0_add_38 (by decide) rfl rfl (rfl) (by show _ < 64; omega) rfl ?_
  refine r_aload_n (pc2 := 40) dX0_add_39 rfl rfl ?_
  refine r_getR (pc2 := 43) dX0_add_40 fl_X0_9 (by decide) rfl rfl rfl ?_
  refine r_iload (pc2 := 45) dX0_add_43 rfl rfl ?_
  refine r_iconst (pc2 := 46) (nI 3) dX0_add_45 (by decide) rfl ?_
  refine r_iaddN (pc2 := 47) dX0_add_46 rfl ?_
  refine r_iload (pc2 := 49) dX0_add_47 rfl rfl ?_
  refine r_iast (pc2 := 50) (j := _) dX0_add_49 (by decide) rfl rfl (rfl) (by show _ < 64; omega) rfl ?_
  refine r_aload_n (pc2 := 51) dX0_add_50 rfl rfl ?_
  refine r_dup (pc2 := 52) dX0_add_51 rfl ?_
  refine r_getIe (pc2 := 55) (x := (nI m)) (by simpa [a_set] using ha) dX0_add_52 fl_X0_15 (by decide) rfl rfl rfl ?_
  refine r_iconst (pc2 := 56) (nI 1) dX0_add_55 (by decide) rfl ?_
  refine r_iaddN (pc2 := 57) dX0_add_56 rfl ?_
  refine r_put (pc2 := 60) dX0_add_57 fl_X0_15 (by decide) rfl rfl ft_0_1 rfl rfl rfl ?_
  exact r_vret dX0_add_60 rfl (rfl)

set_option maxRecDepth 100000 in
set_option maxHeartbeats 4000000 in
theorem c_X0_value {PL : List (Nat × Nat)} {g m i w : Nat} {V : Mm_} (hm : m < 2 ^ 30) (ha : V g 15 1 = nI m) (hi : i < m) (hw : w < 4) : Cp_ PL mX0_value [vR g 15, vI (nI i), vI (nI w)] V (V g 16 ((m - 1 - i) % 16 * 4 + w)) := by
  refine Ca_.of mv_X0_value.2.2.2.2.2.2 0 (lo := [some (vR g 15), some (vI (nI i)), some (vI (nI w))]) rfl (Nat.le_of_ble_eq_true rfl) ?_
  refine r_aload_n (pc2 := 1) dX0_value_0 rfl rfl ?_
  refine r_getR (pc2 := 4) dX0_value_1 fl_X0_9 (by decide) rfl rfl rfl ?_
  refine r_aload_n (pc2 := 5) dX0_value_4 rfl rfl ?_
  refine r_getIe (pc2 := 8) (x := (nI m)) (ha) dX0_value_5 fl_X0_15 (by decide) rfl rfl rfl ?_
  refine r_iconst (pc2 := 9) (nI 1) dX0_value_8 (by decide) rfl ?_
  refine r_isubN (pc2 := 10) (by omega) dX0_value_9 rfl ?_
  refine r_iload_n (pc2 := 11) dX0_value_10 rfl rfl ?_
  refine r_isubN (pc2 := 12) (by omega) dX0_value_11 rfl ?_
  refine r_bipush (pc2 := 14) (nI 16) dX0_value_12 (by decide) rfl ?_
  refine r_iremN (pc2 := 15) (by omega) (by omega) (by omega) dX0_value_14 rfl ?_
  refine r_iconst (pc2 := 16) (nI 4) dX0_value_15 (by decide) rfl ?_
  refine r_imulN (pc2 := 17) dX0_value_16 rfl ?_
  refine r_iload_n (pc2 := 18) dX0_value_17 rfl rfl ?_
  refine r_iaddN (pc2 := 19) dX0_value_18 rfl ?_
  refine r_iald (pc2 := 20) (j := _) dX0_value_19 (by decide) rfl rfl (rfl) (by show _ < 64; omega) rfl ?_
  exact r_iret dX0_value_20 rfl (⟨rfl, rfl⟩)
