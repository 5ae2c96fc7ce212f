/-! class, leaves: written by wip/whole/m1.py -/
theorem i_lt {a b : Int32} : a < b ↔ a.toInt < b.toInt := Int32.lt_iff_toInt_lt

set_option maxRecDepth 100000 in
set_option maxHeartbeats 4000000 in
theorem c_X7_pair {PL : List (Nat × Nat)} {a b : Nat} {V : Mm_} : Cp_ PL mX7_pair [vI (nI a), vI (nI b)] V (nI (a * 8 + b)) := by
  refine Ca_.of ms_X7_pair.2.2.2.2.2 0 (lo := [some (vI (nI a)), some (vI (nI b))]) rfl (Nat.le_of_ble_eq_true rfl) ?_
  refine r_iload_n (pc2 := 1) dX7_pair_0 rfl rfl ?_
  refine r_bipush (pc2 := 3) (nI 8) dX7_pair_1 (by decide) rfl ?_
  refine r_imulN (pc2 := 4) dX7_pair_3 rfl ?_
  refine r_iload_n (pc2 := 5) dX7_pair_4 rfl rfl ?_
  refine r_iaddN (pc2 := 6) dX7_pair_5 rfl ?_
  exact r_iret dX7_pair_6 rfl (⟨rfl, rfl⟩)

set_option maxRecDepth 100000 in
set_option maxHeartbeats 4000000 in
theorem c_X7_slot {PL : List (Nat × Nat)} {a b c : Nat} {V : Mm_} : Cp_ PL mX7_slot [vI (nI a), vI (nI b), vI (nI c)] V (nI ((a * 8 + b) * 8 + c)) := by
  refine Ca_.of ms_X7_slot.2.2.2.2.2 0 (lo := [some (vI (nI a)), some (vI (nI b)), some (vI (nI c))]) rfl (Nat.le_of_ble_eq_true rfl) ?_
  refine r_iload_n (pc2 := 1) dX7_slot_0 rfl rfl ?_
  refine r_bipush (pc2 := 3) (nI 8) dX7_slot_1 (by decide) rfl ?_
  refine r_imulN (pc2 := 4) dX7_slot_3 rfl ?_
  refine r_iload_n (pc2 := 5) dX7_slot_4 rfl rfl ?_
  refine r_iaddN (pc2 := 6) dX7_slot_5 rfl ?_
  refine r_bipush (pc2 := 8) (nI 8) dX7_slot_6 (by decide) rfl ?_
  refine r_imulN (pc2 := 9) dX7_slot_8 rfl ?_
  refine r_iload_n (pc2 := 10) dX7_slot_9 rfl rfl ?_
  refine r_iaddN (pc2 := 11) dX7_slot_10 rfl ?_
  exact r_iret dX7_slot_11 rfl (⟨rfl, rfl⟩)

set_option maxRecDepth 100000 in
set_option maxHeartbeats 4000000 in
theorem c_X7_isBetween {PL : List (Nat × Nat)} {v a b : Int32} {V : Mm_} : Cp_ PL mX7_isBetween [vI v, vI a, vI b] V (b2 (decide (a ≤ v ∧ v ≤ b))) := by
  refine Ca_.of ms_X7_isBetween.2.2.2.2.2 0 (lo := [some (vI v), some (vI a), some (vI b)]) rfl (Nat.le_of_ble_eq_true rfl) ?_
  refine r_iload_n (pc2 := 1) dX7_isBetween_0 rfl rfl ?_
  refine r_iload_n (pc2 := 2) dX7_isBetween_1 rfl rfl ?_
  refine r_ic_lt (pc2 := 5) (tgt := 14) dX7_isBetween_2 (by decide) rfl (fun c2 => ?_) (fun c2 => ?_)
  · skip
    refine r_iconst (pc2 := 15) (nI 0) dX7_isBetween_14 (by decide) rfl ?_
    exact r_zret dX7_isBetween_15 rfl (Or.inl rfl) (⟨b2_f (by simp only [Int32.lt_iff_toInt_lt, Int32.le_iff_toInt_le, ← Int32.toInt_inj, decide_eq_true_eq, decide_eq_false_iff_not] at c2 ⊢; omega), rfl⟩)
  · skip
    refine r_iload_n (pc2 := 6) dX7_isBetween_5 rfl rfl ?_
    refine r_iload_n (pc2 := 7) dX7_isBetween_6 rfl rfl ?_
    refine r_ic_gt (pc2 := 10) (tgt := 14) dX7_isBetween_7 (by decide) rfl (fun c7 => ?_) (fun c7 => ?_)
    · skip
      refine r_iconst (pc2 := 15) (nI 0) dX7_isBetween_14 (by decide) rfl ?_
      exact r_zret dX7_isBetween_15 rfl (Or.inl rfl) (⟨b2_f (by simp only [Int32.lt_iff_toInt_lt, Int32.le_iff_toInt_le, ← Int32.toInt_inj, decide_eq_true_eq, decide_eq_false_iff_not] at c2 c7 ⊢; omega), rfl⟩)
    · skip
      refine r_iconst (pc2 := 11) (nI 1) dX7_isBetween_10 (by decide) rfl ?_
      refine r_goto (pc2 := 15) dX7_isBetween_11 (by decide) ?_
      exact r_zret dX7_isBetween_15 rfl (Or.inr rfl) (⟨b2_t (by simp only [Int32.lt_iff_toInt_lt, Int32.le_iff_toInt_le, ← Int32.toInt_inj, decide_eq_true_eq, decide_eq_false_iff_not] at c2 c7 ⊢; omega), rfl⟩)

set_option maxRecDepth 100000 in
set_option maxHeartbeats 4000000 in
theorem c_X7_asNumber {PL : List (Nat × Nat)} {b : Bool} {V : Mm_} : Cp_ PL mX7_asNumber [vI (b2 b)] V (b2 b) := by
  refine Ca_.of ms_X7_asNumber.2.2.2.2.2 0 (lo := [some (vI (b2 b))]) rfl (Nat.le_of_ble_eq_true rfl) ?_
  refine r_iload_n (pc2 := 1) dX7_asNumber_0 rfl rfl ?_
  refine r_ifB_eq (pc2 := 4) (tgt := 8) dX7_asNumber_1 (by decide) rfl (fun c1 => ?_) (fun c1 => ?_)
  · skip
    refine r_iconst (pc2 := 9) (nI 0) dX7_asNumber_8 (by decide) rfl ?_
    exact r_iret dX7_asNumber_9 rfl (⟨b2_0 c1, rfl⟩)
  · skip
    refine r_iconst (pc2 := 5) (nI 1) dX7_asNumber_4 (by decide) rfl ?_
    refine r_goto (pc2 := 9) dX7_asNumber_5 (by decide) ?_
    exact r_iret dX7_asNumber_9 rfl (⟨b2_1 c1, rfl⟩)

set_option maxRecDepth 100000 in
set_option maxHeartbeats 4000000 in
theorem c_X1_joins {PL : List (Nat × Nat)} {g a b : Nat} {V : Mm_} (ha : a < 8) (hb : b < 8) : Cp_ PL mX1_joins [vR g 1, vI (nI a), vI (nI b)] V (b2 (decide (0 < V g 2 (a * 8 + b)))) := by
  refine Ca_.of mv_X1_joins.2.2.2.2.2.2 0 (lo := [some (vR g 1), some (vI (nI a)), some (vI (nI b))]) rfl (Nat.le_of_ble_eq_true rfl) ?_
  refine r_aload_n (pc2 := 1) dX1_joins_0 rfl rfl ?_
  refine r_getR (pc2 := 4) dX1_joins_1 fl_X1_9 (by decide) rfl rfl rfl ?_
  refine r_iload_n (pc2 := 5) dX1_joins_4 rfl rfl ?_
  refine r_iload_n (pc2 := 6) dX1_joins_5 rfl rfl ?_
  refine r_cn2p (pc2 := 9) dX1_joins_6 st_X1_joins_24 (Nat.le_of_ble_eq_true rfl) rfl (c_X7_pair) ?_
  refine r_iald (pc2 := 10) (j := _) dX1_joins_9 (by decide) rfl rfl (rfl) (by show _ < 64; omega) rfl ?_
  refine r_if_le (pc2 := 13) (tgt := 17) dX1_joins_10 (by decide) rfl (fun c10 => ?_) (fun c10 => ?_)
  · skip
    refine r_iconst (pc2 := 18) (nI 0) dX1_joins_17 (by decide) rfl ?_
    exact r_zret dX1_joins_18 rfl (Or.inl rfl) (⟨b2_f (by simp only [Int32.lt_iff_toInt_lt, Int32.le_iff_toInt_le, ← Int32.toInt_inj, decide_eq_true_eq, decide_eq_false_iff_not] at c10 ⊢; omega), rfl⟩)
  · skip
    refine r_iconst (pc2 := 14) (nI 1) dX1_joins_13 (by decide) rfl ?_
    refine r_goto (pc2 := 18) dX1_joins_14 (by decide) ?_
    exact r_zret dX1_joins_18 rfl (Or.inr rfl) (⟨b2_t (by simp only [Int32.lt_iff_toInt_lt, Int32.le_iff_toInt_le, ← Int32.toInt_inj, decide_eq_true_eq, decide_eq_false_iff_not] at c10 ⊢; omega), rfl⟩)

set_option maxRecDepth 100000 in
set_option maxHeartbeats 4000000 in
theorem c_X1_isUp {PL : List (Nat × Nat)} {g a b : Nat} {V : Mm_} (ha : a < 8) (hb : b < 8) : Cp_ PL mX1_isUp [vR g 1, vI (nI a), vI (nI b)] V (b2 (decide (V g 5 (a * 8 + b) = nI 1))) := by
  refine Ca_.of mv_X1_isUp.2.2.2.2.2.2 0 (lo := [some (vR g 1), some (vI (nI a)), some (vI (nI b))]) rfl (Nat.le_of_ble_eq_true rfl) ?_
  refine r_aload_n (pc2 := 1) dX1_isUp_0 rfl rfl ?_
  refine r_getR (pc2 := 4) dX1_isUp_1 fl_X1_21 (by decide) rfl rfl rfl ?_
  refine r_iload_n (pc2 := 5) dX1_isUp_4 rfl rfl ?_
  refine r_iload_n (pc2 := 6) dX1_isUp_5 rfl rfl ?_
  refine r_cn2p (pc2 := 9) dX1_isUp_6 st_X1_isUp_24 (Nat.le_of_ble_eq_true rfl) rfl (c_X7_pair) ?_
  refine r_iald (pc2 := 10) (j := _) dX1_isUp_9 (by decide) rfl rfl (rfl) (by show _ < 64; omega) rfl ?_
  refine r_iconst (pc2 := 11) (nI 1) dX1_isUp_10 (by decide) rfl ?_
  refine r_ic_ne (pc2 := 14) (tgt := 18) dX1_isUp_11 (by decide) rfl (fun c11 => ?_) (fun c11 => ?_)
  · skip
    refine r_iconst (pc2 := 19) (nI 0) dX1_isUp_18 (by decide) rfl ?_
    exact r_zret dX1_isUp_19 rfl (Or.inl rfl) (⟨b2_f (by simp only [Int32.lt_iff_toInt_lt, Int32.le_iff_toInt_le, ← Int32.toInt_inj, decide_eq_true_eq, decide_eq_false_iff_not] at c11 ⊢; omega), rfl⟩)
  · skip
    refine r_iconst (pc2 := 15) (nI 1) dX1_isUp_14 (by decide) rfl ?_
    refine r_goto (pc2 := 19) dX1_isUp_15 (by decide) ?_
    exact r_zret dX1_isUp_19 rfl (Or.inr rfl) (⟨b2_t (by simp only [Int32.lt_iff_toInt_lt, Int32.le_iff_toInt_le, ← Int32.toInt_inj, decide_eq_true_eq, decide_eq_false_iff_not] at c11 ⊢; omega), rfl⟩)

set_option maxRecDepth 100000 in
set_option maxHeartbeats 4000000 in
theorem c_X4_has {PL : List (Nat × Nat)} {g k : Nat} {V : Mm_} (hk : k < 512) : Cp_ PL mX4_has [vR g 6, vI (nI k)] V (b2 (decide (0 < V g 9 k))) := by
  refine Ca_.of mv_X4_has.2.2.2.2.2.2 0 (lo := [some (vR g 6), some (vI (nI k))]) rfl (Nat.le_of_ble_eq_true rfl) ?_
  refine r_aload_n (pc2 := 1) dX4_has_0 rfl rfl ?_
  refine r_getR (pc2 := 4) dX4_has_1 fl_X4_18 (by decide) rfl rfl rfl ?_
  refine r_iload_n (pc2 := 5) dX4_has_4 rfl rfl ?_
  refine r_iald (pc2 := 6) (j := _) dX4_has_5 (by decide) rfl rfl (rfl) (by show _ < 512; omega) rfl ?_
  refine r_if_le (pc2 := 9) (tgt := 13) dX4_has_6 (by decide) rfl (fun c6 => ?_) (fun c6 => ?_)
  · skip
    refine r_iconst (pc2 := 14) (nI 0) dX4_has_13 (by decide) rfl ?_
    exact r_zret dX4_has_14 rfl (Or.inl rfl) (⟨b2_f (by simp only [Int32.lt_iff_toInt_lt, Int32.le_iff_toInt_le, ← Int32.toInt_inj, decide_eq_true_eq, decide_eq_false_iff_not] at c6 ⊢; omega), rfl⟩)
  · skip
    refine r_iconst (pc2 := 10) (nI 1) dX4_has_9 (by decide) rfl ?_
    refine r_goto (pc2 := 14) dX4_has_10 (by decide) ?_
    exact r_zret dX4_has_14 rfl (Or.inr rfl) (⟨b2_t (by simp only [Int32.lt_iff_toInt_lt, Int32.le_iff_toInt_le, ← Int32.toInt_inj, decide_eq_true_eq, decide_eq_false_iff_not] at c6 ⊢; omega), rfl⟩)

set_option maxRecDepth 100000 in
set_option maxHeartbeats 4000000 in
theorem c_X4_isOpen {PL : List (Nat × Nat)} {g k : Nat} {t inf : Int32} {V : Mm_} (hk : k < 512) : Cp_ PL mX4_isOpen [vR g 6, vI (nI k), vI t, vI inf] V (b2 (decide (0 < V g 9 k ∧ t ≤ V g 9 k ∧ V g 8 k < inf ∧ V g 11 k < t))) := by
  refine Ca_.of mv_X4_isOpen.2.2.2.2.2.2 0 (lo := [some (vR g 6), some (vI (nI k)), some (vI t), some (vI inf)]) rfl (Nat.le_of_ble_eq_true rfl) ?_
  refine r_aload_n (pc2 := 1) dX4_isOpen_0 rfl rfl ?_
  refine r_iload_n (pc2 := 2) dX4_isOpen_1 rfl rfl ?_
  refine r_cv1p (pc2 := 5) dX4_isOpen_2 st_X4_isOpen_27 rl_X4_has (Nat.le_of_ble_eq_true rfl) rfl (c_X4_has (by omega)) ?_
  refine r_ifB_eq (pc2 := 8) (tgt := 42) dX4_isOpen_5 (by decide) rfl (fun c5 => ?_) (fun c5 => ?_)
  · skip
    refine r_iconst (pc2 := 43) (nI 0) dX4_isOpen_42 (by decide) rfl ?_
    exact r_zret dX4_isOpen_43 rfl (Or.inl rfl) (⟨b2_f (by simp only [Int32.lt_iff_toInt_lt, Int32.le_iff_toInt_le, ← Int32.toInt_inj, decide_eq_true_eq, decide_eq_false_iff_not] at c5 ⊢; omega), rfl⟩)
  · skip
    refine r_aload_n (pc2 := 9) dX4_isOpen_8 rfl rfl ?_
    refine r_getR (pc2 := 12) dX4_isOpen_9 fl_X4_18 (by decide) rfl rfl rfl ?_
    refine r_iload_n (pc2 := 13) dX4_isOpen_12 rfl rfl ?_
    refine r_iald (pc2 := 14) (j := _) dX4_isOpen_13 (by decide) rfl rfl (rfl) (by show _ < 512; omega) rfl ?_
    refine r_iload_n (pc2 := 15) dX4_isOpen_14 rfl rfl ?_
    refine r_ic_lt (pc2 := 18) (tgt := 42) dX4_isOpen_15 (by decide) rfl (fun c15 => ?_) (fun c15 => ?_)
    · skip
      refine r_iconst (pc2 := 43) (nI 0) dX4_isOpen_42 (by decide) rfl ?_
      exact r_zret dX4_isOpen_43 rfl (Or.inl rfl) (⟨b2_f (by simp only [Int32.lt_iff_toInt_lt, Int32.le_iff_toInt_le, ← Int32.toInt_inj, decide_eq_true_eq, decide_eq_false_iff_not] at c5 c15 ⊢; omega), rfl⟩)
    · skip
      refine r_aload_n (pc2 := 19) dX4_isOpen_18 rfl rfl ?_
      refine r_getR (pc2 := 22) dX4_isOpen_19 fl_X4_15 (by decide) rfl rfl rfl ?_
      refine r_iload_n (pc2 := 23) dX4_isOpen_22 rfl rfl ?_
      refine r_iald (pc2 := 24) (j := _) dX4_isOpen_23 (by decide) rfl rfl (rfl) (by show _ < 512; omega) rfl ?_
      refine r_iload_n (pc2 := 25) dX4_isOpen_24 rfl rfl ?_
      refine r_ic_ge (pc2 := 28) (tgt := 42) dX4_isOpen_25 (by decide) rfl (fun c25 => ?_) (fun c25 => ?_)
      · skip
        refine r_iconst (pc2 := 43) (nI 0) dX4_isOpen_42 (by decide) rfl ?_
        exact r_zret dX4_isOpen_43 rfl (Or.inl rfl) (⟨b2_f (by simp only [Int32.lt_iff_toInt_lt, Int32.le_iff_toInt_le, ← Int32.toInt_inj, decide_eq_true_eq, decide_eq_false_iff_not] at c5 c15 c25 ⊢; omega), rfl⟩)
      · skip
        refine r_iload_n (pc2 := 29) dX4_isOpen_28 rfl rfl ?_
        refine r_aload_n (pc2 := 30) dX4_isOpen_29 rfl rfl ?_
        refine r_getR (pc2 := 33) dX4_isOpen_30 fl_X4_24 (by decide) rfl rfl rfl ?_
        refine r_iload_n (pc2 := 34) dX4_isOpen_33 rfl rfl ?_
        refine r_iald (pc2 := 35) (j := _) dX4_isOpen_34 (by decide) rfl rfl (rfl) (by show _ < 512; omega) rfl ?_
        refine r_ic_le (pc2 := 38) (tgt := 42) dX4_isOpen_35 (by decide) rfl (fun c35 => ?_) (fun c35 => ?_)
        · skip
          refine r_iconst (pc2 := 43) (nI 0) dX4_isOpen_42 (by decide) rfl ?_
          exact r_zret dX4_isOpen_43 rfl (Or.inl rfl) (⟨b2_f (by simp only [Int32.lt_iff_toInt_lt, Int32.le_iff_toInt_le, ← Int32.toInt_inj, decide_eq_true_eq, decide_eq_false_iff_not] at c5 c15 c25 c35 ⊢; omega), rfl⟩)
        · skip
          refine r_iconst (pc2 := 39) (nI 1) dX4_isOpen_38 (by decide) rfl ?_
          refine r_goto (pc2 := 43) dX4_isOpen_39 (by decide) ?_
          exact r_zret dX4_isOpen_43 rfl (Or.inr rfl) (⟨b2_t (by simp only [Int32.lt_iff_toInt_lt, Int32.le_iff_toInt_le, ← Int32.toInt_inj, decide_eq_true_eq, decide_eq_false_iff_not] at c5 c15 c25 c35 ⊢; omega), rfl⟩)
