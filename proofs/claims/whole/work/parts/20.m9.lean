/-! class: its face, the network: written by wip/whole/m9.py -/
abbrev pr_ok (N a b : Int32) : Prop := 0 ≤ a ∧ a < N ∧ 0 ≤ b ∧ b < N ∧ ¬ a = b
theorem nI_pr {n i j : Nat} (hn8 : n ≤ 8) (hi : i < n) (hj : j < n) (h : ¬ i = j) : pr_ok (nI n) (nI i) (nI j) := ⟨nI_pos' (by omega), nI_lt hi (by omega), nI_pos' (by omega), nI_lt hj (by omega), fun e => h ((nI_eq (by omega) (by omega)).mp e)⟩
theorem nI_nd {n : Nat} {a : Int32} (hn8 : n ≤ 8) (h : 0 ≤ a) (h2 : a < nI n) : ∃ i, i < n ∧ a = nI i := by
  obtain ⟨i, hi, rfl⟩ := nI_of (Int32.not_lt.mpr h)
  exact ⟨i, (nI_ltI hi (by omega)).mp h2, rfl⟩
theorem pr_of {n : Nat} {a b : Int32} (hn8 : n ≤ 8) (h : pr_ok (nI n) a b) : ∃ i j, i < n ∧ j < n ∧ ¬ i = j ∧ a = nI i ∧ b = nI j := by
  obtain ⟨h1, h2, h3, h4, h5⟩ := h
  obtain ⟨i, hi, rfl⟩ := nI_nd hn8 h1 h2
  obtain ⟨j, hj, rfl⟩ := nI_nd hn8 h3 h4
  exact ⟨i, j, hi, hj, fun e => h5 (by rw [e]), rfl, rfl⟩
theorem c_isNode_ok {PL : List (Nat × Nat)} {n i : Nat} {V : Mm_} (hn : V 1 0 0 = nI n) (hn8 : n ≤ 8) (hi : i < n) : Cp_ PL mX7_isNode [vR 0 18, vI (nI i)] V (nI 1) :=
  Ca_.mono c_X7_isNode (by rintro r V' ⟨x, rfl, rfl, rfl⟩; exact ⟨_, rfl, by rw [hn]; exact (b2_t ⟨nI_pos' (by omega), nI_lt hi (by omega)⟩).symm, rfl⟩)
theorem c_isPair_ok {PL : List (Nat × Nat)} {n i j : Nat} {V : Mm_} (hn : V 1 0 0 = nI n) (hn8 : n ≤ 8) (hi : i < n) (hj : j < n) (h : ¬ i = j) : Cp_ PL mX7_isPair [vR 0 18, vI (nI i), vI (nI j)] V (nI 1) :=
  Ca_.mono c_X7_isPair (by rintro r V' ⟨x, rfl, rfl, rfl⟩; exact ⟨_, rfl, by rw [hn]; exact (b2_t (nI_pr hn8 hi hj h)).symm, rfl⟩)
theorem c_isBetween_ok {PL : List (Nat × Nat)} {v a b : Int32} {V : Mm_} (h : a ≤ v ∧ v ≤ b) : Cp_ PL mX7_isBetween [vI v, vI a, vI b] V (nI 1) :=
  Ca_.mono c_X7_isBetween (by rintro r V' ⟨x, rfl, rfl, rfl⟩; exact ⟨_, rfl, (b2_t h).symm, rfl⟩)

set_option maxRecDepth 100000 in
set_option maxHeartbeats 4000000 in
theorem c_X7_reset_bad {PL : List (Nat × Nat)} {V : Mm_} {x : Int32} (hbad : ¬ (nI 2 ≤ x ∧ x ≤ nI 8)) : Cp_ PL mX7_reset [vR 0 18, vI x] V ((-1)) := by
  refine Ca_.of mv_X7_reset.2.2.2.2.2.2 1 (lo := [some (vR 0 18), some (vI x), none]) rfl (Nat.le_of_ble_eq_true rfl) ?_
  refine r_iload_n (pc2 := 1) dX7_reset_0 rfl rfl ?_
  refine r_iconst (pc2 := 2) (nI 2) dX7_reset_1 (by decide) rfl ?_
  refine r_ic_lt (pc2 := 5) (tgt := 11) dX7_reset_2 (by decide) rfl (fun c2 => ?_) (fun c2 => ?_)
  · skip
    refine r_iconst (pc2 := 12) (-1) dX7_reset_11 (by decide) rfl ?_
    exact r_iret dX7_reset_12 rfl (⟨rfl, rfl⟩)
  · skip
    refine r_iload_n (pc2 := 6) dX7_reset_5 rfl rfl ?_
    refine r_bipush (pc2 := 8) (nI 8) dX7_reset_6 (by decide) rfl ?_
    refine r_ic_le (pc2 := 11) (tgt := 13) dX7_reset_8 (by decide) rfl (fun c8 => ?_) (fun c8 => ?_)
    · skip
      exact absurd ⟨Int32.not_lt.mp c2, c8⟩ hbad
    · skip
      refine r_iconst (pc2 := 12) (-1) dX7_reset_11 (by decide) rfl ?_
      exact r_iret dX7_reset_12 rfl (⟨rfl, rfl⟩)

set_option maxRecDepth 100000 in
set_option maxHeartbeats 4000000 in
theorem c_X7_reset_ok {PL : List (Nat × Nat)} {V : Mm_} {x : Int32} (h : nI 2 ≤ x ∧ x ≤ nI 8) : Ci_ PL mX7_reset [vR 0 18, vI x] V (fun r V' => r = V 1 0 0 ∧ V' = m_set (sa_ V 1 x) 0 18 7 (nI 0)) := by
  refine Ca_.of mv_X7_reset.2.2.2.2.2.2 1 (lo := [some (vR 0 18), some (vI x), none]) rfl (Nat.le_of_ble_eq_true rfl) ?_
  refine r_iload_n (pc2 := 1) dX7_reset_0 rfl rfl ?_
  refine r_iconst (pc2 := 2) (nI 2) dX7_reset_1 (by decide) rfl ?_
  refine r_ic_lt (pc2 := 5) (tgt := 11) dX7_reset_2 (by decide) rfl (fun c2 => ?_) (fun c2 => ?_)
  · skip
    exact absurd c2 (Int32.not_lt.mpr h.1)
  · skip
    refine r_iload_n (pc2 := 6) dX7_reset_5 rfl rfl ?_
    refine r_bipush (pc2 := 8) (nI 8) dX7_reset_6 (by decide) rfl ?_
    refine r_ic_le (pc2 := 11) (tgt := 13) dX7_reset_8 (by decide) rfl (fun c8 => ?_) (fun c8 => ?_)
    · skip
      refine r_aload_n (pc2 := 14) dX7_reset_13 rfl rfl ?_
      refine r_getR (pc2 := 17) dX7_reset_14 fl_X7_24 (by decide) rfl rfl rfl ?_
      refine r_getI (pc2 := 20) dX7_reset_17 fl_X7_60 (by decide) rfl rfl rfl ?_
      refine r_istore_n (pc2 := 21) dX7_reset_20 (by decide) rfl rfl ?_
      refine r_aload_n (pc2 := 22) dX7_reset_21 rfl rfl ?_
      refine r_getR (pc2 := 25) dX7_reset_22 fl_X7_24 (by decide) rfl rfl rfl ?_
      refine r_iload_n (pc2 := 26) dX7_reset_25 rfl rfl ?_
      refine r_cv1m (pc2 := 29) dX7_reset_26 st_X7_reset_56 rl_X2_startAnew (Nat.le_of_ble_eq_true rfl) rfl (c_X2_startAnew) ?_
      refine r_aload_n (pc2 := 30) dX7_reset_29 rfl rfl ?_
      refine r_iconst (pc2 := 31) (nI 0) dX7_reset_30 (by decide) rfl ?_
      refine r_put (pc2 := 34) dX7_reset_31 fl_X7_52 (by decide) rfl rfl ft_7_7 (by first | exact (by decide) | (rcases b2_01 _ with h | h <;> rw [h] <;> decide)) (by first | exact (by decide) | (rcases b2_01 _ with h | h <;> rw [h] <;> decide)) rfl ?_
      refine r_iload_n (pc2 := 35) dX7_reset_34 rfl rfl ?_
      exact r_iret dX7_reset_35 rfl (⟨rfl, rfl⟩)
    · skip
      exact absurd h.2 c8

set_option maxRecDepth 100000 in
set_option maxHeartbeats 4000000 in
theorem c_X7_addLink_bad {PL : List (Nat × Nat)} {V : Mm_} {n : Nat} (hn : V 1 0 0 = nI n) (hn8 : n ≤ 8) {a b lo up : Int32} (hbad : ¬ (pr_ok (nI n) a b ∧ nI 1 ≤ lo ∧ lo ≤ up ∧ up ≤ nI 500)) : Cp_ PL mX7_addLink [vR 0 18, vI a, vI b, vI lo, vI up] V ((-1)) := by
  refine Ca_.of mv_X7_addLink.2.2.2.2.2.2 0 (lo := [some (vR 0 18), some (vI a), some (vI b), some (vI lo), some (vI up)]) rfl (Nat.le_of_ble_eq_true rfl) ?_
  refine r_aload_n (pc2 := 1) dX7_addLink_0 rfl rfl ?_
  refine r_iload_n (pc2 := 2) dX7_addLink_1 rfl rfl ?_
  refine r_iload_n (pc2 := 3) dX7_addLink_2 rfl rfl ?_
  refine r_cv2p (pc2 := 6) dX7_addLink_3 st_X7_addLink_64 rl_X7_isPair (Nat.le_of_ble_eq_true rfl) rfl (c_X7_isPair) ?_
  refine r_ifB_eq (pc2 := 9) (tgt := 28) dX7_addLink_6 (by decide) rfl (fun c6 => ?_) (fun c6 => ?_)
  · skip
    refine r_iconst (pc2 := 29) (-1) dX7_addLink_28 (by decide) rfl ?_
    exact r_iret dX7_addLink_29 rfl (⟨rfl, rfl⟩)
  · skip
    refine r_iload_n (pc2 := 10) dX7_addLink_9 rfl rfl ?_
    refine r_iconst (pc2 := 11) (nI 1) dX7_addLink_10 (by decide) rfl ?_
    refine r_ic_lt (pc2 := 14) (tgt := 28) dX7_addLink_11 (by decide) rfl (fun c11 => ?_) (fun c11 => ?_)
    · skip
      refine r_iconst (pc2 := 29) (-1) dX7_addLink_28 (by decide) rfl ?_
      exact r_iret dX7_addLink_29 rfl (⟨rfl, rfl⟩)
    · skip
      refine r_iload (pc2 := 16) dX7_addLink_14 rfl rfl ?_
      refine r_iload_n (pc2 := 17) dX7_addLink_16 rfl rfl ?_
      refine r_ic_lt (pc2 := 20) (tgt := 28) dX7_addLink_17 (by decide) rfl (fun c17 => ?_) (fun c17 => ?_)
      · skip
        refine r_iconst (pc2 := 29) (-1) dX7_addLink_28 (by decide) rfl ?_
        exact r_iret dX7_addLink_29 rfl (⟨rfl, rfl⟩)
      · skip
        refine r_iload (pc2 := 22) dX7_addLink_20 rfl rfl ?_
        refine r_sipush (pc2 := 25) (nI 500) dX7_addLink_22 (by decide) rfl ?_
        refine r_ic_le (pc2 := 28) (tgt := 30) dX7_addLink_25 (by decide) rfl (fun c25 => ?_) (fun c25 => ?_)
        · skip
          exact absurd ⟨by rw [hn] at c6; exact of_decide_eq_true c6, Int32.not_lt.mp c11, Int32.not_lt.mp c17, c25⟩ hbad
        · skip
          refine r_iconst (pc2 := 29) (-1) dX7_addLink_28 (by decide) rfl ?_
          exact r_iret dX7_addLink_29 rfl (⟨rfl, rfl⟩)

set_option maxRecDepth 100000 in
set_option maxHeartbeats 4000000 in
theorem c_X7_addLink_ok {PL : List (Nat × Nat)} {V : Mm_} {n : Nat} (hn : V 1 0 0 = nI n) (hn8 : n ≤ 8) {i j : Nat} (hi : i < n) (hj : j < n) (hij : ¬ i = j) {lo up : Int32} (h1 : nI 1 ≤ lo) (h2 : lo ≤ up) (h3 : up ≤ nI 500) : Ci_ PL mX7_addLink [vR 0 18, vI (nI i), vI (nI j), vI lo, vI up] V (fun x V' => if 0 < V 1 2 (i * 8 + j) then x = -2 ∧ V' = V else if nI 16 ≤ V 1 1 0 then x = -3 ∧ V' = V else x = V 1 1 0 + nI 1 ∧ V' = m_set (b_set (b_set (b_set (b_set (V) 1 2 i j lo) 1 3 i j up) 1 4 i j lo) 1 5 i j (nI 1)) 1 1 0 (V 1 1 0 + nI 1)) := by
  refine Ca_.of mv_X7_addLink.2.2.2.2.2.2 0 (lo := [some (vR 0 18), some (vI (nI i)), some (vI (nI j)), some (vI lo), some (vI up)]) rfl (Nat.le_of_ble_eq_true rfl) ?_
  refine r_aload_n (pc2 := 1) dX7_addLink_0 rfl rfl ?_
  refine r_iload_n (pc2 := 2) dX7_addLink_1 rfl rfl ?_
  refine r_iload_n (pc2 := 3) dX7_addLink_2 rfl rfl ?_
  refine r_cv2p (pc2 := 6) dX7_addLink_3 st_X7_addLink_64 rl_X7_isPair (Nat.le_of_ble_eq_true rfl) rfl (c_isPair_ok hn hn8 hi hj hij) ?_
  refine r_if0N_eq (pc2 := 9) (tgt := 28) (by omega) dX7_addLink_6 (by decide) rfl (fun c6 => ?_) (fun c6 => ?_)
  · skip
    exact absurd c6 (by decide)
  · skip
    refine r_iload_n (pc2 := 10) dX7_addLink_9 rfl rfl ?_
    refine r_iconst (pc2 := 11) (nI 1) dX7_addLink_10 (by decide) rfl ?_
    refine r_ic_lt (pc2 := 14) (tgt := 28) dX7_addLink_11 (by decide) rfl (fun c11 => ?_) (fun c11 => ?_)
    · skip
      exact absurd c11 (Int32.not_lt.mpr h1)
    · skip
      refine r_iload (pc2 := 16) dX7_addLink_14 rfl rfl ?_
      refine r_iload_n (pc2 := 17) dX7_addLink_16 rfl rfl ?_
      refine r_ic_lt (pc2 := 20) (tgt := 28) dX7_addLink_17 (by decide) rfl (fun c17 => ?_) (fun c17 => ?_)
      · skip
        exact absurd c17 (Int32.not_lt.mpr h2)
      · skip
        refine r_iload (pc2 := 22) dX7_addLink_20 rfl rfl ?_
        refine r_sipush (pc2 := 25) (nI 500) dX7_addLink_22 (by decide) rfl ?_
        refine r_ic_le (pc2 := 28) (tgt := 30) dX7_addLink_25 (by decide) rfl (fun c25 => ?_) (fun c25 => ?_)
        · skip
          refine r_aload_n (pc2 := 31) dX7_addLink_30 rfl rfl ?_
          refine r_getR (pc2 := 34) dX7_addLink_31 fl_X7_24 (by decide) rfl rfl rfl ?_
          refine r_getR (pc2 := 37) dX7_addLink_34 fl_X7_68 (by decide) rfl rfl rfl ?_
          refine r_iload_n (pc2 := 38) dX7_addLink_37 rfl rfl ?_
          refine r_iload_n (pc2 := 39) dX7_addLink_38 rfl rfl ?_
          refine r_cv2p (pc2 := 42) dX7_addLink_39 st_X7_addLink_72 rl_X1_joins (Nat.le_of_ble_eq_true rfl) rfl (c_X1_joins (by omega) (by omega)) ?_
          refine r_ifB_eq (pc2 := 45) (tgt := 48) dX7_addLink_42 (by decide) rfl (fun c42 => ?_) (fun c42 => ?_)
          · skip
            refine r_aload_n (pc2 := 49) dX7_addLink_48 rfl rfl ?_
            refine r_getR (pc2 := 52) dX7_addLink_49 fl_X7_24 (by decide) rfl rfl rfl ?_
            refine r_getR (pc2 := 55) dX7_addLink_52 fl_X7_68 (by decide) rfl rfl rfl ?_
            refine r_getI (pc2 := 58) dX7_addLink_55 fl_X7_77 (by decide) rfl rfl rfl ?_
            refine r_bipush (pc2 := 60) (nI 16) dX7_addLink_58 (by decide) rfl ?_
            refine r_ic_lt (pc2 := 63) (tgt := 66) dX7_addLink_60 (by decide) rfl (fun c60 => ?_) (fun c60 => ?_)
            · skip
              refine r_aload_n (pc2 := 67) dX7_addLink_66 rfl rfl ?_
              refine r_getR (pc2 := 70) dX7_addLink_67 fl_X7_24 (by decide) rfl rfl rfl ?_
              refine r_getR (pc2 := 73) dX7_addLink_70 fl_X7_68 (by decide) rfl rfl rfl ?_
              refine r_iload_n (pc2 := 74) dX7_addLink_73 rfl rfl ?_
              refine r_iload_n (pc2 := 75) dX7_addLink_74 rfl rfl ?_
              refine r_iload_n (pc2 := 76) dX7_addLink_75 rfl rfl ?_
              refine r_iload (pc2 := 78) dX7_addLink_76 rfl rfl ?_
              refine r_cv4m (pc2 := 81) dX7_addLink_78 st_X7_addLink_80 rl_X1_insert (Nat.le_of_ble_eq_true rfl) rfl (c_X1_insert (by omega) (by omega)) ?_
              refine r_aload_n (pc2 := 82) dX7_addLink_81 rfl rfl ?_
              refine r_getR (pc2 := 85) dX7_addLink_82 fl_X7_24 (by decide) rfl rfl rfl ?_
              refine r_getR (pc2 := 88) dX7_addLink_85 fl_X7_68 (by decide) rfl rfl rfl ?_
              refine r_getI (pc2 := 91) dX7_addLink_88 fl_X7_77 (by decide) rfl rfl rfl ?_
              exact r_iret dX7_addLink_91 rfl (by show if _ then _ else _; rw [if_neg (of_decide_eq_false c42), if_neg (Int32.not_le.mpr c60)]; exact ⟨by rw [m_same, pk_us], rfl⟩)
            · skip
              refine r_bipush (pc2 := 65) (-3) dX7_addLink_63 (by decide) rfl ?_
              exact r_iret dX7_addLink_65 rfl (by show if _ then _ else _; rw [if_neg (of_decide_eq_false c42), if_pos (Int32.not_lt.mp c60)]; exact ⟨rfl, rfl⟩)
          · skip
            refine r_bipush (pc2 := 47) (-2) dX7_addLink_45 (by decide) rfl ?_
            exact r_iret dX7_addLink_47 rfl (by show if _ then _ else _; rw [if_pos (of_decide_eq_true c42)]; exact ⟨rfl, rfl⟩)
        · skip
          exact absurd h3 c25

set_option maxRecDepth 100000 in
set_option maxHeartbeats 4000000 in
theorem c_X7_removeLink_bad {PL : List (Nat × Nat)} {V : Mm_} {n : Nat} (hn : V 1 0 0 = nI n) (hn8 : n ≤ 8) {a b : Int32} (hbad : ¬ (pr_ok (nI n) a b)) : Cp_ PL mX7_removeLink [vR 0 18, vI a, vI b] V ((-1)) := by
  refine Ca_.of mv_X7_removeLink.2.2.2.2.2.2 0 (lo := [some (vR 0 18), some (vI a), some (vI b)]) rfl (Nat.le_of_ble_eq_true rfl) ?_
  refine r_aload_n (pc2 := 1) dX7_removeLink_0 rfl rfl ?_
  refine r_iload_n (pc2 := 2) dX7_removeLink_1 rfl rfl ?_
  refine r_iload_n (pc2 := 3) dX7_removeLink_2 rfl rfl ?_
  refine r_cv2p (pc2 := 6) dX7_removeLink_3 st_X7_removeLink_64 rl_X7_isPair (Nat.le_of_ble_eq_true rfl) rfl (c_X7_isPair) ?_
  refine r_ifB_ne (pc2 := 9) (tgt := 11) dX7_removeLink_6 (by decide) rfl (fun c6 => ?_) (fun c6 => ?_)
  · skip
    exact absurd (by rw [hn] at c6; exact of_decide_eq_true c6) hbad
  · skip
    refine r_iconst (pc2 := 10) (-1) dX7_removeLink_9 (by decide) rfl ?_
    exact r_iret dX7_removeLink_10 rfl (⟨rfl, rfl⟩)

set_option maxRecDepth 100000 in
set_option maxHeartbeats 4000000 in
theorem c_X7_removeLink_ok {PL : List (Nat × Nat)} {V : Mm_} {n : Nat} (hn : V 1 0 0 = nI n) (hn8 : n ≤ 8) {i j : Nat} (hi : i < n) (hj : j < n) (hij : ¬ i = j)  : Ci_ PL mX7_removeLink [vR 0 18, vI (nI i), vI (nI j)] V (fun x V' => if 0 < V 1 2 (i * 8 + j) then x = V 1 1 0 - nI 1 ∧ V' = m_set (b_set (b_set (b_set (b_set (V) 1 2 i j (nI 0)) 1 3 i j (nI 0)) 1 4 i j (nI 0)) 1 5 i j (nI 0)) 1 1 0 (V 1 1 0 - nI 1) else x = -4 ∧ V' = V) := by
  refine Ca_.of mv_X7_removeLink.2.2.2.2.2.2 0 (lo := [some (vR 0 18), some (vI (nI i)), some (vI (nI j))]) rfl (Nat.le_of_ble_eq_true rfl) ?_
  refine r_aload_n (pc2 := 1) dX7_removeLink_0 rfl rfl ?_
  refine r_iload_n (pc2 := 2) dX7_removeLink_1 rfl rfl ?_
  refine r_iload_n (pc2 := 3) dX7_removeLink_2 rfl rfl ?_
  refine r_cv2p (pc2 := 6) dX7_removeLink_3 st_X7_removeLink_64 rl_X7_isPair (Nat.le_of_ble_eq_true rfl) rfl (c_isPair_ok hn hn8 hi hj hij) ?_
  refine r_if0N_ne (pc2 := 9) (tgt := 11) (by omega) dX7_removeLink_6 (by decide) rfl (fun c6 => ?_) (fun c6 => ?_)
  · skip
    refine r_aload_n (pc2 := 12) dX7_removeLink_11 rfl rfl ?_
    refine r_getR (pc2 := 15) dX7_removeLink_12 fl_X7_24 (by decide) rfl rfl rfl ?_
    refine r_getR (pc2 := 18) dX7_removeLink_15 fl_X7_68 (by decide) rfl rfl rfl ?_
    refine r_iload_n (pc2 := 19) dX7_removeLink_18 rfl rfl ?_
    refine r_iload_n (pc2 := 20) dX7_removeLink_19 rfl rfl ?_
    refine r_cv2p (pc2 := 23) dX7_removeLink_20 st_X7_removeLink_72 rl_X1_joins (Nat.le_of_ble_eq_true rfl) rfl (c_X1_joins (by omega) (by omega)) ?_
    refine r_ifB_ne (pc2 := 26) (tgt := 29) dX7_removeLink_23 (by decide) rfl (fun c23 => ?_) (fun c23 => ?_)
    · skip
      refine r_aload_n (pc2 := 30) dX7_removeLink_29 rfl rfl ?_
      refine r_getR (pc2 := 33) dX7_removeLink_30 fl_X7_24 (by decide) rfl rfl rfl ?_
      refine r_getR (pc2 := 36) dX7_removeLink_33 fl_X7_68 (by decide) rfl rfl rfl ?_
      refine r_iload_n (pc2 := 37) dX7_removeLink_36 rfl rfl ?_
      refine r_iload_n (pc2 := 38) dX7_removeLink_37 rfl rfl ?_
      refine r_cv2m (pc2 := 41) dX7_removeLink_38 st_X7_removeLink_84 rl_X1_delete (Nat.le_of_ble_eq_true rfl) rfl (c_X1_delete (by omega) (by omega)) ?_
      refine r_aload_n (pc2 := 42) dX7_removeLink_41 rfl rfl ?_
      refine r_getR (pc2 := 45) dX7_removeLink_42 fl_X7_24 (by decide) rfl rfl rfl ?_
      refine r_getR (pc2 := 48) dX7_removeLink_45 fl_X7_68 (by decide) rfl rfl rfl ?_
      refine r_getI (pc2 := 51) dX7_removeLink_48 fl_X7_77 (by decide) rfl rfl rfl ?_
      exact r_iret dX7_removeLink_51 rfl (by show if _ then _ else _; rw [if_pos (of_decide_eq_true c23)]; exact ⟨by rw [m_same, pk_us], rfl⟩)
    · skip
      refine r_bipush (pc2 := 28) (-4) dX7_removeLink_26 (by decide) rfl ?_
      exact r_iret dX7_removeLink_28 rfl (by show if _ then _ else _; rw [if_neg (of_decide_eq_false c23)]; exact ⟨rfl, rfl⟩)
  · skip
    exact absurd c6 (by decide)

set_option maxRecDepth 100000 in
set_option maxHeartbeats 4000000 in
theorem c_X7_setCost_bad {PL : List (Nat × Nat)} {V : Mm_} {n : Nat} (hn : V 1 0 0 = nI n) (hn8 : n ≤ 8) {a b x : Int32} (hbad : ¬ (pr_ok (nI n) a b ∧ nI 1 ≤ x ∧ x ≤ nI 500)) : Cp_ PL mX7_setCost [vR 0 18, vI a, vI b, vI x] V ((-1)) := by
  refine Ca_.of mv_X7_setCost.2.2.2.2.2.2 2 (lo := [some (vR 0 18), some (vI a), some (vI b), some (vI x), none, none]) rfl (Nat.le_of_ble_eq_true rfl) ?_
  refine r_aload_n (pc2 := 1) dX7_setCost_0 rfl rfl ?_
  refine r_iload_n (pc2 := 2) dX7_setCost_1 rfl rfl ?_
  refine r_iload_n (pc2 := 3) dX7_setCost_2 rfl rfl ?_
  refine r_cv2p (pc2 := 6) dX7_setCost_3 st_X7_setCost_64 rl_X7_isPair (Nat.le_of_ble_eq_true rfl) rfl (c_X7_isPair) ?_
  refine r_ifB_eq (pc2 := 9) (tgt := 21) dX7_setCost_6 (by decide) rfl (fun c6 => ?_) (fun c6 => ?_)
  · skip
    refine r_iconst (pc2 := 22) (-1) dX7_setCost_21 (by decide) rfl ?_
    exact r_iret dX7_setCost_22 rfl (⟨rfl, rfl⟩)
  · skip
    refine r_iload_n (pc2 := 10) dX7_setCost_9 rfl rfl ?_
    refine r_iconst (pc2 := 11) (nI 1) dX7_setCost_10 (by decide) rfl ?_
    refine r_ic_lt (pc2 := 14) (tgt := 21) dX7_setCost_11 (by decide) rfl (fun c11 => ?_) (fun c11 => ?_)
    · skip
      refine r_iconst (pc2 := 22) (-1) dX7_setCost_21 (by decide) rfl ?_
      exact r_iret dX7_setCost_22 rfl (⟨rfl, rfl⟩)
    · skip
      refine r_iload_n (pc2 := 15) dX7_setCost_14 rfl rfl ?_
      refine r_sipush (pc2 := 18) (nI 500) dX7_setCost_15 (by decide) rfl ?_
      refine r_ic_le (pc2 := 21) (tgt := 23) dX7_setCost_18 (by decide) rfl (fun c18 => ?_) (fun c18 => ?_)
      · skip
        exact absurd ⟨by rw [hn] at c6; exact of_decide_eq_true c6, Int32.not_lt.mp c11, c18⟩ hbad
      · skip
        refine r_iconst (pc2 := 22) (-1) dX7_setCost_21 (by decide) rfl ?_
        exact r_iret dX7_setCost_22 rfl (⟨rfl, rfl⟩)

set_option maxRecDepth 100000 in
set_option maxHeartbeats 4000000 in
theorem c_X7_setCost_ok {PL : List (Nat × Nat)} {V : Mm_} {n : Nat} (hn : V 1 0 0 = nI n) (hn8 : n ≤ 8) {i j : Nat} (hi : i < n) (hj : j < n) (hij : ¬ i = j) {x : Int32} (h1 : nI 1 ≤ x) (h2 : x ≤ nI 500) : Ci_ PL mX7_setCost [vR 0 18, vI (nI i), vI (nI j), vI x] V (fun r V' => if 0 < V 1 2 (i * 8 + j) then (if V 1 2 (i * 8 + j) ≤ x ∧ x ≤ V 1 3 (i * 8 + j) then r = V 1 4 (i * 8 + j) ∧ V' = b_set V 1 4 i j x else r = -2 ∧ V' = V) else r = -4 ∧ V' = V) := by
  refine Ca_.of mv_X7_setCost.2.2.2.2.2.2 2 (lo := [some (vR 0 18), some (vI (nI i)), some (vI (nI j)), some (vI x), none, none]) rfl (Nat.le_of_ble_eq_true rfl) ?_
  refine r_aload_n (pc2 := 1) dX7_setCost_0 rfl rfl ?_
  refine r_iload_n (pc2 := 2) dX7_setCost_1 rfl rfl ?_
  refine r_iload_n (pc2 := 3) dX7_setCost_2 rfl rfl ?_
  refine r_cv2p (pc2 := 6) dX7_setCost_3 st_X7_setCost_64 rl_X7_isPair (Nat.le_of_ble_eq_true rfl) rfl (c_isPair_ok hn hn8 hi hj hij) ?_
  refine r_if0N_eq (pc2 := 9) (tgt := 21) (by omega) dX7_setCost_6 (by decide) rfl (fun c6 => ?_) (fun c6 => ?_)
  · skip
    exact absurd c6 (by decide)
  · skip
    refine r_iload_n (pc2 := 10) dX7_setCost_9 rfl rfl ?_
    refine r_iconst (pc2 := 11) (nI 1) dX7_setCost_10 (by decide) rfl ?_
    refine r_ic_lt (pc2 := 14) (tgt := 21) dX7_setCost_11 (by decide) rfl (fun c11 => ?_) (fun c11 => ?_)
    · skip
      exact absurd c11 (Int32.not_lt.mpr h1)
    · skip
      refine r_iload_n (pc2 := 15) dX7_setCost_14 rfl rfl ?_
      refine r_sipush (pc2 := 18) (nI 500) dX7_setCost_15 (by decide) rfl ?_
      refine r_ic_le (pc2 := 21) (tgt := 23) dX7_setCost_18 (by decide) rfl (fun c18 => ?_) (fun c18 => ?_)
      · skip
        refine r_aload_n (pc2 := 24) dX7_setCost_23 rfl rfl ?_
        refine r_getR (pc2 := 27) dX7_setCost_24 fl_X7_24 (by decide) rfl rfl rfl ?_
        refine r_getR (pc2 := 30) dX7_setCost_27 fl_X7_68 (by decide) rfl rfl rfl ?_
        refine r_iload_n (pc2 := 31) dX7_setCost_30 rfl rfl ?_
        refine r_iload_n (pc2 := 32) dX7_setCost_31 rfl rfl ?_
        refine r_cv2p (pc2 := 35) dX7_setCost_32 st_X7_setCost_72 rl_X1_joins (Nat.le_of_ble_eq_true rfl) rfl (c_X1_joins (by omega) (by omega)) ?_
        refine r_ifB_ne (pc2 := 38) (tgt := 41) dX7_setCost_35 (by decide) rfl (fun c35 => ?_) (fun c35 => ?_)
        · skip
          refine r_iload_n (pc2 := 42) dX7_setCost_41 rfl rfl ?_
          refine r_iload_n (pc2 := 43) dX7_setCost_42 rfl rfl ?_
          refine r_cs2p (pc2 := 46) dX7_setCost_43 st_X7_setCost_88 (Nat.le_of_ble_eq_true rfl) rfl (c_X7_pair) ?_
          refine r_istore (pc2 := 48) dX7_setCost_46 (by decide) rfl rfl ?_
          refine r_iload_n (pc2 := 49) dX7_setCost_48 rfl rfl ?_
          refine r_aload_n (pc2 := 50) dX7_setCost_49 rfl rfl ?_
          refine r_getR (pc2 := 53) dX7_setCost_50 fl_X7_24 (by decide) rfl rfl rfl ?_
          refine r_getR (pc2 := 56) dX7_setCost_53 fl_X7_68 (by decide) rfl rfl rfl ?_
          refine r_getR (pc2 := 59) dX7_setCost_56 fl_X7_92 (by decide) rfl rfl rfl ?_
          refine r_iload (pc2 := 61) dX7_setCost_59 rfl rfl ?_
          refine r_iald (pc2 := 62) (j := _) dX7_setCost_61 (by decide) rfl rfl (rfl) (by show _ < 64; omega) rfl ?_
          refine r_ic_lt (pc2 := 65) (tgt := 82) dX7_setCost_62 (by decide) rfl (fun c62 => ?_) (fun c62 => ?_)
          · skip
            refine r_bipush (pc2 := 84) (-2) dX7_setCost_82 (by decide) rfl ?_
            exact r_iret dX7_setCost_84 rfl (by show if _ then _ else _; rw [if_pos (of_decide_eq_true c35), if_neg (fun z => absurd c62 (Int32.not_lt.mpr z.1))]; exact ⟨rfl, rfl⟩)
          · skip
            refine r_iload_n (pc2 := 66) dX7_setCost_65 rfl rfl ?_
            refine r_aload_n (pc2 := 67) dX7_setCost_66 rfl rfl ?_
            refine r_getR (pc2 := 70) dX7_setCost_67 fl_X7_24 (by decide) rfl rfl rfl ?_
            refine r_getR (pc2 := 73) dX7_setCost_70 fl_X7_68 (by decide) rfl rfl rfl ?_
            refine r_getR (pc2 := 76) dX7_setCost_73 fl_X7_95 (by decide) rfl rfl rfl ?_
            refine r_iload (pc2 := 78) dX7_setCost_76 rfl rfl ?_
            refine r_iald (pc2 := 79) (j := _) dX7_setCost_78 (by decide) rfl rfl (rfl) (by show _ < 64; omega) rfl ?_
            refine r_ic_le (pc2 := 82) (tgt := 85) dX7_setCost_79 (by decide) rfl (fun c79 => ?_) (fun c79 => ?_)
            · skip
              refine r_aload_n (pc2 := 86) dX7_setCost_85 rfl rfl ?_
              refine r_getR (pc2 := 89) dX7_setCost_86 fl_X7_24 (by decide) rfl rfl rfl ?_
              refine r_getR (pc2 := 92) dX7_setCost_89 fl_X7_68 (by decide) rfl rfl rfl ?_
              refine r_getR (pc2 := 95) dX7_setCost_92 fl_X7_98 (by decide) rfl rfl rfl ?_
              refine r_iload (pc2 := 97) dX7_setCost_95 rfl rfl ?_
              refine r_iald (pc2 := 98) (j := _) dX7_setCost_97 (by decide) rfl rfl (rfl) (by show _ < 64; omega) rfl ?_
              refine r_istore (pc2 := 100) dX7_setCost_98 (by decide) rfl rfl ?_
              refine r_aload_n (pc2 := 101) dX7_setCost_100 rfl rfl ?_
              refine r_getR (pc2 := 104) dX7_setCost_101 fl_X7_24 (by decide) rfl rfl rfl ?_
              refine r_getR (pc2 := 107) dX7_setCost_104 fl_X7_68 (by decide) rfl rfl rfl ?_
              refine r_iload_n (pc2 := 108) dX7_setCost_107 rfl rfl ?_
              refine r_iload_n (pc2 := 109) dX7_setCost_108 rfl rfl ?_
              refine r_iload_n (pc2 := 110) dX7_setCost_109 rfl rfl ?_
              refine r_cv3m (pc2 := 113) dX7_setCost_110 st_X7_setCost_101 rl_X1_putCost (Nat.le_of_ble_eq_true rfl) rfl (c_X1_putCost (by omega) (by omega)) ?_
              refine r_iload (pc2 := 115) dX7_setCost_113 rfl rfl ?_
              exact r_iret dX7_setCost_115 rfl (by show if _ then _ else _; rw [if_pos (of_decide_eq_true c35), if_pos ⟨Int32.not_lt.mp c62, c79⟩]; exact ⟨rfl, rfl⟩)
            · skip
              refine r_bipush (pc2 := 84) (-2) dX7_setCost_82 (by decide) rfl ?_
              exact r_iret dX7_setCost_84 rfl (by show if _ then _ else _; rw [if_pos (of_decide_eq_true c35), if_neg (fun z => c79 z.2)]; exact ⟨rfl, rfl⟩)
        · skip
          refine r_bipush (pc2 := 40) (-4) dX7_setCost_38 (by decide) rfl ?_
          exact r_iret dX7_setCost_40 rfl (by show if _ then _ else _; rw [if_neg (of_decide_eq_false c35)]; exact ⟨rfl, rfl⟩)
      · skip
        exact absurd h2 c18

set_option maxRecDepth 100000 in
set_option maxHeartbeats 4000000 in
theorem c_X7_setUp_bad {PL : List (Nat × Nat)} {V : Mm_} {n : Nat} (hn : V 1 0 0 = nI n) (hn8 : n ≤ 8) {a b x : Int32} (hbad : ¬ (pr_ok (nI n) a b ∧ nI 0 ≤ x ∧ x ≤ nI 1)) : Cp_ PL mX7_setUp [vR 0 18, vI a, vI b, vI x] V ((-1)) := by
  refine Ca_.of mv_X7_setUp.2.2.2.2.2.2 1 (lo := [some (vR 0 18), some (vI a), some (vI b), some (vI x), none]) rfl (Nat.le_of_ble_eq_true rfl) ?_
  refine r_aload_n (pc2 := 1) dX7_setUp_0 rfl rfl ?_
  refine r_iload_n (pc2 := 2) dX7_setUp_1 rfl rfl ?_
  refine r_iload_n (pc2 := 3) dX7_setUp_2 rfl rfl ?_
  refine r_cv2p (pc2 := 6) dX7_setUp_3 st_X7_setUp_64 rl_X7_isPair (Nat.le_of_ble_eq_true rfl) rfl (c_X7_isPair) ?_
  refine r_ifB_eq (pc2 := 9) (tgt := 18) dX7_setUp_6 (by decide) rfl (fun c6 => ?_) (fun c6 => ?_)
  · skip
    refine r_iconst (pc2 := 19) (-1) dX7_setUp_18 (by decide) rfl ?_
    exact r_iret dX7_setUp_19 rfl (⟨rfl, rfl⟩)
  · skip
    refine r_iload_n (pc2 := 10) dX7_setUp_9 rfl rfl ?_
    refine r_iconst (pc2 := 11) (nI 0) dX7_setUp_10 (by decide) rfl ?_
    refine r_iconst (pc2 := 12) (nI 1) dX7_setUp_11 (by decide) rfl ?_
    refine r_cs3p (pc2 := 15) dX7_setUp_12 st_X7_setUp_105 (Nat.le_of_ble_eq_true rfl) rfl (c_X7_isBetween) ?_
    refine r_ifB_ne (pc2 := 18) (tgt := 20) dX7_setUp_15 (by decide) rfl (fun c15 => ?_) (fun c15 => ?_)
    · skip
      exact absurd ⟨by rw [hn] at c6; exact of_decide_eq_true c6, of_decide_eq_true c15⟩ hbad
    · skip
      refine r_iconst (pc2 := 19) (-1) dX7_setUp_18 (by decide) rfl ?_
      exact r_iret dX7_setUp_19 rfl (⟨rfl, rfl⟩)

set_option maxRecDepth 100000 in
set_option maxHeartbeats 4000000 in
theorem c_X7_setUp_ok {PL : List (Nat × Nat)} {V : Mm_} {n : Nat} (hn : V 1 0 0 = nI n) (hn8 : n ≤ 8) {i j : Nat} (hi : i < n) (hj : j < n) (hij : ¬ i = j) {x : Int32} (h1 : nI 0 ≤ x ∧ x ≤ nI 1) : Ci_ PL mX7_setUp [vR 0 18, vI (nI i), vI (nI j), vI x] V (fun r V' => if 0 < V 1 2 (i * 8 + j) then r = V 1 5 (i * 8 + j) ∧ V' = b_set V 1 5 i j x else r = -4 ∧ V' = V) := by
  refine Ca_.of mv_X7_setUp.2.2.2.2.2.2 1 (lo := [some (vR 0 18), some (vI (nI i)), some (vI (nI j)), some (vI x), none]) rfl (Nat.le_of_ble_eq_true rfl) ?_
  refine r_aload_n (pc2 := 1) dX7_setUp_0 rfl rfl ?_
  refine r_iload_n (pc2 := 2) dX7_setUp_1 rfl rfl ?_
  refine r_iload_n (pc2 := 3) dX7_setUp_2 rfl rfl ?_
  refine r_cv2p (pc2 := 6) dX7_setUp_3 st_X7_setUp_64 rl_X7_isPair (Nat.le_of_ble_eq_true rfl) rfl (c_isPair_ok hn hn8 hi hj hij) ?_
  refine r_if0N_eq (pc2 := 9) (tgt := 18) (by omega) dX7_setUp_6 (by decide) rfl (fun c6 => ?_) (fun c6 => ?_)
  · skip
    exact absurd c6 (by decide)
  · skip
    refine r_iload_n (pc2 := 10) dX7_setUp_9 rfl rfl ?_
    refine r_iconst (pc2 := 11) (nI 0) dX7_setUp_10 (by decide) rfl ?_
    refine r_iconst (pc2 := 12) (nI 1) dX7_setUp_11 (by decide) rfl ?_
    refine r_cs3p (pc2 := 15) dX7_setUp_12 st_X7_setUp_105 (Nat.le_of_ble_eq_true rfl) rfl (c_isBetween_ok h1) ?_
    refine r_if0N_ne (pc2 := 18) (tgt := 20) (by omega) dX7_setUp_15 (by decide) rfl (fun c15 => ?_) (fun c15 => ?_)
    · skip
      refine r_aload_n (pc2 := 21) dX7_setUp_20 rfl rfl ?_
      refine r_getR (pc2 := 24) dX7_setUp_21 fl_X7_24 (by decide) rfl rfl rfl ?_
      refine r_getR (pc2 := 27) dX7_setUp_24 fl_X7_68 (by decide) rfl rfl rfl ?_
      refine r_iload_n (pc2 := 28) dX7_setUp_27 rfl rfl ?_
      refine r_iload_n (pc2 := 29) dX7_setUp_28 rfl rfl ?_
      refine r_cv2p (pc2 := 32) dX7_setUp_29 st_X7_setUp_72 rl_X1_joins (Nat.le_of_ble_eq_true rfl) rfl (c_X1_joins (by omega) (by omega)) ?_
      refine r_ifB_ne (pc2 := 35) (tgt := 38) dX7_setUp_32 (by decide) rfl (fun c32 => ?_) (fun c32 => ?_)
      · skip
        refine r_aload_n (pc2 := 39) dX7_setUp_38 rfl rfl ?_
        refine r_getR (pc2 := 42) dX7_setUp_39 fl_X7_24 (by decide) rfl rfl rfl ?_
        refine r_getR (pc2 := 45) dX7_setUp_42 fl_X7_68 (by decide) rfl rfl rfl ?_
        refine r_getR (pc2 := 48) dX7_setUp_45 fl_X7_109 (by decide) rfl rfl rfl ?_
        refine r_iload_n (pc2 := 49) dX7_setUp_48 rfl rfl ?_
        refine r_iload_n (pc2 := 50) dX7_setUp_49 rfl rfl ?_
        refine r_cs2p (pc2 := 53) dX7_setUp_50 st_X7_setUp_88 (Nat.le_of_ble_eq_true rfl) rfl (c_X7_pair) ?_
        refine r_iald (pc2 := 54) (j := _) dX7_setUp_53 (by decide) rfl rfl (rfl) (by show _ < 64; omega) rfl ?_
        refine r_istore (pc2 := 56) dX7_setUp_54 (by decide) rfl rfl ?_
        refine r_aload_n (pc2 := 57) dX7_setUp_56 rfl rfl ?_
        refine r_getR (pc2 := 60) dX7_setUp_57 fl_X7_24 (by decide) rfl rfl rfl ?_
        refine r_getR (pc2 := 63) dX7_setUp_60 fl_X7_68 (by decide) rfl rfl rfl ?_
        refine r_iload_n (pc2 := 64) dX7_setUp_63 rfl rfl ?_
        refine r_iload_n (pc2 := 65) dX7_setUp_64 rfl rfl ?_
        refine r_iload_n (pc2 := 66) dX7_setUp_65 rfl rfl ?_
        refine r_cv3m (pc2 := 69) dX7_setUp_66 st_X7_setUp_112 rl_X1_putUp (Nat.le_of_ble_eq_true rfl) rfl (c_X1_putUp (by omega) (by omega)) ?_
        refine r_iload (pc2 := 71) dX7_setUp_69 rfl rfl ?_
        exact r_iret dX7_setUp_71 rfl (by show if _ then _ else _; rw [if_pos (of_decide_eq_true c32)]; exact ⟨rfl, rfl⟩)
      · skip
        refine r_bipush (pc2 := 37) (-4) dX7_setUp_35 (by decide) rfl ?_
        exact r_iret dX7_setUp_37 rfl (by show if _ then _ else _; rw [if_neg (of_decide_eq_false c32)]; exact ⟨rfl, rfl⟩)
    · skip
      exact absurd c15 (by decide)

set_option maxRecDepth 100000 in
set_option maxHeartbeats 4000000 in
theorem c_X7_link_bad {PL : List (Nat × Nat)} {V : Mm_} {n : Nat} (hn : V 1 0 0 = nI n) (hn8 : n ≤ 8) {a b x : Int32} (hbad : ¬ (pr_ok (nI n) a b ∧ nI 0 ≤ x ∧ x ≤ nI 3)) : Cp_ PL mX7_link [vR 0 18, vI a, vI b, vI x] V ((-1)) := by
  refine Ca_.of mv_X7_link.2.2.2.2.2.2 1 (lo := [some (vR 0 18), some (vI a), some (vI b), some (vI x), none]) rfl (Nat.le_of_ble_eq_true rfl) ?_
  refine r_aload_n (pc2 := 1) dX7_link_0 rfl rfl ?_
  refine r_iload_n (pc2 := 2) dX7_link_1 rfl rfl ?_
  refine r_iload_n (pc2 := 3) dX7_link_2 rfl rfl ?_
  refine r_cv2p (pc2 := 6) dX7_link_3 st_X7_link_64 rl_X7_isPair (Nat.le_of_ble_eq_true rfl) rfl (c_X7_isPair) ?_
  refine r_ifB_eq (pc2 := 9) (tgt := 18) dX7_link_6 (by decide) rfl (fun c6 => ?_) (fun c6 => ?_)
  · skip
    refine r_iconst (pc2 := 19) (-1) dX7_link_18 (by decide) rfl ?_
    exact r_iret dX7_link_19 rfl (⟨rfl, rfl⟩)
  · skip
    refine r_iload_n (pc2 := 10) dX7_link_9 rfl rfl ?_
    refine r_iconst (pc2 := 11) (nI 0) dX7_link_10 (by decide) rfl ?_
    refine r_iconst (pc2 := 12) (nI 3) dX7_link_11 (by decide) rfl ?_
    refine r_cs3p (pc2 := 15) dX7_link_12 st_X7_link_105 (Nat.le_of_ble_eq_true rfl) rfl (c_X7_isBetween) ?_
    refine r_ifB_ne (pc2 := 18) (tgt := 20) dX7_link_15 (by decide) rfl (fun c15 => ?_) (fun c15 => ?_)
    · skip
      exact absurd ⟨by rw [hn] at c6; exact of_decide_eq_true c6, of_decide_eq_true c15⟩ hbad
    · skip
      refine r_iconst (pc2 := 19) (-1) dX7_link_18 (by decide) rfl ?_
      exact r_iret dX7_link_19 rfl (⟨rfl, rfl⟩)

set_option maxRecDepth 100000 in
set_option maxHeartbeats 4000000 in
theorem c_X7_link_ok {PL : List (Nat × Nat)} {V : Mm_} {n : Nat} (hn : V 1 0 0 = nI n) (hn8 : n ≤ 8) {i j : Nat} (hi : i < n) (hj : j < n) (hij : ¬ i = j) {w : Nat} (hw : w < 4) : Ci_ PL mX7_link [vR 0 18, vI (nI i), vI (nI j), vI (nI w)] V (fun r V' => V' = V ∧ r = if 0 < V 1 2 (i * 8 + j) then V 1 (2 + w) (i * 8 + j) else -4) := by
  refine Ca_.of mv_X7_link.2.2.2.2.2.2 1 (lo := [some (vR 0 18), some (vI (nI i)), some (vI (nI j)), some (vI (nI w)), none]) rfl (Nat.le_of_ble_eq_true rfl) ?_
  refine r_aload_n (pc2 := 1) dX7_link_0 rfl rfl ?_
  refine r_iload_n (pc2 := 2) dX7_link_1 rfl rfl ?_
  refine r_iload_n (pc2 := 3) dX7_link_2 rfl rfl ?_
  refine r_cv2p (pc2 := 6) dX7_link_3 st_X7_link_64 rl_X7_isPair (Nat.le_of_ble_eq_true rfl) rfl (c_isPair_ok hn hn8 hi hj hij) ?_
  refine r_if0N_eq (pc2 := 9) (tgt := 18) (by omega) dX7_link_6 (by decide) rfl (fun c6 => ?_) (fun c6 => ?_)
  · skip
    exact absurd c6 (by decide)
  · skip
    refine r_iload_n (pc2 := 10) dX7_link_9 rfl rfl ?_
    refine r_iconst (pc2 := 11) (nI 0) dX7_link_10 (by decide) rfl ?_
    refine r_iconst (pc2 := 12) (nI 3) dX7_link_11 (by decide) rfl ?_
    refine r_cs3p (pc2 := 15) dX7_link_12 st_X7_link_105 (Nat.le_of_ble_eq_true rfl) rfl (c_isBetween_ok ⟨nI_le (by omega) (by omega), nI_le (by omega) (by omega)⟩) ?_
    refine r_if0N_ne (pc2 := 18) (tgt := 20) (by omega) dX7_link_15 (by decide) rfl (fun c15 => ?_) (fun c15 => ?_)
    · skip
      refine r_aload_n (pc2 := 21) dX7_link_20 rfl rfl ?_
      refine r_getR (pc2 := 24) dX7_link_21 fl_X7_24 (by decide) rfl rfl rfl ?_
      refine r_getR (pc2 := 27) dX7_link_24 fl_X7_68 (by decide) rfl rfl rfl ?_
      refine r_iload_n (pc2 := 28) dX7_link_27 rfl rfl ?_
      refine r_iload_n (pc2 := 29) dX7_link_28 rfl rfl ?_
      refine r_cv2p (pc2 := 32) dX7_link_29 st_X7_link_72 rl_X1_joins (Nat.le_of_ble_eq_true rfl) rfl (c_X1_joins (by omega) (by omega)) ?_
      refine r_ifB_ne (pc2 := 35) (tgt := 38) dX7_link_32 (by decide) rfl (fun c32 => ?_) (fun c32 => ?_)
      · skip
        refine r_iload_n (pc2 := 39) dX7_link_38 rfl rfl ?_
        refine r_iload_n (pc2 := 40) dX7_link_39 rfl rfl ?_
        refine r_cs2p (pc2 := 43) dX7_link_40 st_X7_link_88 (Nat.le_of_ble_eq_true rfl) rfl (c_X7_pair) ?_
        refine r_istore (pc2 := 45) dX7_link_43 (by decide) rfl rfl ?_
        refine r_iload_n (pc2 := 46) dX7_link_45 rfl rfl ?_
        obtain rfl | rfl | rfl | rfl : w = 0 ∨ w = 1 ∨ w = 2 ∨ w = 3 := by omega
        · skip
          refine r_swIn (tgt := 72) dX7_link_46 (by decide) (by decide) (off := 26) (by decide) (by decide) ?_
          refine r_aload_n (pc2 := 73) dX7_link_72 rfl rfl ?_
          refine r_getR (pc2 := 76) dX7_link_73 fl_X7_24 (by decide) rfl rfl rfl ?_
          refine r_getR (pc2 := 79) dX7_link_76 fl_X7_68 (by decide) rfl rfl rfl ?_
          refine r_getR (pc2 := 82) dX7_link_79 fl_X7_92 (by decide) rfl rfl rfl ?_
          refine r_iload (pc2 := 84) dX7_link_82 rfl rfl ?_
          refine r_iald (pc2 := 85) (j := _) dX7_link_84 (by decide) rfl rfl (rfl) (by show _ < 64; omega) rfl ?_
          exact r_iret dX7_link_85 rfl (⟨rfl, by rw [if_pos (of_decide_eq_true c32)]⟩)
        · skip
          refine r_swIn (tgt := 86) dX7_link_46 (by decide) (by decide) (off := 40) (by decide) (by decide) ?_
          refine r_aload_n (pc2 := 87) dX7_link_86 rfl rfl ?_
          refine r_getR (pc2 := 90) dX7_link_87 fl_X7_24 (by decide) rfl rfl rfl ?_
          refine r_getR (pc2 := 93) dX7_link_90 fl_X7_68 (by decide) rfl rfl rfl ?_
          refine r_getR (pc2 := 96) dX7_link_93 fl_X7_95 (by decide) rfl rfl rfl ?_
          refine r_iload (pc2 := 98) dX7_link_96 rfl rfl ?_
          refine r_iald (pc2 := 99) (j := _) dX7_link_98 (by decide) rfl rfl (rfl) (by show _ < 64; omega) rfl ?_
          exact r_iret dX7_link_99 rfl (⟨rfl, by rw [if_pos (of_decide_eq_true c32)]⟩)
        · skip
          refine r_swIn (tgt := 100) dX7_link_46 (by decide) (by decide) (off := 54) (by decide) (by decide) ?_
          refine r_aload_n (pc2 := 101) dX7_link_100 rfl rfl ?_
          refine r_getR (pc2 := 104) dX7_link_101 fl_X7_24 (by decide) rfl rfl rfl ?_
          refine r_getR (pc2 := 107) dX7_link_104 fl_X7_68 (by decide) rfl rfl rfl ?_
          refine r_getR (pc2 := 110) dX7_link_107 fl_X7_98 (by decide) rfl rfl rfl ?_
          refine r_iload (pc2 := 112) dX7_link_110 rfl rfl ?_
          refine r_iald (pc2 := 113) (j := _) dX7_link_112 (by decide) rfl rfl (rfl) (by show _ < 64; omega) rfl ?_
          exact r_iret dX7_link_113 rfl (⟨rfl, by rw [if_pos (of_decide_eq_true c32)]⟩)
        · skip
          refine r_swOut (tgt := 114) dX7_link_46 (by decide) (by decide) ?_
          refine r_aload_n (pc2 := 115) dX7_link_114 rfl rfl ?_
          refine r_getR (pc2 := 118) dX7_link_115 fl_X7_24 (by decide) rfl rfl rfl ?_
          refine r_getR (pc2 := 121) dX7_link_118 fl_X7_68 (by decide) rfl rfl rfl ?_
          refine r_getR (pc2 := 124) dX7_link_121 fl_X7_109 (by decide) rfl rfl rfl ?_
          refine r_iload (pc2 := 126) dX7_link_124 rfl rfl ?_
          refine r_iald (pc2 := 127) (j := _) dX7_link_126 (by decide) rfl rfl (rfl) (by show _ < 64; omega) rfl ?_
          exact r_iret dX7_link_127 rfl (⟨rfl, by rw [if_pos (of_decide_eq_true c32)]⟩)
      · skip
        refine r_bipush (pc2 := 37) (-4) dX7_link_35 (by decide) rfl ?_
        exact r_iret dX7_link_37 rfl (⟨rfl, by rw [if_neg (of_decide_eq_false c32)]⟩)
    · skip
      exact absurd c15 (by decide)

theorem set_ix {a : Int32} (h : (nI 0 ≤ a ∧ a ≤ nI 3) ∨ (nI 6 ≤ a ∧ a ≤ nI 9)) : ∃ k, (k < 4 ∨ (6 ≤ k ∧ k < 10)) ∧ a = nI k := by
  have h0 : ¬ a < 0 := by
    rcases h with h | h
    · exact Int32.not_lt.mpr h.1
    · exact Int32.not_lt.mpr (Int32.le_trans (by decide) h.1)
  obtain ⟨k, hk, rfl⟩ := nI_of h0
  refine ⟨k, ?_, rfl⟩
  rcases h with h | h
  · have := (nI_leI hk (by decide)).mp h.2
    omega
  · have h1 := (nI_leI (show 6 < 2 ^ 31 by decide) hk).mp h.1
    have h2 := (nI_leI hk (by decide)).mp h.2
    omega
set_option maxRecDepth 100000 in
set_option maxHeartbeats 4000000 in
theorem c_X7_set_bad {PL : List (Nat × Nat)} {V : Mm_} {a x : Int32} (hbad : ¬ (((nI 0 ≤ a ∧ a ≤ nI 3) ∨ (nI 6 ≤ a ∧ a ≤ nI 9)) ∧ st_L a.toNatClampNeg ≤ x ∧ x ≤ st_M a.toNatClampNeg)) : Cp_ PL mX7_set [vR 0 18, vI a, vI x] V ((-1)) := by
  refine Ca_.of mv_X7_set.2.2.2.2.2.2 1 (lo := [some (vR 0 18), some (vI a), some (vI x), none]) rfl (Nat.le_of_ble_eq_true rfl) ?_
  refine r_iload_n (pc2 := 1) dX7_set_0 rfl rfl ?_
  refine r_cs1p (pc2 := 4) dX7_set_1 st_X7_set_115 (Nat.le_of_ble_eq_true rfl) rfl (c_X7_isSetting) ?_
  refine r_ifB_eq (pc2 := 7) (tgt := 24) dX7_set_4 (by decide) rfl (fun c4 => ?_) (fun c4 => ?_)
  · skip
    refine r_iconst (pc2 := 25) (-1) dX7_set_24 (by decide) rfl ?_
    exact r_iret dX7_set_25 rfl (⟨rfl, rfl⟩)
  · skip
    obtain ⟨k, hk, rfl⟩ := set_ix (of_decide_eq_true c4)
    refine r_iload_n (pc2 := 8) dX7_set_7 rfl rfl ?_
    refine r_gsL (pc2 := 11) dX7_set_8 tw_376 rfl ?_
    refine r_iload_n (pc2 := 12) dX7_set_11 rfl rfl ?_
    refine r_saldL (pc2 := 13) dX7_set_12 rfl (by omega) rfl ?_
    refine r_gsM (pc2 := 16) dX7_set_13 tw_378 rfl ?_
    refine r_iload_n (pc2 := 17) dX7_set_16 rfl rfl ?_
    refine r_saldM (pc2 := 18) dX7_set_17 rfl (by omega) rfl ?_
    refine r_cs3p (pc2 := 21) dX7_set_18 st_X7_set_105 (Nat.le_of_ble_eq_true rfl) rfl (c_X7_isBetween) ?_
    refine r_ifB_ne (pc2 := 24) (tgt := 26) dX7_set_21 (by decide) rfl (fun c21 => ?_) (fun c21 => ?_)
    · skip
      exact absurd ⟨of_decide_eq_true c4, by rw [nI_clamp (by omega)]; exact of_decide_eq_true c21⟩ hbad
    · skip
      refine r_iconst (pc2 := 25) (-1) dX7_set_24 (by decide) rfl ?_
      exact r_iret dX7_set_25 rfl (⟨rfl, rfl⟩)

set_option maxRecDepth 100000 in
set_option maxHeartbeats 4000000 in
theorem c_X7_set_ok {PL : List (Nat × Nat)} {V : Mm_} {k : Nat} {x : Int32} (hk : k < 4 ∨ (6 ≤ k ∧ k < 10)) (h1 : st_L k ≤ x) (h2 : x ≤ st_M k) : Ci_ PL mX7_set [vR 0 18, vI (nI k), vI x] V (fun r V' => r = V 0 19 k ∧ V' = m_set V 0 19 k x) := by
  refine Ca_.of mv_X7_set.2.2.2.2.2.2 1 (lo := [some (vR 0 18), some (vI (nI k)), some (vI x), none]) rfl (Nat.le_of_ble_eq_true rfl) ?_
  refine r_iload_n (pc2 := 1) dX7_set_0 rfl rfl ?_
  refine r_cs1p (pc2 := 4) dX7_set_1 st_X7_set_115 (Nat.le_of_ble_eq_true rfl) rfl (c_X7_isSetting) ?_
  refine r_ifB_eq (pc2 := 7) (tgt := 24) dX7_set_4 (by decide) rfl (fun c4 => ?_) (fun c4 => ?_)
  · skip
    exact absurd (of_decide_eq_false c4) (fun z => z (hk.elim (fun h => Or.inl ⟨nI_le (by omega) (by omega), nI_le (by omega) (by omega)⟩) (fun h => Or.inr ⟨nI_le (by omega) (by omega), nI_le (by omega) (by omega)⟩)))
  · skip
    refine r_iload_n (pc2 := 8) dX7_set_7 rfl rfl ?_
    refine r_gsL (pc2 := 11) dX7_set_8 tw_376 rfl ?_
    refine r_iload_n (pc2 := 12) dX7_set_11 rfl rfl ?_
    refine r_saldL (pc2 := 13) dX7_set_12 rfl (by omega) rfl ?_
    refine r_gsM (pc2 := 16) dX7_set_13 tw_378 rfl ?_
    refine r_iload_n (pc2 := 17) dX7_set_16 rfl rfl ?_
    refine r_saldM (pc2 := 18) dX7_set_17 rfl (by omega) rfl ?_
    refine r_cs3p (pc2 := 21) dX7_set_18 st_X7_set_105 (Nat.le_of_ble_eq_true rfl) rfl (c_isBetween_ok ⟨h1, h2⟩) ?_
    refine r_if0N_ne (pc2 := 24) (tgt := 26) (by omega) dX7_set_21 (by decide) rfl (fun c21 => ?_) (fun c21 => ?_)
    · skip
      refine r_aload_n (pc2 := 27) dX7_set_26 rfl rfl ?_
      refine r_getR (pc2 := 30) dX7_set_27 fl_X7_18 (by decide) rfl rfl rfl ?_
      refine r_iload_n (pc2 := 31) dX7_set_30 rfl rfl ?_
      refine r_iald (pc2 := 32) (j := _) dX7_set_31 (by decide) rfl rfl (rfl) (by show _ < 10; omega) rfl ?_
      refine r_istore_n (pc2 := 33) dX7_set_32 (by decide) rfl rfl ?_
      refine r_aload_n (pc2 := 34) dX7_set_33 rfl rfl ?_
      refine r_getR (pc2 := 37) dX7_set_34 fl_X7_18 (by decide) rfl rfl rfl ?_
      refine r_iload_n (pc2 := 38) dX7_set_37 rfl rfl ?_
      refine r_iload_n (pc2 := 39) dX7_set_38 rfl rfl ?_
      refine r_iast (pc2 := 40) (j := _) dX7_set_39 (by decide) rfl rfl (rfl) (by show _ < 10; omega) rfl ?_
      refine r_iload_n (pc2 := 41) dX7_set_40 rfl rfl ?_
      exact r_iret dX7_set_41 rfl (⟨rfl, rfl⟩)
    · skip
      exact absurd c21 (by decide)
