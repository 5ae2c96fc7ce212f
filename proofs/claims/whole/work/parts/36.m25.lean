/-! reference: its face, the network: written by wip/whole/m25.py -/
/-- the two writes of a link's number -/
def lw_ (V : Mm_) (i j w : Nat) (v : Int32) : Mm_ := m_set (m_set V 0 34 (4 * (i * 8 + j) + w) v) 0 34 (4 * (j * 8 + i) + w) v
theorem lw_at {V : Mm_} {i j w k w' : Nat} {v : Int32} (hw : w < 4) (hw' : w' < 4) : lw_ V i j w v 0 34 (4 * k + w') = if w' = w ∧ (k = i * 8 + j ∨ k = j * 8 + i) then v else V 0 34 (4 * k + w') := by
  unfold lw_
  by_cases h2 : k = j * 8 + i ∧ w' = w
  · rw [m_j (by omega), if_pos ⟨h2.2, Or.inr h2.1⟩]
  · rw [m_i (by omega)]
    by_cases h1 : k = i * 8 + j ∧ w' = w
    · rw [m_j (by omega), if_pos ⟨h1.2, Or.inl h1.1⟩]
    · rw [m_i (by omega), if_neg (fun z => z.2.elim (fun q => h1 ⟨q, z.1⟩) (fun q => h2 ⟨q, z.1⟩))]
theorem lw_far {V : Mm_} {i j w q : Nat} {v : Int32} (hi : i < 8) (hj : j < 8) (hw : w < 4) (hq : 256 ≤ q) : lw_ V i j w v 0 34 q = V 0 34 q := by
  unfold lw_
  rw [m_i (by omega), m_i (by omega)]
theorem lw_ne {V : Mm_} {i j w g r : Nat} {v : Int32} (h : ¬ (g = 0 ∧ r = 34)) : lw_ V i j w v g r = V g r := by
  unfold lw_
  rw [m_ne h, m_ne h]
/-- every number of a link taken away, one after another -/
def lz_ (V : Mm_) (i j : Nat) : Nat → Mm_
  | 0 => V
  | k + 1 => lw_ (lz_ V i j k) i j k (nI 0)
set_option maxRecDepth 100000 in
set_option maxHeartbeats 4000000 in
theorem c_X8_setUp_bad {PL : List (Nat × Nat)} {V : Mm_} {n : Nat} (hm : V 0 33 0 = nI n) (hn1 : 2 ≤ n) (hn8 : n ≤ 8) {a b x : Int32} (hbad : ¬ (pr_ok (nI n) a b ∧ nI 0 ≤ x ∧ x ≤ nI 1)) : Cp_ PL mX8_setUp [vR 0 33, vI a, vI b, vI x] V ((-1)) := by
  refine Ca_.of mv_X8_setUp.2.2.2.2.2.2 1 (lo := [some (vR 0 33), some (vI a), some (vI b), some (vI x), none]) rfl (Nat.le_of_ble_eq_true rfl) ?_
  refine r_aload_n (pc2 := 1) dX8_setUp_0 rfl rfl ?_
  refine r_iload_n (pc2 := 2) dX8_setUp_1 rfl rfl ?_
  refine r_iload_n (pc2 := 3) dX8_setUp_2 rfl rfl ?_
  refine r_cv2p (pc2 := 6) dX8_setUp_3 st_X8_setUp_74 rl_X8_arePair (Nat.le_of_ble_eq_true rfl) rfl (c_X8_arePair hm hn1 hn8) ?_
  refine r_ifB_eq (pc2 := 9) (tgt := 18) dX8_setUp_6 (by decide) rfl (fun c6 => ?_) (fun c6 => ?_)
  · skip
    refine r_iconst (pc2 := 19) (-1) dX8_setUp_18 (by decide) rfl ?_
    exact r_iret dX8_setUp_19 rfl (⟨rfl, rfl⟩)
  · skip
    refine r_iload_n (pc2 := 10) dX8_setUp_9 rfl rfl ?_
    refine r_iconst (pc2 := 11) (nI 0) dX8_setUp_10 (by decide) rfl ?_
    refine r_iconst (pc2 := 12) (nI 1) dX8_setUp_11 (by decide) rfl ?_
    refine r_cs3p (pc2 := 15) dX8_setUp_12 st_X8_setUp_54 (Nat.le_of_ble_eq_true rfl) rfl (c_X8_in) ?_
    refine r_ifB_ne (pc2 := 18) (tgt := 20) dX8_setUp_15 (by decide) rfl (fun c15 => ?_) (fun c15 => ?_)
    · skip
      exact absurd ⟨of_decide_eq_true c6, of_decide_eq_true c15⟩ hbad
    · skip
      refine r_iconst (pc2 := 19) (-1) dX8_setUp_18 (by decide) rfl ?_
      exact r_iret dX8_setUp_19 rfl (⟨rfl, rfl⟩)

set_option maxRecDepth 100000 in
set_option maxHeartbeats 4000000 in
theorem c_X8_setUp_ok {PL : List (Nat × Nat)} {V : Mm_} {s : Sg_} (h : RT_ (V 0 34) s) {n : Nat} (hm : V 0 33 0 = nI n) (hn1 : 2 ≤ n) (hn8 : n ≤ 8) {i j : Nat} (hi : i < n) (hj : j < n) (hij : ¬ i = j) {x : Int32} (h1 : nI 0 ≤ x ∧ x ≤ nI 1) : Ci_ PL mX8_setUp [vR 0 33, vI (nI i), vI (nI j), vI x] V (fun r V' => if 0 < s 2 (i * 8 + j) then r = s 5 (i * 8 + j) ∧ V' = lw_ V i j 3 x else r = -4 ∧ V' = V) := by
  refine Ca_.of mv_X8_setUp.2.2.2.2.2.2 1 (lo := [some (vR 0 33), some (vI (nI i)), some (vI (nI j)), some (vI x), none]) rfl (Nat.le_of_ble_eq_true rfl) ?_
  refine r_aload_n (pc2 := 1) dX8_setUp_0 rfl rfl ?_
  refine r_iload_n (pc2 := 2) dX8_setUp_1 rfl rfl ?_
  refine r_iload_n (pc2 := 3) dX8_setUp_2 rfl rfl ?_
  refine r_cv2p (pc2 := 6) dX8_setUp_3 st_X8_setUp_74 rl_X8_arePair (Nat.le_of_ble_eq_true rfl) rfl (c_arePair_ok hm hn1 hn8 hi hj hij) ?_
  refine r_if0N_eq (pc2 := 9) (tgt := 18) (by omega) dX8_setUp_6 (by decide) rfl (fun c6 => ?_) (fun c6 => ?_)
  · skip
    exact absurd c6 (by decide)
  · skip
    refine r_iload_n (pc2 := 10) dX8_setUp_9 rfl rfl ?_
    refine r_iconst (pc2 := 11) (nI 0) dX8_setUp_10 (by decide) rfl ?_
    refine r_iconst (pc2 := 12) (nI 1) dX8_setUp_11 (by decide) rfl ?_
    refine r_cs3p (pc2 := 15) dX8_setUp_12 st_X8_setUp_54 (Nat.le_of_ble_eq_true rfl) rfl (c_in_ok h1) ?_
    refine r_if0N_ne (pc2 := 18) (tgt := 20) (by omega) dX8_setUp_15 (by decide) rfl (fun c15 => ?_) (fun c15 => ?_)
    · skip
      refine r_aload_n (pc2 := 21) dX8_setUp_20 rfl rfl ?_
      refine r_iload_n (pc2 := 22) dX8_setUp_21 rfl rfl ?_
      refine r_iload_n (pc2 := 23) dX8_setUp_22 rfl rfl ?_
      refine r_cv2p (pc2 := 26) dX8_setUp_23 st_X8_setUp_66 rl_X8_isLink (Nat.le_of_ble_eq_true rfl) rfl (c_X8_isLink h (by omega) (by omega)) ?_
      refine r_ifB_ne (pc2 := 29) (tgt := 32) dX8_setUp_26 (by decide) rfl (fun c26 => ?_) (fun c26 => ?_)
      · skip
        refine r_aload_n (pc2 := 33) dX8_setUp_32 rfl rfl ?_
        refine r_getR (pc2 := 36) dX8_setUp_33 fl_X8_13 (by decide) rfl rfl rfl ?_
        refine r_iload_n (pc2 := 37) dX8_setUp_36 rfl rfl ?_
        refine r_iload_n (pc2 := 38) dX8_setUp_37 rfl rfl ?_
        refine r_iconst (pc2 := 39) (nI 3) dX8_setUp_38 (by decide) rfl ?_
        refine r_cs3p (pc2 := 42) dX8_setUp_39 st_X8_setUp_62 (Nat.le_of_ble_eq_true rfl) rfl (c_X8_linkAt) ?_
        refine r_ialde (pc2 := 43) (x := ((s 5 (i * 8 + j)))) (j := _) (h.lk (i * 8 + j) 3 (by omega) (by omega)) dX8_setUp_42 (by decide) rfl rfl (rfl) (by show _ < 3596; omega) rfl ?_
        refine r_istore (pc2 := 45) dX8_setUp_43 (by decide) rfl rfl ?_
        refine r_aload_n (pc2 := 46) dX8_setUp_45 rfl rfl ?_
        refine r_iload_n (pc2 := 47) dX8_setUp_46 rfl rfl ?_
        refine r_iload_n (pc2 := 48) dX8_setUp_47 rfl rfl ?_
        refine r_iconst (pc2 := 49) (nI 3) dX8_setUp_48 (by decide) rfl ?_
        refine r_iload_n (pc2 := 50) dX8_setUp_49 rfl rfl ?_
        refine r_cv4m (pc2 := 53) dX8_setUp_50 st_X8_setUp_77 rl_X8_sets (Nat.le_of_ble_eq_true rfl) rfl (c_X8_sets (by omega) (by omega) (by omega)) ?_
        refine r_iload (pc2 := 55) dX8_setUp_53 rfl rfl ?_
        exact r_iret dX8_setUp_55 rfl (by show if _ then _ else _; rw [if_pos (of_decide_eq_true c26)]; exact ⟨rfl, rfl⟩)
      · skip
        refine r_bipush (pc2 := 31) (-4) dX8_setUp_29 (by decide) rfl ?_
        exact r_iret dX8_setUp_31 rfl (by show if _ then _ else _; rw [if_neg (of_decide_eq_false c26)]; exact ⟨rfl, rfl⟩)
    · skip
      exact absurd c15 (by decide)

set_option maxRecDepth 100000 in
set_option maxHeartbeats 4000000 in
theorem c_X8_setCost_bad {PL : List (Nat × Nat)} {V : Mm_} {n : Nat} (hm : V 0 33 0 = nI n) (hn1 : 2 ≤ n) (hn8 : n ≤ 8) {a b x : Int32} (hbad : ¬ (pr_ok (nI n) a b ∧ nI 1 ≤ x ∧ x ≤ nI 500)) : Cp_ PL mX8_setCost [vR 0 33, vI a, vI b, vI x] V ((-1)) := by
  refine Ca_.of mv_X8_setCost.2.2.2.2.2.2 1 (lo := [some (vR 0 33), some (vI a), some (vI b), some (vI x), none]) rfl (Nat.le_of_ble_eq_true rfl) ?_
  refine r_aload_n (pc2 := 1) dX8_setCost_0 rfl rfl ?_
  refine r_iload_n (pc2 := 2) dX8_setCost_1 rfl rfl ?_
  refine r_iload_n (pc2 := 3) dX8_setCost_2 rfl rfl ?_
  refine r_cv2p (pc2 := 6) dX8_setCost_3 st_X8_setCost_74 rl_X8_arePair (Nat.le_of_ble_eq_true rfl) rfl (c_X8_arePair hm hn1 hn8) ?_
  refine r_ifB_eq (pc2 := 9) (tgt := 20) dX8_setCost_6 (by decide) rfl (fun c6 => ?_) (fun c6 => ?_)
  · skip
    refine r_iconst (pc2 := 21) (-1) dX8_setCost_20 (by decide) rfl ?_
    exact r_iret dX8_setCost_21 rfl (⟨rfl, rfl⟩)
  · skip
    refine r_iload_n (pc2 := 10) dX8_setCost_9 rfl rfl ?_
    refine r_iconst (pc2 := 11) (nI 1) dX8_setCost_10 (by decide) rfl ?_
    refine r_sipush (pc2 := 14) (nI 500) dX8_setCost_11 (by decide) rfl ?_
    refine r_cs3p (pc2 := 17) dX8_setCost_14 st_X8_setCost_54 (Nat.le_of_ble_eq_true rfl) rfl (c_X8_in) ?_
    refine r_ifB_ne (pc2 := 20) (tgt := 22) dX8_setCost_17 (by decide) rfl (fun c17 => ?_) (fun c17 => ?_)
    · skip
      exact absurd ⟨of_decide_eq_true c6, of_decide_eq_true c17⟩ hbad
    · skip
      refine r_iconst (pc2 := 21) (-1) dX8_setCost_20 (by decide) rfl ?_
      exact r_iret dX8_setCost_21 rfl (⟨rfl, rfl⟩)

set_option maxRecDepth 100000 in
set_option maxHeartbeats 4000000 in
theorem c_X8_setCost_ok {PL : List (Nat × Nat)} {V : Mm_} {s : Sg_} (h : RT_ (V 0 34) s) {n : Nat} (hm : V 0 33 0 = nI n) (hn1 : 2 ≤ n) (hn8 : n ≤ 8) {i j : Nat} (hi : i < n) (hj : j < n) (hij : ¬ i = j) {x : Int32} (h1 : nI 1 ≤ x) (h2 : x ≤ nI 500) : Ci_ PL mX8_setCost [vR 0 33, vI (nI i), vI (nI j), vI x] V (fun r V' => if 0 < s 2 (i * 8 + j) then (if s 2 (i * 8 + j) ≤ x ∧ x ≤ s 3 (i * 8 + j) then r = s 4 (i * 8 + j) ∧ V' = lw_ V i j 2 x else r = -2 ∧ V' = V) else r = -4 ∧ V' = V) := by
  refine Ca_.of mv_X8_setCost.2.2.2.2.2.2 1 (lo := [some (vR 0 33), some (vI (nI i)), some (vI (nI j)), some (vI x), none]) rfl (Nat.le_of_ble_eq_true rfl) ?_
  refine r_aload_n (pc2 := 1) dX8_setCost_0 rfl rfl ?_
  refine r_iload_n (pc2 := 2) dX8_setCost_1 rfl rfl ?_
  refine r_iload_n (pc2 := 3) dX8_setCost_2 rfl rfl ?_
  refine r_cv2p (pc2 := 6) dX8_setCost_3 st_X8_setCost_74 rl_X8_arePair (Nat.le_of_ble_eq_true rfl) rfl (c_arePair_ok hm hn1 hn8 hi hj hij) ?_
  refine r_if0N_eq (pc2 := 9) (tgt := 20) (by omega) dX8_setCost_6 (by decide) rfl (fun c6 => ?_) (fun c6 => ?_)
  · skip
    exact absurd c6 (by decide)
  · skip
    refine r_iload_n (pc2 := 10) dX8_setCost_9 rfl rfl ?_
    refine r_iconst (pc2 := 11) (nI 1) dX8_setCost_10 (by decide) rfl ?_
    refine r_sipush (pc2 := 14) (nI 500) dX8_setCost_11 (by decide) rfl ?_
    refine r_cs3p (pc2 := 17) dX8_setCost_14 st_X8_setCost_54 (Nat.le_of_ble_eq_true rfl) rfl (c_in_ok ⟨h1, h2⟩) ?_
    refine r_if0N_ne (pc2 := 20) (tgt := 22) (by omega) dX8_setCost_17 (by decide) rfl (fun c17 => ?_) (fun c17 => ?_)
    · skip
      refine r_aload_n (pc2 := 23) dX8_setCost_22 rfl rfl ?_
      refine r_iload_n (pc2 := 24) dX8_setCost_23 rfl rfl ?_
      refine r_iload_n (pc2 := 25) dX8_setCost_24 rfl rfl ?_
      refine r_cv2p (pc2 := 28) dX8_setCost_25 st_X8_setCost_66 rl_X8_isLink (Nat.le_of_ble_eq_true rfl) rfl (c_X8_isLink h (by omega) (by omega)) ?_
      refine r_ifB_ne (pc2 := 31) (tgt := 34) dX8_setCost_28 (by decide) rfl (fun c28 => ?_) (fun c28 => ?_)
      · skip
        refine r_iload_n (pc2 := 35) dX8_setCost_34 rfl rfl ?_
        refine r_aload_n (pc2 := 36) dX8_setCost_35 rfl rfl ?_
        refine r_getR (pc2 := 39) dX8_setCost_36 fl_X8_13 (by decide) rfl rfl rfl ?_
        refine r_iload_n (pc2 := 40) dX8_setCost_39 rfl rfl ?_
        refine r_iload_n (pc2 := 41) dX8_setCost_40 rfl rfl ?_
        refine r_iconst (pc2 := 42) (nI 0) dX8_setCost_41 (by decide) rfl ?_
        refine r_cs3p (pc2 := 45) dX8_setCost_42 st_X8_setCost_62 (Nat.le_of_ble_eq_true rfl) rfl (c_X8_linkAt) ?_
        refine r_ialde (pc2 := 46) (x := ((s 2 (i * 8 + j)))) (j := _) (h.lk (i * 8 + j) 0 (by omega) (by omega)) dX8_setCost_45 (by decide) rfl rfl (rfl) (by show _ < 3596; omega) rfl ?_
        refine r_aload_n (pc2 := 47) dX8_setCost_46 rfl rfl ?_
        refine r_getR (pc2 := 50) dX8_setCost_47 fl_X8_13 (by decide) rfl rfl rfl ?_
        refine r_iload_n (pc2 := 51) dX8_setCost_50 rfl rfl ?_
        refine r_iload_n (pc2 := 52) dX8_setCost_51 rfl rfl ?_
        refine r_iconst (pc2 := 53) (nI 1) dX8_setCost_52 (by decide) rfl ?_
        refine r_cs3p (pc2 := 56) dX8_setCost_53 st_X8_setCost_62 (Nat.le_of_ble_eq_true rfl) rfl (c_X8_linkAt) ?_
        refine r_ialde (pc2 := 57) (x := ((s 3 (i * 8 + j)))) (j := _) (h.lk (i * 8 + j) 1 (by omega) (by omega)) dX8_setCost_56 (by decide) rfl rfl (rfl) (by show _ < 3596; omega) rfl ?_
        refine r_cs3p (pc2 := 60) dX8_setCost_57 st_X8_setCost_54 (Nat.le_of_ble_eq_true rfl) rfl (c_X8_in) ?_
        refine r_ifB_ne (pc2 := 63) (tgt := 66) dX8_setCost_60 (by decide) rfl (fun c60 => ?_) (fun c60 => ?_)
        · skip
          refine r_aload_n (pc2 := 67) dX8_setCost_66 rfl rfl ?_
          refine r_getR (pc2 := 70) dX8_setCost_67 fl_X8_13 (by decide) rfl rfl rfl ?_
          refine r_iload_n (pc2 := 71) dX8_setCost_70 rfl rfl ?_
          refine r_iload_n (pc2 := 72) dX8_setCost_71 rfl rfl ?_
          refine r_iconst (pc2 := 73) (nI 2) dX8_setCost_72 (by decide) rfl ?_
          refine r_cs3p (pc2 := 76) dX8_setCost_73 st_X8_setCost_62 (Nat.le_of_ble_eq_true rfl) rfl (c_X8_linkAt) ?_
          refine r_ialde (pc2 := 77) (x := ((s 4 (i * 8 + j)))) (j := _) (h.lk (i * 8 + j) 2 (by omega) (by omega)) dX8_setCost_76 (by decide) rfl rfl (rfl) (by show _ < 3596; omega) rfl ?_
          refine r_istore (pc2 := 79) dX8_setCost_77 (by decide) rfl rfl ?_
          refine r_aload_n (pc2 := 80) dX8_setCost_79 rfl rfl ?_
          refine r_iload_n (pc2 := 81) dX8_setCost_80 rfl rfl ?_
          refine r_iload_n (pc2 := 82) dX8_setCost_81 rfl rfl ?_
          refine r_iconst (pc2 := 83) (nI 2) dX8_setCost_82 (by decide) rfl ?_
          refine r_iload_n (pc2 := 84) dX8_setCost_83 rfl rfl ?_
          refine r_cv4m (pc2 := 87) dX8_setCost_84 st_X8_setCost_77 rl_X8_sets (Nat.le_of_ble_eq_true rfl) rfl (c_X8_sets (by omega) (by omega) (by omega)) ?_
          refine r_iload (pc2 := 89) dX8_setCost_87 rfl rfl ?_
          exact r_iret dX8_setCost_89 rfl (by show if _ then _ else _; rw [if_pos (of_decide_eq_true c28), if_pos (of_decide_eq_true c60)]; exact ⟨rfl, rfl⟩)
        · skip
          refine r_bipush (pc2 := 65) (-2) dX8_setCost_63 (by decide) rfl ?_
          exact r_iret dX8_setCost_65 rfl (by show if _ then _ else _; rw [if_pos (of_decide_eq_true c28), if_neg (of_decide_eq_false c60)]; exact ⟨rfl, rfl⟩)
      · skip
        refine r_bipush (pc2 := 33) (-4) dX8_setCost_31 (by decide) rfl ?_
        exact r_iret dX8_setCost_33 rfl (by show if _ then _ else _; rw [if_neg (of_decide_eq_false c28)]; exact ⟨rfl, rfl⟩)
    · skip
      exact absurd c17 (by decide)

set_option maxRecDepth 100000 in
set_option maxHeartbeats 4000000 in
theorem c_X8_addLink_bad {PL : List (Nat × Nat)} {V : Mm_} {n : Nat} (hm : V 0 33 0 = nI n) (hn1 : 2 ≤ n) (hn8 : n ≤ 8) {a b lo up : Int32} (hbad : ¬ (pr_ok (nI n) a b ∧ (nI 1 ≤ lo ∧ lo ≤ nI 500) ∧ lo ≤ up ∧ up ≤ nI 500)) : Cp_ PL mX8_addLink [vR 0 33, vI a, vI b, vI lo, vI up] V ((-1)) := by
  refine Ca_.of mv_X8_addLink.2.2.2.2.2.2 0 (lo := [some (vR 0 33), some (vI a), some (vI b), some (vI lo), some (vI up)]) rfl (Nat.le_of_ble_eq_true rfl) ?_
  refine r_aload_n (pc2 := 1) dX8_addLink_0 rfl rfl ?_
  refine r_iload_n (pc2 := 2) dX8_addLink_1 rfl rfl ?_
  refine r_iload_n (pc2 := 3) dX8_addLink_2 rfl rfl ?_
  refine r_cv2p (pc2 := 6) dX8_addLink_3 st_X8_addLink_74 rl_X8_arePair (Nat.le_of_ble_eq_true rfl) rfl (c_X8_arePair hm hn1 hn8) ?_
  refine r_ifB_eq (pc2 := 9) (tgt := 32) dX8_addLink_6 (by decide) rfl (fun c6 => ?_) (fun c6 => ?_)
  · skip
    refine r_iconst (pc2 := 33) (-1) dX8_addLink_32 (by decide) rfl ?_
    exact r_iret dX8_addLink_33 rfl (⟨rfl, rfl⟩)
  · skip
    refine r_iload_n (pc2 := 10) dX8_addLink_9 rfl rfl ?_
    refine r_iconst (pc2 := 11) (nI 1) dX8_addLink_10 (by decide) rfl ?_
    refine r_sipush (pc2 := 14) (nI 500) dX8_addLink_11 (by decide) rfl ?_
    refine r_cs3p (pc2 := 17) dX8_addLink_14 st_X8_addLink_54 (Nat.le_of_ble_eq_true rfl) rfl (c_X8_in) ?_
    refine r_ifB_eq (pc2 := 20) (tgt := 32) dX8_addLink_17 (by decide) rfl (fun c17 => ?_) (fun c17 => ?_)
    · skip
      refine r_iconst (pc2 := 33) (-1) dX8_addLink_32 (by decide) rfl ?_
      exact r_iret dX8_addLink_33 rfl (⟨rfl, rfl⟩)
    · skip
      refine r_iload (pc2 := 22) dX8_addLink_20 rfl rfl ?_
      refine r_iload_n (pc2 := 23) dX8_addLink_22 rfl rfl ?_
      refine r_sipush (pc2 := 26) (nI 500) dX8_addLink_23 (by decide) rfl ?_
      refine r_cs3p (pc2 := 29) dX8_addLink_26 st_X8_addLink_54 (Nat.le_of_ble_eq_true rfl) rfl (c_X8_in) ?_
      refine r_ifB_ne (pc2 := 32) (tgt := 34) dX8_addLink_29 (by decide) rfl (fun c29 => ?_) (fun c29 => ?_)
      · skip
        exact absurd ⟨of_decide_eq_true c6, of_decide_eq_true c17, of_decide_eq_true c29⟩ hbad
      · skip
        refine r_iconst (pc2 := 33) (-1) dX8_addLink_32 (by decide) rfl ?_
        exact r_iret dX8_addLink_33 rfl (⟨rfl, rfl⟩)

set_option maxRecDepth 100000 in
set_option maxHeartbeats 4000000 in
theorem c_X8_addLink_ok {PL : List (Nat × Nat)} {V : Mm_} {s : Sg_} (h : RT_ (V 0 34) s) {n : Nat} (hm : V 0 33 0 = nI n) (hn1 : 2 ≤ n) (hn8 : n ≤ 8) {i j : Nat} (hi : i < n) (hj : j < n) (hij : ¬ i = j) {lo up : Int32} (h1 : nI 1 ≤ lo ∧ lo ≤ nI 500) (h2 : lo ≤ up ∧ up ≤ nI 500) : Ci_ PL mX8_addLink [vR 0 33, vI (nI i), vI (nI j), vI lo, vI up] V (fun r V' => if 0 < s 2 (i * 8 + j) then r = -2 ∧ V' = V else if s 1 0 = nI 16 then r = -3 ∧ V' = V else r = s 1 0 + nI 1 ∧ V' = m_set (lw_ (lw_ (lw_ (lw_ V i j 0 lo) i j 1 up) i j 2 lo) i j 3 (nI 1)) 0 34 3595 (s 1 0 + nI 1)) := by
  refine Ca_.of mv_X8_addLink.2.2.2.2.2.2 0 (lo := [some (vR 0 33), some (vI (nI i)), some (vI (nI j)), some (vI lo), some (vI up)]) rfl (Nat.le_of_ble_eq_true rfl) ?_
  refine r_aload_n (pc2 := 1) dX8_addLink_0 rfl rfl ?_
  refine r_iload_n (pc2 := 2) dX8_addLink_1 rfl rfl ?_
  refine r_iload_n (pc2 := 3) dX8_addLink_2 rfl rfl ?_
  refine r_cv2p (pc2 := 6) dX8_addLink_3 st_X8_addLink_74 rl_X8_arePair (Nat.le_of_ble_eq_true rfl) rfl (c_arePair_ok hm hn1 hn8 hi hj hij) ?_
  refine r_if0N_eq (pc2 := 9) (tgt := 32) (by omega) dX8_addLink_6 (by decide) rfl (fun c6 => ?_) (fun c6 => ?_)
  · skip
    exact absurd c6 (by decide)
  · skip
    refine r_iload_n (pc2 := 10) dX8_addLink_9 rfl rfl ?_
    refine r_iconst (pc2 := 11) (nI 1) dX8_addLink_10 (by decide) rfl ?_
    refine r_sipush (pc2 := 14) (nI 500) dX8_addLink_11 (by decide) rfl ?_
    refine r_cs3p (pc2 := 17) dX8_addLink_14 st_X8_addLink_54 (Nat.le_of_ble_eq_true rfl) rfl (c_in_ok h1) ?_
    refine r_if0N_eq (pc2 := 20) (tgt := 32) (by omega) dX8_addLink_17 (by decide) rfl (fun c17 => ?_) (fun c17 => ?_)
    · skip
      exact absurd c17 (by decide)
    · skip
      refine r_iload (pc2 := 22) dX8_addLink_20 rfl rfl ?_
      refine r_iload_n (pc2 := 23) dX8_addLink_22 rfl rfl ?_
      refine r_sipush (pc2 := 26) (nI 500) dX8_addLink_23 (by decide) rfl ?_
      refine r_cs3p (pc2 := 29) dX8_addLink_26 st_X8_addLink_54 (Nat.le_of_ble_eq_true rfl) rfl (c_in_ok h2) ?_
      refine r_if0N_ne (pc2 := 32) (tgt := 34) (by omega) dX8_addLink_29 (by decide) rfl (fun c29 => ?_) (fun c29 => ?_)
      · skip
        refine r_aload_n (pc2 := 35) dX8_addLink_34 rfl rfl ?_
        refine r_iload_n (pc2 := 36) dX8_addLink_35 rfl rfl ?_
        refine r_iload_n (pc2 := 37) dX8_addLink_36 rfl rfl ?_
        refine r_cv2p (pc2 := 40) dX8_addLink_37 st_X8_addLink_66 rl_X8_isLink (Nat.le_of_ble_eq_true rfl) rfl (c_X8_isLink h (by omega) (by omega)) ?_
        refine r_ifB_eq (pc2 := 43) (tgt := 46) dX8_addLink_40 (by decide) rfl (fun c40 => ?_) (fun c40 => ?_)
        · skip
          refine r_aload_n (pc2 := 47) dX8_addLink_46 rfl rfl ?_
          refine r_getR (pc2 := 50) dX8_addLink_47 fl_X8_13 (by decide) rfl rfl rfl ?_
          refine r_sipush (pc2 := 53) (nI 3595) dX8_addLink_50 (by decide) rfl ?_
          refine r_ialde (pc2 := 54) (x := ((s 1 0))) (j := _) (h.lc) dX8_addLink_53 (by decide) rfl rfl (rfl) (by show _ < 3596; omega) rfl ?_
          refine r_bipush (pc2 := 56) (nI 16) dX8_addLink_54 (by decide) rfl ?_
          refine r_ic_ne (pc2 := 59) (tgt := 62) dX8_addLink_56 (by decide) rfl (fun c56 => ?_) (fun c56 => ?_)
          · skip
            refine r_aload_n (pc2 := 63) dX8_addLink_62 rfl rfl ?_
            refine r_iload_n (pc2 := 64) dX8_addLink_63 rfl rfl ?_
            refine r_iload_n (pc2 := 65) dX8_addLink_64 rfl rfl ?_
            refine r_iconst (pc2 := 66) (nI 0) dX8_addLink_65 (by decide) rfl ?_
            refine r_iload_n (pc2 := 67) dX8_addLink_66 rfl rfl ?_
            refine r_cv4m (pc2 := 70) dX8_addLink_67 st_X8_addLink_77 rl_X8_sets (Nat.le_of_ble_eq_true rfl) rfl (c_X8_sets (by omega) (by omega) (by omega)) ?_
            refine r_aload_n (pc2 := 71) dX8_addLink_70 rfl rfl ?_
            refine r_iload_n (pc2 := 72) dX8_addLink_71 rfl rfl ?_
            refine r_iload_n (pc2 := 73) dX8_addLink_72 rfl rfl ?_
            refine r_iconst (pc2 := 74) (nI 1) dX8_addLink_73 (by decide) rfl ?_
            refine r_iload (pc2 := 76) dX8_addLink_74 rfl rfl ?_
            refine r_cv4m (pc2 := 79) dX8_addLink_76 st_X8_addLink_77 rl_X8_sets (Nat.le_of_ble_eq_true rfl) rfl (c_X8_sets (by omega) (by omega) (by omega)) ?_
            refine r_aload_n (pc2 := 80) dX8_addLink_79 rfl rfl ?_
            refine r_iload_n (pc2 := 81) dX8_addLink_80 rfl rfl ?_
            refine r_iload_n (pc2 := 82) dX8_addLink_81 rfl rfl ?_
            refine r_iconst (pc2 := 83) (nI 2) dX8_addLink_82 (by decide) rfl ?_
            refine r_iload_n (pc2 := 84) dX8_addLink_83 rfl rfl ?_
            refine r_cv4m (pc2 := 87) dX8_addLink_84 st_X8_addLink_77 rl_X8_sets (Nat.le_of_ble_eq_true rfl) rfl (c_X8_sets (by omega) (by omega) (by omega)) ?_
            refine r_aload_n (pc2 := 88) dX8_addLink_87 rfl rfl ?_
            refine r_iload_n (pc2 := 89) dX8_addLink_88 rfl rfl ?_
            refine r_iload_n (pc2 := 90) dX8_addLink_89 rfl rfl ?_
            refine r_iconst (pc2 := 91) (nI 3) dX8_addLink_90 (by decide) rfl ?_
            refine r_iconst (pc2 := 92) (nI 1) dX8_addLink_91 (by decide) rfl ?_
            refine r_cv4m (pc2 := 95) dX8_addLink_92 st_X8_addLink_77 rl_X8_sets (Nat.le_of_ble_eq_true rfl) rfl (c_X8_sets (by omega) (by omega) (by omega)) ?_
            refine r_aload_n (pc2 := 96) dX8_addLink_95 rfl rfl ?_
            refine r_getR (pc2 := 99) dX8_addLink_96 fl_X8_13 (by decide) rfl rfl rfl ?_
            refine r_sipush (pc2 := 102) (nI 3595) dX8_addLink_99 (by decide) rfl ?_
            refine r_dup2 (pc2 := 103) dX8_addLink_102 rfl ?_
            refine r_ialde (pc2 := 104) (x := ((s 1 0))) (j := _) (by show (lw_ (lw_ (lw_ (lw_ V i j 0 lo) i j 1 up) i j 2 lo) i j 3 (nI 1)) 0 34 3595 = _; rw [lw_far (by omega) (by omega) (by omega) (by omega), lw_far (by omega) (by omega) (by omega) (by omega), lw_far (by omega) (by omega) (by omega) (by omega), lw_far (by omega) (by omega) (by omega) (by omega)]; exact h.lc) dX8_addLink_103 (by decide) rfl rfl (rfl) (by show _ < 3596; omega) rfl ?_
            refine r_iconst (pc2 := 105) (nI 1) dX8_addLink_104 (by decide) rfl ?_
            refine r_iadd (pc2 := 106) dX8_addLink_105 rfl ?_
            refine r_iast (pc2 := 107) (j := _) dX8_addLink_106 (by decide) rfl rfl (rfl) (by show _ < 3596; omega) rfl ?_
            refine r_aload_n (pc2 := 108) dX8_addLink_107 rfl rfl ?_
            refine r_getR (pc2 := 111) dX8_addLink_108 fl_X8_13 (by decide) rfl rfl rfl ?_
            refine r_sipush (pc2 := 114) (nI 3595) dX8_addLink_111 (by decide) rfl ?_
            refine r_ialde (pc2 := 115) (x := ((s 1 0 + nI 1))) (j := _) (m_j rfl) dX8_addLink_114 (by decide) rfl rfl (rfl) (by show _ < 3596; omega) rfl ?_
            exact r_iret dX8_addLink_115 rfl (by show if _ then _ else _; rw [if_neg (of_decide_eq_false c40), if_neg c56]; exact ⟨rfl, rfl⟩)
          · skip
            refine r_bipush (pc2 := 61) (-3) dX8_addLink_59 (by decide) rfl ?_
            exact r_iret dX8_addLink_61 rfl (by show if _ then _ else _; rw [if_neg (of_decide_eq_false c40), if_pos c56]; exact ⟨rfl, rfl⟩)
        · skip
          refine r_bipush (pc2 := 45) (-2) dX8_addLink_43 (by decide) rfl ?_
          exact r_iret dX8_addLink_45 rfl (by show if _ then _ else _; rw [if_pos (of_decide_eq_true c40)]; exact ⟨rfl, rfl⟩)
      · skip
        exact absurd c29 (by decide)

set_option maxRecDepth 100000 in
set_option maxHeartbeats 4000000 in
theorem c_X8_removeLink_bad {PL : List (Nat × Nat)} {V : Mm_} {n : Nat} (hm : V 0 33 0 = nI n) (hn1 : 2 ≤ n) (hn8 : n ≤ 8) {a b : Int32} (hbad : ¬ (pr_ok (nI n) a b)) : Cp_ PL mX8_removeLink [vR 0 33, vI a, vI b] V ((-1)) := by
  refine Ca_.of mv_X8_removeLink.2.2.2.2.2.2 1 (lo := [some (vR 0 33), some (vI a), some (vI b), none]) rfl (Nat.le_of_ble_eq_true rfl) ?_
  refine r_aload_n (pc2 := 1) dX8_removeLink_0 rfl rfl ?_
  refine r_iload_n (pc2 := 2) dX8_removeLink_1 rfl rfl ?_
  refine r_iload_n (pc2 := 3) dX8_removeLink_2 rfl rfl ?_
  refine r_cv2p (pc2 := 6) dX8_removeLink_3 st_X8_removeLink_74 rl_X8_arePair (Nat.le_of_ble_eq_true rfl) rfl (c_X8_arePair hm hn1 hn8) ?_
  refine r_ifB_ne (pc2 := 9) (tgt := 11) dX8_removeLink_6 (by decide) rfl (fun c6 => ?_) (fun c6 => ?_)
  · skip
    exact absurd (of_decide_eq_true c6) hbad
  · skip
    refine r_iconst (pc2 := 10) (-1) dX8_removeLink_9 (by decide) rfl ?_
    exact r_iret dX8_removeLink_10 rfl (⟨rfl, rfl⟩)

theorem lz_far {V : Mm_} {i j q : Nat} (hi : i < 8) (hj : j < 8) (hq : 256 ≤ q) : ∀ k, k ≤ 4 → lz_ V i j k 0 34 q = V 0 34 q
  | 0, _ => rfl
  | k + 1, h => (lw_far hi hj (by omega) hq).trans (lz_far hi hj hq k (by omega))
theorem lz_ne {V : Mm_} {i j g r : Nat} (h : ¬ (g = 0 ∧ r = 34)) : ∀ k, lz_ V i j k g r = V g r
  | 0 => rfl
  | k + 1 => (lw_ne h).trans (lz_ne h k)
theorem lz_at {V : Mm_} {i j k w : Nat} (hw : w < 4) : lz_ V i j 4 0 34 (4 * k + w) = if k = i * 8 + j ∨ k = j * 8 + i then nI 0 else V 0 34 (4 * k + w) := by
  show lw_ (lw_ (lw_ (lw_ V i j 0 (nI 0)) i j 1 (nI 0)) i j 2 (nI 0)) i j 3 (nI 0) 0 34 (4 * k + w) = _
  rw [lw_at (by decide) hw, lw_at (by decide) hw, lw_at (by decide) hw, lw_at (by decide) hw]
  by_cases c : k = i * 8 + j ∨ k = j * 8 + i
  · rw [if_pos c]
    obtain rfl | rfl | rfl | rfl : w = 0 ∨ w = 1 ∨ w = 2 ∨ w = 3 := by omega
    · rw [if_neg (by omega), if_neg (by omega), if_neg (by omega), if_pos ⟨rfl, c⟩]
    · rw [if_neg (by omega), if_neg (by omega), if_pos ⟨rfl, c⟩]
    · rw [if_neg (by omega), if_pos ⟨rfl, c⟩]
    · rw [if_pos ⟨rfl, c⟩]
  · rw [if_neg c, if_neg (fun z => c z.2), if_neg (fun z => c z.2), if_neg (fun z => c z.2), if_neg (fun z => c z.2)]
set_option maxRecDepth 100000 in
set_option maxHeartbeats 4000000 in
theorem c_X8_removeLink_ok {PL : List (Nat × Nat)} {V : Mm_} {s : Sg_} (h : RT_ (V 0 34) s) {n : Nat} (hm : V 0 33 0 = nI n) (hn1 : 2 ≤ n) (hn8 : n ≤ 8) {i j : Nat} (hi : i < n) (hj : j < n) (hij : ¬ i = j)  : Ci_ PL mX8_removeLink [vR 0 33, vI (nI i), vI (nI j)] V (fun r V' => if 0 < s 2 (i * 8 + j) then r = s 1 0 - nI 1 ∧ V' = m_set (lz_ V i j 4) 0 34 3595 (s 1 0 - nI 1) else r = -4 ∧ V' = V) := by
  refine Ca_.of mv_X8_removeLink.2.2.2.2.2.2 1 (lo := [some (vR 0 33), some (vI (nI i)), some (vI (nI j)), none]) rfl (Nat.le_of_ble_eq_true rfl) ?_
  refine r_aload_n (pc2 := 1) dX8_removeLink_0 rfl rfl ?_
  refine r_iload_n (pc2 := 2) dX8_removeLink_1 rfl rfl ?_
  refine r_iload_n (pc2 := 3) dX8_removeLink_2 rfl rfl ?_
  refine r_cv2p (pc2 := 6) dX8_removeLink_3 st_X8_removeLink_74 rl_X8_arePair (Nat.le_of_ble_eq_true rfl) rfl (c_arePair_ok hm hn1 hn8 hi hj hij) ?_
  refine r_if0N_ne (pc2 := 9) (tgt := 11) (by omega) dX8_removeLink_6 (by decide) rfl (fun c6 => ?_) (fun c6 => ?_)
  · skip
    refine r_aload_n (pc2 := 12) dX8_removeLink_11 rfl rfl ?_
    refine r_iload_n (pc2 := 13) dX8_removeLink_12 rfl rfl ?_
    refine r_iload_n (pc2 := 14) dX8_removeLink_13 rfl rfl ?_
    refine r_cv2p (pc2 := 17) dX8_removeLink_14 st_X8_removeLink_66 rl_X8_isLink (Nat.le_of_ble_eq_true rfl) rfl (c_X8_isLink h (by omega) (by omega)) ?_
    refine r_ifB_ne (pc2 := 20) (tgt := 23) dX8_removeLink_17 (by decide) rfl (fun c17 => ?_) (fun c17 => ?_)
    · skip
      refine r_iconst (pc2 := 24) (nI 0) dX8_removeLink_23 (by decide) rfl ?_
      refine r_istore_n (pc2 := 25) dX8_removeLink_24 (by decide) rfl rfl ?_
      refine Rc_.to (V' := (fun k => lz_ V i j k) 0) (lo' := (fun k : Nat => [some (vR 0 33), some (vI (nI i)), some (vI (nI j)), some (vI (nI k))]) 0) (rfl) ⟨rfl, rfl, rfl, rfl, trivial⟩ ?_
      refine Rc_for 0 (4) (fun k : Nat => [some (vR 0 33), some (vI (nI i)), some (vI (nI j)), some (vI (nI k))]) (fun k => lz_ V i j k) (by omega) (fun k hk0 hkN ih25 => ?_)
      refine r_iload_n (pc2 := 26) dX8_removeLink_25 rfl rfl ?_
      refine r_iconst (pc2 := 27) (nI 4) dX8_removeLink_26 (by decide) rfl ?_
      refine r_icN_ge (pc2 := 30) (tgt := 44) (by omega) (by omega) dX8_removeLink_27 (by decide) rfl (fun c27 => ?_) (fun c27 => ?_)
      · skip
        rw [show k = 4 by omega]
        refine r_aload_n (pc2 := 45) dX8_removeLink_44 rfl rfl ?_
        refine r_getR (pc2 := 48) dX8_removeLink_45 fl_X8_13 (by decide) rfl rfl rfl ?_
        refine r_sipush (pc2 := 51) (nI 3595) dX8_removeLink_48 (by decide) rfl ?_
        refine r_dup2 (pc2 := 52) dX8_removeLink_51 rfl ?_
        refine r_ialde (pc2 := 53) (x := ((s 1 0))) (j := _) ((lz_far (by omega) (by omega) (by omega) 4 (by omega)).trans h.lc) dX8_removeLink_52 (by decide) rfl rfl (rfl) (by show _ < 3596; omega) rfl ?_
        refine r_iconst (pc2 := 54) (nI 1) dX8_removeLink_53 (by decide) rfl ?_
        refine r_isub (pc2 := 55) dX8_removeLink_54 rfl ?_
        refine r_iast (pc2 := 56) (j := _) dX8_removeLink_55 (by decide) rfl rfl (rfl) (by show _ < 3596; omega) rfl ?_
        refine r_aload_n (pc2 := 57) dX8_removeLink_56 rfl rfl ?_
        refine r_getR (pc2 := 60) dX8_removeLink_57 fl_X8_13 (by decide) rfl rfl rfl ?_
        refine r_sipush (pc2 := 63) (nI 3595) dX8_removeLink_60 (by decide) rfl ?_
        refine r_ialde (pc2 := 64) (x := ((s 1 0 - nI 1))) (j := _) (m_j rfl) dX8_removeLink_63 (by decide) rfl rfl (rfl) (by show _ < 3596; omega) rfl ?_
        exact r_iret dX8_removeLink_64 rfl (by show if _ then _ else _; rw [if_pos (of_decide_eq_true c17)]; exact ⟨rfl, rfl⟩)
      · skip
        refine r_aload_n (pc2 := 31) dX8_removeLink_30 rfl rfl ?_
        refine r_iload_n (pc2 := 32) dX8_removeLink_31 rfl rfl ?_
        refine r_iload_n (pc2 := 33) dX8_removeLink_32 rfl rfl ?_
        refine r_iload_n (pc2 := 34) dX8_removeLink_33 rfl rfl ?_
        refine r_iconst (pc2 := 35) (nI 0) dX8_removeLink_34 (by decide) rfl ?_
        refine r_cv4m (pc2 := 38) dX8_removeLink_35 st_X8_removeLink_77 rl_X8_sets (Nat.le_of_ble_eq_true rfl) rfl (c_X8_sets (by omega) (by omega) (by omega)) ?_
        refine r_iincN (pc2 := 41) dX8_removeLink_38 rfl (by decide) rfl rfl ?_
        refine r_goto (pc2 := 25) dX8_removeLink_41 (by decide) ?_
        exact Rc_.to (lo' := (fun k : Nat => [some (vR 0 33), some (vI (nI i)), some (vI (nI j)), some (vI (nI k))]) (k + 1)) (rfl) ⟨rfl, rfl, rfl, rfl, trivial⟩ (ih25 (by omega))
    · skip
      refine r_bipush (pc2 := 22) (-4) dX8_removeLink_20 (by decide) rfl ?_
      exact r_iret dX8_removeLink_22 rfl (by show if _ then _ else _; rw [if_neg (of_decide_eq_false c17)]; exact ⟨rfl, rfl⟩)
  · skip
    exact absurd c6 (by decide)
