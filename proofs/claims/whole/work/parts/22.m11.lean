/-! class: its face, truth, what would come: written by wip/whole/m11.py -/
/-- what can be seen stays: live and stored state, settings, the reference's memory -/
def fm_ (V V' : Mm_) : Prop := V' 1 = V 1 ∧ V' 2 = V 2 ∧ ∀ r, ¬ (20 ≤ r ∧ r ≤ 32) → V' 0 r = V 0 r
theorem fm_rf {V : Mm_} : fm_ V V := ⟨rfl, rfl, fun _ _ => rfl⟩
theorem fm_tr {V V' V2 : Mm_} (h : fm_ V V') (h2 : fm_ V' V2) : fm_ V V2 := ⟨h2.1.trans h.1, h2.2.1.trans h.2.1, fun r hr => (h2.2.2 r hr).trans (h.2.2 r hr)⟩
theorem fm_sf {V V' : Mm_} (h : sf_ V V') : fm_ V V' := ⟨by funext r; exact h 1 r (by omega), by funext r; exact h 2 r (by omega), fun r hr => h 0 r (by omega)⟩
theorem fm_31 {V : Mm_} {f : Nat → Int32} : fm_ V (a_set V 0 31 f) := ⟨ag_ne (by decide), ag_ne (by decide), fun r hr => a_ne (by omega)⟩
theorem fm_tk {V V' : Mm_} (h : ∀ g r, ¬ g = 3 → ¬ (g = 0 ∧ 20 ≤ r ∧ r ≤ 32) → V' g r = V g r) : fm_ V V' := ⟨by funext r; exact h 1 r (by decide) (by omega), by funext r; exact h 2 r (by decide) (by omega), fun r hr => h 0 r (by decide) (by omega)⟩
theorem fm_g3 {V : Mm_} {r : Nat} {f : Nat → Int32} : fm_ V (a_set V 3 r f) := ⟨ag_ne (by decide), ag_ne (by decide), fun r hr => a_ne (by omega)⟩
theorem fm_cf {V : Mm_} : fm_ V (cf_ V 3 1) := by
  unfold cf_
  refine ⟨?_, ?_, fun r hr => ?_⟩
  · funext r; simp [a_set]
  · funext r; simp [a_set]
  · simp [a_set]
theorem cf_0 {V : Mm_} {g g0 : Nat} (k : Nat) (hk : k < 3) : cf_ V g g0 g 0 k = V g0 0 k := by
  unfold cf_
  obtain rfl | rfl | rfl : k = 0 ∨ k = 1 ∨ k = 2 := by omega
  · simp [a_set, upd]
  · simp [a_set, upd]
  · simp [a_set, upd]
theorem cf_15 {V : Mm_} {g g0 : Nat} : cf_ V g g0 g 15 1 = V g0 15 1 := by unfold cf_; simp [a_set, upd]
theorem bs_3 {V : Mm_} {r i j : Nat} {x : Int32} : fm_ V (b_set V 3 r i j x) := fm_tr fm_g3 fm_g3
theorem ul_mem {s : Sg_} {inf : Int32} {n a b i : Nat} (h : i < (ul_ s inf n a b).length) : (ul_ s inf n a b).getD i 0 < n := by
  rw [List.getD_eq_getElem?_getD, List.getElem?_eq_getElem h]
  exact List.mem_range.mp (List.mem_filter.mp (List.getElem_mem h)).1
theorem ch_val {rule : Int32} {s : Sg_} {inf : Int32} {n a b : Nat} : ch_ rule s inf n a b = -1 ∨ ∃ y, y < n ∧ ch_ rule s inf n a b = nI y := by
  unfold ch_
  cases h : bs_ (rk_ rule (pb_ s inf n 7 a b) (pb_ s inf n 8 a b) (ul_ s inf n a b).length) (sc_ rule (pb_ s inf n 7 a b) (pb_ s inf n 8 a b)) (ul_ s inf n a b).length with
  | none => exact Or.inl rfl
  | some i => exact Or.inr ⟨_, ul_mem (bs_lt h), rfl⟩
theorem Ch_ok {rule : Int32} {s : Sg_} {inf : Int32} {n : Nat} : ch_ok (Ch_ rule s inf n) n := fun _ _ _ _ => ch_val
theorem ok_ag {C C' : Nat → Int32} {n : Nat} (h : ag_ n C C') (h2 : ch_ok C' n) : ch_ok C n := fun a b ha hb => by rw [h a b ha hb]; exact h2 a b ha hb
theorem wk_cong {C C' : Nat → Int32} {n t : Nat} (hn8 : n ≤ 8) (h : ag_ n C C') (h2 : ch_ok C' n) (ht : t < n) : ∀ (f k a : Nat) (sn : Int32), a < n → wk_ C t f k a sn = wk_ C' t f k a sn
  | 0, _, _, _, _ => rfl
  | f + 1, k, a, sn, ha => by
    rw [wk_, wk_, h a t ha ht]
    rcases h2 a t ha ht with e | ⟨y, hy, e⟩
    · rw [if_pos e, if_pos e]
    · rw [e, nI_clamp (by omega), wk_cong hn8 h h2 ht f (k + 1) y _ hy]
theorem wv_cong {C C' : Nat → Int32} {n a t : Nat} (hn8 : n ≤ 8) (h : ag_ n C C') (h2 : ch_ok C' n) (ha : a < n) (ht : t < n) : wv_ C a t = wv_ C' a t := wk_cong hn8 h h2 ht 8 0 a _ ha
theorem lp_cong {C C' : Nat → Int32} {n : Nat} (hn8 : n ≤ 8) (h : ag_ n C C') (h2 : ch_ok C' n) : c2_ (lp_ C) n n = c2_ (lp_ C') n n := c2_cong (fun a b ha hb => by unfold lp_; rw [wv_cong hn8 h h2 ha hb])

set_option maxRecDepth 100000 in
set_option maxHeartbeats 4000000 in
theorem c_X7_trueDistance_bad {PL : List (Nat × Nat)} {V : Mm_} {n : Nat} (hn : V 1 0 0 = nI n) (hn8 : n ≤ 8) {a b : Int32} (hbad : ¬ (0 ≤ a ∧ a < nI n ∧ 0 ≤ b ∧ b < nI n)) : Cp_ PL mX7_trueDistance [vR 0 18, vI a, vI b] V ((-1)) := by
  refine Ca_.of mv_X7_trueDistance.2.2.2.2.2.2 1 (lo := [some (vR 0 18), some (vI a), some (vI b), none]) rfl (Nat.le_of_ble_eq_true rfl) ?_
  refine r_aload_n (pc2 := 1) dX7_trueDistance_0 rfl rfl ?_
  refine r_iload_n (pc2 := 2) dX7_trueDistance_1 rfl rfl ?_
  refine r_cv1p (pc2 := 5) dX7_trueDistance_2 st_X7_trueDistance_171 rl_X7_isNode (Nat.le_of_ble_eq_true rfl) rfl (c_X7_isNode) ?_
  refine r_ifB_eq (pc2 := 8) (tgt := 16) dX7_trueDistance_5 (by decide) rfl (fun c5 => ?_) (fun c5 => ?_)
  · skip
    refine r_iconst (pc2 := 17) (-1) dX7_trueDistance_16 (by decide) rfl ?_
    exact r_iret dX7_trueDistance_17 rfl (⟨rfl, rfl⟩)
  · skip
    refine r_aload_n (pc2 := 9) dX7_trueDistance_8 rfl rfl ?_
    refine r_iload_n (pc2 := 10) dX7_trueDistance_9 rfl rfl ?_
    refine r_cv1p (pc2 := 13) dX7_trueDistance_10 st_X7_trueDistance_171 rl_X7_isNode (Nat.le_of_ble_eq_true rfl) rfl (c_X7_isNode) ?_
    refine r_ifB_ne (pc2 := 16) (tgt := 18) dX7_trueDistance_13 (by decide) rfl (fun c13 => ?_) (fun c13 => ?_)
    · skip
      rw [hn] at c5 c13; exact absurd ⟨(of_decide_eq_true c5).1, (of_decide_eq_true c5).2, (of_decide_eq_true c13).1, (of_decide_eq_true c13).2⟩ hbad
    · skip
      refine r_iconst (pc2 := 17) (-1) dX7_trueDistance_16 (by decide) rfl ?_
      exact r_iret dX7_trueDistance_17 rfl (⟨rfl, rfl⟩)

set_option maxRecDepth 100000 in
set_option maxHeartbeats 4000000 in
theorem c_X7_trueDistance_ok {PL : List (Nat × Nat)} {V : Mm_} {n : Nat} (hn : V 1 0 0 = nI n) (hn8 : n ≤ 8) {i j : Nat} (hi : i < n) (hj : j < n) : Ci_ PL mX7_trueDistance [vR 0 18, vI (nI i), vI (nI j)] V (fun x V' => fm_ V V' ∧ x = if ms_ (V 1) n (V 0 31) (i * 8 + j) < nI 1000000 then ms_ (V 1) n (V 0 31) (i * 8 + j) else -4) := by
  refine Ca_.of mv_X7_trueDistance.2.2.2.2.2.2 1 (lo := [some (vR 0 18), some (vI (nI i)), some (vI (nI j)), none]) rfl (Nat.le_of_ble_eq_true rfl) ?_
  refine r_aload_n (pc2 := 1) dX7_trueDistance_0 rfl rfl ?_
  refine r_iload_n (pc2 := 2) dX7_trueDistance_1 rfl rfl ?_
  refine r_cv1p (pc2 := 5) dX7_trueDistance_2 st_X7_trueDistance_171 rl_X7_isNode (Nat.le_of_ble_eq_true rfl) rfl (c_isNode_ok hn hn8 hi) ?_
  refine r_if0N_eq (pc2 := 8) (tgt := 16) (by omega) dX7_trueDistance_5 (by decide) rfl (fun c5 => ?_) (fun c5 => ?_)
  · skip
    exact absurd c5 (by decide)
  · skip
    refine r_aload_n (pc2 := 9) dX7_trueDistance_8 rfl rfl ?_
    refine r_iload_n (pc2 := 10) dX7_trueDistance_9 rfl rfl ?_
    refine r_cv1p (pc2 := 13) dX7_trueDistance_10 st_X7_trueDistance_171 rl_X7_isNode (Nat.le_of_ble_eq_true rfl) rfl (c_isNode_ok hn hn8 hj) ?_
    refine r_if0N_ne (pc2 := 16) (tgt := 18) (by omega) dX7_trueDistance_13 (by decide) rfl (fun c13 => ?_) (fun c13 => ?_)
    · skip
      refine r_aload_n (pc2 := 19) dX7_trueDistance_18 rfl rfl ?_
      refine r_getR (pc2 := 22) dX7_trueDistance_19 fl_X7_44 (by decide) rfl rfl rfl ?_
      refine r_aload_n (pc2 := 23) dX7_trueDistance_22 rfl rfl ?_
      refine r_getR (pc2 := 26) dX7_trueDistance_23 fl_X7_24 (by decide) rfl rfl rfl ?_
      refine r_getR (pc2 := 29) dX7_trueDistance_26 fl_X7_68 (by decide) rfl rfl rfl ?_
      refine r_aload_n (pc2 := 30) dX7_trueDistance_29 rfl rfl ?_
      refine r_getR (pc2 := 33) dX7_trueDistance_30 fl_X7_24 (by decide) rfl rfl rfl ?_
      refine r_getIe (pc2 := 36) (x := (nI n)) (hn) dX7_trueDistance_33 fl_X7_60 (by decide) rfl rfl rfl ?_
      refine r_cv2m (pc2 := 39) dX7_trueDistance_36 st_X7_trueDistance_210 rl_X6_measure (Nat.le_of_ble_eq_true rfl) rfl (c_X6_measure (by decide) hn8) ?_
      refine r_iload_n (pc2 := 40) dX7_trueDistance_39 rfl rfl ?_
      refine r_iload_n (pc2 := 41) dX7_trueDistance_40 rfl rfl ?_
      refine r_cs2p (pc2 := 44) dX7_trueDistance_41 st_X7_trueDistance_88 (Nat.le_of_ble_eq_true rfl) rfl (c_X7_pair) ?_
      refine r_istore_n (pc2 := 45) dX7_trueDistance_44 (by decide) rfl rfl ?_
      refine r_aload_n (pc2 := 46) dX7_trueDistance_45 rfl rfl ?_
      refine r_getR (pc2 := 49) dX7_trueDistance_46 fl_X7_44 (by decide) rfl rfl rfl ?_
      refine r_iload_n (pc2 := 50) dX7_trueDistance_49 rfl rfl ?_
      refine r_cv1p (pc2 := 53) dX7_trueDistance_50 st_X7_trueDistance_214 rl_X6_exists (Nat.le_of_ble_eq_true rfl) rfl (c_X6_exists (by omega)) ?_
      refine r_ifB_eq (pc2 := 56) (tgt := 68) dX7_trueDistance_53 (by decide) rfl (fun c53 => ?_) (fun c53 => ?_)
      · skip
        rw [a_same] at c53
        refine r_bipush (pc2 := 70) (-4) dX7_trueDistance_68 (by decide) rfl ?_
        exact r_iret dX7_trueDistance_70 rfl (⟨fm_31, by first | exact (by rw [if_pos (of_decide_eq_true c53), a_same]) | exact (by rw [if_neg (of_decide_eq_false c53)])⟩)
      · skip
        rw [a_same] at c53
        refine r_aload_n (pc2 := 57) dX7_trueDistance_56 rfl rfl ?_
        refine r_getR (pc2 := 60) dX7_trueDistance_57 fl_X7_44 (by decide) rfl rfl rfl ?_
        refine r_getR (pc2 := 63) dX7_trueDistance_60 fl_X7_217 (by decide) rfl rfl rfl ?_
        refine r_iload_n (pc2 := 64) dX7_trueDistance_63 rfl rfl ?_
        refine r_iald (pc2 := 65) (j := _) dX7_trueDistance_64 (by decide) rfl rfl (rfl) (by show _ < 64; omega) rfl ?_
        refine r_goto (pc2 := 70) dX7_trueDistance_65 (by decide) ?_
        exact r_iret dX7_trueDistance_70 rfl (⟨fm_31, by first | exact (by rw [if_pos (of_decide_eq_true c53), a_same]) | exact (by rw [if_neg (of_decide_eq_false c53)])⟩)
    · skip
      exact absurd c13 (by decide)

def wb_ (DL DU D : Nat → Int32) (k : Nat) : Bool := if D k < nI 1000000 then !decide (DL k ≤ D k ∧ D k ≤ DU k) else decide (¬ DU k = -1)
set_option maxRecDepth 100000 in
set_option maxHeartbeats 4000000 in
theorem c_X7_isWrong {PL : List (Nat × Nat)} {V : Mm_} {k : Nat} (hk : k < 64) : Cp_ PL mX7_isWrong [vR 0 18, vI (nI k)] V (b2 (wb_ (V 0 21) (V 0 22) (V 0 31) k)) := by
  refine Ca_.of mv_X7_isWrong.2.2.2.2.2.2 0 (lo := [some (vR 0 18), some (vI (nI k))]) rfl (Nat.le_of_ble_eq_true rfl) ?_
  refine r_aload_n (pc2 := 1) dX7_isWrong_0 rfl rfl ?_
  refine r_getR (pc2 := 4) dX7_isWrong_1 fl_X7_44 (by decide) rfl rfl rfl ?_
  refine r_iload_n (pc2 := 5) dX7_isWrong_4 rfl rfl ?_
  refine r_cv1p (pc2 := 8) dX7_isWrong_5 st_X7_isWrong_214 rl_X6_exists (Nat.le_of_ble_eq_true rfl) rfl (c_X6_exists (by omega)) ?_
  refine r_ifB_ne (pc2 := 11) (tgt := 20) dX7_isWrong_8 (by decide) rfl (fun c8 => ?_) (fun c8 => ?_)
  · skip
    refine r_aload_n (pc2 := 21) dX7_isWrong_20 rfl rfl ?_
    refine r_getR (pc2 := 24) dX7_isWrong_21 fl_X7_44 (by decide) rfl rfl rfl ?_
    refine r_getR (pc2 := 27) dX7_isWrong_24 fl_X7_217 (by decide) rfl rfl rfl ?_
    refine r_iload_n (pc2 := 28) dX7_isWrong_27 rfl rfl ?_
    refine r_iald (pc2 := 29) (j := _) dX7_isWrong_28 (by decide) rfl rfl (rfl) (by show _ < 64; omega) rfl ?_
    refine r_aload_n (pc2 := 30) dX7_isWrong_29 rfl rfl ?_
    refine r_getR (pc2 := 33) dX7_isWrong_30 fl_X7_37 (by decide) rfl rfl rfl ?_
    refine r_getR (pc2 := 36) dX7_isWrong_33 fl_X7_181 (by decide) rfl rfl rfl ?_
    refine r_iload_n (pc2 := 37) dX7_isWrong_36 rfl rfl ?_
    refine r_iald (pc2 := 38) (j := _) dX7_isWrong_37 (by decide) rfl rfl (rfl) (by show _ < 64; omega) rfl ?_
    refine r_aload_n (pc2 := 39) dX7_isWrong_38 rfl rfl ?_
    refine r_getR (pc2 := 42) dX7_isWrong_39 fl_X7_37 (by decide) rfl rfl rfl ?_
    refine r_getR (pc2 := 45) dX7_isWrong_42 fl_X7_182 (by decide) rfl rfl rfl ?_
    refine r_iload_n (pc2 := 46) dX7_isWrong_45 rfl rfl ?_
    refine r_iald (pc2 := 47) (j := _) dX7_isWrong_46 (by decide) rfl rfl (rfl) (by show _ < 64; omega) rfl ?_
    refine r_cs3p (pc2 := 50) dX7_isWrong_47 st_X7_isWrong_105 (Nat.le_of_ble_eq_true rfl) rfl (c_X7_isBetween) ?_
    refine r_ifB_ne (pc2 := 53) (tgt := 57) dX7_isWrong_50 (by decide) rfl (fun c50 => ?_) (fun c50 => ?_)
    · skip
      refine r_iconst (pc2 := 58) (nI 0) dX7_isWrong_57 (by decide) rfl ?_
      exact r_zret dX7_isWrong_58 rfl (Or.inl rfl) (⟨by unfold wb_; rw [if_pos (of_decide_eq_true c8), c50]; rfl, rfl⟩)
    · skip
      refine r_iconst (pc2 := 54) (nI 1) dX7_isWrong_53 (by decide) rfl ?_
      refine r_goto (pc2 := 58) dX7_isWrong_54 (by decide) ?_
      exact r_zret dX7_isWrong_58 rfl (Or.inr rfl) (⟨by unfold wb_; rw [if_pos (of_decide_eq_true c8), c50]; rfl, rfl⟩)
  · skip
    refine r_aload_n (pc2 := 12) dX7_isWrong_11 rfl rfl ?_
    refine r_getR (pc2 := 15) dX7_isWrong_12 fl_X7_37 (by decide) rfl rfl rfl ?_
    refine r_iload_n (pc2 := 16) dX7_isWrong_15 rfl rfl ?_
    refine r_cv1p (pc2 := 19) dX7_isWrong_16 st_X7_isWrong_178 rl_X3_reaches (Nat.le_of_ble_eq_true rfl) rfl (c_X3_reaches (by omega)) ?_
    exact r_zret dX7_isWrong_19 rfl (b2_01 _) (⟨by unfold wb_; rw [if_neg (of_decide_eq_false c8)], rfl⟩)

set_option maxRecDepth 100000 in
set_option maxHeartbeats 4000000 in
theorem c_X7_wrongPairs {PL : List (Nat × Nat)} {V : Mm_} {n : Nat} (hn : V 1 0 0 = nI n) (hn8 : n ≤ 8) : Ci_ PL mX7_wrongPairs [vR 0 18] V (fun x V' => fm_ V V' ∧ x = nI (c2_ (fun a b => decide (¬ a = b) && wb_ (Dl_ (V 1) (V 0 19 6) n) (Du_ (V 1) (V 0 19 6) n) (ms_ (V 1) n (V 0 31)) (a * 8 + b)) n n)) := by
  refine Ca_.of mv_X7_wrongPairs.2.2.2.2.2.2 3 (lo := [some (vR 0 18), none, none, none]) rfl (Nat.le_of_ble_eq_true rfl) ?_
  refine r_aload_n (pc2 := 1) dX7_wrongPairs_0 rfl rfl ?_
  refine r_getR (pc2 := 4) dX7_wrongPairs_1 fl_X7_37 (by decide) rfl rfl rfl ?_
  refine r_aload_n (pc2 := 5) dX7_wrongPairs_4 rfl rfl ?_
  refine r_getR (pc2 := 8) dX7_wrongPairs_5 fl_X7_24 (by decide) rfl rfl rfl ?_
  refine r_aload_n (pc2 := 9) dX7_wrongPairs_8 rfl rfl ?_
  refine r_getR (pc2 := 12) dX7_wrongPairs_9 fl_X7_18 (by decide) rfl rfl rfl ?_
  refine r_cv2v (pc2 := 15) dX7_wrongPairs_12 st_X7_wrongPairs_189 rl_X3_take (Nat.le_of_ble_eq_true rfl) rfl (c_X3_take (by decide) hn hn8) (fun V12 h12 => ?_)
  have hf12 := fm_sf h12.1
  obtain ⟨a1, a2, a3⟩ := tk_ag hn8 h12
  refine r_aload_n (pc2 := 16) dX7_wrongPairs_15 rfl rfl ?_
  refine r_getR (pc2 := 19) dX7_wrongPairs_16 fl_X7_44 (by decide) rfl rfl rfl ?_
  refine r_aload_n (pc2 := 20) dX7_wrongPairs_19 rfl rfl ?_
  refine r_getR (pc2 := 23) dX7_wrongPairs_20 fl_X7_24 (by decide) rfl rfl rfl ?_
  refine r_getR (pc2 := 26) dX7_wrongPairs_23 fl_X7_68 (by decide) rfl rfl rfl ?_
  refine r_aload_n (pc2 := 27) dX7_wrongPairs_26 rfl rfl ?_
  refine r_getR (pc2 := 30) dX7_wrongPairs_27 fl_X7_24 (by decide) rfl rfl rfl ?_
  refine r_getIe (pc2 := 33) (x := (nI n)) (by rw [hf12.1]; exact hn) dX7_wrongPairs_30 fl_X7_60 (by decide) rfl rfl rfl ?_
  refine r_cv2m (pc2 := 36) dX7_wrongPairs_33 st_X7_wrongPairs_210 rl_X6_measure (Nat.le_of_ble_eq_true rfl) rfl (c_X6_measure (by decide) hn8) ?_
  obtain ⟨V2, hV2⟩ : ∃ V2, V2 = a_set V12 0 31 (ms_ (V12 1) n (V12 0 31)) := ⟨_, rfl⟩
  rw [← hV2]
  have hfm : fm_ V V2 := by rw [hV2]; exact fm_tr hf12 fm_31
  have hn2 : V2 1 0 0 = nI n := by rw [hfm.1]; exact hn
  have hres : c2_ (fun a b => decide (¬ a = b) && wb_ (V2 0 21) (V2 0 22) (V2 0 31) (a * 8 + b)) n n = c2_ (fun a b => decide (¬ a = b) && wb_ (Dl_ (V 1) (V 0 19 6) n) (Du_ (V 1) (V 0 19 6) n) (ms_ (V 1) n (V 0 31)) (a * 8 + b)) n n := by
    have e21 : V2 0 21 = V12 0 21 := by rw [hV2, a_ne (by omega)]
    have e22 : V2 0 22 = V12 0 22 := by rw [hV2, a_ne (by omega)]
    have e31 : V2 0 31 = ms_ (V 1) n (V 0 31) := by rw [hV2, a_same, hf12.1, h12.1 0 31 (by omega)]
    refine c2_cong (fun a b ha hb => ?_)
    rw [e21, e22, e31]
    unfold wb_
    rw [a1 a b ha hb, a2 a b ha hb]
  refine r_iconst (pc2 := 37) (nI 0) dX7_wrongPairs_36 (by decide) rfl ?_
  refine r_istore_n (pc2 := 38) dX7_wrongPairs_37 (by decide) rfl rfl ?_
  refine r_iconst (pc2 := 39) (nI 0) dX7_wrongPairs_38 (by decide) rfl ?_
  refine r_istore_n (pc2 := 40) dX7_wrongPairs_39 (by decide) rfl rfl ?_
  refine Rc_.to (V' := (fun _ => V2) 0) (lo' := (fun i : Nat => [some (vR 0 18), some (vI (nI ((c2_ (fun a b => decide (¬ a = b) && wb_ (V2 0 21) (V2 0 22) (V2 0 31) (a * 8 + b)) n i)))), some (vI (nI i)), none]) 0) (rfl) ⟨rfl, rfl, rfl, trivial⟩ ?_
  refine Rc_for 0 (n) (fun i : Nat => [some (vR 0 18), some (vI (nI ((c2_ (fun a b => decide (¬ a = b) && wb_ (V2 0 21) (V2 0 22) (V2 0 31) (a * 8 + b)) n i)))), some (vI (nI i)), none]) (fun _ => V2) (by omega) (fun i hi0 hiN ih40 => ?_)
  refine r_iload_n (pc2 := 41) dX7_wrongPairs_40 rfl rfl ?_
  refine r_aload_n (pc2 := 42) dX7_wrongPairs_41 rfl rfl ?_
  refine r_getR (pc2 := 45) dX7_wrongPairs_42 fl_X7_24 (by decide) rfl rfl rfl ?_
  refine r_getIe (pc2 := 48) (x := (nI n)) (hn2) dX7_wrongPairs_45 fl_X7_60 (by decide) rfl rfl rfl ?_
  refine r_icN_ge (pc2 := 51) (tgt := 96) (by omega) (by omega) dX7_wrongPairs_48 (by decide) rfl (fun c48 => ?_) (fun c48 => ?_)
  · skip
    refine r_iload_n (pc2 := 97) dX7_wrongPairs_96 rfl rfl ?_
    exact r_iret dX7_wrongPairs_97 rfl (⟨hfm, by (have e : i = n := by omega); subst e; rw [hres]⟩)
  · skip
    refine r_iconst (pc2 := 52) (nI 0) dX7_wrongPairs_51 (by decide) rfl ?_
    refine r_istore_n (pc2 := 53) dX7_wrongPairs_52 (by decide) rfl rfl ?_
    refine Rc_.to (V' := (fun _ => V2) 0) (lo' := (fun j : Nat => [some (vR 0 18), some (vI (nI ((c2_ (fun a b => decide (¬ a = b) && wb_ (V2 0 21) (V2 0 22) (V2 0 31) (a * 8 + b)) n i + cnt_ ((fun a b => decide (¬ a = b) && wb_ (V2 0 21) (V2 0 22) (V2 0 31) (a * 8 + b)) i) j)))), some (vI (nI i)), some (vI (nI j))]) 0) (rfl) ⟨rfl, rfl, rfl, rfl, trivial⟩ ?_
    refine Rc_for 0 (n) (fun j : Nat => [some (vR 0 18), some (vI (nI ((c2_ (fun a b => decide (¬ a = b) && wb_ (V2 0 21) (V2 0 22) (V2 0 31) (a * 8 + b)) n i + cnt_ ((fun a b => decide (¬ a = b) && wb_ (V2 0 21) (V2 0 22) (V2 0 31) (a * 8 + b)) i) j)))), some (vI (nI i)), some (vI (nI j))]) (fun _ => V2) (by omega) (fun j hj0 hjN ih53 => ?_)
    refine r_iload_n (pc2 := 54) dX7_wrongPairs_53 rfl rfl ?_
    refine r_aload_n (pc2 := 55) dX7_wrongPairs_54 rfl rfl ?_
    refine r_getR (pc2 := 58) dX7_wrongPairs_55 fl_X7_24 (by decide) rfl rfl rfl ?_
    refine r_getIe (pc2 := 61) (x := (nI n)) (hn2) dX7_wrongPairs_58 fl_X7_60 (by decide) rfl rfl rfl ?_
    refine r_icN_ge (pc2 := 64) (tgt := 90) (by omega) (by omega) dX7_wrongPairs_61 (by decide) rfl (fun c61 => ?_) (fun c61 => ?_)
    · skip
      refine r_iincN (pc2 := 93) dX7_wrongPairs_90 rfl (by decide) rfl rfl ?_
      refine r_goto (pc2 := 40) dX7_wrongPairs_93 (by decide) ?_
      exact Rc_.to (lo' := (fun i : Nat => [some (vR 0 18), some (vI (nI ((c2_ (fun a b => decide (¬ a = b) && wb_ (V2 0 21) (V2 0 22) (V2 0 31) (a * 8 + b)) n i)))), some (vI (nI i)), none]) (i + 1)) (rfl) ⟨rfl, (congrArg (fun z => some (vI (nI z))) (by (have e : j = n := by omega); subst e; rfl)), rfl, trivial⟩ (ih40 (by omega))
    · skip
      refine r_iload_n (pc2 := 65) dX7_wrongPairs_64 rfl rfl ?_
      refine r_iload_n (pc2 := 66) dX7_wrongPairs_65 rfl rfl ?_
      refine r_icN_eq (pc2 := 69) (tgt := 84) (by omega) (by omega) dX7_wrongPairs_66 (by decide) rfl (fun c66 => ?_) (fun c66 => ?_)
      · skip
        refine r_iincN (pc2 := 87) dX7_wrongPairs_84 rfl (by decide) rfl rfl ?_
        refine r_goto (pc2 := 53) dX7_wrongPairs_87 (by decide) ?_
        exact Rc_.to (lo' := (fun j : Nat => [some (vR 0 18), some (vI (nI ((c2_ (fun a b => decide (¬ a = b) && wb_ (V2 0 21) (V2 0 22) (V2 0 31) (a * 8 + b)) n i + cnt_ ((fun a b => decide (¬ a = b) && wb_ (V2 0 21) (V2 0 22) (V2 0 31) (a * 8 + b)) i) j)))), some (vI (nI i)), some (vI (nI j))]) (j + 1)) (rfl) ⟨rfl, (congrArg (fun z => some (vI (nI z))) (by rw [cnt_f (p := (fun a b => decide (¬ a = b) && wb_ (V2 0 21) (V2 0 22) (V2 0 31) (a * 8 + b)) i) (n := j) (by show (decide (¬ i = j) && _) = false; rw [decide_eq_false (fun z => z c66)]; rfl)])), rfl, rfl, trivial⟩ (ih53 (by omega))
      · skip
        refine r_aload_n (pc2 := 70) dX7_wrongPairs_69 rfl rfl ?_
        refine r_iload_n (pc2 := 71) dX7_wrongPairs_70 rfl rfl ?_
        refine r_iload_n (pc2 := 72) dX7_wrongPairs_71 rfl rfl ?_
        refine r_cs2p (pc2 := 75) dX7_wrongPairs_72 st_X7_wrongPairs_88 (Nat.le_of_ble_eq_true rfl) rfl (c_X7_pair) ?_
        refine r_cv1p (pc2 := 78) dX7_wrongPairs_75 st_X7_wrongPairs_220 rl_X7_isWrong (Nat.le_of_ble_eq_true rfl) rfl (c_X7_isWrong (by omega)) ?_
        refine r_ifB_eq (pc2 := 81) (tgt := 84) dX7_wrongPairs_78 (by decide) rfl (fun c78 => ?_) (fun c78 => ?_)
        · skip
          refine r_iincN (pc2 := 87) dX7_wrongPairs_84 rfl (by decide) rfl rfl ?_
          refine r_goto (pc2 := 53) dX7_wrongPairs_87 (by decide) ?_
          exact Rc_.to (lo' := (fun j : Nat => [some (vR 0 18), some (vI (nI ((c2_ (fun a b => decide (¬ a = b) && wb_ (V2 0 21) (V2 0 22) (V2 0 31) (a * 8 + b)) n i + cnt_ ((fun a b => decide (¬ a = b) && wb_ (V2 0 21) (V2 0 22) (V2 0 31) (a * 8 + b)) i) j)))), some (vI (nI i)), some (vI (nI j))]) (j + 1)) (rfl) ⟨rfl, (congrArg (fun z => some (vI (nI z))) (by rw [cnt_f (p := (fun a b => decide (¬ a = b) && wb_ (V2 0 21) (V2 0 22) (V2 0 31) (a * 8 + b)) i) (n := j) (by show (decide (¬ i = j) && _) = false; rw [c78, Bool.and_false])])), rfl, rfl, trivial⟩ (ih53 (by omega))
        · skip
          refine r_iincN (pc2 := 84) dX7_wrongPairs_81 rfl (by decide) rfl rfl ?_
          refine r_iincN (pc2 := 87) dX7_wrongPairs_84 rfl (by decide) rfl rfl ?_
          refine r_goto (pc2 := 53) dX7_wrongPairs_87 (by decide) ?_
          exact Rc_.to (lo' := (fun j : Nat => [some (vR 0 18), some (vI (nI ((c2_ (fun a b => decide (¬ a = b) && wb_ (V2 0 21) (V2 0 22) (V2 0 31) (a * 8 + b)) n i + cnt_ ((fun a b => decide (¬ a = b) && wb_ (V2 0 21) (V2 0 22) (V2 0 31) (a * 8 + b)) i) j)))), some (vI (nI i)), some (vI (nI j))]) (j + 1)) (rfl) ⟨rfl, (congrArg (fun z => some (vI (nI z))) (by rw [cnt_t (p := (fun a b => decide (¬ a = b) && wb_ (V2 0 21) (V2 0 22) (V2 0 31) (a * 8 + b)) i) (n := j) (by show (decide (¬ i = j) && _) = true; rw [decide_eq_true c66, c78]; rfl)]; rfl)), rfl, rfl, trivial⟩ (ih53 (by omega))

set_option maxRecDepth 100000 in
set_option maxHeartbeats 4000000 in
theorem c_X7_follow_bad {PL : List (Nat × Nat)} {V : Mm_} {n : Nat} (hn : V 1 0 0 = nI n) (hn8 : n ≤ 8) {a b : Int32} (hbad : ¬ (pr_ok (nI n) a b)) : Cp_ PL mX7_follow [vR 0 18, vI a, vI b] V ((-1)) := by
  refine Ca_.of mv_X7_follow.2.2.2.2.2.2 0 (lo := [some (vR 0 18), some (vI a), some (vI b)]) rfl (Nat.le_of_ble_eq_true rfl) ?_
  refine r_aload_n (pc2 := 1) dX7_follow_0 rfl rfl ?_
  refine r_iload_n (pc2 := 2) dX7_follow_1 rfl rfl ?_
  refine r_iload_n (pc2 := 3) dX7_follow_2 rfl rfl ?_
  refine r_cv2p (pc2 := 6) dX7_follow_3 st_X7_follow_64 rl_X7_isPair (Nat.le_of_ble_eq_true rfl) rfl (c_X7_isPair) ?_
  refine r_ifB_ne (pc2 := 9) (tgt := 11) dX7_follow_6 (by decide) rfl (fun c6 => ?_) (fun c6 => ?_)
  · skip
    exact absurd (by rw [hn] at c6; exact of_decide_eq_true c6) hbad
  · skip
    refine r_iconst (pc2 := 10) (-1) dX7_follow_9 (by decide) rfl ?_
    exact r_iret dX7_follow_10 rfl (⟨rfl, rfl⟩)

set_option maxRecDepth 100000 in
set_option maxHeartbeats 4000000 in
theorem c_X7_follow_ok {PL : List (Nat × Nat)} {V : Mm_} {n : Nat} (hn : V 1 0 0 = nI n) (hn8 : n ≤ 8) {i j : Nat} (hi : i < n) (hj : j < n) (hij : ¬ i = j) : Ci_ PL mX7_follow [vR 0 18, vI (nI i), vI (nI j)] V (fun x V' => fm_ V V' ∧ x = wv_ (Ch_ (V 0 19 2) (V 1) (V 0 19 6) n) i j) := by
  refine Ca_.of mv_X7_follow.2.2.2.2.2.2 0 (lo := [some (vR 0 18), some (vI (nI i)), some (vI (nI j))]) rfl (Nat.le_of_ble_eq_true rfl) ?_
  refine r_aload_n (pc2 := 1) dX7_follow_0 rfl rfl ?_
  refine r_iload_n (pc2 := 2) dX7_follow_1 rfl rfl ?_
  refine r_iload_n (pc2 := 3) dX7_follow_2 rfl rfl ?_
  refine r_cv2p (pc2 := 6) dX7_follow_3 st_X7_follow_64 rl_X7_isPair (Nat.le_of_ble_eq_true rfl) rfl (c_isPair_ok hn hn8 hi hj hij) ?_
  refine r_if0N_ne (pc2 := 9) (tgt := 11) (by omega) dX7_follow_6 (by decide) rfl (fun c6 => ?_) (fun c6 => ?_)
  · skip
    refine r_aload_n (pc2 := 12) dX7_follow_11 rfl rfl ?_
    refine r_getR (pc2 := 15) dX7_follow_12 fl_X7_37 (by decide) rfl rfl rfl ?_
    refine r_aload_n (pc2 := 16) dX7_follow_15 rfl rfl ?_
    refine r_getR (pc2 := 19) dX7_follow_16 fl_X7_24 (by decide) rfl rfl rfl ?_
    refine r_aload_n (pc2 := 20) dX7_follow_19 rfl rfl ?_
    refine r_getR (pc2 := 23) dX7_follow_20 fl_X7_18 (by decide) rfl rfl rfl ?_
    refine r_cv2v (pc2 := 26) dX7_follow_23 st_X7_follow_189 rl_X3_take (Nat.le_of_ble_eq_true rfl) rfl (c_X3_take (by decide) hn hn8) (fun V23 h23 => ?_)
    obtain ⟨a1, a2, a3⟩ := tk_ag hn8 h23
    refine r_aload_n (pc2 := 27) dX7_follow_26 rfl rfl ?_
    refine r_getR (pc2 := 30) dX7_follow_27 fl_X7_37 (by decide) rfl rfl rfl ?_
    refine r_iload_n (pc2 := 31) dX7_follow_30 rfl rfl ?_
    refine r_iload_n (pc2 := 32) dX7_follow_31 rfl rfl ?_
    refine r_cv2p (pc2 := 35) dX7_follow_32 st_X7_follow_223 rl_X3_walk (Nat.le_of_ble_eq_true rfl) rfl (c_X3_walk hn8 hi hj (ok_ag a3 Ch_ok)) ?_
    exact r_iret dX7_follow_35 rfl (⟨fm_sf h23.1, wv_cong hn8 a3 Ch_ok hi hj⟩)
  · skip
    exact absurd c6 (by decide)

set_option maxRecDepth 100000 in
set_option maxHeartbeats 4000000 in
theorem c_X7_loops {PL : List (Nat × Nat)} {V : Mm_} {n : Nat} (hn : V 1 0 0 = nI n) (hn8 : n ≤ 8) : Ci_ PL mX7_loops [vR 0 18] V (fun x V' => fm_ V V' ∧ x = nI (c2_ (lp_ (Ch_ (V 0 19 2) (V 1) (V 0 19 6) n)) n n)) := by
  refine Ca_.of mv_X7_loops.2.2.2.2.2.2 0 (lo := [some (vR 0 18)]) rfl (Nat.le_of_ble_eq_true rfl) ?_
  refine r_aload_n (pc2 := 1) dX7_loops_0 rfl rfl ?_
  refine r_getR (pc2 := 4) dX7_loops_1 fl_X7_37 (by decide) rfl rfl rfl ?_
  refine r_aload_n (pc2 := 5) dX7_loops_4 rfl rfl ?_
  refine r_getR (pc2 := 8) dX7_loops_5 fl_X7_24 (by decide) rfl rfl rfl ?_
  refine r_aload_n (pc2 := 9) dX7_loops_8 rfl rfl ?_
  refine r_getR (pc2 := 12) dX7_loops_9 fl_X7_18 (by decide) rfl rfl rfl ?_
  refine r_cv2v (pc2 := 15) dX7_loops_12 st_X7_loops_189 rl_X3_take (Nat.le_of_ble_eq_true rfl) rfl (c_X3_take (by decide) hn hn8) (fun V12 h12 => ?_)
  obtain ⟨a1, a2, a3⟩ := tk_ag hn8 h12
  refine r_aload_n (pc2 := 16) dX7_loops_15 rfl rfl ?_
  refine r_getR (pc2 := 19) dX7_loops_16 fl_X7_37 (by decide) rfl rfl rfl ?_
  refine r_aload_n (pc2 := 20) dX7_loops_19 rfl rfl ?_
  refine r_getR (pc2 := 23) dX7_loops_20 fl_X7_24 (by decide) rfl rfl rfl ?_
  refine r_getIe (pc2 := 26) (x := (nI n)) (by rw [(fm_sf h12.1).1]; exact hn) dX7_loops_23 fl_X7_60 (by decide) rfl rfl rfl ?_
  refine r_cv1p (pc2 := 29) dX7_loops_26 st_X7_loops_226 rl_X3_countLoops (Nat.le_of_ble_eq_true rfl) rfl (c_X3_countLoops hn8 (ok_ag a3 Ch_ok)) ?_
  exact r_iret dX7_loops_29 rfl (⟨fm_sf h12.1, by rw [lp_cong hn8 a3 Ch_ok]⟩)

/-- how many choices change in tick i + 1 from a state on -/
def cg_ (f : Nat → Int32) (n : Nat) (p : Sg_ × Nat) (i : Nat) : Nat := (tq_ f n (tn_ f n i p).2 (tn_ f n i p).1).2
def qt_ (c : Nat → Nat) : Nat → Nat
  | 0 => 0
  | i + 1 => if c i = 0 then qt_ c i + 1 else 0
theorem qt_le (c : Nat → Nat) : ∀ i, qt_ c i ≤ i
  | 0 => Nat.le_refl _
  | i + 1 => by
    have := qt_le c i
    rw [qt_]
    split <;> omega
def se_ (c : Nat → Nat) (x : Int32) : Prop := (∃ i, i < 240 ∧ qt_ c (i + 1) = 40 ∧ (∀ j, j ≤ i → ¬ qt_ c j = 40) ∧ x = nI (i + 1 - 40)) ∨ ((∀ j, j ≤ 240 → ¬ qt_ c j = 40) ∧ x = -4)
set_option maxRecDepth 100000 in
set_option maxHeartbeats 4000000 in
theorem c_X7_settling {PL : List (Nat × Nat)} {V : Mm_} {n : Nat} (hn : V 1 0 0 = nI n) (hn8 : n ≤ 8) {m : Nat} (hm : V 1 15 1 = nI m) (hm9 : m ≤ 2 ^ 28) : Ci_ PL mX7_settling [vR 0 18] V (fun x V' => fm_ V V' ∧ se_ (cg_ (V 0 19) n (cf_ V 3 1 3, m)) x) := by
  refine Ca_.of mv_X7_settling.2.2.2.2.2.2 3 (lo := [some (vR 0 18), none, none, none]) rfl (Nat.le_of_ble_eq_true rfl) ?_
  refine r_aload_n (pc2 := 1) dX7_settling_0 rfl rfl ?_
  refine r_getR (pc2 := 4) dX7_settling_1 fl_X7_31 (by decide) rfl rfl rfl ?_
  refine r_aload_n (pc2 := 5) dX7_settling_4 rfl rfl ?_
  refine r_getR (pc2 := 8) dX7_settling_5 fl_X7_24 (by decide) rfl rfl rfl ?_
  refine r_cv1m (pc2 := 11) dX7_settling_8 st_X7_settling_230 rl_X2_copyFrom (Nat.le_of_ble_eq_true rfl) rfl (c_X2_copyFrom (by decide)) ?_
  refine r_iconst (pc2 := 12) (nI 0) dX7_settling_11 (by decide) rfl ?_
  refine r_istore_n (pc2 := 13) dX7_settling_12 (by decide) rfl rfl ?_
  refine r_iconst (pc2 := 14) (nI 1) dX7_settling_13 (by decide) rfl ?_
  refine r_istore_n (pc2 := 15) dX7_settling_14 (by decide) rfl rfl ?_
  refine Rc_.to (V' := (fun V1 => V1) (cf_ V 3 1)) (lo' := (fun (i : Nat) (V1 : Mm_) => [some (vR 0 18), some (vI (nI ((qt_ (cg_ (V 0 19) n (cf_ V 3 1 3, m)) i)))), some (vI (nI ((i + 1)))), none]) 0 (cf_ V 3 1)) (rfl) ⟨rfl, rfl, rfl, trivial⟩ ?_
  refine Rc_forI 0 (240) (fun (i : Nat) (V1 : Mm_) => [some (vR 0 18), some (vI (nI ((qt_ (cg_ (V 0 19) n (cf_ V 3 1 3, m)) i)))), some (vI (nI ((i + 1)))), none]) (fun V1 => V1) (fun i V1 => fm_ V V1 ∧ V1 3 = (tn_ (V 0 19) n i (cf_ V 3 1 3, m)).1 ∧ ∀ j, j ≤ i → ¬ qt_ (cg_ (V 0 19) n (cf_ V 3 1 3, m)) j = 40) (by omega) (fun i V1 hi0 hiN hI ih15 => ?_) (cf_ V 3 1) (⟨fm_cf, rfl, fun j hj => by (have e : j = 0 := by omega); subst e; show ¬ (0 : Nat) = 40; decide⟩)
  have hok := tn_ok (f := V 0 19) (n := n) (p := (cf_ V 3 1 3, m)) hn8 (show cf_ V 3 1 3 15 1 = nI m from cf_15.trans hm) i
  simp only at hok
  have hql := qt_le (cg_ (V 0 19) n (cf_ V 3 1 3, m)) i
  refine r_iload_n (pc2 := 16) dX7_settling_15 rfl rfl ?_
  refine r_sipush (pc2 := 19) (nI 240) dX7_settling_16 (by decide) rfl ?_
  refine r_icN_gt (pc2 := 22) (tgt := 60) (by omega) (by omega) dX7_settling_19 (by decide) rfl (fun c19 => ?_) (fun c19 => ?_)
  · skip
    refine r_bipush (pc2 := 62) (-4) dX7_settling_60 (by decide) rfl ?_
    exact r_iret dX7_settling_62 rfl (⟨hI.1, Or.inr ⟨fun j hj => hI.2.2 j (by omega), rfl⟩⟩)
  · skip
    refine r_aload_n (pc2 := 23) dX7_settling_22 rfl rfl ?_
    refine r_aload_n (pc2 := 24) dX7_settling_23 rfl rfl ?_
    refine r_getR (pc2 := 27) dX7_settling_24 fl_X7_31 (by decide) rfl rfl rfl ?_
    refine r_cv1i (pc2 := 30) dX7_settling_27 st_X7_settling_129 rl_X7_makeTick (Nat.le_of_ble_eq_true rfl) rfl (c_X7_makeTick (n := n) (m := (tn_ (V 0 19) n i (cf_ V 3 1 3, m)).2) (by decide) (by rw [hI.2.1, hok.2.2.1]; exact (cf_0 0 (by decide)).trans hn) hn8 (by rw [hI.2.1]; exact hok.1) (by have := hok.2.1; omega)) (fun x27 V27 h27 => ?_)
    have e27 : x27 = nI (cg_ (V 0 19) n (cf_ V 3 1 3, m) i) := by rw [h27.1, hI.2.1, hI.1.2.2 19 (by omega)]; rfl
    rw [e27]
    have hcl : cg_ (V 0 19) n (cf_ V 3 1 3, m) i ≤ 64 := (tq_ok hn8 hok.1).2.1
    have hnx : fm_ V V27 ∧ V27 3 = (tn_ (V 0 19) n (i + 1) (cf_ V 3 1 3, m)).1 := ⟨fm_tr hI.1 (fm_tk h27.2.2.1), by rw [h27.2.1, hI.2.1, hI.1.2.2 19 (by omega)]; rfl⟩
    refine r_istore_n (pc2 := 31) dX7_settling_30 (by decide) rfl rfl ?_
    refine r_iload_n (pc2 := 32) dX7_settling_31 rfl rfl ?_
    refine r_if0N_ne (pc2 := 35) (tgt := 41) (by omega) dX7_settling_32 (by decide) rfl (fun c32 => ?_) (fun c32 => ?_)
    · skip
      refine r_iconst (pc2 := 42) (nI 0) dX7_settling_41 (by decide) rfl ?_
      refine r_istore_n (pc2 := 43) dX7_settling_42 (by decide) rfl rfl ?_
      refine r_iload_n (pc2 := 44) dX7_settling_43 rfl rfl ?_
      refine r_bipush (pc2 := 46) (nI 40) dX7_settling_44 (by decide) rfl ?_
      refine r_icN_ne (pc2 := 49) (tgt := 54) (by omega) (by omega) dX7_settling_46 (by decide) rfl (fun c46 => ?_) (fun c46 => ?_)
      · skip
        refine r_iincN (pc2 := 57) dX7_settling_54 rfl (by decide) rfl rfl ?_
        refine r_goto (pc2 := 15) dX7_settling_57 (by decide) ?_
        exact Rc_.to (lo' := [some (vR 0 18), some (vI (nI ((qt_ (cg_ (V 0 19) n (cf_ V 3 1 3, m)) (i + 1))))), some (vI (nI (((i + 1) + 1)))), none]) (rfl) ⟨rfl, (congrArg (fun z => some (vI (nI z))) (by show (if cg_ (V 0 19) n (cf_ V 3 1 3, m) i = 0 then qt_ (cg_ (V 0 19) n (cf_ V 3 1 3, m)) i + 1 else 0) = _; first | rw [if_pos c32] | rw [if_neg c32])), rfl, trivial⟩ (ih15 _ (by omega) (⟨hnx.1, hnx.2, fun j hj => by
              by_cases e : j = i + 1
              · rw [e]; show ¬ (if cg_ (V 0 19) n (cf_ V 3 1 3, m) i = 0 then qt_ (cg_ (V 0 19) n (cf_ V 3 1 3, m)) i + 1 else 0) = 40; first | exact (by rw [if_pos c32]; exact c46) | exact (by rw [if_neg c32]; decide)
              · exact hI.2.2 j (by omega)⟩))
      · skip
        refine r_iload_n (pc2 := 50) dX7_settling_49 rfl rfl ?_
        refine r_bipush (pc2 := 52) (nI 40) dX7_settling_50 (by decide) rfl ?_
        refine r_isubN (pc2 := 53) (by omega) dX7_settling_52 rfl ?_
        exact r_iret dX7_settling_53 rfl (⟨hnx.1, Or.inl ⟨i, by omega, by show (if cg_ (V 0 19) n (cf_ V 3 1 3, m) i = 0 then qt_ (cg_ (V 0 19) n (cf_ V 3 1 3, m)) i + 1 else 0) = 40; first | exact (by rw [if_pos c32]; exact c46) | exact absurd c46 (by decide), hI.2.2, rfl⟩⟩)
    · skip
      refine r_iload_n (pc2 := 36) dX7_settling_35 rfl rfl ?_
      refine r_iconst (pc2 := 37) (nI 1) dX7_settling_36 (by decide) rfl ?_
      refine r_iaddN (pc2 := 38) dX7_settling_37 rfl ?_
      refine r_goto (pc2 := 42) dX7_settling_38 (by decide) ?_
      refine r_istore_n (pc2 := 43) dX7_settling_42 (by decide) rfl rfl ?_
      refine r_iload_n (pc2 := 44) dX7_settling_43 rfl rfl ?_
      refine r_bipush (pc2 := 46) (nI 40) dX7_settling_44 (by decide) rfl ?_
      refine r_icN_ne (pc2 := 49) (tgt := 54) (by omega) (by omega) dX7_settling_46 (by decide) rfl (fun c46 => ?_) (fun c46 => ?_)
      · skip
        refine r_iincN (pc2 := 57) dX7_settling_54 rfl (by decide) rfl rfl ?_
        refine r_goto (pc2 := 15) dX7_settling_57 (by decide) ?_
        exact Rc_.to (lo' := [some (vR 0 18), some (vI (nI ((qt_ (cg_ (V 0 19) n (cf_ V 3 1 3, m)) (i + 1))))), some (vI (nI (((i + 1) + 1)))), none]) (rfl) ⟨rfl, (congrArg (fun z => some (vI (nI z))) (by show (if cg_ (V 0 19) n (cf_ V 3 1 3, m) i = 0 then qt_ (cg_ (V 0 19) n (cf_ V 3 1 3, m)) i + 1 else 0) = _; first | rw [if_pos c32] | rw [if_neg c32])), rfl, trivial⟩ (ih15 _ (by omega) (⟨hnx.1, hnx.2, fun j hj => by
              by_cases e : j = i + 1
              · rw [e]; show ¬ (if cg_ (V 0 19) n (cf_ V 3 1 3, m) i = 0 then qt_ (cg_ (V 0 19) n (cf_ V 3 1 3, m)) i + 1 else 0) = 40; first | exact (by rw [if_pos c32]; exact c46) | exact (by rw [if_neg c32]; decide)
              · exact hI.2.2 j (by omega)⟩))
      · skip
        refine r_iload_n (pc2 := 50) dX7_settling_49 rfl rfl ?_
        refine r_bipush (pc2 := 52) (nI 40) dX7_settling_50 (by decide) rfl ?_
        refine r_isubN (pc2 := 53) (by omega) dX7_settling_52 rfl ?_
        exact r_iret dX7_settling_53 rfl (⟨hnx.1, Or.inl ⟨i, by omega, by show (if cg_ (V 0 19) n (cf_ V 3 1 3, m) i = 0 then qt_ (cg_ (V 0 19) n (cf_ V 3 1 3, m)) i + 1 else 0) = 40; first | exact (by rw [if_pos c32]; exact c46) | exact absurd c46 (by decide), hI.2.2, rfl⟩⟩)

def ce_ (n : Nat) (D : Nat → Int32) : Nat := c2_ (fun a b => decide (¬ a = b ∧ D (a * 8 + b) < nI 1000000)) n n
/-- the trial state with a link down -/
def dn_ (V : Mm_) (i j : Nat) : Mm_ := b_set (cf_ V 3 1) 3 5 i j (nI 0)
theorem fm_dn {V : Mm_} {i j : Nat} : fm_ V (dn_ V i j) := fm_tr fm_cf bs_3
theorem dn_0 {V : Mm_} {i j : Nat} (k : Nat) (hk : k < 3) : dn_ V i j 3 0 k = V 1 0 k := by
  unfold dn_ b_set
  rw [m_ne (by omega), m_ne (by omega)]
  exact cf_0 k hk
theorem dn_15 {V : Mm_} {i j : Nat} : dn_ V i j 3 15 1 = V 1 15 1 := by
  unfold dn_ b_set
  rw [m_ne (by omega), m_ne (by omega)]
  exact cf_15
theorem b_cong {W W' : Mm_} {g r a b : Nat} {x : Int32} (h : W g = W' g) : b_set W g r a b x g = b_set W' g r a b x g := by
  funext q
  unfold b_set
  simp only [m_set, a_set, h]
theorem dn_31g {V : Mm_} {i j : Nat} {f : Nat → Int32} : dn_ (a_set V 0 31 f) i j 3 = dn_ V i j 3 := b_cong (by funext r; unfold cf_; simp [a_set])
theorem dn_31v {V : Mm_} {i j : Nat} {f : Nat → Int32} : dn_ (a_set V 0 31 f) i j 0 31 = f := by
  unfold dn_ b_set
  rw [m_ne (by omega), m_ne (by omega)]
  unfold cf_
  simp [a_set]
set_option maxRecDepth 100000 in
set_option maxHeartbeats 4000000 in
theorem c_X7_loss_bad {PL : List (Nat × Nat)} {V : Mm_} {n : Nat} (hn : V 1 0 0 = nI n) (hn8 : n ≤ 8) {a b : Int32} (hbad : ¬ (pr_ok (nI n) a b)) : Cp_ PL mX7_loss [vR 0 18, vI a, vI b] V ((-1)) := by
  refine Ca_.of mv_X7_loss.2.2.2.2.2.2 1 (lo := [some (vR 0 18), some (vI a), some (vI b), none]) rfl (Nat.le_of_ble_eq_true rfl) ?_
  refine r_aload_n (pc2 := 1) dX7_loss_0 rfl rfl ?_
  refine r_iload_n (pc2 := 2) dX7_loss_1 rfl rfl ?_
  refine r_iload_n (pc2 := 3) dX7_loss_2 rfl rfl ?_
  refine r_cv2p (pc2 := 6) dX7_loss_3 st_X7_loss_64 rl_X7_isPair (Nat.le_of_ble_eq_true rfl) rfl (c_X7_isPair) ?_
  refine r_ifB_ne (pc2 := 9) (tgt := 11) dX7_loss_6 (by decide) rfl (fun c6 => ?_) (fun c6 => ?_)
  · skip
    exact absurd (by rw [hn] at c6; exact of_decide_eq_true c6) hbad
  · skip
    refine r_iconst (pc2 := 10) (-1) dX7_loss_9 (by decide) rfl ?_
    exact r_iret dX7_loss_10 rfl (⟨rfl, rfl⟩)

set_option maxRecDepth 100000 in
set_option maxHeartbeats 4000000 in
theorem c_X7_loss_ok {PL : List (Nat × Nat)} {V : Mm_} {n : Nat} (hn : V 1 0 0 = nI n) (hn8 : n ≤ 8) {i j : Nat} (hi : i < n) (hj : j < n) (hij : ¬ i = j) : Ci_ PL mX7_loss [vR 0 18, vI (nI i), vI (nI j)] V (fun x V' => fm_ V V' ∧ x = if 0 < V 1 2 (i * 8 + j) then nI (ce_ n (ms_ (V 1) n (V 0 31))) - nI (ce_ n (ms_ (dn_ V i j 3) n (ms_ (V 1) n (V 0 31)))) else -4) := by
  refine Ca_.of mv_X7_loss.2.2.2.2.2.2 1 (lo := [some (vR 0 18), some (vI (nI i)), some (vI (nI j)), none]) rfl (Nat.le_of_ble_eq_true rfl) ?_
  refine r_aload_n (pc2 := 1) dX7_loss_0 rfl rfl ?_
  refine r_iload_n (pc2 := 2) dX7_loss_1 rfl rfl ?_
  refine r_iload_n (pc2 := 3) dX7_loss_2 rfl rfl ?_
  refine r_cv2p (pc2 := 6) dX7_loss_3 st_X7_loss_64 rl_X7_isPair (Nat.le_of_ble_eq_true rfl) rfl (c_isPair_ok hn hn8 hi hj hij) ?_
  refine r_if0N_ne (pc2 := 9) (tgt := 11) (by omega) dX7_loss_6 (by decide) rfl (fun c6 => ?_) (fun c6 => ?_)
  · skip
    refine r_aload_n (pc2 := 12) dX7_loss_11 rfl rfl ?_
    refine r_getR (pc2 := 15) dX7_loss_12 fl_X7_24 (by decide) rfl rfl rfl ?_
    refine r_getR (pc2 := 18) dX7_loss_15 fl_X7_68 (by decide) rfl rfl rfl ?_
    refine r_iload_n (pc2 := 19) dX7_loss_18 rfl rfl ?_
    refine r_iload_n (pc2 := 20) dX7_loss_19 rfl rfl ?_
    refine r_cv2p (pc2 := 23) dX7_loss_20 st_X7_loss_72 rl_X1_joins (Nat.le_of_ble_eq_true rfl) rfl (c_X1_joins (by omega) (by omega)) ?_
    refine r_ifB_ne (pc2 := 26) (tgt := 29) dX7_loss_23 (by decide) rfl (fun c23 => ?_) (fun c23 => ?_)
    · skip
      refine r_aload_n (pc2 := 30) dX7_loss_29 rfl rfl ?_
      refine r_getR (pc2 := 33) dX7_loss_30 fl_X7_44 (by decide) rfl rfl rfl ?_
      refine r_aload_n (pc2 := 34) dX7_loss_33 rfl rfl ?_
      refine r_getR (pc2 := 37) dX7_loss_34 fl_X7_24 (by decide) rfl rfl rfl ?_
      refine r_getR (pc2 := 40) dX7_loss_37 fl_X7_68 (by decide) rfl rfl rfl ?_
      refine r_aload_n (pc2 := 41) dX7_loss_40 rfl rfl ?_
      refine r_getR (pc2 := 44) dX7_loss_41 fl_X7_24 (by decide) rfl rfl rfl ?_
      refine r_getIe (pc2 := 47) (x := (nI n)) (hn) dX7_loss_44 fl_X7_60 (by decide) rfl rfl rfl ?_
      refine r_cv2m (pc2 := 50) dX7_loss_47 st_X7_loss_210 rl_X6_measure (Nat.le_of_ble_eq_true rfl) rfl (c_X6_measure (by decide) hn8) ?_
      refine r_aload_n (pc2 := 51) dX7_loss_50 rfl rfl ?_
      refine r_getR (pc2 := 54) dX7_loss_51 fl_X7_44 (by decide) rfl rfl rfl ?_
      refine r_aload_n (pc2 := 55) dX7_loss_54 rfl rfl ?_
      refine r_getR (pc2 := 58) dX7_loss_55 fl_X7_24 (by decide) rfl rfl rfl ?_
      refine r_getIe (pc2 := 61) (x := (nI n)) (by rw [ag_ne (by decide)]; exact hn) dX7_loss_58 fl_X7_60 (by decide) rfl rfl rfl ?_
      refine r_cv1p (pc2 := 64) dX7_loss_61 st_X7_loss_234 rl_X6_countPairs (Nat.le_of_ble_eq_true rfl) rfl (c_X6_countPairs hn8) ?_
      refine r_istore_n (pc2 := 65) dX7_loss_64 (by decide) rfl rfl ?_
      refine r_aload_n (pc2 := 66) dX7_loss_65 rfl rfl ?_
      refine r_getR (pc2 := 69) dX7_loss_66 fl_X7_31 (by decide) rfl rfl rfl ?_
      refine r_aload_n (pc2 := 70) dX7_loss_69 rfl rfl ?_
      refine r_getR (pc2 := 73) dX7_loss_70 fl_X7_24 (by decide) rfl rfl rfl ?_
      refine r_cv1m (pc2 := 76) dX7_loss_73 st_X7_loss_230 rl_X2_copyFrom (Nat.le_of_ble_eq_true rfl) rfl (c_X2_copyFrom (by decide)) ?_
      refine r_aload_n (pc2 := 77) dX7_loss_76 rfl rfl ?_
      refine r_getR (pc2 := 80) dX7_loss_77 fl_X7_31 (by decide) rfl rfl rfl ?_
      refine r_getR (pc2 := 83) dX7_loss_80 fl_X7_68 (by decide) rfl rfl rfl ?_
      refine r_iload_n (pc2 := 84) dX7_loss_83 rfl rfl ?_
      refine r_iload_n (pc2 := 85) dX7_loss_84 rfl rfl ?_
      refine r_iconst (pc2 := 86) (nI 0) dX7_loss_85 (by decide) rfl ?_
      refine r_cv3m (pc2 := 89) dX7_loss_86 st_X7_loss_112 rl_X1_putUp (Nat.le_of_ble_eq_true rfl) rfl (c_X1_putUp (by omega) (by omega)) ?_
      refine r_aload_n (pc2 := 90) dX7_loss_89 rfl rfl ?_
      refine r_getR (pc2 := 93) dX7_loss_90 fl_X7_44 (by decide) rfl rfl rfl ?_
      refine r_aload_n (pc2 := 94) dX7_loss_93 rfl rfl ?_
      refine r_getR (pc2 := 97) dX7_loss_94 fl_X7_31 (by decide) rfl rfl rfl ?_
      refine r_getR (pc2 := 100) dX7_loss_97 fl_X7_68 (by decide) rfl rfl rfl ?_
      refine r_aload_n (pc2 := 101) dX7_loss_100 rfl rfl ?_
      refine r_getR (pc2 := 104) dX7_loss_101 fl_X7_31 (by decide) rfl rfl rfl ?_
      refine r_getIe (pc2 := 107) (x := (nI n)) (by show m_set (m_set (cf_ _ 3 1) 3 5 _ _) 3 5 _ _ 3 0 0 = _; rw [m_ne (by omega), m_ne (by omega), cf_0 0 (by decide), ag_ne (by decide)]; exact hn) dX7_loss_104 fl_X7_60 (by decide) rfl rfl rfl ?_
      refine r_cv2m (pc2 := 110) dX7_loss_107 st_X7_loss_210 rl_X6_measure (Nat.le_of_ble_eq_true rfl) rfl (c_X6_measure (by decide) hn8) ?_
      refine r_iload_n (pc2 := 111) dX7_loss_110 rfl rfl ?_
      refine r_aload_n (pc2 := 112) dX7_loss_111 rfl rfl ?_
      refine r_getR (pc2 := 115) dX7_loss_112 fl_X7_44 (by decide) rfl rfl rfl ?_
      refine r_aload_n (pc2 := 116) dX7_loss_115 rfl rfl ?_
      refine r_getR (pc2 := 119) dX7_loss_116 fl_X7_31 (by decide) rfl rfl rfl ?_
      refine r_getIe (pc2 := 122) (x := (nI n)) (by rw [ag_ne (by decide)]; exact (by show m_set (m_set (cf_ _ 3 1) 3 5 _ _) 3 5 _ _ 3 0 0 = _; rw [m_ne (by omega), m_ne (by omega), cf_0 0 (by decide), ag_ne (by decide)]; exact hn)) dX7_loss_119 fl_X7_60 (by decide) rfl rfl rfl ?_
      refine r_cv1p (pc2 := 125) dX7_loss_122 st_X7_loss_234 rl_X6_countPairs (Nat.le_of_ble_eq_true rfl) rfl (c_X6_countPairs hn8) ?_
      refine r_isub (pc2 := 126) dX7_loss_125 rfl ?_
      exact r_iret dX7_loss_126 rfl (⟨fm_tr (fm_tr fm_31 fm_dn) fm_31, by rw [if_pos (of_decide_eq_true c23)]; show nI (ce_ n (a_set V 0 31 (ms_ (V 1) n (V 0 31)) 0 31)) - nI (ce_ n (a_set (dn_ (a_set V 0 31 (ms_ (V 1) n (V 0 31))) i j) 0 31 (ms_ ((dn_ (a_set V 0 31 (ms_ (V 1) n (V 0 31))) i j) 3) n ((dn_ (a_set V 0 31 (ms_ (V 1) n (V 0 31))) i j) 0 31)) 0 31)) = _; rw [a_same, a_same, dn_31g, dn_31v]⟩)
    · skip
      refine r_bipush (pc2 := 28) (-4) dX7_loss_26 (by decide) rfl ?_
      exact r_iret dX7_loss_28 rfl (⟨fm_rf, by rw [if_neg (of_decide_eq_false c23)]⟩)
  · skip
    exact absurd c6 (by decide)

/-- the tick behind the last one with a loop -/
def fst_ (c : Nat → Nat) : Nat → Nat
  | 0 => 1
  | k + 1 => if 0 < c k then k + 2 else fst_ c k
theorem fst_le (c : Nat → Nat) : ∀ k, fst_ c k ≤ k + 1
  | 0 => Nat.le_refl _
  | k + 1 => by
    have := fst_le c k
    rw [fst_]
    split <;> omega
/-- loops in tick k + 1 from a state on -/
def lc_ (f : Nat → Int32) (n : Nat) (p : Sg_ × Nat) (k : Nat) : Nat := c2_ (lp_ (Ch_ (f 2) (t3_ f n (tn_ f n k p).1) (f 6) n)) n n
theorem lc_le {f : Nat → Int32} {n : Nat} {p : Sg_ × Nat} {k : Nat} (hn8 : n ≤ 8) : lc_ f n p k ≤ 64 := by
  have h1 := c2_le (lp_ (Ch_ (f 2) (t3_ f n (tn_ f n k p).1) (f 6) n)) n n
  have h2 := Nat.mul_le_mul hn8 hn8
  unfold lc_
  omega
set_option maxRecDepth 100000 in
set_option maxHeartbeats 4000000 in
theorem c_X7_recovery_bad {PL : List (Nat × Nat)} {V : Mm_} {n : Nat} (hn : V 1 0 0 = nI n) (hn8 : n ≤ 8) {a b : Int32} (hbad : ¬ (pr_ok (nI n) a b)) : Cp_ PL mX7_recovery [vR 0 18, vI a, vI b] V ((-1)) := by
  refine Ca_.of mv_X7_recovery.2.2.2.2.2.2 2 (lo := [some (vR 0 18), some (vI a), some (vI b), none, none]) rfl (Nat.le_of_ble_eq_true rfl) ?_
  refine r_aload_n (pc2 := 1) dX7_recovery_0 rfl rfl ?_
  refine r_iload_n (pc2 := 2) dX7_recovery_1 rfl rfl ?_
  refine r_iload_n (pc2 := 3) dX7_recovery_2 rfl rfl ?_
  refine r_cv2p (pc2 := 6) dX7_recovery_3 st_X7_recovery_64 rl_X7_isPair (Nat.le_of_ble_eq_true rfl) rfl (c_X7_isPair) ?_
  refine r_ifB_ne (pc2 := 9) (tgt := 11) dX7_recovery_6 (by decide) rfl (fun c6 => ?_) (fun c6 => ?_)
  · skip
    exact absurd (by rw [hn] at c6; exact of_decide_eq_true c6) hbad
  · skip
    refine r_iconst (pc2 := 10) (-1) dX7_recovery_9 (by decide) rfl ?_
    exact r_iret dX7_recovery_10 rfl (⟨rfl, rfl⟩)

set_option maxRecDepth 100000 in
set_option maxHeartbeats 4000000 in
theorem c_X7_recovery_ok {PL : List (Nat × Nat)} {V : Mm_} {n : Nat} (hn : V 1 0 0 = nI n) (hn8 : n ≤ 8) {i j : Nat} (hi : i < n) (hj : j < n) (hij : ¬ i = j) {m : Nat} (hm : V 1 15 1 = nI m) (hm9 : m ≤ 2 ^ 28) : Ci_ PL mX7_recovery [vR 0 18, vI (nI i), vI (nI j)] V (fun x V' => fm_ V V' ∧ x = if 0 < V 1 2 (i * 8 + j) then (if V 1 5 (i * 8 + j) = nI 1 then (if 60 < fst_ (lc_ (V 0 19) n (dn_ V i j 3, m)) 60 then -4 else nI (fst_ (lc_ (V 0 19) n (dn_ V i j 3, m)) 60)) else -2) else -4) := by
  refine Ca_.of mv_X7_recovery.2.2.2.2.2.2 2 (lo := [some (vR 0 18), some (vI (nI i)), some (vI (nI j)), none, none]) rfl (Nat.le_of_ble_eq_true rfl) ?_
  refine r_aload_n (pc2 := 1) dX7_recovery_0 rfl rfl ?_
  refine r_iload_n (pc2 := 2) dX7_recovery_1 rfl rfl ?_
  refine r_iload_n (pc2 := 3) dX7_recovery_2 rfl rfl ?_
  refine r_cv2p (pc2 := 6) dX7_recovery_3 st_X7_recovery_64 rl_X7_isPair (Nat.le_of_ble_eq_true rfl) rfl (c_isPair_ok hn hn8 hi hj hij) ?_
  refine r_if0N_ne (pc2 := 9) (tgt := 11) (by omega) dX7_recovery_6 (by decide) rfl (fun c6 => ?_) (fun c6 => ?_)
  · skip
    refine r_aload_n (pc2 := 12) dX7_recovery_11 rfl rfl ?_
    refine r_getR (pc2 := 15) dX7_recovery_12 fl_X7_24 (by decide) rfl rfl rfl ?_
    refine r_getR (pc2 := 18) dX7_recovery_15 fl_X7_68 (by decide) rfl rfl rfl ?_
    refine r_iload_n (pc2 := 19) dX7_recovery_18 rfl rfl ?_
    refine r_iload_n (pc2 := 20) dX7_recovery_19 rfl rfl ?_
    refine r_cv2p (pc2 := 23) dX7_recovery_20 st_X7_recovery_72 rl_X1_joins (Nat.le_of_ble_eq_true rfl) rfl (c_X1_joins (by omega) (by omega)) ?_
    refine r_ifB_ne (pc2 := 26) (tgt := 29) dX7_recovery_23 (by decide) rfl (fun c23 => ?_) (fun c23 => ?_)
    · skip
      refine r_aload_n (pc2 := 30) dX7_recovery_29 rfl rfl ?_
      refine r_getR (pc2 := 33) dX7_recovery_30 fl_X7_24 (by decide) rfl rfl rfl ?_
      refine r_getR (pc2 := 36) dX7_recovery_33 fl_X7_68 (by decide) rfl rfl rfl ?_
      refine r_iload_n (pc2 := 37) dX7_recovery_36 rfl rfl ?_
      refine r_iload_n (pc2 := 38) dX7_recovery_37 rfl rfl ?_
      refine r_cv2p (pc2 := 41) dX7_recovery_38 st_X7_recovery_237 rl_X1_isUp (Nat.le_of_ble_eq_true rfl) rfl (c_X1_isUp (by omega) (by omega)) ?_
      refine r_ifB_ne (pc2 := 44) (tgt := 47) dX7_recovery_41 (by decide) rfl (fun c41 => ?_) (fun c41 => ?_)
      · skip
        refine r_aload_n (pc2 := 48) dX7_recovery_47 rfl rfl ?_
        refine r_getR (pc2 := 51) dX7_recovery_48 fl_X7_31 (by decide) rfl rfl rfl ?_
        refine r_aload_n (pc2 := 52) dX7_recovery_51 rfl rfl ?_
        refine r_getR (pc2 := 55) dX7_recovery_52 fl_X7_24 (by decide) rfl rfl rfl ?_
        refine r_cv1m (pc2 := 58) dX7_recovery_55 st_X7_recovery_230 rl_X2_copyFrom (Nat.le_of_ble_eq_true rfl) rfl (c_X2_copyFrom (by decide)) ?_
        refine r_aload_n (pc2 := 59) dX7_recovery_58 rfl rfl ?_
        refine r_getR (pc2 := 62) dX7_recovery_59 fl_X7_31 (by decide) rfl rfl rfl ?_
        refine r_getR (pc2 := 65) dX7_recovery_62 fl_X7_68 (by decide) rfl rfl rfl ?_
        refine r_iload_n (pc2 := 66) dX7_recovery_65 rfl rfl ?_
        refine r_iload_n (pc2 := 67) dX7_recovery_66 rfl rfl ?_
        refine r_iconst (pc2 := 68) (nI 0) dX7_recovery_67 (by decide) rfl ?_
        refine r_cv3m (pc2 := 71) dX7_recovery_68 st_X7_recovery_112 rl_X1_putUp (Nat.le_of_ble_eq_true rfl) rfl (c_X1_putUp (by omega) (by omega)) ?_
        refine r_iconst (pc2 := 72) (nI 1) dX7_recovery_71 (by decide) rfl ?_
        refine r_istore_n (pc2 := 73) dX7_recovery_72 (by decide) rfl rfl ?_
        refine r_iconst (pc2 := 74) (nI 1) dX7_recovery_73 (by decide) rfl ?_
        refine r_istore (pc2 := 76) dX7_recovery_74 (by decide) rfl rfl ?_
        refine Rc_.to (V' := (fun V1 => V1) (dn_ V i j)) (lo' := (fun (k : Nat) (V1 : Mm_) => [some (vR 0 18), some (vI (nI i)), some (vI (nI j)), some (vI (nI ((fst_ (lc_ (V 0 19) n (dn_ V i j 3, m)) k)))), some (vI (nI ((k + 1))))]) 0 (dn_ V i j)) (rfl) ⟨rfl, rfl, rfl, rfl, rfl, trivial⟩ ?_
        refine Rc_forI 0 (60) (fun (k : Nat) (V1 : Mm_) => [some (vR 0 18), some (vI (nI i)), some (vI (nI j)), some (vI (nI ((fst_ (lc_ (V 0 19) n (dn_ V i j 3, m)) k)))), some (vI (nI ((k + 1))))]) (fun V1 => V1) (fun k V1 => fm_ V V1 ∧ V1 3 = (tn_ (V 0 19) n k (dn_ V i j 3, m)).1) (by omega) (fun k V1 hk0 hkN hI ih76 => ?_) (dn_ V i j) (⟨fm_dn, rfl⟩)
        have hok := tn_ok (f := V 0 19) (n := n) (p := (dn_ V i j 3, m)) hn8 (show dn_ V i j 3 15 1 = nI m from dn_15.trans hm) k
        simp only at hok
        have hfl := fst_le (lc_ (V 0 19) n (dn_ V i j 3, m)) k
        have hlc := lc_le (f := V 0 19) (p := (dn_ V i j 3, m)) (k := k) hn8
        have hn3 : V1 3 0 0 = nI n := by rw [hI.2, hok.2.2.1]; exact (dn_0 0 (by decide)).trans hn
        refine r_iload (pc2 := 78) dX7_recovery_76 rfl rfl ?_
        refine r_bipush (pc2 := 80) (nI 60) dX7_recovery_78 (by decide) rfl ?_
        refine r_icN_gt (pc2 := 83) (tgt := 120) (by omega) (by omega) dX7_recovery_80 (by decide) rfl (fun c80 => ?_) (fun c80 => ?_)
        · skip
          refine r_iload_n (pc2 := 121) dX7_recovery_120 rfl rfl ?_
          refine r_bipush (pc2 := 123) (nI 60) dX7_recovery_121 (by decide) rfl ?_
          refine r_icN_le (pc2 := 126) (tgt := 131) (by omega) (by omega) dX7_recovery_123 (by decide) rfl (fun c123 => ?_) (fun c123 => ?_)
          · skip
            refine r_iload_n (pc2 := 132) dX7_recovery_131 rfl rfl ?_
            exact r_iret dX7_recovery_132 rfl (⟨hI.1, by (have e : k = 60 := by omega); subst e; rw [if_pos (of_decide_eq_true c23), if_pos (of_decide_eq_true c41), if_neg (by omega)]⟩)
          · skip
            refine r_bipush (pc2 := 128) (-4) dX7_recovery_126 (by decide) rfl ?_
            refine r_goto (pc2 := 132) dX7_recovery_128 (by decide) ?_
            exact r_iret dX7_recovery_132 rfl (⟨hI.1, by (have e : k = 60 := by omega); subst e; rw [if_pos (of_decide_eq_true c23), if_pos (of_decide_eq_true c41), if_pos (by omega)]⟩)
        · skip
          refine r_aload_n (pc2 := 84) dX7_recovery_83 rfl rfl ?_
          refine r_aload_n (pc2 := 85) dX7_recovery_84 rfl rfl ?_
          refine r_getR (pc2 := 88) dX7_recovery_85 fl_X7_31 (by decide) rfl rfl rfl ?_
          refine r_cv1i (pc2 := 91) dX7_recovery_88 st_X7_recovery_129 rl_X7_makeTick (Nat.le_of_ble_eq_true rfl) rfl (c_X7_makeTick (n := n) (m := (tn_ (V 0 19) n k (dn_ V i j 3, m)).2) (by decide) hn3 hn8 (by rw [hI.2]; exact hok.1) (by have := hok.2.1; omega)) (fun x88 V88 h88 => ?_)
          have hnx : fm_ V V88 ∧ V88 3 = (tn_ (V 0 19) n (k + 1) (dn_ V i j 3, m)).1 := ⟨fm_tr hI.1 (fm_tk h88.2.2.1), by rw [h88.2.1, hI.2, hI.1.2.2 19 (by omega)]; rfl⟩
          have a3 := h88.2.2.2
          have e103 : c2_ (lp_ (V88 0 23)) n n = lc_ (V 0 19) n (dn_ V i j 3, m) k := by rw [lp_cong hn8 a3 Ch_ok, hI.2, hI.1.2.2 19 (by omega)]; rfl
          refine r_pop (pc2 := 92) dX7_recovery_91 rfl ?_
          refine r_aload_n (pc2 := 93) dX7_recovery_92 rfl rfl ?_
          refine r_getR (pc2 := 96) dX7_recovery_93 fl_X7_37 (by decide) rfl rfl rfl ?_
          refine r_aload_n (pc2 := 97) dX7_recovery_96 rfl rfl ?_
          refine r_getR (pc2 := 100) dX7_recovery_97 fl_X7_31 (by decide) rfl rfl rfl ?_
          refine r_getIe (pc2 := 103) (x := (nI n)) (by rw [hnx.2]; exact (tq_ok (f := V 0 19) hn8 hok.1).2.2.1.trans (hok.2.2.1.trans ((dn_0 0 (by decide)).trans hn))) dX7_recovery_100 fl_X7_60 (by decide) rfl rfl rfl ?_
          refine r_cv1p (pc2 := 106) dX7_recovery_103 st_X7_recovery_226 rl_X3_countLoops (Nat.le_of_ble_eq_true rfl) rfl (c_X3_countLoops hn8 (ok_ag a3 Ch_ok)) ?_
          rw [e103]
          refine r_if0N_le (pc2 := 109) (tgt := 114) (by omega) dX7_recovery_106 (by decide) rfl (fun c106 => ?_) (fun c106 => ?_)
          · skip
            refine r_iincN (pc2 := 117) dX7_recovery_114 rfl (by decide) rfl rfl ?_
            refine r_goto (pc2 := 76) dX7_recovery_117 (by decide) ?_
            exact Rc_.to (lo' := [some (vR 0 18), some (vI (nI i)), some (vI (nI j)), some (vI (nI ((fst_ (lc_ (V 0 19) n (dn_ V i j 3, m)) (k + 1))))), some (vI (nI (((k + 1) + 1))))]) (rfl) ⟨rfl, rfl, rfl, (congrArg (fun z => some (vI (nI z))) (by show (if 0 < (lc_ (V 0 19) n (dn_ V i j 3, m)) k then k + 2 else fst_ (lc_ (V 0 19) n (dn_ V i j 3, m)) k) = _; rw [if_neg (by omega)])), rfl, trivial⟩ (ih76 _ (by omega) (hnx))
          · skip
            refine r_iload (pc2 := 111) dX7_recovery_109 rfl rfl ?_
            refine r_iconst (pc2 := 112) (nI 1) dX7_recovery_111 (by decide) rfl ?_
            refine r_iaddN (pc2 := 113) dX7_recovery_112 rfl ?_
            refine r_istore_n (pc2 := 114) dX7_recovery_113 (by decide) rfl rfl ?_
            refine r_iincN (pc2 := 117) dX7_recovery_114 rfl (by decide) rfl rfl ?_
            refine r_goto (pc2 := 76) dX7_recovery_117 (by decide) ?_
            exact Rc_.to (lo' := [some (vR 0 18), some (vI (nI i)), some (vI (nI j)), some (vI (nI ((fst_ (lc_ (V 0 19) n (dn_ V i j 3, m)) (k + 1))))), some (vI (nI (((k + 1) + 1))))]) (rfl) ⟨rfl, rfl, rfl, (congrArg (fun z => some (vI (nI z))) (by show (if 0 < (lc_ (V 0 19) n (dn_ V i j 3, m)) k then k + 2 else fst_ (lc_ (V 0 19) n (dn_ V i j 3, m)) k) = _; rw [if_pos (by omega)])), rfl, trivial⟩ (ih76 _ (by omega) (hnx))
      · skip
        refine r_bipush (pc2 := 46) (-2) dX7_recovery_44 (by decide) rfl ?_
        exact r_iret dX7_recovery_46 rfl (⟨fm_rf, by rw [if_pos (of_decide_eq_true c23), if_neg (of_decide_eq_false c41)]⟩)
    · skip
      refine r_bipush (pc2 := 28) (-4) dX7_recovery_26 (by decide) rfl ?_
      exact r_iret dX7_recovery_28 rfl (⟨fm_rf, by rw [if_neg (of_decide_eq_false c23)]⟩)
  · skip
    exact absurd c6 (by decide)
