/-! reference: its face, rows aside, stored, begun: written by wip/whole/m24.py -/
theorem cp_0 {V : Mm_} {g r : Nat} {F : Nat → Int32} : a_set V g r (fr_ F (V g r) 0) = V := by rw [fr_0]; exact a_id V g r
theorem cp_1 {V : Mm_} {g r k : Nat} {F H : Nat → Int32} {v : Int32} (hv : v = F k) : m_set (a_set V g r (fr_ F H k)) g r k v = a_set V g r (fr_ F H (k + 1)) := by
  subst hv
  show a_set (a_set V g r _) g r _ = _
  rw [a_twice, a_same, fr_s]
/-- a row of the beginning -/
def be_ : Nat → Int32 := fun k => if k < 3464 then nI 0 else if 3528 ≤ k then nI 0 else -1
set_option maxRecDepth 100000 in
set_option maxHeartbeats 4000000 in
theorem c_X8_putsAside {PL : List (Nat × Nat)} {V : Mm_} : Cm_ PL mX8_putsAside [vR 0 33] V (a_set V 0 35 (fr_ (V 0 34) (V 0 35) 3596)) := by
  refine Ca_.of mv_X8_putsAside.2.2.2.2.2.2 1 (lo := [some (vR 0 33), none]) rfl (Nat.le_of_ble_eq_true rfl) ?_
  refine r_iconst (pc2 := 1) (nI 0) dX8_putsAside_0 (by decide) rfl ?_
  refine r_istore_n (pc2 := 2) dX8_putsAside_1 (by decide) rfl rfl ?_
  refine Rc_.to (V' := (fun k => a_set V 0 35 (fr_ (V 0 34) (V 0 35) k)) 0) (lo' := (fun k : Nat => [some (vR 0 33), some (vI (nI k))]) 0) (cp_0.symm) ⟨rfl, rfl, trivial⟩ ?_
  refine Rc_for 0 (3596) (fun k : Nat => [some (vR 0 33), some (vI (nI k))]) (fun k => a_set V 0 35 (fr_ (V 0 34) (V 0 35) k)) (by omega) (fun k hk0 hkN ih2 => ?_)
  refine r_iload_n (pc2 := 3) dX8_putsAside_2 rfl rfl ?_
  refine r_sipush (pc2 := 6) (nI 3596) dX8_putsAside_3 (by decide) rfl ?_
  refine r_icN_ge (pc2 := 9) (tgt := 27) (by omega) (by omega) dX8_putsAside_6 (by decide) rfl (fun c6 => ?_) (fun c6 => ?_)
  · skip
    exact r_vret dX8_putsAside_27 rfl (by (have e : k = 3596 := by omega); rw [e])
  · skip
    refine r_aload_n (pc2 := 10) dX8_putsAside_9 rfl rfl ?_
    refine r_getR (pc2 := 13) dX8_putsAside_10 fl_X8_17 (by decide) rfl rfl rfl ?_
    refine r_iload_n (pc2 := 14) dX8_putsAside_13 rfl rfl ?_
    refine r_aload_n (pc2 := 15) dX8_putsAside_14 rfl rfl ?_
    refine r_getR (pc2 := 18) dX8_putsAside_15 fl_X8_13 (by decide) rfl rfl rfl ?_
    refine r_iload_n (pc2 := 19) dX8_putsAside_18 rfl rfl ?_
    refine r_ialde (pc2 := 20) (x := ((V 0 34 k))) (j := _) (by rw [a_ne (by decide)]) dX8_putsAside_19 (by decide) rfl rfl (rfl) (by show _ < 3596; omega) rfl ?_
    refine r_iast (pc2 := 21) (j := _) dX8_putsAside_20 (by decide) rfl rfl (rfl) (by show _ < 3596; omega) rfl ?_
    refine r_iincN (pc2 := 24) dX8_putsAside_21 rfl (by decide) rfl rfl ?_
    refine r_goto (pc2 := 2) dX8_putsAside_24 (by decide) ?_
    exact Rc_.to (lo' := (fun k : Nat => [some (vR 0 33), some (vI (nI k))]) (k + 1)) (cp_1 rfl) ⟨rfl, rfl, trivial⟩ (ih2 (by omega))

set_option maxRecDepth 100000 in
set_option maxHeartbeats 4000000 in
theorem c_X8_putsBack {PL : List (Nat × Nat)} {V : Mm_} : Cm_ PL mX8_putsBack [vR 0 33] V (a_set V 0 34 (fr_ (V 0 35) (V 0 34) 3596)) := by
  refine Ca_.of mv_X8_putsBack.2.2.2.2.2.2 1 (lo := [some (vR 0 33), none]) rfl (Nat.le_of_ble_eq_true rfl) ?_
  refine r_iconst (pc2 := 1) (nI 0) dX8_putsBack_0 (by decide) rfl ?_
  refine r_istore_n (pc2 := 2) dX8_putsBack_1 (by decide) rfl rfl ?_
  refine Rc_.to (V' := (fun k => a_set V 0 34 (fr_ (V 0 35) (V 0 34) k)) 0) (lo' := (fun k : Nat => [some (vR 0 33), some (vI (nI k))]) 0) (cp_0.symm) ⟨rfl, rfl, trivial⟩ ?_
  refine Rc_for 0 (3596) (fun k : Nat => [some (vR 0 33), some (vI (nI k))]) (fun k => a_set V 0 34 (fr_ (V 0 35) (V 0 34) k)) (by omega) (fun k hk0 hkN ih2 => ?_)
  refine r_iload_n (pc2 := 3) dX8_putsBack_2 rfl rfl ?_
  refine r_sipush (pc2 := 6) (nI 3596) dX8_putsBack_3 (by decide) rfl ?_
  refine r_icN_ge (pc2 := 9) (tgt := 27) (by omega) (by omega) dX8_putsBack_6 (by decide) rfl (fun c6 => ?_) (fun c6 => ?_)
  · skip
    exact r_vret dX8_putsBack_27 rfl (by (have e : k = 3596 := by omega); rw [e])
  · skip
    refine r_aload_n (pc2 := 10) dX8_putsBack_9 rfl rfl ?_
    refine r_getR (pc2 := 13) dX8_putsBack_10 fl_X8_13 (by decide) rfl rfl rfl ?_
    refine r_iload_n (pc2 := 14) dX8_putsBack_13 rfl rfl ?_
    refine r_aload_n (pc2 := 15) dX8_putsBack_14 rfl rfl ?_
    refine r_getR (pc2 := 18) dX8_putsBack_15 fl_X8_17 (by decide) rfl rfl rfl ?_
    refine r_iload_n (pc2 := 19) dX8_putsBack_18 rfl rfl ?_
    refine r_ialde (pc2 := 20) (x := ((V 0 35 k))) (j := _) (by rw [a_ne (by decide)]) dX8_putsBack_19 (by decide) rfl rfl (rfl) (by show _ < 3596; omega) rfl ?_
    refine r_iast (pc2 := 21) (j := _) dX8_putsBack_20 (by decide) rfl rfl (rfl) (by show _ < 3596; omega) rfl ?_
    refine r_iincN (pc2 := 24) dX8_putsBack_21 rfl (by decide) rfl rfl ?_
    refine r_goto (pc2 := 2) dX8_putsBack_24 (by decide) ?_
    exact Rc_.to (lo' := (fun k : Nat => [some (vR 0 33), some (vI (nI k))]) (k + 1)) (cp_1 rfl) ⟨rfl, rfl, trivial⟩ (ih2 (by omega))

set_option maxRecDepth 100000 in
set_option maxHeartbeats 4000000 in
theorem c_X8_store {PL : List (Nat × Nat)} {V : Mm_} : Ci_ PL mX8_store [vR 0 33] V (fun x V' => x = V 0 34 3593 ∧ V' = m_set (a_set V 0 36 (fr_ (V 0 34) (V 0 36) 3596)) 0 33 4 (nI 1)) := by
  refine Ca_.of mv_X8_store.2.2.2.2.2.2 1 (lo := [some (vR 0 33), none]) rfl (Nat.le_of_ble_eq_true rfl) ?_
  refine r_iconst (pc2 := 1) (nI 0) dX8_store_0 (by decide) rfl ?_
  refine r_istore_n (pc2 := 2) dX8_store_1 (by decide) rfl rfl ?_
  refine Rc_.to (V' := (fun k => a_set V 0 36 (fr_ (V 0 34) (V 0 36) k)) 0) (lo' := (fun k : Nat => [some (vR 0 33), some (vI (nI k))]) 0) (cp_0.symm) ⟨rfl, rfl, trivial⟩ ?_
  refine Rc_for 0 (3596) (fun k : Nat => [some (vR 0 33), some (vI (nI k))]) (fun k => a_set V 0 36 (fr_ (V 0 34) (V 0 36) k)) (by omega) (fun k hk0 hkN ih2 => ?_)
  refine r_iload_n (pc2 := 3) dX8_store_2 rfl rfl ?_
  refine r_sipush (pc2 := 6) (nI 3596) dX8_store_3 (by decide) rfl ?_
  refine r_icN_ge (pc2 := 9) (tgt := 27) (by omega) (by omega) dX8_store_6 (by decide) rfl (fun c6 => ?_) (fun c6 => ?_)
  · skip
    refine r_aload_n (pc2 := 28) dX8_store_27 rfl rfl ?_
    refine r_iconst (pc2 := 29) (nI 1) dX8_store_28 (by decide) rfl ?_
    refine r_put (pc2 := 32) dX8_store_29 fl_X8_70 (by decide) rfl rfl ft_8_4 (by first | exact (by decide) | (rcases b2_01 _ with h | h <;> rw [h] <;> decide)) (by first | exact (by decide) | (rcases b2_01 _ with h | h <;> rw [h] <;> decide)) rfl ?_
    refine r_aload_n (pc2 := 33) dX8_store_32 rfl rfl ?_
    refine r_getR (pc2 := 36) dX8_store_33 fl_X8_13 (by decide) rfl rfl rfl ?_
    refine r_sipush (pc2 := 39) (nI 3593) dX8_store_36 (by decide) rfl ?_
    refine r_iald (pc2 := 40) (j := _) dX8_store_39 (by decide) rfl rfl (rfl) (by show _ < 3596; omega) rfl ?_
    exact r_iret dX8_store_40 rfl (⟨by rw [m_ne (by decide), a_ne (by decide)], by (have e : k = 3596 := by omega); rw [e]⟩)
  · skip
    refine r_aload_n (pc2 := 10) dX8_store_9 rfl rfl ?_
    refine r_getR (pc2 := 13) dX8_store_10 fl_X8_20 (by decide) rfl rfl rfl ?_
    refine r_iload_n (pc2 := 14) dX8_store_13 rfl rfl ?_
    refine r_aload_n (pc2 := 15) dX8_store_14 rfl rfl ?_
    refine r_getR (pc2 := 18) dX8_store_15 fl_X8_13 (by decide) rfl rfl rfl ?_
    refine r_iload_n (pc2 := 19) dX8_store_18 rfl rfl ?_
    refine r_ialde (pc2 := 20) (x := ((V 0 34 k))) (j := _) (by rw [a_ne (by decide)]) dX8_store_19 (by decide) rfl rfl (rfl) (by show _ < 3596; omega) rfl ?_
    refine r_iast (pc2 := 21) (j := _) dX8_store_20 (by decide) rfl rfl (rfl) (by show _ < 3596; omega) rfl ?_
    refine r_iincN (pc2 := 24) dX8_store_21 rfl (by decide) rfl rfl ?_
    refine r_goto (pc2 := 2) dX8_store_24 (by decide) ?_
    exact Rc_.to (lo' := (fun k : Nat => [some (vR 0 33), some (vI (nI k))]) (k + 1)) (cp_1 rfl) ⟨rfl, rfl, trivial⟩ (ih2 (by omega))

set_option maxRecDepth 100000 in
set_option maxHeartbeats 4000000 in
theorem c_X8_recall {PL : List (Nat × Nat)} {V : Mm_} {b : Bool} (hs : V 0 33 4 = b2 b) : Ci_ PL mX8_recall [vR 0 33] V (fun x V' => if b = true then x = V 0 36 3593 ∧ V' = a_set V 0 34 (fr_ (V 0 36) (V 0 34) 3596) else x = -2 ∧ V' = V) := by
  refine Ca_.of mv_X8_recall.2.2.2.2.2.2 1 (lo := [some (vR 0 33), none]) rfl (Nat.le_of_ble_eq_true rfl) ?_
  refine r_aload_n (pc2 := 1) dX8_recall_0 rfl rfl ?_
  refine r_getIe (pc2 := 4) (x := (b2 b)) (hs) dX8_recall_1 fl_X8_70 (by decide) rfl rfl rfl ?_
  refine r_ifB_ne (pc2 := 7) (tgt := 10) dX8_recall_4 (by decide) rfl (fun c4 => ?_) (fun c4 => ?_)
  · skip
    refine r_iconst (pc2 := 11) (nI 0) dX8_recall_10 (by decide) rfl ?_
    refine r_istore_n (pc2 := 12) dX8_recall_11 (by decide) rfl rfl ?_
    refine Rc_.to (V' := (fun k => a_set V 0 34 (fr_ (V 0 36) (V 0 34) k)) 0) (lo' := (fun k : Nat => [some (vR 0 33), some (vI (nI k))]) 0) (cp_0.symm) ⟨rfl, rfl, trivial⟩ ?_
    refine Rc_for 0 (3596) (fun k : Nat => [some (vR 0 33), some (vI (nI k))]) (fun k => a_set V 0 34 (fr_ (V 0 36) (V 0 34) k)) (by omega) (fun k hk0 hkN ih12 => ?_)
    refine r_iload_n (pc2 := 13) dX8_recall_12 rfl rfl ?_
    refine r_sipush (pc2 := 16) (nI 3596) dX8_recall_13 (by decide) rfl ?_
    refine r_icN_ge (pc2 := 19) (tgt := 37) (by omega) (by omega) dX8_recall_16 (by decide) rfl (fun c16 => ?_) (fun c16 => ?_)
    · skip
      refine r_aload_n (pc2 := 38) dX8_recall_37 rfl rfl ?_
      refine r_getR (pc2 := 41) dX8_recall_38 fl_X8_13 (by decide) rfl rfl rfl ?_
      refine r_sipush (pc2 := 44) (nI 3593) dX8_recall_41 (by decide) rfl ?_
      refine r_iald (pc2 := 45) (j := _) dX8_recall_44 (by decide) rfl rfl (rfl) (by show _ < 3596; omega) rfl ?_
      exact r_iret dX8_recall_45 rfl (by show if _ then _ else _; rw [if_pos c4]; exact ⟨by rw [a_same, fr_in (by omega)], by (have e : k = 3596 := by omega); rw [e]⟩)
    · skip
      refine r_aload_n (pc2 := 20) dX8_recall_19 rfl rfl ?_
      refine r_getR (pc2 := 23) dX8_recall_20 fl_X8_13 (by decide) rfl rfl rfl ?_
      refine r_iload_n (pc2 := 24) dX8_recall_23 rfl rfl ?_
      refine r_aload_n (pc2 := 25) dX8_recall_24 rfl rfl ?_
      refine r_getR (pc2 := 28) dX8_recall_25 fl_X8_20 (by decide) rfl rfl rfl ?_
      refine r_iload_n (pc2 := 29) dX8_recall_28 rfl rfl ?_
      refine r_ialde (pc2 := 30) (x := ((V 0 36 k))) (j := _) (by rw [a_ne (by decide)]) dX8_recall_29 (by decide) rfl rfl (rfl) (by show _ < 3596; omega) rfl ?_
      refine r_iast (pc2 := 31) (j := _) dX8_recall_30 (by decide) rfl rfl (rfl) (by show _ < 3596; omega) rfl ?_
      refine r_iincN (pc2 := 34) dX8_recall_31 rfl (by decide) rfl rfl ?_
      refine r_goto (pc2 := 12) dX8_recall_34 (by decide) ?_
      exact Rc_.to (lo' := (fun k : Nat => [some (vR 0 33), some (vI (nI k))]) (k + 1)) (cp_1 rfl) ⟨rfl, rfl, trivial⟩ (ih12 (by omega))
  · skip
    refine r_bipush (pc2 := 9) (-2) dX8_recall_7 (by decide) rfl ?_
    exact r_iret dX8_recall_9 rfl (by show if _ then _ else _; rw [if_neg (by rw [c4]; decide)]; exact ⟨rfl, rfl⟩)

set_option maxRecDepth 100000 in
set_option maxHeartbeats 4000000 in
theorem c_X8_begins {PL : List (Nat × Nat)} {V : Mm_} : Cm_ PL mX8_begins [vR 0 33] V (a_set V 0 34 (fr_ be_ (V 0 34) 3596)) := by
  refine Ca_.of mv_X8_begins.2.2.2.2.2.2 1 (lo := [some (vR 0 33), none]) rfl (Nat.le_of_ble_eq_true rfl) ?_
  refine r_iconst (pc2 := 1) (nI 0) dX8_begins_0 (by decide) rfl ?_
  refine r_istore_n (pc2 := 2) dX8_begins_1 (by decide) rfl rfl ?_
  refine Rc_.to (V' := (fun k => a_set V 0 34 (fr_ be_ (V 0 34) k)) 0) (lo' := (fun k : Nat => [some (vR 0 33), some (vI (nI k))]) 0) (cp_0.symm) ⟨rfl, rfl, trivial⟩ ?_
  refine Rc_for 0 (3596) (fun k : Nat => [some (vR 0 33), some (vI (nI k))]) (fun k => a_set V 0 34 (fr_ be_ (V 0 34) k)) (by omega) (fun k hk0 hkN ih2 => ?_)
  refine r_iload_n (pc2 := 3) dX8_begins_2 rfl rfl ?_
  refine r_sipush (pc2 := 6) (nI 3596) dX8_begins_3 (by decide) rfl ?_
  refine r_icN_ge (pc2 := 9) (tgt := 40) (by omega) (by omega) dX8_begins_6 (by decide) rfl (fun c6 => ?_) (fun c6 => ?_)
  · skip
    exact r_vret dX8_begins_40 rfl (by (have e : k = 3596 := by omega); rw [e])
  · skip
    refine r_aload_n (pc2 := 10) dX8_begins_9 rfl rfl ?_
    refine r_getR (pc2 := 13) dX8_begins_10 fl_X8_13 (by decide) rfl rfl rfl ?_
    refine r_iload_n (pc2 := 14) dX8_begins_13 rfl rfl ?_
    refine r_iload_n (pc2 := 15) dX8_begins_14 rfl rfl ?_
    refine r_sipush (pc2 := 18) (nI 3464) dX8_begins_15 (by decide) rfl ?_
    refine r_icN_lt (pc2 := 21) (tgt := 32) (by omega) (by omega) dX8_begins_18 (by decide) rfl (fun c18 => ?_) (fun c18 => ?_)
    · skip
      refine r_iconst (pc2 := 33) (nI 0) dX8_begins_32 (by decide) rfl ?_
      refine r_iast (pc2 := 34) (j := _) dX8_begins_33 (by decide) rfl rfl (rfl) (by show _ < 3596; omega) rfl ?_
      refine r_iincN (pc2 := 37) dX8_begins_34 rfl (by decide) rfl rfl ?_
      refine r_goto (pc2 := 2) dX8_begins_37 (by decide) ?_
      exact Rc_.to (lo' := (fun k : Nat => [some (vR 0 33), some (vI (nI k))]) (k + 1)) (cp_1 (by unfold be_; rw [if_pos (by omega)])) ⟨rfl, rfl, trivial⟩ (ih2 (by omega))
    · skip
      refine r_iload_n (pc2 := 22) dX8_begins_21 rfl rfl ?_
      refine r_sipush (pc2 := 25) (nI 3528) dX8_begins_22 (by decide) rfl ?_
      refine r_icN_ge (pc2 := 28) (tgt := 32) (by omega) (by omega) dX8_begins_25 (by decide) rfl (fun c25 => ?_) (fun c25 => ?_)
      · skip
        refine r_iconst (pc2 := 33) (nI 0) dX8_begins_32 (by decide) rfl ?_
        refine r_iast (pc2 := 34) (j := _) dX8_begins_33 (by decide) rfl rfl (rfl) (by show _ < 3596; omega) rfl ?_
        refine r_iincN (pc2 := 37) dX8_begins_34 rfl (by decide) rfl rfl ?_
        refine r_goto (pc2 := 2) dX8_begins_37 (by decide) ?_
        exact Rc_.to (lo' := (fun k : Nat => [some (vR 0 33), some (vI (nI k))]) (k + 1)) (cp_1 (by unfold be_; rw [if_neg (by omega)]; first | rw [if_pos (by omega)] | rw [if_neg (by omega)])) ⟨rfl, rfl, trivial⟩ (ih2 (by omega))
      · skip
        refine r_iconst (pc2 := 29) (-1) dX8_begins_28 (by decide) rfl ?_
        refine r_goto (pc2 := 33) dX8_begins_29 (by decide) ?_
        refine r_iast (pc2 := 34) (j := _) dX8_begins_33 (by decide) rfl rfl (rfl) (by show _ < 3596; omega) rfl ?_
        refine r_iincN (pc2 := 37) dX8_begins_34 rfl (by decide) rfl rfl ?_
        refine r_goto (pc2 := 2) dX8_begins_37 (by decide) ?_
        exact Rc_.to (lo' := (fun k : Nat => [some (vR 0 33), some (vI (nI k))]) (k + 1)) (cp_1 (by unfold be_; rw [if_neg (by omega)]; first | rw [if_pos (by omega)] | rw [if_neg (by omega)])) ⟨rfl, rfl, trivial⟩ (ih2 (by omega))

set_option maxRecDepth 100000 in
set_option maxHeartbeats 4000000 in
theorem c_X8_reset_bad {PL : List (Nat × Nat)} {V : Mm_} {x : Int32} (hbad : ¬ (nI 2 ≤ x ∧ x ≤ nI 8)) : Cp_ PL mX8_reset [vR 0 33, vI x] V ((-1)) := by
  refine Ca_.of mv_X8_reset.2.2.2.2.2.2 1 (lo := [some (vR 0 33), some (vI x), none]) rfl (Nat.le_of_ble_eq_true rfl) ?_
  refine r_iload_n (pc2 := 1) dX8_reset_0 rfl rfl ?_
  refine r_iconst (pc2 := 2) (nI 2) dX8_reset_1 (by decide) rfl ?_
  refine r_bipush (pc2 := 4) (nI 8) dX8_reset_2 (by decide) rfl ?_
  refine r_cs3p (pc2 := 7) dX8_reset_4 st_X8_reset_54 (Nat.le_of_ble_eq_true rfl) rfl (c_X8_in) ?_
  refine r_ifB_ne (pc2 := 10) (tgt := 12) dX8_reset_7 (by decide) rfl (fun c7 => ?_) (fun c7 => ?_)
  · skip
    exact absurd (of_decide_eq_true c7) hbad
  · skip
    refine r_iconst (pc2 := 11) (-1) dX8_reset_10 (by decide) rfl ?_
    exact r_iret dX8_reset_11 rfl (⟨rfl, rfl⟩)

set_option maxRecDepth 100000 in
set_option maxHeartbeats 4000000 in
theorem c_X8_reset_ok {PL : List (Nat × Nat)} {V : Mm_} {x : Int32} (h : nI 2 ≤ x ∧ x ≤ nI 8) : Ci_ PL mX8_reset [vR 0 33, vI x] V (fun r V' => r = V 0 33 0 ∧ V' = m_set (a_set (m_set V 0 33 0 x) 0 34 (fr_ be_ (V 0 34) 3596)) 0 33 4 (nI 0)) := by
  refine Ca_.of mv_X8_reset.2.2.2.2.2.2 1 (lo := [some (vR 0 33), some (vI x), none]) rfl (Nat.le_of_ble_eq_true rfl) ?_
  refine r_iload_n (pc2 := 1) dX8_reset_0 rfl rfl ?_
  refine r_iconst (pc2 := 2) (nI 2) dX8_reset_1 (by decide) rfl ?_
  refine r_bipush (pc2 := 4) (nI 8) dX8_reset_2 (by decide) rfl ?_
  refine r_cs3p (pc2 := 7) dX8_reset_4 st_X8_reset_54 (Nat.le_of_ble_eq_true rfl) rfl (c_in_ok h) ?_
  refine r_if0N_ne (pc2 := 10) (tgt := 12) (by omega) dX8_reset_7 (by decide) rfl (fun c7 => ?_) (fun c7 => ?_)
  · skip
    refine r_aload_n (pc2 := 13) dX8_reset_12 rfl rfl ?_
    refine r_getIe (pc2 := 16) (x := ((V 0 33 0))) (rfl) dX8_reset_13 fl_X8_7 (by decide) rfl rfl rfl ?_
    refine r_istore_n (pc2 := 17) dX8_reset_16 (by decide) rfl rfl ?_
    refine r_aload_n (pc2 := 18) dX8_reset_17 rfl rfl ?_
    refine r_iload_n (pc2 := 19) dX8_reset_18 rfl rfl ?_
    refine r_put (pc2 := 22) dX8_reset_19 fl_X8_7 (by decide) rfl rfl ft_8_0 rfl rfl rfl ?_
    refine r_aload_n (pc2 := 23) dX8_reset_22 rfl rfl ?_
    refine r_cv0m (pc2 := 26) dX8_reset_23 st_X8_reset_51 rl_X8_begins (Nat.le_of_ble_eq_true rfl) rfl (c_X8_begins) ?_
    refine r_aload_n (pc2 := 27) dX8_reset_26 rfl rfl ?_
    refine r_iconst (pc2 := 28) (nI 0) dX8_reset_27 (by decide) rfl ?_
    refine r_put (pc2 := 31) dX8_reset_28 fl_X8_70 (by decide) rfl rfl ft_8_4 (by first | exact (by decide) | (rcases b2_01 _ with h | h <;> rw [h] <;> decide)) (by first | exact (by decide) | (rcases b2_01 _ with h | h <;> rw [h] <;> decide)) rfl ?_
    refine r_iload_n (pc2 := 32) dX8_reset_31 rfl rfl ?_
    exact r_iret dX8_reset_32 rfl (⟨rfl, rfl⟩)
  · skip
    exact absurd c7 (by decide)
