/-! reference: its face, questions: written by wip/whole/m21.py -/
theorem c_arePair_ok {PL : List (Nat × Nat)} {n i j : Nat} {V : Mm_} (hm : V 0 33 0 = nI n) (hn1 : 2 ≤ n) (hn8 : n ≤ 8) (hi : i < n) (hj : j < n) (h : ¬ i = j) : Cp_ PL mX8_arePair [vR 0 33, vI (nI i), vI (nI j)] V (nI 1) :=
  Ca_.mono (c_X8_arePair hm hn1 hn8) (by rintro r V' ⟨x, rfl, rfl, rfl⟩; exact ⟨_, rfl, (b2_t (nI_pr hn8 hi hj h)).symm, rfl⟩)
theorem c_isNode8_ok {PL : List (Nat × Nat)} {n i : Nat} {V : Mm_} (hm : V 0 33 0 = nI n) (hn1 : 2 ≤ n) (hn8 : n ≤ 8) (hi : i < n) : Cp_ PL mX8_isNode [vR 0 33, vI (nI i)] V (nI 1) :=
  Ca_.mono (c_X8_isNode hm hn1 hn8) (by rintro r V' ⟨x, rfl, rfl, rfl⟩; exact ⟨_, rfl, (b2_t ⟨nI_pos' (by omega), nI_lt hi (by omega)⟩).symm, rfl⟩)
theorem c_in_ok {PL : List (Nat × Nat)} {v a b : Int32} {V : Mm_} (h : a ≤ v ∧ v ≤ b) : Cp_ PL mX8_in [vI v, vI a, vI b] V (nI 1) :=
  Ca_.mono c_X8_in (by rintro r V' ⟨x, rfl, rfl, rfl⟩; exact ⟨_, rfl, (b2_t h).symm, rfl⟩)

set_option maxRecDepth 100000 in
set_option maxHeartbeats 4000000 in
theorem c_X8_time {PL : List (Nat × Nat)} {V : Mm_} {s : Sg_} (h : RT_ (V 0 34) s) : Cp_ PL mX8_time [vR 0 33] V (s 0 1) := by
  refine Ca_.of mv_X8_time.2.2.2.2.2.2 0 (lo := [some (vR 0 33)]) rfl (Nat.le_of_ble_eq_true rfl) ?_
  refine r_aload_n (pc2 := 1) dX8_time_0 rfl rfl ?_
  refine r_getR (pc2 := 4) dX8_time_1 fl_X8_13 (by decide) rfl rfl rfl ?_
  refine r_sipush (pc2 := 7) (nI 3593) dX8_time_4 (by decide) rfl ?_
  refine r_ialde (pc2 := 8) (x := ((s 0 1))) (j := _) (h.tm) dX8_time_7 (by decide) rfl rfl (rfl) (by show _ < 3596; omega) rfl ?_
  exact r_iret dX8_time_8 rfl (⟨rfl, rfl⟩)

set_option maxRecDepth 100000 in
set_option maxHeartbeats 4000000 in
theorem c_X8_sent {PL : List (Nat × Nat)} {V : Mm_} {s : Sg_} (h : RT_ (V 0 34) s) : Cp_ PL mX8_sent [vR 0 33] V (s 0 2) := by
  refine Ca_.of mv_X8_sent.2.2.2.2.2.2 0 (lo := [some (vR 0 33)]) rfl (Nat.le_of_ble_eq_true rfl) ?_
  refine r_aload_n (pc2 := 1) dX8_sent_0 rfl rfl ?_
  refine r_getR (pc2 := 4) dX8_sent_1 fl_X8_13 (by decide) rfl rfl rfl ?_
  refine r_sipush (pc2 := 7) (nI 3594) dX8_sent_4 (by decide) rfl ?_
  refine r_ialde (pc2 := 8) (x := ((s 0 2))) (j := _) (h.se) dX8_sent_7 (by decide) rfl rfl (rfl) (by show _ < 3596; omega) rfl ?_
  exact r_iret dX8_sent_8 rfl (⟨rfl, rfl⟩)

set_option maxRecDepth 100000 in
set_option maxHeartbeats 4000000 in
theorem c_X8_journalSize {PL : List (Nat × Nat)} {V : Mm_} {s : Sg_} {m : Nat} (hJ : RJ_ (V 0 34) s m) : Cp_ PL mX8_journalSize [vR 0 33] V (nI (js_ m)) := by
  refine Ca_.of mv_X8_journalSize.2.2.2.2.2.2 0 (lo := [some (vR 0 33)]) rfl (Nat.le_of_ble_eq_true rfl) ?_
  refine r_aload_n (pc2 := 1) dX8_journalSize_0 rfl rfl ?_
  refine r_getR (pc2 := 4) dX8_journalSize_1 fl_X8_13 (by decide) rfl rfl rfl ?_
  refine r_sipush (pc2 := 7) (nI 3592) dX8_journalSize_4 (by decide) rfl ?_
  refine r_ialde (pc2 := 8) (x := (nI ((js_ m)))) (j := _) (hJ.sz) dX8_journalSize_7 (by decide) rfl rfl (rfl) (by show _ < 3596; omega) rfl ?_
  exact r_iret dX8_journalSize_8 rfl (⟨rfl, rfl⟩)

set_option maxRecDepth 100000 in
set_option maxHeartbeats 4000000 in
theorem c_X8_journal_bad {PL : List (Nat × Nat)} {V : Mm_} {a x : Int32} (hbad : ¬ (0 ≤ a ∧ nI 0 ≤ x ∧ x ≤ nI 3)) : Cp_ PL mX8_journal [vR 0 33, vI a, vI x] V ((-1)) := by
  refine Ca_.of mv_X8_journal.2.2.2.2.2.2 0 (lo := [some (vR 0 33), some (vI a), some (vI x)]) rfl (Nat.le_of_ble_eq_true rfl) ?_
  refine r_iload_n (pc2 := 1) dX8_journal_0 rfl rfl ?_
  refine r_if_lt (pc2 := 4) (tgt := 13) dX8_journal_1 (by decide) rfl (fun c1 => ?_) (fun c1 => ?_)
  · skip
    refine r_iconst (pc2 := 14) (-1) dX8_journal_13 (by decide) rfl ?_
    exact r_iret dX8_journal_14 rfl (⟨rfl, rfl⟩)
  · skip
    refine r_iload_n (pc2 := 5) dX8_journal_4 rfl rfl ?_
    refine r_iconst (pc2 := 6) (nI 0) dX8_journal_5 (by decide) rfl ?_
    refine r_iconst (pc2 := 7) (nI 3) dX8_journal_6 (by decide) rfl ?_
    refine r_cs3p (pc2 := 10) dX8_journal_7 st_X8_journal_54 (Nat.le_of_ble_eq_true rfl) rfl (c_X8_in) ?_
    refine r_ifB_ne (pc2 := 13) (tgt := 15) dX8_journal_10 (by decide) rfl (fun c10 => ?_) (fun c10 => ?_)
    · skip
      exact absurd ⟨Int32.not_lt.mp c1, of_decide_eq_true c10⟩ hbad
    · skip
      refine r_iconst (pc2 := 14) (-1) dX8_journal_13 (by decide) rfl ?_
      exact r_iret dX8_journal_14 rfl (⟨rfl, rfl⟩)

set_option maxRecDepth 100000 in
set_option maxHeartbeats 4000000 in
theorem c_X8_journal_ok {PL : List (Nat × Nat)} {V : Mm_} {s : Sg_} {m : Nat} (hJ : RJ_ (V 0 34) s m) {k w : Nat} (hk : k < 2 ^ 29) (hw : w < 4) : Cp_ PL mX8_journal [vR 0 33, vI (nI k), vI (nI w)] V (if k < js_ m then s 16 ((m - 1 - k) % 16 * 4 + w) else -4) := by
  refine Ca_.of mv_X8_journal.2.2.2.2.2.2 0 (lo := [some (vR 0 33), some (vI (nI k)), some (vI (nI w))]) rfl (Nat.le_of_ble_eq_true rfl) ?_
  have hj := js_le m
  refine r_iload_n (pc2 := 1) dX8_journal_0 rfl rfl ?_
  refine r_if_lt (pc2 := 4) (tgt := 13) dX8_journal_1 (by decide) rfl (fun c1 => ?_) (fun c1 => ?_)
  · skip
    exact absurd c1 (nI_pos (by omega))
  · skip
    refine r_iload_n (pc2 := 5) dX8_journal_4 rfl rfl ?_
    refine r_iconst (pc2 := 6) (nI 0) dX8_journal_5 (by decide) rfl ?_
    refine r_iconst (pc2 := 7) (nI 3) dX8_journal_6 (by decide) rfl ?_
    refine r_cs3p (pc2 := 10) dX8_journal_7 st_X8_journal_54 (Nat.le_of_ble_eq_true rfl) rfl (c_in_ok ⟨nI_pos' (by omega), nI_le (by omega) (by omega)⟩) ?_
    refine r_if0N_ne (pc2 := 13) (tgt := 15) (by omega) dX8_journal_10 (by decide) rfl (fun c10 => ?_) (fun c10 => ?_)
    · skip
      refine r_iload_n (pc2 := 16) dX8_journal_15 rfl rfl ?_
      refine r_aload_n (pc2 := 17) dX8_journal_16 rfl rfl ?_
      refine r_getR (pc2 := 20) dX8_journal_17 fl_X8_13 (by decide) rfl rfl rfl ?_
      refine r_sipush (pc2 := 23) (nI 3592) dX8_journal_20 (by decide) rfl ?_
      refine r_ialde (pc2 := 24) (x := (nI ((js_ m)))) (j := _) (hJ.sz) dX8_journal_23 (by decide) rfl rfl (rfl) (by show _ < 3596; omega) rfl ?_
      refine r_icN_ge (pc2 := 27) (tgt := 44) (by omega) (by omega) dX8_journal_24 (by decide) rfl (fun c24 => ?_) (fun c24 => ?_)
      · skip
        refine r_bipush (pc2 := 46) (-4) dX8_journal_44 (by decide) rfl ?_
        exact r_iret dX8_journal_46 rfl (⟨by rw [if_neg (by omega)], rfl⟩)
      · skip
        refine r_aload_n (pc2 := 28) dX8_journal_27 rfl rfl ?_
        refine r_getR (pc2 := 31) dX8_journal_28 fl_X8_13 (by decide) rfl rfl rfl ?_
        refine r_sipush (pc2 := 34) (nI 3528) dX8_journal_31 (by decide) rfl ?_
        refine r_iconst (pc2 := 35) (nI 4) dX8_journal_34 (by decide) rfl ?_
        refine r_iload_n (pc2 := 36) dX8_journal_35 rfl rfl ?_
        refine r_imulN (pc2 := 37) dX8_journal_36 rfl ?_
        refine r_iaddN (pc2 := 38) dX8_journal_37 rfl ?_
        refine r_iload_n (pc2 := 39) dX8_journal_38 rfl rfl ?_
        refine r_iaddN (pc2 := 40) dX8_journal_39 rfl ?_
        refine r_ialde (pc2 := 41) (x := ((s 16 ((m - 1 - k) % 16 * 4 + w)))) (j := _) (hJ.rw k w c24 hw) dX8_journal_40 (by decide) rfl rfl (rfl) (by show _ < 3596; omega) rfl ?_
        refine r_goto (pc2 := 46) dX8_journal_41 (by decide) ?_
        exact r_iret dX8_journal_46 rfl (⟨by rw [if_pos c24], rfl⟩)
    · skip
      exact absurd c10 (by decide)

set_option maxRecDepth 100000 in
set_option maxHeartbeats 4000000 in
theorem c_X8_link_bad {PL : List (Nat × Nat)} {V : Mm_} {n : Nat} (hm : V 0 33 0 = nI n) (hn1 : 2 ≤ n) (hn8 : n ≤ 8) {a b x : Int32} (hbad : ¬ (pr_ok (nI n) a b ∧ nI 0 ≤ x ∧ x ≤ nI 3)) : Cp_ PL mX8_link [vR 0 33, vI a, vI b, vI x] V ((-1)) := by
  refine Ca_.of mv_X8_link.2.2.2.2.2.2 0 (lo := [some (vR 0 33), some (vI a), some (vI b), some (vI x)]) rfl (Nat.le_of_ble_eq_true rfl) ?_
  refine r_aload_n (pc2 := 1) dX8_link_0 rfl rfl ?_
  refine r_iload_n (pc2 := 2) dX8_link_1 rfl rfl ?_
  refine r_iload_n (pc2 := 3) dX8_link_2 rfl rfl ?_
  refine r_cv2p (pc2 := 6) dX8_link_3 st_X8_link_74 rl_X8_arePair (Nat.le_of_ble_eq_true rfl) rfl (c_X8_arePair hm hn1 hn8) ?_
  refine r_ifB_eq (pc2 := 9) (tgt := 18) dX8_link_6 (by decide) rfl (fun c6 => ?_) (fun c6 => ?_)
  · skip
    refine r_iconst (pc2 := 19) (-1) dX8_link_18 (by decide) rfl ?_
    exact r_iret dX8_link_19 rfl (⟨rfl, rfl⟩)
  · skip
    refine r_iload_n (pc2 := 10) dX8_link_9 rfl rfl ?_
    refine r_iconst (pc2 := 11) (nI 0) dX8_link_10 (by decide) rfl ?_
    refine r_iconst (pc2 := 12) (nI 3) dX8_link_11 (by decide) rfl ?_
    refine r_cs3p (pc2 := 15) dX8_link_12 st_X8_link_54 (Nat.le_of_ble_eq_true rfl) rfl (c_X8_in) ?_
    refine r_ifB_ne (pc2 := 18) (tgt := 20) dX8_link_15 (by decide) rfl (fun c15 => ?_) (fun c15 => ?_)
    · skip
      exact absurd ⟨of_decide_eq_true c6, of_decide_eq_true c15⟩ hbad
    · skip
      refine r_iconst (pc2 := 19) (-1) dX8_link_18 (by decide) rfl ?_
      exact r_iret dX8_link_19 rfl (⟨rfl, rfl⟩)

set_option maxRecDepth 100000 in
set_option maxHeartbeats 4000000 in
theorem c_X8_link_ok {PL : List (Nat × Nat)} {V : Mm_} {s : Sg_} (h : RT_ (V 0 34) s) {n : Nat} (hm : V 0 33 0 = nI n) (hn1 : 2 ≤ n) (hn8 : n ≤ 8) {i j : Nat} (hi : i < n) (hj : j < n) (hij : ¬ i = j) {w : Nat} (hw : w < 4) : Cp_ PL mX8_link [vR 0 33, vI (nI i), vI (nI j), vI (nI w)] V (if 0 < s 2 (i * 8 + j) then s (2 + w) (i * 8 + j) else -4) := by
  refine Ca_.of mv_X8_link.2.2.2.2.2.2 0 (lo := [some (vR 0 33), some (vI (nI i)), some (vI (nI j)), some (vI (nI w))]) rfl (Nat.le_of_ble_eq_true rfl) ?_
  refine r_aload_n (pc2 := 1) dX8_link_0 rfl rfl ?_
  refine r_iload_n (pc2 := 2) dX8_link_1 rfl rfl ?_
  refine r_iload_n (pc2 := 3) dX8_link_2 rfl rfl ?_
  refine r_cv2p (pc2 := 6) dX8_link_3 st_X8_link_74 rl_X8_arePair (Nat.le_of_ble_eq_true rfl) rfl (c_arePair_ok hm hn1 hn8 hi hj hij) ?_
  refine r_if0N_eq (pc2 := 9) (tgt := 18) (by omega) dX8_link_6 (by decide) rfl (fun c6 => ?_) (fun c6 => ?_)
  · skip
    exact absurd c6 (by decide)
  · skip
    refine r_iload_n (pc2 := 10) dX8_link_9 rfl rfl ?_
    refine r_iconst (pc2 := 11) (nI 0) dX8_link_10 (by decide) rfl ?_
    refine r_iconst (pc2 := 12) (nI 3) dX8_link_11 (by decide) rfl ?_
    refine r_cs3p (pc2 := 15) dX8_link_12 st_X8_link_54 (Nat.le_of_ble_eq_true rfl) rfl (c_in_ok ⟨nI_pos' (by omega), nI_le (by omega) (by omega)⟩) ?_
    refine r_if0N_ne (pc2 := 18) (tgt := 20) (by omega) dX8_link_15 (by decide) rfl (fun c15 => ?_) (fun c15 => ?_)
    · skip
      refine r_aload_n (pc2 := 21) dX8_link_20 rfl rfl ?_
      refine r_iload_n (pc2 := 22) dX8_link_21 rfl rfl ?_
      refine r_iload_n (pc2 := 23) dX8_link_22 rfl rfl ?_
      refine r_cv2p (pc2 := 26) dX8_link_23 st_X8_link_66 rl_X8_isLink (Nat.le_of_ble_eq_true rfl) rfl (c_X8_isLink h (by omega) (by omega)) ?_
      refine r_ifB_eq (pc2 := 29) (tgt := 43) dX8_link_26 (by decide) rfl (fun c26 => ?_) (fun c26 => ?_)
      · skip
        refine r_bipush (pc2 := 45) (-4) dX8_link_43 (by decide) rfl ?_
        exact r_iret dX8_link_45 rfl (⟨by rw [if_neg (of_decide_eq_false c26)], rfl⟩)
      · skip
        refine r_aload_n (pc2 := 30) dX8_link_29 rfl rfl ?_
        refine r_getR (pc2 := 33) dX8_link_30 fl_X8_13 (by decide) rfl rfl rfl ?_
        refine r_iload_n (pc2 := 34) dX8_link_33 rfl rfl ?_
        refine r_iload_n (pc2 := 35) dX8_link_34 rfl rfl ?_
        refine r_iload_n (pc2 := 36) dX8_link_35 rfl rfl ?_
        refine r_cs3p (pc2 := 39) dX8_link_36 st_X8_link_62 (Nat.le_of_ble_eq_true rfl) rfl (c_X8_linkAt) ?_
        refine r_ialde (pc2 := 40) (x := ((s (2 + w) (i * 8 + j)))) (j := _) (h.lk (i * 8 + j) w (by omega) hw) dX8_link_39 (by decide) rfl rfl (rfl) (by show _ < 3596; omega) rfl ?_
        refine r_goto (pc2 := 45) dX8_link_40 (by decide) ?_
        exact r_iret dX8_link_45 rfl (⟨by rw [if_pos (of_decide_eq_true c26)], rfl⟩)
    · skip
      exact absurd c15 (by decide)

set_option maxRecDepth 100000 in
set_option maxHeartbeats 4000000 in
theorem c_X8_entry_bad {PL : List (Nat × Nat)} {V : Mm_} {n : Nat} (hm : V 0 33 0 = nI n) (hn1 : 2 ≤ n) (hn8 : n ≤ 8) {a b c x : Int32} (hbad : ¬ (pr_ok (nI n) a b ∧ pr_ok (nI n) a c ∧ nI 0 ≤ x ∧ x ≤ nI 6)) : Cp_ PL mX8_entry [vR 0 33, vI a, vI b, vI c, vI x] V ((-1)) := by
  refine Ca_.of mv_X8_entry.2.2.2.2.2.2 0 (lo := [some (vR 0 33), some (vI a), some (vI b), some (vI c), some (vI x)]) rfl (Nat.le_of_ble_eq_true rfl) ?_
  refine r_aload_n (pc2 := 1) dX8_entry_0 rfl rfl ?_
  refine r_iload_n (pc2 := 2) dX8_entry_1 rfl rfl ?_
  refine r_iload_n (pc2 := 3) dX8_entry_2 rfl rfl ?_
  refine r_cv2p (pc2 := 6) dX8_entry_3 st_X8_entry_74 rl_X8_arePair (Nat.le_of_ble_eq_true rfl) rfl (c_X8_arePair hm hn1 hn8) ?_
  refine r_ifB_eq (pc2 := 9) (tgt := 29) dX8_entry_6 (by decide) rfl (fun c6 => ?_) (fun c6 => ?_)
  · skip
    refine r_iconst (pc2 := 30) (-1) dX8_entry_29 (by decide) rfl ?_
    exact r_iret dX8_entry_30 rfl (⟨rfl, rfl⟩)
  · skip
    refine r_aload_n (pc2 := 10) dX8_entry_9 rfl rfl ?_
    refine r_iload_n (pc2 := 11) dX8_entry_10 rfl rfl ?_
    refine r_iload_n (pc2 := 12) dX8_entry_11 rfl rfl ?_
    refine r_cv2p (pc2 := 15) dX8_entry_12 st_X8_entry_74 rl_X8_arePair (Nat.le_of_ble_eq_true rfl) rfl (c_X8_arePair hm hn1 hn8) ?_
    refine r_ifB_eq (pc2 := 18) (tgt := 29) dX8_entry_15 (by decide) rfl (fun c15 => ?_) (fun c15 => ?_)
    · skip
      refine r_iconst (pc2 := 30) (-1) dX8_entry_29 (by decide) rfl ?_
      exact r_iret dX8_entry_30 rfl (⟨rfl, rfl⟩)
    · skip
      refine r_iload (pc2 := 20) dX8_entry_18 rfl rfl ?_
      refine r_iconst (pc2 := 21) (nI 0) dX8_entry_20 (by decide) rfl ?_
      refine r_bipush (pc2 := 23) (nI 6) dX8_entry_21 (by decide) rfl ?_
      refine r_cs3p (pc2 := 26) dX8_entry_23 st_X8_entry_54 (Nat.le_of_ble_eq_true rfl) rfl (c_X8_in) ?_
      refine r_ifB_ne (pc2 := 29) (tgt := 31) dX8_entry_26 (by decide) rfl (fun c26 => ?_) (fun c26 => ?_)
      · skip
        exact absurd ⟨of_decide_eq_true c6, of_decide_eq_true c15, of_decide_eq_true c26⟩ hbad
      · skip
        refine r_iconst (pc2 := 30) (-1) dX8_entry_29 (by decide) rfl ?_
        exact r_iret dX8_entry_30 rfl (⟨rfl, rfl⟩)

set_option maxRecDepth 100000 in
set_option maxHeartbeats 4000000 in
theorem c_X8_entry_ok {PL : List (Nat × Nat)} {V : Mm_} {s : Sg_} (h : RT_ (V 0 34) s) {n : Nat} (hm : V 0 33 0 = nI n) (hn1 : 2 ≤ n) (hn8 : n ≤ 8) {i j : Nat} (hi : i < n) (hj : j < n) (hij : ¬ i = j) {c w : Nat} (hc : c < n) (hic : ¬ i = c) (hw : w < 7) : Cp_ PL mX8_entry [vR 0 33, vI (nI i), vI (nI j), vI (nI c), vI (nI w)] V (if 0 < s 9 ((i * 8 + j) * 8 + c) then en_ s (V 0 37 6) n i j c w else -4) := by
  refine Ca_.of mv_X8_entry.2.2.2.2.2.2 0 (lo := [some (vR 0 33), some (vI (nI i)), some (vI (nI j)), some (vI (nI c)), some (vI (nI w))]) rfl (Nat.le_of_ble_eq_true rfl) ?_
  refine r_aload_n (pc2 := 1) dX8_entry_0 rfl rfl ?_
  refine r_iload_n (pc2 := 2) dX8_entry_1 rfl rfl ?_
  refine r_iload_n (pc2 := 3) dX8_entry_2 rfl rfl ?_
  refine r_cv2p (pc2 := 6) dX8_entry_3 st_X8_entry_74 rl_X8_arePair (Nat.le_of_ble_eq_true rfl) rfl (c_arePair_ok hm hn1 hn8 hi hj hij) ?_
  refine r_if0N_eq (pc2 := 9) (tgt := 29) (by omega) dX8_entry_6 (by decide) rfl (fun c6 => ?_) (fun c6 => ?_)
  · skip
    exact absurd c6 (by decide)
  · skip
    refine r_aload_n (pc2 := 10) dX8_entry_9 rfl rfl ?_
    refine r_iload_n (pc2 := 11) dX8_entry_10 rfl rfl ?_
    refine r_iload_n (pc2 := 12) dX8_entry_11 rfl rfl ?_
    refine r_cv2p (pc2 := 15) dX8_entry_12 st_X8_entry_74 rl_X8_arePair (Nat.le_of_ble_eq_true rfl) rfl (c_arePair_ok hm hn1 hn8 hi hc hic) ?_
    refine r_if0N_eq (pc2 := 18) (tgt := 29) (by omega) dX8_entry_15 (by decide) rfl (fun c15 => ?_) (fun c15 => ?_)
    · skip
      exact absurd c15 (by decide)
    · skip
      refine r_iload (pc2 := 20) dX8_entry_18 rfl rfl ?_
      refine r_iconst (pc2 := 21) (nI 0) dX8_entry_20 (by decide) rfl ?_
      refine r_bipush (pc2 := 23) (nI 6) dX8_entry_21 (by decide) rfl ?_
      refine r_cs3p (pc2 := 26) dX8_entry_23 st_X8_entry_54 (Nat.le_of_ble_eq_true rfl) rfl (c_in_ok ⟨nI_pos' (by omega), nI_le (by omega) (by omega)⟩) ?_
      refine r_if0N_ne (pc2 := 29) (tgt := 31) (by omega) dX8_entry_26 (by decide) rfl (fun c26 => ?_) (fun c26 => ?_)
      · skip
        refine r_aload_n (pc2 := 32) dX8_entry_31 rfl rfl ?_
        refine r_iload_n (pc2 := 33) dX8_entry_32 rfl rfl ?_
        refine r_iload_n (pc2 := 34) dX8_entry_33 rfl rfl ?_
        refine r_iload_n (pc2 := 35) dX8_entry_34 rfl rfl ?_
        refine r_cv3p (pc2 := 38) dX8_entry_35 st_X8_entry_88 rl_X8_isEntry (Nat.le_of_ble_eq_true rfl) rfl (c_X8_isEntry h (by omega) (by omega) (by omega)) ?_
        refine r_ifB_ne (pc2 := 41) (tgt := 44) dX8_entry_38 (by decide) rfl (fun c38 => ?_) (fun c38 => ?_)
        · skip
          refine r_iload (pc2 := 46) dX8_entry_44 rfl rfl ?_
          refine r_iconst (pc2 := 47) (nI 5) dX8_entry_46 (by decide) rfl ?_
          refine r_icN_ge (pc2 := 50) (tgt := 64) (by omega) (by omega) dX8_entry_47 (by decide) rfl (fun c47 => ?_) (fun c47 => ?_)
          · skip
            refine r_iload (pc2 := 66) dX8_entry_64 rfl rfl ?_
            refine r_iconst (pc2 := 67) (nI 5) dX8_entry_66 (by decide) rfl ?_
            refine r_icN_ne (pc2 := 70) (tgt := 88) (by omega) (by omega) dX8_entry_67 (by decide) rfl (fun c67 => ?_) (fun c67 => ?_)
            · skip
              refine r_aload_n (pc2 := 89) dX8_entry_88 rfl rfl ?_
              refine r_iload_n (pc2 := 90) dX8_entry_89 rfl rfl ?_
              refine r_iload_n (pc2 := 91) dX8_entry_90 rfl rfl ?_
              refine r_iload_n (pc2 := 92) dX8_entry_91 rfl rfl ?_
              refine r_cv3p (pc2 := 95) dX8_entry_92 st_X8_entry_145 rl_X8_isDominated (Nat.le_of_ble_eq_true rfl) rfl (c_X8_isDominated h hm hn8 (by omega) (by omega) (by omega)) ?_
              refine r_ifB_eq (pc2 := 98) (tgt := 102) dX8_entry_95 (by decide) rfl (fun c95 => ?_) (fun c95 => ?_)
              · skip
                refine r_iconst (pc2 := 103) (nI 0) dX8_entry_102 (by decide) rfl ?_
                exact r_iret dX8_entry_103 rfl (⟨by rw [if_pos (of_decide_eq_true c38)]; unfold en_; rw [if_neg (by omega), if_neg c67, c95]; rfl, rfl⟩)
              · skip
                refine r_iconst (pc2 := 99) (nI 1) dX8_entry_98 (by decide) rfl ?_
                refine r_goto (pc2 := 103) dX8_entry_99 (by decide) ?_
                exact r_iret dX8_entry_103 rfl (⟨by rw [if_pos (of_decide_eq_true c38)]; unfold en_; rw [if_neg (by omega), if_neg c67, c95]; rfl, rfl⟩)
            · skip
              refine r_aload_n (pc2 := 71) dX8_entry_70 rfl rfl ?_
              refine r_iload_n (pc2 := 72) dX8_entry_71 rfl rfl ?_
              refine r_iload_n (pc2 := 73) dX8_entry_72 rfl rfl ?_
              refine r_iload_n (pc2 := 74) dX8_entry_73 rfl rfl ?_
              refine r_cv3p (pc2 := 77) dX8_entry_74 st_X8_entry_94 rl_X8_isUsable (Nat.le_of_ble_eq_true rfl) rfl (c_X8_isUsable h (by omega) (by omega) (by omega)) ?_
              refine r_ifB_eq (pc2 := 80) (tgt := 84) dX8_entry_77 (by decide) rfl (fun c77 => ?_) (fun c77 => ?_)
              · skip
                refine r_iconst (pc2 := 85) (nI 0) dX8_entry_84 (by decide) rfl ?_
                refine r_goto (pc2 := 103) dX8_entry_85 (by decide) ?_
                exact r_iret dX8_entry_103 rfl (⟨by rw [if_pos (of_decide_eq_true c38)]; unfold en_; rw [if_neg (by omega), if_pos c67, c77]; rfl, rfl⟩)
              · skip
                refine r_iconst (pc2 := 81) (nI 1) dX8_entry_80 (by decide) rfl ?_
                refine r_goto (pc2 := 103) dX8_entry_81 (by decide) ?_
                exact r_iret dX8_entry_103 rfl (⟨by rw [if_pos (of_decide_eq_true c38)]; unfold en_; rw [if_neg (by omega), if_pos c67, c77]; rfl, rfl⟩)
          · skip
            refine r_aload_n (pc2 := 51) dX8_entry_50 rfl rfl ?_
            refine r_iload_n (pc2 := 52) dX8_entry_51 rfl rfl ?_
            refine r_iload_n (pc2 := 53) dX8_entry_52 rfl rfl ?_
            refine r_iload_n (pc2 := 54) dX8_entry_53 rfl rfl ?_
            refine r_iload (pc2 := 56) dX8_entry_54 rfl rfl ?_
            refine r_iconst (pc2 := 57) (nI 1) dX8_entry_56 (by decide) rfl ?_
            refine r_iaddN (pc2 := 58) dX8_entry_57 rfl ?_
            refine r_cv4p (pc2 := 61) dX8_entry_58 st_X8_entry_85 rl_X8_of (Nat.le_of_ble_eq_true rfl) rfl (c_X8_of h (by omega) (by omega) (by omega) (by omega) (by omega) rfl) ?_
            refine r_goto (pc2 := 103) dX8_entry_61 (by decide) ?_
            exact r_iret dX8_entry_103 rfl (⟨by rw [if_pos (of_decide_eq_true c38)]; unfold en_; rw [if_pos c47]; exact congrArg (fun r => s r ((i * 8 + j) * 8 + c)) (by omega), rfl⟩)
        · skip
          refine r_bipush (pc2 := 43) (-4) dX8_entry_41 (by decide) rfl ?_
          exact r_iret dX8_entry_43 rfl (⟨by rw [if_neg (of_decide_eq_false c38)], rfl⟩)
      · skip
        exact absurd c26 (by decide)

set_option maxRecDepth 100000 in
set_option maxHeartbeats 4000000 in
theorem c_X8_distance_bad {PL : List (Nat × Nat)} {V : Mm_} {n : Nat} (hm : V 0 33 0 = nI n) (hn1 : 2 ≤ n) (hn8 : n ≤ 8) {a b x : Int32} (hbad : ¬ (0 ≤ a ∧ a < nI n ∧ 0 ≤ b ∧ b < nI n ∧ nI 0 ≤ x ∧ x ≤ nI 1)) : Cp_ PL mX8_distance [vR 0 33, vI a, vI b, vI x] V ((-1)) := by
  refine Ca_.of mv_X8_distance.2.2.2.2.2.2 1 (lo := [some (vR 0 33), some (vI a), some (vI b), some (vI x), none]) rfl (Nat.le_of_ble_eq_true rfl) ?_
  refine r_aload_n (pc2 := 1) dX8_distance_0 rfl rfl ?_
  refine r_iload_n (pc2 := 2) dX8_distance_1 rfl rfl ?_
  refine r_cv1p (pc2 := 5) dX8_distance_2 st_X8_distance_58 rl_X8_isNode (Nat.le_of_ble_eq_true rfl) rfl (c_X8_isNode hm hn1 hn8) ?_
  refine r_ifB_eq (pc2 := 8) (tgt := 25) dX8_distance_5 (by decide) rfl (fun c5 => ?_) (fun c5 => ?_)
  · skip
    refine r_iconst (pc2 := 26) (-1) dX8_distance_25 (by decide) rfl ?_
    exact r_iret dX8_distance_26 rfl (⟨rfl, rfl⟩)
  · skip
    refine r_aload_n (pc2 := 9) dX8_distance_8 rfl rfl ?_
    refine r_iload_n (pc2 := 10) dX8_distance_9 rfl rfl ?_
    refine r_cv1p (pc2 := 13) dX8_distance_10 st_X8_distance_58 rl_X8_isNode (Nat.le_of_ble_eq_true rfl) rfl (c_X8_isNode hm hn1 hn8) ?_
    refine r_ifB_eq (pc2 := 16) (tgt := 25) dX8_distance_13 (by decide) rfl (fun c13 => ?_) (fun c13 => ?_)
    · skip
      refine r_iconst (pc2 := 26) (-1) dX8_distance_25 (by decide) rfl ?_
      exact r_iret dX8_distance_26 rfl (⟨rfl, rfl⟩)
    · skip
      refine r_iload_n (pc2 := 17) dX8_distance_16 rfl rfl ?_
      refine r_iconst (pc2 := 18) (nI 0) dX8_distance_17 (by decide) rfl ?_
      refine r_iconst (pc2 := 19) (nI 1) dX8_distance_18 (by decide) rfl ?_
      refine r_cs3p (pc2 := 22) dX8_distance_19 st_X8_distance_54 (Nat.le_of_ble_eq_true rfl) rfl (c_X8_in) ?_
      refine r_ifB_ne (pc2 := 25) (tgt := 27) dX8_distance_22 (by decide) rfl (fun c22 => ?_) (fun c22 => ?_)
      · skip
        exact absurd ⟨(of_decide_eq_true c5).1, (of_decide_eq_true c5).2, (of_decide_eq_true c13).1, (of_decide_eq_true c13).2, of_decide_eq_true c22⟩ hbad
      · skip
        refine r_iconst (pc2 := 26) (-1) dX8_distance_25 (by decide) rfl ?_
        exact r_iret dX8_distance_26 rfl (⟨rfl, rfl⟩)

set_option maxRecDepth 100000 in
set_option maxHeartbeats 4000000 in
theorem c_X8_distance_ok0 {PL : List (Nat × Nat)} {V : Mm_} {s : Sg_} (h : RT_ (V 0 34) s) {n : Nat} (hm : V 0 33 0 = nI n) (hn1 : 2 ≤ n) (hn8 : n ≤ 8) {i j : Nat} (hi : i < n) (hj : j < n) : Cp_ PL mX8_distance [vR 0 33, vI (nI i), vI (nI j), vI (nI 0)] V (if du_ s (V 0 37 6) n i j = -1 then -4 else dl_ s (V 0 37 6) n i j) := by
  refine Ca_.of mv_X8_distance.2.2.2.2.2.2 1 (lo := [some (vR 0 33), some (vI (nI i)), some (vI (nI j)), some (vI (nI 0)), none]) rfl (Nat.le_of_ble_eq_true rfl) ?_
  refine r_aload_n (pc2 := 1) dX8_distance_0 rfl rfl ?_
  refine r_iload_n (pc2 := 2) dX8_distance_1 rfl rfl ?_
  refine r_cv1p (pc2 := 5) dX8_distance_2 st_X8_distance_58 rl_X8_isNode (Nat.le_of_ble_eq_true rfl) rfl (c_isNode8_ok hm hn1 hn8 hi) ?_
  refine r_if0N_eq (pc2 := 8) (tgt := 25) (by omega) dX8_distance_5 (by decide) rfl (fun c5 => ?_) (fun c5 => ?_)
  · skip
    exact absurd c5 (by decide)
  · skip
    refine r_aload_n (pc2 := 9) dX8_distance_8 rfl rfl ?_
    refine r_iload_n (pc2 := 10) dX8_distance_9 rfl rfl ?_
    refine r_cv1p (pc2 := 13) dX8_distance_10 st_X8_distance_58 rl_X8_isNode (Nat.le_of_ble_eq_true rfl) rfl (c_isNode8_ok hm hn1 hn8 hj) ?_
    refine r_if0N_eq (pc2 := 16) (tgt := 25) (by omega) dX8_distance_13 (by decide) rfl (fun c13 => ?_) (fun c13 => ?_)
    · skip
      exact absurd c13 (by decide)
    · skip
      refine r_iload_n (pc2 := 17) dX8_distance_16 rfl rfl ?_
      refine r_iconst (pc2 := 18) (nI 0) dX8_distance_17 (by decide) rfl ?_
      refine r_iconst (pc2 := 19) (nI 1) dX8_distance_18 (by decide) rfl ?_
      refine r_cs3p (pc2 := 22) dX8_distance_19 st_X8_distance_54 (Nat.le_of_ble_eq_true rfl) rfl (c_in_ok ⟨nI_pos' (by omega), nI_le (by omega) (by omega)⟩) ?_
      refine r_if0N_ne (pc2 := 25) (tgt := 27) (by omega) dX8_distance_22 (by decide) rfl (fun c22 => ?_) (fun c22 => ?_)
      · skip
        refine r_aload_n (pc2 := 28) dX8_distance_27 rfl rfl ?_
        refine r_iload_n (pc2 := 29) dX8_distance_28 rfl rfl ?_
        refine r_iload_n (pc2 := 30) dX8_distance_29 rfl rfl ?_
        refine r_iload_n (pc2 := 31) dX8_distance_30 rfl rfl ?_
        refine r_iconst (pc2 := 32) (nI 1) dX8_distance_31 (by decide) rfl ?_
        refine r_iaddN (pc2 := 33) dX8_distance_32 rfl ?_
        refine r_cv3p (pc2 := 36) dX8_distance_33 st_X8_distance_104 rl_X8_boundOf (Nat.le_of_ble_eq_true rfl) rfl (c_X8_boundOf1 h hm hn8 (by omega) (by omega)) ?_
        refine r_istore (pc2 := 38) dX8_distance_36 (by decide) rfl rfl ?_
        refine r_iload (pc2 := 40) dX8_distance_38 rfl rfl ?_
        refine r_if_ge (pc2 := 43) (tgt := 48) dX8_distance_40 (by decide) rfl (fun c40 => ?_) (fun c40 => ?_)
        · skip
          refine r_iload (pc2 := 50) dX8_distance_48 rfl rfl ?_
          exact r_iret dX8_distance_50 rfl (⟨by rcases dl_b (inf := V 0 37 6) (a := i) (b := j) h.iv (by omega) (by omega) hn8 with ⟨q1, q2⟩ | ⟨q1, q2, q3⟩ <;> first | (rw [if_pos q1]; first | done | (rw [q2] at c40; exact absurd c40 (by decide))) | (rw [if_neg q1]; first | done | exact absurd q2 c40), rfl⟩)
        · skip
          refine r_bipush (pc2 := 45) (-4) dX8_distance_43 (by decide) rfl ?_
          refine r_goto (pc2 := 50) dX8_distance_45 (by decide) ?_
          exact r_iret dX8_distance_50 rfl (⟨by rcases dl_b (inf := V 0 37 6) (a := i) (b := j) h.iv (by omega) (by omega) hn8 with ⟨q1, q2⟩ | ⟨q1, q2, q3⟩ <;> first | (rw [if_pos q1]; first | done | (rw [q2] at c40; exact absurd c40 (by decide))) | (rw [if_neg q1]; first | done | exact absurd q2 c40), rfl⟩)
      · skip
        exact absurd c22 (by decide)

set_option maxRecDepth 100000 in
set_option maxHeartbeats 4000000 in
theorem c_X8_distance_ok1 {PL : List (Nat × Nat)} {V : Mm_} {s : Sg_} (h : RT_ (V 0 34) s) {n : Nat} (hm : V 0 33 0 = nI n) (hn1 : 2 ≤ n) (hn8 : n ≤ 8) {i j : Nat} (hi : i < n) (hj : j < n) : Cp_ PL mX8_distance [vR 0 33, vI (nI i), vI (nI j), vI (nI 1)] V (if du_ s (V 0 37 6) n i j = -1 then -4 else du_ s (V 0 37 6) n i j) := by
  refine Ca_.of mv_X8_distance.2.2.2.2.2.2 1 (lo := [some (vR 0 33), some (vI (nI i)), some (vI (nI j)), some (vI (nI 1)), none]) rfl (Nat.le_of_ble_eq_true rfl) ?_
  refine r_aload_n (pc2 := 1) dX8_distance_0 rfl rfl ?_
  refine r_iload_n (pc2 := 2) dX8_distance_1 rfl rfl ?_
  refine r_cv1p (pc2 := 5) dX8_distance_2 st_X8_distance_58 rl_X8_isNode (Nat.le_of_ble_eq_true rfl) rfl (c_isNode8_ok hm hn1 hn8 hi) ?_
  refine r_if0N_eq (pc2 := 8) (tgt := 25) (by omega) dX8_distance_5 (by decide) rfl (fun c5 => ?_) (fun c5 => ?_)
  · skip
    exact absurd c5 (by decide)
  · skip
    refine r_aload_n (pc2 := 9) dX8_distance_8 rfl rfl ?_
    refine r_iload_n (pc2 := 10) dX8_distance_9 rfl rfl ?_
    refine r_cv1p (pc2 := 13) dX8_distance_10 st_X8_distance_58 rl_X8_isNode (Nat.le_of_ble_eq_true rfl) rfl (c_isNode8_ok hm hn1 hn8 hj) ?_
    refine r_if0N_eq (pc2 := 16) (tgt := 25) (by omega) dX8_distance_13 (by decide) rfl (fun c13 => ?_) (fun c13 => ?_)
    · skip
      exact absurd c13 (by decide)
    · skip
      refine r_iload_n (pc2 := 17) dX8_distance_16 rfl rfl ?_
      refine r_iconst (pc2 := 18) (nI 0) dX8_distance_17 (by decide) rfl ?_
      refine r_iconst (pc2 := 19) (nI 1) dX8_distance_18 (by decide) rfl ?_
      refine r_cs3p (pc2 := 22) dX8_distance_19 st_X8_distance_54 (Nat.le_of_ble_eq_true rfl) rfl (c_in_ok ⟨nI_pos' (by omega), nI_le (by omega) (by omega)⟩) ?_
      refine r_if0N_ne (pc2 := 25) (tgt := 27) (by omega) dX8_distance_22 (by decide) rfl (fun c22 => ?_) (fun c22 => ?_)
      · skip
        refine r_aload_n (pc2 := 28) dX8_distance_27 rfl rfl ?_
        refine r_iload_n (pc2 := 29) dX8_distance_28 rfl rfl ?_
        refine r_iload_n (pc2 := 30) dX8_distance_29 rfl rfl ?_
        refine r_iload_n (pc2 := 31) dX8_distance_30 rfl rfl ?_
        refine r_iconst (pc2 := 32) (nI 1) dX8_distance_31 (by decide) rfl ?_
        refine r_iaddN (pc2 := 33) dX8_distance_32 rfl ?_
        refine r_cv3p (pc2 := 36) dX8_distance_33 st_X8_distance_104 rl_X8_boundOf (Nat.le_of_ble_eq_true rfl) rfl (c_X8_boundOf2 h hm hn8 (by omega) (by omega)) ?_
        refine r_istore (pc2 := 38) dX8_distance_36 (by decide) rfl rfl ?_
        refine r_iload (pc2 := 40) dX8_distance_38 rfl rfl ?_
        refine r_if_ge (pc2 := 43) (tgt := 48) dX8_distance_40 (by decide) rfl (fun c40 => ?_) (fun c40 => ?_)
        · skip
          refine r_iload (pc2 := 50) dX8_distance_48 rfl rfl ?_
          exact r_iret dX8_distance_50 rfl (⟨by rcases du_b (inf := V 0 37 6) (a := i) (b := j) h.iv (by omega) (by omega) hn8 with q1 | q1 <;> first | (rw [if_pos q1]; first | done | (rw [q1] at c40; exact absurd c40 (by decide))) | (rw [if_neg (fun z => by rw [z] at q1; exact absurd q1.1 (by decide))]; first | done | exact absurd q1.1 c40), rfl⟩)
        · skip
          refine r_bipush (pc2 := 45) (-4) dX8_distance_43 (by decide) rfl ?_
          refine r_goto (pc2 := 50) dX8_distance_45 (by decide) ?_
          exact r_iret dX8_distance_50 rfl (⟨by rcases du_b (inf := V 0 37 6) (a := i) (b := j) h.iv (by omega) (by omega) hn8 with q1 | q1 <;> first | (rw [if_pos q1]; first | done | (rw [q1] at c40; exact absurd c40 (by decide))) | (rw [if_neg (fun z => by rw [z] at q1; exact absurd q1.1 (by decide))]; first | done | exact absurd q1.1 c40), rfl⟩)
      · skip
        exact absurd c22 (by decide)

set_option maxRecDepth 100000 in
set_option maxHeartbeats 4000000 in
theorem c_X8_choice_bad {PL : List (Nat × Nat)} {V : Mm_} {n : Nat} (hm : V 0 33 0 = nI n) (hn1 : 2 ≤ n) (hn8 : n ≤ 8) {a b : Int32} (hbad : ¬ (pr_ok (nI n) a b)) : Cp_ PL mX8_choice [vR 0 33, vI a, vI b] V ((-1)) := by
  refine Ca_.of mv_X8_choice.2.2.2.2.2.2 1 (lo := [some (vR 0 33), some (vI a), some (vI b), none]) rfl (Nat.le_of_ble_eq_true rfl) ?_
  refine r_aload_n (pc2 := 1) dX8_choice_0 rfl rfl ?_
  refine r_iload_n (pc2 := 2) dX8_choice_1 rfl rfl ?_
  refine r_iload_n (pc2 := 3) dX8_choice_2 rfl rfl ?_
  refine r_cv2p (pc2 := 6) dX8_choice_3 st_X8_choice_74 rl_X8_arePair (Nat.le_of_ble_eq_true rfl) rfl (c_X8_arePair hm hn1 hn8) ?_
  refine r_ifB_ne (pc2 := 9) (tgt := 11) dX8_choice_6 (by decide) rfl (fun c6 => ?_) (fun c6 => ?_)
  · skip
    exact absurd (of_decide_eq_true c6) hbad
  · skip
    refine r_iconst (pc2 := 10) (-1) dX8_choice_9 (by decide) rfl ?_
    exact r_iret dX8_choice_10 rfl (⟨rfl, rfl⟩)

set_option maxRecDepth 100000 in
set_option maxHeartbeats 4000000 in
theorem c_X8_choice_ok {PL : List (Nat × Nat)} {V : Mm_} {s : Sg_} (h : RT_ (V 0 34) s) {n : Nat} (hm : V 0 33 0 = nI n) (hn1 : 2 ≤ n) (hn8 : n ≤ 8) {i j : Nat} (hi : i < n) (hj : j < n) (hij : ¬ i = j) (hr : ru_ (V 0 37 2)) : Cp_ PL mX8_choice [vR 0 33, vI (nI i), vI (nI j)] V (if ch_ (V 0 37 2) s (V 0 37 6) n i j = -1 then -4 else ch_ (V 0 37 2) s (V 0 37 6) n i j) := by
  refine Ca_.of mv_X8_choice.2.2.2.2.2.2 1 (lo := [some (vR 0 33), some (vI (nI i)), some (vI (nI j)), none]) rfl (Nat.le_of_ble_eq_true rfl) ?_
  refine r_aload_n (pc2 := 1) dX8_choice_0 rfl rfl ?_
  refine r_iload_n (pc2 := 2) dX8_choice_1 rfl rfl ?_
  refine r_iload_n (pc2 := 3) dX8_choice_2 rfl rfl ?_
  refine r_cv2p (pc2 := 6) dX8_choice_3 st_X8_choice_74 rl_X8_arePair (Nat.le_of_ble_eq_true rfl) rfl (c_arePair_ok hm hn1 hn8 hi hj hij) ?_
  refine r_if0N_ne (pc2 := 9) (tgt := 11) (by omega) dX8_choice_6 (by decide) rfl (fun c6 => ?_) (fun c6 => ?_)
  · skip
    refine r_aload_n (pc2 := 12) dX8_choice_11 rfl rfl ?_
    refine r_iload_n (pc2 := 13) dX8_choice_12 rfl rfl ?_
    refine r_iload_n (pc2 := 14) dX8_choice_13 rfl rfl ?_
    refine r_cv2p (pc2 := 17) dX8_choice_14 st_X8_choice_107 rl_X8_choiceOf (Nat.le_of_ble_eq_true rfl) rfl (c_X8_choiceOf h hm hn1 hn8 hr (by omega) (by omega)) ?_
    refine r_istore_n (pc2 := 18) dX8_choice_17 (by decide) rfl rfl ?_
    refine r_iload_n (pc2 := 19) dX8_choice_18 rfl rfl ?_
    refine r_if_ge (pc2 := 22) (tgt := 27) dX8_choice_19 (by decide) rfl (fun c19 => ?_) (fun c19 => ?_)
    · skip
      refine r_iload_n (pc2 := 28) dX8_choice_27 rfl rfl ?_
      exact r_iret dX8_choice_28 rfl (⟨by rcases (ch_val : ch_ (V 0 37 2) s (V 0 37 6) n i j = -1 ∨ _) with q | ⟨y, hy, q⟩ <;> first | (rw [if_pos q]; first | done | (rw [q] at c19; exact absurd c19 (by decide))) | (rw [if_neg (fun z => nI_m1 (by omega) (q.symm.trans z))]; first | done | exact absurd (by rw [q]; exact nI_pos' (by omega)) c19), rfl⟩)
    · skip
      refine r_bipush (pc2 := 24) (-4) dX8_choice_22 (by decide) rfl ?_
      refine r_goto (pc2 := 28) dX8_choice_24 (by decide) ?_
      exact r_iret dX8_choice_28 rfl (⟨by rcases (ch_val : ch_ (V 0 37 2) s (V 0 37 6) n i j = -1 ∨ _) with q | ⟨y, hy, q⟩ <;> first | (rw [if_pos q]; first | done | (rw [q] at c19; exact absurd c19 (by decide))) | (rw [if_neg (fun z => nI_m1 (by omega) (q.symm.trans z))]; first | done | exact absurd (by rw [q]; exact nI_pos' (by omega)) c19), rfl⟩)
  · skip
    exact absurd c6 (by decide)
