/-! class: its face, journal, tables, ticks: written by wip/whole/m10.py -/
def js_ (m : Nat) : Nat := if 16 < m then 16 else m
theorem js_le (m : Nat) : js_ m ≤ 16 ∧ js_ m ≤ m := by unfold js_; split <;> omega
theorem c_size {PL : List (Nat × Nat)} {m : Nat} {V : Mm_} (hm : V 1 15 1 = nI m) (hm9 : m < 2 ^ 30) : Cp_ PL mX0_size [vR 1 15] V (nI (js_ m)) :=
  Ca_.mono c_X0_size (by
    rintro r V' ⟨x, rfl, rfl, rfl⟩
    refine ⟨_, rfl, ?_, rfl⟩
    rw [hm]
    unfold js_
    by_cases h : 16 < m
    · rw [if_pos h, if_pos (nI_lt h (by omega))]
    · rw [if_neg h, if_neg (nI_nlt (by omega) (by decide))])
/-- a value of an entry -/
def en_ (s : Sg_) (inf : Int32) (n i j c w : Nat) : Int32 := if w < 5 then s (7 + w) ((i * 8 + j) * 8 + c) else if w = 5 then b2 (us_ s inf i j c) else b2 (do_ s inf n i j c)
/-- an entry is counted -/
def cu_ (s : Sg_) (inf : Int32) (n i j w c : Nat) : Bool := decide (0 < s 9 ((i * 8 + j) * 8 + c)) && (if w = 0 then true else if w = 1 then us_ s inf i j c else if w = 2 then do_ s inf n i j c else decide (s 0 1 ≤ s 11 ((i * 8 + j) * 8 + c)))

set_option maxRecDepth 100000 in
set_option maxHeartbeats 4000000 in
theorem c_X7_time {PL : List (Nat × Nat)} {V : Mm_} : Cp_ PL mX7_time [vR 0 18] V (V 1 0 1) := by
  refine Ca_.of mv_X7_time.2.2.2.2.2.2 0 (lo := [some (vR 0 18)]) rfl (Nat.le_of_ble_eq_true rfl) ?_
  refine r_aload_n (pc2 := 1) dX7_time_0 rfl rfl ?_
  refine r_getR (pc2 := 4) dX7_time_1 fl_X7_24 (by decide) rfl rfl rfl ?_
  refine r_getI (pc2 := 7) dX7_time_4 fl_X7_125 (by decide) rfl rfl rfl ?_
  exact r_iret dX7_time_7 rfl (⟨rfl, rfl⟩)

set_option maxRecDepth 100000 in
set_option maxHeartbeats 4000000 in
theorem c_X7_sent {PL : List (Nat × Nat)} {V : Mm_} : Cp_ PL mX7_sent [vR 0 18] V (V 1 0 2) := by
  refine Ca_.of mv_X7_sent.2.2.2.2.2.2 0 (lo := [some (vR 0 18)]) rfl (Nat.le_of_ble_eq_true rfl) ?_
  refine r_aload_n (pc2 := 1) dX7_sent_0 rfl rfl ?_
  refine r_getR (pc2 := 4) dX7_sent_1 fl_X7_24 (by decide) rfl rfl rfl ?_
  refine r_getI (pc2 := 7) dX7_sent_4 fl_X7_133 (by decide) rfl rfl rfl ?_
  exact r_iret dX7_sent_7 rfl (⟨rfl, rfl⟩)

set_option maxRecDepth 100000 in
set_option maxHeartbeats 4000000 in
theorem c_X7_journalSize {PL : List (Nat × Nat)} {m : Nat} {V : Mm_} (hm : V 1 15 1 = nI m) (hm9 : m < 2 ^ 30) : Cp_ PL mX7_journalSize [vR 0 18] V (nI (js_ m)) := by
  refine Ca_.of mv_X7_journalSize.2.2.2.2.2.2 0 (lo := [some (vR 0 18)]) rfl (Nat.le_of_ble_eq_true rfl) ?_
  refine r_aload_n (pc2 := 1) dX7_journalSize_0 rfl rfl ?_
  refine r_getR (pc2 := 4) dX7_journalSize_1 fl_X7_24 (by decide) rfl rfl rfl ?_
  refine r_getR (pc2 := 7) dX7_journalSize_4 fl_X7_197 (by decide) rfl rfl rfl ?_
  refine r_cv0p (pc2 := 10) dX7_journalSize_7 st_X7_journalSize_201 rl_X0_size (Nat.le_of_ble_eq_true rfl) rfl (c_size hm hm9) ?_
  exact r_iret dX7_journalSize_10 rfl (⟨rfl, rfl⟩)

set_option maxRecDepth 100000 in
set_option maxHeartbeats 4000000 in
theorem c_X7_journal_bad {PL : List (Nat × Nat)} {V : Mm_} {a x : Int32} (hbad : ¬ (0 ≤ a ∧ nI 0 ≤ x ∧ x ≤ nI 3)) : Cp_ PL mX7_journal [vR 0 18, vI a, vI x] V ((-1)) := by
  refine Ca_.of mv_X7_journal.2.2.2.2.2.2 0 (lo := [some (vR 0 18), some (vI a), some (vI x)]) rfl (Nat.le_of_ble_eq_true rfl) ?_
  refine r_iload_n (pc2 := 1) dX7_journal_0 rfl rfl ?_
  refine r_if_lt (pc2 := 4) (tgt := 13) dX7_journal_1 (by decide) rfl (fun c1 => ?_) (fun c1 => ?_)
  · skip
    refine r_iconst (pc2 := 14) (-1) dX7_journal_13 (by decide) rfl ?_
    exact r_iret dX7_journal_14 rfl (⟨rfl, rfl⟩)
  · skip
    refine r_iload_n (pc2 := 5) dX7_journal_4 rfl rfl ?_
    refine r_iconst (pc2 := 6) (nI 0) dX7_journal_5 (by decide) rfl ?_
    refine r_iconst (pc2 := 7) (nI 3) dX7_journal_6 (by decide) rfl ?_
    refine r_cs3p (pc2 := 10) dX7_journal_7 st_X7_journal_105 (Nat.le_of_ble_eq_true rfl) rfl (c_X7_isBetween) ?_
    refine r_ifB_ne (pc2 := 13) (tgt := 15) dX7_journal_10 (by decide) rfl (fun c10 => ?_) (fun c10 => ?_)
    · skip
      exact absurd ⟨Int32.not_lt.mp c1, of_decide_eq_true c10⟩ hbad
    · skip
      refine r_iconst (pc2 := 14) (-1) dX7_journal_13 (by decide) rfl ?_
      exact r_iret dX7_journal_14 rfl (⟨rfl, rfl⟩)

set_option maxRecDepth 100000 in
set_option maxHeartbeats 4000000 in
theorem c_X7_journal_ok {PL : List (Nat × Nat)} {V : Mm_} {m k w : Nat} (hm : V 1 15 1 = nI m) (hm9 : m < 2 ^ 30) (hk : k < 2 ^ 31) (hw : w < 4) : Cp_ PL mX7_journal [vR 0 18, vI (nI k), vI (nI w)] V (if k < js_ m then V 1 16 ((m - 1 - k) % 16 * 4 + w) else -4) := by
  refine Ca_.of mv_X7_journal.2.2.2.2.2.2 0 (lo := [some (vR 0 18), some (vI (nI k)), some (vI (nI w))]) rfl (Nat.le_of_ble_eq_true rfl) ?_
  have hj := js_le m
  refine r_iload_n (pc2 := 1) dX7_journal_0 rfl rfl ?_
  refine r_if_lt (pc2 := 4) (tgt := 13) dX7_journal_1 (by decide) rfl (fun c1 => ?_) (fun c1 => ?_)
  · skip
    exact absurd c1 (nI_pos hk)
  · skip
    refine r_iload_n (pc2 := 5) dX7_journal_4 rfl rfl ?_
    refine r_iconst (pc2 := 6) (nI 0) dX7_journal_5 (by decide) rfl ?_
    refine r_iconst (pc2 := 7) (nI 3) dX7_journal_6 (by decide) rfl ?_
    refine r_cs3p (pc2 := 10) dX7_journal_7 st_X7_journal_105 (Nat.le_of_ble_eq_true rfl) rfl (c_isBetween_ok ⟨nI_pos' (by omega), nI_le (by omega) (by omega)⟩) ?_
    refine r_if0N_ne (pc2 := 13) (tgt := 15) (by omega) dX7_journal_10 (by decide) rfl (fun c10 => ?_) (fun c10 => ?_)
    · skip
      refine r_iload_n (pc2 := 16) dX7_journal_15 rfl rfl ?_
      refine r_aload_n (pc2 := 17) dX7_journal_16 rfl rfl ?_
      refine r_getR (pc2 := 20) dX7_journal_17 fl_X7_24 (by decide) rfl rfl rfl ?_
      refine r_getR (pc2 := 23) dX7_journal_20 fl_X7_197 (by decide) rfl rfl rfl ?_
      refine r_cv0p (pc2 := 26) dX7_journal_23 st_X7_journal_201 rl_X0_size (Nat.le_of_ble_eq_true rfl) rfl (c_size hm hm9) ?_
      refine r_icN_lt (pc2 := 29) (tgt := 32) (by omega) (by omega) dX7_journal_26 (by decide) rfl (fun c26 => ?_) (fun c26 => ?_)
      · skip
        refine r_aload_n (pc2 := 33) dX7_journal_32 rfl rfl ?_
        refine r_getR (pc2 := 36) dX7_journal_33 fl_X7_24 (by decide) rfl rfl rfl ?_
        refine r_getR (pc2 := 39) dX7_journal_36 fl_X7_197 (by decide) rfl rfl rfl ?_
        refine r_iload_n (pc2 := 40) dX7_journal_39 rfl rfl ?_
        refine r_iload_n (pc2 := 41) dX7_journal_40 rfl rfl ?_
        refine r_cv2p (pc2 := 44) dX7_journal_41 st_X7_journal_207 rl_X0_value (Nat.le_of_ble_eq_true rfl) rfl (c_X0_value hm9 hm (by omega) hw) ?_
        exact r_iret dX7_journal_44 rfl (⟨by rw [if_pos c26], rfl⟩)
      · skip
        refine r_bipush (pc2 := 31) (-4) dX7_journal_29 (by decide) rfl ?_
        exact r_iret dX7_journal_31 rfl (⟨by rw [if_neg (by omega)], rfl⟩)
    · skip
      exact absurd c10 (by decide)

set_option maxRecDepth 100000 in
set_option maxHeartbeats 4000000 in
theorem c_X7_entry_bad {PL : List (Nat × Nat)} {V : Mm_} {n : Nat} (hn : V 1 0 0 = nI n) (hn8 : n ≤ 8) {a b c x : Int32} (hbad : ¬ (pr_ok (nI n) a b ∧ pr_ok (nI n) a c ∧ nI 0 ≤ x ∧ x ≤ nI 6)) : Cp_ PL mX7_entry [vR 0 18, vI a, vI b, vI c, vI x] V ((-1)) := by
  refine Ca_.of mv_X7_entry.2.2.2.2.2.2 1 (lo := [some (vR 0 18), some (vI a), some (vI b), some (vI c), some (vI x), none]) rfl (Nat.le_of_ble_eq_true rfl) ?_
  refine r_aload_n (pc2 := 1) dX7_entry_0 rfl rfl ?_
  refine r_iload_n (pc2 := 2) dX7_entry_1 rfl rfl ?_
  refine r_iload_n (pc2 := 3) dX7_entry_2 rfl rfl ?_
  refine r_cv2p (pc2 := 6) dX7_entry_3 st_X7_entry_64 rl_X7_isPair (Nat.le_of_ble_eq_true rfl) rfl (c_X7_isPair) ?_
  refine r_ifB_eq (pc2 := 9) (tgt := 29) dX7_entry_6 (by decide) rfl (fun c6 => ?_) (fun c6 => ?_)
  · skip
    refine r_iconst (pc2 := 30) (-1) dX7_entry_29 (by decide) rfl ?_
    exact r_iret dX7_entry_30 rfl (⟨rfl, rfl⟩)
  · skip
    refine r_aload_n (pc2 := 10) dX7_entry_9 rfl rfl ?_
    refine r_iload_n (pc2 := 11) dX7_entry_10 rfl rfl ?_
    refine r_iload_n (pc2 := 12) dX7_entry_11 rfl rfl ?_
    refine r_cv2p (pc2 := 15) dX7_entry_12 st_X7_entry_64 rl_X7_isPair (Nat.le_of_ble_eq_true rfl) rfl (c_X7_isPair) ?_
    refine r_ifB_eq (pc2 := 18) (tgt := 29) dX7_entry_15 (by decide) rfl (fun c15 => ?_) (fun c15 => ?_)
    · skip
      refine r_iconst (pc2 := 30) (-1) dX7_entry_29 (by decide) rfl ?_
      exact r_iret dX7_entry_30 rfl (⟨rfl, rfl⟩)
    · skip
      refine r_iload (pc2 := 20) dX7_entry_18 rfl rfl ?_
      refine r_iconst (pc2 := 21) (nI 0) dX7_entry_20 (by decide) rfl ?_
      refine r_bipush (pc2 := 23) (nI 6) dX7_entry_21 (by decide) rfl ?_
      refine r_cs3p (pc2 := 26) dX7_entry_23 st_X7_entry_105 (Nat.le_of_ble_eq_true rfl) rfl (c_X7_isBetween) ?_
      refine r_ifB_ne (pc2 := 29) (tgt := 31) dX7_entry_26 (by decide) rfl (fun c26 => ?_) (fun c26 => ?_)
      · skip
        exact absurd ⟨by rw [hn] at c6; exact of_decide_eq_true c6, by rw [hn] at c15; exact of_decide_eq_true c15, of_decide_eq_true c26⟩ hbad
      · skip
        refine r_iconst (pc2 := 30) (-1) dX7_entry_29 (by decide) rfl ?_
        exact r_iret dX7_entry_30 rfl (⟨rfl, rfl⟩)

set_option maxRecDepth 100000 in
set_option maxHeartbeats 4000000 in
theorem c_X7_entry_ok {PL : List (Nat × Nat)} {V : Mm_} {n : Nat} (hn : V 1 0 0 = nI n) (hn8 : n ≤ 8) {i j c : Nat} (hi : i < n) (hj : j < n) (hc : c < n) (hij : ¬ i = j) (hic : ¬ i = c) {w : Nat} (hw : w < 7) : Cp_ PL mX7_entry [vR 0 18, vI (nI i), vI (nI j), vI (nI c), vI (nI w)] V (if 0 < V 1 9 ((i * 8 + j) * 8 + c) then en_ (V 1) (V 0 19 6) n i j c w else -4) := by
  refine Ca_.of mv_X7_entry.2.2.2.2.2.2 1 (lo := [some (vR 0 18), some (vI (nI i)), some (vI (nI j)), some (vI (nI c)), some (vI (nI w)), none]) rfl (Nat.le_of_ble_eq_true rfl) ?_
  refine r_aload_n (pc2 := 1) dX7_entry_0 rfl rfl ?_
  refine r_iload_n (pc2 := 2) dX7_entry_1 rfl rfl ?_
  refine r_iload_n (pc2 := 3) dX7_entry_2 rfl rfl ?_
  refine r_cv2p (pc2 := 6) dX7_entry_3 st_X7_entry_64 rl_X7_isPair (Nat.le_of_ble_eq_true rfl) rfl (c_isPair_ok hn hn8 hi hj hij) ?_
  refine r_if0N_eq (pc2 := 9) (tgt := 29) (by omega) dX7_entry_6 (by decide) rfl (fun c6 => ?_) (fun c6 => ?_)
  · skip
    exact absurd c6 (by decide)
  · skip
    refine r_aload_n (pc2 := 10) dX7_entry_9 rfl rfl ?_
    refine r_iload_n (pc2 := 11) dX7_entry_10 rfl rfl ?_
    refine r_iload_n (pc2 := 12) dX7_entry_11 rfl rfl ?_
    refine r_cv2p (pc2 := 15) dX7_entry_12 st_X7_entry_64 rl_X7_isPair (Nat.le_of_ble_eq_true rfl) rfl (c_isPair_ok hn hn8 hi hc hic) ?_
    refine r_if0N_eq (pc2 := 18) (tgt := 29) (by omega) dX7_entry_15 (by decide) rfl (fun c15 => ?_) (fun c15 => ?_)
    · skip
      exact absurd c15 (by decide)
    · skip
      refine r_iload (pc2 := 20) dX7_entry_18 rfl rfl ?_
      refine r_iconst (pc2 := 21) (nI 0) dX7_entry_20 (by decide) rfl ?_
      refine r_bipush (pc2 := 23) (nI 6) dX7_entry_21 (by decide) rfl ?_
      refine r_cs3p (pc2 := 26) dX7_entry_23 st_X7_entry_105 (Nat.le_of_ble_eq_true rfl) rfl (c_isBetween_ok ⟨nI_pos' (by omega), nI_le (by omega) (by omega)⟩) ?_
      refine r_if0N_ne (pc2 := 29) (tgt := 31) (by omega) dX7_entry_26 (by decide) rfl (fun c26 => ?_) (fun c26 => ?_)
      · skip
        refine r_iload_n (pc2 := 32) dX7_entry_31 rfl rfl ?_
        refine r_iload_n (pc2 := 33) dX7_entry_32 rfl rfl ?_
        refine r_iload_n (pc2 := 34) dX7_entry_33 rfl rfl ?_
        refine r_cs3p (pc2 := 37) dX7_entry_34 st_X7_entry_136 (Nat.le_of_ble_eq_true rfl) rfl (c_X7_slot) ?_
        refine r_istore (pc2 := 39) dX7_entry_37 (by decide) rfl rfl ?_
        refine r_aload_n (pc2 := 40) dX7_entry_39 rfl rfl ?_
        refine r_getR (pc2 := 43) dX7_entry_40 fl_X7_24 (by decide) rfl rfl rfl ?_
        refine r_getR (pc2 := 46) dX7_entry_43 fl_X7_140 (by decide) rfl rfl rfl ?_
        refine r_iload (pc2 := 48) dX7_entry_46 rfl rfl ?_
        refine r_cv1p (pc2 := 51) dX7_entry_48 st_X7_entry_144 rl_X4_has (Nat.le_of_ble_eq_true rfl) rfl (c_X4_has (by omega)) ?_
        refine r_ifB_ne (pc2 := 54) (tgt := 57) dX7_entry_51 (by decide) rfl (fun c51 => ?_) (fun c51 => ?_)
        · skip
          refine r_iload (pc2 := 59) dX7_entry_57 rfl rfl ?_
          obtain rfl | rfl | rfl | rfl | rfl | rfl | rfl : w = 0 ∨ w = 1 ∨ w = 2 ∨ w = 3 ∨ w = 4 ∨ w = 5 ∨ w = 6 := by omega
          · skip
            refine r_swIn (tgt := 96) dX7_entry_59 (by decide) (by decide) (off := 37) (by decide) (by decide) ?_
            refine r_aload_n (pc2 := 97) dX7_entry_96 rfl rfl ?_
            refine r_getR (pc2 := 100) dX7_entry_97 fl_X7_24 (by decide) rfl rfl rfl ?_
            refine r_getR (pc2 := 103) dX7_entry_100 fl_X7_140 (by decide) rfl rfl rfl ?_
            refine r_getR (pc2 := 106) dX7_entry_103 fl_X7_149 (by decide) rfl rfl rfl ?_
            refine r_iload (pc2 := 108) dX7_entry_106 rfl rfl ?_
            refine r_iald (pc2 := 109) (j := _) dX7_entry_108 (by decide) rfl rfl (rfl) (by show _ < 512; omega) rfl ?_
            exact r_iret dX7_entry_109 rfl (⟨by rw [if_pos (of_decide_eq_true c51)]; rfl, rfl⟩)
          · skip
            refine r_swIn (tgt := 110) dX7_entry_59 (by decide) (by decide) (off := 51) (by decide) (by decide) ?_
            refine r_aload_n (pc2 := 111) dX7_entry_110 rfl rfl ?_
            refine r_getR (pc2 := 114) dX7_entry_111 fl_X7_24 (by decide) rfl rfl rfl ?_
            refine r_getR (pc2 := 117) dX7_entry_114 fl_X7_140 (by decide) rfl rfl rfl ?_
            refine r_getR (pc2 := 120) dX7_entry_117 fl_X7_150 (by decide) rfl rfl rfl ?_
            refine r_iload (pc2 := 122) dX7_entry_120 rfl rfl ?_
            refine r_iald (pc2 := 123) (j := _) dX7_entry_122 (by decide) rfl rfl (rfl) (by show _ < 512; omega) rfl ?_
            exact r_iret dX7_entry_123 rfl (⟨by rw [if_pos (of_decide_eq_true c51)]; rfl, rfl⟩)
          · skip
            refine r_swIn (tgt := 124) dX7_entry_59 (by decide) (by decide) (off := 65) (by decide) (by decide) ?_
            refine r_aload_n (pc2 := 125) dX7_entry_124 rfl rfl ?_
            refine r_getR (pc2 := 128) dX7_entry_125 fl_X7_24 (by decide) rfl rfl rfl ?_
            refine r_getR (pc2 := 131) dX7_entry_128 fl_X7_140 (by decide) rfl rfl rfl ?_
            refine r_getR (pc2 := 134) dX7_entry_131 fl_X7_151 (by decide) rfl rfl rfl ?_
            refine r_iload (pc2 := 136) dX7_entry_134 rfl rfl ?_
            refine r_iald (pc2 := 137) (j := _) dX7_entry_136 (by decide) rfl rfl (rfl) (by show _ < 512; omega) rfl ?_
            exact r_iret dX7_entry_137 rfl (⟨by rw [if_pos (of_decide_eq_true c51)]; rfl, rfl⟩)
          · skip
            refine r_swIn (tgt := 138) dX7_entry_59 (by decide) (by decide) (off := 79) (by decide) (by decide) ?_
            refine r_aload_n (pc2 := 139) dX7_entry_138 rfl rfl ?_
            refine r_getR (pc2 := 142) dX7_entry_139 fl_X7_24 (by decide) rfl rfl rfl ?_
            refine r_getR (pc2 := 145) dX7_entry_142 fl_X7_140 (by decide) rfl rfl rfl ?_
            refine r_getR (pc2 := 148) dX7_entry_145 fl_X7_154 (by decide) rfl rfl rfl ?_
            refine r_iload (pc2 := 150) dX7_entry_148 rfl rfl ?_
            refine r_iald (pc2 := 151) (j := _) dX7_entry_150 (by decide) rfl rfl (rfl) (by show _ < 512; omega) rfl ?_
            exact r_iret dX7_entry_151 rfl (⟨by rw [if_pos (of_decide_eq_true c51)]; rfl, rfl⟩)
          · skip
            refine r_swIn (tgt := 152) dX7_entry_59 (by decide) (by decide) (off := 93) (by decide) (by decide) ?_
            refine r_aload_n (pc2 := 153) dX7_entry_152 rfl rfl ?_
            refine r_getR (pc2 := 156) dX7_entry_153 fl_X7_24 (by decide) rfl rfl rfl ?_
            refine r_getR (pc2 := 159) dX7_entry_156 fl_X7_140 (by decide) rfl rfl rfl ?_
            refine r_getR (pc2 := 162) dX7_entry_159 fl_X7_157 (by decide) rfl rfl rfl ?_
            refine r_iload (pc2 := 164) dX7_entry_162 rfl rfl ?_
            refine r_iald (pc2 := 165) (j := _) dX7_entry_164 (by decide) rfl rfl (rfl) (by show _ < 512; omega) rfl ?_
            exact r_iret dX7_entry_165 rfl (⟨by rw [if_pos (of_decide_eq_true c51)]; rfl, rfl⟩)
          · skip
            refine r_swIn (tgt := 166) dX7_entry_59 (by decide) (by decide) (off := 107) (by decide) (by decide) ?_
            refine r_aload_n (pc2 := 167) dX7_entry_166 rfl rfl ?_
            refine r_getR (pc2 := 170) dX7_entry_167 fl_X7_24 (by decide) rfl rfl rfl ?_
            refine r_iload_n (pc2 := 171) dX7_entry_170 rfl rfl ?_
            refine r_iload_n (pc2 := 172) dX7_entry_171 rfl rfl ?_
            refine r_iload_n (pc2 := 173) dX7_entry_172 rfl rfl ?_
            refine r_aload_n (pc2 := 174) dX7_entry_173 rfl rfl ?_
            refine r_getR (pc2 := 177) dX7_entry_174 fl_X7_18 (by decide) rfl rfl rfl ?_
            refine r_bipush (pc2 := 179) (nI 6) dX7_entry_177 (by decide) rfl ?_
            refine r_iald (pc2 := 180) (j := _) dX7_entry_179 (by decide) rfl rfl (rfl) (by show _ < 10; omega) rfl ?_
            refine r_cv4p (pc2 := 183) dX7_entry_180 st_X7_entry_160 rl_X2_isUsable (Nat.le_of_ble_eq_true rfl) rfl (c_X2_isUsable (by omega) (by omega) (by omega)) ?_
            refine r_cs1p (pc2 := 186) dX7_entry_183 st_X7_entry_164 (Nat.le_of_ble_eq_true rfl) rfl (c_X7_asNumber) ?_
            exact r_iret dX7_entry_186 rfl (⟨by rw [if_pos (of_decide_eq_true c51)]; rfl, rfl⟩)
          · skip
            refine r_swOut (tgt := 187) dX7_entry_59 (by decide) (by decide) ?_
            refine r_aload_n (pc2 := 188) dX7_entry_187 rfl rfl ?_
            refine r_getR (pc2 := 191) dX7_entry_188 fl_X7_24 (by decide) rfl rfl rfl ?_
            refine r_iload_n (pc2 := 192) dX7_entry_191 rfl rfl ?_
            refine r_iload_n (pc2 := 193) dX7_entry_192 rfl rfl ?_
            refine r_iload_n (pc2 := 194) dX7_entry_193 rfl rfl ?_
            refine r_aload_n (pc2 := 195) dX7_entry_194 rfl rfl ?_
            refine r_getR (pc2 := 198) dX7_entry_195 fl_X7_18 (by decide) rfl rfl rfl ?_
            refine r_bipush (pc2 := 200) (nI 6) dX7_entry_198 (by decide) rfl ?_
            refine r_iald (pc2 := 201) (j := _) dX7_entry_200 (by decide) rfl rfl (rfl) (by show _ < 10; omega) rfl ?_
            refine r_cv4p (pc2 := 204) dX7_entry_201 st_X7_entry_168 rl_X2_isDominated (Nat.le_of_ble_eq_true rfl) rfl (c_X2_isDominated hn (by omega) (by omega) (by omega) (by omega)) ?_
            refine r_cs1p (pc2 := 207) dX7_entry_204 st_X7_entry_164 (Nat.le_of_ble_eq_true rfl) rfl (c_X7_asNumber) ?_
            exact r_iret dX7_entry_207 rfl (⟨by rw [if_pos (of_decide_eq_true c51)]; rfl, rfl⟩)
        · skip
          refine r_bipush (pc2 := 56) (-4) dX7_entry_54 (by decide) rfl ?_
          exact r_iret dX7_entry_56 rfl (⟨by rw [if_neg (of_decide_eq_false c51)], rfl⟩)
      · skip
        exact absurd c26 (by decide)

set_option maxRecDepth 100000 in
set_option maxHeartbeats 4000000 in
theorem c_X7_counts {PL : List (Nat × Nat)} {V : Mm_} {n : Nat} (hn : V 1 0 0 = nI n) (hn8 : n ≤ 8) {i j c w : Nat} (hi : i < n) (hj : j < n) (hc : c < n) (hw : w < 4) : Cp_ PL mX7_counts [vR 0 18, vI (nI i), vI (nI j), vI (nI c), vI (nI w)] V (b2 (cu_ (V 1) (V 0 19 6) n i j w c)) := by
  refine Ca_.of mv_X7_counts.2.2.2.2.2.2 1 (lo := [some (vR 0 18), some (vI (nI i)), some (vI (nI j)), some (vI (nI c)), some (vI (nI w)), none]) rfl (Nat.le_of_ble_eq_true rfl) ?_
  refine r_iload_n (pc2 := 1) dX7_counts_0 rfl rfl ?_
  refine r_iload_n (pc2 := 2) dX7_counts_1 rfl rfl ?_
  refine r_iload_n (pc2 := 3) dX7_counts_2 rfl rfl ?_
  refine r_cs3p (pc2 := 6) dX7_counts_3 st_X7_counts_136 (Nat.le_of_ble_eq_true rfl) rfl (c_X7_slot) ?_
  refine r_istore (pc2 := 8) dX7_counts_6 (by decide) rfl rfl ?_
  refine r_aload_n (pc2 := 9) dX7_counts_8 rfl rfl ?_
  refine r_getR (pc2 := 12) dX7_counts_9 fl_X7_24 (by decide) rfl rfl rfl ?_
  refine r_getR (pc2 := 15) dX7_counts_12 fl_X7_140 (by decide) rfl rfl rfl ?_
  refine r_iload (pc2 := 17) dX7_counts_15 rfl rfl ?_
  refine r_cv1p (pc2 := 20) dX7_counts_17 st_X7_counts_144 rl_X4_has (Nat.le_of_ble_eq_true rfl) rfl (c_X4_has (by omega)) ?_
  refine r_ifB_ne (pc2 := 23) (tgt := 25) dX7_counts_20 (by decide) rfl (fun c20 => ?_) (fun c20 => ?_)
  · skip
    refine r_iload (pc2 := 27) dX7_counts_25 rfl rfl ?_
    obtain rfl | rfl | rfl | rfl : w = 0 ∨ w = 1 ∨ w = 2 ∨ w = 3 := by omega
    · skip
      refine r_swIn (tgt := 52) dX7_counts_27 (by decide) (by decide) (off := 25) (by decide) (by decide) ?_
      refine r_iconst (pc2 := 53) (nI 1) dX7_counts_52 (by decide) rfl ?_
      exact r_zret dX7_counts_53 rfl (Or.inr rfl) (⟨b2_1 (by unfold cu_; rw [c20]; rfl), rfl⟩)
    · skip
      refine r_swIn (tgt := 54) dX7_counts_27 (by decide) (by decide) (off := 27) (by decide) (by decide) ?_
      refine r_aload_n (pc2 := 55) dX7_counts_54 rfl rfl ?_
      refine r_getR (pc2 := 58) dX7_counts_55 fl_X7_24 (by decide) rfl rfl rfl ?_
      refine r_iload_n (pc2 := 59) dX7_counts_58 rfl rfl ?_
      refine r_iload_n (pc2 := 60) dX7_counts_59 rfl rfl ?_
      refine r_iload_n (pc2 := 61) dX7_counts_60 rfl rfl ?_
      refine r_aload_n (pc2 := 62) dX7_counts_61 rfl rfl ?_
      refine r_getR (pc2 := 65) dX7_counts_62 fl_X7_18 (by decide) rfl rfl rfl ?_
      refine r_bipush (pc2 := 67) (nI 6) dX7_counts_65 (by decide) rfl ?_
      refine r_iald (pc2 := 68) (j := _) dX7_counts_67 (by decide) rfl rfl (rfl) (by show _ < 10; omega) rfl ?_
      refine r_cv4p (pc2 := 71) dX7_counts_68 st_X7_counts_160 rl_X2_isUsable (Nat.le_of_ble_eq_true rfl) rfl (c_X2_isUsable (by omega) (by omega) (by omega)) ?_
      exact r_zret dX7_counts_71 rfl (b2_01 _) (⟨by unfold cu_; rw [c20]; rfl, rfl⟩)
    · skip
      refine r_swIn (tgt := 72) dX7_counts_27 (by decide) (by decide) (off := 45) (by decide) (by decide) ?_
      refine r_aload_n (pc2 := 73) dX7_counts_72 rfl rfl ?_
      refine r_getR (pc2 := 76) dX7_counts_73 fl_X7_24 (by decide) rfl rfl rfl ?_
      refine r_iload_n (pc2 := 77) dX7_counts_76 rfl rfl ?_
      refine r_iload_n (pc2 := 78) dX7_counts_77 rfl rfl ?_
      refine r_iload_n (pc2 := 79) dX7_counts_78 rfl rfl ?_
      refine r_aload_n (pc2 := 80) dX7_counts_79 rfl rfl ?_
      refine r_getR (pc2 := 83) dX7_counts_80 fl_X7_18 (by decide) rfl rfl rfl ?_
      refine r_bipush (pc2 := 85) (nI 6) dX7_counts_83 (by decide) rfl ?_
      refine r_iald (pc2 := 86) (j := _) dX7_counts_85 (by decide) rfl rfl (rfl) (by show _ < 10; omega) rfl ?_
      refine r_cv4p (pc2 := 89) dX7_counts_86 st_X7_counts_168 rl_X2_isDominated (Nat.le_of_ble_eq_true rfl) rfl (c_X2_isDominated hn (by omega) (by omega) (by omega) (by omega)) ?_
      exact r_zret dX7_counts_89 rfl (b2_01 _) (⟨by unfold cu_; rw [c20]; rfl, rfl⟩)
    · skip
      refine r_swOut (tgt := 90) dX7_counts_27 (by decide) (by decide) ?_
      refine r_aload_n (pc2 := 91) dX7_counts_90 rfl rfl ?_
      refine r_getR (pc2 := 94) dX7_counts_91 fl_X7_24 (by decide) rfl rfl rfl ?_
      refine r_getI (pc2 := 97) dX7_counts_94 fl_X7_125 (by decide) rfl rfl rfl ?_
      refine r_aload_n (pc2 := 98) dX7_counts_97 rfl rfl ?_
      refine r_getR (pc2 := 101) dX7_counts_98 fl_X7_24 (by decide) rfl rfl rfl ?_
      refine r_getR (pc2 := 104) dX7_counts_101 fl_X7_140 (by decide) rfl rfl rfl ?_
      refine r_getR (pc2 := 107) dX7_counts_104 fl_X7_157 (by decide) rfl rfl rfl ?_
      refine r_iload (pc2 := 109) dX7_counts_107 rfl rfl ?_
      refine r_iald (pc2 := 110) (j := _) dX7_counts_109 (by decide) rfl rfl (rfl) (by show _ < 512; omega) rfl ?_
      refine r_ic_gt (pc2 := 113) (tgt := 117) dX7_counts_110 (by decide) rfl (fun c110 => ?_) (fun c110 => ?_)
      · skip
        refine r_iconst (pc2 := 118) (nI 0) dX7_counts_117 (by decide) rfl ?_
        exact r_zret dX7_counts_118 rfl (Or.inl rfl) (⟨b2_0 (by unfold cu_; rw [c20]; exact decide_eq_false (Int32.not_le.mpr c110)), rfl⟩)
      · skip
        refine r_iconst (pc2 := 114) (nI 1) dX7_counts_113 (by decide) rfl ?_
        refine r_goto (pc2 := 118) dX7_counts_114 (by decide) ?_
        exact r_zret dX7_counts_118 rfl (Or.inr rfl) (⟨b2_1 (by unfold cu_; rw [c20]; exact decide_eq_true (Int32.not_lt.mp c110)), rfl⟩)
  · skip
    refine r_iconst (pc2 := 24) (nI 0) dX7_counts_23 (by decide) rfl ?_
    exact r_zret dX7_counts_24 rfl (Or.inl rfl) (⟨b2_0 (by unfold cu_; rw [c20]; rfl), rfl⟩)

set_option maxRecDepth 100000 in
set_option maxHeartbeats 4000000 in
theorem c_X7_entries_bad {PL : List (Nat × Nat)} {V : Mm_} {n : Nat} (hn : V 1 0 0 = nI n) (hn8 : n ≤ 8) {a b x : Int32} (hbad : ¬ (pr_ok (nI n) a b ∧ nI 0 ≤ x ∧ x ≤ nI 3)) : Cp_ PL mX7_entries [vR 0 18, vI a, vI b, vI x] V ((-1)) := by
  refine Ca_.of mv_X7_entries.2.2.2.2.2.2 2 (lo := [some (vR 0 18), some (vI a), some (vI b), some (vI x), none, none]) rfl (Nat.le_of_ble_eq_true rfl) ?_
  refine r_aload_n (pc2 := 1) dX7_entries_0 rfl rfl ?_
  refine r_iload_n (pc2 := 2) dX7_entries_1 rfl rfl ?_
  refine r_iload_n (pc2 := 3) dX7_entries_2 rfl rfl ?_
  refine r_cv2p (pc2 := 6) dX7_entries_3 st_X7_entries_64 rl_X7_isPair (Nat.le_of_ble_eq_true rfl) rfl (c_X7_isPair) ?_
  refine r_ifB_eq (pc2 := 9) (tgt := 18) dX7_entries_6 (by decide) rfl (fun c6 => ?_) (fun c6 => ?_)
  · skip
    refine r_iconst (pc2 := 19) (-1) dX7_entries_18 (by decide) rfl ?_
    exact r_iret dX7_entries_19 rfl (⟨rfl, rfl⟩)
  · skip
    refine r_iload_n (pc2 := 10) dX7_entries_9 rfl rfl ?_
    refine r_iconst (pc2 := 11) (nI 0) dX7_entries_10 (by decide) rfl ?_
    refine r_iconst (pc2 := 12) (nI 3) dX7_entries_11 (by decide) rfl ?_
    refine r_cs3p (pc2 := 15) dX7_entries_12 st_X7_entries_105 (Nat.le_of_ble_eq_true rfl) rfl (c_X7_isBetween) ?_
    refine r_ifB_ne (pc2 := 18) (tgt := 20) dX7_entries_15 (by decide) rfl (fun c15 => ?_) (fun c15 => ?_)
    · skip
      exact absurd ⟨by rw [hn] at c6; exact of_decide_eq_true c6, of_decide_eq_true c15⟩ hbad
    · skip
      refine r_iconst (pc2 := 19) (-1) dX7_entries_18 (by decide) rfl ?_
      exact r_iret dX7_entries_19 rfl (⟨rfl, rfl⟩)

set_option maxRecDepth 100000 in
set_option maxHeartbeats 4000000 in
theorem c_X7_entries_ok {PL : List (Nat × Nat)} {V : Mm_} {n : Nat} (hn : V 1 0 0 = nI n) (hn8 : n ≤ 8) {i j : Nat} (hi : i < n) (hj : j < n) (hij : ¬ i = j) {w : Nat} (hw : w < 4) : Cp_ PL mX7_entries [vR 0 18, vI (nI i), vI (nI j), vI (nI w)] V (nI (cnt_ (cu_ (V 1) (V 0 19 6) n i j w) n)) := by
  refine Ca_.of mv_X7_entries.2.2.2.2.2.2 2 (lo := [some (vR 0 18), some (vI (nI i)), some (vI (nI j)), some (vI (nI w)), none, none]) rfl (Nat.le_of_ble_eq_true rfl) ?_
  refine r_aload_n (pc2 := 1) dX7_entries_0 rfl rfl ?_
  refine r_iload_n (pc2 := 2) dX7_entries_1 rfl rfl ?_
  refine r_iload_n (pc2 := 3) dX7_entries_2 rfl rfl ?_
  refine r_cv2p (pc2 := 6) dX7_entries_3 st_X7_entries_64 rl_X7_isPair (Nat.le_of_ble_eq_true rfl) rfl (c_isPair_ok hn hn8 hi hj hij) ?_
  refine r_if0N_eq (pc2 := 9) (tgt := 18) (by omega) dX7_entries_6 (by decide) rfl (fun c6 => ?_) (fun c6 => ?_)
  · skip
    exact absurd c6 (by decide)
  · skip
    refine r_iload_n (pc2 := 10) dX7_entries_9 rfl rfl ?_
    refine r_iconst (pc2 := 11) (nI 0) dX7_entries_10 (by decide) rfl ?_
    refine r_iconst (pc2 := 12) (nI 3) dX7_entries_11 (by decide) rfl ?_
    refine r_cs3p (pc2 := 15) dX7_entries_12 st_X7_entries_105 (Nat.le_of_ble_eq_true rfl) rfl (c_isBetween_ok ⟨nI_pos' (by omega), nI_le (by omega) (by omega)⟩) ?_
    refine r_if0N_ne (pc2 := 18) (tgt := 20) (by omega) dX7_entries_15 (by decide) rfl (fun c15 => ?_) (fun c15 => ?_)
    · skip
      refine r_iconst (pc2 := 21) (nI 0) dX7_entries_20 (by decide) rfl ?_
      refine r_istore (pc2 := 23) dX7_entries_21 (by decide) rfl rfl ?_
      refine r_iconst (pc2 := 24) (nI 0) dX7_entries_23 (by decide) rfl ?_
      refine r_istore (pc2 := 26) dX7_entries_24 (by decide) rfl rfl ?_
      refine Rc_.to (V' := (fun _ => V) 0) (lo' := (fun c : Nat => [some (vR 0 18), some (vI (nI i)), some (vI (nI j)), some (vI (nI w)), some (vI (nI ((cnt_ (cu_ (V 1) (V 0 19 6) n i j w) c)))), some (vI (nI c))]) 0) (rfl) ⟨rfl, rfl, rfl, rfl, rfl, rfl, trivial⟩ ?_
      refine Rc_for 0 (n) (fun c : Nat => [some (vR 0 18), some (vI (nI i)), some (vI (nI j)), some (vI (nI w)), some (vI (nI ((cnt_ (cu_ (V 1) (V 0 19 6) n i j w) c)))), some (vI (nI c))]) (fun _ => V) (by omega) (fun c hc0 hcN ih26 => ?_)
      refine r_iload (pc2 := 28) dX7_entries_26 rfl rfl ?_
      refine r_aload_n (pc2 := 29) dX7_entries_28 rfl rfl ?_
      refine r_getR (pc2 := 32) dX7_entries_29 fl_X7_24 (by decide) rfl rfl rfl ?_
      refine r_getIe (pc2 := 35) (x := (nI n)) (hn) dX7_entries_32 fl_X7_60 (by decide) rfl rfl rfl ?_
      refine r_icN_ge (pc2 := 38) (tgt := 59) (by omega) (by omega) dX7_entries_35 (by decide) rfl (fun c35 => ?_) (fun c35 => ?_)
      · skip
        refine r_iload (pc2 := 61) dX7_entries_59 rfl rfl ?_
        exact r_iret dX7_entries_61 rfl (⟨by (have e : c = n := by omega); rw [e], rfl⟩)
      · skip
        refine r_aload_n (pc2 := 39) dX7_entries_38 rfl rfl ?_
        refine r_iload_n (pc2 := 40) dX7_entries_39 rfl rfl ?_
        refine r_iload_n (pc2 := 41) dX7_entries_40 rfl rfl ?_
        refine r_iload (pc2 := 43) dX7_entries_41 rfl rfl ?_
        refine r_iload_n (pc2 := 44) dX7_entries_43 rfl rfl ?_
        refine r_cv4p (pc2 := 47) dX7_entries_44 st_X7_entries_186 rl_X7_counts (Nat.le_of_ble_eq_true rfl) rfl (c_X7_counts hn hn8 hi hj (by omega) hw) ?_
        refine r_ifB_eq (pc2 := 50) (tgt := 53) dX7_entries_47 (by decide) rfl (fun c47 => ?_) (fun c47 => ?_)
        · skip
          refine r_iincN (pc2 := 56) dX7_entries_53 rfl (by decide) rfl rfl ?_
          refine r_goto (pc2 := 26) dX7_entries_56 (by decide) ?_
          exact Rc_.to (lo' := (fun c : Nat => [some (vR 0 18), some (vI (nI i)), some (vI (nI j)), some (vI (nI w)), some (vI (nI ((cnt_ (cu_ (V 1) (V 0 19 6) n i j w) c)))), some (vI (nI c))]) (c + 1)) (rfl) ⟨rfl, rfl, rfl, rfl, (congrArg (fun z => some (vI (nI z))) (by first | rw [cnt_t (p := cu_ (V 1) (V 0 19 6) n i j w) (n := c) c47] | rw [cnt_f (p := cu_ (V 1) (V 0 19 6) n i j w) (n := c) c47])), rfl, trivial⟩ (ih26 (by omega))
        · skip
          refine r_iincN (pc2 := 53) dX7_entries_50 rfl (by decide) rfl rfl ?_
          refine r_iincN (pc2 := 56) dX7_entries_53 rfl (by decide) rfl rfl ?_
          refine r_goto (pc2 := 26) dX7_entries_56 (by decide) ?_
          exact Rc_.to (lo' := (fun c : Nat => [some (vR 0 18), some (vI (nI i)), some (vI (nI j)), some (vI (nI w)), some (vI (nI ((cnt_ (cu_ (V 1) (V 0 19 6) n i j w) c)))), some (vI (nI c))]) (c + 1)) (rfl) ⟨rfl, rfl, rfl, rfl, (congrArg (fun z => some (vI (nI z))) (by first | rw [cnt_t (p := cu_ (V 1) (V 0 19 6) n i j w) (n := c) c47] | rw [cnt_f (p := cu_ (V 1) (V 0 19 6) n i j w) (n := c) c47])), rfl, trivial⟩ (ih26 (by omega))
    · skip
      exact absurd c15 (by decide)

set_option maxRecDepth 100000 in
set_option maxHeartbeats 4000000 in
theorem c_X7_distance_bad {PL : List (Nat × Nat)} {V : Mm_} {n : Nat} (hn : V 1 0 0 = nI n) (hn8 : n ≤ 8) {a b x : Int32} (hbad : ¬ (0 ≤ a ∧ a < nI n ∧ 0 ≤ b ∧ b < nI n ∧ nI 0 ≤ x ∧ x ≤ nI 1)) : Cp_ PL mX7_distance [vR 0 18, vI a, vI b, vI x] V ((-1)) := by
  refine Ca_.of mv_X7_distance.2.2.2.2.2.2 1 (lo := [some (vR 0 18), some (vI a), some (vI b), some (vI x), none]) rfl (Nat.le_of_ble_eq_true rfl) ?_
  refine r_aload_n (pc2 := 1) dX7_distance_0 rfl rfl ?_
  refine r_iload_n (pc2 := 2) dX7_distance_1 rfl rfl ?_
  refine r_cv1p (pc2 := 5) dX7_distance_2 st_X7_distance_171 rl_X7_isNode (Nat.le_of_ble_eq_true rfl) rfl (c_X7_isNode) ?_
  refine r_ifB_eq (pc2 := 8) (tgt := 25) dX7_distance_5 (by decide) rfl (fun c5 => ?_) (fun c5 => ?_)
  · skip
    refine r_iconst (pc2 := 26) (-1) dX7_distance_25 (by decide) rfl ?_
    exact r_iret dX7_distance_26 rfl (⟨rfl, rfl⟩)
  · skip
    refine r_aload_n (pc2 := 9) dX7_distance_8 rfl rfl ?_
    refine r_iload_n (pc2 := 10) dX7_distance_9 rfl rfl ?_
    refine r_cv1p (pc2 := 13) dX7_distance_10 st_X7_distance_171 rl_X7_isNode (Nat.le_of_ble_eq_true rfl) rfl (c_X7_isNode) ?_
    refine r_ifB_eq (pc2 := 16) (tgt := 25) dX7_distance_13 (by decide) rfl (fun c13 => ?_) (fun c13 => ?_)
    · skip
      refine r_iconst (pc2 := 26) (-1) dX7_distance_25 (by decide) rfl ?_
      exact r_iret dX7_distance_26 rfl (⟨rfl, rfl⟩)
    · skip
      refine r_iload_n (pc2 := 17) dX7_distance_16 rfl rfl ?_
      refine r_iconst (pc2 := 18) (nI 0) dX7_distance_17 (by decide) rfl ?_
      refine r_iconst (pc2 := 19) (nI 1) dX7_distance_18 (by decide) rfl ?_
      refine r_cs3p (pc2 := 22) dX7_distance_19 st_X7_distance_105 (Nat.le_of_ble_eq_true rfl) rfl (c_X7_isBetween) ?_
      refine r_ifB_ne (pc2 := 25) (tgt := 27) dX7_distance_22 (by decide) rfl (fun c22 => ?_) (fun c22 => ?_)
      · skip
        rw [hn] at c5 c13; exact absurd ⟨(of_decide_eq_true c5).1, (of_decide_eq_true c5).2, (of_decide_eq_true c13).1, (of_decide_eq_true c13).2, of_decide_eq_true c22⟩ hbad
      · skip
        refine r_iconst (pc2 := 26) (-1) dX7_distance_25 (by decide) rfl ?_
        exact r_iret dX7_distance_26 rfl (⟨rfl, rfl⟩)

set_option maxRecDepth 100000 in
set_option maxHeartbeats 4000000 in
theorem c_X7_distance_ok {PL : List (Nat × Nat)} {V : Mm_} {n : Nat} (hn : V 1 0 0 = nI n) (hn8 : n ≤ 8) {i j w : Nat} (hi : i < n) (hj : j < n) (hw : w < 2) : Ci_ PL mX7_distance [vR 0 18, vI (nI i), vI (nI j), vI (nI w)] V (fun x V' => sf_ V V' ∧ x = if du_ (V 1) (V 0 19 6) n i j = -1 then -4 else if w = 0 then dl_ (V 1) (V 0 19 6) n i j else du_ (V 1) (V 0 19 6) n i j) := by
  refine Ca_.of mv_X7_distance.2.2.2.2.2.2 1 (lo := [some (vR 0 18), some (vI (nI i)), some (vI (nI j)), some (vI (nI w)), none]) rfl (Nat.le_of_ble_eq_true rfl) ?_
  refine r_aload_n (pc2 := 1) dX7_distance_0 rfl rfl ?_
  refine r_iload_n (pc2 := 2) dX7_distance_1 rfl rfl ?_
  refine r_cv1p (pc2 := 5) dX7_distance_2 st_X7_distance_171 rl_X7_isNode (Nat.le_of_ble_eq_true rfl) rfl (c_isNode_ok hn hn8 hi) ?_
  refine r_if0N_eq (pc2 := 8) (tgt := 25) (by omega) dX7_distance_5 (by decide) rfl (fun c5 => ?_) (fun c5 => ?_)
  · skip
    exact absurd c5 (by decide)
  · skip
    refine r_aload_n (pc2 := 9) dX7_distance_8 rfl rfl ?_
    refine r_iload_n (pc2 := 10) dX7_distance_9 rfl rfl ?_
    refine r_cv1p (pc2 := 13) dX7_distance_10 st_X7_distance_171 rl_X7_isNode (Nat.le_of_ble_eq_true rfl) rfl (c_isNode_ok hn hn8 hj) ?_
    refine r_if0N_eq (pc2 := 16) (tgt := 25) (by omega) dX7_distance_13 (by decide) rfl (fun c13 => ?_) (fun c13 => ?_)
    · skip
      exact absurd c13 (by decide)
    · skip
      refine r_iload_n (pc2 := 17) dX7_distance_16 rfl rfl ?_
      refine r_iconst (pc2 := 18) (nI 0) dX7_distance_17 (by decide) rfl ?_
      refine r_iconst (pc2 := 19) (nI 1) dX7_distance_18 (by decide) rfl ?_
      refine r_cs3p (pc2 := 22) dX7_distance_19 st_X7_distance_105 (Nat.le_of_ble_eq_true rfl) rfl (c_isBetween_ok ⟨nI_pos' (by omega), nI_le (by omega) (by omega)⟩) ?_
      refine r_if0N_ne (pc2 := 25) (tgt := 27) (by omega) dX7_distance_22 (by decide) rfl (fun c22 => ?_) (fun c22 => ?_)
      · skip
        refine r_aload_n (pc2 := 28) dX7_distance_27 rfl rfl ?_
        refine r_getR (pc2 := 31) dX7_distance_28 fl_X7_37 (by decide) rfl rfl rfl ?_
        refine r_aload_n (pc2 := 32) dX7_distance_31 rfl rfl ?_
        refine r_getR (pc2 := 35) dX7_distance_32 fl_X7_24 (by decide) rfl rfl rfl ?_
        refine r_aload_n (pc2 := 36) dX7_distance_35 rfl rfl ?_
        refine r_getR (pc2 := 39) dX7_distance_36 fl_X7_18 (by decide) rfl rfl rfl ?_
        refine r_iload_n (pc2 := 40) dX7_distance_39 rfl rfl ?_
        refine r_iload_n (pc2 := 41) dX7_distance_40 rfl rfl ?_
        refine r_cv4v (pc2 := 44) dX7_distance_41 st_X7_distance_174 rl_X3_takeOne (Nat.le_of_ble_eq_true rfl) rfl (c_X3_takeOne (by decide) hn hn8 hi hj) (fun V41 h41 => ?_)
        obtain ⟨hsf, hct⟩ := h41
        refine r_iload_n (pc2 := 45) dX7_distance_44 rfl rfl ?_
        refine r_iload_n (pc2 := 46) dX7_distance_45 rfl rfl ?_
        refine r_cs2p (pc2 := 49) dX7_distance_46 st_X7_distance_88 (Nat.le_of_ble_eq_true rfl) rfl (c_X7_pair) ?_
        refine r_istore (pc2 := 51) dX7_distance_49 (by decide) rfl rfl ?_
        refine r_aload_n (pc2 := 52) dX7_distance_51 rfl rfl ?_
        refine r_getR (pc2 := 55) dX7_distance_52 fl_X7_37 (by decide) rfl rfl rfl ?_
        refine r_iload (pc2 := 57) dX7_distance_55 rfl rfl ?_
        refine r_cv1p (pc2 := 60) dX7_distance_57 st_X7_distance_178 rl_X3_reaches (Nat.le_of_ble_eq_true rfl) rfl (c_X3_reaches (by omega)) ?_
        refine r_ifB_ne (pc2 := 63) (tgt := 66) dX7_distance_60 (by decide) rfl (fun c60 => ?_) (fun c60 => ?_)
        · skip
          have c60 := of_decide_eq_true c60
          refine r_iload_n (pc2 := 67) dX7_distance_66 rfl rfl ?_
          refine r_if0N_ne (pc2 := 70) (tgt := 83) (by omega) dX7_distance_67 (by decide) rfl (fun c67 => ?_) (fun c67 => ?_)
          · skip
            refine r_aload_n (pc2 := 84) dX7_distance_83 rfl rfl ?_
            refine r_getR (pc2 := 87) dX7_distance_84 fl_X7_37 (by decide) rfl rfl rfl ?_
            refine r_getR (pc2 := 90) dX7_distance_87 fl_X7_182 (by decide) rfl rfl rfl ?_
            refine r_iload (pc2 := 92) dX7_distance_90 rfl rfl ?_
            refine r_iald (pc2 := 93) (j := _) dX7_distance_92 (by decide) rfl rfl (rfl) (by show _ < 64; omega) rfl ?_
            exact r_iret dX7_distance_93 rfl (⟨hsf, by rw [if_neg (hct.2.1 ▸ c60)]; first | exact (by rw [if_neg c67]; exact hct.2.1) | exact (by rw [if_pos c67]; exact hct.1)⟩)
          · skip
            refine r_aload_n (pc2 := 71) dX7_distance_70 rfl rfl ?_
            refine r_getR (pc2 := 74) dX7_distance_71 fl_X7_37 (by decide) rfl rfl rfl ?_
            refine r_getR (pc2 := 77) dX7_distance_74 fl_X7_181 (by decide) rfl rfl rfl ?_
            refine r_iload (pc2 := 79) dX7_distance_77 rfl rfl ?_
            refine r_iald (pc2 := 80) (j := _) dX7_distance_79 (by decide) rfl rfl (rfl) (by show _ < 64; omega) rfl ?_
            refine r_goto (pc2 := 93) dX7_distance_80 (by decide) ?_
            exact r_iret dX7_distance_93 rfl (⟨hsf, by rw [if_neg (hct.2.1 ▸ c60)]; first | exact (by rw [if_neg c67]; exact hct.2.1) | exact (by rw [if_pos c67]; exact hct.1)⟩)
        · skip
          have c60 : V41 0 22 (i * 8 + j) = -1 := Decidable.not_not.mp (of_decide_eq_false c60)
          refine r_bipush (pc2 := 65) (-4) dX7_distance_63 (by decide) rfl ?_
          exact r_iret dX7_distance_65 rfl (⟨hsf, by rw [if_pos (hct.2.1 ▸ c60)]⟩)
      · skip
        exact absurd c22 (by decide)

set_option maxRecDepth 100000 in
set_option maxHeartbeats 4000000 in
theorem c_X7_choice_bad {PL : List (Nat × Nat)} {V : Mm_} {n : Nat} (hn : V 1 0 0 = nI n) (hn8 : n ≤ 8) {a b : Int32} (hbad : ¬ (pr_ok (nI n) a b)) : Cp_ PL mX7_choice [vR 0 18, vI a, vI b] V ((-1)) := by
  refine Ca_.of mv_X7_choice.2.2.2.2.2.2 1 (lo := [some (vR 0 18), some (vI a), some (vI b), none]) rfl (Nat.le_of_ble_eq_true rfl) ?_
  refine r_aload_n (pc2 := 1) dX7_choice_0 rfl rfl ?_
  refine r_iload_n (pc2 := 2) dX7_choice_1 rfl rfl ?_
  refine r_iload_n (pc2 := 3) dX7_choice_2 rfl rfl ?_
  refine r_cv2p (pc2 := 6) dX7_choice_3 st_X7_choice_64 rl_X7_isPair (Nat.le_of_ble_eq_true rfl) rfl (c_X7_isPair) ?_
  refine r_ifB_ne (pc2 := 9) (tgt := 11) dX7_choice_6 (by decide) rfl (fun c6 => ?_) (fun c6 => ?_)
  · skip
    exact absurd (by rw [hn] at c6; exact of_decide_eq_true c6) hbad
  · skip
    refine r_iconst (pc2 := 10) (-1) dX7_choice_9 (by decide) rfl ?_
    exact r_iret dX7_choice_10 rfl (⟨rfl, rfl⟩)

set_option maxRecDepth 100000 in
set_option maxHeartbeats 4000000 in
theorem c_X7_choice_ok {PL : List (Nat × Nat)} {V : Mm_} {n : Nat} (hn : V 1 0 0 = nI n) (hn8 : n ≤ 8) {i j : Nat} (hi : i < n) (hj : j < n) (hij : ¬ i = j) : Ci_ PL mX7_choice [vR 0 18, vI (nI i), vI (nI j)] V (fun x V' => sf_ V V' ∧ x = if ch_ (V 0 19 2) (V 1) (V 0 19 6) n i j = -1 then -4 else ch_ (V 0 19 2) (V 1) (V 0 19 6) n i j) := by
  refine Ca_.of mv_X7_choice.2.2.2.2.2.2 1 (lo := [some (vR 0 18), some (vI (nI i)), some (vI (nI j)), none]) rfl (Nat.le_of_ble_eq_true rfl) ?_
  refine r_aload_n (pc2 := 1) dX7_choice_0 rfl rfl ?_
  refine r_iload_n (pc2 := 2) dX7_choice_1 rfl rfl ?_
  refine r_iload_n (pc2 := 3) dX7_choice_2 rfl rfl ?_
  refine r_cv2p (pc2 := 6) dX7_choice_3 st_X7_choice_64 rl_X7_isPair (Nat.le_of_ble_eq_true rfl) rfl (c_isPair_ok hn hn8 hi hj hij) ?_
  refine r_if0N_ne (pc2 := 9) (tgt := 11) (by omega) dX7_choice_6 (by decide) rfl (fun c6 => ?_) (fun c6 => ?_)
  · skip
    refine r_aload_n (pc2 := 12) dX7_choice_11 rfl rfl ?_
    refine r_getR (pc2 := 15) dX7_choice_12 fl_X7_37 (by decide) rfl rfl rfl ?_
    refine r_aload_n (pc2 := 16) dX7_choice_15 rfl rfl ?_
    refine r_getR (pc2 := 19) dX7_choice_16 fl_X7_24 (by decide) rfl rfl rfl ?_
    refine r_aload_n (pc2 := 20) dX7_choice_19 rfl rfl ?_
    refine r_getR (pc2 := 23) dX7_choice_20 fl_X7_18 (by decide) rfl rfl rfl ?_
    refine r_iload_n (pc2 := 24) dX7_choice_23 rfl rfl ?_
    refine r_iload_n (pc2 := 25) dX7_choice_24 rfl rfl ?_
    refine r_cv4v (pc2 := 28) dX7_choice_25 st_X7_choice_174 rl_X3_takeOne (Nat.le_of_ble_eq_true rfl) rfl (c_X3_takeOne (by decide) hn hn8 hi hj) (fun V25 h25 => ?_)
    obtain ⟨hsf, hct⟩ := h25
    refine r_aload_n (pc2 := 29) dX7_choice_28 rfl rfl ?_
    refine r_getR (pc2 := 32) dX7_choice_29 fl_X7_37 (by decide) rfl rfl rfl ?_
    refine r_getR (pc2 := 35) dX7_choice_32 fl_X7_183 (by decide) rfl rfl rfl ?_
    refine r_iload_n (pc2 := 36) dX7_choice_35 rfl rfl ?_
    refine r_iload_n (pc2 := 37) dX7_choice_36 rfl rfl ?_
    refine r_cs2p (pc2 := 40) dX7_choice_37 st_X7_choice_88 (Nat.le_of_ble_eq_true rfl) rfl (c_X7_pair) ?_
    refine r_ialde (pc2 := 41) (x := ((ch_ (V 0 19 2) (V 1) (V 0 19 6) n i j))) (j := _) (hct.2.2) dX7_choice_40 (by decide) rfl rfl (rfl) (by show _ < 64; omega) rfl ?_
    refine r_istore_n (pc2 := 42) dX7_choice_41 (by decide) rfl rfl ?_
    refine r_iload_n (pc2 := 43) dX7_choice_42 rfl rfl ?_
    refine r_iconst (pc2 := 44) (-1) dX7_choice_43 (by decide) rfl ?_
    refine r_ic_ne (pc2 := 47) (tgt := 52) dX7_choice_44 (by decide) rfl (fun c44 => ?_) (fun c44 => ?_)
    · skip
      refine r_iload_n (pc2 := 53) dX7_choice_52 rfl rfl ?_
      exact r_iret dX7_choice_53 rfl (⟨hsf, by first | rw [if_pos c44] | rw [if_neg c44]⟩)
    · skip
      refine r_bipush (pc2 := 49) (-4) dX7_choice_47 (by decide) rfl ?_
      refine r_goto (pc2 := 53) dX7_choice_49 (by decide) ?_
      exact r_iret dX7_choice_53 rfl (⟨hsf, by first | rw [if_pos c44] | rw [if_neg c44]⟩)
  · skip
    exact absurd c6 (by decide)

set_option maxRecDepth 100000 in
set_option maxHeartbeats 4000000 in
theorem c_X7_store {PL : List (Nat × Nat)} {V : Mm_} : Ci_ PL mX7_store [vR 0 18] V (fun x V' => x = V 1 0 1 ∧ V' = m_set (cf_ V 2 1) 0 18 7 (nI 1)) := by
  refine Ca_.of mv_X7_store.2.2.2.2.2.2 0 (lo := [some (vR 0 18)]) rfl (Nat.le_of_ble_eq_true rfl) ?_
  refine r_aload_n (pc2 := 1) dX7_store_0 rfl rfl ?_
  refine r_getR (pc2 := 4) dX7_store_1 fl_X7_28 (by decide) rfl rfl rfl ?_
  refine r_aload_n (pc2 := 5) dX7_store_4 rfl rfl ?_
  refine r_getR (pc2 := 8) dX7_store_5 fl_X7_24 (by decide) rfl rfl rfl ?_
  refine r_cv1m (pc2 := 11) dX7_store_8 st_X7_store_230 rl_X2_copyFrom (Nat.le_of_ble_eq_true rfl) rfl (c_X2_copyFrom (by decide)) ?_
  refine r_aload_n (pc2 := 12) dX7_store_11 rfl rfl ?_
  refine r_iconst (pc2 := 13) (nI 1) dX7_store_12 (by decide) rfl ?_
  refine r_put (pc2 := 16) dX7_store_13 fl_X7_52 (by decide) rfl rfl ft_7_7 (by first | exact (by decide) | (rcases b2_01 _ with h | h <;> rw [h] <;> decide)) (by first | exact (by decide) | (rcases b2_01 _ with h | h <;> rw [h] <;> decide)) rfl ?_
  refine r_aload_n (pc2 := 17) dX7_store_16 rfl rfl ?_
  refine r_getR (pc2 := 20) dX7_store_17 fl_X7_24 (by decide) rfl rfl rfl ?_
  refine r_getI (pc2 := 23) dX7_store_20 fl_X7_125 (by decide) rfl rfl rfl ?_
  exact r_iret dX7_store_23 rfl (⟨by unfold cf_; simp [a_set], rfl⟩)

set_option maxRecDepth 100000 in
set_option maxHeartbeats 4000000 in
theorem c_X7_recall {PL : List (Nat × Nat)} {V : Mm_} {b : Bool} (hs : V 0 18 7 = b2 b) : Ci_ PL mX7_recall [vR 0 18] V (fun x V' => if b = true then x = V' 1 0 1 ∧ V' = cf_ V 1 2 else x = -2 ∧ V' = V) := by
  refine Ca_.of mv_X7_recall.2.2.2.2.2.2 0 (lo := [some (vR 0 18)]) rfl (Nat.le_of_ble_eq_true rfl) ?_
  refine r_aload_n (pc2 := 1) dX7_recall_0 rfl rfl ?_
  refine r_getIe (pc2 := 4) (x := (b2 b)) (hs) dX7_recall_1 fl_X7_52 (by decide) rfl rfl rfl ?_
  refine r_ifB_ne (pc2 := 7) (tgt := 10) dX7_recall_4 (by decide) rfl (fun c4 => ?_) (fun c4 => ?_)
  · skip
    refine r_aload_n (pc2 := 11) dX7_recall_10 rfl rfl ?_
    refine r_getR (pc2 := 14) dX7_recall_11 fl_X7_24 (by decide) rfl rfl rfl ?_
    refine r_aload_n (pc2 := 15) dX7_recall_14 rfl rfl ?_
    refine r_getR (pc2 := 18) dX7_recall_15 fl_X7_28 (by decide) rfl rfl rfl ?_
    refine r_cv1m (pc2 := 21) dX7_recall_18 st_X7_recall_230 rl_X2_copyFrom (Nat.le_of_ble_eq_true rfl) rfl (c_X2_copyFrom (by decide)) ?_
    refine r_aload_n (pc2 := 22) dX7_recall_21 rfl rfl ?_
    refine r_getR (pc2 := 25) dX7_recall_22 fl_X7_24 (by decide) rfl rfl rfl ?_
    refine r_getI (pc2 := 28) dX7_recall_25 fl_X7_125 (by decide) rfl rfl rfl ?_
    exact r_iret dX7_recall_28 rfl (by show if _ then _ else _; rw [if_pos c4]; exact ⟨rfl, rfl⟩)
  · skip
    refine r_bipush (pc2 := 9) (-2) dX7_recall_7 (by decide) rfl ?_
    exact r_iret dX7_recall_9 rfl (by show if _ then _ else _; rw [if_neg (by rw [c4]; decide)]; exact ⟨rfl, rfl⟩)

theorem nr_low {CH : Nat → Int32} {m a r i : Nat} {p : Sg_ × Nat} (h : r < 15 ∨ 17 < r) : ∀ {j : Nat}, (nr_ CH m a j p).1 r i = p.1 r i
  | 0 => rfl
  | j + 1 => by
    have ih := nr_low (CH := CH) (m := m) (a := a) (p := p) (i := i) h (j := j)
    show (n1_ CH m a j (nr_ CH m a j p)).1 r i = _
    unfold n1_
    split
    · exact ih
    · simp only [jn_]
      rw [if_neg (by omega), if_neg (by omega), if_neg (by omega), if_neg (by omega), if_neg (by omega), if_neg (by omega)]
      exact ih
theorem nt_low {CH : Nat → Int32} {m n r i : Nat} {p : Sg_ × Nat} (h : r < 15 ∨ 17 < r) : ∀ {j : Nat}, (nt_ CH m n j p).1 r i = p.1 r i
  | 0 => rfl
  | j + 1 => (nr_low h).trans (nt_low h (j := j))
theorem t3_low {f : Nat → Int32} {n r i : Nat} {s : Sg_} (h : r < 7 ∨ 11 < r) (h2 : ¬ (r = 0 ∧ i = 2)) (h13 : ¬ r = 13) (h14 : ¬ r = 14) : t3_ f n s r i = t1_ s r i := t3i_low h h2 h13 h14
theorem tq_ok {f : Nat → Int32} {n m : Nat} {s : Sg_} (hn8 : n ≤ 8) (h : s 15 1 = nI m) : (tq_ f n m s).1 15 1 = nI (m + (tq_ f n m s).2) ∧ (tq_ f n m s).2 ≤ 64 ∧ (tq_ f n m s).1 0 0 = s 0 0 ∧ (tq_ f n m s).1 0 1 = s 0 1 + nI 1 := by
  have h1 := nt_ok (CH := Ch_ (f 2) (t3_ f n s) (f 6) n) (m := m) (n := n) (p := (t3_ f n s, 0)) (by show t3_ f n s 15 1 = nI (m + 0); rw [t3_low (by omega) (by omega) (by omega) (by omega)]; exact h) n
  refine ⟨h1.1, Nat.le_trans h1.2 ?_, ?_, ?_⟩
  · have := Nat.mul_le_mul hn8 hn8
    show 0 + n * n ≤ 64
    omega
  · unfold tq_
    rw [nt_low (by omega)]
    show t3_ f n s 0 0 = _
    rw [t3_low (by omega) (by omega) (by omega) (by omega)]
    rfl
  · unfold tq_
    rw [nt_low (by omega)]
    show t3_ f n s 0 1 = _
    rw [t3_low (by omega) (by omega) (by omega) (by omega)]
    rfl
/-- some ticks: the state and the journal's counter -/
def tn_ (f : Nat → Int32) (n : Nat) : Nat → Sg_ × Nat → Sg_ × Nat
  | 0, p => p
  | i + 1, p => ((tq_ f n (tn_ f n i p).2 (tn_ f n i p).1).1, (tn_ f n i p).2 + (tq_ f n (tn_ f n i p).2 (tn_ f n i p).1).2)
theorem tn_ok {f : Nat → Int32} {n : Nat} {p : Sg_ × Nat} (hn8 : n ≤ 8) (h : p.1 15 1 = nI p.2) : ∀ i, (tn_ f n i p).1 15 1 = nI (tn_ f n i p).2 ∧ (tn_ f n i p).2 ≤ p.2 + 64 * i ∧ (tn_ f n i p).1 0 0 = p.1 0 0 ∧ (tn_ f n i p).1 0 1 = p.1 0 1 + nI i
  | 0 => ⟨h, by simp [tn_], rfl, by simp [tn_, nI_0]⟩
  | i + 1 => by
    have ih := tn_ok (f := f) hn8 h i
    have h1 := tq_ok (f := f) hn8 ih.1
    refine ⟨h1.1, ?_, h1.2.2.1.trans ih.2.2.1, ?_⟩
    · have := ih.2.1
      have := h1.2.1
      show (tn_ f n i p).2 + _ ≤ _
      omega
    · refine h1.2.2.2.trans ?_
      rw [ih.2.2.2, Int32.add_assoc, nI_add]
set_option maxRecDepth 100000 in
set_option maxHeartbeats 4000000 in
theorem c_X7_run_bad {PL : List (Nat × Nat)} {V : Mm_} {x : Int32} (hbad : ¬ (nI 1 ≤ x ∧ x ≤ nI 200)) : Cp_ PL mX7_run [vR 0 18, vI x] V ((-1)) := by
  refine Ca_.of mv_X7_run.2.2.2.2.2.2 1 (lo := [some (vR 0 18), some (vI x), none]) rfl (Nat.le_of_ble_eq_true rfl) ?_
  refine r_iload_n (pc2 := 1) dX7_run_0 rfl rfl ?_
  refine r_iconst (pc2 := 2) (nI 1) dX7_run_1 (by decide) rfl ?_
  refine r_sipush (pc2 := 5) (nI 200) dX7_run_2 (by decide) rfl ?_
  refine r_cs3p (pc2 := 8) dX7_run_5 st_X7_run_105 (Nat.le_of_ble_eq_true rfl) rfl (c_X7_isBetween) ?_
  refine r_ifB_ne (pc2 := 11) (tgt := 13) dX7_run_8 (by decide) rfl (fun c8 => ?_) (fun c8 => ?_)
  · skip
    exact absurd (of_decide_eq_true c8) hbad
  · skip
    refine r_iconst (pc2 := 12) (-1) dX7_run_11 (by decide) rfl ?_
    exact r_iret dX7_run_12 rfl (⟨rfl, rfl⟩)

set_option maxRecDepth 100000 in
set_option maxHeartbeats 4000000 in
theorem c_X7_run_ok {PL : List (Nat × Nat)} {V : Mm_} {n : Nat} (hn : V 1 0 0 = nI n) (hn8 : n ≤ 8) {k t m : Nat} (hk1 : 1 ≤ k) (hk2 : k ≤ 200) (ht : V 1 0 1 = nI t) (ht5 : t ≤ 100000) (hm : V 1 15 1 = nI m) (hm9 : m ≤ 2 ^ 28) : Ci_ PL mX7_run [vR 0 18, vI (nI k)] V (fun x V' => if 100000 < t + k then x = -3 ∧ V' = V else x = nI (t + k) ∧ V' 1 = (tn_ (V 0 19) n k (V 1, m)).1 ∧ ∀ g r, ¬ g = 1 → ¬ (g = 0 ∧ 20 ≤ r ∧ r ≤ 32) → V' g r = V g r) := by
  refine Ca_.of mv_X7_run.2.2.2.2.2.2 1 (lo := [some (vR 0 18), some (vI (nI k)), none]) rfl (Nat.le_of_ble_eq_true rfl) ?_
  refine r_iload_n (pc2 := 1) dX7_run_0 rfl rfl ?_
  refine r_iconst (pc2 := 2) (nI 1) dX7_run_1 (by decide) rfl ?_
  refine r_sipush (pc2 := 5) (nI 200) dX7_run_2 (by decide) rfl ?_
  refine r_cs3p (pc2 := 8) dX7_run_5 st_X7_run_105 (Nat.le_of_ble_eq_true rfl) rfl (c_isBetween_ok ⟨nI_le (by omega) (by omega), nI_le (by omega) (by omega)⟩) ?_
  refine r_if0N_ne (pc2 := 11) (tgt := 13) (by omega) dX7_run_8 (by decide) rfl (fun c8 => ?_) (fun c8 => ?_)
  · skip
    refine r_aload_n (pc2 := 14) dX7_run_13 rfl rfl ?_
    refine r_getR (pc2 := 17) dX7_run_14 fl_X7_24 (by decide) rfl rfl rfl ?_
    refine r_getIe (pc2 := 20) (x := (nI t)) (ht) dX7_run_17 fl_X7_125 (by decide) rfl rfl rfl ?_
    refine r_iload_n (pc2 := 21) dX7_run_20 rfl rfl ?_
    refine r_iaddN (pc2 := 22) dX7_run_21 rfl ?_
    refine r_ldc (pc2 := 24) dX7_run_22 tw_384 rfl ?_
    refine r_as (x' := nI 100000) (by decide) ?_
    refine r_icN_le (pc2 := 27) (tgt := 30) (by omega) (by omega) dX7_run_24 (by decide) rfl (fun c24 => ?_) (fun c24 => ?_)
    · skip
      refine r_iconst (pc2 := 31) (nI 0) dX7_run_30 (by decide) rfl ?_
      refine r_istore_n (pc2 := 32) dX7_run_31 (by decide) rfl rfl ?_
      refine Rc_.to (V' := (fun V1 => V1) (V)) (lo' := (fun (i : Nat) (V1 : Mm_) => [some (vR 0 18), some (vI (nI k)), some (vI (nI i))]) 0 (V)) (rfl) ⟨rfl, rfl, rfl, trivial⟩ ?_
      refine Rc_forI 0 (k) (fun (i : Nat) (V1 : Mm_) => [some (vR 0 18), some (vI (nI k)), some (vI (nI i))]) (fun V1 => V1) (fun i V1 => V1 1 = (tn_ (V 0 19) n i (V 1, m)).1 ∧ ∀ g r, ¬ g = 1 → ¬ (g = 0 ∧ 20 ≤ r ∧ r ≤ 32) → V1 g r = V g r) (by omega) (fun i V1 hi0 hiN hI ih32 => ?_) (V) (⟨rfl, fun _ _ _ _ => rfl⟩)
      have hok := tn_ok (f := V 0 19) (n := n) (p := (V 1, m)) hn8 hm i
      simp only at hok
      refine r_iload_n (pc2 := 33) dX7_run_32 rfl rfl ?_
      refine r_iload_n (pc2 := 34) dX7_run_33 rfl rfl ?_
      refine r_icN_ge (pc2 := 37) (tgt := 52) (by omega) (by omega) dX7_run_34 (by decide) rfl (fun c34 => ?_) (fun c34 => ?_)
      · skip
        refine r_aload_n (pc2 := 53) dX7_run_52 rfl rfl ?_
        refine r_getR (pc2 := 56) dX7_run_53 fl_X7_24 (by decide) rfl rfl rfl ?_
        refine r_getIe (pc2 := 59) (x := ((V1 1 0 1))) (rfl) dX7_run_56 fl_X7_125 (by decide) rfl rfl rfl ?_
        exact r_iret dX7_run_59 rfl (by show if _ then _ else _; (have e : i = k := by omega); subst e; rw [if_neg (by omega)]; exact ⟨by rw [hI.1, hok.2.2.2, ht, nI_add], hI⟩)
      · skip
        refine r_aload_n (pc2 := 38) dX7_run_37 rfl rfl ?_
        refine r_aload_n (pc2 := 39) dX7_run_38 rfl rfl ?_
        refine r_getR (pc2 := 42) dX7_run_39 fl_X7_24 (by decide) rfl rfl rfl ?_
        refine r_cv1i (pc2 := 45) dX7_run_42 st_X7_run_129 rl_X7_makeTick (Nat.le_of_ble_eq_true rfl) rfl (c_X7_makeTick (n := n) (m := (tn_ (V 0 19) n i (V 1, m)).2) (by decide) (by rw [hI.1, hok.2.2.1]; exact hn) hn8 (by rw [hI.1]; exact hok.1) (by have := hok.2.1; omega)) (fun x42 V42 h42 => ?_)
        refine r_pop (pc2 := 46) dX7_run_45 rfl ?_
        refine r_iincN (pc2 := 49) dX7_run_46 rfl (by decide) rfl rfl ?_
        refine r_goto (pc2 := 32) dX7_run_49 (by decide) ?_
        exact Rc_.to (lo' := [some (vR 0 18), some (vI (nI k)), some (vI (nI ((i + 1))))]) (rfl) ⟨rfl, rfl, rfl, trivial⟩ (ih32 _ (by omega) (⟨by rw [h42.2.1, hI.1, show V1 0 19 = V 0 19 from by funext q; rw [hI.2 0 19 (by decide) (by omega)]]; rfl, fun g r h1 h2 => (h42.2.2.1 g r h1 h2).trans (hI.2 g r h1 h2)⟩))
    · skip
      refine r_bipush (pc2 := 29) (-3) dX7_run_27 (by decide) rfl ?_
      exact r_iret dX7_run_29 rfl (by show if _ then _ else _; rw [if_pos (by omega)]; exact ⟨rfl, rfl⟩)
  · skip
    exact absurd c8 (by decide)
