/-! reference: its face, settings: written by wip/whole/m23.py -/
theorem in_ix {a : Int32} (h : nI 0 ≤ a ∧ a ≤ nI 9) : ∃ k, k < 10 ∧ a = nI k := by
  obtain ⟨k, hk, rfl⟩ := nI_of (Int32.not_lt.mpr (show (0 : Int32) ≤ a from h.1))
  have := (nI_leI hk (by decide)).mp h.2
  exact ⟨k, by omega, rfl⟩
theorem set_rg {k : Nat} (hk : k < 10) (h : ¬ (k = 4 ∨ k = 5)) : (nI 0 ≤ nI k ∧ nI k ≤ nI 3) ∨ (nI 6 ≤ nI k ∧ nI k ≤ nI 9) := by
  by_cases c : k < 4
  · exact Or.inl ⟨nI_le (by omega) (by omega), nI_le (by omega) (by omega)⟩
  · exact Or.inr ⟨nI_le (by omega) (by omega), nI_le (by omega) (by omega)⟩
/-- the bounds of the settings -/
def LH_ (V : Mm_) : Prop := ∀ k, k < 10 → ((k = 4 ∨ k = 5) ∧ V 0 38 k = nI 1 ∧ V 0 39 k = nI 0) ∨ (¬ (k = 4 ∨ k = 5) ∧ V 0 38 k = st_L k ∧ V 0 39 k = st_M k)
set_option maxRecDepth 100000 in
set_option maxHeartbeats 4000000 in
theorem c_X8_set_bad {PL : List (Nat × Nat)} {V : Mm_} (hlh : LH_ V) {a x : Int32} (hbad : ¬ (((nI 0 ≤ a ∧ a ≤ nI 3) ∨ (nI 6 ≤ a ∧ a ≤ nI 9)) ∧ st_L a.toNatClampNeg ≤ x ∧ x ≤ st_M a.toNatClampNeg)) : Cp_ PL mX8_set [vR 0 33, vI a, vI x] V ((-1)) := by
  refine Ca_.of mv_X8_set.2.2.2.2.2.2 1 (lo := [some (vR 0 33), some (vI a), some (vI x), none]) rfl (Nat.le_of_ble_eq_true rfl) ?_
  refine r_iload_n (pc2 := 1) dX8_set_0 rfl rfl ?_
  refine r_iconst (pc2 := 2) (nI 0) dX8_set_1 (by decide) rfl ?_
  refine r_bipush (pc2 := 4) (nI 9) dX8_set_2 (by decide) rfl ?_
  refine r_cs3p (pc2 := 7) dX8_set_4 st_X8_set_54 (Nat.le_of_ble_eq_true rfl) rfl (c_X8_in) ?_
  refine r_ifB_eq (pc2 := 10) (tgt := 29) dX8_set_7 (by decide) rfl (fun c7 => ?_) (fun c7 => ?_)
  · skip
    refine r_iconst (pc2 := 30) (-1) dX8_set_29 (by decide) rfl ?_
    exact r_iret dX8_set_30 rfl (⟨rfl, rfl⟩)
  · skip
    obtain ⟨k, hk, rfl⟩ := in_ix (of_decide_eq_true c7)
    refine r_iload_n (pc2 := 11) dX8_set_10 rfl rfl ?_
    refine r_aload_n (pc2 := 12) dX8_set_11 rfl rfl ?_
    refine r_getR (pc2 := 15) dX8_set_12 fl_X8_26 (by decide) rfl rfl rfl ?_
    refine r_iload_n (pc2 := 16) dX8_set_15 rfl rfl ?_
    refine r_ialde (pc2 := 17) (x := ((V 0 38 k))) (j := _) (rfl) dX8_set_16 (by decide) rfl rfl (rfl) (by show _ < 10; omega) rfl ?_
    refine r_aload_n (pc2 := 18) dX8_set_17 rfl rfl ?_
    refine r_getR (pc2 := 21) dX8_set_18 fl_X8_29 (by decide) rfl rfl rfl ?_
    refine r_iload_n (pc2 := 22) dX8_set_21 rfl rfl ?_
    refine r_ialde (pc2 := 23) (x := ((V 0 39 k))) (j := _) (rfl) dX8_set_22 (by decide) rfl rfl (rfl) (by show _ < 10; omega) rfl ?_
    refine r_cs3p (pc2 := 26) dX8_set_23 st_X8_set_54 (Nat.le_of_ble_eq_true rfl) rfl (c_X8_in) ?_
    refine r_ifB_ne (pc2 := 29) (tgt := 31) dX8_set_26 (by decide) rfl (fun c26 => ?_) (fun c26 => ?_)
    · skip
      have q := of_decide_eq_true c26
      rcases hlh k hk with ⟨_, e1, e2⟩ | ⟨ne, e1, e2⟩
      · rw [e1, e2] at q
        exact absurd (Int32.le_trans q.1 q.2) (by decide)
      · rw [e1, e2] at q
        exact absurd ⟨set_rg hk ne, by rw [nI_clamp (by omega)]; exact q⟩ hbad
    · skip
      refine r_iconst (pc2 := 30) (-1) dX8_set_29 (by decide) rfl ?_
      exact r_iret dX8_set_30 rfl (⟨rfl, rfl⟩)

set_option maxRecDepth 100000 in
set_option maxHeartbeats 4000000 in
theorem c_X8_set_ok {PL : List (Nat × Nat)} {V : Mm_} (hlh : LH_ V) {k : Nat} {x : Int32} (hk : k < 4 ∨ (6 ≤ k ∧ k < 10)) (h1 : st_L k ≤ x) (h2 : x ≤ st_M k) : Ci_ PL mX8_set [vR 0 33, vI (nI k), vI x] V (fun r V' => r = V 0 37 k ∧ V' = m_set V 0 37 k x) := by
  refine Ca_.of mv_X8_set.2.2.2.2.2.2 1 (lo := [some (vR 0 33), some (vI (nI k)), some (vI x), none]) rfl (Nat.le_of_ble_eq_true rfl) ?_
  have he : V 0 38 k = st_L k ∧ V 0 39 k = st_M k := by
    rcases hlh k (by omega) with ⟨z, _⟩ | ⟨_, z⟩
    · omega
    · exact z
  refine r_iload_n (pc2 := 1) dX8_set_0 rfl rfl ?_
  refine r_iconst (pc2 := 2) (nI 0) dX8_set_1 (by decide) rfl ?_
  refine r_bipush (pc2 := 4) (nI 9) dX8_set_2 (by decide) rfl ?_
  refine r_cs3p (pc2 := 7) dX8_set_4 st_X8_set_54 (Nat.le_of_ble_eq_true rfl) rfl (c_in_ok ⟨nI_le (by omega) (by omega), nI_le (by omega) (by omega)⟩) ?_
  refine r_if0N_eq (pc2 := 10) (tgt := 29) (by omega) dX8_set_7 (by decide) rfl (fun c7 => ?_) (fun c7 => ?_)
  · skip
    exact absurd c7 (by decide)
  · skip
    refine r_iload_n (pc2 := 11) dX8_set_10 rfl rfl ?_
    refine r_aload_n (pc2 := 12) dX8_set_11 rfl rfl ?_
    refine r_getR (pc2 := 15) dX8_set_12 fl_X8_26 (by decide) rfl rfl rfl ?_
    refine r_iload_n (pc2 := 16) dX8_set_15 rfl rfl ?_
    refine r_ialde (pc2 := 17) (x := ((V 0 38 k))) (j := _) (rfl) dX8_set_16 (by decide) rfl rfl (rfl) (by show _ < 10; omega) rfl ?_
    refine r_aload_n (pc2 := 18) dX8_set_17 rfl rfl ?_
    refine r_getR (pc2 := 21) dX8_set_18 fl_X8_29 (by decide) rfl rfl rfl ?_
    refine r_iload_n (pc2 := 22) dX8_set_21 rfl rfl ?_
    refine r_ialde (pc2 := 23) (x := ((V 0 39 k))) (j := _) (rfl) dX8_set_22 (by decide) rfl rfl (rfl) (by show _ < 10; omega) rfl ?_
    refine r_cs3p (pc2 := 26) dX8_set_23 st_X8_set_54 (Nat.le_of_ble_eq_true rfl) rfl (c_in_ok ⟨by rw [he.1]; exact h1, by rw [he.2]; exact h2⟩) ?_
    refine r_if0N_ne (pc2 := 29) (tgt := 31) (by omega) dX8_set_26 (by decide) rfl (fun c26 => ?_) (fun c26 => ?_)
    · skip
      refine r_aload_n (pc2 := 32) dX8_set_31 rfl rfl ?_
      refine r_getR (pc2 := 35) dX8_set_32 fl_X8_23 (by decide) rfl rfl rfl ?_
      refine r_iload_n (pc2 := 36) dX8_set_35 rfl rfl ?_
      refine r_ialde (pc2 := 37) (x := ((V 0 37 k))) (j := _) (rfl) dX8_set_36 (by decide) rfl rfl (rfl) (by show _ < 10; omega) rfl ?_
      refine r_istore_n (pc2 := 38) dX8_set_37 (by decide) rfl rfl ?_
      refine r_aload_n (pc2 := 39) dX8_set_38 rfl rfl ?_
      refine r_getR (pc2 := 42) dX8_set_39 fl_X8_23 (by decide) rfl rfl rfl ?_
      refine r_iload_n (pc2 := 43) dX8_set_42 rfl rfl ?_
      refine r_iload_n (pc2 := 44) dX8_set_43 rfl rfl ?_
      refine r_iast (pc2 := 45) (j := _) dX8_set_44 (by decide) rfl rfl (rfl) (by show _ < 10; omega) rfl ?_
      refine r_iload_n (pc2 := 46) dX8_set_45 rfl rfl ?_
      exact r_iret dX8_set_46 rfl (⟨rfl, rfl⟩)
    · skip
      exact absurd c26 (by decide)
