/-! reference: its row against a state, leaves: written by wip/whole/m12.py -/

/-- what holds of every state that is reached -/
def IV_ (s : Sg_) : Prop :=
  (∀ k, k < 64 → s 5 k = nI 1 → 0 < s 2 k) ∧ (∀ a, a < 8 → ¬ s 5 (a * 8 + a) = nI 1) ∧ (∀ k, k < 64 → s 5 k = nI 0 ∨ s 5 k = nI 1) ∧ (∀ a c, a < 8 → c < 8 → ¬ 0 < s 9 ((a * 8 + a) * 8 + c)) ∧ (∀ a b, a < 8 → b < 8 → ¬ 0 < s 9 ((a * 8 + b) * 8 + a)) ∧ (∀ k, k < 512 → 0 ≤ s 7 k ∧ s 7 k ≤ 30000) ∧ (∀ k, k < 512 → 0 ≤ s 8 k ∧ s 8 k ≤ 30000) ∧ (∀ k, k < 64 → 0 ≤ s 2 k ∧ s 2 k ≤ 500) ∧ (∀ k, k < 64 → 0 ≤ s 3 k ∧ s 3 k ≤ 500) ∧ (∀ k, k < 64 → 0 ≤ s 4 k ∧ s 4 k ≤ 500) ∧ (∀ a b, a < 8 → b < 8 → s 2 (a * 8 + b) = s 2 (b * 8 + a) ∧ s 3 (a * 8 + b) = s 3 (b * 8 + a))
theorem IV_.up {s : Sg_} (h : IV_ s) : ∀ k, k < 64 → s 5 k = nI 1 → 0 < s 2 k := h.1
theorem IV_.ud {s : Sg_} (h : IV_ s) : ∀ a, a < 8 → ¬ s 5 (a * 8 + a) = nI 1 := h.2.1
theorem IV_.u01 {s : Sg_} (h : IV_ s) : ∀ k, k < 64 → s 5 k = nI 0 ∨ s 5 k = nI 1 := h.2.2.1
theorem IV_.sd {s : Sg_} (h : IV_ s) : ∀ a c, a < 8 → c < 8 → ¬ 0 < s 9 ((a * 8 + a) * 8 + c) := h.2.2.2.1
theorem IV_.sn {s : Sg_} (h : IV_ s) : ∀ a b, a < 8 → b < 8 → ¬ 0 < s 9 ((a * 8 + b) * 8 + a) := h.2.2.2.2.1
theorem IV_.b7 {s : Sg_} (h : IV_ s) : ∀ k, k < 512 → 0 ≤ s 7 k ∧ s 7 k ≤ 30000 := h.2.2.2.2.2.1
theorem IV_.b8 {s : Sg_} (h : IV_ s) : ∀ k, k < 512 → 0 ≤ s 8 k ∧ s 8 k ≤ 30000 := h.2.2.2.2.2.2.1
theorem IV_.l2 {s : Sg_} (h : IV_ s) : ∀ k, k < 64 → 0 ≤ s 2 k ∧ s 2 k ≤ 500 := h.2.2.2.2.2.2.2.1
theorem IV_.l3 {s : Sg_} (h : IV_ s) : ∀ k, k < 64 → 0 ≤ s 3 k ∧ s 3 k ≤ 500 := h.2.2.2.2.2.2.2.2.1
theorem IV_.l4 {s : Sg_} (h : IV_ s) : ∀ k, k < 64 → 0 ≤ s 4 k ∧ s 4 k ≤ 500 := h.2.2.2.2.2.2.2.2.2.1
theorem IV_.sy {s : Sg_} (h : IV_ s) : ∀ a b, a < 8 → b < 8 → s 2 (a * 8 + b) = s 2 (b * 8 + a) ∧ s 3 (a * 8 + b) = s 3 (b * 8 + a) := h.2.2.2.2.2.2.2.2.2.2
/-- the row shows a state: network, tables, choices, counters -/
def RT_ (x : Nat → Int32) (s : Sg_) : Prop :=
  (IV_ s) ∧ (∀ k w, k < 64 → w < 4 → x (4 * k + w) = s (2 + w) k) ∧ (∀ k, k < 512 → x (256 + 6 * k) = b2 (decide (0 < s 9 k))) ∧ (∀ k w, k < 512 → w < 5 → x (256 + 6 * k + (1 + w)) = s (7 + w) k) ∧ (∀ k, k < 64 → x (3464 + k) = s 17 k) ∧ (x 3593 = s 0 1) ∧ (x 3594 = s 0 2) ∧ (x 3595 = s 1 0)
theorem RT_.iv {x : Nat → Int32} {s : Sg_} (h : RT_ x s) : IV_ s := h.1
theorem RT_.lk {x : Nat → Int32} {s : Sg_} (h : RT_ x s) : ∀ k w, k < 64 → w < 4 → x (4 * k + w) = s (2 + w) k := h.2.1
theorem RT_.pr {x : Nat → Int32} {s : Sg_} (h : RT_ x s) : ∀ k, k < 512 → x (256 + 6 * k) = b2 (decide (0 < s 9 k)) := h.2.2.1
theorem RT_.en {x : Nat → Int32} {s : Sg_} (h : RT_ x s) : ∀ k w, k < 512 → w < 5 → x (256 + 6 * k + (1 + w)) = s (7 + w) k := h.2.2.2.1
theorem RT_.ck {x : Nat → Int32} {s : Sg_} (h : RT_ x s) : ∀ k, k < 64 → x (3464 + k) = s 17 k := h.2.2.2.2.1
theorem RT_.tm {x : Nat → Int32} {s : Sg_} (h : RT_ x s) : x 3593 = s 0 1 := h.2.2.2.2.2.1
theorem RT_.se {x : Nat → Int32} {s : Sg_} (h : RT_ x s) : x 3594 = s 0 2 := h.2.2.2.2.2.2.1
theorem RT_.lc {x : Nat → Int32} {s : Sg_} (h : RT_ x s) : x 3595 = s 1 0 := h.2.2.2.2.2.2.2
/-- the row shows what was sent -/
def RS_ (x : Nat → Int32) (s : Sg_) (n : Nat) : Prop := ∀ a, a < n → (x (3328 + 17 * a) = nI 0 ∧ ∀ b, b < n → s 13 (a * 8 + b) = -2) ∨ (x (3328 + 17 * a) = nI 1 ∧ ∀ b, b < n → x (3328 + 17 * a + (1 + b)) = s 13 (a * 8 + b) ∧ x (3328 + 17 * a + (9 + b)) = s 14 (a * 8 + b))
/-- the row shows the journal -/
def RJ_ (x : Nat → Int32) (s : Sg_) (m : Nat) : Prop :=
  (s 15 1 = nI m) ∧ (x 3592 = nI (js_ m)) ∧ (∀ i w, i < js_ m → w < 4 → x (3528 + 4 * i + w) = s 16 ((m - 1 - i) % 16 * 4 + w))
theorem RJ_.ct {x : Nat → Int32} {s : Sg_} {m : Nat} (h : RJ_ x s m) : s 15 1 = nI m := h.1
theorem RJ_.sz {x : Nat → Int32} {s : Sg_} {m : Nat} (h : RJ_ x s m) : x 3592 = nI (js_ m) := h.2.1
theorem RJ_.rw {x : Nat → Int32} {s : Sg_} {m : Nat} (h : RJ_ x s m) : ∀ i w, i < js_ m → w < 4 → x (3528 + 4 * i + w) = s 16 ((m - 1 - i) % 16 * 4 + w) := h.2.2
theorem b2_i1 {b : Bool} : (b2 b = nI 1) = (b = true) := by cases b <;> simp [b2, nI]

set_option maxRecDepth 100000 in
set_option maxHeartbeats 4000000 in
theorem c_X8_in {PL : List (Nat × Nat)} {V : Mm_} {v a b : Int32} : Cp_ PL mX8_in [vI v, vI a, vI b] V (b2 (decide (a ≤ v ∧ v ≤ b))) := by
  refine Ca_.of ms_X8_in.2.2.2.2.2 0 (lo := [some (vI v), some (vI a), some (vI b)]) rfl (Nat.le_of_ble_eq_true rfl) ?_
  refine r_iload_n (pc2 := 1) dX8_in_0 rfl rfl ?_
  refine r_iload_n (pc2 := 2) dX8_in_1 rfl rfl ?_
  refine r_ic_lt (pc2 := 5) (tgt := 14) dX8_in_2 (by decide) rfl (fun c2 => ?_) (fun c2 => ?_)
  · skip
    refine r_iconst (pc2 := 15) (nI 0) dX8_in_14 (by decide) rfl ?_
    exact r_zret dX8_in_15 rfl (Or.inl rfl) (⟨b2_f (by simp only [Int32.lt_iff_toInt_lt, Int32.le_iff_toInt_le, ← Int32.toInt_inj, decide_eq_true_eq, decide_eq_false_iff_not] at c2 ⊢; omega), rfl⟩)
  · skip
    refine r_iload_n (pc2 := 6) dX8_in_5 rfl rfl ?_
    refine r_iload_n (pc2 := 7) dX8_in_6 rfl rfl ?_
    refine r_ic_gt (pc2 := 10) (tgt := 14) dX8_in_7 (by decide) rfl (fun c7 => ?_) (fun c7 => ?_)
    · skip
      refine r_iconst (pc2 := 15) (nI 0) dX8_in_14 (by decide) rfl ?_
      exact r_zret dX8_in_15 rfl (Or.inl rfl) (⟨b2_f (by simp only [Int32.lt_iff_toInt_lt, Int32.le_iff_toInt_le, ← Int32.toInt_inj, decide_eq_true_eq, decide_eq_false_iff_not] at c2 c7 ⊢; omega), rfl⟩)
    · skip
      refine r_iconst (pc2 := 11) (nI 1) dX8_in_10 (by decide) rfl ?_
      refine r_goto (pc2 := 15) dX8_in_11 (by decide) ?_
      exact r_zret dX8_in_15 rfl (Or.inr rfl) (⟨b2_t (by simp only [Int32.lt_iff_toInt_lt, Int32.le_iff_toInt_le, ← Int32.toInt_inj, decide_eq_true_eq, decide_eq_false_iff_not] at c2 c7 ⊢; omega), rfl⟩)

theorem in_ok {n : Nat} {a : Int32} (hn1 : 2 ≤ n) (hn8 : n ≤ 8) : (nI 0 ≤ a ∧ a ≤ nI (n - 1)) = (0 ≤ a ∧ a < nI n) := by
  have e1 : (nI (n - 1)).toInt = (n : Int) - 1 := by rw [nI_toInt (by omega)]; omega
  have e2 : (nI n).toInt = (n : Int) := nI_toInt (by omega)
  rw [nI_0, Int32.le_iff_toInt_le, Int32.lt_iff_toInt_lt, Int32.le_iff_toInt_le, e1, e2]
  exact propext ⟨fun z => ⟨z.1, by omega⟩, fun z => ⟨z.1, by omega⟩⟩
set_option maxRecDepth 100000 in
set_option maxHeartbeats 4000000 in
theorem c_X8_isNode {PL : List (Nat × Nat)} {V : Mm_} {n : Nat} (hm : V 0 33 0 = nI n) (hn1 : 2 ≤ n) (hn8 : n ≤ 8) {a : Int32} : Cp_ PL mX8_isNode [vR 0 33, vI a] V (b2 (decide (0 ≤ a ∧ a < nI n))) := by
  refine Ca_.of mv_X8_isNode.2.2.2.2.2.2 0 (lo := [some (vR 0 33), some (vI a)]) rfl (Nat.le_of_ble_eq_true rfl) ?_
  refine r_iload_n (pc2 := 1) dX8_isNode_0 rfl rfl ?_
  refine r_iconst (pc2 := 2) (nI 0) dX8_isNode_1 (by decide) rfl ?_
  refine r_aload_n (pc2 := 3) dX8_isNode_2 rfl rfl ?_
  refine r_getIe (pc2 := 6) (x := (nI n)) (hm) dX8_isNode_3 fl_X8_7 (by decide) rfl rfl rfl ?_
  refine r_iconst (pc2 := 7) (nI 1) dX8_isNode_6 (by decide) rfl ?_
  refine r_isubN (pc2 := 8) (by omega) dX8_isNode_7 rfl ?_
  refine r_cs3p (pc2 := 11) dX8_isNode_8 st_X8_isNode_54 (Nat.le_of_ble_eq_true rfl) rfl (c_X8_in) ?_
  exact r_zret dX8_isNode_11 rfl (b2_01 _) (⟨congrArg b2 (decide_eq_decide.mpr (Eq.to_iff (in_ok hn1 hn8))), rfl⟩)

set_option maxRecDepth 100000 in
set_option maxHeartbeats 4000000 in
theorem c_X8_arePair {PL : List (Nat × Nat)} {V : Mm_} {n : Nat} (hm : V 0 33 0 = nI n) (hn1 : 2 ≤ n) (hn8 : n ≤ 8) {a b : Int32} : Cp_ PL mX8_arePair [vR 0 33, vI a, vI b] V (b2 (decide (pr_ok (nI n) a b))) := by
  refine Ca_.of mv_X8_arePair.2.2.2.2.2.2 0 (lo := [some (vR 0 33), some (vI a), some (vI b)]) rfl (Nat.le_of_ble_eq_true rfl) ?_
  refine r_aload_n (pc2 := 1) dX8_arePair_0 rfl rfl ?_
  refine r_iload_n (pc2 := 2) dX8_arePair_1 rfl rfl ?_
  refine r_cv1p (pc2 := 5) dX8_arePair_2 st_X8_arePair_58 rl_X8_isNode (Nat.le_of_ble_eq_true rfl) rfl (c_X8_isNode hm hn1 hn8) ?_
  refine r_ifB_eq (pc2 := 8) (tgt := 25) dX8_arePair_5 (by decide) rfl (fun c5 => ?_) (fun c5 => ?_)
  · skip
    refine r_iconst (pc2 := 26) (nI 0) dX8_arePair_25 (by decide) rfl ?_
    exact r_zret dX8_arePair_26 rfl (Or.inl rfl) (⟨b2_f (fun z => of_decide_eq_false c5 ⟨z.1, z.2.1⟩), rfl⟩)
  · skip
    refine r_aload_n (pc2 := 9) dX8_arePair_8 rfl rfl ?_
    refine r_iload_n (pc2 := 10) dX8_arePair_9 rfl rfl ?_
    refine r_cv1p (pc2 := 13) dX8_arePair_10 st_X8_arePair_58 rl_X8_isNode (Nat.le_of_ble_eq_true rfl) rfl (c_X8_isNode hm hn1 hn8) ?_
    refine r_ifB_eq (pc2 := 16) (tgt := 25) dX8_arePair_13 (by decide) rfl (fun c13 => ?_) (fun c13 => ?_)
    · skip
      refine r_iconst (pc2 := 26) (nI 0) dX8_arePair_25 (by decide) rfl ?_
      exact r_zret dX8_arePair_26 rfl (Or.inl rfl) (⟨b2_f (fun z => of_decide_eq_false c13 ⟨z.2.2.1, z.2.2.2.1⟩), rfl⟩)
    · skip
      refine r_iload_n (pc2 := 17) dX8_arePair_16 rfl rfl ?_
      refine r_iload_n (pc2 := 18) dX8_arePair_17 rfl rfl ?_
      refine r_ic_eq (pc2 := 21) (tgt := 25) dX8_arePair_18 (by decide) rfl (fun c18 => ?_) (fun c18 => ?_)
      · skip
        refine r_iconst (pc2 := 26) (nI 0) dX8_arePair_25 (by decide) rfl ?_
        exact r_zret dX8_arePair_26 rfl (Or.inl rfl) (⟨b2_f (fun z => z.2.2.2.2 c18), rfl⟩)
      · skip
        refine r_iconst (pc2 := 22) (nI 1) dX8_arePair_21 (by decide) rfl ?_
        refine r_goto (pc2 := 26) dX8_arePair_22 (by decide) ?_
        exact r_zret dX8_arePair_26 rfl (Or.inr rfl) (⟨b2_t ⟨(of_decide_eq_true c5).1, (of_decide_eq_true c5).2, (of_decide_eq_true c13).1, (of_decide_eq_true c13).2, c18⟩, rfl⟩)

set_option maxRecDepth 100000 in
set_option maxHeartbeats 4000000 in
theorem c_X8_linkAt {PL : List (Nat × Nat)} {V : Mm_} {i j w : Nat} : Cp_ PL mX8_linkAt [vI (nI i), vI (nI j), vI (nI w)] V (nI (4 * (i * 8 + j) + w)) := by
  refine Ca_.of ms_X8_linkAt.2.2.2.2.2 0 (lo := [some (vI (nI i)), some (vI (nI j)), some (vI (nI w))]) rfl (Nat.le_of_ble_eq_true rfl) ?_
  refine r_iconst (pc2 := 1) (nI 0) dX8_linkAt_0 (by decide) rfl ?_
  refine r_iconst (pc2 := 2) (nI 4) dX8_linkAt_1 (by decide) rfl ?_
  refine r_bipush (pc2 := 4) (nI 8) dX8_linkAt_2 (by decide) rfl ?_
  refine r_iload_n (pc2 := 5) dX8_linkAt_4 rfl rfl ?_
  refine r_imulN (pc2 := 6) dX8_linkAt_5 rfl ?_
  refine r_iload_n (pc2 := 7) dX8_linkAt_6 rfl rfl ?_
  refine r_iaddN (pc2 := 8) dX8_linkAt_7 rfl ?_
  refine r_imulN (pc2 := 9) dX8_linkAt_8 rfl ?_
  refine r_iaddN (pc2 := 10) dX8_linkAt_9 rfl ?_
  refine r_iload_n (pc2 := 11) dX8_linkAt_10 rfl rfl ?_
  refine r_iaddN (pc2 := 12) dX8_linkAt_11 rfl ?_
  exact r_iret dX8_linkAt_12 rfl (⟨congrArg nI (by omega), rfl⟩)

set_option maxRecDepth 100000 in
set_option maxHeartbeats 4000000 in
theorem c_X8_entryAt {PL : List (Nat × Nat)} {V : Mm_} {i j c w : Nat} : Cp_ PL mX8_entryAt [vI (nI i), vI (nI j), vI (nI c), vI (nI w)] V (nI (256 + 6 * ((i * 8 + j) * 8 + c) + w)) := by
  refine Ca_.of ms_X8_entryAt.2.2.2.2.2 0 (lo := [some (vI (nI i)), some (vI (nI j)), some (vI (nI c)), some (vI (nI w))]) rfl (Nat.le_of_ble_eq_true rfl) ?_
  refine r_sipush (pc2 := 3) (nI 256) dX8_entryAt_0 (by decide) rfl ?_
  refine r_bipush (pc2 := 5) (nI 6) dX8_entryAt_3 (by decide) rfl ?_
  refine r_bipush (pc2 := 7) (nI 64) dX8_entryAt_5 (by decide) rfl ?_
  refine r_iload_n (pc2 := 8) dX8_entryAt_7 rfl rfl ?_
  refine r_imulN (pc2 := 9) dX8_entryAt_8 rfl ?_
  refine r_bipush (pc2 := 11) (nI 8) dX8_entryAt_9 (by decide) rfl ?_
  refine r_iload_n (pc2 := 12) dX8_entryAt_11 rfl rfl ?_
  refine r_imulN (pc2 := 13) dX8_entryAt_12 rfl ?_
  refine r_iaddN (pc2 := 14) dX8_entryAt_13 rfl ?_
  refine r_iload_n (pc2 := 15) dX8_entryAt_14 rfl rfl ?_
  refine r_iaddN (pc2 := 16) dX8_entryAt_15 rfl ?_
  refine r_imulN (pc2 := 17) dX8_entryAt_16 rfl ?_
  refine r_iaddN (pc2 := 18) dX8_entryAt_17 rfl ?_
  refine r_iload_n (pc2 := 19) dX8_entryAt_18 rfl rfl ?_
  refine r_iaddN (pc2 := 20) dX8_entryAt_19 rfl ?_
  exact r_iret dX8_entryAt_20 rfl (⟨congrArg nI (by omega), rfl⟩)

set_option maxRecDepth 100000 in
set_option maxHeartbeats 4000000 in
theorem c_X8_sentAt {PL : List (Nat × Nat)} {V : Mm_} {i k : Nat} : Cp_ PL mX8_sentAt [vI (nI i), vI (nI k)] V (nI (3328 + 17 * i + k)) := by
  refine Ca_.of ms_X8_sentAt.2.2.2.2.2 0 (lo := [some (vI (nI i)), some (vI (nI k))]) rfl (Nat.le_of_ble_eq_true rfl) ?_
  refine r_sipush (pc2 := 3) (nI 3328) dX8_sentAt_0 (by decide) rfl ?_
  refine r_bipush (pc2 := 5) (nI 17) dX8_sentAt_3 (by decide) rfl ?_
  refine r_iload_n (pc2 := 6) dX8_sentAt_5 rfl rfl ?_
  refine r_imulN (pc2 := 7) dX8_sentAt_6 rfl ?_
  refine r_iaddN (pc2 := 8) dX8_sentAt_7 rfl ?_
  refine r_iload_n (pc2 := 9) dX8_sentAt_8 rfl rfl ?_
  refine r_iaddN (pc2 := 10) dX8_sentAt_9 rfl ?_
  exact r_iret dX8_sentAt_10 rfl (⟨rfl, rfl⟩)

set_option maxRecDepth 100000 in
set_option maxHeartbeats 4000000 in
theorem c_X8_isLink {PL : List (Nat × Nat)} {V : Mm_} {s : Sg_} (h : RT_ (V 0 34) s) {i j : Nat} (hi : i < 8) (hj : j < 8) : Cp_ PL mX8_isLink [vR 0 33, vI (nI i), vI (nI j)] V (b2 (decide (0 < s 2 (i * 8 + j)))) := by
  refine Ca_.of mv_X8_isLink.2.2.2.2.2.2 0 (lo := [some (vR 0 33), some (vI (nI i)), some (vI (nI j))]) rfl (Nat.le_of_ble_eq_true rfl) ?_
  refine r_aload_n (pc2 := 1) dX8_isLink_0 rfl rfl ?_
  refine r_getR (pc2 := 4) dX8_isLink_1 fl_X8_13 (by decide) rfl rfl rfl ?_
  refine r_iload_n (pc2 := 5) dX8_isLink_4 rfl rfl ?_
  refine r_iload_n (pc2 := 6) dX8_isLink_5 rfl rfl ?_
  refine r_iconst (pc2 := 7) (nI 0) dX8_isLink_6 (by decide) rfl ?_
  refine r_cs3p (pc2 := 10) dX8_isLink_7 st_X8_isLink_62 (Nat.le_of_ble_eq_true rfl) rfl (c_X8_linkAt) ?_
  refine r_ialde (pc2 := 11) (x := ((s 2 (i * 8 + j)))) (j := _) (h.lk (i * 8 + j) 0 (by omega) (by omega)) dX8_isLink_10 (by decide) rfl rfl (rfl) (by show _ < 3596; omega) rfl ?_
  refine r_if_le (pc2 := 14) (tgt := 18) dX8_isLink_11 (by decide) rfl (fun c11 => ?_) (fun c11 => ?_)
  · skip
    refine r_iconst (pc2 := 19) (nI 0) dX8_isLink_18 (by decide) rfl ?_
    exact r_zret dX8_isLink_19 rfl (Or.inl rfl) (⟨b2_f (by simp only [Int32.lt_iff_toInt_lt, Int32.le_iff_toInt_le, ← Int32.toInt_inj, decide_eq_true_eq, decide_eq_false_iff_not] at c11 ⊢; omega), rfl⟩)
  · skip
    refine r_iconst (pc2 := 15) (nI 1) dX8_isLink_14 (by decide) rfl ?_
    refine r_goto (pc2 := 19) dX8_isLink_15 (by decide) ?_
    exact r_zret dX8_isLink_19 rfl (Or.inr rfl) (⟨b2_t (by simp only [Int32.lt_iff_toInt_lt, Int32.le_iff_toInt_le, ← Int32.toInt_inj, decide_eq_true_eq, decide_eq_false_iff_not] at c11 ⊢; omega), rfl⟩)

set_option maxRecDepth 100000 in
set_option maxHeartbeats 4000000 in
theorem c_X8_areNear {PL : List (Nat × Nat)} {V : Mm_} {s : Sg_} (h : RT_ (V 0 34) s) {i j : Nat} (hi : i < 8) (hj : j < 8) : Cp_ PL mX8_areNear [vR 0 33, vI (nI i), vI (nI j)] V (b2 (decide (s 5 (i * 8 + j) = nI 1))) := by
  refine Ca_.of mv_X8_areNear.2.2.2.2.2.2 0 (lo := [some (vR 0 33), some (vI (nI i)), some (vI (nI j))]) rfl (Nat.le_of_ble_eq_true rfl) ?_
  refine r_aload_n (pc2 := 1) dX8_areNear_0 rfl rfl ?_
  refine r_iload_n (pc2 := 2) dX8_areNear_1 rfl rfl ?_
  refine r_iload_n (pc2 := 3) dX8_areNear_2 rfl rfl ?_
  refine r_cv2p (pc2 := 6) dX8_areNear_3 st_X8_areNear_66 rl_X8_isLink (Nat.le_of_ble_eq_true rfl) rfl (c_X8_isLink h (by omega) (by omega)) ?_
  refine r_ifB_eq (pc2 := 9) (tgt := 28) dX8_areNear_6 (by decide) rfl (fun c6 => ?_) (fun c6 => ?_)
  · skip
    refine r_iconst (pc2 := 29) (nI 0) dX8_areNear_28 (by decide) rfl ?_
    exact r_zret dX8_areNear_29 rfl (Or.inl rfl) (⟨b2_f (fun z => of_decide_eq_false c6 (h.iv.up _ (by omega) z)), rfl⟩)
  · skip
    refine r_aload_n (pc2 := 10) dX8_areNear_9 rfl rfl ?_
    refine r_getR (pc2 := 13) dX8_areNear_10 fl_X8_13 (by decide) rfl rfl rfl ?_
    refine r_iload_n (pc2 := 14) dX8_areNear_13 rfl rfl ?_
    refine r_iload_n (pc2 := 15) dX8_areNear_14 rfl rfl ?_
    refine r_iconst (pc2 := 16) (nI 3) dX8_areNear_15 (by decide) rfl ?_
    refine r_cs3p (pc2 := 19) dX8_areNear_16 st_X8_areNear_62 (Nat.le_of_ble_eq_true rfl) rfl (c_X8_linkAt) ?_
    refine r_ialde (pc2 := 20) (x := ((s 5 (i * 8 + j)))) (j := _) (h.lk (i * 8 + j) 3 (by omega) (by omega)) dX8_areNear_19 (by decide) rfl rfl (rfl) (by show _ < 3596; omega) rfl ?_
    refine r_iconst (pc2 := 21) (nI 1) dX8_areNear_20 (by decide) rfl ?_
    refine r_ic_ne (pc2 := 24) (tgt := 28) dX8_areNear_21 (by decide) rfl (fun c21 => ?_) (fun c21 => ?_)
    · skip
      refine r_iconst (pc2 := 29) (nI 0) dX8_areNear_28 (by decide) rfl ?_
      exact r_zret dX8_areNear_29 rfl (Or.inl rfl) (⟨b2_f c21, rfl⟩)
    · skip
      refine r_iconst (pc2 := 25) (nI 1) dX8_areNear_24 (by decide) rfl ?_
      refine r_goto (pc2 := 29) dX8_areNear_25 (by decide) ?_
      exact r_zret dX8_areNear_29 rfl (Or.inr rfl) (⟨b2_t (by first | exact c21 | exact Decidable.not_not.mp c21), rfl⟩)

set_option maxRecDepth 100000 in
set_option maxHeartbeats 4000000 in
theorem c_X8_sets {PL : List (Nat × Nat)} {V : Mm_} {i j w : Nat} {v : Int32} (hi : i < 8) (hj : j < 8) (hw : w < 4) : Cm_ PL mX8_sets [vR 0 33, vI (nI i), vI (nI j), vI (nI w), vI v] V (m_set (m_set V 0 34 (4 * (i * 8 + j) + w) v) 0 34 (4 * (j * 8 + i) + w) v) := by
  refine Ca_.of mv_X8_sets.2.2.2.2.2.2 0 (lo := [some (vR 0 33), some (vI (nI i)), some (vI (nI j)), some (vI (nI w)), some (vI v)]) rfl (Nat.le_of_ble_eq_true rfl) ?_
  refine r_aload_n (pc2 := 1) dX8_sets_0 rfl rfl ?_
  refine r_getR (pc2 := 4) dX8_sets_1 fl_X8_13 (by decide) rfl rfl rfl ?_
  refine r_iload_n (pc2 := 5) dX8_sets_4 rfl rfl ?_
  refine r_iload_n (pc2 := 6) dX8_sets_5 rfl rfl ?_
  refine r_iload_n (pc2 := 7) dX8_sets_6 rfl rfl ?_
  refine r_cs3p (pc2 := 10) dX8_sets_7 st_X8_sets_62 (Nat.le_of_ble_eq_true rfl) rfl (c_X8_linkAt) ?_
  refine r_iload (pc2 := 12) dX8_sets_10 rfl rfl ?_
  refine r_iast (pc2 := 13) (j := _) dX8_sets_12 (by decide) rfl rfl (rfl) (by show _ < 3596; omega) rfl ?_
  refine r_aload_n (pc2 := 14) dX8_sets_13 rfl rfl ?_
  refine r_getR (pc2 := 17) dX8_sets_14 fl_X8_13 (by decide) rfl rfl rfl ?_
  refine r_iload_n (pc2 := 18) dX8_sets_17 rfl rfl ?_
  refine r_iload_n (pc2 := 19) dX8_sets_18 rfl rfl ?_
  refine r_iload_n (pc2 := 20) dX8_sets_19 rfl rfl ?_
  refine r_cs3p (pc2 := 23) dX8_sets_20 st_X8_sets_62 (Nat.le_of_ble_eq_true rfl) rfl (c_X8_linkAt) ?_
  refine r_iload (pc2 := 25) dX8_sets_23 rfl rfl ?_
  refine r_iast (pc2 := 26) (j := _) dX8_sets_25 (by decide) rfl rfl (rfl) (by show _ < 3596; omega) rfl ?_
  exact r_vret dX8_sets_26 rfl (rfl)

set_option maxRecDepth 100000 in
set_option maxHeartbeats 4000000 in
theorem c_X8_of {PL : List (Nat × Nat)} {V : Mm_} {s : Sg_} (h : RT_ (V 0 34) s) {i j c : Nat} (hi : i < 8) (hj : j < 8) (hc : c < 8) {w r : Nat} (hw : 1 ≤ w) (hw6 : w < 6) (hr : r = 6 + w) : Cp_ PL mX8_of [vR 0 33, vI (nI i), vI (nI j), vI (nI c), vI (nI w)] V (s r ((i * 8 + j) * 8 + c)) := by
  refine Ca_.of mv_X8_of.2.2.2.2.2.2 0 (lo := [some (vR 0 33), some (vI (nI i)), some (vI (nI j)), some (vI (nI c)), some (vI (nI w))]) rfl (Nat.le_of_ble_eq_true rfl) ?_
  refine r_aload_n (pc2 := 1) dX8_of_0 rfl rfl ?_
  refine r_getR (pc2 := 4) dX8_of_1 fl_X8_13 (by decide) rfl rfl rfl ?_
  refine r_iload_n (pc2 := 5) dX8_of_4 rfl rfl ?_
  refine r_iload_n (pc2 := 6) dX8_of_5 rfl rfl ?_
  refine r_iload_n (pc2 := 7) dX8_of_6 rfl rfl ?_
  refine r_iload (pc2 := 9) dX8_of_7 rfl rfl ?_
  refine r_cs4p (pc2 := 12) dX8_of_9 st_X8_of_81 (Nat.le_of_ble_eq_true rfl) rfl (c_X8_entryAt) ?_
  refine r_ialde (pc2 := 13) (x := ((s r ((i * 8 + j) * 8 + c)))) (j := _) (by subst hr; have e := h.en ((i * 8 + j) * 8 + c) (w - 1) (by omega) (by omega); rw [show 1 + (w - 1) = w by omega, show 7 + (w - 1) = 6 + w by omega] at e; exact e) dX8_of_12 (by decide) rfl rfl (rfl) (by show _ < 3596; omega) rfl ?_
  exact r_iret dX8_of_13 rfl (⟨rfl, rfl⟩)

set_option maxRecDepth 100000 in
set_option maxHeartbeats 4000000 in
theorem c_X8_of0 {PL : List (Nat × Nat)} {V : Mm_} {s : Sg_} (h : RT_ (V 0 34) s) {i j c : Nat} (hi : i < 8) (hj : j < 8) (hc : c < 8) : Cp_ PL mX8_of [vR 0 33, vI (nI i), vI (nI j), vI (nI c), vI (nI 0)] V (b2 (decide (0 < s 9 ((i * 8 + j) * 8 + c)))) := by
  refine Ca_.of mv_X8_of.2.2.2.2.2.2 0 (lo := [some (vR 0 33), some (vI (nI i)), some (vI (nI j)), some (vI (nI c)), some (vI (nI 0))]) rfl (Nat.le_of_ble_eq_true rfl) ?_
  refine r_aload_n (pc2 := 1) dX8_of_0 rfl rfl ?_
  refine r_getR (pc2 := 4) dX8_of_1 fl_X8_13 (by decide) rfl rfl rfl ?_
  refine r_iload_n (pc2 := 5) dX8_of_4 rfl rfl ?_
  refine r_iload_n (pc2 := 6) dX8_of_5 rfl rfl ?_
  refine r_iload_n (pc2 := 7) dX8_of_6 rfl rfl ?_
  refine r_iload (pc2 := 9) dX8_of_7 rfl rfl ?_
  refine r_cs4p (pc2 := 12) dX8_of_9 st_X8_of_81 (Nat.le_of_ble_eq_true rfl) rfl (c_X8_entryAt) ?_
  refine r_ialde (pc2 := 13) (x := (b2 ((decide (0 < s 9 ((i * 8 + j) * 8 + c)))))) (j := _) (h.pr ((i * 8 + j) * 8 + c) (by omega)) dX8_of_12 (by decide) rfl rfl (rfl) (by show _ < 3596; omega) rfl ?_
  exact r_iret dX8_of_13 rfl (⟨rfl, rfl⟩)

set_option maxRecDepth 100000 in
set_option maxHeartbeats 4000000 in
theorem c_X8_isEntry {PL : List (Nat × Nat)} {V : Mm_} {s : Sg_} (h : RT_ (V 0 34) s) {i j c : Nat} (hi : i < 8) (hj : j < 8) (hc : c < 8) : Cp_ PL mX8_isEntry [vR 0 33, vI (nI i), vI (nI j), vI (nI c)] V (b2 (decide (0 < s 9 ((i * 8 + j) * 8 + c)))) := by
  refine Ca_.of mv_X8_isEntry.2.2.2.2.2.2 0 (lo := [some (vR 0 33), some (vI (nI i)), some (vI (nI j)), some (vI (nI c))]) rfl (Nat.le_of_ble_eq_true rfl) ?_
  refine r_aload_n (pc2 := 1) dX8_isEntry_0 rfl rfl ?_
  refine r_iload_n (pc2 := 2) dX8_isEntry_1 rfl rfl ?_
  refine r_iload_n (pc2 := 3) dX8_isEntry_2 rfl rfl ?_
  refine r_iload_n (pc2 := 4) dX8_isEntry_3 rfl rfl ?_
  refine r_iconst (pc2 := 5) (nI 0) dX8_isEntry_4 (by decide) rfl ?_
  refine r_cv4p (pc2 := 8) dX8_isEntry_5 st_X8_isEntry_85 rl_X8_of (Nat.le_of_ble_eq_true rfl) rfl (c_X8_of0 h (by omega) (by omega) (by omega)) ?_
  refine r_iconst (pc2 := 9) (nI 1) dX8_isEntry_8 (by decide) rfl ?_
  refine r_ic_ne (pc2 := 12) (tgt := 16) dX8_isEntry_9 (by decide) rfl (fun c9 => ?_) (fun c9 => ?_)
  · skip
    refine r_iconst (pc2 := 17) (nI 0) dX8_isEntry_16 (by decide) rfl ?_
    exact r_zret dX8_isEntry_17 rfl (Or.inl rfl) (⟨b2_0 (Bool.eq_false_iff.mpr (fun z => c9 (b2_i1.mpr z))), rfl⟩)
  · skip
    refine r_iconst (pc2 := 13) (nI 1) dX8_isEntry_12 (by decide) rfl ?_
    refine r_goto (pc2 := 17) dX8_isEntry_13 (by decide) ?_
    exact r_zret dX8_isEntry_17 rfl (Or.inr rfl) (⟨b2_1 (by first | exact b2_i1.mp c9 | exact b2_i1.mp (Decidable.not_not.mp c9)), rfl⟩)

set_option maxRecDepth 100000 in
set_option maxHeartbeats 4000000 in
theorem c_X8_isUsable {PL : List (Nat × Nat)} {V : Mm_} {s : Sg_} (h : RT_ (V 0 34) s) {i j c : Nat} (hi : i < 8) (hj : j < 8) (hc : c < 8) : Cp_ PL mX8_isUsable [vR 0 33, vI (nI i), vI (nI j), vI (nI c)] V (b2 (us_ s (V 0 37 6) i j c)) := by
  refine Ca_.of mv_X8_isUsable.2.2.2.2.2.2 1 (lo := [some (vR 0 33), some (vI (nI i)), some (vI (nI j)), some (vI (nI c)), none]) rfl (Nat.le_of_ble_eq_true rfl) ?_
  refine r_aload_n (pc2 := 1) dX8_isUsable_0 rfl rfl ?_
  refine r_getR (pc2 := 4) dX8_isUsable_1 fl_X8_13 (by decide) rfl rfl rfl ?_
  refine r_sipush (pc2 := 7) (nI 3593) dX8_isUsable_4 (by decide) rfl ?_
  refine r_ialde (pc2 := 8) (x := ((s 0 1))) (j := _) (h.tm) dX8_isUsable_7 (by decide) rfl rfl (rfl) (by show _ < 3596; omega) rfl ?_
  refine r_istore (pc2 := 10) dX8_isUsable_8 (by decide) rfl rfl ?_
  refine r_aload_n (pc2 := 11) dX8_isUsable_10 rfl rfl ?_
  refine r_iload_n (pc2 := 12) dX8_isUsable_11 rfl rfl ?_
  refine r_iload_n (pc2 := 13) dX8_isUsable_12 rfl rfl ?_
  refine r_iload_n (pc2 := 14) dX8_isUsable_13 rfl rfl ?_
  refine r_cv3p (pc2 := 17) dX8_isUsable_14 st_X8_isUsable_88 rl_X8_isEntry (Nat.le_of_ble_eq_true rfl) rfl (c_X8_isEntry h (by omega) (by omega) (by omega)) ?_
  refine r_ifB_eq (pc2 := 20) (tgt := 77) dX8_isUsable_17 (by decide) rfl (fun c17 => ?_) (fun c17 => ?_)
  · skip
    refine r_iconst (pc2 := 78) (nI 0) dX8_isUsable_77 (by decide) rfl ?_
    exact r_zret dX8_isUsable_78 rfl (Or.inl rfl) (⟨b2_f (by simp only [Int32.lt_iff_toInt_lt, Int32.le_iff_toInt_le, ← Int32.toInt_inj, decide_eq_true_eq, decide_eq_false_iff_not] at c17 ⊢; omega), rfl⟩)
  · skip
    refine r_aload_n (pc2 := 21) dX8_isUsable_20 rfl rfl ?_
    refine r_iload_n (pc2 := 22) dX8_isUsable_21 rfl rfl ?_
    refine r_iload_n (pc2 := 23) dX8_isUsable_22 rfl rfl ?_
    refine r_iload_n (pc2 := 24) dX8_isUsable_23 rfl rfl ?_
    refine r_iconst (pc2 := 25) (nI 3) dX8_isUsable_24 (by decide) rfl ?_
    refine r_cv4p (pc2 := 28) dX8_isUsable_25 st_X8_isUsable_85 rl_X8_of (Nat.le_of_ble_eq_true rfl) rfl (c_X8_of h (by omega) (by omega) (by omega) (w := 3) (r := 9) (by omega) (by omega) rfl) ?_
    refine r_iload (pc2 := 30) dX8_isUsable_28 rfl rfl ?_
    refine r_ic_lt (pc2 := 33) (tgt := 77) dX8_isUsable_30 (by decide) rfl (fun c30 => ?_) (fun c30 => ?_)
    · skip
      refine r_iconst (pc2 := 78) (nI 0) dX8_isUsable_77 (by decide) rfl ?_
      exact r_zret dX8_isUsable_78 rfl (Or.inl rfl) (⟨b2_f (by simp only [Int32.lt_iff_toInt_lt, Int32.le_iff_toInt_le, ← Int32.toInt_inj, decide_eq_true_eq, decide_eq_false_iff_not] at c17 c30 ⊢; omega), rfl⟩)
    · skip
      refine r_aload_n (pc2 := 34) dX8_isUsable_33 rfl rfl ?_
      refine r_iload_n (pc2 := 35) dX8_isUsable_34 rfl rfl ?_
      refine r_iload_n (pc2 := 36) dX8_isUsable_35 rfl rfl ?_
      refine r_iload_n (pc2 := 37) dX8_isUsable_36 rfl rfl ?_
      refine r_iconst (pc2 := 38) (nI 2) dX8_isUsable_37 (by decide) rfl ?_
      refine r_cv4p (pc2 := 41) dX8_isUsable_38 st_X8_isUsable_85 rl_X8_of (Nat.le_of_ble_eq_true rfl) rfl (c_X8_of h (by omega) (by omega) (by omega) (w := 2) (r := 8) (by omega) (by omega) rfl) ?_
      refine r_aload_n (pc2 := 42) dX8_isUsable_41 rfl rfl ?_
      refine r_getR (pc2 := 45) dX8_isUsable_42 fl_X8_23 (by decide) rfl rfl rfl ?_
      refine r_bipush (pc2 := 47) (nI 6) dX8_isUsable_45 (by decide) rfl ?_
      refine r_ialde (pc2 := 48) (x := ((V 0 37 6))) (j := _) (rfl) dX8_isUsable_47 (by decide) rfl rfl (rfl) (by show _ < 10; omega) rfl ?_
      refine r_ic_ge (pc2 := 51) (tgt := 77) dX8_isUsable_48 (by decide) rfl (fun c48 => ?_) (fun c48 => ?_)
      · skip
        refine r_iconst (pc2 := 78) (nI 0) dX8_isUsable_77 (by decide) rfl ?_
        exact r_zret dX8_isUsable_78 rfl (Or.inl rfl) (⟨b2_f (by simp only [Int32.lt_iff_toInt_lt, Int32.le_iff_toInt_le, ← Int32.toInt_inj, decide_eq_true_eq, decide_eq_false_iff_not] at c17 c30 c48 ⊢; omega), rfl⟩)
      · skip
        refine r_iload (pc2 := 53) dX8_isUsable_51 rfl rfl ?_
        refine r_aload_n (pc2 := 54) dX8_isUsable_53 rfl rfl ?_
        refine r_iload_n (pc2 := 55) dX8_isUsable_54 rfl rfl ?_
        refine r_iload_n (pc2 := 56) dX8_isUsable_55 rfl rfl ?_
        refine r_iload_n (pc2 := 57) dX8_isUsable_56 rfl rfl ?_
        refine r_iconst (pc2 := 58) (nI 5) dX8_isUsable_57 (by decide) rfl ?_
        refine r_cv4p (pc2 := 61) dX8_isUsable_58 st_X8_isUsable_85 rl_X8_of (Nat.le_of_ble_eq_true rfl) rfl (c_X8_of h (by omega) (by omega) (by omega) (w := 5) (r := 11) (by omega) (by omega) rfl) ?_
        refine r_ic_le (pc2 := 64) (tgt := 77) dX8_isUsable_61 (by decide) rfl (fun c61 => ?_) (fun c61 => ?_)
        · skip
          refine r_iconst (pc2 := 78) (nI 0) dX8_isUsable_77 (by decide) rfl ?_
          exact r_zret dX8_isUsable_78 rfl (Or.inl rfl) (⟨b2_f (by simp only [Int32.lt_iff_toInt_lt, Int32.le_iff_toInt_le, ← Int32.toInt_inj, decide_eq_true_eq, decide_eq_false_iff_not] at c17 c30 c48 c61 ⊢; omega), rfl⟩)
        · skip
          refine r_aload_n (pc2 := 65) dX8_isUsable_64 rfl rfl ?_
          refine r_iload_n (pc2 := 66) dX8_isUsable_65 rfl rfl ?_
          refine r_iload_n (pc2 := 67) dX8_isUsable_66 rfl rfl ?_
          refine r_cv2p (pc2 := 70) dX8_isUsable_67 st_X8_isUsable_91 rl_X8_areNear (Nat.le_of_ble_eq_true rfl) rfl (c_X8_areNear h (by omega) (by omega)) ?_
          refine r_ifB_eq (pc2 := 73) (tgt := 77) dX8_isUsable_70 (by decide) rfl (fun c70 => ?_) (fun c70 => ?_)
          · skip
            refine r_iconst (pc2 := 78) (nI 0) dX8_isUsable_77 (by decide) rfl ?_
            exact r_zret dX8_isUsable_78 rfl (Or.inl rfl) (⟨b2_f (by simp only [Int32.lt_iff_toInt_lt, Int32.le_iff_toInt_le, ← Int32.toInt_inj, decide_eq_true_eq, decide_eq_false_iff_not] at c17 c30 c48 c61 c70 ⊢; omega), rfl⟩)
          · skip
            refine r_iconst (pc2 := 74) (nI 1) dX8_isUsable_73 (by decide) rfl ?_
            refine r_goto (pc2 := 78) dX8_isUsable_74 (by decide) ?_
            exact r_zret dX8_isUsable_78 rfl (Or.inr rfl) (⟨b2_t (by simp only [Int32.lt_iff_toInt_lt, Int32.le_iff_toInt_le, ← Int32.toInt_inj, decide_eq_true_eq, decide_eq_false_iff_not] at c17 c30 c48 c61 c70 ⊢; omega), rfl⟩)

set_option maxRecDepth 100000 in
set_option maxHeartbeats 4000000 in
theorem c_X8_limited {PL : List (Nat × Nat)} {V : Mm_} {a b : Int32} : Cp_ PL mX8_limited [vI a, vI b] V ((if a < b then a else b)) := by
  refine Ca_.of ms_X8_limited.2.2.2.2.2 0 (lo := [some (vI a), some (vI b)]) rfl (Nat.le_of_ble_eq_true rfl) ?_
  refine r_iload_n (pc2 := 1) dX8_limited_0 rfl rfl ?_
  refine r_iload_n (pc2 := 2) dX8_limited_1 rfl rfl ?_
  refine r_ic_ge (pc2 := 5) (tgt := 9) dX8_limited_2 (by decide) rfl (fun c2 => ?_) (fun c2 => ?_)
  · skip
    refine r_iload_n (pc2 := 10) dX8_limited_9 rfl rfl ?_
    exact r_iret dX8_limited_10 rfl (⟨by first | rw [if_pos (Int32.not_le.mp c2)] | rw [if_neg (Int32.not_lt.mpr c2)], rfl⟩)
  · skip
    refine r_iload_n (pc2 := 6) dX8_limited_5 rfl rfl ?_
    refine r_goto (pc2 := 10) dX8_limited_6 (by decide) ?_
    exact r_iret dX8_limited_10 rfl (⟨by first | rw [if_pos (Int32.not_le.mp c2)] | rw [if_neg (Int32.not_lt.mpr c2)], rfl⟩)

/-- the least number of the usable entries but that of one sender -/
def le_ (s : Sg_) (inf : Int32) (a b r : Nat) (but : Int32) : Nat → Int32
  | 0 => -1
  | c + 1 => if ¬ c = a ∧ ¬ nI c = but ∧ us_ s inf a b c = true then (if le_ s inf a b r but c < 0 ∨ s r ((a * 8 + b) * 8 + c) < le_ s inf a b r but c then s r ((a * 8 + b) * 8 + c) else le_ s inf a b r but c) else le_ s inf a b r but c
set_option maxRecDepth 100000 in
set_option maxHeartbeats 4000000 in
theorem c_X8_least {PL : List (Nat × Nat)} {V : Mm_} {i j w n : Nat} {bt : Int32} {s : Sg_} (h : RT_ (V 0 34) s) (hm : V 0 33 0 = nI n) (hn8 : n ≤ 8) (hi : i < 8) (hj : j < 8) (hw : 1 ≤ w) (hw6 : w < 6) : Cp_ PL mX8_least [vR 0 33, vI (nI i), vI (nI j), vI (nI w), vI bt] V ((le_ s (V 0 37 6) i j (6 + w) bt n)) := by
  refine Ca_.of mv_X8_least.2.2.2.2.2.2 3 (lo := [some (vR 0 33), some (vI (nI i)), some (vI (nI j)), some (vI (nI w)), some (vI bt), none, none, none]) rfl (Nat.le_of_ble_eq_true rfl) ?_
  refine r_iconst (pc2 := 1) (-1) dX8_least_0 (by decide) rfl ?_
  refine r_istore (pc2 := 3) dX8_least_1 (by decide) rfl rfl ?_
  refine r_iconst (pc2 := 4) (nI 0) dX8_least_3 (by decide) rfl ?_
  refine r_istore (pc2 := 6) dX8_least_4 (by decide) rfl rfl ?_
  refine Rc_.to (V' := (fun _ => V) 0) (lo' := (fun c : Nat => [some (vR 0 33), some (vI (nI i)), some (vI (nI j)), some (vI (nI w)), some (vI bt), some (vI ((le_ s (V 0 37 6) i j (6 + w) bt c))), some (vI (nI c)), none]) 0) (rfl) ⟨rfl, rfl, rfl, rfl, rfl, rfl, rfl, trivial⟩ ?_
  refine Rc_for 0 (n) (fun c : Nat => [some (vR 0 33), some (vI (nI i)), some (vI (nI j)), some (vI (nI w)), some (vI bt), some (vI ((le_ s (V 0 37 6) i j (6 + w) bt c))), some (vI (nI c)), none]) (fun _ => V) (by omega) (fun c hc0 hcN ih6 => ?_)
  refine r_iload (pc2 := 8) dX8_least_6 rfl rfl ?_
  refine r_aload_n (pc2 := 9) dX8_least_8 rfl rfl ?_
  refine r_getIe (pc2 := 12) (x := (nI n)) (hm) dX8_least_9 fl_X8_7 (by decide) rfl rfl rfl ?_
  refine r_icN_ge (pc2 := 15) (tgt := 77) (by omega) (by omega) dX8_least_12 (by decide) rfl (fun c12 => ?_) (fun c12 => ?_)
  · skip
    refine r_iload (pc2 := 79) dX8_least_77 rfl rfl ?_
    exact r_iret dX8_least_79 rfl (⟨by (have e : c = n := by omega); rw [e], rfl⟩)
  · skip
    refine r_iload (pc2 := 17) dX8_least_15 rfl rfl ?_
    refine r_iload_n (pc2 := 18) dX8_least_17 rfl rfl ?_
    refine r_icN_eq (pc2 := 21) (tgt := 71) (by omega) (by omega) dX8_least_18 (by decide) rfl (fun c18 => ?_) (fun c18 => ?_)
    · skip
      refine r_iincN (pc2 := 74) dX8_least_71 rfl (by decide) rfl rfl ?_
      refine r_goto (pc2 := 6) dX8_least_74 (by decide) ?_
      exact Rc_.to (lo' := (fun c : Nat => [some (vR 0 33), some (vI (nI i)), some (vI (nI j)), some (vI (nI w)), some (vI bt), some (vI ((le_ s (V 0 37 6) i j (6 + w) bt c))), some (vI (nI c)), none]) (c + 1)) (rfl) ⟨rfl, rfl, rfl, rfl, rfl, (congrArg (fun z => some (vI z)) (by show (if _ then _ else _) = _; rw [if_neg (fun z => z.1 c18)])), rfl, trivial⟩ (ih6 (by omega))
    · skip
      refine r_iload (pc2 := 23) dX8_least_21 rfl rfl ?_
      refine r_iload (pc2 := 25) dX8_least_23 rfl rfl ?_
      refine r_ic_eq (pc2 := 28) (tgt := 71) dX8_least_25 (by decide) rfl (fun c25 => ?_) (fun c25 => ?_)
      · skip
        refine r_iincN (pc2 := 74) dX8_least_71 rfl (by decide) rfl rfl ?_
        refine r_goto (pc2 := 6) dX8_least_74 (by decide) ?_
        exact Rc_.to (lo' := (fun c : Nat => [some (vR 0 33), some (vI (nI i)), some (vI (nI j)), some (vI (nI w)), some (vI bt), some (vI ((le_ s (V 0 37 6) i j (6 + w) bt c))), some (vI (nI c)), none]) (c + 1)) (rfl) ⟨rfl, rfl, rfl, rfl, rfl, (congrArg (fun z => some (vI z)) (by show (if _ then _ else _) = _; rw [if_neg (fun z => z.2.1 c25)])), rfl, trivial⟩ (ih6 (by omega))
      · skip
        refine r_aload_n (pc2 := 29) dX8_least_28 rfl rfl ?_
        refine r_iload_n (pc2 := 30) dX8_least_29 rfl rfl ?_
        refine r_iload_n (pc2 := 31) dX8_least_30 rfl rfl ?_
        refine r_iload (pc2 := 33) dX8_least_31 rfl rfl ?_
        refine r_cv3p (pc2 := 36) dX8_least_33 st_X8_least_94 rl_X8_isUsable (Nat.le_of_ble_eq_true rfl) rfl (c_X8_isUsable h (by omega) (by omega) (by omega)) ?_
        refine r_ifB_eq (pc2 := 39) (tgt := 71) dX8_least_36 (by decide) rfl (fun c36 => ?_) (fun c36 => ?_)
        · skip
          refine r_iincN (pc2 := 74) dX8_least_71 rfl (by decide) rfl rfl ?_
          refine r_goto (pc2 := 6) dX8_least_74 (by decide) ?_
          exact Rc_.to (lo' := (fun c : Nat => [some (vR 0 33), some (vI (nI i)), some (vI (nI j)), some (vI (nI w)), some (vI bt), some (vI ((le_ s (V 0 37 6) i j (6 + w) bt c))), some (vI (nI c)), none]) (c + 1)) (rfl) ⟨rfl, rfl, rfl, rfl, rfl, (congrArg (fun z => some (vI z)) (by show (if _ then _ else _) = _; rw [if_neg (fun z => by rw [c36] at z; exact absurd z.2.2 (by decide))])), rfl, trivial⟩ (ih6 (by omega))
        · skip
          refine r_aload_n (pc2 := 40) dX8_least_39 rfl rfl ?_
          refine r_iload_n (pc2 := 41) dX8_least_40 rfl rfl ?_
          refine r_iload_n (pc2 := 42) dX8_least_41 rfl rfl ?_
          refine r_iload (pc2 := 44) dX8_least_42 rfl rfl ?_
          refine r_iload_n (pc2 := 45) dX8_least_44 rfl rfl ?_
          refine r_cv4p (pc2 := 48) dX8_least_45 st_X8_least_85 rl_X8_of (Nat.le_of_ble_eq_true rfl) rfl (c_X8_of h (by omega) (by omega) (by omega) (by omega) (by omega) rfl) ?_
          refine r_istore (pc2 := 50) dX8_least_48 (by decide) rfl rfl ?_
          refine r_iload (pc2 := 52) dX8_least_50 rfl rfl ?_
          refine r_if_lt (pc2 := 55) (tgt := 62) dX8_least_52 (by decide) rfl (fun c52 => ?_) (fun c52 => ?_)
          · skip
            refine r_iload (pc2 := 64) dX8_least_62 rfl rfl ?_
            refine r_goto (pc2 := 69) dX8_least_64 (by decide) ?_
            refine r_istore (pc2 := 71) dX8_least_69 (by decide) rfl rfl ?_
            refine r_iincN (pc2 := 74) dX8_least_71 rfl (by decide) rfl rfl ?_
            refine r_goto (pc2 := 6) dX8_least_74 (by decide) ?_
            exact Rc_.to (lo' := (fun c : Nat => [some (vR 0 33), some (vI (nI i)), some (vI (nI j)), some (vI (nI w)), some (vI bt), some (vI ((le_ s (V 0 37 6) i j (6 + w) bt c))), some (vI (nI c)), none]) (c + 1)) (rfl) ⟨rfl, rfl, rfl, rfl, rfl, (congrArg (fun z => some (vI z)) (by show (if _ then _ else _) = _; rw [if_pos ⟨c18, c25, c36⟩, if_pos (Or.inl c52)])), rfl, trivial⟩ (ih6 (by omega))
          · skip
            refine r_iload (pc2 := 57) dX8_least_55 rfl rfl ?_
            refine r_iload (pc2 := 59) dX8_least_57 rfl rfl ?_
            refine r_ic_ge (pc2 := 62) (tgt := 67) dX8_least_59 (by decide) rfl (fun c59 => ?_) (fun c59 => ?_)
            · skip
              refine r_iload (pc2 := 69) dX8_least_67 rfl rfl ?_
              refine r_istore (pc2 := 71) dX8_least_69 (by decide) rfl rfl ?_
              refine r_iincN (pc2 := 74) dX8_least_71 rfl (by decide) rfl rfl ?_
              refine r_goto (pc2 := 6) dX8_least_74 (by decide) ?_
              exact Rc_.to (lo' := (fun c : Nat => [some (vR 0 33), some (vI (nI i)), some (vI (nI j)), some (vI (nI w)), some (vI bt), some (vI ((le_ s (V 0 37 6) i j (6 + w) bt c))), some (vI (nI c)), none]) (c + 1)) (rfl) ⟨rfl, rfl, rfl, rfl, rfl, (congrArg (fun z => some (vI z)) (by show (if _ then _ else _) = _; rw [if_pos ⟨c18, c25, c36⟩]; first | rw [if_pos (Or.inr (Int32.not_le.mp c59))] | rw [if_neg (fun z => z.elim c52 (fun q => Int32.not_lt.mpr c59 q))])), rfl, trivial⟩ (ih6 (by omega))
            · skip
              refine r_iload (pc2 := 64) dX8_least_62 rfl rfl ?_
              refine r_goto (pc2 := 69) dX8_least_64 (by decide) ?_
              refine r_istore (pc2 := 71) dX8_least_69 (by decide) rfl rfl ?_
              refine r_iincN (pc2 := 74) dX8_least_71 rfl (by decide) rfl rfl ?_
              refine r_goto (pc2 := 6) dX8_least_74 (by decide) ?_
              exact Rc_.to (lo' := (fun c : Nat => [some (vR 0 33), some (vI (nI i)), some (vI (nI j)), some (vI (nI w)), some (vI bt), some (vI ((le_ s (V 0 37 6) i j (6 + w) bt c))), some (vI (nI c)), none]) (c + 1)) (rfl) ⟨rfl, rfl, rfl, rfl, rfl, (congrArg (fun z => some (vI z)) (by show (if _ then _ else _) = _; rw [if_pos ⟨c18, c25, c36⟩]; first | rw [if_pos (Or.inr (Int32.not_le.mp c59))] | rw [if_neg (fun z => z.elim c52 (fun q => Int32.not_lt.mpr c59 q))])), rfl, trivial⟩ (ih6 (by omega))
