/-! both: what holds between the law's calls; a call of both: written by wip/whole/m39.py -/
def LS_ (x : Nat → Int32) (s : Sg_) (n u : Nat) : Prop := s 0 0 = nI n ∧ RT_ x s ∧ RS_ x s n ∧ (∃ m, RJ_ x s m ∧ m ≤ 12800 * u) ∧ (∃ t, s 0 1 = nI t ∧ t ≤ 100000) ∧ (-(u : Int) ≤ (s 1 0).toInt ∧ (s 1 0).toInt ≤ 16) ∧ IW_ s
theorem LS_.up {x : Nat → Int32} {s : Sg_} {n u w : Nat} (h : LS_ x s n u) (hw : u ≤ w) : LS_ x s n w := by
  obtain ⟨h1, h2, h3, ⟨m, h4, h5⟩, h6, h7, h8⟩ := h
  exact ⟨h1, h2, h3, ⟨m, h4, Nat.le_trans h5 (Nat.mul_le_mul_left _ hw)⟩, h6, ⟨by omega, h7.2⟩, h8⟩
theorem eqb_rf {s : Sg_} : eqb_ s s := ⟨fun _ _ _ _ _ => rfl, fun _ _ _ _ _ => rfl, fun _ _ => rfl, rfl, fun _ _ _ _ => rfl, rfl⟩
theorem LS_.below {x x' : Nat → Int32} {s s' : Sg_} {n u : Nat} (h : LS_ x s n u) (hn8 : n ≤ 8) (hx : ∀ q, q < 3596 → x' q = x q) (e : eqb_ s s') : LS_ x' s' n u := by
  obtain ⟨h1, h2, h3, ⟨m, h4, h5⟩, h6, h7, h8⟩ := h
  refine ⟨by rw [e.2.2.1 0 (by decide)]; exact h1, h2.below hx e, h3.below hn8 hx e, ⟨m, h4.below hx e, h5⟩, by rw [e.2.2.1 1 (by decide)]; exact h6, by rw [e.2.2.2.1]; exact h7, h8.below e⟩
def LV_ (V : Mm_) (n u : Nat) : Prop := 2 ≤ n ∧ n ≤ 8 ∧ V 0 33 0 = nI n ∧ V 0 37 = V 0 19 ∧ SE_ (V 0 37) ∧ LH_ V ∧ LS_ (V 0 34) (V 1) n u ∧ ∃ b, V 0 33 4 = b2 b ∧ V 0 18 7 = b2 b ∧ (b = true → LS_ (V 0 36) (V 2) n u)
theorem LV_.up {V : Mm_} {n u : Nat} (h : LV_ V n u) : LV_ V n (u + 1) := by
  obtain ⟨h1, h2, h3, h4, h5, h6, h7, b, h8, h9, h10⟩ := h
  exact ⟨h1, h2, h3, h4, h5, h6, h7.up (Nat.le_succ u), b, h8, h9, fun z => (h10 z).up (Nat.le_succ u)⟩
theorem LV_.fm {V V' : Mm_} {n u : Nat} (h : LV_ V n u) (f : fm_ V V') : LV_ V' n u := by
  obtain ⟨h1, h2, h3, h4, h5, h6, h7, b, h8, h9, h10⟩ := h
  obtain ⟨f1, f2, f3⟩ := f
  refine ⟨h1, h2, by rw [f3 33 (by omega)]; exact h3, by rw [f3 37 (by omega), f3 19 (by omega)]; exact h4, by rw [f3 37 (by omega)]; exact h5, ?_, by rw [f3 34 (by omega), f1]; exact h7, b, by rw [f3 33 (by omega)]; exact h8, by rw [f3 18 (by omega)]; exact h9, by rw [f3 36 (by omega), f2]; exact h10⟩
  intro k hk
  rw [f3 38 (by omega), f3 39 (by omega)]
  exact h6 k hk
theorem LV_.rf {V V' : Mm_} {n u : Nat} (h : LV_ V n u) (f : rf2_ V V') : LV_ V' n u := by
  obtain ⟨h1, h2, h3, h4, h5, h6, h7, b, h8, h9, h10⟩ := h
  obtain ⟨f1, f2, f3⟩ := f
  have e1 : V' 1 = V 1 := by funext r; exact f1 1 r (by omega)
  have e2 : V' 2 = V 2 := by funext r; exact f1 2 r (by omega)
  refine ⟨h1, h2, by rw [f2 0 (by decide)]; exact h3, by rw [f1 0 37 (by omega), f1 0 19 (by omega)]; exact h4, by rw [f1 0 37 (by omega)]; exact h5, ?_, by rw [e1]; exact h7.below h2 f3 eqb_rf, b, by rw [f2 4 (by decide)]; exact h8, by rw [f1 0 18 (by omega)]; exact h9, by rw [f1 0 36 (by omega), e2]; exact h10⟩
  intro k hk
  rw [f1 0 38 (by omega), f1 0 39 (by omega)]
  exact h6 k hk
/-- a call of the class, the same call of the reference: the same answer, and what held holds -/
abbrev Cs_ (PL : List (Nat × Nat)) (y7 y8 : mi_T) (as : List Vl_) (V : Mm_) (u : Nat) : Prop := Ci_ PL y7 (vR 0 18 :: as) V (fun x V1 => Ci_ PL y8 (vR 0 33 :: as) V1 (fun x2 V2 => x2 = x ∧ ∃ n, LV_ V2 n (u + 1)))
section CS
variable {PL : List (Nat × Nat)} {y7 y8 : mi_T} {as : List Vl_} {V : Mm_} {n u : Nat}
theorem ci_q {z : mi_T} {avs : List Vl_} {P P' : Int32 → Mm_ → Prop} (h : Ci_ PL z avs V P) (hp : ∀ x V', P x V' → P' x V') : Ci_ PL z avs V P' := Ca_.mono h (by rintro r V' ⟨x, rfl, hx⟩; exact ⟨x, rfl, hp x V' hx⟩)
theorem Cs_.b {P : Int32 → Mm_ → Prop} (h7 : Ci_ PL y7 (vR 0 18 :: as) V P) (h8 : ∀ x V1, P x V1 → Ci_ PL y8 (vR 0 33 :: as) V1 (fun x2 V2 => x2 = x ∧ ∃ n, LV_ V2 n (u + 1))) : Cs_ PL y7 y8 as V u := ci_q h7 h8
theorem Cs_.p {x : Int32} (hL : LV_ V n u) (h7 : Cp_ PL y7 (vR 0 18 :: as) V x) (h8 : Cp_ PL y8 (vR 0 33 :: as) V x) : Cs_ PL y7 y8 as V u :=
  Cs_.b h7 (by rintro x' V1 ⟨rfl, rfl⟩; exact ci_q h8 (by rintro x2 V2 ⟨rfl, rfl⟩; exact ⟨rfl, n, hL.up⟩))
theorem Cs_.q {P Q : Int32 → Prop} (hL : LV_ V n u) (h7 : Ci_ PL y7 (vR 0 18 :: as) V (fun x V' => fm_ V V' ∧ P x)) (h8 : ∀ V1, fm_ V V1 → Ci_ PL y8 (vR 0 33 :: as) V1 (fun x V' => rf2_ V1 V' ∧ Q x)) (hu : ∀ x x2, P x → Q x2 → x2 = x) : Cs_ PL y7 y8 as V u :=
  Cs_.b h7 (by rintro x V1 ⟨hf, hx⟩; exact ci_q (h8 V1 hf) (by rintro x2 V2 ⟨hr, hx2⟩; exact ⟨hu x x2 hx hx2, n, ((hL.fm hf).rf hr).up⟩))
theorem cp_fm {z : mi_T} {avs : List Vl_} {e : Int32} (h : Cp_ PL z avs V e) : Ci_ PL z avs V (fun x V' => fm_ V V' ∧ x = e) := ci_q h (by rintro x V' ⟨rfl, rfl⟩; exact ⟨fm_rf, rfl⟩)
theorem cp_rf {z : mi_T} {avs : List Vl_} {e : Int32} (h : Cp_ PL z avs V e) : Ci_ PL z avs V (fun x V' => rf2_ V V' ∧ x = e) := ci_q h (by rintro x V' ⟨rfl, rfl⟩; exact ⟨rf2_rf, rfl⟩)
end CS
theorem ix_ {x : Int32} {N : Nat} (hN : N < 2 ^ 31) (h0 : nI 0 ≤ x) (h1 : x ≤ nI N) : ∃ w, w ≤ N ∧ x = nI w := by
  obtain ⟨w, hw, rfl⟩ := nI_of (Int32.not_lt.mpr (show (0 : Int32) ≤ x from h0))
  exact ⟨w, (nI_leI hw hN).mp h1, rfl⟩
theorem ix2_ {x : Int32} {M N : Nat} (hM : M < 2 ^ 31) (hN : N < 2 ^ 31) (h0 : nI M ≤ x) (h1 : x ≤ nI N) : ∃ w, M ≤ w ∧ w ≤ N ∧ x = nI w := by
  obtain ⟨w, hw, rfl⟩ := ix_ hN (Int32.le_trans (nI_pos' hM) h0) h1
  exact ⟨w, (nI_leI hM (by omega)).mp h0, hw, rfl⟩
theorem nd_of {n : Nat} {a b : Int32} (hn8 : n ≤ 8) (h : 0 ≤ a ∧ a < nI n ∧ 0 ≤ b ∧ b < nI n) : ∃ i j, i < n ∧ j < n ∧ a = nI i ∧ b = nI j := by
  obtain ⟨i, hi, rfl⟩ := nI_nd hn8 h.1 h.2.1
  obtain ⟨j, hj, rfl⟩ := nI_nd hn8 h.2.2.1 h.2.2.2
  exact ⟨i, j, hi, hj, rfl, rfl⟩
theorem cf_ne {V : Mm_} {g g0 g' : Nat} (h : ¬ g' = g) : cf_ V g g0 g' = V g' := by
  unfold cf_
  simp only [m_set, ag_ne h]
theorem dn_b1 {V : Mm_} {i j : Nat} : dn_ V i j 3 = b1_ (cf_ V 3 1 3) 5 i j (nI 0) := b1_eq
set_option maxRecDepth 100000 in
set_option maxHeartbeats 4000000 in
theorem c_X8_journal_far {PL : List (Nat × Nat)} {V : Mm_} {s : Sg_} {m : Nat} (hJ : RJ_ (V 0 34) s m) {k w : Nat} (hk : k < 2 ^ 31) (hk2 : 16 ≤ k) (hw : w < 4) : Cp_ PL mX8_journal [vR 0 33, vI (nI k), vI (nI w)] V ((-4)) := by
  refine Ca_.of mv_X8_journal.2.2.2.2.2.2 0 (lo := [some (vR 0 33), some (vI (nI k)), some (vI (nI w))]) rfl (Nat.le_of_ble_eq_true rfl) ?_
  have hj := js_le m
  refine r_iload_n (pc2 := 1) dX8_journal_0 rfl rfl ?_
  refine r_if_lt (pc2 := 4) (tgt := 13) dX8_journal_1 (by decide) rfl (fun c1 => ?_) (fun c1 => ?_)
  · skip
    exact absurd c1 (nI_pos (by omega))
  · skip
    refine r_iload_n (pc2 := 5) dX8_journal_4 rfl rfl ?_
    refine r_iconst (pc2 := 6) (nI 0) dX8_journal_5 (by decide) rfl ?_
    refine r_iconst (pc2 := 7) (nI 3) dX8_journal_6 (by decide) rfl ?_
    refine r_cs3p (pc2 := 10) dX8_journal_7 st_X8_journal_54 (Nat.le_of_ble_eq_true rfl) rfl (c_in_ok ⟨nI_pos' (by omega), nI_le (by omega) (by omega)⟩) ?_
    refine r_if0N_ne (pc2 := 13) (tgt := 15) (by omega) dX8_journal_10 (by decide) rfl (fun c10 => ?_) (fun c10 => ?_)
    · skip
      refine r_iload_n (pc2 := 16) dX8_journal_15 rfl rfl ?_
      refine r_aload_n (pc2 := 17) dX8_journal_16 rfl rfl ?_
      refine r_getR (pc2 := 20) dX8_journal_17 fl_X8_13 (by decide) rfl rfl rfl ?_
      refine r_sipush (pc2 := 23) (nI 3592) dX8_journal_20 (by decide) rfl ?_
      refine r_ialde (pc2 := 24) (x := (nI ((js_ m)))) (j := _) (hJ.sz) dX8_journal_23 (by decide) rfl rfl (rfl) (by show _ < 3596; omega) rfl ?_
      refine r_icN_ge (pc2 := 27) (tgt := 44) (by omega) (by omega) dX8_journal_24 (by decide) rfl (fun c24 => ?_) (fun c24 => ?_)
      · skip
        refine r_bipush (pc2 := 46) (-4) dX8_journal_44 (by decide) rfl ?_
        exact r_iret dX8_journal_46 rfl (⟨rfl, rfl⟩)
      · skip
        omega
    · skip
      exact absurd c10 (by decide)

theorem cs_time {PL : List (Nat × Nat)} {V : Mm_} {n u : Nat} (hu : u < 512) (hL : LV_ V n u) : Cs_ PL mX7_time mX8_time [] V u := by
  obtain ⟨h1, hn8, h33, h37, hse, hlh, ⟨hn, hRT, hRS, ⟨m, hRJ, hm⟩, ⟨t, ht, ht5⟩, hc, hw⟩, bs, hb1, hb2, hb3⟩ := id hL
  exact Cs_.p hL c_X7_time (c_X8_time hRT)
theorem cs_sent {PL : List (Nat × Nat)} {V : Mm_} {n u : Nat} (hu : u < 512) (hL : LV_ V n u) : Cs_ PL mX7_sent mX8_sent [] V u := by
  obtain ⟨h1, hn8, h33, h37, hse, hlh, ⟨hn, hRT, hRS, ⟨m, hRJ, hm⟩, ⟨t, ht, ht5⟩, hc, hw⟩, bs, hb1, hb2, hb3⟩ := id hL
  exact Cs_.p hL c_X7_sent (c_X8_sent hRT)
theorem cs_journalSize {PL : List (Nat × Nat)} {V : Mm_} {n u : Nat} (hu : u < 512) (hL : LV_ V n u) : Cs_ PL mX7_journalSize mX8_journalSize [] V u := by
  obtain ⟨h1, hn8, h33, h37, hse, hlh, ⟨hn, hRT, hRS, ⟨m, hRJ, hm⟩, ⟨t, ht, ht5⟩, hc, hw⟩, bs, hb1, hb2, hb3⟩ := id hL
  exact Cs_.p hL (c_X7_journalSize hRJ.ct (by omega)) (c_X8_journalSize hRJ)
theorem cs_journal {PL : List (Nat × Nat)} {V : Mm_} {n u : Nat} (hu : u < 512) (hL : LV_ V n u) {a x : Int32} : Cs_ PL mX7_journal mX8_journal [vI a, vI x] V u := by
  obtain ⟨h1, hn8, h33, h37, hse, hlh, ⟨hn, hRT, hRS, ⟨m, hRJ, hm⟩, ⟨t, ht, ht5⟩, hc, hw⟩, bs, hb1, hb2, hb3⟩ := id hL
  by_cases h : 0 ≤ a ∧ nI 0 ≤ x ∧ x ≤ nI 3
  · obtain ⟨k, hk, rfl⟩ := nI_of (Int32.not_lt.mpr h.1)
    obtain ⟨w, hw4, rfl⟩ := ix_ (by decide) h.2.1 h.2.2
    by_cases hs : k < 16
    · exact Cs_.p hL (c_X7_journal_ok hRJ.ct (by omega) hk (by omega)) (c_X8_journal_ok hRJ (by omega) (by omega))
    · have hj := js_le m
      have e := c_X7_journal_ok (PL := PL) (V := V) (w := w) hRJ.ct (by omega) hk (by omega)
      rw [if_neg (by omega)] at e
      exact Cs_.p hL e (c_X8_journal_far hRJ hk (by omega) (by omega))
  · exact Cs_.p hL (c_X7_journal_bad h) (c_X8_journal_bad h)
theorem cs_link {PL : List (Nat × Nat)} {V : Mm_} {n u : Nat} (hu : u < 512) (hL : LV_ V n u) {a b x : Int32} : Cs_ PL mX7_link mX8_link [vI a, vI b, vI x] V u := by
  obtain ⟨h1, hn8, h33, h37, hse, hlh, ⟨hn, hRT, hRS, ⟨m, hRJ, hm⟩, ⟨t, ht, ht5⟩, hc, hw⟩, bs, hb1, hb2, hb3⟩ := id hL
  by_cases h : pr_ok (nI n) a b ∧ nI 0 ≤ x ∧ x ≤ nI 3
  · obtain ⟨i, j, hi, hj, hij, rfl, rfl⟩ := pr_of hn8 h.1
    obtain ⟨w, hw4, rfl⟩ := ix_ (by decide) h.2.1 h.2.2
    exact Cs_.p hL (ci_q (c_X7_link_ok hn hn8 hi hj hij (by omega)) (by rintro r V' ⟨rfl, rfl⟩; exact ⟨rfl, rfl⟩)) (c_X8_link_ok hRT h33 h1 hn8 hi hj hij (by omega))
  · exact Cs_.p hL (c_X7_link_bad hn hn8 h) (c_X8_link_bad h33 h1 hn8 h)
theorem cs_entry {PL : List (Nat × Nat)} {V : Mm_} {n u : Nat} (hu : u < 512) (hL : LV_ V n u) {a b c x : Int32} : Cs_ PL mX7_entry mX8_entry [vI a, vI b, vI c, vI x] V u := by
  obtain ⟨h1, hn8, h33, h37, hse, hlh, ⟨hn, hRT, hRS, ⟨m, hRJ, hm⟩, ⟨t, ht, ht5⟩, hc, hw⟩, bs, hb1, hb2, hb3⟩ := id hL
  by_cases h : pr_ok (nI n) a b ∧ pr_ok (nI n) a c ∧ nI 0 ≤ x ∧ x ≤ nI 6
  · obtain ⟨i, j, hi, hj, hij, rfl, rfl⟩ := pr_of hn8 h.1
    obtain ⟨i2, k, hi2, hk, hik, e, rfl⟩ := pr_of hn8 h.2.1
    obtain rfl : i = i2 := (nI_eq (by omega) (by omega)).mp e
    obtain ⟨w, hw6, rfl⟩ := ix_ (by decide) h.2.2.1 h.2.2.2
    have e8 := c_X8_entry_ok (PL := PL) hRT h33 h1 hn8 hi hj hij hk hik (w := w) (by omega)
    rw [h37] at e8
    exact Cs_.p hL (c_X7_entry_ok hn hn8 hi hj hk hij hik (by omega)) e8
  · exact Cs_.p hL (c_X7_entry_bad hn hn8 h) (c_X8_entry_bad h33 h1 hn8 h)
theorem cs_entries {PL : List (Nat × Nat)} {V : Mm_} {n u : Nat} (hu : u < 512) (hL : LV_ V n u) {a b x : Int32} : Cs_ PL mX7_entries mX8_entries [vI a, vI b, vI x] V u := by
  obtain ⟨h1, hn8, h33, h37, hse, hlh, ⟨hn, hRT, hRS, ⟨m, hRJ, hm⟩, ⟨t, ht, ht5⟩, hc, hw⟩, bs, hb1, hb2, hb3⟩ := id hL
  by_cases h : pr_ok (nI n) a b ∧ nI 0 ≤ x ∧ x ≤ nI 3
  · obtain ⟨i, j, hi, hj, hij, rfl, rfl⟩ := pr_of hn8 h.1
    obtain ⟨w, hw4, rfl⟩ := ix_ (by decide) h.2.1 h.2.2
    have e8 := c_X8_entries_ok (PL := PL) hRT h33 h1 hn8 hi hj hij (w := w) (by omega)
    rw [h37] at e8
    exact Cs_.p hL (c_X7_entries_ok hn hn8 hi hj hij (by omega)) e8
  · exact Cs_.p hL (c_X7_entries_bad hn hn8 h) (c_X8_entries_bad h33 h1 hn8 h)
theorem cs_distance {PL : List (Nat × Nat)} {V : Mm_} {n u : Nat} (hu : u < 512) (hL : LV_ V n u) {a b x : Int32} : Cs_ PL mX7_distance mX8_distance [vI a, vI b, vI x] V u := by
  obtain ⟨h1, hn8, h33, h37, hse, hlh, ⟨hn, hRT, hRS, ⟨m, hRJ, hm⟩, ⟨t, ht, ht5⟩, hc, hw⟩, bs, hb1, hb2, hb3⟩ := id hL
  by_cases h : 0 ≤ a ∧ a < nI n ∧ 0 ≤ b ∧ b < nI n ∧ nI 0 ≤ x ∧ x ≤ nI 1
  · obtain ⟨i, j, hi, hj, rfl, rfl⟩ := nd_of hn8 ⟨h.1, h.2.1, h.2.2.1, h.2.2.2.1⟩
    obtain ⟨w, hw2, rfl⟩ := ix_ (by decide) h.2.2.2.2.1 h.2.2.2.2.2
    refine Cs_.q (P := fun x => x = if du_ (V 1) (V 0 19 6) n i j = -1 then -4 else if w = 0 then dl_ (V 1) (V 0 19 6) n i j else du_ (V 1) (V 0 19 6) n i j) (Q := fun x => x = if du_ (V 1) (V 0 19 6) n i j = -1 then -4 else if w = 0 then dl_ (V 1) (V 0 19 6) n i j else du_ (V 1) (V 0 19 6) n i j) hL (ci_q (c_X7_distance_ok hn hn8 hi hj (show w < 2 by omega)) (by rintro x V' ⟨q1, q2⟩; exact ⟨fm_sf q1, q2⟩)) (fun V1 hf => ?_) (fun x x2 h1 h2 => h2.trans h1.symm)
    have L1 := hL.fm hf
    obtain ⟨-, -, g33, g37, gse, glh, ⟨gn, gRT, gRS, -, -, -, -⟩, -⟩ := id L1
    have e37 : V1 0 37 = V 0 19 := by rw [hf.2.2 37 (by omega)]; exact h37
    have es : V1 1 = V 1 := hf.1
    rw [es] at gRT gRS gn
    by_cases hw0 : w = 0
    · subst hw0
      have e8 := c_X8_distance_ok0 (PL := PL) gRT g33 h1 hn8 hi hj
      rw [e37] at e8
      exact cp_rf e8
    · obtain rfl : w = 1 := by omega
      have e8 := c_X8_distance_ok1 (PL := PL) gRT g33 h1 hn8 hi hj
      rw [e37] at e8
      exact cp_rf e8
  · exact Cs_.p hL (c_X7_distance_bad hn hn8 h) (c_X8_distance_bad h33 h1 hn8 h)
theorem cs_choice {PL : List (Nat × Nat)} {V : Mm_} {n u : Nat} (hu : u < 512) (hL : LV_ V n u) {a b : Int32} : Cs_ PL mX7_choice mX8_choice [vI a, vI b] V u := by
  obtain ⟨h1, hn8, h33, h37, hse, hlh, ⟨hn, hRT, hRS, ⟨m, hRJ, hm⟩, ⟨t, ht, ht5⟩, hc, hw⟩, bs, hb1, hb2, hb3⟩ := id hL
  by_cases h : pr_ok (nI n) a b
  · obtain ⟨i, j, hi, hj, hij, rfl, rfl⟩ := pr_of hn8 h
    refine Cs_.q (P := fun x => x = if ch_ (V 0 19 2) (V 1) (V 0 19 6) n i j = -1 then -4 else ch_ (V 0 19 2) (V 1) (V 0 19 6) n i j) (Q := fun x => x = if ch_ (V 0 19 2) (V 1) (V 0 19 6) n i j = -1 then -4 else ch_ (V 0 19 2) (V 1) (V 0 19 6) n i j) hL (ci_q (c_X7_choice_ok hn hn8 hi hj hij) (by rintro x V' ⟨q1, q2⟩; exact ⟨fm_sf q1, q2⟩)) (fun V1 hf => ?_) (fun x x2 h1 h2 => h2.trans h1.symm)
    have L1 := hL.fm hf
    obtain ⟨-, -, g33, g37, gse, glh, ⟨gn, gRT, gRS, -, -, -, -⟩, -⟩ := id L1
    have e37 : V1 0 37 = V 0 19 := by rw [hf.2.2 37 (by omega)]; exact h37
    have es : V1 1 = V 1 := hf.1
    rw [es] at gRT gRS gn
    have e8 := c_X8_choice_ok (PL := PL) gRT g33 h1 hn8 hi hj hij gse.2.2.1
    rw [e37] at e8
    exact cp_rf e8
  · exact Cs_.p hL (c_X7_choice_bad hn hn8 h) (c_X8_choice_bad h33 h1 hn8 h)
theorem cs_trueDistance {PL : List (Nat × Nat)} {V : Mm_} {n u : Nat} (hu : u < 512) (hL : LV_ V n u) {a b : Int32} : Cs_ PL mX7_trueDistance mX8_trueDistance [vI a, vI b] V u := by
  obtain ⟨h1, hn8, h33, h37, hse, hlh, ⟨hn, hRT, hRS, ⟨m, hRJ, hm⟩, ⟨t, ht, ht5⟩, hc, hw⟩, bs, hb1, hb2, hb3⟩ := id hL
  by_cases h : 0 ≤ a ∧ a < nI n ∧ 0 ≤ b ∧ b < nI n
  · obtain ⟨i, j, hi, hj, rfl, rfl⟩ := nd_of hn8 h
    refine Cs_.q (Q := fun x => x = if ms_ (V 1) n (V 0 31) (i * 8 + j) < nI 1000000 then ms_ (V 1) n (V 0 31) (i * 8 + j) else -4) hL (c_X7_trueDistance_ok hn hn8 hi hj) (fun V1 hf => ?_) (fun x x2 h1 h2 => h2.trans h1.symm)
    have L1 := hL.fm hf
    obtain ⟨-, -, g33, g37, gse, glh, ⟨gn, gRT, gRS, -, -, -, -⟩, -⟩ := id L1
    have e37 : V1 0 37 = V 0 19 := by rw [hf.2.2 37 (by omega)]; exact h37
    have es : V1 1 = V 1 := hf.1
    rw [es] at gRT gRS gn
    refine ci_q (c_X8_trueDistance_ok gRT g33 h1 hn8 hi hj) ?_
    rintro x V' ⟨rfl, rfl⟩
    exact ⟨rf2_44, td_eq gRT.iv hn8 hi hj⟩
  · exact Cs_.p hL (c_X7_trueDistance_bad hn hn8 h) (c_X8_trueDistance_bad h33 h1 hn8 h)
theorem cs_wrongPairs {PL : List (Nat × Nat)} {V : Mm_} {n u : Nat} (hu : u < 512) (hL : LV_ V n u) : Cs_ PL mX7_wrongPairs mX8_wrongPairs [] V u := by
  obtain ⟨h1, hn8, h33, h37, hse, hlh, ⟨hn, hRT, hRS, ⟨m, hRJ, hm⟩, ⟨t, ht, ht5⟩, hc, hw⟩, bs, hb1, hb2, hb3⟩ := id hL
  refine Cs_.q (Q := fun x => x = nI (c2_ (fun a b => decide (¬ a = b) && wb_ (Dl_ (V 1) (V 0 19 6) n) (Du_ (V 1) (V 0 19 6) n) (ms_ (V 1) n (V 0 31)) (a * 8 + b)) n n)) hL (c_X7_wrongPairs hn hn8) (fun V1 hf => ?_) (fun x x2 h1 h2 => h2.trans h1.symm)
  have L1 := hL.fm hf
  obtain ⟨-, -, g33, g37, gse, glh, ⟨gn, gRT, gRS, -, -, -, -⟩, -⟩ := id L1
  have e37 : V1 0 37 = V 0 19 := by rw [hf.2.2 37 (by omega)]; exact h37
  have es : V1 1 = V 1 := hf.1
  rw [es] at gRT gRS gn
  refine ci_q (c_X8_wrongPairs gRT g33 h1 hn8) ?_
  rintro x V' ⟨rfl, rfl⟩
  refine ⟨rf2_44, congrArg nI (c2_cong (fun a b ha hb => ?_))⟩
  rw [wb_eq (W := V1 0 44) gRT.iv hn8 ha hb, e37]
theorem cs_follow {PL : List (Nat × Nat)} {V : Mm_} {n u : Nat} (hu : u < 512) (hL : LV_ V n u) {a b : Int32} : Cs_ PL mX7_follow mX8_follow [vI a, vI b] V u := by
  obtain ⟨h1, hn8, h33, h37, hse, hlh, ⟨hn, hRT, hRS, ⟨m, hRJ, hm⟩, ⟨t, ht, ht5⟩, hc, hw⟩, bs, hb1, hb2, hb3⟩ := id hL
  by_cases h : pr_ok (nI n) a b
  · obtain ⟨i, j, hi, hj, hij, rfl, rfl⟩ := pr_of hn8 h
    refine Cs_.q (Q := fun x => x = wv_ (Ch_ (V 0 19 2) (V 1) (V 0 19 6) n) i j) hL (c_X7_follow_ok hn hn8 hi hj hij) (fun V1 hf => ?_) (fun x x2 h1 h2 => h2.trans h1.symm)
    have L1 := hL.fm hf
    obtain ⟨-, -, g33, g37, gse, glh, ⟨gn, gRT, gRS, -, -, -, -⟩, -⟩ := id L1
    have e37 : V1 0 37 = V 0 19 := by rw [hf.2.2 37 (by omega)]; exact h37
    have es : V1 1 = V 1 := hf.1
    rw [es] at gRT gRS gn
    have e8 := c_X8_follow_ok (PL := PL) gRT g33 h1 hn8 hi hj hij gse.2.2.1
    rw [e37] at e8
    exact cp_rf e8
  · exact Cs_.p hL (c_X7_follow_bad hn hn8 h) (c_X8_follow_bad h33 h1 hn8 h)
theorem cs_loops {PL : List (Nat × Nat)} {V : Mm_} {n u : Nat} (hu : u < 512) (hL : LV_ V n u) : Cs_ PL mX7_loops mX8_loops [] V u := by
  obtain ⟨h1, hn8, h33, h37, hse, hlh, ⟨hn, hRT, hRS, ⟨m, hRJ, hm⟩, ⟨t, ht, ht5⟩, hc, hw⟩, bs, hb1, hb2, hb3⟩ := id hL
  refine Cs_.q (Q := fun x => x = nI (c2_ (lp_ (Ch_ (V 0 19 2) (V 1) (V 0 19 6) n)) n n)) hL (c_X7_loops hn hn8) (fun V1 hf => ?_) (fun x x2 h1 h2 => h2.trans h1.symm)
  have L1 := hL.fm hf
  obtain ⟨-, -, g33, g37, gse, glh, ⟨gn, gRT, gRS, -, -, -, -⟩, -⟩ := id L1
  have e37 : V1 0 37 = V 0 19 := by rw [hf.2.2 37 (by omega)]; exact h37
  have es : V1 1 = V 1 := hf.1
  rw [es] at gRT gRS gn
  have e8 := c_X8_loops (PL := PL) gRT g33 h1 hn8 gse.2.2.1
  rw [e37] at e8
  exact cp_rf e8
theorem cs_settling {PL : List (Nat × Nat)} {V : Mm_} {n u : Nat} (hu : u < 512) (hL : LV_ V n u) : Cs_ PL mX7_settling mX8_settling [] V u := by
  obtain ⟨h1, hn8, h33, h37, hse, hlh, ⟨hn, hRT, hRS, ⟨m, hRJ, hm⟩, ⟨t, ht, ht5⟩, hc, hw⟩, bs, hb1, hb2, hb3⟩ := id hL
  refine Cs_.q (Q := fun x => se_ (cg_ (V 0 19) n (cf_ V 3 1 3, m)) x) hL (c_X7_settling hn hn8 hRJ.ct (by omega)) (fun V1 hf => ?_) (fun x x2 h1 h2 => se_1 h2 h1)
  have L1 := hL.fm hf
  obtain ⟨-, -, g33, g37, gse, glh, ⟨gn, gRT, gRS, -, -, -, -⟩, -⟩ := id L1
  have e37 : V1 0 37 = V 0 19 := by rw [hf.2.2 37 (by omega)]; exact h37
  have es : V1 1 = V 1 := hf.1
  rw [es] at gRT gRS gn
  have gRJ : RJ_ (V1 0 34) (V 1) m := by rw [hf.2.2 34 (by omega)]; exact hRJ
  have cRT := gRT.below (x' := V1 0 34) (fun _ _ => rfl) (eqb_cf (V := V) (g := 3) (g0 := 1))
  have cRS := gRS.below (x' := V1 0 34) hn8 (fun _ _ => rfl) (eqb_cf (V := V) (g := 3) (g0 := 1))
  have cRJ := gRJ.below (x' := V1 0 34) (fun _ _ => rfl) (eqb_cf (V := V) (g := 3) (g0 := 1))
  have ct : cf_ V 3 1 3 0 1 = nI t := (cf_0 1 (by decide)).trans ht
  have e8 := c_X8_settling (PL := PL) cRT g33 h1 hn8 cRS cRJ gse ct ht5 (by omega)
  rw [e37] at e8
  exact e8
theorem cs_loss {PL : List (Nat × Nat)} {V : Mm_} {n u : Nat} (hu : u < 512) (hL : LV_ V n u) {a b : Int32} : Cs_ PL mX7_loss mX8_loss [vI a, vI b] V u := by
  obtain ⟨h1, hn8, h33, h37, hse, hlh, ⟨hn, hRT, hRS, ⟨m, hRJ, hm⟩, ⟨t, ht, ht5⟩, hc, hw⟩, bs, hb1, hb2, hb3⟩ := id hL
  by_cases h : pr_ok (nI n) a b
  · obtain ⟨i, j, hi, hj, hij, rfl, rfl⟩ := pr_of hn8 h
    refine Cs_.q (Q := fun x => x = if 0 < V 1 2 (i * 8 + j) then nI (ce_ n (ms_ (V 1) n (V 0 31))) - nI (ce_ n (ms_ (dn_ V i j 3) n (ms_ (V 1) n (V 0 31)))) else -4) hL (c_X7_loss_ok hn hn8 hi hj hij) (fun V1 hf => ?_) (fun x x2 h1 h2 => h2.trans h1.symm)
    have L1 := hL.fm hf
    obtain ⟨-, -, g33, g37, gse, glh, ⟨gn, gRT, gRS, -, -, -, -⟩, -⟩ := id L1
    have e37 : V1 0 37 = V 0 19 := by rw [hf.2.2 37 (by omega)]; exact h37
    have es : V1 1 = V 1 := hf.1
    rw [es] at gRT gRS gn
    refine ci_q (c_X8_loss_ok gRT g33 h1 hn8 hi hj hij (hw.1 i j (by omega) (by omega))) ?_
    intro x V' hx
    by_cases hl : 0 < V 1 2 (i * 8 + j)
    · rw [if_pos hl] at hx
      obtain ⟨rfl, rfl⟩ := hx
      have iv5 := gRT.iv.b5 (show i < 8 by omega) (show j < 8 by omega) hij hl (Or.inl (rfl : nI 0 = nI 0))
      have em : ms_ (dn_ V i j 3) n (ms_ (V 1) n (V 0 31)) = ms_ (b1_ (V 1) 5 i j (nI 0)) n (ms_ (V 1) n (V 0 31)) := by
        rw [dn_b1]
        refine ms_cong hn8 (fun k hk => ⟨?_, ?_⟩)
        · rw [b1_o (by decide), b1_o (by decide)]; exact (eqb_cf (V := V) (g := 3) (g0 := 1)).1 4 k (by decide) (by decide) hk
        · unfold b1_; rw [(eqb_cf (V := V) (g := 3) (g0 := 1)).1 5 k (by decide) (by decide) hk]
      refine ⟨rf2_44, ?_⟩
      rw [if_pos hl, em, ce_eq (D := V 0 31) gRT.iv hn8, ce_eq (D := ms_ (V 1) n (V 0 31)) iv5 hn8]
    · rw [if_neg hl] at hx
      obtain ⟨rfl, rfl⟩ := hx
      exact ⟨rf2_rf, by rw [if_neg hl]⟩
  · exact Cs_.p hL (c_X7_loss_bad hn hn8 h) (c_X8_loss_bad h33 h1 hn8 h)
theorem cs_recovery {PL : List (Nat × Nat)} {V : Mm_} {n u : Nat} (hu : u < 512) (hL : LV_ V n u) {a b : Int32} : Cs_ PL mX7_recovery mX8_recovery [vI a, vI b] V u := by
  obtain ⟨h1, hn8, h33, h37, hse, hlh, ⟨hn, hRT, hRS, ⟨m, hRJ, hm⟩, ⟨t, ht, ht5⟩, hc, hw⟩, bs, hb1, hb2, hb3⟩ := id hL
  by_cases h : pr_ok (nI n) a b
  · obtain ⟨i, j, hi, hj, hij, rfl, rfl⟩ := pr_of hn8 h
    refine Cs_.q (Q := fun x => x = if 0 < V 1 2 (i * 8 + j) then (if V 1 5 (i * 8 + j) = nI 1 then (if 60 < fst_ (lc_ (V 0 19) n (dn_ V i j 3, m)) 60 then -4 else nI (fst_ (lc_ (V 0 19) n (dn_ V i j 3, m)) 60)) else -2) else -4) hL (c_X7_recovery_ok hn hn8 hi hj hij hRJ.ct (by omega)) (fun V1 hf => ?_) (fun x x2 h1 h2 => h2.trans h1.symm)
    have L1 := hL.fm hf
    obtain ⟨-, -, g33, g37, gse, glh, ⟨gn, gRT, gRS, -, -, -, -⟩, -⟩ := id L1
    have e37 : V1 0 37 = V 0 19 := by rw [hf.2.2 37 (by omega)]; exact h37
    have es : V1 1 = V 1 := hf.1
    rw [es] at gRT gRS gn
    have gRJ : RJ_ (V1 0 34) (V 1) m := by rw [hf.2.2 34 (by omega)]; exact hRJ
    have cRT := gRT.below (x' := V1 0 34) (fun _ _ => rfl) (eqb_cf (V := V) (g := 3) (g0 := 1))
    have cRS := gRS.below (x' := V1 0 34) hn8 (fun _ _ => rfl) (eqb_cf (V := V) (g := 3) (g0 := 1))
    have cRJ := gRJ.below (x' := V1 0 34) (fun _ _ => rfl) (eqb_cf (V := V) (g := 3) (g0 := 1))
    have ct : cf_ V 3 1 3 0 1 = nI t := (cf_0 1 (by decide)).trans ht
    have e8 := c_X8_recovery_ok (PL := PL) cRT g33 h1 hn8 hi hj hij cRS cRJ gse ct ht5 (by omega)
    rw [e37, ← dn_b1, (eqb_cf (V := V) (g := 3) (g0 := 1)).1 2 _ (by decide) (by decide) (show i * 8 + j < 64 by omega), (eqb_cf (V := V) (g := 3) (g0 := 1)).1 5 _ (by decide) (by decide) (show i * 8 + j < 64 by omega)] at e8
    exact e8
  · exact Cs_.p hL (c_X7_recovery_bad hn hn8 h) (c_X8_recovery_bad h33 h1 hn8 h)