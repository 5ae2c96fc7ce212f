/-! class: notes of changes, a whole tick: written by wip/whole/m7.py -/
theorem m_sp {V : Mm_} {g r k : Nat} {S : Sg_} {x : Int32} : m_set (s_put V g S) g r k x = s_put V g (fun r' i => if r' = r ∧ i = k then x else S r' i) := by
  funext g' r' i
  by_cases hg : g' = g
  · subst hg
    by_cases hr : r' = r
    · subst hr
      by_cases hi : i = k
      · subst hi; simp [a_set, upd, s_put]
      · simp [a_set, upd, s_put, hi]
    · simp [a_set, s_put, hr]
  · simp [a_set, s_put, hg]
theorem jm_ {V : Mm_} {g m : Nat} {S : Sg_} {t a b c : Int32} : m_set (m_set (m_set (m_set (m_set (s_put V g S) g 16 (m % 16 * 4) t) g 16 (m % 16 * 4 + 1) a) g 16 (m % 16 * 4 + 2) b) g 16 (m % 16 * 4 + 3) c) g 15 1 (nI (m + 1)) = s_put V g (jn_ S m t a b c) := by
  rw [m_sp, m_sp, m_sp, m_sp, m_sp]
  refine congrArg (fun z => s_put V g z) ?_
  funext r i
  simp only [jn_]
  by_cases h15 : r = 15 ∧ i = 1
  · obtain ⟨rfl, rfl⟩ := h15
    rw [if_pos ⟨rfl, rfl⟩, if_neg (by omega), if_neg (by omega), if_neg (by omega), if_neg (by omega), if_pos ⟨rfl, rfl⟩]
  · rw [if_neg h15]
    by_cases h3 : r = 16 ∧ i = m % 16 * 4 + 3
    · obtain ⟨rfl, rfl⟩ := h3
      rw [if_pos ⟨rfl, rfl⟩, if_neg (by omega), if_neg (by omega), if_neg (by omega), if_pos ⟨rfl, rfl⟩]
    · rw [if_neg h3]
      by_cases h2 : r = 16 ∧ i = m % 16 * 4 + 2
      · obtain ⟨rfl, rfl⟩ := h2
        rw [if_pos ⟨rfl, rfl⟩, if_neg (by omega), if_neg (by omega), if_pos ⟨rfl, rfl⟩]
      · rw [if_neg h2]
        by_cases h1 : r = 16 ∧ i = m % 16 * 4 + 1
        · obtain ⟨rfl, rfl⟩ := h1
          rw [if_pos ⟨rfl, rfl⟩, if_neg (by omega), if_pos ⟨rfl, rfl⟩]
        · rw [if_neg h1]
          by_cases h0 : r = 16 ∧ i = m % 16 * 4
          · rw [if_pos h0, if_pos h0]
          · rw [if_neg h0, if_neg h0, if_neg h1, if_neg h2, if_neg h3, if_neg h15]

theorem n1_00 {CH : Nat → Int32} {m a b : Nat} {p : Sg_ × Nat} : (n1_ CH m a b p).1 0 0 = p.1 0 0 := by
  unfold n1_
  split
  · rfl
  · simp [jn_]
theorem nr_00 {CH : Nat → Int32} {m a : Nat} {p : Sg_ × Nat} : ∀ {j : Nat}, (nr_ CH m a j p).1 0 0 = p.1 0 0
  | 0 => rfl
  | j + 1 => n1_00.trans (nr_00 (j := j))
theorem nt_00 {CH : Nat → Int32} {m n : Nat} {p : Sg_ × Nat} : ∀ {i : Nat}, (nt_ CH m n i p).1 0 0 = p.1 0 0
  | 0 => rfl
  | i + 1 => nr_00.trans (nt_00 (i := i))

set_option maxRecDepth 100000 in
set_option maxHeartbeats 4000000 in
theorem c_X7_noteChanges {PL : List (Nat × Nat)} {g n m : Nat} {V : Mm_} (hg0 : ¬ 0 = g) (hn : V g 0 0 = nI n) (hn8 : n ≤ 8) (hm : V g 15 1 = nI m) (hm9 : m < 2 ^ 29) : Ci_ PL mX7_noteChanges [vR 0 18, vR g 0] V (fun x V' => x = nI (nt_ (V 0 23) m n n (V g, 0)).2 ∧ V' = s_put V g (nt_ (V 0 23) m n n (V g, 0)).1) := by
  refine Ca_.of mv_X7_noteChanges.2.2.2.2.2.2 5 (lo := [some (vR 0 18), some (vR g 0), none, none, none, none, none]) rfl (Nat.le_of_ble_eq_true rfl) ?_
  refine r_iconst (pc2 := 1) (nI 0) dX7_noteChanges_0 (by decide) rfl ?_
  refine r_istore_n (pc2 := 2) dX7_noteChanges_1 (by decide) rfl rfl ?_
  refine r_iconst (pc2 := 3) (nI 0) dX7_noteChanges_2 (by decide) rfl ?_
  refine r_istore_n (pc2 := 4) dX7_noteChanges_3 (by decide) rfl rfl ?_
  refine Rc_.to (V' := (fun V1 => V1) (V)) (lo' := (fun (i : Nat) (V1 : Mm_) => [some (vR 0 18), some (vR g 0), some (vI (nI ((nt_ (V 0 23) m n i (V g, 0)).2))), some (vI (nI i)), none, none, none]) 0 (V)) (rfl) ⟨rfl, rfl, rfl, rfl, trivial⟩ ?_
  refine Rc_forI 0 (n) (fun (i : Nat) (V1 : Mm_) => [some (vR 0 18), some (vR g 0), some (vI (nI ((nt_ (V 0 23) m n i (V g, 0)).2))), some (vI (nI i)), none, none, none]) (fun V1 => V1) (fun i V1 => V1 = s_put V g (nt_ (V 0 23) m n i (V g, 0)).1) (by omega) (fun i V1 hi0 hiN hI ih4 => ?_) (V) (sp_id.symm)
  have hok := nt_ok (CH := V 0 23) (n := n) (p := (V g, 0)) (show (V g) 15 1 = nI (m + 0) from hm) i
  obtain ⟨P, hP⟩ : ∃ P, P = nt_ (V 0 23) m n i (V g, 0) := ⟨_, rfl⟩
  rw [← hP] at hI hok ⊢
  have hi8 : i * n ≤ 64 := Nat.mul_le_mul (Nat.le_trans hiN hn8) hn8
  have hVn : V1 g 0 0 = nI n := by rw [hI, sp_same, hP, nt_00]; exact hn
  refine r_iload_n (pc2 := 5) dX7_noteChanges_4 rfl rfl ?_
  refine r_aload_n (pc2 := 6) dX7_noteChanges_5 rfl rfl ?_
  refine r_getIe (pc2 := 9) (x := (nI n)) (hVn) dX7_noteChanges_6 fl_X7_60 (by decide) rfl rfl rfl ?_
  refine r_icN_ge (pc2 := 12) (tgt := 96) (by omega) (by omega) dX7_noteChanges_9 (by decide) rfl (fun c9 => ?_) (fun c9 => ?_)
  · skip
    refine r_iload_n (pc2 := 97) dX7_noteChanges_96 rfl rfl ?_
    exact r_iret dX7_noteChanges_97 rfl (⟨by (have e : i = n := by omega); subst e; rw [hP], by (have e : i = n := by omega); subst e; rw [hI, hP]⟩)
  · skip
    refine r_iconst (pc2 := 13) (nI 0) dX7_noteChanges_12 (by decide) rfl ?_
    refine r_istore (pc2 := 15) dX7_noteChanges_13 (by decide) rfl rfl ?_
    refine Rc_.to (V' := (fun V2 => V2) (V1)) (lo' := (fun (j : Nat) (V2 : Mm_) => [some (vR 0 18), some (vR g 0), some (vI (nI ((nr_ (V 0 23) m i j P).2))), some (vI (nI i)), some (vI (nI j)), none, none]) 0 (V1)) (rfl) ⟨rfl, rfl, rfl, rfl, rfl, trivial⟩ ?_
    refine Rc_forI 0 (n) (fun (j : Nat) (V2 : Mm_) => [some (vR 0 18), some (vR g 0), some (vI (nI ((nr_ (V 0 23) m i j P).2))), some (vI (nI i)), some (vI (nI j)), none, none]) (fun V2 => V2) (fun j V2 => V2 = s_put V g (nr_ (V 0 23) m i j P).1) (by omega) (fun j V2 hj0 hjN hJ ih15 => ?_) (V1) (hI)
    have hokj := nr_ok (CH := V 0 23) (a := i) hok.1 j
    obtain ⟨Q, hQ⟩ : ∃ Q, Q = nr_ (V 0 23) m i j P := ⟨_, rfl⟩
    rw [← hQ] at hJ hokj ⊢
    have hVn2 : V2 g 0 0 = nI n := by rw [hJ, sp_same, hQ, nr_00, ← hVn, hI, sp_same]
    have h0 : ∀ r, V2 0 r = V 0 r := fun r => by rw [hJ, sp_ne hg0]
    refine r_iload (pc2 := 17) dX7_noteChanges_15 rfl rfl ?_
    refine r_aload_n (pc2 := 18) dX7_noteChanges_17 rfl rfl ?_
    refine r_getIe (pc2 := 21) (x := (nI n)) (hVn2) dX7_noteChanges_18 fl_X7_60 (by decide) rfl rfl rfl ?_
    refine r_icN_ge (pc2 := 24) (tgt := 90) (by omega) (by omega) dX7_noteChanges_21 (by decide) rfl (fun c21 => ?_) (fun c21 => ?_)
    · skip
      refine r_iincN (pc2 := 93) dX7_noteChanges_90 rfl (by decide) rfl rfl ?_
      refine r_goto (pc2 := 4) dX7_noteChanges_93 (by decide) ?_
      exact Rc_.to (lo' := [some (vR 0 18), some (vR g 0), some (vI (nI ((nt_ (V 0 23) m n (i + 1) (V g, 0)).2))), some (vI (nI ((i + 1)))), none, none, none]) (rfl) ⟨rfl, rfl, (congrArg (fun z => some (vI (nI z))) (by (have e : j = n := by omega); subst e; rw [hQ, hP]; rfl)), rfl, trivial⟩ (ih4 _ (by omega) (by (have e : j = n := by omega); subst e; rw [hJ, hQ, hP]; rfl))
    · skip
      refine r_iload_n (pc2 := 25) dX7_noteChanges_24 rfl rfl ?_
      refine r_iload (pc2 := 27) dX7_noteChanges_25 rfl rfl ?_
      refine r_cs2p (pc2 := 30) dX7_noteChanges_27 st_X7_noteChanges_88 (Nat.le_of_ble_eq_true rfl) rfl (c_X7_pair) ?_
      refine r_istore (pc2 := 32) dX7_noteChanges_30 (by decide) rfl rfl ?_
      refine r_aload_n (pc2 := 33) dX7_noteChanges_32 rfl rfl ?_
      refine r_getR (pc2 := 36) dX7_noteChanges_33 fl_X7_37 (by decide) rfl rfl rfl ?_
      refine r_getR (pc2 := 39) dX7_noteChanges_36 fl_X7_183 (by decide) rfl rfl rfl ?_
      refine r_iload (pc2 := 41) dX7_noteChanges_39 rfl rfl ?_
      refine r_ialde (pc2 := 42) (x := ((V 0 23 (i * 8 + j)))) (j := _) (by rw [h0]) dX7_noteChanges_41 (by decide) rfl rfl (rfl) (by show _ < 64; omega) rfl ?_
      refine r_istore (pc2 := 44) dX7_noteChanges_42 (by decide) rfl rfl ?_
      refine r_iload (pc2 := 46) dX7_noteChanges_44 rfl rfl ?_
      refine r_aload_n (pc2 := 47) dX7_noteChanges_46 rfl rfl ?_
      refine r_getR (pc2 := 50) dX7_noteChanges_47 fl_X7_283 (by decide) rfl rfl rfl ?_
      refine r_iload (pc2 := 52) dX7_noteChanges_50 rfl rfl ?_
      refine r_ialde (pc2 := 53) (x := ((Q.1 17 (i * 8 + j)))) (j := _) (by rw [hJ, sp_same]) dX7_noteChanges_52 (by decide) rfl rfl (rfl) (by show _ < 64; omega) rfl ?_
      refine r_ic_eq (pc2 := 56) (tgt := 84) dX7_noteChanges_53 (by decide) rfl (fun c53 => ?_) (fun c53 => ?_)
      · skip
        refine r_iincN (pc2 := 87) dX7_noteChanges_84 rfl (by decide) rfl rfl ?_
        refine r_goto (pc2 := 15) dX7_noteChanges_87 (by decide) ?_
        exact Rc_.to (lo' := [some (vR 0 18), some (vR g 0), some (vI (nI ((nr_ (V 0 23) m i (j + 1) P).2))), some (vI (nI i)), some (vI (nI ((j + 1)))), none, none]) (rfl) ⟨rfl, rfl, (congrArg (fun z => some (vI (nI z))) (by show (n1_ (V 0 23) m i j (nr_ (V 0 23) m i j P)).2 = _; rw [← hQ]; unfold n1_; first | rw [if_pos c53] | rw [if_neg c53])), rfl, rfl, trivial⟩ (ih15 _ (by omega) (by show _ = s_put V g (n1_ (V 0 23) m i j (nr_ (V 0 23) m i j P)).1; rw [← hQ]; unfold n1_; first | exact (by rw [if_pos c53]; exact hJ) | exact (by rw [if_neg c53, hJ, m_sp, jm_])))
      · skip
        refine r_aload_n (pc2 := 57) dX7_noteChanges_56 rfl rfl ?_
        refine r_getR (pc2 := 60) dX7_noteChanges_57 fl_X7_283 (by decide) rfl rfl rfl ?_
        refine r_iload (pc2 := 62) dX7_noteChanges_60 rfl rfl ?_
        refine r_iload (pc2 := 64) dX7_noteChanges_62 rfl rfl ?_
        refine r_iast (pc2 := 65) (j := _) dX7_noteChanges_64 (by decide) rfl rfl (rfl) (by show _ < 64; omega) rfl ?_
        refine r_aload_n (pc2 := 66) dX7_noteChanges_65 rfl rfl ?_
        refine r_getR (pc2 := 69) dX7_noteChanges_66 fl_X7_197 (by decide) rfl rfl rfl ?_
        refine r_aload_n (pc2 := 70) dX7_noteChanges_69 rfl rfl ?_
        refine r_getIe (pc2 := 73) (x := ((Q.1 0 1))) (by rw [m_ne (by omega), hJ, sp_same]) dX7_noteChanges_70 fl_X7_125 (by decide) rfl rfl rfl ?_
        refine r_iload_n (pc2 := 74) dX7_noteChanges_73 rfl rfl ?_
        refine r_iload (pc2 := 76) dX7_noteChanges_74 rfl rfl ?_
        refine r_iload (pc2 := 78) dX7_noteChanges_76 rfl rfl ?_
        refine r_cv4m (pc2 := 81) dX7_noteChanges_78 st_X7_noteChanges_286 rl_X0_add (Nat.le_of_ble_eq_true rfl) rfl (c_X0_add (m := m + Q.2) (by omega) (by rw [m_ne (by omega), hJ, sp_same]; exact hokj.1)) ?_
        refine r_iincN (pc2 := 84) dX7_noteChanges_81 rfl (by decide) rfl rfl ?_
        refine r_iincN (pc2 := 87) dX7_noteChanges_84 rfl (by decide) rfl rfl ?_
        refine r_goto (pc2 := 15) dX7_noteChanges_87 (by decide) ?_
        exact Rc_.to (lo' := [some (vR 0 18), some (vR g 0), some (vI (nI ((nr_ (V 0 23) m i (j + 1) P).2))), some (vI (nI i)), some (vI (nI ((j + 1)))), none, none]) (rfl) ⟨rfl, rfl, (congrArg (fun z => some (vI (nI z))) (by show (n1_ (V 0 23) m i j (nr_ (V 0 23) m i j P)).2 = _; rw [← hQ]; unfold n1_; first | rw [if_pos c53] | rw [if_neg c53])), rfl, rfl, trivial⟩ (ih15 _ (by omega) (by show _ = s_put V g (n1_ (V 0 23) m i j (nr_ (V 0 23) m i j P)).1; rw [← hQ]; unfold n1_; first | exact (by rw [if_pos c53]; exact hJ) | exact (by rw [if_neg c53, hJ, m_sp, jm_])))
