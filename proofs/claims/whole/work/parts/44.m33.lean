/-! reference: settling, recovery: written by wip/whole/m33.py -/
/-- what a question of the reference leaves -/
def rf2_ (V V' : Mm_) : Prop := (∀ g r, ¬ (g = 0 ∧ (r = 33 ∨ r = 34 ∨ r = 35 ∨ (40 ≤ r ∧ r ≤ 45))) → V' g r = V g r) ∧ (∀ k, ¬ k = 14 → V' 0 33 k = V 0 33 k) ∧ ∀ q, q < 3596 → V' 0 34 q = V 0 34 q
theorem rf2_rf {V : Mm_} : rf2_ V V := ⟨fun _ _ _ => rfl, fun _ _ => rfl, fun _ _ => rfl⟩
theorem rf2_44 {V : Mm_} {f : Nat → Int32} : rf2_ V (a_set V 0 44 f) := ⟨fun g r h => a_ne (by omega), fun k _ => by rw [a_ne (by decide)], fun q _ => by rw [a_ne (by decide)]⟩
/-- ticks that are tried: the row lies aside -/
def sg_ (V V1 : Mm_) (p0 : Sg_ × Nat) (n i : Nat) : Prop := (∀ g r, ¬ (g = 0 ∧ (r = 33 ∨ r = 34 ∨ r = 35 ∨ (40 ≤ r ∧ r ≤ 45))) → V1 g r = V g r) ∧ (∀ k, ¬ k = 14 → V1 0 33 k = V 0 33 k) ∧ (∀ q, q < 3596 → V1 0 35 q = V 0 34 q) ∧ RT_ (V1 0 34) (tn_ (V 0 37) n i p0).1 ∧ RS_ (V1 0 34) (tn_ (V 0 37) n i p0).1 n ∧ RJ_ (V1 0 34) (tn_ (V 0 37) n i p0).1 (tn_ (V 0 37) n i p0).2
theorem sg_1 {V V1 V2 : Mm_} {p0 : Sg_ × Nat} {n i : Nat} (h : sg_ V V1 p0 n i) (h2 : tc_ V1 V2 (tn_ (V 0 37) n i p0).1 (tn_ (V 0 37) n i p0).2 n) : sg_ V V2 p0 n (i + 1) ∧ V2 0 33 14 = nI (cg_ (V 0 37) n p0 i) ∧ V2 0 45 = V1 0 45 := by
  obtain ⟨a1, a2, a3, a4, a5, a6⟩ := h
  obtain ⟨b1, b2, b3, b4, b5, b6⟩ := h2
  rw [a1 0 37 (by omega)] at b3 b4 b5 b6
  refine ⟨⟨fun g r hg => (b1 g r (by omega)).trans (a1 g r hg), fun k hk => (b2 k hk).trans (a2 k hk), fun q hq => by rw [b1 0 35 (by omega)]; exact a3 q hq, b4, b5, b6⟩, b3, b1 0 45 (by omega)⟩
theorem sg_45 {V V1 : Mm_} {p0 : Sg_ × Nat} {n i j : Nat} {x : Int32} (h : sg_ V V1 p0 n i) : sg_ V (m_set V1 0 45 j x) p0 n i := by
  obtain ⟨a1, a2, a3, a4, a5, a6⟩ := h
  refine ⟨fun g r hg => by rw [m_ne (by omega)]; exact a1 g r hg, fun k hk => by rw [m_ne (by decide)]; exact a2 k hk, fun q hq => by rw [m_ne (by decide)]; exact a3 q hq, ?_, ?_, ?_⟩
  · rw [m_ne (by decide)]; exact a4
  · rw [m_ne (by decide)]; exact a5
  · rw [m_ne (by decide)]; exact a6
theorem sg_b {V V1 : Mm_} {p0 : Sg_ × Nat} {n i : Nat} (h : sg_ V V1 p0 n i) : rf2_ V (a_set V1 0 34 (fr_ (V1 0 35) (V1 0 34) 3596)) := by
  obtain ⟨a1, a2, a3, a4, a5, a6⟩ := h
  exact ⟨fun g r hg => by rw [a_ne (by omega)]; exact a1 g r hg, fun k hk => by rw [a_ne (by decide)]; exact a2 k hk, fun q hq => by rw [a_same, fr_in hq]; exact a3 q hq⟩
theorem sg_0 {V : Mm_} {s : Sg_} {n m : Nat} (h : RT_ (V 0 34) s) (hS : RS_ (V 0 34) s n) (hJ : RJ_ (V 0 34) s m) : sg_ V (a_set V 0 35 (fr_ (V 0 34) (V 0 35) 3596)) (s, m) n 0 := by
  refine ⟨fun g r hg => a_ne (by omega), fun k hk => by rw [a_ne (by decide)], fun q hq => by rw [a_same, fr_in hq], ?_, ?_, ?_⟩
  · rw [a_ne (by decide)]; exact h
  · rw [a_ne (by decide)]; exact hS
  · rw [a_ne (by decide)]; exact hJ
/-- a row of quiet ticks -/
theorem qt_ge {c : Nat → Nat} : ∀ {i d : Nat}, d ≤ qt_ c i ↔ d ≤ i ∧ ∀ v, i - d ≤ v → v < i → c v = 0
  | 0, d => ⟨fun h => ⟨h, fun v _ h2 => absurd h2 (Nat.not_lt_zero v)⟩, fun h => h.1⟩
  | i + 1, 0 => ⟨fun _ => ⟨Nat.zero_le _, fun v h1 h2 => absurd h2 (by omega)⟩, fun _ => Nat.zero_le _⟩
  | i + 1, d + 1 => by
    have ih := qt_ge (c := c) (i := i) (d := d)
    show d + 1 ≤ (if c i = 0 then qt_ c i + 1 else 0) ↔ _
    by_cases z : c i = 0
    · rw [if_pos z]
      refine ⟨fun h => ?_, fun h => ?_⟩
      · obtain ⟨h1, h2⟩ := ih.mp (by omega)
        refine ⟨by omega, fun v hv hv2 => ?_⟩
        by_cases e : v = i
        · rw [e]; exact z
        · exact h2 v (by omega) (by omega)
      · have := ih.mpr ⟨by omega, fun v hv hv2 => h.2 v (by omega) (by omega)⟩
        omega
    · rw [if_neg z]
      exact ⟨fun h => absurd h (by omega), fun h => absurd (h.2 i (by omega) (by omega)) z⟩
theorem qt_no {c : Nat → Nat} {j N : Nat} (h : ∀ k, k < N → ¬ ∀ v, v < 40 → c (k + v) = 0) (hj : j < N + 40) : ¬ qt_ c j = 40 := by
  intro z
  obtain ⟨h1, h2⟩ := qt_ge.mp (show 40 ≤ qt_ c j by omega)
  exact h (j - 40) (by omega) (fun v hv => h2 _ (by omega) (by omega))
theorem se_y {c : Nat → Nat} {k : Nat} (hk : k ≤ 200) (h : ∀ j, j < k → ¬ ∀ v, v < 40 → c (j + v) = 0) (h2 : ∀ v, v < 40 → c (k + v) = 0) : se_ c (nI k) := by
  refine Or.inl ⟨k + 39, by omega, ?_, fun j hj => qt_no h (by omega), congrArg nI (by omega)⟩
  have h4 : 40 ≤ qt_ c (k + 39 + 1) := qt_ge.mpr ⟨by omega, fun v h3 h4 => by
    have := h2 (v - k) (by omega)
    rwa [show k + (v - k) = v by omega] at this⟩
  have h5 : ¬ 41 ≤ qt_ c (k + 39 + 1) := fun z => by
    obtain ⟨z1, z2⟩ := qt_ge.mp z
    exact h (k - 1) (by omega) (fun v hv => z2 _ (by omega) (by omega))
  omega
theorem se_n {c : Nat → Nat} (h : ∀ j, j < 201 → ¬ ∀ v, v < 40 → c (j + v) = 0) : se_ c (-4) := Or.inr ⟨fun j hj => qt_no h (by omega), rfl⟩
theorem se_1 {c : Nat → Nat} {x y : Int32} (hx : se_ c x) (hy : se_ c y) : x = y := by
  rcases hx with ⟨i, h1, h2, h3, rfl⟩ | ⟨h1, rfl⟩
  · rcases hy with ⟨j, g1, g2, g3, rfl⟩ | ⟨g1, rfl⟩
    · have : i = j := by
        rcases Nat.lt_trichotomy i j with q | q | q
        · exact absurd h2 (g3 (i + 1) (by omega))
        · exact q
        · exact absurd g2 (h3 (j + 1) (by omega))
      rw [this]
    · exact absurd h2 (g1 (i + 1) (by omega))
  · rcases hy with ⟨j, g1, g2, g3, rfl⟩ | ⟨g1, rfl⟩
    · exact absurd g2 (h1 (j + 1) (by omega))
    · rfl
theorem al_1 {c : Nat → Nat} {k w : Nat} (h : ∀ v, v < w → c (k + v) = 0) (h2 : c (k + w) = 0) : ∀ v, v < w + 1 → c (k + v) = 0 := fun v hv => by
  by_cases e : v = w
  · rw [e]; exact h2
  · exact h v (by omega)

set_option maxRecDepth 100000 in
set_option maxHeartbeats 4000000 in
theorem c_X8_settling {PL : List (Nat × Nat)} {V : Mm_} {s : Sg_} (h : RT_ (V 0 34) s) {n : Nat} (hm : V 0 33 0 = nI n) (hn1 : 2 ≤ n) (hn8 : n ≤ 8) (hS : RS_ (V 0 34) s n) {m : Nat} (hJ : RJ_ (V 0 34) s m) (hse : SE_ (V 0 37)) {t : Nat} (ht : s 0 1 = nI t) (ht5 : t ≤ 100000) (hm9 : m ≤ 2 ^ 28) : Ci_ PL mX8_settling [vR 0 33] V (fun x V' => rf2_ V V' ∧ se_ (cg_ (V 0 37) n (s, m)) x) := by
  refine Ca_.of mv_X8_settling.2.2.2.2.2.2 3 (lo := [some (vR 0 33), none, none, none]) rfl (Nat.le_of_ble_eq_true rfl) ?_
  refine r_aload_n (pc2 := 1) dX8_settling_0 rfl rfl ?_
  refine r_cv0m (pc2 := 4) dX8_settling_1 st_X8_settling_160 rl_X8_putsAside (Nat.le_of_ble_eq_true rfl) rfl (c_X8_putsAside) ?_
  refine r_iconst (pc2 := 5) (nI 1) dX8_settling_4 (by decide) rfl ?_
  refine r_istore_n (pc2 := 6) dX8_settling_5 (by decide) rfl rfl ?_
  refine Rc_.to (V' := (fun V1 => V1) ((a_set V 0 35 (fr_ (V 0 34) (V 0 35) 3596)))) (lo' := (fun (i : Nat) (V1 : Mm_) => [some (vR 0 33), some (vI (nI ((i + 1)))), none, none]) 0 ((a_set V 0 35 (fr_ (V 0 34) (V 0 35) 3596)))) (rfl) ⟨rfl, rfl, trivial⟩ ?_
  refine Rc_forI 0 (240) (fun (i : Nat) (V1 : Mm_) => [some (vR 0 33), some (vI (nI ((i + 1)))), none, none]) (fun V1 => V1) (fun i V1 => sg_ V V1 (s, m) n i ∧ ∀ u, u < i → V1 0 45 (u + 1) = b2 (decide (0 < (cg_ (V 0 37) n (s, m)) u))) (by omega) (fun i V1 hi0 hiN hI ih6 => ?_) ((a_set V 0 35 (fr_ (V 0 34) (V 0 35) 3596))) (⟨sg_0 h hS hJ, fun u hu => absurd hu (Nat.not_lt_zero u)⟩)
  have hok := tn_ok (f := V 0 37) (n := n) (p := (s, m)) hn8 hJ.ct i
  simp only at hok
  have h37 : V1 0 37 = V 0 37 := hI.1.1 0 37 (by omega)
  have htp := fun hi : i ≤ 240 => tp_ (m := 0) (t := t) (i := i) (n := n) (f := V 0 37) (p0 := (s, m)) hn8 hse hJ.ct ht (by omega)
  have hcl : (cg_ (V 0 37) n (s, m)) i ≤ 64 := (tq_ok hn8 hok.1).2.1
  refine r_iload_n (pc2 := 7) dX8_settling_6 rfl rfl ?_
  refine r_sipush (pc2 := 10) (nI 240) dX8_settling_7 (by decide) rfl ?_
  refine r_icN_gt (pc2 := 13) (tgt := 41) (by omega) (by omega) dX8_settling_10 (by decide) rfl (fun c10 => ?_) (fun c10 => ?_)
  · skip
    refine r_aload_n (pc2 := 42) dX8_settling_41 rfl rfl ?_
    refine r_cv0m (pc2 := 45) dX8_settling_42 st_X8_settling_163 rl_X8_putsBack (Nat.le_of_ble_eq_true rfl) rfl (c_X8_putsBack) ?_
    refine r_iconst (pc2 := 46) (nI 0) dX8_settling_45 (by decide) rfl ?_
    refine r_istore_n (pc2 := 47) dX8_settling_46 (by decide) rfl rfl ?_
    refine Rc_.to (V' := (fun _ => a_set V1 0 34 (fr_ (V1 0 35) (V1 0 34) 3596)) (())) (lo' := (fun (k : Nat) (u0 : Unit) => [some (vR 0 33), some (vI (nI k)), none, none]) 0 (())) (rfl) ⟨rfl, rfl, trivial⟩ ?_
    refine Rc_forI 0 (201) (fun (k : Nat) (u0 : Unit) => [some (vR 0 33), some (vI (nI k)), none, none]) (fun _ => a_set V1 0 34 (fr_ (V1 0 35) (V1 0 34) 3596)) (fun k _ => ∀ j, j < k → ¬ ∀ v, v < 40 → (cg_ (V 0 37) n (s, m)) (j + v) = 0) (by omega) (fun k u0 hk0 hkN hK ih47 => ?_) (()) (fun j hj => absurd hj (Nat.not_lt_zero j))
    refine r_iload_n (pc2 := 48) dX8_settling_47 rfl rfl ?_
    refine r_sipush (pc2 := 51) (nI 200) dX8_settling_48 (by decide) rfl ?_
    refine r_icN_gt (pc2 := 54) (tgt := 105) (by omega) (by omega) dX8_settling_51 (by decide) rfl (fun c51 => ?_) (fun c51 => ?_)
    · skip
      refine r_bipush (pc2 := 107) (-4) dX8_settling_105 (by decide) rfl ?_
      exact r_iret dX8_settling_107 rfl (⟨sg_b hI.1, se_n (by rwa [show k = 201 by omega] at hK)⟩)
    · skip
      refine r_iconst (pc2 := 55) (nI 1) dX8_settling_54 (by decide) rfl ?_
      refine r_istore_n (pc2 := 56) dX8_settling_55 (by decide) rfl rfl ?_
      refine r_iload_n (pc2 := 57) dX8_settling_56 rfl rfl ?_
      refine r_iconst (pc2 := 58) (nI 1) dX8_settling_57 (by decide) rfl ?_
      refine r_iaddN (pc2 := 59) dX8_settling_58 rfl ?_
      refine r_istore_n (pc2 := 60) dX8_settling_59 (by decide) rfl rfl ?_
      refine Rc_.to (V' := (fun _ => a_set V1 0 34 (fr_ (V1 0 35) (V1 0 34) 3596)) 0) (lo' := (fun w : Nat => [some (vR 0 33), some (vI (nI k)), some (vI (b2 ((decide (∀ v, v < w → (cg_ (V 0 37) n (s, m)) (k + v) = 0))))), some (vI (nI ((k + 1 + w))))]) 0) (rfl) ⟨rfl, rfl, (congrArg (fun z => some (vI z)) (b2_t (fun v hv => absurd hv (Nat.not_lt_zero v))).symm), rfl, trivial⟩ ?_
      refine Rc_for 0 (40) (fun w : Nat => [some (vR 0 33), some (vI (nI k)), some (vI (b2 ((decide (∀ v, v < w → (cg_ (V 0 37) n (s, m)) (k + v) = 0))))), some (vI (nI ((k + 1 + w))))]) (fun _ => a_set V1 0 34 (fr_ (V1 0 35) (V1 0 34) 3596)) (by omega) (fun w hw0 hwN ih60 => ?_)
      refine r_iload_n (pc2 := 61) dX8_settling_60 rfl rfl ?_
      refine r_iload_n (pc2 := 62) dX8_settling_61 rfl rfl ?_
      refine r_bipush (pc2 := 64) (nI 40) dX8_settling_62 (by decide) rfl ?_
      refine r_iaddN (pc2 := 65) dX8_settling_64 rfl ?_
      refine r_icN_gt (pc2 := 68) (tgt := 93) (by omega) (by omega) dX8_settling_65 (by decide) rfl (fun c65 => ?_) (fun c65 => ?_)
      · skip
        refine r_iload_n (pc2 := 94) dX8_settling_93 rfl rfl ?_
        refine r_ifB_eq (pc2 := 97) (tgt := 99) dX8_settling_94 (by decide) rfl (fun c94 => ?_) (fun c94 => ?_)
        · skip
          refine r_iincN (pc2 := 102) dX8_settling_99 rfl (by decide) rfl rfl ?_
          refine r_goto (pc2 := 47) dX8_settling_102 (by decide) ?_
          exact Rc_.to (lo' := (fun (k : Nat) (u0 : Unit) => [some (vR 0 33), some (vI (nI k)), none, none]) (k + 1) ()) (rfl) ⟨rfl, rfl, trivial⟩ (ih47 () (by omega) (fun j hj => by
              by_cases e : j = k
              · rw [e]; have := of_decide_eq_false c94; rwa [show w = 40 by omega] at this
              · exact hK j (by omega)))
        · skip
          refine r_iload_n (pc2 := 98) dX8_settling_97 rfl rfl ?_
          exact r_iret dX8_settling_98 rfl (⟨sg_b hI.1, se_y (by omega) hK (by have := of_decide_eq_true c94; rwa [show w = 40 by omega] at this)⟩)
      · skip
        refine r_iload_n (pc2 := 69) dX8_settling_68 rfl rfl ?_
        refine r_ifB_eq (pc2 := 72) (tgt := 85) dX8_settling_69 (by decide) rfl (fun c69 => ?_) (fun c69 => ?_)
        · skip
          refine r_iconst (pc2 := 86) (nI 0) dX8_settling_85 (by decide) rfl ?_
          refine r_istore_n (pc2 := 87) dX8_settling_86 (by decide) rfl rfl ?_
          refine r_iincN (pc2 := 90) dX8_settling_87 rfl (by decide) rfl rfl ?_
          refine r_goto (pc2 := 60) dX8_settling_90 (by decide) ?_
          exact Rc_.to (lo' := (fun w : Nat => [some (vR 0 33), some (vI (nI k)), some (vI (b2 ((decide (∀ v, v < w → (cg_ (V 0 37) n (s, m)) (k + v) = 0))))), some (vI (nI ((k + 1 + w))))]) (w + 1)) (rfl) ⟨rfl, rfl, (congrArg (fun z => some (vI z)) (b2_f (fun z => of_decide_eq_false c69 (fun v hv => z v (by omega)))).symm), rfl, trivial⟩ (ih60 (by omega))
        · skip
          refine r_aload_n (pc2 := 73) dX8_settling_72 rfl rfl ?_
          refine r_getR (pc2 := 76) dX8_settling_73 fl_X8_48 (by decide) rfl rfl rfl ?_
          refine r_iload_n (pc2 := 77) dX8_settling_76 rfl rfl ?_
          refine r_zalde (pc2 := 78) (x := (b2 ((decide (0 < (cg_ (V 0 37) n (s, m)) (k + w)))))) (j := _) (by rw [a_ne (by decide), show k + 1 + w = k + w + 1 by omega]; exact hI.2 (k + w) (by omega)) dX8_settling_77 (by decide) rfl rfl (rfl) (by show _ < 241; omega) rfl ?_
          refine r_ifB_ne (pc2 := 81) (tgt := 85) dX8_settling_78 (by decide) rfl (fun c78 => ?_) (fun c78 => ?_)
          · skip
            refine r_iconst (pc2 := 86) (nI 0) dX8_settling_85 (by decide) rfl ?_
            refine r_istore_n (pc2 := 87) dX8_settling_86 (by decide) rfl rfl ?_
            refine r_iincN (pc2 := 90) dX8_settling_87 rfl (by decide) rfl rfl ?_
            refine r_goto (pc2 := 60) dX8_settling_90 (by decide) ?_
            exact Rc_.to (lo' := (fun w : Nat => [some (vR 0 33), some (vI (nI k)), some (vI (b2 ((decide (∀ v, v < w → (cg_ (V 0 37) n (s, m)) (k + v) = 0))))), some (vI (nI ((k + 1 + w))))]) (w + 1)) (rfl) ⟨rfl, rfl, (congrArg (fun z => some (vI z)) (by first | exact (b2_t (al_1 (of_decide_eq_true c69) (by have := of_decide_eq_false c78; omega))).symm | exact (b2_f (fun z => absurd (z w (by omega)) (by have := of_decide_eq_true c78; omega))).symm | exact (b2_f (fun z => of_decide_eq_false c69 (fun v hv => z v (by omega)))).symm)), rfl, trivial⟩ (ih60 (by omega))
          · skip
            refine r_iconst (pc2 := 82) (nI 1) dX8_settling_81 (by decide) rfl ?_
            refine r_goto (pc2 := 86) dX8_settling_82 (by decide) ?_
            refine r_istore_n (pc2 := 87) dX8_settling_86 (by decide) rfl rfl ?_
            refine r_iincN (pc2 := 90) dX8_settling_87 rfl (by decide) rfl rfl ?_
            refine r_goto (pc2 := 60) dX8_settling_90 (by decide) ?_
            exact Rc_.to (lo' := (fun w : Nat => [some (vR 0 33), some (vI (nI k)), some (vI (b2 ((decide (∀ v, v < w → (cg_ (V 0 37) n (s, m)) (k + v) = 0))))), some (vI (nI ((k + 1 + w))))]) (w + 1)) (rfl) ⟨rfl, rfl, (congrArg (fun z => some (vI z)) (by first | exact (b2_t (al_1 (of_decide_eq_true c69) (by have := of_decide_eq_false c78; omega))).symm | exact (b2_f (fun z => absurd (z w (by omega)) (by have := of_decide_eq_true c78; omega))).symm | exact (b2_f (fun z => of_decide_eq_false c69 (fun v hv => z v (by omega)))).symm)), rfl, trivial⟩ (ih60 (by omega))
  · skip
    refine r_aload_n (pc2 := 14) dX8_settling_13 rfl rfl ?_
    refine r_cv0v (pc2 := 17) dX8_settling_14 st_X8_settling_142 rl_X8_tick (Nat.le_of_ble_eq_true rfl) rfl (c_X8_tick (V := V1) (m := (tn_ (V 0 37) n i (s, m)).2) hI.1.2.2.2.1 hI.1.2.2.2.2.1 hI.1.2.2.2.2.2 (by rw [hI.1.2.1 0 (by decide)]; exact hm) hn1 hn8 (by rw [h37]; exact hse) (htp (by omega)).1 (by rw [h37]; exact (htp (by omega)).2) (by have := hok.2.1; omega)) (fun V14 h14 => ?_)
    have hnx := sg_1 hI.1 h14
    refine r_aload_n (pc2 := 18) dX8_settling_17 rfl rfl ?_
    refine r_getR (pc2 := 21) dX8_settling_18 fl_X8_48 (by decide) rfl rfl rfl ?_
    refine r_iload_n (pc2 := 22) dX8_settling_21 rfl rfl ?_
    refine r_aload_n (pc2 := 23) dX8_settling_22 rfl rfl ?_
    refine r_getIe (pc2 := 26) (x := (nI (((cg_ (V 0 37) n (s, m)) i)))) (hnx.2.1) dX8_settling_23 fl_X8_121 (by decide) rfl rfl rfl ?_
    refine r_if0N_le (pc2 := 29) (tgt := 33) (by omega) dX8_settling_26 (by decide) rfl (fun c26 => ?_) (fun c26 => ?_)
    · skip
      refine r_iconst (pc2 := 34) (nI 0) dX8_settling_33 (by decide) rfl ?_
      refine r_zast (pc2 := 35) (j := _) dX8_settling_34 (by decide) rfl rfl (by decide) (rfl) (by show _ < 241; omega) rfl ?_
      refine r_iincN (pc2 := 38) dX8_settling_35 rfl (by decide) rfl rfl ?_
      refine r_goto (pc2 := 6) dX8_settling_38 (by decide) ?_
      exact Rc_.to (lo' := [some (vR 0 33), some (vI (nI (((i + 1) + 1)))), none, none]) (rfl) ⟨rfl, rfl, trivial⟩ (ih6 _ (by omega) (⟨sg_45 hnx.1, fun u hu => by
            by_cases e : u = i
            · rw [m_j (by omega), e]; first | exact b2_t (by omega) | exact b2_f (by omega)
            · rw [m_i (by omega), hnx.2.2]; exact hI.2 u (by omega)⟩))
    · skip
      refine r_iconst (pc2 := 30) (nI 1) dX8_settling_29 (by decide) rfl ?_
      refine r_goto (pc2 := 34) dX8_settling_30 (by decide) ?_
      refine r_zast (pc2 := 35) (j := _) dX8_settling_34 (by decide) rfl rfl (by decide) (rfl) (by show _ < 241; omega) rfl ?_
      refine r_iincN (pc2 := 38) dX8_settling_35 rfl (by decide) rfl rfl ?_
      refine r_goto (pc2 := 6) dX8_settling_38 (by decide) ?_
      exact Rc_.to (lo' := [some (vR 0 33), some (vI (nI (((i + 1) + 1)))), none, none]) (rfl) ⟨rfl, rfl, trivial⟩ (ih6 _ (by omega) (⟨sg_45 hnx.1, fun u hu => by
            by_cases e : u = i
            · rw [m_j (by omega), e]; first | exact b2_t (by omega) | exact b2_f (by omega)
            · rw [m_i (by omega), hnx.2.2]; exact hI.2 u (by omega)⟩))

theorem tn_s {f : Nat → Int32} {n k r : Nat} {p : Sg_ × Nat} (h : r < 15) : (tn_ f n (k + 1) p).1 r = t3_ f n (tn_ f n k p).1 r := by
  funext i
  exact nt_s h n
theorem lc_eq {f : Nat → Int32} {n k : Nat} {p : Sg_ × Nat} : c2_ (lp_ (Ch_ (f 2) (tn_ f n (k + 1) p).1 (f 6) n)) n n = lc_ f n p k := by
  have e : Ch_ (f 2) (tn_ f n (k + 1) p).1 (f 6) n = Ch_ (f 2) (t3_ f n (tn_ f n k p).1) (f 6) n := by
    funext q
    exact ch_cong (fun r hr => tn_s hr)
  rw [e]
  rfl
/-- the first tick free of loops, as the reference keeps it -/
def rv_ (c : Nat → Nat) (k : Nat) : Int32 := if fst_ c k = k + 1 then -4 else nI (fst_ c k)
theorem rv_0 {c : Nat → Nat} : rv_ c 0 = -4 := if_pos rfl
theorem rv_l {c : Nat → Nat} {k : Nat} (h : ¬ c k = 0) : rv_ c (k + 1) = -4 := by
  unfold rv_
  rw [if_pos]
  show (if 0 < c k then k + 2 else fst_ c k) = _
  rw [if_pos (by omega)]
theorem rv_f {c : Nat → Nat} {k : Nat} (h : c k = 0) : rv_ c (k + 1) = nI (fst_ c k) := by
  have e : fst_ c (k + 1) = fst_ c k := by
    show (if 0 < c k then k + 2 else fst_ c k) = _
    rw [if_neg (by omega)]
  have := fst_le c k
  unfold rv_
  rw [e, if_neg (by omega)]
theorem rv_g {c : Nat → Nat} {k : Nat} (h : c k = 0) (h2 : 0 ≤ rv_ c k) : rv_ c (k + 1) = rv_ c k := by
  rw [rv_f h]
  unfold rv_ at h2 ⊢
  by_cases z : fst_ c k = k + 1
  · rw [if_pos z] at h2; exact absurd h2 (by decide)
  · rw [if_neg z]
theorem rv_h {c : Nat → Nat} {k : Nat} (hk : k < 1000) (h : c k = 0) (h2 : ¬ 0 ≤ rv_ c k) : rv_ c (k + 1) = nI (k + 1) := by
  rw [rv_f h]
  unfold rv_ at h2
  by_cases z : fst_ c k = k + 1
  · rw [z]
  · rw [if_neg z] at h2
    have := fst_le c k
    exact absurd (nI_pos' (by omega)) h2
theorem rv_e {c : Nat → Nat} : rv_ c 60 = if 60 < fst_ c 60 then -4 else nI (fst_ c 60) := by
  have := fst_le c 60
  unfold rv_
  by_cases z : fst_ c 60 = 60 + 1
  · rw [if_pos z, if_pos (by omega)]
  · rw [if_neg z, if_neg (by omega)]
theorem sg_lw {V : Mm_} {s : Sg_} {n m i j : Nat} (h : RT_ (V 0 34) s) (hS : RS_ (V 0 34) s n) (hJ : RJ_ (V 0 34) s m) (hn8 : n ≤ 8) (hi : i < 8) (hj : j < 8) (hij : ¬ i = j) (hl : 0 < s 2 (i * 8 + j)) : sg_ V (lw_ (a_set V 0 35 (fr_ (V 0 34) (V 0 35) 3596)) i j 3 (nI 0)) (b1_ s 5 i j (nI 0), m) n 0 := by
  have e : ∀ q, 256 ≤ q → lw_ (a_set V 0 35 (fr_ (V 0 34) (V 0 35) 3596)) i j 3 (nI 0) 0 34 q = V 0 34 q := fun q hq => by rw [lw_far hi hj (by decide) hq, a_ne (by decide)]
  refine ⟨fun g r hg => by rw [lw_ne (by omega)]; exact a_ne (by omega), fun k hk => by rw [lw_ne (by decide), a_ne (by decide)], fun q hq => by rw [lw_ne (by decide), a_same, fr_in hq], ?_, ?_, ?_⟩
  · exact RT_.b1 (w := 3) (h.a44 (by decide)) hi hj (by decide) (h.iv.b5 hi hj hij hl (Or.inl rfl))
  · exact hS.cong hn8 (fun q h1 _ => e q (by omega)) (fun k _ => by show b1_ s 5 i j (nI 0) 13 k = _; rw [b1_o (by decide)]) (fun k _ => by show b1_ s 5 i j (nI 0) 14 k = _; rw [b1_o (by decide)])
  · exact hJ.cong (fun q h1 _ => e q (by omega)) (show b1_ s 5 i j (nI 0) 15 = _ from b1_o (by decide)) (show b1_ s 5 i j (nI 0) 16 = _ from b1_o (by decide))
set_option maxRecDepth 100000 in
set_option maxHeartbeats 4000000 in
theorem c_X8_recovery_bad {PL : List (Nat × Nat)} {V : Mm_} {n : Nat} (hm : V 0 33 0 = nI n) (hn1 : 2 ≤ n) (hn8 : n ≤ 8) {a b : Int32} (hbad : ¬ (pr_ok (nI n) a b)) : Cp_ PL mX8_recovery [vR 0 33, vI a, vI b] V ((-1)) := by
  refine Ca_.of mv_X8_recovery.2.2.2.2.2.2 3 (lo := [some (vR 0 33), some (vI a), some (vI b), none, none, none]) rfl (Nat.le_of_ble_eq_true rfl) ?_
  refine r_aload_n (pc2 := 1) dX8_recovery_0 rfl rfl ?_
  refine r_iload_n (pc2 := 2) dX8_recovery_1 rfl rfl ?_
  refine r_iload_n (pc2 := 3) dX8_recovery_2 rfl rfl ?_
  refine r_cv2p (pc2 := 6) dX8_recovery_3 st_X8_recovery_74 rl_X8_arePair (Nat.le_of_ble_eq_true rfl) rfl (c_X8_arePair hm hn1 hn8) ?_
  refine r_ifB_ne (pc2 := 9) (tgt := 11) dX8_recovery_6 (by decide) rfl (fun c6 => ?_) (fun c6 => ?_)
  · skip
    exact absurd (of_decide_eq_true c6) hbad
  · skip
    refine r_iconst (pc2 := 10) (-1) dX8_recovery_9 (by decide) rfl ?_
    exact r_iret dX8_recovery_10 rfl (⟨rfl, rfl⟩)

set_option maxRecDepth 100000 in
set_option maxHeartbeats 4000000 in
theorem c_X8_recovery_ok {PL : List (Nat × Nat)} {V : Mm_} {s : Sg_} (h : RT_ (V 0 34) s) {n : Nat} (hm : V 0 33 0 = nI n) (hn1 : 2 ≤ n) (hn8 : n ≤ 8) {i j : Nat} (hi : i < n) (hj : j < n) (hij : ¬ i = j) (hS : RS_ (V 0 34) s n) {m : Nat} (hJ : RJ_ (V 0 34) s m) (hse : SE_ (V 0 37)) {t : Nat} (ht : s 0 1 = nI t) (ht5 : t ≤ 100000) (hm9 : m ≤ 2 ^ 28) : Ci_ PL mX8_recovery [vR 0 33, vI (nI i), vI (nI j)] V (fun x V' => rf2_ V V' ∧ x = if 0 < s 2 (i * 8 + j) then (if s 5 (i * 8 + j) = nI 1 then (if 60 < fst_ (lc_ (V 0 37) n (b1_ s 5 i j (nI 0), m)) 60 then -4 else nI (fst_ (lc_ (V 0 37) n (b1_ s 5 i j (nI 0), m)) 60)) else -2) else -4) := by
  refine Ca_.of mv_X8_recovery.2.2.2.2.2.2 3 (lo := [some (vR 0 33), some (vI (nI i)), some (vI (nI j)), none, none, none]) rfl (Nat.le_of_ble_eq_true rfl) ?_
  refine r_aload_n (pc2 := 1) dX8_recovery_0 rfl rfl ?_
  refine r_iload_n (pc2 := 2) dX8_recovery_1 rfl rfl ?_
  refine r_iload_n (pc2 := 3) dX8_recovery_2 rfl rfl ?_
  refine r_cv2p (pc2 := 6) dX8_recovery_3 st_X8_recovery_74 rl_X8_arePair (Nat.le_of_ble_eq_true rfl) rfl (c_arePair_ok hm hn1 hn8 hi hj hij) ?_
  refine r_if0N_ne (pc2 := 9) (tgt := 11) (by omega) dX8_recovery_6 (by decide) rfl (fun c6 => ?_) (fun c6 => ?_)
  · skip
    refine r_aload_n (pc2 := 12) dX8_recovery_11 rfl rfl ?_
    refine r_iload_n (pc2 := 13) dX8_recovery_12 rfl rfl ?_
    refine r_iload_n (pc2 := 14) dX8_recovery_13 rfl rfl ?_
    refine r_cv2p (pc2 := 17) dX8_recovery_14 st_X8_recovery_66 rl_X8_isLink (Nat.le_of_ble_eq_true rfl) rfl (c_X8_isLink h (by omega) (by omega)) ?_
    refine r_ifB_ne (pc2 := 20) (tgt := 23) dX8_recovery_17 (by decide) rfl (fun c17 => ?_) (fun c17 => ?_)
    · skip
      refine r_aload_n (pc2 := 24) dX8_recovery_23 rfl rfl ?_
      refine r_getR (pc2 := 27) dX8_recovery_24 fl_X8_13 (by decide) rfl rfl rfl ?_
      refine r_iload_n (pc2 := 28) dX8_recovery_27 rfl rfl ?_
      refine r_iload_n (pc2 := 29) dX8_recovery_28 rfl rfl ?_
      refine r_iconst (pc2 := 30) (nI 3) dX8_recovery_29 (by decide) rfl ?_
      refine r_cs3p (pc2 := 33) dX8_recovery_30 st_X8_recovery_62 (Nat.le_of_ble_eq_true rfl) rfl (c_X8_linkAt) ?_
      refine r_ialde (pc2 := 34) (x := ((s 5 (i * 8 + j)))) (j := _) (h.lk (i * 8 + j) 3 (by omega) (by omega)) dX8_recovery_33 (by decide) rfl rfl (rfl) (by show _ < 3596; omega) rfl ?_
      refine r_if_ne (pc2 := 37) (tgt := 40) dX8_recovery_34 (by decide) rfl (fun c34 => ?_) (fun c34 => ?_)
      · skip
        refine r_aload_n (pc2 := 41) dX8_recovery_40 rfl rfl ?_
        refine r_cv0m (pc2 := 44) dX8_recovery_41 st_X8_recovery_160 rl_X8_putsAside (Nat.le_of_ble_eq_true rfl) rfl (c_X8_putsAside) ?_
        refine r_aload_n (pc2 := 45) dX8_recovery_44 rfl rfl ?_
        refine r_iload_n (pc2 := 46) dX8_recovery_45 rfl rfl ?_
        refine r_iload_n (pc2 := 47) dX8_recovery_46 rfl rfl ?_
        refine r_iconst (pc2 := 48) (nI 3) dX8_recovery_47 (by decide) rfl ?_
        refine r_iconst (pc2 := 49) (nI 0) dX8_recovery_48 (by decide) rfl ?_
        refine r_cv4m (pc2 := 52) dX8_recovery_49 st_X8_recovery_77 rl_X8_sets (Nat.le_of_ble_eq_true rfl) rfl (c_X8_sets (by omega) (by omega) (by decide)) ?_
        refine r_bipush (pc2 := 54) (-4) dX8_recovery_52 (by decide) rfl ?_
        refine r_istore_n (pc2 := 55) dX8_recovery_54 (by decide) rfl rfl ?_
        refine r_iconst (pc2 := 56) (nI 1) dX8_recovery_55 (by decide) rfl ?_
        refine r_istore (pc2 := 58) dX8_recovery_56 (by decide) rfl rfl ?_
        refine Rc_.to (V' := (fun V1 => V1) (lw_ (a_set V 0 35 (fr_ (V 0 34) (V 0 35) 3596)) i j 3 (nI 0))) (lo' := (fun (k : Nat) (V1 : Mm_) => [some (vR 0 33), some (vI (nI i)), some (vI (nI j)), some (vI ((rv_ (lc_ (V 0 37) n (b1_ s 5 i j (nI 0), m)) k))), some (vI (nI ((k + 1)))), none]) 0 (lw_ (a_set V 0 35 (fr_ (V 0 34) (V 0 35) 3596)) i j 3 (nI 0))) (rfl) ⟨rfl, rfl, rfl, (congrArg (fun z => some (vI z)) rv_0), rfl, trivial⟩ ?_
        refine Rc_forI 0 (60) (fun (k : Nat) (V1 : Mm_) => [some (vR 0 33), some (vI (nI i)), some (vI (nI j)), some (vI ((rv_ (lc_ (V 0 37) n (b1_ s 5 i j (nI 0), m)) k))), some (vI (nI ((k + 1)))), none]) (fun V1 => V1) (fun k V1 => sg_ V V1 (b1_ s 5 i j (nI 0), m) n k ∧ True) (by omega) (fun k V1 hk0 hkN hI ih58 => ?_) (lw_ (a_set V 0 35 (fr_ (V 0 34) (V 0 35) 3596)) i j 3 (nI 0)) (⟨sg_lw h hS hJ hn8 (by omega) (by omega) hij (of_decide_eq_true c17), trivial⟩)
        have hct : (b1_ s 5 i j (nI 0)) 15 1 = nI m := by rw [b1_o (by decide)]; exact hJ.ct
        have hok := tn_ok (f := V 0 37) (n := n) (p := (b1_ s 5 i j (nI 0), m)) hn8 hct k
        simp only at hok
        have h37 : V1 0 37 = V 0 37 := hI.1.1 0 37 (by omega)
        have htp := fun hi : k ≤ 240 => tp_ (m := 0) (t := t) (i := k) (n := n) (f := V 0 37) (p0 := (b1_ s 5 i j (nI 0), m)) hn8 hse hct (by show b1_ s 5 i j (nI 0) 0 1 = _; rw [b1_o (by decide)]; exact ht) (by omega)
        have hlc := lc_le (f := V 0 37) (p := (b1_ s 5 i j (nI 0), m)) (k := k) hn8
        refine r_iload (pc2 := 60) dX8_recovery_58 rfl rfl ?_
        refine r_bipush (pc2 := 62) (nI 60) dX8_recovery_60 (by decide) rfl ?_
        refine r_icN_gt (pc2 := 65) (tgt := 110) (by omega) (by omega) dX8_recovery_62 (by decide) rfl (fun c62 => ?_) (fun c62 => ?_)
        · skip
          refine r_aload_n (pc2 := 111) dX8_recovery_110 rfl rfl ?_
          refine r_cv0m (pc2 := 114) dX8_recovery_111 st_X8_recovery_163 rl_X8_putsBack (Nat.le_of_ble_eq_true rfl) rfl (c_X8_putsBack) ?_
          refine r_iload_n (pc2 := 115) dX8_recovery_114 rfl rfl ?_
          exact r_iret dX8_recovery_115 rfl (⟨sg_b hI.1, by rw [if_pos (of_decide_eq_true c17), if_pos ((h.iv.u01 (i * 8 + j) (by omega)).resolve_left c34), ← rv_e, show k = 60 by omega]⟩)
        · skip
          refine r_aload_n (pc2 := 66) dX8_recovery_65 rfl rfl ?_
          refine r_cv0v (pc2 := 69) dX8_recovery_66 st_X8_recovery_142 rl_X8_tick (Nat.le_of_ble_eq_true rfl) rfl (c_X8_tick (V := V1) (m := (tn_ (V 0 37) n k (b1_ s 5 i j (nI 0), m)).2) hI.1.2.2.2.1 hI.1.2.2.2.2.1 hI.1.2.2.2.2.2 (by rw [hI.1.2.1 0 (by decide)]; exact hm) hn1 hn8 (by rw [h37]; exact hse) (htp (by omega)).1 (by rw [h37]; exact (htp (by omega)).2) (by have := hok.2.1; omega)) (fun V66 h66 => ?_)
          have hnx := sg_1 hI.1 h66
          have h37b : V66 0 37 = V 0 37 := hnx.1.1 0 37 (by omega)
          refine r_aload_n (pc2 := 70) dX8_recovery_69 rfl rfl ?_
          refine r_cv0p (pc2 := 73) dX8_recovery_70 st_X8_recovery_170 rl_X8_loops (Nat.le_of_ble_eq_true rfl) rfl (c_X8_loops (V := V66) hnx.1.2.2.2.1 (by rw [hnx.1.2.1 0 (by decide)]; exact hm) hn1 hn8 (by rw [h37b]; exact hse.2.2.1)) ?_
          rw [h37b, lc_eq]
          refine r_if0N_ne (pc2 := 76) (tgt := 80) (by omega) dX8_recovery_73 (by decide) rfl (fun c73 => ?_) (fun c73 => ?_)
          · skip
            refine r_iconst (pc2 := 81) (nI 0) dX8_recovery_80 (by decide) rfl ?_
            refine r_istore (pc2 := 83) dX8_recovery_81 (by decide) rfl rfl ?_
            refine r_iload (pc2 := 85) dX8_recovery_83 rfl rfl ?_
            refine r_if0N_ne (pc2 := 88) (tgt := 93) (by omega) dX8_recovery_85 (by decide) rfl (fun c85 => ?_) (fun c85 => ?_)
            · skip
              exact absurd rfl c85
            · skip
              refine r_bipush (pc2 := 90) (-4) dX8_recovery_88 (by decide) rfl ?_
              refine r_goto (pc2 := 103) dX8_recovery_90 (by decide) ?_
              refine r_istore_n (pc2 := 104) dX8_recovery_103 (by decide) rfl rfl ?_
              refine r_iincN (pc2 := 107) dX8_recovery_104 rfl (by decide) rfl rfl ?_
              refine r_goto (pc2 := 58) dX8_recovery_107 (by decide) ?_
              exact Rc_.to (lo' := [some (vR 0 33), some (vI (nI i)), some (vI (nI j)), some (vI ((rv_ (lc_ (V 0 37) n (b1_ s 5 i j (nI 0), m)) (k + 1)))), some (vI (nI (((k + 1) + 1)))), none]) (rfl) ⟨rfl, rfl, rfl, (congrArg (fun z => some (vI z)) (rv_l c73)), rfl, trivial⟩ (ih58 _ (by omega) (⟨hnx.1, trivial⟩))
          · skip
            refine r_iconst (pc2 := 77) (nI 1) dX8_recovery_76 (by decide) rfl ?_
            refine r_goto (pc2 := 81) dX8_recovery_77 (by decide) ?_
            refine r_istore (pc2 := 83) dX8_recovery_81 (by decide) rfl rfl ?_
            refine r_iload (pc2 := 85) dX8_recovery_83 rfl rfl ?_
            refine r_if0N_ne (pc2 := 88) (tgt := 93) (by omega) dX8_recovery_85 (by decide) rfl (fun c85 => ?_) (fun c85 => ?_)
            · skip
              refine r_iload_n (pc2 := 94) dX8_recovery_93 rfl rfl ?_
              refine r_if_ge (pc2 := 97) (tgt := 102) dX8_recovery_94 (by decide) rfl (fun c94 => ?_) (fun c94 => ?_)
              · skip
                refine r_iload_n (pc2 := 103) dX8_recovery_102 rfl rfl ?_
                refine r_istore_n (pc2 := 104) dX8_recovery_103 (by decide) rfl rfl ?_
                refine r_iincN (pc2 := 107) dX8_recovery_104 rfl (by decide) rfl rfl ?_
                refine r_goto (pc2 := 58) dX8_recovery_107 (by decide) ?_
                exact Rc_.to (lo' := [some (vR 0 33), some (vI (nI i)), some (vI (nI j)), some (vI ((rv_ (lc_ (V 0 37) n (b1_ s 5 i j (nI 0), m)) (k + 1)))), some (vI (nI (((k + 1) + 1)))), none]) (rfl) ⟨rfl, rfl, rfl, (congrArg (fun z => some (vI z)) (by first | exact rv_l c73 | exact rv_g c73 c94 | exact rv_h (by omega) c73 c94)), rfl, trivial⟩ (ih58 _ (by omega) (⟨hnx.1, trivial⟩))
              · skip
                refine r_iload (pc2 := 99) dX8_recovery_97 rfl rfl ?_
                refine r_goto (pc2 := 103) dX8_recovery_99 (by decide) ?_
                refine r_istore_n (pc2 := 104) dX8_recovery_103 (by decide) rfl rfl ?_
                refine r_iincN (pc2 := 107) dX8_recovery_104 rfl (by decide) rfl rfl ?_
                refine r_goto (pc2 := 58) dX8_recovery_107 (by decide) ?_
                exact Rc_.to (lo' := [some (vR 0 33), some (vI (nI i)), some (vI (nI j)), some (vI ((rv_ (lc_ (V 0 37) n (b1_ s 5 i j (nI 0), m)) (k + 1)))), some (vI (nI (((k + 1) + 1)))), none]) (rfl) ⟨rfl, rfl, rfl, (congrArg (fun z => some (vI z)) (by first | exact rv_l c73 | exact rv_g c73 c94 | exact rv_h (by omega) c73 c94)), rfl, trivial⟩ (ih58 _ (by omega) (⟨hnx.1, trivial⟩))
            · skip
              exact absurd c85 (by decide)
      · skip
        refine r_bipush (pc2 := 39) (-2) dX8_recovery_37 (by decide) rfl ?_
        exact r_iret dX8_recovery_39 rfl (⟨rf2_rf, by rw [if_pos (of_decide_eq_true c17), if_neg (by rw [c34]; decide)]⟩)
    · skip
      refine r_bipush (pc2 := 22) (-4) dX8_recovery_20 (by decide) rfl ?_
      exact r_iret dX8_recovery_22 rfl (⟨rf2_rf, by rw [if_neg (of_decide_eq_false c17)]⟩)
  · skip
    exact absurd c6 (by decide)
