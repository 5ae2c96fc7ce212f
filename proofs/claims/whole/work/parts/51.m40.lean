/-! both: calls that change: written by wip/whole/m40.py -/
theorem SE_.set {f : Nat → Int32} {k : Nat} {x : Int32} (h : SE_ f) (hk : k < 4 ∨ (6 ≤ k ∧ k < 10)) (h1 : st_L k ≤ x) (h2 : x ≤ st_M k) : SE_ (upd f k x) := by
  have i20 : (20 : Int32).toInt = 20 := by decide
  have i100 : (100 : Int32).toInt = 100 := by decide
  have i1 : (1 : Int32).toInt = 1 := by decide
  obtain rfl | rfl | rfl | rfl | rfl | rfl | rfl | rfl : k = 0 ∨ k = 1 ∨ k = 2 ∨ k = 3 ∨ k = 6 ∨ k = 7 ∨ k = 8 ∨ k = 9 := by omega
  · have g1 : (1 : Int32) ≤ x := h1
    have g2 : x ≤ (20 : Int32) := h2
    have g : 0 < x ∧ x ≤ 20 := by simp only [Int32.lt_iff_toInt_lt, Int32.le_iff_toInt_le, i_0, i1, i20] at g1 g2 ⊢; omega
    exact ⟨g, h.2.1, h.2.2.1, h.2.2.2.1, h.2.2.2.2⟩
  · have g1 : (1 : Int32) ≤ x := h1
    have g2 : x ≤ (100 : Int32) := h2
    have g : 0 < x ∧ x ≤ 100 := by simp only [Int32.lt_iff_toInt_lt, Int32.le_iff_toInt_le, i_0, i1, i100] at g1 g2 ⊢; omega
    exact ⟨h.1, g, h.2.2.1, h.2.2.2.1, h.2.2.2.2⟩
  · obtain ⟨w, hw, rfl⟩ := ix_ (N := 2) (by decide) (show nI 0 ≤ x from h1) (show x ≤ nI 2 from h2)
    have g : ru_ (nI w) := by
      obtain rfl | rfl | rfl : w = 0 ∨ w = 1 ∨ w = 2 := by omega
      · exact Or.inl rfl
      · exact Or.inr (Or.inl rfl)
      · exact Or.inr (Or.inr rfl)
    exact ⟨h.1, h.2.1, g, h.2.2.2.1, h.2.2.2.2⟩
  · exact ⟨h.1, h.2.1, h.2.2.1, h.2.2.2.1, h.2.2.2.2⟩
  · have g1 : (100 : Int32) ≤ x := h1
    have g2 : x ≤ (30000 : Int32) := h2
    have g : 0 ≤ x ∧ x ≤ 30000 := by simp only [Int32.lt_iff_toInt_lt, Int32.le_iff_toInt_le, i_0, i100, i_3] at g1 g2 ⊢; omega
    exact ⟨h.1, h.2.1, h.2.2.1, g, h.2.2.2.2⟩
  · exact ⟨h.1, h.2.1, h.2.2.1, h.2.2.2.1, h.2.2.2.2⟩
  · have g1 : (1 : Int32) ≤ x := h1
    have g : nI 0 < x := by show (0 : Int32) < x; simp only [Int32.lt_iff_toInt_lt, Int32.le_iff_toInt_le, i_0, i1] at g1 ⊢; omega
    exact ⟨h.1, h.2.1, h.2.2.1, h.2.2.2.1, g⟩
  · exact ⟨h.1, h.2.1, h.2.2.1, h.2.2.2.1, h.2.2.2.2⟩
theorem cs_set {PL : List (Nat × Nat)} {V : Mm_} {n u : Nat} (hu : u < 512) (hL : LV_ V n u) {a x : Int32} : Cs_ PL mX7_set mX8_set [vI a, vI x] V u := by
  obtain ⟨h1, hn8, h33, h37, hse, hlh, ⟨hn, hRT, hRS, ⟨m, hRJ, hm⟩, ⟨t, ht, ht5⟩, hc, hw⟩, bs, hb1, hb2, hb3⟩ := id hL
  by_cases h : ((nI 0 ≤ a ∧ a ≤ nI 3) ∨ (nI 6 ≤ a ∧ a ≤ nI 9)) ∧ st_L a.toNatClampNeg ≤ x ∧ x ≤ st_M a.toNatClampNeg
  · obtain ⟨k, hk, rfl⟩ : ∃ k, (k < 4 ∨ (6 ≤ k ∧ k < 10)) ∧ a = nI k := by
      rcases h.1 with q | q
      · obtain ⟨k, hk, rfl⟩ := ix_ (by decide) q.1 q.2
        exact ⟨k, Or.inl (by omega), rfl⟩
      · obtain ⟨k, hk, hk2, rfl⟩ := ix2_ (by decide) (by decide) q.1 q.2
        exact ⟨k, Or.inr ⟨hk, by omega⟩, rfl⟩
    rw [nI_clamp (by omega)] at h
    refine Cs_.b (c_X7_set_ok hk h.2.1 h.2.2) ?_
    rintro r V1 ⟨rfl, rfl⟩
    have hlh1 : LH_ (m_set V 0 19 k x) := fun q hq => by rw [m_ne (by decide), m_ne (by decide)]; exact hlh q hq
    refine ci_q (c_X8_set_ok hlh1 hk h.2.1 h.2.2) ?_
    rintro r V2 ⟨rfl, rfl⟩
    refine ⟨by rw [m_ne (by decide), h37], n, h1, hn8, ?_, ?_, ?_, ?_, ?_, bs, ?_, ?_, ?_⟩
    · rw [m_ne (by decide), m_ne (by decide)]; exact h33
    · show a_set _ 0 37 _ 0 37 = _
      rw [a_same, m_ne (by decide), m_ne (by decide)]
      show _ = a_set V 0 19 _ 0 19
      rw [a_same, h37]
    · show SE_ (a_set _ 0 37 _ 0 37)
      rw [a_same, m_ne (by decide)]
      exact hse.set hk h.2.1 h.2.2
    · intro q hq
      rw [m_ne (by decide), m_ne (by decide)]
      exact hlh1 q hq
    · have e : m_set (m_set V 0 19 k x) 0 37 k x 1 = V 1 := by rw [show m_set (m_set V 0 19 k x) 0 37 k x 1 = m_set V 0 19 k x 1 from ag_ne (by decide)]; exact ag_ne (by decide)
      rw [e, m_ne (by decide), m_ne (by decide)]
      exact LS_.up ⟨hn, hRT, hRS, ⟨m, hRJ, hm⟩, ⟨t, ht, ht5⟩, hc, hw⟩ (Nat.le_succ u)
    · rw [m_ne (by decide), m_ne (by decide)]; exact hb1
    · rw [m_ne (by decide), m_ne (by decide)]; exact hb2
    · have e : m_set (m_set V 0 19 k x) 0 37 k x 2 = V 2 := by rw [show m_set (m_set V 0 19 k x) 0 37 k x 2 = m_set V 0 19 k x 2 from ag_ne (by decide)]; exact ag_ne (by decide)
      rw [e, m_ne (by decide), m_ne (by decide)]
      exact fun z => (hb3 z).up (Nat.le_succ u)
  · exact Cs_.p hL (c_X7_set_bad h) (c_X8_set_bad hlh h)
theorem cs_run {PL : List (Nat × Nat)} {V : Mm_} {n u : Nat} (hu : u < 512) (hL : LV_ V n u) {x : Int32} : Cs_ PL mX7_run mX8_run [vI x] V u := by
  obtain ⟨h1, hn8, h33, h37, hse, hlh, ⟨hn, hRT, hRS, ⟨m, hRJ, hm⟩, ⟨t, ht, ht5⟩, hc, hw⟩, bs, hb1, hb2, hb3⟩ := id hL
  by_cases h : nI 1 ≤ x ∧ x ≤ nI 200
  · obtain ⟨k, hk1, hk2, rfl⟩ := ix2_ (by decide) (by decide) h.1 h.2
    refine Cs_.b (c_X7_run_ok hn hn8 hk1 hk2 ht ht5 hRJ.ct (by omega)) ?_
    intro x V1 hx
    by_cases z : 100000 < t + k
    · rw [if_pos z] at hx
      obtain ⟨rfl, rfl⟩ := hx
      refine ci_q (c_X8_run_ok hRT hRS hRJ h33 h1 hn8 hse ht ht5 (by omega) hk1 hk2) ?_
      intro x2 V2 hx2
      rw [if_pos z] at hx2
      obtain ⟨rfl, rfl⟩ := hx2
      exact ⟨rfl, n, hL.up⟩
    · rw [if_neg z] at hx
      obtain ⟨rfl, e1, e2⟩ := hx
      have o : ∀ r, ¬ (20 ≤ r ∧ r ≤ 32) → V1 0 r = V 0 r := fun r hr => e2 0 r (by decide) (fun q => hr q.2)
      refine ci_q (c_X8_run_ok (V := V1) (s := V 1) (by rw [o 34 (by omega)]; exact hRT) (by rw [o 34 (by omega)]; exact hRS) (by rw [o 34 (by omega)]; exact hRJ) (by rw [o 33 (by omega)]; exact h33) h1 hn8 (by rw [o 37 (by omega)]; exact hse) ht ht5 (by omega) hk1 hk2) ?_
      intro x2 V2 hx2
      rw [if_neg z] at hx2
      obtain ⟨rfl, f1, f2, f3, f4, f5⟩ := hx2
      rw [o 37 (by omega), h37] at f3 f4 f5
      have eV : V2 1 = (tn_ (V 0 19) n k (V 1, m)).1 := by rw [← e1]; funext r; exact f1 1 r (by omega)
      have e2' : V2 2 = V 2 := by
        funext r
        rw [f1 2 r (by omega)]
        exact e2 2 r (by decide) (by omega)
      have o2 : ∀ r, ¬ (20 ≤ r ∧ r ≤ 34) → ¬ (40 ≤ r ∧ r ≤ 43) → V2 0 r = V 0 r := fun r hr hr2 => (f1 0 r (by omega)).trans (o r (by omega))
      have hok := tn_ok (f := V 0 19) (n := n) (p := (V 1, m)) hn8 hRJ.ct k
      simp only at hok
      have hik := IK_.tn (f := V 0 19) (n := n) (p := (V 1, m)) ⟨hRT.iv, hw⟩ hn8 (by rw [← h37]; exact hse.2.2.2.1) k
      refine ⟨rfl, n, h1, hn8, ?_, ?_, ?_, ?_, ?_, bs, ?_, ?_, ?_⟩
      · rw [f2 0 (by decide), o 33 (by omega)]; exact h33
      · rw [o2 37 (by omega) (by omega), o2 19 (by omega) (by omega)]; exact h37
      · rw [o2 37 (by omega) (by omega)]; exact hse
      · intro q hq
        rw [o2 38 (by omega) (by omega), o2 39 (by omega) (by omega)]
        exact hlh q hq
      · rw [eV]
        refine ⟨hok.2.2.1.trans hn, f3, f4, ⟨_, f5, by omega⟩, ⟨t + k, by rw [hok.2.2.2, ht, nI_add], by omega⟩, ?_, hik.1.2⟩
        rw [hik.2]
        exact ⟨by have := hc.1; show _ ≤ (V 1 1 0).toInt; omega, hc.2⟩
      · rw [f2 4 (by decide), o 33 (by omega)]; exact hb1
      · rw [o2 18 (by omega) (by omega)]; exact hb2
      · rw [o2 36 (by omega) (by omega), e2']
        exact fun z => (hb3 z).up (Nat.le_succ u)
  · exact Cs_.p hL (c_X7_run_bad h) (c_X8_run_bad h)
theorem cs_reset {PL : List (Nat × Nat)} {V : Mm_} {n u : Nat} (hu : u < 512) (hL : LV_ V n u) {x : Int32} : Cs_ PL mX7_reset mX8_reset [vI x] V u := by
  obtain ⟨h1, hn8, h33, h37, hse, hlh, ⟨hn, hRT, hRS, ⟨m, hRJ, hm⟩, ⟨t, ht, ht5⟩, hc, hw⟩, bs, hb1, hb2, hb3⟩ := id hL
  by_cases h : nI 2 ≤ x ∧ x ≤ nI 8
  · obtain ⟨k, hk1, hk2, rfl⟩ := ix2_ (by decide) (by decide) h.1 h.2
    refine Cs_.b (c_X7_reset_ok h) ?_
    rintro r V1 ⟨rfl, rfl⟩
    refine ci_q (c_X8_reset_ok h) ?_
    rintro r V2 ⟨rfl, rfl⟩
    have e0 : ∀ r, sa_ V 1 (nI k) 0 r = V 0 r := fun r => congrFun (sa_ne (by decide)) r
    have e2 : sa_ V 1 (nI k) 2 = V 2 := sa_ne (by decide)
    obtain ⟨W, hW⟩ : ∃ W, W = m_set (a_set (m_set (m_set (sa_ V 1 (nI k)) 0 18 7 (nI 0)) 0 33 0 (nI k)) 0 34 (fr_ be_ (m_set (sa_ V 1 (nI k)) 0 18 7 (nI 0) 0 34) 3596)) 0 33 4 (nI 0) := ⟨_, rfl⟩
    have w1 : W 1 = sa_ V 1 (nI k) 1 := by
      rw [hW]
      funext r
      rw [m_ne (by omega), a_ne (by omega), m_ne (by omega), m_ne (by omega)]
    have w0 : ∀ r, ¬ r = 18 → ¬ r = 33 → ¬ r = 34 → W 0 r = V 0 r := by
      intro r a b c
      rw [hW, m_ne (by omega), a_ne (by omega), m_ne (by omega), m_ne (by omega), e0]
    have w34 : ∀ q, q < 3596 → W 0 34 q = be_ q := by
      intro q hq
      rw [hW, m_ne (by decide), a_same, fr_in hq]
    have w33 : W 0 33 0 = nI k ∧ W 0 33 4 = nI 0 := by
      rw [hW]
      refine ⟨?_, m_j rfl⟩
      rw [m_i (by decide), a_ne (by decide), m_j rfl]
    have w18 : W 0 18 7 = nI 0 := by rw [hW, m_ne (by decide), a_ne (by decide), m_ne (by decide), m_j rfl]
    rw [← hW]
    have sz := sa_0 (V := V) (g := 1) (x := nI k)
    refine ⟨by rw [m_ne (by decide), e0, h33, hn], k, hk1, hk2, w33.1, ?_, ?_, ?_, ?_, false, w33.2, w18, fun z => absurd z (by decide)⟩
    · rw [w0 37 (by decide) (by decide) (by decide), w0 19 (by decide) (by decide) (by decide)]; exact h37
    · rw [w0 37 (by decide) (by decide) (by decide)]; exact hse
    · intro q hq
      rw [w0 38 (by decide) (by decide) (by decide), w0 39 (by decide) (by decide) (by decide)]
      exact hlh q hq
    · rw [w1]
      exact ⟨sz.1, be_RT w34, be_RS hk2 w34, ⟨0, be_RJ w34, Nat.zero_le _⟩, ⟨0, sz.2.1, Nat.zero_le _⟩, by rw [sz.2.2, show (nI 0).toInt = 0 by decide]; omega, IW_.sa⟩
  · exact Cs_.p hL (c_X7_reset_bad h) (c_X8_reset_bad h)
/-- a change of the network on both sides -/
theorem LV_.net {V W : Mm_} {n u : Nat} {s : Sg_} (hL : LV_ V n u) (w0 : ∀ r, ¬ r = 34 → W 0 r = V 0 r) (w2 : W 2 = V 2) (w1 : W 1 = s) (hs0 : s 0 = V 1 0) (h13 : ∀ r, 13 ≤ r → s r = V 1 r) (hx : ∀ q, 3328 ≤ q → q < 3593 → W 0 34 q = V 0 34 q) (hRT : RT_ (W 0 34) s) (hc : -((u + 1 : Nat) : Int) ≤ (s 1 0).toInt ∧ (s 1 0).toInt ≤ 16) (hw : IW_ s) : LV_ W n (u + 1) := by
  obtain ⟨h1, hn8, h33, h37, hse, hlh, ⟨hn, hRT0, hRS, ⟨m, hRJ, hm⟩, ⟨t, ht, ht5⟩, hc0, hw0⟩, bs, hb1, hb2, hb3⟩ := hL
  refine ⟨h1, hn8, by rw [w0 33 (by decide)]; exact h33, by rw [w0 37 (by decide), w0 19 (by decide)]; exact h37, by rw [w0 37 (by decide)]; exact hse, ?_, ?_, bs, by rw [w0 33 (by decide)]; exact hb1, by rw [w0 18 (by decide)]; exact hb2, ?_⟩
  · intro q hq
    rw [w0 38 (by decide), w0 39 (by decide)]
    exact hlh q hq
  · rw [w1]
    refine ⟨by rw [hs0]; exact hn, hRT, hRS.cong hn8 (fun q a b => hx q a (by omega)) (fun k _ => by rw [h13 13 (by decide)]) (fun k _ => by rw [h13 14 (by decide)]), ⟨m, hRJ.cong (fun q a b => hx q (by omega) b) (h13 15 (by decide)) (h13 16 (by decide)), by omega⟩, ⟨t, by rw [hs0]; exact ht, ht5⟩, hc, hw⟩
  · rw [w0 36 (by decide), w2]
    exact fun z => (hb3 z).up (Nat.le_succ u)
theorem bz_0 {V : Mm_} {r i j g' r' : Nat} {x : Int32} (h : ¬ g' = 1) : b_set V 1 r i j x g' r' = V g' r' := by
  unfold b_set
  rw [m_ne (by omega), m_ne (by omega)]
theorem cs_setCost {PL : List (Nat × Nat)} {V : Mm_} {n u : Nat} (hu : u < 512) (hL : LV_ V n u) {a b x : Int32} : Cs_ PL mX7_setCost mX8_setCost [vI a, vI b, vI x] V u := by
  obtain ⟨h1, hn8, h33, h37, hse, hlh, ⟨hn, hRT, hRS, ⟨m, hRJ, hm⟩, ⟨t, ht, ht5⟩, hc, hw⟩, bs, hb1, hb2, hb3⟩ := id hL
  by_cases h : pr_ok (nI n) a b ∧ nI 1 ≤ x ∧ x ≤ nI 500
  · obtain ⟨i, j, hi, hj, hij, rfl, rfl⟩ := pr_of hn8 h.1
    refine Cs_.b (c_X7_setCost_ok hn hn8 hi hj hij h.2.1 h.2.2) ?_
    intro r V1 hx
    by_cases z : 0 < V 1 2 (i * 8 + j)
    · rw [if_pos z] at hx
      by_cases z2 : V 1 2 (i * 8 + j) ≤ x ∧ x ≤ V 1 3 (i * 8 + j)
      · rw [if_pos z2] at hx
        obtain ⟨rfl, rfl⟩ := hx
        refine ci_q (c_X8_setCost_ok (V := b_set V 1 4 i j x) (s := V 1) (by rw [bz_0 (by decide)]; exact hRT) (by rw [bz_0 (by decide)]; exact h33) h1 hn8 hi hj hij h.2.1 h.2.2) ?_
        intro r2 V2 hx2
        rw [if_pos z, if_pos z2] at hx2
        obtain ⟨rfl, rfl⟩ := hx2
        have hb : 0 ≤ x ∧ x ≤ 500 := by
          have q1 := h.2.1
          have q2 := h.2.2
          have i1 : (nI 1).toInt = 1 := by decide
          have i5 : (nI 500).toInt = 500 := by decide
          have i6 : (500 : Int32).toInt = 500 := by decide
          simp only [Int32.le_iff_toInt_le, i_0, i1, i5, i6] at q1 q2 ⊢
          omega
        refine ⟨rfl, n, hL.net (s := b1_ (V 1) 4 i j x) (fun r hr => by rw [lw_ne (by omega), bz_0 (by decide)]) ?_ ?_ (b1_o (by decide)) (fun r hr => b1_o (by omega)) (fun q h3 h4 => by rw [lw_far (by omega) (by omega) (by decide) (by omega), bz_0 (by decide)]) (RT_.b1 (w := 2) (by rw [bz_0 (by decide)]; exact hRT) (by omega) (by omega) (by decide) (hRT.iv.b4 hb)) (by rw [b1_o (by decide)]; exact ⟨by have := hc.1; omega, hc.2⟩) hw.b4⟩
        · funext r; rw [lw_ne (by omega), bz_0 (by decide)]
        · rw [← b1_eq]; funext r; rw [lw_ne (by omega)]
      · rw [if_neg z2] at hx
        obtain ⟨rfl, rfl⟩ := hx
        refine ci_q (c_X8_setCost_ok hRT h33 h1 hn8 hi hj hij h.2.1 h.2.2) ?_
        intro r2 V2 hx2
        rw [if_pos z, if_neg z2] at hx2
        obtain ⟨rfl, rfl⟩ := hx2
        exact ⟨rfl, n, hL.up⟩
    · rw [if_neg z] at hx
      obtain ⟨rfl, rfl⟩ := hx
      refine ci_q (c_X8_setCost_ok hRT h33 h1 hn8 hi hj hij h.2.1 h.2.2) ?_
      intro r2 V2 hx2
      rw [if_neg z] at hx2
      obtain ⟨rfl, rfl⟩ := hx2
      exact ⟨rfl, n, hL.up⟩
  · exact Cs_.p hL (c_X7_setCost_bad hn hn8 h) (c_X8_setCost_bad h33 h1 hn8 h)
theorem cs_setUp {PL : List (Nat × Nat)} {V : Mm_} {n u : Nat} (hu : u < 512) (hL : LV_ V n u) {a b x : Int32} : Cs_ PL mX7_setUp mX8_setUp [vI a, vI b, vI x] V u := by
  obtain ⟨h1, hn8, h33, h37, hse, hlh, ⟨hn, hRT, hRS, ⟨m, hRJ, hm⟩, ⟨t, ht, ht5⟩, hc, hw⟩, bs, hb1, hb2, hb3⟩ := id hL
  by_cases h : pr_ok (nI n) a b ∧ nI 0 ≤ x ∧ x ≤ nI 1
  · obtain ⟨i, j, hi, hj, hij, rfl, rfl⟩ := pr_of hn8 h.1
    have hx01 : x = nI 0 ∨ x = nI 1 := by
      obtain ⟨w, hw1, rfl⟩ := ix_ (by decide) h.2.1 h.2.2
      obtain rfl | rfl : w = 0 ∨ w = 1 := by omega
      · exact Or.inl rfl
      · exact Or.inr rfl
    refine Cs_.b (c_X7_setUp_ok hn hn8 hi hj hij h.2) ?_
    intro r V1 hx
    by_cases z : 0 < V 1 2 (i * 8 + j)
    · rw [if_pos z] at hx
      obtain ⟨rfl, rfl⟩ := hx
      refine ci_q (c_X8_setUp_ok (V := b_set V 1 5 i j x) (s := V 1) (by rw [bz_0 (by decide)]; exact hRT) (by rw [bz_0 (by decide)]; exact h33) h1 hn8 hi hj hij h.2) ?_
      intro r2 V2 hx2
      rw [if_pos z] at hx2
      obtain ⟨rfl, rfl⟩ := hx2
      refine ⟨rfl, n, hL.net (s := b1_ (V 1) 5 i j x) (fun r hr => by rw [lw_ne (by omega), bz_0 (by decide)]) ?_ ?_ (b1_o (by decide)) (fun r hr => b1_o (by omega)) (fun q h3 h4 => by rw [lw_far (by omega) (by omega) (by decide) (by omega), bz_0 (by decide)]) (RT_.b1 (w := 3) (by rw [bz_0 (by decide)]; exact hRT) (by omega) (by omega) (by decide) (hRT.iv.b5 (by omega) (by omega) hij z hx01)) (by rw [b1_o (by decide)]; exact ⟨by have := hc.1; omega, hc.2⟩) (hw.b5 (by omega) (by omega))⟩
      · funext r; rw [lw_ne (by omega), bz_0 (by decide)]
      · rw [← b1_eq]; funext r; rw [lw_ne (by omega)]
    · rw [if_neg z] at hx
      obtain ⟨rfl, rfl⟩ := hx
      refine ci_q (c_X8_setUp_ok hRT h33 h1 hn8 hi hj hij h.2) ?_
      intro r2 V2 hx2
      rw [if_neg z] at hx2
      obtain ⟨rfl, rfl⟩ := hx2
      exact ⟨rfl, n, hL.up⟩
  · exact Cs_.p hL (c_X7_setUp_bad hn hn8 h) (c_X8_setUp_bad h33 h1 hn8 h)
theorem cs_addLink {PL : List (Nat × Nat)} {V : Mm_} {n u : Nat} (hu : u < 512) (hL : LV_ V n u) {a b lo up : Int32} : Cs_ PL mX7_addLink mX8_addLink [vI a, vI b, vI lo, vI up] V u := by
  obtain ⟨h1, hn8, h33, h37, hse, hlh, ⟨hn, hRT, hRS, ⟨m, hRJ, hm⟩, ⟨t, ht, ht5⟩, hc, hw⟩, bs, hb1, hb2, hb3⟩ := id hL
  by_cases h : pr_ok (nI n) a b ∧ nI 1 ≤ lo ∧ lo ≤ up ∧ up ≤ nI 500
  · obtain ⟨i, j, hi, hj, hij, rfl, rfl⟩ := pr_of hn8 h.1
    have hlo : nI 1 ≤ lo ∧ lo ≤ nI 500 := ⟨h.2.1, Int32.le_trans h.2.2.1 h.2.2.2⟩
    have i16 : (nI 16).toInt = 16 := by decide
    have i1 : (nI 1).toInt = 1 := by decide
    refine Cs_.b (c_X7_addLink_ok hn hn8 hi hj hij h.2.1 h.2.2.1 h.2.2.2) ?_
    intro r V1 hx
    by_cases z : 0 < V 1 2 (i * 8 + j)
    · rw [if_pos z] at hx
      obtain ⟨rfl, rfl⟩ := hx
      refine ci_q (c_X8_addLink_ok hRT h33 h1 hn8 hi hj hij hlo h.2.2) ?_
      intro r2 V2 hx2
      rw [if_pos z] at hx2
      obtain ⟨rfl, rfl⟩ := hx2
      exact ⟨rfl, n, hL.up⟩
    · rw [if_neg z] at hx
      by_cases z2 : nI 16 ≤ V 1 1 0
      · have z3 : V 1 1 0 = nI 16 := by
          rw [Int32.le_iff_toInt_le, i16] at z2
          exact Int32.toInt_inj.mp (by rw [i16]; have := hc.2; omega)
        rw [if_pos z2] at hx
        obtain ⟨rfl, rfl⟩ := hx
        refine ci_q (c_X8_addLink_ok hRT h33 h1 hn8 hi hj hij hlo h.2.2) ?_
        intro r2 V2 hx2
        rw [if_neg z, if_pos z3] at hx2
        obtain ⟨rfl, rfl⟩ := hx2
        exact ⟨rfl, n, hL.up⟩
      · have z3 : ¬ V 1 1 0 = nI 16 := fun q => z2 (by rw [q]; exact i_rf)
        rw [if_neg z2] at hx
        obtain ⟨rfl, hV1⟩ := hx
        have o1 : ∀ g r, ¬ g = 1 → V1 g r = V g r := fun g r hg => by rw [hV1]; rw [m_ne (by omega), bz_0 (by omega), bz_0 (by omega), bz_0 (by omega), bz_0 (by omega)]
        refine ci_q (c_X8_addLink_ok (V := V1) (s := V 1) (by rw [o1 0 34 (by decide)]; exact hRT) (by rw [o1 0 33 (by decide)]; exact h33) h1 hn8 hi hj hij hlo h.2.2) ?_
        intro r2 V2 hx2
        rw [if_neg z, if_neg z3] at hx2
        obtain ⟨rfl, hV2⟩ := hx2
        have o2 : ∀ g r, ¬ (g = 0 ∧ r = 34) → V2 g r = V1 g r := fun g r hg => by rw [hV2, m_ne hg, lw_ne hg, lw_ne hg, lw_ne hg, lw_ne hg]
        have hct : (V 1 1 0 + nI 1).toInt = (V 1 1 0).toInt + 1 := by
          rw [Int32.toInt_add, i1]
          exact Int.bmod_eq_of_le (by have := hc.1; omega) (by have := hc.2; omega)
        refine ⟨rfl, n, hL.net (s := p4_ (V 1) i j lo up lo (nI 1) (V 1 1 0 + nI 1)) (fun r hr => by rw [o2 0 r (by omega), o1 0 r (by decide)]) ?_ ?_ (p4_o (by decide)) (fun r hr => p4_o (by omega)) (fun q h3 h4 => ?_) ?_ ?_ (hw.p4 (by omega) (by omega) h.2.2.1)⟩
        · funext r; rw [o2 2 r (by omega), o1 2 r (by decide)]
        · rw [← p4_eq, ← hV1]; funext r; exact o2 1 r (by omega)
        · rw [hV2, m_i (by omega), lw_far (by omega) (by omega) (by decide) (by omega), lw_far (by omega) (by omega) (by decide) (by omega), lw_far (by omega) (by omega) (by decide) (by omega), lw_far (by omega) (by omega) (by decide) (by omega), o1 0 34 (by decide)]
        · rw [hV2]
          exact RT_.add (by rw [o1 0 34 (by decide)]; exact hRT) (by omega) (by omega) hij hlo h.2.2
        · rw [p4_1, hct]
          rw [Int32.le_iff_toInt_le, i16] at z2
          have := hc.1
          have := hc.2
          omega
  · exact Cs_.p hL (c_X7_addLink_bad hn hn8 h) (c_X8_addLink_bad h33 h1 hn8 (fun q => h ⟨q.1, q.2.1.1, q.2.2.1, q.2.2.2⟩))
theorem cs_removeLink {PL : List (Nat × Nat)} {V : Mm_} {n u : Nat} (hu : u < 512) (hL : LV_ V n u) {a b : Int32} : Cs_ PL mX7_removeLink mX8_removeLink [vI a, vI b] V u := by
  obtain ⟨h1, hn8, h33, h37, hse, hlh, ⟨hn, hRT, hRS, ⟨m, hRJ, hm⟩, ⟨t, ht, ht5⟩, hc, hw⟩, bs, hb1, hb2, hb3⟩ := id hL
  by_cases h : pr_ok (nI n) a b
  · obtain ⟨i, j, hi, hj, hij, rfl, rfl⟩ := pr_of hn8 h
    have i1 : (nI 1).toInt = 1 := by decide
    refine Cs_.b (c_X7_removeLink_ok hn hn8 hi hj hij) ?_
    intro r V1 hx
    by_cases z : 0 < V 1 2 (i * 8 + j)
    · rw [if_pos z] at hx
      obtain ⟨rfl, hV1⟩ := hx
      have o1 : ∀ g r, ¬ g = 1 → V1 g r = V g r := fun g r hg => by rw [hV1]; rw [m_ne (by omega), bz_0 (by omega), bz_0 (by omega), bz_0 (by omega), bz_0 (by omega)]
      refine ci_q (c_X8_removeLink_ok (V := V1) (s := V 1) (by rw [o1 0 34 (by decide)]; exact hRT) (by rw [o1 0 33 (by decide)]; exact h33) h1 hn8 hi hj hij) ?_
      intro r2 V2 hx2
      rw [if_pos z] at hx2
      obtain ⟨rfl, hV2⟩ := hx2
      have o2 : ∀ g r, ¬ (g = 0 ∧ r = 34) → V2 g r = V1 g r := fun g r hg => by rw [hV2, m_ne hg, lz_ne hg]
      have hct : (V 1 1 0 - nI 1).toInt = (V 1 1 0).toInt - 1 := by
        rw [Int32.toInt_sub, i1]
        exact Int.bmod_eq_of_le (by have := hc.1; omega) (by have := hc.2; omega)
      refine ⟨rfl, n, hL.net (s := p4_ (V 1) i j (nI 0) (nI 0) (nI 0) (nI 0) (V 1 1 0 - nI 1)) (fun r hr => by rw [o2 0 r (by omega), o1 0 r (by decide)]) ?_ ?_ (p4_o (by decide)) (fun r hr => p4_o (by omega)) (fun q h3 h4 => ?_) ?_ ?_ (hw.p4 (by omega) (by omega) i_rf)⟩
      · funext r; rw [o2 2 r (by omega), o1 2 r (by decide)]
      · rw [← p4_eq, ← hV1]; funext r; exact o2 1 r (by omega)
      · rw [hV2, m_i (by omega), lz_far (by omega) (by omega) (by omega) 4 (by omega), o1 0 34 (by decide)]
      · rw [hV2]
        exact RT_.rem (by rw [o1 0 34 (by decide)]; exact hRT) (by omega) (by omega) hij
      · rw [p4_1, hct]
        have := hc.1
        have := hc.2
        omega
    · rw [if_neg z] at hx
      obtain ⟨rfl, rfl⟩ := hx
      refine ci_q (c_X8_removeLink_ok hRT h33 h1 hn8 hi hj hij) ?_
      intro r2 V2 hx2
      rw [if_neg z] at hx2
      obtain ⟨rfl, rfl⟩ := hx2
      exact ⟨rfl, n, hL.up⟩
  · exact Cs_.p hL (c_X7_removeLink_bad hn hn8 h) (c_X8_removeLink_bad h33 h1 hn8 h)
theorem cs_store {PL : List (Nat × Nat)} {V : Mm_} {n u : Nat} (hu : u < 512) (hL : LV_ V n u) : Cs_ PL mX7_store mX8_store [] V u := by
  obtain ⟨h1, hn8, h33, h37, hse, hlh, ⟨hn, hRT, hRS, ⟨m, hRJ, hm⟩, ⟨t, ht, ht5⟩, hc, hw⟩, bs, hb1, hb2, hb3⟩ := id hL
  refine Cs_.b c_X7_store ?_
  rintro r V1 ⟨rfl, hV1⟩
  have o1 : ∀ r, ¬ r = 18 → V1 0 r = V 0 r := fun r hr => by rw [hV1, m_ne (by omega)]; exact congrFun (cf_ne (by decide)) r
  have v1 : V1 1 = V 1 := by rw [hV1]; funext r; rw [m_ne (by omega)]; exact congrFun (cf_ne (by decide)) r
  have v2 : V1 2 = cf_ V 2 1 2 := by rw [hV1]; funext r; rw [m_ne (by omega)]
  have v18 : V1 0 18 7 = nI 1 := by rw [hV1, m_j rfl]
  refine ci_q c_X8_store ?_
  rintro r V2 ⟨rfl, hV2⟩
  have o2 : ∀ g r, ¬ (g = 0 ∧ (r = 33 ∨ r = 36)) → V2 g r = V1 g r := fun g r hg => by rw [hV2, m_ne (by omega), a_ne (by omega)]
  have w1 : V2 1 = V 1 := by rw [← v1]; funext r; exact o2 1 r (by omega)
  have w2 : V2 2 = cf_ V 2 1 2 := by rw [← v2]; funext r; exact o2 2 r (by omega)
  have w36 : ∀ q, q < 3596 → V2 0 36 q = V 0 34 q := fun q hq => by rw [hV2, m_ne (by decide), a_same, fr_in hq, o1 34 (by decide)]
  refine ⟨by rw [o1 34 (by decide)]; exact hRT.tm, n, h1, hn8, ?_, ?_, ?_, ?_, ?_, true, ?_, ?_, fun _ => ?_⟩
  · rw [hV2, m_i (by decide), a_ne (by decide), o1 33 (by decide)]; exact h33
  · rw [o2 0 37 (by decide), o2 0 19 (by decide), o1 37 (by decide), o1 19 (by decide)]; exact h37
  · rw [o2 0 37 (by decide), o1 37 (by decide)]; exact hse
  · intro q hq
    rw [o2 0 38 (by decide), o2 0 39 (by decide), o1 38 (by decide), o1 39 (by decide)]
    exact hlh q hq
  · rw [w1, o2 0 34 (by decide), o1 34 (by decide)]
    exact LS_.up ⟨hn, hRT, hRS, ⟨m, hRJ, hm⟩, ⟨t, ht, ht5⟩, hc, hw⟩ (Nat.le_succ u)
  · rw [hV2, m_j rfl]; rfl
  · rw [o2 0 18 (by decide), v18]; rfl
  · rw [w2]
    exact (LS_.up ⟨hn, hRT, hRS, ⟨m, hRJ, hm⟩, ⟨t, ht, ht5⟩, hc, hw⟩ (Nat.le_succ u)).below hn8 w36 eqb_cf
theorem cs_recall {PL : List (Nat × Nat)} {V : Mm_} {n u : Nat} (hu : u < 512) (hL : LV_ V n u) : Cs_ PL mX7_recall mX8_recall [] V u := by
  obtain ⟨h1, hn8, h33, h37, hse, hlh, ⟨hn, hRT, hRS, ⟨m, hRJ, hm⟩, ⟨t, ht, ht5⟩, hc, hw⟩, bs, hb1, hb2, hb3⟩ := id hL
  refine Cs_.b (c_X7_recall hb2) ?_
  intro r V1 hx
  cases bs with
  | false =>
    rw [if_neg (by decide)] at hx
    obtain ⟨rfl, rfl⟩ := hx
    refine ci_q (c_X8_recall hb1) ?_
    intro r2 V2 hx2
    rw [if_neg (by decide)] at hx2
    obtain ⟨rfl, rfl⟩ := hx2
    exact ⟨rfl, n, hL.up⟩
  | true =>
    rw [if_pos rfl] at hx
    obtain ⟨rfl, hV1⟩ := hx
    have hst := hb3 rfl
    have o1 : ∀ g, ¬ g = 1 → V1 g = V g := fun g hg => by rw [hV1]; exact cf_ne hg
    have v1 : V1 1 = cf_ V 1 2 1 := by rw [hV1]
    refine ci_q (c_X8_recall (V := V1) (b := true) (by rw [o1 0 (by decide)]; exact hb1)) ?_
    intro r2 V2 hx2
    rw [if_pos rfl] at hx2
    obtain ⟨rfl, hV2⟩ := hx2
    have o2 : ∀ g r, ¬ (g = 0 ∧ r = 34) → V2 g r = V1 g r := fun g r hg => by rw [hV2, a_ne hg]
    have w1 : V2 1 = cf_ V 1 2 1 := by rw [← v1]; funext r; exact o2 1 r (by omega)
    have w2 : V2 2 = V 2 := by rw [← o1 2 (by decide)]; funext r; exact o2 2 r (by omega)
    have w0 : ∀ r, ¬ r = 34 → V2 0 r = V 0 r := fun r hr => by rw [o2 0 r (by omega), o1 0 (by decide)]
    have w34 : ∀ q, q < 3596 → V2 0 34 q = V 0 36 q := fun q hq => by rw [hV2, a_same, fr_in hq, o1 0 (by decide)]
    refine ⟨?_, n, h1, hn8, ?_, ?_, ?_, ?_, ?_, true, ?_, ?_, fun _ => ?_⟩
    · rw [o1 0 (by decide), v1, hst.2.1.tm]
      exact (cf_0 1 (by decide)).symm
    · rw [w0 33 (by decide)]; exact h33
    · rw [w0 37 (by decide), w0 19 (by decide)]; exact h37
    · rw [w0 37 (by decide)]; exact hse
    · intro q hq
      rw [w0 38 (by decide), w0 39 (by decide)]
      exact hlh q hq
    · rw [w1]
      exact (hst.up (Nat.le_succ u)).below hn8 w34 eqb_cf
    · rw [w0 33 (by decide)]; exact hb1
    · rw [w0 18 (by decide)]; exact hb2
    · rw [w0 36 (by decide), w2]
      exact hst.up (Nat.le_succ u)
