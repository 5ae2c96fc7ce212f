/-! reference: looks, what is new, receiving: written by wip/whole/m15.py -/
theorem RT_.ge {x : Nat → Int32} {s : Sg_} (h : RT_ x s) {k q r : Nat} (w : Nat) (hk : k < 512) (hw : w < 5) (hq : q = 256 + 6 * k + (1 + w)) (hr : r = 7 + w) : x q = s r k := by
  subst hq hr
  exact h.en k w hk hw
theorem RT_.g0 {x : Nat → Int32} {s : Sg_} (h : RT_ x s) {k q : Nat} (hk : k < 512) (hq : q = 256 + 6 * k) : x q = b2 (decide (0 < s 9 k)) := by
  subst hq
  exact h.pr k hk
theorem m_i {V : Mm_} {g r i k : Nat} {x : Int32} (h : ¬ k = i) : m_set V g r i x g r k = V g r k := by simp [a_set, upd, h]
theorem m_j {V : Mm_} {g r i k : Nat} {x : Int32} (h : k = i) : m_set V g r i x g r k = x := by simp [a_set, upd, h]
/-- what looks leaves -/
def lo_ (V V' : Mm_) (s : Sg_) (n : Nat) (k : Nat) : Prop := (∀ g r, ¬ (g = 0 ∧ 40 ≤ r ∧ r ≤ 42) → V' g r = V g r) ∧ ∀ a b, a < n → b < n → a * 8 + b < k → V' 0 40 (a * 8 + b) = dl_ s (V 0 37 6) n a b ∧ V' 0 41 (a * 8 + b) = du_ s (V 0 37 6) n a b ∧ V' 0 42 (a * 8 + b) = ch_ (V 0 37 2) s (V 0 37 6) n a b
theorem lo_3 {V V1 : Mm_} {s : Sg_} {n k : Nat} {x y z : Int32} (hn8 : n ≤ 8) (h : lo_ V V1 s n k) (hxy : k / 8 < n → k % 8 < n → x = dl_ s (V 0 37 6) n (k / 8) (k % 8) ∧ y = du_ s (V 0 37 6) n (k / 8) (k % 8) ∧ z = ch_ (V 0 37 2) s (V 0 37 6) n (k / 8) (k % 8)) : lo_ V (m_set (m_set (m_set V1 0 40 k x) 0 41 k y) 0 42 k z) s n (k + 1) := by
  refine ⟨fun g r hg => ?_, fun a b ha hb hk => ?_⟩
  · rw [m_ne (by omega), m_ne (by omega), m_ne (by omega)]; exact h.1 g r hg
  · by_cases e : a * 8 + b = k
    · have e1 : k / 8 = a := by omega
      have e2 : k % 8 = b := by omega
      rw [e1, e2] at hxy
      obtain ⟨h1, h2, h3⟩ := hxy ha hb
      refine ⟨?_, ?_, ?_⟩
      · rw [m_ne (by decide), m_ne (by decide), m_j e, h1]
      · rw [m_ne (by decide), m_j e, h2]
      · rw [m_j e, h3]
    · obtain ⟨h1, h2, h3⟩ := h.2 a b ha hb (by omega)
      refine ⟨?_, ?_, ?_⟩
      · rw [m_ne (by decide), m_ne (by decide), m_i e, h1]
      · rw [m_ne (by decide), m_i e, m_ne (by decide), h2]
      · rw [m_i e, m_ne (by decide), m_ne (by decide), h3]

set_option maxRecDepth 100000 in
set_option maxHeartbeats 4000000 in
theorem c_X8_looks {PL : List (Nat × Nat)} {n : Nat} {V : Mm_} {s : Sg_} (h : RT_ (V 0 34) s) (hm : V 0 33 0 = nI n) (hn1 : 2 ≤ n) (hn8 : n ≤ 8) (hr : ru_ (V 0 37 2)) : Cv_ PL mX8_looks [vR 0 33] V (fun V' => lo_ V V' s n 64) := by
  refine Ca_.of mv_X8_looks.2.2.2.2.2.2 4 (lo := [some (vR 0 33), none, none, none, none]) rfl (Nat.le_of_ble_eq_true rfl) ?_
  refine r_iconst (pc2 := 1) (nI 0) dX8_looks_0 (by decide) rfl ?_
  refine r_istore_n (pc2 := 2) dX8_looks_1 (by decide) rfl rfl ?_
  refine Rc_.to (V' := (fun V1 => V1) (V)) (lo' := (fun (k : Nat) (V1 : Mm_) => [some (vR 0 33), some (vI (nI k)), none, none, none]) 0 (V)) (rfl) ⟨rfl, rfl, trivial⟩ ?_
  refine Rc_forI 0 (64) (fun (k : Nat) (V1 : Mm_) => [some (vR 0 33), some (vI (nI k)), none, none, none]) (fun V1 => V1) (fun k V1 => lo_ V V1 s n k) (by omega) (fun k V1 hk0 hkN hI ih2 => ?_) (V) (⟨fun _ _ _ => rfl, fun a b ha hb hk => absurd hk (by omega)⟩)
  have h37 : V1 0 37 = V 0 37 := hI.1 0 37 (by omega)
  have h : RT_ (V1 0 34) s := by rw [hI.1 0 34 (by omega)]; exact h
  have hm : V1 0 33 0 = nI n := by rw [hI.1 0 33 (by omega)]; exact hm
  have hr : ru_ (V1 0 37 2) := by rw [h37]; exact hr
  refine r_iload_n (pc2 := 3) dX8_looks_2 rfl rfl ?_
  refine r_bipush (pc2 := 5) (nI 64) dX8_looks_3 (by decide) rfl ?_
  refine r_icN_ge (pc2 := 8) (tgt := 112) (by omega) (by omega) dX8_looks_5 (by decide) rfl (fun c5 => ?_) (fun c5 => ?_)
  · skip
    exact r_vret dX8_looks_112 rfl (by (have e : k = 64 := by omega); subst e; exact hI)
  · skip
    refine r_iload_n (pc2 := 9) dX8_looks_8 rfl rfl ?_
    refine r_bipush (pc2 := 11) (nI 8) dX8_looks_9 (by decide) rfl ?_
    refine r_idivN (pc2 := 12) (by omega) (by omega) (by omega) dX8_looks_11 rfl ?_
    refine r_istore_n (pc2 := 13) dX8_looks_12 (by decide) rfl rfl ?_
    refine r_iload_n (pc2 := 14) dX8_looks_13 rfl rfl ?_
    refine r_bipush (pc2 := 16) (nI 8) dX8_looks_14 (by decide) rfl ?_
    refine r_iremN (pc2 := 17) (by omega) (by omega) (by omega) dX8_looks_16 rfl ?_
    refine r_istore_n (pc2 := 18) dX8_looks_17 (by decide) rfl rfl ?_
    refine r_iload_n (pc2 := 19) dX8_looks_18 rfl rfl ?_
    refine r_aload_n (pc2 := 20) dX8_looks_19 rfl rfl ?_
    refine r_getIe (pc2 := 23) (x := (nI n)) (hm) dX8_looks_20 fl_X8_7 (by decide) rfl rfl rfl ?_
    refine r_icN_ge (pc2 := 26) (tgt := 38) (by omega) (by omega) dX8_looks_23 (by decide) rfl (fun c23 => ?_) (fun c23 => ?_)
    · skip
      refine r_iconst (pc2 := 39) (nI 0) dX8_looks_38 (by decide) rfl ?_
      refine r_istore (pc2 := 41) dX8_looks_39 (by decide) rfl rfl ?_
      refine r_aload_n (pc2 := 42) dX8_looks_41 rfl rfl ?_
      refine r_getR (pc2 := 45) dX8_looks_42 fl_X8_32 (by decide) rfl rfl rfl ?_
      refine r_iload_n (pc2 := 46) dX8_looks_45 rfl rfl ?_
      refine r_iload (pc2 := 48) dX8_looks_46 rfl rfl ?_
      refine r_if0N_eq (pc2 := 51) (tgt := 61) (by omega) dX8_looks_48 (by decide) rfl (fun c48 => ?_) (fun c48 => ?_)
      · skip
        refine r_iconst (pc2 := 62) (-1) dX8_looks_61 (by decide) rfl ?_
        refine r_iast (pc2 := 63) (j := _) dX8_looks_62 (by decide) rfl rfl (rfl) (by show _ < 64; omega) rfl ?_
        refine r_aload_n (pc2 := 64) dX8_looks_63 rfl rfl ?_
        refine r_getR (pc2 := 67) dX8_looks_64 fl_X8_35 (by decide) rfl rfl rfl ?_
        refine r_iload_n (pc2 := 68) dX8_looks_67 rfl rfl ?_
        refine r_iload (pc2 := 70) dX8_looks_68 rfl rfl ?_
        refine r_if0N_eq (pc2 := 73) (tgt := 83) (by omega) dX8_looks_70 (by decide) rfl (fun c70 => ?_) (fun c70 => ?_)
        · skip
          refine r_iconst (pc2 := 84) (-1) dX8_looks_83 (by decide) rfl ?_
          refine r_iast (pc2 := 85) (j := _) dX8_looks_84 (by decide) rfl rfl (rfl) (by show _ < 64; omega) rfl ?_
          refine r_aload_n (pc2 := 86) dX8_looks_85 rfl rfl ?_
          refine r_getR (pc2 := 89) dX8_looks_86 fl_X8_38 (by decide) rfl rfl rfl ?_
          refine r_iload_n (pc2 := 90) dX8_looks_89 rfl rfl ?_
          refine r_iload (pc2 := 92) dX8_looks_90 rfl rfl ?_
          refine r_if0N_eq (pc2 := 95) (tgt := 104) (by omega) dX8_looks_92 (by decide) rfl (fun c92 => ?_) (fun c92 => ?_)
          · skip
            refine r_iconst (pc2 := 105) (-1) dX8_looks_104 (by decide) rfl ?_
            refine r_iast (pc2 := 106) (j := _) dX8_looks_105 (by decide) rfl rfl (rfl) (by show _ < 64; omega) rfl ?_
            refine r_iincN (pc2 := 109) dX8_looks_106 rfl (by decide) rfl rfl ?_
            refine r_goto (pc2 := 2) dX8_looks_109 (by decide) ?_
            exact Rc_.to (lo' := [some (vR 0 33), some (vI (nI ((k + 1)))), none, none, none]) (rfl) ⟨rfl, rfl, trivial⟩ (ih2 _ (by omega) (lo_3 hn8 hI (fun p q => absurd p (by omega))))
          · skip
            exact absurd rfl c92
        · skip
          exact absurd rfl c70
      · skip
        exact absurd rfl c48
    · skip
      refine r_iload_n (pc2 := 27) dX8_looks_26 rfl rfl ?_
      refine r_aload_n (pc2 := 28) dX8_looks_27 rfl rfl ?_
      refine r_getIe (pc2 := 31) (x := (nI n)) (hm) dX8_looks_28 fl_X8_7 (by decide) rfl rfl rfl ?_
      refine r_icN_ge (pc2 := 34) (tgt := 38) (by omega) (by omega) dX8_looks_31 (by decide) rfl (fun c31 => ?_) (fun c31 => ?_)
      · skip
        refine r_iconst (pc2 := 39) (nI 0) dX8_looks_38 (by decide) rfl ?_
        refine r_istore (pc2 := 41) dX8_looks_39 (by decide) rfl rfl ?_
        refine r_aload_n (pc2 := 42) dX8_looks_41 rfl rfl ?_
        refine r_getR (pc2 := 45) dX8_looks_42 fl_X8_32 (by decide) rfl rfl rfl ?_
        refine r_iload_n (pc2 := 46) dX8_looks_45 rfl rfl ?_
        refine r_iload (pc2 := 48) dX8_looks_46 rfl rfl ?_
        refine r_if0N_eq (pc2 := 51) (tgt := 61) (by omega) dX8_looks_48 (by decide) rfl (fun c48 => ?_) (fun c48 => ?_)
        · skip
          refine r_iconst (pc2 := 62) (-1) dX8_looks_61 (by decide) rfl ?_
          refine r_iast (pc2 := 63) (j := _) dX8_looks_62 (by decide) rfl rfl (rfl) (by show _ < 64; omega) rfl ?_
          refine r_aload_n (pc2 := 64) dX8_looks_63 rfl rfl ?_
          refine r_getR (pc2 := 67) dX8_looks_64 fl_X8_35 (by decide) rfl rfl rfl ?_
          refine r_iload_n (pc2 := 68) dX8_looks_67 rfl rfl ?_
          refine r_iload (pc2 := 70) dX8_looks_68 rfl rfl ?_
          refine r_if0N_eq (pc2 := 73) (tgt := 83) (by omega) dX8_looks_70 (by decide) rfl (fun c70 => ?_) (fun c70 => ?_)
          · skip
            refine r_iconst (pc2 := 84) (-1) dX8_looks_83 (by decide) rfl ?_
            refine r_iast (pc2 := 85) (j := _) dX8_looks_84 (by decide) rfl rfl (rfl) (by show _ < 64; omega) rfl ?_
            refine r_aload_n (pc2 := 86) dX8_looks_85 rfl rfl ?_
            refine r_getR (pc2 := 89) dX8_looks_86 fl_X8_38 (by decide) rfl rfl rfl ?_
            refine r_iload_n (pc2 := 90) dX8_looks_89 rfl rfl ?_
            refine r_iload (pc2 := 92) dX8_looks_90 rfl rfl ?_
            refine r_if0N_eq (pc2 := 95) (tgt := 104) (by omega) dX8_looks_92 (by decide) rfl (fun c92 => ?_) (fun c92 => ?_)
            · skip
              refine r_iconst (pc2 := 105) (-1) dX8_looks_104 (by decide) rfl ?_
              refine r_iast (pc2 := 106) (j := _) dX8_looks_105 (by decide) rfl rfl (rfl) (by show _ < 64; omega) rfl ?_
              refine r_iincN (pc2 := 109) dX8_looks_106 rfl (by decide) rfl rfl ?_
              refine r_goto (pc2 := 2) dX8_looks_109 (by decide) ?_
              exact Rc_.to (lo' := [some (vR 0 33), some (vI (nI ((k + 1)))), none, none, none]) (rfl) ⟨rfl, rfl, trivial⟩ (ih2 _ (by omega) (lo_3 hn8 hI (fun p q => by first | exact ⟨rfl, rfl, rfl⟩ | exact absurd q (by omega))))
            · skip
              exact absurd rfl c92
          · skip
            exact absurd rfl c70
        · skip
          exact absurd rfl c48
      · skip
        refine r_iconst (pc2 := 35) (nI 1) dX8_looks_34 (by decide) rfl ?_
        refine r_goto (pc2 := 39) dX8_looks_35 (by decide) ?_
        refine r_istore (pc2 := 41) dX8_looks_39 (by decide) rfl rfl ?_
        refine r_aload_n (pc2 := 42) dX8_looks_41 rfl rfl ?_
        refine r_getR (pc2 := 45) dX8_looks_42 fl_X8_32 (by decide) rfl rfl rfl ?_
        refine r_iload_n (pc2 := 46) dX8_looks_45 rfl rfl ?_
        refine r_iload (pc2 := 48) dX8_looks_46 rfl rfl ?_
        refine r_if0N_eq (pc2 := 51) (tgt := 61) (by omega) dX8_looks_48 (by decide) rfl (fun c48 => ?_) (fun c48 => ?_)
        · skip
          exact absurd c48 (by decide)
        · skip
          refine r_aload_n (pc2 := 52) dX8_looks_51 rfl rfl ?_
          refine r_iload_n (pc2 := 53) dX8_looks_52 rfl rfl ?_
          refine r_iload_n (pc2 := 54) dX8_looks_53 rfl rfl ?_
          refine r_iconst (pc2 := 55) (nI 1) dX8_looks_54 (by decide) rfl ?_
          refine r_cv3p (pc2 := 58) dX8_looks_55 st_X8_looks_104 rl_X8_boundOf (Nat.le_of_ble_eq_true rfl) rfl (c_X8_boundOf1 (i := k / 8) (j := k % 8) h hm hn8 (by omega) (by omega)) ?_
          rw [h37]
          refine r_goto (pc2 := 62) dX8_looks_58 (by decide) ?_
          refine r_iast (pc2 := 63) (j := _) dX8_looks_62 (by decide) rfl rfl (rfl) (by show _ < 64; omega) rfl ?_
          refine r_aload_n (pc2 := 64) dX8_looks_63 rfl rfl ?_
          refine r_getR (pc2 := 67) dX8_looks_64 fl_X8_35 (by decide) rfl rfl rfl ?_
          refine r_iload_n (pc2 := 68) dX8_looks_67 rfl rfl ?_
          refine r_iload (pc2 := 70) dX8_looks_68 rfl rfl ?_
          refine r_if0N_eq (pc2 := 73) (tgt := 83) (by omega) dX8_looks_70 (by decide) rfl (fun c70 => ?_) (fun c70 => ?_)
          · skip
            exact absurd c70 (by decide)
          · skip
            refine r_aload_n (pc2 := 74) dX8_looks_73 rfl rfl ?_
            refine r_iload_n (pc2 := 75) dX8_looks_74 rfl rfl ?_
            refine r_iload_n (pc2 := 76) dX8_looks_75 rfl rfl ?_
            refine r_iconst (pc2 := 77) (nI 2) dX8_looks_76 (by decide) rfl ?_
            refine r_cv3p (pc2 := 80) dX8_looks_77 st_X8_looks_104 rl_X8_boundOf (Nat.le_of_ble_eq_true rfl) rfl (c_X8_boundOf2 (V := m_set V1 0 40 k _) (i := k / 8) (j := k % 8) h hm hn8 (by omega) (by omega)) ?_
            rw [show m_set V1 0 40 k _ 0 37 = V 0 37 from h37]
            refine r_goto (pc2 := 84) dX8_looks_80 (by decide) ?_
            refine r_iast (pc2 := 85) (j := _) dX8_looks_84 (by decide) rfl rfl (rfl) (by show _ < 64; omega) rfl ?_
            refine r_aload_n (pc2 := 86) dX8_looks_85 rfl rfl ?_
            refine r_getR (pc2 := 89) dX8_looks_86 fl_X8_38 (by decide) rfl rfl rfl ?_
            refine r_iload_n (pc2 := 90) dX8_looks_89 rfl rfl ?_
            refine r_iload (pc2 := 92) dX8_looks_90 rfl rfl ?_
            refine r_if0N_eq (pc2 := 95) (tgt := 104) (by omega) dX8_looks_92 (by decide) rfl (fun c92 => ?_) (fun c92 => ?_)
            · skip
              exact absurd c92 (by decide)
            · skip
              refine r_aload_n (pc2 := 96) dX8_looks_95 rfl rfl ?_
              refine r_iload_n (pc2 := 97) dX8_looks_96 rfl rfl ?_
              refine r_iload_n (pc2 := 98) dX8_looks_97 rfl rfl ?_
              refine r_cv2p (pc2 := 101) dX8_looks_98 st_X8_looks_107 rl_X8_choiceOf (Nat.le_of_ble_eq_true rfl) rfl (c_X8_choiceOf (V := m_set (m_set V1 0 40 k _) 0 41 k _) (i := k / 8) (j := k % 8) h hm hn1 hn8 hr (by omega) (by omega)) ?_
              rw [show m_set (m_set V1 0 40 k _) 0 41 k _ 0 37 = V 0 37 from h37]
              refine r_goto (pc2 := 105) dX8_looks_101 (by decide) ?_
              refine r_iast (pc2 := 106) (j := _) dX8_looks_105 (by decide) rfl rfl (rfl) (by show _ < 64; omega) rfl ?_
              refine r_iincN (pc2 := 109) dX8_looks_106 rfl (by decide) rfl rfl ?_
              refine r_goto (pc2 := 2) dX8_looks_109 (by decide) ?_
              exact Rc_.to (lo' := [some (vR 0 33), some (vI (nI ((k + 1)))), none, none, none]) (rfl) ⟨rfl, rfl, trivial⟩ (ih2 _ (by omega) (lo_3 hn8 hI (fun p q => by first | exact ⟨rfl, rfl, rfl⟩ | exact absurd q (by omega))))

set_option maxRecDepth 100000 in
set_option maxHeartbeats 4000000 in
theorem c_X8_isNew0 {PL : List (Nat × Nat)} {V : Mm_} {i n : Nat} (hi : i < n) (hm : V 0 33 0 = nI n) (hn8 : n ≤ 8) (h0 : V 0 34 (3328 + 17 * i) = nI 0) : Cp_ PL mX8_isNew [vR 0 33, vI (nI i)] V (nI 1) := by
  refine Ca_.of mv_X8_isNew.2.2.2.2.2.2 2 (lo := [some (vR 0 33), some (vI (nI i)), none, none]) rfl (Nat.le_of_ble_eq_true rfl) ?_
  refine r_aload_n (pc2 := 1) dX8_isNew_0 rfl rfl ?_
  refine r_getR (pc2 := 4) dX8_isNew_1 fl_X8_13 (by decide) rfl rfl rfl ?_
  refine r_iload_n (pc2 := 5) dX8_isNew_4 rfl rfl ?_
  refine r_iconst (pc2 := 6) (nI 0) dX8_isNew_5 (by decide) rfl ?_
  refine r_cs2p (pc2 := 9) dX8_isNew_6 st_X8_isNew_111 (Nat.le_of_ble_eq_true rfl) rfl (c_X8_sentAt) ?_
  refine r_ialde (pc2 := 10) (x := (nI 0)) (j := _) (h0) dX8_isNew_9 (by decide) rfl rfl (rfl) (by show _ < 3596; omega) rfl ?_
  refine r_if0N_ne (pc2 := 13) (tgt := 17) (by omega) dX8_isNew_10 (by decide) rfl (fun c10 => ?_) (fun c10 => ?_)
  · skip
    exact absurd rfl c10
  · skip
    refine r_iconst (pc2 := 14) (nI 1) dX8_isNew_13 (by decide) rfl ?_
    refine r_goto (pc2 := 18) dX8_isNew_14 (by decide) ?_
    refine r_istore_n (pc2 := 19) dX8_isNew_18 (by decide) rfl rfl ?_
    refine r_iconst (pc2 := 20) (nI 0) dX8_isNew_19 (by decide) rfl ?_
    refine r_istore_n (pc2 := 21) dX8_isNew_20 (by decide) rfl rfl ?_
    refine Rc_.to (V' := (fun _ => V) 0) (lo' := (fun b : Nat => [some (vR 0 33), some (vI (nI i)), some (vI (nI 1)), some (vI (nI b))]) 0) (rfl) ⟨rfl, rfl, rfl, rfl, trivial⟩ ?_
    refine Rc_for 0 (n) (fun b : Nat => [some (vR 0 33), some (vI (nI i)), some (vI (nI 1)), some (vI (nI b))]) (fun _ => V) (by omega) (fun b hb0 hbN ih21 => ?_)
    refine r_iload_n (pc2 := 22) dX8_isNew_21 rfl rfl ?_
    refine r_aload_n (pc2 := 23) dX8_isNew_22 rfl rfl ?_
    refine r_getIe (pc2 := 26) (x := (nI n)) (hm) dX8_isNew_23 fl_X8_7 (by decide) rfl rfl rfl ?_
    refine r_icN_ge (pc2 := 29) (tgt := 98) (by omega) (by omega) dX8_isNew_26 (by decide) rfl (fun c26 => ?_) (fun c26 => ?_)
    · skip
      refine r_iload_n (pc2 := 99) dX8_isNew_98 rfl rfl ?_
      exact r_zret dX8_isNew_99 rfl (Or.inr rfl) (⟨rfl, rfl⟩)
    · skip
      refine r_iload_n (pc2 := 30) dX8_isNew_29 rfl rfl ?_
      refine r_if0N_ne (pc2 := 33) (tgt := 86) (by omega) dX8_isNew_30 (by decide) rfl (fun c30 => ?_) (fun c30 => ?_)
      · skip
        refine r_iconst (pc2 := 87) (nI 1) dX8_isNew_86 (by decide) rfl ?_
        refine r_goto (pc2 := 91) dX8_isNew_87 (by decide) ?_
        refine r_istore_n (pc2 := 92) dX8_isNew_91 (by decide) rfl rfl ?_
        refine r_iincN (pc2 := 95) dX8_isNew_92 rfl (by decide) rfl rfl ?_
        refine r_goto (pc2 := 21) dX8_isNew_95 (by decide) ?_
        exact Rc_.to (lo' := (fun b : Nat => [some (vR 0 33), some (vI (nI i)), some (vI (nI 1)), some (vI (nI b))]) (b + 1)) (rfl) ⟨rfl, rfl, rfl, rfl, trivial⟩ (ih21 (by omega))
      · skip
        exact absurd c30 (by decide)

set_option maxRecDepth 100000 in
set_option maxHeartbeats 4000000 in
theorem c_X8_isNew1 {PL : List (Nat × Nat)} {V : Mm_} {i n : Nat} (hi : i < n) (hm : V 0 33 0 = nI n) (hn8 : n ≤ 8) {s : Sg_} (h1 : V 0 34 (3328 + 17 * i) = nI 1) (hv : ∀ b, b < n → V 0 34 (3328 + 17 * i + (1 + b)) = s 13 (i * 8 + b) ∧ V 0 34 (3328 + 17 * i + (9 + b)) = s 14 (i * 8 + b)) : Cp_ PL mX8_isNew [vR 0 33, vI (nI i)] V (b2 (df_ s (V 0 40) (V 0 41) i n)) := by
  refine Ca_.of mv_X8_isNew.2.2.2.2.2.2 2 (lo := [some (vR 0 33), some (vI (nI i)), none, none]) rfl (Nat.le_of_ble_eq_true rfl) ?_
  refine r_aload_n (pc2 := 1) dX8_isNew_0 rfl rfl ?_
  refine r_getR (pc2 := 4) dX8_isNew_1 fl_X8_13 (by decide) rfl rfl rfl ?_
  refine r_iload_n (pc2 := 5) dX8_isNew_4 rfl rfl ?_
  refine r_iconst (pc2 := 6) (nI 0) dX8_isNew_5 (by decide) rfl ?_
  refine r_cs2p (pc2 := 9) dX8_isNew_6 st_X8_isNew_111 (Nat.le_of_ble_eq_true rfl) rfl (c_X8_sentAt) ?_
  refine r_ialde (pc2 := 10) (x := (nI 1)) (j := _) (h1) dX8_isNew_9 (by decide) rfl rfl (rfl) (by show _ < 3596; omega) rfl ?_
  refine r_if0N_ne (pc2 := 13) (tgt := 17) (by omega) dX8_isNew_10 (by decide) rfl (fun c10 => ?_) (fun c10 => ?_)
  · skip
    refine r_iconst (pc2 := 18) (nI 0) dX8_isNew_17 (by decide) rfl ?_
    refine r_istore_n (pc2 := 19) dX8_isNew_18 (by decide) rfl rfl ?_
    refine r_iconst (pc2 := 20) (nI 0) dX8_isNew_19 (by decide) rfl ?_
    refine r_istore_n (pc2 := 21) dX8_isNew_20 (by decide) rfl rfl ?_
    refine Rc_.to (V' := (fun _ => V) 0) (lo' := (fun b : Nat => [some (vR 0 33), some (vI (nI i)), some (vI (b2 ((an_ (fun b => decide (¬ s 13 (i * 8 + b) = V 0 40 (i * 8 + b) ∨ ¬ s 14 (i * 8 + b) = V 0 41 (i * 8 + b))) b)))), some (vI (nI b))]) 0) (rfl) ⟨rfl, rfl, rfl, rfl, trivial⟩ ?_
    refine Rc_for 0 (n) (fun b : Nat => [some (vR 0 33), some (vI (nI i)), some (vI (b2 ((an_ (fun b => decide (¬ s 13 (i * 8 + b) = V 0 40 (i * 8 + b) ∨ ¬ s 14 (i * 8 + b) = V 0 41 (i * 8 + b))) b)))), some (vI (nI b))]) (fun _ => V) (by omega) (fun b hb0 hbN ih21 => ?_)
    refine r_iload_n (pc2 := 22) dX8_isNew_21 rfl rfl ?_
    refine r_aload_n (pc2 := 23) dX8_isNew_22 rfl rfl ?_
    refine r_getIe (pc2 := 26) (x := (nI n)) (hm) dX8_isNew_23 fl_X8_7 (by decide) rfl rfl rfl ?_
    refine r_icN_ge (pc2 := 29) (tgt := 98) (by omega) (by omega) dX8_isNew_26 (by decide) rfl (fun c26 => ?_) (fun c26 => ?_)
    · skip
      refine r_iload_n (pc2 := 99) dX8_isNew_98 rfl rfl ?_
      exact r_zret dX8_isNew_99 rfl (b2_01 _) (⟨by (have e : b = n := by omega); rw [e]; rfl, rfl⟩)
    · skip
      refine r_iload_n (pc2 := 30) dX8_isNew_29 rfl rfl ?_
      refine r_ifB_ne (pc2 := 33) (tgt := 86) dX8_isNew_30 (by decide) rfl (fun c30 => ?_) (fun c30 => ?_)
      · skip
        refine r_iconst (pc2 := 87) (nI 1) dX8_isNew_86 (by decide) rfl ?_
        refine r_goto (pc2 := 91) dX8_isNew_87 (by decide) ?_
        refine r_istore_n (pc2 := 92) dX8_isNew_91 (by decide) rfl rfl ?_
        refine r_iincN (pc2 := 95) dX8_isNew_92 rfl (by decide) rfl rfl ?_
        refine r_goto (pc2 := 21) dX8_isNew_95 (by decide) ?_
        exact Rc_.to (lo' := (fun b : Nat => [some (vR 0 33), some (vI (nI i)), some (vI (b2 ((an_ (fun b => decide (¬ s 13 (i * 8 + b) = V 0 40 (i * 8 + b) ∨ ¬ s 14 (i * 8 + b) = V 0 41 (i * 8 + b))) b)))), some (vI (nI b))]) (b + 1)) (rfl) ⟨rfl, rfl, (congrArg (fun z => some (vI z)) (b2_1 (by show (an_ (fun b => decide (¬ s 13 (i * 8 + b) = V 0 40 (i * 8 + b) ∨ ¬ s 14 (i * 8 + b) = V 0 41 (i * 8 + b))) b || _) = _; rw [c30]; rfl)).symm), rfl, trivial⟩ (ih21 (by omega))
      · skip
        refine r_aload_n (pc2 := 34) dX8_isNew_33 rfl rfl ?_
        refine r_getR (pc2 := 37) dX8_isNew_34 fl_X8_13 (by decide) rfl rfl rfl ?_
        refine r_iload_n (pc2 := 38) dX8_isNew_37 rfl rfl ?_
        refine r_iconst (pc2 := 39) (nI 1) dX8_isNew_38 (by decide) rfl ?_
        refine r_iload_n (pc2 := 40) dX8_isNew_39 rfl rfl ?_
        refine r_iaddN (pc2 := 41) dX8_isNew_40 rfl ?_
        refine r_cs2p (pc2 := 44) dX8_isNew_41 st_X8_isNew_111 (Nat.le_of_ble_eq_true rfl) rfl (c_X8_sentAt) ?_
        refine r_ialde (pc2 := 45) (x := ((s 13 (i * 8 + b)))) (j := _) ((hv b (by omega)).1) dX8_isNew_44 (by decide) rfl rfl (rfl) (by show _ < 3596; omega) rfl ?_
        refine r_aload_n (pc2 := 46) dX8_isNew_45 rfl rfl ?_
        refine r_getR (pc2 := 49) dX8_isNew_46 fl_X8_32 (by decide) rfl rfl rfl ?_
        refine r_bipush (pc2 := 51) (nI 8) dX8_isNew_49 (by decide) rfl ?_
        refine r_iload_n (pc2 := 52) dX8_isNew_51 rfl rfl ?_
        refine r_imulN (pc2 := 53) dX8_isNew_52 rfl ?_
        refine r_iload_n (pc2 := 54) dX8_isNew_53 rfl rfl ?_
        refine r_iaddN (pc2 := 55) dX8_isNew_54 rfl ?_
        refine r_ialde (pc2 := 56) (x := ((V 0 40 (i * 8 + b)))) (j := _) (congrArg (V 0 40) (by omega)) dX8_isNew_55 (by decide) rfl rfl (rfl) (by show _ < 64; omega) rfl ?_
        refine r_ic_ne (pc2 := 59) (tgt := 86) dX8_isNew_56 (by decide) rfl (fun c56 => ?_) (fun c56 => ?_)
        · skip
          refine r_iconst (pc2 := 87) (nI 1) dX8_isNew_86 (by decide) rfl ?_
          refine r_goto (pc2 := 91) dX8_isNew_87 (by decide) ?_
          refine r_istore_n (pc2 := 92) dX8_isNew_91 (by decide) rfl rfl ?_
          refine r_iincN (pc2 := 95) dX8_isNew_92 rfl (by decide) rfl rfl ?_
          refine r_goto (pc2 := 21) dX8_isNew_95 (by decide) ?_
          exact Rc_.to (lo' := (fun b : Nat => [some (vR 0 33), some (vI (nI i)), some (vI (b2 ((an_ (fun b => decide (¬ s 13 (i * 8 + b) = V 0 40 (i * 8 + b) ∨ ¬ s 14 (i * 8 + b) = V 0 41 (i * 8 + b))) b)))), some (vI (nI b))]) (b + 1)) (rfl) ⟨rfl, rfl, (congrArg (fun z => some (vI z)) (b2_1 (by show (an_ (fun b => decide (¬ s 13 (i * 8 + b) = V 0 40 (i * 8 + b) ∨ ¬ s 14 (i * 8 + b) = V 0 41 (i * 8 + b))) b || _) = _; rw [show (fun b => decide (¬ s 13 (i * 8 + b) = V 0 40 (i * 8 + b) ∨ ¬ s 14 (i * 8 + b) = V 0 41 (i * 8 + b))) b = true from decide_eq_true (Or.inl c56), Bool.or_true])).symm), rfl, trivial⟩ (ih21 (by omega))
        · skip
          refine r_aload_n (pc2 := 60) dX8_isNew_59 rfl rfl ?_
          refine r_getR (pc2 := 63) dX8_isNew_60 fl_X8_13 (by decide) rfl rfl rfl ?_
          refine r_iload_n (pc2 := 64) dX8_isNew_63 rfl rfl ?_
          refine r_bipush (pc2 := 66) (nI 9) dX8_isNew_64 (by decide) rfl ?_
          refine r_iload_n (pc2 := 67) dX8_isNew_66 rfl rfl ?_
          refine r_iaddN (pc2 := 68) dX8_isNew_67 rfl ?_
          refine r_cs2p (pc2 := 71) dX8_isNew_68 st_X8_isNew_111 (Nat.le_of_ble_eq_true rfl) rfl (c_X8_sentAt) ?_
          refine r_ialde (pc2 := 72) (x := ((s 14 (i * 8 + b)))) (j := _) ((hv b (by omega)).2) dX8_isNew_71 (by decide) rfl rfl (rfl) (by show _ < 3596; omega) rfl ?_
          refine r_aload_n (pc2 := 73) dX8_isNew_72 rfl rfl ?_
          refine r_getR (pc2 := 76) dX8_isNew_73 fl_X8_35 (by decide) rfl rfl rfl ?_
          refine r_bipush (pc2 := 78) (nI 8) dX8_isNew_76 (by decide) rfl ?_
          refine r_iload_n (pc2 := 79) dX8_isNew_78 rfl rfl ?_
          refine r_imulN (pc2 := 80) dX8_isNew_79 rfl ?_
          refine r_iload_n (pc2 := 81) dX8_isNew_80 rfl rfl ?_
          refine r_iaddN (pc2 := 82) dX8_isNew_81 rfl ?_
          refine r_ialde (pc2 := 83) (x := ((V 0 41 (i * 8 + b)))) (j := _) (congrArg (V 0 41) (by omega)) dX8_isNew_82 (by decide) rfl rfl (rfl) (by show _ < 64; omega) rfl ?_
          refine r_ic_eq (pc2 := 86) (tgt := 90) dX8_isNew_83 (by decide) rfl (fun c83 => ?_) (fun c83 => ?_)
          · skip
            refine r_iconst (pc2 := 91) (nI 0) dX8_isNew_90 (by decide) rfl ?_
            refine r_istore_n (pc2 := 92) dX8_isNew_91 (by decide) rfl rfl ?_
            refine r_iincN (pc2 := 95) dX8_isNew_92 rfl (by decide) rfl rfl ?_
            refine r_goto (pc2 := 21) dX8_isNew_95 (by decide) ?_
            exact Rc_.to (lo' := (fun b : Nat => [some (vR 0 33), some (vI (nI i)), some (vI (b2 ((an_ (fun b => decide (¬ s 13 (i * 8 + b) = V 0 40 (i * 8 + b) ∨ ¬ s 14 (i * 8 + b) = V 0 41 (i * 8 + b))) b)))), some (vI (nI b))]) (b + 1)) (rfl) ⟨rfl, rfl, (congrArg (fun z => some (vI z)) (b2_0 (by show (an_ (fun b => decide (¬ s 13 (i * 8 + b) = V 0 40 (i * 8 + b) ∨ ¬ s 14 (i * 8 + b) = V 0 41 (i * 8 + b))) b || _) = _; rw [c30, show (fun b => decide (¬ s 13 (i * 8 + b) = V 0 40 (i * 8 + b) ∨ ¬ s 14 (i * 8 + b) = V 0 41 (i * 8 + b))) b = false from decide_eq_false (fun z => z.elim (fun q => q (by first | exact c56 | exact Decidable.not_not.mp c56)) (fun q => q (by first | exact c83 | exact Decidable.not_not.mp c83)))]; rfl)).symm), rfl, trivial⟩ (ih21 (by omega))
          · skip
            refine r_iconst (pc2 := 87) (nI 1) dX8_isNew_86 (by decide) rfl ?_
            refine r_goto (pc2 := 91) dX8_isNew_87 (by decide) ?_
            refine r_istore_n (pc2 := 92) dX8_isNew_91 (by decide) rfl rfl ?_
            refine r_iincN (pc2 := 95) dX8_isNew_92 rfl (by decide) rfl rfl ?_
            refine r_goto (pc2 := 21) dX8_isNew_95 (by decide) ?_
            exact Rc_.to (lo' := (fun b : Nat => [some (vR 0 33), some (vI (nI i)), some (vI (b2 ((an_ (fun b => decide (¬ s 13 (i * 8 + b) = V 0 40 (i * 8 + b) ∨ ¬ s 14 (i * 8 + b) = V 0 41 (i * 8 + b))) b)))), some (vI (nI b))]) (b + 1)) (rfl) ⟨rfl, rfl, (congrArg (fun z => some (vI z)) (b2_1 (by show (an_ (fun b => decide (¬ s 13 (i * 8 + b) = V 0 40 (i * 8 + b) ∨ ¬ s 14 (i * 8 + b) = V 0 41 (i * 8 + b))) b || _) = _; rw [show (fun b => decide (¬ s 13 (i * 8 + b) = V 0 40 (i * 8 + b) ∨ ¬ s 14 (i * 8 + b) = V 0 41 (i * 8 + b))) b = true from decide_eq_true (Or.inr c83), Bool.or_true])).symm), rfl, trivial⟩ (ih21 (by omega))
  · skip
    exact absurd c10 (by decide)

/-- the row with a vector kept -/
def ks_ (x dl du : Nat → Int32) (a b : Nat) : Nat → Int32 := fun q => if q = 3328 + 17 * a then nI 1 else if 3328 + 17 * a + 1 ≤ q ∧ q < 3328 + 17 * a + 1 + b then dl (8 * a + (q - (3328 + 17 * a + 1))) else if 3328 + 17 * a + 9 ≤ q ∧ q < 3328 + 17 * a + 9 + b then du (8 * a + (q - (3328 + 17 * a + 9))) else x q
theorem ks_0 {V : Mm_} {dl du : Nat → Int32} {a : Nat} {v : Int32} (hv : v = nI 1) : a_set V 0 34 (ks_ (V 0 34) dl du a 0) = m_set V 0 34 (3328 + 17 * a + 0) v := by
  refine congrArg (a_set V 0 34) ?_
  funext q
  unfold ks_ upd
  by_cases e : q = 3328 + 17 * a
  · rw [if_pos e, if_pos (by omega), hv]
  · rw [if_neg e, if_neg (by omega), if_neg (by omega), if_neg (by omega)]
theorem ks_1 {V : Mm_} {x dl du : Nat → Int32} {a b p1 p2 d1 : Nat} (hb : b < 8) (h1 : p1 = 3328 + 17 * a + (1 + b)) (h2 : p2 = 3328 + 17 * a + (9 + b)) (hd : d1 = 8 * a + b) : a_set V 0 34 (ks_ x dl du a (b + 1)) = m_set (m_set (a_set V 0 34 (ks_ x dl du a b)) 0 34 p1 (dl d1)) 0 34 p2 (du d1) := by
  subst h1 h2 hd
  show _ = a_set (a_set (a_set V 0 34 _) 0 34 _) 0 34 _
  rw [a_twice, a_twice, m_same, a_same]
  refine congrArg (a_set V 0 34) ?_
  funext q
  simp only [ks_, upd]
  by_cases e2 : q = 3328 + 17 * a + (9 + b)
  · rw [if_neg (by omega), if_neg (by omega), if_pos (by omega), if_pos e2]
    exact congrArg du (by omega)
  · rw [if_neg e2]
    by_cases e1 : q = 3328 + 17 * a + (1 + b)
    · rw [if_neg (by omega), if_pos (by omega), if_pos e1]
      exact congrArg dl (by omega)
    · rw [if_neg e1]
      by_cases e : q = 3328 + 17 * a
      · rw [if_pos e, if_pos e]
      · rw [if_neg e, if_neg e]
        by_cases c1 : 3328 + 17 * a + 1 ≤ q ∧ q < 3328 + 17 * a + 1 + b
        · rw [if_pos c1, if_pos (by omega)]
        · rw [if_neg c1, if_neg (by omega)]
          by_cases c2 : 3328 + 17 * a + 9 ≤ q ∧ q < 3328 + 17 * a + 9 + b
          · rw [if_pos c2, if_pos (by omega)]
          · rw [if_neg c2, if_neg (by omega)]
set_option maxRecDepth 100000 in
set_option maxHeartbeats 4000000 in
theorem c_X8_keepsSent {PL : List (Nat × Nat)} {V : Mm_} {i n : Nat} (hi : i < n) (hm : V 0 33 0 = nI n) (hn8 : n ≤ 8) : Cm_ PL mX8_keepsSent [vR 0 33, vI (nI i)] V (a_set V 0 34 (ks_ (V 0 34) (V 0 40) (V 0 41) i n)) := by
  refine Ca_.of mv_X8_keepsSent.2.2.2.2.2.2 1 (lo := [some (vR 0 33), some (vI (nI i)), none]) rfl (Nat.le_of_ble_eq_true rfl) ?_
  refine r_aload_n (pc2 := 1) dX8_keepsSent_0 rfl rfl ?_
  refine r_getR (pc2 := 4) dX8_keepsSent_1 fl_X8_13 (by decide) rfl rfl rfl ?_
  refine r_iload_n (pc2 := 5) dX8_keepsSent_4 rfl rfl ?_
  refine r_iconst (pc2 := 6) (nI 0) dX8_keepsSent_5 (by decide) rfl ?_
  refine r_cs2p (pc2 := 9) dX8_keepsSent_6 st_X8_keepsSent_111 (Nat.le_of_ble_eq_true rfl) rfl (c_X8_sentAt) ?_
  refine r_iconst (pc2 := 10) (nI 1) dX8_keepsSent_9 (by decide) rfl ?_
  refine r_iast (pc2 := 11) (j := _) dX8_keepsSent_10 (by decide) rfl rfl (rfl) (by show _ < 3596; omega) rfl ?_
  refine r_iconst (pc2 := 12) (nI 0) dX8_keepsSent_11 (by decide) rfl ?_
  refine r_istore_n (pc2 := 13) dX8_keepsSent_12 (by decide) rfl rfl ?_
  refine Rc_.to (V' := (fun b => a_set V 0 34 (ks_ (V 0 34) (V 0 40) (V 0 41) i b)) 0) (lo' := (fun b : Nat => [some (vR 0 33), some (vI (nI i)), some (vI (nI b))]) 0) ((ks_0 rfl).symm) ⟨rfl, rfl, rfl, trivial⟩ ?_
  refine Rc_for 0 (n) (fun b : Nat => [some (vR 0 33), some (vI (nI i)), some (vI (nI b))]) (fun b => a_set V 0 34 (ks_ (V 0 34) (V 0 40) (V 0 41) i b)) (by omega) (fun b hb0 hbN ih13 => ?_)
  refine r_iload_n (pc2 := 14) dX8_keepsSent_13 rfl rfl ?_
  refine r_aload_n (pc2 := 15) dX8_keepsSent_14 rfl rfl ?_
  refine r_getIe (pc2 := 18) (x := (nI n)) (hm) dX8_keepsSent_15 fl_X8_7 (by decide) rfl rfl rfl ?_
  refine r_icN_ge (pc2 := 21) (tgt := 74) (by omega) (by omega) dX8_keepsSent_18 (by decide) rfl (fun c18 => ?_) (fun c18 => ?_)
  · skip
    exact r_vret dX8_keepsSent_74 rfl (by (have e : b = n := by omega); rw [e])
  · skip
    refine r_aload_n (pc2 := 22) dX8_keepsSent_21 rfl rfl ?_
    refine r_getR (pc2 := 25) dX8_keepsSent_22 fl_X8_13 (by decide) rfl rfl rfl ?_
    refine r_iload_n (pc2 := 26) dX8_keepsSent_25 rfl rfl ?_
    refine r_iconst (pc2 := 27) (nI 1) dX8_keepsSent_26 (by decide) rfl ?_
    refine r_iload_n (pc2 := 28) dX8_keepsSent_27 rfl rfl ?_
    refine r_iaddN (pc2 := 29) dX8_keepsSent_28 rfl ?_
    refine r_cs2p (pc2 := 32) dX8_keepsSent_29 st_X8_keepsSent_111 (Nat.le_of_ble_eq_true rfl) rfl (c_X8_sentAt) ?_
    refine r_aload_n (pc2 := 33) dX8_keepsSent_32 rfl rfl ?_
    refine r_getR (pc2 := 36) dX8_keepsSent_33 fl_X8_32 (by decide) rfl rfl rfl ?_
    refine r_bipush (pc2 := 38) (nI 8) dX8_keepsSent_36 (by decide) rfl ?_
    refine r_iload_n (pc2 := 39) dX8_keepsSent_38 rfl rfl ?_
    refine r_imulN (pc2 := 40) dX8_keepsSent_39 rfl ?_
    refine r_iload_n (pc2 := 41) dX8_keepsSent_40 rfl rfl ?_
    refine r_iaddN (pc2 := 42) dX8_keepsSent_41 rfl ?_
    refine r_ialde (pc2 := 43) (x := ((V 0 40 (8 * i + b)))) (j := _) (rfl) dX8_keepsSent_42 (by decide) rfl rfl (rfl) (by show _ < 64; omega) rfl ?_
    refine r_iast (pc2 := 44) (j := _) dX8_keepsSent_43 (by decide) rfl rfl (rfl) (by show _ < 3596; omega) rfl ?_
    refine r_aload_n (pc2 := 45) dX8_keepsSent_44 rfl rfl ?_
    refine r_getR (pc2 := 48) dX8_keepsSent_45 fl_X8_13 (by decide) rfl rfl rfl ?_
    refine r_iload_n (pc2 := 49) dX8_keepsSent_48 rfl rfl ?_
    refine r_bipush (pc2 := 51) (nI 9) dX8_keepsSent_49 (by decide) rfl ?_
    refine r_iload_n (pc2 := 52) dX8_keepsSent_51 rfl rfl ?_
    refine r_iaddN (pc2 := 53) dX8_keepsSent_52 rfl ?_
    refine r_cs2p (pc2 := 56) dX8_keepsSent_53 st_X8_keepsSent_111 (Nat.le_of_ble_eq_true rfl) rfl (c_X8_sentAt) ?_
    refine r_aload_n (pc2 := 57) dX8_keepsSent_56 rfl rfl ?_
    refine r_getR (pc2 := 60) dX8_keepsSent_57 fl_X8_35 (by decide) rfl rfl rfl ?_
    refine r_bipush (pc2 := 62) (nI 8) dX8_keepsSent_60 (by decide) rfl ?_
    refine r_iload_n (pc2 := 63) dX8_keepsSent_62 rfl rfl ?_
    refine r_imulN (pc2 := 64) dX8_keepsSent_63 rfl ?_
    refine r_iload_n (pc2 := 65) dX8_keepsSent_64 rfl rfl ?_
    refine r_iaddN (pc2 := 66) dX8_keepsSent_65 rfl ?_
    refine r_ialde (pc2 := 67) (x := ((V 0 41 (8 * i + b)))) (j := _) (rfl) dX8_keepsSent_66 (by decide) rfl rfl (rfl) (by show _ < 64; omega) rfl ?_
    refine r_iast (pc2 := 68) (j := _) dX8_keepsSent_67 (by decide) rfl rfl (rfl) (by show _ < 3596; omega) rfl ?_
    refine r_iincN (pc2 := 71) dX8_keepsSent_68 rfl (by decide) rfl rfl ?_
    refine r_goto (pc2 := 13) dX8_keepsSent_71 (by decide) ?_
    exact Rc_.to (lo' := (fun b : Nat => [some (vR 0 33), some (vI (nI i)), some (vI (nI b))]) (b + 1)) ((ks_1 (by omega) (by omega) (by omega) rfl).symm) ⟨rfl, rfl, rfl, trivial⟩ (ih13 (by omega))

theorem RT_.rc {x x' f : Nat → Int32} {s : Sg_} {K : Nat} {lo up t : Int32} (h : RT_ x s) (hK : K < 512) (ho : ∀ q, ¬ (256 + 6 * K ≤ q ∧ q < 256 + 6 * K + 6) → x' q = x q)
    (h0 : x' (256 + 6 * K) = nI 1) (h1 : x' (256 + 6 * K + 1) = lo) (h2 : x' (256 + 6 * K + 2) = up) (h3 : x' (256 + 6 * K + 3) = t + f 1) (h4 : x' (256 + 6 * K + 4) = rc_ f s K lo up t 10 K) (h5 : x' (256 + 6 * K + 5) = rc_ f s K lo up t 11 K)
    (ht : 0 < t + f 1) (hlo : 0 ≤ lo ∧ lo ≤ 30000) (hup : 0 ≤ up ∧ up ≤ 30000) (hown : ∀ a c, a < 8 → c < 8 → ¬ (a * 8 + a) * 8 + c = K ∧ ¬ (a * 8 + c) * 8 + a = K) : RT_ x' (rc_ f s K lo up t) := by
  have hne : ∀ r i, (r < 7 ∨ 11 < r) → rc_ f s K lo up t r i = s r i := fun r i hr => by
    unfold rc_
    split
    · rw [if_neg (by omega), if_neg (by omega), if_neg (by omega), if_neg (by omega), if_neg (by omega)]
    · rfl
  have hni : ∀ r i, ¬ i = K → rc_ f s K lo up t r i = s r i := fun r i hi => by unfold rc_; rw [if_neg hi]
  have e7 : rc_ f s K lo up t 7 K = lo := by unfold rc_; rw [if_pos rfl, if_pos rfl]
  have e8 : rc_ f s K lo up t 8 K = up := by unfold rc_; rw [if_pos rfl, if_neg (by decide), if_pos rfl]
  have e9 : rc_ f s K lo up t 9 K = t + f 1 := by unfold rc_; rw [if_pos rfl, if_neg (by decide), if_neg (by decide), if_pos rfl]
  refine ⟨⟨?_, ?_, ?_, ?_, ?_, ?_, ?_, ?_, ?_, ?_, ?_⟩, ?_, ?_, ?_, ?_, ?_, ?_, ?_⟩
  · intro k hk; rw [hne 5 k (by omega), hne 2 k (by omega)]; exact h.iv.up k hk
  · intro a ha; rw [hne 5 _ (by omega)]; exact h.iv.ud a ha
  · intro k hk; rw [hne 5 k (by omega)]; exact h.iv.u01 k hk
  · intro a c ha hc; rw [hni 9 _ (hown a c ha hc).1]; exact h.iv.sd a c ha hc
  · intro a c ha hc; rw [hni 9 _ (hown a c ha hc).2]; exact h.iv.sn a c ha hc
  · intro k hk
    by_cases e : k = K
    · rw [e, e7]; exact hlo
    · rw [hni 7 k e]; exact h.iv.b7 k hk
  · intro k hk
    by_cases e : k = K
    · rw [e, e8]; exact hup
    · rw [hni 8 k e]; exact h.iv.b8 k hk
  · intro k hk; rw [hne 2 k (by omega)]; exact h.iv.l2 k hk
  · intro k hk; rw [hne 3 k (by omega)]; exact h.iv.l3 k hk
  · intro k hk; rw [hne 4 k (by omega)]; exact h.iv.l4 k hk
  · intro a b ha hb; rw [hne 2 _ (by omega), hne 2 _ (by omega), hne 3 _ (by omega), hne 3 _ (by omega)]; exact h.iv.sy a b ha hb
  · intro k w hk hw; rw [ho _ (by omega), hne (2 + w) k (by omega)]; exact h.lk k w hk hw
  · intro k hk
    by_cases e : k = K
    · rw [e, h0, e9, show decide (0 < t + f 1) = true from decide_eq_true ht]; rfl
    · rw [ho _ (by omega), hni 9 k e]; exact h.pr k hk
  · intro k w hk hw
    by_cases e : k = K
    · subst e
      obtain rfl | rfl | rfl | rfl | rfl : w = 0 ∨ w = 1 ∨ w = 2 ∨ w = 3 ∨ w = 4 := by omega
      · exact h1.trans e7.symm
      · exact h2.trans e8.symm
      · exact h3.trans e9.symm
      · exact h4
      · exact h5
    · rw [ho _ (by omega), hni (7 + w) k e]; exact h.en k w hk hw
  · intro k hk; rw [ho _ (by omega), hne 17 k (by omega)]; exact h.ck k hk
  · rw [ho _ (by omega), hne 0 1 (by omega)]; exact h.tm
  · rw [ho _ (by omega), hne 0 2 (by omega)]; exact h.se
  · rw [ho _ (by omega), hne 1 0 (by omega)]; exact h.lc
/-- what receiving leaves -/
def rx_ (V V' : Mm_) (K : Nat) (s' : Sg_) : Prop := (∀ g r, ¬ (g = 0 ∧ r = 34) → V' g r = V g r) ∧ (∀ q, ¬ (256 + 6 * K ≤ q ∧ q < 256 + 6 * K + 6) → V' 0 34 q = V 0 34 q) ∧ RT_ (V' 0 34) s'
theorem mi_ne {V : Mm_} {g r i g' r' k : Nat} {x : Int32} (h : ¬ (g' = g ∧ r' = r ∧ k = i)) : m_set V g r i x g' r' k = V g' r' k := by
  by_cases e : g' = g ∧ r' = r
  · obtain ⟨rfl, rfl⟩ := e
    exact m_i (fun z => h ⟨rfl, rfl, z⟩)
  · rw [m_ne e]
theorem mi_eq {V : Mm_} {g r i k : Nat} {x y : Int32} (h : k = i) (hx : x = y) : m_set V g r i x g r k = y := by rw [m_j h, hx]
theorem rc_10a {f : Nat → Int32} {s : Sg_} {k : Nat} {lo up t : Int32} (h : s 9 k < t) : rc_ f s k lo up t 10 k = nI 0 ∧ rc_ f s k lo up t 11 k = nI 0 := by
  unfold rc_
  rw [if_pos rfl, if_neg (by decide), if_neg (by decide), if_neg (by decide), if_pos rfl, if_pos h, if_pos rfl, if_neg (by decide), if_neg (by decide), if_neg (by decide), if_neg (by decide), if_pos rfl, if_pos h]
  exact ⟨rfl, rfl⟩
theorem rc_10b {f : Nat → Int32} {s : Sg_} {k : Nat} {lo up t : Int32} (h : ¬ s 9 k < t) (h2 : gw_ s k up < f 8) : rc_ f s k lo up t 10 k = gw_ s k up ∧ rc_ f s k lo up t 11 k = s 11 k := by
  unfold rc_
  rw [if_pos rfl, if_neg (by decide), if_neg (by decide), if_neg (by decide), if_pos rfl, if_neg h, if_pos h2, if_pos rfl, if_neg (by decide), if_neg (by decide), if_neg (by decide), if_neg (by decide), if_pos rfl, if_neg h, if_pos h2]
  exact ⟨rfl, rfl⟩
theorem rc_10c {f : Nat → Int32} {s : Sg_} {k : Nat} {lo up t : Int32} (h : ¬ s 9 k < t) (h2 : ¬ gw_ s k up < f 8) : rc_ f s k lo up t 10 k = nI 0 ∧ rc_ f s k lo up t 11 k = t + f 9 := by
  unfold rc_
  rw [if_pos rfl, if_neg (by decide), if_neg (by decide), if_neg (by decide), if_pos rfl, if_neg h, if_neg h2, if_pos rfl, if_neg (by decide), if_neg (by decide), if_neg (by decide), if_neg (by decide), if_pos rfl, if_neg h, if_neg h2]
  exact ⟨rfl, rfl⟩
/-- a fresh entry: what is written -/
abbrev xa_ (V : Mm_) (e : Nat) (lo up x : Int32) : Mm_ := m_set (m_set (m_set (m_set (m_set (m_set V 0 34 (e + 0) (nI 1)) 0 34 (e + 0 + 4) (nI 0)) 0 34 (e + 0 + 5) (nI 0)) 0 34 (e + 0 + 1) lo) 0 34 (e + 0 + 2) up) 0 34 (e + 0 + 3) x
abbrev xb_ (V : Mm_) (e : Nat) (g lo up x : Int32) : Mm_ := m_set (m_set (m_set (m_set V 0 34 (e + 0 + 4) g) 0 34 (e + 0 + 1) lo) 0 34 (e + 0 + 2) up) 0 34 (e + 0 + 3) x
abbrev xc_ (V : Mm_) (e : Nat) (g y lo up x : Int32) : Mm_ := m_set (m_set (m_set (m_set (m_set (m_set V 0 34 (e + 0 + 4) g) 0 34 (e + 0 + 5) y) 0 34 (e + 0 + 4) (nI 0)) 0 34 (e + 0 + 1) lo) 0 34 (e + 0 + 2) up) 0 34 (e + 0 + 3) x
theorem rx_a {V : Mm_} {f : Nat → Int32} {s : Sg_} {K : Nat} {lo up t : Int32} (h : RT_ (V 0 34) s) (hK : K < 512) (ht : 0 < t + f 1) (hlo : 0 ≤ lo ∧ lo ≤ 30000) (hup : 0 ≤ up ∧ up ≤ 30000) (hown : ∀ a c, a < 8 → c < 8 → ¬ (a * 8 + a) * 8 + c = K ∧ ¬ (a * 8 + c) * 8 + a = K) (h9 : s 9 K < t) : rx_ V (xa_ V (256 + 6 * K) lo up (t + f 1)) K (rc_ f s K lo up t) := by
  obtain ⟨q1, q2⟩ := rc_10a (f := f) (lo := lo) (up := up) h9
  unfold xa_
  refine ⟨fun g r hg => ?_, fun q hq => ?_, h.rc hK (fun q hq => ?_) ?_ ?_ ?_ ?_ ?_ ?_ ht hlo hup hown⟩
  · rw [m_ne hg, m_ne hg, m_ne hg, m_ne hg, m_ne hg, m_ne hg]
  · rw [m_i (by omega), m_i (by omega), m_i (by omega), m_i (by omega), m_i (by omega), m_i (by omega)]
  · rw [m_i (by omega), m_i (by omega), m_i (by omega), m_i (by omega), m_i (by omega), m_i (by omega)]
  · rw [m_i (by omega), m_i (by omega), m_i (by omega), m_i (by omega), m_i (by omega), m_j (by omega)]
  · rw [m_i (by omega), m_i (by omega), m_j (by omega)]
  · rw [m_i (by omega), m_j (by omega)]
  · rw [m_j (by omega)]
  · rw [m_i (by omega), m_i (by omega), m_i (by omega), m_i (by omega), m_j (by omega), q1]
  · rw [m_i (by omega), m_i (by omega), m_i (by omega), m_j (by omega), q2]
theorem pr_1 {x : Nat → Int32} {s : Sg_} {K : Nat} {t : Int32} (h : RT_ x s) (hK : K < 512) (ht : 0 ≤ t) (h9 : ¬ s 9 K < t) (hp : 0 < s 9 K) : x (256 + 6 * K) = nI 1 := by rw [h.pr K hK, decide_eq_true hp]; rfl
theorem rx_b {V : Mm_} {f : Nat → Int32} {s : Sg_} {K : Nat} {g lo up t : Int32} (h : RT_ (V 0 34) s) (hK : K < 512) (ht : 0 < t + f 1) (hlo : 0 ≤ lo ∧ lo ≤ 30000) (hup : 0 ≤ up ∧ up ≤ 30000) (hown : ∀ a c, a < 8 → c < 8 → ¬ (a * 8 + a) * 8 + c = K ∧ ¬ (a * 8 + c) * 8 + a = K) (hp : 0 < s 9 K) (h9 : ¬ s 9 K < t) (hg : g = gw_ s K up) (h8 : g < f 8) : rx_ V (xb_ V (256 + 6 * K) g lo up (t + f 1)) K (rc_ f s K lo up t) := by
  subst hg
  obtain ⟨q1, q2⟩ := rc_10b (f := f) (lo := lo) (up := up) h9 h8
  unfold xb_
  refine ⟨fun g r hg => ?_, fun q hq => ?_, h.rc hK (fun q hq => ?_) ?_ ?_ ?_ ?_ ?_ ?_ ht hlo hup hown⟩
  · rw [m_ne hg, m_ne hg, m_ne hg, m_ne hg]
  · rw [m_i (by omega), m_i (by omega), m_i (by omega), m_i (by omega)]
  · rw [m_i (by omega), m_i (by omega), m_i (by omega), m_i (by omega)]
  · rw [m_i (by omega), m_i (by omega), m_i (by omega), m_i (by omega), h.pr K hK, decide_eq_true hp]; rfl
  · rw [m_i (by omega), m_i (by omega), m_j (by omega)]
  · rw [m_i (by omega), m_j (by omega)]
  · rw [m_j (by omega)]
  · rw [m_i (by omega), m_i (by omega), m_i (by omega), m_j (by omega), q1]
  · rw [m_i (by omega), m_i (by omega), m_i (by omega), m_i (by omega), q2]; exact h.ge 4 hK (by omega) (by omega) rfl
theorem rx_c {V : Mm_} {f : Nat → Int32} {s : Sg_} {K : Nat} {g lo up t : Int32} (h : RT_ (V 0 34) s) (hK : K < 512) (ht : 0 < t + f 1) (hlo : 0 ≤ lo ∧ lo ≤ 30000) (hup : 0 ≤ up ∧ up ≤ 30000) (hown : ∀ a c, a < 8 → c < 8 → ¬ (a * 8 + a) * 8 + c = K ∧ ¬ (a * 8 + c) * 8 + a = K) (hp : 0 < s 9 K) (h9 : ¬ s 9 K < t) (hg : g = gw_ s K up) (h8 : ¬ g < f 8) : rx_ V (xc_ V (256 + 6 * K) g (t + f 9) lo up (t + f 1)) K (rc_ f s K lo up t) := by
  subst hg
  obtain ⟨q1, q2⟩ := rc_10c (f := f) (lo := lo) (up := up) h9 h8
  unfold xc_
  refine ⟨fun g r hg => ?_, fun q hq => ?_, h.rc hK (fun q hq => ?_) ?_ ?_ ?_ ?_ ?_ ?_ ht hlo hup hown⟩
  · rw [m_ne hg, m_ne hg, m_ne hg, m_ne hg, m_ne hg, m_ne hg]
  · rw [m_i (by omega), m_i (by omega), m_i (by omega), m_i (by omega), m_i (by omega), m_i (by omega)]
  · rw [m_i (by omega), m_i (by omega), m_i (by omega), m_i (by omega), m_i (by omega), m_i (by omega)]
  · rw [m_i (by omega), m_i (by omega), m_i (by omega), m_i (by omega), m_i (by omega), m_i (by omega), h.pr K hK, decide_eq_true hp]; rfl
  · rw [m_i (by omega), m_i (by omega), m_j (by omega)]
  · rw [m_i (by omega), m_j (by omega)]
  · rw [m_j (by omega)]
  · rw [m_i (by omega), m_i (by omega), m_i (by omega), m_j (by omega), q1]
  · rw [m_i (by omega), m_i (by omega), m_i (by omega), m_i (by omega), m_j (by omega), q2]