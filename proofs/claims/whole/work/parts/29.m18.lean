/-! reference: notes of changes: written by wip/whole/m18.py -/
theorem nI_dec {a b : Nat} (h : a = b + 1) : nI a + Int32.ofInt (-1) = nI b := by
  subst h
  rw [← nI_add, Int32.add_assoc, show nI 1 + Int32.ofInt (-1) = 0 by decide, Int32.add_zero]
/-- the journal moved on by one, from its end -/
def sf2_ (x : Nat → Int32) (q : Nat) : Nat → Int32 := fun k => if 3591 - q < k ∧ k ≤ 3591 then x (k - 4) else x k
theorem sf2_0 {V : Mm_} : a_set V 0 34 (sf2_ (V 0 34) 0) = V := by
  refine (congrArg (a_set V 0 34) ?_).trans (a_id V 0 34)
  funext k
  unfold sf2_
  rw [if_neg (by omega)]
theorem sf2_1 {V : Mm_} {x : Nat → Int32} {q a b : Nat} (hq : q < 60) (ha : a = 3591 - q) (hb : b = 3591 - q - 4) : m_set (a_set V 0 34 (sf2_ x q)) 0 34 a (a_set V 0 34 (sf2_ x q) 0 34 b) = a_set V 0 34 (sf2_ x (q + 1)) := by
  subst ha hb
  show a_set (a_set V 0 34 _) 0 34 _ = _
  rw [a_twice, a_same]
  refine congrArg (a_set V 0 34) ?_
  funext k
  simp only [sf2_, upd]
  by_cases e : k = 3591 - q
  · rw [if_pos e, if_neg (by omega), if_pos (by omega), e]
  · rw [if_neg e]
    by_cases c : 3591 - q < k ∧ k ≤ 3591
    · rw [if_pos c, if_pos (by omega)]
    · rw [if_neg c, if_neg (by omega)]
theorem js_1 {m : Nat} : js_ (m + 1) = if 16 ≤ js_ m then 16 else js_ m + 1 := by
  unfold js_
  split <;> split <;> split <;> omega
/-- what noting leaves -/
def no_ (V V' : Mm_) (s' : Sg_) (m q : Nat) : Prop := (∀ g r, ¬ (g = 0 ∧ (r = 33 ∨ r = 34)) → V' g r = V g r) ∧ (∀ k, ¬ k = 14 → V' 0 33 k = V 0 33 k) ∧ V' 0 33 14 = nI (q + 1) ∧ (∀ k, ¬ (3528 ≤ k ∧ k ≤ 3592) → V' 0 34 k = V 0 34 k) ∧ RJ_ (V' 0 34) s' (m + 1)
theorem RJ_.no {x x' : Nat → Int32} {s : Sg_} {m : Nat} {t a b c : Int32} (h : RJ_ x s m) (h0 : x' 3528 = t) (h1 : x' 3529 = a) (h2 : x' 3530 = b) (h3 : x' 3531 = c) (hs : ∀ k, 3532 ≤ k → k ≤ 3591 → x' k = x (k - 4)) (hz : x' 3592 = nI (js_ (m + 1))) : RJ_ x' (jn_ s m t a b c) (m + 1) := by
  have hl := js_le m
  have hl1 := js_le (m + 1)
  have hj := @js_1 m
  refine ⟨?_, hz, fun i w hi hw => ?_⟩
  · simp [jn_]
  · by_cases e : i = 0
    · subst e
      rw [show (m + 1 - 1 - 0) % 16 = m % 16 by omega]
      obtain rfl | rfl | rfl | rfl : w = 0 ∨ w = 1 ∨ w = 2 ∨ w = 3 := by omega
      · show x' 3528 = _
        rw [h0]; unfold jn_; rw [if_pos ⟨rfl, rfl⟩]
      · show x' 3529 = _
        rw [h1]; unfold jn_; rw [if_neg (by omega), if_pos ⟨rfl, rfl⟩]
      · show x' 3530 = _
        rw [h2]; unfold jn_; rw [if_neg (by omega), if_neg (by omega), if_pos ⟨rfl, rfl⟩]
      · show x' 3531 = _
        rw [h3]; unfold jn_; rw [if_neg (by omega), if_neg (by omega), if_neg (by omega), if_pos ⟨rfl, rfl⟩]
    · have hij : i - 1 < js_ m := by
        split at hj <;> omega
      rw [hs _ (by omega) (by omega), show 3528 + 4 * i + w - 4 = 3528 + 4 * (i - 1) + w by omega, h.rw (i - 1) w hij hw]
      unfold jn_
      rw [if_neg (by omega), if_neg (by omega), if_neg (by omega), if_neg (by omega), if_neg (by omega)]
      refine congrArg (s 16) ?_
      omega

theorem no_m {V : Mm_} {s : Sg_} {m q i j : Nat} {p : Int32} (h : RJ_ (V 0 34) s m) : no_ V (m_set (m_set (m_set (m_set (m_set (m_set (a_set V 0 34 (sf2_ (V 0 34) 60)) 0 34 3528 (V 0 34 3593)) 0 34 3529 (nI i)) 0 34 3530 (nI j)) 0 34 3531 p) 0 34 3592 (nI (js_ (m + 1)))) 0 33 14 (nI (q + 1))) (jn_ s m (V 0 34 3593) (nI i) (nI j) p) m q := by
  refine ⟨fun g r hg => ?_, fun k hk => ?_, ?_, fun k hk => ?_, ?_⟩
  · rw [m_ne (by omega), m_ne (by omega), m_ne (by omega), m_ne (by omega), m_ne (by omega), m_ne (by omega), a_ne (by omega)]
  · rw [m_i hk, m_ne (by omega), m_ne (by omega), m_ne (by omega), m_ne (by omega), m_ne (by omega), a_ne (by omega)]
  · rw [m_j rfl]
  · rw [m_ne (by omega), m_i (by omega), m_i (by omega), m_i (by omega), m_i (by omega), m_i (by omega), a_same]
    unfold sf2_
    rw [if_neg (by omega)]
  · rw [m_ne (by omega)]
    refine h.no ?_ ?_ ?_ ?_ (fun k h1 h2 => ?_) ?_
    · rw [m_i (by decide), m_i (by decide), m_i (by decide), m_i (by decide), m_j rfl]
    · rw [m_i (by decide), m_i (by decide), m_i (by decide), m_j rfl]
    · rw [m_i (by decide), m_i (by decide), m_j rfl]
    · rw [m_i (by decide), m_j rfl]
    · rw [m_i (by omega), m_i (by omega), m_i (by omega), m_i (by omega), m_i (by omega), a_same]
      unfold sf2_
      rw [if_pos (by omega)]
    · rw [m_j rfl]
set_option maxRecDepth 100000 in
set_option maxHeartbeats 4000000 in
theorem c_X8_notes {PL : List (Nat × Nat)} {V : Mm_} {s : Sg_} {m q i j : Nat} {p : Int32} (h : RJ_ (V 0 34) s m) (hc : V 0 33 14 = nI q) (hi : i < 8) (hj : j < 8) : Cv_ PL mX8_notes [vR 0 33, vI (nI i), vI (nI j), vI p] V (fun V' => no_ V V' (jn_ s m (V 0 34 3593) (nI i) (nI j) p) m q) := by
  refine Ca_.of mv_X8_notes.2.2.2.2.2.2 1 (lo := [some (vR 0 33), some (vI (nI i)), some (vI (nI j)), some (vI p), none]) rfl (Nat.le_of_ble_eq_true rfl) ?_
  have hjl := js_le m
  refine r_sipush (pc2 := 3) (nI 3591) dX8_notes_0 (by decide) rfl ?_
  refine r_istore (pc2 := 5) dX8_notes_3 (by decide) rfl rfl ?_
  refine Rc_.to (V' := (fun k => a_set V 0 34 (sf2_ (V 0 34) k)) 0) (lo' := (fun k : Nat => [some (vR 0 33), some (vI (nI i)), some (vI (nI j)), some (vI p), some (vI (nI ((3591 - k))))]) 0) (sf2_0.symm) ⟨rfl, rfl, rfl, rfl, rfl, trivial⟩ ?_
  refine Rc_for 0 (60) (fun k : Nat => [some (vR 0 33), some (vI (nI i)), some (vI (nI j)), some (vI p), some (vI (nI ((3591 - k))))]) (fun k => a_set V 0 34 (sf2_ (V 0 34) k)) (by omega) (fun k hk0 hkN ih5 => ?_)
  refine r_iload (pc2 := 7) dX8_notes_5 rfl rfl ?_
  refine r_sipush (pc2 := 10) (nI 3532) dX8_notes_7 (by decide) rfl ?_
  refine r_icN_lt (pc2 := 13) (tgt := 35) (by omega) (by omega) dX8_notes_10 (by decide) rfl (fun c10 => ?_) (fun c10 => ?_)
  · skip
    have e : k = 60 := by omega
    subst e
    refine r_aload_n (pc2 := 36) dX8_notes_35 rfl rfl ?_
    refine r_getR (pc2 := 39) dX8_notes_36 fl_X8_13 (by decide) rfl rfl rfl ?_
    refine r_sipush (pc2 := 42) (nI 3528) dX8_notes_39 (by decide) rfl ?_
    refine r_aload_n (pc2 := 43) dX8_notes_42 rfl rfl ?_
    refine r_getR (pc2 := 46) dX8_notes_43 fl_X8_13 (by decide) rfl rfl rfl ?_
    refine r_sipush (pc2 := 49) (nI 3593) dX8_notes_46 (by decide) rfl ?_
    refine r_ialde (pc2 := 50) (x := ((V 0 34 3593))) (j := _) (by rw [a_same]; unfold sf2_; rw [if_neg (by omega)]) dX8_notes_49 (by decide) rfl rfl (rfl) (by show _ < 3596; omega) rfl ?_
    refine r_iast (pc2 := 51) (j := _) dX8_notes_50 (by decide) rfl rfl (rfl) (by show _ < 3596; omega) rfl ?_
    refine r_aload_n (pc2 := 52) dX8_notes_51 rfl rfl ?_
    refine r_getR (pc2 := 55) dX8_notes_52 fl_X8_13 (by decide) rfl rfl rfl ?_
    refine r_sipush (pc2 := 58) (nI 3529) dX8_notes_55 (by decide) rfl ?_
    refine r_iload_n (pc2 := 59) dX8_notes_58 rfl rfl ?_
    refine r_iast (pc2 := 60) (j := _) dX8_notes_59 (by decide) rfl rfl (rfl) (by show _ < 3596; omega) rfl ?_
    refine r_aload_n (pc2 := 61) dX8_notes_60 rfl rfl ?_
    refine r_getR (pc2 := 64) dX8_notes_61 fl_X8_13 (by decide) rfl rfl rfl ?_
    refine r_sipush (pc2 := 67) (nI 3530) dX8_notes_64 (by decide) rfl ?_
    refine r_iload_n (pc2 := 68) dX8_notes_67 rfl rfl ?_
    refine r_iast (pc2 := 69) (j := _) dX8_notes_68 (by decide) rfl rfl (rfl) (by show _ < 3596; omega) rfl ?_
    refine r_aload_n (pc2 := 70) dX8_notes_69 rfl rfl ?_
    refine r_getR (pc2 := 73) dX8_notes_70 fl_X8_13 (by decide) rfl rfl rfl ?_
    refine r_sipush (pc2 := 76) (nI 3531) dX8_notes_73 (by decide) rfl ?_
    refine r_iload_n (pc2 := 77) dX8_notes_76 rfl rfl ?_
    refine r_iast (pc2 := 78) (j := _) dX8_notes_77 (by decide) rfl rfl (rfl) (by show _ < 3596; omega) rfl ?_
    refine r_aload_n (pc2 := 79) dX8_notes_78 rfl rfl ?_
    refine r_getR (pc2 := 82) dX8_notes_79 fl_X8_13 (by decide) rfl rfl rfl ?_
    refine r_sipush (pc2 := 85) (nI 3592) dX8_notes_82 (by decide) rfl ?_
    refine r_aload_n (pc2 := 86) dX8_notes_85 rfl rfl ?_
    refine r_getR (pc2 := 89) dX8_notes_86 fl_X8_13 (by decide) rfl rfl rfl ?_
    refine r_sipush (pc2 := 92) (nI 3592) dX8_notes_89 (by decide) rfl ?_
    refine r_ialde (pc2 := 93) (x := (nI ((js_ m)))) (j := _) (by rw [m_i (by decide), m_i (by decide), m_i (by decide), m_i (by decide), a_same]; unfold sf2_; rw [if_neg (by omega)]; exact h.sz) dX8_notes_92 (by decide) rfl rfl (rfl) (by show _ < 3596; omega) rfl ?_
    refine r_bipush (pc2 := 95) (nI 16) dX8_notes_93 (by decide) rfl ?_
    refine r_icN_ge (pc2 := 98) (tgt := 111) (by omega) (by omega) dX8_notes_95 (by decide) rfl (fun c95 => ?_) (fun c95 => ?_)
    · skip
      refine r_bipush (pc2 := 113) (nI 16) dX8_notes_111 (by decide) rfl ?_
      refine r_as (x' := (nI ((js_ (m + 1))))) (congrArg nI (by have e := @js_1 m; have e2 := js_le m; split at e <;> omega)) ?_
      refine r_iast (pc2 := 114) (j := _) dX8_notes_113 (by decide) rfl rfl (rfl) (by show _ < 3596; omega) rfl ?_
      refine r_aload_n (pc2 := 115) dX8_notes_114 rfl rfl ?_
      refine r_dup (pc2 := 116) dX8_notes_115 rfl ?_
      refine r_getIe (pc2 := 119) (x := (nI q)) (by rw [m_ne (by omega), m_ne (by omega), m_ne (by omega), m_ne (by omega), m_ne (by omega), a_ne (by omega)]; exact hc) dX8_notes_116 fl_X8_121 (by decide) rfl rfl rfl ?_
      refine r_iconst (pc2 := 120) (nI 1) dX8_notes_119 (by decide) rfl ?_
      refine r_iaddN (pc2 := 121) dX8_notes_120 rfl ?_
      refine r_put (pc2 := 124) dX8_notes_121 fl_X8_121 (by decide) rfl rfl ft_8_14 rfl rfl rfl ?_
      exact r_vret dX8_notes_124 rfl (no_m h)
    · skip
      refine r_aload_n (pc2 := 99) dX8_notes_98 rfl rfl ?_
      refine r_getR (pc2 := 102) dX8_notes_99 fl_X8_13 (by decide) rfl rfl rfl ?_
      refine r_sipush (pc2 := 105) (nI 3592) dX8_notes_102 (by decide) rfl ?_
      refine r_ialde (pc2 := 106) (x := (nI ((js_ m)))) (j := _) (by rw [m_i (by decide), m_i (by decide), m_i (by decide), m_i (by decide), a_same]; unfold sf2_; rw [if_neg (by omega)]; exact h.sz) dX8_notes_105 (by decide) rfl rfl (rfl) (by show _ < 3596; omega) rfl ?_
      refine r_iconst (pc2 := 107) (nI 1) dX8_notes_106 (by decide) rfl ?_
      refine r_iaddN (pc2 := 108) dX8_notes_107 rfl ?_
      refine r_goto (pc2 := 113) dX8_notes_108 (by decide) ?_
      refine r_as (x' := (nI ((js_ (m + 1))))) (congrArg nI (by have e := @js_1 m; have e2 := js_le m; split at e <;> omega)) ?_
      refine r_iast (pc2 := 114) (j := _) dX8_notes_113 (by decide) rfl rfl (rfl) (by show _ < 3596; omega) rfl ?_
      refine r_aload_n (pc2 := 115) dX8_notes_114 rfl rfl ?_
      refine r_dup (pc2 := 116) dX8_notes_115 rfl ?_
      refine r_getIe (pc2 := 119) (x := (nI q)) (by rw [m_ne (by omega), m_ne (by omega), m_ne (by omega), m_ne (by omega), m_ne (by omega), a_ne (by omega)]; exact hc) dX8_notes_116 fl_X8_121 (by decide) rfl rfl rfl ?_
      refine r_iconst (pc2 := 120) (nI 1) dX8_notes_119 (by decide) rfl ?_
      refine r_iaddN (pc2 := 121) dX8_notes_120 rfl ?_
      refine r_put (pc2 := 124) dX8_notes_121 fl_X8_121 (by decide) rfl rfl ft_8_14 rfl rfl rfl ?_
      exact r_vret dX8_notes_124 rfl (no_m h)
  · skip
    refine r_aload_n (pc2 := 14) dX8_notes_13 rfl rfl ?_
    refine r_getR (pc2 := 17) dX8_notes_14 fl_X8_13 (by decide) rfl rfl rfl ?_
    refine r_iload (pc2 := 19) dX8_notes_17 rfl rfl ?_
    refine r_aload_n (pc2 := 20) dX8_notes_19 rfl rfl ?_
    refine r_getR (pc2 := 23) dX8_notes_20 fl_X8_13 (by decide) rfl rfl rfl ?_
    refine r_iload (pc2 := 25) dX8_notes_23 rfl rfl ?_
    refine r_iconst (pc2 := 26) (nI 4) dX8_notes_25 (by decide) rfl ?_
    refine r_isubN (pc2 := 27) (by omega) dX8_notes_26 rfl ?_
    refine r_iald (pc2 := 28) (j := _) dX8_notes_27 (by decide) rfl rfl (rfl) (by show _ < 3596; omega) rfl ?_
    refine r_iast (pc2 := 29) (j := _) dX8_notes_28 (by decide) rfl rfl (rfl) (by show _ < 3596; omega) rfl ?_
    refine r_iinc (pc2 := 32) (v := (nI ((3591 - (k + 1))))) dX8_notes_29 rfl (by decide) (nI_dec (by omega)) rfl rfl ?_
    refine r_goto (pc2 := 5) dX8_notes_32 (by decide) ?_
    exact Rc_.to (lo' := (fun k : Nat => [some (vR 0 33), some (vI (nI i)), some (vI (nI j)), some (vI p), some (vI (nI ((3591 - k))))]) (k + 1)) (sf2_1 (by omega) rfl rfl) ⟨rfl, rfl, rfl, rfl, rfl, trivial⟩ (ih5 (by omega))
