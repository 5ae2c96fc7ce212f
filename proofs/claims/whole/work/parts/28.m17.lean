/-! reference: sending: written by wip/whole/m17.py -/
theorem rc_ss {f : Nat → Int32} {s : Sg_} {k : Nat} {lo up t : Int32} : rc_ f (ss_ s) k lo up t = ss_ (rc_ f s k lo up t) := by
  funext r i
  by_cases h0 : r = 0
  · subst h0
    by_cases hi : i = k
    · simp only [rc_, ss_, hi]; simp
    · simp only [rc_, ss_, hi]; simp
  · have e : ∀ (r' : Nat) (i' : Nat), ¬ r' = 0 → ss_ s r' i' = s r' i' := fun r' i' hr => by unfold ss_; rw [if_neg (fun z => hr z.1)]
    have e2 : ss_ (rc_ f s k lo up t) r i = rc_ f s k lo up t r i := by unfold ss_; rw [if_neg (fun z => h0 z.1)]
    rw [e2]
    unfold rc_ gw_
    rw [e 9 k (by decide), e 8 k (by decide), e 10 k (by decide), e 11 k (by decide), e r i h0]
theorem RT_.ss {x : Nat → Int32} {s : Sg_} (h : RT_ x s) {v : Int32} (hv : v = s 0 2 + nI 1) : RT_ (upd x 3594 v) (ss_ s) := by
  have e : ∀ (r' : Nat) (i' : Nat), ¬ r' = 0 → ss_ s r' i' = s r' i' := fun r' i' hr => by unfold ss_; rw [if_neg (fun z => hr z.1)]
  have ef : ∀ (r' : Nat), ¬ r' = 0 → ss_ s r' = s r' := fun r' hr => by funext i'; exact e r' i' hr
  have iv : IV_ (ss_ s) := by
    have iv := h.iv
    unfold IV_ at iv ⊢
    rw [ef 5 (by decide), ef 2 (by decide), ef 9 (by decide), ef 7 (by decide), ef 8 (by decide), ef 3 (by decide), ef 4 (by decide)]
    exact iv
  refine ⟨iv, ?_, ?_, ?_, ?_, ?_, ?_, ?_⟩
  · intro k w hk hw; rw [pk_un (by omega), e (2 + w) k (by omega)]; exact h.lk k w hk hw
  · intro k hk; rw [pk_un (by omega), e 9 k (by omega)]; exact h.pr k hk
  · intro k w hk hw; rw [pk_un (by omega), e (7 + w) k (by omega)]; exact h.en k w hk hw
  · intro k hk; rw [pk_un (by omega), e 17 k (by omega)]; exact h.ck k hk
  · rw [pk_un (by omega)]; exact h.tm
  · rw [pk_us, hv]; rfl
  · rw [pk_un (by omega)]; exact h.lc
/-- while a node sends -/
def sx_ (V V1 : Mm_) (s s1 : Sg_) : Prop := (∀ g r, ¬ (g = 0 ∧ r = 34) → V1 g r = V g r) ∧ (∀ q, 3328 ≤ q → ¬ q = 3594 → V1 0 34 q = V 0 34 q) ∧ RT_ (V1 0 34) s1 ∧ s1 0 1 = s 0 1 ∧ s1 5 = s 5
theorem sx_nn {V V1 V2 : Mm_} {s s1 : Sg_} {i b t : Nat} {re : Bool} {v : Int32} (hi : i < 8) (hb : b < 8) (ht : t < 8) (h : sx_ V V1 s s1) (h2 : rx_ V1 V2 ((b * 8 + t) * 8 + i) (rc_ (V1 0 37) s1 ((b * 8 + t) * 8 + i) (lim_ re (V1 0 37 6) (V1 0 40 (i * 8 + t) + s1 2 (i * 8 + b))) (lim_ re (V1 0 37 6) (V1 0 41 (i * 8 + t) + s1 3 (i * 8 + b))) (s1 0 1)))
    (hre : re = re_ (V 0 37) (V 0 41) (V 0 42) i b t) (hnx : ¬ (V 0 42 (i * 8 + t) = nI b ∧ V 0 37 3 = nI 1)) (hv : v = V2 0 34 3594 + nI 1) : sx_ V (m_set V2 0 34 3594 v) s (nn_ (V 0 37) (V 0 40) (V 0 41) (V 0 42) i b t s1) := by
  obtain ⟨h11, h12, h13, h14, h15⟩ := h
  obtain ⟨h21, h22, h23⟩ := h2
  have sy := h13.iv.sy i b hi hb
  rw [h11 0 37 (by omega), h11 0 40 (by omega), h11 0 41 (by omega), sy.1, sy.2] at h23
  have en : nn_ (V 0 37) (V 0 40) (V 0 41) (V 0 42) i b t s1 = ss_ (rc_ (V 0 37) s1 ((b * 8 + t) * 8 + i) (lim_ re (V 0 37 6) (V 0 40 (i * 8 + t) + s1 2 (b * 8 + i))) (lim_ re (V 0 37 6) (V 0 41 (i * 8 + t) + s1 3 (b * 8 + i))) (s1 0 1)) := by
    unfold nn_
    rw [if_neg hnx, rc_ss, hre]
  rw [en]
  refine ⟨fun g r hg => ?_, fun q hq hq2 => ?_, ?_, ?_, ?_⟩
  · rw [m_ne hg, h21 g r hg, h11 g r hg]
  · rw [m_i hq2, h22 q (by omega), h12 q hq hq2]
  · rw [m_same]
    exact h23.ss (by rw [hv, h23.se])
  · show rc_ _ _ _ _ _ _ 0 1 = _
    unfold rc_
    split
    · rw [if_neg (by decide), if_neg (by decide), if_neg (by decide), if_neg (by decide), if_neg (by decide)]; exact h14
    · exact h14
  · rw [← h15]
    funext k
    show rc_ _ _ _ _ _ _ 5 k = _
    unfold rc_
    split
    · rw [if_neg (by decide), if_neg (by decide), if_neg (by decide), if_neg (by decide), if_neg (by decide)]
    · rfl
theorem lim_b {re : Bool} {m x y : Int32} (hm : 0 ≤ m ∧ m ≤ 30000) (hx : re = true → 0 ≤ x ∧ x ≤ 30000) (hy : 0 ≤ y ∧ y ≤ 500) : 0 ≤ lim_ re m (x + y) ∧ lim_ re m (x + y) ≤ 30000 := by
  unfold lim_
  split
  · rename_i e
    have hx' := hx e
    have i5 : (500 : Int32).toInt = 500 := by decide
    simp only [Int32.le_iff_toInt_le, i_3, i_0, i5] at hm hx' hy
    have ea : (x + y).toInt = x.toInt + y.toInt := by rw [Int32.toInt_add]; exact Int.bmod_eq_of_le (by omega) (by omega)
    split
    · rename_i c
      rw [Int32.lt_iff_toInt_lt, ea] at c
      rw [Int32.le_iff_toInt_le, Int32.le_iff_toInt_le, ea, i_3, i_0]
      omega
    · rw [Int32.le_iff_toInt_le, Int32.le_iff_toInt_le, i_3, i_0]
      omega
  · exact hm
/-- bounds of what is told -/
def DB_ (V : Mm_) (n i : Nat) : Prop := ∀ t, t < n → V 0 41 (i * 8 + t) = -1 ∨ (0 ≤ V 0 41 (i * 8 + t) ∧ V 0 41 (i * 8 + t) ≤ 30000 ∧ 0 ≤ V 0 40 (i * 8 + t) ∧ V 0 40 (i * 8 + t) ≤ 30000)
/-- settings in their ranges -/
def SE_ (f : Nat → Int32) : Prop := (0 < f 0 ∧ f 0 ≤ 20) ∧ (0 < f 1 ∧ f 1 ≤ 100) ∧ ru_ (f 2) ∧ (0 ≤ f 6 ∧ f 6 ≤ 30000) ∧ nI 0 < f 8

set_option maxRecDepth 100000 in
set_option maxHeartbeats 4000000 in
theorem c_X8_sendsAll {PL : List (Nat × Nat)} {n : Nat} {V : Mm_} {s : Sg_} (h : RT_ (V 0 34) s) (hm : V 0 33 0 = nI n) (hn8 : n ≤ 8) {i : Nat} (hi : i < n) (hse : SE_ (V 0 37)) (tp0 : 0 < s 0 1) (tp : 0 < s 0 1 + V 0 37 1) (hD : DB_ V n i) : Cv_ PL mX8_sendsAll [vR 0 33, vI (nI i)] V (fun V' => sx_ V V' s (sk_ (V 0 37) (V 0 40) (V 0 41) (V 0 42) n i s)) := by
  refine Ca_.of mv_X8_sendsAll.2.2.2.2.2.2 4 (lo := [some (vR 0 33), some (vI (nI i)), none, none, none, none]) rfl (Nat.le_of_ble_eq_true rfl) ?_
  refine r_iconst (pc2 := 1) (nI 0) dX8_sendsAll_0 (by decide) rfl ?_
  refine r_istore_n (pc2 := 2) dX8_sendsAll_1 (by decide) rfl rfl ?_
  refine Rc_.to (V' := (fun V1 => V1) (V)) (lo' := (fun (b : Nat) (V1 : Mm_) => [some (vR 0 33), some (vI (nI i)), some (vI (nI b)), none, none, none]) 0 (V)) (rfl) ⟨rfl, rfl, rfl, trivial⟩ ?_
  refine Rc_forI 0 (n) (fun (b : Nat) (V1 : Mm_) => [some (vR 0 33), some (vI (nI i)), some (vI (nI b)), none, none, none]) (fun V1 => V1) (fun b V1 => sx_ V V1 s (it_ (fun b s => if s 5 (i * 8 + b) = nI 1 then it_ (fun t s => if t = b then s else nn_ (V 0 37) (V 0 40) (V 0 41) (V 0 42) i b t s) n s else s) b s)) (by omega) (fun b V1 hb0 hbN hO ih2 => ?_) (V) (⟨fun _ _ _ => rfl, fun _ _ _ => rfl, h, rfl, rfl⟩)
  refine r_iload_n (pc2 := 3) dX8_sendsAll_2 rfl rfl ?_
  refine r_aload_n (pc2 := 4) dX8_sendsAll_3 rfl rfl ?_
  refine r_getIe (pc2 := 7) (x := (nI n)) (by rw [hO.1 0 33 (by omega)]; exact hm) dX8_sendsAll_4 fl_X8_7 (by decide) rfl rfl rfl ?_
  refine r_icN_ge (pc2 := 10) (tgt := 136) (by omega) (by omega) dX8_sendsAll_7 (by decide) rfl (fun c7 => ?_) (fun c7 => ?_)
  · skip
    exact r_vret dX8_sendsAll_136 rfl (by (have e : b = n := by omega); subst e; exact hO)
  · skip
    refine r_iconst (pc2 := 11) (nI 0) dX8_sendsAll_10 (by decide) rfl ?_
    refine r_istore_n (pc2 := 12) dX8_sendsAll_11 (by decide) rfl rfl ?_
    refine Rc_.to (V' := (fun V2 => V2) (V1)) (lo' := (fun (t : Nat) (V2 : Mm_) => [some (vR 0 33), some (vI (nI i)), some (vI (nI b)), some (vI (nI t)), none, none]) 0 (V1)) (rfl) ⟨rfl, rfl, rfl, rfl, trivial⟩ ?_
    refine Rc_forI 0 (n) (fun (t : Nat) (V2 : Mm_) => [some (vR 0 33), some (vI (nI i)), some (vI (nI b)), some (vI (nI t)), none, none]) (fun V2 => V2) (fun t V2 => sx_ V V2 s (it_ (fun t s => if t = b then s else nn_ (V 0 37) (V 0 40) (V 0 41) (V 0 42) i b t s) t (it_ (fun b s => if s 5 (i * 8 + b) = nI 1 then it_ (fun t s => if t = b then s else nn_ (V 0 37) (V 0 40) (V 0 41) (V 0 42) i b t s) n s else s) b s)) ∧ (0 < t → s 5 (i * 8 + b) = nI 1)) (by omega) (fun t V2 ht0 htN hII ih12 => ?_) (V1) (⟨hO, fun z => absurd z (by omega)⟩)
    have hx := hII.1
    have h37 : V2 0 37 = V 0 37 := hx.1 0 37 (by omega)
    have h40 : V2 0 40 = V 0 40 := hx.1 0 40 (by omega)
    have h41 : V2 0 41 = V 0 41 := hx.1 0 41 (by omega)
    have h42 : V2 0 42 = V 0 42 := hx.1 0 42 (by omega)
    refine r_iload_n (pc2 := 13) dX8_sendsAll_12 rfl rfl ?_
    refine r_aload_n (pc2 := 14) dX8_sendsAll_13 rfl rfl ?_
    refine r_getIe (pc2 := 17) (x := (nI n)) (by rw [hx.1 0 33 (by omega)]; exact hm) dX8_sendsAll_14 fl_X8_7 (by decide) rfl rfl rfl ?_
    refine r_icN_ge (pc2 := 20) (tgt := 130) (by omega) (by omega) dX8_sendsAll_17 (by decide) rfl (fun c17 => ?_) (fun c17 => ?_)
    · skip
      refine r_iincN (pc2 := 133) dX8_sendsAll_130 rfl (by decide) rfl rfl ?_
      refine r_goto (pc2 := 2) dX8_sendsAll_133 (by decide) ?_
      exact Rc_.to (lo' := [some (vR 0 33), some (vI (nI i)), some (vI (nI ((b + 1)))), none, none, none]) (rfl) ⟨rfl, rfl, rfl, trivial⟩ (ih2 _ (by omega) (by show sx_ V _ s (if _ then _ else _); rw [hO.2.2.2.2]; (have e : t = n := by omega); subst e; rw [if_pos (hII.2 (by omega))]; exact hx))
    · skip
      refine r_aload_n (pc2 := 21) dX8_sendsAll_20 rfl rfl ?_
      refine r_iload_n (pc2 := 22) dX8_sendsAll_21 rfl rfl ?_
      refine r_iload_n (pc2 := 23) dX8_sendsAll_22 rfl rfl ?_
      refine r_cv2p (pc2 := 26) dX8_sendsAll_23 st_X8_sendsAll_91 rl_X8_areNear (Nat.le_of_ble_eq_true rfl) rfl (c_X8_areNear hx.2.2.1 (by omega) (by omega)) ?_
      rw [hx.2.2.2.2]
      refine r_ifB_eq (pc2 := 29) (tgt := 130) dX8_sendsAll_26 (by decide) rfl (fun c26 => ?_) (fun c26 => ?_)
      · skip
        refine r_iincN (pc2 := 133) dX8_sendsAll_130 rfl (by decide) rfl rfl ?_
        refine r_goto (pc2 := 2) dX8_sendsAll_133 (by decide) ?_
        exact Rc_.to (lo' := [some (vR 0 33), some (vI (nI i)), some (vI (nI ((b + 1)))), none, none, none]) (rfl) ⟨rfl, rfl, rfl, trivial⟩ (ih2 _ (by omega) (by show sx_ V _ s (if _ then _ else _); rw [hO.2.2.2.2]; rw [if_neg (of_decide_eq_false c26)]; (have e : t = 0 := Nat.eq_zero_of_not_pos (fun z => of_decide_eq_false c26 (hII.2 z))); subst e; exact hx))
      · skip
        have near := of_decide_eq_true c26
        refine r_bipush (pc2 := 31) (nI 8) dX8_sendsAll_29 (by decide) rfl ?_
        refine r_iload_n (pc2 := 32) dX8_sendsAll_31 rfl rfl ?_
        refine r_imulN (pc2 := 33) dX8_sendsAll_32 rfl ?_
        refine r_iload_n (pc2 := 34) dX8_sendsAll_33 rfl rfl ?_
        refine r_iaddN (pc2 := 35) dX8_sendsAll_34 rfl ?_
        refine r_istore (pc2 := 37) dX8_sendsAll_35 (by decide) rfl rfl ?_
        refine r_aload_n (pc2 := 38) dX8_sendsAll_37 rfl rfl ?_
        refine r_getR (pc2 := 41) dX8_sendsAll_38 fl_X8_38 (by decide) rfl rfl rfl ?_
        refine r_iload (pc2 := 43) dX8_sendsAll_41 rfl rfl ?_
        refine r_ialde (pc2 := 44) (x := ((V 0 42 (i * 8 + t)))) (j := _) (by rw [h42]; exact congrArg (V 0 42) (by omega)) dX8_sendsAll_43 (by decide) rfl rfl (rfl) (by show _ < 64; omega) rfl ?_
        refine r_iload_n (pc2 := 45) dX8_sendsAll_44 rfl rfl ?_
        refine r_ic_ne (pc2 := 48) (tgt := 52) dX8_sendsAll_45 (by decide) rfl (fun c45 => ?_) (fun c45 => ?_)
        · skip
          refine r_iconst (pc2 := 53) (nI 0) dX8_sendsAll_52 (by decide) rfl ?_
          refine r_istore (pc2 := 55) dX8_sendsAll_53 (by decide) rfl rfl ?_
          refine r_iload_n (pc2 := 56) dX8_sendsAll_55 rfl rfl ?_
          refine r_iload_n (pc2 := 57) dX8_sendsAll_56 rfl rfl ?_
          refine r_icN_eq (pc2 := 60) (tgt := 124) (by omega) (by omega) dX8_sendsAll_57 (by decide) rfl (fun c57 => ?_) (fun c57 => ?_)
          · skip
            refine r_iincN (pc2 := 127) dX8_sendsAll_124 rfl (by decide) rfl rfl ?_
            refine r_goto (pc2 := 12) dX8_sendsAll_127 (by decide) ?_
            exact Rc_.to (lo' := [some (vR 0 33), some (vI (nI i)), some (vI (nI b)), some (vI (nI ((t + 1)))), none, none]) (rfl) ⟨rfl, rfl, rfl, rfl, trivial⟩ (ih12 _ (by omega) (⟨by show sx_ V _ s (if t = b then _ else _); rw [if_pos c57]; exact hx, fun _ => near⟩))
          · skip
            refine r_iload (pc2 := 62) dX8_sendsAll_60 rfl rfl ?_
            refine r_if0N_eq (pc2 := 65) (tgt := 75) (by omega) dX8_sendsAll_62 (by decide) rfl (fun c62 => ?_) (fun c62 => ?_)
            · skip
              refine r_aload_n (pc2 := 76) dX8_sendsAll_75 rfl rfl ?_
              refine r_iload_n (pc2 := 77) dX8_sendsAll_76 rfl rfl ?_
              refine r_iload_n (pc2 := 78) dX8_sendsAll_77 rfl rfl ?_
              refine r_iload_n (pc2 := 79) dX8_sendsAll_78 rfl rfl ?_
              refine r_aload_n (pc2 := 80) dX8_sendsAll_79 rfl rfl ?_
              refine r_getR (pc2 := 83) dX8_sendsAll_80 fl_X8_35 (by decide) rfl rfl rfl ?_
              refine r_iload (pc2 := 85) dX8_sendsAll_83 rfl rfl ?_
              refine r_ialde (pc2 := 86) (x := ((V 0 41 (i * 8 + t)))) (j := _) (by rw [h41]; exact congrArg (V 0 41) (by omega)) dX8_sendsAll_85 (by decide) rfl rfl (rfl) (by show _ < 64; omega) rfl ?_
              refine r_if_lt (pc2 := 89) (tgt := 108) dX8_sendsAll_86 (by decide) rfl (fun c86 => ?_) (fun c86 => ?_)
              · skip
                refine r_iconst (pc2 := 109) (nI 0) dX8_sendsAll_108 (by decide) rfl ?_
                refine r_cv4v (pc2 := 112) dX8_sendsAll_109 st_X8_sendsAll_117 rl_X8_receives (Nat.le_of_ble_eq_true rfl) rfl (c_X8_receives (re := false) hx.2.2.1 (by omega) (by omega) (by omega) (by omega) (fun z => h.iv.ud b (by omega) (by rw [← z] at near; exact near)) (by rw [hx.2.2.2.1]; exact tp0) (by rw [hx.2.2.2.1, h37]; exact tp) (by rw [h37]; exact hse.2.2.2.2) (lim_b (by rw [h37]; exact hse.2.2.2.1) (fun z => by cases z) (hx.2.2.1.iv.l2 _ (by omega))) (lim_b (by rw [h37]; exact hse.2.2.2.1) (fun z => by cases z) (hx.2.2.1.iv.l3 _ (by omega)))) (fun V109 h109 => ?_)
                refine r_aload_n (pc2 := 113) dX8_sendsAll_112 rfl rfl ?_
                refine r_getR (pc2 := 116) dX8_sendsAll_113 fl_X8_13 (by decide) rfl rfl rfl ?_
                refine r_sipush (pc2 := 119) (nI 3594) dX8_sendsAll_116 (by decide) rfl ?_
                refine r_dup2 (pc2 := 120) dX8_sendsAll_119 rfl ?_
                refine r_iald (pc2 := 121) (j := _) dX8_sendsAll_120 (by decide) rfl rfl (rfl) (by show _ < 3596; omega) rfl ?_
                refine r_iconst (pc2 := 122) (nI 1) dX8_sendsAll_121 (by decide) rfl ?_
                refine r_iadd (pc2 := 123) dX8_sendsAll_122 rfl ?_
                refine r_iast (pc2 := 124) (j := _) dX8_sendsAll_123 (by decide) rfl rfl (rfl) (by show _ < 3596; omega) rfl ?_
                refine r_iincN (pc2 := 127) dX8_sendsAll_124 rfl (by decide) rfl rfl ?_
                refine r_goto (pc2 := 12) dX8_sendsAll_127 (by decide) ?_
                exact Rc_.to (lo' := [some (vR 0 33), some (vI (nI i)), some (vI (nI b)), some (vI (nI ((t + 1)))), none, none]) (rfl) ⟨rfl, rfl, rfl, rfl, trivial⟩ (ih12 _ (by omega) (⟨by show sx_ V _ s (if t = b then _ else _); rw [if_neg c57]; exact sx_nn (by omega) (by omega) (by omega) hx h109 ((decide_eq_false (fun z => (hD t (by omega)).elim z.1 (fun q => nn_i q.1 c86))).symm) (fun z => c45 z.1) rfl, fun _ => near⟩))
              · skip
                refine r_iload (pc2 := 91) dX8_sendsAll_89 rfl rfl ?_
                refine r_if0N_eq (pc2 := 94) (tgt := 104) (by omega) dX8_sendsAll_91 (by decide) rfl (fun c91 => ?_) (fun c91 => ?_)
                · skip
                  refine r_iconst (pc2 := 105) (nI 1) dX8_sendsAll_104 (by decide) rfl ?_
                  refine r_goto (pc2 := 109) dX8_sendsAll_105 (by decide) ?_
                  refine r_cv4v (pc2 := 112) dX8_sendsAll_109 st_X8_sendsAll_117 rl_X8_receives (Nat.le_of_ble_eq_true rfl) rfl (c_X8_receives (re := true) hx.2.2.1 (by omega) (by omega) (by omega) (by omega) (fun z => h.iv.ud b (by omega) (by rw [← z] at near; exact near)) (by rw [hx.2.2.2.1]; exact tp0) (by rw [hx.2.2.2.1, h37]; exact tp) (by rw [h37]; exact hse.2.2.2.2) (lim_b (by rw [h37]; exact hse.2.2.2.1) (fun _ => by rw [h40]; exact ((hD t (by omega)).resolve_left (fun z => by rw [z] at c86; exact c86 (by decide))).2.2) (hx.2.2.1.iv.l2 _ (by omega))) (lim_b (by rw [h37]; exact hse.2.2.2.1) (fun _ => by rw [h41]; exact ⟨((hD t (by omega)).resolve_left (fun z => by rw [z] at c86; exact c86 (by decide))).1, ((hD t (by omega)).resolve_left (fun z => by rw [z] at c86; exact c86 (by decide))).2.1⟩) (hx.2.2.1.iv.l3 _ (by omega)))) (fun V109 h109 => ?_)
                  refine r_aload_n (pc2 := 113) dX8_sendsAll_112 rfl rfl ?_
                  refine r_getR (pc2 := 116) dX8_sendsAll_113 fl_X8_13 (by decide) rfl rfl rfl ?_
                  refine r_sipush (pc2 := 119) (nI 3594) dX8_sendsAll_116 (by decide) rfl ?_
                  refine r_dup2 (pc2 := 120) dX8_sendsAll_119 rfl ?_
                  refine r_iald (pc2 := 121) (j := _) dX8_sendsAll_120 (by decide) rfl rfl (rfl) (by show _ < 3596; omega) rfl ?_
                  refine r_iconst (pc2 := 122) (nI 1) dX8_sendsAll_121 (by decide) rfl ?_
                  refine r_iadd (pc2 := 123) dX8_sendsAll_122 rfl ?_
                  refine r_iast (pc2 := 124) (j := _) dX8_sendsAll_123 (by decide) rfl rfl (rfl) (by show _ < 3596; omega) rfl ?_
                  refine r_iincN (pc2 := 127) dX8_sendsAll_124 rfl (by decide) rfl rfl ?_
                  refine r_goto (pc2 := 12) dX8_sendsAll_127 (by decide) ?_
                  exact Rc_.to (lo' := [some (vR 0 33), some (vI (nI i)), some (vI (nI b)), some (vI (nI ((t + 1)))), none, none]) (rfl) ⟨rfl, rfl, rfl, rfl, trivial⟩ (ih12 _ (by omega) (⟨by show sx_ V _ s (if t = b then _ else _); rw [if_neg c57]; exact sx_nn (by omega) (by omega) (by omega) hx h109 ((decide_eq_true ⟨fun z => by rw [z] at c86; exact c86 (by decide), fun z => c45 z.1⟩).symm) (fun z => c45 z.1) rfl, fun _ => near⟩))
                · skip
                  exact absurd rfl c91
            · skip
              exact absurd rfl c62
        · skip
          refine r_iconst (pc2 := 49) (nI 1) dX8_sendsAll_48 (by decide) rfl ?_
          refine r_goto (pc2 := 53) dX8_sendsAll_49 (by decide) ?_
          refine r_istore (pc2 := 55) dX8_sendsAll_53 (by decide) rfl rfl ?_
          refine r_iload_n (pc2 := 56) dX8_sendsAll_55 rfl rfl ?_
          refine r_iload_n (pc2 := 57) dX8_sendsAll_56 rfl rfl ?_
          refine r_icN_eq (pc2 := 60) (tgt := 124) (by omega) (by omega) dX8_sendsAll_57 (by decide) rfl (fun c57 => ?_) (fun c57 => ?_)
          · skip
            refine r_iincN (pc2 := 127) dX8_sendsAll_124 rfl (by decide) rfl rfl ?_
            refine r_goto (pc2 := 12) dX8_sendsAll_127 (by decide) ?_
            exact Rc_.to (lo' := [some (vR 0 33), some (vI (nI i)), some (vI (nI b)), some (vI (nI ((t + 1)))), none, none]) (rfl) ⟨rfl, rfl, rfl, rfl, trivial⟩ (ih12 _ (by omega) (⟨by show sx_ V _ s (if t = b then _ else _); rw [if_pos c57]; exact hx, fun _ => near⟩))
          · skip
            refine r_iload (pc2 := 62) dX8_sendsAll_60 rfl rfl ?_
            refine r_if0N_eq (pc2 := 65) (tgt := 75) (by omega) dX8_sendsAll_62 (by decide) rfl (fun c62 => ?_) (fun c62 => ?_)
            · skip
              exact absurd c62 (by decide)
            · skip
              refine r_aload_n (pc2 := 66) dX8_sendsAll_65 rfl rfl ?_
              refine r_getR (pc2 := 69) dX8_sendsAll_66 fl_X8_23 (by decide) rfl rfl rfl ?_
              refine r_iconst (pc2 := 70) (nI 3) dX8_sendsAll_69 (by decide) rfl ?_
              refine r_ialde (pc2 := 71) (x := ((V 0 37 3))) (j := _) (by rw [h37]) dX8_sendsAll_70 (by decide) rfl rfl (rfl) (by show _ < 10; omega) rfl ?_
              refine r_iconst (pc2 := 72) (nI 1) dX8_sendsAll_71 (by decide) rfl ?_
              refine r_ic_eq (pc2 := 75) (tgt := 124) dX8_sendsAll_72 (by decide) rfl (fun c72 => ?_) (fun c72 => ?_)
              · skip
                refine r_iincN (pc2 := 127) dX8_sendsAll_124 rfl (by decide) rfl rfl ?_
                refine r_goto (pc2 := 12) dX8_sendsAll_127 (by decide) ?_
                exact Rc_.to (lo' := [some (vR 0 33), some (vI (nI i)), some (vI (nI b)), some (vI (nI ((t + 1)))), none, none]) (rfl) ⟨rfl, rfl, rfl, rfl, trivial⟩ (ih12 _ (by omega) (⟨by show sx_ V _ s (if t = b then _ else _); rw [if_neg c57, nn_x c45 c72]; exact hx, fun _ => near⟩))
              · skip
                refine r_aload_n (pc2 := 76) dX8_sendsAll_75 rfl rfl ?_
                refine r_iload_n (pc2 := 77) dX8_sendsAll_76 rfl rfl ?_
                refine r_iload_n (pc2 := 78) dX8_sendsAll_77 rfl rfl ?_
                refine r_iload_n (pc2 := 79) dX8_sendsAll_78 rfl rfl ?_
                refine r_aload_n (pc2 := 80) dX8_sendsAll_79 rfl rfl ?_
                refine r_getR (pc2 := 83) dX8_sendsAll_80 fl_X8_35 (by decide) rfl rfl rfl ?_
                refine r_iload (pc2 := 85) dX8_sendsAll_83 rfl rfl ?_
                refine r_ialde (pc2 := 86) (x := ((V 0 41 (i * 8 + t)))) (j := _) (by rw [h41]; exact congrArg (V 0 41) (by omega)) dX8_sendsAll_85 (by decide) rfl rfl (rfl) (by show _ < 64; omega) rfl ?_
                refine r_if_lt (pc2 := 89) (tgt := 108) dX8_sendsAll_86 (by decide) rfl (fun c86 => ?_) (fun c86 => ?_)
                · skip
                  refine r_iconst (pc2 := 109) (nI 0) dX8_sendsAll_108 (by decide) rfl ?_
                  refine r_cv4v (pc2 := 112) dX8_sendsAll_109 st_X8_sendsAll_117 rl_X8_receives (Nat.le_of_ble_eq_true rfl) rfl (c_X8_receives (re := false) hx.2.2.1 (by omega) (by omega) (by omega) (by omega) (fun z => h.iv.ud b (by omega) (by rw [← z] at near; exact near)) (by rw [hx.2.2.2.1]; exact tp0) (by rw [hx.2.2.2.1, h37]; exact tp) (by rw [h37]; exact hse.2.2.2.2) (lim_b (by rw [h37]; exact hse.2.2.2.1) (fun z => by cases z) (hx.2.2.1.iv.l2 _ (by omega))) (lim_b (by rw [h37]; exact hse.2.2.2.1) (fun z => by cases z) (hx.2.2.1.iv.l3 _ (by omega)))) (fun V109 h109 => ?_)
                  refine r_aload_n (pc2 := 113) dX8_sendsAll_112 rfl rfl ?_
                  refine r_getR (pc2 := 116) dX8_sendsAll_113 fl_X8_13 (by decide) rfl rfl rfl ?_
                  refine r_sipush (pc2 := 119) (nI 3594) dX8_sendsAll_116 (by decide) rfl ?_
                  refine r_dup2 (pc2 := 120) dX8_sendsAll_119 rfl ?_
                  refine r_iald (pc2 := 121) (j := _) dX8_sendsAll_120 (by decide) rfl rfl (rfl) (by show _ < 3596; omega) rfl ?_
                  refine r_iconst (pc2 := 122) (nI 1) dX8_sendsAll_121 (by decide) rfl ?_
                  refine r_iadd (pc2 := 123) dX8_sendsAll_122 rfl ?_
                  refine r_iast (pc2 := 124) (j := _) dX8_sendsAll_123 (by decide) rfl rfl (rfl) (by show _ < 3596; omega) rfl ?_
                  refine r_iincN (pc2 := 127) dX8_sendsAll_124 rfl (by decide) rfl rfl ?_
                  refine r_goto (pc2 := 12) dX8_sendsAll_127 (by decide) ?_
                  exact Rc_.to (lo' := [some (vR 0 33), some (vI (nI i)), some (vI (nI b)), some (vI (nI ((t + 1)))), none, none]) (rfl) ⟨rfl, rfl, rfl, rfl, trivial⟩ (ih12 _ (by omega) (⟨by show sx_ V _ s (if t = b then _ else _); rw [if_neg c57]; exact sx_nn (by omega) (by omega) (by omega) hx h109 ((decide_eq_false (fun z => (hD t (by omega)).elim z.1 (fun q => nn_i q.1 c86))).symm) (fun z => c72 z.2) rfl, fun _ => near⟩))
                · skip
                  refine r_iload (pc2 := 91) dX8_sendsAll_89 rfl rfl ?_
                  refine r_if0N_eq (pc2 := 94) (tgt := 104) (by omega) dX8_sendsAll_91 (by decide) rfl (fun c91 => ?_) (fun c91 => ?_)
                  · skip
                    exact absurd c91 (by decide)
                  · skip
                    refine r_aload_n (pc2 := 95) dX8_sendsAll_94 rfl rfl ?_
                    refine r_getR (pc2 := 98) dX8_sendsAll_95 fl_X8_23 (by decide) rfl rfl rfl ?_
                    refine r_iconst (pc2 := 99) (nI 3) dX8_sendsAll_98 (by decide) rfl ?_
                    refine r_ialde (pc2 := 100) (x := ((V 0 37 3))) (j := _) (by rw [h37]) dX8_sendsAll_99 (by decide) rfl rfl (rfl) (by show _ < 10; omega) rfl ?_
                    refine r_iconst (pc2 := 101) (nI 2) dX8_sendsAll_100 (by decide) rfl ?_
                    refine r_ic_eq (pc2 := 104) (tgt := 108) dX8_sendsAll_101 (by decide) rfl (fun c101 => ?_) (fun c101 => ?_)
                    · skip
                      refine r_iconst (pc2 := 109) (nI 0) dX8_sendsAll_108 (by decide) rfl ?_
                      refine r_cv4v (pc2 := 112) dX8_sendsAll_109 st_X8_sendsAll_117 rl_X8_receives (Nat.le_of_ble_eq_true rfl) rfl (c_X8_receives (re := false) hx.2.2.1 (by omega) (by omega) (by omega) (by omega) (fun z => h.iv.ud b (by omega) (by rw [← z] at near; exact near)) (by rw [hx.2.2.2.1]; exact tp0) (by rw [hx.2.2.2.1, h37]; exact tp) (by rw [h37]; exact hse.2.2.2.2) (lim_b (by rw [h37]; exact hse.2.2.2.1) (fun z => by cases z) (hx.2.2.1.iv.l2 _ (by omega))) (lim_b (by rw [h37]; exact hse.2.2.2.1) (fun z => by cases z) (hx.2.2.1.iv.l3 _ (by omega)))) (fun V109 h109 => ?_)
                      refine r_aload_n (pc2 := 113) dX8_sendsAll_112 rfl rfl ?_
                      refine r_getR (pc2 := 116) dX8_sendsAll_113 fl_X8_13 (by decide) rfl rfl rfl ?_
                      refine r_sipush (pc2 := 119) (nI 3594) dX8_sendsAll_116 (by decide) rfl ?_
                      refine r_dup2 (pc2 := 120) dX8_sendsAll_119 rfl ?_
                      refine r_iald (pc2 := 121) (j := _) dX8_sendsAll_120 (by decide) rfl rfl (rfl) (by show _ < 3596; omega) rfl ?_
                      refine r_iconst (pc2 := 122) (nI 1) dX8_sendsAll_121 (by decide) rfl ?_
                      refine r_iadd (pc2 := 123) dX8_sendsAll_122 rfl ?_
                      refine r_iast (pc2 := 124) (j := _) dX8_sendsAll_123 (by decide) rfl rfl (rfl) (by show _ < 3596; omega) rfl ?_
                      refine r_iincN (pc2 := 127) dX8_sendsAll_124 rfl (by decide) rfl rfl ?_
                      refine r_goto (pc2 := 12) dX8_sendsAll_127 (by decide) ?_
                      exact Rc_.to (lo' := [some (vR 0 33), some (vI (nI i)), some (vI (nI b)), some (vI (nI ((t + 1)))), none, none]) (rfl) ⟨rfl, rfl, rfl, rfl, trivial⟩ (ih12 _ (by omega) (⟨by show sx_ V _ s (if t = b then _ else _); rw [if_neg c57]; exact sx_nn (by omega) (by omega) (by omega) hx h109 ((decide_eq_false (fun z => z.2 ⟨c45, c101⟩)).symm) (fun z => c72 z.2) rfl, fun _ => near⟩))
                    · skip
                      refine r_iconst (pc2 := 105) (nI 1) dX8_sendsAll_104 (by decide) rfl ?_
                      refine r_goto (pc2 := 109) dX8_sendsAll_105 (by decide) ?_
                      refine r_cv4v (pc2 := 112) dX8_sendsAll_109 st_X8_sendsAll_117 rl_X8_receives (Nat.le_of_ble_eq_true rfl) rfl (c_X8_receives (re := true) hx.2.2.1 (by omega) (by omega) (by omega) (by omega) (fun z => h.iv.ud b (by omega) (by rw [← z] at near; exact near)) (by rw [hx.2.2.2.1]; exact tp0) (by rw [hx.2.2.2.1, h37]; exact tp) (by rw [h37]; exact hse.2.2.2.2) (lim_b (by rw [h37]; exact hse.2.2.2.1) (fun _ => by rw [h40]; exact ((hD t (by omega)).resolve_left (fun z => by rw [z] at c86; exact c86 (by decide))).2.2) (hx.2.2.1.iv.l2 _ (by omega))) (lim_b (by rw [h37]; exact hse.2.2.2.1) (fun _ => by rw [h41]; exact ⟨((hD t (by omega)).resolve_left (fun z => by rw [z] at c86; exact c86 (by decide))).1, ((hD t (by omega)).resolve_left (fun z => by rw [z] at c86; exact c86 (by decide))).2.1⟩) (hx.2.2.1.iv.l3 _ (by omega)))) (fun V109 h109 => ?_)
                      refine r_aload_n (pc2 := 113) dX8_sendsAll_112 rfl rfl ?_
                      refine r_getR (pc2 := 116) dX8_sendsAll_113 fl_X8_13 (by decide) rfl rfl rfl ?_
                      refine r_sipush (pc2 := 119) (nI 3594) dX8_sendsAll_116 (by decide) rfl ?_
                      refine r_dup2 (pc2 := 120) dX8_sendsAll_119 rfl ?_
                      refine r_iald (pc2 := 121) (j := _) dX8_sendsAll_120 (by decide) rfl rfl (rfl) (by show _ < 3596; omega) rfl ?_
                      refine r_iconst (pc2 := 122) (nI 1) dX8_sendsAll_121 (by decide) rfl ?_
                      refine r_iadd (pc2 := 123) dX8_sendsAll_122 rfl ?_
                      refine r_iast (pc2 := 124) (j := _) dX8_sendsAll_123 (by decide) rfl rfl (rfl) (by show _ < 3596; omega) rfl ?_
                      refine r_iincN (pc2 := 127) dX8_sendsAll_124 rfl (by decide) rfl rfl ?_
                      refine r_goto (pc2 := 12) dX8_sendsAll_127 (by decide) ?_
                      exact Rc_.to (lo' := [some (vR 0 33), some (vI (nI i)), some (vI (nI b)), some (vI (nI ((t + 1)))), none, none]) (rfl) ⟨rfl, rfl, rfl, rfl, trivial⟩ (ih12 _ (by omega) (⟨by show sx_ V _ s (if t = b then _ else _); rw [if_neg c57]; exact sx_nn (by omega) (by omega) (by omega) hx h109 ((decide_eq_true ⟨fun z => by rw [z] at c86; exact c86 (by decide), fun z => c101 z.2⟩).symm) (fun z => c72 z.2) rfl, fun _ => near⟩))
