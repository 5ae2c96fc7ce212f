/-! class: walks by choices, true distances: written by wip/whole/m5.py -/
def it_ {α : Type} (f : Nat → α → α) : Nat → α → α
  | 0, x => x
  | n + 1, x => f n (it_ f n x)
def cnt_ (p : Nat → Bool) : Nat → Nat
  | 0 => 0
  | n + 1 => cnt_ p n + (if p n = true then 1 else 0)
theorem cnt_t {p : Nat → Bool} {n : Nat} (h : p n = true) : cnt_ p (n + 1) = cnt_ p n + 1 := by rw [cnt_, if_pos h]
theorem cnt_f {p : Nat → Bool} {n : Nat} (h : p n = false) : cnt_ p (n + 1) = cnt_ p n := by rw [cnt_, h]; rfl
theorem cnt_cong {p q : Nat → Bool} : ∀ {n : Nat}, (∀ k, k < n → p k = q k) → cnt_ p n = cnt_ q n
  | 0, _ => rfl
  | n + 1, h => by rw [cnt_, cnt_, cnt_cong (n := n) (fun k hk => h k (by omega)), h n (by omega)]
theorem cnt_le (p : Nat → Bool) : ∀ n, cnt_ p n ≤ n
  | 0 => Nat.le_refl _
  | n + 1 => by
    have := cnt_le p n
    rw [cnt_]
    split <;> omega
/-- a count over pairs -/
def c2_ (p : Nat → Nat → Bool) (n : Nat) : Nat → Nat
  | 0 => 0
  | a + 1 => c2_ p n a + cnt_ (p a) n
theorem c2_cong {p q : Nat → Nat → Bool} {n : Nat} : ∀ {m : Nat}, (∀ a b, a < m → b < n → p a b = q a b) → c2_ p n m = c2_ q n m
  | 0, _ => rfl
  | m + 1, h => by rw [c2_, c2_, c2_cong (m := m) (fun a b ha hb => h a b (by omega) hb), cnt_cong (fun b hb => h m b (by omega) hb)]
theorem c2_le (p : Nat → Nat → Bool) (n : Nat) : ∀ m, c2_ p n m ≤ m * n
  | 0 => by simp [c2_]
  | m + 1 => by
    have h1 := c2_le p n m
    have h2 := cnt_le (p m) n
    rw [c2_, Nat.succ_mul]
    omega
/-- a walk by choices to target t -/
def wk_ (C : Nat → Int32) (t : Nat) : Nat → Nat → Nat → Int32 → Int32
  | 0, _, _, _ => -1008
  | f + 1, k, h, sn => if C (h * 8 + t) = -1 then -2000 - nI k else if C (h * 8 + t) = nI t then nI (k + 1) else if (sn >>> (C (h * 8 + t) &&& 31)) &&& nI 1 = nI 1 then -1000 - nI k - nI 1 else wk_ C t f (k + 1) (C (h * 8 + t)).toNatClampNeg (sn ||| (nI 1 <<< (C (h * 8 + t) &&& 31)))
def wv_ (C : Nat → Int32) (a t : Nat) : Int32 := wk_ C t 8 0 a (nI 1 <<< (nI a &&& 31))
def ch_ok (C : Nat → Int32) (n : Nat) : Prop := ∀ a b, a < n → b < n → C (a * 8 + b) = -1 ∨ ∃ y, y < n ∧ C (a * 8 + b) = nI y
def lp_ (C : Nat → Int32) (a b : Nat) : Bool := decide (¬ a = b ∧ wv_ C a b < 0 ∧ -2000 < wv_ C a b)

set_option maxRecDepth 100000 in
set_option maxHeartbeats 4000000 in
theorem c_X3_walk {PL : List (Nat × Nat)} {a b n : Nat} {V : Mm_} (hn8 : n ≤ 8) (ha : a < n) (hb : b < n) (hC : ch_ok (V 0 23) n) : Cp_ PL mX3_walk [vR 0 20, vI (nI a), vI (nI b)] V (wv_ (V 0 23) a b) := by
  refine Ca_.of mv_X3_walk.2.2.2.2.2.2 4 (lo := [some (vR 0 20), some (vI (nI a)), some (vI (nI b)), none, none, none, none]) rfl (Nat.le_of_ble_eq_true rfl) ?_
  refine r_iload_n (pc2 := 1) dX3_walk_0 rfl rfl ?_
  refine r_istore_n (pc2 := 2) dX3_walk_1 (by decide) rfl rfl ?_
  refine r_iconst (pc2 := 3) (nI 1) dX3_walk_2 (by decide) rfl ?_
  refine r_iload_n (pc2 := 4) dX3_walk_3 rfl rfl ?_
  refine r_ishl (pc2 := 5) dX3_walk_4 rfl ?_
  refine r_istore (pc2 := 7) dX3_walk_5 (by decide) rfl rfl ?_
  refine r_iconst (pc2 := 8) (nI 0) dX3_walk_7 (by decide) rfl ?_
  refine r_istore (pc2 := 10) dX3_walk_8 (by decide) rfl rfl ?_
  refine Rc_.to (V' := (fun _ => V) ((a, nI 1 <<< (nI a &&& 31)))) (lo' := (fun (i : Nat) (q : Nat × Int32) => [some (vR 0 20), some (vI (nI a)), some (vI (nI b)), some (vI (nI (q.1))), some (vI (q.2)), some (vI (nI i)), none]) 0 ((a, nI 1 <<< (nI a &&& 31)))) (rfl) ⟨rfl, rfl, rfl, rfl, rfl, rfl, trivial⟩ ?_
  refine Rc_forI 0 (8) (fun (i : Nat) (q : Nat × Int32) => [some (vR 0 20), some (vI (nI a)), some (vI (nI b)), some (vI (nI (q.1))), some (vI (q.2)), some (vI (nI i)), none]) (fun _ => V) (fun i q => q.1 < n ∧ wk_ (V 0 23) b (8 - i) i q.1 q.2 = wv_ (V 0 23) a b) (by omega) (fun i q hi0 hiN hI ih10 => ?_) ((a, nI 1 <<< (nI a &&& 31))) (⟨ha, rfl⟩)
  refine r_iload (pc2 := 12) dX3_walk_10 rfl rfl ?_
  refine r_bipush (pc2 := 14) (nI 8) dX3_walk_12 (by decide) rfl ?_
  refine r_icN_ge (pc2 := 17) (tgt := 91) (by omega) (by omega) dX3_walk_14 (by decide) rfl (fun c14 => ?_) (fun c14 => ?_)
  · skip
    refine r_sipush (pc2 := 94) (-1008) dX3_walk_91 (by decide) rfl ?_
    exact r_iret dX3_walk_94 rfl (⟨by rw [← hI.2, show 8 - i = 0 by omega]; rfl, rfl⟩)
  · skip
    have hq := hI.1
    have h8 : 8 - i = (8 - (i + 1)) + 1 := by omega
    refine r_aload_n (pc2 := 18) dX3_walk_17 rfl rfl ?_
    refine r_getR (pc2 := 21) dX3_walk_18 fl_X3_18 (by decide) rfl rfl rfl ?_
    refine r_iload_n (pc2 := 22) dX3_walk_21 rfl rfl ?_
    refine r_iload_n (pc2 := 23) dX3_walk_22 rfl rfl ?_
    refine r_cn2p (pc2 := 26) dX3_walk_23 st_X3_walk_66 (Nat.le_of_ble_eq_true rfl) rfl (c_X7_pair) ?_
    refine r_ialde (pc2 := 27) (x := ((V 0 23 (q.1 * 8 + b)))) (j := _) (rfl) dX3_walk_26 (by decide) rfl rfl (rfl) (by show _ < 64; omega) rfl ?_
    refine r_istore (pc2 := 29) dX3_walk_27 (by decide) rfl rfl ?_
    refine r_iload (pc2 := 31) dX3_walk_29 rfl rfl ?_
    refine r_iconst (pc2 := 32) (-1) dX3_walk_31 (by decide) rfl ?_
    refine r_ic_ne (pc2 := 35) (tgt := 42) dX3_walk_32 (by decide) rfl (fun c32 => ?_) (fun c32 => ?_)
    · skip
      refine r_iload (pc2 := 44) dX3_walk_42 rfl rfl ?_
      refine r_iload_n (pc2 := 45) dX3_walk_44 rfl rfl ?_
      refine r_ic_ne (pc2 := 48) (tgt := 53) dX3_walk_45 (by decide) rfl (fun c45 => ?_) (fun c45 => ?_)
      · skip
        refine r_iload (pc2 := 55) dX3_walk_53 rfl rfl ?_
        refine r_iload (pc2 := 57) dX3_walk_55 rfl rfl ?_
        refine r_ishr (pc2 := 58) dX3_walk_57 rfl ?_
        refine r_iconst (pc2 := 59) (nI 1) dX3_walk_58 (by decide) rfl ?_
        refine r_iand (pc2 := 60) dX3_walk_59 rfl ?_
        refine r_iconst (pc2 := 61) (nI 1) dX3_walk_60 (by decide) rfl ?_
        refine r_ic_ne (pc2 := 64) (tgt := 73) dX3_walk_61 (by decide) rfl (fun c61 => ?_) (fun c61 => ?_)
        · skip
          obtain ⟨y, hy⟩ : ∃ y, y < n ∧ V 0 23 (q.1 * 8 + b) = nI y := by
            rcases hC q.1 b hI.1 hb with h | h
            · exact absurd h c32
            · exact h
          refine r_iload (pc2 := 75) dX3_walk_73 rfl rfl ?_
          refine r_iconst (pc2 := 76) (nI 1) dX3_walk_75 (by decide) rfl ?_
          refine r_iload (pc2 := 78) dX3_walk_76 rfl rfl ?_
          refine r_ishl (pc2 := 79) dX3_walk_78 rfl ?_
          refine r_ior (pc2 := 80) dX3_walk_79 rfl ?_
          refine r_istore (pc2 := 82) dX3_walk_80 (by decide) rfl rfl ?_
          refine r_iload (pc2 := 84) dX3_walk_82 rfl rfl ?_
          refine r_istore_n (pc2 := 85) dX3_walk_84 (by decide) rfl rfl ?_
          refine r_iincN (pc2 := 88) dX3_walk_85 rfl (by decide) rfl rfl ?_
          refine r_goto (pc2 := 10) dX3_walk_88 (by decide) ?_
          exact Rc_.to (lo' := (fun (i : Nat) (q : Nat × Int32) => [some (vR 0 20), some (vI (nI a)), some (vI (nI b)), some (vI (nI (q.1))), some (vI (q.2)), some (vI (nI i)), none]) (i + 1) (y, q.2 ||| (nI 1 <<< (V 0 23 (q.1 * 8 + b) &&& 31)))) (rfl) ⟨rfl, rfl, rfl, (congrArg (fun z => some (vI z)) hy.2.symm), rfl, rfl, trivial⟩ (ih10 (y, q.2 ||| (nI 1 <<< (V 0 23 (q.1 * 8 + b) &&& 31))) (by omega) (⟨hy.1, by rw [← hI.2, h8, wk_, if_neg c32, if_neg c45, if_neg c61, hy.2, nI_clamp (by omega)]⟩))
        · skip
          refine r_sipush (pc2 := 67) (-1000) dX3_walk_64 (by decide) rfl ?_
          refine r_iload (pc2 := 69) dX3_walk_67 rfl rfl ?_
          refine r_isub (pc2 := 70) dX3_walk_69 rfl ?_
          refine r_iconst (pc2 := 71) (nI 1) dX3_walk_70 (by decide) rfl ?_
          refine r_isub (pc2 := 72) dX3_walk_71 rfl ?_
          exact r_iret dX3_walk_72 rfl (⟨by rw [← hI.2, h8, wk_, if_neg c32, if_neg c45, if_pos c61], rfl⟩)
      · skip
        refine r_iload (pc2 := 50) dX3_walk_48 rfl rfl ?_
        refine r_iconst (pc2 := 51) (nI 1) dX3_walk_50 (by decide) rfl ?_
        refine r_iaddN (pc2 := 52) dX3_walk_51 rfl ?_
        exact r_iret dX3_walk_52 rfl (⟨by rw [← hI.2, h8, wk_, if_neg c32, if_pos c45], rfl⟩)
    · skip
      refine r_sipush (pc2 := 38) (-2000) dX3_walk_35 (by decide) rfl ?_
      refine r_iload (pc2 := 40) dX3_walk_38 rfl rfl ?_
      refine r_isub (pc2 := 41) dX3_walk_40 rfl ?_
      exact r_iret dX3_walk_41 rfl (⟨by rw [← hI.2, h8, wk_, if_pos c32], rfl⟩)

set_option maxRecDepth 100000 in
set_option maxHeartbeats 4000000 in
theorem c_X3_countLoops {PL : List (Nat × Nat)} {n : Nat} {V : Mm_} (hn8 : n ≤ 8) (hC : ch_ok (V 0 23) n) : Cp_ PL mX3_countLoops [vR 0 20, vI (nI n)] V (nI (c2_ (lp_ (V 0 23)) n n)) := by
  refine Ca_.of mv_X3_countLoops.2.2.2.2.2.2 4 (lo := [some (vR 0 20), some (vI (nI n)), none, none, none, none]) rfl (Nat.le_of_ble_eq_true rfl) ?_
  refine r_iconst (pc2 := 1) (nI 0) dX3_countLoops_0 (by decide) rfl ?_
  refine r_istore_n (pc2 := 2) dX3_countLoops_1 (by decide) rfl rfl ?_
  refine r_iconst (pc2 := 3) (nI 0) dX3_countLoops_2 (by decide) rfl ?_
  refine r_istore_n (pc2 := 4) dX3_countLoops_3 (by decide) rfl rfl ?_
  refine Rc_.to (V' := (fun _ => V) 0) (lo' := (fun i : Nat => [some (vR 0 20), some (vI (nI n)), some (vI (nI ((c2_ (lp_ (V 0 23)) n i)))), some (vI (nI i)), none, none]) 0) (rfl) ⟨rfl, rfl, rfl, rfl, trivial⟩ ?_
  refine Rc_for 0 (n) (fun i : Nat => [some (vR 0 20), some (vI (nI n)), some (vI (nI ((c2_ (lp_ (V 0 23)) n i)))), some (vI (nI i)), none, none]) (fun _ => V) (by omega) (fun i hi0 hiN ih4 => ?_)
  refine r_iload_n (pc2 := 5) dX3_countLoops_4 rfl rfl ?_
  refine r_iload_n (pc2 := 6) dX3_countLoops_5 rfl rfl ?_
  refine r_icN_ge (pc2 := 9) (tgt := 65) (by omega) (by omega) dX3_countLoops_6 (by decide) rfl (fun c6 => ?_) (fun c6 => ?_)
  · skip
    refine r_iload_n (pc2 := 66) dX3_countLoops_65 rfl rfl ?_
    exact r_iret dX3_countLoops_66 rfl (⟨by rw [show n = i by omega], rfl⟩)
  · skip
    refine r_iconst (pc2 := 10) (nI 0) dX3_countLoops_9 (by decide) rfl ?_
    refine r_istore (pc2 := 12) dX3_countLoops_10 (by decide) rfl rfl ?_
    refine Rc_.to (V' := (fun _ => V) 0) (lo' := (fun j : Nat => [some (vR 0 20), some (vI (nI n)), some (vI (nI ((c2_ (lp_ (V 0 23)) n i + cnt_ ((lp_ (V 0 23)) i) j)))), some (vI (nI i)), some (vI (nI j)), none]) 0) (rfl) ⟨rfl, rfl, rfl, rfl, rfl, trivial⟩ ?_
    refine Rc_for 0 (n) (fun j : Nat => [some (vR 0 20), some (vI (nI n)), some (vI (nI ((c2_ (lp_ (V 0 23)) n i + cnt_ ((lp_ (V 0 23)) i) j)))), some (vI (nI i)), some (vI (nI j)), none]) (fun _ => V) (by omega) (fun j hj0 hjN ih12 => ?_)
    refine r_iload (pc2 := 14) dX3_countLoops_12 rfl rfl ?_
    refine r_iload_n (pc2 := 15) dX3_countLoops_14 rfl rfl ?_
    refine r_icN_ge (pc2 := 18) (tgt := 59) (by omega) (by omega) dX3_countLoops_15 (by decide) rfl (fun c15 => ?_) (fun c15 => ?_)
    · skip
      refine r_iincN (pc2 := 62) dX3_countLoops_59 rfl (by decide) rfl rfl ?_
      refine r_goto (pc2 := 4) dX3_countLoops_62 (by decide) ?_
      exact Rc_.to (lo' := (fun i : Nat => [some (vR 0 20), some (vI (nI n)), some (vI (nI ((c2_ (lp_ (V 0 23)) n i)))), some (vI (nI i)), none, none]) (i + 1)) (rfl) ⟨rfl, rfl, (congrArg (fun z => some (vI (nI z))) (by rw [show j = n by omega]; rfl)), rfl, trivial⟩ (ih4 (by omega))
    · skip
      refine r_iload_n (pc2 := 19) dX3_countLoops_18 rfl rfl ?_
      refine r_iload (pc2 := 21) dX3_countLoops_19 rfl rfl ?_
      refine r_icN_ne (pc2 := 24) (tgt := 28) (by omega) (by omega) dX3_countLoops_21 (by decide) rfl (fun c21 => ?_) (fun c21 => ?_)
      · skip
        refine r_aload_n (pc2 := 29) dX3_countLoops_28 rfl rfl ?_
        refine r_iload_n (pc2 := 30) dX3_countLoops_29 rfl rfl ?_
        refine r_iload (pc2 := 32) dX3_countLoops_30 rfl rfl ?_
        refine r_cv2p (pc2 := 35) dX3_countLoops_32 st_X3_countLoops_123 rl_X3_walk (Nat.le_of_ble_eq_true rfl) rfl (c_X3_walk hn8 (by omega) (by omega) hC) ?_
        refine r_istore (pc2 := 37) dX3_countLoops_35 (by decide) rfl rfl ?_
        refine r_iload (pc2 := 39) dX3_countLoops_37 rfl rfl ?_
        refine r_if_ge (pc2 := 42) (tgt := 53) dX3_countLoops_39 (by decide) rfl (fun c39 => ?_) (fun c39 => ?_)
        · skip
          refine r_iincN (pc2 := 56) dX3_countLoops_53 rfl (by decide) rfl rfl ?_
          refine r_goto (pc2 := 12) dX3_countLoops_56 (by decide) ?_
          exact Rc_.to (lo' := (fun j : Nat => [some (vR 0 20), some (vI (nI n)), some (vI (nI ((c2_ (lp_ (V 0 23)) n i + cnt_ ((lp_ (V 0 23)) i) j)))), some (vI (nI i)), some (vI (nI j)), none]) (j + 1)) (rfl) ⟨rfl, rfl, (congrArg (fun z => some (vI (nI z))) (by first | exact absurd (by decide) c39 | (rw [cnt_t (p := lp_ (V 0 23) i) (n := j) (decide_eq_true ⟨c21, Int32.not_le.mp c39, Int32.not_le.mp c47⟩)]; rfl) | (rw [cnt_f (p := lp_ (V 0 23) i) (n := j) (decide_eq_false (fun h => h.1 c21))]) | (rw [cnt_f (p := lp_ (V 0 23) i) (n := j) (decide_eq_false (fun h => Int32.not_le.mpr h.2.1 c39))]) | (rw [cnt_f (p := lp_ (V 0 23) i) (n := j) (decide_eq_false (fun h => Int32.not_le.mpr h.2.2 c47))]))), rfl, rfl, trivial⟩ (ih12 (by omega))
        · skip
          refine r_iload (pc2 := 44) dX3_countLoops_42 rfl rfl ?_
          refine r_sipush (pc2 := 47) (-2000) dX3_countLoops_44 (by decide) rfl ?_
          refine r_ic_le (pc2 := 50) (tgt := 53) dX3_countLoops_47 (by decide) rfl (fun c47 => ?_) (fun c47 => ?_)
          · skip
            refine r_iincN (pc2 := 56) dX3_countLoops_53 rfl (by decide) rfl rfl ?_
            refine r_goto (pc2 := 12) dX3_countLoops_56 (by decide) ?_
            exact Rc_.to (lo' := (fun j : Nat => [some (vR 0 20), some (vI (nI n)), some (vI (nI ((c2_ (lp_ (V 0 23)) n i + cnt_ ((lp_ (V 0 23)) i) j)))), some (vI (nI i)), some (vI (nI j)), none]) (j + 1)) (rfl) ⟨rfl, rfl, (congrArg (fun z => some (vI (nI z))) (by first | exact absurd (by decide) c39 | (rw [cnt_t (p := lp_ (V 0 23) i) (n := j) (decide_eq_true ⟨c21, Int32.not_le.mp c39, Int32.not_le.mp c47⟩)]; rfl) | (rw [cnt_f (p := lp_ (V 0 23) i) (n := j) (decide_eq_false (fun h => h.1 c21))]) | (rw [cnt_f (p := lp_ (V 0 23) i) (n := j) (decide_eq_false (fun h => Int32.not_le.mpr h.2.1 c39))]) | (rw [cnt_f (p := lp_ (V 0 23) i) (n := j) (decide_eq_false (fun h => Int32.not_le.mpr h.2.2 c47))]))), rfl, rfl, trivial⟩ (ih12 (by omega))
          · skip
            refine r_iincN (pc2 := 53) dX3_countLoops_50 rfl (by decide) rfl rfl ?_
            refine r_iincN (pc2 := 56) dX3_countLoops_53 rfl (by decide) rfl rfl ?_
            refine r_goto (pc2 := 12) dX3_countLoops_56 (by decide) ?_
            exact Rc_.to (lo' := (fun j : Nat => [some (vR 0 20), some (vI (nI n)), some (vI (nI ((c2_ (lp_ (V 0 23)) n i + cnt_ ((lp_ (V 0 23)) i) j)))), some (vI (nI i)), some (vI (nI j)), none]) (j + 1)) (rfl) ⟨rfl, rfl, (congrArg (fun z => some (vI (nI z))) (by first | exact absurd (by decide) c39 | (rw [cnt_t (p := lp_ (V 0 23) i) (n := j) (decide_eq_true ⟨c21, Int32.not_le.mp c39, Int32.not_le.mp c47⟩)]; rfl) | (rw [cnt_f (p := lp_ (V 0 23) i) (n := j) (decide_eq_false (fun h => h.1 c21))]) | (rw [cnt_f (p := lp_ (V 0 23) i) (n := j) (decide_eq_false (fun h => Int32.not_le.mpr h.2.1 c39))]) | (rw [cnt_f (p := lp_ (V 0 23) i) (n := j) (decide_eq_false (fun h => Int32.not_le.mpr h.2.2 c47))]))), rfl, rfl, trivial⟩ (ih12 (by omega))
      · skip
        refine r_iconst (pc2 := 25) (nI 0) dX3_countLoops_24 (by decide) rfl ?_
        refine r_goto (pc2 := 35) dX3_countLoops_25 (by decide) ?_
        refine r_istore (pc2 := 37) dX3_countLoops_35 (by decide) rfl rfl ?_
        refine r_iload (pc2 := 39) dX3_countLoops_37 rfl rfl ?_
        refine r_if_ge (pc2 := 42) (tgt := 53) dX3_countLoops_39 (by decide) rfl (fun c39 => ?_) (fun c39 => ?_)
        · skip
          refine r_iincN (pc2 := 56) dX3_countLoops_53 rfl (by decide) rfl rfl ?_
          refine r_goto (pc2 := 12) dX3_countLoops_56 (by decide) ?_
          exact Rc_.to (lo' := (fun j : Nat => [some (vR 0 20), some (vI (nI n)), some (vI (nI ((c2_ (lp_ (V 0 23)) n i + cnt_ ((lp_ (V 0 23)) i) j)))), some (vI (nI i)), some (vI (nI j)), none]) (j + 1)) (rfl) ⟨rfl, rfl, (congrArg (fun z => some (vI (nI z))) (by first | exact absurd (by decide) c39 | (rw [cnt_t (p := lp_ (V 0 23) i) (n := j) (decide_eq_true ⟨c21, Int32.not_le.mp c39, Int32.not_le.mp c47⟩)]; rfl) | (rw [cnt_f (p := lp_ (V 0 23) i) (n := j) (decide_eq_false (fun h => h.1 c21))]) | (rw [cnt_f (p := lp_ (V 0 23) i) (n := j) (decide_eq_false (fun h => Int32.not_le.mpr h.2.1 c39))]) | (rw [cnt_f (p := lp_ (V 0 23) i) (n := j) (decide_eq_false (fun h => Int32.not_le.mpr h.2.2 c47))]))), rfl, rfl, trivial⟩ (ih12 (by omega))
        · skip
          refine r_iload (pc2 := 44) dX3_countLoops_42 rfl rfl ?_
          refine r_sipush (pc2 := 47) (-2000) dX3_countLoops_44 (by decide) rfl ?_
          refine r_ic_le (pc2 := 50) (tgt := 53) dX3_countLoops_47 (by decide) rfl (fun c47 => ?_) (fun c47 => ?_)
          · skip
            refine r_iincN (pc2 := 56) dX3_countLoops_53 rfl (by decide) rfl rfl ?_
            refine r_goto (pc2 := 12) dX3_countLoops_56 (by decide) ?_
            exact Rc_.to (lo' := (fun j : Nat => [some (vR 0 20), some (vI (nI n)), some (vI (nI ((c2_ (lp_ (V 0 23)) n i + cnt_ ((lp_ (V 0 23)) i) j)))), some (vI (nI i)), some (vI (nI j)), none]) (j + 1)) (rfl) ⟨rfl, rfl, (congrArg (fun z => some (vI (nI z))) (by first | exact absurd (by decide) c39 | (rw [cnt_t (p := lp_ (V 0 23) i) (n := j) (decide_eq_true ⟨c21, Int32.not_le.mp c39, Int32.not_le.mp c47⟩)]; rfl) | (rw [cnt_f (p := lp_ (V 0 23) i) (n := j) (decide_eq_false (fun h => h.1 c21))]) | (rw [cnt_f (p := lp_ (V 0 23) i) (n := j) (decide_eq_false (fun h => Int32.not_le.mpr h.2.1 c39))]) | (rw [cnt_f (p := lp_ (V 0 23) i) (n := j) (decide_eq_false (fun h => Int32.not_le.mpr h.2.2 c47))]))), rfl, rfl, trivial⟩ (ih12 (by omega))
          · skip
            refine r_iincN (pc2 := 53) dX3_countLoops_50 rfl (by decide) rfl rfl ?_
            refine r_iincN (pc2 := 56) dX3_countLoops_53 rfl (by decide) rfl rfl ?_
            refine r_goto (pc2 := 12) dX3_countLoops_56 (by decide) ?_
            exact Rc_.to (lo' := (fun j : Nat => [some (vR 0 20), some (vI (nI n)), some (vI (nI ((c2_ (lp_ (V 0 23)) n i + cnt_ ((lp_ (V 0 23)) i) j)))), some (vI (nI i)), some (vI (nI j)), none]) (j + 1)) (rfl) ⟨rfl, rfl, (congrArg (fun z => some (vI (nI z))) (by first | exact absurd (by decide) c39 | (rw [cnt_t (p := lp_ (V 0 23) i) (n := j) (decide_eq_true ⟨c21, Int32.not_le.mp c39, Int32.not_le.mp c47⟩)]; rfl) | (rw [cnt_f (p := lp_ (V 0 23) i) (n := j) (decide_eq_false (fun h => h.1 c21))]) | (rw [cnt_f (p := lp_ (V 0 23) i) (n := j) (decide_eq_false (fun h => Int32.not_le.mpr h.2.1 c39))]) | (rw [cnt_f (p := lp_ (V 0 23) i) (n := j) (decide_eq_false (fun h => Int32.not_le.mpr h.2.2 c47))]))), rfl, rfl, trivial⟩ (ih12 (by omega))

set_option maxRecDepth 100000 in
set_option maxHeartbeats 4000000 in
theorem c_X6_exists {PL : List (Nat × Nat)} {k : Nat} {V : Mm_} (hk : k < 64) : Cp_ PL mX6_exists [vR 0 30, vI (nI k)] V (b2 (decide (V 0 31 k < nI 1000000))) := by
  refine Ca_.of mv_X6_exists.2.2.2.2.2.2 0 (lo := [some (vR 0 30), some (vI (nI k))]) rfl (Nat.le_of_ble_eq_true rfl) ?_
  refine r_aload_n (pc2 := 1) dX6_exists_0 rfl rfl ?_
  refine r_getR (pc2 := 4) dX6_exists_1 fl_X6_9 (by decide) rfl rfl rfl ?_
  refine r_iload_n (pc2 := 5) dX6_exists_4 rfl rfl ?_
  refine r_iald (pc2 := 6) (j := _) dX6_exists_5 (by decide) rfl rfl (rfl) (by show _ < 64; omega) rfl ?_
  refine r_ldc (pc2 := 8) dX6_exists_6 tw_583 rfl ?_
  refine r_as (x' := nI 1000000) (by decide) ?_
  refine r_ic_ge (pc2 := 11) (tgt := 15) dX6_exists_8 (by decide) rfl (fun c8 => ?_) (fun c8 => ?_)
  · skip
    refine r_iconst (pc2 := 16) (nI 0) dX6_exists_15 (by decide) rfl ?_
    exact r_zret dX6_exists_16 rfl (Or.inl rfl) (⟨b2_f (by simp only [Int32.lt_iff_toInt_lt, Int32.le_iff_toInt_le, ← Int32.toInt_inj, decide_eq_true_eq, decide_eq_false_iff_not] at c8 ⊢; omega), rfl⟩)
  · skip
    refine r_iconst (pc2 := 12) (nI 1) dX6_exists_11 (by decide) rfl ?_
    refine r_goto (pc2 := 16) dX6_exists_12 (by decide) ?_
    exact r_zret dX6_exists_16 rfl (Or.inr rfl) (⟨b2_t (by simp only [Int32.lt_iff_toInt_lt, Int32.le_iff_toInt_le, ← Int32.toInt_inj, decide_eq_true_eq, decide_eq_false_iff_not] at c8 ⊢; omega), rfl⟩)

/-- one step of the shortest ways -/
def s1_ (m a b : Nat) (D : Nat → Int32) : Nat → Int32 := upd D (a * 8 + b) (if D (a * 8 + m) + D (m * 8 + b) < D (a * 8 + b) then D (a * 8 + m) + D (m * 8 + b) else D (a * 8 + b))
def sh_ (n m : Nat) (D : Nat → Int32) : Nat → Int32 := it_ (fun a D => it_ (fun b D => s1_ m a b D) n D) n D
def mi_ (s : Sg_) (a b : Nat) : Int32 := if a = b then nI 0 else if s 5 (a * 8 + b) = nI 1 then s 4 (a * 8 + b) else nI 1000000
def i1_ (s : Sg_) (a b : Nat) (D : Nat → Int32) : Nat → Int32 := upd D (a * 8 + b) (mi_ s a b)
def in_ (s : Sg_) (n : Nat) (D : Nat → Int32) : Nat → Int32 := it_ (fun a D => it_ (fun b D => i1_ s a b D) n D) n D
def ms_ (s : Sg_) (n : Nat) (D : Nat → Int32) : Nat → Int32 := it_ (fun m D => sh_ n m D) n (in_ s n D)
set_option maxRecDepth 100000 in
set_option maxHeartbeats 4000000 in
theorem c_X6_shorten {PL : List (Nat × Nat)} {m n : Nat} {V : Mm_} (hn8 : n ≤ 8) (hm : m < n) : Cm_ PL mX6_shorten [vR 0 30, vI (nI m), vI (nI n)] V (a_set V 0 31 (sh_ n m (V 0 31))) := by
  refine Ca_.of mv_X6_shorten.2.2.2.2.2.2 3 (lo := [some (vR 0 30), some (vI (nI m)), some (vI (nI n)), none, none, none]) rfl (Nat.le_of_ble_eq_true rfl) ?_
  refine r_iconst (pc2 := 1) (nI 0) dX6_shorten_0 (by decide) rfl ?_
  refine r_istore_n (pc2 := 2) dX6_shorten_1 (by decide) rfl rfl ?_
  refine Rc_.to (V' := (fun i : Nat => a_set V 0 31 (it_ (fun a D => it_ (fun b D => s1_ m a b D) n D) i (V 0 31))) 0) (lo' := (fun i : Nat => [some (vR 0 30), some (vI (nI m)), some (vI (nI n)), some (vI (nI i)), none, none]) 0) ((a_id V 0 31).symm) ⟨rfl, rfl, rfl, rfl, trivial⟩ ?_
  refine Rc_for 0 (n) (fun i : Nat => [some (vR 0 30), some (vI (nI m)), some (vI (nI n)), some (vI (nI i)), none, none]) (fun i : Nat => a_set V 0 31 (it_ (fun a D => it_ (fun b D => s1_ m a b D) n D) i (V 0 31))) (by omega) (fun i hi0 hiN ih2 => ?_)
  refine r_iload_n (pc2 := 3) dX6_shorten_2 rfl rfl ?_
  refine r_iload_n (pc2 := 4) dX6_shorten_3 rfl rfl ?_
  refine r_icN_ge (pc2 := 7) (tgt := 79) (by omega) (by omega) dX6_shorten_4 (by decide) rfl (fun c4 => ?_) (fun c4 => ?_)
  · skip
    exact r_vret dX6_shorten_79 rfl (by rw [show i = n by omega]; rfl)
  · skip
    refine r_iconst (pc2 := 8) (nI 0) dX6_shorten_7 (by decide) rfl ?_
    refine r_istore (pc2 := 10) dX6_shorten_8 (by decide) rfl rfl ?_
    refine Rc_.to (V' := (fun j : Nat => a_set V 0 31 (it_ (fun b D => s1_ m i b D) j (it_ (fun a D => it_ (fun b D => s1_ m a b D) n D) i (V 0 31)))) 0) (lo' := (fun j : Nat => [some (vR 0 30), some (vI (nI m)), some (vI (nI n)), some (vI (nI i)), some (vI (nI j)), none]) 0) (rfl) ⟨rfl, rfl, rfl, rfl, rfl, trivial⟩ ?_
    refine Rc_for 0 (n) (fun j : Nat => [some (vR 0 30), some (vI (nI m)), some (vI (nI n)), some (vI (nI i)), some (vI (nI j)), none]) (fun j : Nat => a_set V 0 31 (it_ (fun b D => s1_ m i b D) j (it_ (fun a D => it_ (fun b D => s1_ m a b D) n D) i (V 0 31)))) (by omega) (fun j hj0 hjN ih10 => ?_)
    refine r_iload (pc2 := 12) dX6_shorten_10 rfl rfl ?_
    refine r_iload_n (pc2 := 13) dX6_shorten_12 rfl rfl ?_
    refine r_icN_ge (pc2 := 16) (tgt := 73) (by omega) (by omega) dX6_shorten_13 (by decide) rfl (fun c13 => ?_) (fun c13 => ?_)
    · skip
      refine r_iincN (pc2 := 76) dX6_shorten_73 rfl (by decide) rfl rfl ?_
      refine r_goto (pc2 := 2) dX6_shorten_76 (by decide) ?_
      exact Rc_.to (lo' := (fun i : Nat => [some (vR 0 30), some (vI (nI m)), some (vI (nI n)), some (vI (nI i)), none, none]) (i + 1)) (by rw [show j = n by omega]; rfl) ⟨rfl, rfl, rfl, rfl, trivial⟩ (ih2 (by omega))
    · skip
      refine r_aload_n (pc2 := 17) dX6_shorten_16 rfl rfl ?_
      refine r_getR (pc2 := 20) dX6_shorten_17 fl_X6_9 (by decide) rfl rfl rfl ?_
      refine r_iload_n (pc2 := 21) dX6_shorten_20 rfl rfl ?_
      refine r_iload_n (pc2 := 22) dX6_shorten_21 rfl rfl ?_
      refine r_cn2p (pc2 := 25) dX6_shorten_22 st_X6_shorten_16 (Nat.le_of_ble_eq_true rfl) rfl (c_X7_pair) ?_
      refine r_iald (pc2 := 26) (j := _) dX6_shorten_25 (by decide) rfl rfl (rfl) (by show _ < 64; omega) rfl ?_
      refine r_aload_n (pc2 := 27) dX6_shorten_26 rfl rfl ?_
      refine r_getR (pc2 := 30) dX6_shorten_27 fl_X6_9 (by decide) rfl rfl rfl ?_
      refine r_iload_n (pc2 := 31) dX6_shorten_30 rfl rfl ?_
      refine r_iload (pc2 := 33) dX6_shorten_31 rfl rfl ?_
      refine r_cn2p (pc2 := 36) dX6_shorten_33 st_X6_shorten_16 (Nat.le_of_ble_eq_true rfl) rfl (c_X7_pair) ?_
      refine r_iald (pc2 := 37) (j := _) dX6_shorten_36 (by decide) rfl rfl (rfl) (by show _ < 64; omega) rfl ?_
      refine r_iadd (pc2 := 38) dX6_shorten_37 rfl ?_
      refine r_istore (pc2 := 40) dX6_shorten_38 (by decide) rfl rfl ?_
      refine r_aload_n (pc2 := 41) dX6_shorten_40 rfl rfl ?_
      refine r_getR (pc2 := 44) dX6_shorten_41 fl_X6_9 (by decide) rfl rfl rfl ?_
      refine r_iload_n (pc2 := 45) dX6_shorten_44 rfl rfl ?_
      refine r_iload (pc2 := 47) dX6_shorten_45 rfl rfl ?_
      refine r_cn2p (pc2 := 50) dX6_shorten_47 st_X6_shorten_16 (Nat.le_of_ble_eq_true rfl) rfl (c_X7_pair) ?_
      refine r_aload_n (pc2 := 51) dX6_shorten_50 rfl rfl ?_
      refine r_getR (pc2 := 54) dX6_shorten_51 fl_X6_9 (by decide) rfl rfl rfl ?_
      refine r_iload_n (pc2 := 55) dX6_shorten_54 rfl rfl ?_
      refine r_iload (pc2 := 57) dX6_shorten_55 rfl rfl ?_
      refine r_cn2p (pc2 := 60) dX6_shorten_57 st_X6_shorten_16 (Nat.le_of_ble_eq_true rfl) rfl (c_X7_pair) ?_
      refine r_iald (pc2 := 61) (j := _) dX6_shorten_60 (by decide) rfl rfl (rfl) (by show _ < 64; omega) rfl ?_
      refine r_iload (pc2 := 63) dX6_shorten_61 rfl rfl ?_
      refine r_mn (pc2 := 66) dX6_shorten_63 st_X6_shorten_33 (Nat.le_of_ble_eq_true rfl) rfl ?_
      refine r_iast (pc2 := 67) (j := _) dX6_shorten_66 (by decide) rfl rfl (rfl) (by show _ < 64; omega) rfl ?_
      refine r_iincN (pc2 := 70) dX6_shorten_67 rfl (by decide) rfl rfl ?_
      refine r_goto (pc2 := 10) dX6_shorten_70 (by decide) ?_
      exact Rc_.to (lo' := (fun j : Nat => [some (vR 0 30), some (vI (nI m)), some (vI (nI n)), some (vI (nI i)), some (vI (nI j)), none]) (j + 1)) (by show m_set _ _ _ _ _ = _; unfold m_set; rw [a_twice, a_same]; rfl) ⟨rfl, rfl, rfl, rfl, rfl, trivial⟩ (ih10 (by omega))

set_option maxRecDepth 100000 in
set_option maxHeartbeats 4000000 in
theorem c_X6_measure {PL : List (Nat × Nat)} {g n : Nat} {V : Mm_} (hg0 : ¬ g = 0) (hn8 : n ≤ 8) : Cm_ PL mX6_measure [vR 0 30, vR g 1, vI (nI n)] V (a_set V 0 31 (ms_ (V g) n (V 0 31))) := by
  refine Ca_.of mv_X6_measure.2.2.2.2.2.2 4 (lo := [some (vR 0 30), some (vR g 1), some (vI (nI n)), none, none, none, none]) rfl (Nat.le_of_ble_eq_true rfl) ?_
  refine r_iconst (pc2 := 1) (nI 0) dX6_measure_0 (by decide) rfl ?_
  refine r_istore_n (pc2 := 2) dX6_measure_1 (by decide) rfl rfl ?_
  refine Rc_.to (V' := (fun i : Nat => a_set V 0 31 (it_ (fun a D => it_ (fun b D => i1_ (V g) a b D) n D) i (V 0 31))) 0) (lo' := (fun i : Nat => [some (vR 0 30), some (vR g 1), some (vI (nI n)), some (vI (nI i)), none, none, none]) 0) ((a_id V 0 31).symm) ⟨rfl, rfl, rfl, rfl, trivial⟩ ?_
  refine Rc_for 0 (n) (fun i : Nat => [some (vR 0 30), some (vR g 1), some (vI (nI n)), some (vI (nI i)), none, none, none]) (fun i : Nat => a_set V 0 31 (it_ (fun a D => it_ (fun b D => i1_ (V g) a b D) n D) i (V 0 31))) (by omega) (fun i hi0 hiN ih2 => ?_)
  refine r_iload_n (pc2 := 3) dX6_measure_2 rfl rfl ?_
  refine r_iload_n (pc2 := 4) dX6_measure_3 rfl rfl ?_
  refine r_icN_ge (pc2 := 7) (tgt := 79) (by omega) (by omega) dX6_measure_4 (by decide) rfl (fun c4 => ?_) (fun c4 => ?_)
  · skip
    refine r_iconst (pc2 := 80) (nI 0) dX6_measure_79 (by decide) rfl ?_
    refine r_istore_n (pc2 := 81) dX6_measure_80 (by decide) rfl rfl ?_
    refine Rc_.to (V' := (fun m : Nat => a_set V 0 31 (it_ (fun m D => sh_ n m D) m (in_ (V g) n (V 0 31)))) 0) (lo' := (fun m : Nat => [some (vR 0 30), some (vR g 1), some (vI (nI n)), some (vI (nI m)), none, none, none]) 0) (by rw [show i = n by omega]; rfl) ⟨rfl, rfl, rfl, rfl, trivial⟩ ?_
    refine Rc_for 0 (n) (fun m : Nat => [some (vR 0 30), some (vR g 1), some (vI (nI n)), some (vI (nI m)), none, none, none]) (fun m : Nat => a_set V 0 31 (it_ (fun m D => sh_ n m D) m (in_ (V g) n (V 0 31)))) (by omega) (fun m hm0 hmN ih81 => ?_)
    refine r_iload_n (pc2 := 82) dX6_measure_81 rfl rfl ?_
    refine r_iload_n (pc2 := 83) dX6_measure_82 rfl rfl ?_
    refine r_icN_ge (pc2 := 86) (tgt := 98) (by omega) (by omega) dX6_measure_83 (by decide) rfl (fun c83 => ?_) (fun c83 => ?_)
    · skip
      exact r_vret dX6_measure_98 rfl (by rw [show m = n by omega]; rfl)
    · skip
      refine r_aload_n (pc2 := 87) dX6_measure_86 rfl rfl ?_
      refine r_iload_n (pc2 := 88) dX6_measure_87 rfl rfl ?_
      refine r_iload_n (pc2 := 89) dX6_measure_88 rfl rfl ?_
      refine r_cv2m (pc2 := 92) dX6_measure_89 st_X6_measure_29 rl_X6_shorten (Nat.le_of_ble_eq_true rfl) rfl (c_X6_shorten (by omega) (by omega)) ?_
      refine r_iincN (pc2 := 95) dX6_measure_92 rfl (by decide) rfl rfl ?_
      refine r_goto (pc2 := 81) dX6_measure_95 (by decide) ?_
      exact Rc_.to (lo' := (fun m : Nat => [some (vR 0 30), some (vR g 1), some (vI (nI n)), some (vI (nI m)), none, none, none]) (m + 1)) (by rw [a_same, a_twice]; rfl) ⟨rfl, rfl, rfl, rfl, trivial⟩ (ih81 (by omega))
  · skip
    refine r_iconst (pc2 := 8) (nI 0) dX6_measure_7 (by decide) rfl ?_
    refine r_istore (pc2 := 10) dX6_measure_8 (by decide) rfl rfl ?_
    refine Rc_.to (V' := (fun j : Nat => a_set V 0 31 (it_ (fun b D => i1_ (V g) i b D) j (it_ (fun a D => it_ (fun b D => i1_ (V g) a b D) n D) i (V 0 31)))) 0) (lo' := (fun j : Nat => [some (vR 0 30), some (vR g 1), some (vI (nI n)), some (vI (nI i)), some (vI (nI j)), none, none]) 0) (rfl) ⟨rfl, rfl, rfl, rfl, rfl, trivial⟩ ?_
    refine Rc_for 0 (n) (fun j : Nat => [some (vR 0 30), some (vR g 1), some (vI (nI n)), some (vI (nI i)), some (vI (nI j)), none, none]) (fun j : Nat => a_set V 0 31 (it_ (fun b D => i1_ (V g) i b D) j (it_ (fun a D => it_ (fun b D => i1_ (V g) a b D) n D) i (V 0 31)))) (by omega) (fun j hj0 hjN ih10 => ?_)
    refine r_iload (pc2 := 12) dX6_measure_10 rfl rfl ?_
    refine r_iload_n (pc2 := 13) dX6_measure_12 rfl rfl ?_
    refine r_icN_ge (pc2 := 16) (tgt := 73) (by omega) (by omega) dX6_measure_13 (by decide) rfl (fun c13 => ?_) (fun c13 => ?_)
    · skip
      refine r_iincN (pc2 := 76) dX6_measure_73 rfl (by decide) rfl rfl ?_
      refine r_goto (pc2 := 2) dX6_measure_76 (by decide) ?_
      exact Rc_.to (lo' := (fun i : Nat => [some (vR 0 30), some (vR g 1), some (vI (nI n)), some (vI (nI i)), none, none, none]) (i + 1)) (by rw [show j = n by omega]; rfl) ⟨rfl, rfl, rfl, rfl, trivial⟩ (ih2 (by omega))
    · skip
      refine r_iload_n (pc2 := 17) dX6_measure_16 rfl rfl ?_
      refine r_iload (pc2 := 19) dX6_measure_17 rfl rfl ?_
      refine r_cn2p (pc2 := 22) dX6_measure_19 st_X6_measure_16 (Nat.le_of_ble_eq_true rfl) rfl (c_X7_pair) ?_
      refine r_istore (pc2 := 24) dX6_measure_22 (by decide) rfl rfl ?_
      refine r_aload_n (pc2 := 25) dX6_measure_24 rfl rfl ?_
      refine r_iload_n (pc2 := 26) dX6_measure_25 rfl rfl ?_
      refine r_iload (pc2 := 28) dX6_measure_26 rfl rfl ?_
      refine r_cv2p (pc2 := 31) dX6_measure_28 st_X6_measure_20 rl_X1_isUp (Nat.le_of_ble_eq_true rfl) rfl (c_X1_isUp (by omega) (by omega)) ?_
      refine r_ifB_eq (pc2 := 34) (tgt := 44) dX6_measure_31 (by decide) rfl (fun c31 => ?_) (fun c31 => ?_)
      · skip
        simp [a_set, hg0] at c31
        refine r_ldc (pc2 := 46) dX6_measure_44 tw_583 rfl ?_
        refine r_as (x' := nI 1000000) (by decide) ?_
        refine r_istore (pc2 := 48) dX6_measure_46 (by decide) rfl rfl ?_
        refine r_aload_n (pc2 := 49) dX6_measure_48 rfl rfl ?_
        refine r_getR (pc2 := 52) dX6_measure_49 fl_X6_9 (by decide) rfl rfl rfl ?_
        refine r_iload (pc2 := 54) dX6_measure_52 rfl rfl ?_
        refine r_iload_n (pc2 := 55) dX6_measure_54 rfl rfl ?_
        refine r_iload (pc2 := 57) dX6_measure_55 rfl rfl ?_
        refine r_icN_ne (pc2 := 60) (tgt := 64) (by omega) (by omega) dX6_measure_57 (by decide) rfl (fun c57 => ?_) (fun c57 => ?_)
        · skip
          refine r_iload (pc2 := 66) dX6_measure_64 rfl rfl ?_
          refine r_iast (pc2 := 67) (j := _) dX6_measure_66 (by decide) rfl rfl (rfl) (by show _ < 64; omega) rfl ?_
          refine r_iincN (pc2 := 70) dX6_measure_67 rfl (by decide) rfl rfl ?_
          refine r_goto (pc2 := 10) dX6_measure_70 (by decide) ?_
          exact Rc_.to (lo' := (fun j : Nat => [some (vR 0 30), some (vR g 1), some (vI (nI n)), some (vI (nI i)), some (vI (nI j)), none, none]) (j + 1)) (by show m_set _ _ _ _ _ = _; unfold m_set; rw [a_twice, a_same]; refine congrArg (fun z => a_set V 0 31 (upd _ _ z)) ?_; unfold mi_; first | rw [if_pos c57] | rw [if_neg c57, if_pos c31] | rw [if_neg c57, if_neg c31]) ⟨rfl, rfl, rfl, rfl, rfl, trivial⟩ (ih10 (by omega))
        · skip
          refine r_iconst (pc2 := 61) (nI 0) dX6_measure_60 (by decide) rfl ?_
          refine r_goto (pc2 := 66) dX6_measure_61 (by decide) ?_
          refine r_iast (pc2 := 67) (j := _) dX6_measure_66 (by decide) rfl rfl (rfl) (by show _ < 64; omega) rfl ?_
          refine r_iincN (pc2 := 70) dX6_measure_67 rfl (by decide) rfl rfl ?_
          refine r_goto (pc2 := 10) dX6_measure_70 (by decide) ?_
          exact Rc_.to (lo' := (fun j : Nat => [some (vR 0 30), some (vR g 1), some (vI (nI n)), some (vI (nI i)), some (vI (nI j)), none, none]) (j + 1)) (by show m_set _ _ _ _ _ = _; unfold m_set; rw [a_twice, a_same]; refine congrArg (fun z => a_set V 0 31 (upd _ _ z)) ?_; unfold mi_; first | rw [if_pos c57] | rw [if_neg c57, if_pos c31] | rw [if_neg c57, if_neg c31]) ⟨rfl, rfl, rfl, rfl, rfl, trivial⟩ (ih10 (by omega))
      · skip
        simp [a_set, hg0] at c31
        refine r_aload_n (pc2 := 35) dX6_measure_34 rfl rfl ?_
        refine r_getR (pc2 := 38) dX6_measure_35 fl_X6_26 (by decide) rfl rfl rfl ?_
        refine r_iload (pc2 := 40) dX6_measure_38 rfl rfl ?_
        refine r_ialde (pc2 := 41) (x := ((V g 4 (i * 8 + j)))) (j := _) (by simp [a_set, hg0]) dX6_measure_40 (by decide) rfl rfl (rfl) (by show _ < 64; omega) rfl ?_
        refine r_goto (pc2 := 46) dX6_measure_41 (by decide) ?_
        refine r_istore (pc2 := 48) dX6_measure_46 (by decide) rfl rfl ?_
        refine r_aload_n (pc2 := 49) dX6_measure_48 rfl rfl ?_
        refine r_getR (pc2 := 52) dX6_measure_49 fl_X6_9 (by decide) rfl rfl rfl ?_
        refine r_iload (pc2 := 54) dX6_measure_52 rfl rfl ?_
        refine r_iload_n (pc2 := 55) dX6_measure_54 rfl rfl ?_
        refine r_iload (pc2 := 57) dX6_measure_55 rfl rfl ?_
        refine r_icN_ne (pc2 := 60) (tgt := 64) (by omega) (by omega) dX6_measure_57 (by decide) rfl (fun c57 => ?_) (fun c57 => ?_)
        · skip
          refine r_iload (pc2 := 66) dX6_measure_64 rfl rfl ?_
          refine r_iast (pc2 := 67) (j := _) dX6_measure_66 (by decide) rfl rfl (rfl) (by show _ < 64; omega) rfl ?_
          refine r_iincN (pc2 := 70) dX6_measure_67 rfl (by decide) rfl rfl ?_
          refine r_goto (pc2 := 10) dX6_measure_70 (by decide) ?_
          exact Rc_.to (lo' := (fun j : Nat => [some (vR 0 30), some (vR g 1), some (vI (nI n)), some (vI (nI i)), some (vI (nI j)), none, none]) (j + 1)) (by show m_set _ _ _ _ _ = _; unfold m_set; rw [a_twice, a_same]; refine congrArg (fun z => a_set V 0 31 (upd _ _ z)) ?_; unfold mi_; first | rw [if_pos c57] | rw [if_neg c57, if_pos c31] | rw [if_neg c57, if_neg c31]) ⟨rfl, rfl, rfl, rfl, rfl, trivial⟩ (ih10 (by omega))
        · skip
          refine r_iconst (pc2 := 61) (nI 0) dX6_measure_60 (by decide) rfl ?_
          refine r_goto (pc2 := 66) dX6_measure_61 (by decide) ?_
          refine r_iast (pc2 := 67) (j := _) dX6_measure_66 (by decide) rfl rfl (rfl) (by show _ < 64; omega) rfl ?_
          refine r_iincN (pc2 := 70) dX6_measure_67 rfl (by decide) rfl rfl ?_
          refine r_goto (pc2 := 10) dX6_measure_70 (by decide) ?_
          exact Rc_.to (lo' := (fun j : Nat => [some (vR 0 30), some (vR g 1), some (vI (nI n)), some (vI (nI i)), some (vI (nI j)), none, none]) (j + 1)) (by show m_set _ _ _ _ _ = _; unfold m_set; rw [a_twice, a_same]; refine congrArg (fun z => a_set V 0 31 (upd _ _ z)) ?_; unfold mi_; first | rw [if_pos c57] | rw [if_neg c57, if_pos c31] | rw [if_neg c57, if_neg c31]) ⟨rfl, rfl, rfl, rfl, rfl, trivial⟩ (ih10 (by omega))

set_option maxRecDepth 100000 in
set_option maxHeartbeats 4000000 in
theorem c_X6_countPairs {PL : List (Nat × Nat)} {n : Nat} {V : Mm_} (hn8 : n ≤ 8) : Cp_ PL mX6_countPairs [vR 0 30, vI (nI n)] V (nI (c2_ (fun a b => decide (¬ a = b ∧ V 0 31 (a * 8 + b) < nI 1000000)) n n)) := by
  refine Ca_.of mv_X6_countPairs.2.2.2.2.2.2 3 (lo := [some (vR 0 30), some (vI (nI n)), none, none, none]) rfl (Nat.le_of_ble_eq_true rfl) ?_
  refine r_iconst (pc2 := 1) (nI 0) dX6_countPairs_0 (by decide) rfl ?_
  refine r_istore_n (pc2 := 2) dX6_countPairs_1 (by decide) rfl rfl ?_
  refine r_iconst (pc2 := 3) (nI 0) dX6_countPairs_2 (by decide) rfl ?_
  refine r_istore_n (pc2 := 4) dX6_countPairs_3 (by decide) rfl rfl ?_
  refine Rc_.to (V' := (fun _ => V) 0) (lo' := (fun i : Nat => [some (vR 0 30), some (vI (nI n)), some (vI (nI ((c2_ (fun a b => decide (¬ a = b ∧ V 0 31 (a * 8 + b) < nI 1000000)) n i)))), some (vI (nI i)), none]) 0) (rfl) ⟨rfl, rfl, rfl, rfl, trivial⟩ ?_
  refine Rc_for 0 (n) (fun i : Nat => [some (vR 0 30), some (vI (nI n)), some (vI (nI ((c2_ (fun a b => decide (¬ a = b ∧ V 0 31 (a * 8 + b) < nI 1000000)) n i)))), some (vI (nI i)), none]) (fun _ => V) (by omega) (fun i hi0 hiN ih4 => ?_)
  refine r_iload_n (pc2 := 5) dX6_countPairs_4 rfl rfl ?_
  refine r_iload_n (pc2 := 6) dX6_countPairs_5 rfl rfl ?_
  refine r_icN_ge (pc2 := 9) (tgt := 52) (by omega) (by omega) dX6_countPairs_6 (by decide) rfl (fun c6 => ?_) (fun c6 => ?_)
  · skip
    refine r_iload_n (pc2 := 53) dX6_countPairs_52 rfl rfl ?_
    exact r_iret dX6_countPairs_53 rfl (⟨by rw [show n = i by omega], rfl⟩)
  · skip
    refine r_iconst (pc2 := 10) (nI 0) dX6_countPairs_9 (by decide) rfl ?_
    refine r_istore (pc2 := 12) dX6_countPairs_10 (by decide) rfl rfl ?_
    refine Rc_.to (V' := (fun _ => V) 0) (lo' := (fun j : Nat => [some (vR 0 30), some (vI (nI n)), some (vI (nI ((c2_ (fun a b => decide (¬ a = b ∧ V 0 31 (a * 8 + b) < nI 1000000)) n i + cnt_ ((fun a b => decide (¬ a = b ∧ V 0 31 (a * 8 + b) < nI 1000000)) i) j)))), some (vI (nI i)), some (vI (nI j))]) 0) (rfl) ⟨rfl, rfl, rfl, rfl, rfl, trivial⟩ ?_
    refine Rc_for 0 (n) (fun j : Nat => [some (vR 0 30), some (vI (nI n)), some (vI (nI ((c2_ (fun a b => decide (¬ a = b ∧ V 0 31 (a * 8 + b) < nI 1000000)) n i + cnt_ ((fun a b => decide (¬ a = b ∧ V 0 31 (a * 8 + b) < nI 1000000)) i) j)))), some (vI (nI i)), some (vI (nI j))]) (fun _ => V) (by omega) (fun j hj0 hjN ih12 => ?_)
    refine r_iload (pc2 := 14) dX6_countPairs_12 rfl rfl ?_
    refine r_iload_n (pc2 := 15) dX6_countPairs_14 rfl rfl ?_
    refine r_icN_ge (pc2 := 18) (tgt := 46) (by omega) (by omega) dX6_countPairs_15 (by decide) rfl (fun c15 => ?_) (fun c15 => ?_)
    · skip
      refine r_iincN (pc2 := 49) dX6_countPairs_46 rfl (by decide) rfl rfl ?_
      refine r_goto (pc2 := 4) dX6_countPairs_49 (by decide) ?_
      exact Rc_.to (lo' := (fun i : Nat => [some (vR 0 30), some (vI (nI n)), some (vI (nI ((c2_ (fun a b => decide (¬ a = b ∧ V 0 31 (a * 8 + b) < nI 1000000)) n i)))), some (vI (nI i)), none]) (i + 1)) (rfl) ⟨rfl, rfl, (congrArg (fun z => some (vI (nI z))) (by rw [show j = n by omega]; rfl)), rfl, trivial⟩ (ih4 (by omega))
    · skip
      refine r_iload_n (pc2 := 19) dX6_countPairs_18 rfl rfl ?_
      refine r_iload (pc2 := 21) dX6_countPairs_19 rfl rfl ?_
      refine r_icN_eq (pc2 := 24) (tgt := 40) (by omega) (by omega) dX6_countPairs_21 (by decide) rfl (fun c21 => ?_) (fun c21 => ?_)
      · skip
        refine r_iincN (pc2 := 43) dX6_countPairs_40 rfl (by decide) rfl rfl ?_
        refine r_goto (pc2 := 12) dX6_countPairs_43 (by decide) ?_
        exact Rc_.to (lo' := (fun j : Nat => [some (vR 0 30), some (vI (nI n)), some (vI (nI ((c2_ (fun a b => decide (¬ a = b ∧ V 0 31 (a * 8 + b) < nI 1000000)) n i + cnt_ ((fun a b => decide (¬ a = b ∧ V 0 31 (a * 8 + b) < nI 1000000)) i) j)))), some (vI (nI i)), some (vI (nI j))]) (j + 1)) (rfl) ⟨rfl, rfl, (congrArg (fun z => some (vI (nI z))) (by first | (rw [cnt_t (p := (fun b => decide (¬ i = b ∧ V 0 31 (i * 8 + b) < nI 1000000))) (n := j) (decide_eq_true ⟨c21, of_decide_eq_true c34⟩)]; rfl) | (rw [cnt_f (p := (fun b => decide (¬ i = b ∧ V 0 31 (i * 8 + b) < nI 1000000))) (n := j) (decide_eq_false (fun h => h.1 c21))]) | (rw [cnt_f (p := (fun b => decide (¬ i = b ∧ V 0 31 (i * 8 + b) < nI 1000000))) (n := j) (decide_eq_false (fun h => of_decide_eq_false c34 h.2))]))), rfl, rfl, trivial⟩ (ih12 (by omega))
      · skip
        refine r_aload_n (pc2 := 25) dX6_countPairs_24 rfl rfl ?_
        refine r_iload_n (pc2 := 26) dX6_countPairs_25 rfl rfl ?_
        refine r_iload (pc2 := 28) dX6_countPairs_26 rfl rfl ?_
        refine r_cn2p (pc2 := 31) dX6_countPairs_28 st_X6_countPairs_16 (Nat.le_of_ble_eq_true rfl) rfl (c_X7_pair) ?_
        refine r_cv1p (pc2 := 34) dX6_countPairs_31 st_X6_countPairs_38 rl_X6_exists (Nat.le_of_ble_eq_true rfl) rfl (c_X6_exists (by omega)) ?_
        refine r_ifB_eq (pc2 := 37) (tgt := 40) dX6_countPairs_34 (by decide) rfl (fun c34 => ?_) (fun c34 => ?_)
        · skip
          refine r_iincN (pc2 := 43) dX6_countPairs_40 rfl (by decide) rfl rfl ?_
          refine r_goto (pc2 := 12) dX6_countPairs_43 (by decide) ?_
          exact Rc_.to (lo' := (fun j : Nat => [some (vR 0 30), some (vI (nI n)), some (vI (nI ((c2_ (fun a b => decide (¬ a = b ∧ V 0 31 (a * 8 + b) < nI 1000000)) n i + cnt_ ((fun a b => decide (¬ a = b ∧ V 0 31 (a * 8 + b) < nI 1000000)) i) j)))), some (vI (nI i)), some (vI (nI j))]) (j + 1)) (rfl) ⟨rfl, rfl, (congrArg (fun z => some (vI (nI z))) (by first | (rw [cnt_t (p := (fun b => decide (¬ i = b ∧ V 0 31 (i * 8 + b) < nI 1000000))) (n := j) (decide_eq_true ⟨c21, of_decide_eq_true c34⟩)]; rfl) | (rw [cnt_f (p := (fun b => decide (¬ i = b ∧ V 0 31 (i * 8 + b) < nI 1000000))) (n := j) (decide_eq_false (fun h => h.1 c21))]) | (rw [cnt_f (p := (fun b => decide (¬ i = b ∧ V 0 31 (i * 8 + b) < nI 1000000))) (n := j) (decide_eq_false (fun h => of_decide_eq_false c34 h.2))]))), rfl, rfl, trivial⟩ (ih12 (by omega))
        · skip
          refine r_iincN (pc2 := 40) dX6_countPairs_37 rfl (by decide) rfl rfl ?_
          refine r_iincN (pc2 := 43) dX6_countPairs_40 rfl (by decide) rfl rfl ?_
          refine r_goto (pc2 := 12) dX6_countPairs_43 (by decide) ?_
          exact Rc_.to (lo' := (fun j : Nat => [some (vR 0 30), some (vI (nI n)), some (vI (nI ((c2_ (fun a b => decide (¬ a = b ∧ V 0 31 (a * 8 + b) < nI 1000000)) n i + cnt_ ((fun a b => decide (¬ a = b ∧ V 0 31 (a * 8 + b) < nI 1000000)) i) j)))), some (vI (nI i)), some (vI (nI j))]) (j + 1)) (rfl) ⟨rfl, rfl, (congrArg (fun z => some (vI (nI z))) (by first | (rw [cnt_t (p := (fun b => decide (¬ i = b ∧ V 0 31 (i * 8 + b) < nI 1000000))) (n := j) (decide_eq_true ⟨c21, of_decide_eq_true c34⟩)]; rfl) | (rw [cnt_f (p := (fun b => decide (¬ i = b ∧ V 0 31 (i * 8 + b) < nI 1000000))) (n := j) (decide_eq_false (fun h => h.1 c21))]) | (rw [cnt_f (p := (fun b => decide (¬ i = b ∧ V 0 31 (i * 8 + b) < nI 1000000))) (n := j) (decide_eq_false (fun h => of_decide_eq_false c34 h.2))]))), rfl, rfl, trivial⟩ (ih12 (by omega))
