/-! reference: ways by choices: written by wip/whole/m32.py; the rows of bits began as rows of kit/laws -/
def bB_ (x : Int32) (i : Nat) : Bool := x.toBitVec.getLsbD i
theorem bB_ext {x y : Int32} (h : ∀ i, i < 32 → bB_ x i = bB_ y i) : x = y := Int32.toBitVec_inj.mp (BitVec.eq_of_getLsbD_eq (fun i hi => h i hi))
theorem bB_or (x y : Int32) (i : Nat) : bB_ (x ||| y) i = (bB_ x i || bB_ y i) := by unfold bB_; rw [Int32.toBitVec_or, BitVec.getLsbD_or]
theorem bB_and (x y : Int32) (i : Nat) : bB_ (x &&& y) i = (bB_ x i && bB_ y i) := by unfold bB_; rw [Int32.toBitVec_and, BitVec.getLsbD_and]
theorem bB_cnt : ∀ n, n < 32 → ((nI n &&& 31).toBitVec.smod 32).toNat = n := by decide +kernel
theorem bB_shl (n : Nat) (hn : n < 32) (x : Int32) {i : Nat} (hi : i < 32) : bB_ (x <<< (nI n &&& 31)) i = (decide (n ≤ i) && bB_ x (i - n)) := by
  unfold bB_
  rw [Int32.toBitVec_shiftLeft]
  show (x.toBitVec <<< ((nI n &&& 31).toBitVec.smod 32).toNat).getLsbD i = _
  rw [bB_cnt n hn, BitVec.getLsbD_shiftLeft]
  rcases Nat.lt_or_ge i n with h | h
  · simp [h, Nat.not_le.mpr h]
  · simp [hi, h, Nat.not_lt.mpr h]
theorem bB_shr (n : Nat) (hn : n < 32) (x : Int32) {i : Nat} (hi : i < 32) : bB_ (x >>> (nI n &&& 31)) i = if n + i < 32 then bB_ x (n + i) else bB_ x 31 := by
  unfold bB_
  rw [Int32.toBitVec_shiftRight]
  show (x.toBitVec.sshiftRight ((nI n &&& 31).toBitVec.smod 32).toNat).getLsbD i = _
  rw [bB_cnt n hn, BitVec.getLsbD_sshiftRight, BitVec.msb_eq_getLsbD_last]
  simp [hi]
theorem bB_1 : ∀ i, i < 32 → bB_ (nI 1) i = decide (i = 0) := by decide +kernel
/-- a bit that is looked at -/
theorem bB_at {x : Int32} {y : Nat} (hy : y < 8) : ((x >>> (nI y &&& 31)) &&& nI 1 = nI 1) = (bB_ x y = true) := by
  refine propext ⟨fun h => ?_, fun h => bB_ext (fun i hi => ?_)⟩
  · have e : bB_ ((x >>> (nI y &&& 31)) &&& nI 1) 0 = bB_ (nI 1) 0 := by rw [h]
    rw [bB_and, bB_shr y (by omega) x (by omega), if_pos (by omega), bB_1 0 (by omega)] at e
    simpa using e
  · rw [bB_and, bB_1 i hi]
    by_cases c : i = 0
    · subst c
      rw [bB_shr y (by omega) x (by omega), if_pos (by omega)]
      simpa using h
    · rw [decide_eq_false c, Bool.and_false]
/-- a bit put -/
theorem bB_put {x : Int32} {y z : Nat} (hy : y < 8) (hz : z < 8) : bB_ (x ||| (nI 1 <<< (nI z &&& 31))) y = (bB_ x y || decide (y = z)) := by
  rw [bB_or, bB_shl z (by omega) _ (by omega)]
  refine congrArg (fun q => bB_ x y || q) ?_
  by_cases c : z ≤ y
  · rw [decide_eq_true c, Bool.true_and, bB_1 _ (by omega)]
    exact decide_eq_decide.mpr (by omega)
  · rw [decide_eq_false c, Bool.false_and, decide_eq_false (by omega)]
theorem cnt_put {p q : Nat → Bool} {y : Nat} (hp : p y = false) (hq : q y = true) : ∀ {n : Nat}, (∀ k, k < n → ¬ k = y → q k = p k) → cnt_ q n = cnt_ p n + (if y < n then 1 else 0)
  | 0, _ => by rw [if_neg (by omega)]; rfl
  | n + 1, h => by
    have ih := cnt_put hp hq (n := n) (fun k hk => h k (by omega))
    by_cases c : n = y
    · subst c
      rw [cnt_t hq, cnt_f hp, ih, if_neg (by omega), if_pos (by omega)]
    · have e := h n (by omega) c
      cases hb : p n with
      | true => rw [cnt_t (by rw [e, hb]), cnt_t hb, ih]; split <;> split <;> omega
      | false => rw [cnt_f (by rw [e, hb]), cnt_f hb, ih]; split <;> split <;> omega
theorem cnt_miss {p : Nat → Bool} {t : Nat} (hp : p t = false) : ∀ {n : Nat}, t < n → cnt_ p n < n
  | n + 1, h => by
    by_cases c : n = t
    · subst c
      have := cnt_le p n
      rw [cnt_f hp]
      omega
    · have ih := cnt_miss hp (n := n) (by omega)
      have : cnt_ p (n + 1) ≤ cnt_ p n + 1 := by show cnt_ p n + _ ≤ _; split <;> omega
      omega
/-- the nodes that a way has met: one more than its steps, not the target -/
def fo_ (n t k : Nat) (sn : Int32) : Prop := cnt_ (bB_ sn) n = k + 1 ∧ bB_ sn t = false
theorem fo_0 {n a t : Nat} (hn8 : n ≤ 8) (ha : a < n) (ht : t < n) (h : ¬ a = t) : fo_ n t 0 (nI 1 <<< (nI a &&& 31)) := by
  have e : ∀ k, k < 8 → bB_ (nI 1 <<< (nI a &&& 31)) k = decide (k = a) := by
    intro k hk
    rw [bB_shl a (by omega) _ (by omega)]
    by_cases c : a ≤ k
    · rw [decide_eq_true c, Bool.true_and, bB_1 _ (by omega)]; exact decide_eq_decide.mpr (by omega)
    · rw [decide_eq_false c, Bool.false_and, decide_eq_false (by omega)]
  refine ⟨?_, by rw [e t (by omega)]; exact decide_eq_false (fun z => h z.symm)⟩
  rw [cnt_put (p := fun _ => false) (q := bB_ (nI 1 <<< (nI a &&& 31))) (y := a) rfl (by rw [e a (by omega)]; exact decide_eq_true rfl) (fun k hk hk2 => by rw [e k (by omega)]; exact decide_eq_false hk2), if_pos ha, cnt_z (fun _ _ => rfl)]
theorem fo_k {n t k : Nat} {sn : Int32} (h : fo_ n t k sn) (ht : t < n) : k + 2 ≤ n := by
  have := cnt_miss h.2 ht
  rw [h.1] at this
  omega
theorem fo_s {n t k y : Nat} {sn : Int32} (hn8 : n ≤ 8) (h : fo_ n t k sn) (hy : y < n) (ht : t < n) (hyt : ¬ y = t) (hb : bB_ sn y = false) : fo_ n t (k + 1) (sn ||| (nI 1 <<< (nI y &&& 31))) := by
  refine ⟨?_, by rw [bB_put (by omega) (by omega), h.2, decide_eq_false (fun z => hyt z.symm)]; rfl⟩
  rw [cnt_put (p := bB_ sn) (q := bB_ (sn ||| (nI 1 <<< (nI y &&& 31)))) (y := y) hb (by rw [bB_put (by omega) (by omega), decide_eq_true rfl, Bool.or_true]) (fun k hk hk2 => by rw [bB_put (by omega) (by omega), decide_eq_false hk2, Bool.or_false]), if_pos hy, h.1]
/-- where a way stands -/
def fi_ (C : Nat → Int32) (n i t k : Nat) (q : Nat × Int32) : Prop := q.1 < n ∧ ((q.1 = t ∧ wv_ C i t = nI k ∧ k ≤ 8) ∨ (¬ q.1 = t ∧ fo_ n t k q.2 ∧ wk_ C t (8 - k) k q.1 q.2 = wv_ C i t))
theorem fi_s {C : Nat → Int32} {n i t k y : Nat} {q : Nat × Int32} (hn8 : n ≤ 8) (ht : t < n) (h : fi_ C n i t k q) (hq : ¬ q.1 = t) (hy : y < n) (hC : C (q.1 * 8 + t) = nI y) (hb : ¬ ((q.2 >>> (nI y &&& 31)) &&& nI 1 = nI 1)) : fi_ C n i t (k + 1) (y, q.2 ||| (nI 1 <<< (nI y &&& 31))) := by
  obtain ⟨h0, h | ⟨h1, h2, h3⟩⟩ := h
  · exact absurd h.1 hq
  · have hk := fo_k h2 ht
    have h8 : 8 - k = (8 - (k + 1)) + 1 := by omega
    have c1 : ¬ C (q.1 * 8 + t) = -1 := by rw [hC]; exact nI_m1 (by omega)
    have hb2 : bB_ q.2 y = false := by
      cases e : bB_ q.2 y with
      | false => rfl
      | true => exact absurd (by rw [bB_at (by omega)]; exact e) hb
    rw [h8, wk_, if_neg c1] at h3
    refine ⟨hy, ?_⟩
    by_cases c : y = t
    · refine Or.inl ⟨c, ?_, by omega⟩
      rw [if_pos (by rw [hC, c])] at h3
      exact h3.symm
    · refine Or.inr ⟨c, fo_s hn8 h2 hy ht c hb2, ?_⟩
      rw [if_neg (fun z => c ((nI_eq (by omega) (by omega)).mp (hC.symm.trans z))), hC, if_neg hb, nI_clamp (by omega)] at h3
      exact h3
theorem fi_dead {C : Nat → Int32} {n i t k : Nat} {q : Nat × Int32} (ht : t < n) (hn8 : n ≤ 8) (h : fi_ C n i t k q) (hq : ¬ q.1 = t) (hC : C (q.1 * 8 + t) = -1) : wv_ C i t = -2000 - nI k := by
  obtain ⟨h0, h | ⟨h1, h2, h3⟩⟩ := h
  · exact absurd h.1 hq
  · have hk := fo_k h2 ht
    rw [show 8 - k = (8 - (k + 1)) + 1 by omega, wk_, if_pos hC] at h3
    exact h3.symm
theorem fi_loop {C : Nat → Int32} {n i t k y : Nat} {q : Nat × Int32} (ht : t < n) (hn8 : n ≤ 8) (h : fi_ C n i t k q) (hq : ¬ q.1 = t) (hy : y < n) (hC : C (q.1 * 8 + t) = nI y) (hb : (q.2 >>> (nI y &&& 31)) &&& nI 1 = nI 1) : wv_ C i t = -1000 - nI (k + 1) := by
  obtain ⟨h0, h | ⟨h1, h2, h3⟩⟩ := h
  · exact absurd h.1 hq
  · have hk := fo_k h2 ht
    have hb2 := hb
    rw [bB_at (by omega)] at hb2
    have c : ¬ C (q.1 * 8 + t) = nI t := by
      rw [hC]
      intro z
      rw [(nI_eq (by omega) (by omega)).mp z, h2.2] at hb2
      exact absurd hb2 (by decide)
    rw [show 8 - k = (8 - (k + 1)) + 1 by omega, wk_, if_neg (by rw [hC]; exact nI_m1 (by omega)), if_neg c, hC, if_pos hb] at h3
    rw [← h3, ← nI_add, Int32.sub_sub]
theorem fi_end {C : Nat → Int32} {n i t k : Nat} {q : Nat × Int32} (h : fi_ C n i t k q) (hq : q.1 = t) : wv_ C i t = nI k := by
  obtain ⟨h0, h | ⟨h1, h2, h3⟩⟩ := h
  · exact h.2.1
  · exact absurd hq h1
theorem fi_k {C : Nat → Int32} {n i t k : Nat} {q : Nat × Int32} (ht : t < n) (hn8 : n ≤ 8) (h : fi_ C n i t k q) : k ≤ 8 ∧ (¬ q.1 = t → k < 8) := by
  obtain ⟨h0, h | ⟨h1, h2, h3⟩⟩ := h
  · exact ⟨h.2.2, fun z => absurd h.1 z⟩
  · have := fo_k h2 ht
    exact ⟨by omega, fun _ => by omega⟩

set_option maxRecDepth 100000 in
set_option maxHeartbeats 4000000 in
theorem c_X8_follows {PL : List (Nat × Nat)} {V : Mm_} {s : Sg_} (h : RT_ (V 0 34) s) {n : Nat} (hm : V 0 33 0 = nI n) (hn1 : 2 ≤ n) (hn8 : n ≤ 8) {i j : Nat} (hi : i < n) (hj : j < n) (hij : ¬ i = j) (hr : ru_ (V 0 37 2)) : Cp_ PL mX8_follows [vR 0 33, vI (nI i), vI (nI j)] V (wv_ (Ch_ (V 0 37 2) s (V 0 37 6) n) i j) := by
  refine Ca_.of mv_X8_follows.2.2.2.2.2.2 4 (lo := [some (vR 0 33), some (vI (nI i)), some (vI (nI j)), none, none, none, none]) rfl (Nat.le_of_ble_eq_true rfl) ?_
  refine r_iload_n (pc2 := 1) dX8_follows_0 rfl rfl ?_
  refine r_istore_n (pc2 := 2) dX8_follows_1 (by decide) rfl rfl ?_
  refine r_iconst (pc2 := 3) (nI 1) dX8_follows_2 (by decide) rfl ?_
  refine r_iload_n (pc2 := 4) dX8_follows_3 rfl rfl ?_
  refine r_ishl (pc2 := 5) dX8_follows_4 rfl ?_
  refine r_istore (pc2 := 7) dX8_follows_5 (by decide) rfl rfl ?_
  refine r_iconst (pc2 := 8) (nI 0) dX8_follows_7 (by decide) rfl ?_
  refine r_istore (pc2 := 10) dX8_follows_8 (by decide) rfl rfl ?_
  refine Rc_.to (V' := (fun _ => V) ((i, nI 1 <<< (nI i &&& 31)))) (lo' := (fun (k : Nat) (q : Nat × Int32) => [some (vR 0 33), some (vI (nI i)), some (vI (nI j)), some (vI (nI (q.1))), some (vI (q.2)), some (vI (nI k)), none]) 0 ((i, nI 1 <<< (nI i &&& 31)))) (rfl) ⟨rfl, rfl, rfl, rfl, rfl, rfl, trivial⟩ ?_
  refine Rc_forI 0 (8) (fun (k : Nat) (q : Nat × Int32) => [some (vR 0 33), some (vI (nI i)), some (vI (nI j)), some (vI (nI (q.1))), some (vI (q.2)), some (vI (nI k)), none]) (fun _ => V) (fun k q => fi_ (Ch_ (V 0 37 2) s (V 0 37 6) n) n i j k q) (by omega) (fun k q hk0 hkN hI ih10 => ?_) ((i, nI 1 <<< (nI i &&& 31))) (⟨hi, Or.inr ⟨hij, fo_0 hn8 hi hj hij, rfl⟩⟩)
  have hk := fi_k hj hn8 hI
  have hq := hI.1
  refine r_iload_n (pc2 := 11) dX8_follows_10 rfl rfl ?_
  refine r_iload_n (pc2 := 12) dX8_follows_11 rfl rfl ?_
  refine r_icN_eq (pc2 := 15) (tgt := 71) (by omega) (by omega) dX8_follows_12 (by decide) rfl (fun c12 => ?_) (fun c12 => ?_)
  · skip
    refine r_iload (pc2 := 73) dX8_follows_71 rfl rfl ?_
    exact r_iret dX8_follows_73 rfl (⟨(fi_end hI c12).symm, rfl⟩)
  · skip
    have eC : (Ch_ (V 0 37 2) s (V 0 37 6) n) (q.1 * 8 + j) = (ch_ (V 0 37 2) s (V 0 37 6) n q.1 j) := Ch_at (by omega)
    refine r_aload_n (pc2 := 16) dX8_follows_15 rfl rfl ?_
    refine r_iload_n (pc2 := 17) dX8_follows_16 rfl rfl ?_
    refine r_iload_n (pc2 := 18) dX8_follows_17 rfl rfl ?_
    refine r_cv2p (pc2 := 21) dX8_follows_18 st_X8_follows_107 rl_X8_choiceOf (Nat.le_of_ble_eq_true rfl) rfl (c_X8_choiceOf h hm hn1 hn8 hr (by omega) (by omega)) ?_
    refine r_istore (pc2 := 23) dX8_follows_21 (by decide) rfl rfl ?_
    refine r_iload (pc2 := 25) dX8_follows_23 rfl rfl ?_
    refine r_if_ge (pc2 := 28) (tgt := 35) dX8_follows_25 (by decide) rfl (fun c25 => ?_) (fun c25 => ?_)
    · skip
      obtain ⟨y, hy⟩ : ∃ y, y < n ∧ (ch_ (V 0 37 2) s (V 0 37 6) n q.1 j) = nI y := by
        rcases (ch_val : (ch_ (V 0 37 2) s (V 0 37 6) n q.1 j) = -1 ∨ _) with h | h
        · rw [h] at c25; exact absurd c25 (by decide)
        · exact h
      refine r_iincN (pc2 := 38) dX8_follows_35 rfl (by decide) rfl rfl ?_
      refine r_iload (pc2 := 40) dX8_follows_38 rfl rfl ?_
      refine r_iload (pc2 := 42) dX8_follows_40 rfl rfl ?_
      refine r_ishr (pc2 := 43) dX8_follows_42 rfl ?_
      refine r_iconst (pc2 := 44) (nI 1) dX8_follows_43 (by decide) rfl ?_
      refine r_iand (pc2 := 45) dX8_follows_44 rfl ?_
      refine r_iconst (pc2 := 46) (nI 1) dX8_follows_45 (by decide) rfl ?_
      refine r_ic_ne (pc2 := 49) (tgt := 56) dX8_follows_46 (by decide) rfl (fun c46 => ?_) (fun c46 => ?_)
      · skip
        refine r_iload (pc2 := 58) dX8_follows_56 rfl rfl ?_
        refine r_iconst (pc2 := 59) (nI 1) dX8_follows_58 (by decide) rfl ?_
        refine r_iload (pc2 := 61) dX8_follows_59 rfl rfl ?_
        refine r_ishl (pc2 := 62) dX8_follows_61 rfl ?_
        refine r_ior (pc2 := 63) dX8_follows_62 rfl ?_
        refine r_istore (pc2 := 65) dX8_follows_63 (by decide) rfl rfl ?_
        refine r_iload (pc2 := 67) dX8_follows_65 rfl rfl ?_
        refine r_istore_n (pc2 := 68) dX8_follows_67 (by decide) rfl rfl ?_
        refine r_goto (pc2 := 10) dX8_follows_68 (by decide) ?_
        exact Rc_.to (lo' := (fun (k : Nat) (q : Nat × Int32) => [some (vR 0 33), some (vI (nI i)), some (vI (nI j)), some (vI (nI (q.1))), some (vI (q.2)), some (vI (nI k)), none]) (k + 1) (y, q.2 ||| (nI 1 <<< ((ch_ (V 0 37 2) s (V 0 37 6) n q.1 j) &&& 31)))) (rfl) ⟨rfl, rfl, rfl, (congrArg (fun z => some (vI z)) hy.2.symm), rfl, rfl, trivial⟩ (ih10 (y, q.2 ||| (nI 1 <<< ((ch_ (V 0 37 2) s (V 0 37 6) n q.1 j) &&& 31))) (by have := hk.2 c12; omega) (by rw [hy.2]; exact fi_s hn8 hj hI c12 hy.1 (eC.trans hy.2) (by rw [← hy.2]; exact c46)))
      · skip
        refine r_sipush (pc2 := 52) (-1000) dX8_follows_49 (by decide) rfl ?_
        refine r_iload (pc2 := 54) dX8_follows_52 rfl rfl ?_
        refine r_isub (pc2 := 55) dX8_follows_54 rfl ?_
        exact r_iret dX8_follows_55 rfl (⟨by rw [fi_loop hj hn8 hI c12 hy.1 (eC.trans hy.2) (by rw [← hy.2]; exact c46)], rfl⟩)
    · skip
      have ec : (ch_ (V 0 37 2) s (V 0 37 6) n q.1 j) = -1 := by
        rcases (ch_val : (ch_ (V 0 37 2) s (V 0 37 6) n q.1 j) = -1 ∨ _) with h | ⟨y, h1, h2⟩
        · exact h
        · rw [h2] at c25; exact absurd (nI_pos' (by omega)) c25
      refine r_sipush (pc2 := 31) (-2000) dX8_follows_28 (by decide) rfl ?_
      refine r_iload (pc2 := 33) dX8_follows_31 rfl rfl ?_
      refine r_isub (pc2 := 34) dX8_follows_33 rfl ?_
      exact r_iret dX8_follows_34 rfl (⟨by rw [fi_dead hj hn8 hI c12 (eC.trans ec)], rfl⟩)

set_option maxRecDepth 100000 in
set_option maxHeartbeats 4000000 in
theorem c_X8_follow_bad {PL : List (Nat × Nat)} {V : Mm_} {n : Nat} (hm : V 0 33 0 = nI n) (hn1 : 2 ≤ n) (hn8 : n ≤ 8) {a b : Int32} (hbad : ¬ (pr_ok (nI n) a b)) : Cp_ PL mX8_follow [vR 0 33, vI a, vI b] V ((-1)) := by
  refine Ca_.of mv_X8_follow.2.2.2.2.2.2 0 (lo := [some (vR 0 33), some (vI a), some (vI b)]) rfl (Nat.le_of_ble_eq_true rfl) ?_
  refine r_aload_n (pc2 := 1) dX8_follow_0 rfl rfl ?_
  refine r_iload_n (pc2 := 2) dX8_follow_1 rfl rfl ?_
  refine r_iload_n (pc2 := 3) dX8_follow_2 rfl rfl ?_
  refine r_cv2p (pc2 := 6) dX8_follow_3 st_X8_follow_74 rl_X8_arePair (Nat.le_of_ble_eq_true rfl) rfl (c_X8_arePair hm hn1 hn8) ?_
  refine r_ifB_eq (pc2 := 9) (tgt := 18) dX8_follow_6 (by decide) rfl (fun c6 => ?_) (fun c6 => ?_)
  · skip
    refine r_iconst (pc2 := 19) (-1) dX8_follow_18 (by decide) rfl ?_
    exact r_iret dX8_follow_19 rfl (⟨rfl, rfl⟩)
  · skip
    exact absurd (of_decide_eq_true c6) hbad

set_option maxRecDepth 100000 in
set_option maxHeartbeats 4000000 in
theorem c_X8_follow_ok {PL : List (Nat × Nat)} {V : Mm_} {s : Sg_} (h : RT_ (V 0 34) s) {n : Nat} (hm : V 0 33 0 = nI n) (hn1 : 2 ≤ n) (hn8 : n ≤ 8) {i j : Nat} (hi : i < n) (hj : j < n) (hij : ¬ i = j) (hr : ru_ (V 0 37 2)) : Cp_ PL mX8_follow [vR 0 33, vI (nI i), vI (nI j)] V (wv_ (Ch_ (V 0 37 2) s (V 0 37 6) n) i j) := by
  refine Ca_.of mv_X8_follow.2.2.2.2.2.2 0 (lo := [some (vR 0 33), some (vI (nI i)), some (vI (nI j))]) rfl (Nat.le_of_ble_eq_true rfl) ?_
  refine r_aload_n (pc2 := 1) dX8_follow_0 rfl rfl ?_
  refine r_iload_n (pc2 := 2) dX8_follow_1 rfl rfl ?_
  refine r_iload_n (pc2 := 3) dX8_follow_2 rfl rfl ?_
  refine r_cv2p (pc2 := 6) dX8_follow_3 st_X8_follow_74 rl_X8_arePair (Nat.le_of_ble_eq_true rfl) rfl (c_arePair_ok hm hn1 hn8 hi hj hij) ?_
  refine r_if0N_eq (pc2 := 9) (tgt := 18) (by omega) dX8_follow_6 (by decide) rfl (fun c6 => ?_) (fun c6 => ?_)
  · skip
    exact absurd c6 (by decide)
  · skip
    refine r_aload_n (pc2 := 10) dX8_follow_9 rfl rfl ?_
    refine r_iload_n (pc2 := 11) dX8_follow_10 rfl rfl ?_
    refine r_iload_n (pc2 := 12) dX8_follow_11 rfl rfl ?_
    refine r_cv2p (pc2 := 15) dX8_follow_12 st_X8_follow_157 rl_X8_follows (Nat.le_of_ble_eq_true rfl) rfl (c_X8_follows h hm hn1 hn8 hi hj hij hr) ?_
    refine r_goto (pc2 := 19) dX8_follow_15 (by decide) ?_
    exact r_iret dX8_follow_19 rfl (⟨rfl, rfl⟩)

theorem wk_rg {C : Nat → Int32} {t : Nat} : ∀ (f k a : Nat) (sn : Int32), k + f ≤ 8 → (0 < wk_ C t f k a sn) ∨ (wk_ C t f k a sn ≤ -1000)
  | 0, _, _, _, _ => Or.inr (by show (-1008 : Int32) ≤ -1000; decide)
  | f + 1, k, a, sn, h => by
    have i2 : (-2000 : Int32).toInt = -2000 := by decide
    have i1 : (-1000 : Int32).toInt = -1000 := by decide
    have ik : (nI k).toInt = (k : Int) := nI_toInt (by omega)
    have ik1 : (nI 1).toInt = 1 := by decide
    rw [wk_]
    split
    · refine Or.inr ?_
      rw [Int32.le_iff_toInt_le, Int32.toInt_sub, i2, ik, i1, Int.bmod_eq_of_le (by omega) (by omega)]
      omega
    · split
      · refine Or.inl ?_
        rw [Int32.lt_iff_toInt_lt, nI_toInt (show k + 1 < 2 ^ 31 by omega), i_0]
        omega
      · split
        · refine Or.inr ?_
          rw [Int32.le_iff_toInt_le, Int32.toInt_sub, Int32.toInt_sub, i1, ik, ik1, Int.bmod_eq_of_le (n := -1000 - (k : Int)) (by omega) (by omega), Int.bmod_eq_of_le (by omega) (by omega)]
          omega
        · exact wk_rg f (k + 1) _ _ (by omega)
/-- a loop, told by both -/
theorem lp_eq {C : Nat → Int32} {a b : Nat} : (decide (¬ a = b) && decide (-1999 ≤ wv_ C a b ∧ wv_ C a b ≤ -1000)) = lp_ C a b := by
  unfold lp_
  rw [← Bool.decide_and]
  refine decide_eq_decide.mpr ?_
  have h := wk_rg (C := C) (t := b) 8 0 a (nI 1 <<< (nI a &&& 31)) (by omega)
  have h2 : (0 < wv_ C a b) ∨ (wv_ C a b ≤ -1000) := h
  have i1 : (-1000 : Int32).toInt = -1000 := by decide
  have i2 : (-2000 : Int32).toInt = -2000 := by decide
  have i3 : (-1999 : Int32).toInt = -1999 := by decide
  simp only [Int32.lt_iff_toInt_lt, Int32.le_iff_toInt_le, i_0, i1, i2, i3] at h2 ⊢
  omega
set_option maxRecDepth 100000 in
set_option maxHeartbeats 4000000 in
theorem c_X8_loops {PL : List (Nat × Nat)} {V : Mm_} {s : Sg_} (h : RT_ (V 0 34) s) {n : Nat} (hm : V 0 33 0 = nI n) (hn1 : 2 ≤ n) (hn8 : n ≤ 8) (hr : ru_ (V 0 37 2)) : Cp_ PL mX8_loops [vR 0 33] V (nI (c2_ (lp_ (Ch_ (V 0 37 2) s (V 0 37 6) n)) n n)) := by
  refine Ca_.of mv_X8_loops.2.2.2.2.2.2 3 (lo := [some (vR 0 33), none, none, none]) rfl (Nat.le_of_ble_eq_true rfl) ?_
  refine r_iconst (pc2 := 1) (nI 0) dX8_loops_0 (by decide) rfl ?_
  refine r_istore_n (pc2 := 2) dX8_loops_1 (by decide) rfl rfl ?_
  refine r_iconst (pc2 := 3) (nI 0) dX8_loops_2 (by decide) rfl ?_
  refine r_istore_n (pc2 := 4) dX8_loops_3 (by decide) rfl rfl ?_
  refine Rc_.to (V' := (fun _ => V) 0) (lo' := (fun k : Nat => [some (vR 0 33), some (vI (nI ((cnt_ (fun k => decide (pr_ok (nI n) (nI (k / 8)) (nI (k % 8))) && decide (-1999 ≤ wv_ (Ch_ (V 0 37 2) s (V 0 37 6) n) (k / 8) (k % 8) ∧ wv_ (Ch_ (V 0 37 2) s (V 0 37 6) n) (k / 8) (k % 8) ≤ -1000)) k)))), some (vI (nI k)), none]) 0) (rfl) ⟨rfl, rfl, rfl, trivial⟩ ?_
  refine Rc_for 0 (64) (fun k : Nat => [some (vR 0 33), some (vI (nI ((cnt_ (fun k => decide (pr_ok (nI n) (nI (k / 8)) (nI (k % 8))) && decide (-1999 ≤ wv_ (Ch_ (V 0 37 2) s (V 0 37 6) n) (k / 8) (k % 8) ∧ wv_ (Ch_ (V 0 37 2) s (V 0 37 6) n) (k / 8) (k % 8) ≤ -1000)) k)))), some (vI (nI k)), none]) (fun _ => V) (by omega) (fun k hk0 hkN ih4 => ?_)
  refine r_iload_n (pc2 := 5) dX8_loops_4 rfl rfl ?_
  refine r_bipush (pc2 := 7) (nI 64) dX8_loops_5 (by decide) rfl ?_
  refine r_icN_ge (pc2 := 10) (tgt := 73) (by omega) (by omega) dX8_loops_7 (by decide) rfl (fun c7 => ?_) (fun c7 => ?_)
  · skip
    refine r_iload_n (pc2 := 74) dX8_loops_73 rfl rfl ?_
    exact r_iret dX8_loops_74 rfl (⟨by rw [show k = 64 by omega]; refine congrArg nI (cnt_64 hn8 (fun k hk => ?_)); rw [pr_dec hn8 (by omega) (by omega), lp_eq], rfl⟩)
  · skip
    refine r_aload_n (pc2 := 11) dX8_loops_10 rfl rfl ?_
    refine r_iload_n (pc2 := 12) dX8_loops_11 rfl rfl ?_
    refine r_bipush (pc2 := 14) (nI 8) dX8_loops_12 (by decide) rfl ?_
    refine r_idivN (pc2 := 15) (by omega) (by omega) (by omega) dX8_loops_14 rfl ?_
    refine r_iload_n (pc2 := 16) dX8_loops_15 rfl rfl ?_
    refine r_bipush (pc2 := 18) (nI 8) dX8_loops_16 (by decide) rfl ?_
    refine r_iremN (pc2 := 19) (by omega) (by omega) (by omega) dX8_loops_18 rfl ?_
    refine r_cv2p (pc2 := 22) dX8_loops_19 st_X8_loops_74 rl_X8_arePair (Nat.le_of_ble_eq_true rfl) rfl (c_X8_arePair hm hn1 hn8) ?_
    refine r_ifB_eq (pc2 := 25) (tgt := 53) dX8_loops_22 (by decide) rfl (fun c22 => ?_) (fun c22 => ?_)
    · skip
      refine r_iconst (pc2 := 54) (nI 0) dX8_loops_53 (by decide) rfl ?_
      refine r_istore_n (pc2 := 55) dX8_loops_54 (by decide) rfl rfl ?_
      refine r_iload_n (pc2 := 56) dX8_loops_55 rfl rfl ?_
      refine r_iload_n (pc2 := 57) dX8_loops_56 rfl rfl ?_
      refine r_if0N_eq (pc2 := 60) (tgt := 64) (by omega) dX8_loops_57 (by decide) rfl (fun c57 => ?_) (fun c57 => ?_)
      · skip
        refine r_iconst (pc2 := 65) (nI 0) dX8_loops_64 (by decide) rfl ?_
        refine r_iaddN (pc2 := 66) dX8_loops_65 rfl ?_
        refine r_istore_n (pc2 := 67) dX8_loops_66 (by decide) rfl rfl ?_
        refine r_iincN (pc2 := 70) dX8_loops_67 rfl (by decide) rfl rfl ?_
        refine r_goto (pc2 := 4) dX8_loops_70 (by decide) ?_
        exact Rc_.to (lo' := (fun k : Nat => [some (vR 0 33), some (vI (nI ((cnt_ (fun k => decide (pr_ok (nI n) (nI (k / 8)) (nI (k % 8))) && decide (-1999 ≤ wv_ (Ch_ (V 0 37 2) s (V 0 37 6) n) (k / 8) (k % 8) ∧ wv_ (Ch_ (V 0 37 2) s (V 0 37 6) n) (k / 8) (k % 8) ≤ -1000)) k)))), some (vI (nI k)), none]) (k + 1)) (rfl) ⟨rfl, (congrArg (fun z => some (vI (nI z))) (cnt_f (by show (_ && _) = false; rw [c22]; rfl))), rfl, trivial⟩ (ih4 (by omega))
      · skip
        exact absurd rfl c57
    · skip
      refine r_aload_n (pc2 := 26) dX8_loops_25 rfl rfl ?_
      refine r_iload_n (pc2 := 27) dX8_loops_26 rfl rfl ?_
      refine r_bipush (pc2 := 29) (nI 8) dX8_loops_27 (by decide) rfl ?_
      refine r_idivN (pc2 := 30) (by omega) (by omega) (by omega) dX8_loops_29 rfl ?_
      refine r_iload_n (pc2 := 31) dX8_loops_30 rfl rfl ?_
      refine r_bipush (pc2 := 33) (nI 8) dX8_loops_31 (by decide) rfl ?_
      refine r_iremN (pc2 := 34) (by omega) (by omega) (by omega) dX8_loops_33 rfl ?_
      refine r_cv2p (pc2 := 37) dX8_loops_34 st_X8_loops_157 rl_X8_follows (Nat.le_of_ble_eq_true rfl) rfl (c_X8_follows h hm hn1 hn8 ((pr_nat hn8 (by omega) (by omega)).mp (of_decide_eq_true c22)).1 ((pr_nat hn8 (by omega) (by omega)).mp (of_decide_eq_true c22)).2.1 ((pr_nat hn8 (by omega) (by omega)).mp (of_decide_eq_true c22)).2.2 hr) ?_
      refine r_sipush (pc2 := 40) (-1999) dX8_loops_37 (by decide) rfl ?_
      refine r_sipush (pc2 := 43) (-1000) dX8_loops_40 (by decide) rfl ?_
      refine r_cs3p (pc2 := 46) dX8_loops_43 st_X8_loops_54 (Nat.le_of_ble_eq_true rfl) rfl (c_X8_in) ?_
      refine r_ifB_eq (pc2 := 49) (tgt := 53) dX8_loops_46 (by decide) rfl (fun c46 => ?_) (fun c46 => ?_)
      · skip
        refine r_iconst (pc2 := 54) (nI 0) dX8_loops_53 (by decide) rfl ?_
        refine r_istore_n (pc2 := 55) dX8_loops_54 (by decide) rfl rfl ?_
        refine r_iload_n (pc2 := 56) dX8_loops_55 rfl rfl ?_
        refine r_iload_n (pc2 := 57) dX8_loops_56 rfl rfl ?_
        refine r_if0N_eq (pc2 := 60) (tgt := 64) (by omega) dX8_loops_57 (by decide) rfl (fun c57 => ?_) (fun c57 => ?_)
        · skip
          refine r_iconst (pc2 := 65) (nI 0) dX8_loops_64 (by decide) rfl ?_
          refine r_iaddN (pc2 := 66) dX8_loops_65 rfl ?_
          refine r_istore_n (pc2 := 67) dX8_loops_66 (by decide) rfl rfl ?_
          refine r_iincN (pc2 := 70) dX8_loops_67 rfl (by decide) rfl rfl ?_
          refine r_goto (pc2 := 4) dX8_loops_70 (by decide) ?_
          exact Rc_.to (lo' := (fun k : Nat => [some (vR 0 33), some (vI (nI ((cnt_ (fun k => decide (pr_ok (nI n) (nI (k / 8)) (nI (k % 8))) && decide (-1999 ≤ wv_ (Ch_ (V 0 37 2) s (V 0 37 6) n) (k / 8) (k % 8) ∧ wv_ (Ch_ (V 0 37 2) s (V 0 37 6) n) (k / 8) (k % 8) ≤ -1000)) k)))), some (vI (nI k)), none]) (k + 1)) (rfl) ⟨rfl, (congrArg (fun z => some (vI (nI z))) (by first | exact cnt_t (by show (_ && _) = true; rw [c22, c46]; rfl) | exact cnt_f (by show (_ && _) = false; rw [c22, c46]; rfl))), rfl, trivial⟩ (ih4 (by omega))
        · skip
          exact absurd rfl c57
      · skip
        refine r_iconst (pc2 := 50) (nI 1) dX8_loops_49 (by decide) rfl ?_
        refine r_goto (pc2 := 54) dX8_loops_50 (by decide) ?_
        refine r_istore_n (pc2 := 55) dX8_loops_54 (by decide) rfl rfl ?_
        refine r_iload_n (pc2 := 56) dX8_loops_55 rfl rfl ?_
        refine r_iload_n (pc2 := 57) dX8_loops_56 rfl rfl ?_
        refine r_if0N_eq (pc2 := 60) (tgt := 64) (by omega) dX8_loops_57 (by decide) rfl (fun c57 => ?_) (fun c57 => ?_)
        · skip
          exact absurd c57 (by decide)
        · skip
          refine r_iconst (pc2 := 61) (nI 1) dX8_loops_60 (by decide) rfl ?_
          refine r_goto (pc2 := 65) dX8_loops_61 (by decide) ?_
          refine r_iaddN (pc2 := 66) dX8_loops_65 rfl ?_
          refine r_istore_n (pc2 := 67) dX8_loops_66 (by decide) rfl rfl ?_
          refine r_iincN (pc2 := 70) dX8_loops_67 rfl (by decide) rfl rfl ?_
          refine r_goto (pc2 := 4) dX8_loops_70 (by decide) ?_
          exact Rc_.to (lo' := (fun k : Nat => [some (vR 0 33), some (vI (nI ((cnt_ (fun k => decide (pr_ok (nI n) (nI (k / 8)) (nI (k % 8))) && decide (-1999 ≤ wv_ (Ch_ (V 0 37 2) s (V 0 37 6) n) (k / 8) (k % 8) ∧ wv_ (Ch_ (V 0 37 2) s (V 0 37 6) n) (k / 8) (k % 8) ≤ -1000)) k)))), some (vI (nI k)), none]) (k + 1)) (rfl) ⟨rfl, (congrArg (fun z => some (vI (nI z))) (by first | exact cnt_t (by show (_ && _) = true; rw [c22, c46]; rfl) | exact cnt_f (by show (_ && _) = false; rw [c22, c46]; rfl))), rfl, trivial⟩ (ih4 (by omega))
