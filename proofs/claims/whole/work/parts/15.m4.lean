/-! class: look and take: written by wip/whole/m4.py -/
/-- a bound of the i-th usable entry -/
def pb_ (s : Sg_) (inf : Int32) (n r a b : Nat) : Nat → Int32 := fun i => s r ((a * 8 + b) * 8 + (ul_ s inf n a b).getD i 0)
def dl_ (s : Sg_) (inf : Int32) (n a b : Nat) : Int32 := mn_ (pb_ s inf n 7 a b) (if a = b then nI 0 else -1) (ul_ s inf n a b).length
def du_ (s : Sg_) (inf : Int32) (n a b : Nat) : Int32 := mn_ (pb_ s inf n 8 a b) (if a = b then nI 0 else -1) (ul_ s inf n a b).length
def ch_ (rule : Int32) (s : Sg_) (inf : Int32) (n a b : Nat) : Int32 := match bs_ (rk_ rule (pb_ s inf n 7 a b) (pb_ s inf n 8 a b) (ul_ s inf n a b).length) (sc_ rule (pb_ s inf n 7 a b) (pb_ s inf n 8 a b)) (ul_ s inf n a b).length with
  | none => -1
  | some i => nI ((ul_ s inf n a b).getD i 0)
theorem ul_len (s : Sg_) (inf : Int32) (n a b : Nat) : (ul_ s inf n a b).length ≤ n := by
  have := List.length_filter_le (fun c => us_ s inf a b c) (List.range n)
  rw [List.length_range] at this
  exact this
/-- the survey shows a pair -/
def ct_ (V : Mm_) (s : Sg_) (rule inf : Int32) (n a b : Nat) : Prop := V 0 21 (a * 8 + b) = dl_ s inf n a b ∧ V 0 22 (a * 8 + b) = du_ s inf n a b ∧ V 0 23 (a * 8 + b) = ch_ rule s inf n a b
/-- nothing but the survey has changed -/
def sf_ (V V' : Mm_) : Prop := ∀ g r, ¬ (g = 0 ∧ 20 ≤ r ∧ r ≤ 29) → V' g r = V g r
theorem sf_rf {V : Mm_} : sf_ V V := fun _ _ _ => rfl
theorem sf_tr {V V' V2 : Mm_} (h : sf_ V V') (h2 : sf_ V' V2) : sf_ V V2 := fun g r hh => (h2 g r hh).trans (h g r hh)
def lk_ (V V' : Mm_) (s : Sg_) (rule inf : Int32) (n a b : Nat) : Prop := sf_ V V' ∧ V' 0 24 = V 0 24 ∧ (∀ k, ¬ k = 10 → V' 0 20 k = V 0 20 k) ∧ (∀ k, ¬ k = a * 8 + b → V' 0 21 k = V 0 21 k ∧ V' 0 22 k = V 0 22 k ∧ V' 0 23 k = V 0 23 k) ∧ ct_ V' s rule inf n a b
def ra_ (V : Mm_) (rule : Int32) (u : Nat) : Mm_ := a_set (a_set V 0 28 (fr_ (rk_ rule (V 0 26) (V 0 27) u) (V 0 28) u)) 0 29 (fr_ (sc_ rule (V 0 26) (V 0 27)) (V 0 29) u)
theorem lk_of {V V1 : Mm_} {s : Sg_} {rule inf d : Int32} {n a b : Nat} (hd : d = if a = b then nI 0 else -1) (h : gf_ V V1 s a b (ul_ s inf n a b)) : lk_ V (m_set (ra_ (m_set (m_set V1 0 21 (a * 8 + b) (mn_ (V1 0 26) d (ul_ s inf n a b).length)) 0 22 (a * 8 + b) (mn_ (V1 0 27) d (ul_ s inf n a b).length)) rule (ul_ s inf n a b).length) 0 23 (a * 8 + b) (cz_ (ra_ (m_set (m_set V1 0 21 (a * 8 + b) (mn_ (V1 0 26) d (ul_ s inf n a b).length)) 0 22 (a * 8 + b) (mn_ (V1 0 27) d (ul_ s inf n a b).length)) rule (ul_ s inf n a b).length) (ul_ s inf n a b).length)) s rule inf n a b := by
  obtain ⟨h1, h2, h3, h4⟩ := h
  generalize hU : ul_ s inf n a b = U at h3 h4 ⊢
  have hg : ∀ i, i < U.length → V1 0 25 i = nI (U.getD i 0) ∧ V1 0 26 i = pb_ s inf n 7 a b i ∧ V1 0 27 i = pb_ s inf n 8 a b i := by
    intro i hi
    have e : U[i]? = some (U.getD i 0) := by rw [List.getD_eq_getElem?_getD, List.getElem?_eq_getElem hi]; rfl
    have := h4 i _ e
    unfold pb_
    rw [hU]
    exact this
  have hr : ∀ i, i < U.length → rk_ rule (V1 0 26) (V1 0 27) U.length i = rk_ rule (pb_ s inf n 7 a b) (pb_ s inf n 8 a b) U.length i ∧ sc_ rule (V1 0 26) (V1 0 27) i = sc_ rule (pb_ s inf n 7 a b) (pb_ s inf n 8 a b) i := by
    intro i hi
    unfold rk_ sc_
    rw [(hg i hi).2.1, (hg i hi).2.2, rg_cong (hg i hi).2.2 (fun j hj => (hg j hj).2.1)]
    exact ⟨rfl, rfl⟩
  refine ⟨fun g' r' hh => ?_, ?_, fun k hk => ?_, fun k hk => ?_, ?_, ?_, ?_⟩
  · unfold ra_
    have e : ∀ (V : Mm_) (i : Nat) (f : Nat → Int32), 20 ≤ i → i ≤ 29 → a_set V 0 i f g' r' = V g' r' := fun V i f h1 h2 => a_ne (by omega)
    rw [show m_set _ 0 23 _ _ = a_set _ 0 23 _ from rfl, e _ _ _ (by omega) (by omega), e _ _ _ (by omega) (by omega), e _ _ _ (by omega) (by omega), show m_set _ 0 22 _ _ = a_set _ 0 22 _ from rfl, e _ _ _ (by omega) (by omega), show m_set _ 0 21 _ _ = a_set _ 0 21 _ from rfl, e _ _ _ (by omega) (by omega)]
    exact h1 g' r' (by omega)
  · show V1 0 24 = V 0 24
    exact h1 0 24 (by omega)
  · exact h2 k hk
  · refine ⟨?_, ?_, ?_⟩
    · show upd (V1 0 21) _ _ k = _
      rw [pk_un hk, h1 0 21 (by omega)]
    · show upd (V1 0 22) _ _ k = _
      rw [pk_un hk, h1 0 22 (by omega)]
    · show upd (V1 0 23) _ _ k = _
      rw [pk_un hk, h1 0 23 (by omega)]
  · show upd (V1 0 21) _ _ (a * 8 + b) = _
    rw [pk_us]
    unfold dl_
    rw [hU, hd]
    exact mn_cong (fun i hi => (hg i hi).2.1)
  · show upd (V1 0 22) _ _ (a * 8 + b) = _
    rw [pk_us]
    unfold du_
    rw [hU, hd]
    exact mn_cong (fun i hi => (hg i hi).2.2)
  · show upd (V1 0 23) _ _ (a * 8 + b) = _
    rw [pk_us]
    unfold cz_ ch_
    rw [hU]
    have e28 : ∀ (V2 : Mm_), ra_ V2 rule U.length 0 28 = fr_ (rk_ rule (V2 0 26) (V2 0 27) U.length) (V2 0 28) U.length := fun V2 => by unfold ra_; simp [a_set]
    have e29 : ∀ (V2 : Mm_), ra_ V2 rule U.length 0 29 = fr_ (sc_ rule (V2 0 26) (V2 0 27)) (V2 0 29) U.length := fun V2 => by unfold ra_; simp [a_set]
    have e25 : ∀ (V2 : Mm_), ra_ V2 rule U.length 0 25 = V2 0 25 := fun V2 => by unfold ra_; simp [a_set]
    rw [e28, e29, e25]
    have e : bs_ (fr_ (rk_ rule (V1 0 26) (V1 0 27) U.length) (V1 0 28) U.length) (fr_ (sc_ rule (V1 0 26) (V1 0 27)) (V1 0 29) U.length) U.length = bs_ (rk_ rule (pb_ s inf n 7 a b) (pb_ s inf n 8 a b) U.length) (sc_ rule (pb_ s inf n 7 a b) (pb_ s inf n 8 a b)) U.length :=
      bs_cong (fun i hi => by rw [fr_in hi, fr_in hi]; exact hr i hi)
    show (match bs_ (fr_ (rk_ rule (V1 0 26) (V1 0 27) U.length) (V1 0 28) U.length) (fr_ (sc_ rule (V1 0 26) (V1 0 27)) (V1 0 29) U.length) U.length with
      | none => -1
      | some i => V1 0 25 i) = _
    rw [e]
    cases hb : bs_ (rk_ rule (pb_ s inf n 7 a b) (pb_ s inf n 8 a b) U.length) (sc_ rule (pb_ s inf n 7 a b) (pb_ s inf n 8 a b)) U.length with
    | none => rfl
    | some i => exact (hg i (bs_lt hb)).1

set_option maxRecDepth 100000 in
set_option maxHeartbeats 4000000 in
theorem c_X3_look {PL : List (Nat × Nat)} {g a b n : Nat} {V : Mm_} (hg0 : ¬ g = 0) (hn8 : n ≤ 8) (ha : a < n) (hb : b < n) (hnr : V 0 20 4 = nI (nb_ (V g) n a).length) (har : ar_ (V 0 24) (nb_ (V g) n a)) : Cv_ PL mX3_look [vR 0 20, vR g 0, vR 0 19, vI (nI a), vI (nI b)] V (fun V' => lk_ V V' (V g) (V 0 19 2) (V 0 19 6) n a b) := by
  refine Ca_.of mv_X3_look.2.2.2.2.2.2 1 (lo := [some (vR 0 20), some (vR g 0), some (vR 0 19), some (vI (nI a)), some (vI (nI b)), none]) rfl (Nat.le_of_ble_eq_true rfl) ?_
  refine r_iload_n (pc2 := 1) dX3_look_0 rfl rfl ?_
  refine r_iload (pc2 := 3) dX3_look_1 rfl rfl ?_
  refine r_cn2p (pc2 := 6) dX3_look_3 st_X3_look_66 (Nat.le_of_ble_eq_true rfl) rfl (c_X7_pair) ?_
  refine r_istore (pc2 := 8) dX3_look_6 (by decide) rfl rfl ?_
  refine r_aload_n (pc2 := 9) dX3_look_8 rfl rfl ?_
  refine r_aload_n (pc2 := 10) dX3_look_9 rfl rfl ?_
  refine r_iload_n (pc2 := 11) dX3_look_10 rfl rfl ?_
  refine r_iload (pc2 := 13) dX3_look_11 rfl rfl ?_
  refine r_aload_n (pc2 := 14) dX3_look_13 rfl rfl ?_
  refine r_bipush (pc2 := 16) (nI 6) dX3_look_14 (by decide) rfl ?_
  refine r_ialde (pc2 := 17) (x := ((V 0 19 6))) (j := _) (rfl) dX3_look_16 (by decide) rfl rfl (rfl) (by show _ < 10; omega) rfl ?_
  refine r_cv4v (pc2 := 20) dX3_look_17 st_X3_look_70 rl_X3_gather (Nat.le_of_ble_eq_true rfl) rfl (c_X3_gather hg0 hn8 ha hb hnr har) (fun V17 h17 => ?_)
  have hu8 : (ul_ (V g) (V 0 19 6) n a b).length ≤ 8 := Nat.le_trans (ul_len _ _ _ _ _) hn8
  have hu := h17.2.2.1
  refine r_aload_n (pc2 := 21) dX3_look_20 rfl rfl ?_
  refine r_iload (pc2 := 23) dX3_look_21 rfl rfl ?_
  refine r_iload_n (pc2 := 24) dX3_look_23 rfl rfl ?_
  refine r_iload (pc2 := 26) dX3_look_24 rfl rfl ?_
  refine r_icN_ne (pc2 := 29) (tgt := 33) (by omega) (by omega) dX3_look_26 (by decide) rfl (fun c26 => ?_) (fun c26 => ?_)
  · skip
    refine r_iconst (pc2 := 34) (nI 0) dX3_look_33 (by decide) rfl ?_
    refine r_cv2m (pc2 := 37) dX3_look_34 st_X3_look_74 rl_X3_putDistance (Nat.le_of_ble_eq_true rfl) rfl (c_X3_putDistance_0 (by omega) hu8 hu) ?_
    refine r_aload_n (pc2 := 38) dX3_look_37 rfl rfl ?_
    refine r_aload_n (pc2 := 39) dX3_look_38 rfl rfl ?_
    refine r_iconst (pc2 := 40) (nI 2) dX3_look_39 (by decide) rfl ?_
    refine r_ialde (pc2 := 41) (x := ((V 0 19 2))) (j := _) (by show V17 0 19 2 = _; rw [h17.1 0 19 (by omega)]) dX3_look_40 (by decide) rfl rfl (rfl) (by show _ < 10; omega) rfl ?_
    refine r_cv1m (pc2 := 44) dX3_look_41 st_X3_look_78 rl_X3_rankAll (Nat.le_of_ble_eq_true rfl) rfl (c_X3_rankAll hu8 hu) ?_
    refine r_aload_n (pc2 := 45) dX3_look_44 rfl rfl ?_
    refine r_getR (pc2 := 48) dX3_look_45 fl_X3_18 (by decide) rfl rfl rfl ?_
    refine r_iload (pc2 := 50) dX3_look_48 rfl rfl ?_
    refine r_aload_n (pc2 := 51) dX3_look_50 rfl rfl ?_
    refine r_cv0p (pc2 := 54) dX3_look_51 st_X3_look_82 rl_X3_choose (Nat.le_of_ble_eq_true rfl) rfl (c_X3_choose hu8 hu) ?_
    refine r_iast (pc2 := 55) (j := _) dX3_look_54 (by decide) rfl rfl (rfl) (by show _ < 64; omega) rfl ?_
    exact r_vret dX3_look_55 rfl (lk_of (by first | rw [if_pos c26] | rw [if_neg c26]) h17)
  · skip
    refine r_iconst (pc2 := 30) (nI 1) dX3_look_29 (by decide) rfl ?_
    refine r_goto (pc2 := 34) dX3_look_30 (by decide) ?_
    refine r_cv2m (pc2 := 37) dX3_look_34 st_X3_look_74 rl_X3_putDistance (Nat.le_of_ble_eq_true rfl) rfl (c_X3_putDistance_1 (by omega) hu8 hu) ?_
    refine r_aload_n (pc2 := 38) dX3_look_37 rfl rfl ?_
    refine r_aload_n (pc2 := 39) dX3_look_38 rfl rfl ?_
    refine r_iconst (pc2 := 40) (nI 2) dX3_look_39 (by decide) rfl ?_
    refine r_ialde (pc2 := 41) (x := ((V 0 19 2))) (j := _) (by show V17 0 19 2 = _; rw [h17.1 0 19 (by omega)]) dX3_look_40 (by decide) rfl rfl (rfl) (by show _ < 10; omega) rfl ?_
    refine r_cv1m (pc2 := 44) dX3_look_41 st_X3_look_78 rl_X3_rankAll (Nat.le_of_ble_eq_true rfl) rfl (c_X3_rankAll hu8 hu) ?_
    refine r_aload_n (pc2 := 45) dX3_look_44 rfl rfl ?_
    refine r_getR (pc2 := 48) dX3_look_45 fl_X3_18 (by decide) rfl rfl rfl ?_
    refine r_iload (pc2 := 50) dX3_look_48 rfl rfl ?_
    refine r_aload_n (pc2 := 51) dX3_look_50 rfl rfl ?_
    refine r_cv0p (pc2 := 54) dX3_look_51 st_X3_look_82 rl_X3_choose (Nat.le_of_ble_eq_true rfl) rfl (c_X3_choose hu8 hu) ?_
    refine r_iast (pc2 := 55) (j := _) dX3_look_54 (by decide) rfl rfl (rfl) (by show _ < 64; omega) rfl ?_
    exact r_vret dX3_look_55 rfl (lk_of (by first | rw [if_pos c26] | rw [if_neg c26]) h17)

def tk_ (V V' : Mm_) (s : Sg_) (rule inf : Int32) (n : Nat) : Prop := sf_ V V' ∧ ∀ a b, a < n → b < n → ct_ V' s rule inf n a b
theorem ct_keep {V V' : Mm_} {s : Sg_} {rule inf : Int32} {n a b : Nat} (h : ct_ V s rule inf n a b) (h2 : V' 0 21 (a * 8 + b) = V 0 21 (a * 8 + b) ∧ V' 0 22 (a * 8 + b) = V 0 22 (a * 8 + b) ∧ V' 0 23 (a * 8 + b) = V 0 23 (a * 8 + b)) : ct_ V' s rule inf n a b := ⟨h2.1.trans h.1, h2.2.1.trans h.2.1, h2.2.2.trans h.2.2⟩
set_option maxRecDepth 100000 in
set_option maxHeartbeats 4000000 in
theorem c_X3_take {PL : List (Nat × Nat)} {g n : Nat} {V : Mm_} (hg0 : ¬ g = 0) (hn : V g 0 0 = nI n) (hn8 : n ≤ 8) : Cv_ PL mX3_take [vR 0 20, vR g 0, vR 0 19] V (fun V' => tk_ V V' (V g) (V 0 19 2) (V 0 19 6) n) := by
  refine Ca_.of mv_X3_take.2.2.2.2.2.2 2 (lo := [some (vR 0 20), some (vR g 0), some (vR 0 19), none, none]) rfl (Nat.le_of_ble_eq_true rfl) ?_
  refine r_iconst (pc2 := 1) (nI 0) dX3_take_0 (by decide) rfl ?_
  refine r_istore_n (pc2 := 2) dX3_take_1 (by decide) rfl rfl ?_
  refine Rc_.to (V' := (fun V1 => V1) (V)) (lo' := (fun (i : Nat) (V1 : Mm_) => [some (vR 0 20), some (vR g 0), some (vR 0 19), some (vI (nI i)), none]) 0 (V)) (rfl) ⟨rfl, rfl, rfl, rfl, trivial⟩ ?_
  refine Rc_forI 0 (n) (fun (i : Nat) (V1 : Mm_) => [some (vR 0 20), some (vR g 0), some (vR 0 19), some (vI (nI i)), none]) (fun V1 => V1) (fun i V1 => sf_ V V1 ∧ ∀ a b, a < i → b < n → ct_ V1 (V g) (V 0 19 2) (V 0 19 6) n a b) (by omega) (fun i V1 hi0 hiN hI ih2 => ?_) (V) (⟨sf_rf, fun a b h => absurd h (Nat.not_lt_zero a)⟩)
  have hVg : V1 g = V g := by funext r; exact hI.1 g r (by omega)
  refine r_iload_n (pc2 := 3) dX3_take_2 rfl rfl ?_
  refine r_aload_n (pc2 := 4) dX3_take_3 rfl rfl ?_
  refine r_getIe (pc2 := 7) (x := (nI n)) (by rw [hVg]; exact hn) dX3_take_4 fl_X3_39 (by decide) rfl rfl rfl ?_
  refine r_icN_ge (pc2 := 10) (tgt := 49) (by omega) (by omega) dX3_take_7 (by decide) rfl (fun c7 => ?_) (fun c7 => ?_)
  · skip
    exact r_vret dX3_take_49 rfl (⟨hI.1, fun a b h h2 => hI.2 a b (by omega) h2⟩)
  · skip
    refine r_aload_n (pc2 := 11) dX3_take_10 rfl rfl ?_
    refine r_aload_n (pc2 := 12) dX3_take_11 rfl rfl ?_
    refine r_iload_n (pc2 := 13) dX3_take_12 rfl rfl ?_
    refine r_cv2v (pc2 := 16) dX3_take_13 st_X3_take_45 rl_X3_findNeighbours (Nat.le_of_ble_eq_true rfl) rfl (c_X3_findNeighbours (n := n) hg0 (by rw [hVg]; exact hn) hn8 (by omega)) (fun V13 h13 => ?_)
    refine r_iconst (pc2 := 17) (nI 0) dX3_take_16 (by decide) rfl ?_
    refine r_istore (pc2 := 19) dX3_take_17 (by decide) rfl rfl ?_
    refine Rc_.to (V' := (fun V2 => V2) (V13)) (lo' := (fun (j : Nat) (V2 : Mm_) => [some (vR 0 20), some (vR g 0), some (vR 0 19), some (vI (nI i)), some (vI (nI j))]) 0 (V13)) (rfl) ⟨rfl, rfl, rfl, rfl, rfl, trivial⟩ ?_
    refine Rc_forI 0 (n) (fun (j : Nat) (V2 : Mm_) => [some (vR 0 20), some (vR g 0), some (vR 0 19), some (vI (nI i)), some (vI (nI j))]) (fun V2 => V2) (fun j V2 => sf_ V V2 ∧ (∀ a b, (a < i ∨ (a = i ∧ b < j)) → b < n → ct_ V2 (V g) (V 0 19 2) (V 0 19 6) n a b) ∧ V2 0 20 4 = nI (nb_ (V g) n i).length ∧ ar_ (V2 0 24) (nb_ (V g) n i)) (by omega) (fun j V2 hj0 hjN hJ ih19 => ?_) (V13) (⟨sf_tr hI.1 (fun g r hh => h13.1 g r (by omega)), fun a b h h2 => ct_keep (hI.2 a b (by omega) h2) ⟨by rw [h13.1 0 21 (by omega)], by rw [h13.1 0 22 (by omega)], by rw [h13.1 0 23 (by omega)]⟩, by rw [← hVg]; exact h13.2.2.1, by rw [← hVg]; exact h13.2.2.2⟩)
    have hVg2 : V2 g = V g := by funext r; exact hJ.1 g r (by omega)
    refine r_iload (pc2 := 21) dX3_take_19 rfl rfl ?_
    refine r_aload_n (pc2 := 22) dX3_take_21 rfl rfl ?_
    refine r_getIe (pc2 := 25) (x := (nI n)) (by rw [hVg2]; exact hn) dX3_take_22 fl_X3_39 (by decide) rfl rfl rfl ?_
    refine r_icN_ge (pc2 := 28) (tgt := 43) (by omega) (by omega) dX3_take_25 (by decide) rfl (fun c25 => ?_) (fun c25 => ?_)
    · skip
      refine r_iincN (pc2 := 46) dX3_take_43 rfl (by decide) rfl rfl ?_
      refine r_goto (pc2 := 2) dX3_take_46 (by decide) ?_
      exact Rc_.to (lo' := [some (vR 0 20), some (vR g 0), some (vR 0 19), some (vI (nI ((i + 1)))), none]) (rfl) ⟨rfl, rfl, rfl, rfl, trivial⟩ (ih2 _ (by omega) (⟨hJ.1, fun a b h h2 => hJ.2.1 a b (by omega) h2⟩))
    · skip
      refine r_aload_n (pc2 := 29) dX3_take_28 rfl rfl ?_
      refine r_aload_n (pc2 := 30) dX3_take_29 rfl rfl ?_
      refine r_aload_n (pc2 := 31) dX3_take_30 rfl rfl ?_
      refine r_iload_n (pc2 := 32) dX3_take_31 rfl rfl ?_
      refine r_iload (pc2 := 34) dX3_take_32 rfl rfl ?_
      refine r_cv4v (pc2 := 37) dX3_take_34 st_X3_take_49 rl_X3_look (Nat.le_of_ble_eq_true rfl) rfl (c_X3_look (n := n) hg0 hn8 (by omega) (by omega) (by rw [hVg2]; exact hJ.2.2.1) (by rw [hVg2]; exact hJ.2.2.2)) (fun V34 h34 => ?_)
      refine r_iincN (pc2 := 40) dX3_take_37 rfl (by decide) rfl rfl ?_
      refine r_goto (pc2 := 19) dX3_take_40 (by decide) ?_
      exact Rc_.to (lo' := [some (vR 0 20), some (vR g 0), some (vR 0 19), some (vI (nI i)), some (vI (nI ((j + 1))))]) (rfl) ⟨rfl, rfl, rfl, rfl, rfl, trivial⟩ (ih19 _ (by omega) (⟨sf_tr hJ.1 h34.1, fun a b h h2 => by
            have e19 : V2 0 19 = V 0 19 := hJ.1 0 19 (by omega)
            by_cases hk : a * 8 + b = i * 8 + j
            · have : a = i ∧ b = j := by omega
              obtain ⟨rfl, rfl⟩ := this
              have := h34.2.2.2.2
              rw [hVg2, e19] at this
              exact this
            · exact ct_keep (hJ.2.1 a b (by omega) h2) (h34.2.2.2.1 _ hk), (h34.2.2.1 4 (by decide)).trans hJ.2.2.1, by rw [h34.2.1]; exact hJ.2.2.2⟩))

set_option maxRecDepth 100000 in
set_option maxHeartbeats 4000000 in
theorem c_X3_takeOne {PL : List (Nat × Nat)} {g a b n : Nat} {V : Mm_} (hg0 : ¬ g = 0) (hn : V g 0 0 = nI n) (hn8 : n ≤ 8) (ha : a < n) (hb : b < n) : Cv_ PL mX3_takeOne [vR 0 20, vR g 0, vR 0 19, vI (nI a), vI (nI b)] V (fun V' => sf_ V V' ∧ ct_ V' (V g) (V 0 19 2) (V 0 19 6) n a b) := by
  refine Ca_.of mv_X3_takeOne.2.2.2.2.2.2 0 (lo := [some (vR 0 20), some (vR g 0), some (vR 0 19), some (vI (nI a)), some (vI (nI b))]) rfl (Nat.le_of_ble_eq_true rfl) ?_
  refine r_aload_n (pc2 := 1) dX3_takeOne_0 rfl rfl ?_
  refine r_aload_n (pc2 := 2) dX3_takeOne_1 rfl rfl ?_
  refine r_iload_n (pc2 := 3) dX3_takeOne_2 rfl rfl ?_
  refine r_cv2v (pc2 := 6) dX3_takeOne_3 st_X3_takeOne_45 rl_X3_findNeighbours (Nat.le_of_ble_eq_true rfl) rfl (c_X3_findNeighbours hg0 hn hn8 (by omega)) (fun V3 h3 => ?_)
  have hVg : V3 g = V g := by funext r; exact h3.1 g r (by omega)
  refine r_aload_n (pc2 := 7) dX3_takeOne_6 rfl rfl ?_
  refine r_aload_n (pc2 := 8) dX3_takeOne_7 rfl rfl ?_
  refine r_aload_n (pc2 := 9) dX3_takeOne_8 rfl rfl ?_
  refine r_iload_n (pc2 := 10) dX3_takeOne_9 rfl rfl ?_
  refine r_iload (pc2 := 12) dX3_takeOne_10 rfl rfl ?_
  refine r_cv4v (pc2 := 15) dX3_takeOne_12 st_X3_takeOne_49 rl_X3_look (Nat.le_of_ble_eq_true rfl) rfl (c_X3_look (n := n) hg0 hn8 ha hb (by rw [hVg]; exact h3.2.2.1) (by rw [hVg]; exact h3.2.2.2)) (fun V12 h12 => ?_)
  exact r_vret dX3_takeOne_15 rfl (⟨sf_tr (fun g r hh => h3.1 g r (by omega)) h12.1, by
      have := h12.2.2.2.2
      rw [hVg, h3.1 0 19 (by omega)] at this
      exact this⟩)
