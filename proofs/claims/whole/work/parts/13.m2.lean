/-! class: states, tables, vectors: written by wip/whole/m2.py -/
def s_put (V : Mm_) (g : Nat) (s : Sg_) : Mm_ := fun g' r => if g' = g then s r else V g' r
theorem sp_same {V : Mm_} {g : Nat} {s : Sg_} : s_put V g s g = s := by unfold s_put; funext r; rw [if_pos rfl]
theorem sp_ne {V : Mm_} {g g' : Nat} {s : Sg_} (h : ¬ g' = g) : s_put V g s g' = V g' := by unfold s_put; funext r; rw [if_neg h]
theorem sp_twice {V : Mm_} {g : Nat} {s s' : Sg_} : s_put (s_put V g s) g s' = s_put V g s' := by
  funext g' r
  unfold s_put
  by_cases h : g' = g
  · rw [if_pos h, if_pos h]
  · rw [if_neg h, if_neg h, if_neg h]
theorem sp_id {V : Mm_} {g : Nat} : s_put V g (V g) = V := by
  funext g' r
  unfold s_put
  by_cases h : g' = g
  · rw [if_pos h, h]
  · rw [if_neg h]
/-- an entry receives: bounds lo, up, at tick t, by the settings f -/
def rc_ (f : Nat → Int32) (s : Sg_) (k : Nat) (lo up t : Int32) : Sg_ := fun r i =>
  if i = k then (if r = 7 then lo else if r = 8 then up else if r = 9 then t + f 1
    else if r = 10 then (if s 9 k < t then nI 0 else if gw_ s k up < f 8 then gw_ s k up else nI 0)
    else if r = 11 then (if s 9 k < t then nI 0 else if gw_ s k up < f 8 then s 11 k else t + f 9) else s r i) else s r i
/-- a node's vector is another one than what it sent -/
def df_ (s : Sg_) (dl du : Nat → Int32) (a n : Nat) : Bool := an_ (fun b => decide (¬ s 13 (a * 8 + b) = dl (a * 8 + b) ∨ ¬ s 14 (a * 8 + b) = du (a * 8 + b))) n
/-- the first n numbers of a node's vector are kept -/
def kp_ (s : Sg_) (dl du : Nat → Int32) (a n : Nat) : Sg_ := fun r k => if a * 8 ≤ k ∧ k < a * 8 + n then (if r = 13 then dl k else if r = 14 then du k else s r k) else s r k
theorem ms_off {V : Mm_} {g r k g' r' i : Nat} {x : Int32} (h : ¬ i = k) : m_set V g r k x g' r' i = V g' r' i := by
  unfold m_set a_set
  by_cases e : g' = g ∧ r' = r
  · rw [if_pos e, e.1, e.2, pk_un h]
  · rw [if_neg e]
theorem m_ne {V : Mm_} {g r g' r' i : Nat} {x : Int32} (h : ¬ (g' = g ∧ r' = r)) : m_set V g r i x g' r' = V g' r' := a_ne h
theorem m_same {V : Mm_} {g r i : Nat} {x : Int32} : m_set V g r i x g r = upd (V g r) i x := a_same
theorem ag_ne {V : Mm_} {g r g' : Nat} {f : Nat → Int32} (h : ¬ g' = g) : a_set V g r f g' = V g' := by funext r'; exact a_ne (fun z => h z.1)
theorem mg_ne {V : Mm_} {g r g' i : Nat} {x : Int32} (h : ¬ g' = g) : m_set V g r i x g' = V g' := ag_ne h
theorem kp_0 (s : Sg_) (dl du : Nat → Int32) (a : Nat) : kp_ s dl du a 0 = s := by
  funext r k
  unfold kp_
  rw [if_neg (by omega)]
theorem kp_s {V : Mm_} {g a i : Nat} {dl du : Nat → Int32} : m_set (m_set (s_put V g (kp_ (V g) dl du a i)) g 13 (a * 8 + i) (dl (a * 8 + i))) g 14 (a * 8 + i) (du (a * 8 + i)) = s_put V g (kp_ (V g) dl du a (i + 1)) := by
  funext g' r k
  by_cases hg : g' = g
  · subst hg
    by_cases hk : k = a * 8 + i
    · subst hk
      by_cases h13 : r = 13
      · subst h13; simp [a_set, upd, s_put, kp_]
      · by_cases h14 : r = 14
        · subst h14; simp [a_set, upd, s_put, kp_]
        · simp [a_set, upd, s_put, kp_, h13, h14]
    · have e : (a * 8 ≤ k ∧ k < a * 8 + i) ↔ (a * 8 ≤ k ∧ k < a * 8 + (i + 1)) := by omega
      by_cases h13 : r = 13
      · subst h13; simp [a_set, s_put, upd, hk]; simp only [kp_, e]
      · by_cases h14 : r = 14
        · subst h14; simp [a_set, s_put, upd, hk]; simp only [kp_, e]
        · simp [a_set, s_put, h13, h14]; simp only [kp_, e]
  · simp [a_set, s_put, hg]

theorem an_t {p : Nat → Bool} {k : Nat} : ∀ {n : Nat}, k < n → p k = true → an_ p n = true
  | 0, h, _ => absurd h (Nat.not_lt_zero k)
  | n + 1, h, hp => by
    show (an_ p n || p n) = true
    by_cases hk : k = n
    · subst hk; rw [hp, Bool.or_true]
    · rw [an_t (n := n) (by omega) hp, Bool.true_or]
theorem an_f {p : Nat → Bool} : ∀ {n : Nat}, an_ p n = false → ∀ k, k < n → p k = false
  | 0, _, k, h => absurd h (Nat.not_lt_zero k)
  | n + 1, h, k, hk => by
    have h' : (an_ p n || p n) = false := h
    rw [Bool.or_eq_false_iff] at h'
    by_cases e : k = n
    · rw [e]; exact h'.2
    · exact an_f h'.1 k (by omega)
theorem an_cong {p q : Nat → Bool} : ∀ {n : Nat}, (∀ k, k < n → p k = q k) → an_ p n = an_ q n
  | 0, _ => rfl
  | n + 1, h => by
    show (an_ p n || p n) = (an_ q n || q n)
    rw [an_cong (fun k hk => h k (by omega)), h n (by omega)]

set_option maxRecDepth 100000 in
set_option maxHeartbeats 4000000 in
theorem c_X4_receive {PL : List (Nat × Nat)} {g k : Nat} {lo up t : Int32} {V : Mm_} (hg0 : ¬ 0 = g) (hk : k < 512) : Cm_ PL mX4_receive [vR g 6, vI (nI k), vI lo, vI up, vI t, vR 0 19] V (s_put V g (rc_ (V 0 19) (V g) k lo up t)) := by
  refine Ca_.of mv_X4_receive.2.2.2.2.2.2 0 (lo := [some (vR g 6), some (vI (nI k)), some (vI lo), some (vI up), some (vI t), some (vR 0 19)]) rfl (Nat.le_of_ble_eq_true rfl) ?_
  refine r_aload_n (pc2 := 1) dX4_receive_0 rfl rfl ?_
  refine r_getR (pc2 := 4) dX4_receive_1 fl_X4_18 (by decide) rfl rfl rfl ?_
  refine r_iload_n (pc2 := 5) dX4_receive_4 rfl rfl ?_
  refine r_iald (pc2 := 6) (j := _) dX4_receive_5 (by decide) rfl rfl (rfl) (by show _ < 512; omega) rfl ?_
  refine r_iload (pc2 := 8) dX4_receive_6 rfl rfl ?_
  refine r_ic_ge (pc2 := 11) (tgt := 28) dX4_receive_8 (by decide) rfl (fun c8 => ?_) (fun c8 => ?_)
  · skip
    have e8 : ¬ V g 9 k < t := fun h => absurd h (Int32.not_lt.mpr c8)
    refine r_aload_n (pc2 := 29) dX4_receive_28 rfl rfl ?_
    refine r_iload_n (pc2 := 30) dX4_receive_29 rfl rfl ?_
    refine r_iload_n (pc2 := 31) dX4_receive_30 rfl rfl ?_
    refine r_cv2m (pc2 := 34) dX4_receive_31 st_X4_receive_31 rl_X4_countGrowth (Nat.le_of_ble_eq_true rfl) rfl (c_X4_countGrowth (by omega)) ?_
    refine r_aload_n (pc2 := 35) dX4_receive_34 rfl rfl ?_
    refine r_getR (pc2 := 38) dX4_receive_35 fl_X4_21 (by decide) rfl rfl rfl ?_
    refine r_iload_n (pc2 := 39) dX4_receive_38 rfl rfl ?_
    refine r_ialde (pc2 := 40) (x := ((gw_ (V g) k up))) (j := _) (by simp [a_set, upd]) dX4_receive_39 (by decide) rfl rfl (rfl) (by show _ < 512; omega) rfl ?_
    refine r_aload (pc2 := 42) dX4_receive_40 rfl rfl ?_
    refine r_bipush (pc2 := 44) (nI 8) dX4_receive_42 (by decide) rfl ?_
    refine r_ialde (pc2 := 45) (x := ((V 0 19 8))) (j := _) (by simp [a_set, hg0]) dX4_receive_44 (by decide) rfl rfl (rfl) (by show _ < 10; omega) rfl ?_
    refine r_ic_lt (pc2 := 48) (tgt := 69) dX4_receive_45 (by decide) rfl (fun c45 => ?_) (fun c45 => ?_)
    · skip
      have e45 := c45
      refine r_aload_n (pc2 := 70) dX4_receive_69 rfl rfl ?_
      refine r_getR (pc2 := 73) dX4_receive_70 fl_X4_9 (by decide) rfl rfl rfl ?_
      refine r_iload_n (pc2 := 74) dX4_receive_73 rfl rfl ?_
      refine r_iload_n (pc2 := 75) dX4_receive_74 rfl rfl ?_
      refine r_iast (pc2 := 76) (j := _) dX4_receive_75 (by decide) rfl rfl (rfl) (by show _ < 512; omega) rfl ?_
      refine r_aload_n (pc2 := 77) dX4_receive_76 rfl rfl ?_
      refine r_getR (pc2 := 80) dX4_receive_77 fl_X4_15 (by decide) rfl rfl rfl ?_
      refine r_iload_n (pc2 := 81) dX4_receive_80 rfl rfl ?_
      refine r_iload_n (pc2 := 82) dX4_receive_81 rfl rfl ?_
      refine r_iast (pc2 := 83) (j := _) dX4_receive_82 (by decide) rfl rfl (rfl) (by show _ < 512; omega) rfl ?_
      refine r_aload_n (pc2 := 84) dX4_receive_83 rfl rfl ?_
      refine r_getR (pc2 := 87) dX4_receive_84 fl_X4_18 (by decide) rfl rfl rfl ?_
      refine r_iload_n (pc2 := 88) dX4_receive_87 rfl rfl ?_
      refine r_iload (pc2 := 90) dX4_receive_88 rfl rfl ?_
      refine r_aload (pc2 := 92) dX4_receive_90 rfl rfl ?_
      refine r_iconst (pc2 := 93) (nI 1) dX4_receive_92 (by decide) rfl ?_
      refine r_ialde (pc2 := 94) (x := ((V 0 19 1))) (j := _) (by simp [a_set, hg0]) dX4_receive_93 (by decide) rfl rfl (rfl) (by show _ < 10; omega) rfl ?_
      refine r_iadd (pc2 := 95) dX4_receive_94 rfl ?_
      refine r_iast (pc2 := 96) (j := _) dX4_receive_95 (by decide) rfl rfl (rfl) (by show _ < 512; omega) rfl ?_
      exact r_vret dX4_receive_96 rfl (by
            funext g' r' i
            by_cases hg' : g' = g
            · subst hg'
              by_cases hi : i = k
              · subst hi
                by_cases h7 : r' = 7
                · subst h7; simp [a_set, upd, s_put, rc_]
                · by_cases h8 : r' = 8
                  · subst h8; simp [a_set, upd, s_put, rc_]
                  · by_cases h9 : r' = 9
                    · subst h9; simp [a_set, upd, s_put, rc_, hg0]
                    · by_cases h10 : r' = 10
                      · subst h10; simp [a_set, upd, s_put, rc_, hg0, e8, e45]
                      · by_cases h11 : r' = 11
                        · subst h11; simp [a_set, upd, s_put, rc_, hg0, e8, e45]
                        · simp [a_set, upd, s_put, rc_, h7, h8, h9, h10, h11]
              · simp only [ms_off hi]
                simp [s_put, rc_, hi]
            · simp [a_set, s_put, hg'])
    · skip
      have e45 := c45
      refine r_aload_n (pc2 := 49) dX4_receive_48 rfl rfl ?_
      refine r_getR (pc2 := 52) dX4_receive_49 fl_X4_24 (by decide) rfl rfl rfl ?_
      refine r_iload_n (pc2 := 53) dX4_receive_52 rfl rfl ?_
      refine r_iload (pc2 := 55) dX4_receive_53 rfl rfl ?_
      refine r_aload (pc2 := 57) dX4_receive_55 rfl rfl ?_
      refine r_bipush (pc2 := 59) (nI 9) dX4_receive_57 (by decide) rfl ?_
      refine r_ialde (pc2 := 60) (x := ((V 0 19 9))) (j := _) (by simp [a_set, hg0]) dX4_receive_59 (by decide) rfl rfl (rfl) (by show _ < 10; omega) rfl ?_
      refine r_iadd (pc2 := 61) dX4_receive_60 rfl ?_
      refine r_iast (pc2 := 62) (j := _) dX4_receive_61 (by decide) rfl rfl (rfl) (by show _ < 512; omega) rfl ?_
      refine r_aload_n (pc2 := 63) dX4_receive_62 rfl rfl ?_
      refine r_getR (pc2 := 66) dX4_receive_63 fl_X4_21 (by decide) rfl rfl rfl ?_
      refine r_iload_n (pc2 := 67) dX4_receive_66 rfl rfl ?_
      refine r_iconst (pc2 := 68) (nI 0) dX4_receive_67 (by decide) rfl ?_
      refine r_iast (pc2 := 69) (j := _) dX4_receive_68 (by decide) rfl rfl (rfl) (by show _ < 512; omega) rfl ?_
      refine r_aload_n (pc2 := 70) dX4_receive_69 rfl rfl ?_
      refine r_getR (pc2 := 73) dX4_receive_70 fl_X4_9 (by decide) rfl rfl rfl ?_
      refine r_iload_n (pc2 := 74) dX4_receive_73 rfl rfl ?_
      refine r_iload_n (pc2 := 75) dX4_receive_74 rfl rfl ?_
      refine r_iast (pc2 := 76) (j := _) dX4_receive_75 (by decide) rfl rfl (rfl) (by show _ < 512; omega) rfl ?_
      refine r_aload_n (pc2 := 77) dX4_receive_76 rfl rfl ?_
      refine r_getR (pc2 := 80) dX4_receive_77 fl_X4_15 (by decide) rfl rfl rfl ?_
      refine r_iload_n (pc2 := 81) dX4_receive_80 rfl rfl ?_
      refine r_iload_n (pc2 := 82) dX4_receive_81 rfl rfl ?_
      refine r_iast (pc2 := 83) (j := _) dX4_receive_82 (by decide) rfl rfl (rfl) (by show _ < 512; omega) rfl ?_
      refine r_aload_n (pc2 := 84) dX4_receive_83 rfl rfl ?_
      refine r_getR (pc2 := 87) dX4_receive_84 fl_X4_18 (by decide) rfl rfl rfl ?_
      refine r_iload_n (pc2 := 88) dX4_receive_87 rfl rfl ?_
      refine r_iload (pc2 := 90) dX4_receive_88 rfl rfl ?_
      refine r_aload (pc2 := 92) dX4_receive_90 rfl rfl ?_
      refine r_iconst (pc2 := 93) (nI 1) dX4_receive_92 (by decide) rfl ?_
      refine r_ialde (pc2 := 94) (x := ((V 0 19 1))) (j := _) (by simp [a_set, hg0]) dX4_receive_93 (by decide) rfl rfl (rfl) (by show _ < 10; omega) rfl ?_
      refine r_iadd (pc2 := 95) dX4_receive_94 rfl ?_
      refine r_iast (pc2 := 96) (j := _) dX4_receive_95 (by decide) rfl rfl (rfl) (by show _ < 512; omega) rfl ?_
      exact r_vret dX4_receive_96 rfl (by
            funext g' r' i
            by_cases hg' : g' = g
            · subst hg'
              by_cases hi : i = k
              · subst hi
                by_cases h7 : r' = 7
                · subst h7; simp [a_set, upd, s_put, rc_]
                · by_cases h8 : r' = 8
                  · subst h8; simp [a_set, upd, s_put, rc_]
                  · by_cases h9 : r' = 9
                    · subst h9; simp [a_set, upd, s_put, rc_, hg0]
                    · by_cases h10 : r' = 10
                      · subst h10; simp [a_set, upd, s_put, rc_, hg0, e8, e45]
                      · by_cases h11 : r' = 11
                        · subst h11; simp [a_set, upd, s_put, rc_, hg0, e8, e45]
                        · simp [a_set, upd, s_put, rc_, h7, h8, h9, h10, h11]
              · simp only [ms_off hi]
                simp [s_put, rc_, hi]
            · simp [a_set, s_put, hg'])
  · skip
    have e8 : V g 9 k < t := Int32.not_le.mp c8
    refine r_aload_n (pc2 := 12) dX4_receive_11 rfl rfl ?_
    refine r_getR (pc2 := 15) dX4_receive_12 fl_X4_21 (by decide) rfl rfl rfl ?_
    refine r_iload_n (pc2 := 16) dX4_receive_15 rfl rfl ?_
    refine r_iconst (pc2 := 17) (nI 0) dX4_receive_16 (by decide) rfl ?_
    refine r_iast (pc2 := 18) (j := _) dX4_receive_17 (by decide) rfl rfl (rfl) (by show _ < 512; omega) rfl ?_
    refine r_aload_n (pc2 := 19) dX4_receive_18 rfl rfl ?_
    refine r_getR (pc2 := 22) dX4_receive_19 fl_X4_24 (by decide) rfl rfl rfl ?_
    refine r_iload_n (pc2 := 23) dX4_receive_22 rfl rfl ?_
    refine r_iconst (pc2 := 24) (nI 0) dX4_receive_23 (by decide) rfl ?_
    refine r_iast (pc2 := 25) (j := _) dX4_receive_24 (by decide) rfl rfl (rfl) (by show _ < 512; omega) rfl ?_
    refine r_goto (pc2 := 69) dX4_receive_25 (by decide) ?_
    refine r_aload_n (pc2 := 70) dX4_receive_69 rfl rfl ?_
    refine r_getR (pc2 := 73) dX4_receive_70 fl_X4_9 (by decide) rfl rfl rfl ?_
    refine r_iload_n (pc2 := 74) dX4_receive_73 rfl rfl ?_
    refine r_iload_n (pc2 := 75) dX4_receive_74 rfl rfl ?_
    refine r_iast (pc2 := 76) (j := _) dX4_receive_75 (by decide) rfl rfl (rfl) (by show _ < 512; omega) rfl ?_
    refine r_aload_n (pc2 := 77) dX4_receive_76 rfl rfl ?_
    refine r_getR (pc2 := 80) dX4_receive_77 fl_X4_15 (by decide) rfl rfl rfl ?_
    refine r_iload_n (pc2 := 81) dX4_receive_80 rfl rfl ?_
    refine r_iload_n (pc2 := 82) dX4_receive_81 rfl rfl ?_
    refine r_iast (pc2 := 83) (j := _) dX4_receive_82 (by decide) rfl rfl (rfl) (by show _ < 512; omega) rfl ?_
    refine r_aload_n (pc2 := 84) dX4_receive_83 rfl rfl ?_
    refine r_getR (pc2 := 87) dX4_receive_84 fl_X4_18 (by decide) rfl rfl rfl ?_
    refine r_iload_n (pc2 := 88) dX4_receive_87 rfl rfl ?_
    refine r_iload (pc2 := 90) dX4_receive_88 rfl rfl ?_
    refine r_aload (pc2 := 92) dX4_receive_90 rfl rfl ?_
    refine r_iconst (pc2 := 93) (nI 1) dX4_receive_92 (by decide) rfl ?_
    refine r_ialde (pc2 := 94) (x := ((V 0 19 1))) (j := _) (by simp [a_set, hg0]) dX4_receive_93 (by decide) rfl rfl (rfl) (by show _ < 10; omega) rfl ?_
    refine r_iadd (pc2 := 95) dX4_receive_94 rfl ?_
    refine r_iast (pc2 := 96) (j := _) dX4_receive_95 (by decide) rfl rfl (rfl) (by show _ < 512; omega) rfl ?_
    exact r_vret dX4_receive_96 rfl (by
          funext g' r' i
          by_cases hg' : g' = g
          · subst hg'
            by_cases hi : i = k
            · subst hi
              by_cases h7 : r' = 7
              · subst h7; simp [a_set, upd, s_put, rc_]
              · by_cases h8 : r' = 8
                · subst h8; simp [a_set, upd, s_put, rc_]
                · by_cases h9 : r' = 9
                  · subst h9; simp [a_set, upd, s_put, rc_, hg0]
                  · by_cases h10 : r' = 10
                    · subst h10; simp [a_set, upd, s_put, rc_, hg0, e8]
                    · by_cases h11 : r' = 11
                      · subst h11; simp [a_set, upd, s_put, rc_, hg0, e8]
                      · simp [a_set, upd, s_put, rc_, h7, h8, h9, h10, h11]
            · simp only [ms_off hi]
              simp [s_put, rc_, hi]
          · simp [a_set, s_put, hg'])

set_option maxRecDepth 100000 in
set_option maxHeartbeats 4000000 in
theorem c_X2_isUsable {PL : List (Nat × Nat)} {g a b c : Nat} {inf : Int32} {V : Mm_} (ha : a < 8) (hb : b < 8) (hc : c < 8) : Cp_ PL mX2_isUsable [vR g 0, vI (nI a), vI (nI b), vI (nI c), vI inf] V (b2 (us_ (V g) inf a b c)) := by
  refine Ca_.of mv_X2_isUsable.2.2.2.2.2.2 0 (lo := [some (vR g 0), some (vI (nI a)), some (vI (nI b)), some (vI (nI c)), some (vI inf)]) rfl (Nat.le_of_ble_eq_true rfl) ?_
  refine r_aload_n (pc2 := 1) dX2_isUsable_0 rfl rfl ?_
  refine r_getR (pc2 := 4) dX2_isUsable_1 fl_X2_12 (by decide) rfl rfl rfl ?_
  refine r_iload_n (pc2 := 5) dX2_isUsable_4 rfl rfl ?_
  refine r_iload_n (pc2 := 6) dX2_isUsable_5 rfl rfl ?_
  refine r_cv2p (pc2 := 9) dX2_isUsable_6 st_X2_isUsable_84 rl_X1_isUp (Nat.le_of_ble_eq_true rfl) rfl (c_X1_isUp (by omega) (by omega)) ?_
  refine r_ifB_eq (pc2 := 12) (tgt := 38) dX2_isUsable_9 (by decide) rfl (fun c9 => ?_) (fun c9 => ?_)
  · skip
    refine r_iconst (pc2 := 39) (nI 0) dX2_isUsable_38 (by decide) rfl ?_
    exact r_zret dX2_isUsable_39 rfl (Or.inl rfl) (⟨by unfold us_; exact b2_f (by simp only [Int32.lt_iff_toInt_lt, Int32.le_iff_toInt_le, ← Int32.toInt_inj, decide_eq_true_eq, decide_eq_false_iff_not] at c9 ⊢; omega), rfl⟩)
  · skip
    refine r_aload_n (pc2 := 13) dX2_isUsable_12 rfl rfl ?_
    refine r_getR (pc2 := 16) dX2_isUsable_13 fl_X2_21 (by decide) rfl rfl rfl ?_
    refine r_iload_n (pc2 := 17) dX2_isUsable_16 rfl rfl ?_
    refine r_iload_n (pc2 := 18) dX2_isUsable_17 rfl rfl ?_
    refine r_iload_n (pc2 := 19) dX2_isUsable_18 rfl rfl ?_
    refine r_cn3p (pc2 := 22) dX2_isUsable_19 st_X2_isUsable_88 (Nat.le_of_ble_eq_true rfl) rfl (c_X7_slot) ?_
    refine r_aload_n (pc2 := 23) dX2_isUsable_22 rfl rfl ?_
    refine r_getI (pc2 := 26) dX2_isUsable_23 fl_X2_47 (by decide) rfl rfl rfl ?_
    refine r_iload (pc2 := 28) dX2_isUsable_26 rfl rfl ?_
    refine r_cv3p (pc2 := 31) dX2_isUsable_28 st_X2_isUsable_92 rl_X4_isOpen (Nat.le_of_ble_eq_true rfl) rfl (c_X4_isOpen (by omega)) ?_
    refine r_ifB_eq (pc2 := 34) (tgt := 38) dX2_isUsable_31 (by decide) rfl (fun c31 => ?_) (fun c31 => ?_)
    · skip
      refine r_iconst (pc2 := 39) (nI 0) dX2_isUsable_38 (by decide) rfl ?_
      exact r_zret dX2_isUsable_39 rfl (Or.inl rfl) (⟨by unfold us_; exact b2_f (by simp only [Int32.lt_iff_toInt_lt, Int32.le_iff_toInt_le, ← Int32.toInt_inj, decide_eq_true_eq, decide_eq_false_iff_not] at c9 c31 ⊢; omega), rfl⟩)
    · skip
      refine r_iconst (pc2 := 35) (nI 1) dX2_isUsable_34 (by decide) rfl ?_
      refine r_goto (pc2 := 39) dX2_isUsable_35 (by decide) ?_
      exact r_zret dX2_isUsable_39 rfl (Or.inr rfl) (⟨by unfold us_; exact b2_t (by simp only [Int32.lt_iff_toInt_lt, Int32.le_iff_toInt_le, ← Int32.toInt_inj, decide_eq_true_eq, decide_eq_false_iff_not] at c9 c31 ⊢; omega), rfl⟩)

set_option maxRecDepth 100000 in
set_option maxHeartbeats 4000000 in
theorem c_X2_isDominated {PL : List (Nat × Nat)} {g a b c n : Nat} {inf : Int32} {V : Mm_} (hn : V g 0 0 = nI n) (hn8 : n ≤ 8) (ha : a < n) (hb : b < n) (hc : c < n) : Cp_ PL mX2_isDominated [vR g 0, vI (nI a), vI (nI b), vI (nI c), vI inf] V (b2 (do_ (V g) inf n a b c)) := by
  refine Ca_.of mv_X2_isDominated.2.2.2.2.2.2 1 (lo := [some (vR g 0), some (vI (nI a)), some (vI (nI b)), some (vI (nI c)), some (vI inf), none]) rfl (Nat.le_of_ble_eq_true rfl) ?_
  refine r_aload_n (pc2 := 1) dX2_isDominated_0 rfl rfl ?_
  refine r_iload_n (pc2 := 2) dX2_isDominated_1 rfl rfl ?_
  refine r_iload_n (pc2 := 3) dX2_isDominated_2 rfl rfl ?_
  refine r_iload_n (pc2 := 4) dX2_isDominated_3 rfl rfl ?_
  refine r_iload (pc2 := 6) dX2_isDominated_4 rfl rfl ?_
  refine r_cv4p (pc2 := 9) dX2_isDominated_6 st_X2_isDominated_96 rl_X2_isUsable (Nat.le_of_ble_eq_true rfl) rfl (c_X2_isUsable (by omega) (by omega) (by omega)) ?_
  refine r_ifB_ne (pc2 := 12) (tgt := 14) dX2_isDominated_9 (by decide) rfl (fun c9 => ?_) (fun c9 => ?_)
  · skip
    refine r_iconst (pc2 := 15) (nI 0) dX2_isDominated_14 (by decide) rfl ?_
    refine r_istore (pc2 := 17) dX2_isDominated_15 (by decide) rfl rfl ?_
    refine Rc_.to (V' := (fun _ => V) (())) (lo' := (fun (i : Nat) (s : Unit) => [some (vR g 0), some (vI (nI a)), some (vI (nI b)), some (vI (nI c)), some (vI inf), some (vI (nI i))]) 0 (())) (rfl) ⟨rfl, rfl, rfl, rfl, rfl, rfl, trivial⟩ ?_
    refine Rc_forI 0 (n) (fun (i : Nat) (s : Unit) => [some (vR g 0), some (vI (nI a)), some (vI (nI b)), some (vI (nI c)), some (vI inf), some (vI (nI i))]) (fun _ => V) (fun (i : Nat) (_ : Unit) => an_ (fun o => decide (¬ o = c) && us_ (V g) inf a b o && dm_ (V g) ((a * 8 + b) * 8 + o) ((a * 8 + b) * 8 + c)) i = false) (by omega) (fun i s hi0 hiN hI ih17 => ?_) (()) (rfl)
    refine r_iload (pc2 := 19) dX2_isDominated_17 rfl rfl ?_
    refine r_aload_n (pc2 := 20) dX2_isDominated_19 rfl rfl ?_
    refine r_getIe (pc2 := 23) (x := (nI n)) (hn) dX2_isDominated_20 fl_X2_43 (by decide) rfl rfl rfl ?_
    refine r_icN_ge (pc2 := 26) (tgt := 76) (by omega) (by omega) dX2_isDominated_23 (by decide) rfl (fun c23 => ?_) (fun c23 => ?_)
    · skip
      refine r_iconst (pc2 := 77) (nI 0) dX2_isDominated_76 (by decide) rfl ?_
      exact r_zret dX2_isDominated_77 rfl (Or.inl rfl) (⟨by refine b2_0 ?_; unfold do_; rw [show n = i by omega, hI, Bool.and_false], rfl⟩)
    · skip
      refine r_iload (pc2 := 28) dX2_isDominated_26 rfl rfl ?_
      refine r_iload_n (pc2 := 29) dX2_isDominated_28 rfl rfl ?_
      refine r_icN_eq (pc2 := 32) (tgt := 70) (by omega) (by omega) dX2_isDominated_29 (by decide) rfl (fun c29 => ?_) (fun c29 => ?_)
      · skip
        refine r_iincN (pc2 := 73) dX2_isDominated_70 rfl (by decide) rfl rfl ?_
        refine r_goto (pc2 := 17) dX2_isDominated_73 (by decide) ?_
        exact Rc_.to (lo' := (fun (i : Nat) (s : Unit) => [some (vR g 0), some (vI (nI a)), some (vI (nI b)), some (vI (nI c)), some (vI inf), some (vI (nI i))]) (i + 1) ()) (rfl) ⟨rfl, rfl, rfl, rfl, rfl, rfl, trivial⟩ (ih17 () (by omega) (by show (an_ _ i || _) = false; rw [hI, Bool.false_or]; simp only [c29, not_true, decide_false, Bool.false_and]))
      · skip
        refine r_aload_n (pc2 := 33) dX2_isDominated_32 rfl rfl ?_
        refine r_iload_n (pc2 := 34) dX2_isDominated_33 rfl rfl ?_
        refine r_iload_n (pc2 := 35) dX2_isDominated_34 rfl rfl ?_
        refine r_iload (pc2 := 37) dX2_isDominated_35 rfl rfl ?_
        refine r_iload (pc2 := 39) dX2_isDominated_37 rfl rfl ?_
        refine r_cv4p (pc2 := 42) dX2_isDominated_39 st_X2_isDominated_96 rl_X2_isUsable (Nat.le_of_ble_eq_true rfl) rfl (c_X2_isUsable (by omega) (by omega) (by omega)) ?_
        refine r_ifB_eq (pc2 := 45) (tgt := 70) dX2_isDominated_42 (by decide) rfl (fun c42 => ?_) (fun c42 => ?_)
        · skip
          refine r_iincN (pc2 := 73) dX2_isDominated_70 rfl (by decide) rfl rfl ?_
          refine r_goto (pc2 := 17) dX2_isDominated_73 (by decide) ?_
          exact Rc_.to (lo' := (fun (i : Nat) (s : Unit) => [some (vR g 0), some (vI (nI a)), some (vI (nI b)), some (vI (nI c)), some (vI inf), some (vI (nI i))]) (i + 1) ()) (rfl) ⟨rfl, rfl, rfl, rfl, rfl, rfl, trivial⟩ (ih17 () (by omega) (by show (an_ _ i || _) = false; rw [hI, Bool.false_or]; simp only [c42, Bool.and_false, Bool.false_and]))
        · skip
          refine r_aload_n (pc2 := 46) dX2_isDominated_45 rfl rfl ?_
          refine r_getR (pc2 := 49) dX2_isDominated_46 fl_X2_21 (by decide) rfl rfl rfl ?_
          refine r_iload_n (pc2 := 50) dX2_isDominated_49 rfl rfl ?_
          refine r_iload_n (pc2 := 51) dX2_isDominated_50 rfl rfl ?_
          refine r_iload (pc2 := 53) dX2_isDominated_51 rfl rfl ?_
          refine r_cn3p (pc2 := 56) dX2_isDominated_53 st_X2_isDominated_88 (Nat.le_of_ble_eq_true rfl) rfl (c_X7_slot) ?_
          refine r_iload_n (pc2 := 57) dX2_isDominated_56 rfl rfl ?_
          refine r_iload_n (pc2 := 58) dX2_isDominated_57 rfl rfl ?_
          refine r_iload_n (pc2 := 59) dX2_isDominated_58 rfl rfl ?_
          refine r_cn3p (pc2 := 62) dX2_isDominated_59 st_X2_isDominated_88 (Nat.le_of_ble_eq_true rfl) rfl (c_X7_slot) ?_
          refine r_cv2p (pc2 := 65) dX2_isDominated_62 st_X2_isDominated_100 rl_X4_dominates (Nat.le_of_ble_eq_true rfl) rfl (c_X4_dominates (by omega) (by omega)) ?_
          refine r_ifB_eq (pc2 := 68) (tgt := 70) dX2_isDominated_65 (by decide) rfl (fun c65 => ?_) (fun c65 => ?_)
          · skip
            refine r_iincN (pc2 := 73) dX2_isDominated_70 rfl (by decide) rfl rfl ?_
            refine r_goto (pc2 := 17) dX2_isDominated_73 (by decide) ?_
            exact Rc_.to (lo' := (fun (i : Nat) (s : Unit) => [some (vR g 0), some (vI (nI a)), some (vI (nI b)), some (vI (nI c)), some (vI inf), some (vI (nI i))]) (i + 1) ()) (rfl) ⟨rfl, rfl, rfl, rfl, rfl, rfl, trivial⟩ (ih17 () (by omega) (by show (an_ _ i || _) = false; rw [hI, Bool.false_or]; simp only [c65, Bool.and_false]))
          · skip
            refine r_iconst (pc2 := 69) (nI 1) dX2_isDominated_68 (by decide) rfl ?_
            exact r_zret dX2_isDominated_69 rfl (Or.inr rfl) (⟨by refine b2_1 ?_; unfold do_; rw [c9, Bool.true_and]; exact an_t (k := i) c23 (by simp only [c29, not_false_iff, decide_true, Bool.true_and, c42, c65]), rfl⟩)
  · skip
    refine r_iconst (pc2 := 13) (nI 0) dX2_isDominated_12 (by decide) rfl ?_
    exact r_zret dX2_isDominated_13 rfl (Or.inl rfl) (⟨by unfold do_; rw [c9]; exact b2_0 rfl, rfl⟩)

def sa_ (V : Mm_) (g : Nat) (x : Int32) : Mm_ := a_set (a_set (m_set (a_set (a_set (a_set (a_set (a_set (a_set (a_set (a_set (a_set (a_set (a_set (m_set (m_set (m_set (m_set (V) g 0 0 (x)) g 0 1 (nI 0)) g 0 2 (nI 0)) g 1 0 (nI 0)) g 2 (fl_ (nI 0) 64 (V g 2))) g 3 (fl_ (nI 0) 64 (V g 3))) g 4 (fl_ (nI 0) 64 (V g 4))) g 5 (fl_ (nI 0) 64 (V g 5))) g 7 (fl_ (nI 0) 512 (V g 7))) g 8 (fl_ (nI 0) 512 (V g 8))) g 9 (fl_ (nI 0) 512 (V g 9))) g 10 (fl_ (nI 0) 512 (V g 10))) g 11 (fl_ (nI 0) 512 (V g 11))) g 13 (fl_ (-2) 64 (V g 13))) g 14 (fl_ (-2) 64 (V g 14))) g 15 1 (nI 0)) g 16 (fl_ (nI 0) 64 (V g 16))) g 17 (fl_ (-1) 64 (V g 17))
set_option maxRecDepth 100000 in
set_option maxHeartbeats 4000000 in
theorem c_X2_startAnew {PL : List (Nat × Nat)} {g : Nat} {x : Int32} {V : Mm_} : Cm_ PL mX2_startAnew [vR g 0, vI x] V (sa_ V g x) := by
  refine Ca_.of mv_X2_startAnew.2.2.2.2.2.2 0 (lo := [some (vR g 0), some (vI x)]) rfl (Nat.le_of_ble_eq_true rfl) ?_
  refine r_aload_n (pc2 := 1) dX2_startAnew_0 rfl rfl ?_
  refine r_iload_n (pc2 := 2) dX2_startAnew_1 rfl rfl ?_
  refine r_put (pc2 := 5) dX2_startAnew_2 fl_X2_43 (by decide) rfl rfl ft_2_0 rfl rfl rfl ?_
  refine r_aload_n (pc2 := 6) dX2_startAnew_5 rfl rfl ?_
  refine r_iconst (pc2 := 7) (nI 0) dX2_startAnew_6 (by decide) rfl ?_
  refine r_put (pc2 := 10) dX2_startAnew_7 fl_X2_47 (by decide) rfl rfl ft_2_1 rfl rfl rfl ?_
  refine r_aload_n (pc2 := 11) dX2_startAnew_10 rfl rfl ?_
  refine r_iconst (pc2 := 12) (nI 0) dX2_startAnew_11 (by decide) rfl ?_
  refine r_put (pc2 := 15) dX2_startAnew_12 fl_X2_50 (by decide) rfl rfl ft_2_2 rfl rfl rfl ?_
  refine r_aload_n (pc2 := 16) dX2_startAnew_15 rfl rfl ?_
  refine r_getR (pc2 := 19) dX2_startAnew_16 fl_X2_12 (by decide) rfl rfl rfl ?_
  refine r_cv0m (pc2 := 22) dX2_startAnew_19 st_X2_startAnew_53 rl_X1_clear (Nat.le_of_ble_eq_true rfl) rfl (c_X1_clear) ?_
  refine r_aload_n (pc2 := 23) dX2_startAnew_22 rfl rfl ?_
  refine r_getR (pc2 := 26) dX2_startAnew_23 fl_X2_21 (by decide) rfl rfl rfl ?_
  refine r_cv0m (pc2 := 29) dX2_startAnew_26 st_X2_startAnew_56 rl_X4_clear (Nat.le_of_ble_eq_true rfl) rfl (c_X4_clear) ?_
  refine r_aload_n (pc2 := 30) dX2_startAnew_29 rfl rfl ?_
  refine r_getR (pc2 := 33) dX2_startAnew_30 fl_X2_28 (by decide) rfl rfl rfl ?_
  refine r_cv0m (pc2 := 36) dX2_startAnew_33 st_X2_startAnew_57 rl_X5_clear (Nat.le_of_ble_eq_true rfl) rfl (c_X5_clear) ?_
  refine r_aload_n (pc2 := 37) dX2_startAnew_36 rfl rfl ?_
  refine r_getR (pc2 := 40) dX2_startAnew_37 fl_X2_35 (by decide) rfl rfl rfl ?_
  refine r_cv0m (pc2 := 43) dX2_startAnew_40 st_X2_startAnew_58 rl_X0_clear (Nat.le_of_ble_eq_true rfl) rfl (c_X0_clear) ?_
  refine r_aload_n (pc2 := 44) dX2_startAnew_43 rfl rfl ?_
  refine r_getR (pc2 := 47) dX2_startAnew_44 fl_X2_39 (by decide) rfl rfl rfl ?_
  refine r_iconst (pc2 := 48) (-1) dX2_startAnew_47 (by decide) rfl ?_
  refine r_cs2m (pc2 := 51) dX2_startAnew_48 st_X2_startAnew_59 (Nat.le_of_ble_eq_true rfl) rfl (c_fill64 (by decide) rfl rfl rfl) ?_
  exact r_vret dX2_startAnew_51 rfl (by unfold sa_; simp [a_set])

def cf_ (V : Mm_) (g g0 : Nat) : Mm_ := a_set (a_set (m_set (a_set (a_set (a_set (a_set (a_set (a_set (a_set (a_set (a_set (a_set (a_set (m_set (m_set (m_set (m_set (V) g 0 0 (V g0 0 0)) g 0 1 (V g0 0 1)) g 0 2 (V g0 0 2)) g 1 0 (V g0 1 0)) g 2 (cp_ (V g0 2) (V g 2) 64)) g 3 (cp_ (V g0 3) (V g 3) 64)) g 4 (cp_ (V g0 4) (V g 4) 64)) g 5 (cp_ (V g0 5) (V g 5) 64)) g 7 (cp_ (V g0 7) (V g 7) 512)) g 8 (cp_ (V g0 8) (V g 8) 512)) g 9 (cp_ (V g0 9) (V g 9) 512)) g 10 (cp_ (V g0 10) (V g 10) 512)) g 11 (cp_ (V g0 11) (V g 11) 512)) g 13 (cp_ (V g0 13) (V g 13) 64)) g 14 (cp_ (V g0 14) (V g 14) 64)) g 15 1 (V g0 15 1)) g 16 (cp_ (V g0 16) (V g 16) 64)) g 17 (cp_ (V g0 17) (V g 17) 64)
set_option maxRecDepth 100000 in
set_option maxHeartbeats 4000000 in
theorem c_X2_copyFrom {PL : List (Nat × Nat)} {g0 g : Nat} {V : Mm_} (hg : ¬ g0 = g) : Cm_ PL mX2_copyFrom [vR g 0, vR g0 0] V (cf_ V g g0) := by
  refine Ca_.of mv_X2_copyFrom.2.2.2.2.2.2 0 (lo := [some (vR g 0), some (vR g0 0)]) rfl (Nat.le_of_ble_eq_true rfl) ?_
  refine r_aload_n (pc2 := 1) dX2_copyFrom_0 rfl rfl ?_
  refine r_aload_n (pc2 := 2) dX2_copyFrom_1 rfl rfl ?_
  refine r_getI (pc2 := 5) dX2_copyFrom_2 fl_X2_43 (by decide) rfl rfl rfl ?_
  refine r_put (pc2 := 8) dX2_copyFrom_5 fl_X2_43 (by decide) rfl rfl ft_2_0 rfl rfl rfl ?_
  refine r_aload_n (pc2 := 9) dX2_copyFrom_8 rfl rfl ?_
  refine r_aload_n (pc2 := 10) dX2_copyFrom_9 rfl rfl ?_
  refine r_getI (pc2 := 13) dX2_copyFrom_10 fl_X2_47 (by decide) rfl rfl rfl ?_
  refine r_put (pc2 := 16) dX2_copyFrom_13 fl_X2_47 (by decide) rfl rfl ft_2_1 rfl rfl rfl ?_
  refine r_aload_n (pc2 := 17) dX2_copyFrom_16 rfl rfl ?_
  refine r_aload_n (pc2 := 18) dX2_copyFrom_17 rfl rfl ?_
  refine r_getI (pc2 := 21) dX2_copyFrom_18 fl_X2_50 (by decide) rfl rfl rfl ?_
  refine r_put (pc2 := 24) dX2_copyFrom_21 fl_X2_50 (by decide) rfl rfl ft_2_2 rfl rfl rfl ?_
  refine r_aload_n (pc2 := 25) dX2_copyFrom_24 rfl rfl ?_
  refine r_getR (pc2 := 28) dX2_copyFrom_25 fl_X2_12 (by decide) rfl rfl rfl ?_
  refine r_aload_n (pc2 := 29) dX2_copyFrom_28 rfl rfl ?_
  refine r_getR (pc2 := 32) dX2_copyFrom_29 fl_X2_12 (by decide) rfl rfl rfl ?_
  refine r_cv1m (pc2 := 35) dX2_copyFrom_32 st_X2_copyFrom_65 rl_X1_copyFrom (Nat.le_of_ble_eq_true rfl) rfl (c_X1_copyFrom hg) ?_
  refine r_aload_n (pc2 := 36) dX2_copyFrom_35 rfl rfl ?_
  refine r_getR (pc2 := 39) dX2_copyFrom_36 fl_X2_21 (by decide) rfl rfl rfl ?_
  refine r_aload_n (pc2 := 40) dX2_copyFrom_39 rfl rfl ?_
  refine r_getR (pc2 := 43) dX2_copyFrom_40 fl_X2_21 (by decide) rfl rfl rfl ?_
  refine r_cv1m (pc2 := 46) dX2_copyFrom_43 st_X2_copyFrom_69 rl_X4_copyFrom (Nat.le_of_ble_eq_true rfl) rfl (c_X4_copyFrom hg) ?_
  refine r_aload_n (pc2 := 47) dX2_copyFrom_46 rfl rfl ?_
  refine r_getR (pc2 := 50) dX2_copyFrom_47 fl_X2_28 (by decide) rfl rfl rfl ?_
  refine r_aload_n (pc2 := 51) dX2_copyFrom_50 rfl rfl ?_
  refine r_getR (pc2 := 54) dX2_copyFrom_51 fl_X2_28 (by decide) rfl rfl rfl ?_
  refine r_cv1m (pc2 := 57) dX2_copyFrom_54 st_X2_copyFrom_72 rl_X5_copyFrom (Nat.le_of_ble_eq_true rfl) rfl (c_X5_copyFrom hg) ?_
  refine r_aload_n (pc2 := 58) dX2_copyFrom_57 rfl rfl ?_
  refine r_getR (pc2 := 61) dX2_copyFrom_58 fl_X2_35 (by decide) rfl rfl rfl ?_
  refine r_aload_n (pc2 := 62) dX2_copyFrom_61 rfl rfl ?_
  refine r_getR (pc2 := 65) dX2_copyFrom_62 fl_X2_35 (by decide) rfl rfl rfl ?_
  refine r_cv1m (pc2 := 68) dX2_copyFrom_65 st_X2_copyFrom_75 rl_X0_copyFrom (Nat.le_of_ble_eq_true rfl) rfl (c_X0_copyFrom hg) ?_
  refine r_aload_n (pc2 := 69) dX2_copyFrom_68 rfl rfl ?_
  refine r_getR (pc2 := 72) dX2_copyFrom_69 fl_X2_39 (by decide) rfl rfl rfl ?_
  refine r_iconst (pc2 := 73) (nI 0) dX2_copyFrom_72 (by decide) rfl ?_
  refine r_aload_n (pc2 := 74) dX2_copyFrom_73 rfl rfl ?_
  refine r_getR (pc2 := 77) dX2_copyFrom_74 fl_X2_39 (by decide) rfl rfl rfl ?_
  refine r_iconst (pc2 := 78) (nI 0) dX2_copyFrom_77 (by decide) rfl ?_
  refine r_bipush (pc2 := 80) (nI 64) dX2_copyFrom_78 (by decide) rfl ?_
  refine r_cpy (pc2 := 83) dX2_copyFrom_80 st_X2_copyFrom_78 (by decide) (by decide) rfl rfl rfl rfl (by decide) (by decide) (Nat.le_of_ble_eq_true rfl) rfl ?_
  exact r_vret dX2_copyFrom_83 rfl (by unfold cf_ cp_; simp [a_set, hg])

set_option maxRecDepth 100000 in
set_option maxHeartbeats 4000000 in
theorem c_X5_differs {PL : List (Nat × Nat)} {g a n : Nat} {V : Mm_} (hn8 : n ≤ 8) (ha : a < 8) : Cp_ PL mX5_differs [vR g 12, vI (nI a), vI (nI n), vR 0 20] V (b2 (df_ (V g) (V 0 21) (V 0 22) a n)) := by
  refine Ca_.of mv_X5_differs.2.2.2.2.2.2 2 (lo := [some (vR g 12), some (vI (nI a)), some (vI (nI n)), some (vR 0 20), none, none]) rfl (Nat.le_of_ble_eq_true rfl) ?_
  refine r_iconst (pc2 := 1) (nI 0) dX5_differs_0 (by decide) rfl ?_
  refine r_istore (pc2 := 3) dX5_differs_1 (by decide) rfl rfl ?_
  refine Rc_.to (V' := (fun _ => V) (())) (lo' := (fun (i : Nat) (s : Unit) => [some (vR g 12), some (vI (nI a)), some (vI (nI n)), some (vR 0 20), some (vI (nI i)), none]) 0 (())) (rfl) ⟨rfl, rfl, rfl, rfl, rfl, trivial⟩ ?_
  refine Rc_forI 0 (n) (fun (i : Nat) (s : Unit) => [some (vR g 12), some (vI (nI a)), some (vI (nI n)), some (vR 0 20), some (vI (nI i)), none]) (fun _ => V) (fun (i : Nat) (_ : Unit) => an_ (fun b => decide (¬ V g 13 (a * 8 + b) = V 0 21 (a * 8 + b) ∨ ¬ V g 14 (a * 8 + b) = V 0 22 (a * 8 + b))) i = false) (by omega) (fun i s hi0 hiN hI ih3 => ?_) (()) (rfl)
  refine r_iload (pc2 := 5) dX5_differs_3 rfl rfl ?_
  refine r_iload_n (pc2 := 6) dX5_differs_5 rfl rfl ?_
  refine r_icN_ge (pc2 := 9) (tgt := 59) (by omega) (by omega) dX5_differs_6 (by decide) rfl (fun c6 => ?_) (fun c6 => ?_)
  · skip
    refine r_iconst (pc2 := 60) (nI 0) dX5_differs_59 (by decide) rfl ?_
    exact r_zret dX5_differs_60 rfl (Or.inl rfl) (⟨b2_0 (by unfold df_; rw [show n = i by omega]; exact hI), rfl⟩)
  · skip
    refine r_iload_n (pc2 := 10) dX5_differs_9 rfl rfl ?_
    refine r_iload (pc2 := 12) dX5_differs_10 rfl rfl ?_
    refine r_cn2p (pc2 := 15) dX5_differs_12 st_X5_differs_18 (Nat.le_of_ble_eq_true rfl) rfl (c_X7_pair) ?_
    refine r_istore (pc2 := 17) dX5_differs_15 (by decide) rfl rfl ?_
    refine r_aload_n (pc2 := 18) dX5_differs_17 rfl rfl ?_
    refine r_getR (pc2 := 21) dX5_differs_18 fl_X5_9 (by decide) rfl rfl rfl ?_
    refine r_iload (pc2 := 23) dX5_differs_21 rfl rfl ?_
    refine r_iald (pc2 := 24) (j := _) dX5_differs_23 (by decide) rfl rfl (rfl) (by show _ < 64; omega) rfl ?_
    refine r_aload_n (pc2 := 25) dX5_differs_24 rfl rfl ?_
    refine r_getR (pc2 := 28) dX5_differs_25 fl_X5_22 (by decide) rfl rfl rfl ?_
    refine r_iload (pc2 := 30) dX5_differs_28 rfl rfl ?_
    refine r_iald (pc2 := 31) (j := _) dX5_differs_30 (by decide) rfl rfl (rfl) (by show _ < 64; omega) rfl ?_
    refine r_ic_ne (pc2 := 34) (tgt := 51) dX5_differs_31 (by decide) rfl (fun c31 => ?_) (fun c31 => ?_)
    · skip
      refine r_iconst (pc2 := 52) (nI 1) dX5_differs_51 (by decide) rfl ?_
      exact r_zret dX5_differs_52 rfl (Or.inr rfl) (⟨b2_1 (an_t (k := i) c6 (decide_eq_true (by first | exact Or.inl c31 | exact Or.inr c48))), rfl⟩)
    · skip
      refine r_aload_n (pc2 := 35) dX5_differs_34 rfl rfl ?_
      refine r_getR (pc2 := 38) dX5_differs_35 fl_X5_15 (by decide) rfl rfl rfl ?_
      refine r_iload (pc2 := 40) dX5_differs_38 rfl rfl ?_
      refine r_iald (pc2 := 41) (j := _) dX5_differs_40 (by decide) rfl rfl (rfl) (by show _ < 64; omega) rfl ?_
      refine r_aload_n (pc2 := 42) dX5_differs_41 rfl rfl ?_
      refine r_getR (pc2 := 45) dX5_differs_42 fl_X5_25 (by decide) rfl rfl rfl ?_
      refine r_iload (pc2 := 47) dX5_differs_45 rfl rfl ?_
      refine r_iald (pc2 := 48) (j := _) dX5_differs_47 (by decide) rfl rfl (rfl) (by show _ < 64; omega) rfl ?_
      refine r_ic_eq (pc2 := 51) (tgt := 53) dX5_differs_48 (by decide) rfl (fun c48 => ?_) (fun c48 => ?_)
      · skip
        refine r_iincN (pc2 := 56) dX5_differs_53 rfl (by decide) rfl rfl ?_
        refine r_goto (pc2 := 3) dX5_differs_56 (by decide) ?_
        exact Rc_.to (lo' := (fun (i : Nat) (s : Unit) => [some (vR g 12), some (vI (nI a)), some (vI (nI n)), some (vR 0 20), some (vI (nI i)), none]) (i + 1) ()) (rfl) ⟨rfl, rfl, rfl, rfl, rfl, trivial⟩ (ih3 () (by omega) (by show (an_ _ i || _) = false; rw [hI, Bool.false_or]; simp only [c31, c48, not_true, or_self, decide_false]))
      · skip
        refine r_iconst (pc2 := 52) (nI 1) dX5_differs_51 (by decide) rfl ?_
        exact r_zret dX5_differs_52 rfl (Or.inr rfl) (⟨b2_1 (an_t (k := i) c6 (decide_eq_true (by first | exact Or.inl c31 | exact Or.inr c48))), rfl⟩)

set_option maxRecDepth 100000 in
set_option maxHeartbeats 4000000 in
theorem c_X5_keep {PL : List (Nat × Nat)} {g a n : Nat} {V : Mm_} (hg0 : ¬ 0 = g) (hn8 : n ≤ 8) (ha : a < 8) : Cm_ PL mX5_keep [vR g 12, vI (nI a), vI (nI n), vR 0 20] V (s_put V g (kp_ (V g) (V 0 21) (V 0 22) a n)) := by
  refine Ca_.of mv_X5_keep.2.2.2.2.2.2 2 (lo := [some (vR g 12), some (vI (nI a)), some (vI (nI n)), some (vR 0 20), none, none]) rfl (Nat.le_of_ble_eq_true rfl) ?_
  refine r_iconst (pc2 := 1) (nI 0) dX5_keep_0 (by decide) rfl ?_
  refine r_istore (pc2 := 3) dX5_keep_1 (by decide) rfl rfl ?_
  refine Rc_.to (V' := (fun i : Nat => s_put V g (kp_ (V g) (V 0 21) (V 0 22) a i)) 0) (lo' := (fun i : Nat => [some (vR g 12), some (vI (nI a)), some (vI (nI n)), some (vR 0 20), some (vI (nI i)), none]) 0) (by show V = s_put V g (kp_ (V g) (V 0 21) (V 0 22) a 0); rw [kp_0, sp_id]) ⟨rfl, rfl, rfl, rfl, rfl, trivial⟩ ?_
  refine Rc_for 0 (n) (fun i : Nat => [some (vR g 12), some (vI (nI a)), some (vI (nI n)), some (vR 0 20), some (vI (nI i)), none]) (fun i : Nat => s_put V g (kp_ (V g) (V 0 21) (V 0 22) a i)) (by omega) (fun i hi0 hiN ih3 => ?_)
  refine r_iload (pc2 := 5) dX5_keep_3 rfl rfl ?_
  refine r_iload_n (pc2 := 6) dX5_keep_5 rfl rfl ?_
  refine r_icN_ge (pc2 := 9) (tgt := 51) (by omega) (by omega) dX5_keep_6 (by decide) rfl (fun c6 => ?_) (fun c6 => ?_)
  · skip
    exact r_vret dX5_keep_51 rfl (by rw [show n = i by omega])
  · skip
    refine r_iload_n (pc2 := 10) dX5_keep_9 rfl rfl ?_
    refine r_iload (pc2 := 12) dX5_keep_10 rfl rfl ?_
    refine r_cn2p (pc2 := 15) dX5_keep_12 st_X5_keep_18 (Nat.le_of_ble_eq_true rfl) rfl (c_X7_pair) ?_
    refine r_istore (pc2 := 17) dX5_keep_15 (by decide) rfl rfl ?_
    refine r_aload_n (pc2 := 18) dX5_keep_17 rfl rfl ?_
    refine r_getR (pc2 := 21) dX5_keep_18 fl_X5_9 (by decide) rfl rfl rfl ?_
    refine r_iload (pc2 := 23) dX5_keep_21 rfl rfl ?_
    refine r_aload_n (pc2 := 24) dX5_keep_23 rfl rfl ?_
    refine r_getR (pc2 := 27) dX5_keep_24 fl_X5_22 (by decide) rfl rfl rfl ?_
    refine r_iload (pc2 := 29) dX5_keep_27 rfl rfl ?_
    refine r_ialde (pc2 := 30) (x := ((V 0 21 (a * 8 + i)))) (j := _) (by rw [sp_ne hg0]) dX5_keep_29 (by decide) rfl rfl (rfl) (by show _ < 64; omega) rfl ?_
    refine r_iast (pc2 := 31) (j := _) dX5_keep_30 (by decide) rfl rfl (rfl) (by show _ < 64; omega) rfl ?_
    refine r_aload_n (pc2 := 32) dX5_keep_31 rfl rfl ?_
    refine r_getR (pc2 := 35) dX5_keep_32 fl_X5_15 (by decide) rfl rfl rfl ?_
    refine r_iload (pc2 := 37) dX5_keep_35 rfl rfl ?_
    refine r_aload_n (pc2 := 38) dX5_keep_37 rfl rfl ?_
    refine r_getR (pc2 := 41) dX5_keep_38 fl_X5_25 (by decide) rfl rfl rfl ?_
    refine r_iload (pc2 := 43) dX5_keep_41 rfl rfl ?_
    refine r_ialde (pc2 := 44) (x := ((V 0 22 (a * 8 + i)))) (j := _) (by show a_set _ _ _ _ 0 22 _ = _; rw [a_ne (by omega), sp_ne hg0]) dX5_keep_43 (by decide) rfl rfl (rfl) (by show _ < 64; omega) rfl ?_
    refine r_iast (pc2 := 45) (j := _) dX5_keep_44 (by decide) rfl rfl (rfl) (by show _ < 64; omega) rfl ?_
    refine r_iincN (pc2 := 48) dX5_keep_45 rfl (by decide) rfl rfl ?_
    refine r_goto (pc2 := 3) dX5_keep_48 (by decide) ?_
    exact Rc_.to (lo' := (fun i : Nat => [some (vR g 12), some (vI (nI a)), some (vI (nI n)), some (vR 0 20), some (vI (nI i)), none]) (i + 1)) (kp_s) ⟨rfl, rfl, rfl, rfl, rfl, trivial⟩ (ih3 (by omega))
