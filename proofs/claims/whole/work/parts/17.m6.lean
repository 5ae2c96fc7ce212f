/-! class: a tick: written by wip/whole/m6.py -/
def due_ (per t : Int32) (a : Nat) : Bool := decide (0 < per ∧ (t + nI a) - (t + nI a) / per * per = nI 0)
/-- a node sends -/
def sp_ (f : Nat → Int32) (s : Sg_) (dl du : Nat → Int32) (n a : Nat) : Bool := due_ (f 0) (s 0 1) a || (decide (f 7 = nI 1) && df_ s dl du a n)
/-- the vectors that the first senders keep -/
def kq_ (f : Nat → Int32) (dl du : Nat → Int32) (n : Nat) : Nat → Sg_ → Sg_ := it_ (fun a s => if sp_ f s dl du n a = true then kp_ s dl du a n else s)
def ss_ (s : Sg_) : Sg_ := fun r i => if r = 0 ∧ i = 2 then s 0 2 + nI 1 else s r i
def lim_ (re : Bool) (m x : Int32) : Int32 := if re = true then (if x < m then x else m) else m
def re_ (f : Nat → Int32) (DU CH : Nat → Int32) (a b t : Nat) : Bool := decide (¬ DU (a * 8 + t) = -1 ∧ ¬ (CH (a * 8 + t) = nI b ∧ f 3 = nI 2))
/-- node a tells neighbour b of target t -/
def nn_ (f DL DU CH : Nat → Int32) (a b t : Nat) (s : Sg_) : Sg_ := if CH (a * 8 + t) = nI b ∧ f 3 = nI 1 then s else
  rc_ f (ss_ s) ((b * 8 + t) * 8 + a) (lim_ (re_ f DU CH a b t) (f 6) (DL (a * 8 + t) + s 2 (b * 8 + a))) (lim_ (re_ f DU CH a b t) (f 6) (DU (a * 8 + t) + s 3 (b * 8 + a))) (s 0 1)
theorem ms_ss {V : Mm_} {g : Nat} : m_set V g 0 2 (V g 0 2 + nI 1) = s_put V g (ss_ (V g)) := by
  funext g' r i
  by_cases hg : g' = g
  · subst hg
    by_cases h : r = 0 ∧ i = 2
    · obtain ⟨rfl, rfl⟩ := h; simp [a_set, upd, s_put, ss_]
    · by_cases h0 : r = 0
      · subst h0
        have : ¬ i = 2 := fun z => h ⟨rfl, z⟩
        simp [a_set, upd, s_put, ss_, this]
      · simp [a_set, s_put, ss_, h0]
  · simp [a_set, s_put, hg]
theorem nn_x {f DL DU CH : Nat → Int32} {a b t : Nat} {s : Sg_} (h : CH (a * 8 + t) = nI b) (h2 : f 3 = nI 1) : nn_ f DL DU CH a b t s = s := by unfold nn_; rw [if_pos ⟨h, h2⟩]
theorem nn_1 {f DL DU CH : Nat → Int32} {a b t : Nat} {s : Sg_} (h : ¬ (CH (a * 8 + t) = nI b ∧ f 3 = nI 1)) (hre : ¬ DU (a * 8 + t) = -1 ∧ ¬ (CH (a * 8 + t) = nI b ∧ f 3 = nI 2)) : nn_ f DL DU CH a b t s = rc_ f (ss_ s) ((b * 8 + t) * 8 + a) (if DL (a * 8 + t) + s 2 (b * 8 + a) < f 6 then DL (a * 8 + t) + s 2 (b * 8 + a) else f 6) (if DU (a * 8 + t) + s 3 (b * 8 + a) < f 6 then DU (a * 8 + t) + s 3 (b * 8 + a) else f 6) (s 0 1) := by
  unfold nn_ lim_ re_
  rw [if_neg h, decide_eq_true hre, if_pos rfl, if_pos rfl]
theorem nn_0 {f DL DU CH : Nat → Int32} {a b t : Nat} {s : Sg_} (h : ¬ (CH (a * 8 + t) = nI b ∧ f 3 = nI 1)) (hre : ¬ (¬ DU (a * 8 + t) = -1 ∧ ¬ (CH (a * 8 + t) = nI b ∧ f 3 = nI 2))) : nn_ f DL DU CH a b t s = rc_ f (ss_ s) ((b * 8 + t) * 8 + a) (f 6) (f 6) (s 0 1) := by
  unfold nn_ lim_ re_
  rw [if_neg h, decide_eq_false hre, if_neg (by decide), if_neg (by decide)]
def sk_ (f DL DU CH : Nat → Int32) (n a : Nat) : Sg_ → Sg_ := it_ (fun b s => if s 5 (a * 8 + b) = nI 1 then it_ (fun t s => if t = b then s else nn_ f DL DU CH a b t s) n s else s) n
/-- a change of a choice goes to the journal -/
def jn_ (s : Sg_) (m : Nat) (t a b c : Int32) : Sg_ := fun r i => if r = 16 ∧ i = m % 16 * 4 then t else if r = 16 ∧ i = m % 16 * 4 + 1 then a else if r = 16 ∧ i = m % 16 * 4 + 2 then b else if r = 16 ∧ i = m % 16 * 4 + 3 then c else if r = 15 ∧ i = 1 then nI (m + 1) else s r i
def n1_ (CH : Nat → Int32) (m a b : Nat) (p : Sg_ × Nat) : Sg_ × Nat := if CH (a * 8 + b) = p.1 17 (a * 8 + b) then p else (jn_ (fun r i => if r = 17 ∧ i = a * 8 + b then CH (a * 8 + b) else p.1 r i) (m + p.2) (p.1 0 1) (nI a) (nI b) (CH (a * 8 + b)), p.2 + 1)
def nr_ (CH : Nat → Int32) (m a : Nat) : Nat → Sg_ × Nat → Sg_ × Nat := it_ (fun b p => n1_ CH m a b p)
def nt_ (CH : Nat → Int32) (m n : Nat) : Nat → Sg_ × Nat → Sg_ × Nat := it_ (fun a p => nr_ CH m a n p)
theorem n1_ok {CH : Nat → Int32} {m a b : Nat} {p : Sg_ × Nat} (h : p.1 15 1 = nI (m + p.2)) : (n1_ CH m a b p).1 15 1 = nI (m + (n1_ CH m a b p).2) ∧ (n1_ CH m a b p).2 ≤ p.2 + 1 := by
  unfold n1_
  split
  · exact ⟨h, by omega⟩
  · exact ⟨by simp [jn_, Nat.add_assoc], Nat.le_refl _⟩
theorem nr_ok {CH : Nat → Int32} {m a : Nat} {p : Sg_ × Nat} (h : p.1 15 1 = nI (m + p.2)) : ∀ j, (nr_ CH m a j p).1 15 1 = nI (m + (nr_ CH m a j p).2) ∧ (nr_ CH m a j p).2 ≤ p.2 + j
  | 0 => ⟨h, Nat.le_refl _⟩
  | j + 1 => by
    have ih := nr_ok (CH := CH) (m := m) (a := a) h j
    have h2 := n1_ok (CH := CH) (m := m) (a := a) (b := j) ih.1
    exact ⟨h2.1, Nat.le_trans h2.2 (by omega)⟩
theorem nt_ok {CH : Nat → Int32} {m n : Nat} {p : Sg_ × Nat} (h : p.1 15 1 = nI (m + p.2)) : ∀ i, (nt_ CH m n i p).1 15 1 = nI (m + (nt_ CH m n i p).2) ∧ (nt_ CH m n i p).2 ≤ p.2 + i * n
  | 0 => ⟨h, by simp [nt_, it_]⟩
  | i + 1 => by
    have ih := nt_ok (CH := CH) (m := m) (n := n) h i
    have h2 := nr_ok (CH := CH) (m := m) (a := i) ih.1 n
    exact ⟨h2.1, Nat.le_trans h2.2 (by rw [Nat.succ_mul]; omega)⟩

set_option maxRecDepth 100000 in
set_option maxHeartbeats 4000000 in
theorem c_X7_isDue {PL : List (Nat × Nat)} {g a : Nat} {V : Mm_} : Cp_ PL mX7_isDue [vR 0 18, vR g 0, vI (nI a)] V (b2 (due_ (V 0 19 0) (V g 0 1) a)) := by
  refine Ca_.of mv_X7_isDue.2.2.2.2.2.2 1 (lo := [some (vR 0 18), some (vR g 0), some (vI (nI a)), none]) rfl (Nat.le_of_ble_eq_true rfl) ?_
  refine r_aload_n (pc2 := 1) dX7_isDue_0 rfl rfl ?_
  refine r_getR (pc2 := 4) dX7_isDue_1 fl_X7_18 (by decide) rfl rfl rfl ?_
  refine r_iconst (pc2 := 5) (nI 0) dX7_isDue_4 (by decide) rfl ?_
  refine r_iald (pc2 := 6) (j := _) dX7_isDue_5 (by decide) rfl rfl (rfl) (by show _ < 10; omega) rfl ?_
  refine r_istore_n (pc2 := 7) dX7_isDue_6 (by decide) rfl rfl ?_
  refine r_iload_n (pc2 := 8) dX7_isDue_7 rfl rfl ?_
  refine r_if_le (pc2 := 11) (tgt := 26) dX7_isDue_8 (by decide) rfl (fun c8 => ?_) (fun c8 => ?_)
  · skip
    refine r_iconst (pc2 := 27) (nI 0) dX7_isDue_26 (by decide) rfl ?_
    exact r_zret dX7_isDue_27 rfl (Or.inl rfl) (⟨by unfold due_; exact b2_f (fun z => Int32.not_le.mpr z.1 c8), rfl⟩)
  · skip
    refine r_aload_n (pc2 := 12) dX7_isDue_11 rfl rfl ?_
    refine r_getI (pc2 := 15) dX7_isDue_12 fl_X7_125 (by decide) rfl rfl rfl ?_
    refine r_iload_n (pc2 := 16) dX7_isDue_15 rfl rfl ?_
    refine r_iadd (pc2 := 17) dX7_isDue_16 rfl ?_
    refine r_iload_n (pc2 := 18) dX7_isDue_17 rfl rfl ?_
    refine r_irem (pc2 := 19) dX7_isDue_18 (fun z => absurd (show V 0 19 0 = 0 from z) (fun z2 => by have h := Int32.not_le.mp c8; rw [z2] at h; exact absurd h (by decide))) rfl ?_
    refine r_if_ne (pc2 := 22) (tgt := 26) dX7_isDue_19 (by decide) rfl (fun c19 => ?_) (fun c19 => ?_)
    · skip
      refine r_iconst (pc2 := 27) (nI 0) dX7_isDue_26 (by decide) rfl ?_
      exact r_zret dX7_isDue_27 rfl (Or.inl rfl) (⟨by unfold due_; exact b2_f (fun z => absurd z.2 c19), rfl⟩)
    · skip
      refine r_iconst (pc2 := 23) (nI 1) dX7_isDue_22 (by decide) rfl ?_
      refine r_goto (pc2 := 27) dX7_isDue_23 (by decide) ?_
      exact r_zret dX7_isDue_27 rfl (Or.inr rfl) (⟨by unfold due_; exact b2_t ⟨Int32.not_le.mp c8, c19⟩, rfl⟩)

theorem cs_s {V : Mm_} {g i : Nat} {F : Nat → Int32} {S S2 : Sg_} {x : Int32} (hg : ¬ 0 = g) (hx : x = F i) (hS : S2 = S) : m_set (s_put (a_set V 0 32 (fr_ F (V 0 32) i)) g S) 0 32 i x = s_put (a_set V 0 32 (fr_ F (V 0 32) (i + 1))) g S2 := by
  subst hx hS
  funext g' r
  by_cases h : g' = g
  · subst h
    simp [a_set, s_put, Ne.symm hg]
  · by_cases h2 : g' = 0 ∧ r = 32
    · obtain ⟨rfl, rfl⟩ := h2
      simp [a_set, s_put, hg, fr_s]
    · simp only [a_set, s_put, h, h2, if_false]
theorem cs_k {V V1 : Mm_} {g i : Nat} {F : Nat → Int32} {S S2 : Sg_} {x : Int32} (hg : ¬ 0 = g) (hV : V1 = s_put (a_set V 0 32 (fr_ F (V 0 32) i)) g S) (hx : x = F i) : s_put (m_set V1 0 32 i x) g S2 = s_put (a_set V 0 32 (fr_ F (V 0 32) (i + 1))) g S2 := by
  rw [hV, cs_s hg hx rfl, sp_twice]
theorem kq_00 {f dl du : Nat → Int32} {n : Nat} {s : Sg_} : ∀ {i : Nat}, kq_ f dl du n i s 0 0 = s 0 0
  | 0 => rfl
  | i + 1 => by
    show (if sp_ f (kq_ f dl du n i s) dl du n i = true then kp_ (kq_ f dl du n i s) dl du i n else kq_ f dl du n i s) 0 0 = _
    have := kq_00 (f := f) (dl := dl) (du := du) (n := n) (s := s) (i := i)
    split
    · rw [← this]
      unfold kp_
      split <;> simp
    · exact this
set_option maxRecDepth 100000 in
set_option maxHeartbeats 4000000 in
theorem c_X7_chooseSpeakers {PL : List (Nat × Nat)} {g n : Nat} {V : Mm_} (hg0 : ¬ 0 = g) (hn : V g 0 0 = nI n) (hn8 : n ≤ 8) : Cm_ PL mX7_chooseSpeakers [vR 0 18, vR g 0] V (s_put (a_set V 0 32 (fr_ (fun a => b2 (sp_ (V 0 19) (kq_ (V 0 19) (V 0 21) (V 0 22) n a (V g)) (V 0 21) (V 0 22) n a)) (V 0 32) n)) g (kq_ (V 0 19) (V 0 21) (V 0 22) n n (V g))) := by
  refine Ca_.of mv_X7_chooseSpeakers.2.2.2.2.2.2 1 (lo := [some (vR 0 18), some (vR g 0), none]) rfl (Nat.le_of_ble_eq_true rfl) ?_
  refine r_iconst (pc2 := 1) (nI 0) dX7_chooseSpeakers_0 (by decide) rfl ?_
  refine r_istore_n (pc2 := 2) dX7_chooseSpeakers_1 (by decide) rfl rfl ?_
  refine Rc_.to (V' := (fun V1 => V1) (V)) (lo' := (fun (i : Nat) (V1 : Mm_) => [some (vR 0 18), some (vR g 0), some (vI (nI i))]) 0 (V)) (rfl) ⟨rfl, rfl, rfl, trivial⟩ ?_
  refine Rc_forI 0 (n) (fun (i : Nat) (V1 : Mm_) => [some (vR 0 18), some (vR g 0), some (vI (nI i))]) (fun V1 => V1) (fun i V1 => V1 = s_put (a_set V 0 32 (fr_ (fun a => b2 (sp_ (V 0 19) (kq_ (V 0 19) (V 0 21) (V 0 22) n a (V g)) (V 0 21) (V 0 22) n a)) (V 0 32) i)) g (kq_ (V 0 19) (V 0 21) (V 0 22) n i (V g))) (by omega) (fun i V1 hi0 hiN hI ih2 => ?_) (V) (by show V = s_put (a_set V 0 32 (fr_ _ (V 0 32) 0)) g (V g); rw [fr_0, a_id, sp_id])
  have hVg : V1 g = kq_ (V 0 19) (V 0 21) (V 0 22) n i (V g) := by rw [hI, sp_same]
  have h0r : ∀ r, ¬ r = 32 → V1 0 r = V 0 r := fun r hr => by rw [hI, sp_ne hg0, a_ne (by omega)]
  have hVn : V1 g 0 0 = nI n := by rw [hVg, kq_00, hn]
  refine r_iload_n (pc2 := 3) dX7_chooseSpeakers_2 rfl rfl ?_
  refine r_aload_n (pc2 := 4) dX7_chooseSpeakers_3 rfl rfl ?_
  refine r_getIe (pc2 := 7) (x := (nI n)) (hVn) dX7_chooseSpeakers_4 fl_X7_60 (by decide) rfl rfl rfl ?_
  refine r_icN_ge (pc2 := 10) (tgt := 91) (by omega) (by omega) dX7_chooseSpeakers_7 (by decide) rfl (fun c7 => ?_) (fun c7 => ?_)
  · skip
    exact r_vret dX7_chooseSpeakers_91 rfl (by (have e : i = n := by omega); subst e; exact hI)
  · skip
    refine r_aload_n (pc2 := 11) dX7_chooseSpeakers_10 rfl rfl ?_
    refine r_getR (pc2 := 14) dX7_chooseSpeakers_11 fl_X7_48 (by decide) rfl rfl rfl ?_
    refine r_iload_n (pc2 := 15) dX7_chooseSpeakers_14 rfl rfl ?_
    refine r_aload_n (pc2 := 16) dX7_chooseSpeakers_15 rfl rfl ?_
    refine r_aload_n (pc2 := 17) dX7_chooseSpeakers_16 rfl rfl ?_
    refine r_iload_n (pc2 := 18) dX7_chooseSpeakers_17 rfl rfl ?_
    refine r_cv2p (pc2 := 21) dX7_chooseSpeakers_18 st_X7_chooseSpeakers_252 rl_X7_isDue (Nat.le_of_ble_eq_true rfl) rfl (c_X7_isDue) ?_
    refine r_ifB_ne (pc2 := 24) (tgt := 54) dX7_chooseSpeakers_21 (by decide) rfl (fun c21 => ?_) (fun c21 => ?_)
    · skip
      rw [hVg, h0r 19 (by decide)] at c21
      have hsp : sp_ (V 0 19) (kq_ (V 0 19) (V 0 21) (V 0 22) n i (V g)) (V 0 21) (V 0 22) n i = true := by unfold sp_; rw [c21]; rfl
      refine r_iconst (pc2 := 55) (nI 1) dX7_chooseSpeakers_54 (by decide) rfl ?_
      refine r_goto (pc2 := 59) dX7_chooseSpeakers_55 (by decide) ?_
      refine r_as (x' := (b2 (sp_ (V 0 19) (kq_ (V 0 19) (V 0 21) (V 0 22) n i (V g)) (V 0 21) (V 0 22) n i))) (by first | exact b2_1 hsp | exact b2_0 hsp) ?_
      refine r_zast (pc2 := 60) (j := _) dX7_chooseSpeakers_59 (by decide) rfl rfl (b2_01 _) (rfl) (by show _ < 8; omega) rfl ?_
      refine r_aload_n (pc2 := 61) dX7_chooseSpeakers_60 rfl rfl ?_
      refine r_getR (pc2 := 64) dX7_chooseSpeakers_61 fl_X7_48 (by decide) rfl rfl rfl ?_
      refine r_iload_n (pc2 := 65) dX7_chooseSpeakers_64 rfl rfl ?_
      refine r_zalde (pc2 := 66) (x := (b2 (sp_ (V 0 19) (kq_ (V 0 19) (V 0 21) (V 0 22) n i (V g)) (V 0 21) (V 0 22) n i))) (j := _) (pk_us) dX7_chooseSpeakers_65 (by decide) rfl rfl (rfl) (by show _ < 8; omega) rfl ?_
      refine r_ifB_eq (pc2 := 69) (tgt := 85) dX7_chooseSpeakers_66 (by decide) rfl (fun c66 => ?_) (fun c66 => ?_)
      · skip
        refine r_iincN (pc2 := 88) dX7_chooseSpeakers_85 rfl (by decide) rfl rfl ?_
        refine r_goto (pc2 := 2) dX7_chooseSpeakers_88 (by decide) ?_
        exact Rc_.to (lo' := [some (vR 0 18), some (vR g 0), some (vI (nI ((i + 1))))]) (rfl) ⟨rfl, rfl, rfl, trivial⟩ (ih2 _ (by omega) (by first | exact (by rw [hI]; exact cs_s hg0 rfl (by show (if sp_ (V 0 19) (kq_ (V 0 19) (V 0 21) (V 0 22) n i (V g)) (V 0 21) (V 0 22) n i = true then _ else _) = _; rw [c66]; rfl)) | exact (by refine (cs_k hg0 hI rfl).trans ?_; refine congrArg (fun z => s_put _ g z) ?_; rw [m_ne (by omega), m_ne (by omega), mg_ne (fun h => hg0 h.symm), hVg, h0r 21 (by decide), h0r 22 (by decide)]; show _ = (if sp_ (V 0 19) (kq_ (V 0 19) (V 0 21) (V 0 22) n i (V g)) (V 0 21) (V 0 22) n i = true then _ else _); rw [c66, if_pos rfl]; rfl)))
      · skip
        refine r_aload_n (pc2 := 70) dX7_chooseSpeakers_69 rfl rfl ?_
        refine r_getR (pc2 := 73) dX7_chooseSpeakers_70 fl_X7_256 (by decide) rfl rfl rfl ?_
        refine r_iload_n (pc2 := 74) dX7_chooseSpeakers_73 rfl rfl ?_
        refine r_aload_n (pc2 := 75) dX7_chooseSpeakers_74 rfl rfl ?_
        refine r_getIe (pc2 := 78) (x := (nI n)) (by show m_set V1 0 32 i _ g 0 0 = _; rw [m_ne (by omega)]; exact hVn) dX7_chooseSpeakers_75 fl_X7_60 (by decide) rfl rfl rfl ?_
        refine r_aload_n (pc2 := 79) dX7_chooseSpeakers_78 rfl rfl ?_
        refine r_getR (pc2 := 82) dX7_chooseSpeakers_79 fl_X7_37 (by decide) rfl rfl rfl ?_
        refine r_cv3m (pc2 := 85) dX7_chooseSpeakers_82 st_X7_chooseSpeakers_266 rl_X5_keep (Nat.le_of_ble_eq_true rfl) rfl (c_X5_keep hg0 hn8 (by omega)) ?_
        refine r_iincN (pc2 := 88) dX7_chooseSpeakers_85 rfl (by decide) rfl rfl ?_
        refine r_goto (pc2 := 2) dX7_chooseSpeakers_88 (by decide) ?_
        exact Rc_.to (lo' := [some (vR 0 18), some (vR g 0), some (vI (nI ((i + 1))))]) (rfl) ⟨rfl, rfl, rfl, trivial⟩ (ih2 _ (by omega) (by first | exact (by rw [hI]; exact cs_s hg0 rfl (by show (if sp_ (V 0 19) (kq_ (V 0 19) (V 0 21) (V 0 22) n i (V g)) (V 0 21) (V 0 22) n i = true then _ else _) = _; rw [c66]; rfl)) | exact (by refine (cs_k hg0 hI rfl).trans ?_; refine congrArg (fun z => s_put _ g z) ?_; rw [m_ne (by omega), m_ne (by omega), mg_ne (fun h => hg0 h.symm), hVg, h0r 21 (by decide), h0r 22 (by decide)]; show _ = (if sp_ (V 0 19) (kq_ (V 0 19) (V 0 21) (V 0 22) n i (V g)) (V 0 21) (V 0 22) n i = true then _ else _); rw [c66, if_pos rfl]; rfl)))
    · skip
      rw [hVg, h0r 19 (by decide)] at c21
      refine r_aload_n (pc2 := 25) dX7_chooseSpeakers_24 rfl rfl ?_
      refine r_getR (pc2 := 28) dX7_chooseSpeakers_25 fl_X7_18 (by decide) rfl rfl rfl ?_
      refine r_bipush (pc2 := 30) (nI 7) dX7_chooseSpeakers_28 (by decide) rfl ?_
      refine r_ialde (pc2 := 31) (x := ((V 0 19 7))) (j := _) (by rw [h0r 19 (by decide)]) dX7_chooseSpeakers_30 (by decide) rfl rfl (rfl) (by show _ < 10; omega) rfl ?_
      refine r_iconst (pc2 := 32) (nI 1) dX7_chooseSpeakers_31 (by decide) rfl ?_
      refine r_ic_ne (pc2 := 35) (tgt := 58) dX7_chooseSpeakers_32 (by decide) rfl (fun c32 => ?_) (fun c32 => ?_)
      · skip
        have hsp : sp_ (V 0 19) (kq_ (V 0 19) (V 0 21) (V 0 22) n i (V g)) (V 0 21) (V 0 22) n i = false := by unfold sp_; rw [c21, decide_eq_false c32]; rfl
        refine r_iconst (pc2 := 59) (nI 0) dX7_chooseSpeakers_58 (by decide) rfl ?_
        refine r_as (x' := (b2 (sp_ (V 0 19) (kq_ (V 0 19) (V 0 21) (V 0 22) n i (V g)) (V 0 21) (V 0 22) n i))) (by first | exact b2_1 hsp | exact b2_0 hsp) ?_
        refine r_zast (pc2 := 60) (j := _) dX7_chooseSpeakers_59 (by decide) rfl rfl (b2_01 _) (rfl) (by show _ < 8; omega) rfl ?_
        refine r_aload_n (pc2 := 61) dX7_chooseSpeakers_60 rfl rfl ?_
        refine r_getR (pc2 := 64) dX7_chooseSpeakers_61 fl_X7_48 (by decide) rfl rfl rfl ?_
        refine r_iload_n (pc2 := 65) dX7_chooseSpeakers_64 rfl rfl ?_
        refine r_zalde (pc2 := 66) (x := (b2 (sp_ (V 0 19) (kq_ (V 0 19) (V 0 21) (V 0 22) n i (V g)) (V 0 21) (V 0 22) n i))) (j := _) (pk_us) dX7_chooseSpeakers_65 (by decide) rfl rfl (rfl) (by show _ < 8; omega) rfl ?_
        refine r_ifB_eq (pc2 := 69) (tgt := 85) dX7_chooseSpeakers_66 (by decide) rfl (fun c66 => ?_) (fun c66 => ?_)
        · skip
          refine r_iincN (pc2 := 88) dX7_chooseSpeakers_85 rfl (by decide) rfl rfl ?_
          refine r_goto (pc2 := 2) dX7_chooseSpeakers_88 (by decide) ?_
          exact Rc_.to (lo' := [some (vR 0 18), some (vR g 0), some (vI (nI ((i + 1))))]) (rfl) ⟨rfl, rfl, rfl, trivial⟩ (ih2 _ (by omega) (by first | exact (by rw [hI]; exact cs_s hg0 rfl (by show (if sp_ (V 0 19) (kq_ (V 0 19) (V 0 21) (V 0 22) n i (V g)) (V 0 21) (V 0 22) n i = true then _ else _) = _; rw [c66]; rfl)) | exact (by refine (cs_k hg0 hI rfl).trans ?_; refine congrArg (fun z => s_put _ g z) ?_; rw [m_ne (by omega), m_ne (by omega), mg_ne (fun h => hg0 h.symm), hVg, h0r 21 (by decide), h0r 22 (by decide)]; show _ = (if sp_ (V 0 19) (kq_ (V 0 19) (V 0 21) (V 0 22) n i (V g)) (V 0 21) (V 0 22) n i = true then _ else _); rw [c66, if_pos rfl]; rfl)))
        · skip
          refine r_aload_n (pc2 := 70) dX7_chooseSpeakers_69 rfl rfl ?_
          refine r_getR (pc2 := 73) dX7_chooseSpeakers_70 fl_X7_256 (by decide) rfl rfl rfl ?_
          refine r_iload_n (pc2 := 74) dX7_chooseSpeakers_73 rfl rfl ?_
          refine r_aload_n (pc2 := 75) dX7_chooseSpeakers_74 rfl rfl ?_
          refine r_getIe (pc2 := 78) (x := (nI n)) (by show m_set V1 0 32 i _ g 0 0 = _; rw [m_ne (by omega)]; exact hVn) dX7_chooseSpeakers_75 fl_X7_60 (by decide) rfl rfl rfl ?_
          refine r_aload_n (pc2 := 79) dX7_chooseSpeakers_78 rfl rfl ?_
          refine r_getR (pc2 := 82) dX7_chooseSpeakers_79 fl_X7_37 (by decide) rfl rfl rfl ?_
          refine r_cv3m (pc2 := 85) dX7_chooseSpeakers_82 st_X7_chooseSpeakers_266 rl_X5_keep (Nat.le_of_ble_eq_true rfl) rfl (c_X5_keep hg0 hn8 (by omega)) ?_
          refine r_iincN (pc2 := 88) dX7_chooseSpeakers_85 rfl (by decide) rfl rfl ?_
          refine r_goto (pc2 := 2) dX7_chooseSpeakers_88 (by decide) ?_
          exact Rc_.to (lo' := [some (vR 0 18), some (vR g 0), some (vI (nI ((i + 1))))]) (rfl) ⟨rfl, rfl, rfl, trivial⟩ (ih2 _ (by omega) (by first | exact (by rw [hI]; exact cs_s hg0 rfl (by show (if sp_ (V 0 19) (kq_ (V 0 19) (V 0 21) (V 0 22) n i (V g)) (V 0 21) (V 0 22) n i = true then _ else _) = _; rw [c66]; rfl)) | exact (by refine (cs_k hg0 hI rfl).trans ?_; refine congrArg (fun z => s_put _ g z) ?_; rw [m_ne (by omega), m_ne (by omega), mg_ne (fun h => hg0 h.symm), hVg, h0r 21 (by decide), h0r 22 (by decide)]; show _ = (if sp_ (V 0 19) (kq_ (V 0 19) (V 0 21) (V 0 22) n i (V g)) (V 0 21) (V 0 22) n i = true then _ else _); rw [c66, if_pos rfl]; rfl)))
      · skip
        refine r_aload_n (pc2 := 36) dX7_chooseSpeakers_35 rfl rfl ?_
        refine r_getR (pc2 := 39) dX7_chooseSpeakers_36 fl_X7_256 (by decide) rfl rfl rfl ?_
        refine r_iload_n (pc2 := 40) dX7_chooseSpeakers_39 rfl rfl ?_
        refine r_aload_n (pc2 := 41) dX7_chooseSpeakers_40 rfl rfl ?_
        refine r_getIe (pc2 := 44) (x := (nI n)) (hVn) dX7_chooseSpeakers_41 fl_X7_60 (by decide) rfl rfl rfl ?_
        refine r_aload_n (pc2 := 45) dX7_chooseSpeakers_44 rfl rfl ?_
        refine r_getR (pc2 := 48) dX7_chooseSpeakers_45 fl_X7_37 (by decide) rfl rfl rfl ?_
        refine r_cv3p (pc2 := 51) dX7_chooseSpeakers_48 st_X7_chooseSpeakers_260 rl_X5_differs (Nat.le_of_ble_eq_true rfl) rfl (c_X5_differs hn8 (by omega)) ?_
        refine r_ifB_eq (pc2 := 54) (tgt := 58) dX7_chooseSpeakers_51 (by decide) rfl (fun c51 => ?_) (fun c51 => ?_)
        · skip
          rw [hVg, h0r 21 (by decide), h0r 22 (by decide)] at c51
          have hsp : sp_ (V 0 19) (kq_ (V 0 19) (V 0 21) (V 0 22) n i (V g)) (V 0 21) (V 0 22) n i = false := by unfold sp_; rw [c21, c51, Bool.and_false]; rfl
          refine r_iconst (pc2 := 59) (nI 0) dX7_chooseSpeakers_58 (by decide) rfl ?_
          refine r_as (x' := (b2 (sp_ (V 0 19) (kq_ (V 0 19) (V 0 21) (V 0 22) n i (V g)) (V 0 21) (V 0 22) n i))) (by first | exact b2_1 hsp | exact b2_0 hsp) ?_
          refine r_zast (pc2 := 60) (j := _) dX7_chooseSpeakers_59 (by decide) rfl rfl (b2_01 _) (rfl) (by show _ < 8; omega) rfl ?_
          refine r_aload_n (pc2 := 61) dX7_chooseSpeakers_60 rfl rfl ?_
          refine r_getR (pc2 := 64) dX7_chooseSpeakers_61 fl_X7_48 (by decide) rfl rfl rfl ?_
          refine r_iload_n (pc2 := 65) dX7_chooseSpeakers_64 rfl rfl ?_
          refine r_zalde (pc2 := 66) (x := (b2 (sp_ (V 0 19) (kq_ (V 0 19) (V 0 21) (V 0 22) n i (V g)) (V 0 21) (V 0 22) n i))) (j := _) (pk_us) dX7_chooseSpeakers_65 (by decide) rfl rfl (rfl) (by show _ < 8; omega) rfl ?_
          refine r_ifB_eq (pc2 := 69) (tgt := 85) dX7_chooseSpeakers_66 (by decide) rfl (fun c66 => ?_) (fun c66 => ?_)
          · skip
            refine r_iincN (pc2 := 88) dX7_chooseSpeakers_85 rfl (by decide) rfl rfl ?_
            refine r_goto (pc2 := 2) dX7_chooseSpeakers_88 (by decide) ?_
            exact Rc_.to (lo' := [some (vR 0 18), some (vR g 0), some (vI (nI ((i + 1))))]) (rfl) ⟨rfl, rfl, rfl, trivial⟩ (ih2 _ (by omega) (by first | exact (by rw [hI]; exact cs_s hg0 rfl (by show (if sp_ (V 0 19) (kq_ (V 0 19) (V 0 21) (V 0 22) n i (V g)) (V 0 21) (V 0 22) n i = true then _ else _) = _; rw [c66]; rfl)) | exact (by refine (cs_k hg0 hI rfl).trans ?_; refine congrArg (fun z => s_put _ g z) ?_; rw [m_ne (by omega), m_ne (by omega), mg_ne (fun h => hg0 h.symm), hVg, h0r 21 (by decide), h0r 22 (by decide)]; show _ = (if sp_ (V 0 19) (kq_ (V 0 19) (V 0 21) (V 0 22) n i (V g)) (V 0 21) (V 0 22) n i = true then _ else _); rw [c66, if_pos rfl]; rfl)))
          · skip
            refine r_aload_n (pc2 := 70) dX7_chooseSpeakers_69 rfl rfl ?_
            refine r_getR (pc2 := 73) dX7_chooseSpeakers_70 fl_X7_256 (by decide) rfl rfl rfl ?_
            refine r_iload_n (pc2 := 74) dX7_chooseSpeakers_73 rfl rfl ?_
            refine r_aload_n (pc2 := 75) dX7_chooseSpeakers_74 rfl rfl ?_
            refine r_getIe (pc2 := 78) (x := (nI n)) (by show m_set V1 0 32 i _ g 0 0 = _; rw [m_ne (by omega)]; exact hVn) dX7_chooseSpeakers_75 fl_X7_60 (by decide) rfl rfl rfl ?_
            refine r_aload_n (pc2 := 79) dX7_chooseSpeakers_78 rfl rfl ?_
            refine r_getR (pc2 := 82) dX7_chooseSpeakers_79 fl_X7_37 (by decide) rfl rfl rfl ?_
            refine r_cv3m (pc2 := 85) dX7_chooseSpeakers_82 st_X7_chooseSpeakers_266 rl_X5_keep (Nat.le_of_ble_eq_true rfl) rfl (c_X5_keep hg0 hn8 (by omega)) ?_
            refine r_iincN (pc2 := 88) dX7_chooseSpeakers_85 rfl (by decide) rfl rfl ?_
            refine r_goto (pc2 := 2) dX7_chooseSpeakers_88 (by decide) ?_
            exact Rc_.to (lo' := [some (vR 0 18), some (vR g 0), some (vI (nI ((i + 1))))]) (rfl) ⟨rfl, rfl, rfl, trivial⟩ (ih2 _ (by omega) (by first | exact (by rw [hI]; exact cs_s hg0 rfl (by show (if sp_ (V 0 19) (kq_ (V 0 19) (V 0 21) (V 0 22) n i (V g)) (V 0 21) (V 0 22) n i = true then _ else _) = _; rw [c66]; rfl)) | exact (by refine (cs_k hg0 hI rfl).trans ?_; refine congrArg (fun z => s_put _ g z) ?_; rw [m_ne (by omega), m_ne (by omega), mg_ne (fun h => hg0 h.symm), hVg, h0r 21 (by decide), h0r 22 (by decide)]; show _ = (if sp_ (V 0 19) (kq_ (V 0 19) (V 0 21) (V 0 22) n i (V g)) (V 0 21) (V 0 22) n i = true then _ else _); rw [c66, if_pos rfl]; rfl)))
        · skip
          rw [hVg, h0r 21 (by decide), h0r 22 (by decide)] at c51
          have hsp : sp_ (V 0 19) (kq_ (V 0 19) (V 0 21) (V 0 22) n i (V g)) (V 0 21) (V 0 22) n i = true := by unfold sp_; rw [c21, c51, decide_eq_true c32]; rfl
          refine r_iconst (pc2 := 55) (nI 1) dX7_chooseSpeakers_54 (by decide) rfl ?_
          refine r_goto (pc2 := 59) dX7_chooseSpeakers_55 (by decide) ?_
          refine r_as (x' := (b2 (sp_ (V 0 19) (kq_ (V 0 19) (V 0 21) (V 0 22) n i (V g)) (V 0 21) (V 0 22) n i))) (by first | exact b2_1 hsp | exact b2_0 hsp) ?_
          refine r_zast (pc2 := 60) (j := _) dX7_chooseSpeakers_59 (by decide) rfl rfl (b2_01 _) (rfl) (by show _ < 8; omega) rfl ?_
          refine r_aload_n (pc2 := 61) dX7_chooseSpeakers_60 rfl rfl ?_
          refine r_getR (pc2 := 64) dX7_chooseSpeakers_61 fl_X7_48 (by decide) rfl rfl rfl ?_
          refine r_iload_n (pc2 := 65) dX7_chooseSpeakers_64 rfl rfl ?_
          refine r_zalde (pc2 := 66) (x := (b2 (sp_ (V 0 19) (kq_ (V 0 19) (V 0 21) (V 0 22) n i (V g)) (V 0 21) (V 0 22) n i))) (j := _) (pk_us) dX7_chooseSpeakers_65 (by decide) rfl rfl (rfl) (by show _ < 8; omega) rfl ?_
          refine r_ifB_eq (pc2 := 69) (tgt := 85) dX7_chooseSpeakers_66 (by decide) rfl (fun c66 => ?_) (fun c66 => ?_)
          · skip
            refine r_iincN (pc2 := 88) dX7_chooseSpeakers_85 rfl (by decide) rfl rfl ?_
            refine r_goto (pc2 := 2) dX7_chooseSpeakers_88 (by decide) ?_
            exact Rc_.to (lo' := [some (vR 0 18), some (vR g 0), some (vI (nI ((i + 1))))]) (rfl) ⟨rfl, rfl, rfl, trivial⟩ (ih2 _ (by omega) (by first | exact (by rw [hI]; exact cs_s hg0 rfl (by show (if sp_ (V 0 19) (kq_ (V 0 19) (V 0 21) (V 0 22) n i (V g)) (V 0 21) (V 0 22) n i = true then _ else _) = _; rw [c66]; rfl)) | exact (by refine (cs_k hg0 hI rfl).trans ?_; refine congrArg (fun z => s_put _ g z) ?_; rw [m_ne (by omega), m_ne (by omega), mg_ne (fun h => hg0 h.symm), hVg, h0r 21 (by decide), h0r 22 (by decide)]; show _ = (if sp_ (V 0 19) (kq_ (V 0 19) (V 0 21) (V 0 22) n i (V g)) (V 0 21) (V 0 22) n i = true then _ else _); rw [c66, if_pos rfl]; rfl)))
          · skip
            refine r_aload_n (pc2 := 70) dX7_chooseSpeakers_69 rfl rfl ?_
            refine r_getR (pc2 := 73) dX7_chooseSpeakers_70 fl_X7_256 (by decide) rfl rfl rfl ?_
            refine r_iload_n (pc2 := 74) dX7_chooseSpeakers_73 rfl rfl ?_
            refine r_aload_n (pc2 := 75) dX7_chooseSpeakers_74 rfl rfl ?_
            refine r_getIe (pc2 := 78) (x := (nI n)) (by show m_set V1 0 32 i _ g 0 0 = _; rw [m_ne (by omega)]; exact hVn) dX7_chooseSpeakers_75 fl_X7_60 (by decide) rfl rfl rfl ?_
            refine r_aload_n (pc2 := 79) dX7_chooseSpeakers_78 rfl rfl ?_
            refine r_getR (pc2 := 82) dX7_chooseSpeakers_79 fl_X7_37 (by decide) rfl rfl rfl ?_
            refine r_cv3m (pc2 := 85) dX7_chooseSpeakers_82 st_X7_chooseSpeakers_266 rl_X5_keep (Nat.le_of_ble_eq_true rfl) rfl (c_X5_keep hg0 hn8 (by omega)) ?_
            refine r_iincN (pc2 := 88) dX7_chooseSpeakers_85 rfl (by decide) rfl rfl ?_
            refine r_goto (pc2 := 2) dX7_chooseSpeakers_88 (by decide) ?_
            exact Rc_.to (lo' := [some (vR 0 18), some (vR g 0), some (vI (nI ((i + 1))))]) (rfl) ⟨rfl, rfl, rfl, trivial⟩ (ih2 _ (by omega) (by first | exact (by rw [hI]; exact cs_s hg0 rfl (by show (if sp_ (V 0 19) (kq_ (V 0 19) (V 0 21) (V 0 22) n i (V g)) (V 0 21) (V 0 22) n i = true then _ else _) = _; rw [c66]; rfl)) | exact (by refine (cs_k hg0 hI rfl).trans ?_; refine congrArg (fun z => s_put _ g z) ?_; rw [m_ne (by omega), m_ne (by omega), mg_ne (fun h => hg0 h.symm), hVg, h0r 21 (by decide), h0r 22 (by decide)]; show _ = (if sp_ (V 0 19) (kq_ (V 0 19) (V 0 21) (V 0 22) n i (V g)) (V 0 21) (V 0 22) n i = true then _ else _); rw [c66, if_pos rfl]; rfl)))

set_option maxRecDepth 100000 in
set_option maxHeartbeats 4000000 in
theorem c_X7_announce {PL : List (Nat × Nat)} {g a b t : Nat} {V : Mm_} (hg0 : ¬ 0 = g) (ha : a < 8) (hb : b < 8) (ht : t < 8) : Cm_ PL mX7_announce [vR 0 18, vR g 0, vI (nI a), vI (nI b), vI (nI t)] V (s_put V g (nn_ (V 0 19) (V 0 21) (V 0 22) (V 0 23) a b t (V g))) := by
  refine Ca_.of mv_X7_announce.2.2.2.2.2.2 5 (lo := [some (vR 0 18), some (vR g 0), some (vI (nI a)), some (vI (nI b)), some (vI (nI t)), none, none, none, none, none]) rfl (Nat.le_of_ble_eq_true rfl) ?_
  refine r_iload_n (pc2 := 1) dX7_announce_0 rfl rfl ?_
  refine r_iload (pc2 := 3) dX7_announce_1 rfl rfl ?_
  refine r_cs2p (pc2 := 6) dX7_announce_3 st_X7_announce_88 (Nat.le_of_ble_eq_true rfl) rfl (c_X7_pair) ?_
  refine r_istore (pc2 := 8) dX7_announce_6 (by decide) rfl rfl ?_
  refine r_aload_n (pc2 := 9) dX7_announce_8 rfl rfl ?_
  refine r_getR (pc2 := 12) dX7_announce_9 fl_X7_37 (by decide) rfl rfl rfl ?_
  refine r_iload (pc2 := 14) dX7_announce_12 rfl rfl ?_
  refine r_cv1p (pc2 := 17) dX7_announce_14 st_X7_announce_178 rl_X3_reaches (Nat.le_of_ble_eq_true rfl) rfl (c_X3_reaches (by omega)) ?_
  refine r_istore (pc2 := 19) dX7_announce_17 (by decide) rfl rfl ?_
  refine r_aload_n (pc2 := 20) dX7_announce_19 rfl rfl ?_
  refine r_getR (pc2 := 23) dX7_announce_20 fl_X7_37 (by decide) rfl rfl rfl ?_
  refine r_getR (pc2 := 26) dX7_announce_23 fl_X7_183 (by decide) rfl rfl rfl ?_
  refine r_iload (pc2 := 28) dX7_announce_26 rfl rfl ?_
  refine r_ialde (pc2 := 29) (x := ((V 0 23 (a * 8 + t)))) (j := _) (rfl) dX7_announce_28 (by decide) rfl rfl (rfl) (by show _ < 64; omega) rfl ?_
  refine r_iload_n (pc2 := 30) dX7_announce_29 rfl rfl ?_
  refine r_ic_ne (pc2 := 33) (tgt := 66) dX7_announce_30 (by decide) rfl (fun c30 => ?_) (fun c30 => ?_)
  · skip
    refine r_aload_n (pc2 := 67) dX7_announce_66 rfl rfl ?_
    refine r_dup (pc2 := 68) dX7_announce_67 rfl ?_
    refine r_getIe (pc2 := 71) (x := ((V g 0 2))) (rfl) dX7_announce_68 fl_X7_133 (by decide) rfl rfl rfl ?_
    refine r_iconst (pc2 := 72) (nI 1) dX7_announce_71 (by decide) rfl ?_
    refine r_iadd (pc2 := 73) dX7_announce_72 rfl ?_
    refine r_put (pc2 := 76) dX7_announce_73 fl_X7_133 (by decide) rfl rfl ft_2_2 rfl rfl rfl ?_
    rw [ms_ss]
    refine r_aload_n (pc2 := 77) dX7_announce_76 rfl rfl ?_
    refine r_getR (pc2 := 80) dX7_announce_77 fl_X7_18 (by decide) rfl rfl rfl ?_
    refine r_bipush (pc2 := 82) (nI 6) dX7_announce_80 (by decide) rfl ?_
    refine r_ialde (pc2 := 83) (x := ((V 0 19 6))) (j := _) (by rw [sp_ne hg0]) dX7_announce_82 (by decide) rfl rfl (rfl) (by show _ < 10; omega) rfl ?_
    refine r_istore (pc2 := 85) dX7_announce_83 (by decide) rfl rfl ?_
    refine r_aload_n (pc2 := 86) dX7_announce_85 rfl rfl ?_
    refine r_getR (pc2 := 89) dX7_announce_86 fl_X7_18 (by decide) rfl rfl rfl ?_
    refine r_bipush (pc2 := 91) (nI 6) dX7_announce_89 (by decide) rfl ?_
    refine r_ialde (pc2 := 92) (x := ((V 0 19 6))) (j := _) (by rw [sp_ne hg0]) dX7_announce_91 (by decide) rfl rfl (rfl) (by show _ < 10; omega) rfl ?_
    refine r_istore (pc2 := 94) dX7_announce_92 (by decide) rfl rfl ?_
    refine r_iload (pc2 := 96) dX7_announce_94 rfl rfl ?_
    refine r_ifB_eq (pc2 := 99) (tgt := 162) dX7_announce_96 (by decide) rfl (fun c96 => ?_) (fun c96 => ?_)
    · skip
      refine r_aload_n (pc2 := 163) dX7_announce_162 rfl rfl ?_
      refine r_getR (pc2 := 166) dX7_announce_163 fl_X7_140 (by decide) rfl rfl rfl ?_
      refine r_iload_n (pc2 := 167) dX7_announce_166 rfl rfl ?_
      refine r_iload (pc2 := 169) dX7_announce_167 rfl rfl ?_
      refine r_iload_n (pc2 := 170) dX7_announce_169 rfl rfl ?_
      refine r_cs3p (pc2 := 173) dX7_announce_170 st_X7_announce_136 (Nat.le_of_ble_eq_true rfl) rfl (c_X7_slot) ?_
      refine r_iload (pc2 := 175) dX7_announce_173 rfl rfl ?_
      refine r_iload (pc2 := 177) dX7_announce_175 rfl rfl ?_
      refine r_aload_n (pc2 := 178) dX7_announce_177 rfl rfl ?_
      refine r_getIe (pc2 := 181) (x := ((V g 0 1))) (by rw [sp_same]; rfl) dX7_announce_178 fl_X7_125 (by decide) rfl rfl rfl ?_
      refine r_aload_n (pc2 := 182) dX7_announce_181 rfl rfl ?_
      refine r_getR (pc2 := 185) dX7_announce_182 fl_X7_18 (by decide) rfl rfl rfl ?_
      refine r_cv5m (pc2 := 188) dX7_announce_185 st_X7_announce_279 rl_X4_receive (Nat.le_of_ble_eq_true rfl) rfl (c_X4_receive hg0 (by omega)) ?_
      exact r_vret dX7_announce_188 rfl (by rw [sp_same, sp_ne hg0, sp_twice]; refine congrArg (fun z => s_put V g z) (Eq.symm ?_); first | exact nn_1 (fun h => c30 h.1) ⟨of_decide_eq_true c96, fun h => c30 h.1⟩ | exact nn_0 (fun h => c30 h.1) (fun h => of_decide_eq_false c96 h.1))
    · skip
      refine r_iload_n (pc2 := 100) dX7_announce_99 rfl rfl ?_
      refine r_iload_n (pc2 := 101) dX7_announce_100 rfl rfl ?_
      refine r_cs2p (pc2 := 104) dX7_announce_101 st_X7_announce_88 (Nat.le_of_ble_eq_true rfl) rfl (c_X7_pair) ?_
      refine r_istore (pc2 := 106) dX7_announce_104 (by decide) rfl rfl ?_
      refine r_iload (pc2 := 108) dX7_announce_106 rfl rfl ?_
      refine r_aload_n (pc2 := 109) dX7_announce_108 rfl rfl ?_
      refine r_getR (pc2 := 112) dX7_announce_109 fl_X7_37 (by decide) rfl rfl rfl ?_
      refine r_getR (pc2 := 115) dX7_announce_112 fl_X7_181 (by decide) rfl rfl rfl ?_
      refine r_iload (pc2 := 117) dX7_announce_115 rfl rfl ?_
      refine r_ialde (pc2 := 118) (x := ((V 0 21 (a * 8 + t)))) (j := _) (by rw [sp_ne hg0]) dX7_announce_117 (by decide) rfl rfl (rfl) (by show _ < 64; omega) rfl ?_
      refine r_aload_n (pc2 := 119) dX7_announce_118 rfl rfl ?_
      refine r_getR (pc2 := 122) dX7_announce_119 fl_X7_68 (by decide) rfl rfl rfl ?_
      refine r_getR (pc2 := 125) dX7_announce_122 fl_X7_92 (by decide) rfl rfl rfl ?_
      refine r_iload (pc2 := 127) dX7_announce_125 rfl rfl ?_
      refine r_ialde (pc2 := 128) (x := ((V g 2 (b * 8 + a)))) (j := _) (by rw [sp_same]; rfl) dX7_announce_127 (by decide) rfl rfl (rfl) (by show _ < 64; omega) rfl ?_
      refine r_iadd (pc2 := 129) dX7_announce_128 rfl ?_
      refine r_mn (pc2 := 132) dX7_announce_129 st_X7_announce_274 (Nat.le_of_ble_eq_true rfl) rfl ?_
      refine r_istore (pc2 := 134) dX7_announce_132 (by decide) rfl rfl ?_
      refine r_iload (pc2 := 136) dX7_announce_134 rfl rfl ?_
      refine r_aload_n (pc2 := 137) dX7_announce_136 rfl rfl ?_
      refine r_getR (pc2 := 140) dX7_announce_137 fl_X7_37 (by decide) rfl rfl rfl ?_
      refine r_getR (pc2 := 143) dX7_announce_140 fl_X7_182 (by decide) rfl rfl rfl ?_
      refine r_iload (pc2 := 145) dX7_announce_143 rfl rfl ?_
      refine r_ialde (pc2 := 146) (x := ((V 0 22 (a * 8 + t)))) (j := _) (by rw [sp_ne hg0]) dX7_announce_145 (by decide) rfl rfl (rfl) (by show _ < 64; omega) rfl ?_
      refine r_aload_n (pc2 := 147) dX7_announce_146 rfl rfl ?_
      refine r_getR (pc2 := 150) dX7_announce_147 fl_X7_68 (by decide) rfl rfl rfl ?_
      refine r_getR (pc2 := 153) dX7_announce_150 fl_X7_95 (by decide) rfl rfl rfl ?_
      refine r_iload (pc2 := 155) dX7_announce_153 rfl rfl ?_
      refine r_ialde (pc2 := 156) (x := ((V g 3 (b * 8 + a)))) (j := _) (by rw [sp_same]; rfl) dX7_announce_155 (by decide) rfl rfl (rfl) (by show _ < 64; omega) rfl ?_
      refine r_iadd (pc2 := 157) dX7_announce_156 rfl ?_
      refine r_mn (pc2 := 160) dX7_announce_157 st_X7_announce_274 (Nat.le_of_ble_eq_true rfl) rfl ?_
      refine r_istore (pc2 := 162) dX7_announce_160 (by decide) rfl rfl ?_
      refine r_aload_n (pc2 := 163) dX7_announce_162 rfl rfl ?_
      refine r_getR (pc2 := 166) dX7_announce_163 fl_X7_140 (by decide) rfl rfl rfl ?_
      refine r_iload_n (pc2 := 167) dX7_announce_166 rfl rfl ?_
      refine r_iload (pc2 := 169) dX7_announce_167 rfl rfl ?_
      refine r_iload_n (pc2 := 170) dX7_announce_169 rfl rfl ?_
      refine r_cs3p (pc2 := 173) dX7_announce_170 st_X7_announce_136 (Nat.le_of_ble_eq_true rfl) rfl (c_X7_slot) ?_
      refine r_iload (pc2 := 175) dX7_announce_173 rfl rfl ?_
      refine r_iload (pc2 := 177) dX7_announce_175 rfl rfl ?_
      refine r_aload_n (pc2 := 178) dX7_announce_177 rfl rfl ?_
      refine r_getIe (pc2 := 181) (x := ((V g 0 1))) (by rw [sp_same]; rfl) dX7_announce_178 fl_X7_125 (by decide) rfl rfl rfl ?_
      refine r_aload_n (pc2 := 182) dX7_announce_181 rfl rfl ?_
      refine r_getR (pc2 := 185) dX7_announce_182 fl_X7_18 (by decide) rfl rfl rfl ?_
      refine r_cv5m (pc2 := 188) dX7_announce_185 st_X7_announce_279 rl_X4_receive (Nat.le_of_ble_eq_true rfl) rfl (c_X4_receive hg0 (by omega)) ?_
      exact r_vret dX7_announce_188 rfl (by rw [sp_same, sp_ne hg0, sp_twice]; refine congrArg (fun z => s_put V g z) (Eq.symm ?_); first | exact nn_1 (fun h => c30 h.1) ⟨of_decide_eq_true c96, fun h => c30 h.1⟩ | exact nn_0 (fun h => c30 h.1) (fun h => of_decide_eq_false c96 h.1))
  · skip
    refine r_aload_n (pc2 := 34) dX7_announce_33 rfl rfl ?_
    refine r_getR (pc2 := 37) dX7_announce_34 fl_X7_18 (by decide) rfl rfl rfl ?_
    refine r_iconst (pc2 := 38) (nI 3) dX7_announce_37 (by decide) rfl ?_
    refine r_ialde (pc2 := 39) (x := ((V 0 19 3))) (j := _) (rfl) dX7_announce_38 (by decide) rfl rfl (rfl) (by show _ < 10; omega) rfl ?_
    refine r_iconst (pc2 := 40) (nI 1) dX7_announce_39 (by decide) rfl ?_
    refine r_ic_ne (pc2 := 43) (tgt := 44) dX7_announce_40 (by decide) rfl (fun c40 => ?_) (fun c40 => ?_)
    · skip
      refine r_iload (pc2 := 46) dX7_announce_44 rfl rfl ?_
      refine r_ifB_eq (pc2 := 49) (tgt := 63) dX7_announce_46 (by decide) rfl (fun c46 => ?_) (fun c46 => ?_)
      · skip
        refine r_iconst (pc2 := 64) (nI 0) dX7_announce_63 (by decide) rfl ?_
        refine r_istore (pc2 := 66) dX7_announce_64 (by decide) rfl rfl ?_
        refine r_aload_n (pc2 := 67) dX7_announce_66 rfl rfl ?_
        refine r_dup (pc2 := 68) dX7_announce_67 rfl ?_
        refine r_getIe (pc2 := 71) (x := ((V g 0 2))) (rfl) dX7_announce_68 fl_X7_133 (by decide) rfl rfl rfl ?_
        refine r_iconst (pc2 := 72) (nI 1) dX7_announce_71 (by decide) rfl ?_
        refine r_iadd (pc2 := 73) dX7_announce_72 rfl ?_
        refine r_put (pc2 := 76) dX7_announce_73 fl_X7_133 (by decide) rfl rfl ft_2_2 rfl rfl rfl ?_
        rw [ms_ss]
        refine r_aload_n (pc2 := 77) dX7_announce_76 rfl rfl ?_
        refine r_getR (pc2 := 80) dX7_announce_77 fl_X7_18 (by decide) rfl rfl rfl ?_
        refine r_bipush (pc2 := 82) (nI 6) dX7_announce_80 (by decide) rfl ?_
        refine r_ialde (pc2 := 83) (x := ((V 0 19 6))) (j := _) (by rw [sp_ne hg0]) dX7_announce_82 (by decide) rfl rfl (rfl) (by show _ < 10; omega) rfl ?_
        refine r_istore (pc2 := 85) dX7_announce_83 (by decide) rfl rfl ?_
        refine r_aload_n (pc2 := 86) dX7_announce_85 rfl rfl ?_
        refine r_getR (pc2 := 89) dX7_announce_86 fl_X7_18 (by decide) rfl rfl rfl ?_
        refine r_bipush (pc2 := 91) (nI 6) dX7_announce_89 (by decide) rfl ?_
        refine r_ialde (pc2 := 92) (x := ((V 0 19 6))) (j := _) (by rw [sp_ne hg0]) dX7_announce_91 (by decide) rfl rfl (rfl) (by show _ < 10; omega) rfl ?_
        refine r_istore (pc2 := 94) dX7_announce_92 (by decide) rfl rfl ?_
        refine r_iload (pc2 := 96) dX7_announce_94 rfl rfl ?_
        refine r_if0N_eq (pc2 := 99) (tgt := 162) (by omega) dX7_announce_96 (by decide) rfl (fun c96 => ?_) (fun c96 => ?_)
        · skip
          refine r_aload_n (pc2 := 163) dX7_announce_162 rfl rfl ?_
          refine r_getR (pc2 := 166) dX7_announce_163 fl_X7_140 (by decide) rfl rfl rfl ?_
          refine r_iload_n (pc2 := 167) dX7_announce_166 rfl rfl ?_
          refine r_iload (pc2 := 169) dX7_announce_167 rfl rfl ?_
          refine r_iload_n (pc2 := 170) dX7_announce_169 rfl rfl ?_
          refine r_cs3p (pc2 := 173) dX7_announce_170 st_X7_announce_136 (Nat.le_of_ble_eq_true rfl) rfl (c_X7_slot) ?_
          refine r_iload (pc2 := 175) dX7_announce_173 rfl rfl ?_
          refine r_iload (pc2 := 177) dX7_announce_175 rfl rfl ?_
          refine r_aload_n (pc2 := 178) dX7_announce_177 rfl rfl ?_
          refine r_getIe (pc2 := 181) (x := ((V g 0 1))) (by rw [sp_same]; rfl) dX7_announce_178 fl_X7_125 (by decide) rfl rfl rfl ?_
          refine r_aload_n (pc2 := 182) dX7_announce_181 rfl rfl ?_
          refine r_getR (pc2 := 185) dX7_announce_182 fl_X7_18 (by decide) rfl rfl rfl ?_
          refine r_cv5m (pc2 := 188) dX7_announce_185 st_X7_announce_279 rl_X4_receive (Nat.le_of_ble_eq_true rfl) rfl (c_X4_receive hg0 (by omega)) ?_
          exact r_vret dX7_announce_188 rfl (by rw [sp_same, sp_ne hg0, sp_twice]; refine congrArg (fun z => s_put V g z) (Eq.symm ?_); exact nn_0 (fun h => c40 h.2) (fun h => of_decide_eq_false c46 h.1))
        · skip
          exact absurd rfl c96
      · skip
        refine r_aload_n (pc2 := 50) dX7_announce_49 rfl rfl ?_
        refine r_getR (pc2 := 53) dX7_announce_50 fl_X7_18 (by decide) rfl rfl rfl ?_
        refine r_iconst (pc2 := 54) (nI 3) dX7_announce_53 (by decide) rfl ?_
        refine r_ialde (pc2 := 55) (x := ((V 0 19 3))) (j := _) (rfl) dX7_announce_54 (by decide) rfl rfl (rfl) (by show _ < 10; omega) rfl ?_
        refine r_iconst (pc2 := 56) (nI 2) dX7_announce_55 (by decide) rfl ?_
        refine r_ic_eq (pc2 := 59) (tgt := 63) dX7_announce_56 (by decide) rfl (fun c56 => ?_) (fun c56 => ?_)
        · skip
          refine r_iconst (pc2 := 64) (nI 0) dX7_announce_63 (by decide) rfl ?_
          refine r_istore (pc2 := 66) dX7_announce_64 (by decide) rfl rfl ?_
          refine r_aload_n (pc2 := 67) dX7_announce_66 rfl rfl ?_
          refine r_dup (pc2 := 68) dX7_announce_67 rfl ?_
          refine r_getIe (pc2 := 71) (x := ((V g 0 2))) (rfl) dX7_announce_68 fl_X7_133 (by decide) rfl rfl rfl ?_
          refine r_iconst (pc2 := 72) (nI 1) dX7_announce_71 (by decide) rfl ?_
          refine r_iadd (pc2 := 73) dX7_announce_72 rfl ?_
          refine r_put (pc2 := 76) dX7_announce_73 fl_X7_133 (by decide) rfl rfl ft_2_2 rfl rfl rfl ?_
          rw [ms_ss]
          refine r_aload_n (pc2 := 77) dX7_announce_76 rfl rfl ?_
          refine r_getR (pc2 := 80) dX7_announce_77 fl_X7_18 (by decide) rfl rfl rfl ?_
          refine r_bipush (pc2 := 82) (nI 6) dX7_announce_80 (by decide) rfl ?_
          refine r_ialde (pc2 := 83) (x := ((V 0 19 6))) (j := _) (by rw [sp_ne hg0]) dX7_announce_82 (by decide) rfl rfl (rfl) (by show _ < 10; omega) rfl ?_
          refine r_istore (pc2 := 85) dX7_announce_83 (by decide) rfl rfl ?_
          refine r_aload_n (pc2 := 86) dX7_announce_85 rfl rfl ?_
          refine r_getR (pc2 := 89) dX7_announce_86 fl_X7_18 (by decide) rfl rfl rfl ?_
          refine r_bipush (pc2 := 91) (nI 6) dX7_announce_89 (by decide) rfl ?_
          refine r_ialde (pc2 := 92) (x := ((V 0 19 6))) (j := _) (by rw [sp_ne hg0]) dX7_announce_91 (by decide) rfl rfl (rfl) (by show _ < 10; omega) rfl ?_
          refine r_istore (pc2 := 94) dX7_announce_92 (by decide) rfl rfl ?_
          refine r_iload (pc2 := 96) dX7_announce_94 rfl rfl ?_
          refine r_if0N_eq (pc2 := 99) (tgt := 162) (by omega) dX7_announce_96 (by decide) rfl (fun c96 => ?_) (fun c96 => ?_)
          · skip
            refine r_aload_n (pc2 := 163) dX7_announce_162 rfl rfl ?_
            refine r_getR (pc2 := 166) dX7_announce_163 fl_X7_140 (by decide) rfl rfl rfl ?_
            refine r_iload_n (pc2 := 167) dX7_announce_166 rfl rfl ?_
            refine r_iload (pc2 := 169) dX7_announce_167 rfl rfl ?_
            refine r_iload_n (pc2 := 170) dX7_announce_169 rfl rfl ?_
            refine r_cs3p (pc2 := 173) dX7_announce_170 st_X7_announce_136 (Nat.le_of_ble_eq_true rfl) rfl (c_X7_slot) ?_
            refine r_iload (pc2 := 175) dX7_announce_173 rfl rfl ?_
            refine r_iload (pc2 := 177) dX7_announce_175 rfl rfl ?_
            refine r_aload_n (pc2 := 178) dX7_announce_177 rfl rfl ?_
            refine r_getIe (pc2 := 181) (x := ((V g 0 1))) (by rw [sp_same]; rfl) dX7_announce_178 fl_X7_125 (by decide) rfl rfl rfl ?_
            refine r_aload_n (pc2 := 182) dX7_announce_181 rfl rfl ?_
            refine r_getR (pc2 := 185) dX7_announce_182 fl_X7_18 (by decide) rfl rfl rfl ?_
            refine r_cv5m (pc2 := 188) dX7_announce_185 st_X7_announce_279 rl_X4_receive (Nat.le_of_ble_eq_true rfl) rfl (c_X4_receive hg0 (by omega)) ?_
            exact r_vret dX7_announce_188 rfl (by rw [sp_same, sp_ne hg0, sp_twice]; refine congrArg (fun z => s_put V g z) (Eq.symm ?_); first | exact nn_1 (fun h => c40 h.2) ⟨of_decide_eq_true c46, fun h => c56 h.2⟩ | exact nn_0 (fun h => c40 h.2) (fun h => h.2 ⟨c30, c56⟩))
          · skip
            exact absurd rfl c96
        · skip
          refine r_iconst (pc2 := 60) (nI 1) dX7_announce_59 (by decide) rfl ?_
          refine r_goto (pc2 := 64) dX7_announce_60 (by decide) ?_
          refine r_istore (pc2 := 66) dX7_announce_64 (by decide) rfl rfl ?_
          refine r_aload_n (pc2 := 67) dX7_announce_66 rfl rfl ?_
          refine r_dup (pc2 := 68) dX7_announce_67 rfl ?_
          refine r_getIe (pc2 := 71) (x := ((V g 0 2))) (rfl) dX7_announce_68 fl_X7_133 (by decide) rfl rfl rfl ?_
          refine r_iconst (pc2 := 72) (nI 1) dX7_announce_71 (by decide) rfl ?_
          refine r_iadd (pc2 := 73) dX7_announce_72 rfl ?_
          refine r_put (pc2 := 76) dX7_announce_73 fl_X7_133 (by decide) rfl rfl ft_2_2 rfl rfl rfl ?_
          rw [ms_ss]
          refine r_aload_n (pc2 := 77) dX7_announce_76 rfl rfl ?_
          refine r_getR (pc2 := 80) dX7_announce_77 fl_X7_18 (by decide) rfl rfl rfl ?_
          refine r_bipush (pc2 := 82) (nI 6) dX7_announce_80 (by decide) rfl ?_
          refine r_ialde (pc2 := 83) (x := ((V 0 19 6))) (j := _) (by rw [sp_ne hg0]) dX7_announce_82 (by decide) rfl rfl (rfl) (by show _ < 10; omega) rfl ?_
          refine r_istore (pc2 := 85) dX7_announce_83 (by decide) rfl rfl ?_
          refine r_aload_n (pc2 := 86) dX7_announce_85 rfl rfl ?_
          refine r_getR (pc2 := 89) dX7_announce_86 fl_X7_18 (by decide) rfl rfl rfl ?_
          refine r_bipush (pc2 := 91) (nI 6) dX7_announce_89 (by decide) rfl ?_
          refine r_ialde (pc2 := 92) (x := ((V 0 19 6))) (j := _) (by rw [sp_ne hg0]) dX7_announce_91 (by decide) rfl rfl (rfl) (by show _ < 10; omega) rfl ?_
          refine r_istore (pc2 := 94) dX7_announce_92 (by decide) rfl rfl ?_
          refine r_iload (pc2 := 96) dX7_announce_94 rfl rfl ?_
          refine r_if0N_eq (pc2 := 99) (tgt := 162) (by omega) dX7_announce_96 (by decide) rfl (fun c96 => ?_) (fun c96 => ?_)
          · skip
            exact absurd c96 (by decide)
          · skip
            refine r_iload_n (pc2 := 100) dX7_announce_99 rfl rfl ?_
            refine r_iload_n (pc2 := 101) dX7_announce_100 rfl rfl ?_
            refine r_cs2p (pc2 := 104) dX7_announce_101 st_X7_announce_88 (Nat.le_of_ble_eq_true rfl) rfl (c_X7_pair) ?_
            refine r_istore (pc2 := 106) dX7_announce_104 (by decide) rfl rfl ?_
            refine r_iload (pc2 := 108) dX7_announce_106 rfl rfl ?_
            refine r_aload_n (pc2 := 109) dX7_announce_108 rfl rfl ?_
            refine r_getR (pc2 := 112) dX7_announce_109 fl_X7_37 (by decide) rfl rfl rfl ?_
            refine r_getR (pc2 := 115) dX7_announce_112 fl_X7_181 (by decide) rfl rfl rfl ?_
            refine r_iload (pc2 := 117) dX7_announce_115 rfl rfl ?_
            refine r_ialde (pc2 := 118) (x := ((V 0 21 (a * 8 + t)))) (j := _) (by rw [sp_ne hg0]) dX7_announce_117 (by decide) rfl rfl (rfl) (by show _ < 64; omega) rfl ?_
            refine r_aload_n (pc2 := 119) dX7_announce_118 rfl rfl ?_
            refine r_getR (pc2 := 122) dX7_announce_119 fl_X7_68 (by decide) rfl rfl rfl ?_
            refine r_getR (pc2 := 125) dX7_announce_122 fl_X7_92 (by decide) rfl rfl rfl ?_
            refine r_iload (pc2 := 127) dX7_announce_125 rfl rfl ?_
            refine r_ialde (pc2 := 128) (x := ((V g 2 (b * 8 + a)))) (j := _) (by rw [sp_same]; rfl) dX7_announce_127 (by decide) rfl rfl (rfl) (by show _ < 64; omega) rfl ?_
            refine r_iadd (pc2 := 129) dX7_announce_128 rfl ?_
            refine r_mn (pc2 := 132) dX7_announce_129 st_X7_announce_274 (Nat.le_of_ble_eq_true rfl) rfl ?_
            refine r_istore (pc2 := 134) dX7_announce_132 (by decide) rfl rfl ?_
            refine r_iload (pc2 := 136) dX7_announce_134 rfl rfl ?_
            refine r_aload_n (pc2 := 137) dX7_announce_136 rfl rfl ?_
            refine r_getR (pc2 := 140) dX7_announce_137 fl_X7_37 (by decide) rfl rfl rfl ?_
            refine r_getR (pc2 := 143) dX7_announce_140 fl_X7_182 (by decide) rfl rfl rfl ?_
            refine r_iload (pc2 := 145) dX7_announce_143 rfl rfl ?_
            refine r_ialde (pc2 := 146) (x := ((V 0 22 (a * 8 + t)))) (j := _) (by rw [sp_ne hg0]) dX7_announce_145 (by decide) rfl rfl (rfl) (by show _ < 64; omega) rfl ?_
            refine r_aload_n (pc2 := 147) dX7_announce_146 rfl rfl ?_
            refine r_getR (pc2 := 150) dX7_announce_147 fl_X7_68 (by decide) rfl rfl rfl ?_
            refine r_getR (pc2 := 153) dX7_announce_150 fl_X7_95 (by decide) rfl rfl rfl ?_
            refine r_iload (pc2 := 155) dX7_announce_153 rfl rfl ?_
            refine r_ialde (pc2 := 156) (x := ((V g 3 (b * 8 + a)))) (j := _) (by rw [sp_same]; rfl) dX7_announce_155 (by decide) rfl rfl (rfl) (by show _ < 64; omega) rfl ?_
            refine r_iadd (pc2 := 157) dX7_announce_156 rfl ?_
            refine r_mn (pc2 := 160) dX7_announce_157 st_X7_announce_274 (Nat.le_of_ble_eq_true rfl) rfl ?_
            refine r_istore (pc2 := 162) dX7_announce_160 (by decide) rfl rfl ?_
            refine r_aload_n (pc2 := 163) dX7_announce_162 rfl rfl ?_
            refine r_getR (pc2 := 166) dX7_announce_163 fl_X7_140 (by decide) rfl rfl rfl ?_
            refine r_iload_n (pc2 := 167) dX7_announce_166 rfl rfl ?_
            refine r_iload (pc2 := 169) dX7_announce_167 rfl rfl ?_
            refine r_iload_n (pc2 := 170) dX7_announce_169 rfl rfl ?_
            refine r_cs3p (pc2 := 173) dX7_announce_170 st_X7_announce_136 (Nat.le_of_ble_eq_true rfl) rfl (c_X7_slot) ?_
            refine r_iload (pc2 := 175) dX7_announce_173 rfl rfl ?_
            refine r_iload (pc2 := 177) dX7_announce_175 rfl rfl ?_
            refine r_aload_n (pc2 := 178) dX7_announce_177 rfl rfl ?_
            refine r_getIe (pc2 := 181) (x := ((V g 0 1))) (by rw [sp_same]; rfl) dX7_announce_178 fl_X7_125 (by decide) rfl rfl rfl ?_
            refine r_aload_n (pc2 := 182) dX7_announce_181 rfl rfl ?_
            refine r_getR (pc2 := 185) dX7_announce_182 fl_X7_18 (by decide) rfl rfl rfl ?_
            refine r_cv5m (pc2 := 188) dX7_announce_185 st_X7_announce_279 rl_X4_receive (Nat.le_of_ble_eq_true rfl) rfl (c_X4_receive hg0 (by omega)) ?_
            exact r_vret dX7_announce_188 rfl (by rw [sp_same, sp_ne hg0, sp_twice]; refine congrArg (fun z => s_put V g z) (Eq.symm ?_); first | exact nn_1 (fun h => c40 h.2) ⟨of_decide_eq_true c46, fun h => c56 h.2⟩ | exact nn_0 (fun h => c40 h.2) (fun h => h.2 ⟨c30, c56⟩))
    · skip
      exact r_vret dX7_announce_43 rfl (by rw [nn_x (by assumption) (by assumption), sp_id])

theorem rc_low {f : Nat → Int32} {s : Sg_} {k r i : Nat} {lo up t : Int32} (h : r < 7 ∨ 11 < r) : rc_ f s k lo up t r i = s r i := by
  unfold rc_
  split
  · rw [if_neg (by omega), if_neg (by omega), if_neg (by omega), if_neg (by omega), if_neg (by omega)]
  · rfl
/-- telling changes entries and the counter alone -/
theorem nn_low {f DL DU CH : Nat → Int32} {a b t r i : Nat} {s : Sg_} (h : r < 7 ∨ 11 < r) (h2 : ¬ (r = 0 ∧ i = 2)) : nn_ f DL DU CH a b t s r i = s r i := by
  unfold nn_
  split
  · rfl
  · rw [rc_low h]; unfold ss_; rw [if_neg h2]
theorem it_low {F : Nat → Sg_ → Sg_} {r i : Nat} (h : ∀ k s, F k s r i = s r i) : ∀ (n : Nat) (s : Sg_), it_ F n s r i = s r i
  | 0, _ => rfl
  | n + 1, s => (h n _).trans (it_low h n s)
theorem tb_low {f DL DU CH : Nat → Int32} {a b t r i : Nat} {s : Sg_} (h : r < 7 ∨ 11 < r) (h2 : ¬ (r = 0 ∧ i = 2)) : (if t = b then s else nn_ f DL DU CH a b t s) r i = s r i := by
  split
  · rfl
  · exact nn_low h h2
theorem sk_low {f DL DU CH : Nat → Int32} {n a r i : Nat} {s : Sg_} (h : r < 7 ∨ 11 < r) (h2 : ¬ (r = 0 ∧ i = 2)) : ∀ m, it_ (fun b s => if s 5 (a * 8 + b) = nI 1 then it_ (fun t s => if t = b then s else nn_ f DL DU CH a b t s) n s else s) m s r i = s r i := by
  intro m
  refine it_low (fun k s => ?_) m s
  split
  · refine it_low (fun t s => ?_) n s
    split
    · rfl
    · exact nn_low h h2
  · rfl
set_option maxRecDepth 100000 in
set_option maxHeartbeats 4000000 in
theorem c_X7_speak {PL : List (Nat × Nat)} {g a n : Nat} {V : Mm_} (hg0 : ¬ 0 = g) (hn : V g 0 0 = nI n) (hn8 : n ≤ 8) (ha : a < n) : Cm_ PL mX7_speak [vR 0 18, vR g 0, vI (nI a)] V (s_put V g (sk_ (V 0 19) (V 0 21) (V 0 22) (V 0 23) n a (V g))) := by
  refine Ca_.of mv_X7_speak.2.2.2.2.2.2 2 (lo := [some (vR 0 18), some (vR g 0), some (vI (nI a)), none, none]) rfl (Nat.le_of_ble_eq_true rfl) ?_
  refine r_iconst (pc2 := 1) (nI 0) dX7_speak_0 (by decide) rfl ?_
  refine r_istore_n (pc2 := 2) dX7_speak_1 (by decide) rfl rfl ?_
  refine Rc_.to (V' := (fun V1 => V1) (V)) (lo' := (fun (b : Nat) (V1 : Mm_) => [some (vR 0 18), some (vR g 0), some (vI (nI a)), some (vI (nI b)), none]) 0 (V)) (rfl) ⟨rfl, rfl, rfl, rfl, trivial⟩ ?_
  refine Rc_forI 0 (n) (fun (b : Nat) (V1 : Mm_) => [some (vR 0 18), some (vR g 0), some (vI (nI a)), some (vI (nI b)), none]) (fun V1 => V1) (fun i V1 => V1 = s_put V g (it_ (fun b s => if s 5 (a * 8 + b) = nI 1 then it_ (fun t s => if t = b then s else nn_ (V 0 19) (V 0 21) (V 0 22) (V 0 23) a b t s) n s else s) i (V g))) (by omega) (fun b V1 hb0 hbN hI ih2 => ?_) (V) (sp_id.symm)
  obtain ⟨S1, hS1⟩ : ∃ S1, S1 = it_ (fun b s => if s 5 (a * 8 + b) = nI 1 then it_ (fun t s => if t = b then s else nn_ (V 0 19) (V 0 21) (V 0 22) (V 0 23) a b t s) n s else s) b (V g) := ⟨_, rfl⟩
  have hVn : V1 g 0 0 = nI n := by rw [hI, sp_same, sk_low (by omega) (by omega)]; exact hn
  rw [← hS1] at hI
  refine r_iload_n (pc2 := 3) dX7_speak_2 rfl rfl ?_
  refine r_aload_n (pc2 := 4) dX7_speak_3 rfl rfl ?_
  refine r_getIe (pc2 := 7) (x := (nI n)) (hVn) dX7_speak_4 fl_X7_60 (by decide) rfl rfl rfl ?_
  refine r_icN_ge (pc2 := 10) (tgt := 64) (by omega) (by omega) dX7_speak_7 (by decide) rfl (fun c7 => ?_) (fun c7 => ?_)
  · skip
    exact r_vret dX7_speak_64 rfl (by (have e : b = n := by omega); subst e; rw [hI, hS1]; rfl)
  · skip
    refine r_aload_n (pc2 := 11) dX7_speak_10 rfl rfl ?_
    refine r_getR (pc2 := 14) dX7_speak_11 fl_X7_68 (by decide) rfl rfl rfl ?_
    refine r_iload_n (pc2 := 15) dX7_speak_14 rfl rfl ?_
    refine r_iload_n (pc2 := 16) dX7_speak_15 rfl rfl ?_
    refine r_cv2p (pc2 := 19) dX7_speak_16 st_X7_speak_237 rl_X1_isUp (Nat.le_of_ble_eq_true rfl) rfl (c_X1_isUp (by omega) (by omega)) ?_
    refine r_ifB_ne (pc2 := 22) (tgt := 25) dX7_speak_19 (by decide) rfl (fun c19 => ?_) (fun c19 => ?_)
    · skip
      have c19 : S1 5 (a * 8 + b) = nI 1 := by rw [hI, sp_same] at c19; exact of_decide_eq_true c19
      refine r_iconst (pc2 := 26) (nI 0) dX7_speak_25 (by decide) rfl ?_
      refine r_istore (pc2 := 28) dX7_speak_26 (by decide) rfl rfl ?_
      refine Rc_.to (V' := (fun V2 => V2) (V1)) (lo' := (fun (t : Nat) (V2 : Mm_) => [some (vR 0 18), some (vR g 0), some (vI (nI a)), some (vI (nI b)), some (vI (nI t))]) 0 (V1)) (rfl) ⟨rfl, rfl, rfl, rfl, rfl, trivial⟩ ?_
      refine Rc_forI 0 (n) (fun (t : Nat) (V2 : Mm_) => [some (vR 0 18), some (vR g 0), some (vI (nI a)), some (vI (nI b)), some (vI (nI t))]) (fun V2 => V2) (fun t V2 => V2 = s_put V g (it_ (fun t s => if t = b then s else nn_ (V 0 19) (V 0 21) (V 0 22) (V 0 23) a b t s) t S1)) (by omega) (fun t V2 ht0 htN hJ ih28 => ?_) (V1) (hI)
      have hVn2 : V2 g 0 0 = nI n := by
        rw [hJ, sp_same, it_low (fun t s => tb_low (by omega) (by omega)), ← hVn, hI, sp_same]
      refine r_iload (pc2 := 30) dX7_speak_28 rfl rfl ?_
      refine r_aload_n (pc2 := 31) dX7_speak_30 rfl rfl ?_
      refine r_getIe (pc2 := 34) (x := (nI n)) (hVn2) dX7_speak_31 fl_X7_60 (by decide) rfl rfl rfl ?_
      refine r_icN_ge (pc2 := 37) (tgt := 58) (by omega) (by omega) dX7_speak_34 (by decide) rfl (fun c34 => ?_) (fun c34 => ?_)
      · skip
        refine r_iincN (pc2 := 61) dX7_speak_58 rfl (by decide) rfl rfl ?_
        refine r_goto (pc2 := 2) dX7_speak_61 (by decide) ?_
        exact Rc_.to (lo' := [some (vR 0 18), some (vR g 0), some (vI (nI a)), some (vI (nI ((b + 1)))), none]) (rfl) ⟨rfl, rfl, rfl, rfl, trivial⟩ (ih2 _ (by omega) (by first | exact (by rw [hI]; show _ = s_put V g (if it_ (fun b s => if s 5 (a * 8 + b) = nI 1 then it_ (fun t s => if t = b then s else nn_ (V 0 19) (V 0 21) (V 0 22) (V 0 23) a b t s) n s else s) b (V g) 5 (a * 8 + b) = nI 1 then _ else it_ (fun b s => if s 5 (a * 8 + b) = nI 1 then it_ (fun t s => if t = b then s else nn_ (V 0 19) (V 0 21) (V 0 22) (V 0 23) a b t s) n s else s) b (V g)); rw [← hS1, if_neg c19]) | exact (by (have e : n = t := by omega); subst e; rw [hJ]; show _ = s_put V g (if it_ (fun b s => if s 5 (a * 8 + b) = nI 1 then it_ (fun t s => if t = b then s else nn_ (V 0 19) (V 0 21) (V 0 22) (V 0 23) a b t s) n s else s) b (V g) 5 (a * 8 + b) = nI 1 then _ else it_ (fun b s => if s 5 (a * 8 + b) = nI 1 then it_ (fun t s => if t = b then s else nn_ (V 0 19) (V 0 21) (V 0 22) (V 0 23) a b t s) n s else s) b (V g)); rw [← hS1, if_pos c19])))
      · skip
        refine r_iload (pc2 := 39) dX7_speak_37 rfl rfl ?_
        refine r_iload_n (pc2 := 40) dX7_speak_39 rfl rfl ?_
        refine r_icN_eq (pc2 := 43) (tgt := 52) (by omega) (by omega) dX7_speak_40 (by decide) rfl (fun c40 => ?_) (fun c40 => ?_)
        · skip
          refine r_iincN (pc2 := 55) dX7_speak_52 rfl (by decide) rfl rfl ?_
          refine r_goto (pc2 := 28) dX7_speak_55 (by decide) ?_
          exact Rc_.to (lo' := [some (vR 0 18), some (vR g 0), some (vI (nI a)), some (vI (nI b)), some (vI (nI ((t + 1))))]) (rfl) ⟨rfl, rfl, rfl, rfl, rfl, trivial⟩ (ih28 _ (by omega) (by first | exact (by rw [hJ]; show _ = s_put V g (if t = b then _ else _); rw [if_pos c40]) | exact (by rw [hJ, sp_same, sp_ne hg0, sp_twice]; show _ = s_put V g (if t = b then _ else _); rw [if_neg c40])))
        · skip
          refine r_aload_n (pc2 := 44) dX7_speak_43 rfl rfl ?_
          refine r_aload_n (pc2 := 45) dX7_speak_44 rfl rfl ?_
          refine r_iload_n (pc2 := 46) dX7_speak_45 rfl rfl ?_
          refine r_iload_n (pc2 := 47) dX7_speak_46 rfl rfl ?_
          refine r_iload (pc2 := 49) dX7_speak_47 rfl rfl ?_
          refine r_cv4m (pc2 := 52) dX7_speak_49 st_X7_speak_270 rl_X7_announce (Nat.le_of_ble_eq_true rfl) rfl (c_X7_announce hg0 (by omega) (by omega) (by omega)) ?_
          refine r_iincN (pc2 := 55) dX7_speak_52 rfl (by decide) rfl rfl ?_
          refine r_goto (pc2 := 28) dX7_speak_55 (by decide) ?_
          exact Rc_.to (lo' := [some (vR 0 18), some (vR g 0), some (vI (nI a)), some (vI (nI b)), some (vI (nI ((t + 1))))]) (rfl) ⟨rfl, rfl, rfl, rfl, rfl, trivial⟩ (ih28 _ (by omega) (by first | exact (by rw [hJ]; show _ = s_put V g (if t = b then _ else _); rw [if_pos c40]) | exact (by rw [hJ, sp_same, sp_ne hg0, sp_twice]; show _ = s_put V g (if t = b then _ else _); rw [if_neg c40])))
    · skip
      have c19 : ¬ S1 5 (a * 8 + b) = nI 1 := by rw [hI, sp_same] at c19; exact of_decide_eq_false c19
      refine r_goto (pc2 := 58) dX7_speak_22 (by decide) ?_
      refine r_iincN (pc2 := 61) dX7_speak_58 rfl (by decide) rfl rfl ?_
      refine r_goto (pc2 := 2) dX7_speak_61 (by decide) ?_
      exact Rc_.to (lo' := [some (vR 0 18), some (vR g 0), some (vI (nI a)), some (vI (nI ((b + 1)))), none]) (rfl) ⟨rfl, rfl, rfl, rfl, trivial⟩ (ih2 _ (by omega) (by first | exact (by rw [hI]; show _ = s_put V g (if it_ (fun b s => if s 5 (a * 8 + b) = nI 1 then it_ (fun t s => if t = b then s else nn_ (V 0 19) (V 0 21) (V 0 22) (V 0 23) a b t s) n s else s) b (V g) 5 (a * 8 + b) = nI 1 then _ else it_ (fun b s => if s 5 (a * 8 + b) = nI 1 then it_ (fun t s => if t = b then s else nn_ (V 0 19) (V 0 21) (V 0 22) (V 0 23) a b t s) n s else s) b (V g)); rw [← hS1, if_neg c19]) | exact (by (have e : n = t := by omega); subst e; rw [hJ]; show _ = s_put V g (if it_ (fun b s => if s 5 (a * 8 + b) = nI 1 then it_ (fun t s => if t = b then s else nn_ (V 0 19) (V 0 21) (V 0 22) (V 0 23) a b t s) n s else s) b (V g) 5 (a * 8 + b) = nI 1 then _ else it_ (fun b s => if s 5 (a * 8 + b) = nI 1 then it_ (fun t s => if t = b then s else nn_ (V 0 19) (V 0 21) (V 0 22) (V 0 23) a b t s) n s else s) b (V g)); rw [← hS1, if_pos c19])))
