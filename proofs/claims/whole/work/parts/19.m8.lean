/-! class: a whole tick: written by wip/whole/m8.py -/
/-- two arrays agree on the pairs of the first n nodes -/
def ag_ (n : Nat) (F F' : Nat → Int32) : Prop := ∀ a b, a < n → b < n → F (a * 8 + b) = F' (a * 8 + b)
theorem it_cong {α : Type} {F G : Nat → α → α} : ∀ {n : Nat} (x : α), (∀ k y, k < n → F k y = G k y) → it_ F n x = it_ G n x
  | 0, _, _ => rfl
  | n + 1, x, h => by
    show F n (it_ F n x) = G n (it_ G n x)
    rw [it_cong (n := n) x (fun k y hk => h k y (by omega)), h n _ (by omega)]
theorem df_cong {s : Sg_} {dl du dl' du' : Nat → Int32} {a n : Nat} (h : ag_ n dl dl') (h2 : ag_ n du du') (ha : a < n) : df_ s dl du a n = df_ s dl' du' a n := by
  unfold df_
  exact an_cong (fun b hb => by rw [h a b ha hb, h2 a b ha hb])
theorem sp_cong {f : Nat → Int32} {s : Sg_} {dl du dl' du' : Nat → Int32} {a n : Nat} (h : ag_ n dl dl') (h2 : ag_ n du du') (ha : a < n) : sp_ f s dl du n a = sp_ f s dl' du' n a := by
  unfold sp_
  rw [df_cong h h2 ha]
theorem kp_cong {s : Sg_} {dl du dl' du' : Nat → Int32} {a n : Nat} (h : ag_ n dl dl') (h2 : ag_ n du du') (ha : a < n) : kp_ s dl du a n = kp_ s dl' du' a n := by
  funext r k
  unfold kp_
  by_cases hk : a * 8 ≤ k ∧ k < a * 8 + n
  · rw [if_pos hk, if_pos hk]
    have e1 := h a (k - a * 8) ha (by omega)
    have e2 := h2 a (k - a * 8) ha (by omega)
    rw [show a * 8 + (k - a * 8) = k by omega] at e1 e2
    rw [e1, e2]
  · rw [if_neg hk, if_neg hk]
theorem kq_cong {f : Nat → Int32} {s : Sg_} {dl du dl' du' : Nat → Int32} {i n : Nat} (h : ag_ n dl dl') (h2 : ag_ n du du') (hi : i ≤ n) : kq_ f dl du n i s = kq_ f dl' du' n i s := by
  unfold kq_
  exact it_cong s (fun a y ha => by rw [sp_cong h h2 (by omega), kp_cong h h2 (by omega)])
theorem nn_cong {f DL DU CH DL' DU' CH' : Nat → Int32} {a b t n : Nat} {s : Sg_} (h : ag_ n DL DL') (h2 : ag_ n DU DU') (h3 : ag_ n CH CH') (ha : a < n) (ht : t < n) : nn_ f DL DU CH a b t s = nn_ f DL' DU' CH' a b t s := by
  unfold nn_ re_
  rw [h a t ha ht, h2 a t ha ht, h3 a t ha ht]
theorem sk_cong {f DL DU CH DL' DU' CH' : Nat → Int32} {a n : Nat} {s : Sg_} (h : ag_ n DL DL') (h2 : ag_ n DU DU') (h3 : ag_ n CH CH') (ha : a < n) : sk_ f DL DU CH n a s = sk_ f DL' DU' CH' n a s := by
  unfold sk_
  refine it_cong s (fun b y hb => ?_)
  rw [it_cong y (fun t z ht => by rw [nn_cong h h2 h3 ha ht])]
theorem nt_cong {CH CH' : Nat → Int32} {m n : Nat} {p : Sg_ × Nat} (h : ag_ n CH CH') {i : Nat} (hi : i ≤ n) : nt_ CH m n i p = nt_ CH' m n i p := by
  unfold nt_
  refine it_cong p (fun a y ha => ?_)
  unfold nr_
  exact it_cong y (fun b z hb => by unfold n1_; rw [h a b (by omega) hb])
def t1_ (s : Sg_) : Sg_ := fun r i => if r = 0 ∧ i = 1 then s 0 1 + nI 1 else s r i
theorem ms_t1 {V : Mm_} {g : Nat} : m_set V g 0 1 (V g 0 1 + nI 1) = s_put V g (t1_ (V g)) := by
  have e := m_sp (V := V) (g := g) (r := 0) (k := 1) (S := V g) (x := V g 0 1 + nI 1)
  rw [sp_id] at e
  exact e
def Dl_ (s : Sg_) (inf : Int32) (n : Nat) : Nat → Int32 := fun k => dl_ s inf n (k / 8) (k % 8)
def Du_ (s : Sg_) (inf : Int32) (n : Nat) : Nat → Int32 := fun k => du_ s inf n (k / 8) (k % 8)
def Ch_ (rule : Int32) (s : Sg_) (inf : Int32) (n : Nat) : Nat → Int32 := fun k => ch_ rule s inf n (k / 8) (k % 8)
theorem tk_ag {V V' : Mm_} {s : Sg_} {rule inf : Int32} {n : Nat} (hn8 : n ≤ 8) (h : tk_ V V' s rule inf n) : ag_ n (V' 0 21) (Dl_ s inf n) ∧ ag_ n (V' 0 22) (Du_ s inf n) ∧ ag_ n (V' 0 23) (Ch_ rule s inf n) := by
  refine ⟨fun a b ha hb => ?_, fun a b ha hb => ?_, fun a b ha hb => ?_⟩
  · unfold Dl_; rw [(h.2 a b ha hb).1, show (a * 8 + b) / 8 = a by omega, show (a * 8 + b) % 8 = b by omega]
  · unfold Du_; rw [(h.2 a b ha hb).2.1, show (a * 8 + b) / 8 = a by omega, show (a * 8 + b) % 8 = b by omega]
  · unfold Ch_; rw [(h.2 a b ha hb).2.2, show (a * 8 + b) / 8 = a by omega, show (a * 8 + b) % 8 = b by omega]
/-- who sends in a tick over s1, by what the nodes know -/
def sq_ (f : Nat → Int32) (n : Nat) (s1 : Sg_) (a : Nat) : Bool := sp_ f (kq_ f (Dl_ s1 (f 6) n) (Du_ s1 (f 6) n) n a s1) (Dl_ s1 (f 6) n) (Du_ s1 (f 6) n) n a
def t2_ (f : Nat → Int32) (n : Nat) (s1 : Sg_) : Sg_ := kq_ f (Dl_ s1 (f 6) n) (Du_ s1 (f 6) n) n n s1
def t3i (f : Nat → Int32) (n : Nat) (s1 : Sg_) : Nat → Sg_ := fun i => it_ (fun a s => if sq_ f n s1 a = true then sk_ f (Dl_ s1 (f 6) n) (Du_ s1 (f 6) n) (Ch_ (f 2) s1 (f 6) n) n a s else s) i (t2_ f n s1)
/-- the state of a tick, before the changes are noted -/
def t3_ (f : Nat → Int32) (n : Nat) (s : Sg_) : Sg_ := t3i f n (t1_ s) n
/-- a tick: the state behind it, and how many choices have changed -/
def tq_ (f : Nat → Int32) (n m : Nat) (s : Sg_) : Sg_ × Nat := nt_ (Ch_ (f 2) (t3_ f n s) (f 6) n) m n n (t3_ f n s, 0)
theorem kq_low {f dl du : Nat → Int32} {n r i : Nat} {s : Sg_} (h : ¬ r = 13) (h2 : ¬ r = 14) : ∀ {j : Nat}, kq_ f dl du n j s r i = s r i
  | 0 => rfl
  | j + 1 => by
    show (if sp_ f (kq_ f dl du n j s) dl du n j = true then kp_ (kq_ f dl du n j s) dl du j n else kq_ f dl du n j s) r i = _
    have := kq_low (f := f) (dl := dl) (du := du) (n := n) (s := s) (i := i) h h2 (j := j)
    split
    · unfold kp_
      rw [if_neg h, if_neg h2]
      split <;> exact this
    · exact this
theorem t3i_low {f : Nat → Int32} {n r i j : Nat} {s1 : Sg_} (h : r < 7 ∨ 11 < r) (h2 : ¬ (r = 0 ∧ i = 2)) (h13 : ¬ r = 13) (h14 : ¬ r = 14) : t3i f n s1 j r i = s1 r i := by
  unfold t3i
  rw [it_low (fun a s => ?_)]
  · exact kq_low h13 h14
  · split
    · exact sk_low h h2 n
    · rfl

set_option maxRecDepth 100000 in
set_option maxHeartbeats 4000000 in
theorem c_X7_makeTick {PL : List (Nat × Nat)} {g n m : Nat} {V : Mm_} (hg0 : ¬ 0 = g) (hn : V g 0 0 = nI n) (hn8 : n ≤ 8) (hm : V g 15 1 = nI m) (hm9 : m < 2 ^ 29) : Ci_ PL mX7_makeTick [vR 0 18, vR g 0] V (fun x V' => x = nI (tq_ (V 0 19) n m (V g)).2 ∧ V' g = (tq_ (V 0 19) n m (V g)).1 ∧ (∀ g' r, ¬ g' = g → ¬ (g' = 0 ∧ 20 ≤ r ∧ r ≤ 32) → V' g' r = V g' r) ∧ ag_ n (V' 0 23) (Ch_ (V 0 19 2) (t3_ (V 0 19) n (V g)) (V 0 19 6) n)) := by
  refine Ca_.of mv_X7_makeTick.2.2.2.2.2.2 1 (lo := [some (vR 0 18), some (vR g 0), none]) rfl (Nat.le_of_ble_eq_true rfl) ?_
  refine r_aload_n (pc2 := 1) dX7_makeTick_0 rfl rfl ?_
  refine r_dup (pc2 := 2) dX7_makeTick_1 rfl ?_
  refine r_getI (pc2 := 5) dX7_makeTick_2 fl_X7_125 (by decide) rfl rfl rfl ?_
  refine r_iconst (pc2 := 6) (nI 1) dX7_makeTick_5 (by decide) rfl ?_
  refine r_iadd (pc2 := 7) dX7_makeTick_6 rfl ?_
  refine r_put (pc2 := 10) dX7_makeTick_7 fl_X7_125 (by decide) rfl rfl ft_2_1 rfl rfl rfl ?_
  rw [ms_t1]
  refine r_aload_n (pc2 := 11) dX7_makeTick_10 rfl rfl ?_
  refine r_getR (pc2 := 14) dX7_makeTick_11 fl_X7_37 (by decide) rfl rfl rfl ?_
  refine r_aload_n (pc2 := 15) dX7_makeTick_14 rfl rfl ?_
  refine r_aload_n (pc2 := 16) dX7_makeTick_15 rfl rfl ?_
  refine r_getR (pc2 := 19) dX7_makeTick_16 fl_X7_18 (by decide) rfl rfl rfl ?_
  refine r_cv2v (pc2 := 22) dX7_makeTick_19 st_X7_makeTick_189 rl_X3_take (Nat.le_of_ble_eq_true rfl) rfl (c_X3_take (n := n) (fun h => hg0 h.symm) (by rw [sp_same]; exact hn) hn8) (fun V19 h19 => ?_)
  rw [sp_same] at h19
  have h19f : V19 0 19 = V 0 19 := by rw [h19.1 0 19 (by omega), sp_ne hg0]
  have h19g : V19 g = t1_ (V g) := by funext r; rw [h19.1 g r (by omega), sp_same]
  rw [show s_put V g (t1_ (V g)) 0 19 = V 0 19 from by rw [sp_ne hg0]] at h19
  obtain ⟨a1, a2, a3⟩ := tk_ag hn8 h19
  refine r_aload_n (pc2 := 23) dX7_makeTick_22 rfl rfl ?_
  refine r_aload_n (pc2 := 24) dX7_makeTick_23 rfl rfl ?_
  refine r_cv1m (pc2 := 27) dX7_makeTick_24 st_X7_makeTick_242 rl_X7_chooseSpeakers (Nat.le_of_ble_eq_true rfl) rfl (c_X7_chooseSpeakers hg0 (by rw [h19g]; exact hn) hn8) ?_
  refine r_iconst (pc2 := 28) (nI 0) dX7_makeTick_27 (by decide) rfl ?_
  refine r_istore_n (pc2 := 29) dX7_makeTick_28 (by decide) rfl rfl ?_
  refine Rc_.to (V' := _) (lo' := [some (vR 0 18), some (vR g 0), some (vI (nI 0))]) (rfl) ⟨rfl, rfl, rfl, trivial⟩ ?_
  refine Rc_forI 0 (n) (fun (i : Nat) (V1 : Mm_) => [some (vR 0 18), some (vR g 0), some (vI (nI i))]) (fun V1 => V1) (fun i V1 => (∀ a, a < n → V1 0 32 a = b2 (sq_ (V 0 19) n (t1_ (V g)) a)) ∧ V1 g = t3i (V 0 19) n (t1_ (V g)) i ∧ (∀ r, ¬ r = 32 → V1 0 r = V19 0 r) ∧ (∀ g', ¬ g' = g → ¬ g' = 0 → V1 g' = V g')) (by omega) (fun i V1 hi0 hiN hJ ih29 => ?_) (_) (by
      refine ⟨fun a ha => ?_, ?_, fun r hr => ?_, fun g' h1 h2 => ?_⟩
      · rw [sp_ne hg0, a_same, fr_in ha, h19f, h19g]
        unfold sq_
        rw [sp_cong a1 a2 ha, kq_cong a1 a2 (Nat.le_of_lt ha)]
      · rw [sp_same, h19f, h19g, kq_cong a1 a2 (Nat.le_refl n)]
        rfl
      · rw [sp_ne hg0, a_ne (by omega)]
      · rw [sp_ne h1, ag_ne h2]
        funext r
        rw [h19.1 g' r (by omega), sp_ne h1])
  refine r_iload_n (pc2 := 30) dX7_makeTick_29 rfl rfl ?_
  refine r_aload_n (pc2 := 31) dX7_makeTick_30 rfl rfl ?_
  refine r_getIe (pc2 := 34) (x := (nI n)) (by rw [hJ.2.1, t3i_low (by omega) (by omega) (by omega) (by omega)]; exact hn) dX7_makeTick_31 fl_X7_60 (by decide) rfl rfl rfl ?_
  refine r_icN_ge (pc2 := 37) (tgt := 58) (by omega) (by omega) dX7_makeTick_34 (by decide) rfl (fun c34 => ?_) (fun c34 => ?_)
  · skip
    refine r_aload_n (pc2 := 59) dX7_makeTick_58 rfl rfl ?_
    refine r_getR (pc2 := 62) dX7_makeTick_59 fl_X7_37 (by decide) rfl rfl rfl ?_
    refine r_aload_n (pc2 := 63) dX7_makeTick_62 rfl rfl ?_
    refine r_aload_n (pc2 := 64) dX7_makeTick_63 rfl rfl ?_
    refine r_getR (pc2 := 67) dX7_makeTick_64 fl_X7_18 (by decide) rfl rfl rfl ?_
    refine r_cv2v (pc2 := 70) dX7_makeTick_67 st_X7_makeTick_189 rl_X3_take (Nat.le_of_ble_eq_true rfl) rfl (c_X3_take (n := n) (fun h => hg0 h.symm) (by rw [hJ.2.1, t3i_low (by omega) (by omega) (by omega) (by omega)]; exact hn) hn8) (fun V67 h67 => ?_)
    have e : i = n := by omega
    subst e
    rw [hJ.2.1, hJ.2.2.1 19 (by omega), h19f, show t3i (V 0 19) i (t1_ (V g)) i = t3_ (V 0 19) i (V g) from rfl] at h67
    have h67g : V67 g = t3_ (V 0 19) i (V g) := by funext r; rw [h67.1 g r (by omega), hJ.2.1]; rfl
    obtain ⟨b1, b2, b3⟩ := tk_ag hn8 h67
    refine r_aload_n (pc2 := 71) dX7_makeTick_70 rfl rfl ?_
    refine r_aload_n (pc2 := 72) dX7_makeTick_71 rfl rfl ?_
    refine r_cv1i (pc2 := 75) dX7_makeTick_72 st_X7_makeTick_249 rl_X7_noteChanges (Nat.le_of_ble_eq_true rfl) rfl (c_X7_noteChanges (n := i) (m := m) hg0 (by rw [h67g]; unfold t3_; rw [t3i_low (by omega) (by omega) (by omega) (by omega)]; exact hn) hn8 (by rw [h67g]; unfold t3_; rw [t3i_low (by omega) (by omega) (by omega) (by omega)]; exact hm) hm9) (fun x72 V72 h72 => ?_)
    exact r_iret dX7_makeTick_75 rfl (by
      obtain ⟨hx, hV⟩ := h72
      rw [h67g, nt_cong b3 (Nat.le_refl i)] at hx hV
      refine ⟨hx, by rw [hV, sp_same]; rfl, fun g' r h1 h2 => ?_, ?_⟩
      · rw [hV, sp_ne h1]
        by_cases hz : g' = 0
        · subst hz
          rw [h67.1 0 r (by omega), hJ.2.2.1 r (by omega), h19.1 0 r (by omega), sp_ne hg0]
        · rw [h67.1 g' r (by omega), hJ.2.2.2 g' h1 hz]
      · rw [hV, sp_ne hg0]
        exact b3)
  · skip
    refine r_aload_n (pc2 := 38) dX7_makeTick_37 rfl rfl ?_
    refine r_getR (pc2 := 41) dX7_makeTick_38 fl_X7_48 (by decide) rfl rfl rfl ?_
    refine r_iload_n (pc2 := 42) dX7_makeTick_41 rfl rfl ?_
    refine r_zald (pc2 := 43) (j := _) dX7_makeTick_42 (by decide) rfl rfl (rfl) (by show _ < 8; omega) rfl ?_
    refine r_if_eq (pc2 := 46) (tgt := 52) dX7_makeTick_43 (by decide) rfl (fun c43 => ?_) (fun c43 => ?_)
    · skip
      rw [hJ.1 i (by omega)] at c43
      have c43 : ¬ sq_ (V 0 19) n (t1_ (V g)) i = true := fun z => by rw [z] at c43; exact absurd c43 (by decide)
      refine r_iincN (pc2 := 55) dX7_makeTick_52 rfl (by decide) rfl rfl ?_
      refine r_goto (pc2 := 29) dX7_makeTick_55 (by decide) ?_
      exact Rc_.to (lo' := [some (vR 0 18), some (vR g 0), some (vI (nI ((i + 1))))]) (rfl) ⟨rfl, rfl, rfl, trivial⟩ (ih29 _ (by omega) (by
        have hs : t3i (V 0 19) n (t1_ (V g)) (i + 1) = if sq_ (V 0 19) n (t1_ (V g)) i = true then sk_ (V 0 19) (Dl_ (t1_ (V g)) (V 0 19 6) n) (Du_ (t1_ (V g)) (V 0 19 6) n) (Ch_ (V 0 19 2) (t1_ (V g)) (V 0 19 6) n) n i (t3i (V 0 19) n (t1_ (V g)) i) else t3i (V 0 19) n (t1_ (V g)) i := rfl
        first
          | exact ⟨hJ.1, by rw [hs, if_neg c43]; exact hJ.2.1, hJ.2.2.1, hJ.2.2.2⟩
          | exact ⟨fun a ha => by rw [sp_ne hg0]; exact hJ.1 a ha, by rw [sp_same, hs, if_pos c43, hJ.2.1, hJ.2.2.1 19 (by omega), hJ.2.2.1 21 (by omega), hJ.2.2.1 22 (by omega), hJ.2.2.1 23 (by omega), h19f, sk_cong a1 a2 a3 (by omega)], fun r hr => by rw [sp_ne hg0]; exact hJ.2.2.1 r hr, fun g' h1 h2 => by rw [sp_ne h1]; exact hJ.2.2.2 g' h1 h2⟩))
    · skip
      rw [hJ.1 i (by omega)] at c43
      have c43 : sq_ (V 0 19) n (t1_ (V g)) i = true := by
        cases z : sq_ (V 0 19) n (t1_ (V g)) i with
        | true => rfl
        | false => rw [z] at c43; exact absurd rfl c43
      refine r_aload_n (pc2 := 47) dX7_makeTick_46 rfl rfl ?_
      refine r_aload_n (pc2 := 48) dX7_makeTick_47 rfl rfl ?_
      refine r_iload_n (pc2 := 49) dX7_makeTick_48 rfl rfl ?_
      refine r_cv2m (pc2 := 52) dX7_makeTick_49 st_X7_makeTick_245 rl_X7_speak (Nat.le_of_ble_eq_true rfl) rfl (c_X7_speak (n := n) hg0 (by rw [hJ.2.1, t3i_low (by omega) (by omega) (by omega) (by omega)]; exact hn) hn8 (by omega)) ?_
      refine r_iincN (pc2 := 55) dX7_makeTick_52 rfl (by decide) rfl rfl ?_
      refine r_goto (pc2 := 29) dX7_makeTick_55 (by decide) ?_
      exact Rc_.to (lo' := [some (vR 0 18), some (vR g 0), some (vI (nI ((i + 1))))]) (rfl) ⟨rfl, rfl, rfl, trivial⟩ (ih29 _ (by omega) (by
        have hs : t3i (V 0 19) n (t1_ (V g)) (i + 1) = if sq_ (V 0 19) n (t1_ (V g)) i = true then sk_ (V 0 19) (Dl_ (t1_ (V g)) (V 0 19 6) n) (Du_ (t1_ (V g)) (V 0 19 6) n) (Ch_ (V 0 19 2) (t1_ (V g)) (V 0 19 6) n) n i (t3i (V 0 19) n (t1_ (V g)) i) else t3i (V 0 19) n (t1_ (V g)) i := rfl
        first
          | exact ⟨hJ.1, by rw [hs, if_neg c43]; exact hJ.2.1, hJ.2.2.1, hJ.2.2.2⟩
          | exact ⟨fun a ha => by rw [sp_ne hg0]; exact hJ.1 a ha, by rw [sp_same, hs, if_pos c43, hJ.2.1, hJ.2.2.1 19 (by omega), hJ.2.2.1 21 (by omega), hJ.2.2.1 22 (by omega), hJ.2.2.1 23 (by omega), h19f, sk_cong a1 a2 a3 (by omega)], fun r hr => by rw [sp_ne hg0]; exact hJ.2.2.1 r hr, fun g' h1 h2 => by rw [sp_ne h1]; exact hJ.2.2.2 g' h1 h2⟩))
