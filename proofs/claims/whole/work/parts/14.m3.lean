/-! class: the survey: written by wip/whole/m3.py -/
/-- an array holds a list of numbers -/
def ar_ (f : Nat → Int32) (L : List Nat) : Prop := ∀ (i x : Nat), L[i]? = some x → f i = nI x
theorem ar_nil {f : Nat → Int32} : ar_ f [] := fun i x h => by simp at h
theorem ar_push {f : Nat → Int32} {L : List Nat} (h : ar_ f L) (x : Nat) : ar_ (upd f L.length (nI x)) (L ++ [x]) := by
  intro i y hi
  by_cases e : i = L.length
  · subst e
    rw [List.getElem?_append_right (Nat.le_refl _), Nat.sub_self] at hi
    cases hi
    exact pk_us
  · rw [pk_un e]
    have hl : i < L.length := by
      have := (List.getElem?_eq_some_iff.mp hi).1
      simp at this
      omega
    rw [List.getElem?_append_left hl] at hi
    exact h i y hi
/-- the neighbours of a node, in order -/
def nb_ (s : Sg_) (n a : Nat) : List Nat := (List.range n).filter (fun o => decide (s 5 (a * 8 + o) = nI 1))
theorem nb_t {s : Sg_} {n a : Nat} (h : s 5 (a * 8 + n) = nI 1) : nb_ s (n + 1) a = nb_ s n a ++ [n] := by
  unfold nb_
  rw [List.range_succ, List.filter_append]
  simp [h]
theorem nb_f {s : Sg_} {n a : Nat} (h : ¬ s 5 (a * 8 + n) = nI 1) : nb_ s (n + 1) a = nb_ s n a := by
  unfold nb_
  rw [List.range_succ, List.filter_append]
  simp [h]
theorem nb_len (s : Sg_) (n a : Nat) : (nb_ s n a).length ≤ n := by
  have := List.length_filter_le (fun o => decide (s 5 (a * 8 + o) = nI 1)) (List.range n)
  rw [List.length_range] at this
  exact this
theorem nb_lt {s : Sg_} {n a i x : Nat} (h : (nb_ s n a)[i]? = some x) : x < n := by
  have := List.mem_filter.mp (List.mem_of_getElem? h)
  exact List.mem_range.mp this.1
def op_ (s : Sg_) (inf : Int32) (k : Nat) : Bool := decide (0 < s 9 k ∧ s 0 1 ≤ s 9 k ∧ s 8 k < inf ∧ s 11 k < s 0 1)
/-- the senders of usable entries of a node for a target, in order -/
def ul_ (s : Sg_) (inf : Int32) (n a b : Nat) : List Nat := (List.range n).filter (fun c => us_ s inf a b c)
theorem ul_eq (s : Sg_) (inf : Int32) (n a b : Nat) : (nb_ s n a).filter (fun c => op_ s inf ((a * 8 + b) * 8 + c)) = ul_ s inf n a b := by
  unfold nb_ ul_
  rw [List.filter_filter]
  congr 1
  funext c
  unfold us_ op_
  by_cases h : s 5 (a * 8 + c) = nI 1
  · simp [h]
  · simp [h]
/-- what gather leaves: the senders and bounds of the listed entries -/
def ga_ (V : Mm_) (s : Sg_) (a b : Nat) (L : List Nat) : Prop := ∀ (i x : Nat), L[i]? = some x → V 0 25 i = nI x ∧ V 0 26 i = s 7 ((a * 8 + b) * 8 + x) ∧ V 0 27 i = s 8 ((a * 8 + b) * 8 + x)
/-- the least of the first numbers -/
def mn_ (f : Nat → Int32) (d : Int32) : Nat → Int32
  | 0 => d
  | i + 1 => if i = 0 then f 0 else if f i < mn_ f d i then f i else mn_ f d i
theorem mn_1 {f : Nat → Int32} {d : Int32} {i : Nat} (h : ¬ i = 0) : mn_ f d (i + 1) = if f i < mn_ f d i then f i else mn_ f d i := by rw [mn_, if_neg h]
theorem mn_cong {f f' : Nat → Int32} {d : Int32} : ∀ {n : Nat}, (∀ i, i < n → f i = f' i) → mn_ f d n = mn_ f' d n
  | 0, _ => rfl
  | n + 1, h => by
    rw [mn_, mn_, mn_cong (n := n) (fun i hi => h i (by omega)), h n (by omega)]
    by_cases e : n = 0
    · subst e; rw [if_pos rfl, if_pos rfl, h 0 (by omega)]
    · rw [if_neg e, if_neg e]
/-- the regret of entry i against the first ones -/
def rg_ (lo up : Nat → Int32) (i : Nat) : Nat → Int32
  | 0 => nI 0
  | j + 1 => if j = i then rg_ lo up i j else if rg_ lo up i j < up i - lo j then up i - lo j else rg_ lo up i j
theorem rg_cong {lo up lo' up' : Nat → Int32} {i : Nat} (hi : up i = up' i) : ∀ {n : Nat}, (∀ j, j < n → lo j = lo' j) → rg_ lo up i n = rg_ lo' up' i n
  | 0, _ => rfl
  | n + 1, h => by rw [rg_, rg_, rg_cong hi (n := n) (fun j hj => h j (by omega)), h n (by omega), hi]
def rk_ (rule : Int32) (lo up : Nat → Int32) (u i : Nat) : Int32 := if rule = nI 1 then rg_ lo up i u else if rule = nI 2 then lo i else up i
def sc_ (rule : Int32) (lo up : Nat → Int32) (i : Nat) : Int32 := if rule = nI 1 then up i else if rule = nI 2 then up i else lo i
/-- the best of the first ones, of equal ones the first -/
def bs_ (rk sc : Nat → Int32) : Nat → Option Nat
  | 0 => none
  | i + 1 => match bs_ rk sc i with
    | none => some i
    | some b => if rk i < rk b ∨ (rk i = rk b ∧ sc i < sc b) then some i else some b
def oN_ : Option Nat → Int32
  | none => -1
  | some b => nI b
theorem oN_none {o : Option Nat} {n : Nat} (hn : n < 2 ^ 31) (hb : ∀ b, o = some b → b < n) (h : oN_ o = -1) : o = none := by
  cases o with
  | none => rfl
  | some b =>
    have h1 : nI b = -1 := h
    have h2 := congrArg Int32.toInt h1
    rw [nI_toInt (Nat.lt_trans (hb b rfl) hn)] at h2
    have : (-1 : Int32).toInt = -1 := by decide
    omega
theorem oN_some {o : Option Nat} (h : ¬ oN_ o = -1) : ∃ b, o = some b := by
  cases o with
  | none => exact absurd rfl h
  | some b => exact ⟨b, rfl⟩
theorem bs_lt {rk sc : Nat → Int32} : ∀ {n b : Nat}, bs_ rk sc n = some b → b < n
  | 0, b, h => by cases h
  | n + 1, b, h => by
    rw [bs_] at h
    cases e : bs_ rk sc n with
    | none => rw [e] at h; cases h; omega
    | some b' =>
      rw [e] at h
      have := bs_lt e
      simp only at h
      split at h
      · cases h; omega
      · cases h; omega
theorem bs_cong {rk sc rk' sc' : Nat → Int32} : ∀ {n : Nat}, (∀ i, i < n → rk i = rk' i ∧ sc i = sc' i) → bs_ rk sc n = bs_ rk' sc' n
  | 0, _ => rfl
  | n + 1, h => by
    rw [bs_, bs_, bs_cong (n := n) (fun i hi => h i (by omega))]
    cases e : bs_ rk' sc' n with
    | none => rfl
    | some b =>
      have hb := bs_lt e
      simp only [(h n (by omega)).1, (h n (by omega)).2, (h b (by omega)).1, (h b (by omega)).2]
def fr_ (f h : Nat → Int32) (n : Nat) : Nat → Int32 := fun k => if k < n then f k else h k
theorem fr_0 (f h : Nat → Int32) : fr_ f h 0 = h := by funext k; simp [fr_]
theorem fr_s (f h : Nat → Int32) (n : Nat) : upd (fr_ f h n) n (f n) = fr_ f h (n + 1) := by
  funext j
  simp only [upd, fr_]
  by_cases e : j = n
  · subst e; simp
  · by_cases h2 : j < n
    · rw [if_neg e, if_pos h2, if_pos (by omega)]
    · rw [if_neg e, if_neg h2, if_neg (by omega)]
theorem fr_in {f h : Nat → Int32} {n k : Nat} (hk : k < n) : fr_ f h n k = f k := by unfold fr_; rw [if_pos hk]

set_option maxRecDepth 100000 in
set_option maxHeartbeats 4000000 in
theorem c_X3_reaches {PL : List (Nat × Nat)} {k : Nat} {V : Mm_} (hk : k < 64) : Cp_ PL mX3_reaches [vR 0 20, vI (nI k)] V (b2 (decide (¬ V 0 22 k = -1))) := by
  refine Ca_.of mv_X3_reaches.2.2.2.2.2.2 0 (lo := [some (vR 0 20), some (vI (nI k))]) rfl (Nat.le_of_ble_eq_true rfl) ?_
  refine r_aload_n (pc2 := 1) dX3_reaches_0 rfl rfl ?_
  refine r_getR (pc2 := 4) dX3_reaches_1 fl_X3_15 (by decide) rfl rfl rfl ?_
  refine r_iload_n (pc2 := 5) dX3_reaches_4 rfl rfl ?_
  refine r_iald (pc2 := 6) (j := _) dX3_reaches_5 (by decide) rfl rfl (rfl) (by show _ < 64; omega) rfl ?_
  refine r_iconst (pc2 := 7) (-1) dX3_reaches_6 (by decide) rfl ?_
  refine r_ic_eq (pc2 := 10) (tgt := 14) dX3_reaches_7 (by decide) rfl (fun c7 => ?_) (fun c7 => ?_)
  · skip
    refine r_iconst (pc2 := 15) (nI 0) dX3_reaches_14 (by decide) rfl ?_
    exact r_zret dX3_reaches_15 rfl (Or.inl rfl) (⟨b2_f (fun z => z c7), rfl⟩)
  · skip
    refine r_iconst (pc2 := 11) (nI 1) dX3_reaches_10 (by decide) rfl ?_
    refine r_goto (pc2 := 15) dX3_reaches_11 (by decide) ?_
    exact r_zret dX3_reaches_15 rfl (Or.inr rfl) (⟨b2_t c7, rfl⟩)

def fn_ (V V' : Mm_) (s : Sg_) (n a : Nat) : Prop := (∀ g' r', ¬ (g' = 0 ∧ (r' = 20 ∨ r' = 24)) → V' g' r' = V g' r') ∧ (∀ k, ¬ k = 4 → V' 0 20 k = V 0 20 k) ∧ V' 0 20 4 = nI (nb_ s n a).length ∧ ar_ (V' 0 24) (nb_ s n a)
theorem fn_t {V V1 : Mm_} {s : Sg_} {n a : Nat} (h : fn_ V V1 s n a) (hu : s 5 (a * 8 + n) = nI 1) : fn_ V (m_set (m_set V1 0 24 (nb_ s n a).length (nI n)) 0 20 4 (nI ((nb_ s n a).length + 1))) s (n + 1) a := by
  obtain ⟨h1, h2, h3, h4⟩ := h
  refine ⟨fun g' r' hh => ?_, fun k hk => ?_, ?_, ?_⟩
  · rw [m_ne (by omega), m_ne (by omega)]; exact h1 g' r' hh
  · rw [m_same, pk_un hk, m_ne (by omega)]; exact h2 k hk
  · rw [m_same, pk_us, nb_t hu, List.length_append]; rfl
  · rw [m_ne (by omega), m_same, nb_t hu]; exact ar_push h4 n
set_option maxRecDepth 100000 in
set_option maxHeartbeats 4000000 in
theorem c_X3_findNeighbours {PL : List (Nat × Nat)} {g a n : Nat} {V : Mm_} (hg0 : ¬ g = 0) (hn : V g 0 0 = nI n) (hn8 : n ≤ 8) (ha : a < 8) : Cv_ PL mX3_findNeighbours [vR 0 20, vR g 0, vI (nI a)] V (fun V' => fn_ V V' (V g) n a) := by
  refine Ca_.of mv_X3_findNeighbours.2.2.2.2.2.2 1 (lo := [some (vR 0 20), some (vR g 0), some (vI (nI a)), none]) rfl (Nat.le_of_ble_eq_true rfl) ?_
  refine r_aload_n (pc2 := 1) dX3_findNeighbours_0 rfl rfl ?_
  refine r_iconst (pc2 := 2) (nI 0) dX3_findNeighbours_1 (by decide) rfl ?_
  refine r_put (pc2 := 5) dX3_findNeighbours_2 fl_X3_53 (by decide) rfl rfl ft_3_4 rfl rfl rfl ?_
  refine r_iconst (pc2 := 6) (nI 0) dX3_findNeighbours_5 (by decide) rfl ?_
  refine r_istore_n (pc2 := 7) dX3_findNeighbours_6 (by decide) rfl rfl ?_
  refine Rc_.to (V' := (fun V1 => V1) (m_set V 0 20 4 (nI 0))) (lo' := (fun (i : Nat) (V1 : Mm_) => [some (vR 0 20), some (vR g 0), some (vI (nI a)), some (vI (nI i))]) 0 (m_set V 0 20 4 (nI 0))) (rfl) ⟨rfl, rfl, rfl, rfl, trivial⟩ ?_
  refine Rc_forI 0 (n) (fun (i : Nat) (V1 : Mm_) => [some (vR 0 20), some (vR g 0), some (vI (nI a)), some (vI (nI i))]) (fun V1 => V1) (fun i V1 => fn_ V V1 (V g) i a) (by omega) (fun i V1 hi0 hiN hI ih7 => ?_) (m_set V 0 20 4 (nI 0)) (⟨fun g' r' hh => by rw [m_ne (by omega)], fun k hk => by rw [m_same, pk_un hk], by rw [m_same, pk_us]; rfl, ar_nil⟩)
  have hVg : V1 g = V g := by funext r; exact hI.1 g r (by omega)
  have hnl := nb_len (V g) i a
  refine r_iload_n (pc2 := 8) dX3_findNeighbours_7 rfl rfl ?_
  refine r_aload_n (pc2 := 9) dX3_findNeighbours_8 rfl rfl ?_
  refine r_getIe (pc2 := 12) (x := (nI n)) (by rw [hVg]; exact hn) dX3_findNeighbours_9 fl_X3_39 (by decide) rfl rfl rfl ?_
  refine r_icN_ge (pc2 := 15) (tgt := 53) (by omega) (by omega) dX3_findNeighbours_12 (by decide) rfl (fun c12 => ?_) (fun c12 => ?_)
  · skip
    exact r_vret dX3_findNeighbours_53 rfl (by rw [show n = i by omega]; exact hI)
  · skip
    refine r_aload_n (pc2 := 16) dX3_findNeighbours_15 rfl rfl ?_
    refine r_getR (pc2 := 19) dX3_findNeighbours_16 fl_X3_56 (by decide) rfl rfl rfl ?_
    refine r_iload_n (pc2 := 20) dX3_findNeighbours_19 rfl rfl ?_
    refine r_iload_n (pc2 := 21) dX3_findNeighbours_20 rfl rfl ?_
    refine r_cv2p (pc2 := 24) dX3_findNeighbours_21 st_X3_findNeighbours_60 rl_X1_isUp (Nat.le_of_ble_eq_true rfl) rfl (c_X1_isUp (by omega) (by omega)) ?_
    refine r_ifB_eq (pc2 := 27) (tgt := 47) dX3_findNeighbours_24 (by decide) rfl (fun c24 => ?_) (fun c24 => ?_)
    · skip
      have c24 : ¬ V g 5 (a * 8 + i) = nI 1 := by rw [hVg] at c24; exact of_decide_eq_false c24
      refine r_iincN (pc2 := 50) dX3_findNeighbours_47 rfl (by decide) rfl rfl ?_
      refine r_goto (pc2 := 7) dX3_findNeighbours_50 (by decide) ?_
      exact Rc_.to (lo' := [some (vR 0 20), some (vR g 0), some (vI (nI a)), some (vI (nI ((i + 1))))]) (rfl) ⟨rfl, rfl, rfl, rfl, trivial⟩ (ih7 _ (by omega) (by first | exact fn_t hI c24 | (unfold fn_; rw [nb_f c24]; exact hI)))
    · skip
      have c24 : V g 5 (a * 8 + i) = nI 1 := by rw [hVg] at c24; exact of_decide_eq_true c24
      refine r_aload_n (pc2 := 28) dX3_findNeighbours_27 rfl rfl ?_
      refine r_getR (pc2 := 31) dX3_findNeighbours_28 fl_X3_21 (by decide) rfl rfl rfl ?_
      refine r_aload_n (pc2 := 32) dX3_findNeighbours_31 rfl rfl ?_
      refine r_getIe (pc2 := 35) (x := (nI ((nb_ (V g) i a).length))) (hI.2.2.1) dX3_findNeighbours_32 fl_X3_53 (by decide) rfl rfl rfl ?_
      refine r_iload_n (pc2 := 36) dX3_findNeighbours_35 rfl rfl ?_
      refine r_iast (pc2 := 37) (j := _) dX3_findNeighbours_36 (by decide) rfl rfl (rfl) (by show _ < 8; omega) rfl ?_
      refine r_aload_n (pc2 := 38) dX3_findNeighbours_37 rfl rfl ?_
      refine r_dup (pc2 := 39) dX3_findNeighbours_38 rfl ?_
      refine r_getIe (pc2 := 42) (x := (nI ((nb_ (V g) i a).length))) (by rw [m_ne (by omega)]; exact hI.2.2.1) dX3_findNeighbours_39 fl_X3_53 (by decide) rfl rfl rfl ?_
      refine r_iconst (pc2 := 43) (nI 1) dX3_findNeighbours_42 (by decide) rfl ?_
      refine r_iaddN (pc2 := 44) dX3_findNeighbours_43 rfl ?_
      refine r_put (pc2 := 47) dX3_findNeighbours_44 fl_X3_53 (by decide) rfl rfl ft_3_4 rfl rfl rfl ?_
      refine r_iincN (pc2 := 50) dX3_findNeighbours_47 rfl (by decide) rfl rfl ?_
      refine r_goto (pc2 := 7) dX3_findNeighbours_50 (by decide) ?_
      exact Rc_.to (lo' := [some (vR 0 20), some (vR g 0), some (vI (nI a)), some (vI (nI ((i + 1))))]) (rfl) ⟨rfl, rfl, rfl, rfl, trivial⟩ (ih7 _ (by omega) (by first | exact fn_t hI c24 | (unfold fn_; rw [nb_f c24]; exact hI)))

def gf_ (V V' : Mm_) (s : Sg_) (a b : Nat) (L : List Nat) : Prop := (∀ g' r', ¬ (g' = 0 ∧ (r' = 20 ∨ r' = 25 ∨ r' = 26 ∨ r' = 27)) → V' g' r' = V g' r') ∧ (∀ k, ¬ k = 10 → V' 0 20 k = V 0 20 k) ∧ V' 0 20 10 = nI L.length ∧ ga_ V' s a b L
theorem gf_t {V V1 : Mm_} {s : Sg_} {a b x : Nat} {L : List Nat} (h : gf_ V V1 s a b L) : gf_ V (m_set (m_set (m_set (m_set V1 0 25 L.length (nI x)) 0 26 L.length (s 7 ((a * 8 + b) * 8 + x))) 0 27 L.length (s 8 ((a * 8 + b) * 8 + x))) 0 20 10 (nI (L.length + 1))) s a b (L ++ [x]) := by
  obtain ⟨h1, h2, h3, h4⟩ := h
  refine ⟨fun g' r' hh => ?_, fun k hk => ?_, ?_, fun i y hi => ?_⟩
  · rw [m_ne (by omega), m_ne (by omega), m_ne (by omega), m_ne (by omega)]; exact h1 g' r' hh
  · rw [m_same, pk_un hk, m_ne (by omega), m_ne (by omega), m_ne (by omega)]; exact h2 k hk
  · rw [m_same, pk_us, List.length_append]; rfl
  · have e25 : ∀ (i0 i1 i2 i3 : Nat) (x0 x1 x2 x3 : Int32), m_set (m_set (m_set (m_set V1 0 25 i0 x0) 0 26 i1 x1) 0 27 i2 x2) 0 20 i3 x3 0 25 = upd (V1 0 25) i0 x0 := by intros; simp [a_set]
    have e26 : ∀ (i0 i1 i2 i3 : Nat) (x0 x1 x2 x3 : Int32), m_set (m_set (m_set (m_set V1 0 25 i0 x0) 0 26 i1 x1) 0 27 i2 x2) 0 20 i3 x3 0 26 = upd (V1 0 26) i1 x1 := by intros; simp [a_set]
    have e27 : ∀ (i0 i1 i2 i3 : Nat) (x0 x1 x2 x3 : Int32), m_set (m_set (m_set (m_set V1 0 25 i0 x0) 0 26 i1 x1) 0 27 i2 x2) 0 20 i3 x3 0 27 = upd (V1 0 27) i2 x2 := by intros; simp [a_set]
    rw [e25, e26, e27]
    by_cases e : i = L.length
    · subst e
      rw [List.getElem?_append_right (Nat.le_refl _), Nat.sub_self] at hi
      cases hi
      exact ⟨pk_us, pk_us, pk_us⟩
    · rw [pk_un e, pk_un e, pk_un e]
      have hl : i < L.length := by
        have := (List.getElem?_eq_some_iff.mp hi).1
        simp at this
        omega
      rw [List.getElem?_append_left hl] at hi
      exact h4 i y hi
set_option maxRecDepth 100000 in
set_option maxHeartbeats 4000000 in
theorem c_X3_gather {PL : List (Nat × Nat)} {g a b n : Nat} {inf : Int32} {V : Mm_} (hg0 : ¬ g = 0) (hn8 : n ≤ 8) (ha : a < n) (hb : b < n) (hnr : V 0 20 4 = nI (nb_ (V g) n a).length) (har : ar_ (V 0 24) (nb_ (V g) n a)) : Cv_ PL mX3_gather [vR 0 20, vR g 0, vI (nI a), vI (nI b), vI inf] V (fun V' => gf_ V V' (V g) a b (ul_ (V g) inf n a b)) := by
  refine Ca_.of mv_X3_gather.2.2.2.2.2.2 2 (lo := [some (vR 0 20), some (vR g 0), some (vI (nI a)), some (vI (nI b)), some (vI inf), none, none]) rfl (Nat.le_of_ble_eq_true rfl) ?_
  have hnl := nb_len (V g) n a
  refine r_aload_n (pc2 := 1) dX3_gather_0 rfl rfl ?_
  refine r_iconst (pc2 := 2) (nI 0) dX3_gather_1 (by decide) rfl ?_
  refine r_put (pc2 := 5) dX3_gather_2 fl_X3_86 (by decide) rfl rfl ft_3_10 rfl rfl rfl ?_
  refine r_iconst (pc2 := 6) (nI 0) dX3_gather_5 (by decide) rfl ?_
  refine r_istore (pc2 := 8) dX3_gather_6 (by decide) rfl rfl ?_
  refine Rc_.to (V' := (fun V1 => V1) (m_set V 0 20 10 (nI 0))) (lo' := (fun (i : Nat) (V1 : Mm_) => [some (vR 0 20), some (vR g 0), some (vI (nI a)), some (vI (nI b)), some (vI inf), some (vI (nI i)), none]) 0 (m_set V 0 20 10 (nI 0))) (rfl) ⟨rfl, rfl, rfl, rfl, rfl, rfl, trivial⟩ ?_
  refine Rc_forI 0 ((nb_ (V g) n a).length) (fun (i : Nat) (V1 : Mm_) => [some (vR 0 20), some (vR g 0), some (vI (nI a)), some (vI (nI b)), some (vI inf), some (vI (nI i)), none]) (fun V1 => V1) (fun i V1 => gf_ V V1 (V g) a b (((nb_ (V g) n a).take i).filter (fun c => op_ (V g) inf ((a * 8 + b) * 8 + c)))) (by omega) (fun i V1 hi0 hiN hI ih8 => ?_) (m_set V 0 20 10 (nI 0)) (⟨fun g' r' hh => by rw [m_ne (by omega)], fun k hk => by rw [m_same, pk_un hk], by rw [m_same, pk_us]; rfl, fun i x h => by simp at h⟩)
  have hVg : V1 g = V g := by funext r; exact hI.1 g r (by omega)
  have hul : (((nb_ (V g) n a).take i).filter (fun c => op_ (V g) inf ((a * 8 + b) * 8 + c))).length ≤ i := Nat.le_trans (List.length_filter_le _ _) (by rw [List.length_take]; omega)
  obtain ⟨L, hL⟩ : ∃ L, L = (((nb_ (V g) n a).take i).filter (fun c => op_ (V g) inf ((a * 8 + b) * 8 + c))) := ⟨_, rfl⟩
  rw [← hL] at hI hul
  refine r_iload (pc2 := 10) dX3_gather_8 rfl rfl ?_
  refine r_aload_n (pc2 := 11) dX3_gather_10 rfl rfl ?_
  refine r_getIe (pc2 := 14) (x := (nI ((nb_ (V g) n a).length))) ((hI.2.1 4 (by decide)).trans hnr) dX3_gather_11 fl_X3_53 (by decide) rfl rfl rfl ?_
  refine r_icN_ge (pc2 := 17) (tgt := 119) (by omega) (by omega) dX3_gather_14 (by decide) rfl (fun c14 => ?_) (fun c14 => ?_)
  · skip
    exact r_vret dX3_gather_119 rfl (by rw [show i = (nb_ (V g) n a).length by omega, List.take_length, ul_eq] at hL; rw [← hL]; exact hI)
  · skip
    obtain ⟨x, hx⟩ : ∃ x, (nb_ (V g) n a)[i]? = some x := ⟨_, List.getElem?_eq_getElem c14⟩
    have hxn := nb_lt hx
    have htk : (nb_ (V g) n a).take (i + 1) = (nb_ (V g) n a).take i ++ [x] := by rw [List.take_add_one, hx]; rfl
    refine r_iload_n (pc2 := 18) dX3_gather_17 rfl rfl ?_
    refine r_iload_n (pc2 := 19) dX3_gather_18 rfl rfl ?_
    refine r_aload_n (pc2 := 20) dX3_gather_19 rfl rfl ?_
    refine r_getR (pc2 := 23) dX3_gather_20 fl_X3_21 (by decide) rfl rfl rfl ?_
    refine r_iload (pc2 := 25) dX3_gather_23 rfl rfl ?_
    refine r_ialde (pc2 := 26) (x := (nI x)) (j := _) (by rw [hI.1 0 24 (by omega)]; exact har i x hx) dX3_gather_25 (by decide) rfl rfl (rfl) (by show _ < 8; omega) rfl ?_
    refine r_cn3p (pc2 := 29) dX3_gather_26 st_X3_gather_89 (Nat.le_of_ble_eq_true rfl) rfl (c_X7_slot) ?_
    refine r_istore (pc2 := 31) dX3_gather_29 (by decide) rfl rfl ?_
    refine r_aload_n (pc2 := 32) dX3_gather_31 rfl rfl ?_
    refine r_getR (pc2 := 35) dX3_gather_32 fl_X3_93 (by decide) rfl rfl rfl ?_
    refine r_iload (pc2 := 37) dX3_gather_35 rfl rfl ?_
    refine r_aload_n (pc2 := 38) dX3_gather_37 rfl rfl ?_
    refine r_getI (pc2 := 41) dX3_gather_38 fl_X3_97 (by decide) rfl rfl rfl ?_
    refine r_iload (pc2 := 43) dX3_gather_41 rfl rfl ?_
    refine r_cv3p (pc2 := 46) dX3_gather_43 st_X3_gather_100 rl_X4_isOpen (Nat.le_of_ble_eq_true rfl) rfl (c_X4_isOpen (by omega)) ?_
    refine r_ifB_eq (pc2 := 49) (tgt := 113) dX3_gather_46 (by decide) rfl (fun c46 => ?_) (fun c46 => ?_)
    · skip
      rw [hVg] at c46
      have hnx : gf_ V V1 (V g) a b (((nb_ (V g) n a).take (i + 1)).filter (fun c => op_ (V g) inf ((a * 8 + b) * 8 + c))) := by
        rw [htk, List.filter_append, List.filter_cons_of_neg (by show ¬ op_ _ _ _ = true; unfold op_; rw [c46]; decide), List.filter_nil, List.append_nil, ← hL]
        exact hI
      refine r_iincN (pc2 := 116) dX3_gather_113 rfl (by decide) rfl rfl ?_
      refine r_goto (pc2 := 8) dX3_gather_116 (by decide) ?_
      exact Rc_.to (lo' := [some (vR 0 20), some (vR g 0), some (vI (nI a)), some (vI (nI b)), some (vI inf), some (vI (nI ((i + 1)))), none]) (rfl) ⟨rfl, rfl, rfl, rfl, rfl, rfl, trivial⟩ (ih8 _ (by omega) hnx)
    · skip
      rw [hVg] at c46
      have hnx := gf_t (x := x) hI
      have hL2 : (((nb_ (V g) n a).take (i + 1)).filter (fun c => op_ (V g) inf ((a * 8 + b) * 8 + c))) = L ++ [x] := by rw [htk, List.filter_append, List.filter_cons_of_pos (by show op_ _ _ _ = true; unfold op_; exact c46), List.filter_nil, ← hL]
      rw [← hL2] at hnx
      refine r_aload_n (pc2 := 50) dX3_gather_49 rfl rfl ?_
      refine r_getR (pc2 := 53) dX3_gather_50 fl_X3_24 (by decide) rfl rfl rfl ?_
      refine r_aload_n (pc2 := 54) dX3_gather_53 rfl rfl ?_
      refine r_getIe (pc2 := 57) (x := (nI (L.length))) (hI.2.2.1) dX3_gather_54 fl_X3_86 (by decide) rfl rfl rfl ?_
      refine r_aload_n (pc2 := 58) dX3_gather_57 rfl rfl ?_
      refine r_getR (pc2 := 61) dX3_gather_58 fl_X3_21 (by decide) rfl rfl rfl ?_
      refine r_iload (pc2 := 63) dX3_gather_61 rfl rfl ?_
      refine r_ialde (pc2 := 64) (x := (nI x)) (j := _) (by rw [hI.1 0 24 (by omega)]; exact har i x hx) dX3_gather_63 (by decide) rfl rfl (rfl) (by show _ < 8; omega) rfl ?_
      refine r_iast (pc2 := 65) (j := _) dX3_gather_64 (by decide) rfl rfl (rfl) (by show _ < 8; omega) rfl ?_
      refine r_aload_n (pc2 := 66) dX3_gather_65 rfl rfl ?_
      refine r_getR (pc2 := 69) dX3_gather_66 fl_X3_27 (by decide) rfl rfl rfl ?_
      refine r_aload_n (pc2 := 70) dX3_gather_69 rfl rfl ?_
      refine r_getIe (pc2 := 73) (x := (nI (L.length))) (by rw [m_ne (by omega)]; exact hI.2.2.1) dX3_gather_70 fl_X3_86 (by decide) rfl rfl rfl ?_
      refine r_aload_n (pc2 := 74) dX3_gather_73 rfl rfl ?_
      refine r_getR (pc2 := 77) dX3_gather_74 fl_X3_93 (by decide) rfl rfl rfl ?_
      refine r_getR (pc2 := 80) dX3_gather_77 fl_X3_106 (by decide) rfl rfl rfl ?_
      refine r_iload (pc2 := 82) dX3_gather_80 rfl rfl ?_
      refine r_ialde (pc2 := 83) (x := ((V g 7 ((a * 8 + b) * 8 + x)))) (j := _) (by rw [m_ne (by omega), hVg]) dX3_gather_82 (by decide) rfl rfl (rfl) (by show _ < 512; omega) rfl ?_
      refine r_iast (pc2 := 84) (j := _) dX3_gather_83 (by decide) rfl rfl (rfl) (by show _ < 8; omega) rfl ?_
      refine r_aload_n (pc2 := 85) dX3_gather_84 rfl rfl ?_
      refine r_getR (pc2 := 88) dX3_gather_85 fl_X3_30 (by decide) rfl rfl rfl ?_
      refine r_aload_n (pc2 := 89) dX3_gather_88 rfl rfl ?_
      refine r_getIe (pc2 := 92) (x := (nI (L.length))) (by rw [m_ne (by omega), m_ne (by omega)]; exact hI.2.2.1) dX3_gather_89 fl_X3_86 (by decide) rfl rfl rfl ?_
      refine r_aload_n (pc2 := 93) dX3_gather_92 rfl rfl ?_
      refine r_getR (pc2 := 96) dX3_gather_93 fl_X3_93 (by decide) rfl rfl rfl ?_
      refine r_getR (pc2 := 99) dX3_gather_96 fl_X3_107 (by decide) rfl rfl rfl ?_
      refine r_iload (pc2 := 101) dX3_gather_99 rfl rfl ?_
      refine r_ialde (pc2 := 102) (x := ((V g 8 ((a * 8 + b) * 8 + x)))) (j := _) (by rw [m_ne (by omega), m_ne (by omega), hVg]) dX3_gather_101 (by decide) rfl rfl (rfl) (by show _ < 512; omega) rfl ?_
      refine r_iast (pc2 := 103) (j := _) dX3_gather_102 (by decide) rfl rfl (rfl) (by show _ < 8; omega) rfl ?_
      refine r_aload_n (pc2 := 104) dX3_gather_103 rfl rfl ?_
      refine r_dup (pc2 := 105) dX3_gather_104 rfl ?_
      refine r_getIe (pc2 := 108) (x := (nI (L.length))) (by rw [m_ne (by omega), m_ne (by omega), m_ne (by omega)]; exact hI.2.2.1) dX3_gather_105 fl_X3_86 (by decide) rfl rfl rfl ?_
      refine r_iconst (pc2 := 109) (nI 1) dX3_gather_108 (by decide) rfl ?_
      refine r_iaddN (pc2 := 110) dX3_gather_109 rfl ?_
      refine r_put (pc2 := 113) dX3_gather_110 fl_X3_86 (by decide) rfl rfl ft_3_10 rfl rfl rfl ?_
      refine r_iincN (pc2 := 116) dX3_gather_113 rfl (by decide) rfl rfl ?_
      refine r_goto (pc2 := 8) dX3_gather_116 (by decide) ?_
      exact Rc_.to (lo' := [some (vR 0 20), some (vR g 0), some (vI (nI a)), some (vI (nI b)), some (vI inf), some (vI (nI ((i + 1)))), none]) (rfl) ⟨rfl, rfl, rfl, rfl, rfl, rfl, trivial⟩ (ih8 _ (by omega) hnx)

set_option maxRecDepth 100000 in
set_option maxHeartbeats 4000000 in
theorem c_X3_putDistance_1 {PL : List (Nat × Nat)} {k u : Nat} {V : Mm_} (hk : k < 64) (hu8 : u ≤ 8) (hu : V 0 20 10 = nI u) : Cm_ PL mX3_putDistance [vR 0 20, vI (nI k), vI (nI 1)] V (m_set (m_set V 0 21 k (mn_ (V 0 26) (nI 0) u)) 0 22 k (mn_ (V 0 27) (nI 0) u)) := by
  refine Ca_.of mv_X3_putDistance.2.2.2.2.2.2 3 (lo := [some (vR 0 20), some (vI (nI k)), some (vI (nI 1)), none, none, none]) rfl (Nat.le_of_ble_eq_true rfl) ?_
  refine r_iload_n (pc2 := 1) dX3_putDistance_0 rfl rfl ?_
  refine r_if0N_eq (pc2 := 4) (tgt := 8) (by omega) dX3_putDistance_1 (by decide) rfl (fun c1 => ?_) (fun c1 => ?_)
  · skip
    exact absurd c1 (by decide)
  · skip
    refine r_iconst (pc2 := 5) (nI 0) dX3_putDistance_4 (by decide) rfl ?_
    refine r_goto (pc2 := 9) dX3_putDistance_5 (by decide) ?_
    refine r_istore_n (pc2 := 10) dX3_putDistance_9 (by decide) rfl rfl ?_
    refine r_iload_n (pc2 := 11) dX3_putDistance_10 rfl rfl ?_
    refine r_if0N_eq (pc2 := 14) (tgt := 18) (by omega) dX3_putDistance_11 (by decide) rfl (fun c11 => ?_) (fun c11 => ?_)
    · skip
      exact absurd c11 (by decide)
    · skip
      refine r_iconst (pc2 := 15) (nI 0) dX3_putDistance_14 (by decide) rfl ?_
      refine r_goto (pc2 := 19) dX3_putDistance_15 (by decide) ?_
      refine r_istore (pc2 := 21) dX3_putDistance_19 (by decide) rfl rfl ?_
      refine r_iconst (pc2 := 22) (nI 0) dX3_putDistance_21 (by decide) rfl ?_
      refine r_istore (pc2 := 24) dX3_putDistance_22 (by decide) rfl rfl ?_
      refine Rc_.to (V' := (fun _ => V) 0) (lo' := (fun i : Nat => [some (vR 0 20), some (vI (nI k)), some (vI (nI 1)), some (vI ((mn_ (V 0 26) (nI 0) i))), some (vI ((mn_ (V 0 27) (nI 0) i))), some (vI (nI i))]) 0) (rfl) ⟨rfl, rfl, rfl, rfl, rfl, rfl, trivial⟩ ?_
      refine Rc_for 0 (u) (fun i : Nat => [some (vR 0 20), some (vI (nI k)), some (vI (nI 1)), some (vI ((mn_ (V 0 26) (nI 0) i))), some (vI ((mn_ (V 0 27) (nI 0) i))), some (vI (nI i))]) (fun _ => V) (by omega) (fun i hi0 hiN ih24 => ?_)
      refine r_iload (pc2 := 26) dX3_putDistance_24 rfl rfl ?_
      refine r_aload_n (pc2 := 27) dX3_putDistance_26 rfl rfl ?_
      refine r_getIe (pc2 := 30) (x := (nI u)) (hu) dX3_putDistance_27 fl_X3_86 (by decide) rfl rfl rfl ?_
      refine r_icN_ge (pc2 := 33) (tgt := 95) (by omega) (by omega) dX3_putDistance_30 (by decide) rfl (fun c30 => ?_) (fun c30 => ?_)
      · skip
        refine r_aload_n (pc2 := 96) dX3_putDistance_95 rfl rfl ?_
        refine r_getR (pc2 := 99) dX3_putDistance_96 fl_X3_9 (by decide) rfl rfl rfl ?_
        refine r_iload_n (pc2 := 100) dX3_putDistance_99 rfl rfl ?_
        refine r_iload_n (pc2 := 101) dX3_putDistance_100 rfl rfl ?_
        refine r_iast (pc2 := 102) (j := _) dX3_putDistance_101 (by decide) rfl rfl (rfl) (by show _ < 64; omega) rfl ?_
        refine r_aload_n (pc2 := 103) dX3_putDistance_102 rfl rfl ?_
        refine r_getR (pc2 := 106) dX3_putDistance_103 fl_X3_15 (by decide) rfl rfl rfl ?_
        refine r_iload_n (pc2 := 107) dX3_putDistance_106 rfl rfl ?_
        refine r_iload (pc2 := 109) dX3_putDistance_107 rfl rfl ?_
        refine r_iast (pc2 := 110) (j := _) dX3_putDistance_109 (by decide) rfl rfl (rfl) (by show _ < 64; omega) rfl ?_
        exact r_vret dX3_putDistance_110 rfl (by rw [show u = i by omega])
      · skip
        refine r_iload (pc2 := 35) dX3_putDistance_33 rfl rfl ?_
        refine r_if0N_ne (pc2 := 38) (tgt := 48) (by omega) dX3_putDistance_35 (by decide) rfl (fun c35 => ?_) (fun c35 => ?_)
        · skip
          refine r_iload_n (pc2 := 49) dX3_putDistance_48 rfl rfl ?_
          refine r_aload_n (pc2 := 50) dX3_putDistance_49 rfl rfl ?_
          refine r_getR (pc2 := 53) dX3_putDistance_50 fl_X3_27 (by decide) rfl rfl rfl ?_
          refine r_iload (pc2 := 55) dX3_putDistance_53 rfl rfl ?_
          refine r_iald (pc2 := 56) (j := _) dX3_putDistance_55 (by decide) rfl rfl (rfl) (by show _ < 8; omega) rfl ?_
          refine r_mn (pc2 := 59) dX3_putDistance_56 st_X3_putDistance_108 (Nat.le_of_ble_eq_true rfl) rfl ?_
          refine r_istore_n (pc2 := 60) dX3_putDistance_59 (by decide) rfl rfl ?_
          refine r_iload (pc2 := 62) dX3_putDistance_60 rfl rfl ?_
          refine r_if0N_ne (pc2 := 65) (tgt := 75) (by omega) dX3_putDistance_62 (by decide) rfl (fun c62 => ?_) (fun c62 => ?_)
          · skip
            refine r_iload (pc2 := 77) dX3_putDistance_75 rfl rfl ?_
            refine r_aload_n (pc2 := 78) dX3_putDistance_77 rfl rfl ?_
            refine r_getR (pc2 := 81) dX3_putDistance_78 fl_X3_30 (by decide) rfl rfl rfl ?_
            refine r_iload (pc2 := 83) dX3_putDistance_81 rfl rfl ?_
            refine r_iald (pc2 := 84) (j := _) dX3_putDistance_83 (by decide) rfl rfl (rfl) (by show _ < 8; omega) rfl ?_
            refine r_mn (pc2 := 87) dX3_putDistance_84 st_X3_putDistance_108 (Nat.le_of_ble_eq_true rfl) rfl ?_
            refine r_istore (pc2 := 89) dX3_putDistance_87 (by decide) rfl rfl ?_
            refine r_iincN (pc2 := 92) dX3_putDistance_89 rfl (by decide) rfl rfl ?_
            refine r_goto (pc2 := 24) dX3_putDistance_92 (by decide) ?_
            exact Rc_.to (lo' := (fun i : Nat => [some (vR 0 20), some (vI (nI k)), some (vI (nI 1)), some (vI ((mn_ (V 0 26) (nI 0) i))), some (vI ((mn_ (V 0 27) (nI 0) i))), some (vI (nI i))]) (i + 1)) (rfl) ⟨rfl, rfl, rfl, (congrArg (fun z => some (vI z)) (by first | (subst c35; rfl) | exact mn_1 c35)), (congrArg (fun z => some (vI z)) (by first | (subst c35; rfl) | exact mn_1 c35)), rfl, trivial⟩ (ih24 (by omega))
          · skip
            omega
        · skip
          refine r_aload_n (pc2 := 39) dX3_putDistance_38 rfl rfl ?_
          refine r_getR (pc2 := 42) dX3_putDistance_39 fl_X3_27 (by decide) rfl rfl rfl ?_
          refine r_iload (pc2 := 44) dX3_putDistance_42 rfl rfl ?_
          refine r_iald (pc2 := 45) (j := 0) dX3_putDistance_44 (by decide) rfl rfl (by rw [c35]) (by decide) rfl ?_
          refine r_goto (pc2 := 59) dX3_putDistance_45 (by decide) ?_
          refine r_istore_n (pc2 := 60) dX3_putDistance_59 (by decide) rfl rfl ?_
          refine r_iload (pc2 := 62) dX3_putDistance_60 rfl rfl ?_
          refine r_if0N_ne (pc2 := 65) (tgt := 75) (by omega) dX3_putDistance_62 (by decide) rfl (fun c62 => ?_) (fun c62 => ?_)
          · skip
            omega
          · skip
            refine r_aload_n (pc2 := 66) dX3_putDistance_65 rfl rfl ?_
            refine r_getR (pc2 := 69) dX3_putDistance_66 fl_X3_30 (by decide) rfl rfl rfl ?_
            refine r_iload (pc2 := 71) dX3_putDistance_69 rfl rfl ?_
            refine r_iald (pc2 := 72) (j := 0) dX3_putDistance_71 (by decide) rfl rfl (by rw [c35]) (by decide) rfl ?_
            refine r_goto (pc2 := 87) dX3_putDistance_72 (by decide) ?_
            refine r_istore (pc2 := 89) dX3_putDistance_87 (by decide) rfl rfl ?_
            refine r_iincN (pc2 := 92) dX3_putDistance_89 rfl (by decide) rfl rfl ?_
            refine r_goto (pc2 := 24) dX3_putDistance_92 (by decide) ?_
            exact Rc_.to (lo' := (fun i : Nat => [some (vR 0 20), some (vI (nI k)), some (vI (nI 1)), some (vI ((mn_ (V 0 26) (nI 0) i))), some (vI ((mn_ (V 0 27) (nI 0) i))), some (vI (nI i))]) (i + 1)) (rfl) ⟨rfl, rfl, rfl, (congrArg (fun z => some (vI z)) (by first | (subst c35; rfl) | exact mn_1 c35)), (congrArg (fun z => some (vI z)) (by first | (subst c35; rfl) | exact mn_1 c35)), rfl, trivial⟩ (ih24 (by omega))

set_option maxRecDepth 100000 in
set_option maxHeartbeats 4000000 in
theorem c_X3_putDistance_0 {PL : List (Nat × Nat)} {k u : Nat} {V : Mm_} (hk : k < 64) (hu8 : u ≤ 8) (hu : V 0 20 10 = nI u) : Cm_ PL mX3_putDistance [vR 0 20, vI (nI k), vI (nI 0)] V (m_set (m_set V 0 21 k (mn_ (V 0 26) (-1) u)) 0 22 k (mn_ (V 0 27) (-1) u)) := by
  refine Ca_.of mv_X3_putDistance.2.2.2.2.2.2 3 (lo := [some (vR 0 20), some (vI (nI k)), some (vI (nI 0)), none, none, none]) rfl (Nat.le_of_ble_eq_true rfl) ?_
  refine r_iload_n (pc2 := 1) dX3_putDistance_0 rfl rfl ?_
  refine r_if0N_eq (pc2 := 4) (tgt := 8) (by omega) dX3_putDistance_1 (by decide) rfl (fun c1 => ?_) (fun c1 => ?_)
  · skip
    refine r_iconst (pc2 := 9) (-1) dX3_putDistance_8 (by decide) rfl ?_
    refine r_istore_n (pc2 := 10) dX3_putDistance_9 (by decide) rfl rfl ?_
    refine r_iload_n (pc2 := 11) dX3_putDistance_10 rfl rfl ?_
    refine r_if0N_eq (pc2 := 14) (tgt := 18) (by omega) dX3_putDistance_11 (by decide) rfl (fun c11 => ?_) (fun c11 => ?_)
    · skip
      refine r_iconst (pc2 := 19) (-1) dX3_putDistance_18 (by decide) rfl ?_
      refine r_istore (pc2 := 21) dX3_putDistance_19 (by decide) rfl rfl ?_
      refine r_iconst (pc2 := 22) (nI 0) dX3_putDistance_21 (by decide) rfl ?_
      refine r_istore (pc2 := 24) dX3_putDistance_22 (by decide) rfl rfl ?_
      refine Rc_.to (V' := (fun _ => V) 0) (lo' := (fun i : Nat => [some (vR 0 20), some (vI (nI k)), some (vI (nI 0)), some (vI ((mn_ (V 0 26) (-1) i))), some (vI ((mn_ (V 0 27) (-1) i))), some (vI (nI i))]) 0) (rfl) ⟨rfl, rfl, rfl, rfl, rfl, rfl, trivial⟩ ?_
      refine Rc_for 0 (u) (fun i : Nat => [some (vR 0 20), some (vI (nI k)), some (vI (nI 0)), some (vI ((mn_ (V 0 26) (-1) i))), some (vI ((mn_ (V 0 27) (-1) i))), some (vI (nI i))]) (fun _ => V) (by omega) (fun i hi0 hiN ih24 => ?_)
      refine r_iload (pc2 := 26) dX3_putDistance_24 rfl rfl ?_
      refine r_aload_n (pc2 := 27) dX3_putDistance_26 rfl rfl ?_
      refine r_getIe (pc2 := 30) (x := (nI u)) (hu) dX3_putDistance_27 fl_X3_86 (by decide) rfl rfl rfl ?_
      refine r_icN_ge (pc2 := 33) (tgt := 95) (by omega) (by omega) dX3_putDistance_30 (by decide) rfl (fun c30 => ?_) (fun c30 => ?_)
      · skip
        refine r_aload_n (pc2 := 96) dX3_putDistance_95 rfl rfl ?_
        refine r_getR (pc2 := 99) dX3_putDistance_96 fl_X3_9 (by decide) rfl rfl rfl ?_
        refine r_iload_n (pc2 := 100) dX3_putDistance_99 rfl rfl ?_
        refine r_iload_n (pc2 := 101) dX3_putDistance_100 rfl rfl ?_
        refine r_iast (pc2 := 102) (j := _) dX3_putDistance_101 (by decide) rfl rfl (rfl) (by show _ < 64; omega) rfl ?_
        refine r_aload_n (pc2 := 103) dX3_putDistance_102 rfl rfl ?_
        refine r_getR (pc2 := 106) dX3_putDistance_103 fl_X3_15 (by decide) rfl rfl rfl ?_
        refine r_iload_n (pc2 := 107) dX3_putDistance_106 rfl rfl ?_
        refine r_iload (pc2 := 109) dX3_putDistance_107 rfl rfl ?_
        refine r_iast (pc2 := 110) (j := _) dX3_putDistance_109 (by decide) rfl rfl (rfl) (by show _ < 64; omega) rfl ?_
        exact r_vret dX3_putDistance_110 rfl (by rw [show u = i by omega])
      · skip
        refine r_iload (pc2 := 35) dX3_putDistance_33 rfl rfl ?_
        refine r_if0N_ne (pc2 := 38) (tgt := 48) (by omega) dX3_putDistance_35 (by decide) rfl (fun c35 => ?_) (fun c35 => ?_)
        · skip
          refine r_iload_n (pc2 := 49) dX3_putDistance_48 rfl rfl ?_
          refine r_aload_n (pc2 := 50) dX3_putDistance_49 rfl rfl ?_
          refine r_getR (pc2 := 53) dX3_putDistance_50 fl_X3_27 (by decide) rfl rfl rfl ?_
          refine r_iload (pc2 := 55) dX3_putDistance_53 rfl rfl ?_
          refine r_iald (pc2 := 56) (j := _) dX3_putDistance_55 (by decide) rfl rfl (rfl) (by show _ < 8; omega) rfl ?_
          refine r_mn (pc2 := 59) dX3_putDistance_56 st_X3_putDistance_108 (Nat.le_of_ble_eq_true rfl) rfl ?_
          refine r_istore_n (pc2 := 60) dX3_putDistance_59 (by decide) rfl rfl ?_
          refine r_iload (pc2 := 62) dX3_putDistance_60 rfl rfl ?_
          refine r_if0N_ne (pc2 := 65) (tgt := 75) (by omega) dX3_putDistance_62 (by decide) rfl (fun c62 => ?_) (fun c62 => ?_)
          · skip
            refine r_iload (pc2 := 77) dX3_putDistance_75 rfl rfl ?_
            refine r_aload_n (pc2 := 78) dX3_putDistance_77 rfl rfl ?_
            refine r_getR (pc2 := 81) dX3_putDistance_78 fl_X3_30 (by decide) rfl rfl rfl ?_
            refine r_iload (pc2 := 83) dX3_putDistance_81 rfl rfl ?_
            refine r_iald (pc2 := 84) (j := _) dX3_putDistance_83 (by decide) rfl rfl (rfl) (by show _ < 8; omega) rfl ?_
            refine r_mn (pc2 := 87) dX3_putDistance_84 st_X3_putDistance_108 (Nat.le_of_ble_eq_true rfl) rfl ?_
            refine r_istore (pc2 := 89) dX3_putDistance_87 (by decide) rfl rfl ?_
            refine r_iincN (pc2 := 92) dX3_putDistance_89 rfl (by decide) rfl rfl ?_
            refine r_goto (pc2 := 24) dX3_putDistance_92 (by decide) ?_
            exact Rc_.to (lo' := (fun i : Nat => [some (vR 0 20), some (vI (nI k)), some (vI (nI 0)), some (vI ((mn_ (V 0 26) (-1) i))), some (vI ((mn_ (V 0 27) (-1) i))), some (vI (nI i))]) (i + 1)) (rfl) ⟨rfl, rfl, rfl, (congrArg (fun z => some (vI z)) (by first | (subst c35; rfl) | exact mn_1 c35)), (congrArg (fun z => some (vI z)) (by first | (subst c35; rfl) | exact mn_1 c35)), rfl, trivial⟩ (ih24 (by omega))
          · skip
            omega
        · skip
          refine r_aload_n (pc2 := 39) dX3_putDistance_38 rfl rfl ?_
          refine r_getR (pc2 := 42) dX3_putDistance_39 fl_X3_27 (by decide) rfl rfl rfl ?_
          refine r_iload (pc2 := 44) dX3_putDistance_42 rfl rfl ?_
          refine r_iald (pc2 := 45) (j := 0) dX3_putDistance_44 (by decide) rfl rfl (by rw [c35]) (by decide) rfl ?_
          refine r_goto (pc2 := 59) dX3_putDistance_45 (by decide) ?_
          refine r_istore_n (pc2 := 60) dX3_putDistance_59 (by decide) rfl rfl ?_
          refine r_iload (pc2 := 62) dX3_putDistance_60 rfl rfl ?_
          refine r_if0N_ne (pc2 := 65) (tgt := 75) (by omega) dX3_putDistance_62 (by decide) rfl (fun c62 => ?_) (fun c62 => ?_)
          · skip
            omega
          · skip
            refine r_aload_n (pc2 := 66) dX3_putDistance_65 rfl rfl ?_
            refine r_getR (pc2 := 69) dX3_putDistance_66 fl_X3_30 (by decide) rfl rfl rfl ?_
            refine r_iload (pc2 := 71) dX3_putDistance_69 rfl rfl ?_
            refine r_iald (pc2 := 72) (j := 0) dX3_putDistance_71 (by decide) rfl rfl (by rw [c35]) (by decide) rfl ?_
            refine r_goto (pc2 := 87) dX3_putDistance_72 (by decide) ?_
            refine r_istore (pc2 := 89) dX3_putDistance_87 (by decide) rfl rfl ?_
            refine r_iincN (pc2 := 92) dX3_putDistance_89 rfl (by decide) rfl rfl ?_
            refine r_goto (pc2 := 24) dX3_putDistance_92 (by decide) ?_
            exact Rc_.to (lo' := (fun i : Nat => [some (vR 0 20), some (vI (nI k)), some (vI (nI 0)), some (vI ((mn_ (V 0 26) (-1) i))), some (vI ((mn_ (V 0 27) (-1) i))), some (vI (nI i))]) (i + 1)) (rfl) ⟨rfl, rfl, rfl, (congrArg (fun z => some (vI z)) (by first | (subst c35; rfl) | exact mn_1 c35)), (congrArg (fun z => some (vI z)) (by first | (subst c35; rfl) | exact mn_1 c35)), rfl, trivial⟩ (ih24 (by omega))
    · skip
      exact absurd rfl c11
  · skip
    exact absurd rfl c1

set_option maxRecDepth 100000 in
set_option maxHeartbeats 4000000 in
theorem c_X3_regret {PL : List (Nat × Nat)} {k u : Nat} {V : Mm_} (hu8 : u ≤ 8) (hk : k < u) (hu : V 0 20 10 = nI u) : Cp_ PL mX3_regret [vR 0 20, vI (nI k)] V (rg_ (V 0 26) (V 0 27) k u) := by
  refine Ca_.of mv_X3_regret.2.2.2.2.2.2 2 (lo := [some (vR 0 20), some (vI (nI k)), none, none]) rfl (Nat.le_of_ble_eq_true rfl) ?_
  refine r_iconst (pc2 := 1) (nI 0) dX3_regret_0 (by decide) rfl ?_
  refine r_istore_n (pc2 := 2) dX3_regret_1 (by decide) rfl rfl ?_
  refine r_iconst (pc2 := 3) (nI 0) dX3_regret_2 (by decide) rfl ?_
  refine r_istore_n (pc2 := 4) dX3_regret_3 (by decide) rfl rfl ?_
  refine Rc_.to (V' := (fun _ => V) 0) (lo' := (fun i : Nat => [some (vR 0 20), some (vI (nI k)), some (vI ((rg_ (V 0 26) (V 0 27) k i))), some (vI (nI i))]) 0) (rfl) ⟨rfl, rfl, rfl, rfl, trivial⟩ ?_
  refine Rc_for 0 (u) (fun i : Nat => [some (vR 0 20), some (vI (nI k)), some (vI ((rg_ (V 0 26) (V 0 27) k i))), some (vI (nI i))]) (fun _ => V) (by omega) (fun i hi0 hiN ih4 => ?_)
  refine r_iload_n (pc2 := 5) dX3_regret_4 rfl rfl ?_
  refine r_aload_n (pc2 := 6) dX3_regret_5 rfl rfl ?_
  refine r_getIe (pc2 := 9) (x := (nI u)) (hu) dX3_regret_6 fl_X3_86 (by decide) rfl rfl rfl ?_
  refine r_icN_ge (pc2 := 12) (tgt := 41) (by omega) (by omega) dX3_regret_9 (by decide) rfl (fun c9 => ?_) (fun c9 => ?_)
  · skip
    refine r_iload_n (pc2 := 42) dX3_regret_41 rfl rfl ?_
    exact r_iret dX3_regret_42 rfl (⟨by rw [show u = i by omega], rfl⟩)
  · skip
    refine r_iload_n (pc2 := 13) dX3_regret_12 rfl rfl ?_
    refine r_iload_n (pc2 := 14) dX3_regret_13 rfl rfl ?_
    refine r_icN_eq (pc2 := 17) (tgt := 35) (by omega) (by omega) dX3_regret_14 (by decide) rfl (fun c14 => ?_) (fun c14 => ?_)
    · skip
      refine r_iincN (pc2 := 38) dX3_regret_35 rfl (by decide) rfl rfl ?_
      refine r_goto (pc2 := 4) dX3_regret_38 (by decide) ?_
      exact Rc_.to (lo' := (fun i : Nat => [some (vR 0 20), some (vI (nI k)), some (vI ((rg_ (V 0 26) (V 0 27) k i))), some (vI (nI i))]) (i + 1)) (rfl) ⟨rfl, rfl, (congrArg (fun z => some (vI z)) (by first | (rw [rg_, if_pos c14]) | (rw [rg_, if_neg c14]))), rfl, trivial⟩ (ih4 (by omega))
    · skip
      refine r_iload_n (pc2 := 18) dX3_regret_17 rfl rfl ?_
      refine r_aload_n (pc2 := 19) dX3_regret_18 rfl rfl ?_
      refine r_getR (pc2 := 22) dX3_regret_19 fl_X3_30 (by decide) rfl rfl rfl ?_
      refine r_iload_n (pc2 := 23) dX3_regret_22 rfl rfl ?_
      refine r_iald (pc2 := 24) (j := _) dX3_regret_23 (by decide) rfl rfl (rfl) (by show _ < 8; omega) rfl ?_
      refine r_aload_n (pc2 := 25) dX3_regret_24 rfl rfl ?_
      refine r_getR (pc2 := 28) dX3_regret_25 fl_X3_27 (by decide) rfl rfl rfl ?_
      refine r_iload_n (pc2 := 29) dX3_regret_28 rfl rfl ?_
      refine r_iald (pc2 := 30) (j := _) dX3_regret_29 (by decide) rfl rfl (rfl) (by show _ < 8; omega) rfl ?_
      refine r_isub (pc2 := 31) dX3_regret_30 rfl ?_
      refine r_mx (pc2 := 34) dX3_regret_31 st_X3_regret_120 (Nat.le_of_ble_eq_true rfl) rfl ?_
      refine r_istore_n (pc2 := 35) dX3_regret_34 (by decide) rfl rfl ?_
      refine r_iincN (pc2 := 38) dX3_regret_35 rfl (by decide) rfl rfl ?_
      refine r_goto (pc2 := 4) dX3_regret_38 (by decide) ?_
      exact Rc_.to (lo' := (fun i : Nat => [some (vR 0 20), some (vI (nI k)), some (vI ((rg_ (V 0 26) (V 0 27) k i))), some (vI (nI i))]) (i + 1)) (rfl) ⟨rfl, rfl, (congrArg (fun z => some (vI z)) (by first | (rw [rg_, if_pos c14]) | (rw [rg_, if_neg c14]))), rfl, trivial⟩ (ih4 (by omega))

set_option maxRecDepth 100000 in
set_option maxHeartbeats 4000000 in
theorem c_X3_isBetter {PL : List (Nat × Nat)} {i b : Nat} {V : Mm_} (hi : i < 8) (hb : b < 8) : Cp_ PL mX3_isBetter [vR 0 20, vI (nI i), vI (nI b)] V (b2 (decide (V 0 28 i < V 0 28 b ∨ (V 0 28 i = V 0 28 b ∧ V 0 29 i < V 0 29 b)))) := by
  refine Ca_.of mv_X3_isBetter.2.2.2.2.2.2 0 (lo := [some (vR 0 20), some (vI (nI i)), some (vI (nI b))]) rfl (Nat.le_of_ble_eq_true rfl) ?_
  refine r_aload_n (pc2 := 1) dX3_isBetter_0 rfl rfl ?_
  refine r_getR (pc2 := 4) dX3_isBetter_1 fl_X3_33 (by decide) rfl rfl rfl ?_
  refine r_iload_n (pc2 := 5) dX3_isBetter_4 rfl rfl ?_
  refine r_iald (pc2 := 6) (j := _) dX3_isBetter_5 (by decide) rfl rfl (rfl) (by show _ < 8; omega) rfl ?_
  refine r_aload_n (pc2 := 7) dX3_isBetter_6 rfl rfl ?_
  refine r_getR (pc2 := 10) dX3_isBetter_7 fl_X3_33 (by decide) rfl rfl rfl ?_
  refine r_iload_n (pc2 := 11) dX3_isBetter_10 rfl rfl ?_
  refine r_iald (pc2 := 12) (j := _) dX3_isBetter_11 (by decide) rfl rfl (rfl) (by show _ < 8; omega) rfl ?_
  refine r_ic_lt (pc2 := 15) (tgt := 45) dX3_isBetter_12 (by decide) rfl (fun c12 => ?_) (fun c12 => ?_)
  · skip
    refine r_iconst (pc2 := 46) (nI 1) dX3_isBetter_45 (by decide) rfl ?_
    refine r_goto (pc2 := 50) dX3_isBetter_46 (by decide) ?_
    exact r_zret dX3_isBetter_50 rfl (Or.inr rfl) (⟨b2_t (by simp only [Int32.lt_iff_toInt_lt, Int32.le_iff_toInt_le, ← Int32.toInt_inj, decide_eq_true_eq, decide_eq_false_iff_not] at c12 ⊢; omega), rfl⟩)
  · skip
    refine r_aload_n (pc2 := 16) dX3_isBetter_15 rfl rfl ?_
    refine r_getR (pc2 := 19) dX3_isBetter_16 fl_X3_33 (by decide) rfl rfl rfl ?_
    refine r_iload_n (pc2 := 20) dX3_isBetter_19 rfl rfl ?_
    refine r_iald (pc2 := 21) (j := _) dX3_isBetter_20 (by decide) rfl rfl (rfl) (by show _ < 8; omega) rfl ?_
    refine r_aload_n (pc2 := 22) dX3_isBetter_21 rfl rfl ?_
    refine r_getR (pc2 := 25) dX3_isBetter_22 fl_X3_33 (by decide) rfl rfl rfl ?_
    refine r_iload_n (pc2 := 26) dX3_isBetter_25 rfl rfl ?_
    refine r_iald (pc2 := 27) (j := _) dX3_isBetter_26 (by decide) rfl rfl (rfl) (by show _ < 8; omega) rfl ?_
    refine r_ic_ne (pc2 := 30) (tgt := 49) dX3_isBetter_27 (by decide) rfl (fun c27 => ?_) (fun c27 => ?_)
    · skip
      refine r_iconst (pc2 := 50) (nI 0) dX3_isBetter_49 (by decide) rfl ?_
      exact r_zret dX3_isBetter_50 rfl (Or.inl rfl) (⟨b2_f (by simp only [Int32.lt_iff_toInt_lt, Int32.le_iff_toInt_le, ← Int32.toInt_inj, decide_eq_true_eq, decide_eq_false_iff_not] at c12 c27 ⊢; omega), rfl⟩)
    · skip
      refine r_aload_n (pc2 := 31) dX3_isBetter_30 rfl rfl ?_
      refine r_getR (pc2 := 34) dX3_isBetter_31 fl_X3_36 (by decide) rfl rfl rfl ?_
      refine r_iload_n (pc2 := 35) dX3_isBetter_34 rfl rfl ?_
      refine r_iald (pc2 := 36) (j := _) dX3_isBetter_35 (by decide) rfl rfl (rfl) (by show _ < 8; omega) rfl ?_
      refine r_aload_n (pc2 := 37) dX3_isBetter_36 rfl rfl ?_
      refine r_getR (pc2 := 40) dX3_isBetter_37 fl_X3_36 (by decide) rfl rfl rfl ?_
      refine r_iload_n (pc2 := 41) dX3_isBetter_40 rfl rfl ?_
      refine r_iald (pc2 := 42) (j := _) dX3_isBetter_41 (by decide) rfl rfl (rfl) (by show _ < 8; omega) rfl ?_
      refine r_ic_ge (pc2 := 45) (tgt := 49) dX3_isBetter_42 (by decide) rfl (fun c42 => ?_) (fun c42 => ?_)
      · skip
        refine r_iconst (pc2 := 50) (nI 0) dX3_isBetter_49 (by decide) rfl ?_
        exact r_zret dX3_isBetter_50 rfl (Or.inl rfl) (⟨b2_f (by simp only [Int32.lt_iff_toInt_lt, Int32.le_iff_toInt_le, ← Int32.toInt_inj, decide_eq_true_eq, decide_eq_false_iff_not] at c12 c27 c42 ⊢; omega), rfl⟩)
      · skip
        refine r_iconst (pc2 := 46) (nI 1) dX3_isBetter_45 (by decide) rfl ?_
        refine r_goto (pc2 := 50) dX3_isBetter_46 (by decide) ?_
        exact r_zret dX3_isBetter_50 rfl (Or.inr rfl) (⟨b2_t (by simp only [Int32.lt_iff_toInt_lt, Int32.le_iff_toInt_le, ← Int32.toInt_inj, decide_eq_true_eq, decide_eq_false_iff_not] at c12 c27 c42 ⊢; omega), rfl⟩)

theorem ra_s {V : Mm_} {f h f' h' : Nat → Int32} {i : Nat} {x z : Int32} (hx : x = f i) (hz : z = f' i) : m_set (m_set (a_set (a_set V 0 28 (fr_ f h i)) 0 29 (fr_ f' h' i)) 0 28 i x) 0 29 i z = a_set (a_set V 0 28 (fr_ f h (i + 1))) 0 29 (fr_ f' h' (i + 1)) := by
  subst hx hz
  funext g' r'
  by_cases h1 : g' = 0
  · subst h1
    by_cases h28 : r' = 28
    · subst h28; simp [a_set, fr_s]
    · by_cases h29 : r' = 29
      · subst h29; simp [a_set, fr_s]
      · simp [a_set, h28, h29]
  · simp [a_set, h1]
set_option maxRecDepth 100000 in
set_option maxHeartbeats 4000000 in
theorem c_X3_rankAll {PL : List (Nat × Nat)} {u : Nat} {rule : Int32} {V : Mm_} (hu8 : u ≤ 8) (hu : V 0 20 10 = nI u) : Cm_ PL mX3_rankAll [vR 0 20, vI rule] V (a_set (a_set V 0 28 (fr_ (rk_ rule (V 0 26) (V 0 27) u) (V 0 28) u)) 0 29 (fr_ (sc_ rule (V 0 26) (V 0 27)) (V 0 29) u)) := by
  refine Ca_.of mv_X3_rankAll.2.2.2.2.2.2 1 (lo := [some (vR 0 20), some (vI rule), none]) rfl (Nat.le_of_ble_eq_true rfl) ?_
  refine r_iconst (pc2 := 1) (nI 0) dX3_rankAll_0 (by decide) rfl ?_
  refine r_istore_n (pc2 := 2) dX3_rankAll_1 (by decide) rfl rfl ?_
  refine Rc_.to (V' := (fun i : Nat => a_set (a_set V 0 28 (fr_ (rk_ rule (V 0 26) (V 0 27) u) (V 0 28) i)) 0 29 (fr_ (sc_ rule (V 0 26) (V 0 27)) (V 0 29) i)) 0) (lo' := (fun i : Nat => [some (vR 0 20), some (vI rule), some (vI (nI i))]) 0) (by show V = a_set (a_set V 0 28 (fr_ (rk_ rule (V 0 26) (V 0 27) u) (V 0 28) 0)) 0 29 (fr_ (sc_ rule (V 0 26) (V 0 27)) (V 0 29) 0); rw [fr_0, fr_0, a_id, a_id]) ⟨rfl, rfl, rfl, trivial⟩ ?_
  refine Rc_for 0 (u) (fun i : Nat => [some (vR 0 20), some (vI rule), some (vI (nI i))]) (fun i : Nat => a_set (a_set V 0 28 (fr_ (rk_ rule (V 0 26) (V 0 27) u) (V 0 28) i)) 0 29 (fr_ (sc_ rule (V 0 26) (V 0 27)) (V 0 29) i)) (by omega) (fun i hi0 hiN ih2 => ?_)
  refine r_iload_n (pc2 := 3) dX3_rankAll_2 rfl rfl ?_
  refine r_aload_n (pc2 := 4) dX3_rankAll_3 rfl rfl ?_
  refine r_getIe (pc2 := 7) (x := (nI u)) (by simp [a_set]; exact hu) dX3_rankAll_4 fl_X3_86 (by decide) rfl rfl rfl ?_
  refine r_icN_ge (pc2 := 10) (tgt := 103) (by omega) (by omega) dX3_rankAll_7 (by decide) rfl (fun c7 => ?_) (fun c7 => ?_)
  · skip
    exact r_vret dX3_rankAll_103 rfl (by rw [show u = i by omega])
  · skip
    refine r_iload_n (pc2 := 11) dX3_rankAll_10 rfl rfl ?_
    refine r_iconst (pc2 := 12) (nI 1) dX3_rankAll_11 (by decide) rfl ?_
    refine r_ic_ne (pc2 := 15) (tgt := 41) dX3_rankAll_12 (by decide) rfl (fun c12 => ?_) (fun c12 => ?_)
    · skip
      refine r_iload_n (pc2 := 42) dX3_rankAll_41 rfl rfl ?_
      refine r_iconst (pc2 := 43) (nI 2) dX3_rankAll_42 (by decide) rfl ?_
      refine r_ic_ne (pc2 := 46) (tgt := 73) dX3_rankAll_43 (by decide) rfl (fun c43 => ?_) (fun c43 => ?_)
      · skip
        refine r_aload_n (pc2 := 74) dX3_rankAll_73 rfl rfl ?_
        refine r_getR (pc2 := 77) dX3_rankAll_74 fl_X3_33 (by decide) rfl rfl rfl ?_
        refine r_iload_n (pc2 := 78) dX3_rankAll_77 rfl rfl ?_
        refine r_aload_n (pc2 := 79) dX3_rankAll_78 rfl rfl ?_
        refine r_getR (pc2 := 82) dX3_rankAll_79 fl_X3_30 (by decide) rfl rfl rfl ?_
        refine r_iload_n (pc2 := 83) dX3_rankAll_82 rfl rfl ?_
        refine r_iald (pc2 := 84) (j := _) dX3_rankAll_83 (by decide) rfl rfl (rfl) (by show _ < 8; omega) rfl ?_
        refine r_iast (pc2 := 85) (j := _) dX3_rankAll_84 (by decide) rfl rfl (rfl) (by show _ < 8; omega) rfl ?_
        refine r_aload_n (pc2 := 86) dX3_rankAll_85 rfl rfl ?_
        refine r_getR (pc2 := 89) dX3_rankAll_86 fl_X3_36 (by decide) rfl rfl rfl ?_
        refine r_iload_n (pc2 := 90) dX3_rankAll_89 rfl rfl ?_
        refine r_aload_n (pc2 := 91) dX3_rankAll_90 rfl rfl ?_
        refine r_getR (pc2 := 94) dX3_rankAll_91 fl_X3_27 (by decide) rfl rfl rfl ?_
        refine r_iload_n (pc2 := 95) dX3_rankAll_94 rfl rfl ?_
        refine r_iald (pc2 := 96) (j := _) dX3_rankAll_95 (by decide) rfl rfl (rfl) (by show _ < 8; omega) rfl ?_
        refine r_iast (pc2 := 97) (j := _) dX3_rankAll_96 (by decide) rfl rfl (rfl) (by show _ < 8; omega) rfl ?_
        refine r_iincN (pc2 := 100) dX3_rankAll_97 rfl (by decide) rfl rfl ?_
        refine r_goto (pc2 := 2) dX3_rankAll_100 (by decide) ?_
        exact Rc_.to (lo' := (fun i : Nat => [some (vR 0 20), some (vI rule), some (vI (nI i))]) (i + 1)) (by refine ra_s ?_ ?_ <;> first | exact (if_pos c12).symm | exact ((if_neg c12).trans (if_pos c43)).symm | exact ((if_neg c12).trans (if_neg c43)).symm) ⟨rfl, rfl, rfl, trivial⟩ (ih2 (by omega))
      · skip
        refine r_aload_n (pc2 := 47) dX3_rankAll_46 rfl rfl ?_
        refine r_getR (pc2 := 50) dX3_rankAll_47 fl_X3_33 (by decide) rfl rfl rfl ?_
        refine r_iload_n (pc2 := 51) dX3_rankAll_50 rfl rfl ?_
        refine r_aload_n (pc2 := 52) dX3_rankAll_51 rfl rfl ?_
        refine r_getR (pc2 := 55) dX3_rankAll_52 fl_X3_27 (by decide) rfl rfl rfl ?_
        refine r_iload_n (pc2 := 56) dX3_rankAll_55 rfl rfl ?_
        refine r_iald (pc2 := 57) (j := _) dX3_rankAll_56 (by decide) rfl rfl (rfl) (by show _ < 8; omega) rfl ?_
        refine r_iast (pc2 := 58) (j := _) dX3_rankAll_57 (by decide) rfl rfl (rfl) (by show _ < 8; omega) rfl ?_
        refine r_aload_n (pc2 := 59) dX3_rankAll_58 rfl rfl ?_
        refine r_getR (pc2 := 62) dX3_rankAll_59 fl_X3_36 (by decide) rfl rfl rfl ?_
        refine r_iload_n (pc2 := 63) dX3_rankAll_62 rfl rfl ?_
        refine r_aload_n (pc2 := 64) dX3_rankAll_63 rfl rfl ?_
        refine r_getR (pc2 := 67) dX3_rankAll_64 fl_X3_30 (by decide) rfl rfl rfl ?_
        refine r_iload_n (pc2 := 68) dX3_rankAll_67 rfl rfl ?_
        refine r_iald (pc2 := 69) (j := _) dX3_rankAll_68 (by decide) rfl rfl (rfl) (by show _ < 8; omega) rfl ?_
        refine r_iast (pc2 := 70) (j := _) dX3_rankAll_69 (by decide) rfl rfl (rfl) (by show _ < 8; omega) rfl ?_
        refine r_goto (pc2 := 97) dX3_rankAll_70 (by decide) ?_
        refine r_iincN (pc2 := 100) dX3_rankAll_97 rfl (by decide) rfl rfl ?_
        refine r_goto (pc2 := 2) dX3_rankAll_100 (by decide) ?_
        exact Rc_.to (lo' := (fun i : Nat => [some (vR 0 20), some (vI rule), some (vI (nI i))]) (i + 1)) (by refine ra_s ?_ ?_ <;> first | exact (if_pos c12).symm | exact ((if_neg c12).trans (if_pos c43)).symm | exact ((if_neg c12).trans (if_neg c43)).symm) ⟨rfl, rfl, rfl, trivial⟩ (ih2 (by omega))
    · skip
      refine r_aload_n (pc2 := 16) dX3_rankAll_15 rfl rfl ?_
      refine r_getR (pc2 := 19) dX3_rankAll_16 fl_X3_33 (by decide) rfl rfl rfl ?_
      refine r_iload_n (pc2 := 20) dX3_rankAll_19 rfl rfl ?_
      refine r_aload_n (pc2 := 21) dX3_rankAll_20 rfl rfl ?_
      refine r_iload_n (pc2 := 22) dX3_rankAll_21 rfl rfl ?_
      refine r_cv1p (pc2 := 25) dX3_rankAll_22 st_X3_rankAll_113 rl_X3_regret (Nat.le_of_ble_eq_true rfl) rfl (c_X3_regret (by omega) (by omega) (by simp [a_set]; exact hu)) ?_
      refine r_iast (pc2 := 26) (j := _) dX3_rankAll_25 (by decide) rfl rfl (rfl) (by show _ < 8; omega) rfl ?_
      refine r_aload_n (pc2 := 27) dX3_rankAll_26 rfl rfl ?_
      refine r_getR (pc2 := 30) dX3_rankAll_27 fl_X3_36 (by decide) rfl rfl rfl ?_
      refine r_iload_n (pc2 := 31) dX3_rankAll_30 rfl rfl ?_
      refine r_aload_n (pc2 := 32) dX3_rankAll_31 rfl rfl ?_
      refine r_getR (pc2 := 35) dX3_rankAll_32 fl_X3_30 (by decide) rfl rfl rfl ?_
      refine r_iload_n (pc2 := 36) dX3_rankAll_35 rfl rfl ?_
      refine r_iald (pc2 := 37) (j := _) dX3_rankAll_36 (by decide) rfl rfl (rfl) (by show _ < 8; omega) rfl ?_
      refine r_iast (pc2 := 38) (j := _) dX3_rankAll_37 (by decide) rfl rfl (rfl) (by show _ < 8; omega) rfl ?_
      refine r_goto (pc2 := 97) dX3_rankAll_38 (by decide) ?_
      refine r_iincN (pc2 := 100) dX3_rankAll_97 rfl (by decide) rfl rfl ?_
      refine r_goto (pc2 := 2) dX3_rankAll_100 (by decide) ?_
      exact Rc_.to (lo' := (fun i : Nat => [some (vR 0 20), some (vI rule), some (vI (nI i))]) (i + 1)) (by refine ra_s ?_ ?_ <;> first | exact (if_pos c12).symm | exact ((if_neg c12).trans (if_pos c43)).symm | exact ((if_neg c12).trans (if_neg c43)).symm) ⟨rfl, rfl, rfl, trivial⟩ (ih2 (by omega))

def cz_ (V : Mm_) (u : Nat) : Int32 := match bs_ (V 0 28) (V 0 29) u with
  | none => -1
  | some i => V 0 25 i
set_option maxRecDepth 100000 in
set_option maxHeartbeats 4000000 in
theorem c_X3_choose {PL : List (Nat × Nat)} {u : Nat} {V : Mm_} (hu8 : u ≤ 8) (hu : V 0 20 10 = nI u) : Cp_ PL mX3_choose [vR 0 20] V (cz_ V u) := by
  refine Ca_.of mv_X3_choose.2.2.2.2.2.2 2 (lo := [some (vR 0 20), none, none]) rfl (Nat.le_of_ble_eq_true rfl) ?_
  refine r_iconst (pc2 := 1) (-1) dX3_choose_0 (by decide) rfl ?_
  refine r_istore_n (pc2 := 2) dX3_choose_1 (by decide) rfl rfl ?_
  refine r_iconst (pc2 := 3) (nI 0) dX3_choose_2 (by decide) rfl ?_
  refine r_istore_n (pc2 := 4) dX3_choose_3 (by decide) rfl rfl ?_
  refine Rc_.to (V' := (fun _ => V) 0) (lo' := (fun i : Nat => [some (vR 0 20), some (vI ((oN_ (bs_ (V 0 28) (V 0 29) i)))), some (vI (nI i))]) 0) (rfl) ⟨rfl, rfl, rfl, trivial⟩ ?_
  refine Rc_for 0 (u) (fun i : Nat => [some (vR 0 20), some (vI ((oN_ (bs_ (V 0 28) (V 0 29) i)))), some (vI (nI i))]) (fun _ => V) (by omega) (fun i hi0 hiN ih4 => ?_)
  refine r_iload_n (pc2 := 5) dX3_choose_4 rfl rfl ?_
  refine r_aload_n (pc2 := 6) dX3_choose_5 rfl rfl ?_
  refine r_getIe (pc2 := 9) (x := (nI u)) (hu) dX3_choose_6 fl_X3_86 (by decide) rfl rfl rfl ?_
  refine r_icN_ge (pc2 := 12) (tgt := 34) (by omega) (by omega) dX3_choose_9 (by decide) rfl (fun c9 => ?_) (fun c9 => ?_)
  · skip
    refine r_iload_n (pc2 := 35) dX3_choose_34 rfl rfl ?_
    refine r_iconst (pc2 := 36) (-1) dX3_choose_35 (by decide) rfl ?_
    refine r_ic_ne (pc2 := 39) (tgt := 43) dX3_choose_36 (by decide) rfl (fun c36 => ?_) (fun c36 => ?_)
    · skip
      obtain ⟨b, hb⟩ := oN_some c36
      have hbi := bs_lt hb
      rw [show oN_ (bs_ (V 0 28) (V 0 29) i) = nI b by rw [hb]; rfl]
      refine r_aload_n (pc2 := 44) dX3_choose_43 rfl rfl ?_
      refine r_getR (pc2 := 47) dX3_choose_44 fl_X3_24 (by decide) rfl rfl rfl ?_
      refine r_iload_n (pc2 := 48) dX3_choose_47 rfl rfl ?_
      refine r_iald (pc2 := 49) (j := _) dX3_choose_48 (by decide) rfl rfl (rfl) (by show _ < 8; omega) rfl ?_
      exact r_iret dX3_choose_49 rfl (⟨by unfold cz_; rw [show u = i by omega]; simp only [hb], rfl⟩)
    · skip
      have hn := oN_none (n := i) (by omega) (fun b h => bs_lt h) c36
      refine r_iconst (pc2 := 40) (-1) dX3_choose_39 (by decide) rfl ?_
      refine r_goto (pc2 := 49) dX3_choose_40 (by decide) ?_
      exact r_iret dX3_choose_49 rfl (⟨by unfold cz_; rw [show u = i by omega]; simp only [hn], rfl⟩)
  · skip
    refine r_iload_n (pc2 := 13) dX3_choose_12 rfl rfl ?_
    refine r_iconst (pc2 := 14) (-1) dX3_choose_13 (by decide) rfl ?_
    refine r_ic_eq (pc2 := 17) (tgt := 26) dX3_choose_14 (by decide) rfl (fun c14 => ?_) (fun c14 => ?_)
    · skip
      have hn := oN_none (n := i) (by omega) (fun b h => bs_lt h) c14
      refine r_iload_n (pc2 := 27) dX3_choose_26 rfl rfl ?_
      refine r_istore_n (pc2 := 28) dX3_choose_27 (by decide) rfl rfl ?_
      refine r_iincN (pc2 := 31) dX3_choose_28 rfl (by decide) rfl rfl ?_
      refine r_goto (pc2 := 4) dX3_choose_31 (by decide) ?_
      exact Rc_.to (lo' := (fun i : Nat => [some (vR 0 20), some (vI ((oN_ (bs_ (V 0 28) (V 0 29) i)))), some (vI (nI i))]) (i + 1)) (rfl) ⟨rfl, (congrArg (fun z => some (vI z)) (by first | (simp only [bs_, hn]; rfl) | (simp only [bs_, hb]; rw [if_pos (of_decide_eq_true c23)]; rfl) | (simp only [bs_, hb]; rw [if_neg (of_decide_eq_false c23)]; rfl))), rfl, trivial⟩ (ih4 (by omega))
    · skip
      obtain ⟨b, hb⟩ := oN_some c14
      have hbi := bs_lt hb
      rw [show oN_ (bs_ (V 0 28) (V 0 29) i) = nI b by rw [hb]; rfl]
      refine r_aload_n (pc2 := 18) dX3_choose_17 rfl rfl ?_
      refine r_iload_n (pc2 := 19) dX3_choose_18 rfl rfl ?_
      refine r_iload_n (pc2 := 20) dX3_choose_19 rfl rfl ?_
      refine r_cv2p (pc2 := 23) dX3_choose_20 st_X3_choose_117 rl_X3_isBetter (Nat.le_of_ble_eq_true rfl) rfl (c_X3_isBetter (by omega) (by omega)) ?_
      refine r_ifB_eq (pc2 := 26) (tgt := 28) dX3_choose_23 (by decide) rfl (fun c23 => ?_) (fun c23 => ?_)
      · skip
        refine r_iincN (pc2 := 31) dX3_choose_28 rfl (by decide) rfl rfl ?_
        refine r_goto (pc2 := 4) dX3_choose_31 (by decide) ?_
        exact Rc_.to (lo' := (fun i : Nat => [some (vR 0 20), some (vI ((oN_ (bs_ (V 0 28) (V 0 29) i)))), some (vI (nI i))]) (i + 1)) (rfl) ⟨rfl, (congrArg (fun z => some (vI z)) (by first | (simp only [bs_, hn]; rfl) | (simp only [bs_, hb]; rw [if_pos (of_decide_eq_true c23)]; rfl) | (simp only [bs_, hb]; rw [if_neg (of_decide_eq_false c23)]; rfl))), rfl, trivial⟩ (ih4 (by omega))
      · skip
        refine r_iload_n (pc2 := 27) dX3_choose_26 rfl rfl ?_
        refine r_istore_n (pc2 := 28) dX3_choose_27 (by decide) rfl rfl ?_
        refine r_iincN (pc2 := 31) dX3_choose_28 rfl (by decide) rfl rfl ?_
        refine r_goto (pc2 := 4) dX3_choose_31 (by decide) ?_
        exact Rc_.to (lo' := (fun i : Nat => [some (vR 0 20), some (vI ((oN_ (bs_ (V 0 28) (V 0 29) i)))), some (vI (nI i))]) (i + 1)) (rfl) ⟨rfl, (congrArg (fun z => some (vI z)) (by first | (simp only [bs_, hn]; rfl) | (simp only [bs_, hb]; rw [if_pos (of_decide_eq_true c23)]; rfl) | (simp only [bs_, hb]; rw [if_neg (of_decide_eq_false c23)]; rfl))), rfl, trivial⟩ (ih4 (by omega))
