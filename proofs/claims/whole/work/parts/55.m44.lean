/-! the law from its entry: written by wip/whole/m44.py -/
theorem E7_at {ad0 : Nat × Nat → Nat} {cI : ClassId} {A B : Nat → Prop} {s U : State} {H : Heap} {locs : List Loc} (h : E7_ ad0 cI A s) (hS : va_S A s.heap H locs) (hsub : ∀ q, B q → A q) (hU : U.heap = H) (hW : s.WarmedH U.vm) : E7_ ad0 cI B U := by
  obtain ⟨⟨h1, h2, h3, h4⟩, h5, ⟨cell, g1, g2, g3, g4, g5, g6⟩, h7⟩ := h
  have hq : ∀ a : Nat, a < s.heap.size → ¬ A a → H[a]? = s.heap[a]? := hS.2.1
  unfold E7_ s_tat
  rw [hU]
  refine ⟨⟨((h1.kept hq).narrow hsub).moved hW.alike, ((h2.kept hq).narrow hsub).moved hW.alike, ((h3.kept hq).narrow hsub).moved hW.alike, ((h4.kept hq).narrow hsub).moved hW.alike⟩, ((h5.kept hq).narrow hsub).moved hW.alike, ⟨cell, ?_, g2, g3, g4, g5, fun z => g6 (hsub _ z)⟩, va_Nw.warmC hW h7⟩
  exact (hq _ (Array.getElem?_eq_some_iff.mp g1).1 g6).trans g1
theorem E8_at {ad0 : Nat × Nat → Nat} {cI : ClassId} {A B : Nat → Prop} {s U : State} {H : Heap} {locs : List Loc} (h : s_tat ad0 A s s.heap) (hS : va_S A s.heap H locs) (hsub : ∀ q, B q → A q) (hU : U.heap = H) (hW : s.WarmedH U.vm) : E8_ ad0 cI B U := by
  obtain ⟨h1, h2, h3, h4⟩ := h
  have hq : ∀ a : Nat, a < s.heap.size → ¬ A a → H[a]? = s.heap[a]? := hS.2.1
  unfold E8_ s_tat
  rw [hU]
  exact ⟨((h1.kept hq).narrow hsub).moved hW.alike, ((h2.kept hq).narrow hsub).moved hW.alike, ((h3.kept hq).narrow hsub).moved hW.alike, ((h4.kept hq).narrow hsub).moved hW.alike⟩
section LN
variable {z : mi_T} {p : Program} {l : Launch} {e : Env} {R : Room} {s : State} {m : MethodId} {args : Array Value} {below : List Frame} {meth : Method} {c : Code} {cells slots : Nat} {Z : State → Prop} {dC : Nat → ClassId} {dI : Nat → Nat → Nat} {cI cZ : ClassId} {A : Nat → Prop}
/-- a constructor's call from the law -/
theorem l_new {pc idx q ci r0 mc ms : Nat} {PL : List (Nat × Nat)} {rt : Nat × Nat} {V : Mm_} {E : ClassId → (Nat → Prop) → State → Prop} {ws : va_W} {st : List Value} {H : Heap} {locs : List Loc} {ls : Array Slot} (hx : p.tables.exec = Jvm.exec) (hb : c.code = code) (hml : c.maxLocals = 4) (hown : s.vm.findClass "IntervalRoutingLaw" = some m.cls) (hg : ∀ w, gd_T w → w.before args s = true) (hN : ∀ w ∈ nw_L, va_Nw w s) (hK : va_K (dC, dI) vwCl (t_ys cI cZ) s) (hA : ∀ q : Nat, s.heap.size ≤ q → A q)
    (hC : Nw_ z ci r0 PL rt V mc ms E) (hE : ∀ (A : Nat → Prop) (U U' : State), U.vm = U'.vm → U.heap = U'.heap → E cI A U → E cI A U') (hEE : ∀ U : State, U.heap = H → s.WarmedH U.vm → E cI (va_A [(q, .inr (ci, bf_ (k_fld 0 r0)))] H.size) U) (hz : gd_T (.instanceMethod z.1) ∧ mk_at z 0) (hi : z.1.name = "<init>") (hret : z.2.2.2.1 = none) (hlk : gd_T (.methodLink "IntervalRoutingLaw" idx z.1)) (hd : decode code pc = .ok (.invokespecial idx, 3)) (hr1 : z.2.2.2.2.1 + 1 ≤ R.frames) (hr2 : 8 + (z.2.2.1 + 11) + z.2.2.2.2.2 ≤ R.locals) (hc : cells + mc ≤ R.cells) (hs : slots + ms ≤ R.slots) (hl8 : (st.map fun v => v.category).sum ≤ 8) (hls : ls.size = 4)
    (hP : va_P (dC, dI) vwCl (ws ++ [(q, .inr (ci, bf_ (k_fld 0 r0)))]) H) (hD : va_D A (ws ++ [(q, .inr (ci, bf_ (k_fld 0 r0)))])) (hS : va_S A s.heap H locs)
    (kk : ∀ ad : Nat × Nat → Nat, ad rt = q → ∀ (H1 : Heap) (locs1 : List Loc), va_P (dC, dI) vwCl (ws ++ w_of ad cI cZ PL V) H1 → va_D A (ws ++ w_of ad cI cZ PL V) → va_S A s.heap H1 locs1 → W p l e R s m args below meth c H1 locs1 (cells + mc) (slots + ms) Z (F0 m (pc + 3) ls st)) : W p l e R s m args below meth c H locs cells slots Z (F0 m pc ls (.ref q :: st)) := by
  have last : (ws ++ [(q, (.inr (ci, bf_ (k_fld 0 r0)) : va_E))])[ws.length]? = some (q, .inr (ci, bf_ (k_fld 0 r0))) := by rw [List.getElem?_append_right (Nat.le_refl _), Nat.sub_self]; rfl
  have hF : ∀ a, va_A [(q, .inr (ci, bf_ (k_fld 0 r0)))] H.size a → A a := by
    intro a ha
    rcases ha with ⟨k2, e2, z⟩ | z
    · have hk2 : k2 = 0 := by have := (List.getElem?_eq_some_iff.mp z).1; simp at this; exact this
      subst hk2
      cases z
      exact hD.2 _ _ last
    · exact hA a (Nat.le_trans hS.1 z)
  have hPc : va_P (dC, dI) vwCl [(q, .inr (ci, bf_ (k_fld 0 r0)))] H := fun k2 x hk2 => by
    have hk3 : k2 = 0 := by have := (List.getElem?_eq_some_iff.mp hk2).1; simp at this; exact this
    subst hk3
    cases hk2
    exact hP _ _ last
  have hts : ∀ w ∈ lw_tbl.filter goodWord, w.before args s = true := fun w hw => hg w (List.mem_filter.mp hw)
  obtain ⟨z1, z3⟩ := hz
  have hcw := callB_of (R := R) (s := s) (args := args) (own := "IntervalRoutingLaw") (index := idx) (mc := mc) (ms := ms) (rm := { frames := z.2.2.2.2.1, cells := mc, slots := ms, locals := z.2.2.2.2.2 }) 0 hts (good_all (ws_good z3)) (rfl : ws_ z = _) rfl rfl (hg _ z3.1) (hg _ hlk) ⟨z3.2.2.1.1, z3.2.2.1.2, z3.2.2.2.1⟩ ⟨hr1, hr2⟩
  rw [hret] at hcw
  refine va_callv (va_runI (p := p) (l := l) (e := e) (R := R) (below := below) (meth := meth) (locs := locs) (cells := cells) (slots := slots) (H := H) (As := []) (rest := st) (b := q) (g := F0 m pc ls (.ref q :: st)) (index := idx) (⟨hx, hb, hml, hown, hts⟩ : CallFix p m c code 4 s args (lw_tbl.filter goodWord) "IntervalRoutingLaw") (hC l dC dI cI cZ q H.size)
    ⟨hcw, hi, hg _ z1⟩ ⟨Pn_blind hE, fun U hU hW => ⟨rfl, by rw [hU], by rw [hU]; exact hPc, va_K.moved hW.alike hK, fun w hw => nw_warm hW w hw (hN w hw), hEE U hU hW⟩⟩ rfl rfl hls rfl (lv_room hl8) hd ⟨hc, hs⟩) hS (fun a _ h => hF a h) hF (fun ad t H1 locs1 ht hvm hw hB hz1 hk1 hS1 => ?_)
  obtain ⟨hP1, hD1⟩ := hB
  rw [ht] at hP1
  obtain ⟨hP2, hD2⟩ := n_join hP hD hF hk1 hP1 hD1
  exact kk ad hw H1 locs1 hP2 hD2 hS1
end LN
def VA_ : Mm_ := fun g r => if g = 0 ∧ 33 ≤ r then VM_ g r else VI_ g r
theorem pl_I : ∀ q ∈ plI_, q.2 < 33 := by decide
theorem pl_M : ∀ q ∈ plM_, q.1 = 0 ∧ 33 ≤ q.2 ∧ q.2 < 46 := by decide
theorem VI_0 {r : Nat} : VI_ 0 r = VI0_ 0 r := congrFun (sa_ne (by decide)) r
theorem LV_0 : LV_ VA_ 4 0 := by
  have e34 : ∀ q, q < 3596 → VA_ 0 34 q = be_ q := by
    intro q hq
    show VM_ 0 34 q = _
    unfold VM_
    rw [a_same, fr_in hq]
  have e1 : VA_ 1 = sa_ VI0_ 1 (nI 4) 1 := by
    funext r
    show (if 1 = 0 ∧ 33 ≤ r then VM_ 1 r else VI_ 1 r) = _
    rw [if_neg (by omega)]
    rfl
  have sz := sa_0 (V := VI0_) (g := 1) (x := nI 4)
  refine ⟨by decide, by decide, ?_, ?_, ?_, ?_, ?_, false, ?_, ?_, fun h => absurd h (by decide)⟩
  · show VM_ 0 33 0 = nI 4
    unfold VM_
    rw [a_ne (by decide)]
    rfl
  · show VM_ 0 37 = VI_ 0 19
    rw [VI_0]
    unfold VM_ VI0_
    rw [a_ne (by decide), a_same]
    show f37_ = st_F
    funext k
    by_cases h : k < 10
    · obtain rfl | rfl | rfl | rfl | rfl | rfl | rfl | rfl | rfl | rfl : k = 0 ∨ k = 1 ∨ k = 2 ∨ k = 3 ∨ k = 4 ∨ k = 5 ∨ k = 6 ∨ k = 7 ∨ k = 8 ∨ k = 9 := by omega
      all_goals rfl
    · unfold f37_
      rw [pk_un (by omega), pk_un (by omega), pk_un (by omega), pk_un (by omega), pk_un (by omega), pk_un (by omega), pk_un (by omega), pk_un (by omega), pk_un (by omega), pk_un (by omega)]
      unfold st_F
      rw [List.getD_eq_getElem?_getD, List.getElem?_eq_none (by simpa using h)]
      rfl
  · show SE_ (VM_ 0 37)
    unfold VM_
    rw [a_ne (by decide)]
    show SE_ f37_
    exact ⟨⟨by decide, by decide⟩, ⟨by decide, by decide⟩, Or.inl (by decide), ⟨by decide, by decide⟩, by decide⟩
  · intro k hk
    have e38 : VA_ 0 38 = f38_ := by
      show VM_ 0 38 = _
      unfold VM_
      rw [a_ne (by decide)]
      rfl
    have e39 : VA_ 0 39 = f39_ := by
      show VM_ 0 39 = _
      unfold VM_
      rw [a_ne (by decide)]
      rfl
    rw [e38, e39]
    obtain rfl | rfl | rfl | rfl | rfl | rfl | rfl | rfl | rfl | rfl : k = 0 ∨ k = 1 ∨ k = 2 ∨ k = 3 ∨ k = 4 ∨ k = 5 ∨ k = 6 ∨ k = 7 ∨ k = 8 ∨ k = 9 := by omega
    all_goals first | exact Or.inr ⟨by decide, rfl, rfl⟩ | exact Or.inl ⟨by decide, rfl, rfl⟩
  · rw [e1]
    exact ⟨sz.1, be_RT e34, be_RS (by decide) e34, ⟨0, be_RJ e34, Nat.zero_le _⟩, ⟨0, sz.2.1, by decide⟩, by rw [sz.2.2]; decide, IW_.sa⟩
  · show VM_ 0 33 4 = b2 false
    unfold VM_
    rw [a_ne (by decide)]
    rfl
  · show VI_ 0 18 7 = b2 false
    rw [VI_0]
    rfl
/-- the tables, from what is given of the start -/
theorem w_tabs {s : State} {args : Array Value} (hts : ∀ w ∈ lw_tbl, w.before args s = true) : ∃ (dC : Nat → ClassId) (dI : Nat → Nat → Nat) (cI cZ : ClassId), va_K (dC, dI) vwCl (t_ys cI cZ) s := by
  have hex : ∀ k : Nat, ∃ (cC : ClassId) (iS : Nat → Nat), ∀ q : vw_C, vwCl[k]? = some q → u_Kn s q.1 q.2.1 q.2.2 cC iS := by
    intro k
    match k with
    | 0 =>
      obtain ⟨a, bb, h⟩ := u_known hts (fun w hw => ((cl_ok 0 RX0 TX0 2 rfl).1 w hw).1) (hts _ tw_146.1)
      exact ⟨a, bb, fun q hq => by cases hq; exact h⟩
    | 1 =>
      obtain ⟨a, bb, h⟩ := u_known hts (fun w hw => ((cl_ok 1 RX1 TX1 5 rfl).1 w hw).1) (hts _ tw_75.1)
      exact ⟨a, bb, fun q hq => by cases hq; exact h⟩
    | 2 =>
      obtain ⟨a, bb, h⟩ := u_known hts (fun w hw => ((cl_ok 2 RX2 TX2 8 rfl).1 w hw).1) (hts _ tw_69.1)
      exact ⟨a, bb, fun q hq => by cases hq; exact h⟩
    | 3 =>
      obtain ⟨a, bb, h⟩ := u_known hts (fun w hw => ((cl_ok 3 RX3 TX3 11 rfl).1 w hw).1) (hts _ tw_196.1)
      exact ⟨a, bb, fun q hq => by cases hq; exact h⟩
    | 4 =>
      obtain ⟨a, bb, h⟩ := u_known hts (fun w hw => ((cl_ok 4 RX4 TX4 5 rfl).1 w hw).1) (hts _ tw_104.1)
      exact ⟨a, bb, fun q hq => by cases hq; exact h⟩
    | 5 =>
      obtain ⟨a, bb, h⟩ := u_known hts (fun w hw => ((cl_ok 5 RX5 TX5 2 rfl).1 w hw).1) (hts _ tw_133.1)
      exact ⟨a, bb, fun q hq => by cases hq; exact h⟩
    | 6 =>
      obtain ⟨a, bb, h⟩ := u_known hts (fun w hw => ((cl_ok 6 RX6 TX6 1 rfl).1 w hw).1) (hts _ tw_241.1)
      exact ⟨a, bb, fun q hq => by cases hq; exact h⟩
    | 7 =>
      obtain ⟨a, bb, h⟩ := u_known hts (fun w hw => ((cl_ok 7 RX7 TX7 8 rfl).1 w hw).1) (hts _ tw_52.1)
      exact ⟨a, bb, fun q hq => by cases hq; exact h⟩
    | 8 =>
      obtain ⟨a, bb, h⟩ := u_known hts (fun w hw => ((cl_ok 8 RX8 TX8 15 rfl).1 w hw).1) (hts _ tw_671.1)
      exact ⟨a, bb, fun q hq => by cases hq; exact h⟩
    | k + 9 => exact ⟨0, fun _ => 0, fun q hq => by simp [vwCl] at hq⟩
  obtain ⟨dC, hdC⟩ := Classical.axiomOfChoice hex
  obtain ⟨dI, hdI⟩ := Classical.axiomOfChoice hdC
  obtain ⟨cI, kI, compI, i1, i2, i3⟩ := Cond.arrayClass_spec (hts _ tw_102.1)
  obtain ⟨cZ, kZ, compZ, z1, z2, z3⟩ := Cond.arrayClass_spec (hts _ tw_303.1)
  refine ⟨dC, dI, cI, cZ, fun k q hq => hdI k q hq, fun k q hq => ?_⟩
  match k, hq with
  | 0, hq => cases hq; exact ⟨fun n z => ⟨fun k h => (by cases h), kI, i2, compI, i3⟩, i1⟩
  | 1, hq => cases hq; exact ⟨fun n z => ⟨fun k h => (by cases h), kZ, z2, compZ, z3⟩, z1⟩
  | k + 2, hq => simp [t_ys] at hq
theorem w_stat {s : State} {b : Nat} {cI : ClassId} (hts : ∀ w ∈ lw_tbl, w.before #[Value.ref b] s = true) (hgv : (Jvm.Cond.and given_1 narrow_1).before #[Value.ref b] s = true) (hcI : s.vm.findClass "[I" = some cI) : ∃ ad0 : Nat × Nat → Nat, E7_ ad0 cI (fun q : Nat => s.heap.size ≤ q) s := by
  have hs := flat_of_before _ hgv
  have harrF : (Cond.arrayOf (.static "IntervalRouting" "FIRST_SETTING" "[I") .int).before #[Value.ref b] s = true := hs _ (by decide +kernel)
  have hlenF := va_eqt (hs (Cond.eq (.length (.static "IntervalRouting" "FIRST_SETTING" "[I")) (.int 10)) (by decide +kernel))
  have helF : ∀ j : Nat, j < 10 → (Term.elem (.static "IntervalRouting" "FIRST_SETTING" "[I") (.int (Int32.ofNat j))).eval #[Value.ref b] s none [] s = some (.int (st_F j)) := by
    intro j hj
    obtain rfl | rfl | rfl | rfl | rfl | rfl | rfl | rfl | rfl | rfl : j = 0 ∨ j = 1 ∨ j = 2 ∨ j = 3 ∨ j = 4 ∨ j = 5 ∨ j = 6 ∨ j = 7 ∨ j = 8 ∨ j = 9 := by omega
    · exact va_eqt (z := 4) (hs (Cond.eq (.elem (.static "IntervalRouting" "FIRST_SETTING" "[I") (.int 0)) (.int 4)) (by decide +kernel))
    · exact va_eqt (z := 13) (hs (Cond.eq (.elem (.static "IntervalRouting" "FIRST_SETTING" "[I") (.int 1)) (.int 13)) (by decide +kernel))
    · exact va_eqt (z := 0) (hs (Cond.eq (.elem (.static "IntervalRouting" "FIRST_SETTING" "[I") (.int 2)) (.int 0)) (by decide +kernel))
    · exact va_eqt (z := 1) (hs (Cond.eq (.elem (.static "IntervalRouting" "FIRST_SETTING" "[I") (.int 3)) (.int 1)) (by decide +kernel))
    · exact va_eqt (z := 0) (hs (Cond.eq (.elem (.static "IntervalRouting" "FIRST_SETTING" "[I") (.int 4)) (.int 0)) (by decide +kernel))
    · exact va_eqt (z := 0) (hs (Cond.eq (.elem (.static "IntervalRouting" "FIRST_SETTING" "[I") (.int 5)) (.int 0)) (by decide +kernel))
    · exact va_eqt (z := 4000) (hs (Cond.eq (.elem (.static "IntervalRouting" "FIRST_SETTING" "[I") (.int 6)) (.int 4000)) (by decide +kernel))
    · exact va_eqt (z := 0) (hs (Cond.eq (.elem (.static "IntervalRouting" "FIRST_SETTING" "[I") (.int 7)) (.int 0)) (by decide +kernel))
    · exact va_eqt (z := 4) (hs (Cond.eq (.elem (.static "IntervalRouting" "FIRST_SETTING" "[I") (.int 8)) (.int 4)) (by decide +kernel))
    · exact va_eqt (z := 8) (hs (Cond.eq (.elem (.static "IntervalRouting" "FIRST_SETTING" "[I") (.int 9)) (.int 8)) (by decide +kernel))
  obtain ⟨tF, htF, hTF⟩ := va_Tof (N := 10) (f := fun j => .int (st_F j)) (A := fun q : Nat => s.heap.size ≤ q) (by decide) harrF hlenF helF (fun a h => Nat.not_le.mpr h)
  have hZF := va_Zref (A := fun q : Nat => s.heap.size ≤ q) (hts _ tm_60) (hts _ tw_37.1) htF (fun a h => Nat.not_le.mpr h)
  have harrL : (Cond.arrayOf (.static "IntervalRouting" "LEAST_SETTING" "[I") .int).before #[Value.ref b] s = true := hs _ (by decide +kernel)
  have hlenL := va_eqt (hs (Cond.eq (.length (.static "IntervalRouting" "LEAST_SETTING" "[I")) (.int 10)) (by decide +kernel))
  have helL : ∀ j : Nat, j < 10 → (Term.elem (.static "IntervalRouting" "LEAST_SETTING" "[I") (.int (Int32.ofNat j))).eval #[Value.ref b] s none [] s = some (.int (st_L j)) := by
    intro j hj
    obtain rfl | rfl | rfl | rfl | rfl | rfl | rfl | rfl | rfl | rfl : j = 0 ∨ j = 1 ∨ j = 2 ∨ j = 3 ∨ j = 4 ∨ j = 5 ∨ j = 6 ∨ j = 7 ∨ j = 8 ∨ j = 9 := by omega
    · exact va_eqt (z := 1) (hs (Cond.eq (.elem (.static "IntervalRouting" "LEAST_SETTING" "[I") (.int 0)) (.int 1)) (by decide +kernel))
    · exact va_eqt (z := 1) (hs (Cond.eq (.elem (.static "IntervalRouting" "LEAST_SETTING" "[I") (.int 1)) (.int 1)) (by decide +kernel))
    · exact va_eqt (z := 0) (hs (Cond.eq (.elem (.static "IntervalRouting" "LEAST_SETTING" "[I") (.int 2)) (.int 0)) (by decide +kernel))
    · exact va_eqt (z := 0) (hs (Cond.eq (.elem (.static "IntervalRouting" "LEAST_SETTING" "[I") (.int 3)) (.int 0)) (by decide +kernel))
    · exact va_eqt (z := 0) (hs (Cond.eq (.elem (.static "IntervalRouting" "LEAST_SETTING" "[I") (.int 4)) (.int 0)) (by decide +kernel))
    · exact va_eqt (z := 0) (hs (Cond.eq (.elem (.static "IntervalRouting" "LEAST_SETTING" "[I") (.int 5)) (.int 0)) (by decide +kernel))
    · exact va_eqt (z := 100) (hs (Cond.eq (.elem (.static "IntervalRouting" "LEAST_SETTING" "[I") (.int 6)) (.int 100)) (by decide +kernel))
    · exact va_eqt (z := 0) (hs (Cond.eq (.elem (.static "IntervalRouting" "LEAST_SETTING" "[I") (.int 7)) (.int 0)) (by decide +kernel))
    · exact va_eqt (z := 1) (hs (Cond.eq (.elem (.static "IntervalRouting" "LEAST_SETTING" "[I") (.int 8)) (.int 1)) (by decide +kernel))
    · exact va_eqt (z := 1) (hs (Cond.eq (.elem (.static "IntervalRouting" "LEAST_SETTING" "[I") (.int 9)) (.int 1)) (by decide +kernel))
  obtain ⟨tL, htL, hTL⟩ := va_Tof (N := 10) (f := fun j => .int (st_L j)) (A := fun q : Nat => s.heap.size ≤ q) (by decide) harrL hlenL helL (fun a h => Nat.not_le.mpr h)
  have hZL := va_Zref (A := fun q : Nat => s.heap.size ≤ q) (hts _ tm_377) (hts _ tw_37.1) htL (fun a h => Nat.not_le.mpr h)
  have harrM : (Cond.arrayOf (.static "IntervalRouting" "MOST_SETTING" "[I") .int).before #[Value.ref b] s = true := hs _ (by decide +kernel)
  have hlenM := va_eqt (hs (Cond.eq (.length (.static "IntervalRouting" "MOST_SETTING" "[I")) (.int 10)) (by decide +kernel))
  have helM : ∀ j : Nat, j < 10 → (Term.elem (.static "IntervalRouting" "MOST_SETTING" "[I") (.int (Int32.ofNat j))).eval #[Value.ref b] s none [] s = some (.int (st_M j)) := by
    intro j hj
    obtain rfl | rfl | rfl | rfl | rfl | rfl | rfl | rfl | rfl | rfl : j = 0 ∨ j = 1 ∨ j = 2 ∨ j = 3 ∨ j = 4 ∨ j = 5 ∨ j = 6 ∨ j = 7 ∨ j = 8 ∨ j = 9 := by omega
    · exact va_eqt (z := 20) (hs (Cond.eq (.elem (.static "IntervalRouting" "MOST_SETTING" "[I") (.int 0)) (.int 20)) (by decide +kernel))
    · exact va_eqt (z := 100) (hs (Cond.eq (.elem (.static "IntervalRouting" "MOST_SETTING" "[I") (.int 1)) (.int 100)) (by decide +kernel))
    · exact va_eqt (z := 2) (hs (Cond.eq (.elem (.static "IntervalRouting" "MOST_SETTING" "[I") (.int 2)) (.int 2)) (by decide +kernel))
    · exact va_eqt (z := 2) (hs (Cond.eq (.elem (.static "IntervalRouting" "MOST_SETTING" "[I") (.int 3)) (.int 2)) (by decide +kernel))
    · exact va_eqt (z := 0) (hs (Cond.eq (.elem (.static "IntervalRouting" "MOST_SETTING" "[I") (.int 4)) (.int 0)) (by decide +kernel))
    · exact va_eqt (z := 0) (hs (Cond.eq (.elem (.static "IntervalRouting" "MOST_SETTING" "[I") (.int 5)) (.int 0)) (by decide +kernel))
    · exact va_eqt (z := 30000) (hs (Cond.eq (.elem (.static "IntervalRouting" "MOST_SETTING" "[I") (.int 6)) (.int 30000)) (by decide +kernel))
    · exact va_eqt (z := 1) (hs (Cond.eq (.elem (.static "IntervalRouting" "MOST_SETTING" "[I") (.int 7)) (.int 1)) (by decide +kernel))
    · exact va_eqt (z := 20) (hs (Cond.eq (.elem (.static "IntervalRouting" "MOST_SETTING" "[I") (.int 8)) (.int 20)) (by decide +kernel))
    · exact va_eqt (z := 50) (hs (Cond.eq (.elem (.static "IntervalRouting" "MOST_SETTING" "[I") (.int 9)) (.int 50)) (by decide +kernel))
  obtain ⟨tM, htM, hTM⟩ := va_Tof (N := 10) (f := fun j => .int (st_M j)) (A := fun q : Nat => s.heap.size ≤ q) (by decide) harrM hlenM helM (fun a h => Nat.not_le.mpr h)
  have hZM := va_Zref (A := fun q : Nat => s.heap.size ≤ q) (hts _ tm_379) (hts _ tw_37.1) htM (fun a h => Nat.not_le.mpr h)
  obtain ⟨a, cell, h1, h2, h3, h4⟩ := Jvm.Lib.length_spec hlenF
  obtain ⟨a', cc, cell', k, g1, g2, g3, g4, g5, g6, -⟩ := Cond.exactly_spec (hs (Cond.exactly (.static "IntervalRouting" "FIRST_SETTING" "[I") "[I") (by decide +kernel))
  obtain ⟨q1, q2, q3, -⟩ := State.arrayAt?_spec h2
  cases htF.symm.trans h1
  cases htF.symm.trans g1
  cases q1.symm.trans g3
  cases hcI.symm.trans g2
  have hsz : cell.slots.size = 10 := by
    have e : (10 : Int32) = Int32.ofNat cell.slots.size := Value.int.inj h4
    have e2 : nI 10 = nI cell.slots.size := e
    exact ((nI_eq (by decide) h3).mp e2).symm
  refine ⟨fun q => if q = (0, 47) then tL else if q = (0, 48) then tM else tF, ⟨hZL, hTL, hZM, hTM⟩, hZF, ⟨cell, q1, g6, q3, q2, ?_, Nat.not_le.mpr (Array.getElem?_eq_some_iff.mp q1).1⟩, va_Nw.of rfl (hts _ tm_66)⟩
  obtain ⟨cell2, c1, -, -, -, -, c6, -⟩ := hTF
  cases q1.symm.trans c1
  apply Array.ext_getElem?
  intro j
  by_cases hj : j < 10
  · rw [c6 j hj]
    exact (arrV_read cI (fun j => .int (st_F j)) hj).symm
  · rw [Array.getElem?_eq_none (by omega), Array.getElem?_eq_none (by rw [show (vp_cell cI (10, .inl st_F)).slots.size = 10 from arrV_size _ _ _]; omega)]
set_option maxHeartbeats 4000000 in
set_option maxRecDepth 100000 in
/-- YOUR PART: from the entry -/
theorem whole_start {p : Program} {e : Env} {s : State} {m : MethodId} {below : List Frame} {meth : Method} {c : Code} (hF : FF_) (l : Launch) (hflags : l.flags = flags0) {b L : Nat} {xs : Nat → Int32} (hL : L ≤ 2560) (C0 : lw_At p s m meth c b L xs) : W p l e room_1 s m #[Value.ref b] below meth c s.heap [] 0 0 (lw_Z below #[Value.ref b] s) (entryFrame m ([Value.ref b] : List Value).toArray 4) := by
  obtain ⟨hx, hb, hr, hml, hown, hts, hX, hbl, hlocks, hgv⟩ := id C0
  obtain ⟨dC, dI, cI, cZ, hK⟩ := w_tabs hts
  obtain ⟨ad0, hE⟩ := w_stat hts hgv (hK.2 0 (cI, .int) rfl).2
  have hg : ∀ w, gd_T w → w.before #[Value.ref b] s = true := fun w hw => hts w hw.1
  have hN : ∀ w ∈ nw_L, va_Nw w s := fun w hw => va_Nw.of (nw_tabs w hw) (hts w (nw_in w hw))
  have hA : ∀ q : Nat, s.heap.size ≤ q → (fun q : Nat => s.heap.size ≤ q) q := fun _ h => h
  have hS : va_S (fun q : Nat => s.heap.size ≤ q) s.heap s.heap [] := va_S.rf
  have hP : va_P (dC, dI) vwCl [] s.heap := fun k q h => by simp at h
  have hD : va_D (fun q : Nat => s.heap.size ≤ q) [] := ⟨fun i j p q h => by simp at h, fun k q h => by simp at h⟩
  have hl := lv_entry ([.ref b] : List Value) (n := 4) (Nat.le_of_ble_eq_true rfl)
  rw [lg_entry_eq]
  generalize (lg_sl ([.ref b]) ++ List.replicate (4 - (lg_sl ([.ref b])).length) Slot.unset).toArray = ls at hl ⊢
  have hl : lv_has ls 4 [(0, .ref b)] := hl
  refine va_new (ci := 7) (fs := bf_ (k_fld 0 18)) (C := RX7) (T := TX7) (N := 8) (Ts := lw_tbl.filter goodWord) hx hb (fun w hw => hg w (List.mem_filter.mp hw)) (fun w hw => by simpa [gd_T] using (cl_ok 7 RX7 TX7 8 rfl).1 w hw) tyX7 tyX7_ok hown (hg _ tw_51) (hg _ tw_52) (hg _ tw_37) hK hP hD hS hA rfl bk_X7 (Nat.le_of_ble_eq_true rfl) (Nat.le_of_ble_eq_true rfl) dl_0 (fun q7 H7 hP7 hD7 hS7 => ?_)
  refine lv_dup hx hb dl_3 rfl ?_
  refine l_new (z := mX7_init) (ws := []) (st := [.ref q7]) hx hb hml hown hg hN hK hA (k_X7 (ad0 := ad0)) E7_bl (fun U hU hW => E7_at hE hS7 (fun q hq => ?_) hU hW) mi_X7_init rfl rfl tw_53 dl_4 (by decide) (by decide) (Nat.le_of_ble_eq_true rfl) (Nat.le_of_ble_eq_true rfl) (show 1 ≤ 8 by decide) hl.1 hP7 hD7 hS7 (fun ad7 e7 H locs hP hD hS => ?_)
  · rcases hq with ⟨k2, e2, z⟩ | z
    · have hk2 : k2 = 0 := by have := (List.getElem?_eq_some_iff.mp z).1; simp at this; exact this
      subst hk2
      cases z
      exact hD7.2 0 _ rfl
    · exact Nat.le_trans hS7.1 z
  clear hP7 hD7 hS7
  subst e7
  refine lv_astore_n (lv' := [(1, .ref (ad7 (0, 18))), (0, .ref b)]) hx hb dl_7 rfl hl (by decide) rfl (fun ls hl => ?_)
  refine va_new (ci := 8) (fs := bf_ (k_fld 0 33)) (C := RX8) (T := TX8) (N := 15) (Ts := lw_tbl.filter goodWord) hx hb (fun w hw => hg w (List.mem_filter.mp hw)) (fun w hw => by simpa [gd_T] using (cl_ok 8 RX8 TX8 15 rfl).1 w hw) tyX8 tyX8_ok hown (hg _ tw_670) (hg _ tw_671) (hg _ tw_46) hK hP hD hS hA rfl bk_X8 (Nat.le_of_ble_eq_true rfl) (Nat.le_of_ble_eq_true rfl) dl_8 (fun q8 H8 hP8 hD8 hS8 => ?_)
  refine lv_dup hx hb dl_11 rfl ?_
  refine l_new (z := mX8_init) (st := [.ref q8]) hx hb hml hown hg hN hK hA (k_X8 (ad0 := ad0)) E8_bl (fun U hU hW => E8_at hE.1 hS8 (fun q hq => ?_) hU hW) mi_X8_init rfl rfl tw_672 dl_12 (by decide) (by decide) (Nat.le_of_ble_eq_true rfl) (Nat.le_of_ble_eq_true rfl) (show 1 ≤ 8 by decide) hl.1 hP8 hD8 hS8 (fun ad8 e8 H locs hP hD hS => ?_)
  · rcases hq with ⟨k2, e2, z⟩ | z
    · have hk2 : k2 = 0 := by have := (List.getElem?_eq_some_iff.mp z).1; simp at this; exact this
      subst hk2
      cases z
      exact hD8.2 _ _ (by rw [List.getElem?_append_right (Nat.le_refl _), Nat.sub_self]; rfl)
    · exact Nat.le_trans hS8.1 z
  clear hP8 hD8 hS8
  subst e8
  refine lv_astore_n (lv' := [(2, .ref (ad8 (0, 33))), (1, .ref (ad7 (0, 18))), (0, .ref b)]) hx hb dl_15 rfl hl (by decide) rfl (fun ls hl => ?_)
  refine lv_iconst (v := nI 0) hx hb dl_16 rfl ?_
  refine lv_istore_n (lv' := [(3, .int (nI 0)), (2, .ref (ad8 (0, 33))), (1, .ref (ad7 (0, 18))), (0, .ref b)]) hx hb dl_17 rfl hl (by decide) rfl (fun ls hl => ?_)
  obtain ⟨ad, had⟩ : ∃ ad : Nat × Nat → Nat, ad = fun q => if q.2 < 33 then ad7 q else if q.2 < 46 then ad8 q else ad0 q := ⟨_, rfl⟩
  have ew : w_of ad7 cI cZ plI_ VI_ ++ w_of ad8 cI cZ plM_ VM_ = w_of ad cI cZ plA_ VA_ := by
    have e1 : w_of ad7 cI cZ plI_ VI_ = w_of ad cI cZ plI_ VA_ := w_cong lc_I (fun q hq => by
      have := pl_I q hq
      refine ⟨by rw [had]; exact (if_pos this).symm, ?_⟩
      unfold VA_
      rw [if_neg (by omega)])
    have e2 : w_of ad8 cI cZ plM_ VM_ = w_of ad cI cZ plM_ VA_ := w_cong lc_M (fun q hq => by
      have := pl_M q hq
      refine ⟨by rw [had]; show _ = if q.2 < 33 then _ else if q.2 < 46 then _ else _; rw [if_neg (by omega), if_pos (by omega)], ?_⟩
      unfold VA_
      rw [if_pos (by omega)])
    rw [e1, e2]
    exact w_app.symm
  have hP : va_P (dC, dI) vwCl (w_of ad cI cZ plA_ VA_) H := by rw [← ew]; exact hP
  have hD : va_D (fun q : Nat => s.heap.size ≤ q) (w_of ad cI cZ plA_ VA_) := by rw [← ew]; exact hD
  have hst : s_tat ad (fun q : Nat => s.heap.size ≤ q) s s.heap := by rw [had]; exact hE.1
  have hLw : Lw_ p s m meth c b L xs dC dI cI cZ ad := ⟨C0, hL, hx, hb, hr, hml, hown, hg, hN, hlocks, by decide, by decide, Nat.le_refl _, Nat.le_refl _, hK, w_D hD, lc_A, hst⟩
  have a1 : ad (0, 18) = ad7 (0, 18) := by rw [had]; rfl
  have a2 : ad (0, 33) = ad8 (0, 33) := by rw [had]; rfl
  refine W.widen (k := 600000) (n := 7302250) (Nat.le_of_ble_eq_true rfl) (Nat.le_of_ble_eq_true rfl) ?_
  exact q_loop (l := l) (e := e) (below := below) hF hLw L 0 4 VA_ (by omega) (by omega) LV_0 H locs ls hP hS (by rw [a1, a2]; exact lv_sub hl [3, 2, 1, 0] rfl) trivial
