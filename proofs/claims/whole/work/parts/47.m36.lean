/-! the two objects' constructors: written by wip/whole/m36.py -/
def st_F : Nat → Int32 := fun j => ([4, 13, 0, 1, 0, 0, 4000, 0, 4, 8] : List Int32).getD j 0
/-- the static array that is cloned -/
def fs_t (cI : ClassId) (a : Nat) (A : Nat → Prop) (H : Heap) : Prop := ∃ cell : Cell, H[a]? = some cell ∧ cell.cls = cI ∧ cell.vm.isStatics = false ∧ cell.vm ≠ .unknown ∧ cell.slots = (vp_cell cI (10, .inl st_F)).slots ∧ ¬ A a
def E8_ (ad0 : Nat × Nat → Nat) (_ : ClassId) (A : Nat → Prop) (U : State) : Prop := s_tat ad0 A U U.heap
def E7_ (ad0 : Nat × Nat → Nat) (cI : ClassId) (A : Nat → Prop) (U : State) : Prop := s_tat ad0 A U U.heap ∧ va_Z "IntervalRouting" "FIRST_SETTING" "[I" (.ref (ad0 (0, 49))) A U U.heap ∧ fs_t cI (ad0 (0, 49)) A U.heap ∧ va_Nw (.castable "[I" "java/lang/Cloneable") U
theorem E8_bl {ad0 : Nat × Nat → Nat} {cI : ClassId} (A : Nat → Prop) (U U' : State) (h : U.vm = U'.vm) (hh : U.heap = U'.heap) (hE : E8_ ad0 cI A U) : E8_ ad0 cI A U' := by
  have hv : U.vm.Alike U'.vm := by rw [h]; exact Vm.Alike.refl _
  obtain ⟨h1, h2, h3, h4⟩ := hE
  unfold E8_
  rw [← hh]
  exact ⟨h1.moved hv, h2.moved hv, h3.moved hv, h4.moved hv⟩
theorem E7_bl {ad0 : Nat × Nat → Nat} {cI : ClassId} (A : Nat → Prop) (U U' : State) (h : U.vm = U'.vm) (hh : U.heap = U'.heap) (hE : E7_ ad0 cI A U) : E7_ ad0 cI A U' := by
  have hv : U.vm.Alike U'.vm := by rw [h]; exact Vm.Alike.refl _
  obtain ⟨⟨h1, h2, h3, h4⟩, h5, h6, h7⟩ := hE
  unfold E7_
  rw [← hh]
  exact ⟨⟨h1.moved hv, h2.moved hv, h3.moved hv, h4.moved hv⟩, h5.moved hv, h6, va_Nw.same rfl h h7⟩
section NEWS2
variable {y : mi_T} {p : Program} {l : Launch} {e : Env} {R : Room} {s : State} {m : MethodId} {args : Array Value} {below : List Frame} {meth : Method} {c : Code} {Z : State → Prop} {dC : Nat → ClassId} {dI : Nat → Nat → Nat} {cI cZ : ClassId} {h0 : Nat} {A : Nat → Prop} {k n pc : Nat} {st : List Value} {ws : va_W}
theorem n_gets {idx a : Nat} (hx : Cy_ y p R s m args meth c dC dI cI cZ A) (hZ : va_Z "IntervalRouting" "FIRST_SETTING" "[I" (.ref a) A s s.heap) (hf : gd_T (.fieldLink y.1.cls idx "IntervalRouting" "FIRST_SETTING" "[I")) (hd : dc_at y pc (.getstatic idx) 3) (kk : Nt_ y p l e R s m args below meth c Z dC dI h0 A k n (pc + 3) (.ref a :: st) ws) : Nt_ y p l e R s m args below meth c Z dC dI h0 A k n pc st ws :=
  fun H locs ls hP hD hS hl => va_gets hx.1 hx.2.1 hZ hS hx.2.2.2.2.1 (hx.2.2.2.2.2.1 _ hf) (fun _ h => h) hd (kk H locs ls hP hD hS hl)
theorem n_clone {a : Nat} (hx : Cy_ mX7_init p R s m args meth c dC dI cI cZ A) (hT : fs_t cI a A s.heap) (hw : va_Nw (.castable "[I" "java/lang/Cloneable") s) (hd : dc_at mX7_init pc (.invokevirtual 13) 3) (hc : k + 1 ≤ R.cells) (hs : n + 10 ≤ R.slots)
    (kk : ∀ q : Nat, Nt_ mX7_init p l e R s m args below meth c Z dC dI h0 A (k + 1) (n + 10) (pc + 3) [.ref q, .ref h0] (ws ++ [(q, .inl (cI, 10, .inl st_F))])) : Nt_ mX7_init p l e R s m args below meth c Z dC dI h0 A k n pc [.ref a, .ref h0] ws := by
  intro H locs ls hP hD hS hl
  obtain ⟨h1, h2, h3, h4, h5, h6, h7, h8, h9, h10, h11, h12, h13⟩ := hx
  obtain ⟨cell, g1, g2, g3, g4, g5, g6⟩ := hT
  have hH : H[a]? = some cell := (hS.2.1 a (Array.getElem?_eq_some_iff.mp g1).1 g6).trans g1
  obtain ⟨c0, t0, f1, f2, f3⟩ := Cond.castable_spec (va_Nw.use (A := args) rfl hw)
  have hnm : s.vm.findClass "[I" = some cI := (h12.2 0 (cI, .int) rfl).2
  cases hnm.symm.trans f1
  have hsz : cell.slots.size = 10 := by rw [g5]; exact arrV_size _ _ _
  have hcell : ({ cls := cell.cls, slots := cell.slots } : Cell) = vp_cell cI (10, .inl st_F) := by rw [g2, g5]; rfl
  intro T hTT X
  obtain ⟨-, kA, hkA, comp, hkind⟩ := State.isArrayOf_alike X.warmed.alike ((h12.2 0 (cI, .int) rfl).1 0 (fun _ => .null))
  obtain ⟨-, kS, hkS, compS, hkindS⟩ := (h12.2 0 (cI, .int) rfl).1 0 (fun _ => .null)
  obtain ⟨vm', X', st'⟩ := X.cloneArray h1 h5 (h6 _ tw_61) (h6 _ tw_62) (h6 _ tw_63) (h6 _ tw_64) (h6 _ tw_65) (a := a) (cell := cell) (by rw [hTT]; exact hH) (fun k h => by rw [h] at g3; cases g3) g4 (by rw [g2]; exact hnm) f2 (by rw [g2]; exact f3)
    (fun i v hv => by
      rw [g5] at hv
      have hi : i < 10 := by
        have := (Array.getElem?_eq_some_iff.mp hv).1
        rwa [show (vp_cell cI (10, .inl st_F)).slots.size = 10 from arrV_size _ _ _] at this
      have hv2 : v = .int (st_F i) := Option.some.inj (hv.symm.trans (arrV_read cI (fun j => .int (st_F j)) hi))
      subst hv2
      rw [g2]
      have hk' : T.vm.classes[cI]? = some kA := hkA
      simp [State.fitsSlot, State.slotType?, hk', hkind, fits])
    (g := F0 m pc ls [.ref a, .ref h0]) rfl (by rw [h4]; exact hl.1) rfl (by rw [h2]; exact hd) (Nat.le_trans (by decide) h10) (by have := Nat.le_trans (show 15 ≤ mX7_init.2.2.2.2.2 by decide) h11; simpa [F0, Value.category] using this) hc (by rw [hsz]; exact hs) (hloader := by rw [g2]; exact Vm.clonesLoader_of_array hkS hkindS)
  rw [hcell, hsz] at X'
  generalize hH1 : H.push (vp_cell cI (10, .inl st_F)) = H1
  have z1 : H1.size = H.size + 1 := by rw [← hH1, Array.size_push]
  have e1 : H1[H.size]? = some (vp_cell cI (10, .inl st_F)) := by rw [← hH1, Array.getElem?_push_size]
  have o1 : ∀ q : Nat, q < H.size → H1[q]? = H[q]? := fun q hq => by rw [← hH1, Array.getElem?_push, if_neg (Nat.ne_of_lt hq)]
  obtain ⟨t, b1, b2⟩ := kk H.size H1 locs ls ((hP.kept (fun i x hi => o1 x.1 ((hP i x hi).lt))).app (fun i x hi => by
      have hz : i < 1 := (List.getElem?_eq_some_iff.mp hi).1
      rw [show i = 0 by omega] at hi
      cases hi
      exact e1)) (hD.push hP rfl (h13 _ hS.1)) ⟨Nat.le_trans hS.1 (by omega), fun x q1 q2 => (o1 x (Nat.lt_of_lt_of_le q1 hS.1)).trans (hS.2.1 x q1 q2), hS.2.2⟩ hl
    ((T.setVm vm').pushCell (vp_cell cI (10, .inl st_F))) (by rw [← hH1, ← hTT]; rfl) X'
  refine ⟨t, st' t ?_, b2⟩
  rw [hcell, hTT]
  exact b1
theorem n_cast {idx q q0 : Nat} {x : vp_A} (hx : Cy_ y p R s m args meth c dC dI cI cZ A) (hlk : gd_T (.classLink y.1.cls idx "[I")) (hd : dc_at y pc (.checkcast idx) 3) (ha : ws[q0]? = some (q, .inl (cI, x))) (kk : Nt_ y p l e R s m args below meth c Z dC dI h0 A k n (pc + 3) (.ref q :: st) ws) : Nt_ y p l e R s m args below meth c Z dC dI h0 A k n pc (.ref q :: st) ws := by
  intro H locs ls hP hD hS hl
  exact va_castA hx.1 hx.2.1 hx.2.2.2.2.1 (hx.2.2.2.2.2.1 _ hlk) hP q0 ha (hx.2.2.2.2.2.2.2.2.2.2.2.1.2 0 (cI, .int) rfl).2 hd (kk H locs ls hP hD hS hl)
/-- a number put into the array made last, at the world's end -/
theorem n_iast {q N j : Nat} {f : Nat → Int32} {i v : Int32} (hx : Cy_ y p R s m args meth c dC dI cI cZ A) (hd : dc_at y pc .iastore 1) (hi : i = nI j) (hj : j < N) (hN : N < 2 ^ 31) (kk : Nt_ y p l e R s m args below meth c Z dC dI h0 A k n (pc + 1) st (ws ++ [(q, .inl (cI, N, .inl (upd f j v)))])) : Nt_ y p l e R s m args below meth c Z dC dI h0 A k n pc (.int v :: .int i :: .ref q :: st) (ws ++ [(q, .inl (cI, N, .inl f))]) := by
  intro H locs ls hP hD hS hl
  have last : (ws ++ [(q, (.inl (cI, N, .inl f) : va_E))])[ws.length]? = some (q, .inl (cI, N, .inl f)) := by rw [List.getElem?_append_right (Nat.le_refl _), Nat.sub_self]; rfl
  refine va_iast hx.1 hx.2.1 hx.2.2.2.2.2.2.2.2.2.2.2.1 hP hD hS ws.length 0 last rfl (by rw [hi]; exact vp_in_nI hj hN) hd (fun H1 locs1 hP1 hD1 hS1 => ?_)
  rw [hi, nI_clamp (Nat.lt_trans hj hN)] at hP1 hD1
  have e : (ws ++ [(q, (.inl (cI, N, .inl f) : va_E))]).set ws.length (q, .inl (cI, N, .inl (upd f j v))) = ws ++ [(q, .inl (cI, N, .inl (upd f j v)))] := by
    rw [List.set_append_right _ _ (Nat.le_refl _), Nat.sub_self]
    rfl
  rw [e] at hP1 hD1
  exact kk H1 locs1 ls hP1 hD1 hS1 hl
/-- the object stands: the rest of the constructor runs over places -/
theorem n_rc {PL : List (Nat × Nat)} {g r : Nat} {V V' : Mm_} {ad : Nat × Nat → Nat} (hx : Cy_ y p R s m args meth c dC dI cI cZ A) (hlc : p_lc PL) (hpl : (g, r) ∈ PL) (hc : k ≤ R.cells) (hs : n ≤ R.slots) (hst : s_tat ad A s s.heap) (hrt : ad (g, r) = h0) (h : Rc_ PL y pc [some (vR g r)] [] V (Re_ y (Qv_ (fun V2 => V2 = V')))) : Nt_ y p l e R s m args below meth c (MQ below (Qn_ dC dI cI cZ h0 PL (g, r) V' A) args s k n A) dC dI h0 A k n pc [] (w_of ad cI cZ PL V) := by
  intro H locs ls hP hD hS hl
  obtain ⟨h1, h2, h3, h4, h5, h6, h7, h8, h9, h10, h11, h12, h13⟩ := hx
  have hx2 : Cx_ PL y p R s m args meth c k n dC dI cI cZ ad A := ⟨h1, h2, h3, h4, h5, h6, h7, h8, h10, h11, hc, hs, h12, w_D hD, hlc, hst⟩
  subst hrt
  refine h hx2 (Z := MQ below (Qn_ dC dI cI cZ (ad (g, r)) PL (g, r) V' A) args s k n A) (fun pc' lo' st' V2 hre => ?_) H locs ls hP hS hl trivial ⟨Or.inl hpl, trivial⟩
  intro H1 locs1 ls1 hP1 hS1 hl1 hst1 hlo1
  rcases hre with ⟨x, ty, -, -, -, -, h', -⟩ | ⟨hd, rfl, hr, -, rfl⟩
  · cases h'
  · exact W.vret h1 h2 (h3.trans hr) (fun t ht hW => ⟨⟨ad, rfl, rfl, by rw [ht]; exact hP1, w_D hD⟩, hS1.F ht⟩) hS1.2.2 hd h8
end NEWS2
def lcb_ (PL : List (Nat × Nat)) : Bool := PL.all (fun q => (k_fld q.1 q.2).all (fun o => match o with | none => true | some q' => PL.contains q'))
theorem lcb_ok {PL : List (Nat × Nat)} (h : lcb_ PL = true) : p_lc PL := by
  intro q hq k q' hk
  have h1 := List.all_eq_true.mp (List.all_eq_true.mp h q hq) _ (List.mem_of_getElem? hk)
  exact List.contains_iff_mem.mp h1
def plI_ : List (Nat × Nat) := (0, 18) :: ([(0, 19)] ++ plS_ 1 ++ plS_ 2 ++ plS_ 3 ++ pl3_ ++ pl6_ ++ [(0, 32)])
def plM_ : List (Nat × Nat) := (0, 33) :: [(0, 34), (0, 35), (0, 36), (0, 37), (0, 38), (0, 39), (0, 40), (0, 41), (0, 42), (0, 43), (0, 44), (0, 45)]
theorem lc_I : p_lc plI_ := lcb_ok (by decide +kernel)
theorem lc_M : p_lc plM_ := lcb_ok (by decide +kernel)
theorem st_X7_init_56 : sv_at mX7_init 56 mX2_startAnew 1 := ⟨tw_251, mv_X2_startAnew, ⟨by decide +kernel, by decide +kernel⟩⟩
theorem st_X8_init_51 : sv_at mX8_init 51 mX8_begins 0 := ⟨tw_676, mv_X8_begins, ⟨by decide +kernel, by decide +kernel⟩⟩
theorem fv_cong {ad ad' : Nat × Nat → Nat} {f : Nat → Int32} : ∀ (l : List (Option (Nat × Nat))) (k : Nat), (∀ (i : Nat) (q' : Nat × Nat), l[i]? = some (some q') → ad q' = ad' q') → f_vals ad f k l = f_vals ad' f k l
  | [], _, _ => rfl
  | some q :: r, k, h => by simp only [f_vals]; rw [h 0 q rfl, fv_cong r (k + 1) (fun i q' hi => h (i + 1) q' (by simpa using hi))]
  | none :: r, k, h => by simp only [f_vals]; rw [fv_cong r (k + 1) (fun i q' hi => h (i + 1) q' (by simpa using hi))]
theorem c_cong {ad ad' : Nat × Nat → Nat} {cI cZ : ClassId} {V V' : Mm_} {q : Nat × Nat} (h1 : ∀ (k : Nat) (q' : Nat × Nat), (k_fld q.1 q.2)[k]? = some (some q') → ad q' = ad' q') (h2 : V q.1 q.2 = V' q.1 q.2) : c_of ad cI cZ V q = c_of ad' cI cZ V' q := by
  unfold c_of
  rw [h2, fv_cong _ 0 h1]
theorem w_cong {ad ad' : Nat × Nat → Nat} {cI cZ : ClassId} {V V' : Mm_} {PL : List (Nat × Nat)} (hlc : p_lc PL) (h : ∀ q ∈ PL, ad q = ad' q ∧ V q.1 q.2 = V' q.1 q.2) : w_of ad cI cZ PL V = w_of ad' cI cZ PL V' :=
  List.map_congr_left (fun q hq => by rw [(h q hq).1, c_cong (fun k q' hk => (h q' (hlc q hq k q' hk)).1) (h q hq).2])
theorem w_app {ad : Nat × Nat → Nat} {cI cZ : ClassId} {V : Mm_} {a b : List (Nat × Nat)} : w_of ad cI cZ (a ++ b) V = w_of ad cI cZ a V ++ w_of ad cI cZ b V := List.map_append
theorem w_cons {ad : Nat × Nat → Nat} {cI cZ : ClassId} {V : Mm_} {q : Nat × Nat} {b : List (Nat × Nat)} : w_of ad cI cZ (q :: b) V = (ad q, c_of ad cI cZ V q) :: w_of ad cI cZ b V := rfl
theorem plS_g1 : p_lc (plS_ 1) ∧ ∀ q ∈ plS_ 1, q.1 = 1 := ⟨lcb_ok (by decide +kernel), by decide⟩
theorem plS_g2 : p_lc (plS_ 2) ∧ ∀ q ∈ plS_ 2, q.1 = 2 := ⟨lcb_ok (by decide +kernel), by decide⟩
theorem plS_g3 : p_lc (plS_ 3) ∧ ∀ q ∈ plS_ 3, q.1 = 3 := ⟨lcb_ok (by decide +kernel), by decide⟩
theorem pl3_g : p_lc pl3_ ∧ ∀ q ∈ pl3_, q.1 = 0 ∧ 20 ≤ q.2 ∧ q.2 ≤ 29 := ⟨lcb_ok (by decide +kernel), by decide⟩
theorem pl6_g : p_lc pl6_ ∧ ∀ q ∈ pl6_, q.1 = 0 ∧ 30 ≤ q.2 ∧ q.2 ≤ 31 := ⟨lcb_ok (by decide +kernel), by decide⟩
def VI0_ : Mm_ := a_set V0_ 0 19 st_F
def VI_ : Mm_ := sa_ VI0_ 1 (nI 4)
def f37_ : Nat → Int32 := upd (upd (upd (upd (upd (upd (upd (upd (upd (upd (fun _ => 0) 0 4) 1 13) 2 0) 3 1) 4 0) 5 0) 6 4000) 7 0) 8 4) 9 8
def f38_ : Nat → Int32 := upd (upd (upd (upd (upd (upd (upd (upd (upd (upd (fun _ => 0) 0 1) 1 1) 2 0) 3 0) 4 1) 5 1) 6 100) 7 0) 8 1) 9 1
def f39_ : Nat → Int32 := upd (upd (upd (upd (upd (upd (upd (upd (upd (upd (fun _ => 0) 0 20) 1 100) 2 2) 3 2) 4 0) 5 0) 6 30000) 7 1) 8 20) 9 50
def f33_ : Nat → Int32 := upd (fun _ => 0) 0 4
def VM0_ : Mm_ := a_set (a_set (a_set (a_set V0_ 0 33 f33_) 0 37 f37_) 0 38 f38_) 0 39 f39_
def VM_ : Mm_ := a_set VM0_ 0 34 (fr_ be_ (VM0_ 0 34) 3596)

set_option maxRecDepth 100000 in
set_option maxHeartbeats 4000000 in
theorem k_X7 {ad0 : Nat × Nat → Nat} : Nw_ mX7_init 7 18 plI_ (0, 18) VI_ 68 9616 (E7_ ad0) := by
  refine Nw_.of (by decide) rfl rfl (fun p l e R s m args below meth c dC dI cI cZ h0 A hx hRc hRs hE => ?_)
  refine n_as (ws' := (h0, .inr (7, [.null, .null, .null, .null, .null, .null, .null, .int 0])) :: []) rfl ?_
  refine n_aload hx dX7_init_0 ?_
  refine n_obj hx tw_56 dX7_init_1 (by decide) (by decide) ?_
  refine n_aload hx dX7_init_4 ?_
  refine n_gets hx hE.2.1 tw_59 dX7_init_5 ?_
  refine n_clone hx hE.2.2.1 hE.2.2.2 dX7_init_8 (by omega) (by omega) (fun q8 => ?_)
  refine n_as (ws' := (h0, .inr (7, [.null, .null, .null, .null, .null, .null, .null, .int 0])) :: ([] ++ [(q8, .inl (cI, 10, .inl st_F))])) rfl ?_
  refine n_cast hx tw_67 dX7_init_11 (q0 := 1) rfl ?_
  refine n_putF (C := RX7) (T := TX7) (N := 8) (k0 := 0) (fs' := [.ref q8, .null, .null, .null, .null, .null, .null, .int 0]) (ty := (.array .int)) hx rfl (by decide) tw_278 dX7_init_14 rfl rfl (by decide +kernel) rfl rfl (show 0 < 8 by decide) rfl ?_
  refine n_aload hx dX7_init_17 ?_
  refine n_newc (C := RX2) (T := TX2) (N := 8) (fs := bf_ (k_fld 0 0)) tyX2 tyX2_ok hx (ci := 2) rfl dX7_init_18 tw_68 tw_69 tw_38 bk_X2 (by omega) (by omega) (fun q18 => ?_)
  refine n_dup hx dX7_init_21 ?_
  refine n_call hx (k_X2 (g := 1)) mi_X2_init rfl rfl (host := "IntervalRouting") (List.mem_of_getElem? (i := 0) rfl) dX7_init_22 ⟨by decide, by decide⟩ (by omega) (by omega) (show 2 ≤ 8 by decide) (fun ad22 e22 => ?_)
  subst e22
  refine n_as (ws' := (h0, .inr (7, [.ref q8, .null, .null, .null, .null, .null, .null, .int 0])) :: (([] ++ [(q8, .inl (cI, 10, .inl st_F))]) ++ w_of ad22 cI cZ (plS_ 1) V0_)) rfl ?_
  refine n_putF (C := RX7) (T := TX7) (N := 8) (k0 := 1) (fs' := [.ref q8, .ref (ad22 (1, 0)), .null, .null, .null, .null, .null, .int 0]) (ty := (.object "IntervalRouting$State")) hx rfl (by decide) tw_279 dX7_init_25 rfl rfl (by decide +kernel) rfl rfl (show 1 < 8 by decide) rfl ?_
  refine n_aload hx dX7_init_28 ?_
  refine n_newc (C := RX2) (T := TX2) (N := 8) (fs := bf_ (k_fld 0 0)) tyX2 tyX2_ok hx (ci := 2) rfl dX7_init_29 tw_68 tw_69 tw_38 bk_X2 (by omega) (by omega) (fun q29 => ?_)
  refine n_dup hx dX7_init_32 ?_
  refine n_call hx (k_X2 (g := 2)) mi_X2_init rfl rfl (host := "IntervalRouting") (List.mem_of_getElem? (i := 0) rfl) dX7_init_33 ⟨by decide, by decide⟩ (by omega) (by omega) (show 2 ≤ 8 by decide) (fun ad33 e33 => ?_)
  subst e33
  refine n_as (ws' := (h0, .inr (7, [.ref q8, .ref (ad22 (1, 0)), .null, .null, .null, .null, .null, .int 0])) :: ((([] ++ [(q8, .inl (cI, 10, .inl st_F))]) ++ w_of ad22 cI cZ (plS_ 1) V0_) ++ w_of ad33 cI cZ (plS_ 2) V0_)) rfl ?_
  refine n_putF (C := RX7) (T := TX7) (N := 8) (k0 := 2) (fs' := [.ref q8, .ref (ad22 (1, 0)), .ref (ad33 (2, 0)), .null, .null, .null, .null, .int 0]) (ty := (.object "IntervalRouting$State")) hx rfl (by decide) tw_280 dX7_init_36 rfl rfl (by decide +kernel) rfl rfl (show 2 < 8 by decide) rfl ?_
  refine n_aload hx dX7_init_39 ?_
  refine n_newc (C := RX2) (T := TX2) (N := 8) (fs := bf_ (k_fld 0 0)) tyX2 tyX2_ok hx (ci := 2) rfl dX7_init_40 tw_68 tw_69 tw_38 bk_X2 (by omega) (by omega) (fun q40 => ?_)
  refine n_dup hx dX7_init_43 ?_
  refine n_call hx (k_X2 (g := 3)) mi_X2_init rfl rfl (host := "IntervalRouting") (List.mem_of_getElem? (i := 0) rfl) dX7_init_44 ⟨by decide, by decide⟩ (by omega) (by omega) (show 2 ≤ 8 by decide) (fun ad44 e44 => ?_)
  subst e44
  refine n_as (ws' := (h0, .inr (7, [.ref q8, .ref (ad22 (1, 0)), .ref (ad33 (2, 0)), .null, .null, .null, .null, .int 0])) :: (((([] ++ [(q8, .inl (cI, 10, .inl st_F))]) ++ w_of ad22 cI cZ (plS_ 1) V0_) ++ w_of ad33 cI cZ (plS_ 2) V0_) ++ w_of ad44 cI cZ (plS_ 3) V0_)) rfl ?_
  refine n_putF (C := RX7) (T := TX7) (N := 8) (k0 := 3) (fs' := [.ref q8, .ref (ad22 (1, 0)), .ref (ad33 (2, 0)), .ref (ad44 (3, 0)), .null, .null, .null, .int 0]) (ty := (.object "IntervalRouting$State")) hx rfl (by decide) tw_281 dX7_init_47 rfl rfl (by decide +kernel) rfl rfl (show 3 < 8 by decide) rfl ?_
  refine n_aload hx dX7_init_50 ?_
  refine n_newc (C := RX3) (T := TX3) (N := 11) (fs := bf_ (k_fld 0 20)) tyX3 tyX3_ok hx (ci := 3) rfl dX7_init_51 tw_195 tw_196 tw_43 bk_X3 (by omega) (by omega) (fun q51 => ?_)
  refine n_dup hx dX7_init_54 ?_
  refine n_call hx k_X3 mi_X3_init rfl rfl (host := "IntervalRouting") (List.mem_of_getElem? (i := 5) rfl) dX7_init_55 ⟨by decide, by decide⟩ (by omega) (by omega) (show 2 ≤ 8 by decide) (fun ad55 e55 => ?_)
  subst e55
  refine n_as (ws' := (h0, .inr (7, [.ref q8, .ref (ad22 (1, 0)), .ref (ad33 (2, 0)), .ref (ad44 (3, 0)), .null, .null, .null, .int 0])) :: ((((([] ++ [(q8, .inl (cI, 10, .inl st_F))]) ++ w_of ad22 cI cZ (plS_ 1) V0_) ++ w_of ad33 cI cZ (plS_ 2) V0_) ++ w_of ad44 cI cZ (plS_ 3) V0_) ++ w_of ad55 cI cZ pl3_ V0_)) rfl ?_
  refine n_putF (C := RX7) (T := TX7) (N := 8) (k0 := 4) (fs' := [.ref q8, .ref (ad22 (1, 0)), .ref (ad33 (2, 0)), .ref (ad44 (3, 0)), .ref (ad55 (0, 20)), .null, .null, .int 0]) (ty := (.object "IntervalRouting$Survey")) hx rfl (by decide) tw_282 dX7_init_58 rfl rfl (by decide +kernel) rfl rfl (show 4 < 8 by decide) rfl ?_
  refine n_aload hx dX7_init_61 ?_
  refine n_newc (C := RX6) (T := TX6) (N := 1) (fs := bf_ (k_fld 0 30)) tyX6 tyX6_ok hx (ci := 6) rfl dX7_init_62 tw_240 tw_241 tw_44 bk_X6 (by omega) (by omega) (fun q62 => ?_)
  refine n_dup hx dX7_init_65 ?_
  refine n_call hx k_X6 mi_X6_init rfl rfl (host := "IntervalRouting") (List.mem_of_getElem? (i := 6) rfl) dX7_init_66 ⟨by decide, by decide⟩ (by omega) (by omega) (show 2 ≤ 8 by decide) (fun ad66 e66 => ?_)
  subst e66
  refine n_as (ws' := (h0, .inr (7, [.ref q8, .ref (ad22 (1, 0)), .ref (ad33 (2, 0)), .ref (ad44 (3, 0)), .ref (ad55 (0, 20)), .null, .null, .int 0])) :: (((((([] ++ [(q8, .inl (cI, 10, .inl st_F))]) ++ w_of ad22 cI cZ (plS_ 1) V0_) ++ w_of ad33 cI cZ (plS_ 2) V0_) ++ w_of ad44 cI cZ (plS_ 3) V0_) ++ w_of ad55 cI cZ pl3_ V0_) ++ w_of ad66 cI cZ pl6_ V0_)) rfl ?_
  refine n_putF (C := RX7) (T := TX7) (N := 8) (k0 := 5) (fs' := [.ref q8, .ref (ad22 (1, 0)), .ref (ad33 (2, 0)), .ref (ad44 (3, 0)), .ref (ad55 (0, 20)), .ref (ad66 (0, 30)), .null, .int 0]) (ty := (.object "IntervalRouting$Ways")) hx rfl (by decide) tw_283 dX7_init_69 rfl rfl (by decide +kernel) rfl rfl (show 5 < 8 by decide) rfl ?_
  refine n_aload hx dX7_init_72 ?_
  refine n_bipush (v := 8) hx dX7_init_73 (by decide) ?_
  refine n_newZ (N := 8) hx dX7_init_75 (by decide) (by decide) (by decide) (by omega) (by omega) (fun q75 => ?_)
  refine n_as (ws' := (h0, .inr (7, [.ref q8, .ref (ad22 (1, 0)), .ref (ad33 (2, 0)), .ref (ad44 (3, 0)), .ref (ad55 (0, 20)), .ref (ad66 (0, 30)), .null, .int 0])) :: ((((((([] ++ [(q8, .inl (cI, 10, .inl st_F))]) ++ w_of ad22 cI cZ (plS_ 1) V0_) ++ w_of ad33 cI cZ (plS_ 2) V0_) ++ w_of ad44 cI cZ (plS_ 3) V0_) ++ w_of ad55 cI cZ pl3_ V0_) ++ w_of ad66 cI cZ pl6_ V0_) ++ [(q75, .inl (cZ, 8, .inl (fun _ => 0)))])) rfl ?_
  refine n_putF (C := RX7) (T := TX7) (N := 8) (k0 := 6) (fs' := [.ref q8, .ref (ad22 (1, 0)), .ref (ad33 (2, 0)), .ref (ad44 (3, 0)), .ref (ad55 (0, 20)), .ref (ad66 (0, 30)), .ref q75, .int 0]) (ty := (.array .boolean)) hx rfl (by decide) tw_284 dX7_init_77 rfl rfl (by decide +kernel) rfl rfl (show 6 < 8 by decide) rfl ?_
  refine n_aload hx dX7_init_80 ?_
  refine n_iconst (v := 0) hx dX7_init_81 (by decide) ?_
  refine n_put (C := RX7) (T := TX7) (N := 8) (k0 := 7) (fs' := [.ref q8, .ref (ad22 (1, 0)), .ref (ad33 (2, 0)), .ref (ad44 (3, 0)), .ref (ad55 (0, 20)), .ref (ad66 (0, 30)), .ref q75, .int 0]) (ty := .boolean) hx rfl (by decide) tw_285 dX7_init_82 rfl (by decide +kernel) rfl rfl (show 7 < 8 by decide) rfl ?_
  obtain ⟨ad, had⟩ : ∃ ad : Nat × Nat → Nat, ad = fun q => if q.1 = 0 then (if q.2 = 18 then h0 else if q.2 = 19 then q8 else if q.2 < 20 then ad0 q else if q.2 ≤ 29 then ad55 q else if q.2 ≤ 31 then ad66 q else if q.2 = 32 then q75 else ad0 q) else if q.1 = 1 then ad22 q else if q.1 = 2 then ad33 q else ad44 q := ⟨_, rfl⟩
  refine n_as (ws' := w_of ad cI cZ plI_ VI0_) (by
    have e1 : w_of ad22 cI cZ (plS_ 1) V0_ = w_of ad cI cZ (plS_ 1) VI0_ := w_cong plS_g1.1 (fun q hq => by
      have hg := plS_g1.2 q hq
      exact ⟨by rw [had]; simp only [hg]; rfl, (a_ne (fun z => by rw [hg] at z; exact absurd z.1 (by decide))).symm⟩)
    have e2 : w_of ad33 cI cZ (plS_ 2) V0_ = w_of ad cI cZ (plS_ 2) VI0_ := w_cong plS_g2.1 (fun q hq => by
      have hg := plS_g2.2 q hq
      exact ⟨by rw [had]; simp only [hg]; rfl, (a_ne (fun z => by rw [hg] at z; exact absurd z.1 (by decide))).symm⟩)
    have e3 : w_of ad44 cI cZ (plS_ 3) V0_ = w_of ad cI cZ (plS_ 3) VI0_ := w_cong plS_g3.1 (fun q hq => by
      have hg := plS_g3.2 q hq
      exact ⟨by rw [had]; simp only [hg]; rfl, (a_ne (fun z => by rw [hg] at z; exact absurd z.1 (by decide))).symm⟩)
    have e4 : w_of ad55 cI cZ pl3_ V0_ = w_of ad cI cZ pl3_ VI0_ := w_cong pl3_g.1 (fun q hq => by
      have hg := pl3_g.2 q hq
      exact ⟨by rw [had]; simp only [hg.1]; rw [if_pos trivial, if_neg (by omega), if_neg (by omega), if_neg (by omega), if_pos (by omega)], (a_ne (fun z => by omega)).symm⟩)
    have e5 : w_of ad66 cI cZ pl6_ V0_ = w_of ad cI cZ pl6_ VI0_ := w_cong pl6_g.1 (fun q hq => by
      have hg := pl6_g.2 q hq
      exact ⟨by rw [had]; simp only [hg.1]; rw [if_pos trivial, if_neg (by omega), if_neg (by omega), if_neg (by omega), if_neg (by omega), if_pos (by omega)], (a_ne (fun z => by omega)).symm⟩)
    rw [e1, e2, e3, e4, e5]
    unfold plI_
    rw [w_cons, w_app, w_app, w_app, w_app, w_app, w_app]
    have k1 : (ad (0, 18), c_of ad cI cZ VI0_ (0, 18)) = (h0, (.inr (7, [.ref q8, .ref (ad22 (1, 0)), .ref (ad33 (2, 0)), .ref (ad44 (3, 0)), .ref (ad55 (0, 20)), .ref (ad66 (0, 30)), .ref q75, .int 0]) : va_E)) := by rw [had]; rfl
    have k2 : w_of ad cI cZ [(0, 19)] VI0_ = [(q8, .inl (cI, 10, .inl st_F))] := by rw [had]; rfl
    have k3 : w_of ad cI cZ [(0, 32)] VI0_ = [(q75, .inl (cZ, 8, .inl (fun _ => 0)))] := by rw [had]; rfl
    rw [k1, k2, k3]
    rfl) ?_
  refine n_rc hx lc_I (List.mem_cons_self) (by omega) (by omega) (by rw [had]; exact hE.1) (by rw [had]; rfl) ?_
  refine r_aload_n (pc2 := 86) dX7_init_85 rfl rfl ?_
  refine r_getR (pc2 := 89) dX7_init_86 fl_X7_24 (by decide) rfl rfl rfl ?_
  refine r_iconst (pc2 := 90) (nI 4) dX7_init_89 (by decide) rfl ?_
  refine r_cv1m (pc2 := 93) dX7_init_90 st_X7_init_56 rl_X2_startAnew (Nat.le_of_ble_eq_true rfl) rfl c_X2_startAnew ?_
  exact r_vret dX7_init_93 rfl rfl
