/-! base 4: contracts over a memory, and calls -/
def A_of (PL : List (Nat × Nat)) (ad : Nat × Nat → Nat) : Nat → Prop := fun q => ∃ p ∈ PL, q = ad p
def ws_ (y : mi_T) : List Cond := .code y.1 y.2.1 y.2.2.1 y.2.2.2.1 :: lw_tbl.filter goodWord
def rm_ (y : mi_T) : Room := { frames := y.2.2.2.2.1, cells := 0, slots := 0, locals := y.2.2.2.2.2 }
def Pr_ (PL : List (Nat × Nat)) (V : Mm_) (dC : Nat → ClassId) (dI : Nat → Nat → Nat) (cI cZ : ClassId) (ad : Nat × Nat → Nat) (U : State) : Prop :=
  va_P (dC, dI) vwCl (w_of ad cI cZ PL V) U.heap ∧ va_K (dC, dI) vwCl (t_ys cI cZ) U ∧ va_D (A_of PL ad) (w_of ad cI cZ PL (fun _ _ _ => 0)) ∧ (∀ w ∈ nw_L, va_Nw w U) ∧ s_tat ad (A_of PL ad) U U.heap
def Qc_ (PL : List (Nat × Nat)) (dC : Nat → ClassId) (dI : Nat → Nat → Nat) (cI cZ : ClassId) (ad : Nat × Nat → Nat) (Q : Option Int32 → Mm_ → Prop) : Array Value → State → Outcome → State → Prop := fun _ st oc t =>
  (∃ (r : Option Int32) (V' : Mm_), oc = .returned (r.map Value.int) ∧ Q r V' ∧ va_P (dC, dI) vwCl (w_of ad cI cZ PL V') t.heap) ∧ va_F (A_of PL ad) st t
/-- method y, called with avs over the memory V: comes back, and Q holds of answer and memory -/
def Ca_ (PL : List (Nat × Nat)) (y : mi_T) (avs : List Vl_) (V : Mm_) (Q : Option Int32 → Mm_ → Prop) : Prop :=
  ∀ (l : Launch) (dC : Nat → ClassId) (dI : Nat → Nat → Nat) (cI cZ : ClassId) (ad : Nat × Nat → Nat), p_lc PL → ok_s PL avs → Met l y.1 (ws_ y) (rm_ y) (va_Pc (avs.map (tr_ ad)) (Pr_ PL V dC dI cI cZ ad)) (Qc_ PL dC dI cI cZ ad Q) 0 0 (A_of PL ad)
def Qi_ (P : Int32 → Mm_ → Prop) : Option Int32 → Mm_ → Prop := fun r V => ∃ x, r = some x ∧ P x V
def Qv_ (P : Mm_ → Prop) : Option Int32 → Mm_ → Prop := fun r V => r = none ∧ P V
abbrev Ci_ (PL : List (Nat × Nat)) (y : mi_T) (avs : List Vl_) (V : Mm_) (P : Int32 → Mm_ → Prop) : Prop := Ca_ PL y avs V (Qi_ P)
abbrev Cv_ (PL : List (Nat × Nat)) (y : mi_T) (avs : List Vl_) (V : Mm_) (P : Mm_ → Prop) : Prop := Ca_ PL y avs V (Qv_ P)
/-- the point is a method's end -/
def Re_ (y : mi_T) (Q : Option Int32 → Mm_ → Prop) : Ph_ := fun pc _ st V =>
  (∃ (r : Int32) (ty : FieldType), dc_at y pc .ireturn 1 ∧ st = [vI r] ∧ y.2.2.2.1 = some ty ∧ narrow ty (.int r) = .int r ∧ Q (some r) V) ∨ (dc_at y pc .return_ 1 ∧ st = [] ∧ y.2.2.2.1 = none ∧ Q none V)
theorem Met_of {l : Launch} {y : MethodName} {ws ws' : List Cond} {rm : Room} {Pc : Array Value → State → Prop} {Qc : Array Value → State → Outcome → State → Prop} {mc ms : Nat} {free : Addr → Prop} {cc : ByteArray} {maxL : Nat} {ret : Option FieldType}
    (hy : plainFor y = true) (hw : ws = Cond.code y cc maxL ret :: ws')
    (body : ∀ p e s m args below meth c s₁, BodyLoose p l y (headSpec ws rm) cc maxL ret e s m args below meth c s₁ → c.maxLocals = maxL → Pc args s →
      W p l e (headSpec ws rm).room s m args below meth c s.heap [] 0 0 (MQ below Qc args s mc ms free) (entryFrame m args maxL)) : Met l y ws rm Pc Qc mc ms free := by
  refine MetFree.of_bodySF (code := cc) (maxLocals := maxL) (ret := ret) hy ?_ ?_
  · intro args s m h hn
    obtain ⟨meth, c, h1, h2, h3, h4, h5, h6, -, -⟩ := Cond.code_spec hn (atoms_spec (ws := ws) h _ (by rw [hw]; exact List.mem_cons_self))
    exact ⟨meth, c, h1, h2, h3, h4, h5, h6⟩
  · intro p e s m args below meth c s₁ B hml hP _
    have hh0 : s₁.heap = s.heap := by rw [B.state]; rfl
    obtain ⟨t, a1, o, b1, b2, b3⟩ := body p e s m args below meth c s₁ B hml hP s₁ hh0 (Stand.of_body B)
    exact ⟨t, o, a1, b1, b2, ⟨b3.1, b3.2⟩⟩
theorem en_args (ad : Nat × Nat → Nat) (k : Nat) : ∀ (avs : List Vl_) (i : Nat), l_en ad i (avs.map some ++ List.replicate k none) = lv_args i (avs.map (tr_ ad))
  | [], i => by
    induction k generalizing i with
    | zero => rfl
    | succ k ih => simp only [List.map_nil, List.nil_append, List.replicate_succ]; exact ih (i + 1)
  | v :: r, i => by
    have h := en_args ad k r (i + 1)
    simp only [List.map_cons, List.cons_append, lv_args, tr_cat]
    show (i, tr_ ad v) :: l_en ad (i + 1) _ = _
    rw [h]
    rfl
theorem ok_args {PL : List (Nat × Nat)} (k : Nat) : ∀ {avs : List Vl_}, ok_s PL avs → ok_l PL (avs.map some ++ List.replicate k none)
  | [], _ => by
    induction k with
    | zero => trivial
    | succ k ih => simpa [List.replicate_succ, ok_l] using ih
  | v :: r, h => ⟨h.1, ok_args k h.2⟩
theorem lg_len (ad : Nat × Nat → Nat) : ∀ (avs : List Vl_), (lg_sl (avs.map (tr_ ad))).length = avs.length
  | [] => rfl
  | v :: r => by
    have h := lg_len ad r
    simp only [lg_sl] at h ⊢
    simp [List.flatMap_cons, tr_cat, h]
theorem Ca_.of {PL : List (Nat × Nat)} {y : mi_T} {avs : List Vl_} {V : Mm_} {Q : Option Int32 → Mm_ → Prop} (hy : plainFor y.1 = true) (k : Nat) {lo : List (Option Vl_)} (hlo : avs.map some ++ List.replicate k none = lo) (hlen : avs.length ≤ y.2.2.1) (h : Rc_ PL y 0 lo [] V (Re_ y Q)) : Ca_ PL y avs V Q := by
  subst hlo
  intro l dC dI cI cZ ad hpl hok
  refine Met_of (cc := y.2.1) (maxL := y.2.2.1) (ret := y.2.2.2.1) hy rfl ?_
  intro p e s m args below meth c s₁ B hml hv
  obtain ⟨rfl, hP, hK, hD, hN, hSt⟩ := hv
  have hts := atoms_spec (ws := ws_ y) B.pre
  have hx : Cx_ PL y p (headSpec (ws_ y) (rm_ y)).room s m (avs.map (tr_ ad)).toArray meth c 0 0 dC dI cI cZ ad (A_of PL ad) :=
    ⟨B.exec, B.bytes, B.returns, hml, findClass_of_methodNamed B.named, fun w hw => hts w (List.mem_cons_of_mem _ (List.mem_filter.mpr ⟨hw.1, hw.2⟩)), hN, B.notSynchronized, Nat.le_refl _, Nat.le_refl _, Nat.le_refl _, Nat.le_refl _, hK, hD, hpl, hSt⟩
  rw [lg_entry_eq]
  have hl := lv_entry (avs.map (tr_ ad)) (n := y.2.2.1) (by rw [lg_len]; exact hlen)
  rw [← en_args ad k] at hl
  refine h hx (Z := MQ below (Qc_ PL dC dI cI cZ ad Q) (avs.map (tr_ ad)).toArray s 0 0 (A_of PL ad)) (fun pc' lo' st' V' hre => ?_) s.heap [] _ hP va_S.rf hl trivial (ok_args k hok)
  intro H locs ls hP hS hl hst hlo
  rcases hre with ⟨r, ty, hd, rfl, hr, hn, hq⟩ | ⟨hd, rfl, hr, hq⟩
  · exact W.zret (v := r) (ty := ty) hx.1 hx.2.1 (hx.2.2.1.trans hr) hn (fun t ht hW => ⟨⟨some r, V', rfl, hq, by rw [ht]; exact hP⟩, hS.F ht⟩) hS.2.2 hd B.notSynchronized
  · exact W.vret hx.1 hx.2.1 (hx.2.2.1.trans hr) (fun t ht hW => ⟨⟨none, V', rfl, hq, by rw [ht]; exact hP⟩, hS.F ht⟩) hS.2.2 hd B.notSynchronized
theorem Ca_.mono {PL : List (Nat × Nat)} {y : mi_T} {avs : List Vl_} {V : Mm_} {Q Q' : Option Int32 → Mm_ → Prop} (h : Ca_ PL y avs V Q) (hq : ∀ r V', Q r V' → Q' r V') : Ca_ PL y avs V Q' := by
  intro l dC dI cI cZ ad hpl hok p e ha hc hk s m args below hf happ hP hK
  obtain ⟨n, o, h1, h2, h3, ⟨⟨r, V', e1, e2, e3⟩, hF⟩, h5⟩ := h l dC dI cI cZ ad hpl hok p e ha hc hk s m args below hf happ hP hK
  exact ⟨n, o, h1, h2, h3, ⟨⟨r, V', e1, hq r V' e2, e3⟩, hF⟩, h5⟩
section RET
variable {PL : List (Nat × Nat)} {y : mi_T} {pc pc2 : Nat} {lo : List (Option Vl_)} {st : List Vl_} {V : Mm_} {Φ : Ph_}
theorem r_iret {P : Int32 → Mm_ → Prop} {x : Int32} (hd : dc_at y pc .ireturn 1) (hr : y.2.2.2.1 = some .int) (hq : P x V) : Rc_ PL y pc lo [vI x] V (Re_ y (Qi_ P)) := Rc_.done (Or.inl ⟨x, .int, hd, rfl, hr, rfl, x, rfl, hq⟩)
theorem r_zret {P : Int32 → Mm_ → Prop} {x : Int32} (hd : dc_at y pc .ireturn 1) (hr : y.2.2.2.1 = some .boolean) (hx : x = 0 ∨ x = 1) (hq : P x V) : Rc_ PL y pc lo [vI x] V (Re_ y (Qi_ P)) := Rc_.done (Or.inl ⟨x, .boolean, hd, rfl, hr, by rcases hx with rfl | rfl <;> decide, x, rfl, hq⟩)
theorem r_vret {P : Mm_ → Prop} (hd : dc_at y pc .return_ 1) (hr : y.2.2.2.1 = none) (hq : P V) : Rc_ PL y pc lo [] V (Re_ y (Qv_ P)) := Rc_.done (Or.inr ⟨hd, rfl, hr, rfl, hq⟩)
end RET
theorem nw_tabs : ∀ w ∈ nw_L, w.onTables = true := by decide +kernel
theorem nw_warm {s U : State} (hW : s.WarmedH U.vm) : ∀ w ∈ nw_L, va_Nw w s → va_Nw w U := by
  intro w hw h
  simp only [nw_L, List.mem_cons, List.not_mem_nil, or_false] at hw
  rcases hw with rfl | rfl | rfl | rfl | rfl | rfl | rfl | rfl | rfl | rfl | rfl | rfl | rfl <;> exact va_Nw.warmM hW h
theorem frame_blind {PL : List (Nat × Nat)} {V : Mm_} {dC : Nat → ClassId} {dI : Nat → Nat → Nat} {cI cZ : ClassId} {ad : Nat × Nat → Nat} {av : List Value} : FrameBlind (va_Pc av (Pr_ PL V dC dI cI cZ ad)) := by
  intro a U g mk h
  obtain ⟨h0, hP, hK, hD, hN, h1, h2, h3, h4⟩ := h
  have hv : U.vm.Alike (U.calling g mk a).vm := Vm.Alike.refl U.vm
  exact ⟨h0, hP, va_K.moved hv hK, hD, fun w hw => va_Nw.same (nw_tabs w hw) (rfl : U.vm = (U.calling g mk a).vm) (hN w hw), h1.moved hv, h2.moved hv, h3.moved hv, h4.moved hv⟩
theorem good_all {ws : List Cond} (h : ∀ w ∈ ws, gd_T w) : GoodIn (lw_tbl.filter goodWord) ws := fun w hw => ⟨List.mem_filter.mpr (h w hw), good_of_word (h w hw).2⟩
theorem ws_good {z : mi_T} {n : Nat} (hz : mk_at z n) : ∀ w ∈ ws_ z, gd_T w := by
  intro w hw
  rcases List.mem_cons.mp hw with h | h
  · rw [h]; exact hz.2.1
  · exact List.mem_filter.mp h
section CTX
variable {PL : List (Nat × Nat)} {y : mi_T} {p : Program} {l : Launch} {e : Env} {R : Room} {s : State} {m : MethodId} {args : Array Value} {below : List Frame} {meth : Method} {c : Code} {cells slots : Nat} {Z : State → Prop} {dC : Nat → ClassId} {dI : Nat → Nat → Nat} {cI cZ : ClassId} {ad : Nat × Nat → Nat} {A : Nat → Prop}
theorem cx_sub (hx : Cx_ PL y p R s m args meth c cells slots dC dI cI cZ ad A) : ∀ q, A_of PL ad q → A q := by
  rintro q ⟨a, ha, rfl⟩
  obtain ⟨i, -, hw⟩ := w_at (ad := ad) (cI := cI) (cZ := cZ) (V := fun _ _ _ => 0) ha
  exact hx.2.2.2.2.2.2.2.2.2.2.2.2.2.1.2 i _ hw
/-- the callee's start, from the caller's point -/
theorem cx_pre {V : Mm_} {H : Heap} {locs : List Loc} (hx : Cx_ PL y p R s m args meth c cells slots dC dI cI cZ ad A) (hP : va_P (dC, dI) vwCl (w_of ad cI cZ PL V) H) (hS : va_S A s.heap H locs) (av : List Value) : ∀ U : State, U.heap = H → s.WarmedH U.vm → va_Pc av (Pr_ PL V dC dI cI cZ ad) av.toArray U := by
  intro U hU hW
  have hs := cx_sub hx
  obtain ⟨-, -, -, -, -, -, hN, -, -, -, -, -, hK, hD, -, h1, h2, h3, h4⟩ := hx
  have hq : ∀ a : Nat, a < s.heap.size → ¬ A a → H[a]? = s.heap[a]? := fun a h1 h2 => hS.2.1 a h1 h2
  refine ⟨rfl, by rw [hU]; exact hP, va_K.moved hW.alike hK, hD.weaken (fun k q hk _ => ?_), fun w hw => nw_warm hW w hw (hN w hw), ?_, ?_, ?_, ?_⟩
  · rw [w_of, List.getElem?_map] at hk
    cases hp : PL[k]? with
    | none => rw [hp] at hk; cases hk
    | some a =>
      rw [hp] at hk
      cases hk
      exact ⟨a, List.mem_of_getElem? hp, rfl⟩
  · rw [hU]; exact ((h1.kept hq).narrow hs).moved hW.alike
  · rw [hU]; exact ((h2.kept hq).narrow hs).moved hW.alike
  · rw [hU]; exact ((h3.kept hq).narrow hs).moved hW.alike
  · rw [hU]; exact ((h4.kept hq).narrow hs).moved hW.alike
theorem cx_use {Q : Option Int32 → Mm_ → Prop} {a : Array Value} {H : Heap} {locs : List Loc} {ls : Array Slot} {pc : Nat} {st stk : List Vl_} (run : va_Run p l e R s m args below meth c H locs cells slots 0 0 (F0 m pc ls (stk.map (tr_ ad))) (st.map (tr_ ad)) (Qc_ PL dC dI cI cZ ad Q a) (A_of PL ad)) (hA : ∀ q, A_of PL ad q → A q) (hS : va_S A s.heap H locs)
    (kk : ∀ (ro : Option Int32) (V' : Mm_), Q ro V' → ∀ (H1 : Heap) (locs1 : List Loc), va_P (dC, dI) vwCl (w_of ad cI cZ PL V') H1 → va_S A s.heap H1 locs1 → W p l e R s m args below meth c H1 locs1 cells slots Z (F0 m (pc + 3) ls ((ro.toList.map vI ++ st).map (tr_ ad)))) : W p l e R s m args below meth c H locs cells slots Z (F0 m pc ls (stk.map (tr_ ad))) := by
  intro T hT X
  obtain ⟨v, st₀, t, T', L, h0, X', hL, e1, e2, ⟨⟨ro, V', hv, hq, hP'⟩, hz, hk⟩, go⟩ := run T hT X
  rw [h0] at hz hk
  rw [← e1] at hP' hz
  have hv2 : v = ro.map Value.int := by injection hv
  obtain ⟨t2, a1, b1⟩ := kk ro V' hq T'.heap (locs ++ L) hP' ⟨Nat.le_trans hS.1 hz, fun q h1 h2 => by rw [e1, hk q (Nat.lt_of_lt_of_le h1 hS.1) (fun z => h2 (hA q z))]; exact hS.2.1 q h1 h2, fun q hq => by
      rcases List.mem_append.mp hq with h | h
      · exact hS.2.2 q h
      · exact hA _ (hL q h)⟩ T' rfl X'
  refine ⟨t2, go t2 ?_, b1⟩
  have e3 : v.toList ++ st.map (tr_ ad) = (ro.toList.map vI ++ st).map (tr_ ad) := by
    subst hv2
    cases ro <;> rfl
  show Steps p.tables e below (T'.setTop { F0 m pc ls (stk.map (tr_ ad)) with pc := pc + 3, stack := v.toList ++ st.map (tr_ ad) }) t2
  rw [e3]
  exact a1
theorem ct_sum (ad : Nat × Nat → Nat) : ∀ (st : List Vl_), ((st.map (tr_ ad)).map fun v => v.category).sum = st.length
  | [] => rfl
  | v :: r => by
    have h := ct_sum ad r
    simp only [List.map_cons, List.sum_cons, tr_cat, h, List.length_cons]
    omega
theorem ok_app {PL : List (Nat × Nat)} : ∀ {a b : List Vl_}, ok_s PL (a ++ b) → ok_s PL a ∧ ok_s PL b
  | [], b, h => ⟨trivial, h⟩
  | v :: r, b, h => ⟨⟨h.1, (ok_app (a := r) h.2).1⟩, (ok_app (a := r) h.2).2⟩
theorem ok_mem {PL : List (Nat × Nat)} : ∀ {a : List Vl_}, ok_s PL a ↔ ∀ v ∈ a, ok_v PL v
  | [] => by simp [ok_s]
  | v :: r => by
    have := ok_mem (PL := PL) (a := r)
    simp only [ok_s, List.forall_mem_cons, this]
theorem ok_rev {PL : List (Nat × Nat)} {a : List Vl_} (h : ok_s PL a.reverse) : ok_s PL a := ok_mem.mpr fun v hv => ok_mem.mp h v (List.mem_reverse.mpr hv)
theorem ok_ro {PL : List (Nat × Nat)} {st : List Vl_} (ro : Option Int32) (h : ok_s PL st) : ok_s PL (ro.toList.map vI ++ st) := by
  cases ro with
  | none => exact h
  | some x => exact ⟨trivial, h⟩
end CTX
section CALLS
variable {PL : List (Nat × Nat)} {y z : mi_T} {pc pc2 n idx : Nat} {lo : List (Option Vl_)} {stk st as : List Vl_} {V : Mm_} {Φ : Ph_} {Q : Option Int32 → Mm_ → Prop}
/-- room: what the callee needs beside its own frame -/
def rm_ok (y z : mi_T) : Prop := z.2.2.2.2.1 + 1 ≤ y.2.2.2.2.1 ∧ 8 + (z.2.2.1 + 11) + z.2.2.2.2.2 ≤ y.2.2.2.2.2
theorem r_callV {g r : Nat} (hd : dc_at y pc (.invokevirtual idx) 3) (hlk : gd_T (.methodLink y.1.cls idx z.1)) (hz : mv_at z n) (hrm : rm_ok y z) (hr : r < 46) (hcl : ∃ ci C T N, k_cls r = some ci ∧ vwCl[ci]? = some (C, T, N) ∧ z.1.cls = C) (hn : as.length = n) (hs : stk = as.reverse ++ vR g r :: st) (hl8 : st.length ≤ 8) (h2 : pc + 3 = pc2)
    (hC : Ca_ PL z (vR g r :: as) V Q) (kk : ∀ (ro : Option Int32) (V' : Mm_), Q ro V' → Rc_ PL y pc2 lo (ro.toList.map vI ++ st) V' Φ) : Rc_ PL y pc lo stk V Φ := by
  subst h2
  subst hs
  intro p l e R s m args below meth c cells slots Z dC dI cI cZ ad A hx hk H locs ls hP hS hl hst hlo
  obtain ⟨ci, C, T, N, hc, hcv, hcC⟩ := hcl
  have hst2 := ok_app hst
  have hok : ok_s PL (vR g r :: as) := ⟨hst2.2.1, ok_rev hst2.1⟩
  have hM := hC l dC dI cI cZ ad hx.2.2.2.2.2.2.2.2.2.2.2.2.2.2.1 hok
  have hq := hst2.2.1.pl hr
  obtain ⟨i, hi, hw⟩ := w_at (ad := ad) (cI := cI) (cZ := cZ) (V := V) hq
  rw [c_obj hc] at hw
  have hts : ∀ w ∈ lw_tbl.filter goodWord, w.before args s = true := fun w hw => hx.2.2.2.2.2.1 w (List.mem_filter.mp hw)
  obtain ⟨z1, z2, z3⟩ := hz
  have run := va_runV (p := p) (l := l) (e := e) (R := R) (below := below) (meth := meth) (H := H) (locs := locs) (cells := cells) (slots := slots) (As := as.map (tr_ ad)) (rest := st.map (tr_ ad)) (b := ad (g, r)) (C := z.1.cls) (g := F0 m pc ls ((as.reverse ++ vR g r :: st).map (tr_ ad))) (n := n) (index := idx)
    (⟨hx.1, hx.2.1, hx.2.2.2.1, hx.2.2.2.2.1, hts⟩ : CallFix p m c y.2.1 y.2.2.1 s args (lw_tbl.filter goodWord) y.1.cls) hM
    ⟨callB_of n hts (good_all (ws_good z3)) rfl rfl rfl (hx.2.2.2.2.2.1 _ z3.1) (hx.2.2.2.2.2.1 _ hlk) ⟨z3.2.2.1.1, z3.2.2.1.2, z3.2.2.2.1⟩ ⟨Nat.le_trans hrm.1 hx.2.2.2.2.2.2.2.2.1, Nat.le_trans hrm.2 hx.2.2.2.2.2.2.2.2.2.1⟩, hx.2.2.2.2.2.1 _ z1, hx.2.2.2.2.2.1 _ z2⟩
    ⟨frame_blind, by rw [hcC]; exact va_recv hx.2.2.2.2.2.2.2.2.2.2.2.2.1 hP hcv hw, fun U hU hW => cx_pre hx hP hS _ U hU hW⟩ rfl (by rw [List.length_map]; exact hn) hl.1 (by simp [tr_]) (lv_room (by rw [ct_sum]; exact hl8)) hd ⟨hx.2.2.2.2.2.2.2.2.2.2.1, hx.2.2.2.2.2.2.2.2.2.2.2.1⟩
  exact cx_use run (cx_sub hx) hS (fun ro V' hq H1 locs1 hP1 hS1 => kk ro V' hq hx hk H1 locs1 ls hP1 hS1 hl (ok_ro ro hst2.2.2) hlo)
theorem r_callS (hd : dc_at y pc (.invokestatic idx) 3) (hlk : gd_T (.methodLink y.1.cls idx z.1)) (hz : ms_at z n) (hrm : rm_ok y z) (hn : as.length = n) (hs : stk = as.reverse ++ st) (hl8 : st.length ≤ 8) (h2 : pc + 3 = pc2)
    (hC : Ca_ PL z as V Q) (kk : ∀ (ro : Option Int32) (V' : Mm_), Q ro V' → Rc_ PL y pc2 lo (ro.toList.map vI ++ st) V' Φ) : Rc_ PL y pc lo stk V Φ := by
  subst h2
  subst hs
  intro p l e R s m args below meth c cells slots Z dC dI cI cZ ad A hx hk H locs ls hP hS hl hst hlo
  have hst2 := ok_app hst
  have hok : ok_s PL as := ok_rev hst2.1
  have hM := hC l dC dI cI cZ ad hx.2.2.2.2.2.2.2.2.2.2.2.2.2.2.1 hok
  have hts : ∀ w ∈ lw_tbl.filter goodWord, w.before args s = true := fun w hw => hx.2.2.2.2.2.1 w (List.mem_filter.mp hw)
  obtain ⟨z1, z3⟩ := hz
  have run := va_runS (p := p) (l := l) (e := e) (R := R) (below := below) (meth := meth) (H := H) (locs := locs) (cells := cells) (slots := slots) (As := as.map (tr_ ad)) (rest := st.map (tr_ ad)) (g := F0 m pc ls ((as.reverse ++ st).map (tr_ ad))) (n := n) (index := idx)
    (⟨hx.1, hx.2.1, hx.2.2.2.1, hx.2.2.2.2.1, hts⟩ : CallFix p m c y.2.1 y.2.2.1 s args (lw_tbl.filter goodWord) y.1.cls) hM
    ⟨callB_of n hts (good_all (ws_good z3)) rfl rfl rfl (hx.2.2.2.2.2.1 _ z3.1) (hx.2.2.2.2.2.1 _ hlk) ⟨z3.2.2.1.1, z3.2.2.1.2, z3.2.2.2.1⟩ ⟨Nat.le_trans hrm.1 hx.2.2.2.2.2.2.2.2.1, Nat.le_trans hrm.2 hx.2.2.2.2.2.2.2.2.2.1⟩, hx.2.2.2.2.2.1 _ z1⟩
    ⟨frame_blind, fun U hU hW => cx_pre hx hP hS _ U hU hW⟩ rfl (by rw [List.length_map]; exact hn) hl.1 (by simp) (lv_room (by rw [ct_sum]; exact hl8)) hd ⟨hx.2.2.2.2.2.2.2.2.2.2.1, hx.2.2.2.2.2.2.2.2.2.2.2.1⟩
  exact cx_use run (cx_sub hx) hS (fun ro V' hq H1 locs1 hP1 hS1 => kk ro V' hq hx hk H1 locs1 ls hP1 hS1 hl (ok_ro ro hst2.2) hlo)
theorem r_callN {host : String} (hd : dc_at y pc (.invokestatic idx) 3) (hlk : Cond.methodLinkNest y.1.cls idx z.1 host ∈ nw_L) (hz : ms_at z n) (hrm : rm_ok y z) (hn : as.length = n) (hs : stk = as.reverse ++ st) (hl8 : st.length ≤ 8) (h2 : pc + 3 = pc2)
    (hC : Ca_ PL z as V Q) (kk : ∀ (ro : Option Int32) (V' : Mm_), Q ro V' → Rc_ PL y pc2 lo (ro.toList.map vI ++ st) V' Φ) : Rc_ PL y pc lo stk V Φ := by
  subst h2
  subst hs
  intro p l e R s m args below meth c cells slots Z dC dI cI cZ ad A hx hk H locs ls hP hS hl hst hlo
  have hst2 := ok_app hst
  have hok : ok_s PL as := ok_rev hst2.1
  have hM := hC l dC dI cI cZ ad hx.2.2.2.2.2.2.2.2.2.2.2.2.2.2.1 hok
  have hts : ∀ w ∈ lw_tbl.filter goodWord, w.before args s = true := fun w hw => hx.2.2.2.2.2.1 w (List.mem_filter.mp hw)
  obtain ⟨z1, z3⟩ := hz
  have run := va_runSN (p := p) (l := l) (e := e) (R := R) (below := below) (meth := meth) (H := H) (locs := locs) (cells := cells) (slots := slots) (As := as.map (tr_ ad)) (rest := st.map (tr_ ad)) (g := F0 m pc ls ((as.reverse ++ st).map (tr_ ad))) (n := n) (index := idx)
    (⟨hx.1, hx.2.1, hx.2.2.2.1, hx.2.2.2.2.1, hts⟩ : CallFix p m c y.2.1 y.2.2.1 s args (lw_tbl.filter goodWord) y.1.cls) hM
    ⟨va_cnB n hts (good_all (ws_good z3)) rfl rfl rfl (hx.2.2.2.2.2.2.1 _ hlk) (hx.2.2.2.2.2.1 _ z3.1) ⟨z3.2.2.1.1, z3.2.2.1.2, z3.2.2.2.1⟩ ⟨Nat.le_trans hrm.1 hx.2.2.2.2.2.2.2.2.1, Nat.le_trans hrm.2 hx.2.2.2.2.2.2.2.2.2.1⟩, hx.2.2.2.2.2.1 _ z1, trivial⟩
    ⟨frame_blind, fun U hU hW => cx_pre hx hP hS _ U hU hW⟩ rfl (by rw [List.length_map]; exact hn) hl.1 (by simp) (lv_room (by rw [ct_sum]; exact hl8)) hd ⟨hx.2.2.2.2.2.2.2.2.2.2.1, hx.2.2.2.2.2.2.2.2.2.2.2.1⟩
  exact cx_use run (cx_sub hx) hS (fun ro V' hq H1 locs1 hP1 hS1 => kk ro V' hq hx hk H1 locs1 ls hP1 hS1 hl (ok_ro ro hst2.2) hlo)
/-- Math.min, Math.max, System.arraycopy of ints -/
theorem r_min {a b : Int32} (hd : dc_at y pc (.invokestatic idx) 3) (hlk : gd_T (.methodLink y.1.cls idx Lib.Math.min.name)) (hst0 : gd_T (.static Lib.Math.min.name)) (hini : gd_T (.initialized "java/lang/Math")) (hcode : gd_T (.code Lib.Math.min.name Lib.Math.min.code 2 (some .int))) (hrm : 1 ≤ y.2.2.2.2.1 ∧ 21 ≤ y.2.2.2.2.2) (hl8 : st.length ≤ 8) (h2 : pc + 3 = pc2)
    (kk : Rc_ PL y pc2 lo (vI (if b < a then b else a) :: st) V Φ) : Rc_ PL y pc lo (vI b :: vI a :: st) V Φ := by
  subst h2
  intro p l e R s m args below meth c cells slots Z dC dI cI cZ ad A hx hk H locs ls hP hS hl hst hlo
  exact va_mmin hx.1 hx.2.1 (by rw [hx.2.2.2.1]; exact hl.1.symm) hx.2.2.2.2.1 (hx.2.2.2.2.2.1 _ hlk) (hx.2.2.2.2.2.1 _ hst0) (hx.2.2.2.2.2.1 _ hini) (hx.2.2.2.2.2.1 _ hcode) (Nat.le_trans hrm.1 hx.2.2.2.2.2.2.2.2.1) (by have := Nat.le_trans hrm.2 hx.2.2.2.2.2.2.2.2.2.1; rw [ct_sum]; omega) hx.2.2.2.2.2.2.2.2.2.2.1 hx.2.2.2.2.2.2.2.2.2.2.2.1 hd (kk hx hk H locs ls hP hS hl ⟨trivial, hst.2.2⟩ hlo)
theorem r_max {a b : Int32} (hd : dc_at y pc (.invokestatic idx) 3) (hlk : gd_T (.methodLink y.1.cls idx Lib.Math.max.name)) (hst0 : gd_T (.static Lib.Math.max.name)) (hini : gd_T (.initialized "java/lang/Math")) (hcode : gd_T (.code Lib.Math.max.name Lib.Math.max.code 2 (some .int))) (hrm : 1 ≤ y.2.2.2.2.1 ∧ 21 ≤ y.2.2.2.2.2) (hl8 : st.length ≤ 8) (h2 : pc + 3 = pc2)
    (kk : Rc_ PL y pc2 lo (vI (if a < b then b else a) :: st) V Φ) : Rc_ PL y pc lo (vI b :: vI a :: st) V Φ := by
  subst h2
  intro p l e R s m args below meth c cells slots Z dC dI cI cZ ad A hx hk H locs ls hP hS hl hst hlo
  exact va_mmax hx.1 hx.2.1 (by rw [hx.2.2.2.1]; exact hl.1.symm) hx.2.2.2.2.1 (hx.2.2.2.2.2.1 _ hlk) (hx.2.2.2.2.2.1 _ hst0) (hx.2.2.2.2.2.1 _ hini) (hx.2.2.2.2.2.1 _ hcode) (Nat.le_trans hrm.1 hx.2.2.2.2.2.2.2.2.1) (by have := Nat.le_trans hrm.2 hx.2.2.2.2.2.2.2.2.2.1; rw [ct_sum]; omega) hx.2.2.2.2.2.2.2.2.2.2.1 hx.2.2.2.2.2.2.2.2.2.2.2.1 hd (kk hx hk H locs ls hP hS hl ⟨trivial, hst.2.2⟩ hlo)
theorem r_copy {g0 r0 g r j : Nat} {n : Int32} (hd : dc_at y pc (.invokestatic idx) 3) (hlk : gd_T (.methodLink y.1.cls idx arraycopyName)) (hnat : gd_T (.native arraycopyName)) (hst0 : gd_T (.static arraycopyName)) (hini : gd_T (.initialized "java/lang/System")) (hr0 : r0 < 46) (hr : r < 46) (hc0 : k_cls r0 = none) (hc : k_cls r = none) (hz0 : k_isZ r0 = false) (hz : k_isZ r = false) (hj : n = nI j) (hj1 : j ≤ k_len r0) (hj2 : j ≤ k_len r) (hrm : 1 ≤ y.2.2.2.2.1 ∧ 26 ≤ y.2.2.2.2.2) (hl8 : st.length ≤ 8) (h2 : pc + 3 = pc2)
    (kk : Rc_ PL y pc2 lo st (a_set V g r (va_cpy (V g0 r0) (V g r) 0 0 j)) Φ) : Rc_ PL y pc lo (vI n :: vI 0 :: vR g r :: vI 0 :: vR g0 r0 :: st) V Φ := by
  subst h2
  subst hj
  intro p l e R s m args below meth c cells slots Z dC dI cI cZ ad A hx hk H locs ls hP hS hl hst hlo
  have hlen : k_len r < 2 ^ 31 := by
    unfold k_len
    split <;> decide
  have hjl : j < 2 ^ 31 := Nat.lt_of_le_of_lt hj2 hlen
  have hq := hst.2.2.1.pl hr
  have hq0 := hst.2.2.2.2.1.pl hr0
  obtain ⟨q, hq1, hw⟩ := w_at (ad := ad) (cI := cI) (cZ := cZ) (V := V) hq
  obtain ⟨q', hq1', hw'⟩ := w_at (ad := ad) (cI := cI) (cZ := cZ) (V := V) hq0
  rw [c_arr hc, hz] at hw
  rw [c_arr hc0, hz0] at hw'
  have hD := w_D (V' := V) hx.2.2.2.2.2.2.2.2.2.2.2.2.2.1
  refine va_copyi hx.1 hx.2.1 (by rw [hx.2.2.2.1]; exact hl.1.symm) hx.2.2.2.2.1 (hx.2.2.2.2.2.1 _ hlk) (hx.2.2.2.2.2.1 _ hnat) (hx.2.2.2.2.2.1 _ hst0) (hx.2.2.2.2.2.1 _ hini) hx.2.2.2.2.2.2.2.2.2.2.2.2.1 hP hD hS q' q 0 0 (ty := .int) hw' hw rfl rfl rfl (by decide) (by decide) (nI_pos hjl) ?_ ?_ (fun i _ => rfl) (Nat.le_trans hrm.1 hx.2.2.2.2.2.2.2.2.1) ?_ hd (fun H1 locs1 hP1 hD1 hS1 => ?_)
  · rw [nI_clamp hjl, sb_cl0, Nat.zero_add]; exact hj1
  · rw [nI_clamp hjl, sb_cl0, Nat.zero_add]; exact hj2
  · have := Nat.le_trans hrm.2 hx.2.2.2.2.2.2.2.2.2.1
    have e : nativeFrameWords "java/lang/System" "arraycopy" 5 = 7 := by decide +kernel
    rw [ct_sum, e]
    omega
  · rw [nI_clamp hjl, sb_cl0] at hP1
    rw [w_set (g := g) (r := r) (f := va_cpy (V g0 r0) (V g r) 0 0 j) hD hq1 (by rw [c_arr hc, hz, a_self])] at hP1
    exact kk hx hk H1 locs1 ls hP1 hS1 hl hst.2.2.2.2.2 hlo
end CALLS
