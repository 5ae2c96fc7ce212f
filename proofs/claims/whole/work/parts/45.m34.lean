/-! base 5: constructors, where the world grows: written by wip/whole/m34.py -/
/-- the fields of a new object -/
def bf_ : List (Option (Nat × Nat)) → List Value
  | [] => []
  | some _ :: r => .null :: bf_ r
  | none :: r => .int 0 :: bf_ r
abbrev V0_ : Mm_ := fun _ _ _ => 0
def Cy_ (y : mi_T) (p : Program) (R : Room) (s : State) (m : MethodId) (args : Array Value) (meth : Method) (c : Code) (dC : Nat → ClassId) (dI : Nat → Nat → Nat) (cI cZ : ClassId) (A : Nat → Prop) : Prop :=
  p.tables.exec = Jvm.exec ∧ c.code = y.2.1 ∧ meth.sig.returnType = y.2.2.2.1 ∧ c.maxLocals = y.2.2.1 ∧ s.vm.findClass y.1.cls = some m.cls ∧ (∀ w, gd_T w → w.before args s = true) ∧ (∀ w ∈ nw_L, va_Nw w s) ∧ meth.locks = false ∧ meth.name = "<init>" ∧ y.2.2.2.2.1 ≤ R.frames ∧ y.2.2.2.2.2 ≤ R.locals ∧ va_K (dC, dI) vwCl (t_ys cI cZ) s ∧ (∀ q : Nat, s.heap.size ≤ q → A q)
def Nt_ (y : mi_T) (p : Program) (l : Launch) (e : Env) (R : Room) (s : State) (m : MethodId) (args : Array Value) (below : List Frame) (meth : Method) (c : Code) (Z : State → Prop) (dC : Nat → ClassId) (dI : Nat → Nat → Nat) (h0 : Nat) (A : Nat → Prop) (k n pc : Nat) (st : List Value) (ws : va_W) : Prop :=
  ∀ (H : Heap) (locs : List Loc) (ls : Array Slot), va_P (dC, dI) vwCl ws H → va_D A ws → va_S A s.heap H locs → lv_has ls y.2.2.1 [(0, .ref h0)] → W p l e R s m args below meth c H locs k n Z (F0 m pc ls st)
/-- two parts of a world, one of them anew -/
theorem n_join {A : Nat → Prop} {D : va_G} {ws w1 : va_W} {c0 : Nat × va_E} {H H1 : Heap} (hP : va_P D vwCl (ws ++ [c0]) H) (hD : va_D A (ws ++ [c0])) (hF : ∀ q, va_A [c0] H.size q → A q) (hk : ∀ q : Nat, q < H.size → ¬ va_A [c0] H.size q → H1[q]? = H[q]?) (hP1 : va_P D vwCl w1 H1) (hD1 : va_D (va_A [c0] H.size) w1) : va_P D vwCl (ws ++ w1) H1 ∧ va_D A (ws ++ w1) := by
  have up : ∀ (k : Nat) (q : Nat × va_E), ws[k]? = some q → (ws ++ [c0])[k]? = some q := fun k q h => by rw [List.getElem?_append_left (List.getElem?_eq_some_iff.mp h).1]; exact h
  have last : (ws ++ [c0])[ws.length]? = some c0 := by rw [List.getElem?_append_right (Nat.le_refl _), Nat.sub_self]; rfl
  have apart : ∀ (k : Nat) (q : Nat × va_E), ws[k]? = some q → q.1 < H.size ∧ ¬ va_A [c0] H.size q.1 := by
    intro k q h
    have hl := (hP k q (up k q h)).lt
    have hlen := (List.getElem?_eq_some_iff.mp h).1
    refine ⟨hl, fun z => ?_⟩
    rcases z with ⟨k2, e2, z⟩ | z
    · have hk2 : k2 = 0 := by have := (List.getElem?_eq_some_iff.mp z).1; simp at this; exact this
      subst hk2
      cases z
      have := hD.1 k ws.length q _ (up k q h) last rfl
      omega
    · omega
  refine ⟨va_P.app (fun k q h => (hP k q (up k q h)).kept (hk q.1 (apart k q h).1 (apart k q h).2)) hP1, va_D.app ⟨fun i j x y hi hj hxy => hD.1 i j x y (up i x hi) (up j y hj) hxy, fun k q h => hD.2 k q (up k q h)⟩ (hD1.weaken (fun k q _ h => hF q.1 h)) (fun i j x y hx hy hxy => (apart i x hx).2 (by rw [hxy]; exact hD1.2 j y hy))⟩
/-- a constructor: a new object becomes the places PL, their memory V -/
def Qn_ (dC : Nat → ClassId) (dI : Nat → Nat → Nat) (cI cZ : ClassId) (h0 : Nat) (PL : List (Nat × Nat)) (rt : Nat × Nat) (V : Mm_) (A : Nat → Prop) : Array Value → State → Outcome → State → Prop :=
  va_Qv (fun ad : Nat × Nat → Nat => ad rt = h0) (fun ad t => va_P (dC, dI) vwCl (w_of ad cI cZ PL V) t.heap ∧ va_D A (w_of ad cI cZ PL V)) A
def Pn_ (dC : Nat → ClassId) (dI : Nat → Nat → Nat) (cI cZ : ClassId) (h0 sz ci r0 : Nat) (E : (Nat → Prop) → State → Prop) (U : State) : Prop :=
  U.heap.size = sz ∧ va_P (dC, dI) vwCl [(h0, .inr (ci, bf_ (k_fld 0 r0)))] U.heap ∧ va_K (dC, dI) vwCl (t_ys cI cZ) U ∧ (∀ w ∈ nw_L, va_Nw w U) ∧ E (va_A [(h0, .inr (ci, bf_ (k_fld 0 r0)))] sz) U
def Nw_ (z : mi_T) (ci r0 : Nat) (PL : List (Nat × Nat)) (rt : Nat × Nat) (V : Mm_) (mc ms : Nat) (E : ClassId → (Nat → Prop) → State → Prop) : Prop :=
  ∀ (l : Launch) (dC : Nat → ClassId) (dI : Nat → Nat → Nat) (cI cZ : ClassId) (h0 sz : Nat), Met l z.1 (ws_ z) { frames := z.2.2.2.2.1, cells := mc, slots := ms, locals := z.2.2.2.2.2 } (va_Pc [.ref h0] (Pn_ dC dI cI cZ h0 sz ci r0 (E cI))) (Qn_ dC dI cI cZ h0 PL rt V (va_A [(h0, .inr (ci, bf_ (k_fld 0 r0)))] sz)) mc ms (va_A [(h0, .inr (ci, bf_ (k_fld 0 r0)))] sz)
theorem Nw_.of {z : mi_T} {ci r0 : Nat} {PL : List (Nat × Nat)} {rt : Nat × Nat} {V : Mm_} {mc ms : Nat} {E : ClassId → (Nat → Prop) → State → Prop} (hy : plainFor z.1 = true) (hi : z.1.name = "<init>") (hm : z.2.2.1 = 1)
    (h : ∀ ⦃p : Program⦄ ⦃l : Launch⦄ ⦃e : Env⦄ ⦃R : Room⦄ ⦃s : State⦄ ⦃m : MethodId⦄ ⦃args : Array Value⦄ ⦃below : List Frame⦄ ⦃meth : Method⦄ ⦃c : Code⦄ ⦃dC : Nat → ClassId⦄ ⦃dI : Nat → Nat → Nat⦄ ⦃cI cZ : ClassId⦄ ⦃h0 : Nat⦄ ⦃A : Nat → Prop⦄, Cy_ z p R s m args meth c dC dI cI cZ A → R.cells = mc → R.slots = ms → E cI A s → Nt_ z p l e R s m args below meth c (MQ below (Qn_ dC dI cI cZ h0 PL rt V A) args s mc ms A) dC dI h0 A 0 0 0 [] [(h0, .inr (ci, bf_ (k_fld 0 r0)))]) : Nw_ z ci r0 PL rt V mc ms E := by
  intro l dC dI cI cZ h0 sz
  refine Met_of (cc := z.2.1) (maxL := z.2.2.1) (ret := z.2.2.2.1) hy rfl ?_
  intro p e s m args below meth c s₁ B hml hv
  obtain ⟨rfl, hsz, hP, hK, hN, hE⟩ := hv
  subst hsz
  have hts := atoms_spec (ws := ws_ z) B.pre
  have hx : Cy_ z p (headSpec (ws_ z) { frames := z.2.2.2.2.1, cells := mc, slots := ms, locals := z.2.2.2.2.2 }).room s m ([.ref h0] : List Value).toArray meth c dC dI cI cZ (va_A [(h0, .inr (ci, bf_ (k_fld 0 r0)))] s.heap.size) :=
    ⟨B.exec, B.bytes, B.returns, hml, findClass_of_methodNamed B.named, fun w hw => hts w (List.mem_cons_of_mem _ (List.mem_filter.mpr ⟨hw.1, hw.2⟩)), hN, B.notSynchronized, (name_of_methodNamed B.named B.method).1.trans hi, Nat.le_refl _, Nat.le_refl _, hK, fun q hq => Or.inr hq⟩
  rw [lg_entry_eq]
  have hl := lv_entry ([.ref h0] : List Value) (n := z.2.2.1) (by rw [hm]; exact Nat.le_refl 1)
  refine h hx rfl rfl hE s.heap [] _ hP ⟨fun i j x y hi hj _ => ?_, fun k q hk => va_A.in hk⟩ va_S.rf hl
  have h1 := (List.getElem?_eq_some_iff.mp hi).1
  have h2 := (List.getElem?_eq_some_iff.mp hj).1
  simp at h1 h2
  omega
section NEWS
variable {y : mi_T} {p : Program} {l : Launch} {e : Env} {R : Room} {s : State} {m : MethodId} {args : Array Value} {below : List Frame} {meth : Method} {c : Code} {Z : State → Prop} {dC : Nat → ClassId} {dI : Nat → Nat → Nat} {cI cZ : ClassId} {h0 : Nat} {A : Nat → Prop} {k n pc : Nat} {st : List Value} {ws : va_W}
theorem n_as {ws' : va_W} (h : ws = ws') (kk : Nt_ y p l e R s m args below meth c Z dC dI h0 A k n pc st ws') : Nt_ y p l e R s m args below meth c Z dC dI h0 A k n pc st ws := by rw [h]; exact kk
theorem n_aload (hx : Cy_ y p R s m args meth c dC dI cI cZ A) (hd : dc_at y pc (.aload_n 0) 1) (kk : Nt_ y p l e R s m args below meth c Z dC dI h0 A k n (pc + 1) (.ref h0 :: st) ws) : Nt_ y p l e R s m args below meth c Z dC dI h0 A k n pc st ws :=
  fun H locs ls hP hD hS hl => lv_aload_n hx.1 hx.2.1 hd rfl (lv_at hl 0 rfl) (kk H locs ls hP hD hS hl)
theorem n_obj {idx : Nat} (hx : Cy_ y p R s m args meth c dC dI cI cZ A) (hlk : gd_T (.methodLink y.1.cls idx Lib.objectInit)) (hd : dc_at y pc (.invokespecial idx) 3) (hr1 : 1 ≤ y.2.2.2.2.1) (hr2 : 12 ≤ y.2.2.2.2.2) (kk : Nt_ y p l e R s m args below meth c Z dC dI h0 A k n (pc + 3) [] ws) : Nt_ y p l e R s m args below meth c Z dC dI h0 A k n pc [.ref h0] ws := by
  intro H locs ls hP hD hS hl
  obtain ⟨h1, h2, h3, h4, h5, h6, h7, h8, h9, h10, h11, h12, h13⟩ := hx
  refine W.objInit h1 h2 h5 (h6 _ hlk) (h6 _ tw_57) (h6 _ tw_58) (g := F0 m pc ls [.ref h0]) rfl (by rw [h4]; exact hl.1) rfl hd (Nat.le_trans hr1 h10) (by have := Nat.le_trans hr2 h11; simpa [F0] using this) ?_
  exact W.eq (g2 := F0 m (pc + 3) ls []) rfl (kk H locs ls hP hD hS hl)
theorem n_iconst {i : Int} {v : Int32} (hx : Cy_ y p R s m args meth c dC dI cI cZ A) (hd : dc_at y pc (.iconst i) 1) (hv : Int32.ofInt i = v) (kk : Nt_ y p l e R s m args below meth c Z dC dI h0 A k n (pc + 1) (.int v :: st) ws) : Nt_ y p l e R s m args below meth c Z dC dI h0 A k n pc st ws :=
  fun H locs ls hP hD hS hl => lv_iconst hx.1 hx.2.1 hd hv (kk H locs ls hP hD hS hl)
theorem n_bipush {i : Int} {v : Int32} (hx : Cy_ y p R s m args meth c dC dI cI cZ A) (hd : dc_at y pc (.bipush i) 2) (hv : (Int8.ofInt i).toInt32 = v) (kk : Nt_ y p l e R s m args below meth c Z dC dI h0 A k n (pc + 2) (.int v :: st) ws) : Nt_ y p l e R s m args below meth c Z dC dI h0 A k n pc st ws :=
  fun H locs ls hP hD hS hl => lv_bipush hx.1 hx.2.1 hd hv (kk H locs ls hP hD hS hl)
theorem n_sipush {i : Int} {v : Int32} (hx : Cy_ y p R s m args meth c dC dI cI cZ A) (hd : dc_at y pc (.sipush i) 3) (hv : (Int16.ofInt i).toInt32 = v) (kk : Nt_ y p l e R s m args below meth c Z dC dI h0 A k n (pc + 3) (.int v :: st) ws) : Nt_ y p l e R s m args below meth c Z dC dI h0 A k n pc st ws :=
  fun H locs ls hP hD hS hl => lv_sipush hx.1 hx.2.1 hd hv (kk H locs ls hP hD hS hl)
theorem n_dup {q : Nat} (hx : Cy_ y p R s m args meth c dC dI cI cZ A) (hd : dc_at y pc .dup 1) (kk : Nt_ y p l e R s m args below meth c Z dC dI h0 A k n (pc + 1) (.ref q :: .ref q :: st) ws) : Nt_ y p l e R s m args below meth c Z dC dI h0 A k n pc (.ref q :: st) ws :=
  fun H locs ls hP hD hS hl => lv_dup hx.1 hx.2.1 hd rfl (kk H locs ls hP hD hS hl)
theorem n_newI {N : Nat} {v : Int32} (hx : Cy_ y p R s m args meth c dC dI cI cZ A) (hd : dc_at y pc (.newarray .int) 2) (hn : ¬ v < 0) (hN : v.toNatClampNeg = N) (hb : N * 4 ≤ 536870912) (hc : k + 1 ≤ R.cells) (hs : n + N ≤ R.slots)
    (kk : ∀ q : Nat, Nt_ y p l e R s m args below meth c Z dC dI h0 A (k + 1) (n + N) (pc + 2) (.ref q :: st) (ws ++ [(q, .inl (cI, N, .inl (fun _ => 0)))])) : Nt_ y p l e R s m args below meth c Z dC dI h0 A k n pc (.int v :: st) ws := by
  intro H locs ls hP hD hS hl
  obtain ⟨h1, h2, h3, h4, h5, h6, h7, h8, h9, h10, h11, h12, h13⟩ := hx
  refine va_newa (atype := .int) (ty := .int) (a0 := (N, .inl (fun _ => 0))) h1 h2 (h6 _ tw_102) rfl h12 hP hD hS h13 (fun _ => rfl) hn hN hb hc hs hd (fun q cA H1 hK1 hP1 hD1 hS1 => ?_)
  have e1 : s.vm.findClass ("[" ++ FieldType.int.toString) = some cI := (h12.2 0 (cI, .int) rfl).2
  have e2 : s.vm.findClass ("[" ++ FieldType.int.toString) = some cA := (hK1.2 2 (cA, .int) rfl).2
  obtain rfl : cI = cA := Option.some.inj (e1.symm.trans e2)
  exact kk q H1 locs ls hP1 hD1 hS1 hl
theorem n_newZ {N : Nat} {v : Int32} (hx : Cy_ y p R s m args meth c dC dI cI cZ A) (hd : dc_at y pc (.newarray .boolean) 2) (hn : ¬ v < 0) (hN : v.toNatClampNeg = N) (hb : N * 1 ≤ 536870912) (hc : k + 1 ≤ R.cells) (hs : n + N ≤ R.slots)
    (kk : ∀ q : Nat, Nt_ y p l e R s m args below meth c Z dC dI h0 A (k + 1) (n + N) (pc + 2) (.ref q :: st) (ws ++ [(q, .inl (cZ, N, .inl (fun _ => 0)))])) : Nt_ y p l e R s m args below meth c Z dC dI h0 A k n pc (.int v :: st) ws := by
  intro H locs ls hP hD hS hl
  obtain ⟨h1, h2, h3, h4, h5, h6, h7, h8, h9, h10, h11, h12, h13⟩ := hx
  refine va_newa (atype := .boolean) (ty := .boolean) (a0 := (N, .inl (fun _ => 0))) h1 h2 (h6 _ tw_303) rfl h12 hP hD hS h13 (fun _ => rfl) hn hN hb hc hs hd (fun q cA H1 hK1 hP1 hD1 hS1 => ?_)
  have e1 : s.vm.findClass ("[" ++ FieldType.boolean.toString) = some cZ := (h12.2 1 (cZ, .boolean) rfl).2
  have e2 : s.vm.findClass ("[" ++ FieldType.boolean.toString) = some cA := (hK1.2 2 (cA, .boolean) rfl).2
  obtain rfl : cZ = cA := Option.some.inj (e1.symm.trans e2)
  exact kk q H1 locs ls hP1 hD1 hS1 hl
theorem n_newc {idx ci : Nat} {C : String} {T : u_T} {N : Nat} {fs : List Value} (ty : Nat → FieldType) (hty : ∀ k, k < N → parseFieldDescriptor (T k).2.2.1 = some (ty k)) (hx : Cy_ y p R s m args meth c dC dI cI cZ A) (hcl : vwCl[ci]? = some (C, T, N)) (hd : dc_at y pc (.new idx) 3) (h1c : gd_T (.classLink y.1.cls idx C)) (h2c : gd_T (.instantiable C N)) (h3c : gd_T (.initialized C)) (hfs : ∀ j, j < N → defaultValue (ty j) = vp_V fs j) (hc : k + 1 ≤ R.cells) (hs : n + N ≤ R.slots)
    (kk : ∀ q : Nat, Nt_ y p l e R s m args below meth c Z dC dI h0 A (k + 1) (n + N) (pc + 3) (.ref q :: st) (ws ++ [(q, .inr (ci, fs))])) : Nt_ y p l e R s m args below meth c Z dC dI h0 A k n pc st ws := by
  intro H locs ls hP hD hS hl
  obtain ⟨h1, h2, h3, h4, h5, h6, h7, h8, h9, h10, h11, h12, h13⟩ := hx
  exact va_new (Ts := lw_tbl.filter goodWord) h1 h2 (fun w hw => h6 w (by simpa [gd_T] using hw)) (fun w hw => by simpa [gd_T] using (cl_ok _ _ _ _ hcl).1 w hw) ty hty h5 (h6 _ h1c) (h6 _ h2c) (h6 _ h3c) h12 hP hD hS h13 hcl hfs hc hs hd (fun q H1 hP1 hD1 hS1 => kk q H1 locs ls hP1 hD1 hS1 hl)
theorem n_putF {idx ci k0 : Nat} {C : String} {T : u_T} {N : Nat} {fs fs' : List Value} {rest : va_W} {v : Value} {ty : FieldType} (hx : Cy_ y p R s m args meth c dC dI cI cZ A) (hcl : vwCl[ci]? = some (C, T, N)) (hk : k0 < N) (hlk : gd_T (.fieldLink y.1.cls idx (T k0).1 (T k0).2.1 (T k0).2.2.1)) (hd : dc_at y pc (.putfield idx) 3) (hfin : (T k0).2.2.2 = true) (hdecl : (T k0).1 = y.1.cls) (hp : parseFieldDescriptor (T k0).2.2.1 = some ty) (hn : narrow ty v = v) (hfit : fits ty v = true) (hl0 : k0 < fs.length) (hfs : fs.set k0 v = fs')
    (kk : Nt_ y p l e R s m args below meth c Z dC dI h0 A k n (pc + 3) st ((h0, .inr (ci, fs')) :: rest)) : Nt_ y p l e R s m args below meth c Z dC dI h0 A k n pc (v :: .ref h0 :: st) ((h0, .inr (ci, fs)) :: rest) := by
  intro H locs ls hP hD hS hl
  subst hfs
  obtain ⟨h1, h2, h3, h4, h5, h6, h7, h8, h9, h10, h11, h12, h13⟩ := hx
  obtain ⟨c1, c2, ty0, c3⟩ := cl_ok _ _ _ _ hcl
  exact va_putF (Ts := lw_tbl.filter goodWord) h1 h2 (fun w hw => h6 w (by simpa [gd_T] using hw)) (fun w hw => by simpa [gd_T] using c1 w hw) ty0 c3 c2 h5 h12 hP hD hS 0 rfl hcl k0 hk (h6 _ hlk) (fun _ h => h) hfin h9 hdecl hp hn hfit hl0 hd (fun H1 locs1 hP1 hD1 hS1 => kk H1 locs1 ls hP1 hD1 hS1 hl)
theorem n_put {idx ci k0 : Nat} {C : String} {T : u_T} {N : Nat} {fs fs' : List Value} {rest : va_W} {v : Value} {ty : FieldType} (hx : Cy_ y p R s m args meth c dC dI cI cZ A) (hcl : vwCl[ci]? = some (C, T, N)) (hk : k0 < N) (hlk : gd_T (.fieldLink y.1.cls idx (T k0).1 (T k0).2.1 (T k0).2.2.1)) (hd : dc_at y pc (.putfield idx) 3) (hfin : (T k0).2.2.2 = false) (hp : parseFieldDescriptor (T k0).2.2.1 = some ty) (hn : narrow ty v = v) (hfit : fits ty v = true) (hl0 : k0 < fs.length) (hfs : fs.set k0 v = fs')
    (kk : Nt_ y p l e R s m args below meth c Z dC dI h0 A k n (pc + 3) st ((h0, .inr (ci, fs')) :: rest)) : Nt_ y p l e R s m args below meth c Z dC dI h0 A k n pc (v :: .ref h0 :: st) ((h0, .inr (ci, fs)) :: rest) := by
  intro H locs ls hP hD hS hl
  subst hfs
  obtain ⟨h1, h2, h3, h4, h5, h6, h7, h8, h9, h10, h11, h12, h13⟩ := hx
  obtain ⟨c1, c2, ty0, c3⟩ := cl_ok _ _ _ _ hcl
  exact va_put (Ts := lw_tbl.filter goodWord) h1 h2 (fun w hw => h6 w (by simpa [gd_T] using hw)) (fun w hw => by simpa [gd_T] using c1 w hw) ty0 c3 c2 h5 h12 hP hD hS 0 rfl hcl k0 hk (h6 _ hlk) (fun _ h => h) hfin hp hn hfit hl0 hd (fun H1 locs1 hP1 hD1 hS1 => kk H1 locs1 ls hP1 hD1 hS1 hl)
theorem Pn_blind {h0 sz ci r0 : Nat} {E : (Nat → Prop) → State → Prop} (hE : ∀ (A : Nat → Prop) (U U' : State), U.vm = U'.vm → U.heap = U'.heap → E A U → E A U') : FrameBlind (va_Pc [.ref h0] (Pn_ dC dI cI cZ h0 sz ci r0 E)) := by
  intro a U g mk h
  obtain ⟨h1, hz, hP, hK, hN, hEE⟩ := h
  have hv : U.vm.Alike (U.calling g mk a).vm := Vm.Alike.refl U.vm
  exact ⟨h1, hz, hP, va_K.moved hv hK, fun w hw => va_Nw.same (nw_tabs w hw) (rfl : U.vm = (U.calling g mk a).vm) (hN w hw), hE _ U (U.calling g mk a) rfl rfl hEE⟩
/-- a constructor's call, from a class that is its nest mate -/
theorem n_call {z : mi_T} {ci r0 idx q : Nat} {PL : List (Nat × Nat)} {rt : Nat × Nat} {V : Mm_} {mc ms : Nat} {host : String} (hx : Cy_ y p R s m args meth c dC dI cI cZ A) (hC : Nw_ z ci r0 PL rt V mc ms (fun _ _ _ => True)) (hz : gd_T (.instanceMethod z.1) ∧ mk_at z 0) (hi : z.1.name = "<init>") (hret : z.2.2.2.1 = none) (hlk : Cond.methodLinkNest y.1.cls idx z.1 host ∈ nw_L) (hd : dc_at y pc (.invokespecial idx) 3) (hrm : rm_ok y z) (hc : k + mc ≤ R.cells) (hs : n + ms ≤ R.slots) (hl8 : (st.map fun v => v.category).sum ≤ 8)
    (kk : ∀ ad : Nat × Nat → Nat, ad rt = q → Nt_ y p l e R s m args below meth c Z dC dI h0 A (k + mc) (n + ms) (pc + 3) st (ws ++ w_of ad cI cZ PL V)) : Nt_ y p l e R s m args below meth c Z dC dI h0 A k n pc (.ref q :: st) (ws ++ [(q, .inr (ci, bf_ (k_fld 0 r0)))]) := by
  intro H locs ls hP hD hS hl
  obtain ⟨h1, h2, h3, h4, h5, h6, h7, h8, h9, h10, h11, h12, h13⟩ := hx
  have last : (ws ++ [(q, (.inr (ci, bf_ (k_fld 0 r0)) : va_E))])[ws.length]? = some (q, .inr (ci, bf_ (k_fld 0 r0))) := by rw [List.getElem?_append_right (Nat.le_refl _), Nat.sub_self]; rfl
  have hF : ∀ a, va_A [(q, .inr (ci, bf_ (k_fld 0 r0)))] H.size a → A a := by
    intro a ha
    rcases ha with ⟨k2, e2, z⟩ | z
    · have hk2 : k2 = 0 := by have := (List.getElem?_eq_some_iff.mp z).1; simp at this; exact this
      subst hk2
      cases z
      exact hD.2 _ _ last
    · exact h13 a (Nat.le_trans hS.1 z)
  have hPc : va_P (dC, dI) vwCl [(q, .inr (ci, bf_ (k_fld 0 r0)))] H := fun k2 x hk2 => by
    have hk3 : k2 = 0 := by have := (List.getElem?_eq_some_iff.mp hk2).1; simp at this; exact this
    subst hk3
    cases hk2
    exact hP _ _ last
  have hts : ∀ w ∈ lw_tbl.filter goodWord, w.before args s = true := fun w hw => h6 w (List.mem_filter.mp hw)
  obtain ⟨z1, z3⟩ := hz
  have hcn := va_cnB (R := R) (s := s) (args := args) (mc := mc) (ms := ms) (rm := { frames := z.2.2.2.2.1, cells := mc, slots := ms, locals := z.2.2.2.2.2 }) 0 hts (good_all (ws_good z3)) (rfl : ws_ z = _) rfl rfl (h7 _ hlk) (h6 _ z3.1) ⟨z3.2.2.1.1, z3.2.2.1.2, z3.2.2.2.1⟩ ⟨Nat.le_trans hrm.1 h10, Nat.le_trans hrm.2 h11⟩
  rw [hret] at hcn
  refine va_callv (va_runIN (p := p) (l := l) (e := e) (R := R) (below := below) (meth := meth) (locs := locs) (cells := k) (slots := n) (H := H) (As := []) (rest := st) (b := q) (g := F0 m pc ls (.ref q :: st)) (index := idx) (⟨h1, h2, h4, h5, hts⟩ : CallFix p m c y.2.1 y.2.2.1 s args (lw_tbl.filter goodWord) y.1.cls) (hC l dC dI cI cZ q H.size)
    ⟨hcn, hi, h6 _ z1⟩ ⟨Pn_blind (fun _ _ _ _ _ h => h), fun U hU hW => ⟨rfl, by rw [hU], by rw [hU]; exact hPc, va_K.moved hW.alike h12, fun w hw => nw_warm hW w hw (h7 w hw), trivial⟩⟩ rfl rfl hl.1 rfl (lv_room hl8) hd ⟨hc, hs⟩) hS (fun a _ h => hF a h) hF (fun ad t H1 locs1 ht hvm hw hB hz1 hk1 hS1 => ?_)
  obtain ⟨hP1, hD1⟩ := hB
  rw [ht] at hP1
  obtain ⟨hP2, hD2⟩ := n_join hP hD hF hk1 hP1 hD1
  exact kk ad hw H1 locs1 ls hP2 hD2 hS1 hl
theorem n_ret {PL : List (Nat × Nat)} {rt : Nat × Nat} {V : Mm_} (hx : Cy_ y p R s m args meth c dC dI cI cZ A) (hd : dc_at y pc .return_ 1) (hr : y.2.2.2.1 = none) (ad : Nat × Nat → Nat) (hrt : ad rt = h0) (hws : ws = w_of ad cI cZ PL V) : Nt_ y p l e R s m args below meth c (MQ below (Qn_ dC dI cI cZ h0 PL rt V A) args s k n A) dC dI h0 A k n pc [] ws := by
  intro H locs ls hP hD hS hl
  obtain ⟨h1, h2, h3, h4, h5, h6, h7, h8, h9, h10, h11, h12, h13⟩ := hx
  subst hws
  exact W.vret h1 h2 (h3.trans hr) (fun t ht hW => ⟨⟨ad, rfl, hrt, by rw [ht]; exact hP, hD⟩, hS.F ht⟩) hS.2.2 hd h8
end NEWS
/-- the places of the parts -/
def pl1_ (g : Nat) : List (Nat × Nat) := [(g, 1), (g, 2), (g, 3), (g, 4), (g, 5)]
def pl4_ (g : Nat) : List (Nat × Nat) := [(g, 6), (g, 7), (g, 8), (g, 9), (g, 10), (g, 11)]
def pl5_ (g : Nat) : List (Nat × Nat) := [(g, 12), (g, 13), (g, 14)]
def pl0_ (g : Nat) : List (Nat × Nat) := [(g, 15), (g, 16)]
def pl3_ : List (Nat × Nat) := [(0, 20), (0, 21), (0, 22), (0, 23), (0, 24), (0, 25), (0, 26), (0, 27), (0, 28), (0, 29)]
def pl6_ : List (Nat × Nat) := [(0, 30), (0, 31)]
def plS_ (g : Nat) : List (Nat × Nat) := (g, 0) :: (pl1_ g ++ pl4_ g ++ pl5_ g ++ pl0_ g ++ [(g, 17)])
