/-! base 2: the judgement: from a point of a method (places, memory) the run comes to points of which Φ holds -/
def st_L : Nat → Int32 := fun j => ([1, 1, 0, 0, 0, 0, 100, 0, 1, 1] : List Int32).getD j 0
def st_M : Nat → Int32 := fun j => ([20, 100, 2, 2, 0, 0, 30000, 1, 20, 50] : List Int32).getD j 0
/-- the class's two tables, at places (0, 47) and (0, 48), which nobody writes -/
def s_tat (ad : Nat × Nat → Nat) (A : Nat → Prop) (U : State) (H : Heap) : Prop :=
  va_Z "IntervalRouting" "LEAST_SETTING" "[I" (.ref (ad (0, 47))) A U H ∧ va_T .int (ad (0, 47)) 10 (fun j => .int (st_L j)) A U H ∧ va_Z "IntervalRouting" "MOST_SETTING" "[I" (.ref (ad (0, 48))) A U H ∧ va_T .int (ad (0, 48)) 10 (fun j => .int (st_M j)) A U H
abbrev t_ys (cI cZ : ClassId) : List (ClassId × FieldType) := [(cI, .int), (cZ, .boolean)]
/-- what a place refers to is a place -/
def p_lc (PL : List (Nat × Nat)) : Prop := ∀ q ∈ PL, ∀ (k : Nat) (q' : Nat × Nat), (k_fld q.1 q.2)[k]? = some (some q') → q' ∈ PL
def ok_v (PL : List (Nat × Nat)) : Vl_ → Prop
  | .inl _ => True
  | .inr (.inl q) => q ∈ PL ∨ q = (0, 47) ∨ q = (0, 48)
  | .inr (.inr _) => True
def ok_s (PL : List (Nat × Nat)) : List Vl_ → Prop
  | [] => True
  | v :: r => ok_v PL v ∧ ok_s PL r
def ok_l (PL : List (Nat × Nat)) : List (Option Vl_) → Prop
  | [] => True
  | none :: r => ok_l PL r
  | some v :: r => ok_v PL v ∧ ok_l PL r
theorem ok_v.pl {PL : List (Nat × Nat)} {g r : Nat} (h : ok_v PL (vR g r)) (hr : r < 46) : (g, r) ∈ PL := by
  rcases h with h | h | h
  · exact h
  · cases h; omega
  · cases h; omega
theorem ok_l.get {PL : List (Nat × Nat)} : ∀ {lo : List (Option Vl_)} {i : Nat} {v : Vl_}, ok_l PL lo → lo[i]? = some (some v) → ok_v PL v
  | [], i, v, _, h => by simp at h
  | none :: r, 0, v, _, h => by simp at h
  | some w :: r, 0, v, ho, h => by
    simp only [List.getElem?_cons_zero, Option.some.injEq] at h
    subst h
    exact ho.1
  | none :: r, i + 1, v, ho, h => by
    simp only [List.getElem?_cons_succ] at h
    exact ok_l.get (lo := r) ho h
  | some w :: r, i + 1, v, ho, h => by
    simp only [List.getElem?_cons_succ] at h
    exact ok_l.get (lo := r) ho.2 h
theorem ok_l.set {PL : List (Nat × Nat)} {v : Vl_} (hv : ok_v PL v) : ∀ {lo : List (Option Vl_)} {i : Nat}, ok_l PL lo → ok_l PL (lo.set i (some v))
  | [], _, _ => trivial
  | none :: r, 0, ho => ⟨hv, ho⟩
  | some w :: r, 0, ho => ⟨hv, ho.2⟩
  | none :: r, i + 1, ho => ok_l.set (lo := r) (i := i) hv ho
  | some w :: r, i + 1, ho => ⟨ho.1, ok_l.set (lo := r) (i := i) hv ho.2⟩
theorem tr_cat (ad : Nat × Nat → Nat) (v : Vl_) : (tr_ ad v).category = 1 := by
  rcases v with x | q | f <;> rfl
def l_en (ad : Nat × Nat → Nat) : Nat → List (Option Vl_) → List (Nat × Value)
  | _, [] => []
  | k, none :: r => l_en ad (k + 1) r
  | k, some v :: r => (k, tr_ ad v) :: l_en ad (k + 1) r
theorem l_en_in {ad : Nat × Nat → Nat} : ∀ {lo : List (Option Vl_)} {k i : Nat} {v : Vl_}, lo[i]? = some (some v) → (k + i, tr_ ad v) ∈ l_en ad k lo
  | [], k, i, v, h => by simp at h
  | none :: r, k, 0, v, h => by simp at h
  | some w :: r, k, 0, v, h => by
    simp only [List.getElem?_cons_zero, Option.some.injEq] at h
    subst h
    exact List.mem_cons_self
  | none :: r, k, i + 1, v, h => by
    simp only [List.getElem?_cons_succ] at h
    have := l_en_in (ad := ad) (lo := r) (k := k + 1) h
    rwa [show k + 1 + i = k + (i + 1) by omega] at this
  | some w :: r, k, i + 1, v, h => by
    simp only [List.getElem?_cons_succ] at h
    have := l_en_in (ad := ad) (lo := r) (k := k + 1) h
    rw [show k + 1 + i = k + (i + 1) by omega] at this
    exact List.mem_cons_of_mem _ this
theorem l_en_of {ad : Nat × Nat → Nat} : ∀ {lo : List (Option Vl_)} {k : Nat} {q : Nat × Value}, q ∈ l_en ad k lo → ∃ (i : Nat) (v : Vl_), q = (k + i, tr_ ad v) ∧ lo[i]? = some (some v)
  | [], k, q, h => by cases h
  | none :: r, k, q, h => by
    obtain ⟨i, v, h1, h2⟩ := l_en_of (lo := r) (k := k + 1) h
    exact ⟨i + 1, v, by rw [h1, show k + 1 + i = k + (i + 1) by omega], by simpa using h2⟩
  | some w :: r, k, q, h => by
    rcases List.mem_cons.mp h with h | h
    · exact ⟨0, w, h, rfl⟩
    · obtain ⟨i, v, h1, h2⟩ := l_en_of (lo := r) (k := k + 1) h
      exact ⟨i + 1, v, by rw [h1, show k + 1 + i = k + (i + 1) by omega], by simpa using h2⟩
theorem l_at {ad : Nat × Nat → Nat} {ls : Array Slot} {n i : Nat} {lo : List (Option Vl_)} {v : Vl_} (h : lv_has ls n (l_en ad 0 lo)) (hi : lo[i]? = some (some v)) : ls[i]? = some (.val (tr_ ad v)) := by
  have := h.2.2 (0 + i, tr_ ad v) (l_en_in hi)
  rwa [Nat.zero_add] at this
theorem l_put {ad : Nat × Nat → Nat} {ls : Array Slot} {n i : Nat} {lo : List (Option Vl_)} {v : Vl_} (h : lv_has ls n ((i, tr_ ad v) :: (l_en ad 0 lo).filter (fun q => !(q.1 == i) && !(q.1 + 1 == i && q.2.category == 2)))) : lv_has ls n (l_en ad 0 (lo.set i (some v))) := by
  refine ⟨h.1, h.2.1, fun q hq => ?_⟩
  obtain ⟨j, w, rfl, hj⟩ := l_en_of hq
  by_cases hji : j = i
  · subst hji
    have hlt : j < (lo.set j (some v)).length := (List.getElem?_eq_some_iff.mp hj).1
    rw [List.length_set] at hlt
    rw [List.getElem?_set_self hlt] at hj
    cases hj
    rw [Nat.zero_add]
    exact h.2.2 (j, tr_ ad v) List.mem_cons_self
  · rw [List.getElem?_set_ne (Ne.symm hji)] at hj
    refine h.2.2 (0 + j, tr_ ad w) (List.mem_cons_of_mem _ (List.mem_filter.mpr ⟨l_en_in hj, ?_⟩))
    have hc := tr_cat ad w
    simp [hji, hc]
/-- fewer known locals -/
def l_le : List (Option Vl_) → List (Option Vl_) → Prop
  | [], _ => True
  | none :: r, [] => l_le r []
  | none :: r, _ :: q => l_le r q
  | some _ :: _, [] => False
  | some v :: r, w :: q => some v = w ∧ l_le r q
theorem l_le.get : ∀ {a b : List (Option Vl_)} {i : Nat} {v : Vl_}, l_le a b → a[i]? = some (some v) → b[i]? = some (some v)
  | [], _, i, v, _, h => by simp at h
  | none :: r, [], 0, v, _, h => by simp at h
  | none :: r, [], i + 1, v, hl, h => by
    simp only [List.getElem?_cons_succ] at h
    have := l_le.get (a := r) (b := []) hl h
    simp at this
  | none :: r, _ :: q, 0, v, _, h => by simp at h
  | none :: r, _ :: q, i + 1, v, hl, h => by
    simp only [List.getElem?_cons_succ] at h ⊢
    exact l_le.get (a := r) (b := q) hl h
  | some _ :: _, [], i, v, hl, _ => hl.elim
  | some x :: r, w :: q, 0, v, hl, h => by
    simp only [List.getElem?_cons_zero, Option.some.injEq] at h ⊢
    rw [← hl.1, h]
  | some x :: r, w :: q, i + 1, v, hl, h => by
    simp only [List.getElem?_cons_succ] at h ⊢
    exact l_le.get (a := r) (b := q) hl.2 h
theorem ok_l.of : ∀ {PL : List (Nat × Nat)} {lo : List (Option Vl_)}, (∀ (i : Nat) (v : Vl_), lo[i]? = some (some v) → ok_v PL v) → ok_l PL lo
  | _, [], _ => trivial
  | PL, none :: r, h => ok_l.of (lo := r) fun i v hi => h (i + 1) v (by simpa using hi)
  | PL, some w :: r, h => ⟨h 0 w rfl, ok_l.of (lo := r) fun i v hi => h (i + 1) v (by simpa using hi)⟩
def Cx_ (PL : List (Nat × Nat)) (y : mi_T) (p : Program) (R : Room) (s : State) (m : MethodId) (args : Array Value) (meth : Method) (c : Code) (cells slots : Nat) (dC : Nat → ClassId) (dI : Nat → Nat → Nat) (cI cZ : ClassId) (ad : Nat × Nat → Nat) (A : Nat → Prop) : Prop :=
  p.tables.exec = Jvm.exec ∧ c.code = y.2.1 ∧ meth.sig.returnType = y.2.2.2.1 ∧ c.maxLocals = y.2.2.1 ∧ s.vm.findClass y.1.cls = some m.cls ∧ (∀ w, gd_T w → w.before args s = true) ∧ (∀ w ∈ nw_L, va_Nw w s) ∧ meth.locks = false ∧ y.2.2.2.2.1 ≤ R.frames ∧ y.2.2.2.2.2 ≤ R.locals ∧ cells ≤ R.cells ∧ slots ≤ R.slots ∧ va_K (dC, dI) vwCl (t_ys cI cZ) s ∧ va_D A (w_of ad cI cZ PL (fun _ _ _ => 0)) ∧ p_lc PL ∧ s_tat ad A s s.heap
def At_ (PL : List (Nat × Nat)) (y : mi_T) (p : Program) (l : Launch) (e : Env) (R : Room) (s : State) (m : MethodId) (args : Array Value) (below : List Frame) (meth : Method) (c : Code) (cells slots : Nat) (Z : State → Prop) (dC : Nat → ClassId) (dI : Nat → Nat → Nat) (cI cZ : ClassId) (ad : Nat × Nat → Nat) (A : Nat → Prop) (pc : Nat) (lo : List (Option Vl_)) (st : List Vl_) (V : Mm_) : Prop :=
  ∀ (H : Heap) (locs : List Loc) (ls : Array Slot), va_P (dC, dI) vwCl (w_of ad cI cZ PL V) H → va_S A s.heap H locs → lv_has ls y.2.2.1 (l_en ad 0 lo) → ok_s PL st → ok_l PL lo → W p l e R s m args below meth c H locs cells slots Z (F0 m pc ls (st.map (tr_ ad)))
abbrev Ph_ : Type := Nat → List (Option Vl_) → List Vl_ → Mm_ → Prop
def Rc_ (PL : List (Nat × Nat)) (y : mi_T) (pc : Nat) (lo : List (Option Vl_)) (st : List Vl_) (V : Mm_) (Φ : Ph_) : Prop :=
  ∀ ⦃p : Program⦄ ⦃l : Launch⦄ ⦃e : Env⦄ ⦃R : Room⦄ ⦃s : State⦄ ⦃m : MethodId⦄ ⦃args : Array Value⦄ ⦃below : List Frame⦄ ⦃meth : Method⦄ ⦃c : Code⦄ ⦃cells slots : Nat⦄ ⦃Z : State → Prop⦄ ⦃dC : Nat → ClassId⦄ ⦃dI : Nat → Nat → Nat⦄ ⦃cI cZ : ClassId⦄ ⦃ad : Nat × Nat → Nat⦄ ⦃A : Nat → Prop⦄, Cx_ PL y p R s m args meth c cells slots dC dI cI cZ ad A → (∀ pc' lo' st' V', Φ pc' lo' st' V' → At_ PL y p l e R s m args below meth c cells slots Z dC dI cI cZ ad A pc' lo' st' V') → At_ PL y p l e R s m args below meth c cells slots Z dC dI cI cZ ad A pc lo st V
theorem Rc_.done {PL : List (Nat × Nat)} {y : mi_T} {pc : Nat} {lo : List (Option Vl_)} {st : List Vl_} {V : Mm_} {Φ : Ph_} (h : Φ pc lo st V) : Rc_ PL y pc lo st V Φ := by
  intro p l e R s m args below meth c cells slots Z dC dI cI cZ ad A _ hk
  exact hk _ _ _ _ h
theorem Rc_.bind {PL : List (Nat × Nat)} {y : mi_T} {pc : Nat} {lo : List (Option Vl_)} {st : List Vl_} {V : Mm_} {Φ Ψ : Ph_} (h : Rc_ PL y pc lo st V Φ) (k : ∀ pc' lo' st' V', Φ pc' lo' st' V' → Rc_ PL y pc' lo' st' V' Ψ) : Rc_ PL y pc lo st V Ψ := by
  intro p l e R s m args below meth c cells slots Z dC dI cI cZ ad A hx hk
  exact h hx (fun pc' lo' st' V' hp => k pc' lo' st' V' hp hx hk)
theorem Rc_.weak {PL : List (Nat × Nat)} {y : mi_T} {pc : Nat} {lo lo' : List (Option Vl_)} {st : List Vl_} {V : Mm_} {Φ : Ph_} (hl : l_le lo' lo) (k : Rc_ PL y pc lo' st V Φ) : Rc_ PL y pc lo st V Φ := by
  intro p l e R s m args below meth c cells slots Z dC dI cI cZ ad A hx hk H locs ls hP hS hls hst hlo
  refine k hx hk H locs ls hP hS ⟨hls.1, hls.2.1, fun q hq => ?_⟩ hst (ok_l.of fun i v hi => hlo.get (hl.get hi))
  obtain ⟨i, v, rfl, hi⟩ := l_en_of hq
  exact hls.2.2 _ (l_en_in (hl.get hi))
section ROWS
variable {PL : List (Nat × Nat)} {y : mi_T} {pc pc2 : Nat} {lo : List (Option Vl_)} {st : List Vl_} {V : Mm_} {Φ : Ph_}
theorem r_iload_n {i : Fin 4} {x : Int32} (hd : dc_at y pc (.iload_n i) 1) (hi : lo[(i : Nat)]? = some (some (vI x))) (h2 : pc + 1 = pc2) (k : Rc_ PL y pc2 lo (vI x :: st) V Φ) : Rc_ PL y pc lo (st) V Φ := by
  subst h2
  intro p l e R s m args below meth c cells slots Z dC dI cI cZ ad A hx hk H locs ls hP hS hl hst hlo
  refine lv_iload_n hx.1 hx.2.1 hd rfl (l_at hl hi) ?_
  exact k hx hk H locs ls hP hS hl ⟨trivial, hst⟩ hlo
theorem r_iload {i : Nat} {x : Int32} (hd : dc_at y pc (.iload i) 2) (hi : lo[i]? = some (some (vI x))) (h2 : pc + 2 = pc2) (k : Rc_ PL y pc2 lo (vI x :: st) V Φ) : Rc_ PL y pc lo (st) V Φ := by
  subst h2
  intro p l e R s m args below meth c cells slots Z dC dI cI cZ ad A hx hk H locs ls hP hS hl hst hlo
  refine lv_iload hx.1 hx.2.1 hd (l_at hl hi) ?_
  exact k hx hk H locs ls hP hS hl ⟨trivial, hst⟩ hlo
theorem r_aload_n {i : Fin 4} {g r : Nat} (hd : dc_at y pc (.aload_n i) 1) (hi : lo[(i : Nat)]? = some (some (vR g r))) (h2 : pc + 1 = pc2) (k : Rc_ PL y pc2 lo (vR g r :: st) V Φ) : Rc_ PL y pc lo (st) V Φ := by
  subst h2
  intro p l e R s m args below meth c cells slots Z dC dI cI cZ ad A hx hk H locs ls hP hS hl hst hlo
  refine lv_aload_n hx.1 hx.2.1 hd rfl (l_at hl hi) ?_
  exact k hx hk H locs ls hP hS hl ⟨hlo.get hi, hst⟩ hlo
theorem r_aload {i g r : Nat} (hd : dc_at y pc (.aload i) 2) (hi : lo[i]? = some (some (vR g r))) (h2 : pc + 2 = pc2) (k : Rc_ PL y pc2 lo (vR g r :: st) V Φ) : Rc_ PL y pc lo (st) V Φ := by
  subst h2
  intro p l e R s m args below meth c cells slots Z dC dI cI cZ ad A hx hk H locs ls hP hS hl hst hlo
  refine lv_aload hx.1 hx.2.1 hd (l_at hl hi) ?_
  exact k hx hk H locs ls hP hS hl ⟨hlo.get hi, hst⟩ hlo
theorem r_fload_n {i : Fin 4} {x : UInt32} (hd : dc_at y pc (.fload_n i) 1) (hi : lo[(i : Nat)]? = some (some (vF x))) (h2 : pc + 1 = pc2) (k : Rc_ PL y pc2 lo (vF x :: st) V Φ) : Rc_ PL y pc lo (st) V Φ := by
  subst h2
  intro p l e R s m args below meth c cells slots Z dC dI cI cZ ad A hx hk H locs ls hP hS hl hst hlo
  refine lv_fload_n hx.1 hx.2.1 hd rfl (l_at hl hi) ?_
  exact k hx hk H locs ls hP hS hl ⟨trivial, hst⟩ hlo
theorem r_iconst {n : Int} (v : Int32) (hd : dc_at y pc (.iconst n) 1) (hv : Int32.ofInt n = v) (h2 : pc + 1 = pc2) (k : Rc_ PL y pc2 lo (vI v :: st) V Φ) : Rc_ PL y pc lo (st) V Φ := by
  subst h2
  intro p l e R s m args below meth c cells slots Z dC dI cI cZ ad A hx hk H locs ls hP hS hl hst hlo
  refine lv_iconst hx.1 hx.2.1 hd hv ?_
  exact k hx hk H locs ls hP hS hl ⟨trivial, hst⟩ hlo
theorem r_bipush {n : Int} (v : Int32) (hd : dc_at y pc (.bipush n) 2) (hv : (Int8.ofInt n).toInt32 = v) (h2 : pc + 2 = pc2) (k : Rc_ PL y pc2 lo (vI v :: st) V Φ) : Rc_ PL y pc lo (st) V Φ := by
  subst h2
  intro p l e R s m args below meth c cells slots Z dC dI cI cZ ad A hx hk H locs ls hP hS hl hst hlo
  refine lv_bipush hx.1 hx.2.1 hd hv ?_
  exact k hx hk H locs ls hP hS hl ⟨trivial, hst⟩ hlo
theorem r_sipush {n : Int} (v : Int32) (hd : dc_at y pc (.sipush n) 3) (hv : (Int16.ofInt n).toInt32 = v) (h2 : pc + 3 = pc2) (k : Rc_ PL y pc2 lo (vI v :: st) V Φ) : Rc_ PL y pc lo (st) V Φ := by
  subst h2
  intro p l e R s m args below meth c cells slots Z dC dI cI cZ ad A hx hk H locs ls hP hS hl hst hlo
  refine lv_sipush hx.1 hx.2.1 hd hv ?_
  exact k hx hk H locs ls hP hS hl ⟨trivial, hst⟩ hlo
theorem r_ldc {n : Nat} {v : Int32} (hd : dc_at y pc (.ldc n) 2) (hv : gd_T (.constant y.1.cls n v)) (h2 : pc + 2 = pc2) (k : Rc_ PL y pc2 lo (vI v :: st) V Φ) : Rc_ PL y pc lo (st) V Φ := by
  subst h2
  intro p l e R s m args below meth c cells slots Z dC dI cI cZ ad A hx hk H locs ls hP hS hl hst hlo
  refine lv_ldc hx.1 hx.2.1 hx.2.2.2.2.1 (hx.2.2.2.2.2.1 _ hv) hd ?_
  exact k hx hk H locs ls hP hS hl ⟨trivial, hst⟩ hlo
theorem r_ldcf {n : Nat} {v : UInt32} (hd : dc_at y pc (.ldc n) 2) (hv : gd_T (.constantFloat y.1.cls n v)) (h2 : pc + 2 = pc2) (k : Rc_ PL y pc2 lo (vF v :: st) V Φ) : Rc_ PL y pc lo (st) V Φ := by
  subst h2
  intro p l e R s m args below meth c cells slots Z dC dI cI cZ ad A hx hk H locs ls hP hS hl hst hlo
  refine lv_ldcf hx.1 hx.2.1 hx.2.2.2.2.1 (hx.2.2.2.2.2.1 _ hv) hd ?_
  exact k hx hk H locs ls hP hS hl ⟨trivial, hst⟩ hlo
theorem r_fconst0  (hd : dc_at y pc (.fconst 0) 1) (h2 : pc + 1 = pc2) (k : Rc_ PL y pc2 lo (vF FP.fconst0 :: st) V Φ) : Rc_ PL y pc lo (st) V Φ := by
  subst h2
  intro p l e R s m args below meth c cells slots Z dC dI cI cZ ad A hx hk H locs ls hP hS hl hst hlo
  refine lv_fconst0 hx.1 hx.2.1 hd ?_
  exact k hx hk H locs ls hP hS hl ⟨trivial, hst⟩ hlo
theorem r_fconst1  (hd : dc_at y pc (.fconst 1) 1) (h2 : pc + 1 = pc2) (k : Rc_ PL y pc2 lo (vF FP.fconst1 :: st) V Φ) : Rc_ PL y pc lo (st) V Φ := by
  subst h2
  intro p l e R s m args below meth c cells slots Z dC dI cI cZ ad A hx hk H locs ls hP hS hl hst hlo
  refine lv_fconst1 hx.1 hx.2.1 hd ?_
  exact k hx hk H locs ls hP hS hl ⟨trivial, hst⟩ hlo
theorem r_fconst2  (hd : dc_at y pc (.fconst 2) 1) (h2 : pc + 1 = pc2) (k : Rc_ PL y pc2 lo (vF FP.fconst2 :: st) V Φ) : Rc_ PL y pc lo (st) V Φ := by
  subst h2
  intro p l e R s m args below meth c cells slots Z dC dI cI cZ ad A hx hk H locs ls hP hS hl hst hlo
  refine lv_fconst2 hx.1 hx.2.1 hd ?_
  exact k hx hk H locs ls hP hS hl ⟨trivial, hst⟩ hlo
theorem r_iadd {a b : Int32} (hd : dc_at y pc (.iadd) 1) (h2 : pc + 1 = pc2) (k : Rc_ PL y pc2 lo (vI (a + b) :: st) V Φ) : Rc_ PL y pc lo (vI b :: vI a :: st) V Φ := by
  subst h2
  intro p l e R s m args below meth c cells slots Z dC dI cI cZ ad A hx hk H locs ls hP hS hl hst hlo
  refine lv_iadd hx.1 hx.2.1 hd ?_
  exact k hx hk H locs ls hP hS hl ⟨trivial, hst.2.2⟩ hlo
theorem r_isub {a b : Int32} (hd : dc_at y pc (.isub) 1) (h2 : pc + 1 = pc2) (k : Rc_ PL y pc2 lo (vI (a - b) :: st) V Φ) : Rc_ PL y pc lo (vI b :: vI a :: st) V Φ := by
  subst h2
  intro p l e R s m args below meth c cells slots Z dC dI cI cZ ad A hx hk H locs ls hP hS hl hst hlo
  refine lv_isub hx.1 hx.2.1 hd ?_
  exact k hx hk H locs ls hP hS hl ⟨trivial, hst.2.2⟩ hlo
theorem r_imul {a b : Int32} (hd : dc_at y pc (.imul) 1) (h2 : pc + 1 = pc2) (k : Rc_ PL y pc2 lo (vI (a * b) :: st) V Φ) : Rc_ PL y pc lo (vI b :: vI a :: st) V Φ := by
  subst h2
  intro p l e R s m args below meth c cells slots Z dC dI cI cZ ad A hx hk H locs ls hP hS hl hst hlo
  refine lv_imul hx.1 hx.2.1 hd ?_
  exact k hx hk H locs ls hP hS hl ⟨trivial, hst.2.2⟩ hlo
theorem r_iand {a b : Int32} (hd : dc_at y pc (.iand) 1) (h2 : pc + 1 = pc2) (k : Rc_ PL y pc2 lo (vI (a &&& b) :: st) V Φ) : Rc_ PL y pc lo (vI b :: vI a :: st) V Φ := by
  subst h2
  intro p l e R s m args below meth c cells slots Z dC dI cI cZ ad A hx hk H locs ls hP hS hl hst hlo
  refine lv_iand hx.1 hx.2.1 hd ?_
  exact k hx hk H locs ls hP hS hl ⟨trivial, hst.2.2⟩ hlo
theorem r_ior {a b : Int32} (hd : dc_at y pc (.ior) 1) (h2 : pc + 1 = pc2) (k : Rc_ PL y pc2 lo (vI (a ||| b) :: st) V Φ) : Rc_ PL y pc lo (vI b :: vI a :: st) V Φ := by
  subst h2
  intro p l e R s m args below meth c cells slots Z dC dI cI cZ ad A hx hk H locs ls hP hS hl hst hlo
  refine lv_ior hx.1 hx.2.1 hd ?_
  exact k hx hk H locs ls hP hS hl ⟨trivial, hst.2.2⟩ hlo
theorem r_ishl {a b : Int32} (hd : dc_at y pc (.ishl) 1) (h2 : pc + 1 = pc2) (k : Rc_ PL y pc2 lo (vI (a <<< (b &&& 31)) :: st) V Φ) : Rc_ PL y pc lo (vI b :: vI a :: st) V Φ := by
  subst h2
  intro p l e R s m args below meth c cells slots Z dC dI cI cZ ad A hx hk H locs ls hP hS hl hst hlo
  refine lv_ishl hx.1 hx.2.1 hd ?_
  exact k hx hk H locs ls hP hS hl ⟨trivial, hst.2.2⟩ hlo
theorem r_ishr {a b : Int32} (hd : dc_at y pc (.ishr) 1) (h2 : pc + 1 = pc2) (k : Rc_ PL y pc2 lo (vI (a >>> (b &&& 31)) :: st) V Φ) : Rc_ PL y pc lo (vI b :: vI a :: st) V Φ := by
  subst h2
  intro p l e R s m args below meth c cells slots Z dC dI cI cZ ad A hx hk H locs ls hP hS hl hst hlo
  refine lv_ishr hx.1 hx.2.1 hd ?_
  exact k hx hk H locs ls hP hS hl ⟨trivial, hst.2.2⟩ hlo
theorem r_idiv {a b : Int32} (hd : dc_at y pc (.idiv) 1) (hb : ¬ b = 0) (h2 : pc + 1 = pc2) (k : Rc_ PL y pc2 lo (vI (a / b) :: st) V Φ) : Rc_ PL y pc lo (vI b :: vI a :: st) V Φ := by
  subst h2
  intro p l e R s m args below meth c cells slots Z dC dI cI cZ ad A hx hk H locs ls hP hS hl hst hlo
  refine lv_idiv hx.1 hx.2.1 hd hb ?_
  exact k hx hk H locs ls hP hS hl ⟨trivial, hst.2.2⟩ hlo
theorem r_irem {a b : Int32} (hd : dc_at y pc (.irem) 1) (hb : ¬ b = 0) (h2 : pc + 1 = pc2) (k : Rc_ PL y pc2 lo (vI (a - a / b * b) :: st) V Φ) : Rc_ PL y pc lo (vI b :: vI a :: st) V Φ := by
  subst h2
  intro p l e R s m args below meth c cells slots Z dC dI cI cZ ad A hx hk H locs ls hP hS hl hst hlo
  refine lv_irem hx.1 hx.2.1 hd hb ?_
  exact k hx hk H locs ls hP hS hl ⟨trivial, hst.2.2⟩ hlo
theorem r_i2f {a : Int32} (hd : dc_at y pc (.i2f) 1) (h2 : pc + 1 = pc2) (k : Rc_ PL y pc2 lo (vF (FP.i2f a) :: st) V Φ) : Rc_ PL y pc lo (vI a :: st) V Φ := by
  subst h2
  intro p l e R s m args below meth c cells slots Z dC dI cI cZ ad A hx hk H locs ls hP hS hl hst hlo
  refine lv_i2f hx.1 hx.2.1 hd ?_
  exact k hx hk H locs ls hP hS hl ⟨trivial, hst.2⟩ hlo
theorem r_f2i {a : UInt32} (hd : dc_at y pc (.f2i) 1) (h2 : pc + 1 = pc2) (k : Rc_ PL y pc2 lo (vI (FP.f2i a) :: st) V Φ) : Rc_ PL y pc lo (vF a :: st) V Φ := by
  subst h2
  intro p l e R s m args below meth c cells slots Z dC dI cI cZ ad A hx hk H locs ls hP hS hl hst hlo
  refine lv_f2i hx.1 hx.2.1 hd ?_
  exact k hx hk H locs ls hP hS hl ⟨trivial, hst.2⟩ hlo
theorem r_fcmp {a b : UInt32} {op : CmpOp} (hd : dc_at y pc (.fcmp op) 1) (h2 : pc + 1 = pc2) (k : Rc_ PL y pc2 lo (vI (Op.cmpValue (FP.fcmp a b) op) :: st) V Φ) : Rc_ PL y pc lo (vF b :: vF a :: st) V Φ := by
  subst h2
  intro p l e R s m args below meth c cells slots Z dC dI cI cZ ad A hx hk H locs ls hP hS hl hst hlo
  refine lv_fcmp hx.1 hx.2.1 hd ?_
  exact k hx hk H locs ls hP hS hl ⟨trivial, hst.2.2⟩ hlo
theorem r_fdiv {a b : UInt32} (hd : dc_at y pc (.fdiv) 1) (hn : vf_n32 (FP.fdiv a b)) (h2 : pc + 1 = pc2) (k : Rc_ PL y pc2 lo (vF (FP.fdiv a b) :: st) V Φ) : Rc_ PL y pc lo (vF b :: vF a :: st) V Φ := by
  subst h2
  intro p l e R s m args below meth c cells slots Z dC dI cI cZ ad A hx hk H locs ls hP hS hl hst hlo
  refine lv_fdiv hx.1 hx.2.1 hd hn ?_
  exact k hx hk H locs ls hP hS hl ⟨trivial, hst.2.2⟩ hlo
theorem r_fmul {a b : UInt32} (hd : dc_at y pc (.fmul) 1) (hn : vf_n32 (FP.fmul a b)) (h2 : pc + 1 = pc2) (k : Rc_ PL y pc2 lo (vF (FP.fmul a b) :: st) V Φ) : Rc_ PL y pc lo (vF b :: vF a :: st) V Φ := by
  subst h2
  intro p l e R s m args below meth c cells slots Z dC dI cI cZ ad A hx hk H locs ls hP hS hl hst hlo
  refine lv_fmul hx.1 hx.2.1 hd hn ?_
  exact k hx hk H locs ls hP hS hl ⟨trivial, hst.2.2⟩ hlo
theorem r_dup {v : Vl_} (hd : dc_at y pc (.dup) 1) (h2 : pc + 1 = pc2) (k : Rc_ PL y pc2 lo (v :: v :: st) V Φ) : Rc_ PL y pc lo (v :: st) V Φ := by
  subst h2
  intro p l e R s m args below meth c cells slots Z dC dI cI cZ ad A hx hk H locs ls hP hS hl hst hlo
  refine lv_dup hx.1 hx.2.1 hd (tr_cat ad v) ?_
  exact k hx hk H locs ls hP hS hl ⟨hst.1, hst⟩ hlo
theorem r_dup2 {v w : Vl_} (hd : dc_at y pc (.dup2) 1) (h2 : pc + 1 = pc2) (k : Rc_ PL y pc2 lo (v :: w :: v :: w :: st) V Φ) : Rc_ PL y pc lo (v :: w :: st) V Φ := by
  subst h2
  intro p l e R s m args below meth c cells slots Z dC dI cI cZ ad A hx hk H locs ls hP hS hl hst hlo
  refine lv_dup2_11 hx.1 hx.2.1 hd (tr_cat ad v) (tr_cat ad w) ?_
  exact k hx hk H locs ls hP hS hl ⟨hst.1, hst.2.1, hst⟩ hlo
theorem r_pop {v : Vl_} (hd : dc_at y pc (.pop) 1) (h2 : pc + 1 = pc2) (k : Rc_ PL y pc2 lo (st) V Φ) : Rc_ PL y pc lo (v :: st) V Φ := by
  subst h2
  intro p l e R s m args below meth c cells slots Z dC dI cI cZ ad A hx hk H locs ls hP hS hl hst hlo
  refine lv_pop hx.1 hx.2.1 hd (tr_cat ad v) ?_
  exact k hx hk H locs ls hP hS hl hst.2 hlo
theorem r_istore_n {i : Fin 4} {x : Int32} {lo2 : List (Option Vl_)} (hd : dc_at y pc (.istore_n i) 1) (hn : (i : Nat) < y.2.2.1) (hl2 : lo.set (i : Nat) (some (vI x)) = lo2) (h2 : pc + 1 = pc2) (k : Rc_ PL y pc2 lo2 st V Φ) : Rc_ PL y pc lo (vI x :: st) V Φ := by
  subst h2
  subst hl2
  intro p l e R s m args below meth c cells slots Z dC dI cI cZ ad A hx hk H locs ls hP hS hl hst hlo
  refine lv_istore_n hx.1 hx.2.1 hd rfl hl hn rfl (fun ls2 hl2 => ?_)
  exact k hx hk H locs ls2 hP hS (l_put (v := vI x) hl2) hst.2 (ok_l.set hst.1 hlo)
theorem r_istore {i : Nat} {x : Int32} {lo2 : List (Option Vl_)} (hd : dc_at y pc (.istore i) 2) (hn : i < y.2.2.1) (hl2 : lo.set i (some (vI x)) = lo2) (h2 : pc + 2 = pc2) (k : Rc_ PL y pc2 lo2 st V Φ) : Rc_ PL y pc lo (vI x :: st) V Φ := by
  subst h2
  subst hl2
  intro p l e R s m args below meth c cells slots Z dC dI cI cZ ad A hx hk H locs ls hP hS hl hst hlo
  refine lv_istore hx.1 hx.2.1 hd hl hn rfl (fun ls2 hl2 => ?_)
  exact k hx hk H locs ls2 hP hS (l_put (v := vI x) hl2) hst.2 (ok_l.set hst.1 hlo)
theorem r_fstore_n {i : Fin 4} {x : UInt32} {lo2 : List (Option Vl_)} (hd : dc_at y pc (.fstore_n i) 1) (hn : (i : Nat) < y.2.2.1) (hl2 : lo.set (i : Nat) (some (vF x)) = lo2) (h2 : pc + 1 = pc2) (k : Rc_ PL y pc2 lo2 st V Φ) : Rc_ PL y pc lo (vF x :: st) V Φ := by
  subst h2
  subst hl2
  intro p l e R s m args below meth c cells slots Z dC dI cI cZ ad A hx hk H locs ls hP hS hl hst hlo
  refine lv_fstore_n hx.1 hx.2.1 hd rfl hl hn rfl (fun ls2 hl2 => ?_)
  exact k hx hk H locs ls2 hP hS (l_put (v := vF x) hl2) hst.2 (ok_l.set hst.1 hlo)
theorem r_astore_n {i : Fin 4} {g r : Nat} {lo2 : List (Option Vl_)} (hd : dc_at y pc (.astore_n i) 1) (hn : (i : Nat) < y.2.2.1) (hl2 : lo.set (i : Nat) (some (vR g r)) = lo2) (h2 : pc + 1 = pc2) (k : Rc_ PL y pc2 lo2 st V Φ) : Rc_ PL y pc lo (vR g r :: st) V Φ := by
  subst h2
  subst hl2
  intro p l e R s m args below meth c cells slots Z dC dI cI cZ ad A hx hk H locs ls hP hS hl hst hlo
  refine lv_astore_n hx.1 hx.2.1 hd rfl hl hn rfl (fun ls2 hl2 => ?_)
  exact k hx hk H locs ls2 hP hS (l_put (v := vR g r) hl2) hst.2 (ok_l.set hst.1 hlo)
theorem l_enk {ad : Nat × Nat → Nat} {lo : List (Option Vl_)} {i : Nat} {v : Vl_} (h : lo[i]? = some (some v)) : ∃ k : Nat, (l_en ad 0 lo)[k]? = some (i, tr_ ad v) := by
  have := l_en_in (ad := ad) (k := 0) h
  rw [Nat.zero_add] at this
  exact List.getElem?_of_mem this
theorem r_iinc {i : Nat} {n : Int} {x v : Int32} {lo2 : List (Option Vl_)} (hd : dc_at y pc (.iinc i n) 3) (hi : lo[i]? = some (some (vI x))) (hn : i < y.2.2.1) (hv : x + Int32.ofInt n = v) (hl2 : lo.set i (some (vI v)) = lo2) (h2 : pc + 3 = pc2) (k : Rc_ PL y pc2 lo2 st V Φ) : Rc_ PL y pc lo st V Φ := by
  subst h2
  subst hl2
  intro p l e R s m args below meth c cells slots Z dC dI cI cZ ad A hx hk H locs ls hP hS hl hst hlo
  obtain ⟨kk, hkk⟩ := l_enk (ad := ad) hi
  refine lv_iinc (v := v) hx.1 hx.2.1 hd hl (k := kk) hkk hv hn rfl (fun ls2 hl2 => ?_)
  exact k hx hk H locs ls2 hP hS (l_put (v := vI v) hl2) hst (ok_l.set (v := vI v) trivial hlo)
theorem r_goto {off : Int} (hd : dc_at y pc (.goto off) 3) (h2 : (pc : Int) + off = (pc2 : Int)) (k : Rc_ PL y pc2 lo st V Φ) : Rc_ PL y pc lo st V Φ := by
  intro p l e R s m args below meth c cells slots Z dC dI cI cZ ad A hx hk H locs ls hP hS hl hst hlo
  exact lv_goto hx.1 hx.2.1 hd h2 (k hx hk H locs ls hP hS hl hst hlo)
theorem r_if_eq {off : Int} {tgt : Nat} {x : Int32} (hd : dc_at y pc (.ifCond .eq off) 3) (ht : (pc : Int) + off = (tgt : Int)) (h2 : pc + 3 = pc2) (kt : x = 0 → Rc_ PL y tgt lo st V Φ) (kf : ¬ x = 0 → Rc_ PL y pc2 lo st V Φ) : Rc_ PL y pc lo (vI x :: st) V Φ := by
  subst h2
  intro p l e R s m args below meth c cells slots Z dC dI cI cZ ad A hx hk H locs ls hP hS hl hst hlo
  exact lv_if_eq hx.1 hx.2.1 hd ht (fun h => kt h hx hk H locs ls hP hS hl hst.2 hlo) (fun h => kf h hx hk H locs ls hP hS hl hst.2 hlo)
theorem r_if_ne {off : Int} {tgt : Nat} {x : Int32} (hd : dc_at y pc (.ifCond .ne off) 3) (ht : (pc : Int) + off = (tgt : Int)) (h2 : pc + 3 = pc2) (kt : ¬ x = 0 → Rc_ PL y tgt lo st V Φ) (kf : x = 0 → Rc_ PL y pc2 lo st V Φ) : Rc_ PL y pc lo (vI x :: st) V Φ := by
  subst h2
  intro p l e R s m args below meth c cells slots Z dC dI cI cZ ad A hx hk H locs ls hP hS hl hst hlo
  exact lv_if_ne hx.1 hx.2.1 hd ht (fun h => kt h hx hk H locs ls hP hS hl hst.2 hlo) (fun h => kf h hx hk H locs ls hP hS hl hst.2 hlo)
theorem r_if_lt {off : Int} {tgt : Nat} {x : Int32} (hd : dc_at y pc (.ifCond .lt off) 3) (ht : (pc : Int) + off = (tgt : Int)) (h2 : pc + 3 = pc2) (kt : x < 0 → Rc_ PL y tgt lo st V Φ) (kf : ¬ x < 0 → Rc_ PL y pc2 lo st V Φ) : Rc_ PL y pc lo (vI x :: st) V Φ := by
  subst h2
  intro p l e R s m args below meth c cells slots Z dC dI cI cZ ad A hx hk H locs ls hP hS hl hst hlo
  exact lv_if_lt hx.1 hx.2.1 hd ht (fun h => kt h hx hk H locs ls hP hS hl hst.2 hlo) (fun h => kf h hx hk H locs ls hP hS hl hst.2 hlo)
theorem r_if_ge {off : Int} {tgt : Nat} {x : Int32} (hd : dc_at y pc (.ifCond .ge off) 3) (ht : (pc : Int) + off = (tgt : Int)) (h2 : pc + 3 = pc2) (kt : 0 ≤ x → Rc_ PL y tgt lo st V Φ) (kf : ¬ 0 ≤ x → Rc_ PL y pc2 lo st V Φ) : Rc_ PL y pc lo (vI x :: st) V Φ := by
  subst h2
  intro p l e R s m args below meth c cells slots Z dC dI cI cZ ad A hx hk H locs ls hP hS hl hst hlo
  exact lv_if_ge hx.1 hx.2.1 hd ht (fun h => kt h hx hk H locs ls hP hS hl hst.2 hlo) (fun h => kf h hx hk H locs ls hP hS hl hst.2 hlo)
theorem r_if_gt {off : Int} {tgt : Nat} {x : Int32} (hd : dc_at y pc (.ifCond .gt off) 3) (ht : (pc : Int) + off = (tgt : Int)) (h2 : pc + 3 = pc2) (kt : 0 < x → Rc_ PL y tgt lo st V Φ) (kf : ¬ 0 < x → Rc_ PL y pc2 lo st V Φ) : Rc_ PL y pc lo (vI x :: st) V Φ := by
  subst h2
  intro p l e R s m args below meth c cells slots Z dC dI cI cZ ad A hx hk H locs ls hP hS hl hst hlo
  exact lv_if_gt hx.1 hx.2.1 hd ht (fun h => kt h hx hk H locs ls hP hS hl hst.2 hlo) (fun h => kf h hx hk H locs ls hP hS hl hst.2 hlo)
theorem r_if_le {off : Int} {tgt : Nat} {x : Int32} (hd : dc_at y pc (.ifCond .le off) 3) (ht : (pc : Int) + off = (tgt : Int)) (h2 : pc + 3 = pc2) (kt : x ≤ 0 → Rc_ PL y tgt lo st V Φ) (kf : ¬ x ≤ 0 → Rc_ PL y pc2 lo st V Φ) : Rc_ PL y pc lo (vI x :: st) V Φ := by
  subst h2
  intro p l e R s m args below meth c cells slots Z dC dI cI cZ ad A hx hk H locs ls hP hS hl hst hlo
  exact lv_if_le hx.1 hx.2.1 hd ht (fun h => kt h hx hk H locs ls hP hS hl hst.2 hlo) (fun h => kf h hx hk H locs ls hP hS hl hst.2 hlo)
theorem r_ic_eq {off : Int} {tgt : Nat} {a b : Int32} (hd : dc_at y pc (.if_icmp .eq off) 3) (ht : (pc : Int) + off = (tgt : Int)) (h2 : pc + 3 = pc2) (kt : a = b → Rc_ PL y tgt lo st V Φ) (kf : ¬ (a = b) → Rc_ PL y pc2 lo st V Φ) : Rc_ PL y pc lo (vI b :: vI a :: st) V Φ := by
  subst h2
  intro p l e R s m args below meth c cells slots Z dC dI cI cZ ad A hx hk H locs ls hP hS hl hst hlo
  exact lv_icmp_eq hx.1 hx.2.1 hd ht (fun h => kt h hx hk H locs ls hP hS hl hst.2.2 hlo) (fun h => kf h hx hk H locs ls hP hS hl hst.2.2 hlo)
theorem r_ic_ne {off : Int} {tgt : Nat} {a b : Int32} (hd : dc_at y pc (.if_icmp .ne off) 3) (ht : (pc : Int) + off = (tgt : Int)) (h2 : pc + 3 = pc2) (kt : ¬ a = b → Rc_ PL y tgt lo st V Φ) (kf : a = b → Rc_ PL y pc2 lo st V Φ) : Rc_ PL y pc lo (vI b :: vI a :: st) V Φ := by
  subst h2
  intro p l e R s m args below meth c cells slots Z dC dI cI cZ ad A hx hk H locs ls hP hS hl hst hlo
  exact lv_icmp_ne hx.1 hx.2.1 hd ht (fun h => kt h hx hk H locs ls hP hS hl hst.2.2 hlo) (fun h => kf h hx hk H locs ls hP hS hl hst.2.2 hlo)
theorem r_ic_lt {off : Int} {tgt : Nat} {a b : Int32} (hd : dc_at y pc (.if_icmp .lt off) 3) (ht : (pc : Int) + off = (tgt : Int)) (h2 : pc + 3 = pc2) (kt : a < b → Rc_ PL y tgt lo st V Φ) (kf : ¬ (a < b) → Rc_ PL y pc2 lo st V Φ) : Rc_ PL y pc lo (vI b :: vI a :: st) V Φ := by
  subst h2
  intro p l e R s m args below meth c cells slots Z dC dI cI cZ ad A hx hk H locs ls hP hS hl hst hlo
  exact lv_icmp_lt hx.1 hx.2.1 hd ht (fun h => kt h hx hk H locs ls hP hS hl hst.2.2 hlo) (fun h => kf h hx hk H locs ls hP hS hl hst.2.2 hlo)
theorem r_ic_ge {off : Int} {tgt : Nat} {a b : Int32} (hd : dc_at y pc (.if_icmp .ge off) 3) (ht : (pc : Int) + off = (tgt : Int)) (h2 : pc + 3 = pc2) (kt : b ≤ a → Rc_ PL y tgt lo st V Φ) (kf : ¬ (b ≤ a) → Rc_ PL y pc2 lo st V Φ) : Rc_ PL y pc lo (vI b :: vI a :: st) V Φ := by
  subst h2
  intro p l e R s m args below meth c cells slots Z dC dI cI cZ ad A hx hk H locs ls hP hS hl hst hlo
  exact lv_icmp_ge hx.1 hx.2.1 hd ht (fun h => kt h hx hk H locs ls hP hS hl hst.2.2 hlo) (fun h => kf h hx hk H locs ls hP hS hl hst.2.2 hlo)
theorem r_ic_gt {off : Int} {tgt : Nat} {a b : Int32} (hd : dc_at y pc (.if_icmp .gt off) 3) (ht : (pc : Int) + off = (tgt : Int)) (h2 : pc + 3 = pc2) (kt : b < a → Rc_ PL y tgt lo st V Φ) (kf : ¬ (b < a) → Rc_ PL y pc2 lo st V Φ) : Rc_ PL y pc lo (vI b :: vI a :: st) V Φ := by
  subst h2
  intro p l e R s m args below meth c cells slots Z dC dI cI cZ ad A hx hk H locs ls hP hS hl hst hlo
  exact lv_icmp_gt hx.1 hx.2.1 hd ht (fun h => kt h hx hk H locs ls hP hS hl hst.2.2 hlo) (fun h => kf h hx hk H locs ls hP hS hl hst.2.2 hlo)
theorem r_ic_le {off : Int} {tgt : Nat} {a b : Int32} (hd : dc_at y pc (.if_icmp .le off) 3) (ht : (pc : Int) + off = (tgt : Int)) (h2 : pc + 3 = pc2) (kt : a ≤ b → Rc_ PL y tgt lo st V Φ) (kf : ¬ (a ≤ b) → Rc_ PL y pc2 lo st V Φ) : Rc_ PL y pc lo (vI b :: vI a :: st) V Φ := by
  subst h2
  intro p l e R s m args below meth c cells slots Z dC dI cI cZ ad A hx hk H locs ls hP hS hl hst hlo
  exact lv_icmp_le hx.1 hx.2.1 hd ht (fun h => kt h hx hk H locs ls hP hS hl hst.2.2 hlo) (fun h => kf h hx hk H locs ls hP hS hl hst.2.2 hlo)
theorem r_swIn {dflt lo' hi : Int} {offs : Array Int} {len tgt : Nat} {x : Int32} {off : Int} (hd : dc_at y pc (.tableswitch dflt lo' hi offs) len) (h1 : ¬ x.toInt < lo') (h2 : ¬ hi < x.toInt) (ho : offs[(x.toInt - lo').toNat]? = some off) (ht : (pc : Int) + off = (tgt : Int)) (k : Rc_ PL y tgt lo st V Φ) : Rc_ PL y pc lo (vI x :: st) V Φ := by
  intro p l e R s m args below meth c cells slots Z dC dI cI cZ ad A hx hk H locs ls hP hS hl hst hlo
  exact lv_tableIn hx.1 hx.2.1 hd h1 h2 ho ht (k hx hk H locs ls hP hS hl hst.2 hlo)
theorem r_swOut {dflt lo' hi : Int} {offs : Array Int} {len tgt : Nat} {x : Int32} (hd : dc_at y pc (.tableswitch dflt lo' hi offs) len) (h : x.toInt < lo' ∨ hi < x.toInt) (ht : (pc : Int) + dflt = (tgt : Int)) (k : Rc_ PL y tgt lo st V Φ) : Rc_ PL y pc lo (vI x :: st) V Φ := by
  intro p l e R s m args below meth c cells slots Z dC dI cI cZ ad A hx hk H locs ls hP hS hl hst hlo
  exact lv_tableOut hx.1 hx.2.1 hd h ht (k hx hk H locs ls hP hS hl hst.2 hlo)
end ROWS
