/-! base 1: abstract values, places, memory; the world of a memory -/
abbrev Vl_ : Type := Int32 ⊕ ((Nat × Nat) ⊕ UInt32)
abbrev vI (x : Int32) : Vl_ := .inl x
abbrev vR (g r : Nat) : Vl_ := .inr (.inl (g, r))
abbrev vF (f : UInt32) : Vl_ := .inr (.inr f)
abbrev Mm_ : Type := Nat → Nat → Nat → Int32
def tr_ (ad : Nat × Nat → Nat) : Vl_ → Value
  | .inl x => .int x
  | .inr (.inl q) => .ref (ad q)
  | .inr (.inr f) => .float f
/-- a place's class (none: an array) -/
def k_cls : Nat → Option Nat
  | 0 => some 2 | 1 => some 1 | 6 => some 4 | 12 => some 5 | 15 => some 0 | 18 => some 7 | 20 => some 3 | 30 => some 6 | 33 => some 8 | _ => none
/-- a place's fields: a number, or the place that it refers to -/
def k_fld (g : Nat) : Nat → List (Option (Nat × Nat))
  | 0 => [none, none, none, some (g, 1), some (g, 6), some (g, 12), some (g, 15), some (g, 17)]
  | 1 => [none, some (g, 2), some (g, 3), some (g, 4), some (g, 5)]
  | 6 => [some (g, 7), some (g, 8), some (g, 9), some (g, 10), some (g, 11)]
  | 12 => [some (g, 13), some (g, 14)]
  | 15 => [some (g, 16), none]
  | 18 => [some (0, 19), some (1, 0), some (2, 0), some (3, 0), some (0, 20), some (0, 30), some (0, 32), none]
  | 20 => [some (0, 21), some (0, 22), some (0, 23), some (0, 24), none, some (0, 25), some (0, 26), some (0, 27), some (0, 28), some (0, 29), none]
  | 30 => [some (0, 31)]
  | 33 => [none, some (0, 34), some (0, 35), some (0, 36), none, some (0, 37), some (0, 38), some (0, 39), some (0, 40), some (0, 41), some (0, 42), some (0, 43), some (0, 44), some (0, 45), none]
  | _ => []
/-- an array's length -/
def k_len : Nat → Nat
  | 2 => 64 | 3 => 64 | 4 => 64 | 5 => 64 | 7 => 512 | 8 => 512 | 9 => 512 | 10 => 512 | 11 => 512 | 13 => 64 | 14 => 64 | 16 => 64 | 17 => 64
  | 19 => 10 | 21 => 64 | 22 => 64 | 23 => 64 | 24 => 8 | 25 => 8 | 26 => 8 | 27 => 8 | 28 => 8 | 29 => 8 | 31 => 64 | 32 => 8
  | 34 => 3596 | 35 => 3596 | 36 => 3596 | 37 => 10 | 38 => 10 | 39 => 10 | 40 => 64 | 41 => 64 | 42 => 64 | 43 => 8 | 44 => 64 | 45 => 241 | _ => 0
def k_isZ : Nat → Bool
  | 32 => true | 43 => true | 45 => true | _ => false
def f_vals (ad : Nat × Nat → Nat) (f : Nat → Int32) : Nat → List (Option (Nat × Nat)) → List Value
  | _, [] => []
  | k, some q :: r => .ref (ad q) :: f_vals ad f (k + 1) r
  | k, none :: r => .int (f k) :: f_vals ad f (k + 1) r
def c_of (ad : Nat × Nat → Nat) (cI cZ : ClassId) (V : Mm_) (q : Nat × Nat) : va_E := match k_cls q.2 with
  | some ci => .inr (ci, f_vals ad (V q.1 q.2) 0 (k_fld q.1 q.2))
  | none => .inl (if k_isZ q.2 = true then cZ else cI, k_len q.2, .inl (V q.1 q.2))
def w_of (ad : Nat × Nat → Nat) (cI cZ : ClassId) (PL : List (Nat × Nat)) (V : Mm_) : va_W := PL.map (fun q => (ad q, c_of ad cI cZ V q))
/-- memory: a place's numbers anew -/
def a_set (V : Mm_) (g r : Nat) (f : Nat → Int32) : Mm_ := fun g' r' => if g' = g ∧ r' = r then f else V g' r'
abbrev m_set (V : Mm_) (g r i : Nat) (x : Int32) : Mm_ := a_set V g r (upd (V g r) i x)
theorem w_at {ad : Nat × Nat → Nat} {cI cZ : ClassId} {PL : List (Nat × Nat)} {V : Mm_} {q : Nat × Nat} (h : q ∈ PL) : ∃ i : Nat, PL[i]? = some q ∧ (w_of ad cI cZ PL V)[i]? = some (ad q, c_of ad cI cZ V q) := by
  obtain ⟨i, hi⟩ := List.getElem?_of_mem h
  exact ⟨i, hi, by rw [w_of, List.getElem?_map, hi]; rfl⟩
theorem f_vals_len (ad : Nat × Nat → Nat) (f : Nat → Int32) : ∀ (l : List (Option (Nat × Nat))) (k : Nat), (f_vals ad f k l).length = l.length
  | [], _ => rfl
  | some _ :: r, k => by simp [f_vals, f_vals_len ad f r (k + 1)]
  | none :: r, k => by simp [f_vals, f_vals_len ad f r (k + 1)]
theorem f_vals_get (ad : Nat × Nat → Nat) (f : Nat → Int32) : ∀ (l : List (Option (Nat × Nat))) (k i : Nat) (o : Option (Nat × Nat)), l[i]? = some o → (f_vals ad f k l)[i]? = some (match o with | some q => Value.ref (ad q) | none => .int (f (k + i)))
  | [], _, i, o, h => by simp at h
  | a :: r, k, 0, o, h => by
    simp only [List.getElem?_cons_zero, Option.some.injEq] at h
    subst h
    cases a <;> rfl
  | a :: r, k, i + 1, o, h => by
    simp only [List.getElem?_cons_succ] at h
    have h2 := f_vals_get ad f r (k + 1) i o h
    rw [show k + 1 + i = k + (i + 1) by omega] at h2
    cases a <;> simpa [f_vals] using h2
theorem f_vals_cong (ad : Nat × Nat → Nat) {f g : Nat → Int32} : ∀ (l : List (Option (Nat × Nat))) (k : Nat), (∀ i, k ≤ i → f i = g i) → f_vals ad f k l = f_vals ad g k l
  | [], _, _ => rfl
  | some q :: r, k, h => by simp only [f_vals]; rw [f_vals_cong ad r (k + 1) (fun i hi => h i (by omega))]
  | none :: r, k, h => by simp only [f_vals]; rw [h k (Nat.le_refl k), f_vals_cong ad r (k + 1) (fun i hi => h i (by omega))]
theorem f_vals_set (ad : Nat × Nat → Nat) (f : Nat → Int32) (x : Int32) : ∀ (l : List (Option (Nat × Nat))) (k i : Nat), l[i]? = some none → (f_vals ad f k l).set i (.int x) = f_vals ad (upd f (k + i) x) k l
  | [], _, i, h => by simp at h
  | a :: r, k, 0, h => by
    simp only [List.getElem?_cons_zero, Option.some.injEq] at h
    subst h
    simp only [f_vals, List.set_cons_zero, Nat.add_zero]
    rw [pk_us]
    exact congrArg _ (f_vals_cong ad r (k + 1) (fun i hi => by rw [pk_un (by omega)]))
  | a :: r, k, i + 1, h => by
    simp only [List.getElem?_cons_succ] at h
    have h2 := f_vals_set ad f x r (k + 1) i h
    rw [show k + 1 + i = k + (i + 1) by omega] at h2
    cases a with
    | some q => simp only [f_vals, List.set_cons_succ]; rw [h2]
    | none => simp only [f_vals, List.set_cons_succ]; rw [h2, pk_un (by omega)]
theorem w_D {ad : Nat × Nat → Nat} {cI cZ : ClassId} {PL : List (Nat × Nat)} {V V' : Mm_} {A : Nat → Prop} (h : va_D A (w_of ad cI cZ PL V)) : va_D A (w_of ad cI cZ PL V') := by
  have key : ∀ (k : Nat) (q : Nat × va_E), (w_of ad cI cZ PL V')[k]? = some q → ∃ q0, (w_of ad cI cZ PL V)[k]? = some q0 ∧ q0.1 = q.1 := by
    intro k q hk
    rw [w_of, List.getElem?_map] at hk
    cases hp : PL[k]? with
    | none => rw [hp] at hk; cases hk
    | some p =>
      rw [hp] at hk
      cases hk
      exact ⟨(ad p, c_of ad cI cZ V p), by rw [w_of, List.getElem?_map, hp]; rfl, rfl⟩
  refine ⟨fun i j x y hi hj hxy => ?_, fun k q hk => ?_⟩
  · obtain ⟨x0, h1, h2⟩ := key i x hi
    obtain ⟨y0, h3, h4⟩ := key j y hj
    exact h.1 i j x0 y0 h1 h3 (h2.trans (hxy.trans h4.symm))
  · obtain ⟨q0, h1, h2⟩ := key k q hk
    rw [← h2]
    exact h.2 k q0 h1
/-- one cell of the world anew: the world of the memory that is changed there -/
theorem w_set {ad : Nat × Nat → Nat} {cI cZ : ClassId} {PL : List (Nat × Nat)} {V : Mm_} {A : Nat → Prop} {g r i : Nat} {f : Nat → Int32} (hD : va_D A (w_of ad cI cZ PL V)) (hi : PL[i]? = some (g, r)) {e : va_E} (he : e = c_of ad cI cZ (a_set V g r f) (g, r)) : (w_of ad cI cZ PL V).set i (ad (g, r), e) = w_of ad cI cZ PL (a_set V g r f) := by
  subst he
  apply List.ext_getElem?
  intro k
  have hl := (List.getElem?_eq_some_iff.mp hi).1
  by_cases hk : k = i
  · subst hk
    rw [List.getElem?_set_self (by rw [w_of, List.length_map]; exact hl), w_of, List.getElem?_map, hi]
    rfl
  · rw [List.getElem?_set_ne (Ne.symm hk), w_of, w_of, List.getElem?_map, List.getElem?_map]
    cases hp : PL[k]? with
    | none => rfl
    | some p =>
      have hne : p ≠ (g, r) := by
        intro z
        subst z
        exact hk (hD.1 k i (ad (g, r), c_of ad cI cZ V (g, r)) (ad (g, r), c_of ad cI cZ V (g, r)) (by rw [w_of, List.getElem?_map, hp]; rfl) (by rw [w_of, List.getElem?_map, hi]; rfl) rfl)
      have hV : a_set V g r f p.1 p.2 = V p.1 p.2 := by
        unfold a_set
        rw [if_neg]
        rintro ⟨h1, h2⟩
        exact hne (Prod.ext h1 h2)
      simp only [Option.map_some]
      unfold c_of
      rw [hV]
theorem a_self (V : Mm_) (g r : Nat) (f : Nat → Int32) : a_set V g r f g r = f := by unfold a_set; rw [if_pos ⟨rfl, rfl⟩]
