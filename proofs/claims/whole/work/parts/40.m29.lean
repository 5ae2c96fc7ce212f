/-! both: a link put or taken away; a new start: written by wip/whole/m29.py -/
/-- a state with all numbers of a link put, and the count of links -/
def p4_ (s : Sg_) (i j : Nat) (lo up co u c : Int32) : Sg_ := fun r k => if r = 1 ∧ k = 0 then c else if k = i * 8 + j ∨ k = j * 8 + i then (if r = 2 then lo else if r = 3 then up else if r = 4 then co else if r = 5 then u else s r k) else s r k
theorem p4_2 {s : Sg_} {i j k : Nat} {lo up co u c : Int32} : p4_ s i j lo up co u c 2 k = if k = i * 8 + j ∨ k = j * 8 + i then lo else s 2 k := by
  unfold p4_
  rw [if_neg (by omega)]
  rfl
theorem p4_3 {s : Sg_} {i j k : Nat} {lo up co u c : Int32} : p4_ s i j lo up co u c 3 k = if k = i * 8 + j ∨ k = j * 8 + i then up else s 3 k := by
  unfold p4_
  rw [if_neg (by omega)]
  rfl
theorem p4_4 {s : Sg_} {i j k : Nat} {lo up co u c : Int32} : p4_ s i j lo up co u c 4 k = if k = i * 8 + j ∨ k = j * 8 + i then co else s 4 k := by
  unfold p4_
  rw [if_neg (by omega)]
  rfl
theorem p4_5 {s : Sg_} {i j k : Nat} {lo up co u c : Int32} : p4_ s i j lo up co u c 5 k = if k = i * 8 + j ∨ k = j * 8 + i then u else s 5 k := by
  unfold p4_
  rw [if_neg (by omega)]
  rfl
theorem p4_o {s : Sg_} {i j r : Nat} {lo up co u c : Int32} (h : ¬ (1 ≤ r ∧ r ≤ 5)) : p4_ s i j lo up co u c r = s r := by
  funext k
  unfold p4_
  rw [if_neg (by omega), if_neg (show ¬ r = 2 by omega), if_neg (show ¬ r = 3 by omega), if_neg (show ¬ r = 4 by omega), if_neg (show ¬ r = 5 by omega)]
  split <;> rfl
theorem p4_1 {s : Sg_} {i j : Nat} {lo up co u c : Int32} : p4_ s i j lo up co u c 1 0 = c := by
  unfold p4_
  rw [if_pos ⟨rfl, rfl⟩]
theorem p4_eq {V : Mm_} {i j : Nat} {lo up co u c : Int32} : m_set (b_set (b_set (b_set (b_set V 1 2 i j lo) 1 3 i j up) 1 4 i j co) 1 5 i j u) 1 1 0 c 1 = p4_ (V 1) i j lo up co u c := by
  funext r k
  have e : ∀ W : Mm_, m_set W 1 1 0 c 1 r k = if r = 1 ∧ k = 0 then c else W 1 r k := by
    intro W
    by_cases z : r = 1 ∧ k = 0
    · obtain ⟨z1, z2⟩ := z
      subst z1
      rw [m_j z2, if_pos ⟨rfl, z2⟩]
    · rw [if_neg z, mi_ne (by omega)]
  rw [e, b1_eq, b1_eq, b1_eq, b1_eq]
  unfold b1_ p4_
  by_cases hk : k = i * 8 + j ∨ k = j * 8 + i
  · by_cases h2 : r = 2
    · subst h2; simp [hk]
    · by_cases h3 : r = 3
      · subst h3; simp [hk]
      · by_cases h4 : r = 4
        · subst h4; simp [hk]
        · by_cases h5 : r = 5
          · subst h5; simp [hk]
          · simp [hk, h2, h3, h4, h5]
  · simp [hk]
theorem IV_.p4 {s : Sg_} {i j : Nat} {lo up co u c : Int32} (h : IV_ s) (hi : i < 8) (hj : j < 8) (hij : ¬ i = j) (h2 : 0 ≤ lo ∧ lo ≤ 500) (h3 : 0 ≤ up ∧ up ≤ 500) (h4 : 0 ≤ co ∧ co ≤ 500) (h5 : u = nI 0 ∨ (u = nI 1 ∧ 0 < lo)) : IV_ (p4_ s i j lo up co u c) := by
  refine ⟨?_, ?_, ?_, ?_, ?_, ?_, ?_, ?_, ?_, ?_, ?_⟩
  · intro k hk hu
    rw [p4_5] at hu
    rw [p4_2]
    by_cases z : k = i * 8 + j ∨ k = j * 8 + i
    · rw [if_pos z] at hu ⊢
      rcases h5 with q | q
      · rw [q] at hu; exact absurd hu (by decide)
      · exact q.2
    · rw [if_neg z] at hu ⊢; exact h.up k hk hu
  · intro a ha
    rw [p4_5, if_neg (by omega)]
    exact h.ud a ha
  · intro k hk
    rw [p4_5]
    split
    · exact h5.elim Or.inl (fun q => Or.inr q.1)
    · exact h.u01 k hk
  · rw [p4_o (by decide)]; exact h.sd
  · rw [p4_o (by decide)]; exact h.sn
  · rw [p4_o (by decide)]; exact h.b7
  · rw [p4_o (by decide)]; exact h.b8
  · intro k hk
    rw [p4_2]
    split
    · exact h2
    · exact h.l2 k hk
  · intro k hk
    rw [p4_3]
    split
    · exact h3
    · exact h.l3 k hk
  · intro k hk
    rw [p4_4]
    split
    · exact h4
    · exact h.l4 k hk
  · intro a b ha hb
    rw [p4_2, p4_2, p4_3, p4_3]
    by_cases z : a * 8 + b = i * 8 + j ∨ a * 8 + b = j * 8 + i
    · rw [if_pos z, if_pos z, if_pos (by omega), if_pos (by omega)]; exact ⟨rfl, rfl⟩
    · rw [if_neg z, if_neg z, if_neg (by omega), if_neg (by omega)]; exact h.sy a b ha hb
theorem RT_.p4 {x x' : Nat → Int32} {s : Sg_} {i j : Nat} {lo up co u c : Int32} (h : RT_ x s) (iv : IV_ (p4_ s i j lo up co u c)) (hx : ∀ q, 256 ≤ q → ¬ q = 3595 → x' q = x q) (hl : ∀ k w, k < 64 → w < 4 → x' (4 * k + w) = if k = i * 8 + j ∨ k = j * 8 + i then (if w = 0 then lo else if w = 1 then up else if w = 2 then co else u) else x (4 * k + w)) (hc : x' 3595 = c) : RT_ x' (p4_ s i j lo up co u c) := by
  refine h.net iv hx (fun k w hk hw => ?_) (by rw [hc, p4_1]) (fun r hr => p4_o hr)
  rw [hl k w hk hw]
  have e := h.lk k w hk hw
  obtain rfl | rfl | rfl | rfl : w = 0 ∨ w = 1 ∨ w = 2 ∨ w = 3 := by omega
  · rw [p4_2, e]; rfl
  · rw [p4_3, e]; rfl
  · rw [p4_4, e]; rfl
  · rw [p4_5, e]; rfl
theorem RT_.add {V : Mm_} {s : Sg_} {i j : Nat} {lo up c : Int32} (h : RT_ (V 0 34) s) (hi : i < 8) (hj : j < 8) (hij : ¬ i = j) (h1 : nI 1 ≤ lo ∧ lo ≤ nI 500) (h2 : lo ≤ up ∧ up ≤ nI 500) : RT_ (m_set (lw_ (lw_ (lw_ (lw_ V i j 0 lo) i j 1 up) i j 2 lo) i j 3 (nI 1)) 0 34 3595 c 0 34) (p4_ s i j lo up lo (nI 1) c) := by
  have hb : (0 ≤ lo ∧ lo ≤ 500) ∧ (0 ≤ up ∧ up ≤ 500) ∧ 0 < lo := by
    have i1 : (nI 1).toInt = 1 := by decide
    have i5 : (nI 500).toInt = 500 := by decide
    have i6 : (500 : Int32).toInt = 500 := by decide
    simp only [Int32.lt_iff_toInt_lt, Int32.le_iff_toInt_le, i_0, i1, i5, i6] at h1 h2 ⊢
    omega
  refine h.p4 (h.iv.p4 hi hj hij hb.1 hb.2.1 hb.1 (Or.inr ⟨rfl, hb.2.2⟩)) (fun q h1 h2 => ?_) (fun k w hk hw => ?_) (m_j rfl)
  · rw [m_i h2, lw_far hi hj (by decide) h1, lw_far hi hj (by decide) h1, lw_far hi hj (by decide) h1, lw_far hi hj (by decide) h1]
  · rw [m_i (by omega), lw_at (by decide) hw, lw_at (by decide) hw, lw_at (by decide) hw, lw_at (by decide) hw]
    by_cases z : k = i * 8 + j ∨ k = j * 8 + i
    · obtain rfl | rfl | rfl | rfl : w = 0 ∨ w = 1 ∨ w = 2 ∨ w = 3 := by omega
      all_goals simp [z]
    · simp [z]
theorem RT_.rem {V : Mm_} {s : Sg_} {i j : Nat} {c : Int32} (h : RT_ (V 0 34) s) (hi : i < 8) (hj : j < 8) (hij : ¬ i = j) : RT_ (m_set (lz_ V i j 4) 0 34 3595 c 0 34) (p4_ s i j (nI 0) (nI 0) (nI 0) (nI 0) c) := by
  refine h.p4 (h.iv.p4 hi hj hij (by decide) (by decide) (by decide) (Or.inl rfl)) (fun q h1 h2 => ?_) (fun k w hk hw => ?_) (m_j rfl)
  · rw [m_i h2, lz_far hi hj h1 4 (by omega)]
  · rw [m_i (by omega), lz_at hw]
    by_cases z : k = i * 8 + j ∨ k = j * 8 + i
    · rw [if_pos z, if_pos z]
      split
      · rfl
      · split
        · rfl
        · split <;> rfl
    · rw [if_neg z, if_neg z]
/-- a new start -/
theorem be_RT {V : Mm_} {g : Nat} {x : Int32} {y : Nat → Int32} (hy : ∀ k, k < 3596 → y k = be_ k) : RT_ y (sa_ V g x g) := by
  have s2 : ∀ r k, 2 ≤ r → r ≤ 5 → k < 64 → sa_ V g x g r k = nI 0 := by
    intro r k h1 h2 hk
    obtain rfl | rfl | rfl | rfl : r = 2 ∨ r = 3 ∨ r = 4 ∨ r = 5 := by omega
    all_goals (unfold sa_; simp [a_set, fl_, hk])
  have s7 : ∀ r k, 7 ≤ r → r ≤ 11 → k < 512 → sa_ V g x g r k = nI 0 := by
    intro r k h1 h2 hk
    obtain rfl | rfl | rfl | rfl | rfl : r = 7 ∨ r = 8 ∨ r = 9 ∨ r = 10 ∨ r = 11 := by omega
    all_goals (unfold sa_; simp [a_set, fl_, hk])
  have s17 : ∀ k, k < 64 → sa_ V g x g 17 k = -1 := by
    intro k hk
    unfold sa_; simp [a_set, fl_, hk]
  have s0 : sa_ V g x g 0 1 = nI 0 ∧ sa_ V g x g 0 2 = nI 0 ∧ sa_ V g x g 1 0 = nI 0 := by
    refine ⟨?_, ?_, ?_⟩
    all_goals (unfold sa_; simp [a_set, upd])
  have b0 : ∀ k, k < 3464 → y k = nI 0 := fun k hk => by rw [hy k (by omega)]; unfold be_; rw [if_pos hk]
  have b1 : ∀ k, 3528 ≤ k → k < 3596 → y k = nI 0 := fun k h1 h2 => by rw [hy k h2]; unfold be_; rw [if_neg (by omega), if_pos h1]
  refine ⟨⟨?_, ?_, ?_, ?_, ?_, ?_, ?_, ?_, ?_, ?_, ?_⟩, ?_, ?_, ?_, ?_, ?_, ?_, ?_⟩
  · intro k hk hu; rw [s2 5 k (by omega) (by omega) hk] at hu; exact absurd hu (by decide)
  · intro a ha; rw [s2 5 _ (by omega) (by omega) (by omega)]; decide
  · intro k hk; rw [s2 5 k (by omega) (by omega) hk]; exact Or.inl rfl
  · intro a c ha hc; rw [s7 9 _ (by omega) (by omega) (by omega)]; decide
  · intro a c ha hc; rw [s7 9 _ (by omega) (by omega) (by omega)]; decide
  · intro k hk; rw [s7 7 k (by omega) (by omega) hk]; decide
  · intro k hk; rw [s7 8 k (by omega) (by omega) hk]; decide
  · intro k hk; rw [s2 2 k (by omega) (by omega) hk]; decide
  · intro k hk; rw [s2 3 k (by omega) (by omega) hk]; decide
  · intro k hk; rw [s2 4 k (by omega) (by omega) hk]; decide
  · intro a b ha hb
    rw [s2 2 _ (by omega) (by omega) (by omega), s2 2 _ (by omega) (by omega) (by omega), s2 3 _ (by omega) (by omega) (by omega), s2 3 _ (by omega) (by omega) (by omega)]
    exact ⟨rfl, rfl⟩
  · intro k w hk hw; rw [b0 _ (by omega), s2 _ _ (by omega) (by omega) hk]
  · intro k hk; rw [b0 _ (by omega), s7 9 k (by omega) (by omega) hk]; rfl
  · intro k w hk hw; rw [b0 _ (by omega), s7 _ _ (by omega) (by omega) hk]
  · intro k hk
    rw [s17 k hk, hy _ (by omega)]
    unfold be_
    rw [if_neg (by omega), if_neg (by omega)]
  · rw [b1 _ (by omega) (by omega), s0.1]
  · rw [b1 _ (by omega) (by omega), s0.2.1]
  · rw [b1 _ (by omega) (by omega), s0.2.2]
theorem be_RS {V : Mm_} {g n : Nat} {x : Int32} {y : Nat → Int32} (hn8 : n ≤ 8) (hy : ∀ k, k < 3596 → y k = be_ k) : RS_ y (sa_ V g x g) n := by
  intro a ha
  refine Or.inl ⟨?_, fun b hb => ?_⟩
  · rw [hy _ (by omega)]; unfold be_; rw [if_pos (by omega)]
  · have hk : a * 8 + b < 64 := by omega
    unfold sa_; simp [a_set, fl_, hk]
theorem be_RJ {V : Mm_} {g : Nat} {x : Int32} {y : Nat → Int32} (hy : ∀ k, k < 3596 → y k = be_ k) : RJ_ y (sa_ V g x g) 0 := by
  refine ⟨?_, ?_, fun i w hi hw => ?_⟩
  · unfold sa_; simp [a_set, upd]
  · rw [hy _ (by omega)]; unfold be_; rw [if_neg (by omega), if_pos (by omega)]; rfl
  · have := js_le 0; omega
theorem sa_0 {V : Mm_} {g : Nat} {x : Int32} : sa_ V g x g 0 0 = x ∧ sa_ V g x g 0 1 = nI 0 ∧ sa_ V g x g 1 0 = nI 0 := by
  refine ⟨?_, ?_, ?_⟩
  all_goals (unfold sa_; simp [a_set, upd])
theorem sa_ne {V : Mm_} {g g' : Nat} {x : Int32} (h : ¬ g' = g) : sa_ V g x g' = V g' := by
  unfold sa_
  simp only [m_set, ag_ne h]
