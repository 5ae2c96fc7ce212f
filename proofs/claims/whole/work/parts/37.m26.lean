/-! both: the network of a row and of a state: written by wip/whole/m26.py -/
theorem RT_.net {x x' : Nat → Int32} {s s' : Sg_} (h : RT_ x s) (iv : IV_ s') (hx : ∀ q, 256 ≤ q → ¬ q = 3595 → x' q = x q) (hl : ∀ k w, k < 64 → w < 4 → x' (4 * k + w) = s' (2 + w) k) (hc : x' 3595 = s' 1 0) (hs : ∀ r, ¬ (1 ≤ r ∧ r ≤ 5) → s' r = s r) : RT_ x' s' := by
  refine ⟨iv, hl, ?_, ?_, ?_, ?_, ?_, hc⟩
  · intro k hk; rw [hx _ (by omega) (by omega), hs 9 (by omega)]; exact h.pr k hk
  · intro k w hk hw; rw [hx _ (by omega) (by omega), hs (7 + w) (by omega)]; exact h.en k w hk hw
  · intro k hk; rw [hx _ (by omega) (by omega), hs 17 (by omega)]; exact h.ck k hk
  · rw [hx _ (by omega) (by omega), hs 0 (by omega)]; exact h.tm
  · rw [hx _ (by omega) (by omega), hs 0 (by omega)]; exact h.se
/-- a state with a number of a link put -/
def b1_ (s : Sg_) (r i j : Nat) (x : Int32) : Sg_ := fun r' k => if r' = r ∧ (k = i * 8 + j ∨ k = j * 8 + i) then x else s r' k
theorem b1_eq {V : Mm_} {g r i j : Nat} {x : Int32} : b_set V g r i j x g = b1_ (V g) r i j x := by
  funext r' k
  unfold b_set b1_
  by_cases hr : r' = r
  · subst hr
    by_cases h2 : k = j * 8 + i
    · rw [m_j h2, if_pos ⟨rfl, Or.inr h2⟩]
    · rw [m_i h2]
      by_cases h1 : k = i * 8 + j
      · rw [m_j h1, if_pos ⟨rfl, Or.inl h1⟩]
      · rw [m_i h1, if_neg (fun z => z.2.elim h1 h2)]
  · rw [m_ne (fun z => hr z.2), m_ne (fun z => hr z.2), if_neg (fun z => hr z.1)]
theorem b1_o {s : Sg_} {r r' i j : Nat} {x : Int32} (h : ¬ r' = r) : b1_ s r i j x r' = s r' := by
  funext k
  unfold b1_
  rw [if_neg (fun z => h z.1)]
theorem IV_.b5 {s : Sg_} {i j : Nat} {x : Int32} (h : IV_ s) (hi : i < 8) (hj : j < 8) (hij : ¬ i = j) (hl : 0 < s 2 (i * 8 + j)) (hx : x = nI 0 ∨ x = nI 1) : IV_ (b1_ s 5 i j x) := by
  have hl2 : 0 < s 2 (j * 8 + i) := by rw [← (h.sy i j hi hj).1]; exact hl
  refine ⟨?_, ?_, ?_, ?_, ?_, ?_, ?_, ?_, ?_, ?_, ?_⟩
  · intro k hk hu
    rw [b1_o (by decide)]
    unfold b1_ at hu
    by_cases c : k = i * 8 + j ∨ k = j * 8 + i
    · rcases c with c | c
      · rw [c]; exact hl
      · rw [c]; exact hl2
    · rw [if_neg (fun z => c z.2)] at hu; exact h.up k hk hu
  · intro a ha
    unfold b1_
    rw [if_neg (by omega)]
    exact h.ud a ha
  · intro k hk
    unfold b1_
    split
    · exact hx
    · exact h.u01 k hk
  · rw [b1_o (by decide)]; exact h.sd
  · rw [b1_o (by decide)]; exact h.sn
  · rw [b1_o (by decide)]; exact h.b7
  · rw [b1_o (by decide)]; exact h.b8
  · rw [b1_o (by decide)]; exact h.l2
  · rw [b1_o (by decide)]; exact h.l3
  · rw [b1_o (by decide)]; exact h.l4
  · rw [b1_o (by decide), b1_o (by decide)]; exact h.sy
theorem IV_.b4 {s : Sg_} {i j : Nat} {x : Int32} (h : IV_ s) (hx : 0 ≤ x ∧ x ≤ 500) : IV_ (b1_ s 4 i j x) := by
  refine ⟨?_, ?_, ?_, ?_, ?_, ?_, ?_, ?_, ?_, ?_, ?_⟩
  · rw [b1_o (by decide), b1_o (by decide)]; exact h.up
  · rw [b1_o (by decide)]; exact h.ud
  · rw [b1_o (by decide)]; exact h.u01
  · rw [b1_o (by decide)]; exact h.sd
  · rw [b1_o (by decide)]; exact h.sn
  · rw [b1_o (by decide)]; exact h.b7
  · rw [b1_o (by decide)]; exact h.b8
  · rw [b1_o (by decide)]; exact h.l2
  · rw [b1_o (by decide)]; exact h.l3
  · intro k hk
    unfold b1_
    split
    · exact hx
    · exact h.l4 k hk
  · rw [b1_o (by decide), b1_o (by decide)]; exact h.sy
theorem RT_.b1 {V : Mm_} {s : Sg_} {i j w : Nat} {v : Int32} (h : RT_ (V 0 34) s) (hi : i < 8) (hj : j < 8) (hw : w < 4) (iv : IV_ (b1_ s (2 + w) i j v)) : RT_ (lw_ V i j w v 0 34) (b1_ s (2 + w) i j v) := by
  refine h.net iv (fun q h1 h2 => lw_far hi hj hw h1) (fun k w' hk hw' => ?_) ?_ (fun r hr => b1_o (by omega))
  · rw [lw_at hw hw']
    unfold b1_
    by_cases c : w' = w ∧ (k = i * 8 + j ∨ k = j * 8 + i)
    · rw [if_pos c, if_pos ⟨by omega, c.2⟩]
    · rw [if_neg c, if_neg (fun z => c ⟨by omega, z.2⟩)]; exact h.lk k w' hk hw'
  · rw [lw_far hi hj hw (by omega), b1_o (by omega)]; exact h.lc