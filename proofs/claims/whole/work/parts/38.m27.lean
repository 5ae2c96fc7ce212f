/-! states that are equal below the lengths: written by wip/whole/m27.py -/
def eqb_ (s s' : Sg_) : Prop := (∀ r k, 2 ≤ r → r ≤ 5 → k < 64 → s' r k = s r k) ∧ (∀ r k, 7 ≤ r → r ≤ 11 → k < 512 → s' r k = s r k) ∧ (∀ k, k < 3 → s' 0 k = s 0 k) ∧ s' 1 0 = s 1 0 ∧ (∀ r k, (r = 13 ∨ r = 14 ∨ r = 16 ∨ r = 17) → k < 64 → s' r k = s r k) ∧ s' 15 1 = s 15 1
theorem IV_.below {s s' : Sg_} (h : IV_ s) (e : eqb_ s s') : IV_ s' := by
  obtain ⟨e1, e2, e3, e4, e5, e6⟩ := e
  refine ⟨?_, ?_, ?_, ?_, ?_, ?_, ?_, ?_, ?_, ?_, ?_⟩
  · intro k hk; rw [e1 5 k (by omega) (by omega) hk, e1 2 k (by omega) (by omega) hk]; exact h.up k hk
  · intro a ha; rw [e1 5 _ (by omega) (by omega) (by omega)]; exact h.ud a ha
  · intro k hk; rw [e1 5 k (by omega) (by omega) hk]; exact h.u01 k hk
  · intro a c ha hc; rw [e2 9 _ (by omega) (by omega) (by omega)]; exact h.sd a c ha hc
  · intro a c ha hc; rw [e2 9 _ (by omega) (by omega) (by omega)]; exact h.sn a c ha hc
  · intro k hk; rw [e2 7 k (by omega) (by omega) hk]; exact h.b7 k hk
  · intro k hk; rw [e2 8 k (by omega) (by omega) hk]; exact h.b8 k hk
  · intro k hk; rw [e1 2 k (by omega) (by omega) hk]; exact h.l2 k hk
  · intro k hk; rw [e1 3 k (by omega) (by omega) hk]; exact h.l3 k hk
  · intro k hk; rw [e1 4 k (by omega) (by omega) hk]; exact h.l4 k hk
  · intro a b ha hb; rw [e1 2 _ (by omega) (by omega) (by omega), e1 2 _ (by omega) (by omega) (by omega), e1 3 _ (by omega) (by omega) (by omega), e1 3 _ (by omega) (by omega) (by omega)]; exact h.sy a b ha hb
theorem RT_.below {x x' : Nat → Int32} {s s' : Sg_} (h : RT_ x s) (hx : ∀ q, q < 3596 → x' q = x q) (e : eqb_ s s') : RT_ x' s' := by
  refine ⟨h.iv.below e, ?_, ?_, ?_, ?_, ?_, ?_, ?_⟩
  · intro k w hk hw; rw [hx _ (by omega), e.1 (2 + w) k (by omega) (by omega) hk]; exact h.lk k w hk hw
  · intro k hk; rw [hx _ (by omega), e.2.1 9 k (by omega) (by omega) hk]; exact h.pr k hk
  · intro k w hk hw; rw [hx _ (by omega), e.2.1 (7 + w) k (by omega) (by omega) hk]; exact h.en k w hk hw
  · intro k hk; rw [hx _ (by omega), e.2.2.2.2.1 17 k (by omega) hk]; exact h.ck k hk
  · rw [hx _ (by omega), e.2.2.1 1 (by omega)]; exact h.tm
  · rw [hx _ (by omega), e.2.2.1 2 (by omega)]; exact h.se
  · rw [hx _ (by omega), e.2.2.2.1]; exact h.lc
theorem RS_.below {x x' : Nat → Int32} {s s' : Sg_} {n : Nat} (h : RS_ x s n) (hn8 : n ≤ 8) (hx : ∀ q, q < 3596 → x' q = x q) (e : eqb_ s s') : RS_ x' s' n := h.cong hn8 (fun q _ _ => hx q (by omega)) (fun k hk => e.2.2.2.2.1 13 k (by omega) hk) (fun k hk => e.2.2.2.2.1 14 k (by omega) hk)
theorem RJ_.below {x x' : Nat → Int32} {s s' : Sg_} {m : Nat} (h : RJ_ x s m) (hx : ∀ q, q < 3596 → x' q = x q) (e : eqb_ s s') : RJ_ x' s' m := by
  have hl := js_le m
  refine ⟨by rw [e.2.2.2.2.2]; exact h.ct, by rw [hx _ (by omega)]; exact h.sz, fun i w hi hw => ?_⟩
  rw [hx _ (by omega), e.2.2.2.2.1 16 _ (by omega) (by omega)]
  exact h.rw i w hi hw