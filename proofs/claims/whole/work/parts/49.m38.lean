/-! lower bounds are not above upper ones: kept by ticks; written by wip/whole/m38.py -/
def IW_ (s : Sg_) : Prop := (∀ a b, a < 8 → b < 8 → s 5 (b * 8 + a) = s 5 (a * 8 + b)) ∧ (∀ k, k < 512 → s 7 k ≤ s 8 k) ∧ (∀ k, k < 64 → s 2 k ≤ s 3 k)
def IK_ (s : Sg_) : Prop := IV_ s ∧ IW_ s
theorem mn_le {f g : Nat → Int32} {d e : Int32} : ∀ {n : Nat}, 0 < n → (∀ i, i < n → f i ≤ g i) → mn_ f d n ≤ mn_ g e n
  | n + 1, _, h => by
    by_cases z : n = 0
    · subst z
      exact h 0 (by omega)
    · rw [mn_1 z, mn_1 z]
      have ih := mn_le (d := d) (e := e) (n := n) (by omega) (fun i hi => h i (by omega))
      have h1 := h n (by omega)
      simp only [Int32.lt_iff_toInt_lt, Int32.le_iff_toInt_le] at ih h1 ⊢
      split <;> split <;> omega
theorem i_rf {x : Int32} : x ≤ x := by rw [Int32.le_iff_toInt_le]; omega
theorem dl_du {s : Sg_} {inf : Int32} {n a b : Nat} (iw : IW_ s) (ha : a < 8) (hb : b < 8) (hn8 : n ≤ 8) : dl_ s inf n a b ≤ du_ s inf n a b := by
  unfold dl_ du_
  by_cases z : (ul_ s inf n a b).length = 0
  · rw [z]; exact i_rf
  · refine mn_le (by omega) (fun i hi => ?_)
    have := ul_mem hi
    exact iw.2.1 _ (by omega)
theorem IV_.rc {f : Nat → Int32} {s : Sg_} {K : Nat} {lo up t : Int32} (h : IV_ s) (own : ∀ a c, a < 8 → c < 8 → ¬ (a * 8 + a) * 8 + c = K ∧ ¬ (a * 8 + c) * 8 + a = K) (hlo : 0 ≤ lo ∧ lo ≤ 30000) (hup : 0 ≤ up ∧ up ≤ 30000) : IV_ (rc_ f s K lo up t) := by
  have low : ∀ r, r < 7 → rc_ f s K lo up t r = s r := fun r hr => by funext i; exact rc_low (Or.inl hr)
  have ne : ∀ r i, ¬ i = K → rc_ f s K lo up t r i = s r i := fun r i hi => by unfold rc_; rw [if_neg hi]
  refine ⟨?_, ?_, ?_, ?_, ?_, ?_, ?_, ?_, ?_, ?_, ?_⟩
  · rw [low 5 (by decide), low 2 (by decide)]; exact h.up
  · rw [low 5 (by decide)]; exact h.ud
  · rw [low 5 (by decide)]; exact h.u01
  · intro a c ha hc; rw [ne 9 _ (own a c ha hc).1]; exact h.sd a c ha hc
  · intro a c ha hc; rw [ne 9 _ (own a c ha hc).2]; exact h.sn a c ha hc
  · intro k hk
    by_cases z : k = K
    · unfold rc_; rw [if_pos z]; exact hlo
    · rw [ne 7 k z]; exact h.b7 k hk
  · intro k hk
    by_cases z : k = K
    · unfold rc_; rw [if_pos z]; exact hup
    · rw [ne 8 k z]; exact h.b8 k hk
  · rw [low 2 (by decide)]; exact h.l2
  · rw [low 3 (by decide)]; exact h.l3
  · rw [low 4 (by decide)]; exact h.l4
  · rw [low 2 (by decide), low 3 (by decide)]; exact h.sy
theorem IW_.rc {f : Nat → Int32} {s : Sg_} {K : Nat} {lo up t : Int32} (h : IW_ s) (hlu : lo ≤ up) : IW_ (rc_ f s K lo up t) := by
  have low : ∀ r, r < 7 → rc_ f s K lo up t r = s r := fun r hr => by funext i; exact rc_low (Or.inl hr)
  refine ⟨?_, ?_, ?_⟩
  · rw [low 5 (by decide)]; exact h.1
  · intro k hk
    by_cases z : k = K
    · unfold rc_; rw [if_pos z, if_pos z]; exact hlu
    · unfold rc_; rw [if_neg z, if_neg z]; exact h.2.1 k hk
  · rw [low 2 (by decide), low 3 (by decide)]; exact h.2.2
theorem IK_.o {s s' : Sg_} (h : IK_ s) (hs : ∀ r, 0 < r → r < 13 → s' r = s r) : IK_ s' := by
  refine ⟨h.1.cong hs, ?_, ?_, ?_⟩
  · rw [hs 5 (by decide) (by decide)]; exact h.2.1
  · rw [hs 7 (by decide) (by decide), hs 8 (by decide) (by decide)]; exact h.2.2.1
  · rw [hs 2 (by decide) (by decide), hs 3 (by decide) (by decide)]; exact h.2.2.2
theorem IK_.ss {s : Sg_} (h : IK_ s) : IK_ (ss_ s) := h.o (fun r h1 _ => by funext i; unfold ss_; rw [if_neg (by omega)])
theorem lim_le {re : Bool} {m x y : Int32} (h : re = true → x ≤ y) : lim_ re m x ≤ lim_ re m y := by
  unfold lim_
  by_cases c : re = true
  · have h2 := h c
    rw [if_pos c, if_pos c]
    by_cases c1 : x < m
    · by_cases c2 : y < m
      · rw [if_pos c1, if_pos c2]; exact h2
      · rw [if_pos c1, if_neg c2]; exact Int32.le_of_lt c1
    · by_cases c2 : y < m
      · rw [if_neg c1, if_pos c2]; exact Int32.le_trans (Int32.not_lt.mp c1) h2
      · rw [if_neg c1, if_neg c2]; exact i_rf
  · rw [if_neg c, if_neg c]; exact i_rf
/-- what a node knows, by a state -/
def DK_ (DL DU : Nat → Int32) (k : Nat) : Prop := DU k = -1 ∨ (0 ≤ DL k ∧ DL k ≤ 30000 ∧ 0 ≤ DU k ∧ DU k ≤ 30000 ∧ DL k ≤ DU k)
theorem DK_.of {s : Sg_} {inf : Int32} {n k : Nat} (h : IK_ s) (hk : k < 64) (hn8 : n ≤ 8) : DK_ (Dl_ s inf n) (Du_ s inf n) k := by
  have h1 := dl_b (inf := inf) (n := n) h.1 (show k / 8 < 8 by omega) (show k % 8 < 8 by omega) hn8
  have h2 := du_b (inf := inf) (n := n) h.1 (show k / 8 < 8 by omega) (show k % 8 < 8 by omega) hn8
  have h3 := dl_du (inf := inf) (n := n) h.2 (show k / 8 < 8 by omega) (show k % 8 < 8 by omega) hn8
  rcases h1 with h1 | h1
  · exact Or.inl h1.1
  · rcases h2 with h2 | h2
    · exact absurd h2 h1.1
    · exact Or.inr ⟨h1.2.1, h1.2.2, h2.1, h2.2, h3⟩
theorem IK_.nn {f DL DU CH : Nat → Int32} {a b t : Nat} {s : Sg_} (h : IK_ s) (ha : a < 8) (hb : b < 8) (ht : t < 8) (hup : s 5 (a * 8 + b) = nI 1) (htb : ¬ t = b) (hf : 0 ≤ f 6 ∧ f 6 ≤ 30000) (hD : DK_ DL DU (a * 8 + t)) : IK_ (nn_ f DL DU CH a b t s) := by
  have hab : ¬ a = b := fun z => h.1.ud a ha (by rw [← z] at hup; exact hup)
  unfold nn_
  split
  · exact h
  · have hre : re_ f DU CH a b t = true → ¬ DU (a * 8 + t) = -1 := fun z => (of_decide_eq_true z).1
    have l2 := h.1.l2 (b * 8 + a) (by omega)
    have l3 := h.1.l3 (b * 8 + a) (by omega)
    have l23 := h.2.2.2 (b * 8 + a) (by omega)
    have i5 : (500 : Int32).toInt = 500 := by decide
    refine ⟨h.ss.1.rc (own_ne hb ht ha (fun z => htb z.symm) (fun z => hab z.symm)) (lim_b hf (fun z => ?_) l2) (lim_b hf (fun z => ?_) l3), h.ss.2.rc (lim_le (fun z => ?_))⟩
    · rcases hD with q | q
      · exact absurd q (hre z)
      · exact ⟨q.1, q.2.1⟩
    · rcases hD with q | q
      · exact absurd q (hre z)
      · exact ⟨q.2.2.1, q.2.2.2.1⟩
    · rcases hD with q | q
      · exact absurd q (hre z)
      · obtain ⟨q1, q2, q3, q4, q5⟩ := q
        simp only [Int32.le_iff_toInt_le, i_0, i_3, i5] at q1 q2 q3 q4 q5 l2 l3 l23
        rw [Int32.le_iff_toInt_le, Int32.toInt_add, Int32.toInt_add, Int.bmod_eq_of_le (by omega) (by omega), Int.bmod_eq_of_le (by omega) (by omega)]
        omega
theorem it_inv {α : Type} {I : α → Prop} {F : Nat → α → α} {x : α} (h0 : I x) : ∀ {n : Nat}, (∀ k y, k < n → I y → I (F k y)) → I (it_ F n x)
  | 0, _ => h0
  | n + 1, h => h n _ (Nat.lt_succ_self n) (it_inv h0 (fun k y hk => h k y (by omega)))
theorem IK_.sk {f DL DU CH : Nat → Int32} {n a : Nat} {s : Sg_} (h : IK_ s) (hn8 : n ≤ 8) (ha : a < 8) (hf : 0 ≤ f 6 ∧ f 6 ≤ 30000) (hD : ∀ t, t < n → DK_ DL DU (a * 8 + t)) : IK_ (sk_ f DL DU CH n a s) := by
  refine it_inv h (fun b y hb hy => ?_)
  show IK_ (if y 5 (a * 8 + b) = nI 1 then it_ (fun t s => if t = b then s else nn_ f DL DU CH a b t s) n y else y)
  split
  · rename_i hu
    refine (it_inv (I := fun z => IK_ z ∧ z 5 (a * 8 + b) = nI 1) ⟨hy, hu⟩ (fun t z ht hz => ?_)).1
    show IK_ (if t = b then z else nn_ f DL DU CH a b t z) ∧ (if t = b then z else nn_ f DL DU CH a b t z) 5 (a * 8 + b) = nI 1
    refine ⟨?_, by rw [tb_low (Or.inl (by decide)) (by omega)]; exact hz.2⟩
    split
    · exact hz.1
    · rename_i htb
      exact hz.1.nn ha (by omega) (by omega) hz.2 htb hf (hD t ht)
  · exact hy
theorem IK_.t3 {f : Nat → Int32} {n : Nat} {s : Sg_} (h : IK_ s) (hn8 : n ≤ 8) (hf : 0 ≤ f 6 ∧ f 6 ≤ 30000) : IK_ (t3_ f n s) := by
  have h1 : IK_ (t1_ s) := h.o (fun r hr _ => t1_o (by omega))
  have h2 : IK_ (t2_ f n (t1_ s)) := h1.o (fun r hr hr2 => by funext i; exact kq_low (by omega) (by omega))
  unfold t3_ t3i
  refine it_inv h2 (fun a y ha hy => ?_)
  show IK_ (if sq_ f n (t1_ s) a = true then sk_ f _ _ _ n a y else y)
  split
  · exact hy.sk hn8 (by omega) hf (fun t ht => DK_.of h1 (by omega) hn8)
  · exact hy
theorem IK_.tq {f : Nat → Int32} {n m : Nat} {s : Sg_} (h : IK_ s) (hn8 : n ≤ 8) (hf : 0 ≤ f 6 ∧ f 6 ≤ 30000) : IK_ (tq_ f n m s).1 := (h.t3 hn8 hf).o (fun r _ hr => by funext i; exact nt_low (Or.inl (by omega)))
theorem tq_10 {f : Nat → Int32} {n m : Nat} {s : Sg_} : (tq_ f n m s).1 1 0 = s 1 0 := by
  show (nt_ _ m n n (t3_ f n s, 0)).1 1 0 = _
  rw [nt_low (Or.inl (by decide))]
  show t3i f n (t1_ s) n 1 0 = _
  rw [t3i_low (Or.inl (by decide)) (by decide) (by decide) (by decide), t1_o (by decide)]
theorem IK_.tn {f : Nat → Int32} {n : Nat} {p : Sg_ × Nat} (h : IK_ p.1) (hn8 : n ≤ 8) (hf : 0 ≤ f 6 ∧ f 6 ≤ 30000) : ∀ i, IK_ (tn_ f n i p).1 ∧ (tn_ f n i p).1 1 0 = p.1 1 0
  | 0 => ⟨h, rfl⟩
  | i + 1 => ⟨(IK_.tn h hn8 hf i).1.tq hn8 hf, tq_10.trans (IK_.tn h hn8 hf i).2⟩
theorem IW_.p4 {s : Sg_} {i j : Nat} {lo up co u c : Int32} (h : IW_ s) (hi : i < 8) (hj : j < 8) (h2 : lo ≤ up) : IW_ (p4_ s i j lo up co u c) := by
  refine ⟨fun a b ha hb => ?_, ?_, fun k hk => ?_⟩
  · rw [p4_5, p4_5]
    by_cases z : a * 8 + b = i * 8 + j ∨ a * 8 + b = j * 8 + i
    · rw [if_pos z, if_pos (by omega)]
    · rw [if_neg z, if_neg (by omega)]; exact h.1 a b ha hb
  · rw [p4_o (by decide), p4_o (by decide)]; exact h.2.1
  · rw [p4_2, p4_3]
    split
    · exact h2
    · exact h.2.2 k hk
theorem IW_.b4 {s : Sg_} {i j : Nat} {x : Int32} (h : IW_ s) : IW_ (b1_ s 4 i j x) := by
  refine ⟨?_, ?_, ?_⟩
  · rw [b1_o (by decide)]; exact h.1
  · rw [b1_o (by decide), b1_o (by decide)]; exact h.2.1
  · rw [b1_o (by decide), b1_o (by decide)]; exact h.2.2
theorem IW_.b5 {s : Sg_} {i j : Nat} {x : Int32} (h : IW_ s) (hi : i < 8) (hj : j < 8) : IW_ (b1_ s 5 i j x) := by
  refine ⟨fun a b ha hb => ?_, ?_, ?_⟩
  · unfold b1_
    by_cases z : a * 8 + b = i * 8 + j ∨ a * 8 + b = j * 8 + i
    · rw [if_pos ⟨rfl, by omega⟩, if_pos ⟨rfl, by omega⟩]
    · rw [if_neg (fun q => z (by omega)), if_neg (fun q => z (by omega))]; exact h.1 a b ha hb
  · rw [b1_o (by decide), b1_o (by decide)]; exact h.2.1
  · rw [b1_o (by decide), b1_o (by decide)]; exact h.2.2
theorem IW_.below {s s' : Sg_} (h : IW_ s) (e : eqb_ s s') : IW_ s' := by
  refine ⟨fun a b ha hb => ?_, fun k hk => ?_, fun k hk => ?_⟩
  · rw [e.1 5 _ (by decide) (by decide) (by omega), e.1 5 _ (by decide) (by decide) (by omega)]; exact h.1 a b ha hb
  · rw [e.2.1 7 k (by decide) (by decide) hk, e.2.1 8 k (by decide) (by decide) hk]; exact h.2.1 k hk
  · rw [e.1 2 k (by decide) (by decide) hk, e.1 3 k (by decide) (by decide) hk]; exact h.2.2 k hk
theorem IW_.sa {V : Mm_} {g : Nat} {x : Int32} : IW_ (sa_ V g x g) := by
  have s2 : ∀ r k, 2 ≤ r → r ≤ 5 → k < 64 → sa_ V g x g r k = nI 0 := by
    intro r k h1 h2 hk
    obtain rfl | rfl | rfl | rfl : r = 2 ∨ r = 3 ∨ r = 4 ∨ r = 5 := by omega
    all_goals (unfold sa_; simp [a_set, fl_, hk])
  have s7 : ∀ r k, 7 ≤ r → r ≤ 11 → k < 512 → sa_ V g x g r k = nI 0 := by
    intro r k h1 h2 hk
    obtain rfl | rfl | rfl | rfl | rfl : r = 7 ∨ r = 8 ∨ r = 9 ∨ r = 10 ∨ r = 11 := by omega
    all_goals (unfold sa_; simp [a_set, fl_, hk])
  refine ⟨fun a b ha hb => by rw [s2 5 _ (by decide) (by decide) (by omega), s2 5 _ (by decide) (by decide) (by omega)], fun k hk => ?_, fun k hk => ?_⟩
  · rw [s7 7 k (by decide) (by decide) hk, s7 8 k (by decide) (by decide) hk]; exact i_rf
  · rw [s2 2 k (by decide) (by decide) hk, s2 3 k (by decide) (by decide) hk]; exact i_rf
