/-! what is wanted of floats; the claim, of kit/laws' skeleton -/
theorem z_qm : Jvm.FP.Core.b32.qmin = -149 := by decide
theorem z_qx : Jvm.FP.Core.b32.qmax = 104 := by decide
theorem z_t : Jvm.FP.Core.b32.tails = 8388608 := by decide
theorem z_e : Jvm.FP.Core.b32.exps = 256 := by decide
theorem z_fit {c : Nat} {q : Int} (h1 : 8388608 ≤ c) (h2 : c < 16777216) (h3 : -149 ≤ q) (h4 : q ≤ 104) : Jvm.FP.Core.fits Jvm.FP.Core.b32 (.fin false c q) :=
  ⟨show c < 2 ^ 24 by omega, by rw [z_qm]; exact h3, by rw [z_qx]; exact h4, .inr (by rw [z_t]; exact h1)⟩
theorem z_lt32 {E M : Nat} (h2 : E ≤ 254) (h3 : M < 2 ^ 23) : (fl_b E M).toNat = E * 2 ^ 23 + M := by
  unfold fl_b
  exact UInt32.toNat_ofNat_of_lt' (by show E * 2 ^ 23 + M < 4294967296; omega)
theorem z_fl (E M : Nat) (h1 : 1 ≤ E) (h2 : E ≤ 254) (h3 : M < 2 ^ 23) : Jvm.FP.Core.val32 (fl_b E M) = .fin false (8388608 + M) ((E : Int) - 150) := by
  have e : (fl_b E M).toNat = Jvm.FP.Core.assemble Jvm.FP.Core.b32 false E M := by
    rw [z_lt32 h2 h3]
    unfold Jvm.FP.Core.assemble
    rw [z_e, z_t]
    show E * 2 ^ 23 + M = (0 * 256 + E) * 8388608 + M
    omega
  unfold Jvm.FP.Core.val32
  rw [e, Jvm.FP.Core.decode_assemble Jvm.FP.Core.b32 false E M (by rw [z_e]; omega) (by rw [z_t]; omega), if_neg (by rw [z_e]; omega), if_neg (by omega), z_t, z_qm, show (-149 : Int) + ((E : Int) - 1) = (E : Int) - 150 by omega]
theorem z_2 : Jvm.FP.Core.val32 FP.fconst2 = .fin false 8388608 (-22) := by decide +kernel
theorem z_1 : Jvm.FP.Core.val32 FP.fconst1 = .fin false 8388608 (-23) := by decide +kernel
theorem z_0 : Jvm.FP.Core.val32 FP.fconst0 = .fin false 0 (-149) := by decide +kernel
theorem z_00 : Jvm.FP.Core.val32 0 = .fin false 0 (-149) := by decide +kernel
theorem z_k : Jvm.FP.Core.val32 1258291200 = .fin false 8388608 0 := by decide +kernel
theorem z_quo {c d : Nat} {q r : Int} (hd : 0 < d) : Jvm.FP.Core.quotient Jvm.FP.Core.b32 (.fin false c q) (.fin false d r) = Jvm.FP.Core.roundRatio Jvm.FP.Core.b32 false c d (q - r) := by
  show (if d = 0 then (if c = 0 then Jvm.FP.Core.Datum.nan else .inf (false != false)) else Jvm.FP.Core.roundRatio Jvm.FP.Core.b32 (false != false) c d (q - r)) = _
  rw [if_neg (by omega)]
  rfl
theorem z_mul {c d : Nat} {q r : Int} : Jvm.FP.Core.round Jvm.FP.Core.b32 (Jvm.FP.Core.exactProduct (.fin false c q) (.fin false d r)) = Jvm.FP.Core.roundRatio Jvm.FP.Core.b32 false (c * d) 1 (q + r) := rfl
theorem z_ex {A B c : Nat} {e q : Int} (hB : 0 < B) (h1 : 8388608 ≤ c) (h2 : c < 16777216) (h3 : -149 ≤ q) (h4 : q ≤ 104) (h : A * 2 ^ (e - q).toNat = c * B * 2 ^ (q - e).toNat) : Jvm.FP.Core.roundRatio Jvm.FP.Core.b32 false A B e = .fin false c q := Jvm.FP.Core.roundRatio_exact Jvm.FP.Core.good_b32 hB (z_fit h1 h2 h3 h4) h
theorem z_inj {E M : Nat} {v : UInt32} (h1 : 1 ≤ E) (h2 : E ≤ 254) (h3 : M < 2 ^ 23) (h : Jvm.FP.Core.val32 v = .fin false (8388608 + M) ((E : Int) - 150)) : v = fl_b E M := by
  refine (Jvm.FP.Core.val32_inj (a := fl_b E M) (b := v) ?_ ?_).symm
  · rw [z_fl E M h1 h2 h3]; exact Jvm.FP.Core.Datum.noConfusion
  · rw [z_fl E M h1 h2 h3, h]
theorem z_half {E M : Nat} (h1 : 90 ≤ E) (h2 : E ≤ 170) (h3 : M < 2 ^ 23) : FP.fdiv (fl_b E M) FP.fconst2 = fl_b (E - 1) M := by
  refine z_inj (by omega) (by omega) h3 ((Jvm.FP.Core.val32_fdiv _ _).trans ?_)
  rw [z_fl E M (by omega) (by omega) h3, z_2, z_quo (by decide)]
  refine z_ex (by decide) (by omega) (by omega) (by omega) (by omega) ?_
  rw [show (((E : Int) - 150 - -22) - (((E - 1 : Nat) : Int) - 150)).toNat = 23 by omega, show ((((E - 1 : Nat) : Int) - 150) - ((E : Int) - 150 - -22)).toNat = 0 by omega]
  omega
theorem z_dbl {E M : Nat} (h1 : 90 ≤ E) (h2 : E ≤ 170) (h3 : M < 2 ^ 23) : FP.fmul (fl_b E M) FP.fconst2 = fl_b (E + 1) M := by
  refine z_inj (by omega) (by omega) h3 ((Jvm.FP.Core.val32_fmul _ _).trans ?_)
  rw [z_fl E M (by omega) (by omega) h3, z_2, z_mul]
  refine z_ex (by decide) (by omega) (by omega) (by omega) (by omega) ?_
  rw [show (((E : Int) - 150 + -22) - (((E + 1 : Nat) : Int) - 150)).toNat = 0 by omega, show ((((E + 1 : Nat) : Int) - 150) - ((E : Int) - 150 + -22)).toNat = 23 by omega]
  omega
theorem z_big {M : Nat} (h3 : M < 2 ^ 23) : FP.fmul (fl_b 127 M) 1258291200 = fl_b 150 M := by
  refine z_inj (by omega) (by omega) h3 ((Jvm.FP.Core.val32_fmul _ _).trans ?_)
  rw [z_fl 127 M (by omega) (by omega) h3, z_k, z_mul]
  refine z_ex (by decide) (by omega) (by omega) (by omega) (by omega) ?_
  rw [show ((((127 : Nat) : Int) - 150 + 0) - (((150 : Nat) : Int) - 150)).toNat = 0 by omega, show ((((150 : Nat) : Int) - 150) - (((127 : Nat) : Int) - 150 + 0)).toNat = 23 by omega]
  omega
theorem z_f2i {M : Nat} (h3 : M < 2 ^ 23) : FP.f2i (fl_b 150 M) = nI (2 ^ 23 + M) := by
  refine Jvm.FP.Core.f2i_int (a := nI (2 ^ 23 + M)) (b := fl_b 150 M) ?_
  show Jvm.FP.Core.Whole _ (Jvm.FP.Core.val32 _)
  rw [nI_toInt (by omega), z_fl 150 M (by omega) (by omega) h3]
  show (((8388608 + M) * 2 ^ 0 : Nat) : Int) = ((2 ^ 23 + M : Nat) : Int) * ((2 ^ 0 : Nat) : Int)
  simp only [Nat.pow_zero, Nat.mul_one]
  omega
theorem z_ord {c d : Nat} {q r : Int} : Jvm.FP.Core.order (.fin false c q) (.fin false d r) = some (compare ((c * 2 ^ (q - min q r).toNat : Nat) : Int) ((d * 2 ^ (r - min q r).toNat : Nat) : Int)) := rfl
theorem z_clt {a b : Int} (h : a < b) : compare a b = .lt := by
  simp only [compare, compareOfLessAndEq]
  rw [if_pos h]
theorem z_ceq {a b : Int} (h : a = b) : compare a b = .eq := by
  subst h
  exact Jvm.FP.Core.compare_self_int _
theorem z_cgt {a b : Int} (h : b < a) : compare a b = .gt := by
  simp only [compare, compareOfLessAndEq]
  rw [if_neg (by omega), if_neg (by omega)]
theorem z_lt {c d : Nat} {q r : Int} (hd : 8388608 ≤ d) (hc : c < 16777216) (h : q < r) : Jvm.FP.Core.order (.fin false c q) (.fin false d r) = some .lt := by
  rw [z_ord, show min q r = q by omega, show (q - q).toNat = 0 by omega]
  refine congrArg some (z_clt (Int.ofNat_lt.mpr ?_))
  obtain ⟨k, hk⟩ : ∃ k, (r - q).toNat = k + 1 := ⟨(r - q).toNat - 1, by omega⟩
  rw [hk, Nat.pow_succ, Nat.pow_zero, ← Nat.mul_assoc]
  have h2 : 8388608 * 1 ≤ d * 2 ^ k := Nat.mul_le_mul hd (Nat.two_pow_pos k)
  omega
theorem z_ge {c d : Nat} {q r : Int} (hc : d ≤ c) (h : r ≤ q) : Jvm.FP.Core.order (.fin false c q) (.fin false d r) = some .eq ∨ Jvm.FP.Core.order (.fin false c q) (.fin false d r) = some .gt := by
  rw [z_ord, show min q r = r by omega, show (r - r).toNat = 0 by omega]
  have h2 : d * 1 ≤ c * 2 ^ (q - r).toNat := Nat.mul_le_mul hc (Nat.two_pow_pos _)
  rw [Nat.pow_zero]
  rcases Nat.eq_or_lt_of_le h2 with w | w
  · exact .inl (congrArg some (z_ceq (by rw [w])))
  · exact .inr (congrArg some (z_cgt (Int.ofNat_lt.mpr w)))
theorem z_n32 {E M : Nat} (h2 : E ≤ 254) (h3 : M < 2 ^ 23) : vf_n32 (fl_b E M) := by
  unfold vf_n32
  rw [UInt32.le_iff_toNat_le, UInt32.toNat_and, z_lt32 h2 h3]
  show (E * 2 ^ 23 + M) &&& 2147483647 ≤ 2139095040
  exact Nat.le_trans Nat.and_le_left (by omega)
theorem z_FG {E M : Nat} (h1 : 90 ≤ E) (h2 : E ≤ 170) (h3 : M < 2 ^ 23) : FG_ E M := by
  refine ⟨z_n32 (by omega) h3, z_half h1 h2 h3, z_dbl h1 h2 h3, fun h => ?_, fun h => ?_, fun h => ?_, fun h => ?_⟩
  · show Jvm.FP.Core.order (Jvm.FP.Core.val32 (fl_b E M)) (Jvm.FP.Core.val32 FP.fconst2) = some .lt
    rw [z_fl E M (by omega) (by omega) h3, z_2]
    exact z_lt (by omega) (by omega) (by omega)
  · show Jvm.FP.Core.order (Jvm.FP.Core.val32 (fl_b E M)) (Jvm.FP.Core.val32 FP.fconst2) = some .eq ∨ Jvm.FP.Core.order (Jvm.FP.Core.val32 (fl_b E M)) (Jvm.FP.Core.val32 FP.fconst2) = some .gt
    rw [z_fl E M (by omega) (by omega) h3, z_2]
    exact z_ge (by omega) (by omega)
  · show Jvm.FP.Core.order (Jvm.FP.Core.val32 (fl_b E M)) (Jvm.FP.Core.val32 FP.fconst1) = some .lt
    rw [z_fl E M (by omega) (by omega) h3, z_1]
    exact z_lt (by omega) (by omega) (by omega)
  · show Jvm.FP.Core.order (Jvm.FP.Core.val32 (fl_b E M)) (Jvm.FP.Core.val32 FP.fconst1) = some .eq ∨ Jvm.FP.Core.order (Jvm.FP.Core.val32 (fl_b E M)) (Jvm.FP.Core.val32 FP.fconst1) = some .gt
    rw [z_fl E M (by omega) (by omega) h3, z_1]
    exact z_ge (by omega) (by omega)
/-- a rounded mean -/
theorem z_rr {S C : Nat} (hS : 0 < S) (hS2 : S < 2 ^ 24) (hC : 0 < C) (hC2 : C ≤ 64) : ∃ c q, Jvm.FP.Core.roundRatio Jvm.FP.Core.b32 false S C 0 = .fin false c q ∧ 8388608 ≤ c ∧ c < 16777216 ∧ -30 ≤ q ∧ q ≤ 1 := by
  obtain ⟨l1, l2⟩ := Jvm.FP.Core.leading_spec hS hC
  have b1 : ¬ Jvm.FP.Core.Below S C (-6) := by
    intro h
    have h : S * 2 ^ 6 < C * 2 ^ 0 := h
    omega
  have b2 : Jvm.FP.Core.Below S C 24 := by
    show S * 2 ^ 0 < C * 2 ^ 24
    omega
  have g1 := Jvm.FP.Core.lt_of_below b1 l2
  have g2 := Jvm.FP.Core.lt_of_below l1 b2
  have hQ : Jvm.FP.Core.quantum Jvm.FP.Core.b32 S C 0 = Jvm.FP.Core.leading S C - 23 := by
    show max Jvm.FP.Core.b32.qmin (Jvm.FP.Core.leading S C + 0 - ((24 : Int) - 1)) = _
    rw [z_qm]
    omega
  have n2 := Jvm.FP.Core.quantum_not_below (f := Jvm.FP.Core.b32) hS hC 0
  have n3 : 8388608 ≤ Jvm.FP.Core.nearest (Jvm.FP.Core.unitsNum S 0 (Jvm.FP.Core.quantum Jvm.FP.Core.b32 S C 0)) (Jvm.FP.Core.unitsDen C 0 (Jvm.FP.Core.quantum Jvm.FP.Core.b32 S C 0)) := by
    rcases n2 with n2 | n2
    · rw [hQ, z_qm] at n2
      omega
    · refine Jvm.FP.Core.nearest_ge (Jvm.FP.Core.unitsDen_pos hC ..) ?_
      rw [show ((Jvm.FP.Core.b32.p : Nat) : Int) - 1 = ((23 : Nat) : Int) from rfl, ← Jvm.FP.Core.units_below] at n2
      exact Nat.le_of_not_lt n2
  have hb : Jvm.FP.Core.roundRatio Jvm.FP.Core.b32 false S C 0 = Jvm.FP.Core.settle Jvm.FP.Core.b32 false (Jvm.FP.Core.nearest (Jvm.FP.Core.unitsNum S 0 (Jvm.FP.Core.quantum Jvm.FP.Core.b32 S C 0)) (Jvm.FP.Core.unitsDen C 0 (Jvm.FP.Core.quantum Jvm.FP.Core.b32 S C 0))) (Jvm.FP.Core.quantum Jvm.FP.Core.b32 S C 0) := by
    unfold Jvm.FP.Core.roundRatio
    rw [if_neg (by omega)]
    rfl
  rw [hb]
  generalize Jvm.FP.Core.nearest (Jvm.FP.Core.unitsNum S 0 (Jvm.FP.Core.quantum Jvm.FP.Core.b32 S C 0)) (Jvm.FP.Core.unitsDen C 0 (Jvm.FP.Core.quantum Jvm.FP.Core.b32 S C 0)) = n at n3 ⊢
  rw [hQ]
  unfold Jvm.FP.Core.settle Jvm.FP.Core.bound
  by_cases h : n < 2 ^ Jvm.FP.Core.b32.p
  · have h' : n < 2 ^ 24 := h
    rw [if_pos h, if_pos (by rw [z_qx]; omega)]
    exact ⟨n, Jvm.FP.Core.leading S C - 23, rfl, n3, by omega, by omega, by omega⟩
  · rw [if_neg h, if_pos (by rw [z_qx]; omega), z_t]
    exact ⟨8388608, Jvm.FP.Core.leading S C - 23 + 1, rfl, by omega, by omega, by omega, by omega⟩
theorem z_i2f {S : Nat} (hS : 0 < S) (hS2 : S < 2 ^ 24) : ∃ c q, Jvm.FP.Core.val32 (FP.i2f (nI S)) = .fin false c q ∧ 0 < c ∧ c * 2 ^ q.toNat = S * 2 ^ (-q).toNat := by
  have h : Jvm.FP.Core.Whole ((nI S).toInt) (Jvm.FP.Core.val32 (FP.i2f (nI S))) := Jvm.FP.Core.i2f_int (a := nI S) (by rw [nI_toInt (by omega)]; show S ≤ 2 ^ 24; omega)
  rw [nI_toInt (by omega)] at h
  cases hv : Jvm.FP.Core.val32 (FP.i2f (nI S)) with
  | nan => rw [hv] at h; exact h.elim
  | inf s => rw [hv] at h; exact h.elim
  | fin s c q =>
    rw [hv] at h
    have e1 := Jvm.FP.Core.whole_natAbs h
    have e2 := Jvm.FP.Core.whole_sign h (by omega)
    have e3 := Jvm.FP.Core.whole_zero h
    have e4 : s = false := by rw [e2]; exact decide_eq_false (by omega)
    subst e4
    exact ⟨c, q, rfl, by omega, e1⟩
theorem z_mean {S C : Nat} (hS : 0 < S) (hS2 : S < 2 ^ 24) (hC : 0 < C) (hC2 : C ≤ 64) : Jvm.FP.Core.val32 (vm_ S C) = Jvm.FP.Core.roundRatio Jvm.FP.Core.b32 false S C 0 := by
  obtain ⟨c, q, e1, h1, h2⟩ := z_i2f hS hS2
  obtain ⟨d, r, e2, h3, h4⟩ := z_i2f hC (show C < 2 ^ 24 by omega)
  refine (Jvm.FP.Core.val32_fdiv _ _).trans ?_
  rw [e1, e2, z_quo h3]
  refine Jvm.FP.Core.roundRatio_congr h3 hC ?_
  refine Nat.eq_of_mul_eq_mul_right (Nat.two_pow_pos (q.toNat + (-r).toNat)) ?_
  calc c * C * 2 ^ (q - r - 0).toNat * 2 ^ (q.toNat + (-r).toNat) = (c * 2 ^ q.toNat) * (C * 2 ^ (-r).toNat) * 2 ^ (q - r - 0).toNat := by rw [Nat.pow_add]; ac_rfl
    _ = (S * 2 ^ (-q).toNat) * (d * 2 ^ r.toNat) * 2 ^ (q - r - 0).toNat := by rw [h2, h4]
    _ = S * d * 2 ^ ((-q).toNat + r.toNat + (q - r - 0).toNat) := by rw [Nat.pow_add, Nat.pow_add]; ac_rfl
    _ = S * d * 2 ^ ((0 - (q - r)).toNat + (q.toNat + (-r).toNat)) := by rw [show (-q).toNat + r.toNat + (q - r - 0).toNat = (0 - (q - r)).toNat + (q.toNat + (-r).toNat) by omega]
    _ = S * d * 2 ^ (0 - (q - r)).toNat * 2 ^ (q.toNat + (-r).toNat) := by rw [Nat.pow_add]; ac_rfl
theorem z_zero {C : Nat} (hC : 0 < C) (hC2 : C ≤ 64) : vm_ 0 C = 0 := by
  obtain ⟨d, r, e2, h3, h4⟩ := z_i2f hC (show C < 2 ^ 24 by omega)
  refine (Jvm.FP.Core.val32_inj (a := 0) (b := vm_ 0 C) ?_ ?_).symm
  · rw [z_00]; exact Jvm.FP.Core.Datum.noConfusion
  · refine Eq.trans ?_ (Jvm.FP.Core.val32_fdiv _ _).symm
    rw [e2, show Jvm.FP.Core.val32 (FP.i2f (nI 0)) = .fin false 0 (-149) by decide +kernel, z_quo h3, z_00]
    rfl
theorem z_FV {S C : Nat} (hC : 1 ≤ C) (hC2 : C ≤ 64) (hS2 : S < 2 ^ 24) : FV_ (vm_ S C) := by
  rcases Nat.eq_zero_or_pos S with hS | hS
  · subst hS
    rw [z_zero hC hC2]
    exact ⟨by unfold vf_n32; decide, by decide +kernel, .inl ⟨rfl, by decide +kernel⟩⟩
  · obtain ⟨c, q, e, h1, h2, h3, h4⟩ := z_rr hS hS2 hC hC2
    have e1 := z_mean hS hS2 hC hC2
    rw [e] at e1
    have hE : ((q + 150).toNat : Int) - 150 = q := by omega
    have hM : 8388608 + (c - 8388608) = c := by omega
    have e2 : vm_ S C = fl_b (q + 150).toNat (c - 8388608) := z_inj (by omega) (by omega) (by omega) (by rw [e1, hE, hM])
    rw [e2]
    refine ⟨z_n32 (by omega) (by omega), ?_, .inr ⟨(q + 150).toNat, c - 8388608, by omega, by omega, by omega, rfl, ?_⟩⟩
    · show Jvm.FP.Core.order (Jvm.FP.Core.val32 (fl_b _ _)) (Jvm.FP.Core.val32 (fl_b _ _)) = some .eq
      rw [← e2, e1]
      exact congrArg some (Jvm.FP.Core.compare_self_int _)
    · show Jvm.FP.Core.order (Jvm.FP.Core.val32 (fl_b _ _)) (Jvm.FP.Core.val32 FP.fconst0) = some .gt
      rw [← e2, e1, z_0, z_ord, show min q (-149) = -149 by omega]
      refine congrArg some (z_cgt (Int.ofNat_lt.mpr ?_))
      rw [Nat.zero_mul]
      exact Nat.mul_pos (by omega) (Nat.two_pow_pos _)
theorem FF_ok : FF_ := ⟨fun _ _ h1 h2 h3 => z_FV h1 h2 h3, fun _ _ h1 h2 h3 => z_FG h1 h2 h3, fun _ h => ⟨z_big h, z_f2i h⟩⟩
set_option maxHeartbeats 4000000 in
theorem lw_walk (l : Launch) (hflags : l.flags = flags0) (b : Addr) (xs : List Int32) : MetFree l x (headSpec (Jvm.Cond.code x code maxLocals ret :: tables_1) room_1) (lw_P b xs) (fun _ _ _ _ _ => True) lw_Q := by
  refine MetFree.of_bodyS (code := code) (maxLocals := maxLocals) (ret := ret) (by decide) ?_ ?_
  · intro args s m h hn
    obtain ⟨meth, c, h1, h2, h3, h4, h5, h6, -, -⟩ := Cond.code_spec hn (atoms_spec (ws := Jvm.Cond.code x code maxLocals ret :: tables_1) h _ List.mem_cons_self)
    exact ⟨meth, c, h1, h2, h3, h4, h5, h6⟩
  · intro p e s m args below meth c s₁ B hml0 hP _
    obtain ⟨rfl, hx, hbd, hgv⟩ := hP
    obtain ⟨scr, harrAt, hlist, hof, hsmall⟩ := hx
    obtain ⟨hcb, hkn, -, -⟩ := State.arrayAt?_spec harrAt
    have hown : s.vm.findClass R_law = some m.cls := findClass_of_methodNamed B.named
    have hts0 : ∀ c ∈ (Jvm.Cond.code x code maxLocals ret :: tables_1), c.before #[Value.ref b] s = true := atoms_spec (ws := Jvm.Cond.code x code maxLocals ret :: tables_1) B.pre
    have hts : ∀ w ∈ lw_tbl, w.before #[Value.ref b] s = true := k2_hts_sels lw_privs (fun w hw => hts0 w (List.mem_cons_of_mem _ hw)) lw_privs_ok
    have hml : c.maxLocals = 4 := B.maxLocals_eq (hts0 _ List.mem_cons_self)
    have X₀ : Stand p l e room_1 s m #[Value.ref b] below meth c s₁ [] 0 0 := Stand.of_body B
    have hh0 : s₁.heap = s.heap := by rw [B.state]; rfl
    have hsz : scr.slots.size = xs.length := by rw [← Array.length_toList, hlist, List.length_map]
    have hval : ∀ j : Nat, j < xs.length → scr.slots[j]? = some (.int (xs.getD j 0)) := fun j hj => by
      rw [← Array.getElem?_toList, hlist]
      simp [hj]
    have hbl : b < s.heap.size := (Array.getElem?_eq_some_iff.mp hcb).1
    have hX : va_X b xs.length (fun j => xs.getD j 0) s s.heap := ⟨scr, hcb, hof, hkn, hsz, hval⟩
    have K : W p l e room_1 s m #[Value.ref b] below meth c s₁.heap [] 0 0 (lw_Z below #[Value.ref b] s) (entryFrame m ([Value.ref b] : List Value).toArray 4) := by
      rw [hh0]
      exact whole_start FF_ok l hflags hbd ⟨B.exec, B.bytes, B.returns, hml, hown, hts, hX, hbl, B.notSynchronized, hgv⟩
    obtain ⟨t, a1, o, b1, b2, b3⟩ := K s₁ rfl X₀
    exact ⟨t, o, a1, b1, b2, b3⟩
theorem lw_pre_spec {args : Array Value} {s : State} (h : (Jvm.Cond.and given_1 narrow_1).before args s = true) (hr : rest_1_c.before args s = true) : ∃ (b : Addr) (xs : List Int32), lw_P b xs args s := by
  have hs := flat_of_before _ h
  have hq := flat_of_before _ hr
  have hc : (Cond.count 1).before args s = true := hs _ (by decide +kernel)
  have harr : (Cond.arrayOf (.arg 0) .int).before args s = true := hs _ (by decide +kernel)
  have hle : (Cond.le (.length (.arg 0)) (.int 2560)).before args s = true := hs _ (by decide +kernel)
  have hlen : (Cond.isInt (.length (.arg 0))).before args s = true := hq _ (by decide +kernel)
  have hall : (Cond.all (.arg 0) (.isInt (.elem (.arg 0) (.index 0)))).before args s = true := hq _ (by decide +kernel)
  obtain ⟨b, xs, hb, hx⟩ := State.ints_of_pre rfl harr hlen hall
  have hsm : xs.length < 2 ^ 31 := hx.choose_spec.2.2.2
  have hev : (Term.length (.arg 0)).eval args s none [] s = some (.int xs.length.toInt32) := hx.length_eval hb
  have hv := Cond.le_ints hev (show (Term.int 2560).eval args s none [] s = some (.int 2560) from rfl)
  have hd : xs.length.toInt32 ≤ 2560 := by
    simpa [Cond.before, Cond.holds, hv] using hle
  have hN : xs.length ≤ 2560 := (Int32.ofNat_le_ofNat hsm (by decide)).mp (show Int32.ofNat xs.length ≤ Int32.ofNat 2560 from hd)
  exact ⟨b, xs, Cond.one_arg hc (show args[0]? = some (.ref b) from hb), hx, hN, h⟩
theorem lw_comes (l : Launch) (hflags : l.flags = flags0) : Comes l x (Jvm.Cond.code x code maxLocals ret :: tables_1) room_1 (fun tb e args s => Calls_1 tb e args s ∧ rest_1 tb e args s ∧ Pre_1 tb e args s)
    (fun _ _ args s o t => lw_Q args s o t) := by
  intro p e ha hc hk s m args below hf hfit hheap happ hpre
  obtain ⟨b, xs, hP⟩ := lw_pre_spec hpre.2.2 hpre.2.1
  obtain ⟨k, o, h1, h2, h3, hQ⟩ := lw_walk l hflags b xs p e ha hc hk s m args below hf ((Spec.applies_iff_loose hf).mp happ).1 hP trivial
  exact ⟨k, o, h1, h2, h3, hQ⟩
theorem lw_frame {s t : State} {o : Outcome} {args : Array Value} (h : State.butDraws s t lw_cs (fun t1 => Framed s o t1 [] 600000 7302250)) :
    State.butDraws s t [Jvm.Choice.named "NaN.bits"] (fun t1 => Framed s o t1 (fieldLocs frame_1_writes args s ++ arrayLocs frame_1_arrays args s ++ staticLocs frame_1_statics s) 600000 7302250) := h
theorem lw_limb (L : Cond) (hL : ∀ (args : Array Value) (s t : State), L.after args s (.returned (some (.int 1))) t = true) :
    ArmFor flags0 classFile x code maxLocals ret World_1 tables_1 room_1 Calls_1 rest_1 Pre_1
      (fun tb e a s o t => postC L tb e a s o t ∧ State.butDraws s t [Jvm.Choice.named "NaN.bits"] (fun t1 => Framed s o t1 (fieldLocs frame_1_writes a s ++ arrayLocs frame_1_arrays a s ++ staticLocs frame_1_statics s) 600000 7302250)) := by
  intro l hflags _ _ p e ha hc hk s m args below hf hfit hheap happ hpre
  obtain ⟨k, o, h1, h2, h3, rfl, hF⟩ := lw_comes l hflags p e ha hc hk s m args below hf hfit hheap happ hpre
  exact ⟨k, _, h1, h2, h3, hL args s _, lw_frame hF⟩
theorem i_vc : Claimed_1_1 ∧ Claimed_1_2 := ⟨lw_limb limb_1_1 (fun args s t => by simp [limb_1_1, Cond.after, Cond.holds, Cond.value]), lw_limb limb_1_2 (fun args s t => Cond.after_iff.mpr (by
  first | (rw [show limb_1_2 = Cond.eq .result (.int 1) from rfl, Cond.eq_ints (x := 1) (y := 1) rfl rfl]; simp; done) | (simp [limb_1_2, Cond.value, Term.eval]; done)))⟩
