/-! the mean width of both, what is wanted of floats as a hypothesis FF_: written by wip/whole/m41.py -/
def fl_b (E M : Nat) : UInt32 := UInt32.ofNat (E * 2 ^ 23 + M)
abbrev vm_ (S C : Nat) : UInt32 := FP.fdiv (FP.i2f (nI S)) (FP.i2f (nI C))
/-- of a number that is no zero: what halving, doubling, comparing give -/
def FG_ (E M : Nat) : Prop := vf_n32 (fl_b E M) ∧ FP.fdiv (fl_b E M) FP.fconst2 = fl_b (E - 1) M ∧ FP.fmul (fl_b E M) FP.fconst2 = fl_b (E + 1) M ∧ (E < 128 → FP.fcmp (fl_b E M) FP.fconst2 = some .lt) ∧ (128 ≤ E → FP.fcmp (fl_b E M) FP.fconst2 = some .eq ∨ FP.fcmp (fl_b E M) FP.fconst2 = some .gt) ∧ (E < 127 → FP.fcmp (fl_b E M) FP.fconst1 = some .lt) ∧ (127 ≤ E → FP.fcmp (fl_b E M) FP.fconst1 = some .eq ∨ FP.fcmp (fl_b E M) FP.fconst1 = some .gt)
def FV_ (v : UInt32) : Prop := vf_n32 v ∧ FP.fcmp v v = some .eq ∧ ((v = 0 ∧ FP.fcmp v FP.fconst0 = some .eq) ∨ ∃ E M, 100 ≤ E ∧ E ≤ 160 ∧ M < 2 ^ 23 ∧ v = fl_b E M ∧ FP.fcmp v FP.fconst0 = some .gt)
def FF_ : Prop := (∀ S C, 1 ≤ C → C ≤ 64 → S < 2 ^ 24 → FV_ (vm_ S C)) ∧ (∀ E M, 90 ≤ E → E ≤ 170 → M < 2 ^ 23 → FG_ E M) ∧ ∀ M, M < 2 ^ 23 → FP.fmul (fl_b 127 M) 1258291200 = fl_b 150 M ∧ FP.f2i (fl_b 150 M) = nI (2 ^ 23 + M)
theorem cv_lt {op : CmpOp} : Op.cmpValue (some .lt) op = -1 := by cases op <;> rfl
theorem cv_eq {op : CmpOp} : Op.cmpValue (some .eq) op = 0 := by cases op <;> rfl
theorem cv_gt {op : CmpOp} : Op.cmpValue (some .gt) op = 1 := by cases op <;> rfl
theorem bo_sum {E M : Nat} (hE : E ≤ 200) (hM : M < 2 ^ 23) : (nI E <<< (nI 23 &&& 31)) + nI (2 ^ 23 + M) - nI 8388608 = (fl_b E M).toInt32 := by
  rw [pk_shlN (nI 23 &&& 31) 23 (by decide) (by omega), nI_add, pk_sub (by omega)]
  show _ = nI (E * 2 ^ 23 + M)
  exact congrArg nI (by omega)
set_option maxRecDepth 100000 in
set_option maxHeartbeats 4000000 in
theorem c_bits_0 {PL : List (Nat × Nat)} {V : Mm_} {v : UInt32} (h0 : FP.fcmp v FP.fconst0 = some .eq) : Cp_ PL mX7_bitsOf [vF v] V ((nI 0)) := by
  refine Ca_.of ms_X7_bitsOf.2.2.2.2.2 3 (lo := [some (vF v), none, none, none]) rfl (Nat.le_of_ble_eq_true rfl) ?_
  refine r_fload_n (pc2 := 1) dX7_bitsOf_0 rfl rfl ?_
  refine r_fconst0 (pc2 := 2) dX7_bitsOf_1 rfl ?_
  refine r_fcmp (pc2 := 3) dX7_bitsOf_2 rfl ?_
  refine r_if_gt (pc2 := 6) (tgt := 8) dX7_bitsOf_3 (by decide) rfl (fun c3 => ?_) (fun c3 => ?_)
  · skip
    exact absurd c3 (by rw [h0, cv_eq]; decide)
  · skip
    refine r_iconst (pc2 := 7) (nI 0) dX7_bitsOf_6 (by decide) rfl ?_
    exact r_iret dX7_bitsOf_7 rfl (⟨rfl, rfl⟩)

set_option maxRecDepth 100000 in
set_option maxHeartbeats 4000000 in
theorem c_bits_1 {PL : List (Nat × Nat)} {V : Mm_} {E M : Nat} (hF : FF_) (hE : 100 ≤ E) (hE2 : E ≤ 160) (hM : M < 2 ^ 23) (h0 : FP.fcmp (fl_b E M) FP.fconst0 = some .gt) : Cp_ PL mX7_bitsOf [vF ((fl_b E M))] V (((fl_b E M).toInt32)) := by
  refine Ca_.of ms_X7_bitsOf.2.2.2.2.2 3 (lo := [some (vF ((fl_b E M))), none, none, none]) rfl (Nat.le_of_ble_eq_true rfl) ?_
  refine r_fload_n (pc2 := 1) dX7_bitsOf_0 rfl rfl ?_
  refine r_fconst0 (pc2 := 2) dX7_bitsOf_1 rfl ?_
  refine r_fcmp (pc2 := 3) dX7_bitsOf_2 rfl ?_
  refine r_if_gt (pc2 := 6) (tgt := 8) dX7_bitsOf_3 (by decide) rfl (fun c3 => ?_) (fun c3 => ?_)
  · skip
    refine r_fload_n (pc2 := 9) dX7_bitsOf_8 rfl rfl ?_
    refine r_fstore_n (pc2 := 10) dX7_bitsOf_9 (by decide) rfl rfl ?_
    refine r_bipush (pc2 := 12) (nI 127) dX7_bitsOf_10 (by decide) rfl ?_
    refine r_istore_n (pc2 := 13) dX7_bitsOf_12 (by decide) rfl rfl ?_
    refine r_iconst (pc2 := 14) (nI 0) dX7_bitsOf_13 (by decide) rfl ?_
    refine r_istore_n (pc2 := 15) dX7_bitsOf_14 (by decide) rfl rfl ?_
    refine Rc_.to (V' := (fun _ => V) 0) (lo' := (fun i : Nat => [some (vF ((fl_b E M))), some (vF ((fl_b (E - i) M))), some (vI (nI ((127 + i)))), some (vI (nI i))]) 0) (rfl) ⟨rfl, rfl, rfl, rfl, trivial⟩ ?_
    refine Rc_for 0 ((E - 127)) (fun i : Nat => [some (vF ((fl_b E M))), some (vF ((fl_b (E - i) M))), some (vI (nI ((127 + i)))), some (vI (nI i))]) (fun _ => V) (by omega) (fun i hi0 hiN ih15 => ?_)
    have g := hF.2.1 (E - i) M (by omega) (by omega) hM
    refine r_iload_n (pc2 := 16) dX7_bitsOf_15 rfl rfl ?_
    refine r_sipush (pc2 := 19) (nI 128) dX7_bitsOf_16 (by decide) rfl ?_
    refine r_icN_ge (pc2 := 22) (tgt := 41) (by omega) (by omega) dX7_bitsOf_19 (by decide) rfl (fun c19 => ?_) (fun c19 => ?_)
    · skip
      omega
    · skip
      refine r_fload_n (pc2 := 23) dX7_bitsOf_22 rfl rfl ?_
      refine r_fconst2 (pc2 := 24) dX7_bitsOf_23 rfl ?_
      refine r_fcmp (pc2 := 25) dX7_bitsOf_24 rfl ?_
      refine r_if_lt (pc2 := 28) (tgt := 41) dX7_bitsOf_25 (by decide) rfl (fun c25 => ?_) (fun c25 => ?_)
      · skip
        have k25 : E - i < 128 := by
          rcases Nat.lt_or_ge (E - i) 128 with q | q
          · exact q
          · rcases g.2.2.2.2.1 q with w | w
            · rw [w, cv_eq] at c25; exact absurd c25 (by decide)
            · rw [w, cv_gt] at c25; exact absurd c25 (by decide)
        refine r_iconst (pc2 := 42) (nI 0) dX7_bitsOf_41 (by decide) rfl ?_
        refine r_istore_n (pc2 := 43) dX7_bitsOf_42 (by decide) rfl rfl ?_
        refine Rc_.to (V' := (fun _ => V) 0) (lo' := (fun j : Nat => [some (vF ((fl_b E M))), some (vF ((fl_b (E - i + j) M))), some (vI (nI ((127 + i - j)))), some (vI (nI j))]) 0) (rfl) ⟨rfl, rfl, rfl, rfl, trivial⟩ ?_
        refine Rc_for 0 ((127 - (E - i))) (fun j : Nat => [some (vF ((fl_b E M))), some (vF ((fl_b (E - i + j) M))), some (vI (nI ((127 + i - j)))), some (vI (nI j))]) (fun _ => V) (by omega) (fun j hj0 hjN ih43 => ?_)
        have g2 := hF.2.1 (E - i + j) M (by omega) (by omega) hM
        refine r_iload_n (pc2 := 44) dX7_bitsOf_43 rfl rfl ?_
        refine r_sipush (pc2 := 47) (nI 128) dX7_bitsOf_44 (by decide) rfl ?_
        refine r_icN_ge (pc2 := 50) (tgt := 69) (by omega) (by omega) dX7_bitsOf_47 (by decide) rfl (fun c47 => ?_) (fun c47 => ?_)
        · skip
          omega
        · skip
          refine r_fload_n (pc2 := 51) dX7_bitsOf_50 rfl rfl ?_
          refine r_fconst1 (pc2 := 52) dX7_bitsOf_51 rfl ?_
          refine r_fcmp (pc2 := 53) dX7_bitsOf_52 rfl ?_
          refine r_if_ge (pc2 := 56) (tgt := 69) dX7_bitsOf_53 (by decide) rfl (fun c53 => ?_) (fun c53 => ?_)
          · skip
            have k53 : 127 ≤ E - i + j := by
              rcases Nat.lt_or_ge (E - i + j) 127 with q | q
              · rw [g2.2.2.2.2.2.1 q, cv_lt] at c53; exact absurd c53 (by decide)
              · exact q
            refine r_iload_n (pc2 := 70) dX7_bitsOf_69 rfl rfl ?_
            refine r_bipush (pc2 := 72) (nI 23) dX7_bitsOf_70 (by decide) rfl ?_
            refine r_ishl (pc2 := 73) dX7_bitsOf_72 rfl ?_
            refine r_fload_n (pc2 := 74) dX7_bitsOf_73 rfl rfl ?_
            refine r_ldcf (pc2 := 76) dX7_bitsOf_74 tw_554 rfl ?_
            refine r_fmul (pc2 := 77) dX7_bitsOf_76 (by rw [show E - i + j = 127 by omega, (hF.2.2 M hM).1]; exact (hF.2.1 150 M (by omega) (by omega) hM).1) rfl ?_
            refine r_f2i (pc2 := 78) dX7_bitsOf_77 rfl ?_
            refine r_iadd (pc2 := 79) dX7_bitsOf_78 rfl ?_
            refine r_ldc (pc2 := 81) dX7_bitsOf_79 tw_555 rfl ?_
            refine r_as (x' := nI 8388608) (by decide) ?_
            refine r_isub (pc2 := 82) dX7_bitsOf_81 rfl ?_
            exact r_iret dX7_bitsOf_82 rfl (⟨by rw [show E - i + j = 127 by omega, show 127 + i - j = E by omega, (hF.2.2 M hM).1, (hF.2.2 M hM).2]; exact bo_sum (by omega) hM, rfl⟩)
          · skip
            have k53 : E - i + j < 127 := by
              rcases Nat.lt_or_ge (E - i + j) 127 with q | q
              · exact q
              · rcases g2.2.2.2.2.2.2 q with w | w
                · rw [w, cv_eq] at c53; exact absurd (by decide) c53
                · rw [w, cv_gt] at c53; exact absurd (by decide) c53
            refine r_fload_n (pc2 := 57) dX7_bitsOf_56 rfl rfl ?_
            refine r_fconst2 (pc2 := 58) dX7_bitsOf_57 rfl ?_
            refine r_fmul (pc2 := 59) dX7_bitsOf_58 (by rw [g2.2.2.1]; exact (hF.2.1 (E - i + j + 1) M (by omega) (by omega) hM).1) rfl ?_
            refine r_fstore_n (pc2 := 60) dX7_bitsOf_59 (by decide) rfl rfl ?_
            refine r_iinc (pc2 := 63) (v := (nI ((127 + i - (j + 1))))) dX7_bitsOf_60 rfl (by decide) (nI_dec (by omega)) rfl rfl ?_
            refine r_iincN (pc2 := 66) dX7_bitsOf_63 rfl (by decide) rfl rfl ?_
            refine r_goto (pc2 := 43) dX7_bitsOf_66 (by decide) ?_
            exact Rc_.to (lo' := (fun j : Nat => [some (vF ((fl_b E M))), some (vF ((fl_b (E - i + j) M))), some (vI (nI ((127 + i - j)))), some (vI (nI j))]) (j + 1)) (rfl) ⟨rfl, (congrArg (fun z => some (vF z)) g2.2.2.1.symm), rfl, rfl, trivial⟩ (ih43 (by omega))
      · skip
        have k25 : 128 ≤ E - i := by
          rcases Nat.lt_or_ge (E - i) 128 with q | q
          · rw [g.2.2.2.1 q, cv_lt] at c25; exact absurd (by decide) c25
          · exact q
        refine r_fload_n (pc2 := 29) dX7_bitsOf_28 rfl rfl ?_
        refine r_fconst2 (pc2 := 30) dX7_bitsOf_29 rfl ?_
        refine r_fdiv (pc2 := 31) dX7_bitsOf_30 (by rw [g.2.1]; exact (hF.2.1 (E - i - 1) M (by omega) (by omega) hM).1) rfl ?_
        refine r_fstore_n (pc2 := 32) dX7_bitsOf_31 (by decide) rfl rfl ?_
        refine r_iincN (pc2 := 35) dX7_bitsOf_32 rfl (by decide) rfl rfl ?_
        refine r_iincN (pc2 := 38) dX7_bitsOf_35 rfl (by decide) rfl rfl ?_
        refine r_goto (pc2 := 15) dX7_bitsOf_38 (by decide) ?_
        exact Rc_.to (lo' := (fun i : Nat => [some (vF ((fl_b E M))), some (vF ((fl_b (E - i) M))), some (vI (nI ((127 + i)))), some (vI (nI i))]) (i + 1)) (rfl) ⟨rfl, (congrArg (fun z => some (vF z)) g.2.1.symm), rfl, rfl, trivial⟩ (ih15 (by omega))
  · skip
    exact absurd (by rw [h0, cv_gt]; decide) c3

theorem c_bits {PL : List (Nat × Nat)} {V : Mm_} {v : UInt32} (hF : FF_) (hv : FV_ v) : Cp_ PL mX7_bitsOf [vF v] V (v.toInt32) := by
  rcases hv.2.2 with ⟨h1, h2⟩ | ⟨E, M, h1, h2, h3, h4, h5⟩
  · have e : v.toInt32 = nI 0 := by rw [h1]; rfl
    rw [e]
    exact c_bits_0 h2
  · subst h4
    exact c_bits_1 hF h1 h2 h3 h5
set_option maxRecDepth 100000 in
set_option maxHeartbeats 4000000 in
theorem c_isNaN {PL : List (Nat × Nat)} {V : Mm_} {v : UInt32} (hvv : FP.fcmp v v = some .eq) : Cp_ PL mJxf58ca_isNaN_12338 [vF v] V ((nI 0)) := by
  refine Ca_.of ms_Jxf58ca_isNaN_12338.2.2.2.2.2 0 (lo := [some (vF v)]) rfl (Nat.le_of_ble_eq_true rfl) ?_
  refine r_fload_n (pc2 := 1) dJxf58ca_isNaN_12338_0 rfl rfl ?_
  refine r_fload_n (pc2 := 2) dJxf58ca_isNaN_12338_1 rfl rfl ?_
  refine r_fcmp (pc2 := 3) dJxf58ca_isNaN_12338_2 rfl ?_
  refine r_if_eq (pc2 := 6) (tgt := 10) dJxf58ca_isNaN_12338_3 (by decide) rfl (fun c3 => ?_) (fun c3 => ?_)
  · skip
    refine r_iconst (pc2 := 11) (nI 0) dJxf58ca_isNaN_12338_10 (by decide) rfl ?_
    exact r_zret dJxf58ca_isNaN_12338_11 rfl (Or.inl rfl) (⟨rfl, rfl⟩)
  · skip
    exact absurd (by rw [hvv, cv_eq]) c3

section RAW
variable {PL : List (Nat × Nat)} {y : mi_T} {pc pc2 idx : Nat} {lo : List (Option Vl_)} {st : List Vl_} {V : Mm_} {Φ : Ph_}
theorem r_raw {f : UInt32} (hd : dc_at y pc (.invokestatic idx) 3) (hlk : gd_T (.methodLink y.1.cls idx ⟨"java/lang/Float", "floatToRawIntBits", "(F)I"⟩)) (hrm : 1 ≤ y.2.2.2.2.1 ∧ 23 ≤ y.2.2.2.2.2) (hl8 : st.length ≤ 8) (h2 : pc + 3 = pc2) (kk : Rc_ PL y pc2 lo (vI f.toInt32 :: st) V Φ) : Rc_ PL y pc lo (vF f :: st) V Φ := by
  subst h2
  intro p l e R s m args below meth c cells slots Z dC dI cI cZ ad A hx hk H locs ls hP hS hl hst hlo
  exact vn_f2i hx.1 hx.2.1 (by rw [hx.2.2.2.1]; exact hl.1.symm) hx.2.2.2.2.1 (hx.2.2.2.2.2.1 _ hlk) (hx.2.2.2.2.2.1 _ tw_890) (hx.2.2.2.2.2.1 _ tw_889) (hx.2.2.2.2.2.1 _ tw_49) (Nat.le_trans hrm.1 hx.2.2.2.2.2.2.2.2.1) (by have := Nat.le_trans hrm.2 hx.2.2.2.2.2.2.2.2.2.1; rw [ct_sum]; omega) hd (kk hx hk H locs ls hP hS hl ⟨trivial, hst.2⟩ hlo)
end RAW
theorem c_f2ib {PL : List (Nat × Nat)} {V : Mm_} {v : UInt32} (hvv : FP.fcmp v v = some .eq) : Cp_ PL mJxf58ca_floatToIntBits_5c35a [vF v] V (v.toInt32) := by
  refine Ca_.of ms_Jxf58ca_floatToIntBits_5c35a.2.2.2.2.2 0 (lo := [some (vF v)]) rfl (Nat.le_of_ble_eq_true rfl) ?_
  refine r_fload_n (pc2 := 1) dJxf58ca_floatToIntBits_5c35a_0 rfl rfl ?_
  refine r_cs1p (pc2 := 4) dJxf58ca_floatToIntBits_5c35a_1 st_Jxf58ca_floatToIntBits_5c35a_59 (Nat.le_of_ble_eq_true rfl) rfl (c_isNaN hvv) ?_
  refine r_if0N_ne (pc2 := 7) (tgt := 12) (by decide) dJxf58ca_floatToIntBits_5c35a_4 (by decide) rfl (fun h => absurd rfl h) (fun _ => ?_)
  refine r_fload_n (pc2 := 8) dJxf58ca_floatToIntBits_5c35a_7 rfl rfl ?_
  refine r_raw (pc2 := 11) dJxf58ca_floatToIntBits_5c35a_8 tw_888 ⟨by decide, by decide⟩ (Nat.le_of_ble_eq_true rfl) rfl ?_
  exact r_iret dJxf58ca_floatToIntBits_5c35a_11 rfl ⟨rfl, rfl⟩
/-- sums -/
def ns_ (w : Nat → Nat) : Nat → Nat
  | 0 => 0
  | k + 1 => ns_ w k + w k
def n2_ (w : Nat → Nat → Nat) (n : Nat) : Nat → Nat
  | 0 => 0
  | a + 1 => n2_ w n a + ns_ (w a) n
theorem ns_cong {w v : Nat → Nat} : ∀ {n : Nat}, (∀ k, k < n → w k = v k) → ns_ w n = ns_ v n
  | 0, _ => rfl
  | n + 1, h => by rw [ns_, ns_, ns_cong (fun k hk => h k (by omega)), h n (by omega)]
theorem n2_cong {w v : Nat → Nat → Nat} {n : Nat} : ∀ {m : Nat}, (∀ a b, a < m → b < n → w a b = v a b) → n2_ w n m = n2_ v n m
  | 0, _ => rfl
  | m + 1, h => by rw [n2_, n2_, n2_cong (fun a b ha hb => h a b (by omega) hb), ns_cong (fun b hb => h m b (by omega) hb)]
theorem ns_add (w : Nat → Nat) (m : Nat) : ∀ j, ns_ w (m + j) = ns_ w m + ns_ (fun b => w (m + b)) j
  | 0 => rfl
  | j + 1 => by
    show ns_ w (m + j) + w (m + j) = ns_ w m + (ns_ (fun b => w (m + b)) j + w (m + j))
    rw [ns_add w m j]
    omega
theorem ns_8 (q : Nat → Nat → Nat) : ∀ m, ns_ (fun k => q (k / 8) (k % 8)) (m * 8) = n2_ q 8 m
  | 0 => rfl
  | m + 1 => by
    rw [Nat.succ_mul, ns_add, ns_8 q m, n2_]
    refine congrArg (fun z => n2_ q 8 m + z) (ns_cong (fun b hb => ?_))
    show q ((m * 8 + b) / 8) ((m * 8 + b) % 8) = q m b
    rw [show (m * 8 + b) / 8 = m by omega, show (m * 8 + b) % 8 = b by omega]
theorem ns_z {w : Nat → Nat} : ∀ {n : Nat}, (∀ k, k < n → w k = 0) → ns_ w n = 0
  | 0, _ => rfl
  | n + 1, h => by rw [ns_, h n (by omega), ns_z (fun k hk => h k (by omega))]
theorem ns_cut {w v : Nat → Nat} {n m : Nat} (hm : n ≤ m) (h1 : ∀ b, b < n → w b = v b) (h2 : ∀ b, n ≤ b → w b = 0) : ns_ w m = ns_ v n := by
  obtain ⟨d, rfl⟩ : ∃ d, m = n + d := ⟨m - n, by omega⟩
  rw [ns_add, ns_cong h1, ns_z (n := d) (fun k _ => h2 (n + k) (by omega)), Nat.add_zero]
theorem n2_cut {w v : Nat → Nat → Nat} {n : Nat} (hn8 : n ≤ 8) (h1 : ∀ a b, a < n → b < n → w a b = v a b) (h2 : ∀ a b, ¬ (a < n ∧ b < n) → w a b = 0) : n2_ w 8 8 = n2_ v n n := by
  have key : ∀ m, m ≤ n → n2_ w 8 m = n2_ v n m := by
    intro m hm
    induction m with
    | zero => rfl
    | succ m ih => rw [n2_, n2_, ih (by omega), ns_cut hn8 (fun b hb => h1 m b (by omega) hb) (fun b hb => h2 m b (by omega))]
  have rest : ∀ d, n2_ w 8 (n + d) = n2_ v n n := by
    intro d
    induction d with
    | zero => exact key n (Nat.le_refl n)
    | succ d ih =>
      show n2_ w 8 (n + d) + ns_ (w (n + d)) 8 = _
      rw [ih, ns_z (fun b _ => h2 (n + d) b (by omega)), Nat.add_zero]
  have := rest (8 - n)
  rwa [show n + (8 - n) = 8 by omega] at this
theorem ns_64 {p : Nat → Nat} {w v : Nat → Nat → Nat} {n : Nat} (hn8 : n ≤ 8) (h : ∀ k, k < 64 → p k = w (k / 8) (k % 8)) (h1 : ∀ a b, a < n → b < n → w a b = v a b) (h2 : ∀ a b, a < 8 → b < 8 → ¬ (a < n ∧ b < n) → w a b = 0) : ns_ p 64 = n2_ v n n := by
  rw [ns_cong h]
  refine (ns_8 w 8).trans ?_
  have e : n2_ w 8 8 = n2_ (fun a b => if a < 8 ∧ b < 8 then w a b else 0) 8 8 := n2_cong (fun a b ha hb => (if_pos ⟨ha, hb⟩).symm)
  rw [e]
  refine n2_cut hn8 (fun a b ha hb => ?_) (fun a b hab => ?_)
  · show (if a < 8 ∧ b < 8 then w a b else 0) = _
    rw [if_pos ⟨by omega, by omega⟩]; exact h1 a b ha hb
  · show (if a < 8 ∧ b < 8 then w a b else 0) = _
    by_cases z : a < 8 ∧ b < 8
    · rw [if_pos z]; exact h2 a b z.1 z.2 hab
    · rw [if_neg z]
theorem ns_b {w : Nat → Nat} {B : Nat} : ∀ {n : Nat}, (∀ k, k < n → w k ≤ B) → ns_ w n ≤ n * B
  | 0, _ => Nat.zero_le _
  | n + 1, h => by
    have := ns_b (n := n) (fun k hk => h k (by omega))
    have := h n (by omega)
    rw [ns_, Nat.succ_mul]
    omega
theorem n2_b {w : Nat → Nat → Nat} {n B : Nat} : ∀ {m : Nat}, (∀ a b, a < m → b < n → w a b ≤ B) → n2_ w n m ≤ m * (n * B)
  | 0, _ => Nat.zero_le _
  | m + 1, h => by
    have := n2_b (m := m) (fun a b ha hb => h a b (by omega) hb)
    have := ns_b (w := w m) (n := n) (B := B) (fun b hb => h m b (by omega) hb)
    rw [n2_, Nat.succ_mul]
    omega
/-- which pairs count, how wide they are -/
def px_ (du : Nat → Nat → Int32) (a b : Nat) : Bool := decide (¬ a = b) && decide (¬ du a b = -1)
def wx_ (dl du : Nat → Nat → Int32) (a b : Nat) : Nat := if px_ du a b = true then (du a b - dl a b).toNatClampNeg else 0
theorem nn_cl {x : Int32} (h : 0 ≤ x) : x = nI x.toNatClampNeg := by
  obtain ⟨j, hj, rfl⟩ := nI_of (Int32.not_lt.mpr h)
  rw [nI_clamp hj]
/-- a width -/
theorem wd_ok {s : Sg_} {inf : Int32} {n a b : Nat} (h : IK_ s) (ha : a < 8) (hb : b < 8) (hn8 : n ≤ 8) (hd : ¬ du_ s inf n a b = -1) : 0 ≤ du_ s inf n a b - dl_ s inf n a b ∧ (du_ s inf n a b - dl_ s inf n a b).toNatClampNeg ≤ 30000 := by
  have h1 := dl_b (inf := inf) (n := n) h.1 ha hb hn8
  have h2 := du_b (inf := inf) (n := n) h.1 ha hb hn8
  have h3 := dl_du (inf := inf) (n := n) h.2 ha hb hn8
  rcases h1 with h1 | h1
  · exact absurd h1.1 hd
  · rcases h2 with h2 | h2
    · exact absurd h2 hd
    · have e := sub_i h2 h1.2
      have g1 := h1.2.1
      have g2 := h2.2
      simp only [Int32.le_iff_toInt_le, i_0, i_3] at g1 g2 h3
      have p : 0 ≤ du_ s inf n a b - dl_ s inf n a b := by rw [Int32.le_iff_toInt_le, e, i_0]; omega
      refine ⟨p, ?_⟩
      obtain ⟨j, hj, ej⟩ := nI_of (Int32.not_lt.mpr p)
      rw [ej, nI_clamp hj]
      rw [ej, nI_toInt hj] at e
      omega
theorem wx_b {s : Sg_} {inf : Int32} {n : Nat} (h : IK_ s) (hn8 : n ≤ 8) : n2_ (wx_ (dl_ s inf n) (du_ s inf n)) n n < 2 ^ 24 := by
  have hb := n2_b (w := wx_ (dl_ s inf n) (du_ s inf n)) (n := n) (m := n) (B := 30000) (fun a b ha hb => by
    unfold wx_
    split
    · rename_i z
      unfold px_ at z
      rw [Bool.and_eq_true] at z
      exact (wd_ok h (by omega) (by omega) hn8 (of_decide_eq_true z.2)).2
    · omega)
  have h1 : n * (n * 30000) ≤ 8 * (8 * 30000) := Nat.mul_le_mul hn8 (Nat.mul_le_mul_right _ hn8)
  omega
theorem wx_0 {dl du : Nat → Nat → Int32} {i j S : Nat} (h : px_ du i j = false) : S + ns_ (wx_ dl du i) (j + 1) = S + ns_ (wx_ dl du i) j := by
  rw [ns_]
  unfold wx_
  rw [h]
  rfl
theorem wx_1 {dl du : Nat → Nat → Int32} {i j S : Nat} (h : px_ du i j = true) : S + ns_ (wx_ dl du i) (j + 1) = S + ns_ (wx_ dl du i) j + (du i j - dl i j).toNatClampNeg := by
  rw [ns_, ← Nat.add_assoc]
  refine congrArg (fun z => S + ns_ (wx_ dl du i) j + z) ?_
  unfold wx_
  rw [if_pos h]
set_option maxRecDepth 100000 in
set_option maxHeartbeats 4000000 in
theorem c_X7_meanWidthBits {PL : List (Nat × Nat)} {V : Mm_} {n : Nat} (hn : V 1 0 0 = nI n) (hn8 : n ≤ 8) (hF : FF_) (hik : IK_ (V 1)) : Ci_ PL mX7_meanWidthBits [vR 0 18] V (fun x V' => fm_ V V' ∧ x = if c2_ (px_ (du_ (V 1) (V 0 19 6) n)) n n = 0 then -4 else (vm_ (n2_ (wx_ (dl_ (V 1) (V 0 19 6) n) (du_ (V 1) (V 0 19 6) n)) n n) (c2_ (px_ (du_ (V 1) (V 0 19 6) n)) n n)).toInt32) := by
  refine Ca_.of mv_X7_meanWidthBits.2.2.2.2.2.2 5 (lo := [some (vR 0 18), none, none, none, none, none]) rfl (Nat.le_of_ble_eq_true rfl) ?_
  refine r_aload_n (pc2 := 1) dX7_meanWidthBits_0 rfl rfl ?_
  refine r_getR (pc2 := 4) dX7_meanWidthBits_1 fl_X7_37 (by decide) rfl rfl rfl ?_
  refine r_aload_n (pc2 := 5) dX7_meanWidthBits_4 rfl rfl ?_
  refine r_getR (pc2 := 8) dX7_meanWidthBits_5 fl_X7_24 (by decide) rfl rfl rfl ?_
  refine r_aload_n (pc2 := 9) dX7_meanWidthBits_8 rfl rfl ?_
  refine r_getR (pc2 := 12) dX7_meanWidthBits_9 fl_X7_18 (by decide) rfl rfl rfl ?_
  refine r_cv2v (pc2 := 15) dX7_meanWidthBits_12 st_X7_meanWidthBits_189 rl_X3_take (Nat.le_of_ble_eq_true rfl) rfl (c_X3_take (by decide) hn hn8) (fun V12 h12 => ?_)
  have hf12 := fm_sf h12.1
  obtain ⟨a1, a2, a3⟩ := tk_ag hn8 h12
  have hn2 : V12 1 0 0 = nI n := by rw [hf12.1]; exact hn
  have b1 : ∀ a b, a < n → b < n → V12 0 21 (a * 8 + b) = dl_ (V 1) (V 0 19 6) n a b := fun a b ha hb => by rw [a1 a b ha hb, Dl_at (by omega)]
  have b2 : ∀ a b, a < n → b < n → V12 0 22 (a * 8 + b) = du_ (V 1) (V 0 19 6) n a b := fun a b ha hb => by rw [a2 a b ha hb, Du_at (by omega)]
  have hr1 : c2_ (px_ (fun a b => V12 0 22 (a * 8 + b))) n n = c2_ (px_ (du_ (V 1) (V 0 19 6) n)) n n := c2_cong (fun a b ha hb => by simp only [px_, b2 a b ha hb])
  have hr2 : n2_ (wx_ (fun a b => V12 0 21 (a * 8 + b)) (fun a b => V12 0 22 (a * 8 + b))) n n = n2_ (wx_ (dl_ (V 1) (V 0 19 6) n) (du_ (V 1) (V 0 19 6) n)) n n := n2_cong (fun a b ha hb => by (simp only [wx_, px_, b2 a b ha hb, b1 a b ha hb]) <;> rfl)
  have hSb := wx_b (inf := V 0 19 6) hik hn8
  refine r_iconst (pc2 := 16) (nI 0) dX7_meanWidthBits_15 (by decide) rfl ?_
  refine r_istore_n (pc2 := 17) dX7_meanWidthBits_16 (by decide) rfl rfl ?_
  refine r_iconst (pc2 := 18) (nI 0) dX7_meanWidthBits_17 (by decide) rfl ?_
  refine r_istore_n (pc2 := 19) dX7_meanWidthBits_18 (by decide) rfl rfl ?_
  refine r_iconst (pc2 := 20) (nI 0) dX7_meanWidthBits_19 (by decide) rfl ?_
  refine r_istore_n (pc2 := 21) dX7_meanWidthBits_20 (by decide) rfl rfl ?_
  refine Rc_.to (V' := (fun _ => V12) 0) (lo' := (fun i : Nat => [some (vR 0 18), some (vI (nI ((n2_ (wx_ (fun a b => V12 0 21 (a * 8 + b)) (fun a b => V12 0 22 (a * 8 + b))) n i)))), some (vI (nI ((c2_ (px_ (fun a b => V12 0 22 (a * 8 + b))) n i)))), some (vI (nI i)), none, none]) 0) (rfl) ⟨rfl, rfl, rfl, rfl, trivial⟩ ?_
  refine Rc_for 0 (n) (fun i : Nat => [some (vR 0 18), some (vI (nI ((n2_ (wx_ (fun a b => V12 0 21 (a * 8 + b)) (fun a b => V12 0 22 (a * 8 + b))) n i)))), some (vI (nI ((c2_ (px_ (fun a b => V12 0 22 (a * 8 + b))) n i)))), some (vI (nI i)), none, none]) (fun _ => V12) (by omega) (fun i hi0 hiN ih21 => ?_)
  refine r_iload_n (pc2 := 22) dX7_meanWidthBits_21 rfl rfl ?_
  refine r_aload_n (pc2 := 23) dX7_meanWidthBits_22 rfl rfl ?_
  refine r_getR (pc2 := 26) dX7_meanWidthBits_23 fl_X7_24 (by decide) rfl rfl rfl ?_
  refine r_getIe (pc2 := 29) (x := (nI n)) (hn2) dX7_meanWidthBits_26 fl_X7_60 (by decide) rfl rfl rfl ?_
  refine r_icN_ge (pc2 := 32) (tgt := 112) (by omega) (by omega) dX7_meanWidthBits_29 (by decide) rfl (fun c29 => ?_) (fun c29 => ?_)
  · skip
    have en : i = n := by omega
    subst en
    have hc64 := c2_le (px_ (fun a b => V12 0 22 (a * 8 + b))) i i
    have h64 : i * i ≤ 64 := Nat.mul_le_mul hn8 hn8
    refine r_iload_n (pc2 := 113) dX7_meanWidthBits_112 rfl rfl ?_
    refine r_if0N_ne (pc2 := 116) (tgt := 121) (by omega) dX7_meanWidthBits_113 (by decide) rfl (fun c113 => ?_) (fun c113 => ?_)
    · skip
      refine r_iload_n (pc2 := 122) dX7_meanWidthBits_121 rfl rfl ?_
      refine r_i2f (pc2 := 123) dX7_meanWidthBits_122 rfl ?_
      refine r_iload_n (pc2 := 124) dX7_meanWidthBits_123 rfl rfl ?_
      refine r_i2f (pc2 := 125) dX7_meanWidthBits_124 rfl ?_
      refine r_fdiv (pc2 := 126) dX7_meanWidthBits_125 ((hF.1 _ _ (by omega) (by omega) (by omega)).1) rfl ?_
      refine r_cs1p (pc2 := 129) dX7_meanWidthBits_126 st_X7_meanWidthBits_193 (Nat.le_of_ble_eq_true rfl) rfl (c_bits hF (hF.1 _ _ (by omega) (by omega) (by omega))) ?_
      exact r_iret dX7_meanWidthBits_129 rfl (⟨hf12, by rw [← hr1, ← hr2]; exact (if_neg c113).symm⟩)
    · skip
      refine r_bipush (pc2 := 118) (-4) dX7_meanWidthBits_116 (by decide) rfl ?_
      refine r_goto (pc2 := 129) dX7_meanWidthBits_118 (by decide) ?_
      exact r_iret dX7_meanWidthBits_129 rfl (⟨hf12, by rw [← hr1, ← hr2]; exact (if_pos c113).symm⟩)
  · skip
    refine r_iconst (pc2 := 33) (nI 0) dX7_meanWidthBits_32 (by decide) rfl ?_
    refine r_istore (pc2 := 35) dX7_meanWidthBits_33 (by decide) rfl rfl ?_
    refine Rc_.to (V' := (fun _ => V12) 0) (lo' := (fun j : Nat => [some (vR 0 18), some (vI (nI ((n2_ (wx_ (fun a b => V12 0 21 (a * 8 + b)) (fun a b => V12 0 22 (a * 8 + b))) n i + ns_ ((wx_ (fun a b => V12 0 21 (a * 8 + b)) (fun a b => V12 0 22 (a * 8 + b))) i) j)))), some (vI (nI ((c2_ (px_ (fun a b => V12 0 22 (a * 8 + b))) n i + cnt_ ((px_ (fun a b => V12 0 22 (a * 8 + b))) i) j)))), some (vI (nI i)), some (vI (nI j)), none]) 0) (rfl) ⟨rfl, rfl, rfl, rfl, rfl, trivial⟩ ?_
    refine Rc_for 0 (n) (fun j : Nat => [some (vR 0 18), some (vI (nI ((n2_ (wx_ (fun a b => V12 0 21 (a * 8 + b)) (fun a b => V12 0 22 (a * 8 + b))) n i + ns_ ((wx_ (fun a b => V12 0 21 (a * 8 + b)) (fun a b => V12 0 22 (a * 8 + b))) i) j)))), some (vI (nI ((c2_ (px_ (fun a b => V12 0 22 (a * 8 + b))) n i + cnt_ ((px_ (fun a b => V12 0 22 (a * 8 + b))) i) j)))), some (vI (nI i)), some (vI (nI j)), none]) (fun _ => V12) (by omega) (fun j hj0 hjN ih35 => ?_)
    refine r_iload (pc2 := 37) dX7_meanWidthBits_35 rfl rfl ?_
    refine r_aload_n (pc2 := 38) dX7_meanWidthBits_37 rfl rfl ?_
    refine r_getR (pc2 := 41) dX7_meanWidthBits_38 fl_X7_24 (by decide) rfl rfl rfl ?_
    refine r_getIe (pc2 := 44) (x := (nI n)) (hn2) dX7_meanWidthBits_41 fl_X7_60 (by decide) rfl rfl rfl ?_
    refine r_icN_ge (pc2 := 47) (tgt := 106) (by omega) (by omega) dX7_meanWidthBits_44 (by decide) rfl (fun c44 => ?_) (fun c44 => ?_)
    · skip
      refine r_iincN (pc2 := 109) dX7_meanWidthBits_106 rfl (by decide) rfl rfl ?_
      refine r_goto (pc2 := 21) dX7_meanWidthBits_109 (by decide) ?_
      exact Rc_.to (lo' := (fun i : Nat => [some (vR 0 18), some (vI (nI ((n2_ (wx_ (fun a b => V12 0 21 (a * 8 + b)) (fun a b => V12 0 22 (a * 8 + b))) n i)))), some (vI (nI ((c2_ (px_ (fun a b => V12 0 22 (a * 8 + b))) n i)))), some (vI (nI i)), none, none]) (i + 1)) (rfl) ⟨rfl, (congrArg (fun z => some (vI (nI z))) (by (have e : j = n := by omega); subst e; rfl)), (congrArg (fun z => some (vI (nI z))) (by (have e : j = n := by omega); subst e; rfl)), rfl, trivial⟩ (ih21 (by omega))
    · skip
      refine r_iload_n (pc2 := 48) dX7_meanWidthBits_47 rfl rfl ?_
      refine r_iload (pc2 := 50) dX7_meanWidthBits_48 rfl rfl ?_
      refine r_cs2p (pc2 := 53) dX7_meanWidthBits_50 st_X7_meanWidthBits_88 (Nat.le_of_ble_eq_true rfl) rfl (c_X7_pair) ?_
      refine r_istore (pc2 := 55) dX7_meanWidthBits_53 (by decide) rfl rfl ?_
      refine r_iload_n (pc2 := 56) dX7_meanWidthBits_55 rfl rfl ?_
      refine r_iload (pc2 := 58) dX7_meanWidthBits_56 rfl rfl ?_
      refine r_icN_eq (pc2 := 61) (tgt := 100) (by omega) (by omega) dX7_meanWidthBits_58 (by decide) rfl (fun c58 => ?_) (fun c58 => ?_)
      · skip
        refine r_iincN (pc2 := 103) dX7_meanWidthBits_100 rfl (by decide) rfl rfl ?_
        refine r_goto (pc2 := 35) dX7_meanWidthBits_103 (by decide) ?_
        exact Rc_.to (lo' := (fun j : Nat => [some (vR 0 18), some (vI (nI ((n2_ (wx_ (fun a b => V12 0 21 (a * 8 + b)) (fun a b => V12 0 22 (a * 8 + b))) n i + ns_ ((wx_ (fun a b => V12 0 21 (a * 8 + b)) (fun a b => V12 0 22 (a * 8 + b))) i) j)))), some (vI (nI ((c2_ (px_ (fun a b => V12 0 22 (a * 8 + b))) n i + cnt_ ((px_ (fun a b => V12 0 22 (a * 8 + b))) i) j)))), some (vI (nI i)), some (vI (nI j)), none]) (j + 1)) (rfl) ⟨rfl, (congrArg (fun z => some (vI (nI z))) (wx_0 (show px_ _ i j = false by unfold px_; rw [decide_eq_false (fun z => z c58)]; rfl))), (congrArg (fun z => some (vI (nI z))) (congrArg (c2_ (px_ (fun a b => V12 0 22 (a * 8 + b))) n i + ·) (cnt_f (show px_ _ i j = false by unfold px_; rw [decide_eq_false (fun z => z c58)]; rfl)))), rfl, rfl, trivial⟩ (ih35 (by omega))
      · skip
        refine r_aload_n (pc2 := 62) dX7_meanWidthBits_61 rfl rfl ?_
        refine r_getR (pc2 := 65) dX7_meanWidthBits_62 fl_X7_37 (by decide) rfl rfl rfl ?_
        refine r_iload (pc2 := 67) dX7_meanWidthBits_65 rfl rfl ?_
        refine r_cv1p (pc2 := 70) dX7_meanWidthBits_67 st_X7_meanWidthBits_178 rl_X3_reaches (Nat.le_of_ble_eq_true rfl) rfl (c_X3_reaches (by omega)) ?_
        refine r_ifB_eq (pc2 := 73) (tgt := 100) dX7_meanWidthBits_70 (by decide) rfl (fun c70 => ?_) (fun c70 => ?_)
        · skip
          refine r_iincN (pc2 := 103) dX7_meanWidthBits_100 rfl (by decide) rfl rfl ?_
          refine r_goto (pc2 := 35) dX7_meanWidthBits_103 (by decide) ?_
          exact Rc_.to (lo' := (fun j : Nat => [some (vR 0 18), some (vI (nI ((n2_ (wx_ (fun a b => V12 0 21 (a * 8 + b)) (fun a b => V12 0 22 (a * 8 + b))) n i + ns_ ((wx_ (fun a b => V12 0 21 (a * 8 + b)) (fun a b => V12 0 22 (a * 8 + b))) i) j)))), some (vI (nI ((c2_ (px_ (fun a b => V12 0 22 (a * 8 + b))) n i + cnt_ ((px_ (fun a b => V12 0 22 (a * 8 + b))) i) j)))), some (vI (nI i)), some (vI (nI j)), none]) (j + 1)) (rfl) ⟨rfl, (congrArg (fun z => some (vI (nI z))) (wx_0 (show px_ _ i j = false by unfold px_; rw [c70, Bool.and_false]))), (congrArg (fun z => some (vI (nI z))) (congrArg (c2_ (px_ (fun a b => V12 0 22 (a * 8 + b))) n i + ·) (cnt_f (show px_ _ i j = false by unfold px_; rw [c70, Bool.and_false])))), rfl, rfl, trivial⟩ (ih35 (by omega))
        · skip
          have hnn := (wd_ok (inf := V 0 19 6) hik (show i < 8 by omega) (show j < 8 by omega) hn8 (by rw [← b2 i j (by omega) (by omega)]; exact of_decide_eq_true c70)).1
          rw [← b2 i j (by omega) (by omega), ← b1 i j (by omega) (by omega)] at hnn
          refine r_iload_n (pc2 := 74) dX7_meanWidthBits_73 rfl rfl ?_
          refine r_aload_n (pc2 := 75) dX7_meanWidthBits_74 rfl rfl ?_
          refine r_getR (pc2 := 78) dX7_meanWidthBits_75 fl_X7_37 (by decide) rfl rfl rfl ?_
          refine r_getR (pc2 := 81) dX7_meanWidthBits_78 fl_X7_182 (by decide) rfl rfl rfl ?_
          refine r_iload (pc2 := 83) dX7_meanWidthBits_81 rfl rfl ?_
          refine r_ialde (pc2 := 84) (x := ((V12 0 22 (i * 8 + j)))) (j := _) (rfl) dX7_meanWidthBits_83 (by decide) rfl rfl (rfl) (by show _ < 64; omega) rfl ?_
          refine r_aload_n (pc2 := 85) dX7_meanWidthBits_84 rfl rfl ?_
          refine r_getR (pc2 := 88) dX7_meanWidthBits_85 fl_X7_37 (by decide) rfl rfl rfl ?_
          refine r_getR (pc2 := 91) dX7_meanWidthBits_88 fl_X7_181 (by decide) rfl rfl rfl ?_
          refine r_iload (pc2 := 93) dX7_meanWidthBits_91 rfl rfl ?_
          refine r_ialde (pc2 := 94) (x := ((V12 0 21 (i * 8 + j)))) (j := _) (rfl) dX7_meanWidthBits_93 (by decide) rfl rfl (rfl) (by show _ < 64; omega) rfl ?_
          refine r_isub (pc2 := 95) dX7_meanWidthBits_94 rfl ?_
          refine r_as (x' := (nI ((V12 0 22 (i * 8 + j) - V12 0 21 (i * 8 + j)).toNatClampNeg))) (nn_cl hnn) ?_
          refine r_iaddN (pc2 := 96) dX7_meanWidthBits_95 rfl ?_
          refine r_istore_n (pc2 := 97) dX7_meanWidthBits_96 (by decide) rfl rfl ?_
          refine r_iincN (pc2 := 100) dX7_meanWidthBits_97 rfl (by decide) rfl rfl ?_
          refine r_iincN (pc2 := 103) dX7_meanWidthBits_100 rfl (by decide) rfl rfl ?_
          refine r_goto (pc2 := 35) dX7_meanWidthBits_103 (by decide) ?_
          exact Rc_.to (lo' := (fun j : Nat => [some (vR 0 18), some (vI (nI ((n2_ (wx_ (fun a b => V12 0 21 (a * 8 + b)) (fun a b => V12 0 22 (a * 8 + b))) n i + ns_ ((wx_ (fun a b => V12 0 21 (a * 8 + b)) (fun a b => V12 0 22 (a * 8 + b))) i) j)))), some (vI (nI ((c2_ (px_ (fun a b => V12 0 22 (a * 8 + b))) n i + cnt_ ((px_ (fun a b => V12 0 22 (a * 8 + b))) i) j)))), some (vI (nI i)), some (vI (nI j)), none]) (j + 1)) (rfl) ⟨rfl, (congrArg (fun z => some (vI (nI z))) (wx_1 (show px_ _ i j = true by unfold px_; rw [decide_eq_true c58, c70]; rfl))), (congrArg (fun z => some (vI (nI z))) (congrArg (c2_ (px_ (fun a b => V12 0 22 (a * 8 + b))) n i + ·) (cnt_t (show px_ _ i j = true by unfold px_; rw [decide_eq_true c58, c70]; rfl)))), rfl, rfl, trivial⟩ (ih35 (by omega))

theorem ns_if0 {p : Nat → Bool} {g : Nat → Nat} {k : Nat} (h : p k = false) : ns_ (fun k => if p k = true then g k else 0) (k + 1) = ns_ (fun k => if p k = true then g k else 0) k := by
  show ns_ _ k + (if p k = true then g k else 0) = _
  rw [h]
  rfl
theorem ns_if1 {p : Nat → Bool} {g : Nat → Nat} {k : Nat} (h : p k = true) : ns_ (fun k => if p k = true then g k else 0) (k + 1) = ns_ (fun k => if p k = true then g k else 0) k + g k := by
  show ns_ _ k + (if p k = true then g k else 0) = _
  rw [if_pos h]
set_option maxRecDepth 100000 in
set_option maxHeartbeats 4000000 in
theorem c_X8_meanWidthBits {PL : List (Nat × Nat)} {V : Mm_} {s : Sg_} (h : RT_ (V 0 34) s) {n : Nat} (hm : V 0 33 0 = nI n) (hn1 : 2 ≤ n) (hn8 : n ≤ 8) (hF : FF_) (hik : IK_ s) : Cp_ PL mX8_meanWidthBits [vR 0 33] V (if c2_ (px_ (du_ s (V 0 37 6) n)) n n = 0 then -4 else (vm_ (n2_ (wx_ (dl_ s (V 0 37 6) n) (du_ s (V 0 37 6) n)) n n) (c2_ (px_ (du_ s (V 0 37 6) n)) n n)).toInt32) := by
  refine Ca_.of mv_X8_meanWidthBits.2.2.2.2.2.2 5 (lo := [some (vR 0 33), none, none, none, none, none]) rfl (Nat.le_of_ble_eq_true rfl) ?_
  have hneg : ∀ a b, a < n → b < n → (decide (¬ du_ s (V 0 37 6) n a b < 0)) = decide (¬ du_ s (V 0 37 6) n a b = -1) := fun a b ha hb => by
      refine decide_eq_decide.mpr ?_
      rw [du_0 (du_b (inf := V 0 37 6) (n := n) h.iv (show a < 8 by omega) (show b < 8 by omega) hn8)]
  have hr1 : cnt_ (fun k => decide (pr_ok (nI n) (nI (k / 8)) (nI (k % 8))) && decide (¬ (du_ s (V 0 37 6) n (k / 8) (k % 8)) < 0)) 64 = c2_ (px_ (du_ s (V 0 37 6) n)) n n := by
      refine cnt_64 hn8 (fun k hk => ?_)
      rw [pr_dec hn8 (by omega) (by omega)]
      unfold px_
      by_cases z1 : k / 8 < n
      · by_cases z2 : k % 8 < n
        · rw [hneg _ _ z1 z2]
        · rw [decide_eq_false z2, Bool.false_and, Bool.false_and]
      · rw [decide_eq_false z1, Bool.false_and, Bool.false_and]
  have hr2 : ns_ (fun k => if (decide (pr_ok (nI n) (nI (k / 8)) (nI (k % 8))) && decide (¬ (du_ s (V 0 37 6) n (k / 8) (k % 8)) < 0)) = true then ((du_ s (V 0 37 6) n (k / 8) (k % 8)) - (dl_ s (V 0 37 6) n (k / 8) (k % 8))).toNatClampNeg else 0) 64 = n2_ (wx_ (dl_ s (V 0 37 6) n) (du_ s (V 0 37 6) n)) n n := by
      refine ns_64 (w := fun a b => if (decide (pr_ok (nI n) (nI a) (nI b)) && decide (¬ du_ s (V 0 37 6) n a b < 0)) = true then (du_ s (V 0 37 6) n a b - dl_ s (V 0 37 6) n a b).toNatClampNeg else 0) hn8 (fun k hk => rfl) (fun a b ha hb => ?_) (fun a b ha hb hab => ?_)
      · show (if _ then _ else _) = _
        rw [pr_dec hn8 (by omega) (by omega), hneg a b ha hb, decide_eq_true ha, decide_eq_true hb, Bool.true_and, Bool.true_and]
        rfl
      · show (if _ then _ else _) = _
        rw [if_neg]
        intro z
        rw [Bool.and_eq_true] at z
        have := (pr_nat hn8 ha hb).mp (of_decide_eq_true z.1)
        omega
  have hSb := wx_b (inf := V 0 37 6) hik hn8
  refine r_iconst (pc2 := 1) (nI 0) dX8_meanWidthBits_0 (by decide) rfl ?_
  refine r_istore_n (pc2 := 2) dX8_meanWidthBits_1 (by decide) rfl rfl ?_
  refine r_iconst (pc2 := 3) (nI 0) dX8_meanWidthBits_2 (by decide) rfl ?_
  refine r_istore_n (pc2 := 4) dX8_meanWidthBits_3 (by decide) rfl rfl ?_
  refine r_iconst (pc2 := 5) (nI 0) dX8_meanWidthBits_4 (by decide) rfl ?_
  refine r_istore_n (pc2 := 6) dX8_meanWidthBits_5 (by decide) rfl rfl ?_
  refine Rc_.to (V' := (fun _ => V) 0) (lo' := (fun k : Nat => [some (vR 0 33), some (vI (nI ((ns_ (fun k => if (decide (pr_ok (nI n) (nI (k / 8)) (nI (k % 8))) && decide (¬ (du_ s (V 0 37 6) n (k / 8) (k % 8)) < 0)) = true then ((du_ s (V 0 37 6) n (k / 8) (k % 8)) - (dl_ s (V 0 37 6) n (k / 8) (k % 8))).toNatClampNeg else 0) k)))), some (vI (nI ((cnt_ (fun k => decide (pr_ok (nI n) (nI (k / 8)) (nI (k % 8))) && decide (¬ (du_ s (V 0 37 6) n (k / 8) (k % 8)) < 0)) k)))), some (vI (nI k)), none, none]) 0) (rfl) ⟨rfl, rfl, rfl, rfl, trivial⟩ ?_
  refine Rc_for 0 (64) (fun k : Nat => [some (vR 0 33), some (vI (nI ((ns_ (fun k => if (decide (pr_ok (nI n) (nI (k / 8)) (nI (k % 8))) && decide (¬ (du_ s (V 0 37 6) n (k / 8) (k % 8)) < 0)) = true then ((du_ s (V 0 37 6) n (k / 8) (k % 8)) - (dl_ s (V 0 37 6) n (k / 8) (k % 8))).toNatClampNeg else 0) k)))), some (vI (nI ((cnt_ (fun k => decide (pr_ok (nI n) (nI (k / 8)) (nI (k % 8))) && decide (¬ (du_ s (V 0 37 6) n (k / 8) (k % 8)) < 0)) k)))), some (vI (nI k)), none, none]) (fun _ => V) (by omega) (fun k hk0 hkN ih6 => ?_)
  refine r_iload_n (pc2 := 7) dX8_meanWidthBits_6 rfl rfl ?_
  refine r_bipush (pc2 := 9) (nI 64) dX8_meanWidthBits_7 (by decide) rfl ?_
  refine r_icN_ge (pc2 := 12) (tgt := 78) (by omega) (by omega) dX8_meanWidthBits_9 (by decide) rfl (fun c9 => ?_) (fun c9 => ?_)
  · skip
    have en : k = 64 := by omega
    have hc64 := cnt_le (fun k => decide (pr_ok (nI n) (nI (k / 8)) (nI (k % 8))) && decide (¬ (du_ s (V 0 37 6) n (k / 8) (k % 8)) < 0)) k
    rw [← en] at hr1 hr2
    refine r_iload_n (pc2 := 79) dX8_meanWidthBits_78 rfl rfl ?_
    refine r_if0N_ne (pc2 := 82) (tgt := 87) (by omega) dX8_meanWidthBits_79 (by decide) rfl (fun c79 => ?_) (fun c79 => ?_)
    · skip
      refine r_iload_n (pc2 := 88) dX8_meanWidthBits_87 rfl rfl ?_
      refine r_i2f (pc2 := 89) dX8_meanWidthBits_88 rfl ?_
      refine r_iload_n (pc2 := 90) dX8_meanWidthBits_89 rfl rfl ?_
      refine r_i2f (pc2 := 91) dX8_meanWidthBits_90 rfl ?_
      refine r_fdiv (pc2 := 92) dX8_meanWidthBits_91 ((hF.1 _ _ (by omega) (by omega) (by omega)).1) rfl ?_
      refine r_cs1p (pc2 := 95) dX8_meanWidthBits_92 st_X8_meanWidthBits_148 (Nat.le_of_ble_eq_true rfl) rfl (c_f2ib (hF.1 _ _ (by omega) (by omega) (by omega)).2.1) ?_
      exact r_iret dX8_meanWidthBits_95 rfl (⟨by rw [← hr1, ← hr2]; exact (if_neg c79).symm, rfl⟩)
    · skip
      refine r_bipush (pc2 := 84) (-4) dX8_meanWidthBits_82 (by decide) rfl ?_
      refine r_goto (pc2 := 95) dX8_meanWidthBits_84 (by decide) ?_
      exact r_iret dX8_meanWidthBits_95 rfl (⟨by rw [← hr1, ← hr2]; exact (if_pos c79).symm, rfl⟩)
  · skip
    refine r_iload_n (pc2 := 13) dX8_meanWidthBits_12 rfl rfl ?_
    refine r_bipush (pc2 := 15) (nI 8) dX8_meanWidthBits_13 (by decide) rfl ?_
    refine r_idivN (pc2 := 16) (by omega) (by omega) (by omega) dX8_meanWidthBits_15 rfl ?_
    refine r_istore (pc2 := 18) dX8_meanWidthBits_16 (by decide) rfl rfl ?_
    refine r_iload_n (pc2 := 19) dX8_meanWidthBits_18 rfl rfl ?_
    refine r_bipush (pc2 := 21) (nI 8) dX8_meanWidthBits_19 (by decide) rfl ?_
    refine r_iremN (pc2 := 22) (by omega) (by omega) (by omega) dX8_meanWidthBits_21 rfl ?_
    refine r_istore (pc2 := 24) dX8_meanWidthBits_22 (by decide) rfl rfl ?_
    refine r_aload_n (pc2 := 25) dX8_meanWidthBits_24 rfl rfl ?_
    refine r_iload (pc2 := 27) dX8_meanWidthBits_25 rfl rfl ?_
    refine r_iload (pc2 := 29) dX8_meanWidthBits_27 rfl rfl ?_
    refine r_cv2p (pc2 := 32) dX8_meanWidthBits_29 st_X8_meanWidthBits_74 rl_X8_arePair (Nat.le_of_ble_eq_true rfl) rfl (c_X8_arePair hm hn1 hn8) ?_
    refine r_ifB_eq (pc2 := 35) (tgt := 72) dX8_meanWidthBits_32 (by decide) rfl (fun c32 => ?_) (fun c32 => ?_)
    · skip
      refine r_iincN (pc2 := 75) dX8_meanWidthBits_72 rfl (by decide) rfl rfl ?_
      refine r_goto (pc2 := 6) dX8_meanWidthBits_75 (by decide) ?_
      exact Rc_.to (lo' := (fun k : Nat => [some (vR 0 33), some (vI (nI ((ns_ (fun k => if (decide (pr_ok (nI n) (nI (k / 8)) (nI (k % 8))) && decide (¬ (du_ s (V 0 37 6) n (k / 8) (k % 8)) < 0)) = true then ((du_ s (V 0 37 6) n (k / 8) (k % 8)) - (dl_ s (V 0 37 6) n (k / 8) (k % 8))).toNatClampNeg else 0) k)))), some (vI (nI ((cnt_ (fun k => decide (pr_ok (nI n) (nI (k / 8)) (nI (k % 8))) && decide (¬ (du_ s (V 0 37 6) n (k / 8) (k % 8)) < 0)) k)))), some (vI (nI k)), none, none]) (k + 1)) (rfl) ⟨rfl, (congrArg (fun z => some (vI (nI z))) (ns_if0 (by rw [c32]; rfl))), (congrArg (fun z => some (vI (nI z))) (cnt_f (by show (_ && _) = false; rw [c32]; rfl))), rfl, trivial⟩ (ih6 (by omega))
    · skip
      refine r_aload_n (pc2 := 36) dX8_meanWidthBits_35 rfl rfl ?_
      refine r_iload (pc2 := 38) dX8_meanWidthBits_36 rfl rfl ?_
      refine r_iload (pc2 := 40) dX8_meanWidthBits_38 rfl rfl ?_
      refine r_iconst (pc2 := 41) (nI 2) dX8_meanWidthBits_40 (by decide) rfl ?_
      refine r_cv3p (pc2 := 44) dX8_meanWidthBits_41 st_X8_meanWidthBits_104 rl_X8_boundOf (Nat.le_of_ble_eq_true rfl) rfl (c_X8_boundOf2 h hm hn8 (by omega) (by omega)) ?_
      refine r_if_lt (pc2 := 47) (tgt := 72) dX8_meanWidthBits_44 (by decide) rfl (fun c44 => ?_) (fun c44 => ?_)
      · skip
        refine r_iincN (pc2 := 75) dX8_meanWidthBits_72 rfl (by decide) rfl rfl ?_
        refine r_goto (pc2 := 6) dX8_meanWidthBits_75 (by decide) ?_
        exact Rc_.to (lo' := (fun k : Nat => [some (vR 0 33), some (vI (nI ((ns_ (fun k => if (decide (pr_ok (nI n) (nI (k / 8)) (nI (k % 8))) && decide (¬ (du_ s (V 0 37 6) n (k / 8) (k % 8)) < 0)) = true then ((du_ s (V 0 37 6) n (k / 8) (k % 8)) - (dl_ s (V 0 37 6) n (k / 8) (k % 8))).toNatClampNeg else 0) k)))), some (vI (nI ((cnt_ (fun k => decide (pr_ok (nI n) (nI (k / 8)) (nI (k % 8))) && decide (¬ (du_ s (V 0 37 6) n (k / 8) (k % 8)) < 0)) k)))), some (vI (nI k)), none, none]) (k + 1)) (rfl) ⟨rfl, (congrArg (fun z => some (vI (nI z))) (ns_if0 (by rw [c32, decide_eq_false (fun z => z c44)]; rfl))), (congrArg (fun z => some (vI (nI z))) (cnt_f (by show (_ && _) = false; rw [c32, decide_eq_false (fun z => z c44)]; rfl))), rfl, trivial⟩ (ih6 (by omega))
      · skip
        have hpr := (pr_nat hn8 (show k / 8 < 8 by omega) (show k % 8 < 8 by omega)).mp (of_decide_eq_true c32)
        have hnn := (wd_ok (inf := V 0 37 6) hik (show k / 8 < 8 by omega) (show k % 8 < 8 by omega) hn8 (of_decide_eq_true ((hneg _ _ hpr.1 hpr.2.1).symm.trans (decide_eq_true c44)))).1
        refine r_iload_n (pc2 := 48) dX8_meanWidthBits_47 rfl rfl ?_
        refine r_aload_n (pc2 := 49) dX8_meanWidthBits_48 rfl rfl ?_
        refine r_iload (pc2 := 51) dX8_meanWidthBits_49 rfl rfl ?_
        refine r_iload (pc2 := 53) dX8_meanWidthBits_51 rfl rfl ?_
        refine r_iconst (pc2 := 54) (nI 2) dX8_meanWidthBits_53 (by decide) rfl ?_
        refine r_cv3p (pc2 := 57) dX8_meanWidthBits_54 st_X8_meanWidthBits_104 rl_X8_boundOf (Nat.le_of_ble_eq_true rfl) rfl (c_X8_boundOf2 h hm hn8 (by omega) (by omega)) ?_
        refine r_aload_n (pc2 := 58) dX8_meanWidthBits_57 rfl rfl ?_
        refine r_iload (pc2 := 60) dX8_meanWidthBits_58 rfl rfl ?_
        refine r_iload (pc2 := 62) dX8_meanWidthBits_60 rfl rfl ?_
        refine r_iconst (pc2 := 63) (nI 1) dX8_meanWidthBits_62 (by decide) rfl ?_
        refine r_cv3p (pc2 := 66) dX8_meanWidthBits_63 st_X8_meanWidthBits_104 rl_X8_boundOf (Nat.le_of_ble_eq_true rfl) rfl (c_X8_boundOf1 h hm hn8 (by omega) (by omega)) ?_
        refine r_isub (pc2 := 67) dX8_meanWidthBits_66 rfl ?_
        refine r_as (x' := (nI (((du_ s (V 0 37 6) n (k / 8) (k % 8)) - (dl_ s (V 0 37 6) n (k / 8) (k % 8))).toNatClampNeg))) (nn_cl hnn) ?_
        refine r_iaddN (pc2 := 68) dX8_meanWidthBits_67 rfl ?_
        refine r_istore_n (pc2 := 69) dX8_meanWidthBits_68 (by decide) rfl rfl ?_
        refine r_iincN (pc2 := 72) dX8_meanWidthBits_69 rfl (by decide) rfl rfl ?_
        refine r_iincN (pc2 := 75) dX8_meanWidthBits_72 rfl (by decide) rfl rfl ?_
        refine r_goto (pc2 := 6) dX8_meanWidthBits_75 (by decide) ?_
        exact Rc_.to (lo' := (fun k : Nat => [some (vR 0 33), some (vI (nI ((ns_ (fun k => if (decide (pr_ok (nI n) (nI (k / 8)) (nI (k % 8))) && decide (¬ (du_ s (V 0 37 6) n (k / 8) (k % 8)) < 0)) = true then ((du_ s (V 0 37 6) n (k / 8) (k % 8)) - (dl_ s (V 0 37 6) n (k / 8) (k % 8))).toNatClampNeg else 0) k)))), some (vI (nI ((cnt_ (fun k => decide (pr_ok (nI n) (nI (k / 8)) (nI (k % 8))) && decide (¬ (du_ s (V 0 37 6) n (k / 8) (k % 8)) < 0)) k)))), some (vI (nI k)), none, none]) (k + 1)) (rfl) ⟨rfl, (congrArg (fun z => some (vI (nI z))) (ns_if1 (by rw [c32, decide_eq_true c44]; rfl))), (congrArg (fun z => some (vI (nI z))) (cnt_t (by show (_ && _) = true; rw [c32, decide_eq_true c44]; rfl))), rfl, trivial⟩ (ih6 (by omega))

theorem cs_meanWidthBits {PL : List (Nat × Nat)} {V : Mm_} {n u : Nat} (hF : FF_) (hu : u < 512) (hL : LV_ V n u) : Cs_ PL mX7_meanWidthBits mX8_meanWidthBits [] V u := by
  obtain ⟨h1, hn8, h33, h37, hse, hlh, ⟨hn, hRT, hRS, ⟨m, hRJ, hm⟩, ⟨t, ht, ht5⟩, hc, hw⟩, bs, hb1, hb2, hb3⟩ := id hL
  refine Cs_.q (Q := fun x => x = if c2_ (px_ (du_ (V 1) (V 0 19 6) n)) n n = 0 then -4 else (vm_ (n2_ (wx_ (dl_ (V 1) (V 0 19 6) n) (du_ (V 1) (V 0 19 6) n)) n n) (c2_ (px_ (du_ (V 1) (V 0 19 6) n)) n n)).toInt32) hL (c_X7_meanWidthBits hn hn8 hF ⟨hRT.iv, hw⟩) (fun V1 hf => ?_) (fun x x2 h1 h2 => h2.trans h1.symm)
  have L1 := hL.fm hf
  obtain ⟨-, -, g33, g37, gse, glh, ⟨gn, gRT, gRS, -, -, -, gw⟩, -⟩ := id L1
  have e37 : V1 0 37 = V 0 19 := by rw [hf.2.2 37 (by omega)]; exact h37
  have es : V1 1 = V 1 := hf.1
  rw [es] at gRT gw
  have e8 := c_X8_meanWidthBits (PL := PL) gRT g33 h1 hn8 hF ⟨gRT.iv, gw⟩
  rw [e37] at e8
  exact cp_rf e8
