/-! reference: the true distances: written by wip/whole/m30.py -/
def wi_ (s : Sg_) (k : Nat) : Int32 := if k / 8 = k % 8 then nI 0 else if s 5 k = nI 1 then s 4 k else -1
def r1_ (m a b : Nat) (W : Nat → Int32) : Nat → Int32 := upd W (8 * a + b) (if 0 ≤ W (8 * a + m) ∧ 0 ≤ W (8 * m + b) ∧ (W (8 * a + b) < 0 ∨ W (8 * a + m) + W (8 * m + b) < W (8 * a + b)) then W (8 * a + m) + W (8 * m + b) else W (8 * a + b))
def rh_ (n m : Nat) (W : Nat → Int32) : Nat → Int32 := it_ (fun a W => it_ (fun b W => r1_ m a b W) n W) n W
def mr_ (s : Sg_) (n : Nat) (W : Nat → Int32) : Nat → Int32 := it_ (fun m W => rh_ n m W) n (fr_ (wi_ s) W 64)
theorem RT_.a44 {V : Mm_} {s : Sg_} {r : Nat} {f : Nat → Int32} (h : RT_ (V 0 34) s) (hr : ¬ r = 34) : RT_ (a_set V 0 r f 0 34) s := by rw [a_ne (fun z => hr z.2.symm)]; exact h
set_option maxRecDepth 100000 in
set_option maxHeartbeats 4000000 in
theorem c_X8_measures {PL : List (Nat × Nat)} {V : Mm_} {s : Sg_} (h : RT_ (V 0 34) s) {n : Nat} (hm : V 0 33 0 = nI n) (hn8 : n ≤ 8) : Cm_ PL mX8_measures [vR 0 33] V (a_set V 0 44 (mr_ s n (V 0 44))) := by
  refine Ca_.of mv_X8_measures.2.2.2.2.2.2 7 (lo := [some (vR 0 33), none, none, none, none, none, none, none]) rfl (Nat.le_of_ble_eq_true rfl) ?_
  refine r_iconst (pc2 := 1) (nI 0) dX8_measures_0 (by decide) rfl ?_
  refine r_istore_n (pc2 := 2) dX8_measures_1 (by decide) rfl rfl ?_
  refine Rc_.to (V' := (fun k : Nat => a_set V 0 44 (fr_ (wi_ s) (V 0 44) k)) 0) (lo' := (fun k : Nat => [some (vR 0 33), some (vI (nI k)), none, none, none, none, none, none]) 0) (cp_0.symm) ⟨rfl, rfl, trivial⟩ ?_
  refine Rc_for 0 (64) (fun k : Nat => [some (vR 0 33), some (vI (nI k)), none, none, none, none, none, none]) (fun k : Nat => a_set V 0 44 (fr_ (wi_ s) (V 0 44) k)) (by omega) (fun k hk0 hkN ih2 => ?_)
  have ek : k / 8 * 8 + k % 8 = k := by omega
  refine r_iload_n (pc2 := 3) dX8_measures_2 rfl rfl ?_
  refine r_bipush (pc2 := 5) (nI 64) dX8_measures_3 (by decide) rfl ?_
  refine r_icN_ge (pc2 := 8) (tgt := 63) (by omega) (by omega) dX8_measures_5 (by decide) rfl (fun c5 => ?_) (fun c5 => ?_)
  · skip
    refine r_iconst (pc2 := 64) (nI 0) dX8_measures_63 (by decide) rfl ?_
    refine r_istore_n (pc2 := 65) dX8_measures_64 (by decide) rfl rfl ?_
    refine Rc_.to (V' := (fun m : Nat => a_set V 0 44 (it_ (fun m W => rh_ n m W) m (fr_ (wi_ s) (V 0 44) 64))) 0) (lo' := (fun m : Nat => [some (vR 0 33), some (vI (nI m)), none, none, none, none, none, none]) 0) (by rw [show k = 64 by omega]; rfl) ⟨rfl, rfl, trivial⟩ ?_
    refine Rc_for 0 (n) (fun m : Nat => [some (vR 0 33), some (vI (nI m)), none, none, none, none, none, none]) (fun m : Nat => a_set V 0 44 (it_ (fun m W => rh_ n m W) m (fr_ (wi_ s) (V 0 44) 64))) (by omega) (fun m hm0 hmN ih65 => ?_)
    refine r_iload_n (pc2 := 66) dX8_measures_65 rfl rfl ?_
    refine r_aload_n (pc2 := 67) dX8_measures_66 rfl rfl ?_
    refine r_getIe (pc2 := 70) (x := (nI n)) (by rw [a_ne (by decide)]; exact hm) dX8_measures_67 fl_X8_7 (by decide) rfl rfl rfl ?_
    refine r_icN_ge (pc2 := 73) (tgt := 208) (by omega) (by omega) dX8_measures_70 (by decide) rfl (fun c70 => ?_) (fun c70 => ?_)
    · skip
      exact r_vret dX8_measures_208 rfl (by rw [show m = n by omega]; rfl)
    · skip
      refine r_iconst (pc2 := 74) (nI 0) dX8_measures_73 (by decide) rfl ?_
      refine r_istore_n (pc2 := 75) dX8_measures_74 (by decide) rfl rfl ?_
      refine Rc_.to (V' := (fun a : Nat => a_set V 0 44 (it_ (fun a W => it_ (fun b W => r1_ m a b W) n W) a (it_ (fun m W => rh_ n m W) m (fr_ (wi_ s) (V 0 44) 64)))) 0) (lo' := (fun a : Nat => [some (vR 0 33), some (vI (nI m)), some (vI (nI a)), none, none, none, none, none]) 0) (rfl) ⟨rfl, rfl, rfl, trivial⟩ ?_
      refine Rc_for 0 (n) (fun a : Nat => [some (vR 0 33), some (vI (nI m)), some (vI (nI a)), none, none, none, none, none]) (fun a : Nat => a_set V 0 44 (it_ (fun a W => it_ (fun b W => r1_ m a b W) n W) a (it_ (fun m W => rh_ n m W) m (fr_ (wi_ s) (V 0 44) 64)))) (by omega) (fun a ha0 haN ih75 => ?_)
      refine r_iload_n (pc2 := 76) dX8_measures_75 rfl rfl ?_
      refine r_aload_n (pc2 := 77) dX8_measures_76 rfl rfl ?_
      refine r_getIe (pc2 := 80) (x := (nI n)) (by rw [a_ne (by decide)]; exact hm) dX8_measures_77 fl_X8_7 (by decide) rfl rfl rfl ?_
      refine r_icN_ge (pc2 := 83) (tgt := 202) (by omega) (by omega) dX8_measures_80 (by decide) rfl (fun c80 => ?_) (fun c80 => ?_)
      · skip
        refine r_iincN (pc2 := 205) dX8_measures_202 rfl (by decide) rfl rfl ?_
        refine r_goto (pc2 := 65) dX8_measures_205 (by decide) ?_
        exact Rc_.to (lo' := (fun m : Nat => [some (vR 0 33), some (vI (nI m)), none, none, none, none, none, none]) (m + 1)) (by rw [show a = n by omega]; rfl) ⟨rfl, rfl, trivial⟩ (ih65 (by omega))
      · skip
        refine r_iconst (pc2 := 84) (nI 0) dX8_measures_83 (by decide) rfl ?_
        refine r_istore_n (pc2 := 85) dX8_measures_84 (by decide) rfl rfl ?_
        refine Rc_.to (V' := (fun b : Nat => a_set V 0 44 (it_ (fun b W => r1_ m a b W) b (it_ (fun a W => it_ (fun b W => r1_ m a b W) n W) a (it_ (fun m W => rh_ n m W) m (fr_ (wi_ s) (V 0 44) 64))))) 0) (lo' := (fun b : Nat => [some (vR 0 33), some (vI (nI m)), some (vI (nI a)), some (vI (nI b)), none, none, none, none]) 0) (rfl) ⟨rfl, rfl, rfl, rfl, trivial⟩ ?_
        refine Rc_for 0 (n) (fun b : Nat => [some (vR 0 33), some (vI (nI m)), some (vI (nI a)), some (vI (nI b)), none, none, none, none]) (fun b : Nat => a_set V 0 44 (it_ (fun b W => r1_ m a b W) b (it_ (fun a W => it_ (fun b W => r1_ m a b W) n W) a (it_ (fun m W => rh_ n m W) m (fr_ (wi_ s) (V 0 44) 64))))) (by omega) (fun b hb0 hbN ih85 => ?_)
        refine r_iload_n (pc2 := 86) dX8_measures_85 rfl rfl ?_
        refine r_aload_n (pc2 := 87) dX8_measures_86 rfl rfl ?_
        refine r_getIe (pc2 := 90) (x := (nI n)) (by rw [a_ne (by decide)]; exact hm) dX8_measures_87 fl_X8_7 (by decide) rfl rfl rfl ?_
        refine r_icN_ge (pc2 := 93) (tgt := 196) (by omega) (by omega) dX8_measures_90 (by decide) rfl (fun c90 => ?_) (fun c90 => ?_)
        · skip
          refine r_iincN (pc2 := 199) dX8_measures_196 rfl (by decide) rfl rfl ?_
          refine r_goto (pc2 := 75) dX8_measures_199 (by decide) ?_
          exact Rc_.to (lo' := (fun a : Nat => [some (vR 0 33), some (vI (nI m)), some (vI (nI a)), none, none, none, none, none]) (a + 1)) (by rw [show b = n by omega]; rfl) ⟨rfl, rfl, rfl, trivial⟩ (ih75 (by omega))
        · skip
          refine r_aload_n (pc2 := 94) dX8_measures_93 rfl rfl ?_
          refine r_getR (pc2 := 97) dX8_measures_94 fl_X8_45 (by decide) rfl rfl rfl ?_
          refine r_bipush (pc2 := 99) (nI 8) dX8_measures_97 (by decide) rfl ?_
          refine r_iload_n (pc2 := 100) dX8_measures_99 rfl rfl ?_
          refine r_imulN (pc2 := 101) dX8_measures_100 rfl ?_
          refine r_iload_n (pc2 := 102) dX8_measures_101 rfl rfl ?_
          refine r_iaddN (pc2 := 103) dX8_measures_102 rfl ?_
          refine r_ialde (pc2 := 104) (x := (((it_ (fun b W => r1_ m a b W) b (it_ (fun a W => it_ (fun b W => r1_ m a b W) n W) a (it_ (fun m W => rh_ n m W) m (fr_ (wi_ s) (V 0 44) 64)))) (8 * a + m)))) (j := _) (by rw [a_same]) dX8_measures_103 (by decide) rfl rfl (rfl) (by show _ < 64; omega) rfl ?_
          refine r_istore (pc2 := 106) dX8_measures_104 (by decide) rfl rfl ?_
          refine r_aload_n (pc2 := 107) dX8_measures_106 rfl rfl ?_
          refine r_getR (pc2 := 110) dX8_measures_107 fl_X8_45 (by decide) rfl rfl rfl ?_
          refine r_bipush (pc2 := 112) (nI 8) dX8_measures_110 (by decide) rfl ?_
          refine r_iload_n (pc2 := 113) dX8_measures_112 rfl rfl ?_
          refine r_imulN (pc2 := 114) dX8_measures_113 rfl ?_
          refine r_iload_n (pc2 := 115) dX8_measures_114 rfl rfl ?_
          refine r_iaddN (pc2 := 116) dX8_measures_115 rfl ?_
          refine r_ialde (pc2 := 117) (x := (((it_ (fun b W => r1_ m a b W) b (it_ (fun a W => it_ (fun b W => r1_ m a b W) n W) a (it_ (fun m W => rh_ n m W) m (fr_ (wi_ s) (V 0 44) 64)))) (8 * m + b)))) (j := _) (by rw [a_same]) dX8_measures_116 (by decide) rfl rfl (rfl) (by show _ < 64; omega) rfl ?_
          refine r_istore (pc2 := 119) dX8_measures_117 (by decide) rfl rfl ?_
          refine r_aload_n (pc2 := 120) dX8_measures_119 rfl rfl ?_
          refine r_getR (pc2 := 123) dX8_measures_120 fl_X8_45 (by decide) rfl rfl rfl ?_
          refine r_bipush (pc2 := 125) (nI 8) dX8_measures_123 (by decide) rfl ?_
          refine r_iload_n (pc2 := 126) dX8_measures_125 rfl rfl ?_
          refine r_imulN (pc2 := 127) dX8_measures_126 rfl ?_
          refine r_iload_n (pc2 := 128) dX8_measures_127 rfl rfl ?_
          refine r_iaddN (pc2 := 129) dX8_measures_128 rfl ?_
          refine r_ialde (pc2 := 130) (x := (((it_ (fun b W => r1_ m a b W) b (it_ (fun a W => it_ (fun b W => r1_ m a b W) n W) a (it_ (fun m W => rh_ n m W) m (fr_ (wi_ s) (V 0 44) 64)))) (8 * a + b)))) (j := _) (by rw [a_same]) dX8_measures_129 (by decide) rfl rfl (rfl) (by show _ < 64; omega) rfl ?_
          refine r_istore (pc2 := 132) dX8_measures_130 (by decide) rfl rfl ?_
          refine r_iload (pc2 := 134) dX8_measures_132 rfl rfl ?_
          refine r_if_lt (pc2 := 137) (tgt := 161) dX8_measures_134 (by decide) rfl (fun c134 => ?_) (fun c134 => ?_)
          · skip
            refine r_iconst (pc2 := 162) (nI 0) dX8_measures_161 (by decide) rfl ?_
            refine r_istore (pc2 := 164) dX8_measures_162 (by decide) rfl rfl ?_
            refine r_aload_n (pc2 := 165) dX8_measures_164 rfl rfl ?_
            refine r_getR (pc2 := 168) dX8_measures_165 fl_X8_45 (by decide) rfl rfl rfl ?_
            refine r_bipush (pc2 := 170) (nI 8) dX8_measures_168 (by decide) rfl ?_
            refine r_iload_n (pc2 := 171) dX8_measures_170 rfl rfl ?_
            refine r_imulN (pc2 := 172) dX8_measures_171 rfl ?_
            refine r_iload_n (pc2 := 173) dX8_measures_172 rfl rfl ?_
            refine r_iaddN (pc2 := 174) dX8_measures_173 rfl ?_
            refine r_iload (pc2 := 176) dX8_measures_174 rfl rfl ?_
            refine r_if0N_eq (pc2 := 179) (tgt := 187) (by omega) dX8_measures_176 (by decide) rfl (fun c176 => ?_) (fun c176 => ?_)
            · skip
              refine r_iload (pc2 := 189) dX8_measures_187 rfl rfl ?_
              refine r_iast (pc2 := 190) (j := _) dX8_measures_189 (by decide) rfl rfl (rfl) (by show _ < 64; omega) rfl ?_
              refine r_iincN (pc2 := 193) dX8_measures_190 rfl (by decide) rfl rfl ?_
              refine r_goto (pc2 := 85) dX8_measures_193 (by decide) ?_
              exact Rc_.to (lo' := (fun b : Nat => [some (vR 0 33), some (vI (nI m)), some (vI (nI a)), some (vI (nI b)), none, none, none, none]) (b + 1)) (by show m_set _ _ _ _ _ = _; unfold m_set; rw [a_twice, a_same]; refine congrArg (fun z => a_set V 0 44 (upd _ _ z)) ?_; exact (if_neg (fun z => absurd c134 (Int32.not_lt.mpr z.1))).symm) ⟨rfl, rfl, rfl, rfl, trivial⟩ (ih85 (by omega))
            · skip
              exact absurd rfl c176
          · skip
            refine r_iload (pc2 := 139) dX8_measures_137 rfl rfl ?_
            refine r_if_lt (pc2 := 142) (tgt := 161) dX8_measures_139 (by decide) rfl (fun c139 => ?_) (fun c139 => ?_)
            · skip
              refine r_iconst (pc2 := 162) (nI 0) dX8_measures_161 (by decide) rfl ?_
              refine r_istore (pc2 := 164) dX8_measures_162 (by decide) rfl rfl ?_
              refine r_aload_n (pc2 := 165) dX8_measures_164 rfl rfl ?_
              refine r_getR (pc2 := 168) dX8_measures_165 fl_X8_45 (by decide) rfl rfl rfl ?_
              refine r_bipush (pc2 := 170) (nI 8) dX8_measures_168 (by decide) rfl ?_
              refine r_iload_n (pc2 := 171) dX8_measures_170 rfl rfl ?_
              refine r_imulN (pc2 := 172) dX8_measures_171 rfl ?_
              refine r_iload_n (pc2 := 173) dX8_measures_172 rfl rfl ?_
              refine r_iaddN (pc2 := 174) dX8_measures_173 rfl ?_
              refine r_iload (pc2 := 176) dX8_measures_174 rfl rfl ?_
              refine r_if0N_eq (pc2 := 179) (tgt := 187) (by omega) dX8_measures_176 (by decide) rfl (fun c176 => ?_) (fun c176 => ?_)
              · skip
                refine r_iload (pc2 := 189) dX8_measures_187 rfl rfl ?_
                refine r_iast (pc2 := 190) (j := _) dX8_measures_189 (by decide) rfl rfl (rfl) (by show _ < 64; omega) rfl ?_
                refine r_iincN (pc2 := 193) dX8_measures_190 rfl (by decide) rfl rfl ?_
                refine r_goto (pc2 := 85) dX8_measures_193 (by decide) ?_
                exact Rc_.to (lo' := (fun b : Nat => [some (vR 0 33), some (vI (nI m)), some (vI (nI a)), some (vI (nI b)), none, none, none, none]) (b + 1)) (by show m_set _ _ _ _ _ = _; unfold m_set; rw [a_twice, a_same]; refine congrArg (fun z => a_set V 0 44 (upd _ _ z)) ?_; exact (if_neg (fun z => absurd c139 (Int32.not_lt.mpr z.2.1))).symm) ⟨rfl, rfl, rfl, rfl, trivial⟩ (ih85 (by omega))
              · skip
                exact absurd rfl c176
            · skip
              refine r_iload (pc2 := 144) dX8_measures_142 rfl rfl ?_
              refine r_if_lt (pc2 := 147) (tgt := 157) dX8_measures_144 (by decide) rfl (fun c144 => ?_) (fun c144 => ?_)
              · skip
                refine r_iconst (pc2 := 158) (nI 1) dX8_measures_157 (by decide) rfl ?_
                refine r_goto (pc2 := 162) dX8_measures_158 (by decide) ?_
                refine r_istore (pc2 := 164) dX8_measures_162 (by decide) rfl rfl ?_
                refine r_aload_n (pc2 := 165) dX8_measures_164 rfl rfl ?_
                refine r_getR (pc2 := 168) dX8_measures_165 fl_X8_45 (by decide) rfl rfl rfl ?_
                refine r_bipush (pc2 := 170) (nI 8) dX8_measures_168 (by decide) rfl ?_
                refine r_iload_n (pc2 := 171) dX8_measures_170 rfl rfl ?_
                refine r_imulN (pc2 := 172) dX8_measures_171 rfl ?_
                refine r_iload_n (pc2 := 173) dX8_measures_172 rfl rfl ?_
                refine r_iaddN (pc2 := 174) dX8_measures_173 rfl ?_
                refine r_iload (pc2 := 176) dX8_measures_174 rfl rfl ?_
                refine r_if0N_eq (pc2 := 179) (tgt := 187) (by omega) dX8_measures_176 (by decide) rfl (fun c176 => ?_) (fun c176 => ?_)
                · skip
                  exact absurd c176 (by decide)
                · skip
                  refine r_iload (pc2 := 181) dX8_measures_179 rfl rfl ?_
                  refine r_iload (pc2 := 183) dX8_measures_181 rfl rfl ?_
                  refine r_iadd (pc2 := 184) dX8_measures_183 rfl ?_
                  refine r_goto (pc2 := 189) dX8_measures_184 (by decide) ?_
                  refine r_iast (pc2 := 190) (j := _) dX8_measures_189 (by decide) rfl rfl (rfl) (by show _ < 64; omega) rfl ?_
                  refine r_iincN (pc2 := 193) dX8_measures_190 rfl (by decide) rfl rfl ?_
                  refine r_goto (pc2 := 85) dX8_measures_193 (by decide) ?_
                  exact Rc_.to (lo' := (fun b : Nat => [some (vR 0 33), some (vI (nI m)), some (vI (nI a)), some (vI (nI b)), none, none, none, none]) (b + 1)) (by show m_set _ _ _ _ _ = _; unfold m_set; rw [a_twice, a_same]; refine congrArg (fun z => a_set V 0 44 (upd _ _ z)) ?_; exact (if_pos ⟨Int32.not_lt.mp c134, Int32.not_lt.mp c139, Or.inl c144⟩).symm) ⟨rfl, rfl, rfl, rfl, trivial⟩ (ih85 (by omega))
              · skip
                refine r_iload (pc2 := 149) dX8_measures_147 rfl rfl ?_
                refine r_iload (pc2 := 151) dX8_measures_149 rfl rfl ?_
                refine r_iadd (pc2 := 152) dX8_measures_151 rfl ?_
                refine r_iload (pc2 := 154) dX8_measures_152 rfl rfl ?_
                refine r_ic_ge (pc2 := 157) (tgt := 161) dX8_measures_154 (by decide) rfl (fun c154 => ?_) (fun c154 => ?_)
                · skip
                  refine r_iconst (pc2 := 162) (nI 0) dX8_measures_161 (by decide) rfl ?_
                  refine r_istore (pc2 := 164) dX8_measures_162 (by decide) rfl rfl ?_
                  refine r_aload_n (pc2 := 165) dX8_measures_164 rfl rfl ?_
                  refine r_getR (pc2 := 168) dX8_measures_165 fl_X8_45 (by decide) rfl rfl rfl ?_
                  refine r_bipush (pc2 := 170) (nI 8) dX8_measures_168 (by decide) rfl ?_
                  refine r_iload_n (pc2 := 171) dX8_measures_170 rfl rfl ?_
                  refine r_imulN (pc2 := 172) dX8_measures_171 rfl ?_
                  refine r_iload_n (pc2 := 173) dX8_measures_172 rfl rfl ?_
                  refine r_iaddN (pc2 := 174) dX8_measures_173 rfl ?_
                  refine r_iload (pc2 := 176) dX8_measures_174 rfl rfl ?_
                  refine r_if0N_eq (pc2 := 179) (tgt := 187) (by omega) dX8_measures_176 (by decide) rfl (fun c176 => ?_) (fun c176 => ?_)
                  · skip
                    refine r_iload (pc2 := 189) dX8_measures_187 rfl rfl ?_
                    refine r_iast (pc2 := 190) (j := _) dX8_measures_189 (by decide) rfl rfl (rfl) (by show _ < 64; omega) rfl ?_
                    refine r_iincN (pc2 := 193) dX8_measures_190 rfl (by decide) rfl rfl ?_
                    refine r_goto (pc2 := 85) dX8_measures_193 (by decide) ?_
                    exact Rc_.to (lo' := (fun b : Nat => [some (vR 0 33), some (vI (nI m)), some (vI (nI a)), some (vI (nI b)), none, none, none, none]) (b + 1)) (by show m_set _ _ _ _ _ = _; unfold m_set; rw [a_twice, a_same]; refine congrArg (fun z => a_set V 0 44 (upd _ _ z)) ?_; first | exact (if_pos ⟨Int32.not_lt.mp c134, Int32.not_lt.mp c139, Or.inr (Int32.not_le.mp c154)⟩).symm | exact (if_neg (fun z => z.2.2.elim c144 (fun q => absurd q (Int32.not_lt.mpr c154)))).symm) ⟨rfl, rfl, rfl, rfl, trivial⟩ (ih85 (by omega))
                  · skip
                    exact absurd rfl c176
                · skip
                  refine r_iconst (pc2 := 158) (nI 1) dX8_measures_157 (by decide) rfl ?_
                  refine r_goto (pc2 := 162) dX8_measures_158 (by decide) ?_
                  refine r_istore (pc2 := 164) dX8_measures_162 (by decide) rfl rfl ?_
                  refine r_aload_n (pc2 := 165) dX8_measures_164 rfl rfl ?_
                  refine r_getR (pc2 := 168) dX8_measures_165 fl_X8_45 (by decide) rfl rfl rfl ?_
                  refine r_bipush (pc2 := 170) (nI 8) dX8_measures_168 (by decide) rfl ?_
                  refine r_iload_n (pc2 := 171) dX8_measures_170 rfl rfl ?_
                  refine r_imulN (pc2 := 172) dX8_measures_171 rfl ?_
                  refine r_iload_n (pc2 := 173) dX8_measures_172 rfl rfl ?_
                  refine r_iaddN (pc2 := 174) dX8_measures_173 rfl ?_
                  refine r_iload (pc2 := 176) dX8_measures_174 rfl rfl ?_
                  refine r_if0N_eq (pc2 := 179) (tgt := 187) (by omega) dX8_measures_176 (by decide) rfl (fun c176 => ?_) (fun c176 => ?_)
                  · skip
                    exact absurd c176 (by decide)
                  · skip
                    refine r_iload (pc2 := 181) dX8_measures_179 rfl rfl ?_
                    refine r_iload (pc2 := 183) dX8_measures_181 rfl rfl ?_
                    refine r_iadd (pc2 := 184) dX8_measures_183 rfl ?_
                    refine r_goto (pc2 := 189) dX8_measures_184 (by decide) ?_
                    refine r_iast (pc2 := 190) (j := _) dX8_measures_189 (by decide) rfl rfl (rfl) (by show _ < 64; omega) rfl ?_
                    refine r_iincN (pc2 := 193) dX8_measures_190 rfl (by decide) rfl rfl ?_
                    refine r_goto (pc2 := 85) dX8_measures_193 (by decide) ?_
                    exact Rc_.to (lo' := (fun b : Nat => [some (vR 0 33), some (vI (nI m)), some (vI (nI a)), some (vI (nI b)), none, none, none, none]) (b + 1)) (by show m_set _ _ _ _ _ = _; unfold m_set; rw [a_twice, a_same]; refine congrArg (fun z => a_set V 0 44 (upd _ _ z)) ?_; first | exact (if_pos ⟨Int32.not_lt.mp c134, Int32.not_lt.mp c139, Or.inr (Int32.not_le.mp c154)⟩).symm | exact (if_neg (fun z => z.2.2.elim c144 (fun q => absurd q (Int32.not_lt.mpr c154)))).symm) ⟨rfl, rfl, rfl, rfl, trivial⟩ (ih85 (by omega))
  · skip
    refine r_iload_n (pc2 := 9) dX8_measures_8 rfl rfl ?_
    refine r_bipush (pc2 := 11) (nI 8) dX8_measures_9 (by decide) rfl ?_
    refine r_idivN (pc2 := 12) (by omega) (by omega) (by omega) dX8_measures_11 rfl ?_
    refine r_istore_n (pc2 := 13) dX8_measures_12 (by decide) rfl rfl ?_
    refine r_iload_n (pc2 := 14) dX8_measures_13 rfl rfl ?_
    refine r_bipush (pc2 := 16) (nI 8) dX8_measures_14 (by decide) rfl ?_
    refine r_iremN (pc2 := 17) (by omega) (by omega) (by omega) dX8_measures_16 rfl ?_
    refine r_istore_n (pc2 := 18) dX8_measures_17 (by decide) rfl rfl ?_
    refine r_aload_n (pc2 := 19) dX8_measures_18 rfl rfl ?_
    refine r_getR (pc2 := 22) dX8_measures_19 fl_X8_45 (by decide) rfl rfl rfl ?_
    refine r_iload_n (pc2 := 23) dX8_measures_22 rfl rfl ?_
    refine r_iload_n (pc2 := 24) dX8_measures_23 rfl rfl ?_
    refine r_iload_n (pc2 := 25) dX8_measures_24 rfl rfl ?_
    refine r_icN_ne (pc2 := 28) (tgt := 32) (by omega) (by omega) dX8_measures_25 (by decide) rfl (fun c25 => ?_) (fun c25 => ?_)
    · skip
      refine r_aload_n (pc2 := 33) dX8_measures_32 rfl rfl ?_
      refine r_iload_n (pc2 := 34) dX8_measures_33 rfl rfl ?_
      refine r_iload_n (pc2 := 35) dX8_measures_34 rfl rfl ?_
      refine r_cv2p (pc2 := 38) dX8_measures_35 st_X8_measures_91 rl_X8_areNear (Nat.le_of_ble_eq_true rfl) rfl (c_X8_areNear (h.a44 (by decide)) (by omega) (by omega)) ?_
      rw [ek]
      refine r_ifB_eq (pc2 := 41) (tgt := 55) dX8_measures_38 (by decide) rfl (fun c38 => ?_) (fun c38 => ?_)
      · skip
        refine r_iconst (pc2 := 56) (-1) dX8_measures_55 (by decide) rfl ?_
        refine r_iast (pc2 := 57) (j := _) dX8_measures_56 (by decide) rfl rfl (rfl) (by show _ < 64; omega) rfl ?_
        refine r_iincN (pc2 := 60) dX8_measures_57 rfl (by decide) rfl rfl ?_
        refine r_goto (pc2 := 2) dX8_measures_60 (by decide) ?_
        exact Rc_.to (lo' := (fun k : Nat => [some (vR 0 33), some (vI (nI k)), none, none, none, none, none, none]) (k + 1)) (cp_1 (by unfold wi_; first | rw [if_neg c25, if_pos (of_decide_eq_true c38)] | rw [if_neg c25, if_neg (of_decide_eq_false c38)])) ⟨rfl, rfl, trivial⟩ (ih2 (by omega))
      · skip
        refine r_aload_n (pc2 := 42) dX8_measures_41 rfl rfl ?_
        refine r_getR (pc2 := 45) dX8_measures_42 fl_X8_13 (by decide) rfl rfl rfl ?_
        refine r_iload_n (pc2 := 46) dX8_measures_45 rfl rfl ?_
        refine r_iload_n (pc2 := 47) dX8_measures_46 rfl rfl ?_
        refine r_iconst (pc2 := 48) (nI 2) dX8_measures_47 (by decide) rfl ?_
        refine r_cs3p (pc2 := 51) dX8_measures_48 st_X8_measures_62 (Nat.le_of_ble_eq_true rfl) rfl (c_X8_linkAt) ?_
        refine r_ialde (pc2 := 52) (x := ((s 4 k))) (j := _) (by rw [a_ne (by decide), ek]; exact h.lk k 2 (by omega) (by omega)) dX8_measures_51 (by decide) rfl rfl (rfl) (by show _ < 3596; omega) rfl ?_
        refine r_goto (pc2 := 56) dX8_measures_52 (by decide) ?_
        refine r_iast (pc2 := 57) (j := _) dX8_measures_56 (by decide) rfl rfl (rfl) (by show _ < 64; omega) rfl ?_
        refine r_iincN (pc2 := 60) dX8_measures_57 rfl (by decide) rfl rfl ?_
        refine r_goto (pc2 := 2) dX8_measures_60 (by decide) ?_
        exact Rc_.to (lo' := (fun k : Nat => [some (vR 0 33), some (vI (nI k)), none, none, none, none, none, none]) (k + 1)) (cp_1 (by unfold wi_; first | rw [if_neg c25, if_pos (of_decide_eq_true c38)] | rw [if_neg c25, if_neg (of_decide_eq_false c38)])) ⟨rfl, rfl, trivial⟩ (ih2 (by omega))
    · skip
      refine r_iconst (pc2 := 29) (nI 0) dX8_measures_28 (by decide) rfl ?_
      refine r_goto (pc2 := 56) dX8_measures_29 (by decide) ?_
      refine r_iast (pc2 := 57) (j := _) dX8_measures_56 (by decide) rfl rfl (rfl) (by show _ < 64; omega) rfl ?_
      refine r_iincN (pc2 := 60) dX8_measures_57 rfl (by decide) rfl rfl ?_
      refine r_goto (pc2 := 2) dX8_measures_60 (by decide) ?_
      exact Rc_.to (lo' := (fun k : Nat => [some (vR 0 33), some (vI (nI k)), none, none, none, none, none, none]) (k + 1)) (cp_1 (by unfold wi_; rw [if_pos c25])) ⟨rfl, rfl, trivial⟩ (ih2 (by omega))

set_option maxRecDepth 100000 in
set_option maxHeartbeats 4000000 in
theorem c_X8_trueDistance_bad {PL : List (Nat × Nat)} {V : Mm_} {n : Nat} (hm : V 0 33 0 = nI n) (hn1 : 2 ≤ n) (hn8 : n ≤ 8) {a b : Int32} (hbad : ¬ (0 ≤ a ∧ a < nI n ∧ 0 ≤ b ∧ b < nI n)) : Cp_ PL mX8_trueDistance [vR 0 33, vI a, vI b] V ((-1)) := by
  refine Ca_.of mv_X8_trueDistance.2.2.2.2.2.2 0 (lo := [some (vR 0 33), some (vI a), some (vI b)]) rfl (Nat.le_of_ble_eq_true rfl) ?_
  refine r_aload_n (pc2 := 1) dX8_trueDistance_0 rfl rfl ?_
  refine r_iload_n (pc2 := 2) dX8_trueDistance_1 rfl rfl ?_
  refine r_cv1p (pc2 := 5) dX8_trueDistance_2 st_X8_trueDistance_58 rl_X8_isNode (Nat.le_of_ble_eq_true rfl) rfl (c_X8_isNode hm hn1 hn8) ?_
  refine r_ifB_eq (pc2 := 8) (tgt := 16) dX8_trueDistance_5 (by decide) rfl (fun c5 => ?_) (fun c5 => ?_)
  · skip
    refine r_iconst (pc2 := 17) (-1) dX8_trueDistance_16 (by decide) rfl ?_
    exact r_iret dX8_trueDistance_17 rfl (⟨rfl, rfl⟩)
  · skip
    refine r_aload_n (pc2 := 9) dX8_trueDistance_8 rfl rfl ?_
    refine r_iload_n (pc2 := 10) dX8_trueDistance_9 rfl rfl ?_
    refine r_cv1p (pc2 := 13) dX8_trueDistance_10 st_X8_trueDistance_58 rl_X8_isNode (Nat.le_of_ble_eq_true rfl) rfl (c_X8_isNode hm hn1 hn8) ?_
    refine r_ifB_ne (pc2 := 16) (tgt := 18) dX8_trueDistance_13 (by decide) rfl (fun c13 => ?_) (fun c13 => ?_)
    · skip
      exact absurd ⟨(of_decide_eq_true c5).1, (of_decide_eq_true c5).2, (of_decide_eq_true c13).1, (of_decide_eq_true c13).2⟩ hbad
    · skip
      refine r_iconst (pc2 := 17) (-1) dX8_trueDistance_16 (by decide) rfl ?_
      exact r_iret dX8_trueDistance_17 rfl (⟨rfl, rfl⟩)

set_option maxRecDepth 100000 in
set_option maxHeartbeats 4000000 in
theorem c_X8_trueDistance_ok {PL : List (Nat × Nat)} {V : Mm_} {s : Sg_} (h : RT_ (V 0 34) s) {n : Nat} (hm : V 0 33 0 = nI n) (hn1 : 2 ≤ n) (hn8 : n ≤ 8) {i j : Nat} (hi : i < n) (hj : j < n) : Ci_ PL mX8_trueDistance [vR 0 33, vI (nI i), vI (nI j)] V (fun x V' => V' = a_set V 0 44 (mr_ s n (V 0 44)) ∧ x = if (mr_ s n (V 0 44)) (8 * i + j) < 0 then -4 else (mr_ s n (V 0 44)) (8 * i + j)) := by
  refine Ca_.of mv_X8_trueDistance.2.2.2.2.2.2 0 (lo := [some (vR 0 33), some (vI (nI i)), some (vI (nI j))]) rfl (Nat.le_of_ble_eq_true rfl) ?_
  refine r_aload_n (pc2 := 1) dX8_trueDistance_0 rfl rfl ?_
  refine r_iload_n (pc2 := 2) dX8_trueDistance_1 rfl rfl ?_
  refine r_cv1p (pc2 := 5) dX8_trueDistance_2 st_X8_trueDistance_58 rl_X8_isNode (Nat.le_of_ble_eq_true rfl) rfl (c_isNode8_ok hm hn1 hn8 hi) ?_
  refine r_if0N_eq (pc2 := 8) (tgt := 16) (by omega) dX8_trueDistance_5 (by decide) rfl (fun c5 => ?_) (fun c5 => ?_)
  · skip
    exact absurd c5 (by decide)
  · skip
    refine r_aload_n (pc2 := 9) dX8_trueDistance_8 rfl rfl ?_
    refine r_iload_n (pc2 := 10) dX8_trueDistance_9 rfl rfl ?_
    refine r_cv1p (pc2 := 13) dX8_trueDistance_10 st_X8_trueDistance_58 rl_X8_isNode (Nat.le_of_ble_eq_true rfl) rfl (c_isNode8_ok hm hn1 hn8 hj) ?_
    refine r_if0N_ne (pc2 := 16) (tgt := 18) (by omega) dX8_trueDistance_13 (by decide) rfl (fun c13 => ?_) (fun c13 => ?_)
    · skip
      refine r_aload_n (pc2 := 19) dX8_trueDistance_18 rfl rfl ?_
      refine r_cv0m (pc2 := 22) dX8_trueDistance_19 st_X8_trueDistance_154 rl_X8_measures (Nat.le_of_ble_eq_true rfl) rfl (c_X8_measures h hm hn8) ?_
      refine r_aload_n (pc2 := 23) dX8_trueDistance_22 rfl rfl ?_
      refine r_getR (pc2 := 26) dX8_trueDistance_23 fl_X8_45 (by decide) rfl rfl rfl ?_
      refine r_bipush (pc2 := 28) (nI 8) dX8_trueDistance_26 (by decide) rfl ?_
      refine r_iload_n (pc2 := 29) dX8_trueDistance_28 rfl rfl ?_
      refine r_imulN (pc2 := 30) dX8_trueDistance_29 rfl ?_
      refine r_iload_n (pc2 := 31) dX8_trueDistance_30 rfl rfl ?_
      refine r_iaddN (pc2 := 32) dX8_trueDistance_31 rfl ?_
      refine r_ialde (pc2 := 33) (x := (((mr_ s n (V 0 44)) (8 * i + j)))) (j := _) (by rw [a_same]) dX8_trueDistance_32 (by decide) rfl rfl (rfl) (by show _ < 64; omega) rfl ?_
      refine r_if_ge (pc2 := 36) (tgt := 41) dX8_trueDistance_33 (by decide) rfl (fun c33 => ?_) (fun c33 => ?_)
      · skip
        refine r_aload_n (pc2 := 42) dX8_trueDistance_41 rfl rfl ?_
        refine r_getR (pc2 := 45) dX8_trueDistance_42 fl_X8_45 (by decide) rfl rfl rfl ?_
        refine r_bipush (pc2 := 47) (nI 8) dX8_trueDistance_45 (by decide) rfl ?_
        refine r_iload_n (pc2 := 48) dX8_trueDistance_47 rfl rfl ?_
        refine r_imulN (pc2 := 49) dX8_trueDistance_48 rfl ?_
        refine r_iload_n (pc2 := 50) dX8_trueDistance_49 rfl rfl ?_
        refine r_iaddN (pc2 := 51) dX8_trueDistance_50 rfl ?_
        refine r_ialde (pc2 := 52) (x := (((mr_ s n (V 0 44)) (8 * i + j)))) (j := _) (by rw [a_same]) dX8_trueDistance_51 (by decide) rfl rfl (rfl) (by show _ < 64; omega) rfl ?_
        exact r_iret dX8_trueDistance_52 rfl (⟨rfl, by first | (rw [if_pos (Int32.not_le.mp c33)]; first | done | rfl) | (rw [if_neg (Int32.not_lt.mpr c33)]; first | done | rfl)⟩)
      · skip
        refine r_bipush (pc2 := 38) (-4) dX8_trueDistance_36 (by decide) rfl ?_
        refine r_goto (pc2 := 52) dX8_trueDistance_38 (by decide) ?_
        exact r_iret dX8_trueDistance_52 rfl (⟨rfl, by first | (rw [if_pos (Int32.not_le.mp c33)]; first | done | rfl) | (rw [if_neg (Int32.not_lt.mpr c33)]; first | done | rfl)⟩)
    · skip
      exact absurd c13 (by decide)

/-- what is counted over all pairs, in a row -/
theorem cnt_add (p : Nat → Bool) (m : Nat) : ∀ j, cnt_ p (m + j) = cnt_ p m + cnt_ (fun b => p (m + b)) j
  | 0 => rfl
  | j + 1 => by
    show cnt_ p (m + j) + (if p (m + j) = true then 1 else 0) = cnt_ p m + (cnt_ (fun b => p (m + b)) j + (if p (m + j) = true then 1 else 0))
    rw [cnt_add p m j]
    omega
theorem cnt_8 (q : Nat → Nat → Bool) : ∀ m, cnt_ (fun k => q (k / 8) (k % 8)) (m * 8) = c2_ q 8 m
  | 0 => rfl
  | m + 1 => by
    rw [Nat.succ_mul, cnt_add, cnt_8 q m, c2_]
    refine congrArg (fun z => c2_ q 8 m + z) (cnt_cong (fun b hb => ?_))
    show q ((m * 8 + b) / 8) ((m * 8 + b) % 8) = q m b
    rw [show (m * 8 + b) / 8 = m by omega, show (m * 8 + b) % 8 = b by omega]
theorem cnt_z {p : Nat → Bool} : ∀ {n : Nat}, (∀ k, k < n → p k = false) → cnt_ p n = 0
  | 0, _ => rfl
  | n + 1, h => by rw [cnt_f (h n (by omega)), cnt_z (fun k hk => h k (by omega))]
theorem cnt_cut {p : Nat → Bool} {n m : Nat} (hm : n ≤ m) : cnt_ (fun b => decide (b < n) && p b) m = cnt_ p n := by
  obtain ⟨d, rfl⟩ : ∃ d, m = n + d := ⟨m - n, by omega⟩
  rw [cnt_add, cnt_cong (q := p) (fun k hk => by simp [hk]), cnt_z (n := d) (fun k _ => by show (decide (n + k < n) && _) = false; rw [decide_eq_false (by omega)]; rfl), Nat.add_zero]
theorem c2_cut {q : Nat → Nat → Bool} {n : Nat} (hn8 : n ≤ 8) : c2_ (fun a b => decide (a < n) && (decide (b < n) && q a b)) 8 8 = c2_ q n n := by
  have key : ∀ m, m ≤ n → c2_ (fun a b => decide (a < n) && (decide (b < n) && q a b)) 8 m = c2_ q n m := by
    intro m hm
    induction m with
    | zero => rfl
    | succ m ih =>
      rw [c2_, c2_, ih (by omega)]
      have e : (fun b => decide (m < n) && (decide (b < n) && q m b)) = fun b => decide (b < n) && q m b := by funext b; rw [decide_eq_true (show m < n by omega), Bool.true_and]
      show _ + cnt_ (fun b => decide (m < n) && (decide (b < n) && q m b)) 8 = _
      rw [e, cnt_cut hn8]
  have rest : ∀ d, c2_ (fun a b => decide (a < n) && (decide (b < n) && q a b)) 8 (n + d) = c2_ q n n := by
    intro d
    induction d with
    | zero => exact key n (Nat.le_refl n)
    | succ d ih =>
      show c2_ _ 8 (n + d) + cnt_ _ 8 = _
      rw [ih, cnt_z (fun k _ => by show (decide (n + d < n) && _) = false; rw [decide_eq_false (by omega)]; rfl), Nat.add_zero]
  have := rest (8 - n)
  rwa [show n + (8 - n) = 8 by omega] at this
/-- a count over the numbers below 64 that are pairs -/
theorem cnt_64 {p : Nat → Bool} {q : Nat → Nat → Bool} {n : Nat} (hn8 : n ≤ 8) (h : ∀ k, k < 64 → p k = (decide (k / 8 < n) && (decide (k % 8 < n) && q (k / 8) (k % 8)))) : cnt_ p 64 = c2_ q n n := by
  rw [cnt_cong h]
  exact (cnt_8 (fun a b => decide (a < n) && (decide (b < n) && q a b)) 8).trans (c2_cut hn8)
theorem pr_nat {n a b : Nat} (hn8 : n ≤ 8) (ha : a < 8) (hb : b < 8) : pr_ok (nI n) (nI a) (nI b) ↔ a < n ∧ b < n ∧ ¬ a = b := by
  refine ⟨fun h => ⟨(nI_ltI (by omega) (by omega)).mp h.2.1, (nI_ltI (by omega) (by omega)).mp h.2.2.2.1, fun z => h.2.2.2.2 (by rw [z])⟩, fun h => nI_pr hn8 h.1 h.2.1 h.2.2⟩
theorem pr_dec {n a b : Nat} (hn8 : n ≤ 8) (ha : a < 8) (hb : b < 8) (q : Bool) : (decide (pr_ok (nI n) (nI a) (nI b)) && q) = (decide (a < n) && (decide (b < n) && (decide (¬ a = b) && q))) := by
  by_cases h1 : a < n
  · by_cases h2 : b < n
    · by_cases h3 : a = b
      · rw [decide_eq_false (fun z => ((pr_nat hn8 ha hb).mp z).2.2 h3)]; simp [h3]
      · rw [decide_eq_true ((pr_nat hn8 ha hb).mpr ⟨h1, h2, h3⟩)]; simp [h1, h2, h3]
    · rw [decide_eq_false (fun z => h2 ((pr_nat hn8 ha hb).mp z).2.1)]; simp [h2]
  · rw [decide_eq_false (fun z => h1 ((pr_nat hn8 ha hb).mp z).1)]; simp [h1]
set_option maxRecDepth 100000 in
set_option maxHeartbeats 4000000 in
theorem c_X8_pairs {PL : List (Nat × Nat)} {V : Mm_} {s : Sg_} (h : RT_ (V 0 34) s) {n : Nat} (hm : V 0 33 0 = nI n) (hn1 : 2 ≤ n) (hn8 : n ≤ 8) : Ci_ PL mX8_pairs [vR 0 33] V (fun x V' => V' = a_set V 0 44 (mr_ s n (V 0 44)) ∧ x = nI (c2_ (fun a b => decide (¬ a = b) && decide (0 ≤ (mr_ s n (V 0 44)) (8 * a + b))) n n)) := by
  refine Ca_.of mv_X8_pairs.2.2.2.2.2.2 2 (lo := [some (vR 0 33), none, none]) rfl (Nat.le_of_ble_eq_true rfl) ?_
  refine r_aload_n (pc2 := 1) dX8_pairs_0 rfl rfl ?_
  refine r_cv0m (pc2 := 4) dX8_pairs_1 st_X8_pairs_154 rl_X8_measures (Nat.le_of_ble_eq_true rfl) rfl (c_X8_measures h hm hn8) ?_
  refine r_iconst (pc2 := 5) (nI 0) dX8_pairs_4 (by decide) rfl ?_
  refine r_istore_n (pc2 := 6) dX8_pairs_5 (by decide) rfl rfl ?_
  refine r_iconst (pc2 := 7) (nI 0) dX8_pairs_6 (by decide) rfl ?_
  refine r_istore_n (pc2 := 8) dX8_pairs_7 (by decide) rfl rfl ?_
  refine Rc_.to (V' := (fun _ => a_set V 0 44 (mr_ s n (V 0 44))) 0) (lo' := (fun k : Nat => [some (vR 0 33), some (vI (nI ((cnt_ (fun k => decide (pr_ok (nI n) (nI (k / 8)) (nI (k % 8))) && decide (0 ≤ (mr_ s n (V 0 44)) k)) k)))), some (vI (nI k))]) 0) (rfl) ⟨rfl, rfl, rfl, trivial⟩ ?_
  refine Rc_for 0 (64) (fun k : Nat => [some (vR 0 33), some (vI (nI ((cnt_ (fun k => decide (pr_ok (nI n) (nI (k / 8)) (nI (k % 8))) && decide (0 ≤ (mr_ s n (V 0 44)) k)) k)))), some (vI (nI k))]) (fun _ => a_set V 0 44 (mr_ s n (V 0 44))) (by omega) (fun k hk0 hkN ih8 => ?_)
  refine r_iload_n (pc2 := 9) dX8_pairs_8 rfl rfl ?_
  refine r_bipush (pc2 := 11) (nI 64) dX8_pairs_9 (by decide) rfl ?_
  refine r_icN_ge (pc2 := 14) (tgt := 52) (by omega) (by omega) dX8_pairs_11 (by decide) rfl (fun c11 => ?_) (fun c11 => ?_)
  · skip
    refine r_iload_n (pc2 := 53) dX8_pairs_52 rfl rfl ?_
    exact r_iret dX8_pairs_53 rfl (⟨rfl, by rw [show k = 64 by omega]; refine congrArg nI (cnt_64 hn8 (fun k hk => ?_)); rw [pr_dec hn8 (by omega) (by omega)]; rw [show 8 * (k / 8) + k % 8 = k by omega]⟩)
  · skip
    refine r_iload_n (pc2 := 15) dX8_pairs_14 rfl rfl ?_
    refine r_aload_n (pc2 := 16) dX8_pairs_15 rfl rfl ?_
    refine r_iload_n (pc2 := 17) dX8_pairs_16 rfl rfl ?_
    refine r_bipush (pc2 := 19) (nI 8) dX8_pairs_17 (by decide) rfl ?_
    refine r_idivN (pc2 := 20) (by omega) (by omega) (by omega) dX8_pairs_19 rfl ?_
    refine r_iload_n (pc2 := 21) dX8_pairs_20 rfl rfl ?_
    refine r_bipush (pc2 := 23) (nI 8) dX8_pairs_21 (by decide) rfl ?_
    refine r_iremN (pc2 := 24) (by omega) (by omega) (by omega) dX8_pairs_23 rfl ?_
    refine r_cv2p (pc2 := 27) dX8_pairs_24 st_X8_pairs_74 rl_X8_arePair (Nat.le_of_ble_eq_true rfl) rfl (c_X8_arePair (by rw [a_ne (by decide)]; exact hm) hn1 hn8) ?_
    refine r_ifB_eq (pc2 := 30) (tgt := 43) dX8_pairs_27 (by decide) rfl (fun c27 => ?_) (fun c27 => ?_)
    · skip
      refine r_iconst (pc2 := 44) (nI 0) dX8_pairs_43 (by decide) rfl ?_
      refine r_iaddN (pc2 := 45) dX8_pairs_44 rfl ?_
      refine r_istore_n (pc2 := 46) dX8_pairs_45 (by decide) rfl rfl ?_
      refine r_iincN (pc2 := 49) dX8_pairs_46 rfl (by decide) rfl rfl ?_
      refine r_goto (pc2 := 8) dX8_pairs_49 (by decide) ?_
      exact Rc_.to (lo' := (fun k : Nat => [some (vR 0 33), some (vI (nI ((cnt_ (fun k => decide (pr_ok (nI n) (nI (k / 8)) (nI (k % 8))) && decide (0 ≤ (mr_ s n (V 0 44)) k)) k)))), some (vI (nI k))]) (k + 1)) (rfl) ⟨rfl, (congrArg (fun z => some (vI (nI z))) (cnt_f (by show (_ && _) = false; rw [c27]; rfl))), rfl, trivial⟩ (ih8 (by omega))
    · skip
      refine r_aload_n (pc2 := 31) dX8_pairs_30 rfl rfl ?_
      refine r_getR (pc2 := 34) dX8_pairs_31 fl_X8_45 (by decide) rfl rfl rfl ?_
      refine r_iload_n (pc2 := 35) dX8_pairs_34 rfl rfl ?_
      refine r_ialde (pc2 := 36) (x := (((mr_ s n (V 0 44)) k))) (j := _) (by rw [a_same]) dX8_pairs_35 (by decide) rfl rfl (rfl) (by show _ < 64; omega) rfl ?_
      refine r_if_lt (pc2 := 39) (tgt := 43) dX8_pairs_36 (by decide) rfl (fun c36 => ?_) (fun c36 => ?_)
      · skip
        refine r_iconst (pc2 := 44) (nI 0) dX8_pairs_43 (by decide) rfl ?_
        refine r_iaddN (pc2 := 45) dX8_pairs_44 rfl ?_
        refine r_istore_n (pc2 := 46) dX8_pairs_45 (by decide) rfl rfl ?_
        refine r_iincN (pc2 := 49) dX8_pairs_46 rfl (by decide) rfl rfl ?_
        refine r_goto (pc2 := 8) dX8_pairs_49 (by decide) ?_
        exact Rc_.to (lo' := (fun k : Nat => [some (vR 0 33), some (vI (nI ((cnt_ (fun k => decide (pr_ok (nI n) (nI (k / 8)) (nI (k % 8))) && decide (0 ≤ (mr_ s n (V 0 44)) k)) k)))), some (vI (nI k))]) (k + 1)) (rfl) ⟨rfl, (congrArg (fun z => some (vI (nI z))) (by first | exact cnt_t (by show (_ && _) = true; rw [c27]; exact decide_eq_true (Int32.not_lt.mp c36)) | exact cnt_f (by show (_ && _) = false; rw [c27]; exact decide_eq_false (Int32.not_le.mpr c36)))), rfl, trivial⟩ (ih8 (by omega))
      · skip
        refine r_iconst (pc2 := 40) (nI 1) dX8_pairs_39 (by decide) rfl ?_
        refine r_goto (pc2 := 44) dX8_pairs_40 (by decide) ?_
        refine r_iaddN (pc2 := 45) dX8_pairs_44 rfl ?_
        refine r_istore_n (pc2 := 46) dX8_pairs_45 (by decide) rfl rfl ?_
        refine r_iincN (pc2 := 49) dX8_pairs_46 rfl (by decide) rfl rfl ?_
        refine r_goto (pc2 := 8) dX8_pairs_49 (by decide) ?_
        exact Rc_.to (lo' := (fun k : Nat => [some (vR 0 33), some (vI (nI ((cnt_ (fun k => decide (pr_ok (nI n) (nI (k / 8)) (nI (k % 8))) && decide (0 ≤ (mr_ s n (V 0 44)) k)) k)))), some (vI (nI k))]) (k + 1)) (rfl) ⟨rfl, (congrArg (fun z => some (vI (nI z))) (by first | exact cnt_t (by show (_ && _) = true; rw [c27]; exact decide_eq_true (Int32.not_lt.mp c36)) | exact cnt_f (by show (_ && _) = false; rw [c27]; exact decide_eq_false (Int32.not_le.mpr c36)))), rfl, trivial⟩ (ih8 (by omega))

/-- what the reference finds right -/
def rg2_ (dl du w : Int32) : Bool := if du < 0 then decide (w < 0) else decide (0 ≤ w) && decide (dl ≤ w ∧ w ≤ du)
set_option maxRecDepth 100000 in
set_option maxHeartbeats 4000000 in
theorem c_X8_wrongPairs {PL : List (Nat × Nat)} {V : Mm_} {s : Sg_} (h : RT_ (V 0 34) s) {n : Nat} (hm : V 0 33 0 = nI n) (hn1 : 2 ≤ n) (hn8 : n ≤ 8) : Ci_ PL mX8_wrongPairs [vR 0 33] V (fun x V' => V' = a_set V 0 44 (mr_ s n (V 0 44)) ∧ x = nI (c2_ (fun a b => decide (¬ a = b) && !rg2_ (dl_ s (V 0 37 6) n a b) (du_ s (V 0 37 6) n a b) ((mr_ s n (V 0 44)) (8 * a + b))) n n)) := by
  refine Ca_.of mv_X8_wrongPairs.2.2.2.2.2.2 6 (lo := [some (vR 0 33), none, none, none, none, none, none]) rfl (Nat.le_of_ble_eq_true rfl) ?_
  refine r_aload_n (pc2 := 1) dX8_wrongPairs_0 rfl rfl ?_
  refine r_cv0m (pc2 := 4) dX8_wrongPairs_1 st_X8_wrongPairs_154 rl_X8_measures (Nat.le_of_ble_eq_true rfl) rfl (c_X8_measures h hm hn8) ?_
  refine r_iconst (pc2 := 5) (nI 0) dX8_wrongPairs_4 (by decide) rfl ?_
  refine r_istore_n (pc2 := 6) dX8_wrongPairs_5 (by decide) rfl rfl ?_
  refine r_iconst (pc2 := 7) (nI 0) dX8_wrongPairs_6 (by decide) rfl ?_
  refine r_istore_n (pc2 := 8) dX8_wrongPairs_7 (by decide) rfl rfl ?_
  refine Rc_.to (V' := (fun _ => a_set V 0 44 (mr_ s n (V 0 44))) 0) (lo' := (fun k : Nat => [some (vR 0 33), some (vI (nI ((cnt_ (fun k => decide (pr_ok (nI n) (nI (k / 8)) (nI (k % 8))) && !rg2_ (dl_ s (V 0 37 6) n (k / 8) (k % 8)) (du_ s (V 0 37 6) n (k / 8) (k % 8)) ((mr_ s n (V 0 44)) k)) k)))), some (vI (nI k)), none, none, none, none]) 0) (rfl) ⟨rfl, rfl, rfl, trivial⟩ ?_
  refine Rc_for 0 (64) (fun k : Nat => [some (vR 0 33), some (vI (nI ((cnt_ (fun k => decide (pr_ok (nI n) (nI (k / 8)) (nI (k % 8))) && !rg2_ (dl_ s (V 0 37 6) n (k / 8) (k % 8)) (du_ s (V 0 37 6) n (k / 8) (k % 8)) ((mr_ s n (V 0 44)) k)) k)))), some (vI (nI k)), none, none, none, none]) (fun _ => a_set V 0 44 (mr_ s n (V 0 44))) (by omega) (fun k hk0 hkN ih8 => ?_)
  refine r_iload_n (pc2 := 9) dX8_wrongPairs_8 rfl rfl ?_
  refine r_bipush (pc2 := 11) (nI 64) dX8_wrongPairs_9 (by decide) rfl ?_
  refine r_icN_ge (pc2 := 14) (tgt := 124) (by omega) (by omega) dX8_wrongPairs_11 (by decide) rfl (fun c11 => ?_) (fun c11 => ?_)
  · skip
    refine r_iload_n (pc2 := 125) dX8_wrongPairs_124 rfl rfl ?_
    exact r_iret dX8_wrongPairs_125 rfl (⟨rfl, by rw [show k = 64 by omega]; refine congrArg nI (cnt_64 hn8 (fun k hk => ?_)); rw [pr_dec hn8 (by omega) (by omega)]; rw [show 8 * (k / 8) + k % 8 = k by omega]⟩)
  · skip
    refine r_iload_n (pc2 := 15) dX8_wrongPairs_14 rfl rfl ?_
    refine r_bipush (pc2 := 17) (nI 8) dX8_wrongPairs_15 (by decide) rfl ?_
    refine r_idivN (pc2 := 18) (by omega) (by omega) (by omega) dX8_wrongPairs_17 rfl ?_
    refine r_istore_n (pc2 := 19) dX8_wrongPairs_18 (by decide) rfl rfl ?_
    refine r_iload_n (pc2 := 20) dX8_wrongPairs_19 rfl rfl ?_
    refine r_bipush (pc2 := 22) (nI 8) dX8_wrongPairs_20 (by decide) rfl ?_
    refine r_iremN (pc2 := 23) (by omega) (by omega) (by omega) dX8_wrongPairs_22 rfl ?_
    refine r_istore (pc2 := 25) dX8_wrongPairs_23 (by decide) rfl rfl ?_
    refine r_aload_n (pc2 := 26) dX8_wrongPairs_25 rfl rfl ?_
    refine r_iload_n (pc2 := 27) dX8_wrongPairs_26 rfl rfl ?_
    refine r_iload (pc2 := 29) dX8_wrongPairs_27 rfl rfl ?_
    refine r_cv2p (pc2 := 32) dX8_wrongPairs_29 st_X8_wrongPairs_74 rl_X8_arePair (Nat.le_of_ble_eq_true rfl) rfl (c_X8_arePair (by rw [a_ne (by decide)]; exact hm) hn1 hn8) ?_
    refine r_ifB_eq (pc2 := 35) (tgt := 118) dX8_wrongPairs_32 (by decide) rfl (fun c32 => ?_) (fun c32 => ?_)
    · skip
      refine r_iincN (pc2 := 121) dX8_wrongPairs_118 rfl (by decide) rfl rfl ?_
      refine r_goto (pc2 := 8) dX8_wrongPairs_121 (by decide) ?_
      exact Rc_.to (lo' := (fun k : Nat => [some (vR 0 33), some (vI (nI ((cnt_ (fun k => decide (pr_ok (nI n) (nI (k / 8)) (nI (k % 8))) && !rg2_ (dl_ s (V 0 37 6) n (k / 8) (k % 8)) (du_ s (V 0 37 6) n (k / 8) (k % 8)) ((mr_ s n (V 0 44)) k)) k)))), some (vI (nI k)), none, none, none, none]) (k + 1)) (rfl) ⟨rfl, (congrArg (fun z => some (vI (nI z))) (cnt_f (by show (_ && _) = false; rw [c32]; rfl))), rfl, trivial⟩ (ih8 (by omega))
    · skip
      refine r_aload_n (pc2 := 36) dX8_wrongPairs_35 rfl rfl ?_
      refine r_iload_n (pc2 := 37) dX8_wrongPairs_36 rfl rfl ?_
      refine r_iload (pc2 := 39) dX8_wrongPairs_37 rfl rfl ?_
      refine r_iconst (pc2 := 40) (nI 2) dX8_wrongPairs_39 (by decide) rfl ?_
      refine r_cv3p (pc2 := 43) dX8_wrongPairs_40 st_X8_wrongPairs_104 rl_X8_boundOf (Nat.le_of_ble_eq_true rfl) rfl (c_X8_boundOf2 (h.a44 (by decide)) (by rw [a_ne (by decide)]; exact hm) hn8 (by omega) (by omega)) ?_
      rw [show a_set V 0 44 (mr_ s n (V 0 44)) 0 37 = V 0 37 from a_ne (by decide)]
      refine r_istore (pc2 := 45) dX8_wrongPairs_43 (by decide) rfl rfl ?_
      refine r_iload (pc2 := 47) dX8_wrongPairs_45 rfl rfl ?_
      refine r_if_ge (pc2 := 50) (tgt := 67) dX8_wrongPairs_47 (by decide) rfl (fun c47 => ?_) (fun c47 => ?_)
      · skip
        refine r_aload_n (pc2 := 68) dX8_wrongPairs_67 rfl rfl ?_
        refine r_getR (pc2 := 71) dX8_wrongPairs_68 fl_X8_45 (by decide) rfl rfl rfl ?_
        refine r_iload_n (pc2 := 72) dX8_wrongPairs_71 rfl rfl ?_
        refine r_ialde (pc2 := 73) (x := (((mr_ s n (V 0 44)) k))) (j := _) (by rw [a_same]) dX8_wrongPairs_72 (by decide) rfl rfl (rfl) (by show _ < 64; omega) rfl ?_
        refine r_if_lt (pc2 := 76) (tgt := 102) dX8_wrongPairs_73 (by decide) rfl (fun c73 => ?_) (fun c73 => ?_)
        · skip
          refine r_iconst (pc2 := 103) (nI 0) dX8_wrongPairs_102 (by decide) rfl ?_
          refine r_istore (pc2 := 105) dX8_wrongPairs_103 (by decide) rfl rfl ?_
          refine r_iload_n (pc2 := 106) dX8_wrongPairs_105 rfl rfl ?_
          refine r_iload (pc2 := 108) dX8_wrongPairs_106 rfl rfl ?_
          refine r_if0N_eq (pc2 := 111) (tgt := 115) (by omega) dX8_wrongPairs_108 (by decide) rfl (fun c108 => ?_) (fun c108 => ?_)
          · skip
            refine r_iconst (pc2 := 116) (nI 1) dX8_wrongPairs_115 (by decide) rfl ?_
            refine r_iaddN (pc2 := 117) dX8_wrongPairs_116 rfl ?_
            refine r_istore_n (pc2 := 118) dX8_wrongPairs_117 (by decide) rfl rfl ?_
            refine r_iincN (pc2 := 121) dX8_wrongPairs_118 rfl (by decide) rfl rfl ?_
            refine r_goto (pc2 := 8) dX8_wrongPairs_121 (by decide) ?_
            exact Rc_.to (lo' := (fun k : Nat => [some (vR 0 33), some (vI (nI ((cnt_ (fun k => decide (pr_ok (nI n) (nI (k / 8)) (nI (k % 8))) && !rg2_ (dl_ s (V 0 37 6) n (k / 8) (k % 8)) (du_ s (V 0 37 6) n (k / 8) (k % 8)) ((mr_ s n (V 0 44)) k)) k)))), some (vI (nI k)), none, none, none, none]) (k + 1)) (rfl) ⟨rfl, (congrArg (fun z => some (vI (nI z))) (by first | exact cnt_t (by show (_ && !rg2_ _ _ _) = true; rw [c32]; unfold rg2_; rw [if_neg (Int32.not_lt.mpr c47), decide_eq_false (Int32.not_le.mpr c73)]; rfl) | exact cnt_f (by show (_ && !rg2_ _ _ _) = false; rw [c32]; unfold rg2_; rw [if_neg (Int32.not_lt.mpr c47), decide_eq_false (Int32.not_le.mpr c73)]; rfl))), rfl, trivial⟩ (ih8 (by omega))
          · skip
            exact absurd rfl c108
        · skip
          refine r_aload_n (pc2 := 77) dX8_wrongPairs_76 rfl rfl ?_
          refine r_getR (pc2 := 80) dX8_wrongPairs_77 fl_X8_45 (by decide) rfl rfl rfl ?_
          refine r_iload_n (pc2 := 81) dX8_wrongPairs_80 rfl rfl ?_
          refine r_ialde (pc2 := 82) (x := (((mr_ s n (V 0 44)) k))) (j := _) (by rw [a_same]) dX8_wrongPairs_81 (by decide) rfl rfl (rfl) (by show _ < 64; omega) rfl ?_
          refine r_aload_n (pc2 := 83) dX8_wrongPairs_82 rfl rfl ?_
          refine r_iload_n (pc2 := 84) dX8_wrongPairs_83 rfl rfl ?_
          refine r_iload (pc2 := 86) dX8_wrongPairs_84 rfl rfl ?_
          refine r_iconst (pc2 := 87) (nI 1) dX8_wrongPairs_86 (by decide) rfl ?_
          refine r_cv3p (pc2 := 90) dX8_wrongPairs_87 st_X8_wrongPairs_104 rl_X8_boundOf (Nat.le_of_ble_eq_true rfl) rfl (c_X8_boundOf1 (h.a44 (by decide)) (by rw [a_ne (by decide)]; exact hm) hn8 (by omega) (by omega)) ?_
          rw [show a_set V 0 44 (mr_ s n (V 0 44)) 0 37 = V 0 37 from a_ne (by decide)]
          refine r_iload (pc2 := 92) dX8_wrongPairs_90 rfl rfl ?_
          refine r_cs3p (pc2 := 95) dX8_wrongPairs_92 st_X8_wrongPairs_54 (Nat.le_of_ble_eq_true rfl) rfl (c_X8_in) ?_
          refine r_ifB_eq (pc2 := 98) (tgt := 102) dX8_wrongPairs_95 (by decide) rfl (fun c95 => ?_) (fun c95 => ?_)
          · skip
            refine r_iconst (pc2 := 103) (nI 0) dX8_wrongPairs_102 (by decide) rfl ?_
            refine r_istore (pc2 := 105) dX8_wrongPairs_103 (by decide) rfl rfl ?_
            refine r_iload_n (pc2 := 106) dX8_wrongPairs_105 rfl rfl ?_
            refine r_iload (pc2 := 108) dX8_wrongPairs_106 rfl rfl ?_
            refine r_if0N_eq (pc2 := 111) (tgt := 115) (by omega) dX8_wrongPairs_108 (by decide) rfl (fun c108 => ?_) (fun c108 => ?_)
            · skip
              refine r_iconst (pc2 := 116) (nI 1) dX8_wrongPairs_115 (by decide) rfl ?_
              refine r_iaddN (pc2 := 117) dX8_wrongPairs_116 rfl ?_
              refine r_istore_n (pc2 := 118) dX8_wrongPairs_117 (by decide) rfl rfl ?_
              refine r_iincN (pc2 := 121) dX8_wrongPairs_118 rfl (by decide) rfl rfl ?_
              refine r_goto (pc2 := 8) dX8_wrongPairs_121 (by decide) ?_
              exact Rc_.to (lo' := (fun k : Nat => [some (vR 0 33), some (vI (nI ((cnt_ (fun k => decide (pr_ok (nI n) (nI (k / 8)) (nI (k % 8))) && !rg2_ (dl_ s (V 0 37 6) n (k / 8) (k % 8)) (du_ s (V 0 37 6) n (k / 8) (k % 8)) ((mr_ s n (V 0 44)) k)) k)))), some (vI (nI k)), none, none, none, none]) (k + 1)) (rfl) ⟨rfl, (congrArg (fun z => some (vI (nI z))) (by first | exact cnt_t (by show (_ && !rg2_ _ _ _) = true; rw [c32]; unfold rg2_; rw [if_neg (Int32.not_lt.mpr c47), decide_eq_true (Int32.not_lt.mp c73), c95]; rfl) | exact cnt_f (by show (_ && !rg2_ _ _ _) = false; rw [c32]; unfold rg2_; rw [if_neg (Int32.not_lt.mpr c47), decide_eq_true (Int32.not_lt.mp c73), c95]; rfl))), rfl, trivial⟩ (ih8 (by omega))
            · skip
              exact absurd rfl c108
          · skip
            refine r_iconst (pc2 := 99) (nI 1) dX8_wrongPairs_98 (by decide) rfl ?_
            refine r_goto (pc2 := 103) dX8_wrongPairs_99 (by decide) ?_
            refine r_istore (pc2 := 105) dX8_wrongPairs_103 (by decide) rfl rfl ?_
            refine r_iload_n (pc2 := 106) dX8_wrongPairs_105 rfl rfl ?_
            refine r_iload (pc2 := 108) dX8_wrongPairs_106 rfl rfl ?_
            refine r_if0N_eq (pc2 := 111) (tgt := 115) (by omega) dX8_wrongPairs_108 (by decide) rfl (fun c108 => ?_) (fun c108 => ?_)
            · skip
              exact absurd c108 (by decide)
            · skip
              refine r_iconst (pc2 := 112) (nI 0) dX8_wrongPairs_111 (by decide) rfl ?_
              refine r_goto (pc2 := 116) dX8_wrongPairs_112 (by decide) ?_
              refine r_iaddN (pc2 := 117) dX8_wrongPairs_116 rfl ?_
              refine r_istore_n (pc2 := 118) dX8_wrongPairs_117 (by decide) rfl rfl ?_
              refine r_iincN (pc2 := 121) dX8_wrongPairs_118 rfl (by decide) rfl rfl ?_
              refine r_goto (pc2 := 8) dX8_wrongPairs_121 (by decide) ?_
              exact Rc_.to (lo' := (fun k : Nat => [some (vR 0 33), some (vI (nI ((cnt_ (fun k => decide (pr_ok (nI n) (nI (k / 8)) (nI (k % 8))) && !rg2_ (dl_ s (V 0 37 6) n (k / 8) (k % 8)) (du_ s (V 0 37 6) n (k / 8) (k % 8)) ((mr_ s n (V 0 44)) k)) k)))), some (vI (nI k)), none, none, none, none]) (k + 1)) (rfl) ⟨rfl, (congrArg (fun z => some (vI (nI z))) (by first | exact cnt_t (by show (_ && !rg2_ _ _ _) = true; rw [c32]; unfold rg2_; rw [if_neg (Int32.not_lt.mpr c47), decide_eq_true (Int32.not_lt.mp c73), c95]; rfl) | exact cnt_f (by show (_ && !rg2_ _ _ _) = false; rw [c32]; unfold rg2_; rw [if_neg (Int32.not_lt.mpr c47), decide_eq_true (Int32.not_lt.mp c73), c95]; rfl))), rfl, trivial⟩ (ih8 (by omega))
      · skip
        refine r_aload_n (pc2 := 51) dX8_wrongPairs_50 rfl rfl ?_
        refine r_getR (pc2 := 54) dX8_wrongPairs_51 fl_X8_45 (by decide) rfl rfl rfl ?_
        refine r_iload_n (pc2 := 55) dX8_wrongPairs_54 rfl rfl ?_
        refine r_ialde (pc2 := 56) (x := (((mr_ s n (V 0 44)) k))) (j := _) (by rw [a_same]) dX8_wrongPairs_55 (by decide) rfl rfl (rfl) (by show _ < 64; omega) rfl ?_
        refine r_if_ge (pc2 := 59) (tgt := 63) dX8_wrongPairs_56 (by decide) rfl (fun c56 => ?_) (fun c56 => ?_)
        · skip
          refine r_iconst (pc2 := 64) (nI 0) dX8_wrongPairs_63 (by decide) rfl ?_
          refine r_goto (pc2 := 103) dX8_wrongPairs_64 (by decide) ?_
          refine r_istore (pc2 := 105) dX8_wrongPairs_103 (by decide) rfl rfl ?_
          refine r_iload_n (pc2 := 106) dX8_wrongPairs_105 rfl rfl ?_
          refine r_iload (pc2 := 108) dX8_wrongPairs_106 rfl rfl ?_
          refine r_if0N_eq (pc2 := 111) (tgt := 115) (by omega) dX8_wrongPairs_108 (by decide) rfl (fun c108 => ?_) (fun c108 => ?_)
          · skip
            refine r_iconst (pc2 := 116) (nI 1) dX8_wrongPairs_115 (by decide) rfl ?_
            refine r_iaddN (pc2 := 117) dX8_wrongPairs_116 rfl ?_
            refine r_istore_n (pc2 := 118) dX8_wrongPairs_117 (by decide) rfl rfl ?_
            refine r_iincN (pc2 := 121) dX8_wrongPairs_118 rfl (by decide) rfl rfl ?_
            refine r_goto (pc2 := 8) dX8_wrongPairs_121 (by decide) ?_
            exact Rc_.to (lo' := (fun k : Nat => [some (vR 0 33), some (vI (nI ((cnt_ (fun k => decide (pr_ok (nI n) (nI (k / 8)) (nI (k % 8))) && !rg2_ (dl_ s (V 0 37 6) n (k / 8) (k % 8)) (du_ s (V 0 37 6) n (k / 8) (k % 8)) ((mr_ s n (V 0 44)) k)) k)))), some (vI (nI k)), none, none, none, none]) (k + 1)) (rfl) ⟨rfl, (congrArg (fun z => some (vI (nI z))) (by first | exact cnt_t (by show (_ && !rg2_ _ _ _) = true; rw [c32]; unfold rg2_; rw [if_pos (Int32.not_le.mp c47), decide_eq_true (Int32.not_le.mp c56)]; rfl) | exact cnt_t (by show (_ && !rg2_ _ _ _) = true; rw [c32]; unfold rg2_; rw [if_pos (Int32.not_le.mp c47), decide_eq_false (Int32.not_lt.mpr c56)]; rfl) | exact cnt_f (by show (_ && !rg2_ _ _ _) = false; rw [c32]; unfold rg2_; rw [if_pos (Int32.not_le.mp c47), decide_eq_true (Int32.not_le.mp c56)]; rfl) | exact cnt_f (by show (_ && !rg2_ _ _ _) = false; rw [c32]; unfold rg2_; rw [if_pos (Int32.not_le.mp c47), decide_eq_false (Int32.not_lt.mpr c56)]; rfl))), rfl, trivial⟩ (ih8 (by omega))
          · skip
            exact absurd rfl c108
        · skip
          refine r_iconst (pc2 := 60) (nI 1) dX8_wrongPairs_59 (by decide) rfl ?_
          refine r_goto (pc2 := 103) dX8_wrongPairs_60 (by decide) ?_
          refine r_istore (pc2 := 105) dX8_wrongPairs_103 (by decide) rfl rfl ?_
          refine r_iload_n (pc2 := 106) dX8_wrongPairs_105 rfl rfl ?_
          refine r_iload (pc2 := 108) dX8_wrongPairs_106 rfl rfl ?_
          refine r_if0N_eq (pc2 := 111) (tgt := 115) (by omega) dX8_wrongPairs_108 (by decide) rfl (fun c108 => ?_) (fun c108 => ?_)
          · skip
            exact absurd c108 (by decide)
          · skip
            refine r_iconst (pc2 := 112) (nI 0) dX8_wrongPairs_111 (by decide) rfl ?_
            refine r_goto (pc2 := 116) dX8_wrongPairs_112 (by decide) ?_
            refine r_iaddN (pc2 := 117) dX8_wrongPairs_116 rfl ?_
            refine r_istore_n (pc2 := 118) dX8_wrongPairs_117 (by decide) rfl rfl ?_
            refine r_iincN (pc2 := 121) dX8_wrongPairs_118 rfl (by decide) rfl rfl ?_
            refine r_goto (pc2 := 8) dX8_wrongPairs_121 (by decide) ?_
            exact Rc_.to (lo' := (fun k : Nat => [some (vR 0 33), some (vI (nI ((cnt_ (fun k => decide (pr_ok (nI n) (nI (k / 8)) (nI (k % 8))) && !rg2_ (dl_ s (V 0 37 6) n (k / 8) (k % 8)) (du_ s (V 0 37 6) n (k / 8) (k % 8)) ((mr_ s n (V 0 44)) k)) k)))), some (vI (nI k)), none, none, none, none]) (k + 1)) (rfl) ⟨rfl, (congrArg (fun z => some (vI (nI z))) (by first | exact cnt_t (by show (_ && !rg2_ _ _ _) = true; rw [c32]; unfold rg2_; rw [if_pos (Int32.not_le.mp c47), decide_eq_true (Int32.not_le.mp c56)]; rfl) | exact cnt_t (by show (_ && !rg2_ _ _ _) = true; rw [c32]; unfold rg2_; rw [if_pos (Int32.not_le.mp c47), decide_eq_false (Int32.not_lt.mpr c56)]; rfl) | exact cnt_f (by show (_ && !rg2_ _ _ _) = false; rw [c32]; unfold rg2_; rw [if_pos (Int32.not_le.mp c47), decide_eq_true (Int32.not_le.mp c56)]; rfl) | exact cnt_f (by show (_ && !rg2_ _ _ _) = false; rw [c32]; unfold rg2_; rw [if_pos (Int32.not_le.mp c47), decide_eq_false (Int32.not_lt.mpr c56)]; rfl))), rfl, trivial⟩ (ih8 (by omega))
