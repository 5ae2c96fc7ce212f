/-! reference: its face, entries, runs: written by wip/whole/m22.py -/
set_option maxRecDepth 100000 in
set_option maxHeartbeats 4000000 in
theorem c_X8_entries_bad {PL : List (Nat × Nat)} {V : Mm_} {n : Nat} (hm : V 0 33 0 = nI n) (hn1 : 2 ≤ n) (hn8 : n ≤ 8) {a b x : Int32} (hbad : ¬ (pr_ok (nI n) a b ∧ nI 0 ≤ x ∧ x ≤ nI 3)) : Cp_ PL mX8_entries [vR 0 33, vI a, vI b, vI x] V ((-1)) := by
  refine Ca_.of mv_X8_entries.2.2.2.2.2.2 3 (lo := [some (vR 0 33), some (vI a), some (vI b), some (vI x), none, none, none]) rfl (Nat.le_of_ble_eq_true rfl) ?_
  refine r_aload_n (pc2 := 1) dX8_entries_0 rfl rfl ?_
  refine r_iload_n (pc2 := 2) dX8_entries_1 rfl rfl ?_
  refine r_iload_n (pc2 := 3) dX8_entries_2 rfl rfl ?_
  refine r_cv2p (pc2 := 6) dX8_entries_3 st_X8_entries_74 rl_X8_arePair (Nat.le_of_ble_eq_true rfl) rfl (c_X8_arePair hm hn1 hn8) ?_
  refine r_ifB_eq (pc2 := 9) (tgt := 18) dX8_entries_6 (by decide) rfl (fun c6 => ?_) (fun c6 => ?_)
  · skip
    refine r_iconst (pc2 := 19) (-1) dX8_entries_18 (by decide) rfl ?_
    exact r_iret dX8_entries_19 rfl (⟨rfl, rfl⟩)
  · skip
    refine r_iload_n (pc2 := 10) dX8_entries_9 rfl rfl ?_
    refine r_iconst (pc2 := 11) (nI 0) dX8_entries_10 (by decide) rfl ?_
    refine r_iconst (pc2 := 12) (nI 3) dX8_entries_11 (by decide) rfl ?_
    refine r_cs3p (pc2 := 15) dX8_entries_12 st_X8_entries_54 (Nat.le_of_ble_eq_true rfl) rfl (c_X8_in) ?_
    refine r_ifB_ne (pc2 := 18) (tgt := 20) dX8_entries_15 (by decide) rfl (fun c15 => ?_) (fun c15 => ?_)
    · skip
      exact absurd ⟨of_decide_eq_true c6, of_decide_eq_true c15⟩ hbad
    · skip
      refine r_iconst (pc2 := 19) (-1) dX8_entries_18 (by decide) rfl ?_
      exact r_iret dX8_entries_19 rfl (⟨rfl, rfl⟩)

set_option maxRecDepth 100000 in
set_option maxHeartbeats 4000000 in
theorem c_X8_entries_ok {PL : List (Nat × Nat)} {V : Mm_} {s : Sg_} (h : RT_ (V 0 34) s) {n : Nat} (hm : V 0 33 0 = nI n) (hn1 : 2 ≤ n) (hn8 : n ≤ 8) {i j : Nat} (hi : i < n) (hj : j < n) (hij : ¬ i = j) {w : Nat} (hw : w < 4) : Cp_ PL mX8_entries [vR 0 33, vI (nI i), vI (nI j), vI (nI w)] V (nI (cnt_ (cu_ s (V 0 37 6) n i j w) n)) := by
  refine Ca_.of mv_X8_entries.2.2.2.2.2.2 3 (lo := [some (vR 0 33), some (vI (nI i)), some (vI (nI j)), some (vI (nI w)), none, none, none]) rfl (Nat.le_of_ble_eq_true rfl) ?_
  refine r_aload_n (pc2 := 1) dX8_entries_0 rfl rfl ?_
  refine r_iload_n (pc2 := 2) dX8_entries_1 rfl rfl ?_
  refine r_iload_n (pc2 := 3) dX8_entries_2 rfl rfl ?_
  refine r_cv2p (pc2 := 6) dX8_entries_3 st_X8_entries_74 rl_X8_arePair (Nat.le_of_ble_eq_true rfl) rfl (c_arePair_ok hm hn1 hn8 hi hj hij) ?_
  refine r_if0N_eq (pc2 := 9) (tgt := 18) (by omega) dX8_entries_6 (by decide) rfl (fun c6 => ?_) (fun c6 => ?_)
  · skip
    exact absurd c6 (by decide)
  · skip
    refine r_iload_n (pc2 := 10) dX8_entries_9 rfl rfl ?_
    refine r_iconst (pc2 := 11) (nI 0) dX8_entries_10 (by decide) rfl ?_
    refine r_iconst (pc2 := 12) (nI 3) dX8_entries_11 (by decide) rfl ?_
    refine r_cs3p (pc2 := 15) dX8_entries_12 st_X8_entries_54 (Nat.le_of_ble_eq_true rfl) rfl (c_in_ok ⟨nI_pos' (by omega), nI_le (by omega) (by omega)⟩) ?_
    refine r_if0N_ne (pc2 := 18) (tgt := 20) (by omega) dX8_entries_15 (by decide) rfl (fun c15 => ?_) (fun c15 => ?_)
    · skip
      refine r_iconst (pc2 := 21) (nI 0) dX8_entries_20 (by decide) rfl ?_
      refine r_istore (pc2 := 23) dX8_entries_21 (by decide) rfl rfl ?_
      refine r_iconst (pc2 := 24) (nI 0) dX8_entries_23 (by decide) rfl ?_
      refine r_istore (pc2 := 26) dX8_entries_24 (by decide) rfl rfl ?_
      refine Rc_.to (V' := (fun _ => V) 0) (lo' := (fun c : Nat => [some (vR 0 33), some (vI (nI i)), some (vI (nI j)), some (vI (nI w)), some (vI (nI ((cnt_ (cu_ s (V 0 37 6) n i j w) c)))), some (vI (nI c)), none]) 0) (rfl) ⟨rfl, rfl, rfl, rfl, rfl, rfl, trivial⟩ ?_
      refine Rc_for 0 (n) (fun c : Nat => [some (vR 0 33), some (vI (nI i)), some (vI (nI j)), some (vI (nI w)), some (vI (nI ((cnt_ (cu_ s (V 0 37 6) n i j w) c)))), some (vI (nI c)), none]) (fun _ => V) (by omega) (fun c hc0 hcN ih26 => ?_)
      refine r_iload (pc2 := 28) dX8_entries_26 rfl rfl ?_
      refine r_aload_n (pc2 := 29) dX8_entries_28 rfl rfl ?_
      refine r_getIe (pc2 := 32) (x := (nI n)) (hm) dX8_entries_29 fl_X8_7 (by decide) rfl rfl rfl ?_
      refine r_icN_ge (pc2 := 35) (tgt := 153) (by omega) (by omega) dX8_entries_32 (by decide) rfl (fun c32 => ?_) (fun c32 => ?_)
      · skip
        refine r_iload (pc2 := 155) dX8_entries_153 rfl rfl ?_
        exact r_iret dX8_entries_155 rfl (⟨by (have e : c = n := by omega); rw [e], rfl⟩)
      · skip
        refine r_iload (pc2 := 37) dX8_entries_35 rfl rfl ?_
        refine r_iload_n (pc2 := 38) dX8_entries_37 rfl rfl ?_
        refine r_icN_eq (pc2 := 41) (tgt := 56) (by omega) (by omega) dX8_entries_38 (by decide) rfl (fun c38 => ?_) (fun c38 => ?_)
        · skip
          refine r_iconst (pc2 := 57) (nI 0) dX8_entries_56 (by decide) rfl ?_
          refine r_istore (pc2 := 59) dX8_entries_57 (by decide) rfl rfl ?_
          refine r_iload (pc2 := 61) dX8_entries_59 rfl rfl ?_
          refine r_if0N_eq (pc2 := 64) (tgt := 129) (by omega) dX8_entries_61 (by decide) rfl (fun c61 => ?_) (fun c61 => ?_)
          · skip
            refine r_iconst (pc2 := 130) (nI 0) dX8_entries_129 (by decide) rfl ?_
            refine r_istore (pc2 := 132) dX8_entries_130 (by decide) rfl rfl ?_
            refine r_iload (pc2 := 134) dX8_entries_132 rfl rfl ?_
            refine r_iload (pc2 := 136) dX8_entries_134 rfl rfl ?_
            refine r_if0N_eq (pc2 := 139) (tgt := 143) (by omega) dX8_entries_136 (by decide) rfl (fun c136 => ?_) (fun c136 => ?_)
            · skip
              refine r_iconst (pc2 := 144) (nI 0) dX8_entries_143 (by decide) rfl ?_
              refine r_iaddN (pc2 := 145) dX8_entries_144 rfl ?_
              refine r_istore (pc2 := 147) dX8_entries_145 (by decide) rfl rfl ?_
              refine r_iincN (pc2 := 150) dX8_entries_147 rfl (by decide) rfl rfl ?_
              refine r_goto (pc2 := 26) dX8_entries_150 (by decide) ?_
              exact Rc_.to (lo' := (fun c : Nat => [some (vR 0 33), some (vI (nI i)), some (vI (nI j)), some (vI (nI w)), some (vI (nI ((cnt_ (cu_ s (V 0 37 6) n i j w) c)))), some (vI (nI c)), none]) (c + 1)) (rfl) ⟨rfl, rfl, rfl, rfl, (congrArg (fun z => some (vI (nI z))) (by rw [cnt_f (p := cu_ s (V 0 37 6) n i j w) (n := c) (by unfold cu_; rw [c38, decide_eq_false (h.iv.sn i j (by omega) (by omega))]; rfl)]; first | done | rfl)), rfl, trivial⟩ (ih26 (by omega))
            · skip
              exact absurd rfl c136
          · skip
            exact absurd rfl c61
        · skip
          refine r_aload_n (pc2 := 42) dX8_entries_41 rfl rfl ?_
          refine r_iload_n (pc2 := 43) dX8_entries_42 rfl rfl ?_
          refine r_iload_n (pc2 := 44) dX8_entries_43 rfl rfl ?_
          refine r_iload (pc2 := 46) dX8_entries_44 rfl rfl ?_
          refine r_cv3p (pc2 := 49) dX8_entries_46 st_X8_entries_88 rl_X8_isEntry (Nat.le_of_ble_eq_true rfl) rfl (c_X8_isEntry h (by omega) (by omega) (by omega)) ?_
          refine r_ifB_eq (pc2 := 52) (tgt := 56) dX8_entries_49 (by decide) rfl (fun c49 => ?_) (fun c49 => ?_)
          · skip
            refine r_iconst (pc2 := 57) (nI 0) dX8_entries_56 (by decide) rfl ?_
            refine r_istore (pc2 := 59) dX8_entries_57 (by decide) rfl rfl ?_
            refine r_iload (pc2 := 61) dX8_entries_59 rfl rfl ?_
            refine r_if0N_eq (pc2 := 64) (tgt := 129) (by omega) dX8_entries_61 (by decide) rfl (fun c61 => ?_) (fun c61 => ?_)
            · skip
              refine r_iconst (pc2 := 130) (nI 0) dX8_entries_129 (by decide) rfl ?_
              refine r_istore (pc2 := 132) dX8_entries_130 (by decide) rfl rfl ?_
              refine r_iload (pc2 := 134) dX8_entries_132 rfl rfl ?_
              refine r_iload (pc2 := 136) dX8_entries_134 rfl rfl ?_
              refine r_if0N_eq (pc2 := 139) (tgt := 143) (by omega) dX8_entries_136 (by decide) rfl (fun c136 => ?_) (fun c136 => ?_)
              · skip
                refine r_iconst (pc2 := 144) (nI 0) dX8_entries_143 (by decide) rfl ?_
                refine r_iaddN (pc2 := 145) dX8_entries_144 rfl ?_
                refine r_istore (pc2 := 147) dX8_entries_145 (by decide) rfl rfl ?_
                refine r_iincN (pc2 := 150) dX8_entries_147 rfl (by decide) rfl rfl ?_
                refine r_goto (pc2 := 26) dX8_entries_150 (by decide) ?_
                exact Rc_.to (lo' := (fun c : Nat => [some (vR 0 33), some (vI (nI i)), some (vI (nI j)), some (vI (nI w)), some (vI (nI ((cnt_ (cu_ s (V 0 37 6) n i j w) c)))), some (vI (nI c)), none]) (c + 1)) (rfl) ⟨rfl, rfl, rfl, rfl, (congrArg (fun z => some (vI (nI z))) (by rw [cnt_f (p := cu_ s (V 0 37 6) n i j w) (n := c) (by unfold cu_; rw [c49]; rfl)]; first | done | rfl)), rfl, trivial⟩ (ih26 (by omega))
              · skip
                exact absurd rfl c136
            · skip
              exact absurd rfl c61
          · skip
            refine r_iconst (pc2 := 53) (nI 1) dX8_entries_52 (by decide) rfl ?_
            refine r_goto (pc2 := 57) dX8_entries_53 (by decide) ?_
            refine r_istore (pc2 := 59) dX8_entries_57 (by decide) rfl rfl ?_
            refine r_iload (pc2 := 61) dX8_entries_59 rfl rfl ?_
            refine r_if0N_eq (pc2 := 64) (tgt := 129) (by omega) dX8_entries_61 (by decide) rfl (fun c61 => ?_) (fun c61 => ?_)
            · skip
              exact absurd c61 (by decide)
            · skip
              refine r_iload_n (pc2 := 65) dX8_entries_64 rfl rfl ?_
              refine r_if0N_eq (pc2 := 68) (tgt := 125) (by omega) dX8_entries_65 (by decide) rfl (fun c65 => ?_) (fun c65 => ?_)
              · skip
                refine r_iconst (pc2 := 126) (nI 1) dX8_entries_125 (by decide) rfl ?_
                refine r_goto (pc2 := 130) dX8_entries_126 (by decide) ?_
                refine r_istore (pc2 := 132) dX8_entries_130 (by decide) rfl rfl ?_
                refine r_iload (pc2 := 134) dX8_entries_132 rfl rfl ?_
                refine r_iload (pc2 := 136) dX8_entries_134 rfl rfl ?_
                refine r_if0N_eq (pc2 := 139) (tgt := 143) (by omega) dX8_entries_136 (by decide) rfl (fun c136 => ?_) (fun c136 => ?_)
                · skip
                  exact absurd c136 (by decide)
                · skip
                  refine r_iconst (pc2 := 140) (nI 1) dX8_entries_139 (by decide) rfl ?_
                  refine r_goto (pc2 := 144) dX8_entries_140 (by decide) ?_
                  refine r_iaddN (pc2 := 145) dX8_entries_144 rfl ?_
                  refine r_istore (pc2 := 147) dX8_entries_145 (by decide) rfl rfl ?_
                  refine r_iincN (pc2 := 150) dX8_entries_147 rfl (by decide) rfl rfl ?_
                  refine r_goto (pc2 := 26) dX8_entries_150 (by decide) ?_
                  exact Rc_.to (lo' := (fun c : Nat => [some (vR 0 33), some (vI (nI i)), some (vI (nI j)), some (vI (nI w)), some (vI (nI ((cnt_ (cu_ s (V 0 37 6) n i j w) c)))), some (vI (nI c)), none]) (c + 1)) (rfl) ⟨rfl, rfl, rfl, rfl, (congrArg (fun z => some (vI (nI z))) (by first | (exfalso; omega) | (rw [cnt_t (p := cu_ s (V 0 37 6) n i j w) (n := c) (by unfold cu_; rw [c49]; rw [if_pos c65]; rfl)]; first | done | rfl))), rfl, trivial⟩ (ih26 (by omega))
              · skip
                refine r_iload_n (pc2 := 69) dX8_entries_68 rfl rfl ?_
                refine r_iconst (pc2 := 70) (nI 1) dX8_entries_69 (by decide) rfl ?_
                refine r_icN_ne (pc2 := 73) (tgt := 84) (by omega) (by omega) dX8_entries_70 (by decide) rfl (fun c70 => ?_) (fun c70 => ?_)
                · skip
                  refine r_iload_n (pc2 := 85) dX8_entries_84 rfl rfl ?_
                  refine r_iconst (pc2 := 86) (nI 2) dX8_entries_85 (by decide) rfl ?_
                  refine r_icN_ne (pc2 := 89) (tgt := 100) (by omega) (by omega) dX8_entries_86 (by decide) rfl (fun c86 => ?_) (fun c86 => ?_)
                  · skip
                    refine r_iload_n (pc2 := 101) dX8_entries_100 rfl rfl ?_
                    refine r_iconst (pc2 := 102) (nI 3) dX8_entries_101 (by decide) rfl ?_
                    refine r_icN_ne (pc2 := 105) (tgt := 129) (by omega) (by omega) dX8_entries_102 (by decide) rfl (fun c102 => ?_) (fun c102 => ?_)
                    · skip
                      refine r_iconst (pc2 := 130) (nI 0) dX8_entries_129 (by decide) rfl ?_
                      refine r_istore (pc2 := 132) dX8_entries_130 (by decide) rfl rfl ?_
                      refine r_iload (pc2 := 134) dX8_entries_132 rfl rfl ?_
                      refine r_iload (pc2 := 136) dX8_entries_134 rfl rfl ?_
                      refine r_if0N_eq (pc2 := 139) (tgt := 143) (by omega) dX8_entries_136 (by decide) rfl (fun c136 => ?_) (fun c136 => ?_)
                      · skip
                        refine r_iconst (pc2 := 144) (nI 0) dX8_entries_143 (by decide) rfl ?_
                        refine r_iaddN (pc2 := 145) dX8_entries_144 rfl ?_
                        refine r_istore (pc2 := 147) dX8_entries_145 (by decide) rfl rfl ?_
                        refine r_iincN (pc2 := 150) dX8_entries_147 rfl (by decide) rfl rfl ?_
                        refine r_goto (pc2 := 26) dX8_entries_150 (by decide) ?_
                        exact Rc_.to (lo' := (fun c : Nat => [some (vR 0 33), some (vI (nI i)), some (vI (nI j)), some (vI (nI w)), some (vI (nI ((cnt_ (cu_ s (V 0 37 6) n i j w) c)))), some (vI (nI c)), none]) (c + 1)) (rfl) ⟨rfl, rfl, rfl, rfl, (congrArg (fun z => some (vI (nI z))) (by first | (exfalso; omega) | (rw [cnt_f (p := cu_ s (V 0 37 6) n i j w) (n := c) (by unfold cu_; rw [c49]; rw [if_pos c65]; rfl)]; first | done | rfl))), rfl, trivial⟩ (ih26 (by omega))
                      · skip
                        exact absurd rfl c136
                    · skip
                      refine r_aload_n (pc2 := 106) dX8_entries_105 rfl rfl ?_
                      refine r_getR (pc2 := 109) dX8_entries_106 fl_X8_13 (by decide) rfl rfl rfl ?_
                      refine r_sipush (pc2 := 112) (nI 3593) dX8_entries_109 (by decide) rfl ?_
                      refine r_ialde (pc2 := 113) (x := ((s 0 1))) (j := _) (h.tm) dX8_entries_112 (by decide) rfl rfl (rfl) (by show _ < 3596; omega) rfl ?_
                      refine r_aload_n (pc2 := 114) dX8_entries_113 rfl rfl ?_
                      refine r_iload_n (pc2 := 115) dX8_entries_114 rfl rfl ?_
                      refine r_iload_n (pc2 := 116) dX8_entries_115 rfl rfl ?_
                      refine r_iload (pc2 := 118) dX8_entries_116 rfl rfl ?_
                      refine r_iconst (pc2 := 119) (nI 5) dX8_entries_118 (by decide) rfl ?_
                      refine r_cv4p (pc2 := 122) dX8_entries_119 st_X8_entries_85 rl_X8_of (Nat.le_of_ble_eq_true rfl) rfl (c_X8_of h (by omega) (by omega) (by omega) (w := 5) (r := 11) (by omega) (by omega) rfl) ?_
                      refine r_ic_gt (pc2 := 125) (tgt := 129) dX8_entries_122 (by decide) rfl (fun c122 => ?_) (fun c122 => ?_)
                      · skip
                        refine r_iconst (pc2 := 130) (nI 0) dX8_entries_129 (by decide) rfl ?_
                        refine r_istore (pc2 := 132) dX8_entries_130 (by decide) rfl rfl ?_
                        refine r_iload (pc2 := 134) dX8_entries_132 rfl rfl ?_
                        refine r_iload (pc2 := 136) dX8_entries_134 rfl rfl ?_
                        refine r_if0N_eq (pc2 := 139) (tgt := 143) (by omega) dX8_entries_136 (by decide) rfl (fun c136 => ?_) (fun c136 => ?_)
                        · skip
                          refine r_iconst (pc2 := 144) (nI 0) dX8_entries_143 (by decide) rfl ?_
                          refine r_iaddN (pc2 := 145) dX8_entries_144 rfl ?_
                          refine r_istore (pc2 := 147) dX8_entries_145 (by decide) rfl rfl ?_
                          refine r_iincN (pc2 := 150) dX8_entries_147 rfl (by decide) rfl rfl ?_
                          refine r_goto (pc2 := 26) dX8_entries_150 (by decide) ?_
                          exact Rc_.to (lo' := (fun c : Nat => [some (vR 0 33), some (vI (nI i)), some (vI (nI j)), some (vI (nI w)), some (vI (nI ((cnt_ (cu_ s (V 0 37 6) n i j w) c)))), some (vI (nI c)), none]) (c + 1)) (rfl) ⟨rfl, rfl, rfl, rfl, (congrArg (fun z => some (vI (nI z))) (by first | (exfalso; omega) | (rw [cnt_f (p := cu_ s (V 0 37 6) n i j w) (n := c) (by unfold cu_; rw [c49]; rw [if_pos c65]; rfl)]; first | done | rfl) | (rw [cnt_f (p := cu_ s (V 0 37 6) n i j w) (n := c) (by unfold cu_; rw [c49]; rw [if_neg (by omega), if_neg (by omega), if_neg (by omega)]; exact (by rw [decide_eq_false (Int32.not_le.mpr c122)]; rfl))]; first | done | rfl))), rfl, trivial⟩ (ih26 (by omega))
                        · skip
                          exact absurd rfl c136
                      · skip
                        refine r_iconst (pc2 := 126) (nI 1) dX8_entries_125 (by decide) rfl ?_
                        refine r_goto (pc2 := 130) dX8_entries_126 (by decide) ?_
                        refine r_istore (pc2 := 132) dX8_entries_130 (by decide) rfl rfl ?_
                        refine r_iload (pc2 := 134) dX8_entries_132 rfl rfl ?_
                        refine r_iload (pc2 := 136) dX8_entries_134 rfl rfl ?_
                        refine r_if0N_eq (pc2 := 139) (tgt := 143) (by omega) dX8_entries_136 (by decide) rfl (fun c136 => ?_) (fun c136 => ?_)
                        · skip
                          exact absurd c136 (by decide)
                        · skip
                          refine r_iconst (pc2 := 140) (nI 1) dX8_entries_139 (by decide) rfl ?_
                          refine r_goto (pc2 := 144) dX8_entries_140 (by decide) ?_
                          refine r_iaddN (pc2 := 145) dX8_entries_144 rfl ?_
                          refine r_istore (pc2 := 147) dX8_entries_145 (by decide) rfl rfl ?_
                          refine r_iincN (pc2 := 150) dX8_entries_147 rfl (by decide) rfl rfl ?_
                          refine r_goto (pc2 := 26) dX8_entries_150 (by decide) ?_
                          exact Rc_.to (lo' := (fun c : Nat => [some (vR 0 33), some (vI (nI i)), some (vI (nI j)), some (vI (nI w)), some (vI (nI ((cnt_ (cu_ s (V 0 37 6) n i j w) c)))), some (vI (nI c)), none]) (c + 1)) (rfl) ⟨rfl, rfl, rfl, rfl, (congrArg (fun z => some (vI (nI z))) (by first | (exfalso; omega) | (rw [cnt_t (p := cu_ s (V 0 37 6) n i j w) (n := c) (by unfold cu_; rw [c49]; rw [if_pos c65]; rfl)]; first | done | rfl) | (rw [cnt_t (p := cu_ s (V 0 37 6) n i j w) (n := c) (by unfold cu_; rw [c49]; rw [if_neg (by omega), if_neg (by omega), if_neg (by omega)]; exact (by rw [decide_eq_true (Int32.not_lt.mp c122)]; rfl))]; first | done | rfl))), rfl, trivial⟩ (ih26 (by omega))
                  · skip
                    refine r_aload_n (pc2 := 90) dX8_entries_89 rfl rfl ?_
                    refine r_iload_n (pc2 := 91) dX8_entries_90 rfl rfl ?_
                    refine r_iload_n (pc2 := 92) dX8_entries_91 rfl rfl ?_
                    refine r_iload (pc2 := 94) dX8_entries_92 rfl rfl ?_
                    refine r_cv3p (pc2 := 97) dX8_entries_94 st_X8_entries_145 rl_X8_isDominated (Nat.le_of_ble_eq_true rfl) rfl (c_X8_isDominated h hm hn8 (by omega) (by omega) (by omega)) ?_
                    refine r_ifB_ne (pc2 := 100) (tgt := 125) dX8_entries_97 (by decide) rfl (fun c97 => ?_) (fun c97 => ?_)
                    · skip
                      refine r_iconst (pc2 := 126) (nI 1) dX8_entries_125 (by decide) rfl ?_
                      refine r_goto (pc2 := 130) dX8_entries_126 (by decide) ?_
                      refine r_istore (pc2 := 132) dX8_entries_130 (by decide) rfl rfl ?_
                      refine r_iload (pc2 := 134) dX8_entries_132 rfl rfl ?_
                      refine r_iload (pc2 := 136) dX8_entries_134 rfl rfl ?_
                      refine r_if0N_eq (pc2 := 139) (tgt := 143) (by omega) dX8_entries_136 (by decide) rfl (fun c136 => ?_) (fun c136 => ?_)
                      · skip
                        exact absurd c136 (by decide)
                      · skip
                        refine r_iconst (pc2 := 140) (nI 1) dX8_entries_139 (by decide) rfl ?_
                        refine r_goto (pc2 := 144) dX8_entries_140 (by decide) ?_
                        refine r_iaddN (pc2 := 145) dX8_entries_144 rfl ?_
                        refine r_istore (pc2 := 147) dX8_entries_145 (by decide) rfl rfl ?_
                        refine r_iincN (pc2 := 150) dX8_entries_147 rfl (by decide) rfl rfl ?_
                        refine r_goto (pc2 := 26) dX8_entries_150 (by decide) ?_
                        exact Rc_.to (lo' := (fun c : Nat => [some (vR 0 33), some (vI (nI i)), some (vI (nI j)), some (vI (nI w)), some (vI (nI ((cnt_ (cu_ s (V 0 37 6) n i j w) c)))), some (vI (nI c)), none]) (c + 1)) (rfl) ⟨rfl, rfl, rfl, rfl, (congrArg (fun z => some (vI (nI z))) (by first | (exfalso; omega) | (rw [cnt_t (p := cu_ s (V 0 37 6) n i j w) (n := c) (by unfold cu_; rw [c49]; rw [if_pos c65]; rfl)]; first | done | rfl) | (rw [cnt_t (p := cu_ s (V 0 37 6) n i j w) (n := c) (by unfold cu_; rw [c49]; rw [if_neg (by omega), if_neg (by omega), if_pos (by omega), c97]; rfl)]; first | done | rfl))), rfl, trivial⟩ (ih26 (by omega))
                    · skip
                      refine r_iload_n (pc2 := 101) dX8_entries_100 rfl rfl ?_
                      refine r_iconst (pc2 := 102) (nI 3) dX8_entries_101 (by decide) rfl ?_
                      refine r_icN_ne (pc2 := 105) (tgt := 129) (by omega) (by omega) dX8_entries_102 (by decide) rfl (fun c102 => ?_) (fun c102 => ?_)
                      · skip
                        refine r_iconst (pc2 := 130) (nI 0) dX8_entries_129 (by decide) rfl ?_
                        refine r_istore (pc2 := 132) dX8_entries_130 (by decide) rfl rfl ?_
                        refine r_iload (pc2 := 134) dX8_entries_132 rfl rfl ?_
                        refine r_iload (pc2 := 136) dX8_entries_134 rfl rfl ?_
                        refine r_if0N_eq (pc2 := 139) (tgt := 143) (by omega) dX8_entries_136 (by decide) rfl (fun c136 => ?_) (fun c136 => ?_)
                        · skip
                          refine r_iconst (pc2 := 144) (nI 0) dX8_entries_143 (by decide) rfl ?_
                          refine r_iaddN (pc2 := 145) dX8_entries_144 rfl ?_
                          refine r_istore (pc2 := 147) dX8_entries_145 (by decide) rfl rfl ?_
                          refine r_iincN (pc2 := 150) dX8_entries_147 rfl (by decide) rfl rfl ?_
                          refine r_goto (pc2 := 26) dX8_entries_150 (by decide) ?_
                          exact Rc_.to (lo' := (fun c : Nat => [some (vR 0 33), some (vI (nI i)), some (vI (nI j)), some (vI (nI w)), some (vI (nI ((cnt_ (cu_ s (V 0 37 6) n i j w) c)))), some (vI (nI c)), none]) (c + 1)) (rfl) ⟨rfl, rfl, rfl, rfl, (congrArg (fun z => some (vI (nI z))) (by first | (exfalso; omega) | (rw [cnt_f (p := cu_ s (V 0 37 6) n i j w) (n := c) (by unfold cu_; rw [c49]; rw [if_pos c65]; rfl)]; first | done | rfl) | (rw [cnt_f (p := cu_ s (V 0 37 6) n i j w) (n := c) (by unfold cu_; rw [c49]; rw [if_neg (by omega), if_neg (by omega), if_pos (by omega), c97]; rfl)]; first | done | rfl))), rfl, trivial⟩ (ih26 (by omega))
                        · skip
                          exact absurd rfl c136
                      · skip
                        refine r_aload_n (pc2 := 106) dX8_entries_105 rfl rfl ?_
                        refine r_getR (pc2 := 109) dX8_entries_106 fl_X8_13 (by decide) rfl rfl rfl ?_
                        refine r_sipush (pc2 := 112) (nI 3593) dX8_entries_109 (by decide) rfl ?_
                        refine r_ialde (pc2 := 113) (x := ((s 0 1))) (j := _) (h.tm) dX8_entries_112 (by decide) rfl rfl (rfl) (by show _ < 3596; omega) rfl ?_
                        refine r_aload_n (pc2 := 114) dX8_entries_113 rfl rfl ?_
                        refine r_iload_n (pc2 := 115) dX8_entries_114 rfl rfl ?_
                        refine r_iload_n (pc2 := 116) dX8_entries_115 rfl rfl ?_
                        refine r_iload (pc2 := 118) dX8_entries_116 rfl rfl ?_
                        refine r_iconst (pc2 := 119) (nI 5) dX8_entries_118 (by decide) rfl ?_
                        refine r_cv4p (pc2 := 122) dX8_entries_119 st_X8_entries_85 rl_X8_of (Nat.le_of_ble_eq_true rfl) rfl (c_X8_of h (by omega) (by omega) (by omega) (w := 5) (r := 11) (by omega) (by omega) rfl) ?_
                        refine r_ic_gt (pc2 := 125) (tgt := 129) dX8_entries_122 (by decide) rfl (fun c122 => ?_) (fun c122 => ?_)
                        · skip
                          refine r_iconst (pc2 := 130) (nI 0) dX8_entries_129 (by decide) rfl ?_
                          refine r_istore (pc2 := 132) dX8_entries_130 (by decide) rfl rfl ?_
                          refine r_iload (pc2 := 134) dX8_entries_132 rfl rfl ?_
                          refine r_iload (pc2 := 136) dX8_entries_134 rfl rfl ?_
                          refine r_if0N_eq (pc2 := 139) (tgt := 143) (by omega) dX8_entries_136 (by decide) rfl (fun c136 => ?_) (fun c136 => ?_)
                          · skip
                            refine r_iconst (pc2 := 144) (nI 0) dX8_entries_143 (by decide) rfl ?_
                            refine r_iaddN (pc2 := 145) dX8_entries_144 rfl ?_
                            refine r_istore (pc2 := 147) dX8_entries_145 (by decide) rfl rfl ?_
                            refine r_iincN (pc2 := 150) dX8_entries_147 rfl (by decide) rfl rfl ?_
                            refine r_goto (pc2 := 26) dX8_entries_150 (by decide) ?_
                            exact Rc_.to (lo' := (fun c : Nat => [some (vR 0 33), some (vI (nI i)), some (vI (nI j)), some (vI (nI w)), some (vI (nI ((cnt_ (cu_ s (V 0 37 6) n i j w) c)))), some (vI (nI c)), none]) (c + 1)) (rfl) ⟨rfl, rfl, rfl, rfl, (congrArg (fun z => some (vI (nI z))) (by first | (exfalso; omega) | (rw [cnt_f (p := cu_ s (V 0 37 6) n i j w) (n := c) (by unfold cu_; rw [c49]; rw [if_pos c65]; rfl)]; first | done | rfl) | (rw [cnt_f (p := cu_ s (V 0 37 6) n i j w) (n := c) (by unfold cu_; rw [c49]; rw [if_neg (by omega), if_neg (by omega), if_pos (by omega), c97]; rfl)]; first | done | rfl) | (rw [cnt_f (p := cu_ s (V 0 37 6) n i j w) (n := c) (by unfold cu_; rw [c49]; rw [if_neg (by omega), if_neg (by omega), if_neg (by omega)]; exact (by rw [decide_eq_false (Int32.not_le.mpr c122)]; rfl))]; first | done | rfl))), rfl, trivial⟩ (ih26 (by omega))
                          · skip
                            exact absurd rfl c136
                        · skip
                          refine r_iconst (pc2 := 126) (nI 1) dX8_entries_125 (by decide) rfl ?_
                          refine r_goto (pc2 := 130) dX8_entries_126 (by decide) ?_
                          refine r_istore (pc2 := 132) dX8_entries_130 (by decide) rfl rfl ?_
                          refine r_iload (pc2 := 134) dX8_entries_132 rfl rfl ?_
                          refine r_iload (pc2 := 136) dX8_entries_134 rfl rfl ?_
                          refine r_if0N_eq (pc2 := 139) (tgt := 143) (by omega) dX8_entries_136 (by decide) rfl (fun c136 => ?_) (fun c136 => ?_)
                          · skip
                            exact absurd c136 (by decide)
                          · skip
                            refine r_iconst (pc2 := 140) (nI 1) dX8_entries_139 (by decide) rfl ?_
                            refine r_goto (pc2 := 144) dX8_entries_140 (by decide) ?_
                            refine r_iaddN (pc2 := 145) dX8_entries_144 rfl ?_
                            refine r_istore (pc2 := 147) dX8_entries_145 (by decide) rfl rfl ?_
                            refine r_iincN (pc2 := 150) dX8_entries_147 rfl (by decide) rfl rfl ?_
                            refine r_goto (pc2 := 26) dX8_entries_150 (by decide) ?_
                            exact Rc_.to (lo' := (fun c : Nat => [some (vR 0 33), some (vI (nI i)), some (vI (nI j)), some (vI (nI w)), some (vI (nI ((cnt_ (cu_ s (V 0 37 6) n i j w) c)))), some (vI (nI c)), none]) (c + 1)) (rfl) ⟨rfl, rfl, rfl, rfl, (congrArg (fun z => some (vI (nI z))) (by first | (exfalso; omega) | (rw [cnt_t (p := cu_ s (V 0 37 6) n i j w) (n := c) (by unfold cu_; rw [c49]; rw [if_pos c65]; rfl)]; first | done | rfl) | (rw [cnt_t (p := cu_ s (V 0 37 6) n i j w) (n := c) (by unfold cu_; rw [c49]; rw [if_neg (by omega), if_neg (by omega), if_pos (by omega), c97]; rfl)]; first | done | rfl) | (rw [cnt_t (p := cu_ s (V 0 37 6) n i j w) (n := c) (by unfold cu_; rw [c49]; rw [if_neg (by omega), if_neg (by omega), if_neg (by omega)]; exact (by rw [decide_eq_true (Int32.not_lt.mp c122)]; rfl))]; first | done | rfl))), rfl, trivial⟩ (ih26 (by omega))
                · skip
                  refine r_aload_n (pc2 := 74) dX8_entries_73 rfl rfl ?_
                  refine r_iload_n (pc2 := 75) dX8_entries_74 rfl rfl ?_
                  refine r_iload_n (pc2 := 76) dX8_entries_75 rfl rfl ?_
                  refine r_iload (pc2 := 78) dX8_entries_76 rfl rfl ?_
                  refine r_cv3p (pc2 := 81) dX8_entries_78 st_X8_entries_94 rl_X8_isUsable (Nat.le_of_ble_eq_true rfl) rfl (c_X8_isUsable h (by omega) (by omega) (by omega)) ?_
                  refine r_ifB_ne (pc2 := 84) (tgt := 125) dX8_entries_81 (by decide) rfl (fun c81 => ?_) (fun c81 => ?_)
                  · skip
                    refine r_iconst (pc2 := 126) (nI 1) dX8_entries_125 (by decide) rfl ?_
                    refine r_goto (pc2 := 130) dX8_entries_126 (by decide) ?_
                    refine r_istore (pc2 := 132) dX8_entries_130 (by decide) rfl rfl ?_
                    refine r_iload (pc2 := 134) dX8_entries_132 rfl rfl ?_
                    refine r_iload (pc2 := 136) dX8_entries_134 rfl rfl ?_
                    refine r_if0N_eq (pc2 := 139) (tgt := 143) (by omega) dX8_entries_136 (by decide) rfl (fun c136 => ?_) (fun c136 => ?_)
                    · skip
                      exact absurd c136 (by decide)
                    · skip
                      refine r_iconst (pc2 := 140) (nI 1) dX8_entries_139 (by decide) rfl ?_
                      refine r_goto (pc2 := 144) dX8_entries_140 (by decide) ?_
                      refine r_iaddN (pc2 := 145) dX8_entries_144 rfl ?_
                      refine r_istore (pc2 := 147) dX8_entries_145 (by decide) rfl rfl ?_
                      refine r_iincN (pc2 := 150) dX8_entries_147 rfl (by decide) rfl rfl ?_
                      refine r_goto (pc2 := 26) dX8_entries_150 (by decide) ?_
                      exact Rc_.to (lo' := (fun c : Nat => [some (vR 0 33), some (vI (nI i)), some (vI (nI j)), some (vI (nI w)), some (vI (nI ((cnt_ (cu_ s (V 0 37 6) n i j w) c)))), some (vI (nI c)), none]) (c + 1)) (rfl) ⟨rfl, rfl, rfl, rfl, (congrArg (fun z => some (vI (nI z))) (by first | (exfalso; omega) | (rw [cnt_t (p := cu_ s (V 0 37 6) n i j w) (n := c) (by unfold cu_; rw [c49]; rw [if_pos c65]; rfl)]; first | done | rfl) | (rw [cnt_t (p := cu_ s (V 0 37 6) n i j w) (n := c) (by unfold cu_; rw [c49]; rw [if_neg (by omega), if_pos (by omega), c81]; rfl)]; first | done | rfl))), rfl, trivial⟩ (ih26 (by omega))
                  · skip
                    refine r_iload_n (pc2 := 85) dX8_entries_84 rfl rfl ?_
                    refine r_iconst (pc2 := 86) (nI 2) dX8_entries_85 (by decide) rfl ?_
                    refine r_icN_ne (pc2 := 89) (tgt := 100) (by omega) (by omega) dX8_entries_86 (by decide) rfl (fun c86 => ?_) (fun c86 => ?_)
                    · skip
                      refine r_iload_n (pc2 := 101) dX8_entries_100 rfl rfl ?_
                      refine r_iconst (pc2 := 102) (nI 3) dX8_entries_101 (by decide) rfl ?_
                      refine r_icN_ne (pc2 := 105) (tgt := 129) (by omega) (by omega) dX8_entries_102 (by decide) rfl (fun c102 => ?_) (fun c102 => ?_)
                      · skip
                        refine r_iconst (pc2 := 130) (nI 0) dX8_entries_129 (by decide) rfl ?_
                        refine r_istore (pc2 := 132) dX8_entries_130 (by decide) rfl rfl ?_
                        refine r_iload (pc2 := 134) dX8_entries_132 rfl rfl ?_
                        refine r_iload (pc2 := 136) dX8_entries_134 rfl rfl ?_
                        refine r_if0N_eq (pc2 := 139) (tgt := 143) (by omega) dX8_entries_136 (by decide) rfl (fun c136 => ?_) (fun c136 => ?_)
                        · skip
                          refine r_iconst (pc2 := 144) (nI 0) dX8_entries_143 (by decide) rfl ?_
                          refine r_iaddN (pc2 := 145) dX8_entries_144 rfl ?_
                          refine r_istore (pc2 := 147) dX8_entries_145 (by decide) rfl rfl ?_
                          refine r_iincN (pc2 := 150) dX8_entries_147 rfl (by decide) rfl rfl ?_
                          refine r_goto (pc2 := 26) dX8_entries_150 (by decide) ?_
                          exact Rc_.to (lo' := (fun c : Nat => [some (vR 0 33), some (vI (nI i)), some (vI (nI j)), some (vI (nI w)), some (vI (nI ((cnt_ (cu_ s (V 0 37 6) n i j w) c)))), some (vI (nI c)), none]) (c + 1)) (rfl) ⟨rfl, rfl, rfl, rfl, (congrArg (fun z => some (vI (nI z))) (by first | (exfalso; omega) | (rw [cnt_f (p := cu_ s (V 0 37 6) n i j w) (n := c) (by unfold cu_; rw [c49]; rw [if_pos c65]; rfl)]; first | done | rfl) | (rw [cnt_f (p := cu_ s (V 0 37 6) n i j w) (n := c) (by unfold cu_; rw [c49]; rw [if_neg (by omega), if_pos (by omega), c81]; rfl)]; first | done | rfl))), rfl, trivial⟩ (ih26 (by omega))
                        · skip
                          exact absurd rfl c136
                      · skip
                        refine r_aload_n (pc2 := 106) dX8_entries_105 rfl rfl ?_
                        refine r_getR (pc2 := 109) dX8_entries_106 fl_X8_13 (by decide) rfl rfl rfl ?_
                        refine r_sipush (pc2 := 112) (nI 3593) dX8_entries_109 (by decide) rfl ?_
                        refine r_ialde (pc2 := 113) (x := ((s 0 1))) (j := _) (h.tm) dX8_entries_112 (by decide) rfl rfl (rfl) (by show _ < 3596; omega) rfl ?_
                        refine r_aload_n (pc2 := 114) dX8_entries_113 rfl rfl ?_
                        refine r_iload_n (pc2 := 115) dX8_entries_114 rfl rfl ?_
                        refine r_iload_n (pc2 := 116) dX8_entries_115 rfl rfl ?_
                        refine r_iload (pc2 := 118) dX8_entries_116 rfl rfl ?_
                        refine r_iconst (pc2 := 119) (nI 5) dX8_entries_118 (by decide) rfl ?_
                        refine r_cv4p (pc2 := 122) dX8_entries_119 st_X8_entries_85 rl_X8_of (Nat.le_of_ble_eq_true rfl) rfl (c_X8_of h (by omega) (by omega) (by omega) (w := 5) (r := 11) (by omega) (by omega) rfl) ?_
                        refine r_ic_gt (pc2 := 125) (tgt := 129) dX8_entries_122 (by decide) rfl (fun c122 => ?_) (fun c122 => ?_)
                        · skip
                          refine r_iconst (pc2 := 130) (nI 0) dX8_entries_129 (by decide) rfl ?_
                          refine r_istore (pc2 := 132) dX8_entries_130 (by decide) rfl rfl ?_
                          refine r_iload (pc2 := 134) dX8_entries_132 rfl rfl ?_
                          refine r_iload (pc2 := 136) dX8_entries_134 rfl rfl ?_
                          refine r_if0N_eq (pc2 := 139) (tgt := 143) (by omega) dX8_entries_136 (by decide) rfl (fun c136 => ?_) (fun c136 => ?_)
                          · skip
                            refine r_iconst (pc2 := 144) (nI 0) dX8_entries_143 (by decide) rfl ?_
                            refine r_iaddN (pc2 := 145) dX8_entries_144 rfl ?_
                            refine r_istore (pc2 := 147) dX8_entries_145 (by decide) rfl rfl ?_
                            refine r_iincN (pc2 := 150) dX8_entries_147 rfl (by decide) rfl rfl ?_
                            refine r_goto (pc2 := 26) dX8_entries_150 (by decide) ?_
                            exact Rc_.to (lo' := (fun c : Nat => [some (vR 0 33), some (vI (nI i)), some (vI (nI j)), some (vI (nI w)), some (vI (nI ((cnt_ (cu_ s (V 0 37 6) n i j w) c)))), some (vI (nI c)), none]) (c + 1)) (rfl) ⟨rfl, rfl, rfl, rfl, (congrArg (fun z => some (vI (nI z))) (by first | (exfalso; omega) | (rw [cnt_f (p := cu_ s (V 0 37 6) n i j w) (n := c) (by unfold cu_; rw [c49]; rw [if_pos c65]; rfl)]; first | done | rfl) | (rw [cnt_f (p := cu_ s (V 0 37 6) n i j w) (n := c) (by unfold cu_; rw [c49]; rw [if_neg (by omega), if_pos (by omega), c81]; rfl)]; first | done | rfl) | (rw [cnt_f (p := cu_ s (V 0 37 6) n i j w) (n := c) (by unfold cu_; rw [c49]; rw [if_neg (by omega), if_neg (by omega), if_neg (by omega)]; exact (by rw [decide_eq_false (Int32.not_le.mpr c122)]; rfl))]; first | done | rfl))), rfl, trivial⟩ (ih26 (by omega))
                          · skip
                            exact absurd rfl c136
                        · skip
                          refine r_iconst (pc2 := 126) (nI 1) dX8_entries_125 (by decide) rfl ?_
                          refine r_goto (pc2 := 130) dX8_entries_126 (by decide) ?_
                          refine r_istore (pc2 := 132) dX8_entries_130 (by decide) rfl rfl ?_
                          refine r_iload (pc2 := 134) dX8_entries_132 rfl rfl ?_
                          refine r_iload (pc2 := 136) dX8_entries_134 rfl rfl ?_
                          refine r_if0N_eq (pc2 := 139) (tgt := 143) (by omega) dX8_entries_136 (by decide) rfl (fun c136 => ?_) (fun c136 => ?_)
                          · skip
                            exact absurd c136 (by decide)
                          · skip
                            refine r_iconst (pc2 := 140) (nI 1) dX8_entries_139 (by decide) rfl ?_
                            refine r_goto (pc2 := 144) dX8_entries_140 (by decide) ?_
                            refine r_iaddN (pc2 := 145) dX8_entries_144 rfl ?_
                            refine r_istore (pc2 := 147) dX8_entries_145 (by decide) rfl rfl ?_
                            refine r_iincN (pc2 := 150) dX8_entries_147 rfl (by decide) rfl rfl ?_
                            refine r_goto (pc2 := 26) dX8_entries_150 (by decide) ?_
                            exact Rc_.to (lo' := (fun c : Nat => [some (vR 0 33), some (vI (nI i)), some (vI (nI j)), some (vI (nI w)), some (vI (nI ((cnt_ (cu_ s (V 0 37 6) n i j w) c)))), some (vI (nI c)), none]) (c + 1)) (rfl) ⟨rfl, rfl, rfl, rfl, (congrArg (fun z => some (vI (nI z))) (by first | (exfalso; omega) | (rw [cnt_t (p := cu_ s (V 0 37 6) n i j w) (n := c) (by unfold cu_; rw [c49]; rw [if_pos c65]; rfl)]; first | done | rfl) | (rw [cnt_t (p := cu_ s (V 0 37 6) n i j w) (n := c) (by unfold cu_; rw [c49]; rw [if_neg (by omega), if_pos (by omega), c81]; rfl)]; first | done | rfl) | (rw [cnt_t (p := cu_ s (V 0 37 6) n i j w) (n := c) (by unfold cu_; rw [c49]; rw [if_neg (by omega), if_neg (by omega), if_neg (by omega)]; exact (by rw [decide_eq_true (Int32.not_lt.mp c122)]; rfl))]; first | done | rfl))), rfl, trivial⟩ (ih26 (by omega))
                    · skip
                      refine r_aload_n (pc2 := 90) dX8_entries_89 rfl rfl ?_
                      refine r_iload_n (pc2 := 91) dX8_entries_90 rfl rfl ?_
                      refine r_iload_n (pc2 := 92) dX8_entries_91 rfl rfl ?_
                      refine r_iload (pc2 := 94) dX8_entries_92 rfl rfl ?_
                      refine r_cv3p (pc2 := 97) dX8_entries_94 st_X8_entries_145 rl_X8_isDominated (Nat.le_of_ble_eq_true rfl) rfl (c_X8_isDominated h hm hn8 (by omega) (by omega) (by omega)) ?_
                      refine r_ifB_ne (pc2 := 100) (tgt := 125) dX8_entries_97 (by decide) rfl (fun c97 => ?_) (fun c97 => ?_)
                      · skip
                        refine r_iconst (pc2 := 126) (nI 1) dX8_entries_125 (by decide) rfl ?_
                        refine r_goto (pc2 := 130) dX8_entries_126 (by decide) ?_
                        refine r_istore (pc2 := 132) dX8_entries_130 (by decide) rfl rfl ?_
                        refine r_iload (pc2 := 134) dX8_entries_132 rfl rfl ?_
                        refine r_iload (pc2 := 136) dX8_entries_134 rfl rfl ?_
                        refine r_if0N_eq (pc2 := 139) (tgt := 143) (by omega) dX8_entries_136 (by decide) rfl (fun c136 => ?_) (fun c136 => ?_)
                        · skip
                          exact absurd c136 (by decide)
                        · skip
                          refine r_iconst (pc2 := 140) (nI 1) dX8_entries_139 (by decide) rfl ?_
                          refine r_goto (pc2 := 144) dX8_entries_140 (by decide) ?_
                          refine r_iaddN (pc2 := 145) dX8_entries_144 rfl ?_
                          refine r_istore (pc2 := 147) dX8_entries_145 (by decide) rfl rfl ?_
                          refine r_iincN (pc2 := 150) dX8_entries_147 rfl (by decide) rfl rfl ?_
                          refine r_goto (pc2 := 26) dX8_entries_150 (by decide) ?_
                          exact Rc_.to (lo' := (fun c : Nat => [some (vR 0 33), some (vI (nI i)), some (vI (nI j)), some (vI (nI w)), some (vI (nI ((cnt_ (cu_ s (V 0 37 6) n i j w) c)))), some (vI (nI c)), none]) (c + 1)) (rfl) ⟨rfl, rfl, rfl, rfl, (congrArg (fun z => some (vI (nI z))) (by first | (exfalso; omega) | (rw [cnt_t (p := cu_ s (V 0 37 6) n i j w) (n := c) (by unfold cu_; rw [c49]; rw [if_pos c65]; rfl)]; first | done | rfl) | (rw [cnt_t (p := cu_ s (V 0 37 6) n i j w) (n := c) (by unfold cu_; rw [c49]; rw [if_neg (by omega), if_pos (by omega), c81]; rfl)]; first | done | rfl) | (rw [cnt_t (p := cu_ s (V 0 37 6) n i j w) (n := c) (by unfold cu_; rw [c49]; rw [if_neg (by omega), if_neg (by omega), if_pos (by omega), c97]; rfl)]; first | done | rfl))), rfl, trivial⟩ (ih26 (by omega))
                      · skip
                        refine r_iload_n (pc2 := 101) dX8_entries_100 rfl rfl ?_
                        refine r_iconst (pc2 := 102) (nI 3) dX8_entries_101 (by decide) rfl ?_
                        refine r_icN_ne (pc2 := 105) (tgt := 129) (by omega) (by omega) dX8_entries_102 (by decide) rfl (fun c102 => ?_) (fun c102 => ?_)
                        · skip
                          refine r_iconst (pc2 := 130) (nI 0) dX8_entries_129 (by decide) rfl ?_
                          refine r_istore (pc2 := 132) dX8_entries_130 (by decide) rfl rfl ?_
                          refine r_iload (pc2 := 134) dX8_entries_132 rfl rfl ?_
                          refine r_iload (pc2 := 136) dX8_entries_134 rfl rfl ?_
                          refine r_if0N_eq (pc2 := 139) (tgt := 143) (by omega) dX8_entries_136 (by decide) rfl (fun c136 => ?_) (fun c136 => ?_)
                          · skip
                            refine r_iconst (pc2 := 144) (nI 0) dX8_entries_143 (by decide) rfl ?_
                            refine r_iaddN (pc2 := 145) dX8_entries_144 rfl ?_
                            refine r_istore (pc2 := 147) dX8_entries_145 (by decide) rfl rfl ?_
                            refine r_iincN (pc2 := 150) dX8_entries_147 rfl (by decide) rfl rfl ?_
                            refine r_goto (pc2 := 26) dX8_entries_150 (by decide) ?_
                            exact Rc_.to (lo' := (fun c : Nat => [some (vR 0 33), some (vI (nI i)), some (vI (nI j)), some (vI (nI w)), some (vI (nI ((cnt_ (cu_ s (V 0 37 6) n i j w) c)))), some (vI (nI c)), none]) (c + 1)) (rfl) ⟨rfl, rfl, rfl, rfl, (congrArg (fun z => some (vI (nI z))) (by first | (exfalso; omega) | (rw [cnt_f (p := cu_ s (V 0 37 6) n i j w) (n := c) (by unfold cu_; rw [c49]; rw [if_pos c65]; rfl)]; first | done | rfl) | (rw [cnt_f (p := cu_ s (V 0 37 6) n i j w) (n := c) (by unfold cu_; rw [c49]; rw [if_neg (by omega), if_pos (by omega), c81]; rfl)]; first | done | rfl) | (rw [cnt_f (p := cu_ s (V 0 37 6) n i j w) (n := c) (by unfold cu_; rw [c49]; rw [if_neg (by omega), if_neg (by omega), if_pos (by omega), c97]; rfl)]; first | done | rfl))), rfl, trivial⟩ (ih26 (by omega))
                          · skip
                            exact absurd rfl c136
                        · skip
                          refine r_aload_n (pc2 := 106) dX8_entries_105 rfl rfl ?_
                          refine r_getR (pc2 := 109) dX8_entries_106 fl_X8_13 (by decide) rfl rfl rfl ?_
                          refine r_sipush (pc2 := 112) (nI 3593) dX8_entries_109 (by decide) rfl ?_
                          refine r_ialde (pc2 := 113) (x := ((s 0 1))) (j := _) (h.tm) dX8_entries_112 (by decide) rfl rfl (rfl) (by show _ < 3596; omega) rfl ?_
                          refine r_aload_n (pc2 := 114) dX8_entries_113 rfl rfl ?_
                          refine r_iload_n (pc2 := 115) dX8_entries_114 rfl rfl ?_
                          refine r_iload_n (pc2 := 116) dX8_entries_115 rfl rfl ?_
                          refine r_iload (pc2 := 118) dX8_entries_116 rfl rfl ?_
                          refine r_iconst (pc2 := 119) (nI 5) dX8_entries_118 (by decide) rfl ?_
                          refine r_cv4p (pc2 := 122) dX8_entries_119 st_X8_entries_85 rl_X8_of (Nat.le_of_ble_eq_true rfl) rfl (c_X8_of h (by omega) (by omega) (by omega) (w := 5) (r := 11) (by omega) (by omega) rfl) ?_
                          refine r_ic_gt (pc2 := 125) (tgt := 129) dX8_entries_122 (by decide) rfl (fun c122 => ?_) (fun c122 => ?_)
                          · skip
                            refine r_iconst (pc2 := 130) (nI 0) dX8_entries_129 (by decide) rfl ?_
                            refine r_istore (pc2 := 132) dX8_entries_130 (by decide) rfl rfl ?_
                            refine r_iload (pc2 := 134) dX8_entries_132 rfl rfl ?_
                            refine r_iload (pc2 := 136) dX8_entries_134 rfl rfl ?_
                            refine r_if0N_eq (pc2 := 139) (tgt := 143) (by omega) dX8_entries_136 (by decide) rfl (fun c136 => ?_) (fun c136 => ?_)
                            · skip
                              refine r_iconst (pc2 := 144) (nI 0) dX8_entries_143 (by decide) rfl ?_
                              refine r_iaddN (pc2 := 145) dX8_entries_144 rfl ?_
                              refine r_istore (pc2 := 147) dX8_entries_145 (by decide) rfl rfl ?_
                              refine r_iincN (pc2 := 150) dX8_entries_147 rfl (by decide) rfl rfl ?_
                              refine r_goto (pc2 := 26) dX8_entries_150 (by decide) ?_
                              exact Rc_.to (lo' := (fun c : Nat => [some (vR 0 33), some (vI (nI i)), some (vI (nI j)), some (vI (nI w)), some (vI (nI ((cnt_ (cu_ s (V 0 37 6) n i j w) c)))), some (vI (nI c)), none]) (c + 1)) (rfl) ⟨rfl, rfl, rfl, rfl, (congrArg (fun z => some (vI (nI z))) (by first | (exfalso; omega) | (rw [cnt_f (p := cu_ s (V 0 37 6) n i j w) (n := c) (by unfold cu_; rw [c49]; rw [if_pos c65]; rfl)]; first | done | rfl) | (rw [cnt_f (p := cu_ s (V 0 37 6) n i j w) (n := c) (by unfold cu_; rw [c49]; rw [if_neg (by omega), if_pos (by omega), c81]; rfl)]; first | done | rfl) | (rw [cnt_f (p := cu_ s (V 0 37 6) n i j w) (n := c) (by unfold cu_; rw [c49]; rw [if_neg (by omega), if_neg (by omega), if_pos (by omega), c97]; rfl)]; first | done | rfl) | (rw [cnt_f (p := cu_ s (V 0 37 6) n i j w) (n := c) (by unfold cu_; rw [c49]; rw [if_neg (by omega), if_neg (by omega), if_neg (by omega)]; exact (by rw [decide_eq_false (Int32.not_le.mpr c122)]; rfl))]; first | done | rfl))), rfl, trivial⟩ (ih26 (by omega))
                            · skip
                              exact absurd rfl c136
                          · skip
                            refine r_iconst (pc2 := 126) (nI 1) dX8_entries_125 (by decide) rfl ?_
                            refine r_goto (pc2 := 130) dX8_entries_126 (by decide) ?_
                            refine r_istore (pc2 := 132) dX8_entries_130 (by decide) rfl rfl ?_
                            refine r_iload (pc2 := 134) dX8_entries_132 rfl rfl ?_
                            refine r_iload (pc2 := 136) dX8_entries_134 rfl rfl ?_
                            refine r_if0N_eq (pc2 := 139) (tgt := 143) (by omega) dX8_entries_136 (by decide) rfl (fun c136 => ?_) (fun c136 => ?_)
                            · skip
                              exact absurd c136 (by decide)
                            · skip
                              refine r_iconst (pc2 := 140) (nI 1) dX8_entries_139 (by decide) rfl ?_
                              refine r_goto (pc2 := 144) dX8_entries_140 (by decide) ?_
                              refine r_iaddN (pc2 := 145) dX8_entries_144 rfl ?_
                              refine r_istore (pc2 := 147) dX8_entries_145 (by decide) rfl rfl ?_
                              refine r_iincN (pc2 := 150) dX8_entries_147 rfl (by decide) rfl rfl ?_
                              refine r_goto (pc2 := 26) dX8_entries_150 (by decide) ?_
                              exact Rc_.to (lo' := (fun c : Nat => [some (vR 0 33), some (vI (nI i)), some (vI (nI j)), some (vI (nI w)), some (vI (nI ((cnt_ (cu_ s (V 0 37 6) n i j w) c)))), some (vI (nI c)), none]) (c + 1)) (rfl) ⟨rfl, rfl, rfl, rfl, (congrArg (fun z => some (vI (nI z))) (by first | (exfalso; omega) | (rw [cnt_t (p := cu_ s (V 0 37 6) n i j w) (n := c) (by unfold cu_; rw [c49]; rw [if_pos c65]; rfl)]; first | done | rfl) | (rw [cnt_t (p := cu_ s (V 0 37 6) n i j w) (n := c) (by unfold cu_; rw [c49]; rw [if_neg (by omega), if_pos (by omega), c81]; rfl)]; first | done | rfl) | (rw [cnt_t (p := cu_ s (V 0 37 6) n i j w) (n := c) (by unfold cu_; rw [c49]; rw [if_neg (by omega), if_neg (by omega), if_pos (by omega), c97]; rfl)]; first | done | rfl) | (rw [cnt_t (p := cu_ s (V 0 37 6) n i j w) (n := c) (by unfold cu_; rw [c49]; rw [if_neg (by omega), if_neg (by omega), if_neg (by omega)]; exact (by rw [decide_eq_true (Int32.not_lt.mp c122)]; rfl))]; first | done | rfl))), rfl, trivial⟩ (ih26 (by omega))
    · skip
      exact absurd c15 (by decide)

set_option maxRecDepth 100000 in
set_option maxHeartbeats 4000000 in
theorem c_X8_run_bad {PL : List (Nat × Nat)} {V : Mm_} {x : Int32} (hbad : ¬ (nI 1 ≤ x ∧ x ≤ nI 200)) : Cp_ PL mX8_run [vR 0 33, vI x] V ((-1)) := by
  refine Ca_.of mv_X8_run.2.2.2.2.2.2 1 (lo := [some (vR 0 33), some (vI x), none]) rfl (Nat.le_of_ble_eq_true rfl) ?_
  refine r_iload_n (pc2 := 1) dX8_run_0 rfl rfl ?_
  refine r_iconst (pc2 := 2) (nI 1) dX8_run_1 (by decide) rfl ?_
  refine r_sipush (pc2 := 5) (nI 200) dX8_run_2 (by decide) rfl ?_
  refine r_cs3p (pc2 := 8) dX8_run_5 st_X8_run_54 (Nat.le_of_ble_eq_true rfl) rfl (c_X8_in) ?_
  refine r_ifB_ne (pc2 := 11) (tgt := 13) dX8_run_8 (by decide) rfl (fun c8 => ?_) (fun c8 => ?_)
  · skip
    exact absurd (of_decide_eq_true c8) hbad
  · skip
    refine r_iconst (pc2 := 12) (-1) dX8_run_11 (by decide) rfl ?_
    exact r_iret dX8_run_12 rfl (⟨rfl, rfl⟩)

/-- what ticks of the reference leave -/
def rt_ (V V' : Mm_) (p0 : Sg_ × Nat) (n i : Nat) : Prop := (∀ g r, ¬ (g = 0 ∧ (r = 33 ∨ r = 34 ∨ (40 ≤ r ∧ r ≤ 43))) → V' g r = V g r) ∧ (∀ k, ¬ k = 14 → V' 0 33 k = V 0 33 k) ∧ RT_ (V' 0 34) (tn_ (V 0 37) n i p0).1 ∧ RS_ (V' 0 34) (tn_ (V 0 37) n i p0).1 n ∧ RJ_ (V' 0 34) (tn_ (V 0 37) n i p0).1 (tn_ (V 0 37) n i p0).2
theorem rt_1 {V V1 V2 : Mm_} {p0 : Sg_ × Nat} {n i : Nat} (h : rt_ V V1 p0 n i) (h2 : tc_ V1 V2 (tn_ (V 0 37) n i p0).1 (tn_ (V 0 37) n i p0).2 n) : rt_ V V2 p0 n (i + 1) := by
  obtain ⟨a1, a2, a3, a4, a5⟩ := h
  obtain ⟨b1, b2, b3, b4, b5, b6⟩ := h2
  rw [a1 0 37 (by omega)] at b4 b5 b6
  exact ⟨fun g r hg => (b1 g r hg).trans (a1 g r hg), fun k hk => (b2 k hk).trans (a2 k hk), b4, b5, b6⟩
theorem tp_ {t i n : Nat} {f : Nat → Int32} {p0 : Sg_ × Nat} {m : Nat} (hn8 : n ≤ 8) (hse : SE_ f) (hct : p0.1 15 1 = nI p0.2) (ht : p0.1 0 1 = nI t) (ht9 : t + i < 2 ^ 20) : 0 < (tn_ f n i p0).1 0 1 + nI 1 ∧ 0 < (tn_ f n i p0).1 0 1 + nI 1 + f 1 := by
  have e := (tn_ok (f := f) hn8 hct i).2.2.2
  rw [ht, nI_add] at e
  rw [e, nI_add]
  have i1 : (nI (t + i + 1)).toInt = ((t + i + 1 : Nat) : Int) := nI_toInt (by omega)
  have h1 := hse.2.1
  have i100 : (100 : Int32).toInt = 100 := by decide
  simp only [Int32.lt_iff_toInt_lt, Int32.le_iff_toInt_le, i_0, i100] at h1
  refine ⟨?_, ?_⟩
  · rw [Int32.lt_iff_toInt_lt, i1, i_0]; omega
  · rw [Int32.lt_iff_toInt_lt, Int32.toInt_add, i1, i_0]
    rw [Int.bmod_eq_of_le (by omega) (by omega)]
    omega
set_option maxRecDepth 100000 in
set_option maxHeartbeats 4000000 in
theorem c_X8_run_ok {PL : List (Nat × Nat)} {n m t k : Nat} {V : Mm_} {s : Sg_} (h : RT_ (V 0 34) s) (hS : RS_ (V 0 34) s n) (hJ : RJ_ (V 0 34) s m) (hm : V 0 33 0 = nI n) (hn1 : 2 ≤ n) (hn8 : n ≤ 8) (hse : SE_ (V 0 37)) (ht : s 0 1 = nI t) (ht5 : t ≤ 100000) (hm9 : m ≤ 2 ^ 28) (hk1 : 1 ≤ k) (hk2 : k ≤ 200) : Ci_ PL mX8_run [vR 0 33, vI (nI k)] V (fun x V' => if 100000 < t + k then x = -3 ∧ V' = V else x = nI (t + k) ∧ rt_ V V' (s, m) n k) := by
  refine Ca_.of mv_X8_run.2.2.2.2.2.2 1 (lo := [some (vR 0 33), some (vI (nI k)), none]) rfl (Nat.le_of_ble_eq_true rfl) ?_
  refine r_iload_n (pc2 := 1) dX8_run_0 rfl rfl ?_
  refine r_iconst (pc2 := 2) (nI 1) dX8_run_1 (by decide) rfl ?_
  refine r_sipush (pc2 := 5) (nI 200) dX8_run_2 (by decide) rfl ?_
  refine r_cs3p (pc2 := 8) dX8_run_5 st_X8_run_54 (Nat.le_of_ble_eq_true rfl) rfl (c_in_ok ⟨nI_le (by omega) (by omega), nI_le (by omega) (by omega)⟩) ?_
  refine r_if0N_ne (pc2 := 11) (tgt := 13) (by omega) dX8_run_8 (by decide) rfl (fun c8 => ?_) (fun c8 => ?_)
  · skip
    refine r_aload_n (pc2 := 14) dX8_run_13 rfl rfl ?_
    refine r_getR (pc2 := 17) dX8_run_14 fl_X8_13 (by decide) rfl rfl rfl ?_
    refine r_sipush (pc2 := 20) (nI 3593) dX8_run_17 (by decide) rfl ?_
    refine r_ialde (pc2 := 21) (x := (nI t)) (j := _) (h.tm.trans ht) dX8_run_20 (by decide) rfl rfl (rfl) (by show _ < 3596; omega) rfl ?_
    refine r_iload_n (pc2 := 22) dX8_run_21 rfl rfl ?_
    refine r_iaddN (pc2 := 23) dX8_run_22 rfl ?_
    refine r_ldc (pc2 := 25) dX8_run_23 tw_780 rfl ?_
    refine r_as (x' := nI 100000) (by decide) ?_
    refine r_icN_le (pc2 := 28) (tgt := 31) (by omega) (by omega) dX8_run_25 (by decide) rfl (fun c25 => ?_) (fun c25 => ?_)
    · skip
      refine r_iconst (pc2 := 32) (nI 0) dX8_run_31 (by decide) rfl ?_
      refine r_istore_n (pc2 := 33) dX8_run_32 (by decide) rfl rfl ?_
      refine Rc_.to (V' := (fun V1 => V1) (V)) (lo' := (fun (i : Nat) (V1 : Mm_) => [some (vR 0 33), some (vI (nI k)), some (vI (nI i))]) 0 (V)) (rfl) ⟨rfl, rfl, rfl, trivial⟩ ?_
      refine Rc_forI 0 (k) (fun (i : Nat) (V1 : Mm_) => [some (vR 0 33), some (vI (nI k)), some (vI (nI i))]) (fun V1 => V1) (fun i V1 => rt_ V V1 (s, m) n i) (by omega) (fun i V1 hi0 hiN hI ih33 => ?_) (V) (⟨fun _ _ _ => rfl, fun _ _ => rfl, h, hS, hJ⟩)
      have hok := tn_ok (f := V 0 37) (n := n) (p := (s, m)) hn8 hJ.ct i
      simp only at hok
      have h37 : V1 0 37 = V 0 37 := hI.1 0 37 (by omega)
      have htp := fun hi : i ≤ 200 => tp_ (m := 0) (t := t) (i := i) (n := n) (f := V 0 37) (p0 := (s, m)) hn8 hse hJ.ct ht (by omega)
      refine r_iload_n (pc2 := 34) dX8_run_33 rfl rfl ?_
      refine r_iload_n (pc2 := 35) dX8_run_34 rfl rfl ?_
      refine r_icN_ge (pc2 := 38) (tgt := 48) (by omega) (by omega) dX8_run_35 (by decide) rfl (fun c35 => ?_) (fun c35 => ?_)
      · skip
        refine r_aload_n (pc2 := 49) dX8_run_48 rfl rfl ?_
        refine r_getR (pc2 := 52) dX8_run_49 fl_X8_13 (by decide) rfl rfl rfl ?_
        refine r_sipush (pc2 := 55) (nI 3593) dX8_run_52 (by decide) rfl ?_
        refine r_ialde (pc2 := 56) (x := (((tn_ (V 0 37) n i (s, m)).1 0 1))) (j := _) (hI.2.2.1.tm) dX8_run_55 (by decide) rfl rfl (rfl) (by show _ < 3596; omega) rfl ?_
        exact r_iret dX8_run_56 rfl (by show if _ then _ else _; (have e : i = k := by omega); subst e; rw [if_neg (by omega)]; exact ⟨by rw [hok.2.2.2, ht, nI_add], hI⟩)
      · skip
        refine r_aload_n (pc2 := 39) dX8_run_38 rfl rfl ?_
        refine r_cv0v (pc2 := 42) dX8_run_39 st_X8_run_142 rl_X8_tick (Nat.le_of_ble_eq_true rfl) rfl (c_X8_tick (V := V1) (m := (tn_ (V 0 37) n i (s, m)).2) hI.2.2.1 hI.2.2.2.1 hI.2.2.2.2 (by rw [hI.2.1 0 (by decide)]; exact hm) hn1 hn8 (by rw [h37]; exact hse) (htp (by omega)).1 (by rw [h37]; exact (htp (by omega)).2) (by have := hok.2.1; omega)) (fun V39 h39 => ?_)
        refine r_iincN (pc2 := 45) dX8_run_42 rfl (by decide) rfl rfl ?_
        refine r_goto (pc2 := 33) dX8_run_45 (by decide) ?_
        exact Rc_.to (lo' := [some (vR 0 33), some (vI (nI k)), some (vI (nI ((i + 1))))]) (rfl) ⟨rfl, rfl, rfl, trivial⟩ (ih33 _ (by omega) (rt_1 hI h39))
    · skip
      refine r_bipush (pc2 := 30) (-3) dX8_run_28 (by decide) rfl ?_
      exact r_iret dX8_run_30 rfl (by show if _ then _ else _; rw [if_pos (by omega)]; exact ⟨rfl, rfl⟩)
  · skip
    exact absurd c8 (by decide)
