/-! reference: receiving: written by wip/whole/m16.py -/
theorem own_ne {i j c : Nat} (hi : i < 8) (hj : j < 8) (hc : c < 8) (hij : ¬ i = j) (hic : ¬ i = c) : ∀ a b, a < 8 → b < 8 → ¬ (a * 8 + a) * 8 + b = (i * 8 + j) * 8 + c ∧ ¬ (a * 8 + b) * 8 + a = (i * 8 + j) * 8 + c := by
  intro a b ha hb
  constructor
  · intro z
    have h1 : a * 8 + a = i * 8 + j := by omega
    have h2 : a = i := by omega
    omega
  · intro z
    have h1 : a * 8 + b = i * 8 + j := by omega
    have h2 : a = i := by omega
    omega
set_option maxRecDepth 100000 in
set_option maxHeartbeats 4000000 in
theorem c_X8_receives {PL : List (Nat × Nat)} {V : Mm_} {s : Sg_} (h : RT_ (V 0 34) s) {i j c : Nat} (hi : i < 8) (hj : j < 8) (hc : c < 8) (hij : ¬ i = j) (hic : ¬ i = c) {re : Bool} (ht0 : 0 < s 0 1) (ht : 0 < s 0 1 + V 0 37 1) (h8 : nI 0 < V 0 37 8) (hlo : 0 ≤ (lim_ re (V 0 37 6) (V 0 40 (c * 8 + j) + s 2 (c * 8 + i))) ∧ (lim_ re (V 0 37 6) (V 0 40 (c * 8 + j) + s 2 (c * 8 + i))) ≤ 30000) (hup : 0 ≤ (lim_ re (V 0 37 6) (V 0 41 (c * 8 + j) + s 3 (c * 8 + i))) ∧ (lim_ re (V 0 37 6) (V 0 41 (c * 8 + j) + s 3 (c * 8 + i))) ≤ 30000) : Cv_ PL mX8_receives [vR 0 33, vI (nI i), vI (nI j), vI (nI c), vI (b2 re)] V (fun V' => rx_ V V' ((i * 8 + j) * 8 + c) (rc_ (V 0 37) s ((i * 8 + j) * 8 + c) (lim_ re (V 0 37 6) (V 0 40 (c * 8 + j) + s 2 (c * 8 + i))) (lim_ re (V 0 37 6) (V 0 41 (c * 8 + j) + s 3 (c * 8 + i))) (s 0 1))) := by
  refine Ca_.of mv_X8_receives.2.2.2.2.2.2 6 (lo := [some (vR 0 33), some (vI (nI i)), some (vI (nI j)), some (vI (nI c)), some (vI (b2 re)), none, none, none, none, none, none]) rfl (Nat.le_of_ble_eq_true rfl) ?_
  generalize hLO : (lim_ re (V 0 37 6) (V 0 40 (c * 8 + j) + s 2 (c * 8 + i))) = lo at hlo ⊢
  generalize hUP : (lim_ re (V 0 37 6) (V 0 41 (c * 8 + j) + s 3 (c * 8 + i))) = up at hup ⊢
  refine r_iload_n (pc2 := 1) dX8_receives_0 rfl rfl ?_
  refine r_iload_n (pc2 := 2) dX8_receives_1 rfl rfl ?_
  refine r_iload_n (pc2 := 3) dX8_receives_2 rfl rfl ?_
  refine r_iconst (pc2 := 4) (nI 0) dX8_receives_3 (by decide) rfl ?_
  refine r_cs4p (pc2 := 7) dX8_receives_4 st_X8_receives_81 (Nat.le_of_ble_eq_true rfl) rfl (c_X8_entryAt) ?_
  refine r_istore (pc2 := 9) dX8_receives_7 (by decide) rfl rfl ?_
  refine r_bipush (pc2 := 11) (nI 8) dX8_receives_9 (by decide) rfl ?_
  refine r_iload_n (pc2 := 12) dX8_receives_11 rfl rfl ?_
  refine r_imulN (pc2 := 13) dX8_receives_12 rfl ?_
  refine r_iload_n (pc2 := 14) dX8_receives_13 rfl rfl ?_
  refine r_iaddN (pc2 := 15) dX8_receives_14 rfl ?_
  refine r_istore (pc2 := 17) dX8_receives_15 (by decide) rfl rfl ?_
  refine r_aload_n (pc2 := 18) dX8_receives_17 rfl rfl ?_
  refine r_getR (pc2 := 21) dX8_receives_18 fl_X8_23 (by decide) rfl rfl rfl ?_
  refine r_bipush (pc2 := 23) (nI 6) dX8_receives_21 (by decide) rfl ?_
  refine r_ialde (pc2 := 24) (x := ((V 0 37 6))) (j := _) (rfl) dX8_receives_23 (by decide) rfl rfl (rfl) (by show _ < 10; omega) rfl ?_
  refine r_istore (pc2 := 26) dX8_receives_24 (by decide) rfl rfl ?_
  refine r_iload (pc2 := 28) dX8_receives_26 rfl rfl ?_
  refine r_ifB_eq (pc2 := 31) (tgt := 58) dX8_receives_28 (by decide) rfl (fun c28 => ?_) (fun c28 => ?_)
  · skip
    refine r_iload (pc2 := 60) dX8_receives_58 rfl rfl ?_
    refine r_as (x' := lo) (by rw [← hLO]; unfold lim_; rw [c28]; first | rw [if_pos rfl] | rw [if_neg (by decide)]) ?_
    refine r_istore (pc2 := 62) dX8_receives_60 (by decide) rfl rfl ?_
    refine r_iload (pc2 := 64) dX8_receives_62 rfl rfl ?_
    refine r_ifB_eq (pc2 := 67) (tgt := 94) dX8_receives_64 (by decide) rfl (fun c64 => ?_) (fun c64 => ?_)
    · skip
      refine r_iload (pc2 := 96) dX8_receives_94 rfl rfl ?_
      refine r_as (x' := up) (by rw [← hUP]; unfold lim_; rw [c28]; first | rw [if_pos rfl] | rw [if_neg (by decide)]) ?_
      refine r_istore (pc2 := 98) dX8_receives_96 (by decide) rfl rfl ?_
      refine r_aload_n (pc2 := 99) dX8_receives_98 rfl rfl ?_
      refine r_getR (pc2 := 102) dX8_receives_99 fl_X8_13 (by decide) rfl rfl rfl ?_
      refine r_sipush (pc2 := 105) (nI 3593) dX8_receives_102 (by decide) rfl ?_
      refine r_ialde (pc2 := 106) (x := ((s 0 1))) (j := _) (h.tm) dX8_receives_105 (by decide) rfl rfl (rfl) (by show _ < 3596; omega) rfl ?_
      refine r_istore (pc2 := 108) dX8_receives_106 (by decide) rfl rfl ?_
      refine r_aload_n (pc2 := 109) dX8_receives_108 rfl rfl ?_
      refine r_getR (pc2 := 112) dX8_receives_109 fl_X8_13 (by decide) rfl rfl rfl ?_
      refine r_iload (pc2 := 114) dX8_receives_112 rfl rfl ?_
      refine r_ialde (pc2 := 115) (x := (b2 ((decide (0 < s 9 ((i * 8 + j) * 8 + c)))))) (j := _) (h.g0 (k := ((i * 8 + j) * 8 + c)) (by omega) (by omega)) dX8_receives_114 (by decide) rfl rfl (rfl) (by show _ < 3596; omega) rfl ?_
      refine r_ifB_eq (pc2 := 118) (tgt := 132) dX8_receives_115 (by decide) rfl (fun c115 => ?_) (fun c115 => ?_)
      · skip
        refine r_aload_n (pc2 := 133) dX8_receives_132 rfl rfl ?_
        refine r_getR (pc2 := 136) dX8_receives_133 fl_X8_13 (by decide) rfl rfl rfl ?_
        refine r_iload (pc2 := 138) dX8_receives_136 rfl rfl ?_
        refine r_iconst (pc2 := 139) (nI 1) dX8_receives_138 (by decide) rfl ?_
        refine r_iast (pc2 := 140) (j := _) dX8_receives_139 (by decide) rfl rfl (rfl) (by show _ < 3596; omega) rfl ?_
        refine r_aload_n (pc2 := 141) dX8_receives_140 rfl rfl ?_
        refine r_getR (pc2 := 144) dX8_receives_141 fl_X8_13 (by decide) rfl rfl rfl ?_
        refine r_iload (pc2 := 146) dX8_receives_144 rfl rfl ?_
        refine r_iconst (pc2 := 147) (nI 4) dX8_receives_146 (by decide) rfl ?_
        refine r_iaddN (pc2 := 148) dX8_receives_147 rfl ?_
        refine r_iconst (pc2 := 149) (nI 0) dX8_receives_148 (by decide) rfl ?_
        refine r_iast (pc2 := 150) (j := _) dX8_receives_149 (by decide) rfl rfl (rfl) (by show _ < 3596; omega) rfl ?_
        refine r_aload_n (pc2 := 151) dX8_receives_150 rfl rfl ?_
        refine r_getR (pc2 := 154) dX8_receives_151 fl_X8_13 (by decide) rfl rfl rfl ?_
        refine r_iload (pc2 := 156) dX8_receives_154 rfl rfl ?_
        refine r_iconst (pc2 := 157) (nI 5) dX8_receives_156 (by decide) rfl ?_
        refine r_iaddN (pc2 := 158) dX8_receives_157 rfl ?_
        refine r_iconst (pc2 := 159) (nI 0) dX8_receives_158 (by decide) rfl ?_
        refine r_iast (pc2 := 160) (j := _) dX8_receives_159 (by decide) rfl rfl (rfl) (by show _ < 3596; omega) rfl ?_
        refine r_goto (pc2 := 227) dX8_receives_160 (by decide) ?_
        obtain ⟨V2, hV2⟩ : ∃ V2, V2 = m_set (m_set (m_set V 0 34 (256 + 6 * ((i * 8 + j) * 8 + c) + 0) (nI 1)) 0 34 (256 + 6 * ((i * 8 + j) * 8 + c) + 0 + 4) (nI 0)) 0 34 (256 + 6 * ((i * 8 + j) * 8 + c) + 0 + 5) (nI 0) := ⟨_, rfl⟩
        rw [← hV2]
        have h37 : V2 0 37 = V 0 37 := by rw [hV2]; repeat (rw [m_ne (by omega)])
        refine r_aload_n (pc2 := 228) dX8_receives_227 rfl rfl ?_
        refine r_getR (pc2 := 231) dX8_receives_228 fl_X8_13 (by decide) rfl rfl rfl ?_
        refine r_iload (pc2 := 233) dX8_receives_231 rfl rfl ?_
        refine r_iconst (pc2 := 234) (nI 4) dX8_receives_233 (by decide) rfl ?_
        refine r_iaddN (pc2 := 235) dX8_receives_234 rfl ?_
        refine r_ialde (pc2 := 236) (x := (nI 0)) (j := _) (by rw [hV2, m_i (by omega), m_j rfl]) dX8_receives_235 (by decide) rfl rfl (rfl) (by show _ < 3596; omega) rfl ?_
        refine r_aload_n (pc2 := 237) dX8_receives_236 rfl rfl ?_
        refine r_getR (pc2 := 240) dX8_receives_237 fl_X8_23 (by decide) rfl rfl rfl ?_
        refine r_bipush (pc2 := 242) (nI 8) dX8_receives_240 (by decide) rfl ?_
        refine r_ialde (pc2 := 243) (x := ((V 0 37 8))) (j := _) (by rw [h37]) dX8_receives_242 (by decide) rfl rfl (rfl) (by show _ < 10; omega) rfl ?_
        refine r_ic_lt (pc2 := 246) (tgt := 275) dX8_receives_243 (by decide) rfl (fun c243 => ?_) (fun c243 => ?_)
        · skip
          refine r_aload_n (pc2 := 276) dX8_receives_275 rfl rfl ?_
          refine r_getR (pc2 := 279) dX8_receives_276 fl_X8_13 (by decide) rfl rfl rfl ?_
          refine r_iload (pc2 := 281) dX8_receives_279 rfl rfl ?_
          refine r_iconst (pc2 := 282) (nI 1) dX8_receives_281 (by decide) rfl ?_
          refine r_iaddN (pc2 := 283) dX8_receives_282 rfl ?_
          refine r_iload (pc2 := 285) dX8_receives_283 rfl rfl ?_
          refine r_iast (pc2 := 286) (j := _) dX8_receives_285 (by decide) rfl rfl (rfl) (by show _ < 3596; omega) rfl ?_
          refine r_aload_n (pc2 := 287) dX8_receives_286 rfl rfl ?_
          refine r_getR (pc2 := 290) dX8_receives_287 fl_X8_13 (by decide) rfl rfl rfl ?_
          refine r_iload (pc2 := 292) dX8_receives_290 rfl rfl ?_
          refine r_iconst (pc2 := 293) (nI 2) dX8_receives_292 (by decide) rfl ?_
          refine r_iaddN (pc2 := 294) dX8_receives_293 rfl ?_
          refine r_iload (pc2 := 296) dX8_receives_294 rfl rfl ?_
          refine r_iast (pc2 := 297) (j := _) dX8_receives_296 (by decide) rfl rfl (rfl) (by show _ < 3596; omega) rfl ?_
          refine r_aload_n (pc2 := 298) dX8_receives_297 rfl rfl ?_
          refine r_getR (pc2 := 301) dX8_receives_298 fl_X8_13 (by decide) rfl rfl rfl ?_
          refine r_iload (pc2 := 303) dX8_receives_301 rfl rfl ?_
          refine r_iconst (pc2 := 304) (nI 3) dX8_receives_303 (by decide) rfl ?_
          refine r_iaddN (pc2 := 305) dX8_receives_304 rfl ?_
          refine r_iload (pc2 := 307) dX8_receives_305 rfl rfl ?_
          refine r_aload_n (pc2 := 308) dX8_receives_307 rfl rfl ?_
          refine r_getR (pc2 := 311) dX8_receives_308 fl_X8_23 (by decide) rfl rfl rfl ?_
          refine r_iconst (pc2 := 312) (nI 1) dX8_receives_311 (by decide) rfl ?_
          refine r_ialde (pc2 := 313) (x := ((V 0 37 1))) (j := _) (by (try rw [m_ne (by omega)]); (try rw [m_ne (by omega)]); (try rw [m_ne (by omega)]); (try rw [m_ne (by omega)]); rw [h37]) dX8_receives_312 (by decide) rfl rfl (rfl) (by show _ < 10; omega) rfl ?_
          refine r_iadd (pc2 := 314) dX8_receives_313 rfl ?_
          refine r_iast (pc2 := 315) (j := _) dX8_receives_314 (by decide) rfl rfl (rfl) (by show _ < 3596; omega) rfl ?_
          exact r_vret dX8_receives_315 rfl (by subst hV2; exact rx_a h (by omega) ht hlo hup (own_ne hi hj hc hij hic) (Int32.lt_of_le_of_lt (Int32.not_lt.mp (of_decide_eq_false c115)) ht0))
        · skip
          exact absurd h8 c243
      · skip
        refine r_aload_n (pc2 := 119) dX8_receives_118 rfl rfl ?_
        refine r_getR (pc2 := 122) dX8_receives_119 fl_X8_13 (by decide) rfl rfl rfl ?_
        refine r_iload (pc2 := 124) dX8_receives_122 rfl rfl ?_
        refine r_iconst (pc2 := 125) (nI 3) dX8_receives_124 (by decide) rfl ?_
        refine r_iaddN (pc2 := 126) dX8_receives_125 rfl ?_
        refine r_ialde (pc2 := 127) (x := ((s 9 ((i * 8 + j) * 8 + c)))) (j := _) (h.ge (k := ((i * 8 + j) * 8 + c)) 2 (by omega) (by omega) (by omega) rfl) dX8_receives_126 (by decide) rfl rfl (rfl) (by show _ < 3596; omega) rfl ?_
        refine r_iload (pc2 := 129) dX8_receives_127 rfl rfl ?_
        refine r_ic_ge (pc2 := 132) (tgt := 163) dX8_receives_129 (by decide) rfl (fun c129 => ?_) (fun c129 => ?_)
        · skip
          refine r_aload_n (pc2 := 164) dX8_receives_163 rfl rfl ?_
          refine r_getR (pc2 := 167) dX8_receives_164 fl_X8_13 (by decide) rfl rfl rfl ?_
          refine r_iload (pc2 := 169) dX8_receives_167 rfl rfl ?_
          refine r_iconst (pc2 := 170) (nI 4) dX8_receives_169 (by decide) rfl ?_
          refine r_iaddN (pc2 := 171) dX8_receives_170 rfl ?_
          refine r_iload (pc2 := 173) dX8_receives_171 rfl rfl ?_
          refine r_aload_n (pc2 := 174) dX8_receives_173 rfl rfl ?_
          refine r_getR (pc2 := 177) dX8_receives_174 fl_X8_13 (by decide) rfl rfl rfl ?_
          refine r_iload (pc2 := 179) dX8_receives_177 rfl rfl ?_
          refine r_iconst (pc2 := 180) (nI 2) dX8_receives_179 (by decide) rfl ?_
          refine r_iaddN (pc2 := 181) dX8_receives_180 rfl ?_
          refine r_ialde (pc2 := 182) (x := ((s 8 ((i * 8 + j) * 8 + c)))) (j := _) (h.ge (k := ((i * 8 + j) * 8 + c)) 1 (by omega) (by omega) (by omega) rfl) dX8_receives_181 (by decide) rfl rfl (rfl) (by show _ < 3596; omega) rfl ?_
          refine r_ic_le (pc2 := 185) (tgt := 199) dX8_receives_182 (by decide) rfl (fun c182 => ?_) (fun c182 => ?_)
          · skip
            refine r_iload (pc2 := 201) dX8_receives_199 rfl rfl ?_
            refine r_aload_n (pc2 := 202) dX8_receives_201 rfl rfl ?_
            refine r_getR (pc2 := 205) dX8_receives_202 fl_X8_13 (by decide) rfl rfl rfl ?_
            refine r_iload (pc2 := 207) dX8_receives_205 rfl rfl ?_
            refine r_iconst (pc2 := 208) (nI 2) dX8_receives_207 (by decide) rfl ?_
            refine r_iaddN (pc2 := 209) dX8_receives_208 rfl ?_
            refine r_ialde (pc2 := 210) (x := ((s 8 ((i * 8 + j) * 8 + c)))) (j := _) (h.ge (k := ((i * 8 + j) * 8 + c)) 1 (by omega) (by omega) (by omega) rfl) dX8_receives_209 (by decide) rfl rfl (rfl) (by show _ < 3596; omega) rfl ?_
            refine r_ic_ge (pc2 := 213) (tgt := 217) dX8_receives_210 (by decide) rfl (fun c210 => ?_) (fun c210 => ?_)
            · skip
              refine r_aload_n (pc2 := 218) dX8_receives_217 rfl rfl ?_
              refine r_getR (pc2 := 221) dX8_receives_218 fl_X8_13 (by decide) rfl rfl rfl ?_
              refine r_iload (pc2 := 223) dX8_receives_221 rfl rfl ?_
              refine r_iconst (pc2 := 224) (nI 4) dX8_receives_223 (by decide) rfl ?_
              refine r_iaddN (pc2 := 225) dX8_receives_224 rfl ?_
              refine r_ialde (pc2 := 226) (x := ((s 10 ((i * 8 + j) * 8 + c)))) (j := _) (h.ge (k := ((i * 8 + j) * 8 + c)) 3 (by omega) (by omega) (by omega) rfl) dX8_receives_225 (by decide) rfl rfl (rfl) (by show _ < 3596; omega) rfl ?_
              refine r_as (x' := ((gw_ s ((i * 8 + j) * 8 + c) up))) (by unfold gw_; rw [if_neg (Int32.not_lt.mpr c182)]; first | rw [if_neg (Int32.not_lt.mpr c210)] | rw [if_pos (Int32.not_le.mp c210)]) ?_
              refine r_iast (pc2 := 227) (j := _) dX8_receives_226 (by decide) rfl rfl (rfl) (by show _ < 3596; omega) rfl ?_
              obtain ⟨V2, hV2⟩ : ∃ V2, V2 = m_set V 0 34 (256 + 6 * ((i * 8 + j) * 8 + c) + 0 + 4) (gw_ s ((i * 8 + j) * 8 + c) up) := ⟨_, rfl⟩
              rw [← hV2]
              have h37 : V2 0 37 = V 0 37 := by rw [hV2]; repeat (rw [m_ne (by omega)])
              refine r_aload_n (pc2 := 228) dX8_receives_227 rfl rfl ?_
              refine r_getR (pc2 := 231) dX8_receives_228 fl_X8_13 (by decide) rfl rfl rfl ?_
              refine r_iload (pc2 := 233) dX8_receives_231 rfl rfl ?_
              refine r_iconst (pc2 := 234) (nI 4) dX8_receives_233 (by decide) rfl ?_
              refine r_iaddN (pc2 := 235) dX8_receives_234 rfl ?_
              refine r_ialde (pc2 := 236) (x := ((gw_ s ((i * 8 + j) * 8 + c) up))) (j := _) (by rw [hV2, m_j rfl]) dX8_receives_235 (by decide) rfl rfl (rfl) (by show _ < 3596; omega) rfl ?_
              refine r_aload_n (pc2 := 237) dX8_receives_236 rfl rfl ?_
              refine r_getR (pc2 := 240) dX8_receives_237 fl_X8_23 (by decide) rfl rfl rfl ?_
              refine r_bipush (pc2 := 242) (nI 8) dX8_receives_240 (by decide) rfl ?_
              refine r_ialde (pc2 := 243) (x := ((V 0 37 8))) (j := _) (by rw [h37]) dX8_receives_242 (by decide) rfl rfl (rfl) (by show _ < 10; omega) rfl ?_
              refine r_ic_lt (pc2 := 246) (tgt := 275) dX8_receives_243 (by decide) rfl (fun c243 => ?_) (fun c243 => ?_)
              · skip
                refine r_aload_n (pc2 := 276) dX8_receives_275 rfl rfl ?_
                refine r_getR (pc2 := 279) dX8_receives_276 fl_X8_13 (by decide) rfl rfl rfl ?_
                refine r_iload (pc2 := 281) dX8_receives_279 rfl rfl ?_
                refine r_iconst (pc2 := 282) (nI 1) dX8_receives_281 (by decide) rfl ?_
                refine r_iaddN (pc2 := 283) dX8_receives_282 rfl ?_
                refine r_iload (pc2 := 285) dX8_receives_283 rfl rfl ?_
                refine r_iast (pc2 := 286) (j := _) dX8_receives_285 (by decide) rfl rfl (rfl) (by show _ < 3596; omega) rfl ?_
                refine r_aload_n (pc2 := 287) dX8_receives_286 rfl rfl ?_
                refine r_getR (pc2 := 290) dX8_receives_287 fl_X8_13 (by decide) rfl rfl rfl ?_
                refine r_iload (pc2 := 292) dX8_receives_290 rfl rfl ?_
                refine r_iconst (pc2 := 293) (nI 2) dX8_receives_292 (by decide) rfl ?_
                refine r_iaddN (pc2 := 294) dX8_receives_293 rfl ?_
                refine r_iload (pc2 := 296) dX8_receives_294 rfl rfl ?_
                refine r_iast (pc2 := 297) (j := _) dX8_receives_296 (by decide) rfl rfl (rfl) (by show _ < 3596; omega) rfl ?_
                refine r_aload_n (pc2 := 298) dX8_receives_297 rfl rfl ?_
                refine r_getR (pc2 := 301) dX8_receives_298 fl_X8_13 (by decide) rfl rfl rfl ?_
                refine r_iload (pc2 := 303) dX8_receives_301 rfl rfl ?_
                refine r_iconst (pc2 := 304) (nI 3) dX8_receives_303 (by decide) rfl ?_
                refine r_iaddN (pc2 := 305) dX8_receives_304 rfl ?_
                refine r_iload (pc2 := 307) dX8_receives_305 rfl rfl ?_
                refine r_aload_n (pc2 := 308) dX8_receives_307 rfl rfl ?_
                refine r_getR (pc2 := 311) dX8_receives_308 fl_X8_23 (by decide) rfl rfl rfl ?_
                refine r_iconst (pc2 := 312) (nI 1) dX8_receives_311 (by decide) rfl ?_
                refine r_ialde (pc2 := 313) (x := ((V 0 37 1))) (j := _) (by (try rw [m_ne (by omega)]); (try rw [m_ne (by omega)]); (try rw [m_ne (by omega)]); (try rw [m_ne (by omega)]); rw [h37]) dX8_receives_312 (by decide) rfl rfl (rfl) (by show _ < 10; omega) rfl ?_
                refine r_iadd (pc2 := 314) dX8_receives_313 rfl ?_
                refine r_iast (pc2 := 315) (j := _) dX8_receives_314 (by decide) rfl rfl (rfl) (by show _ < 3596; omega) rfl ?_
                exact r_vret dX8_receives_315 rfl (by subst hV2; first | exact rx_b h (by omega) ht hlo hup (own_ne hi hj hc hij hic) (of_decide_eq_true c115) (Int32.not_lt.mpr c129) rfl c243 | exact rx_c h (by omega) ht hlo hup (own_ne hi hj hc hij hic) (of_decide_eq_true c115) (Int32.not_lt.mpr c129) rfl c243)
              · skip
                refine r_aload_n (pc2 := 247) dX8_receives_246 rfl rfl ?_
                refine r_getR (pc2 := 250) dX8_receives_247 fl_X8_13 (by decide) rfl rfl rfl ?_
                refine r_iload (pc2 := 252) dX8_receives_250 rfl rfl ?_
                refine r_iconst (pc2 := 253) (nI 5) dX8_receives_252 (by decide) rfl ?_
                refine r_iaddN (pc2 := 254) dX8_receives_253 rfl ?_
                refine r_iload (pc2 := 256) dX8_receives_254 rfl rfl ?_
                refine r_aload_n (pc2 := 257) dX8_receives_256 rfl rfl ?_
                refine r_getR (pc2 := 260) dX8_receives_257 fl_X8_23 (by decide) rfl rfl rfl ?_
                refine r_bipush (pc2 := 262) (nI 9) dX8_receives_260 (by decide) rfl ?_
                refine r_ialde (pc2 := 263) (x := ((V 0 37 9))) (j := _) (by rw [h37]) dX8_receives_262 (by decide) rfl rfl (rfl) (by show _ < 10; omega) rfl ?_
                refine r_iadd (pc2 := 264) dX8_receives_263 rfl ?_
                refine r_iast (pc2 := 265) (j := _) dX8_receives_264 (by decide) rfl rfl (rfl) (by show _ < 3596; omega) rfl ?_
                refine r_aload_n (pc2 := 266) dX8_receives_265 rfl rfl ?_
                refine r_getR (pc2 := 269) dX8_receives_266 fl_X8_13 (by decide) rfl rfl rfl ?_
                refine r_iload (pc2 := 271) dX8_receives_269 rfl rfl ?_
                refine r_iconst (pc2 := 272) (nI 4) dX8_receives_271 (by decide) rfl ?_
                refine r_iaddN (pc2 := 273) dX8_receives_272 rfl ?_
                refine r_iconst (pc2 := 274) (nI 0) dX8_receives_273 (by decide) rfl ?_
                refine r_iast (pc2 := 275) (j := _) dX8_receives_274 (by decide) rfl rfl (rfl) (by show _ < 3596; omega) rfl ?_
                refine r_aload_n (pc2 := 276) dX8_receives_275 rfl rfl ?_
                refine r_getR (pc2 := 279) dX8_receives_276 fl_X8_13 (by decide) rfl rfl rfl ?_
                refine r_iload (pc2 := 281) dX8_receives_279 rfl rfl ?_
                refine r_iconst (pc2 := 282) (nI 1) dX8_receives_281 (by decide) rfl ?_
                refine r_iaddN (pc2 := 283) dX8_receives_282 rfl ?_
                refine r_iload (pc2 := 285) dX8_receives_283 rfl rfl ?_
                refine r_iast (pc2 := 286) (j := _) dX8_receives_285 (by decide) rfl rfl (rfl) (by show _ < 3596; omega) rfl ?_
                refine r_aload_n (pc2 := 287) dX8_receives_286 rfl rfl ?_
                refine r_getR (pc2 := 290) dX8_receives_287 fl_X8_13 (by decide) rfl rfl rfl ?_
                refine r_iload (pc2 := 292) dX8_receives_290 rfl rfl ?_
                refine r_iconst (pc2 := 293) (nI 2) dX8_receives_292 (by decide) rfl ?_
                refine r_iaddN (pc2 := 294) dX8_receives_293 rfl ?_
                refine r_iload (pc2 := 296) dX8_receives_294 rfl rfl ?_
                refine r_iast (pc2 := 297) (j := _) dX8_receives_296 (by decide) rfl rfl (rfl) (by show _ < 3596; omega) rfl ?_
                refine r_aload_n (pc2 := 298) dX8_receives_297 rfl rfl ?_
                refine r_getR (pc2 := 301) dX8_receives_298 fl_X8_13 (by decide) rfl rfl rfl ?_
                refine r_iload (pc2 := 303) dX8_receives_301 rfl rfl ?_
                refine r_iconst (pc2 := 304) (nI 3) dX8_receives_303 (by decide) rfl ?_
                refine r_iaddN (pc2 := 305) dX8_receives_304 rfl ?_
                refine r_iload (pc2 := 307) dX8_receives_305 rfl rfl ?_
                refine r_aload_n (pc2 := 308) dX8_receives_307 rfl rfl ?_
                refine r_getR (pc2 := 311) dX8_receives_308 fl_X8_23 (by decide) rfl rfl rfl ?_
                refine r_iconst (pc2 := 312) (nI 1) dX8_receives_311 (by decide) rfl ?_
                refine r_ialde (pc2 := 313) (x := ((V 0 37 1))) (j := _) (by (try rw [m_ne (by omega)]); (try rw [m_ne (by omega)]); (try rw [m_ne (by omega)]); (try rw [m_ne (by omega)]); rw [h37]) dX8_receives_312 (by decide) rfl rfl (rfl) (by show _ < 10; omega) rfl ?_
                refine r_iadd (pc2 := 314) dX8_receives_313 rfl ?_
                refine r_iast (pc2 := 315) (j := _) dX8_receives_314 (by decide) rfl rfl (rfl) (by show _ < 3596; omega) rfl ?_
                exact r_vret dX8_receives_315 rfl (by subst hV2; first | exact rx_b h (by omega) ht hlo hup (own_ne hi hj hc hij hic) (of_decide_eq_true c115) (Int32.not_lt.mpr c129) rfl c243 | exact rx_c h (by omega) ht hlo hup (own_ne hi hj hc hij hic) (of_decide_eq_true c115) (Int32.not_lt.mpr c129) rfl c243)
            · skip
              refine r_iconst (pc2 := 214) (nI 0) dX8_receives_213 (by decide) rfl ?_
              refine r_goto (pc2 := 226) dX8_receives_214 (by decide) ?_
              refine r_as (x' := ((gw_ s ((i * 8 + j) * 8 + c) up))) (by unfold gw_; rw [if_neg (Int32.not_lt.mpr c182)]; first | rw [if_neg (Int32.not_lt.mpr c210)] | rw [if_pos (Int32.not_le.mp c210)]) ?_
              refine r_iast (pc2 := 227) (j := _) dX8_receives_226 (by decide) rfl rfl (rfl) (by show _ < 3596; omega) rfl ?_
              obtain ⟨V2, hV2⟩ : ∃ V2, V2 = m_set V 0 34 (256 + 6 * ((i * 8 + j) * 8 + c) + 0 + 4) (gw_ s ((i * 8 + j) * 8 + c) up) := ⟨_, rfl⟩
              rw [← hV2]
              have h37 : V2 0 37 = V 0 37 := by rw [hV2]; repeat (rw [m_ne (by omega)])
              refine r_aload_n (pc2 := 228) dX8_receives_227 rfl rfl ?_
              refine r_getR (pc2 := 231) dX8_receives_228 fl_X8_13 (by decide) rfl rfl rfl ?_
              refine r_iload (pc2 := 233) dX8_receives_231 rfl rfl ?_
              refine r_iconst (pc2 := 234) (nI 4) dX8_receives_233 (by decide) rfl ?_
              refine r_iaddN (pc2 := 235) dX8_receives_234 rfl ?_
              refine r_ialde (pc2 := 236) (x := ((gw_ s ((i * 8 + j) * 8 + c) up))) (j := _) (by rw [hV2, m_j rfl]) dX8_receives_235 (by decide) rfl rfl (rfl) (by show _ < 3596; omega) rfl ?_
              refine r_aload_n (pc2 := 237) dX8_receives_236 rfl rfl ?_
              refine r_getR (pc2 := 240) dX8_receives_237 fl_X8_23 (by decide) rfl rfl rfl ?_
              refine r_bipush (pc2 := 242) (nI 8) dX8_receives_240 (by decide) rfl ?_
              refine r_ialde (pc2 := 243) (x := ((V 0 37 8))) (j := _) (by rw [h37]) dX8_receives_242 (by decide) rfl rfl (rfl) (by show _ < 10; omega) rfl ?_
              refine r_ic_lt (pc2 := 246) (tgt := 275) dX8_receives_243 (by decide) rfl (fun c243 => ?_) (fun c243 => ?_)
              · skip
                refine r_aload_n (pc2 := 276) dX8_receives_275 rfl rfl ?_
                refine r_getR (pc2 := 279) dX8_receives_276 fl_X8_13 (by decide) rfl rfl rfl ?_
                refine r_iload (pc2 := 281) dX8_receives_279 rfl rfl ?_
                refine r_iconst (pc2 := 282) (nI 1) dX8_receives_281 (by decide) rfl ?_
                refine r_iaddN (pc2 := 283) dX8_receives_282 rfl ?_
                refine r_iload (pc2 := 285) dX8_receives_283 rfl rfl ?_
                refine r_iast (pc2 := 286) (j := _) dX8_receives_285 (by decide) rfl rfl (rfl) (by show _ < 3596; omega) rfl ?_
                refine r_aload_n (pc2 := 287) dX8_receives_286 rfl rfl ?_
                refine r_getR (pc2 := 290) dX8_receives_287 fl_X8_13 (by decide) rfl rfl rfl ?_
                refine r_iload (pc2 := 292) dX8_receives_290 rfl rfl ?_
                refine r_iconst (pc2 := 293) (nI 2) dX8_receives_292 (by decide) rfl ?_
                refine r_iaddN (pc2 := 294) dX8_receives_293 rfl ?_
                refine r_iload (pc2 := 296) dX8_receives_294 rfl rfl ?_
                refine r_iast (pc2 := 297) (j := _) dX8_receives_296 (by decide) rfl rfl (rfl) (by show _ < 3596; omega) rfl ?_
                refine r_aload_n (pc2 := 298) dX8_receives_297 rfl rfl ?_
                refine r_getR (pc2 := 301) dX8_receives_298 fl_X8_13 (by decide) rfl rfl rfl ?_
                refine r_iload (pc2 := 303) dX8_receives_301 rfl rfl ?_
                refine r_iconst (pc2 := 304) (nI 3) dX8_receives_303 (by decide) rfl ?_
                refine r_iaddN (pc2 := 305) dX8_receives_304 rfl ?_
                refine r_iload (pc2 := 307) dX8_receives_305 rfl rfl ?_
                refine r_aload_n (pc2 := 308) dX8_receives_307 rfl rfl ?_
                refine r_getR (pc2 := 311) dX8_receives_308 fl_X8_23 (by decide) rfl rfl rfl ?_
                refine r_iconst (pc2 := 312) (nI 1) dX8_receives_311 (by decide) rfl ?_
                refine r_ialde (pc2 := 313) (x := ((V 0 37 1))) (j := _) (by (try rw [m_ne (by omega)]); (try rw [m_ne (by omega)]); (try rw [m_ne (by omega)]); (try rw [m_ne (by omega)]); rw [h37]) dX8_receives_312 (by decide) rfl rfl (rfl) (by show _ < 10; omega) rfl ?_
                refine r_iadd (pc2 := 314) dX8_receives_313 rfl ?_
                refine r_iast (pc2 := 315) (j := _) dX8_receives_314 (by decide) rfl rfl (rfl) (by show _ < 3596; omega) rfl ?_
                exact r_vret dX8_receives_315 rfl (by subst hV2; first | exact rx_b h (by omega) ht hlo hup (own_ne hi hj hc hij hic) (of_decide_eq_true c115) (Int32.not_lt.mpr c129) rfl c243 | exact rx_c h (by omega) ht hlo hup (own_ne hi hj hc hij hic) (of_decide_eq_true c115) (Int32.not_lt.mpr c129) rfl c243)
              · skip
                refine r_aload_n (pc2 := 247) dX8_receives_246 rfl rfl ?_
                refine r_getR (pc2 := 250) dX8_receives_247 fl_X8_13 (by decide) rfl rfl rfl ?_
                refine r_iload (pc2 := 252) dX8_receives_250 rfl rfl ?_
                refine r_iconst (pc2 := 253) (nI 5) dX8_receives_252 (by decide) rfl ?_
                refine r_iaddN (pc2 := 254) dX8_receives_253 rfl ?_
                refine r_iload (pc2 := 256) dX8_receives_254 rfl rfl ?_
                refine r_aload_n (pc2 := 257) dX8_receives_256 rfl rfl ?_
                refine r_getR (pc2 := 260) dX8_receives_257 fl_X8_23 (by decide) rfl rfl rfl ?_
                refine r_bipush (pc2 := 262) (nI 9) dX8_receives_260 (by decide) rfl ?_
                refine r_ialde (pc2 := 263) (x := ((V 0 37 9))) (j := _) (by rw [h37]) dX8_receives_262 (by decide) rfl rfl (rfl) (by show _ < 10; omega) rfl ?_
                refine r_iadd (pc2 := 264) dX8_receives_263 rfl ?_
                refine r_iast (pc2 := 265) (j := _) dX8_receives_264 (by decide) rfl rfl (rfl) (by show _ < 3596; omega) rfl ?_
                refine r_aload_n (pc2 := 266) dX8_receives_265 rfl rfl ?_
                refine r_getR (pc2 := 269) dX8_receives_266 fl_X8_13 (by decide) rfl rfl rfl ?_
                refine r_iload (pc2 := 271) dX8_receives_269 rfl rfl ?_
                refine r_iconst (pc2 := 272) (nI 4) dX8_receives_271 (by decide) rfl ?_
                refine r_iaddN (pc2 := 273) dX8_receives_272 rfl ?_
                refine r_iconst (pc2 := 274) (nI 0) dX8_receives_273 (by decide) rfl ?_
                refine r_iast (pc2 := 275) (j := _) dX8_receives_274 (by decide) rfl rfl (rfl) (by show _ < 3596; omega) rfl ?_
                refine r_aload_n (pc2 := 276) dX8_receives_275 rfl rfl ?_
                refine r_getR (pc2 := 279) dX8_receives_276 fl_X8_13 (by decide) rfl rfl rfl ?_
                refine r_iload (pc2 := 281) dX8_receives_279 rfl rfl ?_
                refine r_iconst (pc2 := 282) (nI 1) dX8_receives_281 (by decide) rfl ?_
                refine r_iaddN (pc2 := 283) dX8_receives_282 rfl ?_
                refine r_iload (pc2 := 285) dX8_receives_283 rfl rfl ?_
                refine r_iast (pc2 := 286) (j := _) dX8_receives_285 (by decide) rfl rfl (rfl) (by show _ < 3596; omega) rfl ?_
                refine r_aload_n (pc2 := 287) dX8_receives_286 rfl rfl ?_
                refine r_getR (pc2 := 290) dX8_receives_287 fl_X8_13 (by decide) rfl rfl rfl ?_
                refine r_iload (pc2 := 292) dX8_receives_290 rfl rfl ?_
                refine r_iconst (pc2 := 293) (nI 2) dX8_receives_292 (by decide) rfl ?_
                refine r_iaddN (pc2 := 294) dX8_receives_293 rfl ?_
                refine r_iload (pc2 := 296) dX8_receives_294 rfl rfl ?_
                refine r_iast (pc2 := 297) (j := _) dX8_receives_296 (by decide) rfl rfl (rfl) (by show _ < 3596; omega) rfl ?_
                refine r_aload_n (pc2 := 298) dX8_receives_297 rfl rfl ?_
                refine r_getR (pc2 := 301) dX8_receives_298 fl_X8_13 (by decide) rfl rfl rfl ?_
                refine r_iload (pc2 := 303) dX8_receives_301 rfl rfl ?_
                refine r_iconst (pc2 := 304) (nI 3) dX8_receives_303 (by decide) rfl ?_
                refine r_iaddN (pc2 := 305) dX8_receives_304 rfl ?_
                refine r_iload (pc2 := 307) dX8_receives_305 rfl rfl ?_
                refine r_aload_n (pc2 := 308) dX8_receives_307 rfl rfl ?_
                refine r_getR (pc2 := 311) dX8_receives_308 fl_X8_23 (by decide) rfl rfl rfl ?_
                refine r_iconst (pc2 := 312) (nI 1) dX8_receives_311 (by decide) rfl ?_
                refine r_ialde (pc2 := 313) (x := ((V 0 37 1))) (j := _) (by (try rw [m_ne (by omega)]); (try rw [m_ne (by omega)]); (try rw [m_ne (by omega)]); (try rw [m_ne (by omega)]); rw [h37]) dX8_receives_312 (by decide) rfl rfl (rfl) (by show _ < 10; omega) rfl ?_
                refine r_iadd (pc2 := 314) dX8_receives_313 rfl ?_
                refine r_iast (pc2 := 315) (j := _) dX8_receives_314 (by decide) rfl rfl (rfl) (by show _ < 3596; omega) rfl ?_
                exact r_vret dX8_receives_315 rfl (by subst hV2; first | exact rx_b h (by omega) ht hlo hup (own_ne hi hj hc hij hic) (of_decide_eq_true c115) (Int32.not_lt.mpr c129) rfl c243 | exact rx_c h (by omega) ht hlo hup (own_ne hi hj hc hij hic) (of_decide_eq_true c115) (Int32.not_lt.mpr c129) rfl c243)
          · skip
            refine r_aload_n (pc2 := 186) dX8_receives_185 rfl rfl ?_
            refine r_getR (pc2 := 189) dX8_receives_186 fl_X8_13 (by decide) rfl rfl rfl ?_
            refine r_iload (pc2 := 191) dX8_receives_189 rfl rfl ?_
            refine r_iconst (pc2 := 192) (nI 4) dX8_receives_191 (by decide) rfl ?_
            refine r_iaddN (pc2 := 193) dX8_receives_192 rfl ?_
            refine r_ialde (pc2 := 194) (x := ((s 10 ((i * 8 + j) * 8 + c)))) (j := _) (h.ge (k := ((i * 8 + j) * 8 + c)) 3 (by omega) (by omega) (by omega) rfl) dX8_receives_193 (by decide) rfl rfl (rfl) (by show _ < 3596; omega) rfl ?_
            refine r_iconst (pc2 := 195) (nI 1) dX8_receives_194 (by decide) rfl ?_
            refine r_iadd (pc2 := 196) dX8_receives_195 rfl ?_
            refine r_goto (pc2 := 226) dX8_receives_196 (by decide) ?_
            refine r_as (x' := ((gw_ s ((i * 8 + j) * 8 + c) up))) (by unfold gw_; rw [if_pos (Int32.not_le.mp c182)]) ?_
            refine r_iast (pc2 := 227) (j := _) dX8_receives_226 (by decide) rfl rfl (rfl) (by show _ < 3596; omega) rfl ?_
            obtain ⟨V2, hV2⟩ : ∃ V2, V2 = m_set V 0 34 (256 + 6 * ((i * 8 + j) * 8 + c) + 0 + 4) (gw_ s ((i * 8 + j) * 8 + c) up) := ⟨_, rfl⟩
            rw [← hV2]
            have h37 : V2 0 37 = V 0 37 := by rw [hV2]; repeat (rw [m_ne (by omega)])
            refine r_aload_n (pc2 := 228) dX8_receives_227 rfl rfl ?_
            refine r_getR (pc2 := 231) dX8_receives_228 fl_X8_13 (by decide) rfl rfl rfl ?_
            refine r_iload (pc2 := 233) dX8_receives_231 rfl rfl ?_
            refine r_iconst (pc2 := 234) (nI 4) dX8_receives_233 (by decide) rfl ?_
            refine r_iaddN (pc2 := 235) dX8_receives_234 rfl ?_
            refine r_ialde (pc2 := 236) (x := ((gw_ s ((i * 8 + j) * 8 + c) up))) (j := _) (by rw [hV2, m_j rfl]) dX8_receives_235 (by decide) rfl rfl (rfl) (by show _ < 3596; omega) rfl ?_
            refine r_aload_n (pc2 := 237) dX8_receives_236 rfl rfl ?_
            refine r_getR (pc2 := 240) dX8_receives_237 fl_X8_23 (by decide) rfl rfl rfl ?_
            refine r_bipush (pc2 := 242) (nI 8) dX8_receives_240 (by decide) rfl ?_
            refine r_ialde (pc2 := 243) (x := ((V 0 37 8))) (j := _) (by rw [h37]) dX8_receives_242 (by decide) rfl rfl (rfl) (by show _ < 10; omega) rfl ?_
            refine r_ic_lt (pc2 := 246) (tgt := 275) dX8_receives_243 (by decide) rfl (fun c243 => ?_) (fun c243 => ?_)
            · skip
              refine r_aload_n (pc2 := 276) dX8_receives_275 rfl rfl ?_
              refine r_getR (pc2 := 279) dX8_receives_276 fl_X8_13 (by decide) rfl rfl rfl ?_
              refine r_iload (pc2 := 281) dX8_receives_279 rfl rfl ?_
              refine r_iconst (pc2 := 282) (nI 1) dX8_receives_281 (by decide) rfl ?_
              refine r_iaddN (pc2 := 283) dX8_receives_282 rfl ?_
              refine r_iload (pc2 := 285) dX8_receives_283 rfl rfl ?_
              refine r_iast (pc2 := 286) (j := _) dX8_receives_285 (by decide) rfl rfl (rfl) (by show _ < 3596; omega) rfl ?_
              refine r_aload_n (pc2 := 287) dX8_receives_286 rfl rfl ?_
              refine r_getR (pc2 := 290) dX8_receives_287 fl_X8_13 (by decide) rfl rfl rfl ?_
              refine r_iload (pc2 := 292) dX8_receives_290 rfl rfl ?_
              refine r_iconst (pc2 := 293) (nI 2) dX8_receives_292 (by decide) rfl ?_
              refine r_iaddN (pc2 := 294) dX8_receives_293 rfl ?_
              refine r_iload (pc2 := 296) dX8_receives_294 rfl rfl ?_
              refine r_iast (pc2 := 297) (j := _) dX8_receives_296 (by decide) rfl rfl (rfl) (by show _ < 3596; omega) rfl ?_
              refine r_aload_n (pc2 := 298) dX8_receives_297 rfl rfl ?_
              refine r_getR (pc2 := 301) dX8_receives_298 fl_X8_13 (by decide) rfl rfl rfl ?_
              refine r_iload (pc2 := 303) dX8_receives_301 rfl rfl ?_
              refine r_iconst (pc2 := 304) (nI 3) dX8_receives_303 (by decide) rfl ?_
              refine r_iaddN (pc2 := 305) dX8_receives_304 rfl ?_
              refine r_iload (pc2 := 307) dX8_receives_305 rfl rfl ?_
              refine r_aload_n (pc2 := 308) dX8_receives_307 rfl rfl ?_
              refine r_getR (pc2 := 311) dX8_receives_308 fl_X8_23 (by decide) rfl rfl rfl ?_
              refine r_iconst (pc2 := 312) (nI 1) dX8_receives_311 (by decide) rfl ?_
              refine r_ialde (pc2 := 313) (x := ((V 0 37 1))) (j := _) (by (try rw [m_ne (by omega)]); (try rw [m_ne (by omega)]); (try rw [m_ne (by omega)]); (try rw [m_ne (by omega)]); rw [h37]) dX8_receives_312 (by decide) rfl rfl (rfl) (by show _ < 10; omega) rfl ?_
              refine r_iadd (pc2 := 314) dX8_receives_313 rfl ?_
              refine r_iast (pc2 := 315) (j := _) dX8_receives_314 (by decide) rfl rfl (rfl) (by show _ < 3596; omega) rfl ?_
              exact r_vret dX8_receives_315 rfl (by subst hV2; first | exact rx_b h (by omega) ht hlo hup (own_ne hi hj hc hij hic) (of_decide_eq_true c115) (Int32.not_lt.mpr c129) rfl c243 | exact rx_c h (by omega) ht hlo hup (own_ne hi hj hc hij hic) (of_decide_eq_true c115) (Int32.not_lt.mpr c129) rfl c243)
            · skip
              refine r_aload_n (pc2 := 247) dX8_receives_246 rfl rfl ?_
              refine r_getR (pc2 := 250) dX8_receives_247 fl_X8_13 (by decide) rfl rfl rfl ?_
              refine r_iload (pc2 := 252) dX8_receives_250 rfl rfl ?_
              refine r_iconst (pc2 := 253) (nI 5) dX8_receives_252 (by decide) rfl ?_
              refine r_iaddN (pc2 := 254) dX8_receives_253 rfl ?_
              refine r_iload (pc2 := 256) dX8_receives_254 rfl rfl ?_
              refine r_aload_n (pc2 := 257) dX8_receives_256 rfl rfl ?_
              refine r_getR (pc2 := 260) dX8_receives_257 fl_X8_23 (by decide) rfl rfl rfl ?_
              refine r_bipush (pc2 := 262) (nI 9) dX8_receives_260 (by decide) rfl ?_
              refine r_ialde (pc2 := 263) (x := ((V 0 37 9))) (j := _) (by rw [h37]) dX8_receives_262 (by decide) rfl rfl (rfl) (by show _ < 10; omega) rfl ?_
              refine r_iadd (pc2 := 264) dX8_receives_263 rfl ?_
              refine r_iast (pc2 := 265) (j := _) dX8_receives_264 (by decide) rfl rfl (rfl) (by show _ < 3596; omega) rfl ?_
              refine r_aload_n (pc2 := 266) dX8_receives_265 rfl rfl ?_
              refine r_getR (pc2 := 269) dX8_receives_266 fl_X8_13 (by decide) rfl rfl rfl ?_
              refine r_iload (pc2 := 271) dX8_receives_269 rfl rfl ?_
              refine r_iconst (pc2 := 272) (nI 4) dX8_receives_271 (by decide) rfl ?_
              refine r_iaddN (pc2 := 273) dX8_receives_272 rfl ?_
              refine r_iconst (pc2 := 274) (nI 0) dX8_receives_273 (by decide) rfl ?_
              refine r_iast (pc2 := 275) (j := _) dX8_receives_274 (by decide) rfl rfl (rfl) (by show _ < 3596; omega) rfl ?_
              refine r_aload_n (pc2 := 276) dX8_receives_275 rfl rfl ?_
              refine r_getR (pc2 := 279) dX8_receives_276 fl_X8_13 (by decide) rfl rfl rfl ?_
              refine r_iload (pc2 := 281) dX8_receives_279 rfl rfl ?_
              refine r_iconst (pc2 := 282) (nI 1) dX8_receives_281 (by decide) rfl ?_
              refine r_iaddN (pc2 := 283) dX8_receives_282 rfl ?_
              refine r_iload (pc2 := 285) dX8_receives_283 rfl rfl ?_
              refine r_iast (pc2 := 286) (j := _) dX8_receives_285 (by decide) rfl rfl (rfl) (by show _ < 3596; omega) rfl ?_
              refine r_aload_n (pc2 := 287) dX8_receives_286 rfl rfl ?_
              refine r_getR (pc2 := 290) dX8_receives_287 fl_X8_13 (by decide) rfl rfl rfl ?_
              refine r_iload (pc2 := 292) dX8_receives_290 rfl rfl ?_
              refine r_iconst (pc2 := 293) (nI 2) dX8_receives_292 (by decide) rfl ?_
              refine r_iaddN (pc2 := 294) dX8_receives_293 rfl ?_
              refine r_iload (pc2 := 296) dX8_receives_294 rfl rfl ?_
              refine r_iast (pc2 := 297) (j := _) dX8_receives_296 (by decide) rfl rfl (rfl) (by show _ < 3596; omega) rfl ?_
              refine r_aload_n (pc2 := 298) dX8_receives_297 rfl rfl ?_
              refine r_getR (pc2 := 301) dX8_receives_298 fl_X8_13 (by decide) rfl rfl rfl ?_
              refine r_iload (pc2 := 303) dX8_receives_301 rfl rfl ?_
              refine r_iconst (pc2 := 304) (nI 3) dX8_receives_303 (by decide) rfl ?_
              refine r_iaddN (pc2 := 305) dX8_receives_304 rfl ?_
              refine r_iload (pc2 := 307) dX8_receives_305 rfl rfl ?_
              refine r_aload_n (pc2 := 308) dX8_receives_307 rfl rfl ?_
              refine r_getR (pc2 := 311) dX8_receives_308 fl_X8_23 (by decide) rfl rfl rfl ?_
              refine r_iconst (pc2 := 312) (nI 1) dX8_receives_311 (by decide) rfl ?_
              refine r_ialde (pc2 := 313) (x := ((V 0 37 1))) (j := _) (by (try rw [m_ne (by omega)]); (try rw [m_ne (by omega)]); (try rw [m_ne (by omega)]); (try rw [m_ne (by omega)]); rw [h37]) dX8_receives_312 (by decide) rfl rfl (rfl) (by show _ < 10; omega) rfl ?_
              refine r_iadd (pc2 := 314) dX8_receives_313 rfl ?_
              refine r_iast (pc2 := 315) (j := _) dX8_receives_314 (by decide) rfl rfl (rfl) (by show _ < 3596; omega) rfl ?_
              exact r_vret dX8_receives_315 rfl (by subst hV2; first | exact rx_b h (by omega) ht hlo hup (own_ne hi hj hc hij hic) (of_decide_eq_true c115) (Int32.not_lt.mpr c129) rfl c243 | exact rx_c h (by omega) ht hlo hup (own_ne hi hj hc hij hic) (of_decide_eq_true c115) (Int32.not_lt.mpr c129) rfl c243)
        · skip
          refine r_aload_n (pc2 := 133) dX8_receives_132 rfl rfl ?_
          refine r_getR (pc2 := 136) dX8_receives_133 fl_X8_13 (by decide) rfl rfl rfl ?_
          refine r_iload (pc2 := 138) dX8_receives_136 rfl rfl ?_
          refine r_iconst (pc2 := 139) (nI 1) dX8_receives_138 (by decide) rfl ?_
          refine r_iast (pc2 := 140) (j := _) dX8_receives_139 (by decide) rfl rfl (rfl) (by show _ < 3596; omega) rfl ?_
          refine r_aload_n (pc2 := 141) dX8_receives_140 rfl rfl ?_
          refine r_getR (pc2 := 144) dX8_receives_141 fl_X8_13 (by decide) rfl rfl rfl ?_
          refine r_iload (pc2 := 146) dX8_receives_144 rfl rfl ?_
          refine r_iconst (pc2 := 147) (nI 4) dX8_receives_146 (by decide) rfl ?_
          refine r_iaddN (pc2 := 148) dX8_receives_147 rfl ?_
          refine r_iconst (pc2 := 149) (nI 0) dX8_receives_148 (by decide) rfl ?_
          refine r_iast (pc2 := 150) (j := _) dX8_receives_149 (by decide) rfl rfl (rfl) (by show _ < 3596; omega) rfl ?_
          refine r_aload_n (pc2 := 151) dX8_receives_150 rfl rfl ?_
          refine r_getR (pc2 := 154) dX8_receives_151 fl_X8_13 (by decide) rfl rfl rfl ?_
          refine r_iload (pc2 := 156) dX8_receives_154 rfl rfl ?_
          refine r_iconst (pc2 := 157) (nI 5) dX8_receives_156 (by decide) rfl ?_
          refine r_iaddN (pc2 := 158) dX8_receives_157 rfl ?_
          refine r_iconst (pc2 := 159) (nI 0) dX8_receives_158 (by decide) rfl ?_
          refine r_iast (pc2 := 160) (j := _) dX8_receives_159 (by decide) rfl rfl (rfl) (by show _ < 3596; omega) rfl ?_
          refine r_goto (pc2 := 227) dX8_receives_160 (by decide) ?_
          obtain ⟨V2, hV2⟩ : ∃ V2, V2 = m_set (m_set (m_set V 0 34 (256 + 6 * ((i * 8 + j) * 8 + c) + 0) (nI 1)) 0 34 (256 + 6 * ((i * 8 + j) * 8 + c) + 0 + 4) (nI 0)) 0 34 (256 + 6 * ((i * 8 + j) * 8 + c) + 0 + 5) (nI 0) := ⟨_, rfl⟩
          rw [← hV2]
          have h37 : V2 0 37 = V 0 37 := by rw [hV2]; repeat (rw [m_ne (by omega)])
          refine r_aload_n (pc2 := 228) dX8_receives_227 rfl rfl ?_
          refine r_getR (pc2 := 231) dX8_receives_228 fl_X8_13 (by decide) rfl rfl rfl ?_
          refine r_iload (pc2 := 233) dX8_receives_231 rfl rfl ?_
          refine r_iconst (pc2 := 234) (nI 4) dX8_receives_233 (by decide) rfl ?_
          refine r_iaddN (pc2 := 235) dX8_receives_234 rfl ?_
          refine r_ialde (pc2 := 236) (x := (nI 0)) (j := _) (by rw [hV2, m_i (by omega), m_j rfl]) dX8_receives_235 (by decide) rfl rfl (rfl) (by show _ < 3596; omega) rfl ?_
          refine r_aload_n (pc2 := 237) dX8_receives_236 rfl rfl ?_
          refine r_getR (pc2 := 240) dX8_receives_237 fl_X8_23 (by decide) rfl rfl rfl ?_
          refine r_bipush (pc2 := 242) (nI 8) dX8_receives_240 (by decide) rfl ?_
          refine r_ialde (pc2 := 243) (x := ((V 0 37 8))) (j := _) (by rw [h37]) dX8_receives_242 (by decide) rfl rfl (rfl) (by show _ < 10; omega) rfl ?_
          refine r_ic_lt (pc2 := 246) (tgt := 275) dX8_receives_243 (by decide) rfl (fun c243 => ?_) (fun c243 => ?_)
          · skip
            refine r_aload_n (pc2 := 276) dX8_receives_275 rfl rfl ?_
            refine r_getR (pc2 := 279) dX8_receives_276 fl_X8_13 (by decide) rfl rfl rfl ?_
            refine r_iload (pc2 := 281) dX8_receives_279 rfl rfl ?_
            refine r_iconst (pc2 := 282) (nI 1) dX8_receives_281 (by decide) rfl ?_
            refine r_iaddN (pc2 := 283) dX8_receives_282 rfl ?_
            refine r_iload (pc2 := 285) dX8_receives_283 rfl rfl ?_
            refine r_iast (pc2 := 286) (j := _) dX8_receives_285 (by decide) rfl rfl (rfl) (by show _ < 3596; omega) rfl ?_
            refine r_aload_n (pc2 := 287) dX8_receives_286 rfl rfl ?_
            refine r_getR (pc2 := 290) dX8_receives_287 fl_X8_13 (by decide) rfl rfl rfl ?_
            refine r_iload (pc2 := 292) dX8_receives_290 rfl rfl ?_
            refine r_iconst (pc2 := 293) (nI 2) dX8_receives_292 (by decide) rfl ?_
            refine r_iaddN (pc2 := 294) dX8_receives_293 rfl ?_
            refine r_iload (pc2 := 296) dX8_receives_294 rfl rfl ?_
            refine r_iast (pc2 := 297) (j := _) dX8_receives_296 (by decide) rfl rfl (rfl) (by show _ < 3596; omega) rfl ?_
            refine r_aload_n (pc2 := 298) dX8_receives_297 rfl rfl ?_
            refine r_getR (pc2 := 301) dX8_receives_298 fl_X8_13 (by decide) rfl rfl rfl ?_
            refine r_iload (pc2 := 303) dX8_receives_301 rfl rfl ?_
            refine r_iconst (pc2 := 304) (nI 3) dX8_receives_303 (by decide) rfl ?_
            refine r_iaddN (pc2 := 305) dX8_receives_304 rfl ?_
            refine r_iload (pc2 := 307) dX8_receives_305 rfl rfl ?_
            refine r_aload_n (pc2 := 308) dX8_receives_307 rfl rfl ?_
            refine r_getR (pc2 := 311) dX8_receives_308 fl_X8_23 (by decide) rfl rfl rfl ?_
            refine r_iconst (pc2 := 312) (nI 1) dX8_receives_311 (by decide) rfl ?_
            refine r_ialde (pc2 := 313) (x := ((V 0 37 1))) (j := _) (by (try rw [m_ne (by omega)]); (try rw [m_ne (by omega)]); (try rw [m_ne (by omega)]); (try rw [m_ne (by omega)]); rw [h37]) dX8_receives_312 (by decide) rfl rfl (rfl) (by show _ < 10; omega) rfl ?_
            refine r_iadd (pc2 := 314) dX8_receives_313 rfl ?_
            refine r_iast (pc2 := 315) (j := _) dX8_receives_314 (by decide) rfl rfl (rfl) (by show _ < 3596; omega) rfl ?_
            exact r_vret dX8_receives_315 rfl (by subst hV2; exact rx_a h (by omega) ht hlo hup (own_ne hi hj hc hij hic) (Int32.not_le.mp c129))
          · skip
            exact absurd h8 c243
    · skip
      (rw [c28] at c64; cases c64)
  · skip
    refine r_aload_n (pc2 := 32) dX8_receives_31 rfl rfl ?_
    refine r_getR (pc2 := 35) dX8_receives_32 fl_X8_32 (by decide) rfl rfl rfl ?_
    refine r_iload (pc2 := 37) dX8_receives_35 rfl rfl ?_
    refine r_ialde (pc2 := 38) (x := ((V 0 40 (c * 8 + j)))) (j := _) (congrArg (V 0 40) (by omega)) dX8_receives_37 (by decide) rfl rfl (rfl) (by show _ < 64; omega) rfl ?_
    refine r_aload_n (pc2 := 39) dX8_receives_38 rfl rfl ?_
    refine r_getR (pc2 := 42) dX8_receives_39 fl_X8_13 (by decide) rfl rfl rfl ?_
    refine r_iload_n (pc2 := 43) dX8_receives_42 rfl rfl ?_
    refine r_iload_n (pc2 := 44) dX8_receives_43 rfl rfl ?_
    refine r_iconst (pc2 := 45) (nI 0) dX8_receives_44 (by decide) rfl ?_
    refine r_cs3p (pc2 := 48) dX8_receives_45 st_X8_receives_62 (Nat.le_of_ble_eq_true rfl) rfl (c_X8_linkAt) ?_
    refine r_ialde (pc2 := 49) (x := ((s 2 (c * 8 + i)))) (j := _) (h.lk (c * 8 + i) 0 (by omega) (by omega)) dX8_receives_48 (by decide) rfl rfl (rfl) (by show _ < 3596; omega) rfl ?_
    refine r_iadd (pc2 := 50) dX8_receives_49 rfl ?_
    refine r_iload (pc2 := 52) dX8_receives_50 rfl rfl ?_
    refine r_cs2p (pc2 := 55) dX8_receives_52 st_X8_receives_114 (Nat.le_of_ble_eq_true rfl) rfl (c_X8_limited) ?_
    refine r_goto (pc2 := 60) dX8_receives_55 (by decide) ?_
    refine r_as (x' := lo) (by rw [← hLO]; unfold lim_; rw [c28]; first | rw [if_pos rfl] | rw [if_neg (by decide)]) ?_
    refine r_istore (pc2 := 62) dX8_receives_60 (by decide) rfl rfl ?_
    refine r_iload (pc2 := 64) dX8_receives_62 rfl rfl ?_
    refine r_ifB_eq (pc2 := 67) (tgt := 94) dX8_receives_64 (by decide) rfl (fun c64 => ?_) (fun c64 => ?_)
    · skip
      (rw [c28] at c64; cases c64)
    · skip
      refine r_aload_n (pc2 := 68) dX8_receives_67 rfl rfl ?_
      refine r_getR (pc2 := 71) dX8_receives_68 fl_X8_35 (by decide) rfl rfl rfl ?_
      refine r_iload (pc2 := 73) dX8_receives_71 rfl rfl ?_
      refine r_ialde (pc2 := 74) (x := ((V 0 41 (c * 8 + j)))) (j := _) (congrArg (V 0 41) (by omega)) dX8_receives_73 (by decide) rfl rfl (rfl) (by show _ < 64; omega) rfl ?_
      refine r_aload_n (pc2 := 75) dX8_receives_74 rfl rfl ?_
      refine r_getR (pc2 := 78) dX8_receives_75 fl_X8_13 (by decide) rfl rfl rfl ?_
      refine r_iload_n (pc2 := 79) dX8_receives_78 rfl rfl ?_
      refine r_iload_n (pc2 := 80) dX8_receives_79 rfl rfl ?_
      refine r_iconst (pc2 := 81) (nI 1) dX8_receives_80 (by decide) rfl ?_
      refine r_cs3p (pc2 := 84) dX8_receives_81 st_X8_receives_62 (Nat.le_of_ble_eq_true rfl) rfl (c_X8_linkAt) ?_
      refine r_ialde (pc2 := 85) (x := ((s 3 (c * 8 + i)))) (j := _) (h.lk (c * 8 + i) 1 (by omega) (by omega)) dX8_receives_84 (by decide) rfl rfl (rfl) (by show _ < 3596; omega) rfl ?_
      refine r_iadd (pc2 := 86) dX8_receives_85 rfl ?_
      refine r_iload (pc2 := 88) dX8_receives_86 rfl rfl ?_
      refine r_cs2p (pc2 := 91) dX8_receives_88 st_X8_receives_114 (Nat.le_of_ble_eq_true rfl) rfl (c_X8_limited) ?_
      refine r_goto (pc2 := 96) dX8_receives_91 (by decide) ?_
      refine r_as (x' := up) (by rw [← hUP]; unfold lim_; rw [c28]; first | rw [if_pos rfl] | rw [if_neg (by decide)]) ?_
      refine r_istore (pc2 := 98) dX8_receives_96 (by decide) rfl rfl ?_
      refine r_aload_n (pc2 := 99) dX8_receives_98 rfl rfl ?_
      refine r_getR (pc2 := 102) dX8_receives_99 fl_X8_13 (by decide) rfl rfl rfl ?_
      refine r_sipush (pc2 := 105) (nI 3593) dX8_receives_102 (by decide) rfl ?_
      refine r_ialde (pc2 := 106) (x := ((s 0 1))) (j := _) (h.tm) dX8_receives_105 (by decide) rfl rfl (rfl) (by show _ < 3596; omega) rfl ?_
      refine r_istore (pc2 := 108) dX8_receives_106 (by decide) rfl rfl ?_
      refine r_aload_n (pc2 := 109) dX8_receives_108 rfl rfl ?_
      refine r_getR (pc2 := 112) dX8_receives_109 fl_X8_13 (by decide) rfl rfl rfl ?_
      refine r_iload (pc2 := 114) dX8_receives_112 rfl rfl ?_
      refine r_ialde (pc2 := 115) (x := (b2 ((decide (0 < s 9 ((i * 8 + j) * 8 + c)))))) (j := _) (h.g0 (k := ((i * 8 + j) * 8 + c)) (by omega) (by omega)) dX8_receives_114 (by decide) rfl rfl (rfl) (by show _ < 3596; omega) rfl ?_
      refine r_ifB_eq (pc2 := 118) (tgt := 132) dX8_receives_115 (by decide) rfl (fun c115 => ?_) (fun c115 => ?_)
      · skip
        refine r_aload_n (pc2 := 133) dX8_receives_132 rfl rfl ?_
        refine r_getR (pc2 := 136) dX8_receives_133 fl_X8_13 (by decide) rfl rfl rfl ?_
        refine r_iload (pc2 := 138) dX8_receives_136 rfl rfl ?_
        refine r_iconst (pc2 := 139) (nI 1) dX8_receives_138 (by decide) rfl ?_
        refine r_iast (pc2 := 140) (j := _) dX8_receives_139 (by decide) rfl rfl (rfl) (by show _ < 3596; omega) rfl ?_
        refine r_aload_n (pc2 := 141) dX8_receives_140 rfl rfl ?_
        refine r_getR (pc2 := 144) dX8_receives_141 fl_X8_13 (by decide) rfl rfl rfl ?_
        refine r_iload (pc2 := 146) dX8_receives_144 rfl rfl ?_
        refine r_iconst (pc2 := 147) (nI 4) dX8_receives_146 (by decide) rfl ?_
        refine r_iaddN (pc2 := 148) dX8_receives_147 rfl ?_
        refine r_iconst (pc2 := 149) (nI 0) dX8_receives_148 (by decide) rfl ?_
        refine r_iast (pc2 := 150) (j := _) dX8_receives_149 (by decide) rfl rfl (rfl) (by show _ < 3596; omega) rfl ?_
        refine r_aload_n (pc2 := 151) dX8_receives_150 rfl rfl ?_
        refine r_getR (pc2 := 154) dX8_receives_151 fl_X8_13 (by decide) rfl rfl rfl ?_
        refine r_iload (pc2 := 156) dX8_receives_154 rfl rfl ?_
        refine r_iconst (pc2 := 157) (nI 5) dX8_receives_156 (by decide) rfl ?_
        refine r_iaddN (pc2 := 158) dX8_receives_157 rfl ?_
        refine r_iconst (pc2 := 159) (nI 0) dX8_receives_158 (by decide) rfl ?_
        refine r_iast (pc2 := 160) (j := _) dX8_receives_159 (by decide) rfl rfl (rfl) (by show _ < 3596; omega) rfl ?_
        refine r_goto (pc2 := 227) dX8_receives_160 (by decide) ?_
        obtain ⟨V2, hV2⟩ : ∃ V2, V2 = m_set (m_set (m_set V 0 34 (256 + 6 * ((i * 8 + j) * 8 + c) + 0) (nI 1)) 0 34 (256 + 6 * ((i * 8 + j) * 8 + c) + 0 + 4) (nI 0)) 0 34 (256 + 6 * ((i * 8 + j) * 8 + c) + 0 + 5) (nI 0) := ⟨_, rfl⟩
        rw [← hV2]
        have h37 : V2 0 37 = V 0 37 := by rw [hV2]; repeat (rw [m_ne (by omega)])
        refine r_aload_n (pc2 := 228) dX8_receives_227 rfl rfl ?_
        refine r_getR (pc2 := 231) dX8_receives_228 fl_X8_13 (by decide) rfl rfl rfl ?_
        refine r_iload (pc2 := 233) dX8_receives_231 rfl rfl ?_
        refine r_iconst (pc2 := 234) (nI 4) dX8_receives_233 (by decide) rfl ?_
        refine r_iaddN (pc2 := 235) dX8_receives_234 rfl ?_
        refine r_ialde (pc2 := 236) (x := (nI 0)) (j := _) (by rw [hV2, m_i (by omega), m_j rfl]) dX8_receives_235 (by decide) rfl rfl (rfl) (by show _ < 3596; omega) rfl ?_
        refine r_aload_n (pc2 := 237) dX8_receives_236 rfl rfl ?_
        refine r_getR (pc2 := 240) dX8_receives_237 fl_X8_23 (by decide) rfl rfl rfl ?_
        refine r_bipush (pc2 := 242) (nI 8) dX8_receives_240 (by decide) rfl ?_
        refine r_ialde (pc2 := 243) (x := ((V 0 37 8))) (j := _) (by rw [h37]) dX8_receives_242 (by decide) rfl rfl (rfl) (by show _ < 10; omega) rfl ?_
        refine r_ic_lt (pc2 := 246) (tgt := 275) dX8_receives_243 (by decide) rfl (fun c243 => ?_) (fun c243 => ?_)
        · skip
          refine r_aload_n (pc2 := 276) dX8_receives_275 rfl rfl ?_
          refine r_getR (pc2 := 279) dX8_receives_276 fl_X8_13 (by decide) rfl rfl rfl ?_
          refine r_iload (pc2 := 281) dX8_receives_279 rfl rfl ?_
          refine r_iconst (pc2 := 282) (nI 1) dX8_receives_281 (by decide) rfl ?_
          refine r_iaddN (pc2 := 283) dX8_receives_282 rfl ?_
          refine r_iload (pc2 := 285) dX8_receives_283 rfl rfl ?_
          refine r_iast (pc2 := 286) (j := _) dX8_receives_285 (by decide) rfl rfl (rfl) (by show _ < 3596; omega) rfl ?_
          refine r_aload_n (pc2 := 287) dX8_receives_286 rfl rfl ?_
          refine r_getR (pc2 := 290) dX8_receives_287 fl_X8_13 (by decide) rfl rfl rfl ?_
          refine r_iload (pc2 := 292) dX8_receives_290 rfl rfl ?_
          refine r_iconst (pc2 := 293) (nI 2) dX8_receives_292 (by decide) rfl ?_
          refine r_iaddN (pc2 := 294) dX8_receives_293 rfl ?_
          refine r_iload (pc2 := 296) dX8_receives_294 rfl rfl ?_
          refine r_iast (pc2 := 297) (j := _) dX8_receives_296 (by decide) rfl rfl (rfl) (by show _ < 3596; omega) rfl ?_
          refine r_aload_n (pc2 := 298) dX8_receives_297 rfl rfl ?_
          refine r_getR (pc2 := 301) dX8_receives_298 fl_X8_13 (by decide) rfl rfl rfl ?_
          refine r_iload (pc2 := 303) dX8_receives_301 rfl rfl ?_
          refine r_iconst (pc2 := 304) (nI 3) dX8_receives_303 (by decide) rfl ?_
          refine r_iaddN (pc2 := 305) dX8_receives_304 rfl ?_
          refine r_iload (pc2 := 307) dX8_receives_305 rfl rfl ?_
          refine r_aload_n (pc2 := 308) dX8_receives_307 rfl rfl ?_
          refine r_getR (pc2 := 311) dX8_receives_308 fl_X8_23 (by decide) rfl rfl rfl ?_
          refine r_iconst (pc2 := 312) (nI 1) dX8_receives_311 (by decide) rfl ?_
          refine r_ialde (pc2 := 313) (x := ((V 0 37 1))) (j := _) (by (try rw [m_ne (by omega)]); (try rw [m_ne (by omega)]); (try rw [m_ne (by omega)]); (try rw [m_ne (by omega)]); rw [h37]) dX8_receives_312 (by decide) rfl rfl (rfl) (by show _ < 10; omega) rfl ?_
          refine r_iadd (pc2 := 314) dX8_receives_313 rfl ?_
          refine r_iast (pc2 := 315) (j := _) dX8_receives_314 (by decide) rfl rfl (rfl) (by show _ < 3596; omega) rfl ?_
          exact r_vret dX8_receives_315 rfl (by subst hV2; exact rx_a h (by omega) ht hlo hup (own_ne hi hj hc hij hic) (Int32.lt_of_le_of_lt (Int32.not_lt.mp (of_decide_eq_false c115)) ht0))
        · skip
          exact absurd h8 c243
      · skip
        refine r_aload_n (pc2 := 119) dX8_receives_118 rfl rfl ?_
        refine r_getR (pc2 := 122) dX8_receives_119 fl_X8_13 (by decide) rfl rfl rfl ?_
        refine r_iload (pc2 := 124) dX8_receives_122 rfl rfl ?_
        refine r_iconst (pc2 := 125) (nI 3) dX8_receives_124 (by decide) rfl ?_
        refine r_iaddN (pc2 := 126) dX8_receives_125 rfl ?_
        refine r_ialde (pc2 := 127) (x := ((s 9 ((i * 8 + j) * 8 + c)))) (j := _) (h.ge (k := ((i * 8 + j) * 8 + c)) 2 (by omega) (by omega) (by omega) rfl) dX8_receives_126 (by decide) rfl rfl (rfl) (by show _ < 3596; omega) rfl ?_
        refine r_iload (pc2 := 129) dX8_receives_127 rfl rfl ?_
        refine r_ic_ge (pc2 := 132) (tgt := 163) dX8_receives_129 (by decide) rfl (fun c129 => ?_) (fun c129 => ?_)
        · skip
          refine r_aload_n (pc2 := 164) dX8_receives_163 rfl rfl ?_
          refine r_getR (pc2 := 167) dX8_receives_164 fl_X8_13 (by decide) rfl rfl rfl ?_
          refine r_iload (pc2 := 169) dX8_receives_167 rfl rfl ?_
          refine r_iconst (pc2 := 170) (nI 4) dX8_receives_169 (by decide) rfl ?_
          refine r_iaddN (pc2 := 171) dX8_receives_170 rfl ?_
          refine r_iload (pc2 := 173) dX8_receives_171 rfl rfl ?_
          refine r_aload_n (pc2 := 174) dX8_receives_173 rfl rfl ?_
          refine r_getR (pc2 := 177) dX8_receives_174 fl_X8_13 (by decide) rfl rfl rfl ?_
          refine r_iload (pc2 := 179) dX8_receives_177 rfl rfl ?_
          refine r_iconst (pc2 := 180) (nI 2) dX8_receives_179 (by decide) rfl ?_
          refine r_iaddN (pc2 := 181) dX8_receives_180 rfl ?_
          refine r_ialde (pc2 := 182) (x := ((s 8 ((i * 8 + j) * 8 + c)))) (j := _) (h.ge (k := ((i * 8 + j) * 8 + c)) 1 (by omega) (by omega) (by omega) rfl) dX8_receives_181 (by decide) rfl rfl (rfl) (by show _ < 3596; omega) rfl ?_
          refine r_ic_le (pc2 := 185) (tgt := 199) dX8_receives_182 (by decide) rfl (fun c182 => ?_) (fun c182 => ?_)
          · skip
            refine r_iload (pc2 := 201) dX8_receives_199 rfl rfl ?_
            refine r_aload_n (pc2 := 202) dX8_receives_201 rfl rfl ?_
            refine r_getR (pc2 := 205) dX8_receives_202 fl_X8_13 (by decide) rfl rfl rfl ?_
            refine r_iload (pc2 := 207) dX8_receives_205 rfl rfl ?_
            refine r_iconst (pc2 := 208) (nI 2) dX8_receives_207 (by decide) rfl ?_
            refine r_iaddN (pc2 := 209) dX8_receives_208 rfl ?_
            refine r_ialde (pc2 := 210) (x := ((s 8 ((i * 8 + j) * 8 + c)))) (j := _) (h.ge (k := ((i * 8 + j) * 8 + c)) 1 (by omega) (by omega) (by omega) rfl) dX8_receives_209 (by decide) rfl rfl (rfl) (by show _ < 3596; omega) rfl ?_
            refine r_ic_ge (pc2 := 213) (tgt := 217) dX8_receives_210 (by decide) rfl (fun c210 => ?_) (fun c210 => ?_)
            · skip
              refine r_aload_n (pc2 := 218) dX8_receives_217 rfl rfl ?_
              refine r_getR (pc2 := 221) dX8_receives_218 fl_X8_13 (by decide) rfl rfl rfl ?_
              refine r_iload (pc2 := 223) dX8_receives_221 rfl rfl ?_
              refine r_iconst (pc2 := 224) (nI 4) dX8_receives_223 (by decide) rfl ?_
              refine r_iaddN (pc2 := 225) dX8_receives_224 rfl ?_
              refine r_ialde (pc2 := 226) (x := ((s 10 ((i * 8 + j) * 8 + c)))) (j := _) (h.ge (k := ((i * 8 + j) * 8 + c)) 3 (by omega) (by omega) (by omega) rfl) dX8_receives_225 (by decide) rfl rfl (rfl) (by show _ < 3596; omega) rfl ?_
              refine r_as (x' := ((gw_ s ((i * 8 + j) * 8 + c) up))) (by unfold gw_; rw [if_neg (Int32.not_lt.mpr c182)]; first | rw [if_neg (Int32.not_lt.mpr c210)] | rw [if_pos (Int32.not_le.mp c210)]) ?_
              refine r_iast (pc2 := 227) (j := _) dX8_receives_226 (by decide) rfl rfl (rfl) (by show _ < 3596; omega) rfl ?_
              obtain ⟨V2, hV2⟩ : ∃ V2, V2 = m_set V 0 34 (256 + 6 * ((i * 8 + j) * 8 + c) + 0 + 4) (gw_ s ((i * 8 + j) * 8 + c) up) := ⟨_, rfl⟩
              rw [← hV2]
              have h37 : V2 0 37 = V 0 37 := by rw [hV2]; repeat (rw [m_ne (by omega)])
              refine r_aload_n (pc2 := 228) dX8_receives_227 rfl rfl ?_
              refine r_getR (pc2 := 231) dX8_receives_228 fl_X8_13 (by decide) rfl rfl rfl ?_
              refine r_iload (pc2 := 233) dX8_receives_231 rfl rfl ?_
              refine r_iconst (pc2 := 234) (nI 4) dX8_receives_233 (by decide) rfl ?_
              refine r_iaddN (pc2 := 235) dX8_receives_234 rfl ?_
              refine r_ialde (pc2 := 236) (x := ((gw_ s ((i * 8 + j) * 8 + c) up))) (j := _) (by rw [hV2, m_j rfl]) dX8_receives_235 (by decide) rfl rfl (rfl) (by show _ < 3596; omega) rfl ?_
              refine r_aload_n (pc2 := 237) dX8_receives_236 rfl rfl ?_
              refine r_getR (pc2 := 240) dX8_receives_237 fl_X8_23 (by decide) rfl rfl rfl ?_
              refine r_bipush (pc2 := 242) (nI 8) dX8_receives_240 (by decide) rfl ?_
              refine r_ialde (pc2 := 243) (x := ((V 0 37 8))) (j := _) (by rw [h37]) dX8_receives_242 (by decide) rfl rfl (rfl) (by show _ < 10; omega) rfl ?_
              refine r_ic_lt (pc2 := 246) (tgt := 275) dX8_receives_243 (by decide) rfl (fun c243 => ?_) (fun c243 => ?_)
              · skip
                refine r_aload_n (pc2 := 276) dX8_receives_275 rfl rfl ?_
                refine r_getR (pc2 := 279) dX8_receives_276 fl_X8_13 (by decide) rfl rfl rfl ?_
                refine r_iload (pc2 := 281) dX8_receives_279 rfl rfl ?_
                refine r_iconst (pc2 := 282) (nI 1) dX8_receives_281 (by decide) rfl ?_
                refine r_iaddN (pc2 := 283) dX8_receives_282 rfl ?_
                refine r_iload (pc2 := 285) dX8_receives_283 rfl rfl ?_
                refine r_iast (pc2 := 286) (j := _) dX8_receives_285 (by decide) rfl rfl (rfl) (by show _ < 3596; omega) rfl ?_
                refine r_aload_n (pc2 := 287) dX8_receives_286 rfl rfl ?_
                refine r_getR (pc2 := 290) dX8_receives_287 fl_X8_13 (by decide) rfl rfl rfl ?_
                refine r_iload (pc2 := 292) dX8_receives_290 rfl rfl ?_
                refine r_iconst (pc2 := 293) (nI 2) dX8_receives_292 (by decide) rfl ?_
                refine r_iaddN (pc2 := 294) dX8_receives_293 rfl ?_
                refine r_iload (pc2 := 296) dX8_receives_294 rfl rfl ?_
                refine r_iast (pc2 := 297) (j := _) dX8_receives_296 (by decide) rfl rfl (rfl) (by show _ < 3596; omega) rfl ?_
                refine r_aload_n (pc2 := 298) dX8_receives_297 rfl rfl ?_
                refine r_getR (pc2 := 301) dX8_receives_298 fl_X8_13 (by decide) rfl rfl rfl ?_
                refine r_iload (pc2 := 303) dX8_receives_301 rfl rfl ?_
                refine r_iconst (pc2 := 304) (nI 3) dX8_receives_303 (by decide) rfl ?_
                refine r_iaddN (pc2 := 305) dX8_receives_304 rfl ?_
                refine r_iload (pc2 := 307) dX8_receives_305 rfl rfl ?_
                refine r_aload_n (pc2 := 308) dX8_receives_307 rfl rfl ?_
                refine r_getR (pc2 := 311) dX8_receives_308 fl_X8_23 (by decide) rfl rfl rfl ?_
                refine r_iconst (pc2 := 312) (nI 1) dX8_receives_311 (by decide) rfl ?_
                refine r_ialde (pc2 := 313) (x := ((V 0 37 1))) (j := _) (by (try rw [m_ne (by omega)]); (try rw [m_ne (by omega)]); (try rw [m_ne (by omega)]); (try rw [m_ne (by omega)]); rw [h37]) dX8_receives_312 (by decide) rfl rfl (rfl) (by show _ < 10; omega) rfl ?_
                refine r_iadd (pc2 := 314) dX8_receives_313 rfl ?_
                refine r_iast (pc2 := 315) (j := _) dX8_receives_314 (by decide) rfl rfl (rfl) (by show _ < 3596; omega) rfl ?_
                exact r_vret dX8_receives_315 rfl (by subst hV2; first | exact rx_b h (by omega) ht hlo hup (own_ne hi hj hc hij hic) (of_decide_eq_true c115) (Int32.not_lt.mpr c129) rfl c243 | exact rx_c h (by omega) ht hlo hup (own_ne hi hj hc hij hic) (of_decide_eq_true c115) (Int32.not_lt.mpr c129) rfl c243)
              · skip
                refine r_aload_n (pc2 := 247) dX8_receives_246 rfl rfl ?_
                refine r_getR (pc2 := 250) dX8_receives_247 fl_X8_13 (by decide) rfl rfl rfl ?_
                refine r_iload (pc2 := 252) dX8_receives_250 rfl rfl ?_
                refine r_iconst (pc2 := 253) (nI 5) dX8_receives_252 (by decide) rfl ?_
                refine r_iaddN (pc2 := 254) dX8_receives_253 rfl ?_
                refine r_iload (pc2 := 256) dX8_receives_254 rfl rfl ?_
                refine r_aload_n (pc2 := 257) dX8_receives_256 rfl rfl ?_
                refine r_getR (pc2 := 260) dX8_receives_257 fl_X8_23 (by decide) rfl rfl rfl ?_
                refine r_bipush (pc2 := 262) (nI 9) dX8_receives_260 (by decide) rfl ?_
                refine r_ialde (pc2 := 263) (x := ((V 0 37 9))) (j := _) (by rw [h37]) dX8_receives_262 (by decide) rfl rfl (rfl) (by show _ < 10; omega) rfl ?_
                refine r_iadd (pc2 := 264) dX8_receives_263 rfl ?_
                refine r_iast (pc2 := 265) (j := _) dX8_receives_264 (by decide) rfl rfl (rfl) (by show _ < 3596; omega) rfl ?_
                refine r_aload_n (pc2 := 266) dX8_receives_265 rfl rfl ?_
                refine r_getR (pc2 := 269) dX8_receives_266 fl_X8_13 (by decide) rfl rfl rfl ?_
                refine r_iload (pc2 := 271) dX8_receives_269 rfl rfl ?_
                refine r_iconst (pc2 := 272) (nI 4) dX8_receives_271 (by decide) rfl ?_
                refine r_iaddN (pc2 := 273) dX8_receives_272 rfl ?_
                refine r_iconst (pc2 := 274) (nI 0) dX8_receives_273 (by decide) rfl ?_
                refine r_iast (pc2 := 275) (j := _) dX8_receives_274 (by decide) rfl rfl (rfl) (by show _ < 3596; omega) rfl ?_
                refine r_aload_n (pc2 := 276) dX8_receives_275 rfl rfl ?_
                refine r_getR (pc2 := 279) dX8_receives_276 fl_X8_13 (by decide) rfl rfl rfl ?_
                refine r_iload (pc2 := 281) dX8_receives_279 rfl rfl ?_
                refine r_iconst (pc2 := 282) (nI 1) dX8_receives_281 (by decide) rfl ?_
                refine r_iaddN (pc2 := 283) dX8_receives_282 rfl ?_
                refine r_iload (pc2 := 285) dX8_receives_283 rfl rfl ?_
                refine r_iast (pc2 := 286) (j := _) dX8_receives_285 (by decide) rfl rfl (rfl) (by show _ < 3596; omega) rfl ?_
                refine r_aload_n (pc2 := 287) dX8_receives_286 rfl rfl ?_
                refine r_getR (pc2 := 290) dX8_receives_287 fl_X8_13 (by decide) rfl rfl rfl ?_
                refine r_iload (pc2 := 292) dX8_receives_290 rfl rfl ?_
                refine r_iconst (pc2 := 293) (nI 2) dX8_receives_292 (by decide) rfl ?_
                refine r_iaddN (pc2 := 294) dX8_receives_293 rfl ?_
                refine r_iload (pc2 := 296) dX8_receives_294 rfl rfl ?_
                refine r_iast (pc2 := 297) (j := _) dX8_receives_296 (by decide) rfl rfl (rfl) (by show _ < 3596; omega) rfl ?_
                refine r_aload_n (pc2 := 298) dX8_receives_297 rfl rfl ?_
                refine r_getR (pc2 := 301) dX8_receives_298 fl_X8_13 (by decide) rfl rfl rfl ?_
                refine r_iload (pc2 := 303) dX8_receives_301 rfl rfl ?_
                refine r_iconst (pc2 := 304) (nI 3) dX8_receives_303 (by decide) rfl ?_
                refine r_iaddN (pc2 := 305) dX8_receives_304 rfl ?_
                refine r_iload (pc2 := 307) dX8_receives_305 rfl rfl ?_
                refine r_aload_n (pc2 := 308) dX8_receives_307 rfl rfl ?_
                refine r_getR (pc2 := 311) dX8_receives_308 fl_X8_23 (by decide) rfl rfl rfl ?_
                refine r_iconst (pc2 := 312) (nI 1) dX8_receives_311 (by decide) rfl ?_
                refine r_ialde (pc2 := 313) (x := ((V 0 37 1))) (j := _) (by (try rw [m_ne (by omega)]); (try rw [m_ne (by omega)]); (try rw [m_ne (by omega)]); (try rw [m_ne (by omega)]); rw [h37]) dX8_receives_312 (by decide) rfl rfl (rfl) (by show _ < 10; omega) rfl ?_
                refine r_iadd (pc2 := 314) dX8_receives_313 rfl ?_
                refine r_iast (pc2 := 315) (j := _) dX8_receives_314 (by decide) rfl rfl (rfl) (by show _ < 3596; omega) rfl ?_
                exact r_vret dX8_receives_315 rfl (by subst hV2; first | exact rx_b h (by omega) ht hlo hup (own_ne hi hj hc hij hic) (of_decide_eq_true c115) (Int32.not_lt.mpr c129) rfl c243 | exact rx_c h (by omega) ht hlo hup (own_ne hi hj hc hij hic) (of_decide_eq_true c115) (Int32.not_lt.mpr c129) rfl c243)
            · skip
              refine r_iconst (pc2 := 214) (nI 0) dX8_receives_213 (by decide) rfl ?_
              refine r_goto (pc2 := 226) dX8_receives_214 (by decide) ?_
              refine r_as (x' := ((gw_ s ((i * 8 + j) * 8 + c) up))) (by unfold gw_; rw [if_neg (Int32.not_lt.mpr c182)]; first | rw [if_neg (Int32.not_lt.mpr c210)] | rw [if_pos (Int32.not_le.mp c210)]) ?_
              refine r_iast (pc2 := 227) (j := _) dX8_receives_226 (by decide) rfl rfl (rfl) (by show _ < 3596; omega) rfl ?_
              obtain ⟨V2, hV2⟩ : ∃ V2, V2 = m_set V 0 34 (256 + 6 * ((i * 8 + j) * 8 + c) + 0 + 4) (gw_ s ((i * 8 + j) * 8 + c) up) := ⟨_, rfl⟩
              rw [← hV2]
              have h37 : V2 0 37 = V 0 37 := by rw [hV2]; repeat (rw [m_ne (by omega)])
              refine r_aload_n (pc2 := 228) dX8_receives_227 rfl rfl ?_
              refine r_getR (pc2 := 231) dX8_receives_228 fl_X8_13 (by decide) rfl rfl rfl ?_
              refine r_iload (pc2 := 233) dX8_receives_231 rfl rfl ?_
              refine r_iconst (pc2 := 234) (nI 4) dX8_receives_233 (by decide) rfl ?_
              refine r_iaddN (pc2 := 235) dX8_receives_234 rfl ?_
              refine r_ialde (pc2 := 236) (x := ((gw_ s ((i * 8 + j) * 8 + c) up))) (j := _) (by rw [hV2, m_j rfl]) dX8_receives_235 (by decide) rfl rfl (rfl) (by show _ < 3596; omega) rfl ?_
              refine r_aload_n (pc2 := 237) dX8_receives_236 rfl rfl ?_
              refine r_getR (pc2 := 240) dX8_receives_237 fl_X8_23 (by decide) rfl rfl rfl ?_
              refine r_bipush (pc2 := 242) (nI 8) dX8_receives_240 (by decide) rfl ?_
              refine r_ialde (pc2 := 243) (x := ((V 0 37 8))) (j := _) (by rw [h37]) dX8_receives_242 (by decide) rfl rfl (rfl) (by show _ < 10; omega) rfl ?_
              refine r_ic_lt (pc2 := 246) (tgt := 275) dX8_receives_243 (by decide) rfl (fun c243 => ?_) (fun c243 => ?_)
              · skip
                refine r_aload_n (pc2 := 276) dX8_receives_275 rfl rfl ?_
                refine r_getR (pc2 := 279) dX8_receives_276 fl_X8_13 (by decide) rfl rfl rfl ?_
                refine r_iload (pc2 := 281) dX8_receives_279 rfl rfl ?_
                refine r_iconst (pc2 := 282) (nI 1) dX8_receives_281 (by decide) rfl ?_
                refine r_iaddN (pc2 := 283) dX8_receives_282 rfl ?_
                refine r_iload (pc2 := 285) dX8_receives_283 rfl rfl ?_
                refine r_iast (pc2 := 286) (j := _) dX8_receives_285 (by decide) rfl rfl (rfl) (by show _ < 3596; omega) rfl ?_
                refine r_aload_n (pc2 := 287) dX8_receives_286 rfl rfl ?_
                refine r_getR (pc2 := 290) dX8_receives_287 fl_X8_13 (by decide) rfl rfl rfl ?_
                refine r_iload (pc2 := 292) dX8_receives_290 rfl rfl ?_
                refine r_iconst (pc2 := 293) (nI 2) dX8_receives_292 (by decide) rfl ?_
                refine r_iaddN (pc2 := 294) dX8_receives_293 rfl ?_
                refine r_iload (pc2 := 296) dX8_receives_294 rfl rfl ?_
                refine r_iast (pc2 := 297) (j := _) dX8_receives_296 (by decide) rfl rfl (rfl) (by show _ < 3596; omega) rfl ?_
                refine r_aload_n (pc2 := 298) dX8_receives_297 rfl rfl ?_
                refine r_getR (pc2 := 301) dX8_receives_298 fl_X8_13 (by decide) rfl rfl rfl ?_
                refine r_iload (pc2 := 303) dX8_receives_301 rfl rfl ?_
                refine r_iconst (pc2 := 304) (nI 3) dX8_receives_303 (by decide) rfl ?_
                refine r_iaddN (pc2 := 305) dX8_receives_304 rfl ?_
                refine r_iload (pc2 := 307) dX8_receives_305 rfl rfl ?_
                refine r_aload_n (pc2 := 308) dX8_receives_307 rfl rfl ?_
                refine r_getR (pc2 := 311) dX8_receives_308 fl_X8_23 (by decide) rfl rfl rfl ?_
                refine r_iconst (pc2 := 312) (nI 1) dX8_receives_311 (by decide) rfl ?_
                refine r_ialde (pc2 := 313) (x := ((V 0 37 1))) (j := _) (by (try rw [m_ne (by omega)]); (try rw [m_ne (by omega)]); (try rw [m_ne (by omega)]); (try rw [m_ne (by omega)]); rw [h37]) dX8_receives_312 (by decide) rfl rfl (rfl) (by show _ < 10; omega) rfl ?_
                refine r_iadd (pc2 := 314) dX8_receives_313 rfl ?_
                refine r_iast (pc2 := 315) (j := _) dX8_receives_314 (by decide) rfl rfl (rfl) (by show _ < 3596; omega) rfl ?_
                exact r_vret dX8_receives_315 rfl (by subst hV2; first | exact rx_b h (by omega) ht hlo hup (own_ne hi hj hc hij hic) (of_decide_eq_true c115) (Int32.not_lt.mpr c129) rfl c243 | exact rx_c h (by omega) ht hlo hup (own_ne hi hj hc hij hic) (of_decide_eq_true c115) (Int32.not_lt.mpr c129) rfl c243)
              · skip
                refine r_aload_n (pc2 := 247) dX8_receives_246 rfl rfl ?_
                refine r_getR (pc2 := 250) dX8_receives_247 fl_X8_13 (by decide) rfl rfl rfl ?_
                refine r_iload (pc2 := 252) dX8_receives_250 rfl rfl ?_
                refine r_iconst (pc2 := 253) (nI 5) dX8_receives_252 (by decide) rfl ?_
                refine r_iaddN (pc2 := 254) dX8_receives_253 rfl ?_
                refine r_iload (pc2 := 256) dX8_receives_254 rfl rfl ?_
                refine r_aload_n (pc2 := 257) dX8_receives_256 rfl rfl ?_
                refine r_getR (pc2 := 260) dX8_receives_257 fl_X8_23 (by decide) rfl rfl rfl ?_
                refine r_bipush (pc2 := 262) (nI 9) dX8_receives_260 (by decide) rfl ?_
                refine r_ialde (pc2 := 263) (x := ((V 0 37 9))) (j := _) (by rw [h37]) dX8_receives_262 (by decide) rfl rfl (rfl) (by show _ < 10; omega) rfl ?_
                refine r_iadd (pc2 := 264) dX8_receives_263 rfl ?_
                refine r_iast (pc2 := 265) (j := _) dX8_receives_264 (by decide) rfl rfl (rfl) (by show _ < 3596; omega) rfl ?_
                refine r_aload_n (pc2 := 266) dX8_receives_265 rfl rfl ?_
                refine r_getR (pc2 := 269) dX8_receives_266 fl_X8_13 (by decide) rfl rfl rfl ?_
                refine r_iload (pc2 := 271) dX8_receives_269 rfl rfl ?_
                refine r_iconst (pc2 := 272) (nI 4) dX8_receives_271 (by decide) rfl ?_
                refine r_iaddN (pc2 := 273) dX8_receives_272 rfl ?_
                refine r_iconst (pc2 := 274) (nI 0) dX8_receives_273 (by decide) rfl ?_
                refine r_iast (pc2 := 275) (j := _) dX8_receives_274 (by decide) rfl rfl (rfl) (by show _ < 3596; omega) rfl ?_
                refine r_aload_n (pc2 := 276) dX8_receives_275 rfl rfl ?_
                refine r_getR (pc2 := 279) dX8_receives_276 fl_X8_13 (by decide) rfl rfl rfl ?_
                refine r_iload (pc2 := 281) dX8_receives_279 rfl rfl ?_
                refine r_iconst (pc2 := 282) (nI 1) dX8_receives_281 (by decide) rfl ?_
                refine r_iaddN (pc2 := 283) dX8_receives_282 rfl ?_
                refine r_iload (pc2 := 285) dX8_receives_283 rfl rfl ?_
                refine r_iast (pc2 := 286) (j := _) dX8_receives_285 (by decide) rfl rfl (rfl) (by show _ < 3596; omega) rfl ?_
                refine r_aload_n (pc2 := 287) dX8_receives_286 rfl rfl ?_
                refine r_getR (pc2 := 290) dX8_receives_287 fl_X8_13 (by decide) rfl rfl rfl ?_
                refine r_iload (pc2 := 292) dX8_receives_290 rfl rfl ?_
                refine r_iconst (pc2 := 293) (nI 2) dX8_receives_292 (by decide) rfl ?_
                refine r_iaddN (pc2 := 294) dX8_receives_293 rfl ?_
                refine r_iload (pc2 := 296) dX8_receives_294 rfl rfl ?_
                refine r_iast (pc2 := 297) (j := _) dX8_receives_296 (by decide) rfl rfl (rfl) (by show _ < 3596; omega) rfl ?_
                refine r_aload_n (pc2 := 298) dX8_receives_297 rfl rfl ?_
                refine r_getR (pc2 := 301) dX8_receives_298 fl_X8_13 (by decide) rfl rfl rfl ?_
                refine r_iload (pc2 := 303) dX8_receives_301 rfl rfl ?_
                refine r_iconst (pc2 := 304) (nI 3) dX8_receives_303 (by decide) rfl ?_
                refine r_iaddN (pc2 := 305) dX8_receives_304 rfl ?_
                refine r_iload (pc2 := 307) dX8_receives_305 rfl rfl ?_
                refine r_aload_n (pc2 := 308) dX8_receives_307 rfl rfl ?_
                refine r_getR (pc2 := 311) dX8_receives_308 fl_X8_23 (by decide) rfl rfl rfl ?_
                refine r_iconst (pc2 := 312) (nI 1) dX8_receives_311 (by decide) rfl ?_
                refine r_ialde (pc2 := 313) (x := ((V 0 37 1))) (j := _) (by (try rw [m_ne (by omega)]); (try rw [m_ne (by omega)]); (try rw [m_ne (by omega)]); (try rw [m_ne (by omega)]); rw [h37]) dX8_receives_312 (by decide) rfl rfl (rfl) (by show _ < 10; omega) rfl ?_
                refine r_iadd (pc2 := 314) dX8_receives_313 rfl ?_
                refine r_iast (pc2 := 315) (j := _) dX8_receives_314 (by decide) rfl rfl (rfl) (by show _ < 3596; omega) rfl ?_
                exact r_vret dX8_receives_315 rfl (by subst hV2; first | exact rx_b h (by omega) ht hlo hup (own_ne hi hj hc hij hic) (of_decide_eq_true c115) (Int32.not_lt.mpr c129) rfl c243 | exact rx_c h (by omega) ht hlo hup (own_ne hi hj hc hij hic) (of_decide_eq_true c115) (Int32.not_lt.mpr c129) rfl c243)
          · skip
            refine r_aload_n (pc2 := 186) dX8_receives_185 rfl rfl ?_
            refine r_getR (pc2 := 189) dX8_receives_186 fl_X8_13 (by decide) rfl rfl rfl ?_
            refine r_iload (pc2 := 191) dX8_receives_189 rfl rfl ?_
            refine r_iconst (pc2 := 192) (nI 4) dX8_receives_191 (by decide) rfl ?_
            refine r_iaddN (pc2 := 193) dX8_receives_192 rfl ?_
            refine r_ialde (pc2 := 194) (x := ((s 10 ((i * 8 + j) * 8 + c)))) (j := _) (h.ge (k := ((i * 8 + j) * 8 + c)) 3 (by omega) (by omega) (by omega) rfl) dX8_receives_193 (by decide) rfl rfl (rfl) (by show _ < 3596; omega) rfl ?_
            refine r_iconst (pc2 := 195) (nI 1) dX8_receives_194 (by decide) rfl ?_
            refine r_iadd (pc2 := 196) dX8_receives_195 rfl ?_
            refine r_goto (pc2 := 226) dX8_receives_196 (by decide) ?_
            refine r_as (x' := ((gw_ s ((i * 8 + j) * 8 + c) up))) (by unfold gw_; rw [if_pos (Int32.not_le.mp c182)]) ?_
            refine r_iast (pc2 := 227) (j := _) dX8_receives_226 (by decide) rfl rfl (rfl) (by show _ < 3596; omega) rfl ?_
            obtain ⟨V2, hV2⟩ : ∃ V2, V2 = m_set V 0 34 (256 + 6 * ((i * 8 + j) * 8 + c) + 0 + 4) (gw_ s ((i * 8 + j) * 8 + c) up) := ⟨_, rfl⟩
            rw [← hV2]
            have h37 : V2 0 37 = V 0 37 := by rw [hV2]; repeat (rw [m_ne (by omega)])
            refine r_aload_n (pc2 := 228) dX8_receives_227 rfl rfl ?_
            refine r_getR (pc2 := 231) dX8_receives_228 fl_X8_13 (by decide) rfl rfl rfl ?_
            refine r_iload (pc2 := 233) dX8_receives_231 rfl rfl ?_
            refine r_iconst (pc2 := 234) (nI 4) dX8_receives_233 (by decide) rfl ?_
            refine r_iaddN (pc2 := 235) dX8_receives_234 rfl ?_
            refine r_ialde (pc2 := 236) (x := ((gw_ s ((i * 8 + j) * 8 + c) up))) (j := _) (by rw [hV2, m_j rfl]) dX8_receives_235 (by decide) rfl rfl (rfl) (by show _ < 3596; omega) rfl ?_
            refine r_aload_n (pc2 := 237) dX8_receives_236 rfl rfl ?_
            refine r_getR (pc2 := 240) dX8_receives_237 fl_X8_23 (by decide) rfl rfl rfl ?_
            refine r_bipush (pc2 := 242) (nI 8) dX8_receives_240 (by decide) rfl ?_
            refine r_ialde (pc2 := 243) (x := ((V 0 37 8))) (j := _) (by rw [h37]) dX8_receives_242 (by decide) rfl rfl (rfl) (by show _ < 10; omega) rfl ?_
            refine r_ic_lt (pc2 := 246) (tgt := 275) dX8_receives_243 (by decide) rfl (fun c243 => ?_) (fun c243 => ?_)
            · skip
              refine r_aload_n (pc2 := 276) dX8_receives_275 rfl rfl ?_
              refine r_getR (pc2 := 279) dX8_receives_276 fl_X8_13 (by decide) rfl rfl rfl ?_
              refine r_iload (pc2 := 281) dX8_receives_279 rfl rfl ?_
              refine r_iconst (pc2 := 282) (nI 1) dX8_receives_281 (by decide) rfl ?_
              refine r_iaddN (pc2 := 283) dX8_receives_282 rfl ?_
              refine r_iload (pc2 := 285) dX8_receives_283 rfl rfl ?_
              refine r_iast (pc2 := 286) (j := _) dX8_receives_285 (by decide) rfl rfl (rfl) (by show _ < 3596; omega) rfl ?_
              refine r_aload_n (pc2 := 287) dX8_receives_286 rfl rfl ?_
              refine r_getR (pc2 := 290) dX8_receives_287 fl_X8_13 (by decide) rfl rfl rfl ?_
              refine r_iload (pc2 := 292) dX8_receives_290 rfl rfl ?_
              refine r_iconst (pc2 := 293) (nI 2) dX8_receives_292 (by decide) rfl ?_
              refine r_iaddN (pc2 := 294) dX8_receives_293 rfl ?_
              refine r_iload (pc2 := 296) dX8_receives_294 rfl rfl ?_
              refine r_iast (pc2 := 297) (j := _) dX8_receives_296 (by decide) rfl rfl (rfl) (by show _ < 3596; omega) rfl ?_
              refine r_aload_n (pc2 := 298) dX8_receives_297 rfl rfl ?_
              refine r_getR (pc2 := 301) dX8_receives_298 fl_X8_13 (by decide) rfl rfl rfl ?_
              refine r_iload (pc2 := 303) dX8_receives_301 rfl rfl ?_
              refine r_iconst (pc2 := 304) (nI 3) dX8_receives_303 (by decide) rfl ?_
              refine r_iaddN (pc2 := 305) dX8_receives_304 rfl ?_
              refine r_iload (pc2 := 307) dX8_receives_305 rfl rfl ?_
              refine r_aload_n (pc2 := 308) dX8_receives_307 rfl rfl ?_
              refine r_getR (pc2 := 311) dX8_receives_308 fl_X8_23 (by decide) rfl rfl rfl ?_
              refine r_iconst (pc2 := 312) (nI 1) dX8_receives_311 (by decide) rfl ?_
              refine r_ialde (pc2 := 313) (x := ((V 0 37 1))) (j := _) (by (try rw [m_ne (by omega)]); (try rw [m_ne (by omega)]); (try rw [m_ne (by omega)]); (try rw [m_ne (by omega)]); rw [h37]) dX8_receives_312 (by decide) rfl rfl (rfl) (by show _ < 10; omega) rfl ?_
              refine r_iadd (pc2 := 314) dX8_receives_313 rfl ?_
              refine r_iast (pc2 := 315) (j := _) dX8_receives_314 (by decide) rfl rfl (rfl) (by show _ < 3596; omega) rfl ?_
              exact r_vret dX8_receives_315 rfl (by subst hV2; first | exact rx_b h (by omega) ht hlo hup (own_ne hi hj hc hij hic) (of_decide_eq_true c115) (Int32.not_lt.mpr c129) rfl c243 | exact rx_c h (by omega) ht hlo hup (own_ne hi hj hc hij hic) (of_decide_eq_true c115) (Int32.not_lt.mpr c129) rfl c243)
            · skip
              refine r_aload_n (pc2 := 247) dX8_receives_246 rfl rfl ?_
              refine r_getR (pc2 := 250) dX8_receives_247 fl_X8_13 (by decide) rfl rfl rfl ?_
              refine r_iload (pc2 := 252) dX8_receives_250 rfl rfl ?_
              refine r_iconst (pc2 := 253) (nI 5) dX8_receives_252 (by decide) rfl ?_
              refine r_iaddN (pc2 := 254) dX8_receives_253 rfl ?_
              refine r_iload (pc2 := 256) dX8_receives_254 rfl rfl ?_
              refine r_aload_n (pc2 := 257) dX8_receives_256 rfl rfl ?_
              refine r_getR (pc2 := 260) dX8_receives_257 fl_X8_23 (by decide) rfl rfl rfl ?_
              refine r_bipush (pc2 := 262) (nI 9) dX8_receives_260 (by decide) rfl ?_
              refine r_ialde (pc2 := 263) (x := ((V 0 37 9))) (j := _) (by rw [h37]) dX8_receives_262 (by decide) rfl rfl (rfl) (by show _ < 10; omega) rfl ?_
              refine r_iadd (pc2 := 264) dX8_receives_263 rfl ?_
              refine r_iast (pc2 := 265) (j := _) dX8_receives_264 (by decide) rfl rfl (rfl) (by show _ < 3596; omega) rfl ?_
              refine r_aload_n (pc2 := 266) dX8_receives_265 rfl rfl ?_
              refine r_getR (pc2 := 269) dX8_receives_266 fl_X8_13 (by decide) rfl rfl rfl ?_
              refine r_iload (pc2 := 271) dX8_receives_269 rfl rfl ?_
              refine r_iconst (pc2 := 272) (nI 4) dX8_receives_271 (by decide) rfl ?_
              refine r_iaddN (pc2 := 273) dX8_receives_272 rfl ?_
              refine r_iconst (pc2 := 274) (nI 0) dX8_receives_273 (by decide) rfl ?_
              refine r_iast (pc2 := 275) (j := _) dX8_receives_274 (by decide) rfl rfl (rfl) (by show _ < 3596; omega) rfl ?_
              refine r_aload_n (pc2 := 276) dX8_receives_275 rfl rfl ?_
              refine r_getR (pc2 := 279) dX8_receives_276 fl_X8_13 (by decide) rfl rfl rfl ?_
              refine r_iload (pc2 := 281) dX8_receives_279 rfl rfl ?_
              refine r_iconst (pc2 := 282) (nI 1) dX8_receives_281 (by decide) rfl ?_
              refine r_iaddN (pc2 := 283) dX8_receives_282 rfl ?_
              refine r_iload (pc2 := 285) dX8_receives_283 rfl rfl ?_
              refine r_iast (pc2 := 286) (j := _) dX8_receives_285 (by decide) rfl rfl (rfl) (by show _ < 3596; omega) rfl ?_
              refine r_aload_n (pc2 := 287) dX8_receives_286 rfl rfl ?_
              refine r_getR (pc2 := 290) dX8_receives_287 fl_X8_13 (by decide) rfl rfl rfl ?_
              refine r_iload (pc2 := 292) dX8_receives_290 rfl rfl ?_
              refine r_iconst (pc2 := 293) (nI 2) dX8_receives_292 (by decide) rfl ?_
              refine r_iaddN (pc2 := 294) dX8_receives_293 rfl ?_
              refine r_iload (pc2 := 296) dX8_receives_294 rfl rfl ?_
              refine r_iast (pc2 := 297) (j := _) dX8_receives_296 (by decide) rfl rfl (rfl) (by show _ < 3596; omega) rfl ?_
              refine r_aload_n (pc2 := 298) dX8_receives_297 rfl rfl ?_
              refine r_getR (pc2 := 301) dX8_receives_298 fl_X8_13 (by decide) rfl rfl rfl ?_
              refine r_iload (pc2 := 303) dX8_receives_301 rfl rfl ?_
              refine r_iconst (pc2 := 304) (nI 3) dX8_receives_303 (by decide) rfl ?_
              refine r_iaddN (pc2 := 305) dX8_receives_304 rfl ?_
              refine r_iload (pc2 := 307) dX8_receives_305 rfl rfl ?_
              refine r_aload_n (pc2 := 308) dX8_receives_307 rfl rfl ?_
              refine r_getR (pc2 := 311) dX8_receives_308 fl_X8_23 (by decide) rfl rfl rfl ?_
              refine r_iconst (pc2 := 312) (nI 1) dX8_receives_311 (by decide) rfl ?_
              refine r_ialde (pc2 := 313) (x := ((V 0 37 1))) (j := _) (by (try rw [m_ne (by omega)]); (try rw [m_ne (by omega)]); (try rw [m_ne (by omega)]); (try rw [m_ne (by omega)]); rw [h37]) dX8_receives_312 (by decide) rfl rfl (rfl) (by show _ < 10; omega) rfl ?_
              refine r_iadd (pc2 := 314) dX8_receives_313 rfl ?_
              refine r_iast (pc2 := 315) (j := _) dX8_receives_314 (by decide) rfl rfl (rfl) (by show _ < 3596; omega) rfl ?_
              exact r_vret dX8_receives_315 rfl (by subst hV2; first | exact rx_b h (by omega) ht hlo hup (own_ne hi hj hc hij hic) (of_decide_eq_true c115) (Int32.not_lt.mpr c129) rfl c243 | exact rx_c h (by omega) ht hlo hup (own_ne hi hj hc hij hic) (of_decide_eq_true c115) (Int32.not_lt.mpr c129) rfl c243)
        · skip
          refine r_aload_n (pc2 := 133) dX8_receives_132 rfl rfl ?_
          refine r_getR (pc2 := 136) dX8_receives_133 fl_X8_13 (by decide) rfl rfl rfl ?_
          refine r_iload (pc2 := 138) dX8_receives_136 rfl rfl ?_
          refine r_iconst (pc2 := 139) (nI 1) dX8_receives_138 (by decide) rfl ?_
          refine r_iast (pc2 := 140) (j := _) dX8_receives_139 (by decide) rfl rfl (rfl) (by show _ < 3596; omega) rfl ?_
          refine r_aload_n (pc2 := 141) dX8_receives_140 rfl rfl ?_
          refine r_getR (pc2 := 144) dX8_receives_141 fl_X8_13 (by decide) rfl rfl rfl ?_
          refine r_iload (pc2 := 146) dX8_receives_144 rfl rfl ?_
          refine r_iconst (pc2 := 147) (nI 4) dX8_receives_146 (by decide) rfl ?_
          refine r_iaddN (pc2 := 148) dX8_receives_147 rfl ?_
          refine r_iconst (pc2 := 149) (nI 0) dX8_receives_148 (by decide) rfl ?_
          refine r_iast (pc2 := 150) (j := _) dX8_receives_149 (by decide) rfl rfl (rfl) (by show _ < 3596; omega) rfl ?_
          refine r_aload_n (pc2 := 151) dX8_receives_150 rfl rfl ?_
          refine r_getR (pc2 := 154) dX8_receives_151 fl_X8_13 (by decide) rfl rfl rfl ?_
          refine r_iload (pc2 := 156) dX8_receives_154 rfl rfl ?_
          refine r_iconst (pc2 := 157) (nI 5) dX8_receives_156 (by decide) rfl ?_
          refine r_iaddN (pc2 := 158) dX8_receives_157 rfl ?_
          refine r_iconst (pc2 := 159) (nI 0) dX8_receives_158 (by decide) rfl ?_
          refine r_iast (pc2 := 160) (j := _) dX8_receives_159 (by decide) rfl rfl (rfl) (by show _ < 3596; omega) rfl ?_
          refine r_goto (pc2 := 227) dX8_receives_160 (by decide) ?_
          obtain ⟨V2, hV2⟩ : ∃ V2, V2 = m_set (m_set (m_set V 0 34 (256 + 6 * ((i * 8 + j) * 8 + c) + 0) (nI 1)) 0 34 (256 + 6 * ((i * 8 + j) * 8 + c) + 0 + 4) (nI 0)) 0 34 (256 + 6 * ((i * 8 + j) * 8 + c) + 0 + 5) (nI 0) := ⟨_, rfl⟩
          rw [← hV2]
          have h37 : V2 0 37 = V 0 37 := by rw [hV2]; repeat (rw [m_ne (by omega)])
          refine r_aload_n (pc2 := 228) dX8_receives_227 rfl rfl ?_
          refine r_getR (pc2 := 231) dX8_receives_228 fl_X8_13 (by decide) rfl rfl rfl ?_
          refine r_iload (pc2 := 233) dX8_receives_231 rfl rfl ?_
          refine r_iconst (pc2 := 234) (nI 4) dX8_receives_233 (by decide) rfl ?_
          refine r_iaddN (pc2 := 235) dX8_receives_234 rfl ?_
          refine r_ialde (pc2 := 236) (x := (nI 0)) (j := _) (by rw [hV2, m_i (by omega), m_j rfl]) dX8_receives_235 (by decide) rfl rfl (rfl) (by show _ < 3596; omega) rfl ?_
          refine r_aload_n (pc2 := 237) dX8_receives_236 rfl rfl ?_
          refine r_getR (pc2 := 240) dX8_receives_237 fl_X8_23 (by decide) rfl rfl rfl ?_
          refine r_bipush (pc2 := 242) (nI 8) dX8_receives_240 (by decide) rfl ?_
          refine r_ialde (pc2 := 243) (x := ((V 0 37 8))) (j := _) (by rw [h37]) dX8_receives_242 (by decide) rfl rfl (rfl) (by show _ < 10; omega) rfl ?_
          refine r_ic_lt (pc2 := 246) (tgt := 275) dX8_receives_243 (by decide) rfl (fun c243 => ?_) (fun c243 => ?_)
          · skip
            refine r_aload_n (pc2 := 276) dX8_receives_275 rfl rfl ?_
            refine r_getR (pc2 := 279) dX8_receives_276 fl_X8_13 (by decide) rfl rfl rfl ?_
            refine r_iload (pc2 := 281) dX8_receives_279 rfl rfl ?_
            refine r_iconst (pc2 := 282) (nI 1) dX8_receives_281 (by decide) rfl ?_
            refine r_iaddN (pc2 := 283) dX8_receives_282 rfl ?_
            refine r_iload (pc2 := 285) dX8_receives_283 rfl rfl ?_
            refine r_iast (pc2 := 286) (j := _) dX8_receives_285 (by decide) rfl rfl (rfl) (by show _ < 3596; omega) rfl ?_
            refine r_aload_n (pc2 := 287) dX8_receives_286 rfl rfl ?_
            refine r_getR (pc2 := 290) dX8_receives_287 fl_X8_13 (by decide) rfl rfl rfl ?_
            refine r_iload (pc2 := 292) dX8_receives_290 rfl rfl ?_
            refine r_iconst (pc2 := 293) (nI 2) dX8_receives_292 (by decide) rfl ?_
            refine r_iaddN (pc2 := 294) dX8_receives_293 rfl ?_
            refine r_iload (pc2 := 296) dX8_receives_294 rfl rfl ?_
            refine r_iast (pc2 := 297) (j := _) dX8_receives_296 (by decide) rfl rfl (rfl) (by show _ < 3596; omega) rfl ?_
            refine r_aload_n (pc2 := 298) dX8_receives_297 rfl rfl ?_
            refine r_getR (pc2 := 301) dX8_receives_298 fl_X8_13 (by decide) rfl rfl rfl ?_
            refine r_iload (pc2 := 303) dX8_receives_301 rfl rfl ?_
            refine r_iconst (pc2 := 304) (nI 3) dX8_receives_303 (by decide) rfl ?_
            refine r_iaddN (pc2 := 305) dX8_receives_304 rfl ?_
            refine r_iload (pc2 := 307) dX8_receives_305 rfl rfl ?_
            refine r_aload_n (pc2 := 308) dX8_receives_307 rfl rfl ?_
            refine r_getR (pc2 := 311) dX8_receives_308 fl_X8_23 (by decide) rfl rfl rfl ?_
            refine r_iconst (pc2 := 312) (nI 1) dX8_receives_311 (by decide) rfl ?_
            refine r_ialde (pc2 := 313) (x := ((V 0 37 1))) (j := _) (by (try rw [m_ne (by omega)]); (try rw [m_ne (by omega)]); (try rw [m_ne (by omega)]); (try rw [m_ne (by omega)]); rw [h37]) dX8_receives_312 (by decide) rfl rfl (rfl) (by show _ < 10; omega) rfl ?_
            refine r_iadd (pc2 := 314) dX8_receives_313 rfl ?_
            refine r_iast (pc2 := 315) (j := _) dX8_receives_314 (by decide) rfl rfl (rfl) (by show _ < 3596; omega) rfl ?_
            exact r_vret dX8_receives_315 rfl (by subst hV2; exact rx_a h (by omega) ht hlo hup (own_ne hi hj hc hij hic) (Int32.not_le.mp c129))
          · skip
            exact absurd h8 c243
