/-! the law's walk: written by wip/whole/m43.py -/
def mLaw : mi_T := (x, code, 4, some .boolean, 12, 494)
def plA_ : List (Nat × Nat) := plI_ ++ plM_
theorem lc_A : p_lc plA_ := lcb_ok (by decide +kernel)
section LC
variable {PL : List (Nat × Nat)} {y z : mi_T} {p : Program} {l : Launch} {e : Env} {R : Room} {s : State} {m : MethodId} {args : Array Value} {below : List Frame} {meth : Method} {c : Code} {cells slots : Nat} {Z : State → Prop} {dC : Nat → ClassId} {dI : Nat → Nat → Nat} {cI cZ : ClassId} {ad : Nat × Nat → Nat} {A : Nat → Prop}
theorem l_callV {pc n idx g r : Nat} {stk st as : List Vl_} {V : Mm_} {Q : Option Int32 → Mm_ → Prop} (hx : Cx_ PL y p R s m args meth c cells slots dC dI cI cZ ad A) (hd : dc_at y pc (.invokevirtual idx) 3) (hlk : gd_T (.methodLink y.1.cls idx z.1)) (hz : mv_at z n) (hrm : rm_ok y z) (hr : r < 46) (hcl : ∃ ci C T N, k_cls r = some ci ∧ vwCl[ci]? = some (C, T, N) ∧ z.1.cls = C) (hn : as.length = n) (hs : stk = as.reverse ++ vR g r :: st) (hl8 : st.length ≤ 8)
    (hC : Ca_ PL z (vR g r :: as) V Q) {H : Heap} {locs : List Loc} {ls : Array Slot} (hP : va_P (dC, dI) vwCl (w_of ad cI cZ PL V) H) (hS : va_S A s.heap H locs) (hl : ls.size = y.2.2.1) (hst : ok_s PL stk)
    (kk : ∀ (ro : Option Int32) (V' : Mm_), Q ro V' → ∀ (H1 : Heap) (locs1 : List Loc), va_P (dC, dI) vwCl (w_of ad cI cZ PL V') H1 → va_S A s.heap H1 locs1 → W p l e R s m args below meth c H1 locs1 cells slots Z (F0 m (pc + 3) ls ((ro.toList.map vI ++ st).map (tr_ ad)))) : W p l e R s m args below meth c H locs cells slots Z (F0 m pc ls (stk.map (tr_ ad))) := by
  subst hs
  obtain ⟨ci, C, T, N, hc, hcv, hcC⟩ := hcl
  have hst2 := ok_app hst
  have hok : ok_s PL (vR g r :: as) := ⟨hst2.2.1, ok_rev hst2.1⟩
  have hM := hC l dC dI cI cZ ad hx.2.2.2.2.2.2.2.2.2.2.2.2.2.2.1 hok
  have hq := hst2.2.1.pl hr
  obtain ⟨i, hi, hw⟩ := w_at (ad := ad) (cI := cI) (cZ := cZ) (V := V) hq
  rw [c_obj hc] at hw
  have hts : ∀ w ∈ lw_tbl.filter goodWord, w.before args s = true := fun w hw => hx.2.2.2.2.2.1 w (List.mem_filter.mp hw)
  obtain ⟨z1, z2, z3⟩ := hz
  have run := va_runV (p := p) (l := l) (e := e) (R := R) (below := below) (meth := meth) (H := H) (locs := locs) (cells := cells) (slots := slots) (As := as.map (tr_ ad)) (rest := st.map (tr_ ad)) (b := ad (g, r)) (C := z.1.cls) (g := F0 m pc ls ((as.reverse ++ vR g r :: st).map (tr_ ad))) (n := n) (index := idx)
    (⟨hx.1, hx.2.1, hx.2.2.2.1, hx.2.2.2.2.1, hts⟩ : CallFix p m c y.2.1 y.2.2.1 s args (lw_tbl.filter goodWord) y.1.cls) hM
    ⟨callB_of n hts (good_all (ws_good z3)) rfl rfl rfl (hx.2.2.2.2.2.1 _ z3.1) (hx.2.2.2.2.2.1 _ hlk) ⟨z3.2.2.1.1, z3.2.2.1.2, z3.2.2.2.1⟩ ⟨Nat.le_trans hrm.1 hx.2.2.2.2.2.2.2.2.1, Nat.le_trans hrm.2 hx.2.2.2.2.2.2.2.2.2.1⟩, hx.2.2.2.2.2.1 _ z1, hx.2.2.2.2.2.1 _ z2⟩
    ⟨frame_blind, by rw [hcC]; exact va_recv hx.2.2.2.2.2.2.2.2.2.2.2.2.1 hP hcv hw, fun U hU hW => cx_pre hx hP hS _ U hU hW⟩ rfl (by rw [List.length_map]; exact hn) hl (by simp [tr_]) (lv_room (by rw [ct_sum]; exact hl8)) hd ⟨hx.2.2.2.2.2.2.2.2.2.2.1, hx.2.2.2.2.2.2.2.2.2.2.2.1⟩
  exact cx_use run (cx_sub hx) hS (fun ro V' hq H1 locs1 hP1 hS1 => kk ro V' hq H1 locs1 hP1 hS1)
end LC
section LAW
variable {p : Program} {l : Launch} {e : Env} {s : State} {m : MethodId} {below : List Frame} {meth : Method} {c : Code} {b L : Nat} {xs : Nat → Int32} {dC : Nat → ClassId} {dI : Nat → Nat → Nat} {cI cZ : ClassId} {ad : Nat × Nat → Nat}
def Lw_ (p : Program) (s : State) (m : MethodId) (meth : Method) (c : Code) (b L : Nat) (xs : Nat → Int32) (dC : Nat → ClassId) (dI : Nat → Nat → Nat) (cI cZ : ClassId) (ad : Nat × Nat → Nat) : Prop :=
  lw_At p s m meth c b L xs ∧ L ≤ 2560 ∧ Cx_ plA_ mLaw p room_1 s m #[Value.ref b] meth c 600000 7302250 dC dI cI cZ ad (fun q => s.heap.size ≤ q)
def Lp_ (p : Program) (l : Launch) (e : Env) (s : State) (m : MethodId) (below : List Frame) (meth : Method) (c : Code) (b : Nat) (dC : Nat → ClassId) (dI : Nat → Nat → Nat) (cI cZ : ClassId) (ad : Nat × Nat → Nat) (pc i : Nat) (st : List Vl_) (V : Mm_) : Prop :=
  ∀ (H : Heap) (locs : List Loc) (ls : Array Slot), va_P (dC, dI) vwCl (w_of ad cI cZ plA_ V) H → va_S (fun q : Nat => s.heap.size ≤ q) s.heap H locs → lv_has ls 4 [(0, .ref b), (1, .ref (ad (0, 18))), (2, .ref (ad (0, 33))), (3, .int (nI i))] → ok_s plA_ st →
    W p l e room_1 s m #[Value.ref b] below meth c H locs 600000 7302250 (lw_Z below #[Value.ref b] s) (F0 m pc ls (st.map (tr_ ad)))
theorem q_x {pc i : Nat} {st : List Vl_} {V : Mm_} (h : Lw_ p s m meth c b L xs dC dI cI cZ ad) (hd : decode code pc = .ok (.aload_n 1, 1)) (kk : Lp_ p l e s m below meth c b dC dI cI cZ ad (pc + 1) i (vR 0 18 :: st) V) : Lp_ p l e s m below meth c b dC dI cI cZ ad pc i st V :=
  fun H locs ls hP hS hl hst => lv_aload_n h.1.1 h.1.2.1 hd rfl (lv_at hl 1 rfl) (kk H locs ls hP hS hl ⟨Or.inl (List.mem_cons_self), hst⟩)
theorem q_m {pc i : Nat} {st : List Vl_} {V : Mm_} (h : Lw_ p s m meth c b L xs dC dI cI cZ ad) (hd : decode code pc = .ok (.aload_n 2, 1)) (kk : Lp_ p l e s m below meth c b dC dI cI cZ ad (pc + 1) i (vR 0 33 :: st) V) : Lp_ p l e s m below meth c b dC dI cI cZ ad pc i st V :=
  fun H locs ls hP hS hl hst => lv_aload_n h.1.1 h.1.2.1 hd rfl (lv_at hl 2 rfl) (kk H locs ls hP hS hl ⟨Or.inl (by decide), hst⟩)
theorem q_s {pc i j : Nat} {st : List Vl_} {V : Mm_} (h : Lw_ p s m meth c b L xs dC dI cI cZ ad) (hd1 : decode code pc = .ok (.aload_n 0, 1)) (hd2 : decode code (pc + 1) = .ok (.iload_n 3, 1)) (hd3 : decode code (pc + 1 + 1) = .ok (.iconst (j : Int), 1)) (hd4 : decode code (pc + 1 + 1 + 1) = .ok (.iadd, 1)) (hd5 : decode code (pc + 1 + 1 + 1 + 1) = .ok (.iaload, 1)) (hj : j < 5) (hi : i + 5 ≤ L) (kk : Lp_ p l e s m below meth c b dC dI cI cZ ad (pc + 1 + 1 + 1 + 1 + 1) i (vI (xs (i + j)) :: st) V) : Lp_ p l e s m below meth c b dC dI cI cZ ad pc i st V := by
  intro H locs ls hP hS hl hst
  obtain ⟨⟨hx, hb, hr, hml, hown, hts, hX, hbl, hlocks, hgv⟩, hL, -⟩ := id h
  refine lv_aload_n hx hb hd1 rfl (lv_at hl 0 rfl) ?_
  refine lv_iload_n hx hb hd2 rfl (lv_at hl 3 rfl) ?_
  refine lv_iconst (v := nI j) hx hb hd3 rfl ?_
  refine lv_iadd hx hb hd4 ?_
  rw [nI_add]
  refine va_sld hx hb hX hbl (A := fun q : Nat => s.heap.size ≤ q) (Nat.not_le.mpr hbl) hS (vp_in_nI (by omega) (by omega)) hd5 ?_
  rw [nI_clamp (by omega)]
  exact kk H locs ls hP hS hl ⟨trivial, hst⟩
theorem q_call {pc i n idx g r : Nat} {stk st as : List Vl_} {V : Mm_} {Q : Option Int32 → Mm_ → Prop} {z : mi_T} (h : Lw_ p s m meth c b L xs dC dI cI cZ ad) (hd : decode code pc = .ok (.invokevirtual idx, 3)) (hlk : gd_T (.methodLink "IntervalRoutingLaw" idx z.1)) (hz : mv_at z n) (hrm : rm_ok mLaw z) (hrl : rl_ok r z) (hn : as.length = n) (hs : stk = as.reverse ++ vR g r :: st) (hl8 : st.length ≤ 8) (hC : Ca_ plA_ z (vR g r :: as) V Q)
    (kk : ∀ (ro : Option Int32) (V' : Mm_), Q ro V' → Lp_ p l e s m below meth c b dC dI cI cZ ad (pc + 3) i (ro.toList.map vI ++ st) V') : Lp_ p l e s m below meth c b dC dI cI cZ ad pc i stk V := by
  intro H locs ls hP hS hl hst
  refine l_callV (y := mLaw) h.2.2 hd hlk hz hrm hrl.1 hrl.2 hn hs hl8 hC hP hS hl.1 hst (fun ro V' hq H1 locs1 hP1 hS1 => kk ro V' hq H1 locs1 ls hP1 hS1 hl ?_)
  rw [hs] at hst
  exact ok_ro ro (ok_app hst).2.2
theorem q_eq {pc i tgt : Nat} {off : Int} {x : Int32} {V : Mm_} (h : Lw_ p s m meth c b L xs dC dI cI cZ ad) (hd : decode code pc = .ok (.if_icmp .eq off, 3)) (ht : (pc : Int) + off = (tgt : Int)) (kk : Lp_ p l e s m below meth c b dC dI cI cZ ad tgt i [] V) : Lp_ p l e s m below meth c b dC dI cI cZ ad pc i [vI x, vI x] V :=
  fun H locs ls hP hS hl hst => lv_icmp_eq h.1.1 h.1.2.1 hd ht (fun _ => kk H locs ls hP hS hl trivial) (fun z => absurd rfl z)
theorem q_next {u : Nat} {V : Mm_} (h : Lw_ p s m meth c b L xs dC dI cI cZ ad) (kk : Lp_ p l e s m below meth c b dC dI cI cZ ad 18 (5 * (u + 1)) [] V) : Lp_ p l e s m below meth c b dC dI cI cZ ad 900 (5 * u) [] V := by
  intro H locs ls hP hS hl hst
  refine lv_iinc (v := nI (5 * (u + 1))) (lv' := [(3, .int (nI (5 * (u + 1)))), (0, .ref b), (1, .ref (ad (0, 18))), (2, .ref (ad (0, 33)))]) h.1.1 h.1.2.1 dl_900 hl (k := 3) rfl (by rw [show Int32.ofInt 5 = nI 5 from rfl, nI_add]; rfl) (by decide) rfl (fun ls hl => ?_)
  exact lv_goto (tgt := 18) h.1.1 h.1.2.1 dl_903 (by decide) (kk H locs ls hP hS (lv_sub hl [1, 2, 3, 0] rfl) hst)
theorem an_31 (x : Int32) : ∃ w, w < 32 ∧ x &&& 31 = nI w := by
  refine ⟨(x &&& 31).toBitVec.toNat, ?_, ?_⟩
  · rw [Int32.toBitVec_and, BitVec.toNat_and]
    exact Nat.lt_of_le_of_lt Nat.and_le_right (by decide)
  · refine Int32.toBitVec_inj.mp ?_
    show (x &&& 31).toBitVec = BitVec.ofNat 32 (x &&& 31).toBitVec.toNat
    apply BitVec.eq_of_toNat_eq
    rw [BitVec.toNat_ofNat]
    exact (Nat.mod_eq_of_lt (x &&& 31).toBitVec.isLt).symm
theorem q_c0 {u n : Nat} {V : Mm_} (h : Lw_ p s m meth c b L xs dC dI cI cZ ad) (hu : u < 512) (hF : FF_) (hi : 5 * u + 5 ≤ L) (hL : LV_ V n u) (kk : ∀ (n2 : Nat) (V2 : Mm_), LV_ V2 n2 (u + 1) → Lp_ p l e s m below meth c b dC dI cI cZ ad 18 (5 * (u + 1)) [] V2) : Lp_ p l e s m below meth c b dC dI cI cZ ad 152 (5 * u) [] V := by
  refine q_x h dl_152 ?_
  refine q_s (j := 1) h dl_153 dl_154 dl_155 dl_156 dl_157 (by decide) hi ?_
  refine q_call (as := [vI (xs (5 * u + 1))]) (st := []) (g := 0) (r := 18) h dl_158 tw_304 mv_X7_reset ⟨by decide, by decide⟩ rl_X7_reset rfl rfl (Nat.le_of_ble_eq_true rfl) (cs_reset hu hL) (fun ro V1 h7 => ?_)
  obtain ⟨x1, rfl, h8⟩ := h7
  refine q_m h dl_161 ?_
  refine q_s (j := 1) h dl_162 dl_163 dl_164 dl_165 dl_166 (by decide) hi ?_
  refine q_call (as := [vI (xs (5 * u + 1))]) (st := [vI x1]) (g := 0) (r := 33) h dl_167 tw_726 mv_X8_reset ⟨by decide, by decide⟩ rl_X8_reset rfl rfl (Nat.le_of_ble_eq_true rfl) h8 (fun ro V2 h7 => ?_)
  obtain ⟨x2, rfl, rfl, n2, hL2⟩ := h7
  exact q_eq (tgt := 900) h dl_170 (by decide) (q_next h (kk n2 V2 hL2))
theorem q_c1 {u n : Nat} {V : Mm_} (h : Lw_ p s m meth c b L xs dC dI cI cZ ad) (hu : u < 512) (hF : FF_) (hi : 5 * u + 5 ≤ L) (hL : LV_ V n u) (kk : ∀ (n2 : Nat) (V2 : Mm_), LV_ V2 n2 (u + 1) → Lp_ p l e s m below meth c b dC dI cI cZ ad 18 (5 * (u + 1)) [] V2) : Lp_ p l e s m below meth c b dC dI cI cZ ad 175 (5 * u) [] V := by
  refine q_x h dl_175 ?_
  refine q_s (j := 1) h dl_176 dl_177 dl_178 dl_179 dl_180 (by decide) hi ?_
  refine q_s (j := 2) h dl_181 dl_182 dl_183 dl_184 dl_185 (by decide) hi ?_
  refine q_s (j := 3) h dl_186 dl_187 dl_188 dl_189 dl_190 (by decide) hi ?_
  refine q_s (j := 4) h dl_191 dl_192 dl_193 dl_194 dl_195 (by decide) hi ?_
  refine q_call (as := [vI (xs (5 * u + 1)), vI (xs (5 * u + 2)), vI (xs (5 * u + 3)), vI (xs (5 * u + 4))]) (st := []) (g := 0) (r := 18) h dl_196 tw_308 mv_X7_addLink ⟨by decide, by decide⟩ rl_X7_addLink rfl rfl (Nat.le_of_ble_eq_true rfl) (cs_addLink hu hL) (fun ro V1 h7 => ?_)
  obtain ⟨x1, rfl, h8⟩ := h7
  refine q_m h dl_199 ?_
  refine q_s (j := 1) h dl_200 dl_201 dl_202 dl_203 dl_204 (by decide) hi ?_
  refine q_s (j := 2) h dl_205 dl_206 dl_207 dl_208 dl_209 (by decide) hi ?_
  refine q_s (j := 3) h dl_210 dl_211 dl_212 dl_213 dl_214 (by decide) hi ?_
  refine q_s (j := 4) h dl_215 dl_216 dl_217 dl_218 dl_219 (by decide) hi ?_
  refine q_call (as := [vI (xs (5 * u + 1)), vI (xs (5 * u + 2)), vI (xs (5 * u + 3)), vI (xs (5 * u + 4))]) (st := [vI x1]) (g := 0) (r := 33) h dl_220 tw_733 mv_X8_addLink ⟨by decide, by decide⟩ rl_X8_addLink rfl rfl (Nat.le_of_ble_eq_true rfl) h8 (fun ro V2 h7 => ?_)
  obtain ⟨x2, rfl, rfl, n2, hL2⟩ := h7
  exact q_eq (tgt := 900) h dl_223 (by decide) (q_next h (kk n2 V2 hL2))
theorem q_c2 {u n : Nat} {V : Mm_} (h : Lw_ p s m meth c b L xs dC dI cI cZ ad) (hu : u < 512) (hF : FF_) (hi : 5 * u + 5 ≤ L) (hL : LV_ V n u) (kk : ∀ (n2 : Nat) (V2 : Mm_), LV_ V2 n2 (u + 1) → Lp_ p l e s m below meth c b dC dI cI cZ ad 18 (5 * (u + 1)) [] V2) : Lp_ p l e s m below meth c b dC dI cI cZ ad 228 (5 * u) [] V := by
  refine q_x h dl_228 ?_
  refine q_s (j := 1) h dl_229 dl_230 dl_231 dl_232 dl_233 (by decide) hi ?_
  refine q_s (j := 2) h dl_234 dl_235 dl_236 dl_237 dl_238 (by decide) hi ?_
  refine q_call (as := [vI (xs (5 * u + 1)), vI (xs (5 * u + 2))]) (st := []) (g := 0) (r := 18) h dl_239 tw_343 mv_X7_removeLink ⟨by decide, by decide⟩ rl_X7_removeLink rfl rfl (Nat.le_of_ble_eq_true rfl) (cs_removeLink hu hL) (fun ro V1 h7 => ?_)
  obtain ⟨x1, rfl, h8⟩ := h7
  refine q_m h dl_242 ?_
  refine q_s (j := 1) h dl_243 dl_244 dl_245 dl_246 dl_247 (by decide) hi ?_
  refine q_s (j := 2) h dl_248 dl_249 dl_250 dl_251 dl_252 (by decide) hi ?_
  refine q_call (as := [vI (xs (5 * u + 1)), vI (xs (5 * u + 2))]) (st := [vI x1]) (g := 0) (r := 33) h dl_253 tw_756 mv_X8_removeLink ⟨by decide, by decide⟩ rl_X8_removeLink rfl rfl (Nat.le_of_ble_eq_true rfl) h8 (fun ro V2 h7 => ?_)
  obtain ⟨x2, rfl, rfl, n2, hL2⟩ := h7
  exact q_eq (tgt := 900) h dl_256 (by decide) (q_next h (kk n2 V2 hL2))
theorem q_c3 {u n : Nat} {V : Mm_} (h : Lw_ p s m meth c b L xs dC dI cI cZ ad) (hu : u < 512) (hF : FF_) (hi : 5 * u + 5 ≤ L) (hL : LV_ V n u) (kk : ∀ (n2 : Nat) (V2 : Mm_), LV_ V2 n2 (u + 1) → Lp_ p l e s m below meth c b dC dI cI cZ ad 18 (5 * (u + 1)) [] V2) : Lp_ p l e s m below meth c b dC dI cI cZ ad 261 (5 * u) [] V := by
  refine q_x h dl_261 ?_
  refine q_s (j := 1) h dl_262 dl_263 dl_264 dl_265 dl_266 (by decide) hi ?_
  refine q_s (j := 2) h dl_267 dl_268 dl_269 dl_270 dl_271 (by decide) hi ?_
  refine q_s (j := 3) h dl_272 dl_273 dl_274 dl_275 dl_276 (by decide) hi ?_
  refine q_call (as := [vI (xs (5 * u + 1)), vI (xs (5 * u + 2)), vI (xs (5 * u + 3))]) (st := []) (g := 0) (r := 18) h dl_277 tw_351 mv_X7_setCost ⟨by decide, by decide⟩ rl_X7_setCost rfl rfl (Nat.le_of_ble_eq_true rfl) (cs_setCost hu hL) (fun ro V1 h7 => ?_)
  obtain ⟨x1, rfl, h8⟩ := h7
  refine q_m h dl_280 ?_
  refine q_s (j := 1) h dl_281 dl_282 dl_283 dl_284 dl_285 (by decide) hi ?_
  refine q_s (j := 2) h dl_286 dl_287 dl_288 dl_289 dl_290 (by decide) hi ?_
  refine q_s (j := 3) h dl_291 dl_292 dl_293 dl_294 dl_295 (by decide) hi ?_
  refine q_call (as := [vI (xs (5 * u + 1)), vI (xs (5 * u + 2)), vI (xs (5 * u + 3))]) (st := [vI x1]) (g := 0) (r := 33) h dl_296 tw_760 mv_X8_setCost ⟨by decide, by decide⟩ rl_X8_setCost rfl rfl (Nat.le_of_ble_eq_true rfl) h8 (fun ro V2 h7 => ?_)
  obtain ⟨x2, rfl, rfl, n2, hL2⟩ := h7
  exact q_eq (tgt := 900) h dl_299 (by decide) (q_next h (kk n2 V2 hL2))
theorem q_c4 {u n : Nat} {V : Mm_} (h : Lw_ p s m meth c b L xs dC dI cI cZ ad) (hu : u < 512) (hF : FF_) (hi : 5 * u + 5 ≤ L) (hL : LV_ V n u) (kk : ∀ (n2 : Nat) (V2 : Mm_), LV_ V2 n2 (u + 1) → Lp_ p l e s m below meth c b dC dI cI cZ ad 18 (5 * (u + 1)) [] V2) : Lp_ p l e s m below meth c b dC dI cI cZ ad 304 (5 * u) [] V := by
  refine q_x h dl_304 ?_
  refine q_s (j := 1) h dl_305 dl_306 dl_307 dl_308 dl_309 (by decide) hi ?_
  refine q_s (j := 2) h dl_310 dl_311 dl_312 dl_313 dl_314 (by decide) hi ?_
  refine q_s (j := 3) h dl_315 dl_316 dl_317 dl_318 dl_319 (by decide) hi ?_
  refine q_call (as := [vI (xs (5 * u + 1)), vI (xs (5 * u + 2)), vI (xs (5 * u + 3))]) (st := []) (g := 0) (r := 18) h dl_320 tw_357 mv_X7_setUp ⟨by decide, by decide⟩ rl_X7_setUp rfl rfl (Nat.le_of_ble_eq_true rfl) (cs_setUp hu hL) (fun ro V1 h7 => ?_)
  obtain ⟨x1, rfl, h8⟩ := h7
  refine q_m h dl_323 ?_
  refine q_s (j := 1) h dl_324 dl_325 dl_326 dl_327 dl_328 (by decide) hi ?_
  refine q_s (j := 2) h dl_329 dl_330 dl_331 dl_332 dl_333 (by decide) hi ?_
  refine q_s (j := 3) h dl_334 dl_335 dl_336 dl_337 dl_338 (by decide) hi ?_
  refine q_call (as := [vI (xs (5 * u + 1)), vI (xs (5 * u + 2)), vI (xs (5 * u + 3))]) (st := [vI x1]) (g := 0) (r := 33) h dl_339 tw_764 mv_X8_setUp ⟨by decide, by decide⟩ rl_X8_setUp rfl rfl (Nat.le_of_ble_eq_true rfl) h8 (fun ro V2 h7 => ?_)
  obtain ⟨x2, rfl, rfl, n2, hL2⟩ := h7
  exact q_eq (tgt := 900) h dl_342 (by decide) (q_next h (kk n2 V2 hL2))
theorem q_c5 {u n : Nat} {V : Mm_} (h : Lw_ p s m meth c b L xs dC dI cI cZ ad) (hu : u < 512) (hF : FF_) (hi : 5 * u + 5 ≤ L) (hL : LV_ V n u) (kk : ∀ (n2 : Nat) (V2 : Mm_), LV_ V2 n2 (u + 1) → Lp_ p l e s m below meth c b dC dI cI cZ ad 18 (5 * (u + 1)) [] V2) : Lp_ p l e s m below meth c b dC dI cI cZ ad 347 (5 * u) [] V := by
  refine q_x h dl_347 ?_
  refine q_s (j := 1) h dl_348 dl_349 dl_350 dl_351 dl_352 (by decide) hi ?_
  refine q_s (j := 2) h dl_353 dl_354 dl_355 dl_356 dl_357 (by decide) hi ?_
  refine q_s (j := 3) h dl_358 dl_359 dl_360 dl_361 dl_362 (by decide) hi ?_
  refine q_call (as := [vI (xs (5 * u + 1)), vI (xs (5 * u + 2)), vI (xs (5 * u + 3))]) (st := []) (g := 0) (r := 18) h dl_363 tw_365 mv_X7_link ⟨by decide, by decide⟩ rl_X7_link rfl rfl (Nat.le_of_ble_eq_true rfl) (cs_link hu hL) (fun ro V1 h7 => ?_)
  obtain ⟨x1, rfl, h8⟩ := h7
  refine q_m h dl_366 ?_
  refine q_s (j := 1) h dl_367 dl_368 dl_369 dl_370 dl_371 (by decide) hi ?_
  refine q_s (j := 2) h dl_372 dl_373 dl_374 dl_375 dl_376 (by decide) hi ?_
  refine q_s (j := 3) h dl_377 dl_378 dl_379 dl_380 dl_381 (by decide) hi ?_
  refine q_call (as := [vI (xs (5 * u + 1)), vI (xs (5 * u + 2)), vI (xs (5 * u + 3))]) (st := [vI x1]) (g := 0) (r := 33) h dl_382 tw_768 mv_X8_link ⟨by decide, by decide⟩ rl_X8_link rfl rfl (Nat.le_of_ble_eq_true rfl) h8 (fun ro V2 h7 => ?_)
  obtain ⟨x2, rfl, rfl, n2, hL2⟩ := h7
  exact q_eq (tgt := 900) h dl_385 (by decide) (q_next h (kk n2 V2 hL2))
theorem q_c6 {u n : Nat} {V : Mm_} (h : Lw_ p s m meth c b L xs dC dI cI cZ ad) (hu : u < 512) (hF : FF_) (hi : 5 * u + 5 ≤ L) (hL : LV_ V n u) (kk : ∀ (n2 : Nat) (V2 : Mm_), LV_ V2 n2 (u + 1) → Lp_ p l e s m below meth c b dC dI cI cZ ad 18 (5 * (u + 1)) [] V2) : Lp_ p l e s m below meth c b dC dI cI cZ ad 390 (5 * u) [] V := by
  refine q_x h dl_390 ?_
  refine q_s (j := 1) h dl_391 dl_392 dl_393 dl_394 dl_395 (by decide) hi ?_
  refine q_s (j := 2) h dl_396 dl_397 dl_398 dl_399 dl_400 (by decide) hi ?_
  refine q_call (as := [vI (xs (5 * u + 1)), vI (xs (5 * u + 2))]) (st := []) (g := 0) (r := 18) h dl_401 tw_369 mv_X7_set ⟨by decide, by decide⟩ rl_X7_set rfl rfl (Nat.le_of_ble_eq_true rfl) (cs_set hu hL) (fun ro V1 h7 => ?_)
  obtain ⟨x1, rfl, h8⟩ := h7
  refine q_m h dl_404 ?_
  refine q_s (j := 1) h dl_405 dl_406 dl_407 dl_408 dl_409 (by decide) hi ?_
  refine q_s (j := 2) h dl_410 dl_411 dl_412 dl_413 dl_414 (by decide) hi ?_
  refine q_call (as := [vI (xs (5 * u + 1)), vI (xs (5 * u + 2))]) (st := [vI x1]) (g := 0) (r := 33) h dl_415 tw_772 mv_X8_set ⟨by decide, by decide⟩ rl_X8_set rfl rfl (Nat.le_of_ble_eq_true rfl) h8 (fun ro V2 h7 => ?_)
  obtain ⟨x2, rfl, rfl, n2, hL2⟩ := h7
  exact q_eq (tgt := 900) h dl_418 (by decide) (q_next h (kk n2 V2 hL2))
theorem q_c7 {u n : Nat} {V : Mm_} (h : Lw_ p s m meth c b L xs dC dI cI cZ ad) (hu : u < 512) (hF : FF_) (hi : 5 * u + 5 ≤ L) (hL : LV_ V n u) (kk : ∀ (n2 : Nat) (V2 : Mm_), LV_ V2 n2 (u + 1) → Lp_ p l e s m below meth c b dC dI cI cZ ad 18 (5 * (u + 1)) [] V2) : Lp_ p l e s m below meth c b dC dI cI cZ ad 423 (5 * u) [] V := by
  refine q_x h dl_423 ?_
  refine q_s (j := 1) h dl_424 dl_425 dl_426 dl_427 dl_428 (by decide) hi ?_
  refine q_call (as := [vI (xs (5 * u + 1))]) (st := []) (g := 0) (r := 18) h dl_429 tw_380 mv_X7_run ⟨by decide, by decide⟩ rl_X7_run rfl rfl (Nat.le_of_ble_eq_true rfl) (cs_run hu hL) (fun ro V1 h7 => ?_)
  obtain ⟨x1, rfl, h8⟩ := h7
  refine q_m h dl_432 ?_
  refine q_s (j := 1) h dl_433 dl_434 dl_435 dl_436 dl_437 (by decide) hi ?_
  refine q_call (as := [vI (xs (5 * u + 1))]) (st := [vI x1]) (g := 0) (r := 33) h dl_438 tw_776 mv_X8_run ⟨by decide, by decide⟩ rl_X8_run rfl rfl (Nat.le_of_ble_eq_true rfl) h8 (fun ro V2 h7 => ?_)
  obtain ⟨x2, rfl, rfl, n2, hL2⟩ := h7
  exact q_eq (tgt := 900) h dl_441 (by decide) (q_next h (kk n2 V2 hL2))
theorem q_c8 {u n : Nat} {V : Mm_} (h : Lw_ p s m meth c b L xs dC dI cI cZ ad) (hu : u < 512) (hF : FF_) (hi : 5 * u + 5 ≤ L) (hL : LV_ V n u) (kk : ∀ (n2 : Nat) (V2 : Mm_), LV_ V2 n2 (u + 1) → Lp_ p l e s m below meth c b dC dI cI cZ ad 18 (5 * (u + 1)) [] V2) : Lp_ p l e s m below meth c b dC dI cI cZ ad 446 (5 * u) [] V := by
  refine q_x h dl_446 ?_
  refine q_call (as := []) (st := []) (g := 0) (r := 18) h dl_447 tw_495 mv_X7_time ⟨by decide, by decide⟩ rl_X7_time rfl rfl (Nat.le_of_ble_eq_true rfl) (cs_time hu hL) (fun ro V1 h7 => ?_)
  obtain ⟨x1, rfl, h8⟩ := h7
  refine q_m h dl_450 ?_
  refine q_call (as := []) (st := [vI x1]) (g := 0) (r := 33) h dl_451 tw_850 mv_X8_time ⟨by decide, by decide⟩ rl_X8_time rfl rfl (Nat.le_of_ble_eq_true rfl) h8 (fun ro V2 h7 => ?_)
  obtain ⟨x2, rfl, rfl, n2, hL2⟩ := h7
  exact q_eq (tgt := 900) h dl_454 (by decide) (q_next h (kk n2 V2 hL2))
theorem q_c9 {u n : Nat} {V : Mm_} (h : Lw_ p s m meth c b L xs dC dI cI cZ ad) (hu : u < 512) (hF : FF_) (hi : 5 * u + 5 ≤ L) (hL : LV_ V n u) (kk : ∀ (n2 : Nat) (V2 : Mm_), LV_ V2 n2 (u + 1) → Lp_ p l e s m below meth c b dC dI cI cZ ad 18 (5 * (u + 1)) [] V2) : Lp_ p l e s m below meth c b dC dI cI cZ ad 459 (5 * u) [] V := by
  refine q_x h dl_459 ?_
  refine q_call (as := []) (st := []) (g := 0) (r := 18) h dl_460 tw_499 mv_X7_sent ⟨by decide, by decide⟩ rl_X7_sent rfl rfl (Nat.le_of_ble_eq_true rfl) (cs_sent hu hL) (fun ro V1 h7 => ?_)
  obtain ⟨x1, rfl, h8⟩ := h7
  refine q_m h dl_463 ?_
  refine q_call (as := []) (st := [vI x1]) (g := 0) (r := 33) h dl_464 tw_854 mv_X8_sent ⟨by decide, by decide⟩ rl_X8_sent rfl rfl (Nat.le_of_ble_eq_true rfl) h8 (fun ro V2 h7 => ?_)
  obtain ⟨x2, rfl, rfl, n2, hL2⟩ := h7
  exact q_eq (tgt := 900) h dl_467 (by decide) (q_next h (kk n2 V2 hL2))
theorem q_c10 {u n : Nat} {V : Mm_} (h : Lw_ p s m meth c b L xs dC dI cI cZ ad) (hu : u < 512) (hF : FF_) (hi : 5 * u + 5 ≤ L) (hL : LV_ V n u) (kk : ∀ (n2 : Nat) (V2 : Mm_), LV_ V2 n2 (u + 1) → Lp_ p l e s m below meth c b dC dI cI cZ ad 18 (5 * (u + 1)) [] V2) : Lp_ p l e s m below meth c b dC dI cI cZ ad 472 (5 * u) [] V := by
  refine q_x h dl_472 ?_
  refine q_s (j := 1) h dl_473 dl_474 dl_475 dl_476 dl_477 (by decide) hi ?_
  refine q_s (j := 2) h dl_478 dl_479 dl_480 dl_481 dl_482 (by decide) hi ?_
  refine q_s (j := 3) h dl_483 dl_484 dl_485 dl_486 dl_487 (by decide) hi ?_
  refine q_s (j := 4) h dl_488 dl_489 dl_490 dl_491 dl_492 (by decide) hi ?_
  refine q_call (as := [vI (xs (5 * u + 1)), vI (xs (5 * u + 2)), vI (xs (5 * u + 3)), vI (xs (5 * u + 4))]) (st := []) (g := 0) (r := 18) h dl_493 tw_503 mv_X7_entry ⟨by decide, by decide⟩ rl_X7_entry rfl rfl (Nat.le_of_ble_eq_true rfl) (cs_entry hu hL) (fun ro V1 h7 => ?_)
  obtain ⟨x1, rfl, h8⟩ := h7
  refine q_m h dl_496 ?_
  refine q_s (j := 1) h dl_497 dl_498 dl_499 dl_500 dl_501 (by decide) hi ?_
  refine q_s (j := 2) h dl_502 dl_503 dl_504 dl_505 dl_506 (by decide) hi ?_
  refine q_s (j := 3) h dl_507 dl_508 dl_509 dl_510 dl_511 (by decide) hi ?_
  refine q_s (j := 4) h dl_512 dl_513 dl_514 dl_515 dl_516 (by decide) hi ?_
  refine q_call (as := [vI (xs (5 * u + 1)), vI (xs (5 * u + 2)), vI (xs (5 * u + 3)), vI (xs (5 * u + 4))]) (st := [vI x1]) (g := 0) (r := 33) h dl_517 tw_858 mv_X8_entry ⟨by decide, by decide⟩ rl_X8_entry rfl rfl (Nat.le_of_ble_eq_true rfl) h8 (fun ro V2 h7 => ?_)
  obtain ⟨x2, rfl, rfl, n2, hL2⟩ := h7
  exact q_eq (tgt := 900) h dl_520 (by decide) (q_next h (kk n2 V2 hL2))
theorem q_c11 {u n : Nat} {V : Mm_} (h : Lw_ p s m meth c b L xs dC dI cI cZ ad) (hu : u < 512) (hF : FF_) (hi : 5 * u + 5 ≤ L) (hL : LV_ V n u) (kk : ∀ (n2 : Nat) (V2 : Mm_), LV_ V2 n2 (u + 1) → Lp_ p l e s m below meth c b dC dI cI cZ ad 18 (5 * (u + 1)) [] V2) : Lp_ p l e s m below meth c b dC dI cI cZ ad 525 (5 * u) [] V := by
  refine q_x h dl_525 ?_
  refine q_s (j := 1) h dl_526 dl_527 dl_528 dl_529 dl_530 (by decide) hi ?_
  refine q_s (j := 2) h dl_531 dl_532 dl_533 dl_534 dl_535 (by decide) hi ?_
  refine q_s (j := 3) h dl_536 dl_537 dl_538 dl_539 dl_540 (by decide) hi ?_
  refine q_call (as := [vI (xs (5 * u + 1)), vI (xs (5 * u + 2)), vI (xs (5 * u + 3))]) (st := []) (g := 0) (r := 18) h dl_541 tw_527 mv_X7_distance ⟨by decide, by decide⟩ rl_X7_distance rfl rfl (Nat.le_of_ble_eq_true rfl) (cs_distance hu hL) (fun ro V1 h7 => ?_)
  obtain ⟨x1, rfl, h8⟩ := h7
  refine q_m h dl_544 ?_
  refine q_s (j := 1) h dl_545 dl_546 dl_547 dl_548 dl_549 (by decide) hi ?_
  refine q_s (j := 2) h dl_550 dl_551 dl_552 dl_553 dl_554 (by decide) hi ?_
  refine q_s (j := 3) h dl_555 dl_556 dl_557 dl_558 dl_559 (by decide) hi ?_
  refine q_call (as := [vI (xs (5 * u + 1)), vI (xs (5 * u + 2)), vI (xs (5 * u + 3))]) (st := [vI x1]) (g := 0) (r := 33) h dl_560 tw_866 mv_X8_distance ⟨by decide, by decide⟩ rl_X8_distance rfl rfl (Nat.le_of_ble_eq_true rfl) h8 (fun ro V2 h7 => ?_)
  obtain ⟨x2, rfl, rfl, n2, hL2⟩ := h7
  exact q_eq (tgt := 900) h dl_563 (by decide) (q_next h (kk n2 V2 hL2))
theorem q_c12 {u n : Nat} {V : Mm_} (h : Lw_ p s m meth c b L xs dC dI cI cZ ad) (hu : u < 512) (hF : FF_) (hi : 5 * u + 5 ≤ L) (hL : LV_ V n u) (kk : ∀ (n2 : Nat) (V2 : Mm_), LV_ V2 n2 (u + 1) → Lp_ p l e s m below meth c b dC dI cI cZ ad 18 (5 * (u + 1)) [] V2) : Lp_ p l e s m below meth c b dC dI cI cZ ad 568 (5 * u) [] V := by
  refine q_x h dl_568 ?_
  refine q_s (j := 1) h dl_569 dl_570 dl_571 dl_572 dl_573 (by decide) hi ?_
  refine q_s (j := 2) h dl_574 dl_575 dl_576 dl_577 dl_578 (by decide) hi ?_
  refine q_call (as := [vI (xs (5 * u + 1)), vI (xs (5 * u + 2))]) (st := []) (g := 0) (r := 18) h dl_579 tw_535 mv_X7_choice ⟨by decide, by decide⟩ rl_X7_choice rfl rfl (Nat.le_of_ble_eq_true rfl) (cs_choice hu hL) (fun ro V1 h7 => ?_)
  obtain ⟨x1, rfl, h8⟩ := h7
  refine q_m h dl_582 ?_
  refine q_s (j := 1) h dl_583 dl_584 dl_585 dl_586 dl_587 (by decide) hi ?_
  refine q_s (j := 2) h dl_588 dl_589 dl_590 dl_591 dl_592 (by decide) hi ?_
  refine q_call (as := [vI (xs (5 * u + 1)), vI (xs (5 * u + 2))]) (st := [vI x1]) (g := 0) (r := 33) h dl_593 tw_870 mv_X8_choice ⟨by decide, by decide⟩ rl_X8_choice rfl rfl (Nat.le_of_ble_eq_true rfl) h8 (fun ro V2 h7 => ?_)
  obtain ⟨x2, rfl, rfl, n2, hL2⟩ := h7
  exact q_eq (tgt := 900) h dl_596 (by decide) (q_next h (kk n2 V2 hL2))
theorem q_c13 {u n : Nat} {V : Mm_} (h : Lw_ p s m meth c b L xs dC dI cI cZ ad) (hu : u < 512) (hF : FF_) (hi : 5 * u + 5 ≤ L) (hL : LV_ V n u) (kk : ∀ (n2 : Nat) (V2 : Mm_), LV_ V2 n2 (u + 1) → Lp_ p l e s m below meth c b dC dI cI cZ ad 18 (5 * (u + 1)) [] V2) : Lp_ p l e s m below meth c b dC dI cI cZ ad 601 (5 * u) [] V := by
  refine q_x h dl_601 ?_
  refine q_s (j := 1) h dl_602 dl_603 dl_604 dl_605 dl_606 (by decide) hi ?_
  refine q_s (j := 2) h dl_607 dl_608 dl_609 dl_610 dl_611 (by decide) hi ?_
  refine q_s (j := 3) h dl_612 dl_613 dl_614 dl_615 dl_616 (by decide) hi ?_
  refine q_call (as := [vI (xs (5 * u + 1)), vI (xs (5 * u + 2)), vI (xs (5 * u + 3))]) (st := []) (g := 0) (r := 18) h dl_617 tw_539 mv_X7_entries ⟨by decide, by decide⟩ rl_X7_entries rfl rfl (Nat.le_of_ble_eq_true rfl) (cs_entries hu hL) (fun ro V1 h7 => ?_)
  obtain ⟨x1, rfl, h8⟩ := h7
  refine q_m h dl_620 ?_
  refine q_s (j := 1) h dl_621 dl_622 dl_623 dl_624 dl_625 (by decide) hi ?_
  refine q_s (j := 2) h dl_626 dl_627 dl_628 dl_629 dl_630 (by decide) hi ?_
  refine q_s (j := 3) h dl_631 dl_632 dl_633 dl_634 dl_635 (by decide) hi ?_
  refine q_call (as := [vI (xs (5 * u + 1)), vI (xs (5 * u + 2)), vI (xs (5 * u + 3))]) (st := [vI x1]) (g := 0) (r := 33) h dl_636 tw_874 mv_X8_entries ⟨by decide, by decide⟩ rl_X8_entries rfl rfl (Nat.le_of_ble_eq_true rfl) h8 (fun ro V2 h7 => ?_)
  obtain ⟨x2, rfl, rfl, n2, hL2⟩ := h7
  exact q_eq (tgt := 900) h dl_639 (by decide) (q_next h (kk n2 V2 hL2))
theorem q_c14 {u n : Nat} {V : Mm_} (h : Lw_ p s m meth c b L xs dC dI cI cZ ad) (hu : u < 512) (hF : FF_) (hi : 5 * u + 5 ≤ L) (hL : LV_ V n u) (kk : ∀ (n2 : Nat) (V2 : Mm_), LV_ V2 n2 (u + 1) → Lp_ p l e s m below meth c b dC dI cI cZ ad 18 (5 * (u + 1)) [] V2) : Lp_ p l e s m below meth c b dC dI cI cZ ad 644 (5 * u) [] V := by
  refine q_x h dl_644 ?_
  refine q_call (as := []) (st := []) (g := 0) (r := 18) h dl_645 tw_547 mv_X7_meanWidthBits ⟨by decide, by decide⟩ rl_X7_meanWidthBits rfl rfl (Nat.le_of_ble_eq_true rfl) (cs_meanWidthBits hF hu hL) (fun ro V1 h7 => ?_)
  obtain ⟨x1, rfl, h8⟩ := h7
  refine q_m h dl_648 ?_
  refine q_call (as := []) (st := [vI x1]) (g := 0) (r := 33) h dl_649 tw_878 mv_X8_meanWidthBits ⟨by decide, by decide⟩ rl_X8_meanWidthBits rfl rfl (Nat.le_of_ble_eq_true rfl) h8 (fun ro V2 h7 => ?_)
  obtain ⟨x2, rfl, rfl, n2, hL2⟩ := h7
  exact q_eq (tgt := 900) h dl_652 (by decide) (q_next h (kk n2 V2 hL2))
theorem q_c15 {u n : Nat} {V : Mm_} (h : Lw_ p s m meth c b L xs dC dI cI cZ ad) (hu : u < 512) (hF : FF_) (hi : 5 * u + 5 ≤ L) (hL : LV_ V n u) (kk : ∀ (n2 : Nat) (V2 : Mm_), LV_ V2 n2 (u + 1) → Lp_ p l e s m below meth c b dC dI cI cZ ad 18 (5 * (u + 1)) [] V2) : Lp_ p l e s m below meth c b dC dI cI cZ ad 657 (5 * u) [] V := by
  refine q_x h dl_657 ?_
  refine q_call (as := []) (st := []) (g := 0) (r := 18) h dl_658 tw_556 mv_X7_journalSize ⟨by decide, by decide⟩ rl_X7_journalSize rfl rfl (Nat.le_of_ble_eq_true rfl) (cs_journalSize hu hL) (fun ro V1 h7 => ?_)
  obtain ⟨x1, rfl, h8⟩ := h7
  refine q_m h dl_661 ?_
  refine q_call (as := []) (st := [vI x1]) (g := 0) (r := 33) h dl_662 tw_892 mv_X8_journalSize ⟨by decide, by decide⟩ rl_X8_journalSize rfl rfl (Nat.le_of_ble_eq_true rfl) h8 (fun ro V2 h7 => ?_)
  obtain ⟨x2, rfl, rfl, n2, hL2⟩ := h7
  exact q_eq (tgt := 900) h dl_665 (by decide) (q_next h (kk n2 V2 hL2))
theorem q_c16 {u n : Nat} {V : Mm_} (h : Lw_ p s m meth c b L xs dC dI cI cZ ad) (hu : u < 512) (hF : FF_) (hi : 5 * u + 5 ≤ L) (hL : LV_ V n u) (kk : ∀ (n2 : Nat) (V2 : Mm_), LV_ V2 n2 (u + 1) → Lp_ p l e s m below meth c b dC dI cI cZ ad 18 (5 * (u + 1)) [] V2) : Lp_ p l e s m below meth c b dC dI cI cZ ad 670 (5 * u) [] V := by
  refine q_x h dl_670 ?_
  refine q_s (j := 1) h dl_671 dl_672 dl_673 dl_674 dl_675 (by decide) hi ?_
  refine q_s (j := 2) h dl_676 dl_677 dl_678 dl_679 dl_680 (by decide) hi ?_
  refine q_call (as := [vI (xs (5 * u + 1)), vI (xs (5 * u + 2))]) (st := []) (g := 0) (r := 18) h dl_681 tw_565 mv_X7_journal ⟨by decide, by decide⟩ rl_X7_journal rfl rfl (Nat.le_of_ble_eq_true rfl) (cs_journal hu hL) (fun ro V1 h7 => ?_)
  obtain ⟨x1, rfl, h8⟩ := h7
  refine q_m h dl_684 ?_
  refine q_s (j := 1) h dl_685 dl_686 dl_687 dl_688 dl_689 (by decide) hi ?_
  refine q_s (j := 2) h dl_690 dl_691 dl_692 dl_693 dl_694 (by decide) hi ?_
  refine q_call (as := [vI (xs (5 * u + 1)), vI (xs (5 * u + 2))]) (st := [vI x1]) (g := 0) (r := 33) h dl_695 tw_896 mv_X8_journal ⟨by decide, by decide⟩ rl_X8_journal rfl rfl (Nat.le_of_ble_eq_true rfl) h8 (fun ro V2 h7 => ?_)
  obtain ⟨x2, rfl, rfl, n2, hL2⟩ := h7
  exact q_eq (tgt := 900) h dl_698 (by decide) (q_next h (kk n2 V2 hL2))
theorem q_c17 {u n : Nat} {V : Mm_} (h : Lw_ p s m meth c b L xs dC dI cI cZ ad) (hu : u < 512) (hF : FF_) (hi : 5 * u + 5 ≤ L) (hL : LV_ V n u) (kk : ∀ (n2 : Nat) (V2 : Mm_), LV_ V2 n2 (u + 1) → Lp_ p l e s m below meth c b dC dI cI cZ ad 18 (5 * (u + 1)) [] V2) : Lp_ p l e s m below meth c b dC dI cI cZ ad 703 (5 * u) [] V := by
  refine q_x h dl_703 ?_
  refine q_s (j := 1) h dl_704 dl_705 dl_706 dl_707 dl_708 (by decide) hi ?_
  refine q_s (j := 2) h dl_709 dl_710 dl_711 dl_712 dl_713 (by decide) hi ?_
  refine q_call (as := [vI (xs (5 * u + 1)), vI (xs (5 * u + 2))]) (st := []) (g := 0) (r := 18) h dl_714 tw_573 mv_X7_trueDistance ⟨by decide, by decide⟩ rl_X7_trueDistance rfl rfl (Nat.le_of_ble_eq_true rfl) (cs_trueDistance hu hL) (fun ro V1 h7 => ?_)
  obtain ⟨x1, rfl, h8⟩ := h7
  refine q_m h dl_717 ?_
  refine q_s (j := 1) h dl_718 dl_719 dl_720 dl_721 dl_722 (by decide) hi ?_
  refine q_s (j := 2) h dl_723 dl_724 dl_725 dl_726 dl_727 (by decide) hi ?_
  refine q_call (as := [vI (xs (5 * u + 1)), vI (xs (5 * u + 2))]) (st := [vI x1]) (g := 0) (r := 33) h dl_728 tw_900 mv_X8_trueDistance ⟨by decide, by decide⟩ rl_X8_trueDistance rfl rfl (Nat.le_of_ble_eq_true rfl) h8 (fun ro V2 h7 => ?_)
  obtain ⟨x2, rfl, rfl, n2, hL2⟩ := h7
  exact q_eq (tgt := 900) h dl_731 (by decide) (q_next h (kk n2 V2 hL2))
theorem q_c18 {u n : Nat} {V : Mm_} (h : Lw_ p s m meth c b L xs dC dI cI cZ ad) (hu : u < 512) (hF : FF_) (hi : 5 * u + 5 ≤ L) (hL : LV_ V n u) (kk : ∀ (n2 : Nat) (V2 : Mm_), LV_ V2 n2 (u + 1) → Lp_ p l e s m below meth c b dC dI cI cZ ad 18 (5 * (u + 1)) [] V2) : Lp_ p l e s m below meth c b dC dI cI cZ ad 736 (5 * u) [] V := by
  refine q_x h dl_736 ?_
  refine q_call (as := []) (st := []) (g := 0) (r := 18) h dl_737 tw_593 mv_X7_wrongPairs ⟨by decide, by decide⟩ rl_X7_wrongPairs rfl rfl (Nat.le_of_ble_eq_true rfl) (cs_wrongPairs hu hL) (fun ro V1 h7 => ?_)
  obtain ⟨x1, rfl, h8⟩ := h7
  refine q_m h dl_740 ?_
  refine q_call (as := []) (st := [vI x1]) (g := 0) (r := 33) h dl_741 tw_908 mv_X8_wrongPairs ⟨by decide, by decide⟩ rl_X8_wrongPairs rfl rfl (Nat.le_of_ble_eq_true rfl) h8 (fun ro V2 h7 => ?_)
  obtain ⟨x2, rfl, rfl, n2, hL2⟩ := h7
  exact q_eq (tgt := 900) h dl_744 (by decide) (q_next h (kk n2 V2 hL2))
theorem q_c19 {u n : Nat} {V : Mm_} (h : Lw_ p s m meth c b L xs dC dI cI cZ ad) (hu : u < 512) (hF : FF_) (hi : 5 * u + 5 ≤ L) (hL : LV_ V n u) (kk : ∀ (n2 : Nat) (V2 : Mm_), LV_ V2 n2 (u + 1) → Lp_ p l e s m below meth c b dC dI cI cZ ad 18 (5 * (u + 1)) [] V2) : Lp_ p l e s m below meth c b dC dI cI cZ ad 749 (5 * u) [] V := by
  refine q_x h dl_749 ?_
  refine q_s (j := 1) h dl_750 dl_751 dl_752 dl_753 dl_754 (by decide) hi ?_
  refine q_s (j := 2) h dl_755 dl_756 dl_757 dl_758 dl_759 (by decide) hi ?_
  refine q_call (as := [vI (xs (5 * u + 1)), vI (xs (5 * u + 2))]) (st := []) (g := 0) (r := 18) h dl_760 tw_601 mv_X7_follow ⟨by decide, by decide⟩ rl_X7_follow rfl rfl (Nat.le_of_ble_eq_true rfl) (cs_follow hu hL) (fun ro V1 h7 => ?_)
  obtain ⟨x1, rfl, h8⟩ := h7
  refine q_m h dl_763 ?_
  refine q_s (j := 1) h dl_764 dl_765 dl_766 dl_767 dl_768 (by decide) hi ?_
  refine q_s (j := 2) h dl_769 dl_770 dl_771 dl_772 dl_773 (by decide) hi ?_
  refine q_call (as := [vI (xs (5 * u + 1)), vI (xs (5 * u + 2))]) (st := [vI x1]) (g := 0) (r := 33) h dl_774 tw_912 mv_X8_follow ⟨by decide, by decide⟩ rl_X8_follow rfl rfl (Nat.le_of_ble_eq_true rfl) h8 (fun ro V2 h7 => ?_)
  obtain ⟨x2, rfl, rfl, n2, hL2⟩ := h7
  exact q_eq (tgt := 900) h dl_777 (by decide) (q_next h (kk n2 V2 hL2))
theorem q_c20 {u n : Nat} {V : Mm_} (h : Lw_ p s m meth c b L xs dC dI cI cZ ad) (hu : u < 512) (hF : FF_) (hi : 5 * u + 5 ≤ L) (hL : LV_ V n u) (kk : ∀ (n2 : Nat) (V2 : Mm_), LV_ V2 n2 (u + 1) → Lp_ p l e s m below meth c b dC dI cI cZ ad 18 (5 * (u + 1)) [] V2) : Lp_ p l e s m below meth c b dC dI cI cZ ad 782 (5 * u) [] V := by
  refine q_x h dl_782 ?_
  refine q_call (as := []) (st := []) (g := 0) (r := 18) h dl_783 tw_609 mv_X7_loops ⟨by decide, by decide⟩ rl_X7_loops rfl rfl (Nat.le_of_ble_eq_true rfl) (cs_loops hu hL) (fun ro V1 h7 => ?_)
  obtain ⟨x1, rfl, h8⟩ := h7
  refine q_m h dl_786 ?_
  refine q_call (as := []) (st := [vI x1]) (g := 0) (r := 33) h dl_787 tw_920 mv_X8_loops ⟨by decide, by decide⟩ rl_X8_loops rfl rfl (Nat.le_of_ble_eq_true rfl) h8 (fun ro V2 h7 => ?_)
  obtain ⟨x2, rfl, rfl, n2, hL2⟩ := h7
  exact q_eq (tgt := 900) h dl_790 (by decide) (q_next h (kk n2 V2 hL2))
theorem q_c21 {u n : Nat} {V : Mm_} (h : Lw_ p s m meth c b L xs dC dI cI cZ ad) (hu : u < 512) (hF : FF_) (hi : 5 * u + 5 ≤ L) (hL : LV_ V n u) (kk : ∀ (n2 : Nat) (V2 : Mm_), LV_ V2 n2 (u + 1) → Lp_ p l e s m below meth c b dC dI cI cZ ad 18 (5 * (u + 1)) [] V2) : Lp_ p l e s m below meth c b dC dI cI cZ ad 795 (5 * u) [] V := by
  refine q_x h dl_795 ?_
  refine q_call (as := []) (st := []) (g := 0) (r := 18) h dl_796 tw_618 mv_X7_settling ⟨by decide, by decide⟩ rl_X7_settling rfl rfl (Nat.le_of_ble_eq_true rfl) (cs_settling hu hL) (fun ro V1 h7 => ?_)
  obtain ⟨x1, rfl, h8⟩ := h7
  refine q_m h dl_799 ?_
  refine q_call (as := []) (st := [vI x1]) (g := 0) (r := 33) h dl_800 tw_924 mv_X8_settling ⟨by decide, by decide⟩ rl_X8_settling rfl rfl (Nat.le_of_ble_eq_true rfl) h8 (fun ro V2 h7 => ?_)
  obtain ⟨x2, rfl, rfl, n2, hL2⟩ := h7
  exact q_eq (tgt := 900) h dl_803 (by decide) (q_next h (kk n2 V2 hL2))
theorem q_c22 {u n : Nat} {V : Mm_} (h : Lw_ p s m meth c b L xs dC dI cI cZ ad) (hu : u < 512) (hF : FF_) (hi : 5 * u + 5 ≤ L) (hL : LV_ V n u) (kk : ∀ (n2 : Nat) (V2 : Mm_), LV_ V2 n2 (u + 1) → Lp_ p l e s m below meth c b dC dI cI cZ ad 18 (5 * (u + 1)) [] V2) : Lp_ p l e s m below meth c b dC dI cI cZ ad 808 (5 * u) [] V := by
  refine q_x h dl_808 ?_
  refine q_s (j := 1) h dl_809 dl_810 dl_811 dl_812 dl_813 (by decide) hi ?_
  refine q_s (j := 2) h dl_814 dl_815 dl_816 dl_817 dl_818 (by decide) hi ?_
  refine q_call (as := [vI (xs (5 * u + 1)), vI (xs (5 * u + 2))]) (st := []) (g := 0) (r := 18) h dl_819 tw_649 mv_X7_loss ⟨by decide, by decide⟩ rl_X7_loss rfl rfl (Nat.le_of_ble_eq_true rfl) (cs_loss hu hL) (fun ro V1 h7 => ?_)
  obtain ⟨x1, rfl, h8⟩ := h7
  refine q_m h dl_822 ?_
  refine q_s (j := 1) h dl_823 dl_824 dl_825 dl_826 dl_827 (by decide) hi ?_
  refine q_s (j := 2) h dl_828 dl_829 dl_830 dl_831 dl_832 (by decide) hi ?_
  refine q_call (as := [vI (xs (5 * u + 1)), vI (xs (5 * u + 2))]) (st := [vI x1]) (g := 0) (r := 33) h dl_833 tw_936 mv_X8_loss ⟨by decide, by decide⟩ rl_X8_loss rfl rfl (Nat.le_of_ble_eq_true rfl) h8 (fun ro V2 h7 => ?_)
  obtain ⟨x2, rfl, rfl, n2, hL2⟩ := h7
  exact q_eq (tgt := 900) h dl_836 (by decide) (q_next h (kk n2 V2 hL2))
theorem q_c23 {u n : Nat} {V : Mm_} (h : Lw_ p s m meth c b L xs dC dI cI cZ ad) (hu : u < 512) (hF : FF_) (hi : 5 * u + 5 ≤ L) (hL : LV_ V n u) (kk : ∀ (n2 : Nat) (V2 : Mm_), LV_ V2 n2 (u + 1) → Lp_ p l e s m below meth c b dC dI cI cZ ad 18 (5 * (u + 1)) [] V2) : Lp_ p l e s m below meth c b dC dI cI cZ ad 841 (5 * u) [] V := by
  refine q_x h dl_841 ?_
  refine q_s (j := 1) h dl_842 dl_843 dl_844 dl_845 dl_846 (by decide) hi ?_
  refine q_s (j := 2) h dl_847 dl_848 dl_849 dl_850 dl_851 (by decide) hi ?_
  refine q_call (as := [vI (xs (5 * u + 1)), vI (xs (5 * u + 2))]) (st := []) (g := 0) (r := 18) h dl_852 tw_658 mv_X7_recovery ⟨by decide, by decide⟩ rl_X7_recovery rfl rfl (Nat.le_of_ble_eq_true rfl) (cs_recovery hu hL) (fun ro V1 h7 => ?_)
  obtain ⟨x1, rfl, h8⟩ := h7
  refine q_m h dl_855 ?_
  refine q_s (j := 1) h dl_856 dl_857 dl_858 dl_859 dl_860 (by decide) hi ?_
  refine q_s (j := 2) h dl_861 dl_862 dl_863 dl_864 dl_865 (by decide) hi ?_
  refine q_call (as := [vI (xs (5 * u + 1)), vI (xs (5 * u + 2))]) (st := [vI x1]) (g := 0) (r := 33) h dl_866 tw_944 mv_X8_recovery ⟨by decide, by decide⟩ rl_X8_recovery rfl rfl (Nat.le_of_ble_eq_true rfl) h8 (fun ro V2 h7 => ?_)
  obtain ⟨x2, rfl, rfl, n2, hL2⟩ := h7
  exact q_eq (tgt := 900) h dl_869 (by decide) (q_next h (kk n2 V2 hL2))
theorem q_c24 {u n : Nat} {V : Mm_} (h : Lw_ p s m meth c b L xs dC dI cI cZ ad) (hu : u < 512) (hF : FF_) (hi : 5 * u + 5 ≤ L) (hL : LV_ V n u) (kk : ∀ (n2 : Nat) (V2 : Mm_), LV_ V2 n2 (u + 1) → Lp_ p l e s m below meth c b dC dI cI cZ ad 18 (5 * (u + 1)) [] V2) : Lp_ p l e s m below meth c b dC dI cI cZ ad 874 (5 * u) [] V := by
  refine q_x h dl_874 ?_
  refine q_call (as := []) (st := []) (g := 0) (r := 18) h dl_875 tw_662 mv_X7_store ⟨by decide, by decide⟩ rl_X7_store rfl rfl (Nat.le_of_ble_eq_true rfl) (cs_store hu hL) (fun ro V1 h7 => ?_)
  obtain ⟨x1, rfl, h8⟩ := h7
  refine q_m h dl_878 ?_
  refine q_call (as := []) (st := [vI x1]) (g := 0) (r := 33) h dl_879 tw_949 mv_X8_store ⟨by decide, by decide⟩ rl_X8_store rfl rfl (Nat.le_of_ble_eq_true rfl) h8 (fun ro V2 h7 => ?_)
  obtain ⟨x2, rfl, rfl, n2, hL2⟩ := h7
  exact q_eq (tgt := 900) h dl_882 (by decide) (q_next h (kk n2 V2 hL2))
theorem q_c25 {u n : Nat} {V : Mm_} (h : Lw_ p s m meth c b L xs dC dI cI cZ ad) (hu : u < 512) (hF : FF_) (hi : 5 * u + 5 ≤ L) (hL : LV_ V n u) (kk : ∀ (n2 : Nat) (V2 : Mm_), LV_ V2 n2 (u + 1) → Lp_ p l e s m below meth c b dC dI cI cZ ad 18 (5 * (u + 1)) [] V2) : Lp_ p l e s m below meth c b dC dI cI cZ ad 887 (5 * u) [] V := by
  refine q_x h dl_887 ?_
  refine q_call (as := []) (st := []) (g := 0) (r := 18) h dl_888 tw_666 mv_X7_recall ⟨by decide, by decide⟩ rl_X7_recall rfl rfl (Nat.le_of_ble_eq_true rfl) (cs_recall hu hL) (fun ro V1 h7 => ?_)
  obtain ⟨x1, rfl, h8⟩ := h7
  refine q_m h dl_891 ?_
  refine q_call (as := []) (st := [vI x1]) (g := 0) (r := 33) h dl_892 tw_953 mv_X8_recall ⟨by decide, by decide⟩ rl_X8_recall rfl rfl (Nat.le_of_ble_eq_true rfl) h8 (fun ro V2 h7 => ?_)
  obtain ⟨x2, rfl, rfl, n2, hL2⟩ := h7
  exact q_eq (tgt := 900) h dl_895 (by decide) (q_next h (kk n2 V2 hL2))
theorem q_loop (hF : FF_) (h : Lw_ p s m meth c b L xs dC dI cI cZ ad) : ∀ (d u n : Nat) (V : Mm_), L ≤ 5 * (u + d) → 5 * u ≤ L → LV_ V n u → Lp_ p l e s m below meth c b dC dI cI cZ ad 18 (5 * u) [] V := by
  intro d
  induction d with
  | zero =>
    intro u n V hd hub hL H locs ls hP hS hl hst
    obtain ⟨⟨hx, hb, hr, hml, hown, hts, hX, hbl, hlocks, hgv⟩, hLL, -⟩ := id h
    refine lv_iload_n hx hb dl_18 rfl (lv_at hl 3 rfl) ?_
    refine lv_aload_n hx hb dl_19 rfl (lv_at hl 0 rfl) ?_
    refine va_slen hx hb hX hbl (A := fun q : Nat => s.heap.size ≤ q) (Nat.not_le.mpr hbl) hS dl_20 ?_
    refine lv_iconst (v := nI 5) hx hb dl_21 rfl ?_
    refine lv_isub hx hb dl_22 ?_
    have e5 : (nI 5).toInt = 5 := by decide
    have eL : (Int32.ofNat L - nI 5).toInt = (L : Int) - 5 := by
      rw [Int32.toInt_sub, show (Int32.ofNat L).toInt = (L : Int) from nI_toInt (by omega), e5]
      exact Int.bmod_eq_of_le (by omega) (by omega)
    refine lv_icmp_gt (tgt := 906) hx hb dl_23 (by decide) (fun _ => ?_) (fun z => ?_)
    · refine lv_iconst (v := 1) hx hb dl_906 (by decide) ?_
      refine va_forget (fun q hq => hS.2.2 q hq) ?_
      exact W.base (lw_ret (d0 := s.drawn) (Drawn.sameBut.refl s.drawn lw_cs) hx hb hr hlocks dl_907)
    · rw [Int32.lt_iff_toInt_lt, eL, nI_toInt (by omega)] at z
      omega
  | succ d ih =>
    intro u n V hd hub hL H locs ls hP hS hl hst
    obtain ⟨⟨hx, hb, hr, hml, hown, hts, hX, hbl, hlocks, hgv⟩, hLL, -⟩ := id h
    refine lv_iload_n hx hb dl_18 rfl (lv_at hl 3 rfl) ?_
    refine lv_aload_n hx hb dl_19 rfl (lv_at hl 0 rfl) ?_
    refine va_slen hx hb hX hbl (A := fun q : Nat => s.heap.size ≤ q) (Nat.not_le.mpr hbl) hS dl_20 ?_
    refine lv_iconst (v := nI 5) hx hb dl_21 rfl ?_
    refine lv_isub hx hb dl_22 ?_
    have e5 : (nI 5).toInt = 5 := by decide
    have eL : (Int32.ofNat L - nI 5).toInt = (L : Int) - 5 := by
      rw [Int32.toInt_sub, show (Int32.ofNat L).toInt = (L : Int) from nI_toInt (by omega), e5]
      exact Int.bmod_eq_of_le (by omega) (by omega)
    refine lv_icmp_gt (tgt := 906) hx hb dl_23 (by decide) (fun _ => ?_) (fun z => ?_)
    · refine lv_iconst (v := 1) hx hb dl_906 (by decide) ?_
      refine va_forget (fun q hq => hS.2.2 q hq) ?_
      exact W.base (lw_ret (d0 := s.drawn) (Drawn.sameBut.refl s.drawn lw_cs) hx hb hr hlocks dl_907)
    · rw [Int32.lt_iff_toInt_lt, eL, nI_toInt (by omega)] at z
      have hi : 5 * u + 5 ≤ L := by omega
      have hu : u < 512 := by omega
      have kk : ∀ (n2 : Nat) (V2 : Mm_), LV_ V2 n2 (u + 1) → Lp_ p l e s m below meth c b dC dI cI cZ ad 18 (5 * (u + 1)) [] V2 := fun n2 V2 hL2 => ih (u + 1) n2 V2 (by omega) (by omega) hL2
      refine lv_aload_n hx hb dl_26 rfl (lv_at hl 0 rfl) ?_
      refine lv_iload_n hx hb dl_27 rfl (lv_at hl 3 rfl) ?_
      refine va_sld hx hb hX hbl (A := fun q : Nat => s.heap.size ≤ q) (Nat.not_le.mpr hbl) hS (vp_in_nI (by omega) (by omega)) dl_28 ?_
      refine lv_bipush (v := 31) hx hb dl_29 (by decide) ?_
      refine lv_iand hx hb dl_31 ?_
      obtain ⟨w, hw, ew⟩ := an_31 (xs (nI (5 * u)).toNatClampNeg)
      rw [ew]
      by_cases hw26 : w < 26
      · obtain rfl | rfl | rfl | rfl | rfl | rfl | rfl | rfl | rfl | rfl | rfl | rfl | rfl | rfl | rfl | rfl | rfl | rfl | rfl | rfl | rfl | rfl | rfl | rfl | rfl | rfl : w = 0 ∨ w = 1 ∨ w = 2 ∨ w = 3 ∨ w = 4 ∨ w = 5 ∨ w = 6 ∨ w = 7 ∨ w = 8 ∨ w = 9 ∨ w = 10 ∨ w = 11 ∨ w = 12 ∨ w = 13 ∨ w = 14 ∨ w = 15 ∨ w = 16 ∨ w = 17 ∨ w = 18 ∨ w = 19 ∨ w = 20 ∨ w = 21 ∨ w = 22 ∨ w = 23 ∨ w = 24 ∨ w = 25 := by omega
        · exact lv_tableIn (off := 120) (tgt := 152) hx hb dl_32 (by decide) (by decide) (by decide) (by decide) (q_c0 h hu hF hi hL kk H locs ls hP hS hl hst)
        · exact lv_tableIn (off := 143) (tgt := 175) hx hb dl_32 (by decide) (by decide) (by decide) (by decide) (q_c1 h hu hF hi hL kk H locs ls hP hS hl hst)
        · exact lv_tableIn (off := 196) (tgt := 228) hx hb dl_32 (by decide) (by decide) (by decide) (by decide) (q_c2 h hu hF hi hL kk H locs ls hP hS hl hst)
        · exact lv_tableIn (off := 229) (tgt := 261) hx hb dl_32 (by decide) (by decide) (by decide) (by decide) (q_c3 h hu hF hi hL kk H locs ls hP hS hl hst)
        · exact lv_tableIn (off := 272) (tgt := 304) hx hb dl_32 (by decide) (by decide) (by decide) (by decide) (q_c4 h hu hF hi hL kk H locs ls hP hS hl hst)
        · exact lv_tableIn (off := 315) (tgt := 347) hx hb dl_32 (by decide) (by decide) (by decide) (by decide) (q_c5 h hu hF hi hL kk H locs ls hP hS hl hst)
        · exact lv_tableIn (off := 358) (tgt := 390) hx hb dl_32 (by decide) (by decide) (by decide) (by decide) (q_c6 h hu hF hi hL kk H locs ls hP hS hl hst)
        · exact lv_tableIn (off := 391) (tgt := 423) hx hb dl_32 (by decide) (by decide) (by decide) (by decide) (q_c7 h hu hF hi hL kk H locs ls hP hS hl hst)
        · exact lv_tableIn (off := 414) (tgt := 446) hx hb dl_32 (by decide) (by decide) (by decide) (by decide) (q_c8 h hu hF hi hL kk H locs ls hP hS hl hst)
        · exact lv_tableIn (off := 427) (tgt := 459) hx hb dl_32 (by decide) (by decide) (by decide) (by decide) (q_c9 h hu hF hi hL kk H locs ls hP hS hl hst)
        · exact lv_tableIn (off := 440) (tgt := 472) hx hb dl_32 (by decide) (by decide) (by decide) (by decide) (q_c10 h hu hF hi hL kk H locs ls hP hS hl hst)
        · exact lv_tableIn (off := 493) (tgt := 525) hx hb dl_32 (by decide) (by decide) (by decide) (by decide) (q_c11 h hu hF hi hL kk H locs ls hP hS hl hst)
        · exact lv_tableIn (off := 536) (tgt := 568) hx hb dl_32 (by decide) (by decide) (by decide) (by decide) (q_c12 h hu hF hi hL kk H locs ls hP hS hl hst)
        · exact lv_tableIn (off := 569) (tgt := 601) hx hb dl_32 (by decide) (by decide) (by decide) (by decide) (q_c13 h hu hF hi hL kk H locs ls hP hS hl hst)
        · exact lv_tableIn (off := 612) (tgt := 644) hx hb dl_32 (by decide) (by decide) (by decide) (by decide) (q_c14 h hu hF hi hL kk H locs ls hP hS hl hst)
        · exact lv_tableIn (off := 625) (tgt := 657) hx hb dl_32 (by decide) (by decide) (by decide) (by decide) (q_c15 h hu hF hi hL kk H locs ls hP hS hl hst)
        · exact lv_tableIn (off := 638) (tgt := 670) hx hb dl_32 (by decide) (by decide) (by decide) (by decide) (q_c16 h hu hF hi hL kk H locs ls hP hS hl hst)
        · exact lv_tableIn (off := 671) (tgt := 703) hx hb dl_32 (by decide) (by decide) (by decide) (by decide) (q_c17 h hu hF hi hL kk H locs ls hP hS hl hst)
        · exact lv_tableIn (off := 704) (tgt := 736) hx hb dl_32 (by decide) (by decide) (by decide) (by decide) (q_c18 h hu hF hi hL kk H locs ls hP hS hl hst)
        · exact lv_tableIn (off := 717) (tgt := 749) hx hb dl_32 (by decide) (by decide) (by decide) (by decide) (q_c19 h hu hF hi hL kk H locs ls hP hS hl hst)
        · exact lv_tableIn (off := 750) (tgt := 782) hx hb dl_32 (by decide) (by decide) (by decide) (by decide) (q_c20 h hu hF hi hL kk H locs ls hP hS hl hst)
        · exact lv_tableIn (off := 763) (tgt := 795) hx hb dl_32 (by decide) (by decide) (by decide) (by decide) (q_c21 h hu hF hi hL kk H locs ls hP hS hl hst)
        · exact lv_tableIn (off := 776) (tgt := 808) hx hb dl_32 (by decide) (by decide) (by decide) (by decide) (q_c22 h hu hF hi hL kk H locs ls hP hS hl hst)
        · exact lv_tableIn (off := 809) (tgt := 841) hx hb dl_32 (by decide) (by decide) (by decide) (by decide) (q_c23 h hu hF hi hL kk H locs ls hP hS hl hst)
        · exact lv_tableIn (off := 842) (tgt := 874) hx hb dl_32 (by decide) (by decide) (by decide) (by decide) (q_c24 h hu hF hi hL kk H locs ls hP hS hl hst)
        · exact lv_tableIn (off := 855) (tgt := 887) hx hb dl_32 (by decide) (by decide) (by decide) (by decide) (q_c25 h hu hF hi hL kk H locs ls hP hS hl hst)
      · refine lv_tableOut (tgt := 900) hx hb dl_32 (Or.inr (by rw [nI_toInt (by omega)]; omega)) (by decide) ?_
        exact q_next h (kk n V hL.up) H locs ls hP hS hl hst
end LAW
