/-! base 6: call sites, fields that are written (printed by wip/whole/sites.py) -/
section MORE
variable {PL : List (Nat × Nat)} {y z : mi_T} {pc pc2 n idx : Nat} {lo : List (Option Vl_)} {st : List Vl_} {V V2 : Mm_} {Φ : Ph_}
theorem r_getIe {g r idx ci k : Nat} {x : Int32} (he : V g r k = x) (hd : dc_at y pc (.getfield idx) 3) (hf : fl_at y.1.cls idx ci k) (hr : r < 46) (hc : k_cls r = some ci) (hk0 : (k_fld g r)[k]? = some none) (h2 : pc + 3 = pc2) (kk : Rc_ PL y pc2 lo (vI x :: st) V Φ) : Rc_ PL y pc lo (vR g r :: st) V Φ := r_getI hd hf hr hc hk0 h2 (by rw [he]; exact kk)
theorem r_ialde {g r j : Nat} {i x : Int32} (he : V g r j = x) (hd : dc_at y pc .iaload 1) (hr : r < 46) (hc : k_cls r = none) (hz : k_isZ r = false) (hi : i = nI j) (hj : j < k_len r) (h2 : pc + 1 = pc2) (kk : Rc_ PL y pc2 lo (vI x :: st) V Φ) : Rc_ PL y pc lo (vI i :: vR g r :: st) V Φ := r_iald hd hr hc hz hi hj h2 (by rw [he]; exact kk)
theorem r_zalde {g r j : Nat} {i x : Int32} (he : V g r j = x) (hd : dc_at y pc .baload 1) (hr : r < 46) (hc : k_cls r = none) (hz : k_isZ r = true) (hi : i = nI j) (hj : j < k_len r) (h2 : pc + 1 = pc2) (kk : Rc_ PL y pc2 lo (vI x :: st) V Φ) : Rc_ PL y pc lo (vI i :: vR g r :: st) V Φ := r_zald hd hr hc hz hi hj h2 (by rw [he]; exact kk)
/-- a value on the stack, under another name -/
theorem r_as {x x' : Int32} (e : x = x') (k : Rc_ PL y pc lo (vI x' :: st) V Φ) : Rc_ PL y pc lo (vI x :: st) V Φ := by rw [e]; exact k
/-- Math.min, Math.max, System.arraycopy: their sites -/
def sm_at (y : mi_T) (idx : Nat) : Prop := gd_T (.methodLink y.1.cls idx Lib.Math.min.name) ∧ 1 ≤ y.2.2.2.2.1 ∧ 21 ≤ y.2.2.2.2.2
def sx_at (y : mi_T) (idx : Nat) : Prop := gd_T (.methodLink y.1.cls idx Lib.Math.max.name) ∧ 1 ≤ y.2.2.2.2.1 ∧ 21 ≤ y.2.2.2.2.2
def sp_at (y : mi_T) (idx : Nat) : Prop := gd_T (.methodLink y.1.cls idx arraycopyName) ∧ 1 ≤ y.2.2.2.2.1 ∧ 26 ≤ y.2.2.2.2.2
theorem tw_minC : gd_T (.code Lib.Math.min.name Lib.Math.min.code 2 (some .int)) := ⟨List.mem_of_getElem? (i := 427) (by decide +kernel), by decide +kernel⟩
theorem tw_maxC : gd_T (.code Lib.Math.max.name Lib.Math.max.code 2 (some .int)) := ⟨List.mem_of_getElem? (i := 438) (by decide +kernel), by decide +kernel⟩
theorem r_mn {a b : Int32} (hd : dc_at y pc (.invokestatic idx) 3) (hs : sm_at y idx) (hl8 : st.length ≤ 8) (h2 : pc + 3 = pc2) (kk : Rc_ PL y pc2 lo (vI (if b < a then b else a) :: st) V Φ) : Rc_ PL y pc lo (vI b :: vI a :: st) V Φ := r_min hd hs.1 tw_426 tw_47 tw_minC hs.2 hl8 h2 kk
theorem r_mx {a b : Int32} (hd : dc_at y pc (.invokestatic idx) 3) (hs : sx_at y idx) (hl8 : st.length ≤ 8) (h2 : pc + 3 = pc2) (kk : Rc_ PL y pc2 lo (vI (if a < b then b else a) :: st) V Φ) : Rc_ PL y pc lo (vI b :: vI a :: st) V Φ := r_max hd hs.1 tw_437 tw_47 tw_maxC hs.2 hl8 h2 kk
theorem r_cpy {g0 r0 g r j : Nat} (hd : dc_at y pc (.invokestatic idx) 3) (hs : sp_at y idx) (hr0 : r0 < 46) (hr : r < 46) (hc0 : k_cls r0 = none) (hc : k_cls r = none) (hz0 : k_isZ r0 = false) (hz : k_isZ r = false) (hj1 : j ≤ k_len r0) (hj2 : j ≤ k_len r) (hl8 : st.length ≤ 8) (h2 : pc + 3 = pc2) (kk : Rc_ PL y pc2 lo st (a_set V g r (va_cpy (V g0 r0) (V g r) 0 0 j)) Φ) : Rc_ PL y pc lo (vI (nI j) :: vI (nI 0) :: vR g r :: vI (nI 0) :: vR g0 r0 :: st) V Φ := r_copy hd hs.1 tw_632 tw_631 tw_50 hr0 hr hc0 hc hz0 hz rfl hj1 hj2 hs.2 hl8 h2 kk
end MORE
theorem st_X0_size_19 : sm_at mX0_size 19 := ⟨tw_564, by decide +kernel, by decide +kernel⟩
theorem st_X0_clear_25 : ss_at mX0_clear 25 mJ7_fill_53178 2 := ⟨tw_276, ms_J7_fill_53178, ⟨by decide +kernel, by decide +kernel⟩⟩
theorem st_X0_copyFrom_31 : sp_at mX0_copyFrom 31 := ⟨tw_647, by decide +kernel, by decide +kernel⟩
theorem st_X1_joins_24 : sn_at mX1_joins 24 mX7_pair 2 := ⟨⟨"IntervalRouting", by simp only [nw_L]; decide +kernel⟩, ms_X7_pair, ⟨by decide +kernel, by decide +kernel⟩⟩
theorem st_X1_isUp_24 : sn_at mX1_isUp 24 mX7_pair 2 := ⟨⟨"IntervalRouting", by simp only [nw_L]; decide +kernel⟩, ms_X7_pair, ⟨by decide +kernel, by decide +kernel⟩⟩
theorem st_X1_insert_28 : sv_at mX1_insert 28 mX1_putBounds 4 := ⟨tw_331, mv_X1_putBounds, ⟨by decide +kernel, by decide +kernel⟩⟩
theorem st_X1_insert_32 : sv_at mX1_insert 32 mX1_putCost 3 := ⟨tw_335, mv_X1_putCost, ⟨by decide +kernel, by decide +kernel⟩⟩
theorem st_X1_insert_36 : sv_at mX1_insert 36 mX1_putUp 3 := ⟨tw_339, mv_X1_putUp, ⟨by decide +kernel, by decide +kernel⟩⟩
theorem st_X1_delete_28 : sv_at mX1_delete 28 mX1_putBounds 4 := ⟨tw_331, mv_X1_putBounds, ⟨by decide +kernel, by decide +kernel⟩⟩
theorem st_X1_delete_32 : sv_at mX1_delete 32 mX1_putCost 3 := ⟨tw_335, mv_X1_putCost, ⟨by decide +kernel, by decide +kernel⟩⟩
theorem st_X1_delete_36 : sv_at mX1_delete 36 mX1_putUp 3 := ⟨tw_339, mv_X1_putUp, ⟨by decide +kernel, by decide +kernel⟩⟩
theorem st_X1_putBounds_24 : sn_at mX1_putBounds 24 mX7_pair 2 := ⟨⟨"IntervalRouting", by simp only [nw_L]; decide +kernel⟩, ms_X7_pair, ⟨by decide +kernel, by decide +kernel⟩⟩
theorem st_X1_putCost_24 : sn_at mX1_putCost 24 mX7_pair 2 := ⟨⟨"IntervalRouting", by simp only [nw_L]; decide +kernel⟩, ms_X7_pair, ⟨by decide +kernel, by decide +kernel⟩⟩
theorem st_X1_putUp_24 : sn_at mX1_putUp 24 mX7_pair 2 := ⟨⟨"IntervalRouting", by simp only [nw_L]; decide +kernel⟩, ms_X7_pair, ⟨by decide +kernel, by decide +kernel⟩⟩
theorem st_X1_clear_43 : ss_at mX1_clear 43 mJ7_fill_53178 2 := ⟨tw_259, ms_J7_fill_53178, ⟨by decide +kernel, by decide +kernel⟩⟩
theorem st_X1_copyFrom_49 : sp_at mX1_copyFrom 49 := ⟨tw_630, by decide +kernel, by decide +kernel⟩
theorem st_X2_startAnew_53 : sv_at mX2_startAnew 53 mX1_clear 0 := ⟨tw_255, mv_X1_clear, ⟨by decide +kernel, by decide +kernel⟩⟩
theorem st_X2_startAnew_56 : sv_at mX2_startAnew 56 mX4_clear 0 := ⟨tw_262, mv_X4_clear, ⟨by decide +kernel, by decide +kernel⟩⟩
theorem st_X2_startAnew_57 : sv_at mX2_startAnew 57 mX5_clear 0 := ⟨tw_267, mv_X5_clear, ⟨by decide +kernel, by decide +kernel⟩⟩
theorem st_X2_startAnew_58 : sv_at mX2_startAnew 58 mX0_clear 0 := ⟨tw_272, mv_X0_clear, ⟨by decide +kernel, by decide +kernel⟩⟩
theorem st_X2_startAnew_59 : ss_at mX2_startAnew 59 mJ7_fill_53178 2 := ⟨tw_277, ms_J7_fill_53178, ⟨by decide +kernel, by decide +kernel⟩⟩
theorem st_X2_copyFrom_65 : sv_at mX2_copyFrom 65 mX1_copyFrom 1 := ⟨tw_626, mv_X1_copyFrom, ⟨by decide +kernel, by decide +kernel⟩⟩
theorem st_X2_copyFrom_69 : sv_at mX2_copyFrom 69 mX4_copyFrom 1 := ⟨tw_633, mv_X4_copyFrom, ⟨by decide +kernel, by decide +kernel⟩⟩
theorem st_X2_copyFrom_72 : sv_at mX2_copyFrom 72 mX5_copyFrom 1 := ⟨tw_638, mv_X5_copyFrom, ⟨by decide +kernel, by decide +kernel⟩⟩
theorem st_X2_copyFrom_75 : sv_at mX2_copyFrom 75 mX0_copyFrom 1 := ⟨tw_643, mv_X0_copyFrom, ⟨by decide +kernel, by decide +kernel⟩⟩
theorem st_X2_copyFrom_78 : sp_at mX2_copyFrom 78 := ⟨tw_648, by decide +kernel, by decide +kernel⟩
theorem st_X2_isUsable_84 : sv_at mX2_isUsable 84 mX1_isUp 2 := ⟨tw_512, mv_X1_isUp, ⟨by decide +kernel, by decide +kernel⟩⟩
theorem st_X2_isUsable_88 : sn_at mX2_isUsable 88 mX7_slot 3 := ⟨⟨"IntervalRouting", by simp only [nw_L]; decide +kernel⟩, ms_X7_slot, ⟨by decide +kernel, by decide +kernel⟩⟩
theorem st_X2_isUsable_92 : sv_at mX2_isUsable 92 mX4_isOpen 3 := ⟨tw_514, mv_X4_isOpen, ⟨by decide +kernel, by decide +kernel⟩⟩
theorem st_X2_isDominated_96 : sv_at mX2_isDominated 96 mX2_isUsable 4 := ⟨tw_522, mv_X2_isUsable, ⟨by decide +kernel, by decide +kernel⟩⟩
theorem st_X2_isDominated_88 : sn_at mX2_isDominated 88 mX7_slot 3 := ⟨⟨"IntervalRouting", by simp only [nw_L]; decide +kernel⟩, ms_X7_slot, ⟨by decide +kernel, by decide +kernel⟩⟩
theorem st_X2_isDominated_100 : sv_at mX2_isDominated 100 mX4_dominates 2 := ⟨tw_523, mv_X4_dominates, ⟨by decide +kernel, by decide +kernel⟩⟩
theorem st_X3_take_45 : sv_at mX3_take 45 mX3_findNeighbours 2 := ⟨tw_393, mv_X3_findNeighbours, ⟨by decide +kernel, by decide +kernel⟩⟩
theorem st_X3_take_49 : sv_at mX3_take 49 mX3_look 4 := ⟨tw_401, mv_X3_look, ⟨by decide +kernel, by decide +kernel⟩⟩
theorem st_X3_takeOne_45 : sv_at mX3_takeOne 45 mX3_findNeighbours 2 := ⟨tw_393, mv_X3_findNeighbours, ⟨by decide +kernel, by decide +kernel⟩⟩
theorem st_X3_takeOne_49 : sv_at mX3_takeOne 49 mX3_look 4 := ⟨tw_401, mv_X3_look, ⟨by decide +kernel, by decide +kernel⟩⟩
theorem st_X3_findNeighbours_60 : sv_at mX3_findNeighbours 60 mX1_isUp 2 := ⟨tw_397, mv_X1_isUp, ⟨by decide +kernel, by decide +kernel⟩⟩
theorem st_X3_look_66 : sn_at mX3_look 66 mX7_pair 2 := ⟨⟨"IntervalRouting", by simp only [nw_L]; decide +kernel⟩, ms_X7_pair, ⟨by decide +kernel, by decide +kernel⟩⟩
theorem st_X3_look_70 : sv_at mX3_look 70 mX3_gather 4 := ⟨tw_406, mv_X3_gather, ⟨by decide +kernel, by decide +kernel⟩⟩
theorem st_X3_look_74 : sv_at mX3_look 74 mX3_putDistance 2 := ⟨tw_421, mv_X3_putDistance, ⟨by decide +kernel, by decide +kernel⟩⟩
theorem st_X3_look_78 : sv_at mX3_look 78 mX3_rankAll 1 := ⟨tw_428, mv_X3_rankAll, ⟨by decide +kernel, by decide +kernel⟩⟩
theorem st_X3_look_82 : sv_at mX3_look 82 mX3_choose 0 := ⟨tw_439, mv_X3_choose, ⟨by decide +kernel, by decide +kernel⟩⟩
theorem st_X3_gather_89 : sn_at mX3_gather 89 mX7_slot 3 := ⟨⟨"IntervalRouting", by simp only [nw_L]; decide +kernel⟩, ms_X7_slot, ⟨by decide +kernel, by decide +kernel⟩⟩
theorem st_X3_gather_100 : sv_at mX3_gather 100 mX4_isOpen 3 := ⟨tw_413, mv_X4_isOpen, ⟨by decide +kernel, by decide +kernel⟩⟩
theorem st_X3_putDistance_108 : sm_at mX3_putDistance 108 := ⟨tw_425, by decide +kernel, by decide +kernel⟩
theorem st_X3_rankAll_113 : sv_at mX3_rankAll 113 mX3_regret 1 := ⟨tw_432, mv_X3_regret, ⟨by decide +kernel, by decide +kernel⟩⟩
theorem st_X3_choose_117 : sv_at mX3_choose 117 mX3_isBetter 2 := ⟨tw_443, mv_X3_isBetter, ⟨by decide +kernel, by decide +kernel⟩⟩
theorem st_X3_regret_120 : sx_at mX3_regret 120 := ⟨tw_436, by decide +kernel, by decide +kernel⟩
theorem st_X3_walk_66 : sn_at mX3_walk 66 mX7_pair 2 := ⟨⟨"IntervalRouting", by simp only [nw_L]; decide +kernel⟩, ms_X7_pair, ⟨by decide +kernel, by decide +kernel⟩⟩
theorem st_X3_countLoops_123 : sv_at mX3_countLoops 123 mX3_walk 2 := ⟨tw_617, mv_X3_walk, ⟨by decide +kernel, by decide +kernel⟩⟩
theorem st_X4_isOpen_27 : sv_at mX4_isOpen 27 mX4_has 1 := ⟨tw_417, mv_X4_has, ⟨by decide +kernel, by decide +kernel⟩⟩
theorem st_X4_receive_31 : sv_at mX4_receive 31 mX4_countGrowth 2 := ⟨tw_483, mv_X4_countGrowth, ⟨by decide +kernel, by decide +kernel⟩⟩
theorem st_X4_clear_35 : ss_at mX4_clear 35 mJ7_fill_53178 2 := ⟨tw_266, ms_J7_fill_53178, ⟨by decide +kernel, by decide +kernel⟩⟩
theorem st_X4_copyFrom_41 : sp_at mX4_copyFrom 41 := ⟨tw_637, by decide +kernel, by decide +kernel⟩
theorem st_X5_differs_18 : sn_at mX5_differs 18 mX7_pair 2 := ⟨⟨"IntervalRouting", by simp only [nw_L]; decide +kernel⟩, ms_X7_pair, ⟨by decide +kernel, by decide +kernel⟩⟩
theorem st_X5_keep_18 : sn_at mX5_keep 18 mX7_pair 2 := ⟨⟨"IntervalRouting", by simp only [nw_L]; decide +kernel⟩, ms_X7_pair, ⟨by decide +kernel, by decide +kernel⟩⟩
theorem st_X5_clear_26 : ss_at mX5_clear 26 mJ7_fill_53178 2 := ⟨tw_271, ms_J7_fill_53178, ⟨by decide +kernel, by decide +kernel⟩⟩
theorem st_X5_copyFrom_32 : sp_at mX5_copyFrom 32 := ⟨tw_642, by decide +kernel, by decide +kernel⟩
theorem st_X6_measure_16 : sn_at mX6_measure 16 mX7_pair 2 := ⟨⟨"IntervalRouting", by simp only [nw_L]; decide +kernel⟩, ms_X7_pair, ⟨by decide +kernel, by decide +kernel⟩⟩
theorem st_X6_measure_20 : sv_at mX6_measure 20 mX1_isUp 2 := ⟨tw_582, mv_X1_isUp, ⟨by decide +kernel, by decide +kernel⟩⟩
theorem st_X6_measure_29 : sv_at mX6_measure 29 mX6_shorten 2 := ⟨tw_584, mv_X6_shorten, ⟨by decide +kernel, by decide +kernel⟩⟩
theorem st_X6_shorten_16 : sn_at mX6_shorten 16 mX7_pair 2 := ⟨⟨"IntervalRouting", by simp only [nw_L]; decide +kernel⟩, ms_X7_pair, ⟨by decide +kernel, by decide +kernel⟩⟩
theorem st_X6_shorten_33 : sm_at mX6_shorten 33 := ⟨tw_588, by decide +kernel, by decide +kernel⟩
theorem st_X6_countPairs_16 : sn_at mX6_countPairs 16 mX7_pair 2 := ⟨⟨"IntervalRouting", by simp only [nw_L]; decide +kernel⟩, ms_X7_pair, ⟨by decide +kernel, by decide +kernel⟩⟩
theorem st_X6_countPairs_38 : sv_at mX6_countPairs 38 mX6_exists 1 := ⟨tw_657, mv_X6_exists, ⟨by decide +kernel, by decide +kernel⟩⟩
theorem st_X7_reset_56 : sv_at mX7_reset 56 mX2_startAnew 1 := ⟨tw_251, mv_X2_startAnew, ⟨by decide +kernel, by decide +kernel⟩⟩
theorem st_X7_addLink_64 : sv_at mX7_addLink 64 mX7_isPair 2 := ⟨tw_312, mv_X7_isPair, ⟨by decide +kernel, by decide +kernel⟩⟩
theorem st_X7_addLink_72 : sv_at mX7_addLink 72 mX1_joins 2 := ⟨tw_320, mv_X1_joins, ⟨by decide +kernel, by decide +kernel⟩⟩
theorem st_X7_addLink_80 : sv_at mX7_addLink 80 mX1_insert 4 := ⟨tw_327, mv_X1_insert, ⟨by decide +kernel, by decide +kernel⟩⟩
theorem st_X7_removeLink_64 : sv_at mX7_removeLink 64 mX7_isPair 2 := ⟨tw_312, mv_X7_isPair, ⟨by decide +kernel, by decide +kernel⟩⟩
theorem st_X7_removeLink_72 : sv_at mX7_removeLink 72 mX1_joins 2 := ⟨tw_320, mv_X1_joins, ⟨by decide +kernel, by decide +kernel⟩⟩
theorem st_X7_removeLink_84 : sv_at mX7_removeLink 84 mX1_delete 2 := ⟨tw_347, mv_X1_delete, ⟨by decide +kernel, by decide +kernel⟩⟩
theorem st_X7_setCost_64 : sv_at mX7_setCost 64 mX7_isPair 2 := ⟨tw_312, mv_X7_isPair, ⟨by decide +kernel, by decide +kernel⟩⟩
theorem st_X7_setCost_72 : sv_at mX7_setCost 72 mX1_joins 2 := ⟨tw_320, mv_X1_joins, ⟨by decide +kernel, by decide +kernel⟩⟩
theorem st_X7_setCost_88 : ss_at mX7_setCost 88 mX7_pair 2 := ⟨tw_355, ms_X7_pair, ⟨by decide +kernel, by decide +kernel⟩⟩
theorem st_X7_setCost_101 : sv_at mX7_setCost 101 mX1_putCost 3 := ⟨tw_356, mv_X1_putCost, ⟨by decide +kernel, by decide +kernel⟩⟩
theorem st_X7_setUp_64 : sv_at mX7_setUp 64 mX7_isPair 2 := ⟨tw_312, mv_X7_isPair, ⟨by decide +kernel, by decide +kernel⟩⟩
theorem st_X7_setUp_105 : ss_at mX7_setUp 105 mX7_isBetween 3 := ⟨tw_361, ms_X7_isBetween, ⟨by decide +kernel, by decide +kernel⟩⟩
theorem st_X7_setUp_72 : sv_at mX7_setUp 72 mX1_joins 2 := ⟨tw_320, mv_X1_joins, ⟨by decide +kernel, by decide +kernel⟩⟩
theorem st_X7_setUp_88 : ss_at mX7_setUp 88 mX7_pair 2 := ⟨tw_355, ms_X7_pair, ⟨by decide +kernel, by decide +kernel⟩⟩
theorem st_X7_setUp_112 : sv_at mX7_setUp 112 mX1_putUp 3 := ⟨tw_364, mv_X1_putUp, ⟨by decide +kernel, by decide +kernel⟩⟩
theorem st_X7_link_64 : sv_at mX7_link 64 mX7_isPair 2 := ⟨tw_312, mv_X7_isPair, ⟨by decide +kernel, by decide +kernel⟩⟩
theorem st_X7_link_105 : ss_at mX7_link 105 mX7_isBetween 3 := ⟨tw_361, ms_X7_isBetween, ⟨by decide +kernel, by decide +kernel⟩⟩
theorem st_X7_link_72 : sv_at mX7_link 72 mX1_joins 2 := ⟨tw_320, mv_X1_joins, ⟨by decide +kernel, by decide +kernel⟩⟩
theorem st_X7_link_88 : ss_at mX7_link 88 mX7_pair 2 := ⟨tw_355, ms_X7_pair, ⟨by decide +kernel, by decide +kernel⟩⟩
theorem st_X7_set_115 : ss_at mX7_set 115 mX7_isSetting 1 := ⟨tw_373, ms_X7_isSetting, ⟨by decide +kernel, by decide +kernel⟩⟩
theorem st_X7_set_105 : ss_at mX7_set 105 mX7_isBetween 3 := ⟨tw_361, ms_X7_isBetween, ⟨by decide +kernel, by decide +kernel⟩⟩
theorem st_X7_run_105 : ss_at mX7_run 105 mX7_isBetween 3 := ⟨tw_361, ms_X7_isBetween, ⟨by decide +kernel, by decide +kernel⟩⟩
theorem st_X7_run_129 : sv_at mX7_run 129 mX7_makeTick 1 := ⟨tw_385, mv_X7_makeTick, ⟨by decide +kernel, by decide +kernel⟩⟩
theorem st_X7_entry_64 : sv_at mX7_entry 64 mX7_isPair 2 := ⟨tw_312, mv_X7_isPair, ⟨by decide +kernel, by decide +kernel⟩⟩
theorem st_X7_entry_105 : ss_at mX7_entry 105 mX7_isBetween 3 := ⟨tw_361, ms_X7_isBetween, ⟨by decide +kernel, by decide +kernel⟩⟩
theorem st_X7_entry_136 : ss_at mX7_entry 136 mX7_slot 3 := ⟨tw_478, ms_X7_slot, ⟨by decide +kernel, by decide +kernel⟩⟩
theorem st_X7_entry_144 : sv_at mX7_entry 144 mX4_has 1 := ⟨tw_507, mv_X4_has, ⟨by decide +kernel, by decide +kernel⟩⟩
theorem st_X7_entry_160 : sv_at mX7_entry 160 mX2_isUsable 4 := ⟨tw_508, mv_X2_isUsable, ⟨by decide +kernel, by decide +kernel⟩⟩
theorem st_X7_entry_164 : ss_at mX7_entry 164 mX7_asNumber 1 := ⟨tw_515, ms_X7_asNumber, ⟨by decide +kernel, by decide +kernel⟩⟩
theorem st_X7_entry_168 : sv_at mX7_entry 168 mX2_isDominated 4 := ⟨tw_518, mv_X2_isDominated, ⟨by decide +kernel, by decide +kernel⟩⟩
theorem st_X7_distance_171 : sv_at mX7_distance 171 mX7_isNode 1 := ⟨tw_316, mv_X7_isNode, ⟨by decide +kernel, by decide +kernel⟩⟩
theorem st_X7_distance_105 : ss_at mX7_distance 105 mX7_isBetween 3 := ⟨tw_361, ms_X7_isBetween, ⟨by decide +kernel, by decide +kernel⟩⟩
theorem st_X7_distance_174 : sv_at mX7_distance 174 mX3_takeOne 4 := ⟨tw_531, mv_X3_takeOne, ⟨by decide +kernel, by decide +kernel⟩⟩
theorem st_X7_distance_88 : ss_at mX7_distance 88 mX7_pair 2 := ⟨tw_355, ms_X7_pair, ⟨by decide +kernel, by decide +kernel⟩⟩
theorem st_X7_distance_178 : sv_at mX7_distance 178 mX3_reaches 1 := ⟨tw_473, mv_X3_reaches, ⟨by decide +kernel, by decide +kernel⟩⟩
theorem st_X7_choice_64 : sv_at mX7_choice 64 mX7_isPair 2 := ⟨tw_312, mv_X7_isPair, ⟨by decide +kernel, by decide +kernel⟩⟩
theorem st_X7_choice_174 : sv_at mX7_choice 174 mX3_takeOne 4 := ⟨tw_531, mv_X3_takeOne, ⟨by decide +kernel, by decide +kernel⟩⟩
theorem st_X7_choice_88 : ss_at mX7_choice 88 mX7_pair 2 := ⟨tw_355, ms_X7_pair, ⟨by decide +kernel, by decide +kernel⟩⟩
theorem st_X7_entries_64 : sv_at mX7_entries 64 mX7_isPair 2 := ⟨tw_312, mv_X7_isPair, ⟨by decide +kernel, by decide +kernel⟩⟩
theorem st_X7_entries_105 : ss_at mX7_entries 105 mX7_isBetween 3 := ⟨tw_361, ms_X7_isBetween, ⟨by decide +kernel, by decide +kernel⟩⟩
theorem st_X7_entries_186 : sv_at mX7_entries 186 mX7_counts 4 := ⟨tw_543, mv_X7_counts, ⟨by decide +kernel, by decide +kernel⟩⟩
theorem st_X7_meanWidthBits_189 : sv_at mX7_meanWidthBits 189 mX3_take 2 := ⟨tw_389, mv_X3_take, ⟨by decide +kernel, by decide +kernel⟩⟩
theorem st_X7_meanWidthBits_88 : ss_at mX7_meanWidthBits 88 mX7_pair 2 := ⟨tw_355, ms_X7_pair, ⟨by decide +kernel, by decide +kernel⟩⟩
theorem st_X7_meanWidthBits_178 : sv_at mX7_meanWidthBits 178 mX3_reaches 1 := ⟨tw_473, mv_X3_reaches, ⟨by decide +kernel, by decide +kernel⟩⟩
theorem st_X7_meanWidthBits_193 : ss_at mX7_meanWidthBits 193 mX7_bitsOf 1 := ⟨tw_551, ms_X7_bitsOf, ⟨by decide +kernel, by decide +kernel⟩⟩
theorem st_X7_journalSize_201 : sv_at mX7_journalSize 201 mX0_size 0 := ⟨tw_560, mv_X0_size, ⟨by decide +kernel, by decide +kernel⟩⟩
theorem st_X7_journal_105 : ss_at mX7_journal 105 mX7_isBetween 3 := ⟨tw_361, ms_X7_isBetween, ⟨by decide +kernel, by decide +kernel⟩⟩
theorem st_X7_journal_201 : sv_at mX7_journal 201 mX0_size 0 := ⟨tw_560, mv_X0_size, ⟨by decide +kernel, by decide +kernel⟩⟩
theorem st_X7_journal_207 : sv_at mX7_journal 207 mX0_value 2 := ⟨tw_569, mv_X0_value, ⟨by decide +kernel, by decide +kernel⟩⟩
theorem st_X7_trueDistance_171 : sv_at mX7_trueDistance 171 mX7_isNode 1 := ⟨tw_316, mv_X7_isNode, ⟨by decide +kernel, by decide +kernel⟩⟩
theorem st_X7_trueDistance_210 : sv_at mX7_trueDistance 210 mX6_measure 2 := ⟨tw_577, mv_X6_measure, ⟨by decide +kernel, by decide +kernel⟩⟩
theorem st_X7_trueDistance_88 : ss_at mX7_trueDistance 88 mX7_pair 2 := ⟨tw_355, ms_X7_pair, ⟨by decide +kernel, by decide +kernel⟩⟩
theorem st_X7_trueDistance_214 : sv_at mX7_trueDistance 214 mX6_exists 1 := ⟨tw_589, mv_X6_exists, ⟨by decide +kernel, by decide +kernel⟩⟩
theorem st_X7_wrongPairs_189 : sv_at mX7_wrongPairs 189 mX3_take 2 := ⟨tw_389, mv_X3_take, ⟨by decide +kernel, by decide +kernel⟩⟩
theorem st_X7_wrongPairs_210 : sv_at mX7_wrongPairs 210 mX6_measure 2 := ⟨tw_577, mv_X6_measure, ⟨by decide +kernel, by decide +kernel⟩⟩
theorem st_X7_wrongPairs_88 : ss_at mX7_wrongPairs 88 mX7_pair 2 := ⟨tw_355, ms_X7_pair, ⟨by decide +kernel, by decide +kernel⟩⟩
theorem st_X7_wrongPairs_220 : sv_at mX7_wrongPairs 220 mX7_isWrong 1 := ⟨tw_597, mv_X7_isWrong, ⟨by decide +kernel, by decide +kernel⟩⟩
theorem st_X7_follow_64 : sv_at mX7_follow 64 mX7_isPair 2 := ⟨tw_312, mv_X7_isPair, ⟨by decide +kernel, by decide +kernel⟩⟩
theorem st_X7_follow_189 : sv_at mX7_follow 189 mX3_take 2 := ⟨tw_389, mv_X3_take, ⟨by decide +kernel, by decide +kernel⟩⟩
theorem st_X7_follow_223 : sv_at mX7_follow 223 mX3_walk 2 := ⟨tw_605, mv_X3_walk, ⟨by decide +kernel, by decide +kernel⟩⟩
theorem st_X7_loops_189 : sv_at mX7_loops 189 mX3_take 2 := ⟨tw_389, mv_X3_take, ⟨by decide +kernel, by decide +kernel⟩⟩
theorem st_X7_loops_226 : sv_at mX7_loops 226 mX3_countLoops 1 := ⟨tw_613, mv_X3_countLoops, ⟨by decide +kernel, by decide +kernel⟩⟩
theorem st_X7_settling_230 : sv_at mX7_settling 230 mX2_copyFrom 1 := ⟨tw_622, mv_X2_copyFrom, ⟨by decide +kernel, by decide +kernel⟩⟩
theorem st_X7_settling_129 : sv_at mX7_settling 129 mX7_makeTick 1 := ⟨tw_385, mv_X7_makeTick, ⟨by decide +kernel, by decide +kernel⟩⟩
theorem st_X7_loss_64 : sv_at mX7_loss 64 mX7_isPair 2 := ⟨tw_312, mv_X7_isPair, ⟨by decide +kernel, by decide +kernel⟩⟩
theorem st_X7_loss_72 : sv_at mX7_loss 72 mX1_joins 2 := ⟨tw_320, mv_X1_joins, ⟨by decide +kernel, by decide +kernel⟩⟩
theorem st_X7_loss_210 : sv_at mX7_loss 210 mX6_measure 2 := ⟨tw_577, mv_X6_measure, ⟨by decide +kernel, by decide +kernel⟩⟩
theorem st_X7_loss_234 : sv_at mX7_loss 234 mX6_countPairs 1 := ⟨tw_653, mv_X6_countPairs, ⟨by decide +kernel, by decide +kernel⟩⟩
theorem st_X7_loss_230 : sv_at mX7_loss 230 mX2_copyFrom 1 := ⟨tw_622, mv_X2_copyFrom, ⟨by decide +kernel, by decide +kernel⟩⟩
theorem st_X7_loss_112 : sv_at mX7_loss 112 mX1_putUp 3 := ⟨tw_364, mv_X1_putUp, ⟨by decide +kernel, by decide +kernel⟩⟩
theorem st_X7_recovery_64 : sv_at mX7_recovery 64 mX7_isPair 2 := ⟨tw_312, mv_X7_isPair, ⟨by decide +kernel, by decide +kernel⟩⟩
theorem st_X7_recovery_72 : sv_at mX7_recovery 72 mX1_joins 2 := ⟨tw_320, mv_X1_joins, ⟨by decide +kernel, by decide +kernel⟩⟩
theorem st_X7_recovery_237 : sv_at mX7_recovery 237 mX1_isUp 2 := ⟨tw_468, mv_X1_isUp, ⟨by decide +kernel, by decide +kernel⟩⟩
theorem st_X7_recovery_230 : sv_at mX7_recovery 230 mX2_copyFrom 1 := ⟨tw_622, mv_X2_copyFrom, ⟨by decide +kernel, by decide +kernel⟩⟩
theorem st_X7_recovery_112 : sv_at mX7_recovery 112 mX1_putUp 3 := ⟨tw_364, mv_X1_putUp, ⟨by decide +kernel, by decide +kernel⟩⟩
theorem st_X7_recovery_129 : sv_at mX7_recovery 129 mX7_makeTick 1 := ⟨tw_385, mv_X7_makeTick, ⟨by decide +kernel, by decide +kernel⟩⟩
theorem st_X7_recovery_226 : sv_at mX7_recovery 226 mX3_countLoops 1 := ⟨tw_613, mv_X3_countLoops, ⟨by decide +kernel, by decide +kernel⟩⟩
theorem st_X7_store_230 : sv_at mX7_store 230 mX2_copyFrom 1 := ⟨tw_622, mv_X2_copyFrom, ⟨by decide +kernel, by decide +kernel⟩⟩
theorem st_X7_recall_230 : sv_at mX7_recall 230 mX2_copyFrom 1 := ⟨tw_622, mv_X2_copyFrom, ⟨by decide +kernel, by decide +kernel⟩⟩
theorem st_X7_isPair_171 : sv_at mX7_isPair 171 mX7_isNode 1 := ⟨tw_316, mv_X7_isNode, ⟨by decide +kernel, by decide +kernel⟩⟩
theorem st_X7_isSetting_105 : ss_at mX7_isSetting 105 mX7_isBetween 3 := ⟨tw_361, ms_X7_isBetween, ⟨by decide +kernel, by decide +kernel⟩⟩
theorem st_X7_counts_136 : ss_at mX7_counts 136 mX7_slot 3 := ⟨tw_478, ms_X7_slot, ⟨by decide +kernel, by decide +kernel⟩⟩
theorem st_X7_counts_144 : sv_at mX7_counts 144 mX4_has 1 := ⟨tw_507, mv_X4_has, ⟨by decide +kernel, by decide +kernel⟩⟩
theorem st_X7_counts_160 : sv_at mX7_counts 160 mX2_isUsable 4 := ⟨tw_508, mv_X2_isUsable, ⟨by decide +kernel, by decide +kernel⟩⟩
theorem st_X7_counts_168 : sv_at mX7_counts 168 mX2_isDominated 4 := ⟨tw_518, mv_X2_isDominated, ⟨by decide +kernel, by decide +kernel⟩⟩
theorem st_X7_isWrong_214 : sv_at mX7_isWrong 214 mX6_exists 1 := ⟨tw_589, mv_X6_exists, ⟨by decide +kernel, by decide +kernel⟩⟩
theorem st_X7_isWrong_178 : sv_at mX7_isWrong 178 mX3_reaches 1 := ⟨tw_473, mv_X3_reaches, ⟨by decide +kernel, by decide +kernel⟩⟩
theorem st_X7_isWrong_105 : ss_at mX7_isWrong 105 mX7_isBetween 3 := ⟨tw_361, ms_X7_isBetween, ⟨by decide +kernel, by decide +kernel⟩⟩
theorem st_X7_makeTick_189 : sv_at mX7_makeTick 189 mX3_take 2 := ⟨tw_389, mv_X3_take, ⟨by decide +kernel, by decide +kernel⟩⟩
theorem st_X7_makeTick_242 : sv_at mX7_makeTick 242 mX7_chooseSpeakers 1 := ⟨tw_447, mv_X7_chooseSpeakers, ⟨by decide +kernel, by decide +kernel⟩⟩
theorem st_X7_makeTick_245 : sv_at mX7_makeTick 245 mX7_speak 2 := ⟨tw_464, mv_X7_speak, ⟨by decide +kernel, by decide +kernel⟩⟩
theorem st_X7_makeTick_249 : sv_at mX7_makeTick 249 mX7_noteChanges 1 := ⟨tw_487, mv_X7_noteChanges, ⟨by decide +kernel, by decide +kernel⟩⟩
theorem st_X7_chooseSpeakers_252 : sv_at mX7_chooseSpeakers 252 mX7_isDue 2 := ⟨tw_451, mv_X7_isDue, ⟨by decide +kernel, by decide +kernel⟩⟩
theorem st_X7_chooseSpeakers_260 : sv_at mX7_chooseSpeakers 260 mX5_differs 3 := ⟨tw_455, mv_X5_differs, ⟨by decide +kernel, by decide +kernel⟩⟩
theorem st_X7_chooseSpeakers_266 : sv_at mX7_chooseSpeakers 266 mX5_keep 3 := ⟨tw_460, mv_X5_keep, ⟨by decide +kernel, by decide +kernel⟩⟩
theorem st_X7_speak_237 : sv_at mX7_speak 237 mX1_isUp 2 := ⟨tw_468, mv_X1_isUp, ⟨by decide +kernel, by decide +kernel⟩⟩
theorem st_X7_speak_270 : sv_at mX7_speak 270 mX7_announce 4 := ⟨tw_469, mv_X7_announce, ⟨by decide +kernel, by decide +kernel⟩⟩
theorem st_X7_announce_88 : ss_at mX7_announce 88 mX7_pair 2 := ⟨tw_355, ms_X7_pair, ⟨by decide +kernel, by decide +kernel⟩⟩
theorem st_X7_announce_178 : sv_at mX7_announce 178 mX3_reaches 1 := ⟨tw_473, mv_X3_reaches, ⟨by decide +kernel, by decide +kernel⟩⟩
theorem st_X7_announce_274 : sm_at mX7_announce 274 := ⟨tw_477, by decide +kernel, by decide +kernel⟩
theorem st_X7_announce_136 : ss_at mX7_announce 136 mX7_slot 3 := ⟨tw_478, ms_X7_slot, ⟨by decide +kernel, by decide +kernel⟩⟩
theorem st_X7_announce_279 : sv_at mX7_announce 279 mX4_receive 5 := ⟨tw_479, mv_X4_receive, ⟨by decide +kernel, by decide +kernel⟩⟩
theorem st_X7_noteChanges_88 : ss_at mX7_noteChanges 88 mX7_pair 2 := ⟨tw_355, ms_X7_pair, ⟨by decide +kernel, by decide +kernel⟩⟩
theorem st_X7_noteChanges_286 : sv_at mX7_noteChanges 286 mX0_add 4 := ⟨tw_491, mv_X0_add, ⟨by decide +kernel, by decide +kernel⟩⟩
theorem st_X8_isNode_54 : ss_at mX8_isNode 54 mX8_in 3 := ⟨tw_730, ms_X8_in, ⟨by decide +kernel, by decide +kernel⟩⟩
theorem st_X8_arePair_58 : sv_at mX8_arePair 58 mX8_isNode 1 := ⟨tw_741, mv_X8_isNode, ⟨by decide +kernel, by decide +kernel⟩⟩
theorem st_X8_isLink_62 : ss_at mX8_isLink 62 mX8_linkAt 3 := ⟨tw_749, ms_X8_linkAt, ⟨by decide +kernel, by decide +kernel⟩⟩
theorem st_X8_areNear_66 : sv_at mX8_areNear 66 mX8_isLink 2 := ⟨tw_745, mv_X8_isLink, ⟨by decide +kernel, by decide +kernel⟩⟩
theorem st_X8_areNear_62 : ss_at mX8_areNear 62 mX8_linkAt 3 := ⟨tw_749, ms_X8_linkAt, ⟨by decide +kernel, by decide +kernel⟩⟩
theorem st_X8_sets_62 : ss_at mX8_sets 62 mX8_linkAt 3 := ⟨tw_749, ms_X8_linkAt, ⟨by decide +kernel, by decide +kernel⟩⟩
theorem st_X8_reset_54 : ss_at mX8_reset 54 mX8_in 3 := ⟨tw_730, ms_X8_in, ⟨by decide +kernel, by decide +kernel⟩⟩
theorem st_X8_reset_51 : sv_at mX8_reset 51 mX8_begins 0 := ⟨tw_676, mv_X8_begins, ⟨by decide +kernel, by decide +kernel⟩⟩
theorem st_X8_addLink_74 : sv_at mX8_addLink 74 mX8_arePair 2 := ⟨tw_737, mv_X8_arePair, ⟨by decide +kernel, by decide +kernel⟩⟩
theorem st_X8_addLink_54 : ss_at mX8_addLink 54 mX8_in 3 := ⟨tw_730, ms_X8_in, ⟨by decide +kernel, by decide +kernel⟩⟩
theorem st_X8_addLink_66 : sv_at mX8_addLink 66 mX8_isLink 2 := ⟨tw_745, mv_X8_isLink, ⟨by decide +kernel, by decide +kernel⟩⟩
theorem st_X8_addLink_77 : sv_at mX8_addLink 77 mX8_sets 4 := ⟨tw_752, mv_X8_sets, ⟨by decide +kernel, by decide +kernel⟩⟩
theorem st_X8_removeLink_74 : sv_at mX8_removeLink 74 mX8_arePair 2 := ⟨tw_737, mv_X8_arePair, ⟨by decide +kernel, by decide +kernel⟩⟩
theorem st_X8_removeLink_66 : sv_at mX8_removeLink 66 mX8_isLink 2 := ⟨tw_745, mv_X8_isLink, ⟨by decide +kernel, by decide +kernel⟩⟩
theorem st_X8_removeLink_77 : sv_at mX8_removeLink 77 mX8_sets 4 := ⟨tw_752, mv_X8_sets, ⟨by decide +kernel, by decide +kernel⟩⟩
theorem st_X8_setCost_74 : sv_at mX8_setCost 74 mX8_arePair 2 := ⟨tw_737, mv_X8_arePair, ⟨by decide +kernel, by decide +kernel⟩⟩
theorem st_X8_setCost_54 : ss_at mX8_setCost 54 mX8_in 3 := ⟨tw_730, ms_X8_in, ⟨by decide +kernel, by decide +kernel⟩⟩
theorem st_X8_setCost_66 : sv_at mX8_setCost 66 mX8_isLink 2 := ⟨tw_745, mv_X8_isLink, ⟨by decide +kernel, by decide +kernel⟩⟩
theorem st_X8_setCost_62 : ss_at mX8_setCost 62 mX8_linkAt 3 := ⟨tw_749, ms_X8_linkAt, ⟨by decide +kernel, by decide +kernel⟩⟩
theorem st_X8_setCost_77 : sv_at mX8_setCost 77 mX8_sets 4 := ⟨tw_752, mv_X8_sets, ⟨by decide +kernel, by decide +kernel⟩⟩
theorem st_X8_setUp_74 : sv_at mX8_setUp 74 mX8_arePair 2 := ⟨tw_737, mv_X8_arePair, ⟨by decide +kernel, by decide +kernel⟩⟩
theorem st_X8_setUp_54 : ss_at mX8_setUp 54 mX8_in 3 := ⟨tw_730, ms_X8_in, ⟨by decide +kernel, by decide +kernel⟩⟩
theorem st_X8_setUp_66 : sv_at mX8_setUp 66 mX8_isLink 2 := ⟨tw_745, mv_X8_isLink, ⟨by decide +kernel, by decide +kernel⟩⟩
theorem st_X8_setUp_62 : ss_at mX8_setUp 62 mX8_linkAt 3 := ⟨tw_749, ms_X8_linkAt, ⟨by decide +kernel, by decide +kernel⟩⟩
theorem st_X8_setUp_77 : sv_at mX8_setUp 77 mX8_sets 4 := ⟨tw_752, mv_X8_sets, ⟨by decide +kernel, by decide +kernel⟩⟩
theorem st_X8_link_74 : sv_at mX8_link 74 mX8_arePair 2 := ⟨tw_737, mv_X8_arePair, ⟨by decide +kernel, by decide +kernel⟩⟩
theorem st_X8_link_54 : ss_at mX8_link 54 mX8_in 3 := ⟨tw_730, ms_X8_in, ⟨by decide +kernel, by decide +kernel⟩⟩
theorem st_X8_link_66 : sv_at mX8_link 66 mX8_isLink 2 := ⟨tw_745, mv_X8_isLink, ⟨by decide +kernel, by decide +kernel⟩⟩
theorem st_X8_link_62 : ss_at mX8_link 62 mX8_linkAt 3 := ⟨tw_749, ms_X8_linkAt, ⟨by decide +kernel, by decide +kernel⟩⟩
theorem st_X8_set_54 : ss_at mX8_set 54 mX8_in 3 := ⟨tw_730, ms_X8_in, ⟨by decide +kernel, by decide +kernel⟩⟩
theorem st_X8_of_81 : ss_at mX8_of 81 mX8_entryAt 4 := ⟨tw_809, ms_X8_entryAt, ⟨by decide +kernel, by decide +kernel⟩⟩
theorem st_X8_isEntry_85 : sv_at mX8_isEntry 85 mX8_of 4 := ⟨tw_805, mv_X8_of, ⟨by decide +kernel, by decide +kernel⟩⟩
theorem st_X8_isUsable_88 : sv_at mX8_isUsable 88 mX8_isEntry 3 := ⟨tw_801, mv_X8_isEntry, ⟨by decide +kernel, by decide +kernel⟩⟩
theorem st_X8_isUsable_85 : sv_at mX8_isUsable 85 mX8_of 4 := ⟨tw_805, mv_X8_of, ⟨by decide +kernel, by decide +kernel⟩⟩
theorem st_X8_isUsable_91 : sv_at mX8_isUsable 91 mX8_areNear 2 := ⟨tw_812, mv_X8_areNear, ⟨by decide +kernel, by decide +kernel⟩⟩
theorem st_X8_least_94 : sv_at mX8_least 94 mX8_isUsable 3 := ⟨tw_797, mv_X8_isUsable, ⟨by decide +kernel, by decide +kernel⟩⟩
theorem st_X8_least_85 : sv_at mX8_least 85 mX8_of 4 := ⟨tw_805, mv_X8_of, ⟨by decide +kernel, by decide +kernel⟩⟩
theorem st_X8_boundOf_97 : sv_at mX8_boundOf 97 mX8_least 4 := ⟨tw_793, mv_X8_least, ⟨by decide +kernel, by decide +kernel⟩⟩
theorem st_X8_weight_85 : sv_at mX8_weight 85 mX8_of 4 := ⟨tw_805, mv_X8_of, ⟨by decide +kernel, by decide +kernel⟩⟩
theorem st_X8_weight_97 : sv_at mX8_weight 97 mX8_least 4 := ⟨tw_793, mv_X8_least, ⟨by decide +kernel, by decide +kernel⟩⟩
theorem st_X8_choiceOf_94 : sv_at mX8_choiceOf 94 mX8_isUsable 3 := ⟨tw_797, mv_X8_isUsable, ⟨by decide +kernel, by decide +kernel⟩⟩
theorem st_X8_choiceOf_100 : sv_at mX8_choiceOf 100 mX8_weight 4 := ⟨tw_820, mv_X8_weight, ⟨by decide +kernel, by decide +kernel⟩⟩
theorem st_X8_isDominated_94 : sv_at mX8_isDominated 94 mX8_isUsable 3 := ⟨tw_797, mv_X8_isUsable, ⟨by decide +kernel, by decide +kernel⟩⟩
theorem st_X8_isDominated_85 : sv_at mX8_isDominated 85 mX8_of 4 := ⟨tw_805, mv_X8_of, ⟨by decide +kernel, by decide +kernel⟩⟩
theorem st_X8_looks_104 : sv_at mX8_looks 104 mX8_boundOf 3 := ⟨tw_789, mv_X8_boundOf, ⟨by decide +kernel, by decide +kernel⟩⟩
theorem st_X8_looks_107 : sv_at mX8_looks 107 mX8_choiceOf 2 := ⟨tw_816, mv_X8_choiceOf, ⟨by decide +kernel, by decide +kernel⟩⟩
theorem st_X8_isNew_111 : ss_at mX8_isNew 111 mX8_sentAt 2 := ⟨tw_828, ms_X8_sentAt, ⟨by decide +kernel, by decide +kernel⟩⟩
theorem st_X8_keepsSent_111 : ss_at mX8_keepsSent 111 mX8_sentAt 2 := ⟨tw_828, ms_X8_sentAt, ⟨by decide +kernel, by decide +kernel⟩⟩
theorem st_X8_receives_81 : ss_at mX8_receives 81 mX8_entryAt 4 := ⟨tw_809, ms_X8_entryAt, ⟨by decide +kernel, by decide +kernel⟩⟩
theorem st_X8_receives_62 : ss_at mX8_receives 62 mX8_linkAt 3 := ⟨tw_749, ms_X8_linkAt, ⟨by decide +kernel, by decide +kernel⟩⟩
theorem st_X8_receives_114 : ss_at mX8_receives 114 mX8_limited 2 := ⟨tw_839, ms_X8_limited, ⟨by decide +kernel, by decide +kernel⟩⟩
theorem st_X8_sendsAll_91 : sv_at mX8_sendsAll 91 mX8_areNear 2 := ⟨tw_812, mv_X8_areNear, ⟨by decide +kernel, by decide +kernel⟩⟩
theorem st_X8_sendsAll_117 : sv_at mX8_sendsAll 117 mX8_receives 4 := ⟨tw_835, mv_X8_receives, ⟨by decide +kernel, by decide +kernel⟩⟩
theorem st_X8_tick_124 : sv_at mX8_tick 124 mX8_looks 0 := ⟨tw_785, mv_X8_looks, ⟨by decide +kernel, by decide +kernel⟩⟩
theorem st_X8_tick_127 : sv_at mX8_tick 127 mX8_isNew 1 := ⟨tw_824, mv_X8_isNew, ⟨by decide +kernel, by decide +kernel⟩⟩
theorem st_X8_tick_130 : sv_at mX8_tick 130 mX8_sendsAll 1 := ⟨tw_831, mv_X8_sendsAll, ⟨by decide +kernel, by decide +kernel⟩⟩
theorem st_X8_tick_134 : sv_at mX8_tick 134 mX8_keepsSent 1 := ⟨tw_842, mv_X8_keepsSent, ⟨by decide +kernel, by decide +kernel⟩⟩
theorem st_X8_tick_107 : sv_at mX8_tick 107 mX8_choiceOf 2 := ⟨tw_816, mv_X8_choiceOf, ⟨by decide +kernel, by decide +kernel⟩⟩
theorem st_X8_tick_137 : sv_at mX8_tick 137 mX8_notes 3 := ⟨tw_846, mv_X8_notes, ⟨by decide +kernel, by decide +kernel⟩⟩
theorem st_X8_run_54 : ss_at mX8_run 54 mX8_in 3 := ⟨tw_730, ms_X8_in, ⟨by decide +kernel, by decide +kernel⟩⟩
theorem st_X8_run_142 : sv_at mX8_run 142 mX8_tick 0 := ⟨tw_781, mv_X8_tick, ⟨by decide +kernel, by decide +kernel⟩⟩
theorem st_X8_entry_74 : sv_at mX8_entry 74 mX8_arePair 2 := ⟨tw_737, mv_X8_arePair, ⟨by decide +kernel, by decide +kernel⟩⟩
theorem st_X8_entry_54 : ss_at mX8_entry 54 mX8_in 3 := ⟨tw_730, ms_X8_in, ⟨by decide +kernel, by decide +kernel⟩⟩
theorem st_X8_entry_88 : sv_at mX8_entry 88 mX8_isEntry 3 := ⟨tw_801, mv_X8_isEntry, ⟨by decide +kernel, by decide +kernel⟩⟩
theorem st_X8_entry_85 : sv_at mX8_entry 85 mX8_of 4 := ⟨tw_805, mv_X8_of, ⟨by decide +kernel, by decide +kernel⟩⟩
theorem st_X8_entry_94 : sv_at mX8_entry 94 mX8_isUsable 3 := ⟨tw_797, mv_X8_isUsable, ⟨by decide +kernel, by decide +kernel⟩⟩
theorem st_X8_entry_145 : sv_at mX8_entry 145 mX8_isDominated 3 := ⟨tw_862, mv_X8_isDominated, ⟨by decide +kernel, by decide +kernel⟩⟩
theorem st_X8_distance_58 : sv_at mX8_distance 58 mX8_isNode 1 := ⟨tw_741, mv_X8_isNode, ⟨by decide +kernel, by decide +kernel⟩⟩
theorem st_X8_distance_54 : ss_at mX8_distance 54 mX8_in 3 := ⟨tw_730, ms_X8_in, ⟨by decide +kernel, by decide +kernel⟩⟩
theorem st_X8_distance_104 : sv_at mX8_distance 104 mX8_boundOf 3 := ⟨tw_789, mv_X8_boundOf, ⟨by decide +kernel, by decide +kernel⟩⟩
theorem st_X8_choice_74 : sv_at mX8_choice 74 mX8_arePair 2 := ⟨tw_737, mv_X8_arePair, ⟨by decide +kernel, by decide +kernel⟩⟩
theorem st_X8_choice_107 : sv_at mX8_choice 107 mX8_choiceOf 2 := ⟨tw_816, mv_X8_choiceOf, ⟨by decide +kernel, by decide +kernel⟩⟩
theorem st_X8_entries_74 : sv_at mX8_entries 74 mX8_arePair 2 := ⟨tw_737, mv_X8_arePair, ⟨by decide +kernel, by decide +kernel⟩⟩
theorem st_X8_entries_54 : ss_at mX8_entries 54 mX8_in 3 := ⟨tw_730, ms_X8_in, ⟨by decide +kernel, by decide +kernel⟩⟩
theorem st_X8_entries_88 : sv_at mX8_entries 88 mX8_isEntry 3 := ⟨tw_801, mv_X8_isEntry, ⟨by decide +kernel, by decide +kernel⟩⟩
theorem st_X8_entries_94 : sv_at mX8_entries 94 mX8_isUsable 3 := ⟨tw_797, mv_X8_isUsable, ⟨by decide +kernel, by decide +kernel⟩⟩
theorem st_X8_entries_145 : sv_at mX8_entries 145 mX8_isDominated 3 := ⟨tw_862, mv_X8_isDominated, ⟨by decide +kernel, by decide +kernel⟩⟩
theorem st_X8_entries_85 : sv_at mX8_entries 85 mX8_of 4 := ⟨tw_805, mv_X8_of, ⟨by decide +kernel, by decide +kernel⟩⟩
theorem st_X8_meanWidthBits_74 : sv_at mX8_meanWidthBits 74 mX8_arePair 2 := ⟨tw_737, mv_X8_arePair, ⟨by decide +kernel, by decide +kernel⟩⟩
theorem st_X8_meanWidthBits_104 : sv_at mX8_meanWidthBits 104 mX8_boundOf 3 := ⟨tw_789, mv_X8_boundOf, ⟨by decide +kernel, by decide +kernel⟩⟩
theorem st_X8_meanWidthBits_148 : ss_at mX8_meanWidthBits 148 mJxf58ca_floatToIntBits_5c35a 1 := ⟨tw_882, ms_Jxf58ca_floatToIntBits_5c35a, ⟨by decide +kernel, by decide +kernel⟩⟩
theorem st_X8_journal_54 : ss_at mX8_journal 54 mX8_in 3 := ⟨tw_730, ms_X8_in, ⟨by decide +kernel, by decide +kernel⟩⟩
theorem st_X8_measures_91 : sv_at mX8_measures 91 mX8_areNear 2 := ⟨tw_812, mv_X8_areNear, ⟨by decide +kernel, by decide +kernel⟩⟩
theorem st_X8_measures_62 : ss_at mX8_measures 62 mX8_linkAt 3 := ⟨tw_749, ms_X8_linkAt, ⟨by decide +kernel, by decide +kernel⟩⟩
theorem st_X8_trueDistance_58 : sv_at mX8_trueDistance 58 mX8_isNode 1 := ⟨tw_741, mv_X8_isNode, ⟨by decide +kernel, by decide +kernel⟩⟩
theorem st_X8_trueDistance_154 : sv_at mX8_trueDistance 154 mX8_measures 0 := ⟨tw_904, mv_X8_measures, ⟨by decide +kernel, by decide +kernel⟩⟩
theorem st_X8_wrongPairs_154 : sv_at mX8_wrongPairs 154 mX8_measures 0 := ⟨tw_904, mv_X8_measures, ⟨by decide +kernel, by decide +kernel⟩⟩
theorem st_X8_wrongPairs_74 : sv_at mX8_wrongPairs 74 mX8_arePair 2 := ⟨tw_737, mv_X8_arePair, ⟨by decide +kernel, by decide +kernel⟩⟩
theorem st_X8_wrongPairs_104 : sv_at mX8_wrongPairs 104 mX8_boundOf 3 := ⟨tw_789, mv_X8_boundOf, ⟨by decide +kernel, by decide +kernel⟩⟩
theorem st_X8_wrongPairs_54 : ss_at mX8_wrongPairs 54 mX8_in 3 := ⟨tw_730, ms_X8_in, ⟨by decide +kernel, by decide +kernel⟩⟩
theorem st_X8_follows_107 : sv_at mX8_follows 107 mX8_choiceOf 2 := ⟨tw_816, mv_X8_choiceOf, ⟨by decide +kernel, by decide +kernel⟩⟩
theorem st_X8_follow_74 : sv_at mX8_follow 74 mX8_arePair 2 := ⟨tw_737, mv_X8_arePair, ⟨by decide +kernel, by decide +kernel⟩⟩
theorem st_X8_follow_157 : sv_at mX8_follow 157 mX8_follows 2 := ⟨tw_916, mv_X8_follows, ⟨by decide +kernel, by decide +kernel⟩⟩
theorem st_X8_loops_74 : sv_at mX8_loops 74 mX8_arePair 2 := ⟨tw_737, mv_X8_arePair, ⟨by decide +kernel, by decide +kernel⟩⟩
theorem st_X8_loops_157 : sv_at mX8_loops 157 mX8_follows 2 := ⟨tw_916, mv_X8_follows, ⟨by decide +kernel, by decide +kernel⟩⟩
theorem st_X8_loops_54 : ss_at mX8_loops 54 mX8_in 3 := ⟨tw_730, ms_X8_in, ⟨by decide +kernel, by decide +kernel⟩⟩
theorem st_X8_settling_160 : sv_at mX8_settling 160 mX8_putsAside 0 := ⟨tw_928, mv_X8_putsAside, ⟨by decide +kernel, by decide +kernel⟩⟩
theorem st_X8_settling_142 : sv_at mX8_settling 142 mX8_tick 0 := ⟨tw_781, mv_X8_tick, ⟨by decide +kernel, by decide +kernel⟩⟩
theorem st_X8_settling_163 : sv_at mX8_settling 163 mX8_putsBack 0 := ⟨tw_932, mv_X8_putsBack, ⟨by decide +kernel, by decide +kernel⟩⟩
theorem st_X8_pairs_154 : sv_at mX8_pairs 154 mX8_measures 0 := ⟨tw_904, mv_X8_measures, ⟨by decide +kernel, by decide +kernel⟩⟩
theorem st_X8_pairs_74 : sv_at mX8_pairs 74 mX8_arePair 2 := ⟨tw_737, mv_X8_arePair, ⟨by decide +kernel, by decide +kernel⟩⟩
theorem st_X8_loss_74 : sv_at mX8_loss 74 mX8_arePair 2 := ⟨tw_737, mv_X8_arePair, ⟨by decide +kernel, by decide +kernel⟩⟩
theorem st_X8_loss_66 : sv_at mX8_loss 66 mX8_isLink 2 := ⟨tw_745, mv_X8_isLink, ⟨by decide +kernel, by decide +kernel⟩⟩
theorem st_X8_loss_166 : sv_at mX8_loss 166 mX8_pairs 0 := ⟨tw_940, mv_X8_pairs, ⟨by decide +kernel, by decide +kernel⟩⟩
theorem st_X8_loss_62 : ss_at mX8_loss 62 mX8_linkAt 3 := ⟨tw_749, ms_X8_linkAt, ⟨by decide +kernel, by decide +kernel⟩⟩
theorem st_X8_loss_77 : sv_at mX8_loss 77 mX8_sets 4 := ⟨tw_752, mv_X8_sets, ⟨by decide +kernel, by decide +kernel⟩⟩
theorem st_X8_recovery_74 : sv_at mX8_recovery 74 mX8_arePair 2 := ⟨tw_737, mv_X8_arePair, ⟨by decide +kernel, by decide +kernel⟩⟩
theorem st_X8_recovery_66 : sv_at mX8_recovery 66 mX8_isLink 2 := ⟨tw_745, mv_X8_isLink, ⟨by decide +kernel, by decide +kernel⟩⟩
theorem st_X8_recovery_62 : ss_at mX8_recovery 62 mX8_linkAt 3 := ⟨tw_749, ms_X8_linkAt, ⟨by decide +kernel, by decide +kernel⟩⟩
theorem st_X8_recovery_160 : sv_at mX8_recovery 160 mX8_putsAside 0 := ⟨tw_928, mv_X8_putsAside, ⟨by decide +kernel, by decide +kernel⟩⟩
theorem st_X8_recovery_77 : sv_at mX8_recovery 77 mX8_sets 4 := ⟨tw_752, mv_X8_sets, ⟨by decide +kernel, by decide +kernel⟩⟩
theorem st_X8_recovery_142 : sv_at mX8_recovery 142 mX8_tick 0 := ⟨tw_781, mv_X8_tick, ⟨by decide +kernel, by decide +kernel⟩⟩
theorem st_X8_recovery_170 : sv_at mX8_recovery 170 mX8_loops 0 := ⟨tw_948, mv_X8_loops, ⟨by decide +kernel, by decide +kernel⟩⟩
theorem st_X8_recovery_163 : sv_at mX8_recovery 163 mX8_putsBack 0 := ⟨tw_932, mv_X8_putsBack, ⟨by decide +kernel, by decide +kernel⟩⟩
theorem st_Jxf58ca_floatToIntBits_5c35a_59 : ss_at mJxf58ca_floatToIntBits_5c35a 59 mJxf58ca_isNaN_12338 1 := ⟨tw_885, ms_Jxf58ca_isNaN_12338, ⟨by decide +kernel, by decide +kernel⟩⟩
theorem rl_X0_add : rl_ok 15 mX0_add := ⟨by decide, _, _, _, _, rfl, rfl, rfl⟩
theorem rl_X0_clear : rl_ok 15 mX0_clear := ⟨by decide, _, _, _, _, rfl, rfl, rfl⟩
theorem rl_X0_copyFrom : rl_ok 15 mX0_copyFrom := ⟨by decide, _, _, _, _, rfl, rfl, rfl⟩
theorem rl_X0_size : rl_ok 15 mX0_size := ⟨by decide, _, _, _, _, rfl, rfl, rfl⟩
theorem rl_X0_value : rl_ok 15 mX0_value := ⟨by decide, _, _, _, _, rfl, rfl, rfl⟩
theorem rl_X1_clear : rl_ok 1 mX1_clear := ⟨by decide, _, _, _, _, rfl, rfl, rfl⟩
theorem rl_X1_copyFrom : rl_ok 1 mX1_copyFrom := ⟨by decide, _, _, _, _, rfl, rfl, rfl⟩
theorem rl_X1_delete : rl_ok 1 mX1_delete := ⟨by decide, _, _, _, _, rfl, rfl, rfl⟩
theorem rl_X1_insert : rl_ok 1 mX1_insert := ⟨by decide, _, _, _, _, rfl, rfl, rfl⟩
theorem rl_X1_isUp : rl_ok 1 mX1_isUp := ⟨by decide, _, _, _, _, rfl, rfl, rfl⟩
theorem rl_X1_joins : rl_ok 1 mX1_joins := ⟨by decide, _, _, _, _, rfl, rfl, rfl⟩
theorem rl_X1_putBounds : rl_ok 1 mX1_putBounds := ⟨by decide, _, _, _, _, rfl, rfl, rfl⟩
theorem rl_X1_putCost : rl_ok 1 mX1_putCost := ⟨by decide, _, _, _, _, rfl, rfl, rfl⟩
theorem rl_X1_putUp : rl_ok 1 mX1_putUp := ⟨by decide, _, _, _, _, rfl, rfl, rfl⟩
theorem rl_X2_copyFrom : rl_ok 0 mX2_copyFrom := ⟨by decide, _, _, _, _, rfl, rfl, rfl⟩
theorem rl_X2_isDominated : rl_ok 0 mX2_isDominated := ⟨by decide, _, _, _, _, rfl, rfl, rfl⟩
theorem rl_X2_isUsable : rl_ok 0 mX2_isUsable := ⟨by decide, _, _, _, _, rfl, rfl, rfl⟩
theorem rl_X2_startAnew : rl_ok 0 mX2_startAnew := ⟨by decide, _, _, _, _, rfl, rfl, rfl⟩
theorem rl_X3_choose : rl_ok 20 mX3_choose := ⟨by decide, _, _, _, _, rfl, rfl, rfl⟩
theorem rl_X3_countLoops : rl_ok 20 mX3_countLoops := ⟨by decide, _, _, _, _, rfl, rfl, rfl⟩
theorem rl_X3_findNeighbours : rl_ok 20 mX3_findNeighbours := ⟨by decide, _, _, _, _, rfl, rfl, rfl⟩
theorem rl_X3_gather : rl_ok 20 mX3_gather := ⟨by decide, _, _, _, _, rfl, rfl, rfl⟩
theorem rl_X3_isBetter : rl_ok 20 mX3_isBetter := ⟨by decide, _, _, _, _, rfl, rfl, rfl⟩
theorem rl_X3_look : rl_ok 20 mX3_look := ⟨by decide, _, _, _, _, rfl, rfl, rfl⟩
theorem rl_X3_putDistance : rl_ok 20 mX3_putDistance := ⟨by decide, _, _, _, _, rfl, rfl, rfl⟩
theorem rl_X3_rankAll : rl_ok 20 mX3_rankAll := ⟨by decide, _, _, _, _, rfl, rfl, rfl⟩
theorem rl_X3_reaches : rl_ok 20 mX3_reaches := ⟨by decide, _, _, _, _, rfl, rfl, rfl⟩
theorem rl_X3_regret : rl_ok 20 mX3_regret := ⟨by decide, _, _, _, _, rfl, rfl, rfl⟩
theorem rl_X3_take : rl_ok 20 mX3_take := ⟨by decide, _, _, _, _, rfl, rfl, rfl⟩
theorem rl_X3_takeOne : rl_ok 20 mX3_takeOne := ⟨by decide, _, _, _, _, rfl, rfl, rfl⟩
theorem rl_X3_walk : rl_ok 20 mX3_walk := ⟨by decide, _, _, _, _, rfl, rfl, rfl⟩
theorem rl_X4_clear : rl_ok 6 mX4_clear := ⟨by decide, _, _, _, _, rfl, rfl, rfl⟩
theorem rl_X4_copyFrom : rl_ok 6 mX4_copyFrom := ⟨by decide, _, _, _, _, rfl, rfl, rfl⟩
theorem rl_X4_countGrowth : rl_ok 6 mX4_countGrowth := ⟨by decide, _, _, _, _, rfl, rfl, rfl⟩
theorem rl_X4_dominates : rl_ok 6 mX4_dominates := ⟨by decide, _, _, _, _, rfl, rfl, rfl⟩
theorem rl_X4_has : rl_ok 6 mX4_has := ⟨by decide, _, _, _, _, rfl, rfl, rfl⟩
theorem rl_X4_isOpen : rl_ok 6 mX4_isOpen := ⟨by decide, _, _, _, _, rfl, rfl, rfl⟩
theorem rl_X4_receive : rl_ok 6 mX4_receive := ⟨by decide, _, _, _, _, rfl, rfl, rfl⟩
theorem rl_X5_clear : rl_ok 12 mX5_clear := ⟨by decide, _, _, _, _, rfl, rfl, rfl⟩
theorem rl_X5_copyFrom : rl_ok 12 mX5_copyFrom := ⟨by decide, _, _, _, _, rfl, rfl, rfl⟩
theorem rl_X5_differs : rl_ok 12 mX5_differs := ⟨by decide, _, _, _, _, rfl, rfl, rfl⟩
theorem rl_X5_keep : rl_ok 12 mX5_keep := ⟨by decide, _, _, _, _, rfl, rfl, rfl⟩
theorem rl_X6_countPairs : rl_ok 30 mX6_countPairs := ⟨by decide, _, _, _, _, rfl, rfl, rfl⟩
theorem rl_X6_exists : rl_ok 30 mX6_exists := ⟨by decide, _, _, _, _, rfl, rfl, rfl⟩
theorem rl_X6_measure : rl_ok 30 mX6_measure := ⟨by decide, _, _, _, _, rfl, rfl, rfl⟩
theorem rl_X6_shorten : rl_ok 30 mX6_shorten := ⟨by decide, _, _, _, _, rfl, rfl, rfl⟩
theorem rl_X7_addLink : rl_ok 18 mX7_addLink := ⟨by decide, _, _, _, _, rfl, rfl, rfl⟩
theorem rl_X7_announce : rl_ok 18 mX7_announce := ⟨by decide, _, _, _, _, rfl, rfl, rfl⟩
theorem rl_X7_choice : rl_ok 18 mX7_choice := ⟨by decide, _, _, _, _, rfl, rfl, rfl⟩
theorem rl_X7_chooseSpeakers : rl_ok 18 mX7_chooseSpeakers := ⟨by decide, _, _, _, _, rfl, rfl, rfl⟩
theorem rl_X7_counts : rl_ok 18 mX7_counts := ⟨by decide, _, _, _, _, rfl, rfl, rfl⟩
theorem rl_X7_distance : rl_ok 18 mX7_distance := ⟨by decide, _, _, _, _, rfl, rfl, rfl⟩
theorem rl_X7_entries : rl_ok 18 mX7_entries := ⟨by decide, _, _, _, _, rfl, rfl, rfl⟩
theorem rl_X7_entry : rl_ok 18 mX7_entry := ⟨by decide, _, _, _, _, rfl, rfl, rfl⟩
theorem rl_X7_follow : rl_ok 18 mX7_follow := ⟨by decide, _, _, _, _, rfl, rfl, rfl⟩
theorem rl_X7_isDue : rl_ok 18 mX7_isDue := ⟨by decide, _, _, _, _, rfl, rfl, rfl⟩
theorem rl_X7_isNode : rl_ok 18 mX7_isNode := ⟨by decide, _, _, _, _, rfl, rfl, rfl⟩
theorem rl_X7_isPair : rl_ok 18 mX7_isPair := ⟨by decide, _, _, _, _, rfl, rfl, rfl⟩
theorem rl_X7_isWrong : rl_ok 18 mX7_isWrong := ⟨by decide, _, _, _, _, rfl, rfl, rfl⟩
theorem rl_X7_journal : rl_ok 18 mX7_journal := ⟨by decide, _, _, _, _, rfl, rfl, rfl⟩
theorem rl_X7_journalSize : rl_ok 18 mX7_journalSize := ⟨by decide, _, _, _, _, rfl, rfl, rfl⟩
theorem rl_X7_link : rl_ok 18 mX7_link := ⟨by decide, _, _, _, _, rfl, rfl, rfl⟩
theorem rl_X7_loops : rl_ok 18 mX7_loops := ⟨by decide, _, _, _, _, rfl, rfl, rfl⟩
theorem rl_X7_loss : rl_ok 18 mX7_loss := ⟨by decide, _, _, _, _, rfl, rfl, rfl⟩
theorem rl_X7_makeTick : rl_ok 18 mX7_makeTick := ⟨by decide, _, _, _, _, rfl, rfl, rfl⟩
theorem rl_X7_meanWidthBits : rl_ok 18 mX7_meanWidthBits := ⟨by decide, _, _, _, _, rfl, rfl, rfl⟩
theorem rl_X7_noteChanges : rl_ok 18 mX7_noteChanges := ⟨by decide, _, _, _, _, rfl, rfl, rfl⟩
theorem rl_X7_recall : rl_ok 18 mX7_recall := ⟨by decide, _, _, _, _, rfl, rfl, rfl⟩
theorem rl_X7_recovery : rl_ok 18 mX7_recovery := ⟨by decide, _, _, _, _, rfl, rfl, rfl⟩
theorem rl_X7_removeLink : rl_ok 18 mX7_removeLink := ⟨by decide, _, _, _, _, rfl, rfl, rfl⟩
theorem rl_X7_reset : rl_ok 18 mX7_reset := ⟨by decide, _, _, _, _, rfl, rfl, rfl⟩
theorem rl_X7_run : rl_ok 18 mX7_run := ⟨by decide, _, _, _, _, rfl, rfl, rfl⟩
theorem rl_X7_sent : rl_ok 18 mX7_sent := ⟨by decide, _, _, _, _, rfl, rfl, rfl⟩
theorem rl_X7_set : rl_ok 18 mX7_set := ⟨by decide, _, _, _, _, rfl, rfl, rfl⟩
theorem rl_X7_setCost : rl_ok 18 mX7_setCost := ⟨by decide, _, _, _, _, rfl, rfl, rfl⟩
theorem rl_X7_setUp : rl_ok 18 mX7_setUp := ⟨by decide, _, _, _, _, rfl, rfl, rfl⟩
theorem rl_X7_settling : rl_ok 18 mX7_settling := ⟨by decide, _, _, _, _, rfl, rfl, rfl⟩
theorem rl_X7_speak : rl_ok 18 mX7_speak := ⟨by decide, _, _, _, _, rfl, rfl, rfl⟩
theorem rl_X7_store : rl_ok 18 mX7_store := ⟨by decide, _, _, _, _, rfl, rfl, rfl⟩
theorem rl_X7_time : rl_ok 18 mX7_time := ⟨by decide, _, _, _, _, rfl, rfl, rfl⟩
theorem rl_X7_trueDistance : rl_ok 18 mX7_trueDistance := ⟨by decide, _, _, _, _, rfl, rfl, rfl⟩
theorem rl_X7_wrongPairs : rl_ok 18 mX7_wrongPairs := ⟨by decide, _, _, _, _, rfl, rfl, rfl⟩
theorem rl_X8_addLink : rl_ok 33 mX8_addLink := ⟨by decide, _, _, _, _, rfl, rfl, rfl⟩
theorem rl_X8_areNear : rl_ok 33 mX8_areNear := ⟨by decide, _, _, _, _, rfl, rfl, rfl⟩
theorem rl_X8_arePair : rl_ok 33 mX8_arePair := ⟨by decide, _, _, _, _, rfl, rfl, rfl⟩
theorem rl_X8_begins : rl_ok 33 mX8_begins := ⟨by decide, _, _, _, _, rfl, rfl, rfl⟩
theorem rl_X8_boundOf : rl_ok 33 mX8_boundOf := ⟨by decide, _, _, _, _, rfl, rfl, rfl⟩
theorem rl_X8_choice : rl_ok 33 mX8_choice := ⟨by decide, _, _, _, _, rfl, rfl, rfl⟩
theorem rl_X8_choiceOf : rl_ok 33 mX8_choiceOf := ⟨by decide, _, _, _, _, rfl, rfl, rfl⟩
theorem rl_X8_distance : rl_ok 33 mX8_distance := ⟨by decide, _, _, _, _, rfl, rfl, rfl⟩
theorem rl_X8_entries : rl_ok 33 mX8_entries := ⟨by decide, _, _, _, _, rfl, rfl, rfl⟩
theorem rl_X8_entry : rl_ok 33 mX8_entry := ⟨by decide, _, _, _, _, rfl, rfl, rfl⟩
theorem rl_X8_follow : rl_ok 33 mX8_follow := ⟨by decide, _, _, _, _, rfl, rfl, rfl⟩
theorem rl_X8_follows : rl_ok 33 mX8_follows := ⟨by decide, _, _, _, _, rfl, rfl, rfl⟩
theorem rl_X8_isDominated : rl_ok 33 mX8_isDominated := ⟨by decide, _, _, _, _, rfl, rfl, rfl⟩
theorem rl_X8_isEntry : rl_ok 33 mX8_isEntry := ⟨by decide, _, _, _, _, rfl, rfl, rfl⟩
theorem rl_X8_isLink : rl_ok 33 mX8_isLink := ⟨by decide, _, _, _, _, rfl, rfl, rfl⟩
theorem rl_X8_isNew : rl_ok 33 mX8_isNew := ⟨by decide, _, _, _, _, rfl, rfl, rfl⟩
theorem rl_X8_isNode : rl_ok 33 mX8_isNode := ⟨by decide, _, _, _, _, rfl, rfl, rfl⟩
theorem rl_X8_isUsable : rl_ok 33 mX8_isUsable := ⟨by decide, _, _, _, _, rfl, rfl, rfl⟩
theorem rl_X8_journal : rl_ok 33 mX8_journal := ⟨by decide, _, _, _, _, rfl, rfl, rfl⟩
theorem rl_X8_journalSize : rl_ok 33 mX8_journalSize := ⟨by decide, _, _, _, _, rfl, rfl, rfl⟩
theorem rl_X8_keepsSent : rl_ok 33 mX8_keepsSent := ⟨by decide, _, _, _, _, rfl, rfl, rfl⟩
theorem rl_X8_least : rl_ok 33 mX8_least := ⟨by decide, _, _, _, _, rfl, rfl, rfl⟩
theorem rl_X8_link : rl_ok 33 mX8_link := ⟨by decide, _, _, _, _, rfl, rfl, rfl⟩
theorem rl_X8_looks : rl_ok 33 mX8_looks := ⟨by decide, _, _, _, _, rfl, rfl, rfl⟩
theorem rl_X8_loops : rl_ok 33 mX8_loops := ⟨by decide, _, _, _, _, rfl, rfl, rfl⟩
theorem rl_X8_loss : rl_ok 33 mX8_loss := ⟨by decide, _, _, _, _, rfl, rfl, rfl⟩
theorem rl_X8_meanWidthBits : rl_ok 33 mX8_meanWidthBits := ⟨by decide, _, _, _, _, rfl, rfl, rfl⟩
theorem rl_X8_measures : rl_ok 33 mX8_measures := ⟨by decide, _, _, _, _, rfl, rfl, rfl⟩
theorem rl_X8_notes : rl_ok 33 mX8_notes := ⟨by decide, _, _, _, _, rfl, rfl, rfl⟩
theorem rl_X8_of : rl_ok 33 mX8_of := ⟨by decide, _, _, _, _, rfl, rfl, rfl⟩
theorem rl_X8_pairs : rl_ok 33 mX8_pairs := ⟨by decide, _, _, _, _, rfl, rfl, rfl⟩
theorem rl_X8_putsAside : rl_ok 33 mX8_putsAside := ⟨by decide, _, _, _, _, rfl, rfl, rfl⟩
theorem rl_X8_putsBack : rl_ok 33 mX8_putsBack := ⟨by decide, _, _, _, _, rfl, rfl, rfl⟩
theorem rl_X8_recall : rl_ok 33 mX8_recall := ⟨by decide, _, _, _, _, rfl, rfl, rfl⟩
theorem rl_X8_receives : rl_ok 33 mX8_receives := ⟨by decide, _, _, _, _, rfl, rfl, rfl⟩
theorem rl_X8_recovery : rl_ok 33 mX8_recovery := ⟨by decide, _, _, _, _, rfl, rfl, rfl⟩
theorem rl_X8_removeLink : rl_ok 33 mX8_removeLink := ⟨by decide, _, _, _, _, rfl, rfl, rfl⟩
theorem rl_X8_reset : rl_ok 33 mX8_reset := ⟨by decide, _, _, _, _, rfl, rfl, rfl⟩
theorem rl_X8_run : rl_ok 33 mX8_run := ⟨by decide, _, _, _, _, rfl, rfl, rfl⟩
theorem rl_X8_sendsAll : rl_ok 33 mX8_sendsAll := ⟨by decide, _, _, _, _, rfl, rfl, rfl⟩
theorem rl_X8_sent : rl_ok 33 mX8_sent := ⟨by decide, _, _, _, _, rfl, rfl, rfl⟩
theorem rl_X8_set : rl_ok 33 mX8_set := ⟨by decide, _, _, _, _, rfl, rfl, rfl⟩
theorem rl_X8_setCost : rl_ok 33 mX8_setCost := ⟨by decide, _, _, _, _, rfl, rfl, rfl⟩
theorem rl_X8_setUp : rl_ok 33 mX8_setUp := ⟨by decide, _, _, _, _, rfl, rfl, rfl⟩
theorem rl_X8_sets : rl_ok 33 mX8_sets := ⟨by decide, _, _, _, _, rfl, rfl, rfl⟩
theorem rl_X8_settling : rl_ok 33 mX8_settling := ⟨by decide, _, _, _, _, rfl, rfl, rfl⟩
theorem rl_X8_store : rl_ok 33 mX8_store := ⟨by decide, _, _, _, _, rfl, rfl, rfl⟩
theorem rl_X8_tick : rl_ok 33 mX8_tick := ⟨by decide, _, _, _, _, rfl, rfl, rfl⟩
theorem rl_X8_time : rl_ok 33 mX8_time := ⟨by decide, _, _, _, _, rfl, rfl, rfl⟩
theorem rl_X8_trueDistance : rl_ok 33 mX8_trueDistance := ⟨by decide, _, _, _, _, rfl, rfl, rfl⟩
theorem rl_X8_weight : rl_ok 33 mX8_weight := ⟨by decide, _, _, _, _, rfl, rfl, rfl⟩
theorem rl_X8_wrongPairs : rl_ok 33 mX8_wrongPairs := ⟨by decide, _, _, _, _, rfl, rfl, rfl⟩
theorem ft_2_0 : ∀ (C : String) (T : u_T) (N : Nat), vwCl[(2 : Nat)]? = some (C, T, N) → (T 0).2.2.2 = false ∧ parseFieldDescriptor (T 0).2.2.1 = some FieldType.int := by
  intro C T N h
  cases h
  exact ⟨rfl, by decide +kernel⟩
theorem ft_2_1 : ∀ (C : String) (T : u_T) (N : Nat), vwCl[(2 : Nat)]? = some (C, T, N) → (T 1).2.2.2 = false ∧ parseFieldDescriptor (T 1).2.2.1 = some FieldType.int := by
  intro C T N h
  cases h
  exact ⟨rfl, by decide +kernel⟩
theorem ft_2_2 : ∀ (C : String) (T : u_T) (N : Nat), vwCl[(2 : Nat)]? = some (C, T, N) → (T 2).2.2.2 = false ∧ parseFieldDescriptor (T 2).2.2.1 = some FieldType.int := by
  intro C T N h
  cases h
  exact ⟨rfl, by decide +kernel⟩
theorem ft_1_0 : ∀ (C : String) (T : u_T) (N : Nat), vwCl[(1 : Nat)]? = some (C, T, N) → (T 0).2.2.2 = false ∧ parseFieldDescriptor (T 0).2.2.1 = some FieldType.int := by
  intro C T N h
  cases h
  exact ⟨rfl, by decide +kernel⟩
theorem ft_0_1 : ∀ (C : String) (T : u_T) (N : Nat), vwCl[(0 : Nat)]? = some (C, T, N) → (T 1).2.2.2 = false ∧ parseFieldDescriptor (T 1).2.2.1 = some FieldType.int := by
  intro C T N h
  cases h
  exact ⟨rfl, by decide +kernel⟩
theorem ft_3_4 : ∀ (C : String) (T : u_T) (N : Nat), vwCl[(3 : Nat)]? = some (C, T, N) → (T 4).2.2.2 = false ∧ parseFieldDescriptor (T 4).2.2.1 = some FieldType.int := by
  intro C T N h
  cases h
  exact ⟨rfl, by decide +kernel⟩
theorem ft_3_10 : ∀ (C : String) (T : u_T) (N : Nat), vwCl[(3 : Nat)]? = some (C, T, N) → (T 10).2.2.2 = false ∧ parseFieldDescriptor (T 10).2.2.1 = some FieldType.int := by
  intro C T N h
  cases h
  exact ⟨rfl, by decide +kernel⟩
theorem ft_7_7 : ∀ (C : String) (T : u_T) (N : Nat), vwCl[(7 : Nat)]? = some (C, T, N) → (T 7).2.2.2 = false ∧ parseFieldDescriptor (T 7).2.2.1 = some FieldType.boolean := by
  intro C T N h
  cases h
  exact ⟨rfl, by decide +kernel⟩
theorem ft_8_0 : ∀ (C : String) (T : u_T) (N : Nat), vwCl[(8 : Nat)]? = some (C, T, N) → (T 0).2.2.2 = false ∧ parseFieldDescriptor (T 0).2.2.1 = some FieldType.int := by
  intro C T N h
  cases h
  exact ⟨rfl, by decide +kernel⟩
theorem ft_8_4 : ∀ (C : String) (T : u_T) (N : Nat), vwCl[(8 : Nat)]? = some (C, T, N) → (T 4).2.2.2 = false ∧ parseFieldDescriptor (T 4).2.2.1 = some FieldType.boolean := by
  intro C T N h
  cases h
  exact ⟨rfl, by decide +kernel⟩
theorem ft_8_14 : ∀ (C : String) (T : u_T) (N : Nat), vwCl[(8 : Nat)]? = some (C, T, N) → (T 14).2.2.2 = false ∧ parseFieldDescriptor (T 14).2.2.1 = some FieldType.int := by
  intro C T N h
  cases h
  exact ⟨rfl, by decide +kernel⟩
