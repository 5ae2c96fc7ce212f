/-! constructors of the class: written by wip/whole/m35.py -/
theorem bk_X0 : ∀ j, j < 2 → defaultValue (tyX0 j) = vp_V (bf_ (k_fld 0 15)) j := by
  intro j hj
  obtain rfl | rfl : j = 0 ∨ j = 1 := by omega
  all_goals rfl
theorem bk_X1 : ∀ j, j < 5 → defaultValue (tyX1 j) = vp_V (bf_ (k_fld 0 1)) j := by
  intro j hj
  obtain rfl | rfl | rfl | rfl | rfl : j = 0 ∨ j = 1 ∨ j = 2 ∨ j = 3 ∨ j = 4 := by omega
  all_goals rfl
theorem bk_X2 : ∀ j, j < 8 → defaultValue (tyX2 j) = vp_V (bf_ (k_fld 0 0)) j := by
  intro j hj
  obtain rfl | rfl | rfl | rfl | rfl | rfl | rfl | rfl : j = 0 ∨ j = 1 ∨ j = 2 ∨ j = 3 ∨ j = 4 ∨ j = 5 ∨ j = 6 ∨ j = 7 := by omega
  all_goals rfl
theorem bk_X3 : ∀ j, j < 11 → defaultValue (tyX3 j) = vp_V (bf_ (k_fld 0 20)) j := by
  intro j hj
  obtain rfl | rfl | rfl | rfl | rfl | rfl | rfl | rfl | rfl | rfl | rfl : j = 0 ∨ j = 1 ∨ j = 2 ∨ j = 3 ∨ j = 4 ∨ j = 5 ∨ j = 6 ∨ j = 7 ∨ j = 8 ∨ j = 9 ∨ j = 10 := by omega
  all_goals rfl
theorem bk_X4 : ∀ j, j < 5 → defaultValue (tyX4 j) = vp_V (bf_ (k_fld 0 6)) j := by
  intro j hj
  obtain rfl | rfl | rfl | rfl | rfl : j = 0 ∨ j = 1 ∨ j = 2 ∨ j = 3 ∨ j = 4 := by omega
  all_goals rfl
theorem bk_X5 : ∀ j, j < 2 → defaultValue (tyX5 j) = vp_V (bf_ (k_fld 0 12)) j := by
  intro j hj
  obtain rfl | rfl : j = 0 ∨ j = 1 := by omega
  all_goals rfl
theorem bk_X6 : ∀ j, j < 1 → defaultValue (tyX6 j) = vp_V (bf_ (k_fld 0 30)) j := by
  intro j hj
  obtain rfl : j = 0 := by omega
  all_goals rfl
theorem bk_X7 : ∀ j, j < 8 → defaultValue (tyX7 j) = vp_V (bf_ (k_fld 0 18)) j := by
  intro j hj
  obtain rfl | rfl | rfl | rfl | rfl | rfl | rfl | rfl : j = 0 ∨ j = 1 ∨ j = 2 ∨ j = 3 ∨ j = 4 ∨ j = 5 ∨ j = 6 ∨ j = 7 := by omega
  all_goals rfl
theorem bk_X8 : ∀ j, j < 15 → defaultValue (tyX8 j) = vp_V (bf_ (k_fld 0 33)) j := by
  intro j hj
  obtain rfl | rfl | rfl | rfl | rfl | rfl | rfl | rfl | rfl | rfl | rfl | rfl | rfl | rfl | rfl : j = 0 ∨ j = 1 ∨ j = 2 ∨ j = 3 ∨ j = 4 ∨ j = 5 ∨ j = 6 ∨ j = 7 ∨ j = 8 ∨ j = 9 ∨ j = 10 ∨ j = 11 ∨ j = 12 ∨ j = 13 ∨ j = 14 := by omega
  all_goals rfl
set_option maxRecDepth 100000 in
set_option maxHeartbeats 4000000 in
theorem k_X0 {g : Nat} : Nw_ mX0_init 0 15 (pl0_ g) (g, 15) V0_ 1 64 (fun _ _ _ => True) := by
  refine Nw_.of (by decide) rfl rfl (fun p l e R s m args below meth c dC dI cI cZ h0 A hx hRc hRs _ => ?_)
  refine n_as (ws' := (h0, .inr (0, [.null, .int 0])) :: []) rfl ?_
  refine n_aload hx dX0_init_0 ?_
  refine n_obj hx tw_150 dX0_init_1 (by decide) (by decide) ?_
  refine n_aload hx dX0_init_4 ?_
  refine n_bipush (v := 64) hx dX0_init_5 (by decide) ?_
  refine n_newI (N := 64) hx dX0_init_7 (by decide) (by decide) (by decide) (by omega) (by omega) (fun q7 => ?_)
  refine n_as (ws' := (h0, .inr (0, [.null, .int 0])) :: ([] ++ [(q7, .inl (cI, 64, .inl (fun _ => 0)))])) rfl ?_
  refine n_putF (C := RX0) (T := TX0) (N := 2) (k0 := 0) (fs' := [.ref q7, .int 0]) (ty := (.array .int)) hx rfl (by decide) tw_151 dX0_init_9 rfl rfl (by decide +kernel) rfl rfl (show 0 < 2 by decide) rfl ?_
  exact n_ret hx dX0_init_12 rfl (fun q => if q.2 = 15 then h0 else if q.2 = 16 then q7 else 0) rfl rfl
set_option maxRecDepth 100000 in
set_option maxHeartbeats 4000000 in
theorem k_X1 {g : Nat} : Nw_ mX1_init 1 1 (pl1_ g) (g, 1) V0_ 4 256 (fun _ _ _ => True) := by
  refine Nw_.of (by decide) rfl rfl (fun p l e R s m args below meth c dC dI cI cZ h0 A hx hRc hRs _ => ?_)
  refine n_as (ws' := (h0, .inr (1, [.int 0, .null, .null, .null, .null])) :: []) rfl ?_
  refine n_aload hx dX1_init_0 ?_
  refine n_obj hx tw_79 dX1_init_1 (by decide) (by decide) ?_
  refine n_aload hx dX1_init_4 ?_
  refine n_bipush (v := 64) hx dX1_init_5 (by decide) ?_
  refine n_newI (N := 64) hx dX1_init_7 (by decide) (by decide) (by decide) (by omega) (by omega) (fun q7 => ?_)
  refine n_as (ws' := (h0, .inr (1, [.int 0, .null, .null, .null, .null])) :: ([] ++ [(q7, .inl (cI, 64, .inl (fun _ => 0)))])) rfl ?_
  refine n_putF (C := RX1) (T := TX1) (N := 5) (k0 := 1) (fs' := [.int 0, .ref q7, .null, .null, .null]) (ty := (.array .int)) hx rfl (by decide) tw_82 dX1_init_9 rfl rfl (by decide +kernel) rfl rfl (show 1 < 5 by decide) rfl ?_
  refine n_aload hx dX1_init_12 ?_
  refine n_bipush (v := 64) hx dX1_init_13 (by decide) ?_
  refine n_newI (N := 64) hx dX1_init_15 (by decide) (by decide) (by decide) (by omega) (by omega) (fun q15 => ?_)
  refine n_as (ws' := (h0, .inr (1, [.int 0, .ref q7, .null, .null, .null])) :: (([] ++ [(q7, .inl (cI, 64, .inl (fun _ => 0)))]) ++ [(q15, .inl (cI, 64, .inl (fun _ => 0)))])) rfl ?_
  refine n_putF (C := RX1) (T := TX1) (N := 5) (k0 := 2) (fs' := [.int 0, .ref q7, .ref q15, .null, .null]) (ty := (.array .int)) hx rfl (by decide) tw_84 dX1_init_17 rfl rfl (by decide +kernel) rfl rfl (show 2 < 5 by decide) rfl ?_
  refine n_aload hx dX1_init_20 ?_
  refine n_bipush (v := 64) hx dX1_init_21 (by decide) ?_
  refine n_newI (N := 64) hx dX1_init_23 (by decide) (by decide) (by decide) (by omega) (by omega) (fun q23 => ?_)
  refine n_as (ws' := (h0, .inr (1, [.int 0, .ref q7, .ref q15, .null, .null])) :: ((([] ++ [(q7, .inl (cI, 64, .inl (fun _ => 0)))]) ++ [(q15, .inl (cI, 64, .inl (fun _ => 0)))]) ++ [(q23, .inl (cI, 64, .inl (fun _ => 0)))])) rfl ?_
  refine n_putF (C := RX1) (T := TX1) (N := 5) (k0 := 3) (fs' := [.int 0, .ref q7, .ref q15, .ref q23, .null]) (ty := (.array .int)) hx rfl (by decide) tw_86 dX1_init_25 rfl rfl (by decide +kernel) rfl rfl (show 3 < 5 by decide) rfl ?_
  refine n_aload hx dX1_init_28 ?_
  refine n_bipush (v := 64) hx dX1_init_29 (by decide) ?_
  refine n_newI (N := 64) hx dX1_init_31 (by decide) (by decide) (by decide) (by omega) (by omega) (fun q31 => ?_)
  refine n_as (ws' := (h0, .inr (1, [.int 0, .ref q7, .ref q15, .ref q23, .null])) :: (((([] ++ [(q7, .inl (cI, 64, .inl (fun _ => 0)))]) ++ [(q15, .inl (cI, 64, .inl (fun _ => 0)))]) ++ [(q23, .inl (cI, 64, .inl (fun _ => 0)))]) ++ [(q31, .inl (cI, 64, .inl (fun _ => 0)))])) rfl ?_
  refine n_putF (C := RX1) (T := TX1) (N := 5) (k0 := 4) (fs' := [.int 0, .ref q7, .ref q15, .ref q23, .ref q31]) (ty := (.array .int)) hx rfl (by decide) tw_89 dX1_init_33 rfl rfl (by decide +kernel) rfl rfl (show 4 < 5 by decide) rfl ?_
  exact n_ret hx dX1_init_36 rfl (fun q => if q.2 = 1 then h0 else if q.2 = 2 then q7 else if q.2 = 3 then q15 else if q.2 = 4 then q23 else if q.2 = 5 then q31 else 0) rfl rfl
set_option maxRecDepth 100000 in
set_option maxHeartbeats 4000000 in
theorem k_X3 : Nw_ mX3_init 3 20 pl3_ (0, 20) V0_ 9 240 (fun _ _ _ => True) := by
  refine Nw_.of (by decide) rfl rfl (fun p l e R s m args below meth c dC dI cI cZ h0 A hx hRc hRs _ => ?_)
  refine n_as (ws' := (h0, .inr (3, [.null, .null, .null, .null, .int 0, .null, .null, .null, .null, .null, .int 0])) :: []) rfl ?_
  refine n_aload hx dX3_init_0 ?_
  refine n_obj hx tw_200 dX3_init_1 (by decide) (by decide) ?_
  refine n_aload hx dX3_init_4 ?_
  refine n_bipush (v := 64) hx dX3_init_5 (by decide) ?_
  refine n_newI (N := 64) hx dX3_init_7 (by decide) (by decide) (by decide) (by omega) (by omega) (fun q7 => ?_)
  refine n_as (ws' := (h0, .inr (3, [.null, .null, .null, .null, .int 0, .null, .null, .null, .null, .null, .int 0])) :: ([] ++ [(q7, .inl (cI, 64, .inl (fun _ => 0)))])) rfl ?_
  refine n_putF (C := RX3) (T := TX3) (N := 11) (k0 := 0) (fs' := [.ref q7, .null, .null, .null, .int 0, .null, .null, .null, .null, .null, .int 0]) (ty := (.array .int)) hx rfl (by decide) tw_201 dX3_init_9 rfl rfl (by decide +kernel) rfl rfl (show 0 < 11 by decide) rfl ?_
  refine n_aload hx dX3_init_12 ?_
  refine n_bipush (v := 64) hx dX3_init_13 (by decide) ?_
  refine n_newI (N := 64) hx dX3_init_15 (by decide) (by decide) (by decide) (by omega) (by omega) (fun q15 => ?_)
  refine n_as (ws' := (h0, .inr (3, [.ref q7, .null, .null, .null, .int 0, .null, .null, .null, .null, .null, .int 0])) :: (([] ++ [(q7, .inl (cI, 64, .inl (fun _ => 0)))]) ++ [(q15, .inl (cI, 64, .inl (fun _ => 0)))])) rfl ?_
  refine n_putF (C := RX3) (T := TX3) (N := 11) (k0 := 1) (fs' := [.ref q7, .ref q15, .null, .null, .int 0, .null, .null, .null, .null, .null, .int 0]) (ty := (.array .int)) hx rfl (by decide) tw_204 dX3_init_17 rfl rfl (by decide +kernel) rfl rfl (show 1 < 11 by decide) rfl ?_
  refine n_aload hx dX3_init_20 ?_
  refine n_bipush (v := 64) hx dX3_init_21 (by decide) ?_
  refine n_newI (N := 64) hx dX3_init_23 (by decide) (by decide) (by decide) (by omega) (by omega) (fun q23 => ?_)
  refine n_as (ws' := (h0, .inr (3, [.ref q7, .ref q15, .null, .null, .int 0, .null, .null, .null, .null, .null, .int 0])) :: ((([] ++ [(q7, .inl (cI, 64, .inl (fun _ => 0)))]) ++ [(q15, .inl (cI, 64, .inl (fun _ => 0)))]) ++ [(q23, .inl (cI, 64, .inl (fun _ => 0)))])) rfl ?_
  refine n_putF (C := RX3) (T := TX3) (N := 11) (k0 := 2) (fs' := [.ref q7, .ref q15, .ref q23, .null, .int 0, .null, .null, .null, .null, .null, .int 0]) (ty := (.array .int)) hx rfl (by decide) tw_207 dX3_init_25 rfl rfl (by decide +kernel) rfl rfl (show 2 < 11 by decide) rfl ?_
  refine n_aload hx dX3_init_28 ?_
  refine n_bipush (v := 8) hx dX3_init_29 (by decide) ?_
  refine n_newI (N := 8) hx dX3_init_31 (by decide) (by decide) (by decide) (by omega) (by omega) (fun q31 => ?_)
  refine n_as (ws' := (h0, .inr (3, [.ref q7, .ref q15, .ref q23, .null, .int 0, .null, .null, .null, .null, .null, .int 0])) :: (((([] ++ [(q7, .inl (cI, 64, .inl (fun _ => 0)))]) ++ [(q15, .inl (cI, 64, .inl (fun _ => 0)))]) ++ [(q23, .inl (cI, 64, .inl (fun _ => 0)))]) ++ [(q31, .inl (cI, 8, .inl (fun _ => 0)))])) rfl ?_
  refine n_putF (C := RX3) (T := TX3) (N := 11) (k0 := 3) (fs' := [.ref q7, .ref q15, .ref q23, .ref q31, .int 0, .null, .null, .null, .null, .null, .int 0]) (ty := (.array .int)) hx rfl (by decide) tw_209 dX3_init_33 rfl rfl (by decide +kernel) rfl rfl (show 3 < 11 by decide) rfl ?_
  refine n_aload hx dX3_init_36 ?_
  refine n_bipush (v := 8) hx dX3_init_37 (by decide) ?_
  refine n_newI (N := 8) hx dX3_init_39 (by decide) (by decide) (by decide) (by omega) (by omega) (fun q39 => ?_)
  refine n_as (ws' := (h0, .inr (3, [.ref q7, .ref q15, .ref q23, .ref q31, .int 0, .null, .null, .null, .null, .null, .int 0])) :: ((((([] ++ [(q7, .inl (cI, 64, .inl (fun _ => 0)))]) ++ [(q15, .inl (cI, 64, .inl (fun _ => 0)))]) ++ [(q23, .inl (cI, 64, .inl (fun _ => 0)))]) ++ [(q31, .inl (cI, 8, .inl (fun _ => 0)))]) ++ [(q39, .inl (cI, 8, .inl (fun _ => 0)))])) rfl ?_
  refine n_putF (C := RX3) (T := TX3) (N := 11) (k0 := 5) (fs' := [.ref q7, .ref q15, .ref q23, .ref q31, .int 0, .ref q39, .null, .null, .null, .null, .int 0]) (ty := (.array .int)) hx rfl (by decide) tw_211 dX3_init_41 rfl rfl (by decide +kernel) rfl rfl (show 5 < 11 by decide) rfl ?_
  refine n_aload hx dX3_init_44 ?_
  refine n_bipush (v := 8) hx dX3_init_45 (by decide) ?_
  refine n_newI (N := 8) hx dX3_init_47 (by decide) (by decide) (by decide) (by omega) (by omega) (fun q47 => ?_)
  refine n_as (ws' := (h0, .inr (3, [.ref q7, .ref q15, .ref q23, .ref q31, .int 0, .ref q39, .null, .null, .null, .null, .int 0])) :: (((((([] ++ [(q7, .inl (cI, 64, .inl (fun _ => 0)))]) ++ [(q15, .inl (cI, 64, .inl (fun _ => 0)))]) ++ [(q23, .inl (cI, 64, .inl (fun _ => 0)))]) ++ [(q31, .inl (cI, 8, .inl (fun _ => 0)))]) ++ [(q39, .inl (cI, 8, .inl (fun _ => 0)))]) ++ [(q47, .inl (cI, 8, .inl (fun _ => 0)))])) rfl ?_
  refine n_putF (C := RX3) (T := TX3) (N := 11) (k0 := 6) (fs' := [.ref q7, .ref q15, .ref q23, .ref q31, .int 0, .ref q39, .ref q47, .null, .null, .null, .int 0]) (ty := (.array .int)) hx rfl (by decide) tw_212 dX3_init_49 rfl rfl (by decide +kernel) rfl rfl (show 6 < 11 by decide) rfl ?_
  refine n_aload hx dX3_init_52 ?_
  refine n_bipush (v := 8) hx dX3_init_53 (by decide) ?_
  refine n_newI (N := 8) hx dX3_init_55 (by decide) (by decide) (by decide) (by omega) (by omega) (fun q55 => ?_)
  refine n_as (ws' := (h0, .inr (3, [.ref q7, .ref q15, .ref q23, .ref q31, .int 0, .ref q39, .ref q47, .null, .null, .null, .int 0])) :: ((((((([] ++ [(q7, .inl (cI, 64, .inl (fun _ => 0)))]) ++ [(q15, .inl (cI, 64, .inl (fun _ => 0)))]) ++ [(q23, .inl (cI, 64, .inl (fun _ => 0)))]) ++ [(q31, .inl (cI, 8, .inl (fun _ => 0)))]) ++ [(q39, .inl (cI, 8, .inl (fun _ => 0)))]) ++ [(q47, .inl (cI, 8, .inl (fun _ => 0)))]) ++ [(q55, .inl (cI, 8, .inl (fun _ => 0)))])) rfl ?_
  refine n_putF (C := RX3) (T := TX3) (N := 11) (k0 := 7) (fs' := [.ref q7, .ref q15, .ref q23, .ref q31, .int 0, .ref q39, .ref q47, .ref q55, .null, .null, .int 0]) (ty := (.array .int)) hx rfl (by decide) tw_213 dX3_init_57 rfl rfl (by decide +kernel) rfl rfl (show 7 < 11 by decide) rfl ?_
  refine n_aload hx dX3_init_60 ?_
  refine n_bipush (v := 8) hx dX3_init_61 (by decide) ?_
  refine n_newI (N := 8) hx dX3_init_63 (by decide) (by decide) (by decide) (by omega) (by omega) (fun q63 => ?_)
  refine n_as (ws' := (h0, .inr (3, [.ref q7, .ref q15, .ref q23, .ref q31, .int 0, .ref q39, .ref q47, .ref q55, .null, .null, .int 0])) :: (((((((([] ++ [(q7, .inl (cI, 64, .inl (fun _ => 0)))]) ++ [(q15, .inl (cI, 64, .inl (fun _ => 0)))]) ++ [(q23, .inl (cI, 64, .inl (fun _ => 0)))]) ++ [(q31, .inl (cI, 8, .inl (fun _ => 0)))]) ++ [(q39, .inl (cI, 8, .inl (fun _ => 0)))]) ++ [(q47, .inl (cI, 8, .inl (fun _ => 0)))]) ++ [(q55, .inl (cI, 8, .inl (fun _ => 0)))]) ++ [(q63, .inl (cI, 8, .inl (fun _ => 0)))])) rfl ?_
  refine n_putF (C := RX3) (T := TX3) (N := 11) (k0 := 8) (fs' := [.ref q7, .ref q15, .ref q23, .ref q31, .int 0, .ref q39, .ref q47, .ref q55, .ref q63, .null, .int 0]) (ty := (.array .int)) hx rfl (by decide) tw_214 dX3_init_65 rfl rfl (by decide +kernel) rfl rfl (show 8 < 11 by decide) rfl ?_
  refine n_aload hx dX3_init_68 ?_
  refine n_bipush (v := 8) hx dX3_init_69 (by decide) ?_
  refine n_newI (N := 8) hx dX3_init_71 (by decide) (by decide) (by decide) (by omega) (by omega) (fun q71 => ?_)
  refine n_as (ws' := (h0, .inr (3, [.ref q7, .ref q15, .ref q23, .ref q31, .int 0, .ref q39, .ref q47, .ref q55, .ref q63, .null, .int 0])) :: ((((((((([] ++ [(q7, .inl (cI, 64, .inl (fun _ => 0)))]) ++ [(q15, .inl (cI, 64, .inl (fun _ => 0)))]) ++ [(q23, .inl (cI, 64, .inl (fun _ => 0)))]) ++ [(q31, .inl (cI, 8, .inl (fun _ => 0)))]) ++ [(q39, .inl (cI, 8, .inl (fun _ => 0)))]) ++ [(q47, .inl (cI, 8, .inl (fun _ => 0)))]) ++ [(q55, .inl (cI, 8, .inl (fun _ => 0)))]) ++ [(q63, .inl (cI, 8, .inl (fun _ => 0)))]) ++ [(q71, .inl (cI, 8, .inl (fun _ => 0)))])) rfl ?_
  refine n_putF (C := RX3) (T := TX3) (N := 11) (k0 := 9) (fs' := [.ref q7, .ref q15, .ref q23, .ref q31, .int 0, .ref q39, .ref q47, .ref q55, .ref q63, .ref q71, .int 0]) (ty := (.array .int)) hx rfl (by decide) tw_215 dX3_init_73 rfl rfl (by decide +kernel) rfl rfl (show 9 < 11 by decide) rfl ?_
  exact n_ret hx dX3_init_76 rfl (fun q => if q.2 = 20 then h0 else if q.2 = 21 then q7 else if q.2 = 22 then q15 else if q.2 = 23 then q23 else if q.2 = 24 then q31 else if q.2 = 25 then q39 else if q.2 = 26 then q47 else if q.2 = 27 then q55 else if q.2 = 28 then q63 else if q.2 = 29 then q71 else 0) rfl rfl
set_option maxRecDepth 100000 in
set_option maxHeartbeats 4000000 in
theorem k_X4 {g : Nat} : Nw_ mX4_init 4 6 (pl4_ g) (g, 6) V0_ 5 2560 (fun _ _ _ => True) := by
  refine Nw_.of (by decide) rfl rfl (fun p l e R s m args below meth c dC dI cI cZ h0 A hx hRc hRs _ => ?_)
  refine n_as (ws' := (h0, .inr (4, [.null, .null, .null, .null, .null])) :: []) rfl ?_
  refine n_aload hx dX4_init_0 ?_
  refine n_obj hx tw_108 dX4_init_1 (by decide) (by decide) ?_
  refine n_aload hx dX4_init_4 ?_
  refine n_sipush (v := 512) hx dX4_init_5 (by decide) ?_
  refine n_newI (N := 512) hx dX4_init_8 (by decide) (by decide) (by decide) (by omega) (by omega) (fun q8 => ?_)
  refine n_as (ws' := (h0, .inr (4, [.null, .null, .null, .null, .null])) :: ([] ++ [(q8, .inl (cI, 512, .inl (fun _ => 0)))])) rfl ?_
  refine n_putF (C := RX4) (T := TX4) (N := 5) (k0 := 0) (fs' := [.ref q8, .null, .null, .null, .null]) (ty := (.array .int)) hx rfl (by decide) tw_109 dX4_init_10 rfl rfl (by decide +kernel) rfl rfl (show 0 < 5 by decide) rfl ?_
  refine n_aload hx dX4_init_13 ?_
  refine n_sipush (v := 512) hx dX4_init_14 (by decide) ?_
  refine n_newI (N := 512) hx dX4_init_17 (by decide) (by decide) (by decide) (by omega) (by omega) (fun q17 => ?_)
  refine n_as (ws' := (h0, .inr (4, [.ref q8, .null, .null, .null, .null])) :: (([] ++ [(q8, .inl (cI, 512, .inl (fun _ => 0)))]) ++ [(q17, .inl (cI, 512, .inl (fun _ => 0)))])) rfl ?_
  refine n_putF (C := RX4) (T := TX4) (N := 5) (k0 := 1) (fs' := [.ref q8, .ref q17, .null, .null, .null]) (ty := (.array .int)) hx rfl (by decide) tw_112 dX4_init_19 rfl rfl (by decide +kernel) rfl rfl (show 1 < 5 by decide) rfl ?_
  refine n_aload hx dX4_init_22 ?_
  refine n_sipush (v := 512) hx dX4_init_23 (by decide) ?_
  refine n_newI (N := 512) hx dX4_init_26 (by decide) (by decide) (by decide) (by omega) (by omega) (fun q26 => ?_)
  refine n_as (ws' := (h0, .inr (4, [.ref q8, .ref q17, .null, .null, .null])) :: ((([] ++ [(q8, .inl (cI, 512, .inl (fun _ => 0)))]) ++ [(q17, .inl (cI, 512, .inl (fun _ => 0)))]) ++ [(q26, .inl (cI, 512, .inl (fun _ => 0)))])) rfl ?_
  refine n_putF (C := RX4) (T := TX4) (N := 5) (k0 := 2) (fs' := [.ref q8, .ref q17, .ref q26, .null, .null]) (ty := (.array .int)) hx rfl (by decide) tw_115 dX4_init_28 rfl rfl (by decide +kernel) rfl rfl (show 2 < 5 by decide) rfl ?_
  refine n_aload hx dX4_init_31 ?_
  refine n_sipush (v := 512) hx dX4_init_32 (by decide) ?_
  refine n_newI (N := 512) hx dX4_init_35 (by decide) (by decide) (by decide) (by omega) (by omega) (fun q35 => ?_)
  refine n_as (ws' := (h0, .inr (4, [.ref q8, .ref q17, .ref q26, .null, .null])) :: (((([] ++ [(q8, .inl (cI, 512, .inl (fun _ => 0)))]) ++ [(q17, .inl (cI, 512, .inl (fun _ => 0)))]) ++ [(q26, .inl (cI, 512, .inl (fun _ => 0)))]) ++ [(q35, .inl (cI, 512, .inl (fun _ => 0)))])) rfl ?_
  refine n_putF (C := RX4) (T := TX4) (N := 5) (k0 := 3) (fs' := [.ref q8, .ref q17, .ref q26, .ref q35, .null]) (ty := (.array .int)) hx rfl (by decide) tw_117 dX4_init_37 rfl rfl (by decide +kernel) rfl rfl (show 3 < 5 by decide) rfl ?_
  refine n_aload hx dX4_init_40 ?_
  refine n_sipush (v := 512) hx dX4_init_41 (by decide) ?_
  refine n_newI (N := 512) hx dX4_init_44 (by decide) (by decide) (by decide) (by omega) (by omega) (fun q44 => ?_)
  refine n_as (ws' := (h0, .inr (4, [.ref q8, .ref q17, .ref q26, .ref q35, .null])) :: ((((([] ++ [(q8, .inl (cI, 512, .inl (fun _ => 0)))]) ++ [(q17, .inl (cI, 512, .inl (fun _ => 0)))]) ++ [(q26, .inl (cI, 512, .inl (fun _ => 0)))]) ++ [(q35, .inl (cI, 512, .inl (fun _ => 0)))]) ++ [(q44, .inl (cI, 512, .inl (fun _ => 0)))])) rfl ?_
  refine n_putF (C := RX4) (T := TX4) (N := 5) (k0 := 4) (fs' := [.ref q8, .ref q17, .ref q26, .ref q35, .ref q44]) (ty := (.array .int)) hx rfl (by decide) tw_119 dX4_init_46 rfl rfl (by decide +kernel) rfl rfl (show 4 < 5 by decide) rfl ?_
  exact n_ret hx dX4_init_49 rfl (fun q => if q.2 = 6 then h0 else if q.2 = 7 then q8 else if q.2 = 8 then q17 else if q.2 = 9 then q26 else if q.2 = 10 then q35 else if q.2 = 11 then q44 else 0) rfl rfl
set_option maxRecDepth 100000 in
set_option maxHeartbeats 4000000 in
theorem k_X5 {g : Nat} : Nw_ mX5_init 5 12 (pl5_ g) (g, 12) V0_ 2 128 (fun _ _ _ => True) := by
  refine Nw_.of (by decide) rfl rfl (fun p l e R s m args below meth c dC dI cI cZ h0 A hx hRc hRs _ => ?_)
  refine n_as (ws' := (h0, .inr (5, [.null, .null])) :: []) rfl ?_
  refine n_aload hx dX5_init_0 ?_
  refine n_obj hx tw_137 dX5_init_1 (by decide) (by decide) ?_
  refine n_aload hx dX5_init_4 ?_
  refine n_bipush (v := 64) hx dX5_init_5 (by decide) ?_
  refine n_newI (N := 64) hx dX5_init_7 (by decide) (by decide) (by decide) (by omega) (by omega) (fun q7 => ?_)
  refine n_as (ws' := (h0, .inr (5, [.null, .null])) :: ([] ++ [(q7, .inl (cI, 64, .inl (fun _ => 0)))])) rfl ?_
  refine n_putF (C := RX5) (T := TX5) (N := 2) (k0 := 0) (fs' := [.ref q7, .null]) (ty := (.array .int)) hx rfl (by decide) tw_138 dX5_init_9 rfl rfl (by decide +kernel) rfl rfl (show 0 < 2 by decide) rfl ?_
  refine n_aload hx dX5_init_12 ?_
  refine n_bipush (v := 64) hx dX5_init_13 (by decide) ?_
  refine n_newI (N := 64) hx dX5_init_15 (by decide) (by decide) (by decide) (by omega) (by omega) (fun q15 => ?_)
  refine n_as (ws' := (h0, .inr (5, [.ref q7, .null])) :: (([] ++ [(q7, .inl (cI, 64, .inl (fun _ => 0)))]) ++ [(q15, .inl (cI, 64, .inl (fun _ => 0)))])) rfl ?_
  refine n_putF (C := RX5) (T := TX5) (N := 2) (k0 := 1) (fs' := [.ref q7, .ref q15]) (ty := (.array .int)) hx rfl (by decide) tw_139 dX5_init_17 rfl rfl (by decide +kernel) rfl rfl (show 1 < 2 by decide) rfl ?_
  exact n_ret hx dX5_init_20 rfl (fun q => if q.2 = 12 then h0 else if q.2 = 13 then q7 else if q.2 = 14 then q15 else 0) rfl rfl
set_option maxRecDepth 100000 in
set_option maxHeartbeats 4000000 in
theorem k_X6 : Nw_ mX6_init 6 30 pl6_ (0, 30) V0_ 1 64 (fun _ _ _ => True) := by
  refine Nw_.of (by decide) rfl rfl (fun p l e R s m args below meth c dC dI cI cZ h0 A hx hRc hRs _ => ?_)
  refine n_as (ws' := (h0, .inr (6, [.null])) :: []) rfl ?_
  refine n_aload hx dX6_init_0 ?_
  refine n_obj hx tw_245 dX6_init_1 (by decide) (by decide) ?_
  refine n_aload hx dX6_init_4 ?_
  refine n_bipush (v := 64) hx dX6_init_5 (by decide) ?_
  refine n_newI (N := 64) hx dX6_init_7 (by decide) (by decide) (by decide) (by omega) (by omega) (fun q7 => ?_)
  refine n_as (ws' := (h0, .inr (6, [.null])) :: ([] ++ [(q7, .inl (cI, 64, .inl (fun _ => 0)))])) rfl ?_
  refine n_putF (C := RX6) (T := TX6) (N := 1) (k0 := 0) (fs' := [.ref q7]) (ty := (.array .int)) hx rfl (by decide) tw_246 dX6_init_9 rfl rfl (by decide +kernel) rfl rfl (show 0 < 1 by decide) rfl ?_
  exact n_ret hx dX6_init_12 rfl (fun q => if q.2 = 30 then h0 else if q.2 = 31 then q7 else 0) rfl rfl
set_option maxRecDepth 100000 in
set_option maxHeartbeats 4000000 in
theorem k_X2 {g : Nat} : Nw_ mX2_init 2 0 (plS_ g) (g, 0) V0_ 17 3086 (fun _ _ _ => True) := by
  refine Nw_.of (by decide) rfl rfl (fun p l e R s m args below meth c dC dI cI cZ h0 A hx hRc hRs _ => ?_)
  refine n_as (ws' := (h0, .inr (2, [.int 0, .int 0, .int 0, .null, .null, .null, .null, .null])) :: []) rfl ?_
  refine n_aload hx dX2_init_0 ?_
  refine n_obj hx tw_73 dX2_init_1 (by decide) (by decide) ?_
  refine n_aload hx dX2_init_4 ?_
  refine n_newc (C := RX1) (T := TX1) (N := 5) (fs := bf_ (k_fld 0 1)) tyX1 tyX1_ok hx (ci := 1) rfl dX2_init_5 tw_74 tw_75 tw_39 bk_X1 (by omega) (by omega) (fun q5 => ?_)
  refine n_dup hx dX2_init_8 ?_
  refine n_call hx (k_X1 (g := g)) mi_X1_init rfl rfl (host := "IntervalRouting") (List.mem_of_getElem? (i := 1) rfl) dX2_init_9 ⟨by decide, by decide⟩ (by omega) (by omega) (show 2 ≤ 8 by decide) (fun ad9 e9 => ?_)
  subst e9
  refine n_as (ws' := (h0, .inr (2, [.int 0, .int 0, .int 0, .null, .null, .null, .null, .null])) :: ([] ++ w_of ad9 cI cZ (pl1_ g) V0_)) rfl ?_
  refine n_putF (C := RX2) (T := TX2) (N := 8) (k0 := 3) (fs' := [.int 0, .int 0, .int 0, .ref (ad9 (g, 1)), .null, .null, .null, .null]) (ty := (.object "IntervalRouting$Links")) hx rfl (by decide) tw_166 dX2_init_12 rfl rfl (by decide +kernel) rfl rfl (show 3 < 8 by decide) rfl ?_
  refine n_aload hx dX2_init_15 ?_
  refine n_newc (C := RX4) (T := TX4) (N := 5) (fs := bf_ (k_fld 0 6)) tyX4 tyX4_ok hx (ci := 4) rfl dX2_init_16 tw_103 tw_104 tw_40 bk_X4 (by omega) (by omega) (fun q16 => ?_)
  refine n_dup hx dX2_init_19 ?_
  refine n_call hx (k_X4 (g := g)) mi_X4_init rfl rfl (host := "IntervalRouting") (List.mem_of_getElem? (i := 2) rfl) dX2_init_20 ⟨by decide, by decide⟩ (by omega) (by omega) (show 2 ≤ 8 by decide) (fun ad20 e20 => ?_)
  subst e20
  refine n_as (ws' := (h0, .inr (2, [.int 0, .int 0, .int 0, .ref (ad9 (g, 1)), .null, .null, .null, .null])) :: (([] ++ w_of ad9 cI cZ (pl1_ g) V0_) ++ w_of ad20 cI cZ (pl4_ g) V0_)) rfl ?_
  refine n_putF (C := RX2) (T := TX2) (N := 8) (k0 := 4) (fs' := [.int 0, .int 0, .int 0, .ref (ad9 (g, 1)), .ref (ad20 (g, 6)), .null, .null, .null]) (ty := (.object "IntervalRouting$Tables")) hx rfl (by decide) tw_169 dX2_init_23 rfl rfl (by decide +kernel) rfl rfl (show 4 < 8 by decide) rfl ?_
  refine n_aload hx dX2_init_26 ?_
  refine n_newc (C := RX5) (T := TX5) (N := 2) (fs := bf_ (k_fld 0 12)) tyX5 tyX5_ok hx (ci := 5) rfl dX2_init_27 tw_132 tw_133 tw_41 bk_X5 (by omega) (by omega) (fun q27 => ?_)
  refine n_dup hx dX2_init_30 ?_
  refine n_call hx (k_X5 (g := g)) mi_X5_init rfl rfl (host := "IntervalRouting") (List.mem_of_getElem? (i := 3) rfl) dX2_init_31 ⟨by decide, by decide⟩ (by omega) (by omega) (show 2 ≤ 8 by decide) (fun ad31 e31 => ?_)
  subst e31
  refine n_as (ws' := (h0, .inr (2, [.int 0, .int 0, .int 0, .ref (ad9 (g, 1)), .ref (ad20 (g, 6)), .null, .null, .null])) :: ((([] ++ w_of ad9 cI cZ (pl1_ g) V0_) ++ w_of ad20 cI cZ (pl4_ g) V0_) ++ w_of ad31 cI cZ (pl5_ g) V0_)) rfl ?_
  refine n_putF (C := RX2) (T := TX2) (N := 8) (k0 := 5) (fs' := [.int 0, .int 0, .int 0, .ref (ad9 (g, 1)), .ref (ad20 (g, 6)), .ref (ad31 (g, 12)), .null, .null]) (ty := (.object "IntervalRouting$Vectors")) hx rfl (by decide) tw_172 dX2_init_34 rfl rfl (by decide +kernel) rfl rfl (show 5 < 8 by decide) rfl ?_
  refine n_aload hx dX2_init_37 ?_
  refine n_newc (C := RX0) (T := TX0) (N := 2) (fs := bf_ (k_fld 0 15)) tyX0 tyX0_ok hx (ci := 0) rfl dX2_init_38 tw_145 tw_146 tw_42 bk_X0 (by omega) (by omega) (fun q38 => ?_)
  refine n_dup hx dX2_init_41 ?_
  refine n_call hx (k_X0 (g := g)) mi_X0_init rfl rfl (host := "IntervalRouting") (List.mem_of_getElem? (i := 4) rfl) dX2_init_42 ⟨by decide, by decide⟩ (by omega) (by omega) (show 2 ≤ 8 by decide) (fun ad42 e42 => ?_)
  subst e42
  refine n_as (ws' := (h0, .inr (2, [.int 0, .int 0, .int 0, .ref (ad9 (g, 1)), .ref (ad20 (g, 6)), .ref (ad31 (g, 12)), .null, .null])) :: (((([] ++ w_of ad9 cI cZ (pl1_ g) V0_) ++ w_of ad20 cI cZ (pl4_ g) V0_) ++ w_of ad31 cI cZ (pl5_ g) V0_) ++ w_of ad42 cI cZ (pl0_ g) V0_)) rfl ?_
  refine n_putF (C := RX2) (T := TX2) (N := 8) (k0 := 6) (fs' := [.int 0, .int 0, .int 0, .ref (ad9 (g, 1)), .ref (ad20 (g, 6)), .ref (ad31 (g, 12)), .ref (ad42 (g, 15)), .null]) (ty := (.object "IntervalRouting$Journal")) hx rfl (by decide) tw_174 dX2_init_45 rfl rfl (by decide +kernel) rfl rfl (show 6 < 8 by decide) rfl ?_
  refine n_aload hx dX2_init_48 ?_
  refine n_bipush (v := 64) hx dX2_init_49 (by decide) ?_
  refine n_newI (N := 64) hx dX2_init_51 (by decide) (by decide) (by decide) (by omega) (by omega) (fun q51 => ?_)
  refine n_as (ws' := (h0, .inr (2, [.int 0, .int 0, .int 0, .ref (ad9 (g, 1)), .ref (ad20 (g, 6)), .ref (ad31 (g, 12)), .ref (ad42 (g, 15)), .null])) :: ((((([] ++ w_of ad9 cI cZ (pl1_ g) V0_) ++ w_of ad20 cI cZ (pl4_ g) V0_) ++ w_of ad31 cI cZ (pl5_ g) V0_) ++ w_of ad42 cI cZ (pl0_ g) V0_) ++ [(q51, .inl (cI, 64, .inl (fun _ => 0)))])) rfl ?_
  refine n_putF (C := RX2) (T := TX2) (N := 8) (k0 := 7) (fs' := [.int 0, .int 0, .int 0, .ref (ad9 (g, 1)), .ref (ad20 (g, 6)), .ref (ad31 (g, 12)), .ref (ad42 (g, 15)), .ref q51]) (ty := (.array .int)) hx rfl (by decide) tw_176 dX2_init_53 rfl rfl (by decide +kernel) rfl rfl (show 7 < 8 by decide) rfl ?_
  exact n_ret hx dX2_init_56 rfl (fun q => if q.2 = 0 then h0 else if q.2 ≤ 5 then ad9 q else if q.2 ≤ 11 then ad20 q else if q.2 ≤ 14 then ad31 q else if q.2 ≤ 16 then ad42 q else q51) rfl rfl
