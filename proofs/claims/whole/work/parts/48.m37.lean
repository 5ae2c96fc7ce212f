/-! the constructor of the reference: written by wip/whole/m37.py -/
set_option maxRecDepth 100000 in
set_option maxHeartbeats 4000000 in
theorem k_X8 {ad0 : Nat × Nat → Nat} : Nw_ mX8_init 8 33 plM_ (0, 33) VM_ 12 11323 (E8_ ad0) := by
  refine Nw_.of (by decide) rfl rfl (fun p l e R s m args below meth c dC dI cI cZ h0 A hx hRc hRs hE => ?_)
  refine n_as (ws' := (h0, .inr (8, [.int 0, .null, .null, .null, .int 0, .null, .null, .null, .null, .null, .null, .null, .null, .null, .int 0])) :: []) rfl ?_
  refine n_aload hx dX8_init_0 ?_
  refine n_obj hx tw_675 dX8_init_1 (by decide) (by decide) ?_
  refine n_aload hx dX8_init_4 ?_
  refine n_iconst (v := 4) hx dX8_init_5 (by decide) ?_
  refine n_put (C := RX8) (T := TX8) (N := 15) (k0 := 0) (fs' := [.int 4, .null, .null, .null, .int 0, .null, .null, .null, .null, .null, .null, .null, .null, .null, .int 0]) (ty := .int) hx rfl (by decide) tw_680 dX8_init_6 rfl (by decide +kernel) rfl rfl (show 0 < 15 by decide) rfl ?_
  refine n_aload hx dX8_init_9 ?_
  refine n_sipush (v := 3596) hx dX8_init_10 (by decide) ?_
  refine n_newI (N := 3596) hx dX8_init_13 (by decide) (by decide) (by decide) (by omega) (by omega) (fun q13 => ?_)
  refine n_as (ws' := (h0, .inr (8, [.int 4, .null, .null, .null, .int 0, .null, .null, .null, .null, .null, .null, .null, .null, .null, .int 0])) :: ([] ++ [(q13, .inl (cI, 3596, .inl (fun _ => 0)))])) rfl ?_
  refine n_putF (C := RX8) (T := TX8) (N := 15) (k0 := 1) (fs' := [.int 4, .ref q13, .null, .null, .int 0, .null, .null, .null, .null, .null, .null, .null, .null, .null, .int 0]) (ty := (.array .int)) hx rfl (by decide) tw_681 dX8_init_15 rfl rfl (by decide +kernel) rfl rfl (show 1 < 15 by decide) rfl ?_
  refine n_aload hx dX8_init_18 ?_
  refine n_sipush (v := 3596) hx dX8_init_19 (by decide) ?_
  refine n_newI (N := 3596) hx dX8_init_22 (by decide) (by decide) (by decide) (by omega) (by omega) (fun q22 => ?_)
  refine n_as (ws' := (h0, .inr (8, [.int 4, .ref q13, .null, .null, .int 0, .null, .null, .null, .null, .null, .null, .null, .null, .null, .int 0])) :: (([] ++ [(q13, .inl (cI, 3596, .inl (fun _ => 0)))]) ++ [(q22, .inl (cI, 3596, .inl (fun _ => 0)))])) rfl ?_
  refine n_putF (C := RX8) (T := TX8) (N := 15) (k0 := 2) (fs' := [.int 4, .ref q13, .ref q22, .null, .int 0, .null, .null, .null, .null, .null, .null, .null, .null, .null, .int 0]) (ty := (.array .int)) hx rfl (by decide) tw_682 dX8_init_24 rfl rfl (by decide +kernel) rfl rfl (show 2 < 15 by decide) rfl ?_
  refine n_aload hx dX8_init_27 ?_
  refine n_sipush (v := 3596) hx dX8_init_28 (by decide) ?_
  refine n_newI (N := 3596) hx dX8_init_31 (by decide) (by decide) (by decide) (by omega) (by omega) (fun q31 => ?_)
  refine n_as (ws' := (h0, .inr (8, [.int 4, .ref q13, .ref q22, .null, .int 0, .null, .null, .null, .null, .null, .null, .null, .null, .null, .int 0])) :: ((([] ++ [(q13, .inl (cI, 3596, .inl (fun _ => 0)))]) ++ [(q22, .inl (cI, 3596, .inl (fun _ => 0)))]) ++ [(q31, .inl (cI, 3596, .inl (fun _ => 0)))])) rfl ?_
  refine n_putF (C := RX8) (T := TX8) (N := 15) (k0 := 3) (fs' := [.int 4, .ref q13, .ref q22, .ref q31, .int 0, .null, .null, .null, .null, .null, .null, .null, .null, .null, .int 0]) (ty := (.array .int)) hx rfl (by decide) tw_683 dX8_init_33 rfl rfl (by decide +kernel) rfl rfl (show 3 < 15 by decide) rfl ?_
  refine n_aload hx dX8_init_36 ?_
  refine n_bipush (v := 10) hx dX8_init_37 (by decide) ?_
  refine n_newI (N := 10) hx dX8_init_39 (by decide) (by decide) (by decide) (by omega) (by omega) (fun q39 => ?_)
  refine n_dup hx dX8_init_41 ?_
  refine n_iconst (v := 0) hx dX8_init_42 (by decide) ?_
  refine n_iconst (v := 4) hx dX8_init_43 (by decide) ?_
  refine n_iast (j := 0) hx dX8_init_44 (by decide) (by decide) (by decide) ?_
  refine n_dup hx dX8_init_45 ?_
  refine n_iconst (v := 1) hx dX8_init_46 (by decide) ?_
  refine n_bipush (v := 13) hx dX8_init_47 (by decide) ?_
  refine n_iast (j := 1) hx dX8_init_49 (by decide) (by decide) (by decide) ?_
  refine n_dup hx dX8_init_50 ?_
  refine n_iconst (v := 2) hx dX8_init_51 (by decide) ?_
  refine n_iconst (v := 0) hx dX8_init_52 (by decide) ?_
  refine n_iast (j := 2) hx dX8_init_53 (by decide) (by decide) (by decide) ?_
  refine n_dup hx dX8_init_54 ?_
  refine n_iconst (v := 3) hx dX8_init_55 (by decide) ?_
  refine n_iconst (v := 1) hx dX8_init_56 (by decide) ?_
  refine n_iast (j := 3) hx dX8_init_57 (by decide) (by decide) (by decide) ?_
  refine n_dup hx dX8_init_58 ?_
  refine n_iconst (v := 4) hx dX8_init_59 (by decide) ?_
  refine n_iconst (v := 0) hx dX8_init_60 (by decide) ?_
  refine n_iast (j := 4) hx dX8_init_61 (by decide) (by decide) (by decide) ?_
  refine n_dup hx dX8_init_62 ?_
  refine n_iconst (v := 5) hx dX8_init_63 (by decide) ?_
  refine n_iconst (v := 0) hx dX8_init_64 (by decide) ?_
  refine n_iast (j := 5) hx dX8_init_65 (by decide) (by decide) (by decide) ?_
  refine n_dup hx dX8_init_66 ?_
  refine n_bipush (v := 6) hx dX8_init_67 (by decide) ?_
  refine n_sipush (v := 4000) hx dX8_init_69 (by decide) ?_
  refine n_iast (j := 6) hx dX8_init_72 (by decide) (by decide) (by decide) ?_
  refine n_dup hx dX8_init_73 ?_
  refine n_bipush (v := 7) hx dX8_init_74 (by decide) ?_
  refine n_iconst (v := 0) hx dX8_init_76 (by decide) ?_
  refine n_iast (j := 7) hx dX8_init_77 (by decide) (by decide) (by decide) ?_
  refine n_dup hx dX8_init_78 ?_
  refine n_bipush (v := 8) hx dX8_init_79 (by decide) ?_
  refine n_iconst (v := 4) hx dX8_init_81 (by decide) ?_
  refine n_iast (j := 8) hx dX8_init_82 (by decide) (by decide) (by decide) ?_
  refine n_dup hx dX8_init_83 ?_
  refine n_bipush (v := 9) hx dX8_init_84 (by decide) ?_
  refine n_bipush (v := 8) hx dX8_init_86 (by decide) ?_
  refine n_iast (j := 9) hx dX8_init_88 (by decide) (by decide) (by decide) ?_
  refine n_as (ws' := (h0, .inr (8, [.int 4, .ref q13, .ref q22, .ref q31, .int 0, .null, .null, .null, .null, .null, .null, .null, .null, .null, .int 0])) :: (((([] ++ [(q13, .inl (cI, 3596, .inl (fun _ => 0)))]) ++ [(q22, .inl (cI, 3596, .inl (fun _ => 0)))]) ++ [(q31, .inl (cI, 3596, .inl (fun _ => 0)))]) ++ [(q39, .inl (cI, 10, .inl (upd (upd (upd (upd (upd (upd (upd (upd (upd (upd (fun _ => 0) 0 4) 1 13) 2 0) 3 1) 4 0) 5 0) 6 4000) 7 0) 8 4) 9 8)))])) rfl ?_
  refine n_putF (C := RX8) (T := TX8) (N := 15) (k0 := 5) (fs' := [.int 4, .ref q13, .ref q22, .ref q31, .int 0, .ref q39, .null, .null, .null, .null, .null, .null, .null, .null, .int 0]) (ty := (.array .int)) hx rfl (by decide) tw_685 dX8_init_89 rfl rfl (by decide +kernel) rfl rfl (show 5 < 15 by decide) rfl ?_
  refine n_aload hx dX8_init_92 ?_
  refine n_bipush (v := 10) hx dX8_init_93 (by decide) ?_
  refine n_newI (N := 10) hx dX8_init_95 (by decide) (by decide) (by decide) (by omega) (by omega) (fun q95 => ?_)
  refine n_dup hx dX8_init_97 ?_
  refine n_iconst (v := 0) hx dX8_init_98 (by decide) ?_
  refine n_iconst (v := 1) hx dX8_init_99 (by decide) ?_
  refine n_iast (j := 0) hx dX8_init_100 (by decide) (by decide) (by decide) ?_
  refine n_dup hx dX8_init_101 ?_
  refine n_iconst (v := 1) hx dX8_init_102 (by decide) ?_
  refine n_iconst (v := 1) hx dX8_init_103 (by decide) ?_
  refine n_iast (j := 1) hx dX8_init_104 (by decide) (by decide) (by decide) ?_
  refine n_dup hx dX8_init_105 ?_
  refine n_iconst (v := 2) hx dX8_init_106 (by decide) ?_
  refine n_iconst (v := 0) hx dX8_init_107 (by decide) ?_
  refine n_iast (j := 2) hx dX8_init_108 (by decide) (by decide) (by decide) ?_
  refine n_dup hx dX8_init_109 ?_
  refine n_iconst (v := 3) hx dX8_init_110 (by decide) ?_
  refine n_iconst (v := 0) hx dX8_init_111 (by decide) ?_
  refine n_iast (j := 3) hx dX8_init_112 (by decide) (by decide) (by decide) ?_
  refine n_dup hx dX8_init_113 ?_
  refine n_iconst (v := 4) hx dX8_init_114 (by decide) ?_
  refine n_iconst (v := 1) hx dX8_init_115 (by decide) ?_
  refine n_iast (j := 4) hx dX8_init_116 (by decide) (by decide) (by decide) ?_
  refine n_dup hx dX8_init_117 ?_
  refine n_iconst (v := 5) hx dX8_init_118 (by decide) ?_
  refine n_iconst (v := 1) hx dX8_init_119 (by decide) ?_
  refine n_iast (j := 5) hx dX8_init_120 (by decide) (by decide) (by decide) ?_
  refine n_dup hx dX8_init_121 ?_
  refine n_bipush (v := 6) hx dX8_init_122 (by decide) ?_
  refine n_bipush (v := 100) hx dX8_init_124 (by decide) ?_
  refine n_iast (j := 6) hx dX8_init_126 (by decide) (by decide) (by decide) ?_
  refine n_dup hx dX8_init_127 ?_
  refine n_bipush (v := 7) hx dX8_init_128 (by decide) ?_
  refine n_iconst (v := 0) hx dX8_init_130 (by decide) ?_
  refine n_iast (j := 7) hx dX8_init_131 (by decide) (by decide) (by decide) ?_
  refine n_dup hx dX8_init_132 ?_
  refine n_bipush (v := 8) hx dX8_init_133 (by decide) ?_
  refine n_iconst (v := 1) hx dX8_init_135 (by decide) ?_
  refine n_iast (j := 8) hx dX8_init_136 (by decide) (by decide) (by decide) ?_
  refine n_dup hx dX8_init_137 ?_
  refine n_bipush (v := 9) hx dX8_init_138 (by decide) ?_
  refine n_iconst (v := 1) hx dX8_init_140 (by decide) ?_
  refine n_iast (j := 9) hx dX8_init_141 (by decide) (by decide) (by decide) ?_
  refine n_as (ws' := (h0, .inr (8, [.int 4, .ref q13, .ref q22, .ref q31, .int 0, .ref q39, .null, .null, .null, .null, .null, .null, .null, .null, .int 0])) :: ((((([] ++ [(q13, .inl (cI, 3596, .inl (fun _ => 0)))]) ++ [(q22, .inl (cI, 3596, .inl (fun _ => 0)))]) ++ [(q31, .inl (cI, 3596, .inl (fun _ => 0)))]) ++ [(q39, .inl (cI, 10, .inl (upd (upd (upd (upd (upd (upd (upd (upd (upd (upd (fun _ => 0) 0 4) 1 13) 2 0) 3 1) 4 0) 5 0) 6 4000) 7 0) 8 4) 9 8)))]) ++ [(q95, .inl (cI, 10, .inl (upd (upd (upd (upd (upd (upd (upd (upd (upd (upd (fun _ => 0) 0 1) 1 1) 2 0) 3 0) 4 1) 5 1) 6 100) 7 0) 8 1) 9 1)))])) rfl ?_
  refine n_putF (C := RX8) (T := TX8) (N := 15) (k0 := 6) (fs' := [.int 4, .ref q13, .ref q22, .ref q31, .int 0, .ref q39, .ref q95, .null, .null, .null, .null, .null, .null, .null, .int 0]) (ty := (.array .int)) hx rfl (by decide) tw_686 dX8_init_142 rfl rfl (by decide +kernel) rfl rfl (show 6 < 15 by decide) rfl ?_
  refine n_aload hx dX8_init_145 ?_
  refine n_bipush (v := 10) hx dX8_init_146 (by decide) ?_
  refine n_newI (N := 10) hx dX8_init_148 (by decide) (by decide) (by decide) (by omega) (by omega) (fun q148 => ?_)
  refine n_dup hx dX8_init_150 ?_
  refine n_iconst (v := 0) hx dX8_init_151 (by decide) ?_
  refine n_bipush (v := 20) hx dX8_init_152 (by decide) ?_
  refine n_iast (j := 0) hx dX8_init_154 (by decide) (by decide) (by decide) ?_
  refine n_dup hx dX8_init_155 ?_
  refine n_iconst (v := 1) hx dX8_init_156 (by decide) ?_
  refine n_bipush (v := 100) hx dX8_init_157 (by decide) ?_
  refine n_iast (j := 1) hx dX8_init_159 (by decide) (by decide) (by decide) ?_
  refine n_dup hx dX8_init_160 ?_
  refine n_iconst (v := 2) hx dX8_init_161 (by decide) ?_
  refine n_iconst (v := 2) hx dX8_init_162 (by decide) ?_
  refine n_iast (j := 2) hx dX8_init_163 (by decide) (by decide) (by decide) ?_
  refine n_dup hx dX8_init_164 ?_
  refine n_iconst (v := 3) hx dX8_init_165 (by decide) ?_
  refine n_iconst (v := 2) hx dX8_init_166 (by decide) ?_
  refine n_iast (j := 3) hx dX8_init_167 (by decide) (by decide) (by decide) ?_
  refine n_dup hx dX8_init_168 ?_
  refine n_iconst (v := 4) hx dX8_init_169 (by decide) ?_
  refine n_iconst (v := 0) hx dX8_init_170 (by decide) ?_
  refine n_iast (j := 4) hx dX8_init_171 (by decide) (by decide) (by decide) ?_
  refine n_dup hx dX8_init_172 ?_
  refine n_iconst (v := 5) hx dX8_init_173 (by decide) ?_
  refine n_iconst (v := 0) hx dX8_init_174 (by decide) ?_
  refine n_iast (j := 5) hx dX8_init_175 (by decide) (by decide) (by decide) ?_
  refine n_dup hx dX8_init_176 ?_
  refine n_bipush (v := 6) hx dX8_init_177 (by decide) ?_
  refine n_sipush (v := 30000) hx dX8_init_179 (by decide) ?_
  refine n_iast (j := 6) hx dX8_init_182 (by decide) (by decide) (by decide) ?_
  refine n_dup hx dX8_init_183 ?_
  refine n_bipush (v := 7) hx dX8_init_184 (by decide) ?_
  refine n_iconst (v := 1) hx dX8_init_186 (by decide) ?_
  refine n_iast (j := 7) hx dX8_init_187 (by decide) (by decide) (by decide) ?_
  refine n_dup hx dX8_init_188 ?_
  refine n_bipush (v := 8) hx dX8_init_189 (by decide) ?_
  refine n_bipush (v := 20) hx dX8_init_191 (by decide) ?_
  refine n_iast (j := 8) hx dX8_init_193 (by decide) (by decide) (by decide) ?_
  refine n_dup hx dX8_init_194 ?_
  refine n_bipush (v := 9) hx dX8_init_195 (by decide) ?_
  refine n_bipush (v := 50) hx dX8_init_197 (by decide) ?_
  refine n_iast (j := 9) hx dX8_init_199 (by decide) (by decide) (by decide) ?_
  refine n_as (ws' := (h0, .inr (8, [.int 4, .ref q13, .ref q22, .ref q31, .int 0, .ref q39, .ref q95, .null, .null, .null, .null, .null, .null, .null, .int 0])) :: (((((([] ++ [(q13, .inl (cI, 3596, .inl (fun _ => 0)))]) ++ [(q22, .inl (cI, 3596, .inl (fun _ => 0)))]) ++ [(q31, .inl (cI, 3596, .inl (fun _ => 0)))]) ++ [(q39, .inl (cI, 10, .inl (upd (upd (upd (upd (upd (upd (upd (upd (upd (upd (fun _ => 0) 0 4) 1 13) 2 0) 3 1) 4 0) 5 0) 6 4000) 7 0) 8 4) 9 8)))]) ++ [(q95, .inl (cI, 10, .inl (upd (upd (upd (upd (upd (upd (upd (upd (upd (upd (fun _ => 0) 0 1) 1 1) 2 0) 3 0) 4 1) 5 1) 6 100) 7 0) 8 1) 9 1)))]) ++ [(q148, .inl (cI, 10, .inl (upd (upd (upd (upd (upd (upd (upd (upd (upd (upd (fun _ => 0) 0 20) 1 100) 2 2) 3 2) 4 0) 5 0) 6 30000) 7 1) 8 20) 9 50)))])) rfl ?_
  refine n_putF (C := RX8) (T := TX8) (N := 15) (k0 := 7) (fs' := [.int 4, .ref q13, .ref q22, .ref q31, .int 0, .ref q39, .ref q95, .ref q148, .null, .null, .null, .null, .null, .null, .int 0]) (ty := (.array .int)) hx rfl (by decide) tw_687 dX8_init_200 rfl rfl (by decide +kernel) rfl rfl (show 7 < 15 by decide) rfl ?_
  refine n_aload hx dX8_init_203 ?_
  refine n_bipush (v := 64) hx dX8_init_204 (by decide) ?_
  refine n_newI (N := 64) hx dX8_init_206 (by decide) (by decide) (by decide) (by omega) (by omega) (fun q206 => ?_)
  refine n_as (ws' := (h0, .inr (8, [.int 4, .ref q13, .ref q22, .ref q31, .int 0, .ref q39, .ref q95, .ref q148, .null, .null, .null, .null, .null, .null, .int 0])) :: ((((((([] ++ [(q13, .inl (cI, 3596, .inl (fun _ => 0)))]) ++ [(q22, .inl (cI, 3596, .inl (fun _ => 0)))]) ++ [(q31, .inl (cI, 3596, .inl (fun _ => 0)))]) ++ [(q39, .inl (cI, 10, .inl (upd (upd (upd (upd (upd (upd (upd (upd (upd (upd (fun _ => 0) 0 4) 1 13) 2 0) 3 1) 4 0) 5 0) 6 4000) 7 0) 8 4) 9 8)))]) ++ [(q95, .inl (cI, 10, .inl (upd (upd (upd (upd (upd (upd (upd (upd (upd (upd (fun _ => 0) 0 1) 1 1) 2 0) 3 0) 4 1) 5 1) 6 100) 7 0) 8 1) 9 1)))]) ++ [(q148, .inl (cI, 10, .inl (upd (upd (upd (upd (upd (upd (upd (upd (upd (upd (fun _ => 0) 0 20) 1 100) 2 2) 3 2) 4 0) 5 0) 6 30000) 7 1) 8 20) 9 50)))]) ++ [(q206, .inl (cI, 64, .inl (fun _ => 0)))])) rfl ?_
  refine n_putF (C := RX8) (T := TX8) (N := 15) (k0 := 8) (fs' := [.int 4, .ref q13, .ref q22, .ref q31, .int 0, .ref q39, .ref q95, .ref q148, .ref q206, .null, .null, .null, .null, .null, .int 0]) (ty := (.array .int)) hx rfl (by decide) tw_688 dX8_init_208 rfl rfl (by decide +kernel) rfl rfl (show 8 < 15 by decide) rfl ?_
  refine n_aload hx dX8_init_211 ?_
  refine n_bipush (v := 64) hx dX8_init_212 (by decide) ?_
  refine n_newI (N := 64) hx dX8_init_214 (by decide) (by decide) (by decide) (by omega) (by omega) (fun q214 => ?_)
  refine n_as (ws' := (h0, .inr (8, [.int 4, .ref q13, .ref q22, .ref q31, .int 0, .ref q39, .ref q95, .ref q148, .ref q206, .null, .null, .null, .null, .null, .int 0])) :: (((((((([] ++ [(q13, .inl (cI, 3596, .inl (fun _ => 0)))]) ++ [(q22, .inl (cI, 3596, .inl (fun _ => 0)))]) ++ [(q31, .inl (cI, 3596, .inl (fun _ => 0)))]) ++ [(q39, .inl (cI, 10, .inl (upd (upd (upd (upd (upd (upd (upd (upd (upd (upd (fun _ => 0) 0 4) 1 13) 2 0) 3 1) 4 0) 5 0) 6 4000) 7 0) 8 4) 9 8)))]) ++ [(q95, .inl (cI, 10, .inl (upd (upd (upd (upd (upd (upd (upd (upd (upd (upd (fun _ => 0) 0 1) 1 1) 2 0) 3 0) 4 1) 5 1) 6 100) 7 0) 8 1) 9 1)))]) ++ [(q148, .inl (cI, 10, .inl (upd (upd (upd (upd (upd (upd (upd (upd (upd (upd (fun _ => 0) 0 20) 1 100) 2 2) 3 2) 4 0) 5 0) 6 30000) 7 1) 8 20) 9 50)))]) ++ [(q206, .inl (cI, 64, .inl (fun _ => 0)))]) ++ [(q214, .inl (cI, 64, .inl (fun _ => 0)))])) rfl ?_
  refine n_putF (C := RX8) (T := TX8) (N := 15) (k0 := 9) (fs' := [.int 4, .ref q13, .ref q22, .ref q31, .int 0, .ref q39, .ref q95, .ref q148, .ref q206, .ref q214, .null, .null, .null, .null, .int 0]) (ty := (.array .int)) hx rfl (by decide) tw_689 dX8_init_216 rfl rfl (by decide +kernel) rfl rfl (show 9 < 15 by decide) rfl ?_
  refine n_aload hx dX8_init_219 ?_
  refine n_bipush (v := 64) hx dX8_init_220 (by decide) ?_
  refine n_newI (N := 64) hx dX8_init_222 (by decide) (by decide) (by decide) (by omega) (by omega) (fun q222 => ?_)
  refine n_as (ws' := (h0, .inr (8, [.int 4, .ref q13, .ref q22, .ref q31, .int 0, .ref q39, .ref q95, .ref q148, .ref q206, .ref q214, .null, .null, .null, .null, .int 0])) :: ((((((((([] ++ [(q13, .inl (cI, 3596, .inl (fun _ => 0)))]) ++ [(q22, .inl (cI, 3596, .inl (fun _ => 0)))]) ++ [(q31, .inl (cI, 3596, .inl (fun _ => 0)))]) ++ [(q39, .inl (cI, 10, .inl (upd (upd (upd (upd (upd (upd (upd (upd (upd (upd (fun _ => 0) 0 4) 1 13) 2 0) 3 1) 4 0) 5 0) 6 4000) 7 0) 8 4) 9 8)))]) ++ [(q95, .inl (cI, 10, .inl (upd (upd (upd (upd (upd (upd (upd (upd (upd (upd (fun _ => 0) 0 1) 1 1) 2 0) 3 0) 4 1) 5 1) 6 100) 7 0) 8 1) 9 1)))]) ++ [(q148, .inl (cI, 10, .inl (upd (upd (upd (upd (upd (upd (upd (upd (upd (upd (fun _ => 0) 0 20) 1 100) 2 2) 3 2) 4 0) 5 0) 6 30000) 7 1) 8 20) 9 50)))]) ++ [(q206, .inl (cI, 64, .inl (fun _ => 0)))]) ++ [(q214, .inl (cI, 64, .inl (fun _ => 0)))]) ++ [(q222, .inl (cI, 64, .inl (fun _ => 0)))])) rfl ?_
  refine n_putF (C := RX8) (T := TX8) (N := 15) (k0 := 10) (fs' := [.int 4, .ref q13, .ref q22, .ref q31, .int 0, .ref q39, .ref q95, .ref q148, .ref q206, .ref q214, .ref q222, .null, .null, .null, .int 0]) (ty := (.array .int)) hx rfl (by decide) tw_690 dX8_init_224 rfl rfl (by decide +kernel) rfl rfl (show 10 < 15 by decide) rfl ?_
  refine n_aload hx dX8_init_227 ?_
  refine n_bipush (v := 8) hx dX8_init_228 (by decide) ?_
  refine n_newZ (N := 8) hx dX8_init_230 (by decide) (by decide) (by decide) (by omega) (by omega) (fun q230 => ?_)
  refine n_as (ws' := (h0, .inr (8, [.int 4, .ref q13, .ref q22, .ref q31, .int 0, .ref q39, .ref q95, .ref q148, .ref q206, .ref q214, .ref q222, .null, .null, .null, .int 0])) :: (((((((((([] ++ [(q13, .inl (cI, 3596, .inl (fun _ => 0)))]) ++ [(q22, .inl (cI, 3596, .inl (fun _ => 0)))]) ++ [(q31, .inl (cI, 3596, .inl (fun _ => 0)))]) ++ [(q39, .inl (cI, 10, .inl (upd (upd (upd (upd (upd (upd (upd (upd (upd (upd (fun _ => 0) 0 4) 1 13) 2 0) 3 1) 4 0) 5 0) 6 4000) 7 0) 8 4) 9 8)))]) ++ [(q95, .inl (cI, 10, .inl (upd (upd (upd (upd (upd (upd (upd (upd (upd (upd (fun _ => 0) 0 1) 1 1) 2 0) 3 0) 4 1) 5 1) 6 100) 7 0) 8 1) 9 1)))]) ++ [(q148, .inl (cI, 10, .inl (upd (upd (upd (upd (upd (upd (upd (upd (upd (upd (fun _ => 0) 0 20) 1 100) 2 2) 3 2) 4 0) 5 0) 6 30000) 7 1) 8 20) 9 50)))]) ++ [(q206, .inl (cI, 64, .inl (fun _ => 0)))]) ++ [(q214, .inl (cI, 64, .inl (fun _ => 0)))]) ++ [(q222, .inl (cI, 64, .inl (fun _ => 0)))]) ++ [(q230, .inl (cZ, 8, .inl (fun _ => 0)))])) rfl ?_
  refine n_putF (C := RX8) (T := TX8) (N := 15) (k0 := 11) (fs' := [.int 4, .ref q13, .ref q22, .ref q31, .int 0, .ref q39, .ref q95, .ref q148, .ref q206, .ref q214, .ref q222, .ref q230, .null, .null, .int 0]) (ty := (.array .boolean)) hx rfl (by decide) tw_691 dX8_init_232 rfl rfl (by decide +kernel) rfl rfl (show 11 < 15 by decide) rfl ?_
  refine n_aload hx dX8_init_235 ?_
  refine n_bipush (v := 64) hx dX8_init_236 (by decide) ?_
  refine n_newI (N := 64) hx dX8_init_238 (by decide) (by decide) (by decide) (by omega) (by omega) (fun q238 => ?_)
  refine n_as (ws' := (h0, .inr (8, [.int 4, .ref q13, .ref q22, .ref q31, .int 0, .ref q39, .ref q95, .ref q148, .ref q206, .ref q214, .ref q222, .ref q230, .null, .null, .int 0])) :: ((((((((((([] ++ [(q13, .inl (cI, 3596, .inl (fun _ => 0)))]) ++ [(q22, .inl (cI, 3596, .inl (fun _ => 0)))]) ++ [(q31, .inl (cI, 3596, .inl (fun _ => 0)))]) ++ [(q39, .inl (cI, 10, .inl (upd (upd (upd (upd (upd (upd (upd (upd (upd (upd (fun _ => 0) 0 4) 1 13) 2 0) 3 1) 4 0) 5 0) 6 4000) 7 0) 8 4) 9 8)))]) ++ [(q95, .inl (cI, 10, .inl (upd (upd (upd (upd (upd (upd (upd (upd (upd (upd (fun _ => 0) 0 1) 1 1) 2 0) 3 0) 4 1) 5 1) 6 100) 7 0) 8 1) 9 1)))]) ++ [(q148, .inl (cI, 10, .inl (upd (upd (upd (upd (upd (upd (upd (upd (upd (upd (fun _ => 0) 0 20) 1 100) 2 2) 3 2) 4 0) 5 0) 6 30000) 7 1) 8 20) 9 50)))]) ++ [(q206, .inl (cI, 64, .inl (fun _ => 0)))]) ++ [(q214, .inl (cI, 64, .inl (fun _ => 0)))]) ++ [(q222, .inl (cI, 64, .inl (fun _ => 0)))]) ++ [(q230, .inl (cZ, 8, .inl (fun _ => 0)))]) ++ [(q238, .inl (cI, 64, .inl (fun _ => 0)))])) rfl ?_
  refine n_putF (C := RX8) (T := TX8) (N := 15) (k0 := 12) (fs' := [.int 4, .ref q13, .ref q22, .ref q31, .int 0, .ref q39, .ref q95, .ref q148, .ref q206, .ref q214, .ref q222, .ref q230, .ref q238, .null, .int 0]) (ty := (.array .int)) hx rfl (by decide) tw_692 dX8_init_240 rfl rfl (by decide +kernel) rfl rfl (show 12 < 15 by decide) rfl ?_
  refine n_aload hx dX8_init_243 ?_
  refine n_sipush (v := 241) hx dX8_init_244 (by decide) ?_
  refine n_newZ (N := 241) hx dX8_init_247 (by decide) (by decide) (by decide) (by omega) (by omega) (fun q247 => ?_)
  refine n_as (ws' := (h0, .inr (8, [.int 4, .ref q13, .ref q22, .ref q31, .int 0, .ref q39, .ref q95, .ref q148, .ref q206, .ref q214, .ref q222, .ref q230, .ref q238, .null, .int 0])) :: (((((((((((([] ++ [(q13, .inl (cI, 3596, .inl (fun _ => 0)))]) ++ [(q22, .inl (cI, 3596, .inl (fun _ => 0)))]) ++ [(q31, .inl (cI, 3596, .inl (fun _ => 0)))]) ++ [(q39, .inl (cI, 10, .inl (upd (upd (upd (upd (upd (upd (upd (upd (upd (upd (fun _ => 0) 0 4) 1 13) 2 0) 3 1) 4 0) 5 0) 6 4000) 7 0) 8 4) 9 8)))]) ++ [(q95, .inl (cI, 10, .inl (upd (upd (upd (upd (upd (upd (upd (upd (upd (upd (fun _ => 0) 0 1) 1 1) 2 0) 3 0) 4 1) 5 1) 6 100) 7 0) 8 1) 9 1)))]) ++ [(q148, .inl (cI, 10, .inl (upd (upd (upd (upd (upd (upd (upd (upd (upd (upd (fun _ => 0) 0 20) 1 100) 2 2) 3 2) 4 0) 5 0) 6 30000) 7 1) 8 20) 9 50)))]) ++ [(q206, .inl (cI, 64, .inl (fun _ => 0)))]) ++ [(q214, .inl (cI, 64, .inl (fun _ => 0)))]) ++ [(q222, .inl (cI, 64, .inl (fun _ => 0)))]) ++ [(q230, .inl (cZ, 8, .inl (fun _ => 0)))]) ++ [(q238, .inl (cI, 64, .inl (fun _ => 0)))]) ++ [(q247, .inl (cZ, 241, .inl (fun _ => 0)))])) rfl ?_
  refine n_putF (C := RX8) (T := TX8) (N := 15) (k0 := 13) (fs' := [.int 4, .ref q13, .ref q22, .ref q31, .int 0, .ref q39, .ref q95, .ref q148, .ref q206, .ref q214, .ref q222, .ref q230, .ref q238, .ref q247, .int 0]) (ty := (.array .boolean)) hx rfl (by decide) tw_693 dX8_init_249 rfl rfl (by decide +kernel) rfl rfl (show 13 < 15 by decide) rfl ?_
  obtain ⟨ad, had⟩ : ∃ ad : Nat × Nat → Nat, ad = fun q => if q.2 = 33 then h0 else if q.2 = 34 then q13 else if q.2 = 35 then q22 else if q.2 = 36 then q31 else if q.2 = 37 then q39 else if q.2 = 38 then q95 else if q.2 = 39 then q148 else if q.2 = 40 then q206 else if q.2 = 41 then q214 else if q.2 = 42 then q222 else if q.2 = 43 then q230 else if q.2 = 44 then q238 else if q.2 = 45 then q247 else ad0 q := ⟨_, rfl⟩
  refine n_as (ws' := w_of ad cI cZ plM_ VM0_) (by
    have k0 : (ad (0, 33), c_of ad cI cZ VM0_ (0, 33)) = (h0, (.inr (8, [.int 4, .ref q13, .ref q22, .ref q31, .int 0, .ref q39, .ref q95, .ref q148, .ref q206, .ref q214, .ref q222, .ref q230, .ref q238, .ref q247, .int 0]) : va_E)) := by rw [had]; rfl
    have k34 : (ad (0, 34), c_of ad cI cZ VM0_ (0, 34)) = (q13, (.inl (cI, 3596, .inl (fun _ => 0)) : va_E)) := by rw [had]; rfl
    have k35 : (ad (0, 35), c_of ad cI cZ VM0_ (0, 35)) = (q22, (.inl (cI, 3596, .inl (fun _ => 0)) : va_E)) := by rw [had]; rfl
    have k36 : (ad (0, 36), c_of ad cI cZ VM0_ (0, 36)) = (q31, (.inl (cI, 3596, .inl (fun _ => 0)) : va_E)) := by rw [had]; rfl
    have k37 : (ad (0, 37), c_of ad cI cZ VM0_ (0, 37)) = (q39, (.inl (cI, 10, .inl f37_) : va_E)) := by rw [had]; rfl
    have k38 : (ad (0, 38), c_of ad cI cZ VM0_ (0, 38)) = (q95, (.inl (cI, 10, .inl f38_) : va_E)) := by rw [had]; rfl
    have k39 : (ad (0, 39), c_of ad cI cZ VM0_ (0, 39)) = (q148, (.inl (cI, 10, .inl f39_) : va_E)) := by rw [had]; rfl
    have k40 : (ad (0, 40), c_of ad cI cZ VM0_ (0, 40)) = (q206, (.inl (cI, 64, .inl (fun _ => 0)) : va_E)) := by rw [had]; rfl
    have k41 : (ad (0, 41), c_of ad cI cZ VM0_ (0, 41)) = (q214, (.inl (cI, 64, .inl (fun _ => 0)) : va_E)) := by rw [had]; rfl
    have k42 : (ad (0, 42), c_of ad cI cZ VM0_ (0, 42)) = (q222, (.inl (cI, 64, .inl (fun _ => 0)) : va_E)) := by rw [had]; rfl
    have k43 : (ad (0, 43), c_of ad cI cZ VM0_ (0, 43)) = (q230, (.inl (cZ, 8, .inl (fun _ => 0)) : va_E)) := by rw [had]; rfl
    have k44 : (ad (0, 44), c_of ad cI cZ VM0_ (0, 44)) = (q238, (.inl (cI, 64, .inl (fun _ => 0)) : va_E)) := by rw [had]; rfl
    have k45 : (ad (0, 45), c_of ad cI cZ VM0_ (0, 45)) = (q247, (.inl (cZ, 241, .inl (fun _ => 0)) : va_E)) := by rw [had]; rfl
    unfold plM_
    rw [w_cons, w_cons, w_cons, w_cons, w_cons, w_cons, w_cons, w_cons, w_cons, w_cons, w_cons, w_cons, w_cons]
    rw [k0, k34, k35, k36, k37, k38, k39, k40, k41, k42, k43, k44, k45]
    rfl) ?_
  refine n_rc hx lc_M (List.mem_cons_self) (by omega) (by omega) (by rw [had]; exact hE) (by rw [had]; rfl) ?_
  refine r_aload_n (pc2 := 253) dX8_init_252 rfl rfl ?_
  refine r_cv0m (pc2 := 256) dX8_init_253 st_X8_init_51 rl_X8_begins (Nat.le_of_ble_eq_true rfl) rfl c_X8_begins ?_
  exact r_vret dX8_init_256 rfl rfl
