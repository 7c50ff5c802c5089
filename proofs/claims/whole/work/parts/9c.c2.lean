/-! ===== the model is made ===== -/
section C2
variable {G : xG} {d : Nat} {b : Nat} {h0 : xH}
theorem X12_init_0 {f : Nat → Option xC} (hf : f 0 = some (.inr (12, fun k => defaultValue (tyX12 k)))) (hb : gB G ≤ b) (hd : 1 ≤ d) : VM G mX12_init d 34 7454 [.ref (b + 0)] (xE none (pN b 35 (uC (uC (uC (uC (uC (uC (uC (uC (uC (uC (uC (uC (uC (uC (uC (uC (uC (uC (uC (uC (uC (uC (uC (uC (uC (uC (uC (uC (uC (uC (uC (uC (uC (uC (uC (uC (uC (uC (uC (uC (uC (uC (uC (uC (uC f 1 (.inl (4, 2, .inr (.inr (.inr (.inr (fun _ => none))))))) 1 (.inl (4, 2, .inr (.inr (.inr (.inr (va_up (fun _ => none) 0 (some (gK G 26))))))))) 1 (.inl (4, 2, .inr (.inr (.inr (.inr (va_up (va_up (fun _ => none) 0 (some (gK G 26))) 1 (some (gK G 27))))))))) 2 (.inl (4, 7, .inr (.inr (.inr (.inr (fun _ => none))))))) 2 (.inl (4, 7, .inr (.inr (.inr (.inr (va_up (fun _ => none) 0 (some (gK G 28))))))))) 2 (.inl (4, 7, .inr (.inr (.inr (.inr (va_up (va_up (fun _ => none) 0 (some (gK G 28))) 1 (some (gK G 29))))))))) 2 (.inl (4, 7, .inr (.inr (.inr (.inr (va_up (va_up (va_up (fun _ => none) 0 (some (gK G 28))) 1 (some (gK G 29))) 2 (some (gK G 30))))))))) 2 (.inl (4, 7, .inr (.inr (.inr (.inr (va_up (va_up (va_up (va_up (fun _ => none) 0 (some (gK G 28))) 1 (some (gK G 29))) 2 (some (gK G 30))) 3 (some (gK G 31))))))))) 2 (.inl (4, 7, .inr (.inr (.inr (.inr (va_up (va_up (va_up (va_up (va_up (fun _ => none) 0 (some (gK G 28))) 1 (some (gK G 29))) 2 (some (gK G 30))) 3 (some (gK G 31))) 4 (some (gK G 32))))))))) 2 (.inl (4, 7, .inr (.inr (.inr (.inr (va_up (va_up (va_up (va_up (va_up (va_up (fun _ => none) 0 (some (gK G 28))) 1 (some (gK G 29))) 2 (some (gK G 30))) 3 (some (gK G 31))) 4 (some (gK G 32))) 5 (some (gK G 33))))))))) 2 (.inl (4, 7, .inr (.inr (.inr (.inr (va_up (va_up (va_up (va_up (va_up (va_up (va_up (fun _ => none) 0 (some (gK G 28))) 1 (some (gK G 29))) 2 (some (gK G 30))) 3 (some (gK G 31))) 4 (some (gK G 32))) 5 (some (gK G 33))) 6 (some (gK G 34))))))))) 3 (aC 0 8)) 4 (aC 0 20)) 5 (aC 0 16)) 6 (aC 0 16)) 7 (aC 0 16)) 8 (aC 0 16)) 9 (aC 0 24)) 10 (aC 0 24)) 11 (aC 0 24)) 12 (aC 0 24)) 13 (aC 0 1400)) 14 (aC 0 3)) 15 (aC 0 700)) 16 (aC 0 8)) 17 (aC 0 8)) 18 (aC 0 8)) 19 (aC 0 8)) 20 (aC 0 1440)) 21 (aC 0 7)) 22 (aC 0 64)) 23 (aC 0 36)) 24 (aC 0 1024)) 25 (aC 0 1024)) 26 (aC 0 8)) 27 (aC 0 8)) 28 (aC 2 8)) 29 (aC 0 36)) 30 (aC 0 1440)) 31 (aC 0 8)) 32 (aC 0 8)) 33 (aC 0 3)) 34 (aC 2 8)) 3 (.inl (0, 8, .inl (upd (fun _ => 0) 2 4)))) 0 (.inr (12, objF b [3, 4, 0, 5, 6, 7, 8, 9, 10, 11, 12, 13, 14, 15, 16, 17, 0, 0, 0, 0, 0, 0, 0, 0, 0, 0, 0, 18, 19, 20, 21, 22, 0, 0, 0, 0, 0, 0, 23, 24, 0, 25, 26, 27, 28, 29, 30, 0, 0, 0, 0, 31, 32, 33, 34, 35, 36] (rw2 25 (-1) 35 4)))) h0)) (pN b 1 f h0) := by
  refine VM_start (ls := [some (.ref (b + 0))]) rfl ?_
  refine V_aload_n (pc := 0) (i := 0) dX12_init_0 rfl rfl ?_
  refine V_obj (pc := 1) dX12_init_1 cX12_3 w_objI w_objC (by omega) (Nat.le_of_ble_eq_true rfl) ?_
  refine V_aload_n (pc := 4) (i := 0) dX12_init_4 rfl rfl ?_
  refine V_iconst (pc := 5) (v := 2) dX12_init_5 (by decide) ?_
  refine P_newS (pc := 6) (N := 2) dX12_init_6 w_arS (by rfl) (by decide) ?_
  refine V_dup (pc := 9) dX12_init_9 rfl ?_
  refine V_iconst (pc := 10) (v := 0) dX12_init_10 (by decide) ?_
  refine V_ldcS (pc := 11) (i := 26) dX12_init_11 rfl ?_
  refine P_aast (pc := 13) (k := 1) (i9 := 26) (j := 0) dX12_init_13 (by decide) (by rfl) hb (by rfl) (by rfl) (by decide) (by decide) ?_
  refine V_dup (pc := 14) dX12_init_14 rfl ?_
  refine V_iconst (pc := 15) (v := 1) dX12_init_15 (by decide) ?_
  refine V_ldcS (pc := 16) (i := 27) dX12_init_16 rfl ?_
  refine P_aast (pc := 18) (k := 1) (i9 := 27) (j := 1) dX12_init_18 (by decide) (by rfl) hb (by rfl) (by rfl) (by decide) (by decide) ?_
  refine P_putF (pc := 19) (k := 0) dX12_init_19 fX12_15 ftX12 (fpFR rfl rfl (tyX12_ok 0 (by decide)) rfl rfl) rfl (ownX rfl) (by decide) hf hb ?_
  refine V_aload_n (pc := 22) (i := 0) dX12_init_22 rfl rfl ?_
  refine V_bipush (pc := 23) (v := 7) dX12_init_23 (by decide) ?_
  refine P_newS (pc := 25) (N := 7) dX12_init_25 w_arS (by rfl) (by decide) ?_
  refine V_dup (pc := 28) dX12_init_28 rfl ?_
  refine V_iconst (pc := 29) (v := 0) dX12_init_29 (by decide) ?_
  refine V_ldcS (pc := 30) (i := 28) dX12_init_30 rfl ?_
  refine P_aast (pc := 32) (k := 2) (i9 := 28) (j := 0) dX12_init_32 (by decide) (by rfl) hb (by rfl) (by rfl) (by decide) (by decide) ?_
  refine V_dup (pc := 33) dX12_init_33 rfl ?_
  refine V_iconst (pc := 34) (v := 1) dX12_init_34 (by decide) ?_
  refine V_ldcS (pc := 35) (i := 29) dX12_init_35 rfl ?_
  refine P_aast (pc := 37) (k := 2) (i9 := 29) (j := 1) dX12_init_37 (by decide) (by rfl) hb (by rfl) (by rfl) (by decide) (by decide) ?_
  refine V_dup (pc := 38) dX12_init_38 rfl ?_
  refine V_iconst (pc := 39) (v := 2) dX12_init_39 (by decide) ?_
  refine V_ldcS (pc := 40) (i := 30) dX12_init_40 rfl ?_
  refine P_aast (pc := 42) (k := 2) (i9 := 30) (j := 2) dX12_init_42 (by decide) (by rfl) hb (by rfl) (by rfl) (by decide) (by decide) ?_
  refine V_dup (pc := 43) dX12_init_43 rfl ?_
  refine V_iconst (pc := 44) (v := 3) dX12_init_44 (by decide) ?_
  refine V_ldcS (pc := 45) (i := 31) dX12_init_45 rfl ?_
  refine P_aast (pc := 47) (k := 2) (i9 := 31) (j := 3) dX12_init_47 (by decide) (by rfl) hb (by rfl) (by rfl) (by decide) (by decide) ?_
  refine V_dup (pc := 48) dX12_init_48 rfl ?_
  refine V_iconst (pc := 49) (v := 4) dX12_init_49 (by decide) ?_
  refine V_ldcS (pc := 50) (i := 32) dX12_init_50 rfl ?_
  refine P_aast (pc := 52) (k := 2) (i9 := 32) (j := 4) dX12_init_52 (by decide) (by rfl) hb (by rfl) (by rfl) (by decide) (by decide) ?_
  refine V_dup (pc := 53) dX12_init_53 rfl ?_
  refine V_iconst (pc := 54) (v := 5) dX12_init_54 (by decide) ?_
  refine V_ldcS (pc := 55) (i := 33) dX12_init_55 rfl ?_
  refine P_aast (pc := 57) (k := 2) (i9 := 33) (j := 5) dX12_init_57 (by decide) (by rfl) hb (by rfl) (by rfl) (by decide) (by decide) ?_
  refine V_dup (pc := 58) dX12_init_58 rfl ?_
  refine V_bipush (pc := 59) (v := 6) dX12_init_59 (by decide) ?_
  refine V_ldcS (pc := 61) (i := 34) dX12_init_61 rfl ?_
  refine P_aast (pc := 63) (k := 2) (i9 := 34) (j := 6) dX12_init_63 (by decide) (by rfl) hb (by rfl) (by rfl) (by decide) (by decide) ?_
  refine P_putF (pc := 64) (k := 0) dX12_init_64 fX12_33 ftX12 (fpFR rfl rfl (tyX12_ok 1 (by decide)) rfl rfl) rfl (ownX rfl) (by decide) (by rfl) hb ?_
  refine V_aload_n (pc := 67) (i := 0) dX12_init_67 rfl rfl ?_
  refine V_bipush (pc := 68) (v := 8) dX12_init_68 (by decide) ?_
  refine P_newI (pc := 70) (N := 8) dX12_init_70 (by rfl) (by decide) ?_
  refine P_putF (pc := 72) (k := 0) dX12_init_72 fX12_36 ftX12 (fpFR rfl rfl (tyX12_ok 3 (by decide)) rfl rfl) rfl (ownX rfl) (by decide) (by rfl) hb ?_
  refine V_aload_n (pc := 75) (i := 0) dX12_init_75 rfl rfl ?_
  refine V_bipush (pc := 76) (v := 20) dX12_init_76 (by decide) ?_
  refine P_newI (pc := 78) (N := 20) dX12_init_78 (by rfl) (by decide) ?_
  refine P_putF (pc := 80) (k := 0) dX12_init_80 fX12_40 ftX12 (fpFR rfl rfl (tyX12_ok 4 (by decide)) rfl rfl) rfl (ownX rfl) (by decide) (by rfl) hb ?_
  refine V_aload_n (pc := 83) (i := 0) dX12_init_83 rfl rfl ?_
  refine V_bipush (pc := 84) (v := 16) dX12_init_84 (by decide) ?_
  refine P_newI (pc := 86) (N := 16) dX12_init_86 (by rfl) (by decide) ?_
  refine P_putF (pc := 88) (k := 0) dX12_init_88 fX12_43 ftX12 (fpFR rfl rfl (tyX12_ok 5 (by decide)) rfl rfl) rfl (ownX rfl) (by decide) (by rfl) hb ?_
  refine V_aload_n (pc := 91) (i := 0) dX12_init_91 rfl rfl ?_
  refine V_bipush (pc := 92) (v := 16) dX12_init_92 (by decide) ?_
  refine P_newI (pc := 94) (N := 16) dX12_init_94 (by rfl) (by decide) ?_
  refine P_putF (pc := 96) (k := 0) dX12_init_96 fX12_46 ftX12 (fpFR rfl rfl (tyX12_ok 6 (by decide)) rfl rfl) rfl (ownX rfl) (by decide) (by rfl) hb ?_
  refine V_aload_n (pc := 99) (i := 0) dX12_init_99 rfl rfl ?_
  refine V_bipush (pc := 100) (v := 16) dX12_init_100 (by decide) ?_
  refine P_newI (pc := 102) (N := 16) dX12_init_102 (by rfl) (by decide) ?_
  refine P_putF (pc := 104) (k := 0) dX12_init_104 fX12_49 ftX12 (fpFR rfl rfl (tyX12_ok 7 (by decide)) rfl rfl) rfl (ownX rfl) (by decide) (by rfl) hb ?_
  refine V_aload_n (pc := 107) (i := 0) dX12_init_107 rfl rfl ?_
  refine V_bipush (pc := 108) (v := 16) dX12_init_108 (by decide) ?_
  refine P_newI (pc := 110) (N := 16) dX12_init_110 (by rfl) (by decide) ?_
  refine P_putF (pc := 112) (k := 0) dX12_init_112 fX12_52 ftX12 (fpFR rfl rfl (tyX12_ok 8 (by decide)) rfl rfl) rfl (ownX rfl) (by decide) (by rfl) hb ?_
  refine V_aload_n (pc := 115) (i := 0) dX12_init_115 rfl rfl ?_
  refine V_bipush (pc := 116) (v := 24) dX12_init_116 (by decide) ?_
  refine P_newI (pc := 118) (N := 24) dX12_init_118 (by rfl) (by decide) ?_
  refine P_putF (pc := 120) (k := 0) dX12_init_120 fX12_55 ftX12 (fpFR rfl rfl (tyX12_ok 9 (by decide)) rfl rfl) rfl (ownX rfl) (by decide) (by rfl) hb ?_
  refine V_aload_n (pc := 123) (i := 0) dX12_init_123 rfl rfl ?_
  refine V_bipush (pc := 124) (v := 24) dX12_init_124 (by decide) ?_
  refine P_newI (pc := 126) (N := 24) dX12_init_126 (by rfl) (by decide) ?_
  refine P_putF (pc := 128) (k := 0) dX12_init_128 fX12_58 ftX12 (fpFR rfl rfl (tyX12_ok 10 (by decide)) rfl rfl) rfl (ownX rfl) (by decide) (by rfl) hb ?_
  refine V_aload_n (pc := 131) (i := 0) dX12_init_131 rfl rfl ?_
  refine V_bipush (pc := 132) (v := 24) dX12_init_132 (by decide) ?_
  refine P_newI (pc := 134) (N := 24) dX12_init_134 (by rfl) (by decide) ?_
  refine P_putF (pc := 136) (k := 0) dX12_init_136 fX12_61 ftX12 (fpFR rfl rfl (tyX12_ok 11 (by decide)) rfl rfl) rfl (ownX rfl) (by decide) (by rfl) hb ?_
  refine V_aload_n (pc := 139) (i := 0) dX12_init_139 rfl rfl ?_
  refine V_bipush (pc := 140) (v := 24) dX12_init_140 (by decide) ?_
  refine P_newI (pc := 142) (N := 24) dX12_init_142 (by rfl) (by decide) ?_
  refine P_putF (pc := 144) (k := 0) dX12_init_144 fX12_64 ftX12 (fpFR rfl rfl (tyX12_ok 12 (by decide)) rfl rfl) rfl (ownX rfl) (by decide) (by rfl) hb ?_
  refine V_aload_n (pc := 147) (i := 0) dX12_init_147 rfl rfl ?_
  refine V_sipush (pc := 148) (v := 1400) dX12_init_148 (by decide) ?_
  refine P_newI (pc := 151) (N := 1400) dX12_init_151 (by rfl) (by decide) ?_
  refine P_putF (pc := 153) (k := 0) dX12_init_153 fX12_67 ftX12 (fpFR rfl rfl (tyX12_ok 13 (by decide)) rfl rfl) rfl (ownX rfl) (by decide) (by rfl) hb ?_
  refine V_aload_n (pc := 156) (i := 0) dX12_init_156 rfl rfl ?_
  refine V_iconst (pc := 157) (v := 3) dX12_init_157 (by decide) ?_
  refine P_newI (pc := 158) (N := 3) dX12_init_158 (by rfl) (by decide) ?_
  refine P_putF (pc := 160) (k := 0) dX12_init_160 fX12_70 ftX12 (fpFR rfl rfl (tyX12_ok 14 (by decide)) rfl rfl) rfl (ownX rfl) (by decide) (by rfl) hb ?_
  refine V_aload_n (pc := 163) (i := 0) dX12_init_163 rfl rfl ?_
  refine V_sipush (pc := 164) (v := 700) dX12_init_164 (by decide) ?_
  refine P_newI (pc := 167) (N := 700) dX12_init_167 (by rfl) (by decide) ?_
  refine P_putF (pc := 169) (k := 0) dX12_init_169 fX12_73 ftX12 (fpFR rfl rfl (tyX12_ok 15 (by decide)) rfl rfl) rfl (ownX rfl) (by decide) (by rfl) hb ?_
  refine V_aload_n (pc := 172) (i := 0) dX12_init_172 rfl rfl ?_
  refine V_iconst (pc := 173) (v := -1) dX12_init_173 (by decide) ?_
  refine P_put (pc := 174) (k := 0) dX12_init_174 fX12_76 ftX12 (fpI rfl rfl (tyX12_ok 25 (by decide))) (by decide) (by rfl) hb ?_
  refine V_aload_n (pc := 177) (i := 0) dX12_init_177 rfl rfl ?_
  refine V_bipush (pc := 178) (v := 8) dX12_init_178 (by decide) ?_
  refine P_newI (pc := 180) (N := 8) dX12_init_180 (by rfl) (by decide) ?_
  refine P_putF (pc := 182) (k := 0) dX12_init_182 fX12_80 ftX12 (fpFR rfl rfl (tyX12_ok 27 (by decide)) rfl rfl) rfl (ownX rfl) (by decide) (by rfl) hb ?_
  refine V_aload_n (pc := 185) (i := 0) dX12_init_185 rfl rfl ?_
  refine V_bipush (pc := 186) (v := 8) dX12_init_186 (by decide) ?_
  refine P_newI (pc := 188) (N := 8) dX12_init_188 (by rfl) (by decide) ?_
  refine P_putF (pc := 190) (k := 0) dX12_init_190 fX12_83 ftX12 (fpFR rfl rfl (tyX12_ok 28 (by decide)) rfl rfl) rfl (ownX rfl) (by decide) (by rfl) hb ?_
  refine V_aload_n (pc := 193) (i := 0) dX12_init_193 rfl rfl ?_
  refine V_bipush (pc := 194) (v := 8) dX12_init_194 (by decide) ?_
  refine P_newI (pc := 196) (N := 8) dX12_init_196 (by rfl) (by decide) ?_
  refine P_putF (pc := 198) (k := 0) dX12_init_198 fX12_86 ftX12 (fpFR rfl rfl (tyX12_ok 29 (by decide)) rfl rfl) rfl (ownX rfl) (by decide) (by rfl) hb ?_
  refine V_aload_n (pc := 201) (i := 0) dX12_init_201 rfl rfl ?_
  refine V_bipush (pc := 202) (v := 8) dX12_init_202 (by decide) ?_
  refine P_newI (pc := 204) (N := 8) dX12_init_204 (by rfl) (by decide) ?_
  refine P_putF (pc := 206) (k := 0) dX12_init_206 fX12_88 ftX12 (fpFR rfl rfl (tyX12_ok 30 (by decide)) rfl rfl) rfl (ownX rfl) (by decide) (by rfl) hb ?_
  refine V_aload_n (pc := 209) (i := 0) dX12_init_209 rfl rfl ?_
  refine V_sipush (pc := 210) (v := 1440) dX12_init_210 (by decide) ?_
  refine P_newI (pc := 213) (N := 1440) dX12_init_213 (by rfl) (by decide) ?_
  refine P_putF (pc := 215) (k := 0) dX12_init_215 fX12_90 ftX12 (fpFR rfl rfl (tyX12_ok 31 (by decide)) rfl rfl) rfl (ownX rfl) (by decide) (by rfl) hb ?_
  refine V_aload_n (pc := 218) (i := 0) dX12_init_218 rfl rfl ?_
  refine V_bipush (pc := 219) (v := 7) dX12_init_219 (by decide) ?_
  refine P_newI (pc := 221) (N := 7) dX12_init_221 (by rfl) (by decide) ?_
  refine P_putF (pc := 223) (k := 0) dX12_init_223 fX12_93 ftX12 (fpFR rfl rfl (tyX12_ok 38 (by decide)) rfl rfl) rfl (ownX rfl) (by decide) (by rfl) hb ?_
  refine V_aload_n (pc := 226) (i := 0) dX12_init_226 rfl rfl ?_
  refine V_bipush (pc := 227) (v := 64) dX12_init_227 (by decide) ?_
  refine P_newI (pc := 229) (N := 64) dX12_init_229 (by rfl) (by decide) ?_
  refine P_putF (pc := 231) (k := 0) dX12_init_231 fX12_96 ftX12 (fpFR rfl rfl (tyX12_ok 39 (by decide)) rfl rfl) rfl (ownX rfl) (by decide) (by rfl) hb ?_
  refine V_aload_n (pc := 234) (i := 0) dX12_init_234 rfl rfl ?_
  refine V_bipush (pc := 235) (v := 36) dX12_init_235 (by decide) ?_
  refine P_newI (pc := 237) (N := 36) dX12_init_237 (by rfl) (by decide) ?_
  refine P_putF (pc := 239) (k := 0) dX12_init_239 fX12_99 ftX12 (fpFR rfl rfl (tyX12_ok 41 (by decide)) rfl rfl) rfl (ownX rfl) (by decide) (by rfl) hb ?_
  refine V_aload_n (pc := 242) (i := 0) dX12_init_242 rfl rfl ?_
  refine V_sipush (pc := 243) (v := 1024) dX12_init_243 (by decide) ?_
  refine P_newI (pc := 246) (N := 1024) dX12_init_246 (by rfl) (by decide) ?_
  refine P_putF (pc := 248) (k := 0) dX12_init_248 fX12_102 ftX12 (fpFR rfl rfl (tyX12_ok 42 (by decide)) rfl rfl) rfl (ownX rfl) (by decide) (by rfl) hb ?_
  refine V_aload_n (pc := 251) (i := 0) dX12_init_251 rfl rfl ?_
  refine V_sipush (pc := 252) (v := 1024) dX12_init_252 (by decide) ?_
  refine P_newI (pc := 255) (N := 1024) dX12_init_255 (by rfl) (by decide) ?_
  refine P_putF (pc := 257) (k := 0) dX12_init_257 fX12_105 ftX12 (fpFR rfl rfl (tyX12_ok 43 (by decide)) rfl rfl) rfl (ownX rfl) (by decide) (by rfl) hb ?_
  refine V_aload_n (pc := 260) (i := 0) dX12_init_260 rfl rfl ?_
  refine V_bipush (pc := 261) (v := 8) dX12_init_261 (by decide) ?_
  refine P_newI (pc := 263) (N := 8) dX12_init_263 (by rfl) (by decide) ?_
  refine P_putF (pc := 265) (k := 0) dX12_init_265 fX12_108 ftX12 (fpFR rfl rfl (tyX12_ok 44 (by decide)) rfl rfl) rfl (ownX rfl) (by decide) (by rfl) hb ?_
  refine V_aload_n (pc := 268) (i := 0) dX12_init_268 rfl rfl ?_
  refine V_bipush (pc := 269) (v := 8) dX12_init_269 (by decide) ?_
  refine P_newI (pc := 271) (N := 8) dX12_init_271 (by rfl) (by decide) ?_
  refine P_putF (pc := 273) (k := 0) dX12_init_273 fX12_111 ftX12 (fpFR rfl rfl (tyX12_ok 45 (by decide)) rfl rfl) rfl (ownX rfl) (by decide) (by rfl) hb ?_
  refine V_aload_n (pc := 276) (i := 0) dX12_init_276 rfl rfl ?_
  refine V_bipush (pc := 277) (v := 8) dX12_init_277 (by decide) ?_
  refine P_newZ (pc := 279) (N := 8) dX12_init_279 (by rfl) (by decide) ?_
  refine P_putF (pc := 281) (k := 0) dX12_init_281 fX12_114 ftX12 (fpFR rfl rfl (tyX12_ok 46 (by decide)) rfl rfl) rfl (ownX rfl) (by decide) (by rfl) hb ?_
  refine V_aload_n (pc := 284) (i := 0) dX12_init_284 rfl rfl ?_
  refine V_bipush (pc := 285) (v := 36) dX12_init_285 (by decide) ?_
  refine P_newI (pc := 287) (N := 36) dX12_init_287 (by rfl) (by decide) ?_
  refine P_putF (pc := 289) (k := 0) dX12_init_289 fX12_118 ftX12 (fpFR rfl rfl (tyX12_ok 51 (by decide)) rfl rfl) rfl (ownX rfl) (by decide) (by rfl) hb ?_
  refine V_aload_n (pc := 292) (i := 0) dX12_init_292 rfl rfl ?_
  refine V_sipush (pc := 293) (v := 1440) dX12_init_293 (by decide) ?_
  refine P_newI (pc := 296) (N := 1440) dX12_init_296 (by rfl) (by decide) ?_
  refine P_putF (pc := 298) (k := 0) dX12_init_298 fX12_121 ftX12 (fpFR rfl rfl (tyX12_ok 52 (by decide)) rfl rfl) rfl (ownX rfl) (by decide) (by rfl) hb ?_
  refine V_aload_n (pc := 301) (i := 0) dX12_init_301 rfl rfl ?_
  refine V_bipush (pc := 302) (v := 8) dX12_init_302 (by decide) ?_
  refine P_newI (pc := 304) (N := 8) dX12_init_304 (by rfl) (by decide) ?_
  refine P_putF (pc := 306) (k := 0) dX12_init_306 fX12_124 ftX12 (fpFR rfl rfl (tyX12_ok 53 (by decide)) rfl rfl) rfl (ownX rfl) (by decide) (by rfl) hb ?_
  refine V_aload_n (pc := 309) (i := 0) dX12_init_309 rfl rfl ?_
  refine V_bipush (pc := 310) (v := 8) dX12_init_310 (by decide) ?_
  refine P_newI (pc := 312) (N := 8) dX12_init_312 (by rfl) (by decide) ?_
  refine P_putF (pc := 314) (k := 0) dX12_init_314 fX12_127 ftX12 (fpFR rfl rfl (tyX12_ok 54 (by decide)) rfl rfl) rfl (ownX rfl) (by decide) (by rfl) hb ?_
  refine V_aload_n (pc := 317) (i := 0) dX12_init_317 rfl rfl ?_
  refine V_iconst (pc := 318) (v := 3) dX12_init_318 (by decide) ?_
  refine P_newI (pc := 319) (N := 3) dX12_init_319 (by rfl) (by decide) ?_
  refine P_putF (pc := 321) (k := 0) dX12_init_321 fX12_130 ftX12 (fpFR rfl rfl (tyX12_ok 55 (by decide)) rfl rfl) rfl (ownX rfl) (by decide) (by rfl) hb ?_
  refine V_aload_n (pc := 324) (i := 0) dX12_init_324 rfl rfl ?_
  refine V_bipush (pc := 325) (v := 8) dX12_init_325 (by decide) ?_
  refine P_newZ (pc := 327) (N := 8) dX12_init_327 (by rfl) (by decide) ?_
  refine P_putF (pc := 329) (k := 0) dX12_init_329 fX12_133 ftX12 (fpFR rfl rfl (tyX12_ok 56 (by decide)) rfl rfl) rfl (ownX rfl) (by decide) (by rfl) hb ?_
  refine V_aload_n (pc := 332) (i := 0) dX12_init_332 rfl rfl ?_
  refine P_get (pc := 333) (k := 0) (v := .ref (b + 3)) dX12_init_333 fX12_36 (by decide) (by rfl) (by rfl) ?_
  refine V_iconst (pc := 336) (v := 2) dX12_init_336 (by decide) ?_
  refine V_iconst (pc := 337) (v := 4) dX12_init_337 (by decide) ?_
  refine P_iast (pc := 338) (k := 3) (j := 2) dX12_init_338 (by decide) (by rfl) hb (by rfl) (by decide) (by decide) ?_
  refine V_aload_n (pc := 339) (i := 0) dX12_init_339 rfl rfl ?_
  refine V_iconst (pc := 340) (v := 4) dX12_init_340 (by decide) ?_
  refine P_put (pc := 341) (k := 0) dX12_init_341 fX12_136 ftX12 (fpI rfl rfl (tyX12_ok 35 (by decide))) (by decide) (by rfl) hb ?_
  exact P_ret (pc := 344) dX12_init_344 rfl (by decide) (fun j hj => by simp only [uC, if_neg hj]) (by rfl) (by rfl) (by exact fl (fl (fl (fl (fl (fl (fl (fl (fl (fl (fl (fl (fl (fl (fl (fl (fl (fl (fl (fl (fl (fl (fl (fl (fl (fl (fl (fl (fl (fl (fl (fl (fl (fl (fl (fl (fl (fl (fl (fl (fl (fl (fl (fl (fl (fl (fl (fl (fl (fl (fl (fl (fl (fl (fl (fl (fl fl0 rfl) rfl) rfl) rfl) rfl) rfl) rfl) rfl) rfl) rfl) rfl) rfl) rfl) rfl) rfl) rfl) rfl) rfl) rfl) rfl) rfl) rfl) rfl) rfl) rfl) rfl) rfl) rfl) rfl) rfl) rfl) rfl) rfl) rfl) rfl) rfl) rfl) rfl) rfl) rfl) rfl) rfl) rfl) rfl) rfl) rfl) rfl) rfl) rfl) rfl) rfl) rfl) rfl) rfl) rfl) rfl) rfl)
end C2
