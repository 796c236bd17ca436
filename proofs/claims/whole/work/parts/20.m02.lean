def lX12_init_323 (u74 : Int) (K342 : ZS → Option (Int × ZS)) : Nat → ZS → Int → Option (Int × ZS)
  | 0, _, _ => none
  | n1 + 1, s73, x75 => if 48 ≤ x75 then (K342 s73) else ((zg s73 12 u74 0).bind (fun v77 => (zas s73 100 v77 x75 1).bind (fun s78 => lX12_init_323 u74 K342 n1 s78 (wrap (x75 + 1)))))

def fX12_init (s0 : ZS) (a0 : Int) : Option (Int × ZS) := if a0 < 0 then none else ((zna s0 100 48).bind (fun s1 => (zp s1 12 a0 0 (sN s0 : Int)).bind (fun s2 => (zna s2 100 48).bind (fun s3 => (zp s3 12 a0 1 (sN s2 : Int)).bind (fun s4 => (zna s4 100 4).bind (fun s5 => (zp s5 12 a0 3 (sN s4 : Int)).bind (fun s6 => (zna s6 100 4).bind (fun s7 => (zp s7 12 a0 4 (sN s6 : Int)).bind (fun s8 => (zna s8 100 8).bind (fun s9 => (zp s9 12 a0 5 (sN s8 : Int)).bind (fun s10 => (zna s10 100 16).bind (fun s11 => (zp s11 12 a0 7 (sN s10 : Int)).bind (fun s12 => (zna s12 100 8).bind (fun s13 => (zp s13 12 a0 9 (sN s12 : Int)).bind (fun s14 => (zna s14 100 8).bind (fun s15 => (zp s15 12 a0 10 (sN s14 : Int)).bind (fun s16 => (zna s16 100 128).bind (fun s17 => (zp s17 12 a0 11 (sN s16 : Int)).bind (fun s18 => (zna s18 100 160).bind (fun s19 => (zp s19 12 a0 12 (sN s18 : Int)).bind (fun s20 => (zna s20 100 1200).bind (fun s21 => (zp s21 12 a0 14 (sN s20 : Int)).bind (fun s22 => (zna s22 100 24).bind (fun s23 => (zp s23 12 a0 15 (sN s22 : Int)).bind (fun s24 => (zp s24 12 a0 16 1).bind (fun s25 => (zna s25 100 48).bind (fun s26 => (zp s26 12 a0 22 (sN s25 : Int)).bind (fun s27 => (zna s27 100 48).bind (fun s28 => (zp s28 12 a0 23 (sN s27 : Int)).bind (fun s29 => (zna s29 100 4).bind (fun s30 => (zp s30 12 a0 24 (sN s29 : Int)).bind (fun s31 => (zna s31 100 128).bind (fun s32 => (zp s32 12 a0 25 (sN s31 : Int)).bind (fun s33 => (zna s33 100 4).bind (fun s34 => (zas s34 100 (sN s33 : Int) 0 (-1)).bind (fun s35 => (zas s35 100 (sN s33 : Int) 1 (-1)).bind (fun s36 => (zas s36 100 (sN s33 : Int) 2 (-1)).bind (fun s37 => (zas s37 100 (sN s33 : Int) 3 (-1)).bind (fun s38 => (zp s38 12 a0 26 (sN s33 : Int)).bind (fun s39 => (zna s39 100 4).bind (fun s40 => (zp s40 12 a0 27 (sN s39 : Int)).bind (fun s41 => (zna s41 100 160).bind (fun s42 => (zp s42 12 a0 28 (sN s41 : Int)).bind (fun s43 => (zna s43 101 11).bind (fun s44 => (zas s44 101 (sN s43 : Int) 0 1668248436).bind (fun s45 => (zas s45 101 (sN s43 : Int) 1 1819243380).bind (fun s46 => (zas s46 101 (sN s43 : Int) 2 2002872692).bind (fun s47 => (zas s47 101 (sN s43 : Int) 3 435426585721).bind (fun s48 => (zas s48 101 (sN s43 : Int) 4 1818326117).bind (fun s49 => (zas s49 101 (sN s43 : Int) 5 120299592184933).bind (fun s50 => (zas s50 101 (sN s43 : Int) 6 1936683636).bind (fun s51 => (zas s51 101 (sN s43 : Int) 7 1953459308).bind (fun s52 => (zas s52 101 (sN s43 : Int) 8 28530).bind (fun s53 => (zas s53 101 (sN s43 : Int) 9 6385252).bind (fun s54 => (zas s54 101 (sN s43 : Int) 10 7237492).bind (fun s55 => (zp s55 12 a0 33 (sN s43 : Int)).bind (fun s56 => (zna s56 100 200).bind (fun s57 => (zp s57 12 a0 34 (sN s56 : Int)).bind (fun s58 => (zna s58 100 200).bind (fun s59 => (zp s59 12 a0 38 (sN s58 : Int)).bind (fun s60 => (zna s60 100 6).bind (fun s61 => (zp s61 12 a0 39 (sN s60 : Int)).bind (fun s62 => (zna s62 100 16).bind (fun s63 => (zp s63 12 a0 40 (sN s62 : Int)).bind (fun s64 => (zna s64 100 16).bind (fun s65 => (zp s65 12 a0 41 (sN s64 : Int)).bind (fun s66 => (zna s66 100 16).bind (fun s67 => (zp s67 12 a0 42 (sN s66 : Int)).bind (fun s68 => (zna s68 100 16).bind (fun s69 => (zp s69 12 a0 43 (sN s68 : Int)).bind (fun s70 => (zna s70 100 4).bind (fun s71 => (zp s71 12 a0 48 (sN s70 : Int)).bind (fun s72 => lX12_init_323 a0 (fun (s80 : ZS) => zb (zv s80 12 a0 (fX12_first s80 a0 0 0 100002 18 1)) (fun v81 s82 => zb (zv s82 12 a0 (fX12_first s82 a0 4 16 2 100003 18)) (fun v84 s85 => zb (zv s85 12 a0 (fX12_first s85 a0 8 16 5 16 0)) (fun v87 s88 => (zg s88 12 a0 15).bind (fun v90 => (zas s88 100 v90 1 11).bind (fun s91 => (zg s91 12 a0 15).bind (fun v92 => (zas s91 100 v92 2 12).bind (fun s93 => some (0, s93))))))))) 1000 s72 0)))))))))))))))))))))))))))))))))))))))))))))))))))))))))))))))))))))))))
set_option maxHeartbeats 4000000 in
set_option maxRecDepth 100000 in
theorem mX12_init (E : ZE) (hE : zOkE E) (l : Launch) (s0 : ZS) (a0 : Int) : Ct E l yX12_init cX12_init 2 none 4 [(2, a0)] 0 s0 (fX12_init s0 a0) := by
  refine Ct.of (by decide) hE (Nat.le_of_ble_eq_true rfl) ?_
  intro X G hX hR hN hXE hXl hxn hk _
  subst hXE
  subst hXl
  have hX : G → ZOk X cX12_init RX12 4 := hX
  have hN : G → (xM X).name = "<init>" := hN
  show Zj X G 0 [(0, (2, a0))] [] s0 _
  unfold fX12_init
  refine z_aload_n (pc := 0) hX 0 dX12_init_0 rfl rfl ?_
  refine z_objInit (pc := 1) hX (by decide) wd999 wd89 wd90 (Nat.le_of_ble_eq_true rfl) dX12_init_1 ?_
  refine z_aload_n (pc := 4) hX 0 dX12_init_4 rfl rfl ?_
  refine z_bipush (pc := 5) hX dX12_init_5 ?_
  refine z_newIA (pc := 7) hX dX12_init_7 wd149 (fun s1 => ?_)
  refine z_putA (pc := 9) hX zc12 0 (by decide) wd1017 (Or.inr ⟨hN, rfl⟩) rfl rfl (fun _ => rfl) (fun r => zfit_arr _ r _) dX12_init_9 (fun s2 => ?_)
  refine z_aload_n (pc := 12) hX 0 dX12_init_12 rfl rfl ?_
  refine z_bipush (pc := 13) hX dX12_init_13 ?_
  refine z_newIA (pc := 15) hX dX12_init_15 wd149 (fun s3 => ?_)
  refine z_putA (pc := 17) hX zc12 1 (by decide) wd1018 (Or.inr ⟨hN, rfl⟩) rfl rfl (fun _ => rfl) (fun r => zfit_arr _ r _) dX12_init_17 (fun s4 => ?_)
  refine z_aload_n (pc := 20) hX 0 dX12_init_20 rfl rfl ?_
  refine z_iconst (pc := 21) hX dX12_init_21 ?_
  refine z_newIA (pc := 22) hX dX12_init_22 wd149 (fun s5 => ?_)
  refine z_putA (pc := 24) hX zc12 3 (by decide) wd1020 (Or.inr ⟨hN, rfl⟩) rfl rfl (fun _ => rfl) (fun r => zfit_arr _ r _) dX12_init_24 (fun s6 => ?_)
  refine z_aload_n (pc := 27) hX 0 dX12_init_27 rfl rfl ?_
  refine z_iconst (pc := 28) hX dX12_init_28 ?_
  refine z_newIA (pc := 29) hX dX12_init_29 wd149 (fun s7 => ?_)
  refine z_putA (pc := 31) hX zc12 4 (by decide) wd1021 (Or.inr ⟨hN, rfl⟩) rfl rfl (fun _ => rfl) (fun r => zfit_arr _ r _) dX12_init_31 (fun s8 => ?_)
  refine z_aload_n (pc := 34) hX 0 dX12_init_34 rfl rfl ?_
  refine z_bipush (pc := 35) hX dX12_init_35 ?_
  refine z_newIA (pc := 37) hX dX12_init_37 wd149 (fun s9 => ?_)
  refine z_putA (pc := 39) hX zc12 5 (by decide) wd1022 (Or.inr ⟨hN, rfl⟩) rfl rfl (fun _ => rfl) (fun r => zfit_arr _ r _) dX12_init_39 (fun s10 => ?_)
  refine z_aload_n (pc := 42) hX 0 dX12_init_42 rfl rfl ?_
  refine z_bipush (pc := 43) hX dX12_init_43 ?_
  refine z_newIA (pc := 45) hX dX12_init_45 wd149 (fun s11 => ?_)
  refine z_putA (pc := 47) hX zc12 7 (by decide) wd1024 (Or.inr ⟨hN, rfl⟩) rfl rfl (fun _ => rfl) (fun r => zfit_arr _ r _) dX12_init_47 (fun s12 => ?_)
  refine z_aload_n (pc := 50) hX 0 dX12_init_50 rfl rfl ?_
  refine z_bipush (pc := 51) hX dX12_init_51 ?_
  refine z_newIA (pc := 53) hX dX12_init_53 wd149 (fun s13 => ?_)
  refine z_putA (pc := 55) hX zc12 9 (by decide) wd1026 (Or.inr ⟨hN, rfl⟩) rfl rfl (fun _ => rfl) (fun r => zfit_arr _ r _) dX12_init_55 (fun s14 => ?_)
  refine z_aload_n (pc := 58) hX 0 dX12_init_58 rfl rfl ?_
  refine z_bipush (pc := 59) hX dX12_init_59 ?_
  refine z_newIA (pc := 61) hX dX12_init_61 wd149 (fun s15 => ?_)
  refine z_putA (pc := 63) hX zc12 10 (by decide) wd1027 (Or.inr ⟨hN, rfl⟩) rfl rfl (fun _ => rfl) (fun r => zfit_arr _ r _) dX12_init_63 (fun s16 => ?_)
  refine z_aload_n (pc := 66) hX 0 dX12_init_66 rfl rfl ?_
  refine z_sipush (pc := 67) hX dX12_init_67 ?_
  refine z_newIA (pc := 70) hX dX12_init_70 wd149 (fun s17 => ?_)
  refine z_putA (pc := 72) hX zc12 11 (by decide) wd1028 (Or.inr ⟨hN, rfl⟩) rfl rfl (fun _ => rfl) (fun r => zfit_arr _ r _) dX12_init_72 (fun s18 => ?_)
  refine z_aload_n (pc := 75) hX 0 dX12_init_75 rfl rfl ?_
  refine z_sipush (pc := 76) hX dX12_init_76 ?_
  refine z_newIA (pc := 79) hX dX12_init_79 wd149 (fun s19 => ?_)
  refine z_putA (pc := 81) hX zc12 12 (by decide) wd1029 (Or.inr ⟨hN, rfl⟩) rfl rfl (fun _ => rfl) (fun r => zfit_arr _ r _) dX12_init_81 (fun s20 => ?_)
  refine z_aload_n (pc := 84) hX 0 dX12_init_84 rfl rfl ?_
  refine z_sipush (pc := 85) hX dX12_init_85 ?_
  refine z_newIA (pc := 88) hX dX12_init_88 wd149 (fun s21 => ?_)
  refine z_putA (pc := 90) hX zc12 14 (by decide) wd1031 (Or.inr ⟨hN, rfl⟩) rfl rfl (fun _ => rfl) (fun r => zfit_arr _ r _) dX12_init_90 (fun s22 => ?_)
  refine z_aload_n (pc := 93) hX 0 dX12_init_93 rfl rfl ?_
  refine z_bipush (pc := 94) hX dX12_init_94 ?_
  refine z_newIA (pc := 96) hX dX12_init_96 wd149 (fun s23 => ?_)
  refine z_putA (pc := 98) hX zc12 15 (by decide) wd1032 (Or.inr ⟨hN, rfl⟩) rfl rfl (fun _ => rfl) (fun r => zfit_arr _ r _) dX12_init_98 (fun s24 => ?_)
  refine z_aload_n (pc := 101) hX 0 dX12_init_101 rfl rfl ?_
  refine z_iconst (pc := 102) hX dX12_init_102 ?_
  refine z_putA (pc := 103) hX zc12 16 (by decide) wd1033 (Or.inr ⟨hN, rfl⟩) rfl rfl (fun _ => rfl) (fun _ => rfl) dX12_init_103 (fun s25 => ?_)
  refine z_aload_n (pc := 106) hX 0 dX12_init_106 rfl rfl ?_
  refine z_bipush (pc := 107) hX dX12_init_107 ?_
  refine z_newIA (pc := 109) hX dX12_init_109 wd149 (fun s26 => ?_)
  refine z_putA (pc := 111) hX zc12 22 (by decide) wd1039 (Or.inr ⟨hN, rfl⟩) rfl rfl (fun _ => rfl) (fun r => zfit_arr _ r _) dX12_init_111 (fun s27 => ?_)
  refine z_aload_n (pc := 114) hX 0 dX12_init_114 rfl rfl ?_
  refine z_bipush (pc := 115) hX dX12_init_115 ?_
  refine z_newIA (pc := 117) hX dX12_init_117 wd149 (fun s28 => ?_)
  refine z_putA (pc := 119) hX zc12 23 (by decide) wd1040 (Or.inr ⟨hN, rfl⟩) rfl rfl (fun _ => rfl) (fun r => zfit_arr _ r _) dX12_init_119 (fun s29 => ?_)
  refine z_aload_n (pc := 122) hX 0 dX12_init_122 rfl rfl ?_
  refine z_iconst (pc := 123) hX dX12_init_123 ?_
  refine z_newIA (pc := 124) hX dX12_init_124 wd149 (fun s30 => ?_)
  refine z_putA (pc := 126) hX zc12 24 (by decide) wd1041 (Or.inr ⟨hN, rfl⟩) rfl rfl (fun _ => rfl) (fun r => zfit_arr _ r _) dX12_init_126 (fun s31 => ?_)
  refine z_aload_n (pc := 129) hX 0 dX12_init_129 rfl rfl ?_
  refine z_sipush (pc := 130) hX dX12_init_130 ?_
  refine z_newIA (pc := 133) hX dX12_init_133 wd149 (fun s32 => ?_)
  refine z_putA (pc := 135) hX zc12 25 (by decide) wd1042 (Or.inr ⟨hN, rfl⟩) rfl rfl (fun _ => rfl) (fun r => zfit_arr _ r _) dX12_init_135 (fun s33 => ?_)
  refine z_aload_n (pc := 138) hX 0 dX12_init_138 rfl rfl ?_
  refine z_iconst (pc := 139) hX dX12_init_139 ?_
  refine z_newIA (pc := 140) hX dX12_init_140 wd149 (fun s34 => ?_)
  refine z_dup (pc := 142) hX zn2 dX12_init_142 ?_
  refine z_iconst (pc := 143) hX dX12_init_143 ?_
  refine z_iconst (pc := 144) hX dX12_init_144 ?_
  refine z_iastA (pc := 145) hX dX12_init_145 (fun s35 => ?_)
  refine z_dup (pc := 146) hX zn2 dX12_init_146 ?_
  refine z_iconst (pc := 147) hX dX12_init_147 ?_
  refine z_iconst (pc := 148) hX dX12_init_148 ?_
  refine z_iastA (pc := 149) hX dX12_init_149 (fun s36 => ?_)
  refine z_dup (pc := 150) hX zn2 dX12_init_150 ?_
  refine z_iconst (pc := 151) hX dX12_init_151 ?_
  refine z_iconst (pc := 152) hX dX12_init_152 ?_
  refine z_iastA (pc := 153) hX dX12_init_153 (fun s37 => ?_)
  refine z_dup (pc := 154) hX zn2 dX12_init_154 ?_
  refine z_iconst (pc := 155) hX dX12_init_155 ?_
  refine z_iconst (pc := 156) hX dX12_init_156 ?_
  refine z_iastA (pc := 157) hX dX12_init_157 (fun s38 => ?_)
  refine z_putA (pc := 158) hX zc12 26 (by decide) wd1043 (Or.inr ⟨hN, rfl⟩) rfl rfl (fun _ => rfl) (fun r => zfit_arr _ r _) dX12_init_158 (fun s39 => ?_)
  refine z_aload_n (pc := 161) hX 0 dX12_init_161 rfl rfl ?_
  refine z_iconst (pc := 162) hX dX12_init_162 ?_
  refine z_newIA (pc := 163) hX dX12_init_163 wd149 (fun s40 => ?_)
  refine z_putA (pc := 165) hX zc12 27 (by decide) wd1044 (Or.inr ⟨hN, rfl⟩) rfl rfl (fun _ => rfl) (fun r => zfit_arr _ r _) dX12_init_165 (fun s41 => ?_)
  refine z_aload_n (pc := 168) hX 0 dX12_init_168 rfl rfl ?_
  refine z_sipush (pc := 169) hX dX12_init_169 ?_
  refine z_newIA (pc := 172) hX dX12_init_172 wd149 (fun s42 => ?_)
  refine z_putA (pc := 174) hX zc12 28 (by decide) wd1045 (Or.inr ⟨hN, rfl⟩) rfl rfl (fun _ => rfl) (fun r => zfit_arr _ r _) dX12_init_174 (fun s43 => ?_)
  refine z_aload_n (pc := 177) hX 0 dX12_init_177 rfl rfl ?_
  refine z_bipush (pc := 178) hX dX12_init_178 ?_
  refine z_newLA (pc := 180) hX dX12_init_180 wd1165 (fun s44 => ?_)
  refine z_dup (pc := 182) hX zn2 dX12_init_182 ?_
  refine z_iconst (pc := 183) hX dX12_init_183 ?_
  refine z_ldc2 (n := 1668248436) (pc := 184) hX dX12_init_184 wd1000 (by decide) ?_
  refine z_lastA (pc := 187) hX dX12_init_187 (fun s45 => ?_)
  refine z_dup (pc := 188) hX zn2 dX12_init_188 ?_
  refine z_iconst (pc := 189) hX dX12_init_189 ?_
  refine z_ldc2 (n := 1819243380) (pc := 190) hX dX12_init_190 wd1001 (by decide) ?_
  refine z_lastA (pc := 193) hX dX12_init_193 (fun s46 => ?_)
  refine z_dup (pc := 194) hX zn2 dX12_init_194 ?_
  refine z_iconst (pc := 195) hX dX12_init_195 ?_
  refine z_ldc2 (n := 2002872692) (pc := 196) hX dX12_init_196 wd1002 (by decide) ?_
  refine z_lastA (pc := 199) hX dX12_init_199 (fun s47 => ?_)
  refine z_dup (pc := 200) hX zn2 dX12_init_200 ?_
  refine z_iconst (pc := 201) hX dX12_init_201 ?_
  refine z_ldc2 (n := 435426585721) (pc := 202) hX dX12_init_202 wd1003 (by decide) ?_
  refine z_lastA (pc := 205) hX dX12_init_205 (fun s48 => ?_)
  refine z_dup (pc := 206) hX zn2 dX12_init_206 ?_
  refine z_iconst (pc := 207) hX dX12_init_207 ?_
  refine z_ldc2 (n := 1818326117) (pc := 208) hX dX12_init_208 wd1004 (by decide) ?_
  refine z_lastA (pc := 211) hX dX12_init_211 (fun s49 => ?_)
  refine z_dup (pc := 212) hX zn2 dX12_init_212 ?_
  refine z_iconst (pc := 213) hX dX12_init_213 ?_
  refine z_ldc2 (n := 120299592184933) (pc := 214) hX dX12_init_214 wd1005 (by decide) ?_
  refine z_lastA (pc := 217) hX dX12_init_217 (fun s50 => ?_)
  refine z_dup (pc := 218) hX zn2 dX12_init_218 ?_
  refine z_bipush (pc := 219) hX dX12_init_219 ?_
  refine z_ldc2 (n := 1936683636) (pc := 221) hX dX12_init_221 wd1006 (by decide) ?_
  refine z_lastA (pc := 224) hX dX12_init_224 (fun s51 => ?_)
  refine z_dup (pc := 225) hX zn2 dX12_init_225 ?_
  refine z_bipush (pc := 226) hX dX12_init_226 ?_
  refine z_ldc2 (n := 1953459308) (pc := 228) hX dX12_init_228 wd1007 (by decide) ?_
  refine z_lastA (pc := 231) hX dX12_init_231 (fun s52 => ?_)
  refine z_dup (pc := 232) hX zn2 dX12_init_232 ?_
  refine z_bipush (pc := 233) hX dX12_init_233 ?_
  refine z_ldc2 (n := 28530) (pc := 235) hX dX12_init_235 wd1008 (by decide) ?_
  refine z_lastA (pc := 238) hX dX12_init_238 (fun s53 => ?_)
  refine z_dup (pc := 239) hX zn2 dX12_init_239 ?_
  refine z_bipush (pc := 240) hX dX12_init_240 ?_
  refine z_ldc2 (n := 6385252) (pc := 242) hX dX12_init_242 wd1009 (by decide) ?_
  refine z_lastA (pc := 245) hX dX12_init_245 (fun s54 => ?_)
  refine z_dup (pc := 246) hX zn2 dX12_init_246 ?_
  refine z_bipush (pc := 247) hX dX12_init_247 ?_
  refine z_ldc2 (n := 7237492) (pc := 249) hX dX12_init_249 wd1010 (by decide) ?_
  refine z_lastA (pc := 252) hX dX12_init_252 (fun s55 => ?_)
  refine z_putA (pc := 253) hX zc12 33 (by decide) wd1050 (Or.inr ⟨hN, rfl⟩) rfl rfl (fun _ => rfl) (fun r => zfit_arr _ r _) dX12_init_253 (fun s56 => ?_)
  refine z_aload_n (pc := 256) hX 0 dX12_init_256 rfl rfl ?_
  refine z_sipush (pc := 257) hX dX12_init_257 ?_
  refine z_newIA (pc := 260) hX dX12_init_260 wd149 (fun s57 => ?_)
  refine z_putA (pc := 262) hX zc12 34 (by decide) wd1051 (Or.inr ⟨hN, rfl⟩) rfl rfl (fun _ => rfl) (fun r => zfit_arr _ r _) dX12_init_262 (fun s58 => ?_)
  refine z_aload_n (pc := 265) hX 0 dX12_init_265 rfl rfl ?_
  refine z_sipush (pc := 266) hX dX12_init_266 ?_
  refine z_newIA (pc := 269) hX dX12_init_269 wd149 (fun s59 => ?_)
  refine z_putA (pc := 271) hX zc12 38 (by decide) wd1055 (Or.inr ⟨hN, rfl⟩) rfl rfl (fun _ => rfl) (fun r => zfit_arr _ r _) dX12_init_271 (fun s60 => ?_)
  refine z_aload_n (pc := 274) hX 0 dX12_init_274 rfl rfl ?_
  refine z_bipush (pc := 275) hX dX12_init_275 ?_
  refine z_newIA (pc := 277) hX dX12_init_277 wd149 (fun s61 => ?_)
  refine z_putA (pc := 279) hX zc12 39 (by decide) wd1056 (Or.inr ⟨hN, rfl⟩) rfl rfl (fun _ => rfl) (fun r => zfit_arr _ r _) dX12_init_279 (fun s62 => ?_)
  refine z_aload_n (pc := 282) hX 0 dX12_init_282 rfl rfl ?_
  refine z_bipush (pc := 283) hX dX12_init_283 ?_
  refine z_newIA (pc := 285) hX dX12_init_285 wd149 (fun s63 => ?_)
  refine z_putA (pc := 287) hX zc12 40 (by decide) wd1057 (Or.inr ⟨hN, rfl⟩) rfl rfl (fun _ => rfl) (fun r => zfit_arr _ r _) dX12_init_287 (fun s64 => ?_)
  refine z_aload_n (pc := 290) hX 0 dX12_init_290 rfl rfl ?_
  refine z_bipush (pc := 291) hX dX12_init_291 ?_
  refine z_newIA (pc := 293) hX dX12_init_293 wd149 (fun s65 => ?_)
  refine z_putA (pc := 295) hX zc12 41 (by decide) wd1058 (Or.inr ⟨hN, rfl⟩) rfl rfl (fun _ => rfl) (fun r => zfit_arr _ r _) dX12_init_295 (fun s66 => ?_)
  refine z_aload_n (pc := 298) hX 0 dX12_init_298 rfl rfl ?_
  refine z_bipush (pc := 299) hX dX12_init_299 ?_
  refine z_newIA (pc := 301) hX dX12_init_301 wd149 (fun s67 => ?_)
  refine z_putA (pc := 303) hX zc12 42 (by decide) wd1059 (Or.inr ⟨hN, rfl⟩) rfl rfl (fun _ => rfl) (fun r => zfit_arr _ r _) dX12_init_303 (fun s68 => ?_)
  refine z_aload_n (pc := 306) hX 0 dX12_init_306 rfl rfl ?_
  refine z_bipush (pc := 307) hX dX12_init_307 ?_
  refine z_newIA (pc := 309) hX dX12_init_309 wd149 (fun s69 => ?_)
  refine z_putA (pc := 311) hX zc12 43 (by decide) wd1060 (Or.inr ⟨hN, rfl⟩) rfl rfl (fun _ => rfl) (fun r => zfit_arr _ r _) dX12_init_311 (fun s70 => ?_)
  refine z_aload_n (pc := 314) hX 0 dX12_init_314 rfl rfl ?_
  refine z_iconst (pc := 315) hX dX12_init_315 ?_
  refine z_newIA (pc := 316) hX dX12_init_316 wd149 (fun s71 => ?_)
  refine z_putA (pc := 318) hX zc12 48 (by decide) wd1065 (Or.inr ⟨hN, rfl⟩) rfl rfl (fun _ => rfl) (fun r => zfit_arr _ r _) dX12_init_318 (fun s72 => ?_)
  refine z_iconst (pc := 321) hX dX12_init_321 ?_
  refine z_istore_n (lv' := [(1, (0, 0)), (0, (2, a0))]) (pc := 322) hX dX12_init_322 rfl (zlt hxn rfl) rfl ?_
  have hl323 : ∀ (u74 : Int), ∀ (K342 : ZS → Option (Int × ZS)), (∀ (s79 : ZS), Zj X G 342 [(0, (2, u74))] [] s79 (K342 s79)) → ∀ (n1 : Nat) (s73 : ZS) (x75 : Int), Zj X G 323 [(0, (2, u74)), (1, (0, x75))] [] s73 (lX12_init_323 u74 K342 n1 s73 x75) := by
    intro u74 K342 hK342 n1
    induction n1 with
    | zero => intro _ _; exact z_none
    | succ n1 ih1 =>
      intro s73 x75
      rw [lX12_init_323]
      refine z_iload_n (pc := 323) hX 1 dX12_init_323 rfl rfl ?_
      refine z_bipush (pc := 324) hX dX12_init_324 ?_
      refine z_icmp_ge (pc := 326) hX 342 dX12_init_326 (by decide) (fun h76 => ?_) (fun h76 => ?_)
      · refine z_pick (lv' := [(0, (2, u74))]) [0] rfl ?_
        exact hK342 _
      · refine z_aload_n (pc := 329) hX 0 dX12_init_329 rfl rfl ?_
        refine z_get (pc := 330) hX zc12 0 (by decide) wd1017 rfl rfl dX12_init_330 (fun v77 => ?_)
        refine z_iload_n (pc := 333) hX 1 dX12_init_333 rfl rfl ?_
        refine z_iconst (pc := 334) hX dX12_init_334 ?_
        refine z_iastA (pc := 335) hX dX12_init_335 (fun s78 => ?_)
        refine z_iinc (lv' := [(1, (0, (wrap (x75 + 1)))), (0, (2, u74))]) (pc := 336) hX 1 dX12_init_336 rfl (zlt hxn rfl) rfl ?_
        refine z_goto (pc := 339) hX 323 dX12_init_339 (by decide) ?_
        refine z_pick (lv' := [(0, (2, u74)), (1, (0, (wrap (x75 + 1))))]) [1, 0] rfl ?_
        exact ih1 _ _
  refine z_pick (lv' := [(0, (2, a0)), (1, (0, 0))]) [1, 0] rfl ?_
  refine hl323 _ _ (fun s80 => ?_) 1000 _ _
  refine z_aload_n (pc := 342) hX 0 dX12_init_342 rfl rfl ?_
  refine z_iconst (pc := 343) hX dX12_init_343 ?_
  refine z_iconst (pc := 344) hX dX12_init_344 ?_
  refine z_ldc (n := 100002) (pc := 345) hX dX12_init_345 wd1011 (by decide) ?_
  refine z_bipush (pc := 347) hX dX12_init_347 ?_
  refine z_iconst (pc := 349) hX dX12_init_349 ?_
  refine z_callV (n := 5) (st := []) (pc := 350) hX zc12 rfl (fun _ => (mX12_first _ hE _ _ _ _ _ _ _ _)) ⟨wd1012, wd67, wd1015, ⟨by decide, by decide, by decide⟩, by decide⟩ rfl wd1014 wd31 rfl rfl (by decide) (Nat.le_of_ble_eq_true rfl) dX12_init_350 (fun v81 s82 r83 => ?_)
  show Zj X G 353 [(0, (2, a0))] [] _ _
  refine z_aload_n (pc := 353) hX 0 dX12_init_353 rfl rfl ?_
  refine z_iconst (pc := 354) hX dX12_init_354 ?_
  refine z_bipush (pc := 355) hX dX12_init_355 ?_
  refine z_iconst (pc := 357) hX dX12_init_357 ?_
  refine z_ldc (n := 100003) (pc := 358) hX dX12_init_358 wd1016 (by decide) ?_
  refine z_bipush (pc := 360) hX dX12_init_360 ?_
  refine z_callV (n := 5) (st := []) (pc := 362) hX zc12 rfl (fun _ => (mX12_first _ hE _ _ _ _ _ _ _ _)) ⟨wd1012, wd67, wd1015, ⟨by decide, by decide, by decide⟩, by decide⟩ rfl wd1014 wd31 rfl rfl (by decide) (Nat.le_of_ble_eq_true rfl) dX12_init_362 (fun v84 s85 r86 => ?_)
  show Zj X G 365 [(0, (2, a0))] [] _ _
  refine z_aload_n (pc := 365) hX 0 dX12_init_365 rfl rfl ?_
  refine z_bipush (pc := 366) hX dX12_init_366 ?_
  refine z_bipush (pc := 368) hX dX12_init_368 ?_
  refine z_iconst (pc := 370) hX dX12_init_370 ?_
  refine z_bipush (pc := 371) hX dX12_init_371 ?_
  refine z_iconst (pc := 373) hX dX12_init_373 ?_
  refine z_callV (n := 5) (st := []) (pc := 374) hX zc12 rfl (fun _ => (mX12_first _ hE _ _ _ _ _ _ _ _)) ⟨wd1012, wd67, wd1015, ⟨by decide, by decide, by decide⟩, by decide⟩ rfl wd1014 wd31 rfl rfl (by decide) (Nat.le_of_ble_eq_true rfl) dX12_init_374 (fun v87 s88 r89 => ?_)
  show Zj X G 377 [(0, (2, a0))] [] _ _
  refine z_aload_n (pc := 377) hX 0 dX12_init_377 rfl rfl ?_
  refine z_get (pc := 378) hX zc12 15 (by decide) wd1032 rfl rfl dX12_init_378 (fun v90 => ?_)
  refine z_iconst (pc := 381) hX dX12_init_381 ?_
  refine z_bipush (pc := 382) hX dX12_init_382 ?_
  refine z_iastA (pc := 384) hX dX12_init_384 (fun s91 => ?_)
  refine z_aload_n (pc := 385) hX 0 dX12_init_385 rfl rfl ?_
  refine z_get (pc := 386) hX zc12 15 (by decide) wd1032 rfl rfl dX12_init_386 (fun v92 => ?_)
  refine z_iconst (pc := 389) hX dX12_init_389 ?_
  refine z_bipush (pc := 390) hX dX12_init_390 ?_
  refine z_iastA (pc := 392) hX dX12_init_392 (fun s93 => ?_)
  exact z_vret (pc := 393) hX hR hk dX12_init_393

theorem dX11_within_0 : decode cX11_within 0 = .ok (.iload_n 0, 1) := by decide +kernel
theorem dX11_within_1 : decode cX11_within 1 = .ok (.ifCond .lt 12, 3) := by decide +kernel
theorem dX11_within_4 : decode cX11_within 4 = .ok (.iload_n 0, 1) := by decide +kernel
theorem dX11_within_5 : decode cX11_within 5 = .ok (.iload_n 1, 1) := by decide +kernel
theorem dX11_within_6 : decode cX11_within 6 = .ok (.if_icmp .gt 7, 3) := by decide +kernel
theorem dX11_within_9 : decode cX11_within 9 = .ok (.iconst 1, 1) := by decide +kernel
theorem dX11_within_10 : decode cX11_within 10 = .ok (.goto 4, 3) := by decide +kernel
theorem dX11_within_13 : decode cX11_within 13 = .ok (.iconst 0, 1) := by decide +kernel
theorem dX11_within_14 : decode cX11_within 14 = .ok (.ireturn, 1) := by decide +kernel
def fX11_within (s0 : ZS) (a0 : Int) (a1 : Int) : Option (Int × ZS) := if a0 < 0 then (some (0, s0)) else (if a1 < a0 then (some (0, s0)) else (some (1, s0)))
set_option maxHeartbeats 4000000 in
set_option maxRecDepth 100000 in
theorem mX11_within (E : ZE) (hE : zOkE E) (l : Launch) (s0 : ZS) (a0 : Int) (a1 : Int) : Ct E l yX11_within cX11_within 2 (some .boolean) 2 [(0, a0), (0, a1)] 4 s0 (fX11_within s0 a0 a1) := by
  refine Ct.of (by decide) hE (Nat.le_of_ble_eq_true rfl) ?_
  intro X G hX hR hN hXE hXl hxn hk _
  subst hXE
  subst hXl
  have hX : G → ZOk X cX11_within RX11 2 := hX
  clear hN
  show Zj X G 0 [(0, (0, a0)), (1, (0, a1))] [] s0 _
  unfold fX11_within
  refine z_iload_n (pc := 0) hX 0 dX11_within_0 rfl rfl ?_
  refine z_if_lt (pc := 1) hX 13 dX11_within_1 (by decide) (fun h1 => ?_) (fun h1 => ?_)
  · refine z_iconst (pc := 13) hX dX11_within_13 ?_
    exact z_zret (pc := 14) hX hR hk dX11_within_14 (Or.inl rfl)
  · refine z_iload_n (pc := 4) hX 0 dX11_within_4 rfl rfl ?_
    refine z_iload_n (pc := 5) hX 1 dX11_within_5 rfl rfl ?_
    refine z_icmp_gt (pc := 6) hX 13 dX11_within_6 (by decide) (fun h2 => ?_) (fun h2 => ?_)
    · refine z_iconst (pc := 13) hX dX11_within_13 ?_
      exact z_zret (pc := 14) hX hR hk dX11_within_14 (Or.inl rfl)
    · refine z_iconst (pc := 9) hX dX11_within_9 ?_
      refine z_goto (pc := 10) hX 14 dX11_within_10 (by decide) ?_
      exact z_zret (pc := 14) hX hR hk dX11_within_14 (Or.inr rfl)

theorem dX11_isGate_0 : decode cX11_isGate 0 = .ok (.iload_n 0, 1) := by decide +kernel
theorem dX11_isGate_1 : decode cX11_isGate 1 = .ok (.iconst 1, 1) := by decide +kernel
theorem dX11_isGate_2 : decode cX11_isGate 2 = .ok (.invokestatic 102, 3) := by decide +kernel
theorem dX11_isGate_5 : decode cX11_isGate 5 = .ok (.ireturn, 1) := by decide +kernel
def fX11_isGate (s0 : ZS) (a0 : Int) : Option (Int × ZS) := zb (fX11_within s0 a0 1) (fun v1 s2 => some (v1, s2))
set_option maxHeartbeats 4000000 in
set_option maxRecDepth 100000 in
theorem mX11_isGate (E : ZE) (hE : zOkE E) (l : Launch) (s0 : ZS) (a0 : Int) : Ct E l yX11_isGate cX11_isGate 1 (some .boolean) 4 [(0, a0)] 4 s0 (fX11_isGate s0 a0) := by
  refine Ct.of (by decide) hE (Nat.le_of_ble_eq_true rfl) ?_
  intro X G hX hR hN hXE hXl hxn hk _
  subst hXE
  subst hXl
  have hX : G → ZOk X cX11_isGate RX11 4 := hX
  clear hN
  show Zj X G 0 [(0, (0, a0))] [] s0 _
  unfold fX11_isGate
  refine z_iload_n (pc := 0) hX 0 dX11_isGate_0 rfl rfl ?_
  refine z_iconst (pc := 1) hX dX11_isGate_1 ?_
  refine z_callS (n := 2) (st := []) (pc := 2) hX (mX11_within _ hE _ _ _ _) ⟨wd329, wd61, wd331, ⟨by decide, by decide, by decide⟩, by decide⟩ wd330 rfl rfl (by decide) (Nat.le_of_ble_eq_true rfl) dX11_isGate_2 (fun v1 s2 r3 => ?_)
  show Zj X G 5 [(0, (0, a0))] [(0, v1)] _ _
  exact z_zret (pc := 5) hX hR hk dX11_isGate_5 r3

theorem dX11_isMinute_0 : decode cX11_isMinute 0 = .ok (.iload_n 0, 1) := by decide +kernel
theorem dX11_isMinute_1 : decode cX11_isMinute 1 = .ok (.bipush 23, 2) := by decide +kernel
theorem dX11_isMinute_3 : decode cX11_isMinute 3 = .ok (.invokestatic 102, 3) := by decide +kernel
theorem dX11_isMinute_6 : decode cX11_isMinute 6 = .ok (.ireturn, 1) := by decide +kernel
def fX11_isMinute (s0 : ZS) (a0 : Int) : Option (Int × ZS) := zb (fX11_within s0 a0 23) (fun v1 s2 => some (v1, s2))
set_option maxHeartbeats 4000000 in
set_option maxRecDepth 100000 in
theorem mX11_isMinute (E : ZE) (hE : zOkE E) (l : Launch) (s0 : ZS) (a0 : Int) : Ct E l yX11_isMinute cX11_isMinute 1 (some .boolean) 4 [(0, a0)] 4 s0 (fX11_isMinute s0 a0) := by
  refine Ct.of (by decide) hE (Nat.le_of_ble_eq_true rfl) ?_
  intro X G hX hR hN hXE hXl hxn hk _
  subst hXE
  subst hXl
  have hX : G → ZOk X cX11_isMinute RX11 4 := hX
  clear hN
  show Zj X G 0 [(0, (0, a0))] [] s0 _
  unfold fX11_isMinute
  refine z_iload_n (pc := 0) hX 0 dX11_isMinute_0 rfl rfl ?_
  refine z_bipush (pc := 1) hX dX11_isMinute_1 ?_
  refine z_callS (n := 2) (st := []) (pc := 3) hX (mX11_within _ hE _ _ _ _) ⟨wd329, wd61, wd331, ⟨by decide, by decide, by decide⟩, by decide⟩ wd330 rfl rfl (by decide) (Nat.le_of_ble_eq_true rfl) dX11_isMinute_3 (fun v1 s2 r3 => ?_)
  show Zj X G 6 [(0, (0, a0))] [(0, v1)] _ _
  exact z_zret (pc := 6) hX hR hk dX11_isMinute_6 r3

theorem dX11_rate_0 : decode cX11_rate 0 = .ok (.iload_n 1, 1) := by decide +kernel
theorem dX11_rate_1 : decode cX11_rate 1 = .ok (.invokestatic 95, 3) := by decide +kernel
theorem dX11_rate_4 : decode cX11_rate 4 = .ok (.ifCond .eq 10, 3) := by decide +kernel
theorem dX11_rate_7 : decode cX11_rate 7 = .ok (.iload_n 2, 1) := by decide +kernel
theorem dX11_rate_8 : decode cX11_rate 8 = .ok (.invokestatic 99, 3) := by decide +kernel
theorem dX11_rate_11 : decode cX11_rate 11 = .ok (.ifCond .ne 5, 3) := by decide +kernel
theorem dX11_rate_14 : decode cX11_rate 14 = .ok (.iconst (-1), 1) := by decide +kernel
theorem dX11_rate_15 : decode cX11_rate 15 = .ok (.ireturn, 1) := by decide +kernel
theorem dX11_rate_16 : decode cX11_rate 16 = .ok (.iload_n 3, 1) := by decide +kernel
theorem dX11_rate_17 : decode cX11_rate 17 = .ok (.iload_n 2, 1) := by decide +kernel
theorem dX11_rate_18 : decode cX11_rate 18 = .ok (.if_icmp .le 19, 3) := by decide +kernel
theorem dX11_rate_21 : decode cX11_rate 21 = .ok (.iload_n 3, 1) := by decide +kernel
theorem dX11_rate_22 : decode cX11_rate 22 = .ok (.bipush 24, 2) := by decide +kernel
theorem dX11_rate_24 : decode cX11_rate 24 = .ok (.if_icmp .gt 13, 3) := by decide +kernel
theorem dX11_rate_27 : decode cX11_rate 27 = .ok (.iload 4, 2) := by decide +kernel
theorem dX11_rate_29 : decode cX11_rate 29 = .ok (.bipush 9, 2) := by decide +kernel
theorem dX11_rate_31 : decode cX11_rate 31 = .ok (.invokestatic 102, 3) := by decide +kernel
theorem dX11_rate_34 : decode cX11_rate 34 = .ok (.ifCond .ne 6, 3) := by decide +kernel
theorem dX11_rate_37 : decode cX11_rate 37 = .ok (.bipush (-2), 2) := by decide +kernel
theorem dX11_rate_39 : decode cX11_rate 39 = .ok (.ireturn, 1) := by decide +kernel
theorem dX11_rate_40 : decode cX11_rate 40 = .ok (.aload_n 0, 1) := by decide +kernel
theorem dX11_rate_41 : decode cX11_rate 41 = .ok (.getfield 20, 3) := by decide +kernel
theorem dX11_rate_44 : decode cX11_rate 44 = .ok (.getfield 106, 3) := by decide +kernel
theorem dX11_rate_47 : decode cX11_rate 47 = .ok (.iload_n 1, 1) := by decide +kernel
theorem dX11_rate_48 : decode cX11_rate 48 = .ok (.aaload, 1) := by decide +kernel
theorem dX11_rate_49 : decode cX11_rate 49 = .ok (.iload_n 2, 1) := by decide +kernel
theorem dX11_rate_50 : decode cX11_rate 50 = .ok (.iaload, 1) := by decide +kernel
theorem dX11_rate_51 : decode cX11_rate 51 = .ok (.istore 5, 2) := by decide +kernel
theorem dX11_rate_53 : decode cX11_rate 53 = .ok (.iload_n 2, 1) := by decide +kernel
theorem dX11_rate_54 : decode cX11_rate 54 = .ok (.istore 6, 2) := by decide +kernel
theorem dX11_rate_56 : decode cX11_rate 56 = .ok (.iload 6, 2) := by decide +kernel
theorem dX11_rate_58 : decode cX11_rate 58 = .ok (.iload_n 3, 1) := by decide +kernel
theorem dX11_rate_59 : decode cX11_rate 59 = .ok (.if_icmp .ge 23, 3) := by decide +kernel
theorem dX11_rate_62 : decode cX11_rate 62 = .ok (.aload_n 0, 1) := by decide +kernel
theorem dX11_rate_63 : decode cX11_rate 63 = .ok (.getfield 20, 3) := by decide +kernel
theorem dX11_rate_66 : decode cX11_rate 66 = .ok (.getfield 106, 3) := by decide +kernel
theorem dX11_rate_69 : decode cX11_rate 69 = .ok (.iload_n 1, 1) := by decide +kernel
theorem dX11_rate_70 : decode cX11_rate 70 = .ok (.aaload, 1) := by decide +kernel
theorem dX11_rate_71 : decode cX11_rate 71 = .ok (.iload 6, 2) := by decide +kernel
theorem dX11_rate_73 : decode cX11_rate 73 = .ok (.iload 4, 2) := by decide +kernel
theorem dX11_rate_75 : decode cX11_rate 75 = .ok (.iastore, 1) := by decide +kernel
theorem dX11_rate_76 : decode cX11_rate 76 = .ok (.iinc 6 1, 3) := by decide +kernel
theorem dX11_rate_79 : decode cX11_rate 79 = .ok (.goto (-23), 3) := by decide +kernel
theorem dX11_rate_82 : decode cX11_rate 82 = .ok (.iload 5, 2) := by decide +kernel
theorem dX11_rate_84 : decode cX11_rate 84 = .ok (.ireturn, 1) := by decide +kernel
def lX11_rate_56 (u20 u21 u22 u23 u24 : Int)  : Nat → ZS → Int → Option (Int × ZS)
  | 0, _, _ => none
  | n1 + 1, s19, x25 => if u22 ≤ x25 then (some (u24, s19)) else ((zg s19 11 u20 1).bind (fun v27 => (zg s19 5 v27 0).bind (fun v28 => (zal s19 102 v28 u21).bind (fun v29 => (zas s19 100 v29 x25 u23).bind (fun s30 => lX11_rate_56 u20 u21 u22 u23 u24 n1 s30 (wrap (x25 + 1)))))))

def fX11_rate (s0 : ZS) (a0 : Int) (a1 : Int) (a2 : Int) (a3 : Int) (a4 : Int) : Option (Int × ZS) := zb (fX11_isGate s0 a1) (fun v1 s2 => if v1 = 0 then (some ((-1), s2)) else (zb (fX11_isMinute s2 a2) (fun v5 s6 => if v5 = 0 then (some ((-1), s6)) else (if a3 ≤ a2 then (some ((-2), s6)) else (if 24 < a3 then (some ((-2), s6)) else (zb (fX11_within s6 a4 9) (fun v11 s12 => if v11 = 0 then (some ((-2), s12)) else ((zg s12 11 a0 1).bind (fun v15 => (zg s12 5 v15 0).bind (fun v16 => (zal s12 102 v16 a1).bind (fun v17 => (zal s12 100 v17 a2).bind (fun v18 => lX11_rate_56 a0 a1 a3 a4 v18 1000 s12 a2))))))))))))
set_option maxHeartbeats 4000000 in
set_option maxRecDepth 100000 in
theorem mX11_rate (E : ZE) (hE : zOkE E) (l : Launch) (s0 : ZS) (a0 : Int) (a1 : Int) (a2 : Int) (a3 : Int) (a4 : Int) : Ct E l yX11_rate cX11_rate 7 (some .int) 6 [(2, a0), (0, a1), (0, a2), (0, a3), (0, a4)] 1 s0 (fX11_rate s0 a0 a1 a2 a3 a4) := by
  refine Ct.of (by decide) hE (Nat.le_of_ble_eq_true rfl) ?_
  intro X G hX hR hN hXE hXl hxn hk _
  subst hXE
  subst hXl
  have hX : G → ZOk X cX11_rate RX11 6 := hX
  clear hN
  show Zj X G 0 [(0, (2, a0)), (1, (0, a1)), (2, (0, a2)), (3, (0, a3)), (4, (0, a4))] [] s0 _
  unfold fX11_rate
  refine z_iload_n (pc := 0) hX 1 dX11_rate_0 rfl rfl ?_
  refine z_callS (n := 1) (st := []) (pc := 1) hX (mX11_isGate _ hE _ _ _) ⟨wd326, wd61, wd328, ⟨by decide, by decide, by decide⟩, by decide⟩ wd327 rfl rfl (by decide) (Nat.le_of_ble_eq_true rfl) dX11_rate_1 (fun v1 s2 r3 => ?_)
  show Zj X G 4 [(0, (2, a0)), (1, (0, a1)), (2, (0, a2)), (3, (0, a3)), (4, (0, a4))] [(0, v1)] _ _
  refine z_if_eq (pc := 4) hX 14 dX11_rate_4 (by decide) (fun h4 => ?_) (fun h4 => ?_)
  · refine z_iconst (pc := 14) hX dX11_rate_14 ?_
    exact z_iret (pc := 15) hX hR hk dX11_rate_15
  · refine z_iload_n (pc := 7) hX 2 dX11_rate_7 rfl rfl ?_
    refine z_callS (n := 1) (st := []) (pc := 8) hX (mX11_isMinute _ hE _ _ _) ⟨wd332, wd61, wd334, ⟨by decide, by decide, by decide⟩, by decide⟩ wd333 rfl rfl (by decide) (Nat.le_of_ble_eq_true rfl) dX11_rate_8 (fun v5 s6 r7 => ?_)
    show Zj X G 11 [(0, (2, a0)), (1, (0, a1)), (2, (0, a2)), (3, (0, a3)), (4, (0, a4))] [(0, v5)] _ _
    refine z_if_ne (pc := 11) hX 16 dX11_rate_11 (by decide) (fun h8 => ?_) (fun h8 => ?_)
    · refine z_iload_n (pc := 16) hX 3 dX11_rate_16 rfl rfl ?_
      refine z_iload_n (pc := 17) hX 2 dX11_rate_17 rfl rfl ?_
      refine z_icmp_le (pc := 18) hX 37 dX11_rate_18 (by decide) (fun h9 => ?_) (fun h9 => ?_)
      · refine z_bipush (pc := 37) hX dX11_rate_37 ?_
        exact z_iret (pc := 39) hX hR hk dX11_rate_39
      · refine z_iload_n (pc := 21) hX 3 dX11_rate_21 rfl rfl ?_
        refine z_bipush (pc := 22) hX dX11_rate_22 ?_
        refine z_icmp_gt (pc := 24) hX 37 dX11_rate_24 (by decide) (fun h10 => ?_) (fun h10 => ?_)
        · refine z_bipush (pc := 37) hX dX11_rate_37 ?_
          exact z_iret (pc := 39) hX hR hk dX11_rate_39
        · refine z_iload (pc := 27) hX 4 dX11_rate_27 rfl ?_
          refine z_bipush (pc := 29) hX dX11_rate_29 ?_
          refine z_callS (n := 2) (st := []) (pc := 31) hX (mX11_within _ hE _ _ _ _) ⟨wd329, wd61, wd331, ⟨by decide, by decide, by decide⟩, by decide⟩ wd330 rfl rfl (by decide) (Nat.le_of_ble_eq_true rfl) dX11_rate_31 (fun v11 s12 r13 => ?_)
          show Zj X G 34 [(0, (2, a0)), (1, (0, a1)), (2, (0, a2)), (3, (0, a3)), (4, (0, a4))] [(0, v11)] _ _
          refine z_if_ne (pc := 34) hX 40 dX11_rate_34 (by decide) (fun h14 => ?_) (fun h14 => ?_)
          · refine z_aload_n (pc := 40) hX 0 dX11_rate_40 rfl rfl ?_
            refine z_get (pc := 41) hX zc11 1 (by decide) wd271 rfl rfl dX11_rate_41 (fun v15 => ?_)
            refine z_get (pc := 44) hX zc5 0 (by decide) wd106 rfl rfl dX11_rate_44 (fun v16 => ?_)
            refine z_iload_n (pc := 47) hX 1 dX11_rate_47 rfl rfl ?_
            refine z_aald (pc := 48) hX 2 102 (by decide) rfl rfl dX11_rate_48 (fun v17 => ?_)
            refine z_iload_n (pc := 49) hX 2 dX11_rate_49 rfl rfl ?_
            refine z_iald (pc := 50) hX dX11_rate_50 (fun v18 => ?_)
            refine z_istore (lv' := [(5, (0, v18)), (0, (2, a0)), (1, (0, a1)), (2, (0, a2)), (3, (0, a3)), (4, (0, a4))]) (pc := 51) hX dX11_rate_51 (zlt hxn rfl) rfl ?_
            refine z_iload_n (pc := 53) hX 3 dX11_rate_53 rfl rfl ?_
            refine z_istore (lv' := [(6, (0, a2)), (5, (0, v18)), (0, (2, a0)), (1, (0, a1)), (2, (0, a2)), (3, (0, a3)), (4, (0, a4))]) (pc := 54) hX dX11_rate_54 (zlt hxn rfl) rfl ?_
            have hl56 : ∀ (u20 u21 u22 u23 u24 : Int), ∀ (n1 : Nat) (s19 : ZS) (x25 : Int), Zj X G 56 [(0, (2, u20)), (1, (0, u21)), (3, (0, u22)), (4, (0, u23)), (5, (0, u24)), (6, (0, x25))] [] s19 (lX11_rate_56 u20 u21 u22 u23 u24 n1 s19 x25) := by
              intro u20 u21 u22 u23 u24 n1
              induction n1 with
              | zero => intro _ _; exact z_none
              | succ n1 ih1 =>
                intro s19 x25
                rw [lX11_rate_56]
                refine z_iload (pc := 56) hX 5 dX11_rate_56 rfl ?_
                refine z_iload_n (pc := 58) hX 2 dX11_rate_58 rfl rfl ?_
                refine z_icmp_ge (pc := 59) hX 82 dX11_rate_59 (by decide) (fun h26 => ?_) (fun h26 => ?_)
                · refine z_iload (pc := 82) hX 4 dX11_rate_82 rfl ?_
                  exact z_iret (pc := 84) hX hR hk dX11_rate_84
                · refine z_aload_n (pc := 62) hX 0 dX11_rate_62 rfl rfl ?_
                  refine z_get (pc := 63) hX zc11 1 (by decide) wd271 rfl rfl dX11_rate_63 (fun v27 => ?_)
                  refine z_get (pc := 66) hX zc5 0 (by decide) wd106 rfl rfl dX11_rate_66 (fun v28 => ?_)
                  refine z_iload_n (pc := 69) hX 1 dX11_rate_69 rfl rfl ?_
                  refine z_aald (pc := 70) hX 2 102 (by decide) rfl rfl dX11_rate_70 (fun v29 => ?_)
                  refine z_iload (pc := 71) hX 5 dX11_rate_71 rfl ?_
                  refine z_iload (pc := 73) hX 3 dX11_rate_73 rfl ?_
                  refine z_iastA (pc := 75) hX dX11_rate_75 (fun s30 => ?_)
                  refine z_iinc (lv' := [(6, (0, (wrap (x25 + 1)))), (0, (2, u20)), (1, (0, u21)), (3, (0, u22)), (4, (0, u23)), (5, (0, u24))]) (pc := 76) hX 5 dX11_rate_76 rfl (zlt hxn rfl) rfl ?_
                  refine z_goto (pc := 79) hX 56 dX11_rate_79 (by decide) ?_
                  refine z_pick (lv' := [(0, (2, u20)), (1, (0, u21)), (3, (0, u22)), (4, (0, u23)), (5, (0, u24)), (6, (0, (wrap (x25 + 1))))]) [1, 2, 3, 4, 5, 0] rfl ?_
                  exact ih1 _ _
            refine z_pick (lv' := [(0, (2, a0)), (1, (0, a1)), (3, (0, a3)), (4, (0, a4)), (5, (0, v18)), (6, (0, a2))]) [2, 3, 5, 6, 1, 0] rfl ?_
            refine hl56 _ _ _ _ _ 1000 _ _
          · refine z_bipush (pc := 37) hX dX11_rate_37 ?_
            exact z_iret (pc := 39) hX hR hk dX11_rate_39
    · refine z_iconst (pc := 14) hX dX11_rate_14 ?_
      exact z_iret (pc := 15) hX hR hk dX11_rate_15

theorem dX12_in_0 : decode cX12_in 0 = .ok (.iload_n 0, 1) := by decide +kernel
theorem dX12_in_1 : decode cX12_in 1 = .ok (.iload_n 1, 1) := by decide +kernel
theorem dX12_in_2 : decode cX12_in 2 = .ok (.if_icmp .lt 12, 3) := by decide +kernel
theorem dX12_in_5 : decode cX12_in 5 = .ok (.iload_n 0, 1) := by decide +kernel
theorem dX12_in_6 : decode cX12_in 6 = .ok (.iload_n 2, 1) := by decide +kernel
theorem dX12_in_7 : decode cX12_in 7 = .ok (.if_icmp .gt 7, 3) := by decide +kernel
theorem dX12_in_10 : decode cX12_in 10 = .ok (.iconst 1, 1) := by decide +kernel
theorem dX12_in_11 : decode cX12_in 11 = .ok (.goto 4, 3) := by decide +kernel
theorem dX12_in_14 : decode cX12_in 14 = .ok (.iconst 0, 1) := by decide +kernel
theorem dX12_in_15 : decode cX12_in 15 = .ok (.ireturn, 1) := by decide +kernel
def fX12_in (s0 : ZS) (a0 : Int) (a1 : Int) (a2 : Int) : Option (Int × ZS) := if a0 < a1 then (some (0, s0)) else (if a2 < a0 then (some (0, s0)) else (some (1, s0)))
set_option maxHeartbeats 4000000 in
set_option maxRecDepth 100000 in
theorem mX12_in (E : ZE) (hE : zOkE E) (l : Launch) (s0 : ZS) (a0 : Int) (a1 : Int) (a2 : Int) : Ct E l yX12_in cX12_in 3 (some .boolean) 2 [(0, a0), (0, a1), (0, a2)] 4 s0 (fX12_in s0 a0 a1 a2) := by
  refine Ct.of (by decide) hE (Nat.le_of_ble_eq_true rfl) ?_
  intro X G hX hR hN hXE hXl hxn hk _
  subst hXE
  subst hXl
  have hX : G → ZOk X cX12_in RX12 2 := hX
  clear hN
  show Zj X G 0 [(0, (0, a0)), (1, (0, a1)), (2, (0, a2))] [] s0 _
  unfold fX12_in
  refine z_iload_n (pc := 0) hX 0 dX12_in_0 rfl rfl ?_
  refine z_iload_n (pc := 1) hX 1 dX12_in_1 rfl rfl ?_
  refine z_icmp_lt (pc := 2) hX 14 dX12_in_2 (by decide) (fun h1 => ?_) (fun h1 => ?_)
  · refine z_iconst (pc := 14) hX dX12_in_14 ?_
    exact z_zret (pc := 15) hX hR hk dX12_in_15 (Or.inl rfl)
  · refine z_iload_n (pc := 5) hX 0 dX12_in_5 rfl rfl ?_
    refine z_iload_n (pc := 6) hX 2 dX12_in_6 rfl rfl ?_
    refine z_icmp_gt (pc := 7) hX 14 dX12_in_7 (by decide) (fun h2 => ?_) (fun h2 => ?_)
    · refine z_iconst (pc := 14) hX dX12_in_14 ?_
      exact z_zret (pc := 15) hX hR hk dX12_in_15 (Or.inl rfl)
    · refine z_iconst (pc := 10) hX dX12_in_10 ?_
      refine z_goto (pc := 11) hX 15 dX12_in_11 (by decide) ?_
      exact z_zret (pc := 15) hX hR hk dX12_in_15 (Or.inr rfl)

theorem dX12_isGate_0 : decode cX12_isGate 0 = .ok (.iload_n 0, 1) := by decide +kernel
theorem dX12_isGate_1 : decode cX12_isGate 1 = .ok (.iconst 0, 1) := by decide +kernel
theorem dX12_isGate_2 : decode cX12_isGate 2 = .ok (.iconst 1, 1) := by decide +kernel
theorem dX12_isGate_3 : decode cX12_isGate 3 = .ok (.invokestatic 127, 3) := by decide +kernel
theorem dX12_isGate_6 : decode cX12_isGate 6 = .ok (.ifCond .eq 17, 3) := by decide +kernel
theorem dX12_isGate_9 : decode cX12_isGate 9 = .ok (.iload_n 1, 1) := by decide +kernel
theorem dX12_isGate_10 : decode cX12_isGate 10 = .ok (.iconst 0, 1) := by decide +kernel
theorem dX12_isGate_11 : decode cX12_isGate 11 = .ok (.bipush 23, 2) := by decide +kernel
theorem dX12_isGate_13 : decode cX12_isGate 13 = .ok (.invokestatic 127, 3) := by decide +kernel
theorem dX12_isGate_16 : decode cX12_isGate 16 = .ok (.ifCond .eq 7, 3) := by decide +kernel
theorem dX12_isGate_19 : decode cX12_isGate 19 = .ok (.iconst 1, 1) := by decide +kernel
theorem dX12_isGate_20 : decode cX12_isGate 20 = .ok (.goto 4, 3) := by decide +kernel
theorem dX12_isGate_23 : decode cX12_isGate 23 = .ok (.iconst 0, 1) := by decide +kernel
theorem dX12_isGate_24 : decode cX12_isGate 24 = .ok (.ireturn, 1) := by decide +kernel
def fX12_isGate (s0 : ZS) (a0 : Int) (a1 : Int) : Option (Int × ZS) := zb (fX12_in s0 a0 0 1) (fun v1 s2 => if v1 = 0 then (some (0, s2)) else (zb (fX12_in s2 a1 0 23) (fun v5 s6 => if v5 = 0 then (some (0, s6)) else (some (1, s6)))))
set_option maxHeartbeats 4000000 in
set_option maxRecDepth 100000 in
theorem mX12_isGate (E : ZE) (hE : zOkE E) (l : Launch) (s0 : ZS) (a0 : Int) (a1 : Int) : Ct E l yX12_isGate cX12_isGate 2 (some .boolean) 4 [(0, a0), (0, a1)] 4 s0 (fX12_isGate s0 a0 a1) := by
  refine Ct.of (by decide) hE (Nat.le_of_ble_eq_true rfl) ?_
  intro X G hX hR hN hXE hXl hxn hk _
  subst hXE
  subst hXl
  have hX : G → ZOk X cX12_isGate RX12 4 := hX
  clear hN
  show Zj X G 0 [(0, (0, a0)), (1, (0, a1))] [] s0 _
  unfold fX12_isGate
  refine z_iload_n (pc := 0) hX 0 dX12_isGate_0 rfl rfl ?_
  refine z_iconst (pc := 1) hX dX12_isGate_1 ?_
  refine z_iconst (pc := 2) hX dX12_isGate_2 ?_
  refine z_callS (n := 3) (st := []) (pc := 3) hX (mX12_in _ hE _ _ _ _ _) ⟨wd1173, wd67, wd1175, ⟨by decide, by decide, by decide⟩, by decide⟩ wd1174 rfl rfl (by decide) (Nat.le_of_ble_eq_true rfl) dX12_isGate_3 (fun v1 s2 r3 => ?_)
  show Zj X G 6 [(0, (0, a0)), (1, (0, a1))] [(0, v1)] _ _
  refine z_if_eq (pc := 6) hX 23 dX12_isGate_6 (by decide) (fun h4 => ?_) (fun h4 => ?_)
  · refine z_iconst (pc := 23) hX dX12_isGate_23 ?_
    exact z_zret (pc := 24) hX hR hk dX12_isGate_24 (Or.inl rfl)
  · refine z_iload_n (pc := 9) hX 1 dX12_isGate_9 rfl rfl ?_
    refine z_iconst (pc := 10) hX dX12_isGate_10 ?_
    refine z_bipush (pc := 11) hX dX12_isGate_11 ?_
    refine z_callS (n := 3) (st := []) (pc := 13) hX (mX12_in _ hE _ _ _ _ _) ⟨wd1173, wd67, wd1175, ⟨by decide, by decide, by decide⟩, by decide⟩ wd1174 rfl rfl (by decide) (Nat.le_of_ble_eq_true rfl) dX12_isGate_13 (fun v5 s6 r7 => ?_)
    show Zj X G 16 [(0, (0, a0)), (1, (0, a1))] [(0, v5)] _ _
    refine z_if_eq (pc := 16) hX 23 dX12_isGate_16 (by decide) (fun h8 => ?_) (fun h8 => ?_)
    · refine z_iconst (pc := 23) hX dX12_isGate_23 ?_
      exact z_zret (pc := 24) hX hR hk dX12_isGate_24 (Or.inl rfl)
    · refine z_iconst (pc := 19) hX dX12_isGate_19 ?_
      refine z_goto (pc := 20) hX 24 dX12_isGate_20 (by decide) ?_
      exact z_zret (pc := 24) hX hR hk dX12_isGate_24 (Or.inr rfl)
