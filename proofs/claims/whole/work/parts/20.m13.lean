theorem dX12_eRead_0 : decode cX12_eRead 0 = .ok (.aload_n 0, 1) := by decide +kernel
theorem dX12_eRead_1 : decode cX12_eRead 1 = .ok (.iconst 0, 1) := by decide +kernel
theorem dX12_eRead_2 : decode cX12_eRead 2 = .ok (.putfield 169, 3) := by decide +kernel
theorem dX12_eRead_5 : decode cX12_eRead 5 = .ok (.aload_n 0, 1) := by decide +kernel
theorem dX12_eRead_6 : decode cX12_eRead 6 = .ok (.iconst 0, 1) := by decide +kernel
theorem dX12_eRead_7 : decode cX12_eRead 7 = .ok (.putfield 176, 3) := by decide +kernel
theorem dX12_eRead_10 : decode cX12_eRead 10 = .ok (.iconst 1, 1) := by decide +kernel
theorem dX12_eRead_11 : decode cX12_eRead 11 = .ok (.istore_n 1, 1) := by decide +kernel
theorem dX12_eRead_12 : decode cX12_eRead 12 = .ok (.iconst 1, 1) := by decide +kernel
theorem dX12_eRead_13 : decode cX12_eRead 13 = .ok (.istore_n 2, 1) := by decide +kernel
theorem dX12_eRead_14 : decode cX12_eRead 14 = .ok (.aload_n 0, 1) := by decide +kernel
theorem dX12_eRead_15 : decode cX12_eRead 15 = .ok (.invokevirtual 189, 3) := by decide +kernel
theorem dX12_eRead_18 : decode cX12_eRead 18 = .ok (.iload_n 1, 1) := by decide +kernel
theorem dX12_eRead_19 : decode cX12_eRead 19 = .ok (.ifCond .eq 131, 3) := by decide +kernel
theorem dX12_eRead_22 : decode cX12_eRead 22 = .ok (.aload_n 0, 1) := by decide +kernel
theorem dX12_eRead_23 : decode cX12_eRead 23 = .ok (.getfield 156, 3) := by decide +kernel
theorem dX12_eRead_26 : decode cX12_eRead 26 = .ok (.iconst 1, 1) := by decide +kernel
theorem dX12_eRead_27 : decode cX12_eRead 27 = .ok (.if_icmp .eq 11, 3) := by decide +kernel
theorem dX12_eRead_30 : decode cX12_eRead 30 = .ok (.aload_n 0, 1) := by decide +kernel
theorem dX12_eRead_31 : decode cX12_eRead 31 = .ok (.getfield 156, 3) := by decide +kernel
theorem dX12_eRead_34 : decode cX12_eRead 34 = .ok (.iconst 2, 1) := by decide +kernel
theorem dX12_eRead_35 : decode cX12_eRead 35 = .ok (.if_icmp .ne 40, 3) := by decide +kernel
theorem dX12_eRead_38 : decode cX12_eRead 38 = .ok (.aload_n 0, 1) := by decide +kernel
theorem dX12_eRead_39 : decode cX12_eRead 39 = .ok (.aload_n 0, 1) := by decide +kernel
theorem dX12_eRead_40 : decode cX12_eRead 40 = .ok (.getfield 156, 3) := by decide +kernel
theorem dX12_eRead_43 : decode cX12_eRead 43 = .ok (.iconst 1, 1) := by decide +kernel
theorem dX12_eRead_44 : decode cX12_eRead 44 = .ok (.if_icmp .ne 13, 3) := by decide +kernel
theorem dX12_eRead_47 : decode cX12_eRead 47 = .ok (.ldc 192, 2) := by decide +kernel
theorem dX12_eRead_49 : decode cX12_eRead 49 = .ok (.aload_n 0, 1) := by decide +kernel
theorem dX12_eRead_50 : decode cX12_eRead 50 = .ok (.getfield 159, 3) := by decide +kernel
theorem dX12_eRead_53 : decode cX12_eRead 53 = .ok (.iadd, 1) := by decide +kernel
theorem dX12_eRead_54 : decode cX12_eRead 54 = .ok (.goto 7, 3) := by decide +kernel
theorem dX12_eRead_57 : decode cX12_eRead 57 = .ok (.aload_n 0, 1) := by decide +kernel
theorem dX12_eRead_58 : decode cX12_eRead 58 = .ok (.getfield 159, 3) := by decide +kernel
theorem dX12_eRead_61 : decode cX12_eRead 61 = .ok (.invokevirtual 179, 3) := by decide +kernel
theorem dX12_eRead_64 : decode cX12_eRead 64 = .ok (.aload_n 0, 1) := by decide +kernel
theorem dX12_eRead_65 : decode cX12_eRead 65 = .ok (.bipush 7, 2) := by decide +kernel
theorem dX12_eRead_67 : decode cX12_eRead 67 = .ok (.invokevirtual 186, 3) := by decide +kernel
theorem dX12_eRead_70 : decode cX12_eRead 70 = .ok (.iconst 0, 1) := by decide +kernel
theorem dX12_eRead_71 : decode cX12_eRead 71 = .ok (.istore_n 1, 1) := by decide +kernel
theorem dX12_eRead_72 : decode cX12_eRead 72 = .ok (.goto (-58), 3) := by decide +kernel
theorem dX12_eRead_75 : decode cX12_eRead 75 = .ok (.aload_n 0, 1) := by decide +kernel
theorem dX12_eRead_76 : decode cX12_eRead 76 = .ok (.getfield 156, 3) := by decide +kernel
theorem dX12_eRead_79 : decode cX12_eRead 79 = .ok (.bipush 6, 2) := by decide +kernel
theorem dX12_eRead_81 : decode cX12_eRead 81 = .ok (.if_icmp .ne 18, 3) := by decide +kernel
theorem dX12_eRead_84 : decode cX12_eRead 84 = .ok (.iload_n 2, 1) := by decide +kernel
theorem dX12_eRead_85 : decode cX12_eRead 85 = .ok (.ifCond .eq 14, 3) := by decide +kernel
theorem dX12_eRead_88 : decode cX12_eRead 88 = .ok (.aload_n 0, 1) := by decide +kernel
theorem dX12_eRead_89 : decode cX12_eRead 89 = .ok (.bipush 13, 2) := by decide +kernel
theorem dX12_eRead_91 : decode cX12_eRead 91 = .ok (.invokevirtual 193, 3) := by decide +kernel
theorem dX12_eRead_94 : decode cX12_eRead 94 = .ok (.ifCond .ne (-80), 3) := by decide +kernel
theorem dX12_eRead_97 : decode cX12_eRead 97 = .ok (.iconst 0, 1) := by decide +kernel
theorem dX12_eRead_98 : decode cX12_eRead 98 = .ok (.ireturn, 1) := by decide +kernel
theorem dX12_eRead_99 : decode cX12_eRead 99 = .ok (.aload_n 0, 1) := by decide +kernel
theorem dX12_eRead_100 : decode cX12_eRead 100 = .ok (.getfield 156, 3) := by decide +kernel
theorem dX12_eRead_103 : decode cX12_eRead 103 = .ok (.bipush 45, 2) := by decide +kernel
theorem dX12_eRead_105 : decode cX12_eRead 105 = .ok (.if_icmp .ne 19, 3) := by decide +kernel
theorem dX12_eRead_108 : decode cX12_eRead 108 = .ok (.aload_n 0, 1) := by decide +kernel
theorem dX12_eRead_109 : decode cX12_eRead 109 = .ok (.bipush 19, 2) := by decide +kernel
theorem dX12_eRead_111 : decode cX12_eRead 111 = .ok (.invokevirtual 193, 3) := by decide +kernel
theorem dX12_eRead_114 : decode cX12_eRead 114 = .ok (.ifCond .ne 5, 3) := by decide +kernel
theorem dX12_eRead_117 : decode cX12_eRead 117 = .ok (.iconst 0, 1) := by decide +kernel
theorem dX12_eRead_118 : decode cX12_eRead 118 = .ok (.ireturn, 1) := by decide +kernel
theorem dX12_eRead_119 : decode cX12_eRead 119 = .ok (.iconst 0, 1) := by decide +kernel
theorem dX12_eRead_120 : decode cX12_eRead 120 = .ok (.istore_n 2, 1) := by decide +kernel
theorem dX12_eRead_121 : decode cX12_eRead 121 = .ok (.goto (-107), 3) := by decide +kernel
theorem dX12_eRead_124 : decode cX12_eRead 124 = .ok (.aload_n 0, 1) := by decide +kernel
theorem dX12_eRead_125 : decode cX12_eRead 125 = .ok (.getfield 156, 3) := by decide +kernel
theorem dX12_eRead_128 : decode cX12_eRead 128 = .ok (.bipush 40, 2) := by decide +kernel
theorem dX12_eRead_130 : decode cX12_eRead 130 = .ok (.if_icmp .ne 18, 3) := by decide +kernel
theorem dX12_eRead_133 : decode cX12_eRead 133 = .ok (.aload_n 0, 1) := by decide +kernel
theorem dX12_eRead_134 : decode cX12_eRead 134 = .ok (.iconst 0, 1) := by decide +kernel
theorem dX12_eRead_135 : decode cX12_eRead 135 = .ok (.invokevirtual 193, 3) := by decide +kernel
theorem dX12_eRead_138 : decode cX12_eRead 138 = .ok (.ifCond .ne 5, 3) := by decide +kernel
theorem dX12_eRead_141 : decode cX12_eRead 141 = .ok (.iconst 0, 1) := by decide +kernel
theorem dX12_eRead_142 : decode cX12_eRead 142 = .ok (.ireturn, 1) := by decide +kernel
theorem dX12_eRead_143 : decode cX12_eRead 143 = .ok (.iconst 1, 1) := by decide +kernel
theorem dX12_eRead_144 : decode cX12_eRead 144 = .ok (.istore_n 2, 1) := by decide +kernel
theorem dX12_eRead_145 : decode cX12_eRead 145 = .ok (.goto (-131), 3) := by decide +kernel
theorem dX12_eRead_148 : decode cX12_eRead 148 = .ok (.iconst 0, 1) := by decide +kernel
theorem dX12_eRead_149 : decode cX12_eRead 149 = .ok (.ireturn, 1) := by decide +kernel
theorem dX12_eRead_150 : decode cX12_eRead 150 = .ok (.aload_n 0, 1) := by decide +kernel
theorem dX12_eRead_151 : decode cX12_eRead 151 = .ok (.getfield 156, 3) := by decide +kernel
theorem dX12_eRead_154 : decode cX12_eRead 154 = .ok (.bipush 59, 2) := by decide +kernel
theorem dX12_eRead_156 : decode cX12_eRead 156 = .ok (.if_icmp .ne 21, 3) := by decide +kernel
theorem dX12_eRead_159 : decode cX12_eRead 159 = .ok (.aload_n 0, 1) := by decide +kernel
theorem dX12_eRead_160 : decode cX12_eRead 160 = .ok (.iconst 1, 1) := by decide +kernel
theorem dX12_eRead_161 : decode cX12_eRead 161 = .ok (.invokevirtual 186, 3) := by decide +kernel
theorem dX12_eRead_164 : decode cX12_eRead 164 = .ok (.aload_n 0, 1) := by decide +kernel
theorem dX12_eRead_165 : decode cX12_eRead 165 = .ok (.getfield 169, 3) := by decide +kernel
theorem dX12_eRead_168 : decode cX12_eRead 168 = .ok (.ifCond .ne 7, 3) := by decide +kernel
theorem dX12_eRead_171 : decode cX12_eRead 171 = .ok (.iconst 1, 1) := by decide +kernel
theorem dX12_eRead_172 : decode cX12_eRead 172 = .ok (.goto 4, 3) := by decide +kernel
theorem dX12_eRead_175 : decode cX12_eRead 175 = .ok (.iconst 0, 1) := by decide +kernel
theorem dX12_eRead_176 : decode cX12_eRead 176 = .ok (.ireturn, 1) := by decide +kernel
theorem dX12_eRead_177 : decode cX12_eRead 177 = .ok (.aload_n 0, 1) := by decide +kernel
theorem dX12_eRead_178 : decode cX12_eRead 178 = .ok (.getfield 156, 3) := by decide +kernel
theorem dX12_eRead_181 : decode cX12_eRead 181 = .ok (.bipush 41, 2) := by decide +kernel
theorem dX12_eRead_183 : decode cX12_eRead 183 = .ok (.if_icmp .ne 46, 3) := by decide +kernel
theorem dX12_eRead_186 : decode cX12_eRead 186 = .ok (.aload_n 0, 1) := by decide +kernel
theorem dX12_eRead_187 : decode cX12_eRead 187 = .ok (.iconst 1, 1) := by decide +kernel
theorem dX12_eRead_188 : decode cX12_eRead 188 = .ok (.invokevirtual 186, 3) := by decide +kernel
theorem dX12_eRead_191 : decode cX12_eRead 191 = .ok (.aload_n 0, 1) := by decide +kernel
theorem dX12_eRead_192 : decode cX12_eRead 192 = .ok (.getfield 169, 3) := by decide +kernel
theorem dX12_eRead_195 : decode cX12_eRead 195 = .ok (.ifCond .ne 5, 3) := by decide +kernel
theorem dX12_eRead_198 : decode cX12_eRead 198 = .ok (.iconst 0, 1) := by decide +kernel
theorem dX12_eRead_199 : decode cX12_eRead 199 = .ok (.ireturn, 1) := by decide +kernel
theorem dX12_eRead_200 : decode cX12_eRead 200 = .ok (.aload_n 0, 1) := by decide +kernel
theorem dX12_eRead_201 : decode cX12_eRead 201 = .ok (.dup, 1) := by decide +kernel
theorem dX12_eRead_202 : decode cX12_eRead 202 = .ok (.getfield 169, 3) := by decide +kernel
theorem dX12_eRead_205 : decode cX12_eRead 205 = .ok (.iconst 1, 1) := by decide +kernel
theorem dX12_eRead_206 : decode cX12_eRead 206 = .ok (.isub, 1) := by decide +kernel
theorem dX12_eRead_207 : decode cX12_eRead 207 = .ok (.putfield 169, 3) := by decide +kernel
theorem dX12_eRead_210 : decode cX12_eRead 210 = .ok (.aload_n 0, 1) := by decide +kernel
theorem dX12_eRead_211 : decode cX12_eRead 211 = .ok (.dup, 1) := by decide +kernel
theorem dX12_eRead_212 : decode cX12_eRead 212 = .ok (.getfield 176, 3) := by decide +kernel
theorem dX12_eRead_215 : decode cX12_eRead 215 = .ok (.iconst 1, 1) := by decide +kernel
theorem dX12_eRead_216 : decode cX12_eRead 216 = .ok (.isub, 1) := by decide +kernel
theorem dX12_eRead_217 : decode cX12_eRead 217 = .ok (.putfield 176, 3) := by decide +kernel
theorem dX12_eRead_220 : decode cX12_eRead 220 = .ok (.aload_n 0, 1) := by decide +kernel
theorem dX12_eRead_221 : decode cX12_eRead 221 = .ok (.bipush 7, 2) := by decide +kernel
theorem dX12_eRead_223 : decode cX12_eRead 223 = .ok (.invokevirtual 186, 3) := by decide +kernel
theorem dX12_eRead_226 : decode cX12_eRead 226 = .ok (.goto (-212), 3) := by decide +kernel
theorem dX12_eRead_229 : decode cX12_eRead 229 = .ok (.aload_n 0, 1) := by decide +kernel
theorem dX12_eRead_230 : decode cX12_eRead 230 = .ok (.invokevirtual 196, 3) := by decide +kernel
theorem dX12_eRead_233 : decode cX12_eRead 233 = .ok (.istore_n 3, 1) := by decide +kernel
theorem dX12_eRead_234 : decode cX12_eRead 234 = .ok (.iload_n 3, 1) := by decide +kernel
theorem dX12_eRead_235 : decode cX12_eRead 235 = .ok (.iconst (-1), 1) := by decide +kernel
theorem dX12_eRead_236 : decode cX12_eRead 236 = .ok (.if_icmp .eq 11, 3) := by decide +kernel
theorem dX12_eRead_239 : decode cX12_eRead 239 = .ok (.aload_n 0, 1) := by decide +kernel
theorem dX12_eRead_240 : decode cX12_eRead 240 = .ok (.iload_n 3, 1) := by decide +kernel
theorem dX12_eRead_241 : decode cX12_eRead 241 = .ok (.invokevirtual 200, 3) := by decide +kernel
theorem dX12_eRead_244 : decode cX12_eRead 244 = .ok (.ifCond .ne 5, 3) := by decide +kernel
theorem dX12_eRead_247 : decode cX12_eRead 247 = .ok (.iconst 0, 1) := by decide +kernel
theorem dX12_eRead_248 : decode cX12_eRead 248 = .ok (.ireturn, 1) := by decide +kernel
theorem dX12_eRead_249 : decode cX12_eRead 249 = .ok (.iconst 1, 1) := by decide +kernel
theorem dX12_eRead_250 : decode cX12_eRead 250 = .ok (.istore_n 1, 1) := by decide +kernel
theorem dX12_eRead_251 : decode cX12_eRead 251 = .ok (.iload_n 3, 1) := by decide +kernel
theorem dX12_eRead_252 : decode cX12_eRead 252 = .ok (.bipush 12, 2) := by decide +kernel
theorem dX12_eRead_254 : decode cX12_eRead 254 = .ok (.if_icmp .gt 7, 3) := by decide +kernel
theorem dX12_eRead_257 : decode cX12_eRead 257 = .ok (.iconst 1, 1) := by decide +kernel
theorem dX12_eRead_258 : decode cX12_eRead 258 = .ok (.goto 4, 3) := by decide +kernel
theorem dX12_eRead_261 : decode cX12_eRead 261 = .ok (.iconst 0, 1) := by decide +kernel
theorem dX12_eRead_262 : decode cX12_eRead 262 = .ok (.istore_n 2, 1) := by decide +kernel
theorem dX12_eRead_263 : decode cX12_eRead 263 = .ok (.goto (-249), 3) := by decide +kernel
def lX12_eRead_14 (u4 : Int) (K159 : ZS → Option (Int × ZS)) : Nat → ZS → Int → Int → Option (Int × ZS)
  | 0, _, _, _ => none
  | n1 + 1, s3, x5, x6 => zb (zv s3 12 u4 (fX12_next s3 u4)) (fun v7 s8 => if x5 = 0 then ((zg s8 12 u4 31).bind (fun v11 => if v11 = 59 then (K159 s8) else ((zg s8 12 u4 31).bind (fun v13 => if v13 = 41 then (zb (zv s8 12 u4 (fX12_unwinds s8 u4 1)) (fun v26 s27 => (zg s27 12 u4 35).bind (fun v29 => if v29 = 0 then (some (0, s27)) else ((zg s27 12 u4 35).bind (fun v31 => (zp s27 12 u4 35 (wrap (v31 - 1))).bind (fun s32 => (zg s32 12 u4 36).bind (fun v33 => (zp s32 12 u4 36 (wrap (v33 - 1))).bind (fun s34 => zb (zv s34 12 u4 (fX12_unwinds s34 u4 7)) (fun v35 s36 => lX12_eRead_14 u4 K159 n1 s36 x5 x6))))))))) else (zb (zv s8 12 u4 (fX12_signOf s8 u4)) (fun v15 s16 => if v15 = (-1) then (some (0, s16)) else (zb (zv s16 12 u4 (fX12_between s16 u4 v15)) (fun v19 s20 => if v19 = 0 then (some (0, s20)) else (zjn (fun (K262 : ZS → Int → Option (Int × ZS)) => if 12 < v15 then (K262 s20 0) else (K262 s20 1)) (fun (s24 : ZS) (w25 : Int) => lX12_eRead_14 u4 K159 n1 s24 1 w25)))))))))) else ((zg s8 12 u4 31).bind (fun v38 => zjn (fun (K38 : ZS → Option (Int × ZS)) => if v38 = 1 then (K38 s8) else ((zg s8 12 u4 31).bind (fun v40 => if v40 = 2 then (K38 s8) else ((zg s8 12 u4 31).bind (fun v42 => zjn (fun (K99 : ZS → Option (Int × ZS)) => if v42 = 6 then (if x6 = 0 then (K99 s8) else (zb (zv s8 12 u4 (fX12_opensOne s8 u4 13)) (fun v45 s46 => if v45 = 0 then (some (0, s46)) else (lX12_eRead_14 u4 K159 n1 s46 x5 x6)))) else (K99 s8)) (fun (s49 : ZS) => (zg s49 12 u4 31).bind (fun v50 => if v50 = 45 then (zb (zv s49 12 u4 (fX12_opensOne s49 u4 19)) (fun v58 s59 => if v58 = 0 then (some (0, s59)) else (lX12_eRead_14 u4 K159 n1 s59 x5 0))) else ((zg s49 12 u4 31).bind (fun v52 => if v52 = 40 then (zb (zv s49 12 u4 (fX12_opensOne s49 u4 0)) (fun v54 s55 => if v54 = 0 then (some (0, s55)) else (lX12_eRead_14 u4 K159 n1 s55 x5 1))) else (some (0, s49))))))))))) (fun (s62 : ZS) => (zg s62 12 u4 31).bind (fun v63 => zjn (fun (K61 : ZS → Int → Option (Int × ZS)) => if v63 = 1 then ((zg s62 12 u4 32).bind (fun v66 => K61 s62 (wrap (100000 + v66)))) else ((zg s62 12 u4 32).bind (fun v65 => K61 s62 v65))) (fun (s67 : ZS) (w68 : Int) => zb (zv s67 12 u4 (fX12_puts s67 u4 w68)) (fun v69 s70 => zb (zv s70 12 u4 (fX12_unwinds s70 u4 7)) (fun v72 s73 => lX12_eRead_14 u4 K159 n1 s73 0 x6))))))))

def fX12_eRead (s0 : ZS) (a0 : Int) : Option (Int × ZS) := (zp s0 12 a0 35 0).bind (fun s1 => (zp s1 12 a0 36 0).bind (fun s2 => lX12_eRead_14 a0 (fun (s76 : ZS) => zb (zv s76 12 a0 (fX12_unwinds s76 a0 1)) (fun v77 s78 => (zg s78 12 a0 35).bind (fun v80 => if v80 = 0 then (some (1, s78)) else (some (0, s78))))) 1000 s2 1 1))
set_option maxHeartbeats 4000000 in
set_option maxRecDepth 100000 in
theorem mX12_eRead (E : ZE) (hE : zOkE E) (l : Launch) (s0 : ZS) (a0 : Int) : Ct E l yX12_eRead cX12_eRead 4 (some .boolean) 8 [(2, a0)] 4 s0 (fX12_eRead s0 a0) := by
  refine Ct.of (by decide) hE (Nat.le_of_ble_eq_true rfl) ?_
  intro X G hX hR hN hXE hXl hxn hk _
  subst hXE
  subst hXl
  have hX : G → ZOk X cX12_eRead RX12 8 := hX
  clear hN
  show Zj X G 0 [(0, (2, a0))] [] s0 _
  unfold fX12_eRead
  refine z_aload_n (pc := 0) hX 0 dX12_eRead_0 rfl rfl ?_
  refine z_iconst (pc := 1) hX dX12_eRead_1 ?_
  refine z_putA (pc := 2) hX zc12 35 (by decide) wd1052 (Or.inl rfl) rfl rfl (fun _ => rfl) (fun _ => rfl) dX12_eRead_2 (fun s1 => ?_)
  refine z_aload_n (pc := 5) hX 0 dX12_eRead_5 rfl rfl ?_
  refine z_iconst (pc := 6) hX dX12_eRead_6 ?_
  refine z_putA (pc := 7) hX zc12 36 (by decide) wd1053 (Or.inl rfl) rfl rfl (fun _ => rfl) (fun _ => rfl) dX12_eRead_7 (fun s2 => ?_)
  refine z_iconst (pc := 10) hX dX12_eRead_10 ?_
  refine z_istore_n (lv' := [(1, (0, 1)), (0, (2, a0))]) (pc := 11) hX dX12_eRead_11 rfl (zlt hxn rfl) rfl ?_
  refine z_iconst (pc := 12) hX dX12_eRead_12 ?_
  refine z_istore_n (lv' := [(2, (0, 1)), (1, (0, 1)), (0, (2, a0))]) (pc := 13) hX dX12_eRead_13 rfl (zlt hxn rfl) rfl ?_
  have hl14 : ∀ (u4 : Int), ∀ (K159 : ZS → Option (Int × ZS)), (∀ (s75 : ZS), Zj X G 159 [(0, (2, u4))] [] s75 (K159 s75)) → ∀ (n1 : Nat) (s3 : ZS) (x5 x6 : Int), Zj X G 14 [(0, (2, u4)), (1, (0, x5)), (2, (0, x6))] [] s3 (lX12_eRead_14 u4 K159 n1 s3 x5 x6) := by
    intro u4 K159 hK159 n1
    induction n1 with
    | zero => intro _ _ _; exact z_none
    | succ n1 ih1 =>
      intro s3 x5 x6
      rw [lX12_eRead_14]
      refine z_aload_n (pc := 14) hX 0 dX12_eRead_14 rfl rfl ?_
      refine z_callV (n := 0) (st := []) (pc := 15) hX zc12 rfl (fun _ => (mX12_next _ hE _ _ _)) ⟨wd1213, wd67, wd1216, ⟨by decide, by decide, by decide⟩, by decide⟩ rfl wd1215 wd33 rfl rfl (by decide) (Nat.le_of_ble_eq_true rfl) dX12_eRead_15 (fun v7 s8 r9 => ?_)
      show Zj X G 18 [(0, (2, u4)), (1, (0, x5)), (2, (0, x6))] [] _ _
      refine z_iload_n (pc := 18) hX 1 dX12_eRead_18 rfl rfl ?_
      refine z_if_eq (pc := 19) hX 150 dX12_eRead_19 (by decide) (fun h10 => ?_) (fun h10 => ?_)
      · refine z_aload_n (pc := 150) hX 0 dX12_eRead_150 rfl rfl ?_
        refine z_get (pc := 151) hX zc12 31 (by decide) wd1048 rfl rfl dX12_eRead_151 (fun v11 => ?_)
        refine z_bipush (pc := 154) hX dX12_eRead_154 ?_
        refine z_icmp_ne (pc := 156) hX 177 dX12_eRead_156 (by decide) (fun h12 => ?_) (fun h12 => ?_)
        · refine z_aload_n (pc := 177) hX 0 dX12_eRead_177 rfl rfl ?_
          refine z_get (pc := 178) hX zc12 31 (by decide) wd1048 rfl rfl dX12_eRead_178 (fun v13 => ?_)
          refine z_bipush (pc := 181) hX dX12_eRead_181 ?_
          refine z_icmp_ne (pc := 183) hX 229 dX12_eRead_183 (by decide) (fun h14 => ?_) (fun h14 => ?_)
          · refine z_aload_n (pc := 229) hX 0 dX12_eRead_229 rfl rfl ?_
            refine z_callV (n := 0) (st := []) (pc := 230) hX zc12 rfl (fun _ => (mX12_signOf _ hE _ _ _)) ⟨wd1245, wd67, wd1248, ⟨by decide, by decide, by decide⟩, by decide⟩ rfl wd1247 wd40 rfl rfl (by decide) (Nat.le_of_ble_eq_true rfl) dX12_eRead_230 (fun v15 s16 r17 => ?_)
            show Zj X G 233 [(0, (2, u4)), (1, (0, x5)), (2, (0, x6))] [(0, v15)] _ _
            refine z_istore_n (lv' := [(3, (0, v15)), (0, (2, u4)), (1, (0, x5)), (2, (0, x6))]) (pc := 233) hX dX12_eRead_233 rfl (zlt hxn rfl) rfl ?_
            refine z_iload_n (pc := 234) hX 0 dX12_eRead_234 rfl rfl ?_
            refine z_iconst (pc := 235) hX dX12_eRead_235 ?_
            refine z_icmp_eq (pc := 236) hX 247 dX12_eRead_236 (by decide) (fun h18 => ?_) (fun h18 => ?_)
            · refine z_iconst (pc := 247) hX dX12_eRead_247 ?_
              exact z_zret (pc := 248) hX hR hk dX12_eRead_248 (Or.inl rfl)
            · refine z_aload_n (pc := 239) hX 1 dX12_eRead_239 rfl rfl ?_
              refine z_iload_n (pc := 240) hX 0 dX12_eRead_240 rfl rfl ?_
              refine z_callV (n := 1) (st := []) (pc := 241) hX zc12 rfl (fun _ => (mX12_between _ hE _ _ _ _)) ⟨wd1249, wd67, wd1252, ⟨by decide, by decide, by decide⟩, by decide⟩ rfl wd1251 wd41 rfl rfl (by decide) (Nat.le_of_ble_eq_true rfl) dX12_eRead_241 (fun v19 s20 r21 => ?_)
              show Zj X G 244 [(3, (0, v15)), (0, (2, u4)), (1, (0, x5)), (2, (0, x6))] [(0, v19)] _ _
              refine z_if_ne (pc := 244) hX 249 dX12_eRead_244 (by decide) (fun h22 => ?_) (fun h22 => ?_)
              · refine z_iconst (pc := 249) hX dX12_eRead_249 ?_
                refine z_istore_n (lv' := [(1, (0, 1)), (3, (0, v15)), (0, (2, u4)), (2, (0, x6))]) (pc := 250) hX dX12_eRead_250 rfl (zlt hxn rfl) rfl ?_
                refine z_iload_n (pc := 251) hX 1 dX12_eRead_251 rfl rfl ?_
                refine z_bipush (pc := 252) hX dX12_eRead_252 ?_
                refine z_jn (fun K262 eK262 => ?_)
                have hK262 : ∀ (s24 : ZS) (w25 : Int), Zj X G 262 [(0, (2, u4)), (1, (0, 1))] [(0, w25)] s24 (K262 s24 w25) := by
                  intro s24 w25
                  rw [eK262]
                  refine z_istore_n (lv' := [(2, (0, w25)), (0, (2, u4)), (1, (0, 1))]) (pc := 262) hX dX12_eRead_262 rfl (zlt hxn rfl) rfl ?_
                  refine z_goto (pc := 263) hX 14 dX12_eRead_263 (by decide) ?_
                  refine z_pick (lv' := [(0, (2, u4)), (1, (0, 1)), (2, (0, w25))]) [1, 2, 0] rfl ?_
                  exact ih1 _ _ _
                clear eK262
                refine z_icmp_gt (pc := 254) hX 261 dX12_eRead_254 (by decide) (fun h23 => ?_) (fun h23 => ?_)
                · refine z_iconst (pc := 261) hX dX12_eRead_261 ?_
                  refine z_pick (lv' := [(0, (2, u4)), (1, (0, 1))]) [2, 0] rfl ?_
                  exact hK262 _ _
                · refine z_iconst (pc := 257) hX dX12_eRead_257 ?_
                  refine z_goto (pc := 258) hX 262 dX12_eRead_258 (by decide) ?_
                  refine z_pick (lv' := [(0, (2, u4)), (1, (0, 1))]) [2, 0] rfl ?_
                  exact hK262 _ _
              · refine z_iconst (pc := 247) hX dX12_eRead_247 ?_
                exact z_zret (pc := 248) hX hR hk dX12_eRead_248 (Or.inl rfl)
          · refine z_aload_n (pc := 186) hX 0 dX12_eRead_186 rfl rfl ?_
            refine z_iconst (pc := 187) hX dX12_eRead_187 ?_
            refine z_callV (n := 1) (st := []) (pc := 188) hX zc12 rfl (fun _ => (mX12_unwinds _ hE _ _ _ _)) ⟨wd1230, wd67, wd1233, ⟨by decide, by decide, by decide⟩, by decide⟩ rfl wd1232 wd37 rfl rfl (by decide) (Nat.le_of_ble_eq_true rfl) dX12_eRead_188 (fun v26 s27 r28 => ?_)
            show Zj X G 191 [(0, (2, u4)), (1, (0, x5)), (2, (0, x6))] [] _ _
            refine z_aload_n (pc := 191) hX 0 dX12_eRead_191 rfl rfl ?_
            refine z_get (pc := 192) hX zc12 35 (by decide) wd1052 rfl rfl dX12_eRead_192 (fun v29 => ?_)
            refine z_if_ne (pc := 195) hX 200 dX12_eRead_195 (by decide) (fun h30 => ?_) (fun h30 => ?_)
            · refine z_aload_n (pc := 200) hX 0 dX12_eRead_200 rfl rfl ?_
              refine z_dup (pc := 201) hX zn2 dX12_eRead_201 ?_
              refine z_get (pc := 202) hX zc12 35 (by decide) wd1052 rfl rfl dX12_eRead_202 (fun v31 => ?_)
              refine z_iconst (pc := 205) hX dX12_eRead_205 ?_
              refine z_isub (pc := 206) hX dX12_eRead_206 ?_
              refine z_putA (pc := 207) hX zc12 35 (by decide) wd1052 (Or.inl rfl) rfl rfl (fun _ => rfl) (fun _ => rfl) dX12_eRead_207 (fun s32 => ?_)
              refine z_aload_n (pc := 210) hX 0 dX12_eRead_210 rfl rfl ?_
              refine z_dup (pc := 211) hX zn2 dX12_eRead_211 ?_
              refine z_get (pc := 212) hX zc12 36 (by decide) wd1053 rfl rfl dX12_eRead_212 (fun v33 => ?_)
              refine z_iconst (pc := 215) hX dX12_eRead_215 ?_
              refine z_isub (pc := 216) hX dX12_eRead_216 ?_
              refine z_putA (pc := 217) hX zc12 36 (by decide) wd1053 (Or.inl rfl) rfl rfl (fun _ => rfl) (fun _ => rfl) dX12_eRead_217 (fun s34 => ?_)
              refine z_aload_n (pc := 220) hX 0 dX12_eRead_220 rfl rfl ?_
              refine z_bipush (pc := 221) hX dX12_eRead_221 ?_
              refine z_callV (n := 1) (st := []) (pc := 223) hX zc12 rfl (fun _ => (mX12_unwinds _ hE _ _ _ _)) ⟨wd1230, wd67, wd1233, ⟨by decide, by decide, by decide⟩, by decide⟩ rfl wd1232 wd37 rfl rfl (by decide) (Nat.le_of_ble_eq_true rfl) dX12_eRead_223 (fun v35 s36 r37 => ?_)
              show Zj X G 226 [(0, (2, u4)), (1, (0, x5)), (2, (0, x6))] [] _ _
              refine z_goto (pc := 226) hX 14 dX12_eRead_226 (by decide) ?_
              exact ih1 _ _ _
            · refine z_iconst (pc := 198) hX dX12_eRead_198 ?_
              exact z_zret (pc := 199) hX hR hk dX12_eRead_199 (Or.inl rfl)
        · refine z_pick (lv' := [(0, (2, u4))]) [0] rfl ?_
          exact hK159 _
      · refine z_aload_n (pc := 22) hX 0 dX12_eRead_22 rfl rfl ?_
        refine z_get (pc := 23) hX zc12 31 (by decide) wd1048 rfl rfl dX12_eRead_23 (fun v38 => ?_)
        refine z_iconst (pc := 26) hX dX12_eRead_26 ?_
        refine z_jn (fun K38 eK38 => ?_)
        have hK38 : ∀ (s62 : ZS), Zj X G 38 [(0, (2, u4)), (2, (0, x6))] [] s62 (K38 s62) := by
          intro s62
          rw [eK38]
          refine z_aload_n (pc := 38) hX 0 dX12_eRead_38 rfl rfl ?_
          refine z_aload_n (pc := 39) hX 0 dX12_eRead_39 rfl rfl ?_
          refine z_get (pc := 40) hX zc12 31 (by decide) wd1048 rfl rfl dX12_eRead_40 (fun v63 => ?_)
          refine z_iconst (pc := 43) hX dX12_eRead_43 ?_
          refine z_jn (fun K61 eK61 => ?_)
          have hK61 : ∀ (s67 : ZS) (w68 : Int), Zj X G 61 [(0, (2, u4)), (2, (0, x6))] [(0, w68), (2, u4)] s67 (K61 s67 w68) := by
            intro s67 w68
            rw [eK61]
            refine z_callV (n := 1) (st := []) (pc := 61) hX zc12 rfl (fun _ => (mX12_puts _ hE _ _ _ _)) ⟨wd1226, wd67, wd1229, ⟨by decide, by decide, by decide⟩, by decide⟩ rfl wd1228 wd36 rfl rfl (by decide) (Nat.le_of_ble_eq_true rfl) dX12_eRead_61 (fun v69 s70 r71 => ?_)
            show Zj X G 64 [(0, (2, u4)), (2, (0, x6))] [] _ _
            refine z_aload_n (pc := 64) hX 0 dX12_eRead_64 rfl rfl ?_
            refine z_bipush (pc := 65) hX dX12_eRead_65 ?_
            refine z_callV (n := 1) (st := []) (pc := 67) hX zc12 rfl (fun _ => (mX12_unwinds _ hE _ _ _ _)) ⟨wd1230, wd67, wd1233, ⟨by decide, by decide, by decide⟩, by decide⟩ rfl wd1232 wd37 rfl rfl (by decide) (Nat.le_of_ble_eq_true rfl) dX12_eRead_67 (fun v72 s73 r74 => ?_)
            show Zj X G 70 [(0, (2, u4)), (2, (0, x6))] [] _ _
            refine z_iconst (pc := 70) hX dX12_eRead_70 ?_
            refine z_istore_n (lv' := [(1, (0, 0)), (0, (2, u4)), (2, (0, x6))]) (pc := 71) hX dX12_eRead_71 rfl (zlt hxn rfl) rfl ?_
            refine z_goto (pc := 72) hX 14 dX12_eRead_72 (by decide) ?_
            refine z_pick (lv' := [(0, (2, u4)), (1, (0, 0)), (2, (0, x6))]) [1, 0, 2] rfl ?_
            exact ih1 _ _ _
          clear eK61
          refine z_icmp_ne (pc := 44) hX 57 dX12_eRead_44 (by decide) (fun h64 => ?_) (fun h64 => ?_)
          · refine z_aload_n (pc := 57) hX 0 dX12_eRead_57 rfl rfl ?_
            refine z_get (pc := 58) hX zc12 32 (by decide) wd1049 rfl rfl dX12_eRead_58 (fun v65 => ?_)
            exact hK61 _ _
          · refine z_ldc (n := 100000) (pc := 47) hX dX12_eRead_47 wd1225 (by decide) ?_
            refine z_aload_n (pc := 49) hX 0 dX12_eRead_49 rfl rfl ?_
            refine z_get (pc := 50) hX zc12 32 (by decide) wd1049 rfl rfl dX12_eRead_50 (fun v66 => ?_)
            refine z_iadd (pc := 53) hX dX12_eRead_53 ?_
            refine z_goto (pc := 54) hX 61 dX12_eRead_54 (by decide) ?_
            exact hK61 _ _
        clear eK38
        refine z_icmp_eq (pc := 27) hX 38 dX12_eRead_27 (by decide) (fun h39 => ?_) (fun h39 => ?_)
        · refine z_pick (lv' := [(0, (2, u4)), (2, (0, x6))]) [0, 2] rfl ?_
          exact hK38 _
        · refine z_aload_n (pc := 30) hX 0 dX12_eRead_30 rfl rfl ?_
          refine z_get (pc := 31) hX zc12 31 (by decide) wd1048 rfl rfl dX12_eRead_31 (fun v40 => ?_)
          refine z_iconst (pc := 34) hX dX12_eRead_34 ?_
          refine z_icmp_ne (pc := 35) hX 75 dX12_eRead_35 (by decide) (fun h41 => ?_) (fun h41 => ?_)
          · refine z_aload_n (pc := 75) hX 0 dX12_eRead_75 rfl rfl ?_
            refine z_get (pc := 76) hX zc12 31 (by decide) wd1048 rfl rfl dX12_eRead_76 (fun v42 => ?_)
            refine z_bipush (pc := 79) hX dX12_eRead_79 ?_
            refine z_jn (fun K99 eK99 => ?_)
            have hK99 : ∀ (s49 : ZS), Zj X G 99 [(0, (2, u4)), (1, (0, x5))] [] s49 (K99 s49) := by
              intro s49
              rw [eK99]
              refine z_aload_n (pc := 99) hX 0 dX12_eRead_99 rfl rfl ?_
              refine z_get (pc := 100) hX zc12 31 (by decide) wd1048 rfl rfl dX12_eRead_100 (fun v50 => ?_)
              refine z_bipush (pc := 103) hX dX12_eRead_103 ?_
              refine z_icmp_ne (pc := 105) hX 124 dX12_eRead_105 (by decide) (fun h51 => ?_) (fun h51 => ?_)
              · refine z_aload_n (pc := 124) hX 0 dX12_eRead_124 rfl rfl ?_
                refine z_get (pc := 125) hX zc12 31 (by decide) wd1048 rfl rfl dX12_eRead_125 (fun v52 => ?_)
                refine z_bipush (pc := 128) hX dX12_eRead_128 ?_
                refine z_icmp_ne (pc := 130) hX 148 dX12_eRead_130 (by decide) (fun h53 => ?_) (fun h53 => ?_)
                · refine z_iconst (pc := 148) hX dX12_eRead_148 ?_
                  exact z_zret (pc := 149) hX hR hk dX12_eRead_149 (Or.inl rfl)
                · refine z_aload_n (pc := 133) hX 0 dX12_eRead_133 rfl rfl ?_
                  refine z_iconst (pc := 134) hX dX12_eRead_134 ?_
                  refine z_callV (n := 1) (st := []) (pc := 135) hX zc12 rfl (fun _ => (mX12_opensOne _ hE _ _ _ _)) ⟨wd1237, wd67, wd1240, ⟨by decide, by decide, by decide⟩, by decide⟩ rfl wd1239 wd38 rfl rfl (by decide) (Nat.le_of_ble_eq_true rfl) dX12_eRead_135 (fun v54 s55 r56 => ?_)
                  show Zj X G 138 [(0, (2, u4)), (1, (0, x5))] [(0, v54)] _ _
                  refine z_if_ne (pc := 138) hX 143 dX12_eRead_138 (by decide) (fun h57 => ?_) (fun h57 => ?_)
                  · refine z_iconst (pc := 143) hX dX12_eRead_143 ?_
                    refine z_istore_n (lv' := [(2, (0, 1)), (0, (2, u4)), (1, (0, x5))]) (pc := 144) hX dX12_eRead_144 rfl (zlt hxn rfl) rfl ?_
                    refine z_goto (pc := 145) hX 14 dX12_eRead_145 (by decide) ?_
                    refine z_pick (lv' := [(0, (2, u4)), (1, (0, x5)), (2, (0, 1))]) [1, 2, 0] rfl ?_
                    exact ih1 _ _ _
                  · refine z_iconst (pc := 141) hX dX12_eRead_141 ?_
                    exact z_zret (pc := 142) hX hR hk dX12_eRead_142 (Or.inl rfl)
              · refine z_aload_n (pc := 108) hX 0 dX12_eRead_108 rfl rfl ?_
                refine z_bipush (pc := 109) hX dX12_eRead_109 ?_
                refine z_callV (n := 1) (st := []) (pc := 111) hX zc12 rfl (fun _ => (mX12_opensOne _ hE _ _ _ _)) ⟨wd1237, wd67, wd1240, ⟨by decide, by decide, by decide⟩, by decide⟩ rfl wd1239 wd38 rfl rfl (by decide) (Nat.le_of_ble_eq_true rfl) dX12_eRead_111 (fun v58 s59 r60 => ?_)
                show Zj X G 114 [(0, (2, u4)), (1, (0, x5))] [(0, v58)] _ _
                refine z_if_ne (pc := 114) hX 119 dX12_eRead_114 (by decide) (fun h61 => ?_) (fun h61 => ?_)
                · refine z_iconst (pc := 119) hX dX12_eRead_119 ?_
                  refine z_istore_n (lv' := [(2, (0, 0)), (0, (2, u4)), (1, (0, x5))]) (pc := 120) hX dX12_eRead_120 rfl (zlt hxn rfl) rfl ?_
                  refine z_goto (pc := 121) hX 14 dX12_eRead_121 (by decide) ?_
                  refine z_pick (lv' := [(0, (2, u4)), (1, (0, x5)), (2, (0, 0))]) [1, 2, 0] rfl ?_
                  exact ih1 _ _ _
                · refine z_iconst (pc := 117) hX dX12_eRead_117 ?_
                  exact z_zret (pc := 118) hX hR hk dX12_eRead_118 (Or.inl rfl)
            clear eK99
            refine z_icmp_ne (pc := 81) hX 99 dX12_eRead_81 (by decide) (fun h43 => ?_) (fun h43 => ?_)
            · refine z_pick (lv' := [(0, (2, u4)), (1, (0, x5))]) [0, 1] rfl ?_
              exact hK99 _
            · refine z_iload_n (pc := 84) hX 2 dX12_eRead_84 rfl rfl ?_
              refine z_if_eq (pc := 85) hX 99 dX12_eRead_85 (by decide) (fun h44 => ?_) (fun h44 => ?_)
              · refine z_pick (lv' := [(0, (2, u4)), (1, (0, x5))]) [0, 1] rfl ?_
                exact hK99 _
              · refine z_aload_n (pc := 88) hX 0 dX12_eRead_88 rfl rfl ?_
                refine z_bipush (pc := 89) hX dX12_eRead_89 ?_
                refine z_callV (n := 1) (st := []) (pc := 91) hX zc12 rfl (fun _ => (mX12_opensOne _ hE _ _ _ _)) ⟨wd1237, wd67, wd1240, ⟨by decide, by decide, by decide⟩, by decide⟩ rfl wd1239 wd38 rfl rfl (by decide) (Nat.le_of_ble_eq_true rfl) dX12_eRead_91 (fun v45 s46 r47 => ?_)
                show Zj X G 94 [(0, (2, u4)), (1, (0, x5)), (2, (0, x6))] [(0, v45)] _ _
                refine z_if_ne (pc := 94) hX 14 dX12_eRead_94 (by decide) (fun h48 => ?_) (fun h48 => ?_)
                · exact ih1 _ _ _
                · refine z_iconst (pc := 97) hX dX12_eRead_97 ?_
                  exact z_zret (pc := 98) hX hR hk dX12_eRead_98 (Or.inl rfl)
          · refine z_pick (lv' := [(0, (2, u4)), (2, (0, x6))]) [0, 2] rfl ?_
            exact hK38 _
  refine z_pick (lv' := [(0, (2, a0)), (1, (0, 1)), (2, (0, 1))]) [2, 1, 0] rfl ?_
  refine hl14 _ _ (fun s76 => ?_) 1000 _ _ _
  refine z_aload_n (pc := 159) hX 0 dX12_eRead_159 rfl rfl ?_
  refine z_iconst (pc := 160) hX dX12_eRead_160 ?_
  refine z_callV (n := 1) (st := []) (pc := 161) hX zc12 rfl (fun _ => (mX12_unwinds _ hE _ _ _ _)) ⟨wd1230, wd67, wd1233, ⟨by decide, by decide, by decide⟩, by decide⟩ rfl wd1232 wd37 rfl rfl (by decide) (Nat.le_of_ble_eq_true rfl) dX12_eRead_161 (fun v77 s78 r79 => ?_)
  show Zj X G 164 [(0, (2, a0))] [] _ _
  refine z_aload_n (pc := 164) hX 0 dX12_eRead_164 rfl rfl ?_
  refine z_get (pc := 165) hX zc12 35 (by decide) wd1052 rfl rfl dX12_eRead_165 (fun v80 => ?_)
  refine z_if_ne (pc := 168) hX 175 dX12_eRead_168 (by decide) (fun h81 => ?_) (fun h81 => ?_)
  · refine z_iconst (pc := 175) hX dX12_eRead_175 ?_
    exact z_zret (pc := 176) hX hR hk dX12_eRead_176 (Or.inl rfl)
  · refine z_iconst (pc := 171) hX dX12_eRead_171 ?_
    refine z_goto (pc := 172) hX 176 dX12_eRead_172 (by decide) ?_
    exact z_zret (pc := 176) hX hR hk dX12_eRead_176 (Or.inr rfl)
