theorem dX12_worth_0 : decode cX12_worth 0 = .ok (.iconst 0, 1) := by decide +kernel
theorem dX12_worth_1 : decode cX12_worth 1 = .ok (.istore_n 2, 1) := by decide +kernel
theorem dX12_worth_2 : decode cX12_worth 2 = .ok (.aload_n 0, 1) := by decide +kernel
theorem dX12_worth_3 : decode cX12_worth 3 = .ok (.getfield 43, 3) := by decide +kernel
theorem dX12_worth_6 : decode cX12_worth 6 = .ok (.iconst 4, 1) := by decide +kernel
theorem dX12_worth_7 : decode cX12_worth 7 = .ok (.aload_n 0, 1) := by decide +kernel
theorem dX12_worth_8 : decode cX12_worth 8 = .ok (.getfield 207, 3) := by decide +kernel
theorem dX12_worth_11 : decode cX12_worth 11 = .ok (.imul, 1) := by decide +kernel
theorem dX12_worth_12 : decode cX12_worth 12 = .ok (.iload_n 1, 1) := by decide +kernel
theorem dX12_worth_13 : decode cX12_worth 13 = .ok (.iadd, 1) := by decide +kernel
theorem dX12_worth_14 : decode cX12_worth 14 = .ok (.iaload, 1) := by decide +kernel
theorem dX12_worth_15 : decode cX12_worth 15 = .ok (.istore_n 3, 1) := by decide +kernel
theorem dX12_worth_16 : decode cX12_worth 16 = .ok (.iload_n 3, 1) := by decide +kernel
theorem dX12_worth_17 : decode cX12_worth 17 = .ok (.aload_n 0, 1) := by decide +kernel
theorem dX12_worth_18 : decode cX12_worth 18 = .ok (.getfield 43, 3) := by decide +kernel
theorem dX12_worth_21 : decode cX12_worth 21 = .ok (.iconst 4, 1) := by decide +kernel
theorem dX12_worth_22 : decode cX12_worth 22 = .ok (.aload_n 0, 1) := by decide +kernel
theorem dX12_worth_23 : decode cX12_worth 23 = .ok (.getfield 207, 3) := by decide +kernel
theorem dX12_worth_26 : decode cX12_worth 26 = .ok (.imul, 1) := by decide +kernel
theorem dX12_worth_27 : decode cX12_worth 27 = .ok (.iload_n 1, 1) := by decide +kernel
theorem dX12_worth_28 : decode cX12_worth 28 = .ok (.iadd, 1) := by decide +kernel
theorem dX12_worth_29 : decode cX12_worth 29 = .ok (.iconst 1, 1) := by decide +kernel
theorem dX12_worth_30 : decode cX12_worth 30 = .ok (.iadd, 1) := by decide +kernel
theorem dX12_worth_31 : decode cX12_worth 31 = .ok (.iaload, 1) := by decide +kernel
theorem dX12_worth_32 : decode cX12_worth 32 = .ok (.if_icmp .ge 165, 3) := by decide +kernel
theorem dX12_worth_35 : decode cX12_worth 35 = .ok (.aload_n 0, 1) := by decide +kernel
theorem dX12_worth_36 : decode cX12_worth 36 = .ok (.getfield 40, 3) := by decide +kernel
theorem dX12_worth_39 : decode cX12_worth 39 = .ok (.sipush 200, 3) := by decide +kernel
theorem dX12_worth_42 : decode cX12_worth 42 = .ok (.aload_n 0, 1) := by decide +kernel
theorem dX12_worth_43 : decode cX12_worth 43 = .ok (.getfield 207, 3) := by decide +kernel
theorem dX12_worth_46 : decode cX12_worth 46 = .ok (.imul, 1) := by decide +kernel
theorem dX12_worth_47 : decode cX12_worth 47 = .ok (.iload_n 3, 1) := by decide +kernel
theorem dX12_worth_48 : decode cX12_worth 48 = .ok (.iadd, 1) := by decide +kernel
theorem dX12_worth_49 : decode cX12_worth 49 = .ok (.iaload, 1) := by decide +kernel
theorem dX12_worth_50 : decode cX12_worth 50 = .ok (.istore 4, 2) := by decide +kernel
theorem dX12_worth_52 : decode cX12_worth 52 = .ok (.iload 4, 2) := by decide +kernel
theorem dX12_worth_54 : decode cX12_worth 54 = .ok (.ldc 192, 2) := by decide +kernel
theorem dX12_worth_56 : decode cX12_worth 56 = .ok (.if_icmp .ge 10, 3) := by decide +kernel
theorem dX12_worth_59 : decode cX12_worth 59 = .ok (.iload 4, 2) := by decide +kernel
theorem dX12_worth_61 : decode cX12_worth 61 = .ok (.bipush 11, 2) := by decide +kernel
theorem dX12_worth_63 : decode cX12_worth 63 = .ok (.if_icmp .ge 37, 3) := by decide +kernel
theorem dX12_worth_66 : decode cX12_worth 66 = .ok (.aload_n 0, 1) := by decide +kernel
theorem dX12_worth_67 : decode cX12_worth 67 = .ok (.getfield 100, 3) := by decide +kernel
theorem dX12_worth_70 : decode cX12_worth 70 = .ok (.iload_n 2, 1) := by decide +kernel
theorem dX12_worth_71 : decode cX12_worth 71 = .ok (.iload 4, 2) := by decide +kernel
theorem dX12_worth_73 : decode cX12_worth 73 = .ok (.bipush 11, 2) := by decide +kernel
theorem dX12_worth_75 : decode cX12_worth 75 = .ok (.if_icmp .ge 13, 3) := by decide +kernel
theorem dX12_worth_78 : decode cX12_worth 78 = .ok (.aload_n 0, 1) := by decide +kernel
theorem dX12_worth_79 : decode cX12_worth 79 = .ok (.getfield 103, 3) := by decide +kernel
theorem dX12_worth_82 : decode cX12_worth 82 = .ok (.iload 4, 2) := by decide +kernel
theorem dX12_worth_84 : decode cX12_worth 84 = .ok (.iaload, 1) := by decide +kernel
theorem dX12_worth_85 : decode cX12_worth 85 = .ok (.goto 8, 3) := by decide +kernel
theorem dX12_worth_88 : decode cX12_worth 88 = .ok (.iload 4, 2) := by decide +kernel
theorem dX12_worth_90 : decode cX12_worth 90 = .ok (.ldc 192, 2) := by decide +kernel
theorem dX12_worth_92 : decode cX12_worth 92 = .ok (.isub, 1) := by decide +kernel
theorem dX12_worth_93 : decode cX12_worth 93 = .ok (.iastore, 1) := by decide +kernel
theorem dX12_worth_94 : decode cX12_worth 94 = .ok (.iinc 2 1, 3) := by decide +kernel
theorem dX12_worth_97 : decode cX12_worth 97 = .ok (.goto 94, 3) := by decide +kernel
theorem dX12_worth_100 : decode cX12_worth 100 = .ok (.iload 4, 2) := by decide +kernel
theorem dX12_worth_102 : decode cX12_worth 102 = .ok (.bipush 13, 2) := by decide +kernel
theorem dX12_worth_104 : decode cX12_worth 104 = .ok (.if_icmp .ne 30, 3) := by decide +kernel
theorem dX12_worth_107 : decode cX12_worth 107 = .ok (.aload_n 0, 1) := by decide +kernel
theorem dX12_worth_108 : decode cX12_worth 108 = .ok (.getfield 100, 3) := by decide +kernel
theorem dX12_worth_111 : decode cX12_worth 111 = .ok (.iload_n 2, 1) := by decide +kernel
theorem dX12_worth_112 : decode cX12_worth 112 = .ok (.iconst 1, 1) := by decide +kernel
theorem dX12_worth_113 : decode cX12_worth 113 = .ok (.isub, 1) := by decide +kernel
theorem dX12_worth_114 : decode cX12_worth 114 = .ok (.aload_n 0, 1) := by decide +kernel
theorem dX12_worth_115 : decode cX12_worth 115 = .ok (.getfield 100, 3) := by decide +kernel
theorem dX12_worth_118 : decode cX12_worth 118 = .ok (.iload_n 2, 1) := by decide +kernel
theorem dX12_worth_119 : decode cX12_worth 119 = .ok (.iconst 1, 1) := by decide +kernel
theorem dX12_worth_120 : decode cX12_worth 120 = .ok (.isub, 1) := by decide +kernel
theorem dX12_worth_121 : decode cX12_worth 121 = .ok (.iaload, 1) := by decide +kernel
theorem dX12_worth_122 : decode cX12_worth 122 = .ok (.ifCond .ne 7, 3) := by decide +kernel
theorem dX12_worth_125 : decode cX12_worth 125 = .ok (.iconst 1, 1) := by decide +kernel
theorem dX12_worth_126 : decode cX12_worth 126 = .ok (.goto 4, 3) := by decide +kernel
theorem dX12_worth_129 : decode cX12_worth 129 = .ok (.iconst 0, 1) := by decide +kernel
theorem dX12_worth_130 : decode cX12_worth 130 = .ok (.iastore, 1) := by decide +kernel
theorem dX12_worth_131 : decode cX12_worth 131 = .ok (.goto 60, 3) := by decide +kernel
theorem dX12_worth_134 : decode cX12_worth 134 = .ok (.iload 4, 2) := by decide +kernel
theorem dX12_worth_136 : decode cX12_worth 136 = .ok (.bipush 19, 2) := by decide +kernel
theorem dX12_worth_138 : decode cX12_worth 138 = .ok (.if_icmp .ne 23, 3) := by decide +kernel
theorem dX12_worth_141 : decode cX12_worth 141 = .ok (.aload_n 0, 1) := by decide +kernel
theorem dX12_worth_142 : decode cX12_worth 142 = .ok (.getfield 100, 3) := by decide +kernel
theorem dX12_worth_145 : decode cX12_worth 145 = .ok (.iload_n 2, 1) := by decide +kernel
theorem dX12_worth_146 : decode cX12_worth 146 = .ok (.iconst 1, 1) := by decide +kernel
theorem dX12_worth_147 : decode cX12_worth 147 = .ok (.isub, 1) := by decide +kernel
theorem dX12_worth_148 : decode cX12_worth 148 = .ok (.aload_n 0, 1) := by decide +kernel
theorem dX12_worth_149 : decode cX12_worth 149 = .ok (.getfield 100, 3) := by decide +kernel
theorem dX12_worth_152 : decode cX12_worth 152 = .ok (.iload_n 2, 1) := by decide +kernel
theorem dX12_worth_153 : decode cX12_worth 153 = .ok (.iconst 1, 1) := by decide +kernel
theorem dX12_worth_154 : decode cX12_worth 154 = .ok (.isub, 1) := by decide +kernel
theorem dX12_worth_155 : decode cX12_worth 155 = .ok (.iaload, 1) := by decide +kernel
theorem dX12_worth_156 : decode cX12_worth 156 = .ok (.ineg, 1) := by decide +kernel
theorem dX12_worth_157 : decode cX12_worth 157 = .ok (.iastore, 1) := by decide +kernel
theorem dX12_worth_158 : decode cX12_worth 158 = .ok (.goto 33, 3) := by decide +kernel
theorem dX12_worth_161 : decode cX12_worth 161 = .ok (.iinc 2 (-1), 3) := by decide +kernel
theorem dX12_worth_164 : decode cX12_worth 164 = .ok (.aload_n 0, 1) := by decide +kernel
theorem dX12_worth_165 : decode cX12_worth 165 = .ok (.getfield 100, 3) := by decide +kernel
theorem dX12_worth_168 : decode cX12_worth 168 = .ok (.iload_n 2, 1) := by decide +kernel
theorem dX12_worth_169 : decode cX12_worth 169 = .ok (.iconst 1, 1) := by decide +kernel
theorem dX12_worth_170 : decode cX12_worth 170 = .ok (.isub, 1) := by decide +kernel
theorem dX12_worth_171 : decode cX12_worth 171 = .ok (.iload 4, 2) := by decide +kernel
theorem dX12_worth_173 : decode cX12_worth 173 = .ok (.aload_n 0, 1) := by decide +kernel
theorem dX12_worth_174 : decode cX12_worth 174 = .ok (.getfield 100, 3) := by decide +kernel
theorem dX12_worth_177 : decode cX12_worth 177 = .ok (.iload_n 2, 1) := by decide +kernel
theorem dX12_worth_178 : decode cX12_worth 178 = .ok (.iconst 1, 1) := by decide +kernel
theorem dX12_worth_179 : decode cX12_worth 179 = .ok (.isub, 1) := by decide +kernel
theorem dX12_worth_180 : decode cX12_worth 180 = .ok (.iaload, 1) := by decide +kernel
theorem dX12_worth_181 : decode cX12_worth 181 = .ok (.aload_n 0, 1) := by decide +kernel
theorem dX12_worth_182 : decode cX12_worth 182 = .ok (.getfield 100, 3) := by decide +kernel
theorem dX12_worth_185 : decode cX12_worth 185 = .ok (.iload_n 2, 1) := by decide +kernel
theorem dX12_worth_186 : decode cX12_worth 186 = .ok (.iaload, 1) := by decide +kernel
theorem dX12_worth_187 : decode cX12_worth 187 = .ok (.invokestatic 210, 3) := by decide +kernel
theorem dX12_worth_190 : decode cX12_worth 190 = .ok (.iastore, 1) := by decide +kernel
theorem dX12_worth_191 : decode cX12_worth 191 = .ok (.iinc 3 1, 3) := by decide +kernel
theorem dX12_worth_194 : decode cX12_worth 194 = .ok (.goto (-178), 3) := by decide +kernel
theorem dX12_worth_197 : decode cX12_worth 197 = .ok (.aload_n 0, 1) := by decide +kernel
theorem dX12_worth_198 : decode cX12_worth 198 = .ok (.getfield 100, 3) := by decide +kernel
theorem dX12_worth_201 : decode cX12_worth 201 = .ok (.iconst 0, 1) := by decide +kernel
theorem dX12_worth_202 : decode cX12_worth 202 = .ok (.iaload, 1) := by decide +kernel
theorem dX12_worth_203 : decode cX12_worth 203 = .ok (.ireturn, 1) := by decide +kernel
def lX12_worth_16 (u5 u6 : Int)  : Nat → ZS → Int → Int → Option (Int × ZS)
  | 0, _, _, _ => none
  | n1 + 1, s4, x7, x8 => (zg s4 12 u5 15).bind (fun v9 => (zg s4 12 u5 17).bind (fun v10 => (zal s4 100 v9 (wrap ((wrap ((wrap (4 * v10)) + u6)) + 1))).bind (fun v11 => if v11 ≤ x8 then ((zg s4 12 u5 38).bind (fun v13 => (zal s4 100 v13 0).bind (fun v14 => some (v14, s4)))) else ((zg s4 12 u5 14).bind (fun v15 => (zg s4 12 u5 17).bind (fun v16 => (zal s4 100 v15 (wrap ((wrap (200 * v16)) + x8))).bind (fun v17 => zjn (fun (K191 : ZS → Int → Option (Int × ZS)) => zjn (fun (K66 : ZS → Option (Int × ZS)) => if 100000 ≤ v17 then (K66 s4) else (if 11 ≤ v17 then (if v17 = 13 then ((zg s4 12 u5 38).bind (fun v35 => (zg s4 12 u5 38).bind (fun v36 => (zal s4 100 v36 (wrap (x7 - 1))).bind (fun v37 => zjn (fun (K130 : ZS → Int → Option (Int × ZS)) => if v37 = 0 then (K130 s4 1) else (K130 s4 0)) (fun (s39 : ZS) (w40 : Int) => (zas s39 100 v35 (wrap (x7 - 1)) w40).bind (fun s41 => K191 s41 x7)))))) else (if v17 = 19 then ((zg s4 12 u5 38).bind (fun v31 => (zg s4 12 u5 38).bind (fun v32 => (zal s4 100 v32 (wrap (x7 - 1))).bind (fun v33 => (zas s4 100 v31 (wrap (x7 - 1)) (wrap (-v33))).bind (fun s34 => K191 s34 x7))))) else ((zg s4 12 u5 38).bind (fun v22 => (zg s4 12 u5 38).bind (fun v23 => (zal s4 100 v23 (wrap ((wrap (x7 + (-1))) - 1))).bind (fun v24 => (zg s4 12 u5 38).bind (fun v25 => (zal s4 100 v25 (wrap (x7 + (-1)))).bind (fun v26 => zb (fX12_two s4 v17 v24 v26) (fun v27 s28 => (zas s28 100 v22 (wrap ((wrap (x7 + (-1))) - 1)) v27).bind (fun s30 => K191 s30 (wrap (x7 + (-1))))))))))))) else (K66 s4))) (fun (s42 : ZS) => (zg s42 12 u5 38).bind (fun v43 => zjn (fun (K93 : ZS → Int → Option (Int × ZS)) => if 11 ≤ v17 then (K93 s42 (wrap (v17 - 100000))) else ((zg s42 12 u5 39).bind (fun v45 => (zal s42 100 v45 v17).bind (fun v46 => K93 s42 v46)))) (fun (s47 : ZS) (w48 : Int) => (zas s47 100 v43 x7 w48).bind (fun s49 => K191 s49 (wrap (x7 + 1))))))) (fun (s50 : ZS) (x51 : Int) => lX12_worth_16 u5 u6 n1 s50 x51 (wrap (x8 + 1))))))))))

def fX12_worth (s0 : ZS) (a0 : Int) (a1 : Int) : Option (Int × ZS) := (zg s0 12 a0 15).bind (fun v1 => (zg s0 12 a0 17).bind (fun v2 => (zal s0 100 v1 (wrap ((wrap (4 * v2)) + a1))).bind (fun v3 => lX12_worth_16 a0 a1 1000 s0 0 v3)))
set_option maxHeartbeats 4000000 in
set_option maxRecDepth 100000 in
theorem mX12_worth (E : ZE) (hE : zOkE E) (l : Launch) (s0 : ZS) (a0 : Int) (a1 : Int) : Ct E l yX12_worth cX12_worth 5 (some .int) 4 [(2, a0), (0, a1)] 1 s0 (fX12_worth s0 a0 a1) := by
  refine Ct.of (by decide) hE (Nat.le_of_ble_eq_true rfl) ?_
  intro X G hX hR hN hXE hXl hxn hk _
  subst hXE
  subst hXl
  have hX : G → ZOk X cX12_worth RX12 4 := hX
  clear hN
  show Zj X G 0 [(0, (2, a0)), (1, (0, a1))] [] s0 _
  unfold fX12_worth
  refine z_iconst (pc := 0) hX dX12_worth_0 ?_
  refine z_istore_n (lv' := [(2, (0, 0)), (0, (2, a0)), (1, (0, a1))]) (pc := 1) hX dX12_worth_1 rfl (zlt hxn rfl) rfl ?_
  refine z_aload_n (pc := 2) hX 1 dX12_worth_2 rfl rfl ?_
  refine z_get (pc := 3) hX zc12 15 (by decide) wd1032 rfl rfl dX12_worth_3 (fun v1 => ?_)
  refine z_iconst (pc := 6) hX dX12_worth_6 ?_
  refine z_aload_n (pc := 7) hX 1 dX12_worth_7 rfl rfl ?_
  refine z_get (pc := 8) hX zc12 17 (by decide) wd1034 rfl rfl dX12_worth_8 (fun v2 => ?_)
  refine z_imul (pc := 11) hX dX12_worth_11 ?_
  refine z_iload_n (pc := 12) hX 2 dX12_worth_12 rfl rfl ?_
  refine z_iadd (pc := 13) hX dX12_worth_13 ?_
  refine z_iald (pc := 14) hX dX12_worth_14 (fun v3 => ?_)
  refine z_istore_n (lv' := [(3, (0, v3)), (2, (0, 0)), (0, (2, a0)), (1, (0, a1))]) (pc := 15) hX dX12_worth_15 rfl (zlt hxn rfl) rfl ?_
  have hl16 : ∀ (u5 u6 : Int), ∀ (n1 : Nat) (s4 : ZS) (x7 x8 : Int), Zj X G 16 [(0, (2, u5)), (1, (0, u6)), (2, (0, x7)), (3, (0, x8))] [] s4 (lX12_worth_16 u5 u6 n1 s4 x7 x8) := by
    intro u5 u6 n1
    induction n1 with
    | zero => intro _ _ _; exact z_none
    | succ n1 ih1 =>
      intro s4 x7 x8
      rw [lX12_worth_16]
      refine z_iload_n (pc := 16) hX 3 dX12_worth_16 rfl rfl ?_
      refine z_aload_n (pc := 17) hX 0 dX12_worth_17 rfl rfl ?_
      refine z_get (pc := 18) hX zc12 15 (by decide) wd1032 rfl rfl dX12_worth_18 (fun v9 => ?_)
      refine z_iconst (pc := 21) hX dX12_worth_21 ?_
      refine z_aload_n (pc := 22) hX 0 dX12_worth_22 rfl rfl ?_
      refine z_get (pc := 23) hX zc12 17 (by decide) wd1034 rfl rfl dX12_worth_23 (fun v10 => ?_)
      refine z_imul (pc := 26) hX dX12_worth_26 ?_
      refine z_iload_n (pc := 27) hX 1 dX12_worth_27 rfl rfl ?_
      refine z_iadd (pc := 28) hX dX12_worth_28 ?_
      refine z_iconst (pc := 29) hX dX12_worth_29 ?_
      refine z_iadd (pc := 30) hX dX12_worth_30 ?_
      refine z_iald (pc := 31) hX dX12_worth_31 (fun v11 => ?_)
      refine z_icmp_ge (pc := 32) hX 197 dX12_worth_32 (by decide) (fun h12 => ?_) (fun h12 => ?_)
      · refine z_aload_n (pc := 197) hX 0 dX12_worth_197 rfl rfl ?_
        refine z_get (pc := 198) hX zc12 38 (by decide) wd1055 rfl rfl dX12_worth_198 (fun v13 => ?_)
        refine z_iconst (pc := 201) hX dX12_worth_201 ?_
        refine z_iald (pc := 202) hX dX12_worth_202 (fun v14 => ?_)
        exact z_iret (pc := 203) hX hR hk dX12_worth_203
      · refine z_aload_n (pc := 35) hX 0 dX12_worth_35 rfl rfl ?_
        refine z_get (pc := 36) hX zc12 14 (by decide) wd1031 rfl rfl dX12_worth_36 (fun v15 => ?_)
        refine z_sipush (pc := 39) hX dX12_worth_39 ?_
        refine z_aload_n (pc := 42) hX 0 dX12_worth_42 rfl rfl ?_
        refine z_get (pc := 43) hX zc12 17 (by decide) wd1034 rfl rfl dX12_worth_43 (fun v16 => ?_)
        refine z_imul (pc := 46) hX dX12_worth_46 ?_
        refine z_iload_n (pc := 47) hX 3 dX12_worth_47 rfl rfl ?_
        refine z_iadd (pc := 48) hX dX12_worth_48 ?_
        refine z_iald (pc := 49) hX dX12_worth_49 (fun v17 => ?_)
        refine z_istore (lv' := [(4, (0, v17)), (0, (2, u5)), (1, (0, u6)), (2, (0, x7)), (3, (0, x8))]) (pc := 50) hX dX12_worth_50 (zlt hxn rfl) rfl ?_
        refine z_iload (pc := 52) hX 0 dX12_worth_52 rfl ?_
        refine z_ldc (n := 100000) (pc := 54) hX dX12_worth_54 wd1225 (by decide) ?_
        refine z_jn (fun K191 eK191 => ?_)
        have hK191 : ∀ (s50 : ZS) (x51 : Int), Zj X G 191 [(0, (2, u5)), (1, (0, u6)), (2, (0, x51)), (3, (0, x8))] [] s50 (K191 s50 x51) := by
          intro s50 x51
          rw [eK191]
          refine z_iinc (lv' := [(3, (0, (wrap (x8 + 1)))), (0, (2, u5)), (1, (0, u6)), (2, (0, x51))]) (pc := 191) hX 3 dX12_worth_191 rfl (zlt hxn rfl) rfl ?_
          refine z_goto (pc := 194) hX 16 dX12_worth_194 (by decide) ?_
          refine z_pick (lv' := [(0, (2, u5)), (1, (0, u6)), (2, (0, x51)), (3, (0, (wrap (x8 + 1))))]) [1, 2, 3, 0] rfl ?_
          exact ih1 _ _ _
        clear eK191
        refine z_jn (fun K66 eK66 => ?_)
        have hK66 : ∀ (s42 : ZS), Zj X G 66 [(0, (2, u5)), (1, (0, u6)), (2, (0, x7)), (3, (0, x8)), (4, (0, v17))] [] s42 (K66 s42) := by
          intro s42
          rw [eK66]
          refine z_aload_n (pc := 66) hX 0 dX12_worth_66 rfl rfl ?_
          refine z_get (pc := 67) hX zc12 38 (by decide) wd1055 rfl rfl dX12_worth_67 (fun v43 => ?_)
          refine z_iload_n (pc := 70) hX 2 dX12_worth_70 rfl rfl ?_
          refine z_iload (pc := 71) hX 4 dX12_worth_71 rfl ?_
          refine z_bipush (pc := 73) hX dX12_worth_73 ?_
          refine z_jn (fun K93 eK93 => ?_)
          have hK93 : ∀ (s47 : ZS) (w48 : Int), Zj X G 93 [(0, (2, u5)), (1, (0, u6)), (2, (0, x7)), (3, (0, x8))] [(0, w48), (0, x7), (2, v43)] s47 (K93 s47 w48) := by
            intro s47 w48
            rw [eK93]
            refine z_iastA (pc := 93) hX dX12_worth_93 (fun s49 => ?_)
            refine z_iinc (lv' := [(2, (0, (wrap (x7 + 1)))), (0, (2, u5)), (1, (0, u6)), (3, (0, x8))]) (pc := 94) hX 2 dX12_worth_94 rfl (zlt hxn rfl) rfl ?_
            refine z_goto (pc := 97) hX 191 dX12_worth_97 (by decide) ?_
            refine z_pick (lv' := [(0, (2, u5)), (1, (0, u6)), (2, (0, (wrap (x7 + 1)))), (3, (0, x8))]) [1, 2, 0, 3] rfl ?_
            exact hK191 _ _
          clear eK93
          refine z_icmp_ge (pc := 75) hX 88 dX12_worth_75 (by decide) (fun h44 => ?_) (fun h44 => ?_)
          · refine z_iload (pc := 88) hX 4 dX12_worth_88 rfl ?_
            refine z_ldc (n := 100000) (pc := 90) hX dX12_worth_90 wd1225 (by decide) ?_
            refine z_isub (pc := 92) hX dX12_worth_92 ?_
            refine z_pick (lv' := [(0, (2, u5)), (1, (0, u6)), (2, (0, x7)), (3, (0, x8))]) [0, 1, 2, 3] rfl ?_
            exact hK93 _ _
          · refine z_aload_n (pc := 78) hX 0 dX12_worth_78 rfl rfl ?_
            refine z_get (pc := 79) hX zc12 39 (by decide) wd1056 rfl rfl dX12_worth_79 (fun v45 => ?_)
            refine z_iload (pc := 82) hX 4 dX12_worth_82 rfl ?_
            refine z_iald (pc := 84) hX dX12_worth_84 (fun v46 => ?_)
            refine z_goto (pc := 85) hX 93 dX12_worth_85 (by decide) ?_
            refine z_pick (lv' := [(0, (2, u5)), (1, (0, u6)), (2, (0, x7)), (3, (0, x8))]) [0, 1, 2, 3] rfl ?_
            exact hK93 _ _
        clear eK66
        refine z_icmp_ge (pc := 56) hX 66 dX12_worth_56 (by decide) (fun h18 => ?_) (fun h18 => ?_)
        · refine z_pick (lv' := [(0, (2, u5)), (1, (0, u6)), (2, (0, x7)), (3, (0, x8)), (4, (0, v17))]) [1, 2, 3, 4, 0] rfl ?_
          exact hK66 _
        · refine z_iload (pc := 59) hX 0 dX12_worth_59 rfl ?_
          refine z_bipush (pc := 61) hX dX12_worth_61 ?_
          refine z_icmp_ge (pc := 63) hX 100 dX12_worth_63 (by decide) (fun h19 => ?_) (fun h19 => ?_)
          · refine z_iload (pc := 100) hX 0 dX12_worth_100 rfl ?_
            refine z_bipush (pc := 102) hX dX12_worth_102 ?_
            refine z_icmp_ne (pc := 104) hX 134 dX12_worth_104 (by decide) (fun h20 => ?_) (fun h20 => ?_)
            · refine z_iload (pc := 134) hX 0 dX12_worth_134 rfl ?_
              refine z_bipush (pc := 136) hX dX12_worth_136 ?_
              refine z_icmp_ne (pc := 138) hX 161 dX12_worth_138 (by decide) (fun h21 => ?_) (fun h21 => ?_)
              · refine z_iinc (lv' := [(2, (0, (wrap (x7 + (-1))))), (4, (0, v17)), (0, (2, u5)), (1, (0, u6)), (3, (0, x8))]) (pc := 161) hX 3 dX12_worth_161 rfl (zlt hxn rfl) rfl ?_
                refine z_aload_n (pc := 164) hX 2 dX12_worth_164 rfl rfl ?_
                refine z_get (pc := 165) hX zc12 38 (by decide) wd1055 rfl rfl dX12_worth_165 (fun v22 => ?_)
                refine z_iload_n (pc := 168) hX 0 dX12_worth_168 rfl rfl ?_
                refine z_iconst (pc := 169) hX dX12_worth_169 ?_
                refine z_isub (pc := 170) hX dX12_worth_170 ?_
                refine z_iload (pc := 171) hX 1 dX12_worth_171 rfl ?_
                refine z_aload_n (pc := 173) hX 2 dX12_worth_173 rfl rfl ?_
                refine z_get (pc := 174) hX zc12 38 (by decide) wd1055 rfl rfl dX12_worth_174 (fun v23 => ?_)
                refine z_iload_n (pc := 177) hX 0 dX12_worth_177 rfl rfl ?_
                refine z_iconst (pc := 178) hX dX12_worth_178 ?_
                refine z_isub (pc := 179) hX dX12_worth_179 ?_
                refine z_iald (pc := 180) hX dX12_worth_180 (fun v24 => ?_)
                refine z_aload_n (pc := 181) hX 2 dX12_worth_181 rfl rfl ?_
                refine z_get (pc := 182) hX zc12 38 (by decide) wd1055 rfl rfl dX12_worth_182 (fun v25 => ?_)
                refine z_iload_n (pc := 185) hX 0 dX12_worth_185 rfl rfl ?_
                refine z_iald (pc := 186) hX dX12_worth_186 (fun v26 => ?_)
                refine z_callS (n := 3) (st := [(0, (wrap ((wrap (x7 + (-1))) - 1))), (2, v22)]) (pc := 187) hX (mX12_two _ hE _ _ _ _ _) ⟨wd1316, wd67, wd1318, ⟨by decide, by decide, by decide⟩, by decide⟩ wd1317 rfl rfl (by decide) (Nat.le_of_ble_eq_true rfl) dX12_worth_187 (fun v27 s28 r29 => ?_)
                show Zj X G 190 [(2, (0, (wrap (x7 + (-1))))), (4, (0, v17)), (0, (2, u5)), (1, (0, u6)), (3, (0, x8))] [(0, v27), (0, (wrap ((wrap (x7 + (-1))) - 1))), (2, v22)] _ _
                refine z_iastA (pc := 190) hX dX12_worth_190 (fun s30 => ?_)
                refine z_pick (lv' := [(0, (2, u5)), (1, (0, u6)), (2, (0, (wrap (x7 + (-1))))), (3, (0, x8))]) [2, 3, 0, 4] rfl ?_
                exact hK191 _ _
              · refine z_aload_n (pc := 141) hX 1 dX12_worth_141 rfl rfl ?_
                refine z_get (pc := 142) hX zc12 38 (by decide) wd1055 rfl rfl dX12_worth_142 (fun v31 => ?_)
                refine z_iload_n (pc := 145) hX 3 dX12_worth_145 rfl rfl ?_
                refine z_iconst (pc := 146) hX dX12_worth_146 ?_
                refine z_isub (pc := 147) hX dX12_worth_147 ?_
                refine z_aload_n (pc := 148) hX 1 dX12_worth_148 rfl rfl ?_
                refine z_get (pc := 149) hX zc12 38 (by decide) wd1055 rfl rfl dX12_worth_149 (fun v32 => ?_)
                refine z_iload_n (pc := 152) hX 3 dX12_worth_152 rfl rfl ?_
                refine z_iconst (pc := 153) hX dX12_worth_153 ?_
                refine z_isub (pc := 154) hX dX12_worth_154 ?_
                refine z_iald (pc := 155) hX dX12_worth_155 (fun v33 => ?_)
                refine z_ineg (pc := 156) hX dX12_worth_156 ?_
                refine z_iastA (pc := 157) hX dX12_worth_157 (fun s34 => ?_)
                refine z_goto (pc := 158) hX 191 dX12_worth_158 (by decide) ?_
                refine z_pick (lv' := [(0, (2, u5)), (1, (0, u6)), (2, (0, x7)), (3, (0, x8))]) [1, 2, 3, 4] rfl ?_
                exact hK191 _ _
            · refine z_aload_n (pc := 107) hX 1 dX12_worth_107 rfl rfl ?_
              refine z_get (pc := 108) hX zc12 38 (by decide) wd1055 rfl rfl dX12_worth_108 (fun v35 => ?_)
              refine z_iload_n (pc := 111) hX 3 dX12_worth_111 rfl rfl ?_
              refine z_iconst (pc := 112) hX dX12_worth_112 ?_
              refine z_isub (pc := 113) hX dX12_worth_113 ?_
              refine z_aload_n (pc := 114) hX 1 dX12_worth_114 rfl rfl ?_
              refine z_get (pc := 115) hX zc12 38 (by decide) wd1055 rfl rfl dX12_worth_115 (fun v36 => ?_)
              refine z_iload_n (pc := 118) hX 3 dX12_worth_118 rfl rfl ?_
              refine z_iconst (pc := 119) hX dX12_worth_119 ?_
              refine z_isub (pc := 120) hX dX12_worth_120 ?_
              refine z_iald (pc := 121) hX dX12_worth_121 (fun v37 => ?_)
              refine z_jn (fun K130 eK130 => ?_)
              have hK130 : ∀ (s39 : ZS) (w40 : Int), Zj X G 130 [(0, (2, u5)), (1, (0, u6)), (2, (0, x7)), (3, (0, x8))] [(0, w40), (0, (wrap (x7 - 1))), (2, v35)] s39 (K130 s39 w40) := by
                intro s39 w40
                rw [eK130]
                refine z_iastA (pc := 130) hX dX12_worth_130 (fun s41 => ?_)
                refine z_goto (pc := 131) hX 191 dX12_worth_131 (by decide) ?_
                exact hK191 _ _
              clear eK130
              refine z_if_ne (pc := 122) hX 129 dX12_worth_122 (by decide) (fun h38 => ?_) (fun h38 => ?_)
              · refine z_iconst (pc := 129) hX dX12_worth_129 ?_
                refine z_pick (lv' := [(0, (2, u5)), (1, (0, u6)), (2, (0, x7)), (3, (0, x8))]) [1, 2, 3, 4] rfl ?_
                exact hK130 _ _
              · refine z_iconst (pc := 125) hX dX12_worth_125 ?_
                refine z_goto (pc := 126) hX 130 dX12_worth_126 (by decide) ?_
                refine z_pick (lv' := [(0, (2, u5)), (1, (0, u6)), (2, (0, x7)), (3, (0, x8))]) [1, 2, 3, 4] rfl ?_
                exact hK130 _ _
          · refine z_pick (lv' := [(0, (2, u5)), (1, (0, u6)), (2, (0, x7)), (3, (0, x8)), (4, (0, v17))]) [1, 2, 3, 4, 0] rfl ?_
            exact hK66 _
  refine z_pick (lv' := [(0, (2, a0)), (1, (0, a1)), (2, (0, 0)), (3, (0, v3))]) [2, 3, 1, 0] rfl ?_
  refine hl16 _ _ 1000 _ _ _

theorem dX12_held_0 : decode cX12_held 0 = .ok (.iload_n 0, 1) := by decide +kernel
theorem dX12_held_1 : decode cX12_held 1 = .ok (.sipush 9999, 3) := by decide +kernel
theorem dX12_held_4 : decode cX12_held 4 = .ok (.if_icmp .le 9, 3) := by decide +kernel
theorem dX12_held_7 : decode cX12_held 7 = .ok (.sipush 9999, 3) := by decide +kernel
theorem dX12_held_10 : decode cX12_held 10 = .ok (.goto 17, 3) := by decide +kernel
theorem dX12_held_13 : decode cX12_held 13 = .ok (.iload_n 0, 1) := by decide +kernel
theorem dX12_held_14 : decode cX12_held 14 = .ok (.sipush (-9999), 3) := by decide +kernel
theorem dX12_held_17 : decode cX12_held 17 = .ok (.if_icmp .ge 9, 3) := by decide +kernel
theorem dX12_held_20 : decode cX12_held 20 = .ok (.sipush (-9999), 3) := by decide +kernel
theorem dX12_held_23 : decode cX12_held 23 = .ok (.goto 4, 3) := by decide +kernel
theorem dX12_held_26 : decode cX12_held 26 = .ok (.iload_n 0, 1) := by decide +kernel
theorem dX12_held_27 : decode cX12_held 27 = .ok (.ireturn, 1) := by decide +kernel
def fX12_held (s0 : ZS) (a0 : Int) : Option (Int × ZS) := if a0 ≤ 9999 then (if (-9999) ≤ a0 then (some (a0, s0)) else (some ((-9999), s0))) else (some (9999, s0))
set_option maxHeartbeats 4000000 in
set_option maxRecDepth 100000 in
theorem mX12_held (E : ZE) (hE : zOkE E) (l : Launch) (s0 : ZS) (a0 : Int) : Ct E l yX12_held cX12_held 1 (some .int) 2 [(0, a0)] 1 s0 (fX12_held s0 a0) := by
  refine Ct.of (by decide) hE (Nat.le_of_ble_eq_true rfl) ?_
  intro X G hX hR hN hXE hXl hxn hk _
  subst hXE
  subst hXl
  have hX : G → ZOk X cX12_held RX12 2 := hX
  clear hN
  show Zj X G 0 [(0, (0, a0))] [] s0 _
  unfold fX12_held
  refine z_iload_n (pc := 0) hX 0 dX12_held_0 rfl rfl ?_
  refine z_sipush (pc := 1) hX dX12_held_1 ?_
  refine z_icmp_le (pc := 4) hX 13 dX12_held_4 (by decide) (fun h1 => ?_) (fun h1 => ?_)
  · refine z_iload_n (pc := 13) hX 0 dX12_held_13 rfl rfl ?_
    refine z_sipush (pc := 14) hX dX12_held_14 ?_
    refine z_icmp_ge (pc := 17) hX 26 dX12_held_17 (by decide) (fun h2 => ?_) (fun h2 => ?_)
    · refine z_iload_n (pc := 26) hX 0 dX12_held_26 rfl rfl ?_
      exact z_iret (pc := 27) hX hR hk dX12_held_27
    · refine z_sipush (pc := 20) hX dX12_held_20 ?_
      refine z_goto (pc := 23) hX 27 dX12_held_23 (by decide) ?_
      exact z_iret (pc := 27) hX hR hk dX12_held_27
  · refine z_sipush (pc := 7) hX dX12_held_7 ?_
    refine z_goto (pc := 10) hX 27 dX12_held_10 (by decide) ?_
    exact z_iret (pc := 27) hX hR hk dX12_held_27

theorem dX12_cost_0 : decode cX12_cost 0 = .ok (.aload_n 0, 1) := by decide +kernel
theorem dX12_cost_1 : decode cX12_cost 1 = .ok (.getfield 106, 3) := by decide +kernel
theorem dX12_cost_4 : decode cX12_cost 4 = .ok (.iload_n 2, 1) := by decide +kernel
theorem dX12_cost_5 : decode cX12_cost 5 = .ok (.iaload, 1) := by decide +kernel
theorem dX12_cost_6 : decode cX12_cost 6 = .ok (.bipush 48, 2) := by decide +kernel
theorem dX12_cost_8 : decode cX12_cost 8 = .ok (.if_icmp .ne 15, 3) := by decide +kernel
theorem dX12_cost_11 : decode cX12_cost 11 = .ok (.aload_n 0, 1) := by decide +kernel
theorem dX12_cost_12 : decode cX12_cost 12 = .ok (.getfield 19, 3) := by decide +kernel
theorem dX12_cost_15 : decode cX12_cost 15 = .ok (.aload_n 0, 1) := by decide +kernel
theorem dX12_cost_16 : decode cX12_cost 16 = .ok (.getfield 25, 3) := by decide +kernel
theorem dX12_cost_19 : decode cX12_cost 19 = .ok (.iload_n 2, 1) := by decide +kernel
theorem dX12_cost_20 : decode cX12_cost 20 = .ok (.iaload, 1) := by decide +kernel
theorem dX12_cost_21 : decode cX12_cost 21 = .ok (.iaload, 1) := by decide +kernel
theorem dX12_cost_22 : decode cX12_cost 22 = .ok (.ireturn, 1) := by decide +kernel
theorem dX12_cost_23 : decode cX12_cost 23 = .ok (.aload_n 0, 1) := by decide +kernel
theorem dX12_cost_24 : decode cX12_cost 24 = .ok (.getfield 112, 3) := by decide +kernel
theorem dX12_cost_27 : decode cX12_cost 27 = .ok (.iload_n 2, 1) := by decide +kernel
theorem dX12_cost_28 : decode cX12_cost 28 = .ok (.iaload, 1) := by decide +kernel
theorem dX12_cost_29 : decode cX12_cost 29 = .ok (.iconst (-1), 1) := by decide +kernel
theorem dX12_cost_30 : decode cX12_cost 30 = .ok (.if_icmp .ne 7, 3) := by decide +kernel
theorem dX12_cost_33 : decode cX12_cost 33 = .ok (.sipush 5000, 3) := by decide +kernel
theorem dX12_cost_36 : decode cX12_cost 36 = .ok (.ireturn, 1) := by decide +kernel
theorem dX12_cost_37 : decode cX12_cost 37 = .ok (.aload_n 0, 1) := by decide +kernel
theorem dX12_cost_38 : decode cX12_cost 38 = .ok (.iload_n 1, 1) := by decide +kernel
theorem dX12_cost_39 : decode cX12_cost 39 = .ok (.iload_n 2, 1) := by decide +kernel
theorem dX12_cost_40 : decode cX12_cost 40 = .ok (.invokevirtual 239, 3) := by decide +kernel
theorem dX12_cost_43 : decode cX12_cost 43 = .ok (.aload_n 0, 1) := by decide +kernel
theorem dX12_cost_44 : decode cX12_cost 44 = .ok (.iconst 0, 1) := by decide +kernel
theorem dX12_cost_45 : decode cX12_cost 45 = .ok (.invokevirtual 243, 3) := by decide +kernel
theorem dX12_cost_48 : decode cX12_cost 48 = .ok (.invokestatic 246, 3) := by decide +kernel
theorem dX12_cost_51 : decode cX12_cost 51 = .ok (.aload_n 0, 1) := by decide +kernel
theorem dX12_cost_52 : decode cX12_cost 52 = .ok (.getfield 28, 3) := by decide +kernel
theorem dX12_cost_55 : decode cX12_cost 55 = .ok (.iload_n 1, 1) := by decide +kernel
theorem dX12_cost_56 : decode cX12_cost 56 = .ok (.iaload, 1) := by decide +kernel
theorem dX12_cost_57 : decode cX12_cost 57 = .ok (.iconst 4, 1) := by decide +kernel
theorem dX12_cost_58 : decode cX12_cost 58 = .ok (.if_icmp .ne 24, 3) := by decide +kernel
theorem dX12_cost_61 : decode cX12_cost 61 = .ok (.aload_n 0, 1) := by decide +kernel
theorem dX12_cost_62 : decode cX12_cost 62 = .ok (.getfield 112, 3) := by decide +kernel
theorem dX12_cost_65 : decode cX12_cost 65 = .ok (.iload_n 2, 1) := by decide +kernel
theorem dX12_cost_66 : decode cX12_cost 66 = .ok (.iaload, 1) := by decide +kernel
theorem dX12_cost_67 : decode cX12_cost 67 = .ok (.aload_n 0, 1) := by decide +kernel
theorem dX12_cost_68 : decode cX12_cost 68 = .ok (.getfield 109, 3) := by decide +kernel
theorem dX12_cost_71 : decode cX12_cost 71 = .ok (.iload_n 2, 1) := by decide +kernel
theorem dX12_cost_72 : decode cX12_cost 72 = .ok (.iaload, 1) := by decide +kernel
theorem dX12_cost_73 : decode cX12_cost 73 = .ok (.isub, 1) := by decide +kernel
theorem dX12_cost_74 : decode cX12_cost 74 = .ok (.iconst 4, 1) := by decide +kernel
theorem dX12_cost_75 : decode cX12_cost 75 = .ok (.if_icmp .le 7, 3) := by decide +kernel
theorem dX12_cost_78 : decode cX12_cost 78 = .ok (.iconst 2, 1) := by decide +kernel
theorem dX12_cost_79 : decode cX12_cost 79 = .ok (.goto 4, 3) := by decide +kernel
theorem dX12_cost_82 : decode cX12_cost 82 = .ok (.iconst 0, 1) := by decide +kernel
theorem dX12_cost_83 : decode cX12_cost 83 = .ok (.isub, 1) := by decide +kernel
theorem dX12_cost_84 : decode cX12_cost 84 = .ok (.ireturn, 1) := by decide +kernel
def fX12_cost (s0 : ZS) (a0 : Int) (a1 : Int) (a2 : Int) : Option (Int × ZS) := (zg s0 12 a0 40).bind (fun v1 => (zal s0 100 v1 a2).bind (fun v2 => if v2 = 48 then ((zg s0 12 a0 4).bind (fun v24 => (zg s0 12 a0 7).bind (fun v25 => (zal s0 100 v25 a2).bind (fun v26 => (zal s0 100 v24 v26).bind (fun v27 => some (v27, s0)))))) else ((zg s0 12 a0 42).bind (fun v4 => (zal s0 100 v4 a2).bind (fun v5 => if v5 = (-1) then (some (5000, s0)) else (zb (zv s0 12 a0 (fX12_names s0 a0 a1 a2)) (fun v7 s8 => zb (zv s8 12 a0 (fX12_worth s8 a0 0)) (fun v10 s11 => zb (fX12_held s11 v10) (fun v13 s14 => (zg s14 12 a0 9).bind (fun v16 => (zal s14 100 v16 a1).bind (fun v17 => if v17 = 4 then ((zg s14 12 a0 42).bind (fun v19 => (zal s14 100 v19 a2).bind (fun v20 => (zg s14 12 a0 41).bind (fun v21 => (zal s14 100 v21 a2).bind (fun v22 => if (wrap (v20 - v22)) ≤ 4 then (some ((wrap (v13 - 0)), s14)) else (some ((wrap (v13 - 2)), s14))))))) else (some ((wrap (v13 - 0)), s14)))))))))))))
set_option maxHeartbeats 4000000 in
set_option maxRecDepth 100000 in
theorem mX12_cost (E : ZE) (hE : zOkE E) (l : Launch) (s0 : ZS) (a0 : Int) (a1 : Int) (a2 : Int) : Ct E l yX12_cost cX12_cost 3 (some .int) 6 [(2, a0), (0, a1), (0, a2)] 1 s0 (fX12_cost s0 a0 a1 a2) := by
  refine Ct.of (by decide) hE (Nat.le_of_ble_eq_true rfl) ?_
  intro X G hX hR hN hXE hXl hxn hk _
  subst hXE
  subst hXl
  have hX : G → ZOk X cX12_cost RX12 6 := hX
  clear hN
  show Zj X G 0 [(0, (2, a0)), (1, (0, a1)), (2, (0, a2))] [] s0 _
  unfold fX12_cost
  refine z_aload_n (pc := 0) hX 0 dX12_cost_0 rfl rfl ?_
  refine z_get (pc := 1) hX zc12 40 (by decide) wd1057 rfl rfl dX12_cost_1 (fun v1 => ?_)
  refine z_iload_n (pc := 4) hX 2 dX12_cost_4 rfl rfl ?_
  refine z_iald (pc := 5) hX dX12_cost_5 (fun v2 => ?_)
  refine z_bipush (pc := 6) hX dX12_cost_6 ?_
  refine z_icmp_ne (pc := 8) hX 23 dX12_cost_8 (by decide) (fun h3 => ?_) (fun h3 => ?_)
  · refine z_aload_n (pc := 23) hX 0 dX12_cost_23 rfl rfl ?_
    refine z_get (pc := 24) hX zc12 42 (by decide) wd1059 rfl rfl dX12_cost_24 (fun v4 => ?_)
    refine z_iload_n (pc := 27) hX 2 dX12_cost_27 rfl rfl ?_
    refine z_iald (pc := 28) hX dX12_cost_28 (fun v5 => ?_)
    refine z_iconst (pc := 29) hX dX12_cost_29 ?_
    refine z_icmp_ne (pc := 30) hX 37 dX12_cost_30 (by decide) (fun h6 => ?_) (fun h6 => ?_)
    · refine z_aload_n (pc := 37) hX 0 dX12_cost_37 rfl rfl ?_
      refine z_iload_n (pc := 38) hX 1 dX12_cost_38 rfl rfl ?_
      refine z_iload_n (pc := 39) hX 2 dX12_cost_39 rfl rfl ?_
      refine z_callV (n := 2) (st := []) (pc := 40) hX zc12 rfl (fun _ => (mX12_names _ hE _ _ _ _ _)) ⟨wd1304, wd67, wd1307, ⟨by decide, by decide, by decide⟩, by decide⟩ rfl wd1306 wd49 rfl rfl (by decide) (Nat.le_of_ble_eq_true rfl) dX12_cost_40 (fun v7 s8 r9 => ?_)
      show Zj X G 43 [(0, (2, a0)), (1, (0, a1)), (2, (0, a2))] [] _ _
      refine z_aload_n (pc := 43) hX 0 dX12_cost_43 rfl rfl ?_
      refine z_iconst (pc := 44) hX dX12_cost_44 ?_
      refine z_callV (n := 1) (st := []) (pc := 45) hX zc12 rfl (fun _ => (mX12_worth _ hE _ _ _ _)) ⟨wd1312, wd67, wd1315, ⟨by decide, by decide, by decide⟩, by decide⟩ rfl wd1314 wd51 rfl rfl (by decide) (Nat.le_of_ble_eq_true rfl) dX12_cost_45 (fun v10 s11 r12 => ?_)
      show Zj X G 48 [(0, (2, a0)), (1, (0, a1)), (2, (0, a2))] [(0, v10)] _ _
      refine z_callS (n := 1) (st := []) (pc := 48) hX (mX12_held _ hE _ _ _) ⟨wd1319, wd67, wd1321, ⟨by decide, by decide, by decide⟩, by decide⟩ wd1320 rfl rfl (by decide) (Nat.le_of_ble_eq_true rfl) dX12_cost_48 (fun v13 s14 r15 => ?_)
      show Zj X G 51 [(0, (2, a0)), (1, (0, a1)), (2, (0, a2))] [(0, v13)] _ _
      refine z_aload_n (pc := 51) hX 0 dX12_cost_51 rfl rfl ?_
      refine z_get (pc := 52) hX zc12 9 (by decide) wd1026 rfl rfl dX12_cost_52 (fun v16 => ?_)
      refine z_iload_n (pc := 55) hX 1 dX12_cost_55 rfl rfl ?_
      refine z_iald (pc := 56) hX dX12_cost_56 (fun v17 => ?_)
      refine z_iconst (pc := 57) hX dX12_cost_57 ?_
      refine z_icmp_ne (pc := 58) hX 82 dX12_cost_58 (by decide) (fun h18 => ?_) (fun h18 => ?_)
      · refine z_iconst (pc := 82) hX dX12_cost_82 ?_
        refine z_isub (pc := 83) hX dX12_cost_83 ?_
        exact z_iret (pc := 84) hX hR hk dX12_cost_84
      · refine z_aload_n (pc := 61) hX 0 dX12_cost_61 rfl rfl ?_
        refine z_get (pc := 62) hX zc12 42 (by decide) wd1059 rfl rfl dX12_cost_62 (fun v19 => ?_)
        refine z_iload_n (pc := 65) hX 2 dX12_cost_65 rfl rfl ?_
        refine z_iald (pc := 66) hX dX12_cost_66 (fun v20 => ?_)
        refine z_aload_n (pc := 67) hX 0 dX12_cost_67 rfl rfl ?_
        refine z_get (pc := 68) hX zc12 41 (by decide) wd1058 rfl rfl dX12_cost_68 (fun v21 => ?_)
        refine z_iload_n (pc := 71) hX 2 dX12_cost_71 rfl rfl ?_
        refine z_iald (pc := 72) hX dX12_cost_72 (fun v22 => ?_)
        refine z_isub (pc := 73) hX dX12_cost_73 ?_
        refine z_iconst (pc := 74) hX dX12_cost_74 ?_
        refine z_icmp_le (pc := 75) hX 82 dX12_cost_75 (by decide) (fun h23 => ?_) (fun h23 => ?_)
        · refine z_iconst (pc := 82) hX dX12_cost_82 ?_
          refine z_isub (pc := 83) hX dX12_cost_83 ?_
          exact z_iret (pc := 84) hX hR hk dX12_cost_84
        · refine z_iconst (pc := 78) hX dX12_cost_78 ?_
          refine z_goto (pc := 79) hX 83 dX12_cost_79 (by decide) ?_
          refine z_isub (pc := 83) hX dX12_cost_83 ?_
          exact z_iret (pc := 84) hX hR hk dX12_cost_84
    · refine z_sipush (pc := 33) hX dX12_cost_33 ?_
      exact z_iret (pc := 36) hX hR hk dX12_cost_36
  · refine z_aload_n (pc := 11) hX 0 dX12_cost_11 rfl rfl ?_
    refine z_get (pc := 12) hX zc12 4 (by decide) wd1021 rfl rfl dX12_cost_12 (fun v24 => ?_)
    refine z_aload_n (pc := 15) hX 0 dX12_cost_15 rfl rfl ?_
    refine z_get (pc := 16) hX zc12 7 (by decide) wd1024 rfl rfl dX12_cost_16 (fun v25 => ?_)
    refine z_iload_n (pc := 19) hX 2 dX12_cost_19 rfl rfl ?_
    refine z_iald (pc := 20) hX dX12_cost_20 (fun v26 => ?_)
    refine z_iald (pc := 21) hX dX12_cost_21 (fun v27 => ?_)
    exact z_iret (pc := 22) hX hR hk dX12_cost_22

theorem dX12_lost_0 : decode cX12_lost 0 = .ok (.aload_n 0, 1) := by decide +kernel
theorem dX12_lost_1 : decode cX12_lost 1 = .ok (.getfield 112, 3) := by decide +kernel
theorem dX12_lost_4 : decode cX12_lost 4 = .ok (.iload_n 2, 1) := by decide +kernel
theorem dX12_lost_5 : decode cX12_lost 5 = .ok (.iaload, 1) := by decide +kernel
theorem dX12_lost_6 : decode cX12_lost 6 = .ok (.iconst (-1), 1) := by decide +kernel
theorem dX12_lost_7 : decode cX12_lost 7 = .ok (.if_icmp .ne 5, 3) := by decide +kernel
theorem dX12_lost_10 : decode cX12_lost 10 = .ok (.iconst 0, 1) := by decide +kernel
theorem dX12_lost_11 : decode cX12_lost 11 = .ok (.ireturn, 1) := by decide +kernel
theorem dX12_lost_12 : decode cX12_lost 12 = .ok (.aload_n 0, 1) := by decide +kernel
theorem dX12_lost_13 : decode cX12_lost 13 = .ok (.iload_n 1, 1) := by decide +kernel
theorem dX12_lost_14 : decode cX12_lost 14 = .ok (.iload_n 2, 1) := by decide +kernel
theorem dX12_lost_15 : decode cX12_lost 15 = .ok (.invokevirtual 239, 3) := by decide +kernel
theorem dX12_lost_18 : decode cX12_lost 18 = .ok (.aload_n 0, 1) := by decide +kernel
theorem dX12_lost_19 : decode cX12_lost 19 = .ok (.iconst 1, 1) := by decide +kernel
theorem dX12_lost_20 : decode cX12_lost 20 = .ok (.invokevirtual 243, 3) := by decide +kernel
theorem dX12_lost_23 : decode cX12_lost 23 = .ok (.invokestatic 246, 3) := by decide +kernel
theorem dX12_lost_26 : decode cX12_lost 26 = .ok (.ireturn, 1) := by decide +kernel
def fX12_lost (s0 : ZS) (a0 : Int) (a1 : Int) (a2 : Int) : Option (Int × ZS) := (zg s0 12 a0 42).bind (fun v1 => (zal s0 100 v1 a2).bind (fun v2 => if v2 = (-1) then (some (0, s0)) else (zb (zv s0 12 a0 (fX12_names s0 a0 a1 a2)) (fun v4 s5 => zb (zv s5 12 a0 (fX12_worth s5 a0 1)) (fun v7 s8 => zb (fX12_held s8 v7) (fun v10 s11 => some (v10, s11)))))))
set_option maxHeartbeats 4000000 in
set_option maxRecDepth 100000 in
theorem mX12_lost (E : ZE) (hE : zOkE E) (l : Launch) (s0 : ZS) (a0 : Int) (a1 : Int) (a2 : Int) : Ct E l yX12_lost cX12_lost 3 (some .int) 6 [(2, a0), (0, a1), (0, a2)] 1 s0 (fX12_lost s0 a0 a1 a2) := by
  refine Ct.of (by decide) hE (Nat.le_of_ble_eq_true rfl) ?_
  intro X G hX hR hN hXE hXl hxn hk _
  subst hXE
  subst hXl
  have hX : G → ZOk X cX12_lost RX12 6 := hX
  clear hN
  show Zj X G 0 [(0, (2, a0)), (1, (0, a1)), (2, (0, a2))] [] s0 _
  unfold fX12_lost
  refine z_aload_n (pc := 0) hX 0 dX12_lost_0 rfl rfl ?_
  refine z_get (pc := 1) hX zc12 42 (by decide) wd1059 rfl rfl dX12_lost_1 (fun v1 => ?_)
  refine z_iload_n (pc := 4) hX 2 dX12_lost_4 rfl rfl ?_
  refine z_iald (pc := 5) hX dX12_lost_5 (fun v2 => ?_)
  refine z_iconst (pc := 6) hX dX12_lost_6 ?_
  refine z_icmp_ne (pc := 7) hX 12 dX12_lost_7 (by decide) (fun h3 => ?_) (fun h3 => ?_)
  · refine z_aload_n (pc := 12) hX 0 dX12_lost_12 rfl rfl ?_
    refine z_iload_n (pc := 13) hX 1 dX12_lost_13 rfl rfl ?_
    refine z_iload_n (pc := 14) hX 2 dX12_lost_14 rfl rfl ?_
    refine z_callV (n := 2) (st := []) (pc := 15) hX zc12 rfl (fun _ => (mX12_names _ hE _ _ _ _ _)) ⟨wd1304, wd67, wd1307, ⟨by decide, by decide, by decide⟩, by decide⟩ rfl wd1306 wd49 rfl rfl (by decide) (Nat.le_of_ble_eq_true rfl) dX12_lost_15 (fun v4 s5 r6 => ?_)
    show Zj X G 18 [(0, (2, a0)), (1, (0, a1)), (2, (0, a2))] [] _ _
    refine z_aload_n (pc := 18) hX 0 dX12_lost_18 rfl rfl ?_
    refine z_iconst (pc := 19) hX dX12_lost_19 ?_
    refine z_callV (n := 1) (st := []) (pc := 20) hX zc12 rfl (fun _ => (mX12_worth _ hE _ _ _ _)) ⟨wd1312, wd67, wd1315, ⟨by decide, by decide, by decide⟩, by decide⟩ rfl wd1314 wd51 rfl rfl (by decide) (Nat.le_of_ble_eq_true rfl) dX12_lost_20 (fun v7 s8 r9 => ?_)
    show Zj X G 23 [(0, (2, a0)), (1, (0, a1)), (2, (0, a2))] [(0, v7)] _ _
    refine z_callS (n := 1) (st := []) (pc := 23) hX (mX12_held _ hE _ _ _) ⟨wd1319, wd67, wd1321, ⟨by decide, by decide, by decide⟩, by decide⟩ wd1320 rfl rfl (by decide) (Nat.le_of_ble_eq_true rfl) dX12_lost_23 (fun v10 s11 r12 => ?_)
    show Zj X G 26 [(0, (2, a0)), (1, (0, a1)), (2, (0, a2))] [(0, v10)] _ _
    exact z_iret (pc := 26) hX hR hk dX12_lost_26
  · refine z_iconst (pc := 10) hX dX12_lost_10 ?_
    exact z_iret (pc := 11) hX hR hk dX12_lost_11
