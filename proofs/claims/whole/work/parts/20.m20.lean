theorem dX8_amount_0 : decode cX8_amount 0 = .ok (.iconst 0, 1) := by decide +kernel
theorem dX8_amount_1 : decode cX8_amount 1 = .ok (.istore_n 3, 1) := by decide +kernel
theorem dX8_amount_2 : decode cX8_amount 2 = .ok (.iconst 0, 1) := by decide +kernel
theorem dX8_amount_3 : decode cX8_amount 3 = .ok (.istore 4, 2) := by decide +kernel
theorem dX8_amount_5 : decode cX8_amount 5 = .ok (.iload 4, 2) := by decide +kernel
theorem dX8_amount_7 : decode cX8_amount 7 = .ok (.aload_n 0, 1) := by decide +kernel
theorem dX8_amount_8 : decode cX8_amount 8 = .ok (.arraylength, 1) := by decide +kernel
theorem dX8_amount_9 : decode cX8_amount 9 = .ok (.if_icmp .ge 157, 3) := by decide +kernel
theorem dX8_amount_12 : decode cX8_amount 12 = .ok (.aload_n 0, 1) := by decide +kernel
theorem dX8_amount_13 : decode cX8_amount 13 = .ok (.iload 4, 2) := by decide +kernel
theorem dX8_amount_15 : decode cX8_amount 15 = .ok (.iaload, 1) := by decide +kernel
theorem dX8_amount_16 : decode cX8_amount 16 = .ok (.istore 5, 2) := by decide +kernel
theorem dX8_amount_18 : decode cX8_amount 18 = .ok (.iload 5, 2) := by decide +kernel
theorem dX8_amount_20 : decode cX8_amount 20 = .ok (.sipush 10006, 3) := by decide +kernel
theorem dX8_amount_23 : decode cX8_amount 23 = .ok (.if_icmp .ge 7, 3) := by decide +kernel
theorem dX8_amount_26 : decode cX8_amount 26 = .ok (.iconst 0, 1) := by decide +kernel
theorem dX8_amount_27 : decode cX8_amount 27 = .ok (.goto 16, 3) := by decide +kernel
theorem dX8_amount_30 : decode cX8_amount 30 = .ok (.iload 5, 2) := by decide +kernel
theorem dX8_amount_32 : decode cX8_amount 32 = .ok (.sipush 10013, 3) := by decide +kernel
theorem dX8_amount_35 : decode cX8_amount 35 = .ok (.if_icmp .ge 7, 3) := by decide +kernel
theorem dX8_amount_38 : decode cX8_amount 38 = .ok (.iconst 2, 1) := by decide +kernel
theorem dX8_amount_39 : decode cX8_amount 39 = .ok (.goto 4, 3) := by decide +kernel
theorem dX8_amount_42 : decode cX8_amount 42 = .ok (.iconst 1, 1) := by decide +kernel
theorem dX8_amount_43 : decode cX8_amount 43 = .ok (.istore 6, 2) := by decide +kernel
theorem dX8_amount_45 : decode cX8_amount 45 = .ok (.iload_n 3, 1) := by decide +kernel
theorem dX8_amount_46 : decode cX8_amount 46 = .ok (.iload 6, 2) := by decide +kernel
theorem dX8_amount_48 : decode cX8_amount 48 = .ok (.if_icmp .lt 118, 3) := by decide +kernel
theorem dX8_amount_51 : decode cX8_amount 51 = .ok (.iload_n 3, 1) := by decide +kernel
theorem dX8_amount_52 : decode cX8_amount 52 = .ok (.iload 6, 2) := by decide +kernel
theorem dX8_amount_54 : decode cX8_amount 54 = .ok (.isub, 1) := by decide +kernel
theorem dX8_amount_55 : decode cX8_amount 55 = .ok (.aload_n 2, 1) := by decide +kernel
theorem dX8_amount_56 : decode cX8_amount 56 = .ok (.arraylength, 1) := by decide +kernel
theorem dX8_amount_57 : decode cX8_amount 57 = .ok (.if_icmp .lt 6, 3) := by decide +kernel
theorem dX8_amount_60 : decode cX8_amount 60 = .ok (.goto 106, 3) := by decide +kernel
theorem dX8_amount_63 : decode cX8_amount 63 = .ok (.iload_n 3, 1) := by decide +kernel
theorem dX8_amount_64 : decode cX8_amount 64 = .ok (.iload 6, 2) := by decide +kernel
theorem dX8_amount_66 : decode cX8_amount 66 = .ok (.isub, 1) := by decide +kernel
theorem dX8_amount_67 : decode cX8_amount 67 = .ok (.istore_n 3, 1) := by decide +kernel
theorem dX8_amount_68 : decode cX8_amount 68 = .ok (.iload 6, 2) := by decide +kernel
theorem dX8_amount_70 : decode cX8_amount 70 = .ok (.ifCond .ne 30, 3) := by decide +kernel
theorem dX8_amount_73 : decode cX8_amount 73 = .ok (.aload_n 2, 1) := by decide +kernel
theorem dX8_amount_74 : decode cX8_amount 74 = .ok (.iload_n 3, 1) := by decide +kernel
theorem dX8_amount_75 : decode cX8_amount 75 = .ok (.iload 5, 2) := by decide +kernel
theorem dX8_amount_77 : decode cX8_amount 77 = .ok (.sipush 10000, 3) := by decide +kernel
theorem dX8_amount_80 : decode cX8_amount 80 = .ok (.if_icmp .ge 8, 3) := by decide +kernel
theorem dX8_amount_83 : decode cX8_amount 83 = .ok (.iload 5, 2) := by decide +kernel
theorem dX8_amount_85 : decode cX8_amount 85 = .ok (.goto 11, 3) := by decide +kernel
theorem dX8_amount_88 : decode cX8_amount 88 = .ok (.aload_n 1, 1) := by decide +kernel
theorem dX8_amount_89 : decode cX8_amount 89 = .ok (.iload 5, 2) := by decide +kernel
theorem dX8_amount_91 : decode cX8_amount 91 = .ok (.sipush 10000, 3) := by decide +kernel
theorem dX8_amount_94 : decode cX8_amount 94 = .ok (.isub, 1) := by decide +kernel
theorem dX8_amount_95 : decode cX8_amount 95 = .ok (.iaload, 1) := by decide +kernel
theorem dX8_amount_96 : decode cX8_amount 96 = .ok (.iastore, 1) := by decide +kernel
theorem dX8_amount_97 : decode cX8_amount 97 = .ok (.goto 60, 3) := by decide +kernel
theorem dX8_amount_100 : decode cX8_amount 100 = .ok (.iload 6, 2) := by decide +kernel
theorem dX8_amount_102 : decode cX8_amount 102 = .ok (.iconst 2, 1) := by decide +kernel
theorem dX8_amount_103 : decode cX8_amount 103 = .ok (.if_icmp .ne 22, 3) := by decide +kernel
theorem dX8_amount_106 : decode cX8_amount 106 = .ok (.aload_n 2, 1) := by decide +kernel
theorem dX8_amount_107 : decode cX8_amount 107 = .ok (.iload_n 3, 1) := by decide +kernel
theorem dX8_amount_108 : decode cX8_amount 108 = .ok (.iload 5, 2) := by decide +kernel
theorem dX8_amount_110 : decode cX8_amount 110 = .ok (.aload_n 2, 1) := by decide +kernel
theorem dX8_amount_111 : decode cX8_amount 111 = .ok (.iload_n 3, 1) := by decide +kernel
theorem dX8_amount_112 : decode cX8_amount 112 = .ok (.iaload, 1) := by decide +kernel
theorem dX8_amount_113 : decode cX8_amount 113 = .ok (.aload_n 2, 1) := by decide +kernel
theorem dX8_amount_114 : decode cX8_amount 114 = .ok (.iload_n 3, 1) := by decide +kernel
theorem dX8_amount_115 : decode cX8_amount 115 = .ok (.iconst 1, 1) := by decide +kernel
theorem dX8_amount_116 : decode cX8_amount 116 = .ok (.iadd, 1) := by decide +kernel
theorem dX8_amount_117 : decode cX8_amount 117 = .ok (.iaload, 1) := by decide +kernel
theorem dX8_amount_118 : decode cX8_amount 118 = .ok (.invokestatic 16, 3) := by decide +kernel
theorem dX8_amount_121 : decode cX8_amount 121 = .ok (.iastore, 1) := by decide +kernel
theorem dX8_amount_122 : decode cX8_amount 122 = .ok (.goto 35, 3) := by decide +kernel
theorem dX8_amount_125 : decode cX8_amount 125 = .ok (.iload 5, 2) := by decide +kernel
theorem dX8_amount_127 : decode cX8_amount 127 = .ok (.sipush 10013, 3) := by decide +kernel
theorem dX8_amount_130 : decode cX8_amount 130 = .ok (.if_icmp .ne 20, 3) := by decide +kernel
theorem dX8_amount_133 : decode cX8_amount 133 = .ok (.aload_n 2, 1) := by decide +kernel
theorem dX8_amount_134 : decode cX8_amount 134 = .ok (.iload_n 3, 1) := by decide +kernel
theorem dX8_amount_135 : decode cX8_amount 135 = .ok (.aload_n 2, 1) := by decide +kernel
theorem dX8_amount_136 : decode cX8_amount 136 = .ok (.iload_n 3, 1) := by decide +kernel
theorem dX8_amount_137 : decode cX8_amount 137 = .ok (.iaload, 1) := by decide +kernel
theorem dX8_amount_138 : decode cX8_amount 138 = .ok (.ifCond .ne 7, 3) := by decide +kernel
theorem dX8_amount_141 : decode cX8_amount 141 = .ok (.iconst 1, 1) := by decide +kernel
theorem dX8_amount_142 : decode cX8_amount 142 = .ok (.goto 4, 3) := by decide +kernel
theorem dX8_amount_145 : decode cX8_amount 145 = .ok (.iconst 0, 1) := by decide +kernel
theorem dX8_amount_146 : decode cX8_amount 146 = .ok (.iastore, 1) := by decide +kernel
theorem dX8_amount_147 : decode cX8_amount 147 = .ok (.goto 10, 3) := by decide +kernel
theorem dX8_amount_150 : decode cX8_amount 150 = .ok (.aload_n 2, 1) := by decide +kernel
theorem dX8_amount_151 : decode cX8_amount 151 = .ok (.iload_n 3, 1) := by decide +kernel
theorem dX8_amount_152 : decode cX8_amount 152 = .ok (.aload_n 2, 1) := by decide +kernel
theorem dX8_amount_153 : decode cX8_amount 153 = .ok (.iload_n 3, 1) := by decide +kernel
theorem dX8_amount_154 : decode cX8_amount 154 = .ok (.iaload, 1) := by decide +kernel
theorem dX8_amount_155 : decode cX8_amount 155 = .ok (.ineg, 1) := by decide +kernel
theorem dX8_amount_156 : decode cX8_amount 156 = .ok (.iastore, 1) := by decide +kernel
theorem dX8_amount_157 : decode cX8_amount 157 = .ok (.iinc 3 1, 3) := by decide +kernel
theorem dX8_amount_160 : decode cX8_amount 160 = .ok (.iinc 4 1, 3) := by decide +kernel
theorem dX8_amount_163 : decode cX8_amount 163 = .ok (.goto (-158), 3) := by decide +kernel
theorem dX8_amount_166 : decode cX8_amount 166 = .ok (.sipush (-9999), 3) := by decide +kernel
theorem dX8_amount_169 : decode cX8_amount 169 = .ok (.sipush 9999, 3) := by decide +kernel
theorem dX8_amount_172 : decode cX8_amount 172 = .ok (.aload_n 2, 1) := by decide +kernel
theorem dX8_amount_173 : decode cX8_amount 173 = .ok (.iconst 0, 1) := by decide +kernel
theorem dX8_amount_174 : decode cX8_amount 174 = .ok (.iaload, 1) := by decide +kernel
theorem dX8_amount_175 : decode cX8_amount 175 = .ok (.invokestatic 20, 3) := by decide +kernel
theorem dX8_amount_178 : decode cX8_amount 178 = .ok (.invokestatic 26, 3) := by decide +kernel
theorem dX8_amount_181 : decode cX8_amount 181 = .ok (.ireturn, 1) := by decide +kernel
def lX8_amount_5 (u2 u3 u4 : Int) (K166 : ZS → Option (Int × ZS)) : Nat → ZS → Int → Int → Option (Int × ZS)
  | 0, _, _, _ => none
  | n1 + 1, s1, x5, x6 => (zlen s1 100 u2).bind (fun v7 => if v7 ≤ x6 then (K166 s1) else ((zal s1 100 u2 x6).bind (fun v9 => zjn (fun (K43 : ZS → Int → Option (Int × ZS)) => if 10006 ≤ v9 then (if 10013 ≤ v9 then (K43 s1 1) else (K43 s1 2)) else (K43 s1 0)) (fun (s12 : ZS) (w13 : Int) => if x5 < w13 then (K166 s12) else ((zlen s12 100 u4).bind (fun v15 => if (wrap (x5 - w13)) < v15 then (zjn (fun (K157 : ZS → Option (Int × ZS)) => if w13 = 0 then (zjn (fun (K96 : ZS → Int → Option (Int × ZS)) => if 10000 ≤ v9 then ((zal s12 100 u3 (wrap (v9 - 10000))).bind (fun v34 => K96 s12 v34)) else (K96 s12 v9)) (fun (s35 : ZS) (w36 : Int) => (zas s35 100 u4 (wrap (x5 - w13)) w36).bind (fun s37 => K157 s37))) else (if w13 = 2 then ((zal s12 100 u4 (wrap (x5 - w13))).bind (fun v27 => (zal s12 100 u4 (wrap ((wrap (x5 - w13)) + 1))).bind (fun v28 => zb (fX8_joined s12 v9 v27 v28) (fun v29 s30 => (zas s30 100 u4 (wrap (x5 - w13)) v29).bind (fun s32 => K157 s32))))) else (if v9 = 10013 then ((zal s12 100 u4 (wrap (x5 - w13))).bind (fun v22 => zjn (fun (K146 : ZS → Int → Option (Int × ZS)) => if v22 = 0 then (K146 s12 1) else (K146 s12 0)) (fun (s24 : ZS) (w25 : Int) => (zas s24 100 u4 (wrap (x5 - w13)) w25).bind (fun s26 => K157 s26)))) else ((zal s12 100 u4 (wrap (x5 - w13))).bind (fun v20 => (zas s12 100 u4 (wrap (x5 - w13)) (wrap (-v20))).bind (fun s21 => K157 s21)))))) (fun (s38 : ZS) => lX8_amount_5 u2 u3 u4 K166 n1 s38 (wrap ((wrap (x5 - w13)) + 1)) (wrap (x6 + 1)))) else (K166 s12)))))))

def fX8_amount (s0 : ZS) (a0 : Int) (a1 : Int) (a2 : Int) : Option (Int × ZS) := lX8_amount_5 a0 a1 a2 (fun (s40 : ZS) => (zal s40 100 a2 0).bind (fun v41 => some ((imax (-9999) (imin 9999 v41)), s40))) 1000 s0 0 0
set_option maxHeartbeats 4000000 in
set_option maxRecDepth 100000 in
theorem mX8_amount (E : ZE) (hE : zOkE E) (l : Launch) (s0 : ZS) (a0 : Int) (a1 : Int) (a2 : Int) : Ct E l yX8_amount cX8_amount 7 (some .int) 4 [(2, a0), (2, a1), (2, a2)] 1 s0 (fX8_amount s0 a0 a1 a2) := by
  refine Ct.of (by decide) hE (Nat.le_of_ble_eq_true rfl) ?_
  intro X G hX hR hN hXE hXl hxn hk _
  subst hXE
  subst hXl
  have hX : G → ZOk X cX8_amount RX8 4 := hX
  clear hN
  show Zj X G 0 [(0, (2, a0)), (1, (2, a1)), (2, (2, a2))] [] s0 _
  unfold fX8_amount
  refine z_iconst (pc := 0) hX dX8_amount_0 ?_
  refine z_istore_n (lv' := [(3, (0, 0)), (0, (2, a0)), (1, (2, a1)), (2, (2, a2))]) (pc := 1) hX dX8_amount_1 rfl (zlt hxn rfl) rfl ?_
  refine z_iconst (pc := 2) hX dX8_amount_2 ?_
  refine z_istore (lv' := [(4, (0, 0)), (3, (0, 0)), (0, (2, a0)), (1, (2, a1)), (2, (2, a2))]) (pc := 3) hX dX8_amount_3 (zlt hxn rfl) rfl ?_
  have hl5 : ∀ (u2 u3 u4 : Int), ∀ (K166 : ZS → Option (Int × ZS)), (∀ (s39 : ZS), Zj X G 166 [(2, (2, u4))] [] s39 (K166 s39)) → ∀ (n1 : Nat) (s1 : ZS) (x5 x6 : Int), Zj X G 5 [(0, (2, u2)), (1, (2, u3)), (2, (2, u4)), (3, (0, x5)), (4, (0, x6))] [] s1 (lX8_amount_5 u2 u3 u4 K166 n1 s1 x5 x6) := by
    intro u2 u3 u4 K166 hK166 n1
    induction n1 with
    | zero => intro _ _ _; exact z_none
    | succ n1 ih1 =>
      intro s1 x5 x6
      rw [lX8_amount_5]
      refine z_iload (pc := 5) hX 4 dX8_amount_5 rfl ?_
      refine z_aload_n (pc := 7) hX 0 dX8_amount_7 rfl rfl ?_
      refine z_alen (pc := 8) hX dX8_amount_8 (fun v7 => ?_)
      refine z_icmp_ge (pc := 9) hX 166 dX8_amount_9 (by decide) (fun h8 => ?_) (fun h8 => ?_)
      · refine z_pick (lv' := [(2, (2, u4))]) [2] rfl ?_
        exact hK166 _
      · refine z_aload_n (pc := 12) hX 0 dX8_amount_12 rfl rfl ?_
        refine z_iload (pc := 13) hX 4 dX8_amount_13 rfl ?_
        refine z_iald (pc := 15) hX dX8_amount_15 (fun v9 => ?_)
        refine z_istore (lv' := [(5, (0, v9)), (0, (2, u2)), (1, (2, u3)), (2, (2, u4)), (3, (0, x5)), (4, (0, x6))]) (pc := 16) hX dX8_amount_16 (zlt hxn rfl) rfl ?_
        refine z_iload (pc := 18) hX 0 dX8_amount_18 rfl ?_
        refine z_sipush (pc := 20) hX dX8_amount_20 ?_
        refine z_jn (fun K43 eK43 => ?_)
        have hK43 : ∀ (s12 : ZS) (w13 : Int), Zj X G 43 [(0, (2, u2)), (1, (2, u3)), (2, (2, u4)), (3, (0, x5)), (4, (0, x6)), (5, (0, v9))] [(0, w13)] s12 (K43 s12 w13) := by
          intro s12 w13
          rw [eK43]
          refine z_istore (lv' := [(6, (0, w13)), (0, (2, u2)), (1, (2, u3)), (2, (2, u4)), (3, (0, x5)), (4, (0, x6)), (5, (0, v9))]) (pc := 43) hX dX8_amount_43 (zlt hxn rfl) rfl ?_
          refine z_iload_n (pc := 45) hX 4 dX8_amount_45 rfl rfl ?_
          refine z_iload (pc := 46) hX 0 dX8_amount_46 rfl ?_
          refine z_icmp_lt (pc := 48) hX 166 dX8_amount_48 (by decide) (fun h14 => ?_) (fun h14 => ?_)
          · refine z_pick (lv' := [(2, (2, u4))]) [3] rfl ?_
            exact hK166 _
          · refine z_iload_n (pc := 51) hX 4 dX8_amount_51 rfl rfl ?_
            refine z_iload (pc := 52) hX 0 dX8_amount_52 rfl ?_
            refine z_isub (pc := 54) hX dX8_amount_54 ?_
            refine z_aload_n (pc := 55) hX 3 dX8_amount_55 rfl rfl ?_
            refine z_alen (pc := 56) hX dX8_amount_56 (fun v15 => ?_)
            refine z_icmp_lt (pc := 57) hX 63 dX8_amount_57 (by decide) (fun h16 => ?_) (fun h16 => ?_)
            · refine z_iload_n (pc := 63) hX 4 dX8_amount_63 rfl rfl ?_
              refine z_iload (pc := 64) hX 0 dX8_amount_64 rfl ?_
              refine z_isub (pc := 66) hX dX8_amount_66 ?_
              refine z_istore_n (lv' := [(3, (0, (wrap (x5 - w13)))), (6, (0, w13)), (0, (2, u2)), (1, (2, u3)), (2, (2, u4)), (4, (0, x6)), (5, (0, v9))]) (pc := 67) hX dX8_amount_67 rfl (zlt hxn rfl) rfl ?_
              refine z_iload (pc := 68) hX 1 dX8_amount_68 rfl ?_
              refine z_jn (fun K157 eK157 => ?_)
              have hK157 : ∀ (s38 : ZS), Zj X G 157 [(0, (2, u2)), (1, (2, u3)), (2, (2, u4)), (3, (0, (wrap (x5 - w13)))), (4, (0, x6))] [] s38 (K157 s38) := by
                intro s38
                rw [eK157]
                refine z_iinc (lv' := [(3, (0, (wrap ((wrap (x5 - w13)) + 1)))), (0, (2, u2)), (1, (2, u3)), (2, (2, u4)), (4, (0, x6))]) (pc := 157) hX 3 dX8_amount_157 rfl (zlt hxn rfl) rfl ?_
                refine z_iinc (lv' := [(4, (0, (wrap (x6 + 1)))), (3, (0, (wrap ((wrap (x5 - w13)) + 1)))), (0, (2, u2)), (1, (2, u3)), (2, (2, u4))]) (pc := 160) hX 4 dX8_amount_160 rfl (zlt hxn rfl) rfl ?_
                refine z_goto (pc := 163) hX 5 dX8_amount_163 (by decide) ?_
                refine z_pick (lv' := [(0, (2, u2)), (1, (2, u3)), (2, (2, u4)), (3, (0, (wrap ((wrap (x5 - w13)) + 1)))), (4, (0, (wrap (x6 + 1))))]) [2, 3, 4, 1, 0] rfl ?_
                exact ih1 _ _ _
              clear eK157
              refine z_if_ne (pc := 70) hX 100 dX8_amount_70 (by decide) (fun h17 => ?_) (fun h17 => ?_)
              · refine z_iload (pc := 100) hX 1 dX8_amount_100 rfl ?_
                refine z_iconst (pc := 102) hX dX8_amount_102 ?_
                refine z_icmp_ne (pc := 103) hX 125 dX8_amount_103 (by decide) (fun h18 => ?_) (fun h18 => ?_)
                · refine z_iload (pc := 125) hX 6 dX8_amount_125 rfl ?_
                  refine z_sipush (pc := 127) hX dX8_amount_127 ?_
                  refine z_icmp_ne (pc := 130) hX 150 dX8_amount_130 (by decide) (fun h19 => ?_) (fun h19 => ?_)
                  · refine z_aload_n (pc := 150) hX 4 dX8_amount_150 rfl rfl ?_
                    refine z_iload_n (pc := 151) hX 0 dX8_amount_151 rfl rfl ?_
                    refine z_aload_n (pc := 152) hX 4 dX8_amount_152 rfl rfl ?_
                    refine z_iload_n (pc := 153) hX 0 dX8_amount_153 rfl rfl ?_
                    refine z_iald (pc := 154) hX dX8_amount_154 (fun v20 => ?_)
                    refine z_ineg (pc := 155) hX dX8_amount_155 ?_
                    refine z_iastA (pc := 156) hX dX8_amount_156 (fun s21 => ?_)
                    refine z_pick (lv' := [(0, (2, u2)), (1, (2, u3)), (2, (2, u4)), (3, (0, (wrap (x5 - w13)))), (4, (0, x6))]) [2, 3, 4, 0, 5] rfl ?_
                    exact hK157 _
                  · refine z_aload_n (pc := 133) hX 4 dX8_amount_133 rfl rfl ?_
                    refine z_iload_n (pc := 134) hX 0 dX8_amount_134 rfl rfl ?_
                    refine z_aload_n (pc := 135) hX 4 dX8_amount_135 rfl rfl ?_
                    refine z_iload_n (pc := 136) hX 0 dX8_amount_136 rfl rfl ?_
                    refine z_iald (pc := 137) hX dX8_amount_137 (fun v22 => ?_)
                    refine z_jn (fun K146 eK146 => ?_)
                    have hK146 : ∀ (s24 : ZS) (w25 : Int), Zj X G 146 [(0, (2, u2)), (1, (2, u3)), (2, (2, u4)), (3, (0, (wrap (x5 - w13)))), (4, (0, x6))] [(0, w25), (0, (wrap (x5 - w13))), (2, u4)] s24 (K146 s24 w25) := by
                      intro s24 w25
                      rw [eK146]
                      refine z_iastA (pc := 146) hX dX8_amount_146 (fun s26 => ?_)
                      refine z_goto (pc := 147) hX 157 dX8_amount_147 (by decide) ?_
                      exact hK157 _
                    clear eK146
                    refine z_if_ne (pc := 138) hX 145 dX8_amount_138 (by decide) (fun h23 => ?_) (fun h23 => ?_)
                    · refine z_iconst (pc := 145) hX dX8_amount_145 ?_
                      refine z_pick (lv' := [(0, (2, u2)), (1, (2, u3)), (2, (2, u4)), (3, (0, (wrap (x5 - w13)))), (4, (0, x6))]) [2, 3, 4, 0, 5] rfl ?_
                      exact hK146 _ _
                    · refine z_iconst (pc := 141) hX dX8_amount_141 ?_
                      refine z_goto (pc := 142) hX 146 dX8_amount_142 (by decide) ?_
                      refine z_pick (lv' := [(0, (2, u2)), (1, (2, u3)), (2, (2, u4)), (3, (0, (wrap (x5 - w13)))), (4, (0, x6))]) [2, 3, 4, 0, 5] rfl ?_
                      exact hK146 _ _
                · refine z_aload_n (pc := 106) hX 4 dX8_amount_106 rfl rfl ?_
                  refine z_iload_n (pc := 107) hX 0 dX8_amount_107 rfl rfl ?_
                  refine z_iload (pc := 108) hX 6 dX8_amount_108 rfl ?_
                  refine z_aload_n (pc := 110) hX 4 dX8_amount_110 rfl rfl ?_
                  refine z_iload_n (pc := 111) hX 0 dX8_amount_111 rfl rfl ?_
                  refine z_iald (pc := 112) hX dX8_amount_112 (fun v27 => ?_)
                  refine z_aload_n (pc := 113) hX 4 dX8_amount_113 rfl rfl ?_
                  refine z_iload_n (pc := 114) hX 0 dX8_amount_114 rfl rfl ?_
                  refine z_iconst (pc := 115) hX dX8_amount_115 ?_
                  refine z_iadd (pc := 116) hX dX8_amount_116 ?_
                  refine z_iald (pc := 117) hX dX8_amount_117 (fun v28 => ?_)
                  refine z_callS (n := 3) (st := [(0, (wrap (x5 - w13))), (2, u4)]) (pc := 118) hX (mX8_joined _ hE _ _ _ _ _) ⟨wd804, wd65, wd806, ⟨by decide, by decide, by decide⟩, by decide⟩ wd805 rfl rfl (by decide) (Nat.le_of_ble_eq_true rfl) dX8_amount_118 (fun v29 s30 r31 => ?_)
                  show Zj X G 121 [(3, (0, (wrap (x5 - w13)))), (6, (0, w13)), (0, (2, u2)), (1, (2, u3)), (2, (2, u4)), (4, (0, x6)), (5, (0, v9))] [(0, v29), (0, (wrap (x5 - w13))), (2, u4)] _ _
                  refine z_iastA (pc := 121) hX dX8_amount_121 (fun s32 => ?_)
                  refine z_goto (pc := 122) hX 157 dX8_amount_122 (by decide) ?_
                  refine z_pick (lv' := [(0, (2, u2)), (1, (2, u3)), (2, (2, u4)), (3, (0, (wrap (x5 - w13)))), (4, (0, x6))]) [2, 3, 4, 0, 5] rfl ?_
                  exact hK157 _
              · refine z_aload_n (pc := 73) hX 4 dX8_amount_73 rfl rfl ?_
                refine z_iload_n (pc := 74) hX 0 dX8_amount_74 rfl rfl ?_
                refine z_iload (pc := 75) hX 6 dX8_amount_75 rfl ?_
                refine z_sipush (pc := 77) hX dX8_amount_77 ?_
                refine z_jn (fun K96 eK96 => ?_)
                have hK96 : ∀ (s35 : ZS) (w36 : Int), Zj X G 96 [(0, (2, u2)), (1, (2, u3)), (2, (2, u4)), (3, (0, (wrap (x5 - w13)))), (4, (0, x6))] [(0, w36), (0, (wrap (x5 - w13))), (2, u4)] s35 (K96 s35 w36) := by
                  intro s35 w36
                  rw [eK96]
                  refine z_iastA (pc := 96) hX dX8_amount_96 (fun s37 => ?_)
                  refine z_goto (pc := 97) hX 157 dX8_amount_97 (by decide) ?_
                  exact hK157 _
                clear eK96
                refine z_icmp_ge (pc := 80) hX 88 dX8_amount_80 (by decide) (fun h33 => ?_) (fun h33 => ?_)
                · refine z_aload_n (pc := 88) hX 3 dX8_amount_88 rfl rfl ?_
                  refine z_iload (pc := 89) hX 6 dX8_amount_89 rfl ?_
                  refine z_sipush (pc := 91) hX dX8_amount_91 ?_
                  refine z_isub (pc := 94) hX dX8_amount_94 ?_
                  refine z_iald (pc := 95) hX dX8_amount_95 (fun v34 => ?_)
                  refine z_pick (lv' := [(0, (2, u2)), (1, (2, u3)), (2, (2, u4)), (3, (0, (wrap (x5 - w13)))), (4, (0, x6))]) [2, 3, 4, 0, 5] rfl ?_
                  exact hK96 _ _
                · refine z_iload (pc := 83) hX 6 dX8_amount_83 rfl ?_
                  refine z_goto (pc := 85) hX 96 dX8_amount_85 (by decide) ?_
                  refine z_pick (lv' := [(0, (2, u2)), (1, (2, u3)), (2, (2, u4)), (3, (0, (wrap (x5 - w13)))), (4, (0, x6))]) [2, 3, 4, 0, 5] rfl ?_
                  exact hK96 _ _
            · refine z_goto (pc := 60) hX 166 dX8_amount_60 (by decide) ?_
              refine z_pick (lv' := [(2, (2, u4))]) [3] rfl ?_
              exact hK166 _
        clear eK43
        refine z_icmp_ge (pc := 23) hX 30 dX8_amount_23 (by decide) (fun h10 => ?_) (fun h10 => ?_)
        · refine z_iload (pc := 30) hX 0 dX8_amount_30 rfl ?_
          refine z_sipush (pc := 32) hX dX8_amount_32 ?_
          refine z_icmp_ge (pc := 35) hX 42 dX8_amount_35 (by decide) (fun h11 => ?_) (fun h11 => ?_)
          · refine z_iconst (pc := 42) hX dX8_amount_42 ?_
            refine z_pick (lv' := [(0, (2, u2)), (1, (2, u3)), (2, (2, u4)), (3, (0, x5)), (4, (0, x6)), (5, (0, v9))]) [1, 2, 3, 4, 5, 0] rfl ?_
            exact hK43 _ _
          · refine z_iconst (pc := 38) hX dX8_amount_38 ?_
            refine z_goto (pc := 39) hX 43 dX8_amount_39 (by decide) ?_
            refine z_pick (lv' := [(0, (2, u2)), (1, (2, u3)), (2, (2, u4)), (3, (0, x5)), (4, (0, x6)), (5, (0, v9))]) [1, 2, 3, 4, 5, 0] rfl ?_
            exact hK43 _ _
        · refine z_iconst (pc := 26) hX dX8_amount_26 ?_
          refine z_goto (pc := 27) hX 43 dX8_amount_27 (by decide) ?_
          refine z_pick (lv' := [(0, (2, u2)), (1, (2, u3)), (2, (2, u4)), (3, (0, x5)), (4, (0, x6)), (5, (0, v9))]) [1, 2, 3, 4, 5, 0] rfl ?_
          exact hK43 _ _
  refine z_pick (lv' := [(0, (2, a0)), (1, (2, a1)), (2, (2, a2)), (3, (0, 0)), (4, (0, 0))]) [2, 3, 4, 1, 0] rfl ?_
  refine hl5 _ _ _ _ (fun s40 => ?_) 1000 _ _ _
  refine z_sipush (pc := 166) hX dX8_amount_166 ?_
  refine z_sipush (pc := 169) hX dX8_amount_169 ?_
  refine z_aload_n (pc := 172) hX 0 dX8_amount_172 rfl rfl ?_
  refine z_iconst (pc := 173) hX dX8_amount_173 ?_
  refine z_iald (pc := 174) hX dX8_amount_174 (fun v41 => ?_)
  refine z_min (st := [(0, (-9999))]) (pc := 175) hX (by decide) wd807 wd471 wd72 wd472 (Nat.le_of_ble_eq_true rfl) dX8_amount_175 ?_
  refine z_max (st := []) (pc := 178) hX (by decide) wd808 wd468 wd72 wd469 (Nat.le_of_ble_eq_true rfl) dX8_amount_178 ?_
  exact z_iret (pc := 181) hX hR hk dX8_amount_181

theorem dX10_spared_0 : decode cX10_spared 0 = .ok (.iconst 0, 1) := by decide +kernel
theorem dX10_spared_1 : decode cX10_spared 1 = .ok (.ireturn, 1) := by decide +kernel
def fX10_spared (s0 : ZS) (a0 : Int) (a1 : Int) : Option (Int × ZS) := some (0, s0)
set_option maxHeartbeats 4000000 in
set_option maxRecDepth 100000 in
theorem mX10_spared (E : ZE) (hE : zOkE E) (l : Launch) (s0 : ZS) (a0 : Int) (a1 : Int) : Ct E l yX10_spared cX10_spared 2 (some .int) 2 [(2, a0), (0, a1)] 1 s0 (fX10_spared s0 a0 a1) := by
  refine Ct.of (by decide) hE (Nat.le_of_ble_eq_true rfl) ?_
  intro X G hX hR hN hXE hXl hxn hk _
  subst hXE
  subst hXl
  have hX : G → ZOk X cX10_spared RX10 2 := hX
  clear hN
  show Zj X G 0 [(0, (2, a0)), (1, (0, a1))] [] s0 _
  unfold fX10_spared
  refine z_iconst (pc := 0) hX dX10_spared_0 ?_
  exact z_iret (pc := 1) hX hR hk dX10_spared_1

theorem dX1_spared_0 : decode cX1_spared 0 = .ok (.iload_n 1, 1) := by decide +kernel
theorem dX1_spared_1 : decode cX1_spared 1 = .ok (.iconst 4, 1) := by decide +kernel
theorem dX1_spared_2 : decode cX1_spared 2 = .ok (.if_icmp .le 7, 3) := by decide +kernel
theorem dX1_spared_5 : decode cX1_spared 5 = .ok (.iconst 2, 1) := by decide +kernel
theorem dX1_spared_6 : decode cX1_spared 6 = .ok (.goto 4, 3) := by decide +kernel
theorem dX1_spared_9 : decode cX1_spared 9 = .ok (.iconst 0, 1) := by decide +kernel
theorem dX1_spared_10 : decode cX1_spared 10 = .ok (.ireturn, 1) := by decide +kernel
def fX1_spared (s0 : ZS) (a0 : Int) (a1 : Int) : Option (Int × ZS) := if a1 ≤ 4 then (some (0, s0)) else (some (2, s0))
set_option maxHeartbeats 4000000 in
set_option maxRecDepth 100000 in
theorem mX1_spared (E : ZE) (hE : zOkE E) (l : Launch) (s0 : ZS) (a0 : Int) (a1 : Int) : Ct E l yX1_spared cX1_spared 2 (some .int) 2 [(2, a0), (0, a1)] 1 s0 (fX1_spared s0 a0 a1) := by
  refine Ct.of (by decide) hE (Nat.le_of_ble_eq_true rfl) ?_
  intro X G hX hR hN hXE hXl hxn hk _
  subst hXE
  subst hXl
  have hX : G → ZOk X cX1_spared RX1 2 := hX
  clear hN
  show Zj X G 0 [(0, (2, a0)), (1, (0, a1))] [] s0 _
  unfold fX1_spared
  refine z_iload_n (pc := 0) hX 1 dX1_spared_0 rfl rfl ?_
  refine z_iconst (pc := 1) hX dX1_spared_1 ?_
  refine z_icmp_le (pc := 2) hX 9 dX1_spared_2 (by decide) (fun h1 => ?_) (fun h1 => ?_)
  · refine z_iconst (pc := 9) hX dX1_spared_9 ?_
    exact z_iret (pc := 10) hX hR hk dX1_spared_10
  · refine z_iconst (pc := 5) hX dX1_spared_5 ?_
    refine z_goto (pc := 6) hX 10 dX1_spared_6 (by decide) ?_
    exact z_iret (pc := 10) hX hR hk dX1_spared_10

theorem dX2_cost_0 : decode cX2_cost 0 = .ok (.iload_n 3, 1) := by decide +kernel
theorem dX2_cost_1 : decode cX2_cost 1 = .ok (.bipush 48, 2) := by decide +kernel
theorem dX2_cost_3 : decode cX2_cost 3 = .ok (.if_icmp .ne 21, 3) := by decide +kernel
theorem dX2_cost_6 : decode cX2_cost 6 = .ok (.aload_n 0, 1) := by decide +kernel
theorem dX2_cost_7 : decode cX2_cost 7 = .ok (.getfield 12, 3) := by decide +kernel
theorem dX2_cost_10 : decode cX2_cost 10 = .ok (.getfield 106, 3) := by decide +kernel
theorem dX2_cost_13 : decode cX2_cost 13 = .ok (.aload_n 0, 1) := by decide +kernel
theorem dX2_cost_14 : decode cX2_cost 14 = .ok (.getfield 12, 3) := by decide +kernel
theorem dX2_cost_17 : decode cX2_cost 17 = .ok (.getfield 83, 3) := by decide +kernel
theorem dX2_cost_20 : decode cX2_cost 20 = .ok (.iload_n 2, 1) := by decide +kernel
theorem dX2_cost_21 : decode cX2_cost 21 = .ok (.iaload, 1) := by decide +kernel
theorem dX2_cost_22 : decode cX2_cost 22 = .ok (.iaload, 1) := by decide +kernel
theorem dX2_cost_23 : decode cX2_cost 23 = .ok (.ireturn, 1) := by decide +kernel
theorem dX2_cost_24 : decode cX2_cost 24 = .ok (.iload 5, 2) := by decide +kernel
theorem dX2_cost_26 : decode cX2_cost 26 = .ok (.iconst (-1), 1) := by decide +kernel
theorem dX2_cost_27 : decode cX2_cost 27 = .ok (.if_icmp .ne 7, 3) := by decide +kernel
theorem dX2_cost_30 : decode cX2_cost 30 = .ok (.sipush 5000, 3) := by decide +kernel
theorem dX2_cost_33 : decode cX2_cost 33 = .ok (.ireturn, 1) := by decide +kernel
theorem dX2_cost_34 : decode cX2_cost 34 = .ok (.aload_n 0, 1) := by decide +kernel
theorem dX2_cost_35 : decode cX2_cost 35 = .ok (.iload_n 2, 1) := by decide +kernel
theorem dX2_cost_36 : decode cX2_cost 36 = .ok (.iload 4, 2) := by decide +kernel
theorem dX2_cost_38 : decode cX2_cost 38 = .ok (.iload 5, 2) := by decide +kernel
theorem dX2_cost_40 : decode cX2_cost 40 = .ok (.aload_n 1, 1) := by decide +kernel
theorem dX2_cost_41 : decode cX2_cost 41 = .ok (.aload_n 0, 1) := by decide +kernel
theorem dX2_cost_42 : decode cX2_cost 42 = .ok (.getfield 12, 3) := by decide +kernel
theorem dX2_cost_45 : decode cX2_cost 45 = .ok (.getfield 109, 3) := by decide +kernel
theorem dX2_cost_48 : decode cX2_cost 48 = .ok (.iload_n 3, 1) := by decide +kernel
theorem dX2_cost_49 : decode cX2_cost 49 = .ok (.bipush 24, 2) := by decide +kernel
theorem dX2_cost_51 : decode cX2_cost 51 = .ok (.idiv, 1) := by decide +kernel
theorem dX2_cost_52 : decode cX2_cost 52 = .ok (.aaload, 1) := by decide +kernel
theorem dX2_cost_53 : decode cX2_cost 53 = .ok (.iload 5, 2) := by decide +kernel
theorem dX2_cost_55 : decode cX2_cost 55 = .ok (.iaload, 1) := by decide +kernel
theorem dX2_cost_56 : decode cX2_cost 56 = .ok (.invokevirtual 112, 3) := by decide +kernel
theorem dX2_cost_59 : decode cX2_cost 59 = .ok (.invokevirtual 115, 3) := by decide +kernel
theorem dX2_cost_62 : decode cX2_cost 62 = .ok (.aload 6, 2) := by decide +kernel
theorem dX2_cost_64 : decode cX2_cost 64 = .ok (.getfield 119, 3) := by decide +kernel
theorem dX2_cost_67 : decode cX2_cost 67 = .ok (.aload_n 0, 1) := by decide +kernel
theorem dX2_cost_68 : decode cX2_cost 68 = .ok (.getfield 48, 3) := by decide +kernel
theorem dX2_cost_71 : decode cX2_cost 71 = .ok (.aload_n 0, 1) := by decide +kernel
theorem dX2_cost_72 : decode cX2_cost 72 = .ok (.getfield 51, 3) := by decide +kernel
theorem dX2_cost_75 : decode cX2_cost 75 = .ok (.invokestatic 121, 3) := by decide +kernel
theorem dX2_cost_78 : decode cX2_cost 78 = .ok (.aload_n 1, 1) := by decide +kernel
theorem dX2_cost_79 : decode cX2_cost 79 = .ok (.iload 5, 2) := by decide +kernel
theorem dX2_cost_81 : decode cX2_cost 81 = .ok (.iload 4, 2) := by decide +kernel
theorem dX2_cost_83 : decode cX2_cost 83 = .ok (.isub, 1) := by decide +kernel
theorem dX2_cost_84 : decode cX2_cost 84 = .ok (.invokevirtual 125, 3) := by decide +kernel
theorem dX2_cost_87 : decode cX2_cost 87 = .ok (.isub, 1) := by decide +kernel
theorem dX2_cost_88 : decode cX2_cost 88 = .ok (.ireturn, 1) := by decide +kernel
def fX2_cost (s0 : ZS) (a0 : Int) (a1 : Int) (a2 : Int) (a3 : Int) (a4 : Int) (a5 : Int) (a6 : Int) : Option (Int × ZS) := if a3 = 48 then ((zg s0 2 a0 0).bind (fun v24 => (zg s0 5 v24 4).bind (fun v25 => (zg s0 2 a0 0).bind (fun v26 => (zg s0 5 v26 6).bind (fun v27 => (zal s0 100 v27 a2).bind (fun v28 => (zal s0 100 v25 v28).bind (fun v29 => some (v29, s0)))))))) else (if a5 = (-1) then (some (5000, s0)) else ((zg s0 2 a0 0).bind (fun v3 => (zg s0 5 v3 1).bind (fun v4 => if 24 = 0 then none else ((zal s0 102 v4 (wrap (a3.tdiv 24))).bind (fun v5 => (zal s0 100 v5 a5).bind (fun v6 => zb (zw s0 a1 (fX10_paid s0 a1 v6) (fX9_paid s0 a1 v6) (fX10_paid s0 a1 v6) (fX10_paid s0 a1 v6) (fX10_paid s0 a1 v6) (fX7_paid s0 a1 v6)) (fun v7 s8 => zb (zv s8 2 a0 (fX2_learn s8 a0 a2 a4 a5 v7)) (fun v11 s12 => (zg s12 8 a6 0).bind (fun v14 => (zg s12 2 a0 9).bind (fun v15 => (zg s12 2 a0 10).bind (fun v16 => zb (fX8_amount s12 v14 v15 v16) (fun v17 s18 => zb (zw s18 a1 (fX10_spared s18 a1 (wrap (a5 - a4))) (fX10_spared s18 a1 (wrap (a5 - a4))) (fX10_spared s18 a1 (wrap (a5 - a4))) (fX10_spared s18 a1 (wrap (a5 - a4))) (fX1_spared s18 a1 (wrap (a5 - a4))) (fX10_spared s18 a1 (wrap (a5 - a4)))) (fun v20 s21 => some ((wrap (v17 - v20)), s21)))))))))))))))
set_option maxHeartbeats 4000000 in
set_option maxRecDepth 100000 in
theorem mX2_cost (E : ZE) (hE : zOkE E) (l : Launch) (s0 : ZS) (a0 : Int) (a1 : Int) (a2 : Int) (a3 : Int) (a4 : Int) (a5 : Int) (a6 : Int) : Ct E l yX2_cost cX2_cost 7 (some .int) 6 [(2, a0), (2, a1), (0, a2), (0, a3), (0, a4), (0, a5), (2, a6)] 1 s0 (fX2_cost s0 a0 a1 a2 a3 a4 a5 a6) := by
  refine Ct.of (by decide) hE (Nat.le_of_ble_eq_true rfl) ?_
  intro X G hX hR hN hXE hXl hxn hk _
  subst hXE
  subst hXl
  have hX : G → ZOk X cX2_cost RX2 6 := hX
  clear hN
  show Zj X G 0 [(0, (2, a0)), (1, (2, a1)), (2, (0, a2)), (3, (0, a3)), (4, (0, a4)), (5, (0, a5)), (6, (2, a6))] [] s0 _
  unfold fX2_cost
  refine z_iload_n (pc := 0) hX 3 dX2_cost_0 rfl rfl ?_
  refine z_bipush (pc := 1) hX dX2_cost_1 ?_
  refine z_icmp_ne (pc := 3) hX 24 dX2_cost_3 (by decide) (fun h1 => ?_) (fun h1 => ?_)
  · refine z_iload (pc := 24) hX 5 dX2_cost_24 rfl ?_
    refine z_iconst (pc := 26) hX dX2_cost_26 ?_
    refine z_icmp_ne (pc := 27) hX 34 dX2_cost_27 (by decide) (fun h2 => ?_) (fun h2 => ?_)
    · refine z_aload_n (pc := 34) hX 0 dX2_cost_34 rfl rfl ?_
      refine z_iload_n (pc := 35) hX 2 dX2_cost_35 rfl rfl ?_
      refine z_iload (pc := 36) hX 4 dX2_cost_36 rfl ?_
      refine z_iload (pc := 38) hX 5 dX2_cost_38 rfl ?_
      refine z_aload_n (pc := 40) hX 1 dX2_cost_40 rfl rfl ?_
      refine z_aload_n (pc := 41) hX 0 dX2_cost_41 rfl rfl ?_
      refine z_get (pc := 42) hX zc2 0 (by decide) wd151 rfl rfl dX2_cost_42 (fun v3 => ?_)
      refine z_get (pc := 45) hX zc5 1 (by decide) wd110 rfl rfl dX2_cost_45 (fun v4 => ?_)
      refine z_iload_n (pc := 48) hX 3 dX2_cost_48 rfl rfl ?_
      refine z_bipush (pc := 49) hX dX2_cost_49 ?_
      refine z_idiv (pc := 51) hX dX2_cost_51 (fun _ => ?_)
      refine z_aald (pc := 52) hX 2 102 (by decide) rfl rfl dX2_cost_52 (fun v5 => ?_)
      refine z_iload (pc := 53) hX 5 dX2_cost_53 rfl ?_
      refine z_iald (pc := 55) hX dX2_cost_55 (fun v6 => ?_)
      refine z_kk (rk := 1) (st := [(0, a5), (0, a4), (0, a2), (2, a0)]) (pc' := 59) (fun kk => z_zw (z_callV (n := 1) (pc := 56) (st := [(0, a5), (0, a4), (0, a2), (2, a0)]) hX zc10 rfl (fun _ => (mX10_paid _ hE _ _ _ _)) ⟨wd780, wd76, wd794, ⟨by decide, by decide, by decide⟩, by decide⟩ rfl wd781 wd782 rfl rfl (by decide) (Nat.le_of_ble_eq_true rfl) dX2_cost_56 kk) (z_callU (n := 1) (pc := 56) (x := yX10_paid) (owner := "GateRoad$Way") (st := [(0, a5), (0, a4), (0, a2), (2, a0)]) hX zc9 rfl (fun _ => (mX9_paid _ hE _ _ _ _)) wd780 wd783 wd781 wd793 wd791 wd77 wd792 wd794 ⟨by decide, by decide, by decide⟩ (by decide) rfl rfl (by decide) (Nat.le_of_ble_eq_true rfl) dX2_cost_56 kk) (z_callU (n := 1) (pc := 56) (x := yX10_paid) (owner := "GateRoad$Way") (st := [(0, a5), (0, a4), (0, a2), (2, a0)]) hX zc3 rfl (fun _ => (mX10_paid _ hE _ _ _ _)) wd780 wd783 wd781 wd786 wd781 wd76 wd794 wd794 ⟨by decide, by decide, by decide⟩ (by decide) rfl rfl (by decide) (Nat.le_of_ble_eq_true rfl) dX2_cost_56 kk) (z_callU (n := 1) (pc := 56) (x := yX10_paid) (owner := "GateRoad$Way") (st := [(0, a5), (0, a4), (0, a2), (2, a0)]) hX zc0 rfl (fun _ => (mX10_paid _ hE _ _ _ _)) wd780 wd783 wd781 wd784 wd781 wd76 wd794 wd794 ⟨by decide, by decide, by decide⟩ (by decide) rfl rfl (by decide) (Nat.le_of_ble_eq_true rfl) dX2_cost_56 kk) (z_callU (n := 1) (pc := 56) (x := yX10_paid) (owner := "GateRoad$Way") (st := [(0, a5), (0, a4), (0, a2), (2, a0)]) hX zc1 rfl (fun _ => (mX10_paid _ hE _ _ _ _)) wd780 wd783 wd781 wd785 wd781 wd76 wd794 wd794 ⟨by decide, by decide, by decide⟩ (by decide) rfl rfl (by decide) (Nat.le_of_ble_eq_true rfl) dX2_cost_56 kk) (z_callU (n := 1) (pc := 56) (x := yX10_paid) (owner := "GateRoad$Way") (st := [(0, a5), (0, a4), (0, a2), (2, a0)]) hX zc7 rfl (fun _ => (mX7_paid _ hE _ _ _ _)) wd780 wd783 wd781 wd787 wd788 wd81 wd789 wd794 ⟨by decide, by decide, by decide⟩ (by decide) rfl rfl (by decide) (Nat.le_of_ble_eq_true rfl) dX2_cost_56 kk)) (fun v7 s8 r9 => ?_)
      show Zj X G 59 [(0, (2, a0)), (1, (2, a1)), (2, (0, a2)), (3, (0, a3)), (4, (0, a4)), (5, (0, a5)), (6, (2, a6))] [(0, v7), (0, a5), (0, a4), (0, a2), (2, a0)] _ _
      refine z_callV (n := 4) (st := []) (pc := 59) hX zc2 rfl (fun _ => (mX2_learn _ hE _ _ _ _ _ _ _)) ⟨wd795, wd62, wd798, ⟨by decide, by decide, by decide⟩, by decide⟩ rfl wd797 wd23 rfl rfl (by decide) (Nat.le_of_ble_eq_true rfl) dX2_cost_59 (fun v11 s12 r13 => ?_)
      show Zj X G 62 [(0, (2, a0)), (1, (2, a1)), (2, (0, a2)), (3, (0, a3)), (4, (0, a4)), (5, (0, a5)), (6, (2, a6))] [] _ _
      refine z_aload (pc := 62) hX 6 dX2_cost_62 rfl ?_
      refine z_get (pc := 64) hX zc8 0 (by decide) wd244 rfl rfl dX2_cost_64 (fun v14 => ?_)
      refine z_aload_n (pc := 67) hX 0 dX2_cost_67 rfl rfl ?_
      refine z_get (pc := 68) hX zc2 9 (by decide) wd165 rfl rfl dX2_cost_68 (fun v15 => ?_)
      refine z_aload_n (pc := 71) hX 0 dX2_cost_71 rfl rfl ?_
      refine z_get (pc := 72) hX zc2 10 (by decide) wd166 rfl rfl dX2_cost_72 (fun v16 => ?_)
      refine z_callS (n := 3) (st := []) (pc := 75) hX (mX8_amount _ hE _ _ _ _ _) ⟨wd801, wd65, wd803, ⟨by decide, by decide, by decide⟩, by decide⟩ wd802 rfl rfl (by decide) (Nat.le_of_ble_eq_true rfl) dX2_cost_75 (fun v17 s18 r19 => ?_)
      show Zj X G 78 [(0, (2, a0)), (1, (2, a1)), (2, (0, a2)), (3, (0, a3)), (4, (0, a4)), (5, (0, a5)), (6, (2, a6))] [(0, v17)] _ _
      refine z_aload_n (pc := 78) hX 1 dX2_cost_78 rfl rfl ?_
      refine z_iload (pc := 79) hX 5 dX2_cost_79 rfl ?_
      refine z_iload (pc := 81) hX 4 dX2_cost_81 rfl ?_
      refine z_isub (pc := 83) hX dX2_cost_83 ?_
      refine z_kk (rk := 1) (st := [(0, v17)]) (pc' := 87) (fun kk => z_zw (z_callV (n := 1) (pc := 84) (st := [(0, v17)]) hX zc10 rfl (fun _ => (mX10_spared _ hE _ _ _ _)) ⟨wd809, wd76, wd820, ⟨by decide, by decide, by decide⟩, by decide⟩ rfl wd810 wd811 rfl rfl (by decide) (Nat.le_of_ble_eq_true rfl) dX2_cost_84 kk) (z_callU (n := 1) (pc := 84) (x := yX10_spared) (owner := "GateRoad$Way") (st := [(0, v17)]) hX zc9 rfl (fun _ => (mX10_spared _ hE _ _ _ _)) wd809 wd812 wd810 wd819 wd810 wd76 wd820 wd820 ⟨by decide, by decide, by decide⟩ (by decide) rfl rfl (by decide) (Nat.le_of_ble_eq_true rfl) dX2_cost_84 kk) (z_callU (n := 1) (pc := 84) (x := yX10_spared) (owner := "GateRoad$Way") (st := [(0, v17)]) hX zc3 rfl (fun _ => (mX10_spared _ hE _ _ _ _)) wd809 wd812 wd810 wd817 wd810 wd76 wd820 wd820 ⟨by decide, by decide, by decide⟩ (by decide) rfl rfl (by decide) (Nat.le_of_ble_eq_true rfl) dX2_cost_84 kk) (z_callU (n := 1) (pc := 84) (x := yX10_spared) (owner := "GateRoad$Way") (st := [(0, v17)]) hX zc0 rfl (fun _ => (mX10_spared _ hE _ _ _ _)) wd809 wd812 wd810 wd813 wd810 wd76 wd820 wd820 ⟨by decide, by decide, by decide⟩ (by decide) rfl rfl (by decide) (Nat.le_of_ble_eq_true rfl) dX2_cost_84 kk) (z_callU (n := 1) (pc := 84) (x := yX10_spared) (owner := "GateRoad$Way") (st := [(0, v17)]) hX zc1 rfl (fun _ => (mX1_spared _ hE _ _ _ _)) wd809 wd812 wd810 wd814 wd815 wd80 wd816 wd820 ⟨by decide, by decide, by decide⟩ (by decide) rfl rfl (by decide) (Nat.le_of_ble_eq_true rfl) dX2_cost_84 kk) (z_callU (n := 1) (pc := 84) (x := yX10_spared) (owner := "GateRoad$Way") (st := [(0, v17)]) hX zc7 rfl (fun _ => (mX10_spared _ hE _ _ _ _)) wd809 wd812 wd810 wd818 wd810 wd76 wd820 wd820 ⟨by decide, by decide, by decide⟩ (by decide) rfl rfl (by decide) (Nat.le_of_ble_eq_true rfl) dX2_cost_84 kk)) (fun v20 s21 r22 => ?_)
      show Zj X G 87 [(0, (2, a0)), (1, (2, a1)), (2, (0, a2)), (3, (0, a3)), (4, (0, a4)), (5, (0, a5)), (6, (2, a6))] [(0, v20), (0, v17)] _ _
      refine z_isub (pc := 87) hX dX2_cost_87 ?_
      exact z_iret (pc := 88) hX hR hk dX2_cost_88
    · refine z_sipush (pc := 30) hX dX2_cost_30 ?_
      exact z_iret (pc := 33) hX hR hk dX2_cost_33
  · refine z_aload_n (pc := 6) hX 0 dX2_cost_6 rfl rfl ?_
    refine z_get (pc := 7) hX zc2 0 (by decide) wd151 rfl rfl dX2_cost_7 (fun v24 => ?_)
    refine z_get (pc := 10) hX zc5 4 (by decide) wd119 rfl rfl dX2_cost_10 (fun v25 => ?_)
    refine z_aload_n (pc := 13) hX 0 dX2_cost_13 rfl rfl ?_
    refine z_get (pc := 14) hX zc2 0 (by decide) wd151 rfl rfl dX2_cost_14 (fun v26 => ?_)
    refine z_get (pc := 17) hX zc5 6 (by decide) wd123 rfl rfl dX2_cost_17 (fun v27 => ?_)
    refine z_iload_n (pc := 20) hX 2 dX2_cost_20 rfl rfl ?_
    refine z_iald (pc := 21) hX dX2_cost_21 (fun v28 => ?_)
    refine z_iald (pc := 22) hX dX2_cost_22 (fun v29 => ?_)
    exact z_iret (pc := 23) hX hR hk dX2_cost_23

theorem dX2_costOf_0 : decode cX2_costOf 0 = .ok (.aload_n 0, 1) := by decide +kernel
theorem dX2_costOf_1 : decode cX2_costOf 1 = .ok (.aload_n 1, 1) := by decide +kernel
theorem dX2_costOf_2 : decode cX2_costOf 2 = .ok (.iload_n 2, 1) := by decide +kernel
theorem dX2_costOf_3 : decode cX2_costOf 3 = .ok (.aload_n 1, 1) := by decide +kernel
theorem dX2_costOf_4 : decode cX2_costOf 4 = .ok (.getfield 76, 3) := by decide +kernel
theorem dX2_costOf_7 : decode cX2_costOf 7 = .ok (.iload_n 2, 1) := by decide +kernel
theorem dX2_costOf_8 : decode cX2_costOf 8 = .ok (.iaload, 1) := by decide +kernel
theorem dX2_costOf_9 : decode cX2_costOf 9 = .ok (.aload_n 0, 1) := by decide +kernel
theorem dX2_costOf_10 : decode cX2_costOf 10 = .ok (.getfield 18, 3) := by decide +kernel
theorem dX2_costOf_13 : decode cX2_costOf 13 = .ok (.iload_n 2, 1) := by decide +kernel
theorem dX2_costOf_14 : decode cX2_costOf 14 = .ok (.iaload, 1) := by decide +kernel
theorem dX2_costOf_15 : decode cX2_costOf 15 = .ok (.aload_n 0, 1) := by decide +kernel
theorem dX2_costOf_16 : decode cX2_costOf 16 = .ok (.getfield 22, 3) := by decide +kernel
theorem dX2_costOf_19 : decode cX2_costOf 19 = .ok (.iload_n 2, 1) := by decide +kernel
theorem dX2_costOf_20 : decode cX2_costOf 20 = .ok (.iaload, 1) := by decide +kernel
theorem dX2_costOf_21 : decode cX2_costOf 21 = .ok (.aload_n 3, 1) := by decide +kernel
theorem dX2_costOf_22 : decode cX2_costOf 22 = .ok (.invokevirtual 102, 3) := by decide +kernel
theorem dX2_costOf_25 : decode cX2_costOf 25 = .ok (.ireturn, 1) := by decide +kernel
def fX2_costOf (s0 : ZS) (a0 : Int) (a1 : Int) (a2 : Int) (a3 : Int) : Option (Int × ZS) := (zgw s0 a1 1).bind (fun v1 => (zal s0 100 v1 a2).bind (fun v2 => (zg s0 2 a0 1).bind (fun v3 => (zal s0 100 v3 a2).bind (fun v4 => (zg s0 2 a0 2).bind (fun v5 => (zal s0 100 v5 a2).bind (fun v6 => zb (zv s0 2 a0 (fX2_cost s0 a0 a1 a2 v2 v4 v6 a3)) (fun v7 s8 => some (v7, s8))))))))
set_option maxHeartbeats 4000000 in
set_option maxRecDepth 100000 in
theorem mX2_costOf (E : ZE) (hE : zOkE E) (l : Launch) (s0 : ZS) (a0 : Int) (a1 : Int) (a2 : Int) (a3 : Int) : Ct E l yX2_costOf cX2_costOf 4 (some .int) 8 [(2, a0), (2, a1), (0, a2), (2, a3)] 1 s0 (fX2_costOf s0 a0 a1 a2 a3) := by
  refine Ct.of (by decide) hE (Nat.le_of_ble_eq_true rfl) ?_
  intro X G hX hR hN hXE hXl hxn hk _
  subst hXE
  subst hXl
  have hX : G → ZOk X cX2_costOf RX2 8 := hX
  clear hN
  show Zj X G 0 [(0, (2, a0)), (1, (2, a1)), (2, (0, a2)), (3, (2, a3))] [] s0 _
  unfold fX2_costOf
  refine z_aload_n (pc := 0) hX 0 dX2_costOf_0 rfl rfl ?_
  refine z_aload_n (pc := 1) hX 1 dX2_costOf_1 rfl rfl ?_
  refine z_iload_n (pc := 2) hX 2 dX2_costOf_2 rfl rfl ?_
  refine z_aload_n (pc := 3) hX 1 dX2_costOf_3 rfl rfl ?_
  refine z_getw (pc := 4) hX zc10 zc9 zc3 zc0 zc1 zc7 1 (by decide) wd619 rfl rfl rfl rfl rfl rfl rfl rfl rfl rfl rfl rfl rfl dX2_costOf_4 (fun v1 => ?_)
  refine z_iload_n (pc := 7) hX 2 dX2_costOf_7 rfl rfl ?_
  refine z_iald (pc := 8) hX dX2_costOf_8 (fun v2 => ?_)
  refine z_aload_n (pc := 9) hX 0 dX2_costOf_9 rfl rfl ?_
  refine z_get (pc := 10) hX zc2 1 (by decide) wd153 rfl rfl dX2_costOf_10 (fun v3 => ?_)
  refine z_iload_n (pc := 13) hX 2 dX2_costOf_13 rfl rfl ?_
  refine z_iald (pc := 14) hX dX2_costOf_14 (fun v4 => ?_)
  refine z_aload_n (pc := 15) hX 0 dX2_costOf_15 rfl rfl ?_
  refine z_get (pc := 16) hX zc2 2 (by decide) wd155 rfl rfl dX2_costOf_16 (fun v5 => ?_)
  refine z_iload_n (pc := 19) hX 2 dX2_costOf_19 rfl rfl ?_
  refine z_iald (pc := 20) hX dX2_costOf_20 (fun v6 => ?_)
  refine z_aload_n (pc := 21) hX 3 dX2_costOf_21 rfl rfl ?_
  refine z_callV (n := 6) (st := []) (pc := 22) hX zc2 rfl (fun _ => (mX2_cost _ hE _ _ _ _ _ _ _ _ _)) ⟨wd776, wd62, wd779, ⟨by decide, by decide, by decide⟩, by decide⟩ rfl wd778 wd22 rfl rfl (by decide) (Nat.le_of_ble_eq_true rfl) dX2_costOf_22 (fun v7 s8 r9 => ?_)
  show Zj X G 25 [(0, (2, a0)), (1, (2, a1)), (2, (0, a2)), (3, (2, a3))] [(0, v7)] _ _
  exact z_iret (pc := 25) hX hR hk dX2_costOf_25
