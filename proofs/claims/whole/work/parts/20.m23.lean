theorem dX12_goes_0 : decode cX12_goes 0 = .ok (.iconst 0, 1) := by decide +kernel
theorem dX12_goes_1 : decode cX12_goes 1 = .ok (.istore_n 2, 1) := by decide +kernel
theorem dX12_goes_2 : decode cX12_goes 2 = .ok (.iload_n 2, 1) := by decide +kernel
theorem dX12_goes_3 : decode cX12_goes 3 = .ok (.aload_n 0, 1) := by decide +kernel
theorem dX12_goes_4 : decode cX12_goes 4 = .ok (.getfield 31, 3) := by decide +kernel
theorem dX12_goes_7 : decode cX12_goes 7 = .ok (.iload_n 1, 1) := by decide +kernel
theorem dX12_goes_8 : decode cX12_goes 8 = .ok (.iaload, 1) := by decide +kernel
theorem dX12_goes_9 : decode cX12_goes 9 = .ok (.if_icmp .ge 83, 3) := by decide +kernel
theorem dX12_goes_12 : decode cX12_goes 12 = .ok (.aload_n 0, 1) := by decide +kernel
theorem dX12_goes_13 : decode cX12_goes 13 = .ok (.getfield 106, 3) := by decide +kernel
theorem dX12_goes_16 : decode cX12_goes 16 = .ok (.iload_n 2, 1) := by decide +kernel
theorem dX12_goes_17 : decode cX12_goes 17 = .ok (.iaload, 1) := by decide +kernel
theorem dX12_goes_18 : decode cX12_goes 18 = .ok (.bipush 48, 2) := by decide +kernel
theorem dX12_goes_20 : decode cX12_goes 20 = .ok (.if_icmp .ne 8, 3) := by decide +kernel
theorem dX12_goes_23 : decode cX12_goes 23 = .ok (.bipush 24, 2) := by decide +kernel
theorem dX12_goes_25 : decode cX12_goes 25 = .ok (.goto 36, 3) := by decide +kernel
theorem dX12_goes_28 : decode cX12_goes 28 = .ok (.aload_n 0, 1) := by decide +kernel
theorem dX12_goes_29 : decode cX12_goes 29 = .ok (.getfield 106, 3) := by decide +kernel
theorem dX12_goes_32 : decode cX12_goes 32 = .ok (.iload_n 2, 1) := by decide +kernel
theorem dX12_goes_33 : decode cX12_goes 33 = .ok (.iaload, 1) := by decide +kernel
theorem dX12_goes_34 : decode cX12_goes 34 = .ok (.bipush 24, 2) := by decide +kernel
theorem dX12_goes_36 : decode cX12_goes 36 = .ok (.irem, 1) := by decide +kernel
theorem dX12_goes_37 : decode cX12_goes 37 = .ok (.aload_n 0, 1) := by decide +kernel
theorem dX12_goes_38 : decode cX12_goes 38 = .ok (.getfield 22, 3) := by decide +kernel
theorem dX12_goes_41 : decode cX12_goes 41 = .ok (.iconst 2, 1) := by decide +kernel
theorem dX12_goes_42 : decode cX12_goes 42 = .ok (.aload_n 0, 1) := by decide +kernel
theorem dX12_goes_43 : decode cX12_goes 43 = .ok (.getfield 25, 3) := by decide +kernel
theorem dX12_goes_46 : decode cX12_goes 46 = .ok (.iload_n 2, 1) := by decide +kernel
theorem dX12_goes_47 : decode cX12_goes 47 = .ok (.iaload, 1) := by decide +kernel
theorem dX12_goes_48 : decode cX12_goes 48 = .ok (.imul, 1) := by decide +kernel
theorem dX12_goes_49 : decode cX12_goes 49 = .ok (.aload_n 0, 1) := by decide +kernel
theorem dX12_goes_50 : decode cX12_goes 50 = .ok (.getfield 106, 3) := by decide +kernel
theorem dX12_goes_53 : decode cX12_goes 53 = .ok (.iload_n 2, 1) := by decide +kernel
theorem dX12_goes_54 : decode cX12_goes 54 = .ok (.iaload, 1) := by decide +kernel
theorem dX12_goes_55 : decode cX12_goes 55 = .ok (.bipush 24, 2) := by decide +kernel
theorem dX12_goes_57 : decode cX12_goes 57 = .ok (.idiv, 1) := by decide +kernel
theorem dX12_goes_58 : decode cX12_goes 58 = .ok (.iadd, 1) := by decide +kernel
theorem dX12_goes_59 : decode cX12_goes 59 = .ok (.iaload, 1) := by decide +kernel
theorem dX12_goes_60 : decode cX12_goes 60 = .ok (.iadd, 1) := by decide +kernel
theorem dX12_goes_61 : decode cX12_goes 61 = .ok (.istore_n 3, 1) := by decide +kernel
theorem dX12_goes_62 : decode cX12_goes 62 = .ok (.aload_n 0, 1) := by decide +kernel
theorem dX12_goes_63 : decode cX12_goes 63 = .ok (.getfield 109, 3) := by decide +kernel
theorem dX12_goes_66 : decode cX12_goes 66 = .ok (.iload_n 2, 1) := by decide +kernel
theorem dX12_goes_67 : decode cX12_goes 67 = .ok (.iload_n 3, 1) := by decide +kernel
theorem dX12_goes_68 : decode cX12_goes 68 = .ok (.bipush 23, 2) := by decide +kernel
theorem dX12_goes_70 : decode cX12_goes 70 = .ok (.if_icmp .le 7, 3) := by decide +kernel
theorem dX12_goes_73 : decode cX12_goes 73 = .ok (.iconst (-1), 1) := by decide +kernel
theorem dX12_goes_74 : decode cX12_goes 74 = .ok (.goto 4, 3) := by decide +kernel
theorem dX12_goes_77 : decode cX12_goes 77 = .ok (.iload_n 3, 1) := by decide +kernel
theorem dX12_goes_78 : decode cX12_goes 78 = .ok (.iastore, 1) := by decide +kernel
theorem dX12_goes_79 : decode cX12_goes 79 = .ok (.aload_n 0, 1) := by decide +kernel
theorem dX12_goes_80 : decode cX12_goes 80 = .ok (.getfield 112, 3) := by decide +kernel
theorem dX12_goes_83 : decode cX12_goes 83 = .ok (.iload_n 2, 1) := by decide +kernel
theorem dX12_goes_84 : decode cX12_goes 84 = .ok (.iconst (-1), 1) := by decide +kernel
theorem dX12_goes_85 : decode cX12_goes 85 = .ok (.iastore, 1) := by decide +kernel
theorem dX12_goes_86 : decode cX12_goes 86 = .ok (.iinc 2 1, 3) := by decide +kernel
theorem dX12_goes_89 : decode cX12_goes 89 = .ok (.goto (-87), 3) := by decide +kernel
theorem dX12_goes_92 : decode cX12_goes 92 = .ok (.aload_n 0, 1) := by decide +kernel
theorem dX12_goes_93 : decode cX12_goes 93 = .ok (.iconst 0, 1) := by decide +kernel
theorem dX12_goes_94 : decode cX12_goes 94 = .ok (.putfield 230, 3) := by decide +kernel
theorem dX12_goes_97 : decode cX12_goes 97 = .ok (.iconst 0, 1) := by decide +kernel
theorem dX12_goes_98 : decode cX12_goes 98 = .ok (.istore_n 2, 1) := by decide +kernel
theorem dX12_goes_99 : decode cX12_goes 99 = .ok (.iload_n 2, 1) := by decide +kernel
theorem dX12_goes_100 : decode cX12_goes 100 = .ok (.bipush 24, 2) := by decide +kernel
theorem dX12_goes_102 : decode cX12_goes 102 = .ok (.if_icmp .ge 109, 3) := by decide +kernel
theorem dX12_goes_105 : decode cX12_goes 105 = .ok (.iconst 0, 1) := by decide +kernel
theorem dX12_goes_106 : decode cX12_goes 106 = .ok (.istore_n 3, 1) := by decide +kernel
theorem dX12_goes_107 : decode cX12_goes 107 = .ok (.iload_n 3, 1) := by decide +kernel
theorem dX12_goes_108 : decode cX12_goes 108 = .ok (.iconst 2, 1) := by decide +kernel
theorem dX12_goes_109 : decode cX12_goes 109 = .ok (.if_icmp .ge 96, 3) := by decide +kernel
theorem dX12_goes_112 : decode cX12_goes 112 = .ok (.iconst (-1), 1) := by decide +kernel
theorem dX12_goes_113 : decode cX12_goes 113 = .ok (.istore 4, 2) := by decide +kernel
theorem dX12_goes_115 : decode cX12_goes 115 = .ok (.iconst 0, 1) := by decide +kernel
theorem dX12_goes_116 : decode cX12_goes 116 = .ok (.istore 5, 2) := by decide +kernel
theorem dX12_goes_118 : decode cX12_goes 118 = .ok (.iload 5, 2) := by decide +kernel
theorem dX12_goes_120 : decode cX12_goes 120 = .ok (.aload_n 0, 1) := by decide +kernel
theorem dX12_goes_121 : decode cX12_goes 121 = .ok (.getfield 7, 3) := by decide +kernel
theorem dX12_goes_124 : decode cX12_goes 124 = .ok (.bipush 24, 2) := by decide +kernel
theorem dX12_goes_126 : decode cX12_goes 126 = .ok (.iload_n 3, 1) := by decide +kernel
theorem dX12_goes_127 : decode cX12_goes 127 = .ok (.imul, 1) := by decide +kernel
theorem dX12_goes_128 : decode cX12_goes 128 = .ok (.iload_n 2, 1) := by decide +kernel
theorem dX12_goes_129 : decode cX12_goes 129 = .ok (.iadd, 1) := by decide +kernel
theorem dX12_goes_130 : decode cX12_goes 130 = .ok (.iaload, 1) := by decide +kernel
theorem dX12_goes_131 : decode cX12_goes 131 = .ok (.if_icmp .ge 68, 3) := by decide +kernel
theorem dX12_goes_134 : decode cX12_goes 134 = .ok (.iload 5, 2) := by decide +kernel
theorem dX12_goes_136 : decode cX12_goes 136 = .ok (.ifCond .eq 9, 3) := by decide +kernel
theorem dX12_goes_139 : decode cX12_goes 139 = .ok (.iload 4, 2) := by decide +kernel
theorem dX12_goes_141 : decode cX12_goes 141 = .ok (.iconst (-1), 1) := by decide +kernel
theorem dX12_goes_142 : decode cX12_goes 142 = .ok (.if_icmp .eq 13, 3) := by decide +kernel
theorem dX12_goes_145 : decode cX12_goes 145 = .ok (.aload_n 0, 1) := by decide +kernel
theorem dX12_goes_146 : decode cX12_goes 146 = .ok (.iload_n 1, 1) := by decide +kernel
theorem dX12_goes_147 : decode cX12_goes 147 = .ok (.iload_n 3, 1) := by decide +kernel
theorem dX12_goes_148 : decode cX12_goes 148 = .ok (.iload_n 2, 1) := by decide +kernel
theorem dX12_goes_149 : decode cX12_goes 149 = .ok (.invokevirtual 233, 3) := by decide +kernel
theorem dX12_goes_152 : decode cX12_goes 152 = .ok (.goto 4, 3) := by decide +kernel
theorem dX12_goes_155 : decode cX12_goes 155 = .ok (.iconst (-1), 1) := by decide +kernel
theorem dX12_goes_156 : decode cX12_goes 156 = .ok (.istore 4, 2) := by decide +kernel
theorem dX12_goes_158 : decode cX12_goes 158 = .ok (.iload 4, 2) := by decide +kernel
theorem dX12_goes_160 : decode cX12_goes 160 = .ok (.iconst (-1), 1) := by decide +kernel
theorem dX12_goes_161 : decode cX12_goes 161 = .ok (.if_icmp .eq 32, 3) := by decide +kernel
theorem dX12_goes_164 : decode cX12_goes 164 = .ok (.aload_n 0, 1) := by decide +kernel
theorem dX12_goes_165 : decode cX12_goes 165 = .ok (.getfield 112, 3) := by decide +kernel
theorem dX12_goes_168 : decode cX12_goes 168 = .ok (.iload 4, 2) := by decide +kernel
theorem dX12_goes_170 : decode cX12_goes 170 = .ok (.iload_n 2, 1) := by decide +kernel
theorem dX12_goes_171 : decode cX12_goes 171 = .ok (.iastore, 1) := by decide +kernel
theorem dX12_goes_172 : decode cX12_goes 172 = .ok (.aload_n 0, 1) := by decide +kernel
theorem dX12_goes_173 : decode cX12_goes 173 = .ok (.getfield 115, 3) := by decide +kernel
theorem dX12_goes_176 : decode cX12_goes 176 = .ok (.aload_n 0, 1) := by decide +kernel
theorem dX12_goes_177 : decode cX12_goes 177 = .ok (.getfield 230, 3) := by decide +kernel
theorem dX12_goes_180 : decode cX12_goes 180 = .ok (.iload 4, 2) := by decide +kernel
theorem dX12_goes_182 : decode cX12_goes 182 = .ok (.iastore, 1) := by decide +kernel
theorem dX12_goes_183 : decode cX12_goes 183 = .ok (.aload_n 0, 1) := by decide +kernel
theorem dX12_goes_184 : decode cX12_goes 184 = .ok (.dup, 1) := by decide +kernel
theorem dX12_goes_185 : decode cX12_goes 185 = .ok (.getfield 230, 3) := by decide +kernel
theorem dX12_goes_188 : decode cX12_goes 188 = .ok (.iconst 1, 1) := by decide +kernel
theorem dX12_goes_189 : decode cX12_goes 189 = .ok (.iadd, 1) := by decide +kernel
theorem dX12_goes_190 : decode cX12_goes 190 = .ok (.putfield 230, 3) := by decide +kernel
theorem dX12_goes_193 : decode cX12_goes 193 = .ok (.iinc 5 1, 3) := by decide +kernel
theorem dX12_goes_196 : decode cX12_goes 196 = .ok (.goto (-78), 3) := by decide +kernel
theorem dX12_goes_199 : decode cX12_goes 199 = .ok (.iinc 3 1, 3) := by decide +kernel
theorem dX12_goes_202 : decode cX12_goes 202 = .ok (.goto (-95), 3) := by decide +kernel
theorem dX12_goes_205 : decode cX12_goes 205 = .ok (.iinc 2 1, 3) := by decide +kernel
theorem dX12_goes_208 : decode cX12_goes 208 = .ok (.goto (-109), 3) := by decide +kernel
theorem dX12_goes_211 : decode cX12_goes 211 = .ok (.return_, 1) := by decide +kernel
def lX12_goes_2 (u2 u3 : Int) (K92 : ZS → Option (Int × ZS)) : Nat → ZS → Int → Option (Int × ZS)
  | 0, _, _ => none
  | n1 + 1, s1, x4 => (zg s1 12 u2 10).bind (fun v5 => (zal s1 100 v5 u3).bind (fun v6 => if v6 ≤ x4 then (K92 s1) else ((zg s1 12 u2 40).bind (fun v8 => (zal s1 100 v8 x4).bind (fun v9 => zjn (fun (K61 : ZS → Int → Option (Int × ZS)) => if v9 = 48 then (K61 s1 24) else ((zg s1 12 u2 40).bind (fun v11 => (zal s1 100 v11 x4).bind (fun v12 => if 24 = 0 then none else ((zg s1 12 u2 5).bind (fun v13 => (zg s1 12 u2 7).bind (fun v14 => (zal s1 100 v14 x4).bind (fun v15 => (zg s1 12 u2 40).bind (fun v16 => (zal s1 100 v16 x4).bind (fun v17 => if 24 = 0 then none else ((zal s1 100 v13 (wrap ((wrap (2 * v15)) + (wrap (v17.tdiv 24))))).bind (fun v18 => K61 s1 (wrap ((v12.tmod 24) + v18)))))))))))))) (fun (s19 : ZS) (w20 : Int) => (zg s19 12 u2 41).bind (fun v21 => zjn (fun (K78 : ZS → Int → Option (Int × ZS)) => if w20 ≤ 23 then (K78 s19 w20) else (K78 s19 (-1))) (fun (s23 : ZS) (w24 : Int) => (zas s23 100 v21 x4 w24).bind (fun s25 => (zg s25 12 u2 42).bind (fun v26 => (zas s25 100 v26 x4 (-1)).bind (fun s27 => lX12_goes_2 u2 u3 K92 n1 s27 (wrap (x4 + 1)))))))))))))

def lX12_goes_118 (u43 u44 u45 u46 : Int) (K199 : ZS → Option (Int × ZS)) : Nat → ZS → Int → Int → Option (Int × ZS)
  | 0, _, _, _ => none
  | n2 + 1, s42, x47, x48 => (zg s42 12 u43 0).bind (fun v49 => (zal s42 100 v49 (wrap ((wrap (24 * u46)) + u45))).bind (fun v50 => if v50 ≤ x48 then (K199 s42) else (zjn (fun (K156 : ZS → Int → Option (Int × ZS)) => zjn (fun (K145 : ZS → Option (Int × ZS)) => if x48 = 0 then (K145 s42) else (if x47 = (-1) then (K156 s42 (-1)) else (K145 s42))) (fun (s54 : ZS) => zb (zv s54 12 u43 (fX12_nextAt s54 u43 u44 u46 u45)) (fun v55 s56 => K156 s56 v55))) (fun (s58 : ZS) (w59 : Int) => zjn (fun (K193 : ZS → Option (Int × ZS)) => if w59 = (-1) then (K193 s58) else ((zg s58 12 u43 42).bind (fun v61 => (zas s58 100 v61 w59 u45).bind (fun s62 => (zg s62 12 u43 43).bind (fun v63 => (zg s62 12 u43 44).bind (fun v64 => (zas s62 100 v63 v64 w59).bind (fun s65 => (zg s65 12 u43 44).bind (fun v66 => (zp s65 12 u43 44 (wrap (v66 + 1))).bind (fun s67 => K193 s67))))))))) (fun (s68 : ZS) => lX12_goes_118 u43 u44 u45 u46 K199 n2 s68 w59 (wrap (x48 + 1)))))))

def lX12_goes_107 (u37 u38 u39 : Int) (K205 : ZS → Option (Int × ZS)) : Nat → ZS → Int → Option (Int × ZS)
  | 0, _, _ => none
  | n2 + 1, s36, x40 => if 2 ≤ x40 then (K205 s36) else (lX12_goes_118 u37 u38 u39 x40 (fun (s70 : ZS) => lX12_goes_107 u37 u38 u39 K205 n2 s70 (wrap (x40 + 1))) 1000 s36 (-1) 0)

def lX12_goes_99 (u32 u33 : Int)  : Nat → ZS → Int → Option (Int × ZS)
  | 0, _, _ => none
  | n1 + 1, s31, x34 => if 24 ≤ x34 then (some (0, s31)) else (lX12_goes_107 u32 u33 x34 (fun (s72 : ZS) => lX12_goes_99 u32 u33 n1 s72 (wrap (x34 + 1))) 1000 s31 0)

def fX12_goes (s0 : ZS) (a0 : Int) (a1 : Int) : Option (Int × ZS) := lX12_goes_2 a0 a1 (fun (s29 : ZS) => (zp s29 12 a0 44 0).bind (fun s30 => lX12_goes_99 a0 a1 1000 s30 0)) 1000 s0 0
set_option maxHeartbeats 4000000 in
set_option maxRecDepth 100000 in
theorem mX12_goes (E : ZE) (hE : zOkE E) (l : Launch) (s0 : ZS) (a0 : Int) (a1 : Int) : Ct E l yX12_goes cX12_goes 6 none 6 [(2, a0), (0, a1)] 0 s0 (fX12_goes s0 a0 a1) := by
  refine Ct.of (by decide) hE (Nat.le_of_ble_eq_true rfl) ?_
  intro X G hX hR hN hXE hXl hxn hk _
  subst hXE
  subst hXl
  have hX : G → ZOk X cX12_goes RX12 6 := hX
  clear hN
  show Zj X G 0 [(0, (2, a0)), (1, (0, a1))] [] s0 _
  unfold fX12_goes
  refine z_iconst (pc := 0) hX dX12_goes_0 ?_
  refine z_istore_n (lv' := [(2, (0, 0)), (0, (2, a0)), (1, (0, a1))]) (pc := 1) hX dX12_goes_1 rfl (zlt hxn rfl) rfl ?_
  have hl2 : ∀ (u2 u3 : Int), ∀ (K92 : ZS → Option (Int × ZS)), (∀ (s28 : ZS), Zj X G 92 [(0, (2, u2)), (1, (0, u3))] [] s28 (K92 s28)) → ∀ (n1 : Nat) (s1 : ZS) (x4 : Int), Zj X G 2 [(0, (2, u2)), (1, (0, u3)), (2, (0, x4))] [] s1 (lX12_goes_2 u2 u3 K92 n1 s1 x4) := by
    intro u2 u3 K92 hK92 n1
    induction n1 with
    | zero => intro _ _; exact z_none
    | succ n1 ih1 =>
      intro s1 x4
      rw [lX12_goes_2]
      refine z_iload_n (pc := 2) hX 2 dX12_goes_2 rfl rfl ?_
      refine z_aload_n (pc := 3) hX 0 dX12_goes_3 rfl rfl ?_
      refine z_get (pc := 4) hX zc12 10 (by decide) wd1027 rfl rfl dX12_goes_4 (fun v5 => ?_)
      refine z_iload_n (pc := 7) hX 1 dX12_goes_7 rfl rfl ?_
      refine z_iald (pc := 8) hX dX12_goes_8 (fun v6 => ?_)
      refine z_icmp_ge (pc := 9) hX 92 dX12_goes_9 (by decide) (fun h7 => ?_) (fun h7 => ?_)
      · refine z_pick (lv' := [(0, (2, u2)), (1, (0, u3))]) [0, 1] rfl ?_
        exact hK92 _
      · refine z_aload_n (pc := 12) hX 0 dX12_goes_12 rfl rfl ?_
        refine z_get (pc := 13) hX zc12 40 (by decide) wd1057 rfl rfl dX12_goes_13 (fun v8 => ?_)
        refine z_iload_n (pc := 16) hX 2 dX12_goes_16 rfl rfl ?_
        refine z_iald (pc := 17) hX dX12_goes_17 (fun v9 => ?_)
        refine z_bipush (pc := 18) hX dX12_goes_18 ?_
        refine z_jn (fun K61 eK61 => ?_)
        have hK61 : ∀ (s19 : ZS) (w20 : Int), Zj X G 61 [(0, (2, u2)), (1, (0, u3)), (2, (0, x4))] [(0, w20)] s19 (K61 s19 w20) := by
          intro s19 w20
          rw [eK61]
          refine z_istore_n (lv' := [(3, (0, w20)), (0, (2, u2)), (1, (0, u3)), (2, (0, x4))]) (pc := 61) hX dX12_goes_61 rfl (zlt hxn rfl) rfl ?_
          refine z_aload_n (pc := 62) hX 1 dX12_goes_62 rfl rfl ?_
          refine z_get (pc := 63) hX zc12 41 (by decide) wd1058 rfl rfl dX12_goes_63 (fun v21 => ?_)
          refine z_iload_n (pc := 66) hX 3 dX12_goes_66 rfl rfl ?_
          refine z_iload_n (pc := 67) hX 0 dX12_goes_67 rfl rfl ?_
          refine z_bipush (pc := 68) hX dX12_goes_68 ?_
          refine z_jn (fun K78 eK78 => ?_)
          have hK78 : ∀ (s23 : ZS) (w24 : Int), Zj X G 78 [(0, (2, u2)), (1, (0, u3)), (2, (0, x4))] [(0, w24), (0, x4), (2, v21)] s23 (K78 s23 w24) := by
            intro s23 w24
            rw [eK78]
            refine z_iastA (pc := 78) hX dX12_goes_78 (fun s25 => ?_)
            refine z_aload_n (pc := 79) hX 0 dX12_goes_79 rfl rfl ?_
            refine z_get (pc := 80) hX zc12 42 (by decide) wd1059 rfl rfl dX12_goes_80 (fun v26 => ?_)
            refine z_iload_n (pc := 83) hX 2 dX12_goes_83 rfl rfl ?_
            refine z_iconst (pc := 84) hX dX12_goes_84 ?_
            refine z_iastA (pc := 85) hX dX12_goes_85 (fun s27 => ?_)
            refine z_iinc (lv' := [(2, (0, (wrap (x4 + 1)))), (0, (2, u2)), (1, (0, u3))]) (pc := 86) hX 2 dX12_goes_86 rfl (zlt hxn rfl) rfl ?_
            refine z_goto (pc := 89) hX 2 dX12_goes_89 (by decide) ?_
            refine z_pick (lv' := [(0, (2, u2)), (1, (0, u3)), (2, (0, (wrap (x4 + 1))))]) [1, 2, 0] rfl ?_
            exact ih1 _ _
          clear eK78
          refine z_icmp_le (pc := 70) hX 77 dX12_goes_70 (by decide) (fun h22 => ?_) (fun h22 => ?_)
          · refine z_iload_n (pc := 77) hX 0 dX12_goes_77 rfl rfl ?_
            refine z_pick (lv' := [(0, (2, u2)), (1, (0, u3)), (2, (0, x4))]) [1, 2, 3] rfl ?_
            exact hK78 _ _
          · refine z_iconst (pc := 73) hX dX12_goes_73 ?_
            refine z_goto (pc := 74) hX 78 dX12_goes_74 (by decide) ?_
            refine z_pick (lv' := [(0, (2, u2)), (1, (0, u3)), (2, (0, x4))]) [1, 2, 3] rfl ?_
            exact hK78 _ _
        clear eK61
        refine z_icmp_ne (pc := 20) hX 28 dX12_goes_20 (by decide) (fun h10 => ?_) (fun h10 => ?_)
        · refine z_aload_n (pc := 28) hX 0 dX12_goes_28 rfl rfl ?_
          refine z_get (pc := 29) hX zc12 40 (by decide) wd1057 rfl rfl dX12_goes_29 (fun v11 => ?_)
          refine z_iload_n (pc := 32) hX 2 dX12_goes_32 rfl rfl ?_
          refine z_iald (pc := 33) hX dX12_goes_33 (fun v12 => ?_)
          refine z_bipush (pc := 34) hX dX12_goes_34 ?_
          refine z_irem (pc := 36) hX dX12_goes_36 (fun _ => ?_)
          refine z_aload_n (pc := 37) hX 0 dX12_goes_37 rfl rfl ?_
          refine z_get (pc := 38) hX zc12 5 (by decide) wd1022 rfl rfl dX12_goes_38 (fun v13 => ?_)
          refine z_iconst (pc := 41) hX dX12_goes_41 ?_
          refine z_aload_n (pc := 42) hX 0 dX12_goes_42 rfl rfl ?_
          refine z_get (pc := 43) hX zc12 7 (by decide) wd1024 rfl rfl dX12_goes_43 (fun v14 => ?_)
          refine z_iload_n (pc := 46) hX 2 dX12_goes_46 rfl rfl ?_
          refine z_iald (pc := 47) hX dX12_goes_47 (fun v15 => ?_)
          refine z_imul (pc := 48) hX dX12_goes_48 ?_
          refine z_aload_n (pc := 49) hX 0 dX12_goes_49 rfl rfl ?_
          refine z_get (pc := 50) hX zc12 40 (by decide) wd1057 rfl rfl dX12_goes_50 (fun v16 => ?_)
          refine z_iload_n (pc := 53) hX 2 dX12_goes_53 rfl rfl ?_
          refine z_iald (pc := 54) hX dX12_goes_54 (fun v17 => ?_)
          refine z_bipush (pc := 55) hX dX12_goes_55 ?_
          refine z_idiv (pc := 57) hX dX12_goes_57 (fun _ => ?_)
          refine z_iadd (pc := 58) hX dX12_goes_58 ?_
          refine z_iald (pc := 59) hX dX12_goes_59 (fun v18 => ?_)
          refine z_iadd (pc := 60) hX dX12_goes_60 ?_
          exact hK61 _ _
        · refine z_bipush (pc := 23) hX dX12_goes_23 ?_
          refine z_goto (pc := 25) hX 61 dX12_goes_25 (by decide) ?_
          exact hK61 _ _
  refine z_pick (lv' := [(0, (2, a0)), (1, (0, a1)), (2, (0, 0))]) [1, 2, 0] rfl ?_
  refine hl2 _ _ _ (fun s29 => ?_) 1000 _ _
  refine z_aload_n (pc := 92) hX 0 dX12_goes_92 rfl rfl ?_
  refine z_iconst (pc := 93) hX dX12_goes_93 ?_
  refine z_putA (pc := 94) hX zc12 44 (by decide) wd1061 (Or.inl rfl) rfl rfl (fun _ => rfl) (fun _ => rfl) dX12_goes_94 (fun s30 => ?_)
  refine z_iconst (pc := 97) hX dX12_goes_97 ?_
  refine z_istore_n (lv' := [(2, (0, 0)), (0, (2, a0)), (1, (0, a1))]) (pc := 98) hX dX12_goes_98 rfl (zlt hxn rfl) rfl ?_
  have hl99 : ∀ (u32 u33 : Int), ∀ (n1 : Nat) (s31 : ZS) (x34 : Int), Zj X G 99 [(0, (2, u32)), (1, (0, u33)), (2, (0, x34))] [] s31 (lX12_goes_99 u32 u33 n1 s31 x34) := by
    intro u32 u33 n1
    induction n1 with
    | zero => intro _ _; exact z_none
    | succ n1 ih1 =>
      intro s31 x34
      rw [lX12_goes_99]
      refine z_iload_n (pc := 99) hX 2 dX12_goes_99 rfl rfl ?_
      refine z_bipush (pc := 100) hX dX12_goes_100 ?_
      refine z_icmp_ge (pc := 102) hX 211 dX12_goes_102 (by decide) (fun h35 => ?_) (fun h35 => ?_)
      · exact z_vret (pc := 211) hX hR hk dX12_goes_211
      · refine z_iconst (pc := 105) hX dX12_goes_105 ?_
        refine z_istore_n (lv' := [(3, (0, 0)), (0, (2, u32)), (1, (0, u33)), (2, (0, x34))]) (pc := 106) hX dX12_goes_106 rfl (zlt hxn rfl) rfl ?_
        have hl107 : ∀ (u37 u38 u39 : Int), ∀ (K205 : ZS → Option (Int × ZS)), (∀ (s71 : ZS), Zj X G 205 [(0, (2, u37)), (1, (0, u38)), (2, (0, u39))] [] s71 (K205 s71)) → ∀ (n2 : Nat) (s36 : ZS) (x40 : Int), Zj X G 107 [(0, (2, u37)), (1, (0, u38)), (2, (0, u39)), (3, (0, x40))] [] s36 (lX12_goes_107 u37 u38 u39 K205 n2 s36 x40) := by
          intro u37 u38 u39 K205 hK205 n2
          induction n2 with
          | zero => intro _ _; exact z_none
          | succ n2 ih2 =>
            intro s36 x40
            rw [lX12_goes_107]
            refine z_iload_n (pc := 107) hX 3 dX12_goes_107 rfl rfl ?_
            refine z_iconst (pc := 108) hX dX12_goes_108 ?_
            refine z_icmp_ge (pc := 109) hX 205 dX12_goes_109 (by decide) (fun h41 => ?_) (fun h41 => ?_)
            · refine z_pick (lv' := [(0, (2, u37)), (1, (0, u38)), (2, (0, u39))]) [0, 1, 2] rfl ?_
              exact hK205 _
            · refine z_iconst (pc := 112) hX dX12_goes_112 ?_
              refine z_istore (lv' := [(4, (0, (-1))), (0, (2, u37)), (1, (0, u38)), (2, (0, u39)), (3, (0, x40))]) (pc := 113) hX dX12_goes_113 (zlt hxn rfl) rfl ?_
              refine z_iconst (pc := 115) hX dX12_goes_115 ?_
              refine z_istore (lv' := [(5, (0, 0)), (4, (0, (-1))), (0, (2, u37)), (1, (0, u38)), (2, (0, u39)), (3, (0, x40))]) (pc := 116) hX dX12_goes_116 (zlt hxn rfl) rfl ?_
              have hl118 : ∀ (u43 u44 u45 u46 : Int), ∀ (K199 : ZS → Option (Int × ZS)), (∀ (s69 : ZS), Zj X G 199 [(0, (2, u43)), (1, (0, u44)), (2, (0, u45)), (3, (0, u46))] [] s69 (K199 s69)) → ∀ (n2 : Nat) (s42 : ZS) (x47 x48 : Int), Zj X G 118 [(0, (2, u43)), (1, (0, u44)), (2, (0, u45)), (3, (0, u46)), (4, (0, x47)), (5, (0, x48))] [] s42 (lX12_goes_118 u43 u44 u45 u46 K199 n2 s42 x47 x48) := by
                intro u43 u44 u45 u46 K199 hK199 n2
                induction n2 with
                | zero => intro _ _ _; exact z_none
                | succ n2 ih2 =>
                  intro s42 x47 x48
                  rw [lX12_goes_118]
                  refine z_iload (pc := 118) hX 5 dX12_goes_118 rfl ?_
                  refine z_aload_n (pc := 120) hX 0 dX12_goes_120 rfl rfl ?_
                  refine z_get (pc := 121) hX zc12 0 (by decide) wd1017 rfl rfl dX12_goes_121 (fun v49 => ?_)
                  refine z_bipush (pc := 124) hX dX12_goes_124 ?_
                  refine z_iload_n (pc := 126) hX 3 dX12_goes_126 rfl rfl ?_
                  refine z_imul (pc := 127) hX dX12_goes_127 ?_
                  refine z_iload_n (pc := 128) hX 2 dX12_goes_128 rfl rfl ?_
                  refine z_iadd (pc := 129) hX dX12_goes_129 ?_
                  refine z_iald (pc := 130) hX dX12_goes_130 (fun v50 => ?_)
                  refine z_icmp_ge (pc := 131) hX 199 dX12_goes_131 (by decide) (fun h51 => ?_) (fun h51 => ?_)
                  · refine z_pick (lv' := [(0, (2, u43)), (1, (0, u44)), (2, (0, u45)), (3, (0, u46))]) [0, 1, 2, 3] rfl ?_
                    exact hK199 _
                  · refine z_iload (pc := 134) hX 5 dX12_goes_134 rfl ?_
                    refine z_jn (fun K156 eK156 => ?_)
                    have hK156 : ∀ (s58 : ZS) (w59 : Int), Zj X G 156 [(0, (2, u43)), (1, (0, u44)), (2, (0, u45)), (3, (0, u46)), (5, (0, x48))] [(0, w59)] s58 (K156 s58 w59) := by
                      intro s58 w59
                      rw [eK156]
                      refine z_istore (lv' := [(4, (0, w59)), (0, (2, u43)), (1, (0, u44)), (2, (0, u45)), (3, (0, u46)), (5, (0, x48))]) (pc := 156) hX dX12_goes_156 (zlt hxn rfl) rfl ?_
                      refine z_iload (pc := 158) hX 0 dX12_goes_158 rfl ?_
                      refine z_iconst (pc := 160) hX dX12_goes_160 ?_
                      refine z_jn (fun K193 eK193 => ?_)
                      have hK193 : ∀ (s68 : ZS), Zj X G 193 [(0, (2, u43)), (1, (0, u44)), (2, (0, u45)), (3, (0, u46)), (4, (0, w59)), (5, (0, x48))] [] s68 (K193 s68) := by
                        intro s68
                        rw [eK193]
                        refine z_iinc (lv' := [(5, (0, (wrap (x48 + 1)))), (0, (2, u43)), (1, (0, u44)), (2, (0, u45)), (3, (0, u46)), (4, (0, w59))]) (pc := 193) hX 5 dX12_goes_193 rfl (zlt hxn rfl) rfl ?_
                        refine z_goto (pc := 196) hX 118 dX12_goes_196 (by decide) ?_
                        refine z_pick (lv' := [(0, (2, u43)), (1, (0, u44)), (2, (0, u45)), (3, (0, u46)), (4, (0, w59)), (5, (0, (wrap (x48 + 1))))]) [1, 2, 3, 4, 5, 0] rfl ?_
                        exact ih2 _ _ _
                      clear eK193
                      refine z_icmp_eq (pc := 161) hX 193 dX12_goes_161 (by decide) (fun h60 => ?_) (fun h60 => ?_)
                      · refine z_pick (lv' := [(0, (2, u43)), (1, (0, u44)), (2, (0, u45)), (3, (0, u46)), (4, (0, w59)), (5, (0, x48))]) [1, 2, 3, 4, 0, 5] rfl ?_
                        exact hK193 _
                      · refine z_aload_n (pc := 164) hX 1 dX12_goes_164 rfl rfl ?_
                        refine z_get (pc := 165) hX zc12 42 (by decide) wd1059 rfl rfl dX12_goes_165 (fun v61 => ?_)
                        refine z_iload (pc := 168) hX 0 dX12_goes_168 rfl ?_
                        refine z_iload_n (pc := 170) hX 3 dX12_goes_170 rfl rfl ?_
                        refine z_iastA (pc := 171) hX dX12_goes_171 (fun s62 => ?_)
                        refine z_aload_n (pc := 172) hX 1 dX12_goes_172 rfl rfl ?_
                        refine z_get (pc := 173) hX zc12 43 (by decide) wd1060 rfl rfl dX12_goes_173 (fun v63 => ?_)
                        refine z_aload_n (pc := 176) hX 1 dX12_goes_176 rfl rfl ?_
                        refine z_get (pc := 177) hX zc12 44 (by decide) wd1061 rfl rfl dX12_goes_177 (fun v64 => ?_)
                        refine z_iload (pc := 180) hX 0 dX12_goes_180 rfl ?_
                        refine z_iastA (pc := 182) hX dX12_goes_182 (fun s65 => ?_)
                        refine z_aload_n (pc := 183) hX 1 dX12_goes_183 rfl rfl ?_
                        refine z_dup (pc := 184) hX zn2 dX12_goes_184 ?_
                        refine z_get (pc := 185) hX zc12 44 (by decide) wd1061 rfl rfl dX12_goes_185 (fun v66 => ?_)
                        refine z_iconst (pc := 188) hX dX12_goes_188 ?_
                        refine z_iadd (pc := 189) hX dX12_goes_189 ?_
                        refine z_putA (pc := 190) hX zc12 44 (by decide) wd1061 (Or.inl rfl) rfl rfl (fun _ => rfl) (fun _ => rfl) dX12_goes_190 (fun s67 => ?_)
                        refine z_pick (lv' := [(0, (2, u43)), (1, (0, u44)), (2, (0, u45)), (3, (0, u46)), (4, (0, w59)), (5, (0, x48))]) [1, 2, 3, 4, 0, 5] rfl ?_
                        exact hK193 _
                    clear eK156
                    refine z_jn (fun K145 eK145 => ?_)
                    have hK145 : ∀ (s54 : ZS), Zj X G 145 [(0, (2, u43)), (1, (0, u44)), (2, (0, u45)), (3, (0, u46)), (5, (0, x48))] [] s54 (K145 s54) := by
                      intro s54
                      rw [eK145]
                      refine z_aload_n (pc := 145) hX 0 dX12_goes_145 rfl rfl ?_
                      refine z_iload_n (pc := 146) hX 1 dX12_goes_146 rfl rfl ?_
                      refine z_iload_n (pc := 147) hX 3 dX12_goes_147 rfl rfl ?_
                      refine z_iload_n (pc := 148) hX 2 dX12_goes_148 rfl rfl ?_
                      refine z_callV (n := 3) (st := []) (pc := 149) hX zc12 rfl (fun _ => (mX12_nextAt _ hE _ _ _ _ _ _)) ⟨wd1292, wd67, wd1295, ⟨by decide, by decide, by decide⟩, by decide⟩ rfl wd1294 wd46 rfl rfl (by decide) (Nat.le_of_ble_eq_true rfl) dX12_goes_149 (fun v55 s56 r57 => ?_)
                      show Zj X G 152 [(0, (2, u43)), (1, (0, u44)), (2, (0, u45)), (3, (0, u46)), (5, (0, x48))] [(0, v55)] _ _
                      refine z_goto (pc := 152) hX 156 dX12_goes_152 (by decide) ?_
                      exact hK156 _ _
                    clear eK145
                    refine z_if_eq (pc := 136) hX 145 dX12_goes_136 (by decide) (fun h52 => ?_) (fun h52 => ?_)
                    · refine z_pick (lv' := [(0, (2, u43)), (1, (0, u44)), (2, (0, u45)), (3, (0, u46)), (5, (0, x48))]) [0, 1, 2, 3, 5] rfl ?_
                      exact hK145 _
                    · refine z_iload (pc := 139) hX 4 dX12_goes_139 rfl ?_
                      refine z_iconst (pc := 141) hX dX12_goes_141 ?_
                      refine z_icmp_eq (pc := 142) hX 155 dX12_goes_142 (by decide) (fun h53 => ?_) (fun h53 => ?_)
                      · refine z_iconst (pc := 155) hX dX12_goes_155 ?_
                        refine z_pick (lv' := [(0, (2, u43)), (1, (0, u44)), (2, (0, u45)), (3, (0, u46)), (5, (0, x48))]) [0, 1, 2, 3, 5] rfl ?_
                        exact hK156 _ _
                      · refine z_pick (lv' := [(0, (2, u43)), (1, (0, u44)), (2, (0, u45)), (3, (0, u46)), (5, (0, x48))]) [0, 1, 2, 3, 5] rfl ?_
                        exact hK145 _
              refine z_pick (lv' := [(0, (2, u37)), (1, (0, u38)), (2, (0, u39)), (3, (0, x40)), (4, (0, (-1))), (5, (0, 0))]) [2, 3, 4, 5, 1, 0] rfl ?_
              refine hl118 _ _ _ _ _ (fun s70 => ?_) 1000 _ _ _
              refine z_iinc (lv' := [(3, (0, (wrap (x40 + 1)))), (0, (2, u37)), (1, (0, u38)), (2, (0, u39))]) (pc := 199) hX 3 dX12_goes_199 rfl (zlt hxn rfl) rfl ?_
              refine z_goto (pc := 202) hX 107 dX12_goes_202 (by decide) ?_
              refine z_pick (lv' := [(0, (2, u37)), (1, (0, u38)), (2, (0, u39)), (3, (0, (wrap (x40 + 1))))]) [1, 2, 3, 0] rfl ?_
              exact ih2 _ _
        refine z_pick (lv' := [(0, (2, u32)), (1, (0, u33)), (2, (0, x34)), (3, (0, 0))]) [1, 2, 3, 0] rfl ?_
        refine hl107 _ _ _ _ (fun s72 => ?_) 1000 _ _
        refine z_iinc (lv' := [(2, (0, (wrap (x34 + 1)))), (0, (2, u32)), (1, (0, u33))]) (pc := 205) hX 2 dX12_goes_205 rfl (zlt hxn rfl) rfl ?_
        refine z_goto (pc := 208) hX 99 dX12_goes_208 (by decide) ?_
        refine z_pick (lv' := [(0, (2, u32)), (1, (0, u33)), (2, (0, (wrap (x34 + 1))))]) [1, 2, 0] rfl ?_
        exact ih1 _ _
  refine z_pick (lv' := [(0, (2, a0)), (1, (0, a1)), (2, (0, 0))]) [1, 2, 0] rfl ?_
  refine hl99 _ _ 1000 _ _

theorem dX12_paid_0 : decode cX12_paid 0 = .ok (.aload_n 0, 1) := by decide +kernel
theorem dX12_paid_1 : decode cX12_paid 1 = .ok (.getfield 112, 3) := by decide +kernel
theorem dX12_paid_4 : decode cX12_paid 4 = .ok (.iload_n 2, 1) := by decide +kernel
theorem dX12_paid_5 : decode cX12_paid 5 = .ok (.iaload, 1) := by decide +kernel
theorem dX12_paid_6 : decode cX12_paid 6 = .ok (.iconst (-1), 1) := by decide +kernel
theorem dX12_paid_7 : decode cX12_paid 7 = .ok (.if_icmp .ne 5, 3) := by decide +kernel
theorem dX12_paid_10 : decode cX12_paid 10 = .ok (.iconst 0, 1) := by decide +kernel
theorem dX12_paid_11 : decode cX12_paid 11 = .ok (.ireturn, 1) := by decide +kernel
theorem dX12_paid_12 : decode cX12_paid 12 = .ok (.aload_n 0, 1) := by decide +kernel
theorem dX12_paid_13 : decode cX12_paid 13 = .ok (.getfield 13, 3) := by decide +kernel
theorem dX12_paid_16 : decode cX12_paid 16 = .ok (.bipush 24, 2) := by decide +kernel
theorem dX12_paid_18 : decode cX12_paid 18 = .ok (.aload_n 0, 1) := by decide +kernel
theorem dX12_paid_19 : decode cX12_paid 19 = .ok (.getfield 106, 3) := by decide +kernel
theorem dX12_paid_22 : decode cX12_paid 22 = .ok (.iload_n 2, 1) := by decide +kernel
theorem dX12_paid_23 : decode cX12_paid 23 = .ok (.iaload, 1) := by decide +kernel
theorem dX12_paid_24 : decode cX12_paid 24 = .ok (.bipush 24, 2) := by decide +kernel
theorem dX12_paid_26 : decode cX12_paid 26 = .ok (.idiv, 1) := by decide +kernel
theorem dX12_paid_27 : decode cX12_paid 27 = .ok (.imul, 1) := by decide +kernel
theorem dX12_paid_28 : decode cX12_paid 28 = .ok (.aload_n 0, 1) := by decide +kernel
theorem dX12_paid_29 : decode cX12_paid 29 = .ok (.getfield 112, 3) := by decide +kernel
theorem dX12_paid_32 : decode cX12_paid 32 = .ok (.iload_n 2, 1) := by decide +kernel
theorem dX12_paid_33 : decode cX12_paid 33 = .ok (.iaload, 1) := by decide +kernel
theorem dX12_paid_34 : decode cX12_paid 34 = .ok (.iadd, 1) := by decide +kernel
theorem dX12_paid_35 : decode cX12_paid 35 = .ok (.iaload, 1) := by decide +kernel
theorem dX12_paid_36 : decode cX12_paid 36 = .ok (.istore_n 3, 1) := by decide +kernel
theorem dX12_paid_37 : decode cX12_paid 37 = .ok (.aload_n 0, 1) := by decide +kernel
theorem dX12_paid_38 : decode cX12_paid 38 = .ok (.getfield 28, 3) := by decide +kernel
theorem dX12_paid_41 : decode cX12_paid 41 = .ok (.iload_n 1, 1) := by decide +kernel
theorem dX12_paid_42 : decode cX12_paid 42 = .ok (.iaload, 1) := by decide +kernel
theorem dX12_paid_43 : decode cX12_paid 43 = .ok (.iconst 1, 1) := by decide +kernel
theorem dX12_paid_44 : decode cX12_paid 44 = .ok (.if_icmp .ne 7, 3) := by decide +kernel
theorem dX12_paid_47 : decode cX12_paid 47 = .ok (.iload_n 3, 1) := by decide +kernel
theorem dX12_paid_48 : decode cX12_paid 48 = .ok (.goto 20, 3) := by decide +kernel
theorem dX12_paid_51 : decode cX12_paid 51 = .ok (.aload_n 0, 1) := by decide +kernel
theorem dX12_paid_52 : decode cX12_paid 52 = .ok (.getfield 28, 3) := by decide +kernel
theorem dX12_paid_55 : decode cX12_paid 55 = .ok (.iload_n 1, 1) := by decide +kernel
theorem dX12_paid_56 : decode cX12_paid 56 = .ok (.iaload, 1) := by decide +kernel
theorem dX12_paid_57 : decode cX12_paid 57 = .ok (.iconst 5, 1) := by decide +kernel
theorem dX12_paid_58 : decode cX12_paid 58 = .ok (.if_icmp .ne 9, 3) := by decide +kernel
theorem dX12_paid_61 : decode cX12_paid 61 = .ok (.iload_n 3, 1) := by decide +kernel
theorem dX12_paid_62 : decode cX12_paid 62 = .ok (.iconst 2, 1) := by decide +kernel
theorem dX12_paid_63 : decode cX12_paid 63 = .ok (.idiv, 1) := by decide +kernel
theorem dX12_paid_64 : decode cX12_paid 64 = .ok (.goto 4, 3) := by decide +kernel
theorem dX12_paid_67 : decode cX12_paid 67 = .ok (.iconst 0, 1) := by decide +kernel
theorem dX12_paid_68 : decode cX12_paid 68 = .ok (.ireturn, 1) := by decide +kernel
def fX12_paid (s0 : ZS) (a0 : Int) (a1 : Int) (a2 : Int) : Option (Int × ZS) := (zg s0 12 a0 42).bind (fun v1 => (zal s0 100 v1 a2).bind (fun v2 => if v2 = (-1) then (some (0, s0)) else ((zg s0 12 a0 1).bind (fun v4 => (zg s0 12 a0 40).bind (fun v5 => (zal s0 100 v5 a2).bind (fun v6 => if 24 = 0 then none else ((zg s0 12 a0 42).bind (fun v7 => (zal s0 100 v7 a2).bind (fun v8 => (zal s0 100 v4 (wrap ((wrap (24 * (wrap (v6.tdiv 24)))) + v8))).bind (fun v9 => (zg s0 12 a0 9).bind (fun v10 => (zal s0 100 v10 a1).bind (fun v11 => if v11 = 1 then (some (v9, s0)) else ((zg s0 12 a0 9).bind (fun v13 => (zal s0 100 v13 a1).bind (fun v14 => if v14 = 5 then (if 2 = 0 then none else (some ((wrap (v9.tdiv 2)), s0))) else (some (0, s0)))))))))))))))))
set_option maxHeartbeats 4000000 in
set_option maxRecDepth 100000 in
theorem mX12_paid (E : ZE) (hE : zOkE E) (l : Launch) (s0 : ZS) (a0 : Int) (a1 : Int) (a2 : Int) : Ct E l yX12_paid cX12_paid 4 (some .int) 2 [(2, a0), (0, a1), (0, a2)] 1 s0 (fX12_paid s0 a0 a1 a2) := by
  refine Ct.of (by decide) hE (Nat.le_of_ble_eq_true rfl) ?_
  intro X G hX hR hN hXE hXl hxn hk _
  subst hXE
  subst hXl
  have hX : G → ZOk X cX12_paid RX12 2 := hX
  clear hN
  show Zj X G 0 [(0, (2, a0)), (1, (0, a1)), (2, (0, a2))] [] s0 _
  unfold fX12_paid
  refine z_aload_n (pc := 0) hX 0 dX12_paid_0 rfl rfl ?_
  refine z_get (pc := 1) hX zc12 42 (by decide) wd1059 rfl rfl dX12_paid_1 (fun v1 => ?_)
  refine z_iload_n (pc := 4) hX 2 dX12_paid_4 rfl rfl ?_
  refine z_iald (pc := 5) hX dX12_paid_5 (fun v2 => ?_)
  refine z_iconst (pc := 6) hX dX12_paid_6 ?_
  refine z_icmp_ne (pc := 7) hX 12 dX12_paid_7 (by decide) (fun h3 => ?_) (fun h3 => ?_)
  · refine z_aload_n (pc := 12) hX 0 dX12_paid_12 rfl rfl ?_
    refine z_get (pc := 13) hX zc12 1 (by decide) wd1018 rfl rfl dX12_paid_13 (fun v4 => ?_)
    refine z_bipush (pc := 16) hX dX12_paid_16 ?_
    refine z_aload_n (pc := 18) hX 0 dX12_paid_18 rfl rfl ?_
    refine z_get (pc := 19) hX zc12 40 (by decide) wd1057 rfl rfl dX12_paid_19 (fun v5 => ?_)
    refine z_iload_n (pc := 22) hX 2 dX12_paid_22 rfl rfl ?_
    refine z_iald (pc := 23) hX dX12_paid_23 (fun v6 => ?_)
    refine z_bipush (pc := 24) hX dX12_paid_24 ?_
    refine z_idiv (pc := 26) hX dX12_paid_26 (fun _ => ?_)
    refine z_imul (pc := 27) hX dX12_paid_27 ?_
    refine z_aload_n (pc := 28) hX 0 dX12_paid_28 rfl rfl ?_
    refine z_get (pc := 29) hX zc12 42 (by decide) wd1059 rfl rfl dX12_paid_29 (fun v7 => ?_)
    refine z_iload_n (pc := 32) hX 2 dX12_paid_32 rfl rfl ?_
    refine z_iald (pc := 33) hX dX12_paid_33 (fun v8 => ?_)
    refine z_iadd (pc := 34) hX dX12_paid_34 ?_
    refine z_iald (pc := 35) hX dX12_paid_35 (fun v9 => ?_)
    refine z_istore_n (lv' := [(3, (0, v9)), (0, (2, a0)), (1, (0, a1)), (2, (0, a2))]) (pc := 36) hX dX12_paid_36 rfl (zlt hxn rfl) rfl ?_
    refine z_aload_n (pc := 37) hX 1 dX12_paid_37 rfl rfl ?_
    refine z_get (pc := 38) hX zc12 9 (by decide) wd1026 rfl rfl dX12_paid_38 (fun v10 => ?_)
    refine z_iload_n (pc := 41) hX 2 dX12_paid_41 rfl rfl ?_
    refine z_iald (pc := 42) hX dX12_paid_42 (fun v11 => ?_)
    refine z_iconst (pc := 43) hX dX12_paid_43 ?_
    refine z_icmp_ne (pc := 44) hX 51 dX12_paid_44 (by decide) (fun h12 => ?_) (fun h12 => ?_)
    · refine z_aload_n (pc := 51) hX 1 dX12_paid_51 rfl rfl ?_
      refine z_get (pc := 52) hX zc12 9 (by decide) wd1026 rfl rfl dX12_paid_52 (fun v13 => ?_)
      refine z_iload_n (pc := 55) hX 2 dX12_paid_55 rfl rfl ?_
      refine z_iald (pc := 56) hX dX12_paid_56 (fun v14 => ?_)
      refine z_iconst (pc := 57) hX dX12_paid_57 ?_
      refine z_icmp_ne (pc := 58) hX 67 dX12_paid_58 (by decide) (fun h15 => ?_) (fun h15 => ?_)
      · refine z_iconst (pc := 67) hX dX12_paid_67 ?_
        exact z_iret (pc := 68) hX hR hk dX12_paid_68
      · refine z_iload_n (pc := 61) hX 0 dX12_paid_61 rfl rfl ?_
        refine z_iconst (pc := 62) hX dX12_paid_62 ?_
        refine z_idiv (pc := 63) hX dX12_paid_63 (fun _ => ?_)
        refine z_goto (pc := 64) hX 68 dX12_paid_64 (by decide) ?_
        exact z_iret (pc := 68) hX hR hk dX12_paid_68
    · refine z_iload_n (pc := 47) hX 0 dX12_paid_47 rfl rfl ?_
      refine z_goto (pc := 48) hX 68 dX12_paid_48 (by decide) ?_
      exact z_iret (pc := 68) hX hR hk dX12_paid_68
  · refine z_iconst (pc := 10) hX dX12_paid_10 ?_
    exact z_iret (pc := 11) hX hR hk dX12_paid_11
