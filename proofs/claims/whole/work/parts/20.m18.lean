theorem dX2_gather_0 : decode cX2_gather 0 = .ok (.aload_n 0, 1) := by decide +kernel
theorem dX2_gather_1 : decode cX2_gather 1 = .ok (.getfield 40, 3) := by decide +kernel
theorem dX2_gather_4 : decode cX2_gather 4 = .ok (.iconst 0, 1) := by decide +kernel
theorem dX2_gather_5 : decode cX2_gather 5 = .ok (.iconst 0, 1) := by decide +kernel
theorem dX2_gather_6 : decode cX2_gather 6 = .ok (.iastore, 1) := by decide +kernel
theorem dX2_gather_7 : decode cX2_gather 7 = .ok (.aload_n 0, 1) := by decide +kernel
theorem dX2_gather_8 : decode cX2_gather 8 = .ok (.getfield 40, 3) := by decide +kernel
theorem dX2_gather_11 : decode cX2_gather 11 = .ok (.iconst 1, 1) := by decide +kernel
theorem dX2_gather_12 : decode cX2_gather 12 = .ok (.iconst 0, 1) := by decide +kernel
theorem dX2_gather_13 : decode cX2_gather 13 = .ok (.iastore, 1) := by decide +kernel
theorem dX2_gather_14 : decode cX2_gather 14 = .ok (.iconst 0, 1) := by decide +kernel
theorem dX2_gather_15 : decode cX2_gather 15 = .ok (.istore_n 3, 1) := by decide +kernel
theorem dX2_gather_16 : decode cX2_gather 16 = .ok (.iload_n 3, 1) := by decide +kernel
theorem dX2_gather_17 : decode cX2_gather 17 = .ok (.aload_n 1, 1) := by decide +kernel
theorem dX2_gather_18 : decode cX2_gather 18 = .ok (.getfield 71, 3) := by decide +kernel
theorem dX2_gather_21 : decode cX2_gather 21 = .ok (.if_icmp .ge 75, 3) := by decide +kernel
theorem dX2_gather_24 : decode cX2_gather 24 = .ok (.aload_n 0, 1) := by decide +kernel
theorem dX2_gather_25 : decode cX2_gather 25 = .ok (.getfield 18, 3) := by decide +kernel
theorem dX2_gather_28 : decode cX2_gather 28 = .ok (.iload_n 3, 1) := by decide +kernel
theorem dX2_gather_29 : decode cX2_gather 29 = .ok (.aload_n 0, 1) := by decide +kernel
theorem dX2_gather_30 : decode cX2_gather 30 = .ok (.iload_n 3, 1) := by decide +kernel
theorem dX2_gather_31 : decode cX2_gather 31 = .ok (.aload_n 1, 1) := by decide +kernel
theorem dX2_gather_32 : decode cX2_gather 32 = .ok (.getfield 76, 3) := by decide +kernel
theorem dX2_gather_35 : decode cX2_gather 35 = .ok (.iload_n 3, 1) := by decide +kernel
theorem dX2_gather_36 : decode cX2_gather 36 = .ok (.iaload, 1) := by decide +kernel
theorem dX2_gather_37 : decode cX2_gather 37 = .ok (.invokevirtual 79, 3) := by decide +kernel
theorem dX2_gather_40 : decode cX2_gather 40 = .ok (.iastore, 1) := by decide +kernel
theorem dX2_gather_41 : decode cX2_gather 41 = .ok (.iload_n 3, 1) := by decide +kernel
theorem dX2_gather_42 : decode cX2_gather 42 = .ok (.iload_n 2, 1) := by decide +kernel
theorem dX2_gather_43 : decode cX2_gather 43 = .ok (.if_icmp .eq 47, 3) := by decide +kernel
theorem dX2_gather_46 : decode cX2_gather 46 = .ok (.aload_n 0, 1) := by decide +kernel
theorem dX2_gather_47 : decode cX2_gather 47 = .ok (.getfield 18, 3) := by decide +kernel
theorem dX2_gather_50 : decode cX2_gather 50 = .ok (.iload_n 3, 1) := by decide +kernel
theorem dX2_gather_51 : decode cX2_gather 51 = .ok (.iaload, 1) := by decide +kernel
theorem dX2_gather_52 : decode cX2_gather 52 = .ok (.iconst (-1), 1) := by decide +kernel
theorem dX2_gather_53 : decode cX2_gather 53 = .ok (.if_icmp .eq 37, 3) := by decide +kernel
theorem dX2_gather_56 : decode cX2_gather 56 = .ok (.aload_n 0, 1) := by decide +kernel
theorem dX2_gather_57 : decode cX2_gather 57 = .ok (.aload_n 1, 1) := by decide +kernel
theorem dX2_gather_58 : decode cX2_gather 58 = .ok (.getfield 76, 3) := by decide +kernel
theorem dX2_gather_61 : decode cX2_gather 61 = .ok (.iload_n 3, 1) := by decide +kernel
theorem dX2_gather_62 : decode cX2_gather 62 = .ok (.iaload, 1) := by decide +kernel
theorem dX2_gather_63 : decode cX2_gather 63 = .ok (.bipush 24, 2) := by decide +kernel
theorem dX2_gather_65 : decode cX2_gather 65 = .ok (.idiv, 1) := by decide +kernel
theorem dX2_gather_66 : decode cX2_gather 66 = .ok (.iload_n 3, 1) := by decide +kernel
theorem dX2_gather_67 : decode cX2_gather 67 = .ok (.aload_n 1, 1) := by decide +kernel
theorem dX2_gather_68 : decode cX2_gather 68 = .ok (.iload_n 3, 1) := by decide +kernel
theorem dX2_gather_69 : decode cX2_gather 69 = .ok (.aload_n 0, 1) := by decide +kernel
theorem dX2_gather_70 : decode cX2_gather 70 = .ok (.getfield 18, 3) := by decide +kernel
theorem dX2_gather_73 : decode cX2_gather 73 = .ok (.iload_n 3, 1) := by decide +kernel
theorem dX2_gather_74 : decode cX2_gather 74 = .ok (.iaload, 1) := by decide +kernel
theorem dX2_gather_75 : decode cX2_gather 75 = .ok (.aload_n 0, 1) := by decide +kernel
theorem dX2_gather_76 : decode cX2_gather 76 = .ok (.getfield 12, 3) := by decide +kernel
theorem dX2_gather_79 : decode cX2_gather 79 = .ok (.getfield 83, 3) := by decide +kernel
theorem dX2_gather_82 : decode cX2_gather 82 = .ok (.iload_n 3, 1) := by decide +kernel
theorem dX2_gather_83 : decode cX2_gather 83 = .ok (.iaload, 1) := by decide +kernel
theorem dX2_gather_84 : decode cX2_gather 84 = .ok (.invokevirtual 86, 3) := by decide +kernel
theorem dX2_gather_87 : decode cX2_gather 87 = .ok (.invokevirtual 89, 3) := by decide +kernel
theorem dX2_gather_90 : decode cX2_gather 90 = .ok (.iinc 3 1, 3) := by decide +kernel
theorem dX2_gather_93 : decode cX2_gather 93 = .ok (.goto (-77), 3) := by decide +kernel
theorem dX2_gather_96 : decode cX2_gather 96 = .ok (.iconst 0, 1) := by decide +kernel
theorem dX2_gather_97 : decode cX2_gather 97 = .ok (.istore_n 3, 1) := by decide +kernel
theorem dX2_gather_98 : decode cX2_gather 98 = .ok (.iload_n 3, 1) := by decide +kernel
theorem dX2_gather_99 : decode cX2_gather 99 = .ok (.iconst 2, 1) := by decide +kernel
theorem dX2_gather_100 : decode cX2_gather 100 = .ok (.if_icmp .ge 83, 3) := by decide +kernel
theorem dX2_gather_103 : decode cX2_gather 103 = .ok (.iconst 0, 1) := by decide +kernel
theorem dX2_gather_104 : decode cX2_gather 104 = .ok (.istore 4, 2) := by decide +kernel
theorem dX2_gather_106 : decode cX2_gather 106 = .ok (.iload 4, 2) := by decide +kernel
theorem dX2_gather_108 : decode cX2_gather 108 = .ok (.bipush 24, 2) := by decide +kernel
theorem dX2_gather_110 : decode cX2_gather 110 = .ok (.if_icmp .ge 19, 3) := by decide +kernel
theorem dX2_gather_113 : decode cX2_gather 113 = .ok (.aload_n 0, 1) := by decide +kernel
theorem dX2_gather_114 : decode cX2_gather 114 = .ok (.getfield 43, 3) := by decide +kernel
theorem dX2_gather_117 : decode cX2_gather 117 = .ok (.iload_n 3, 1) := by decide +kernel
theorem dX2_gather_118 : decode cX2_gather 118 = .ok (.aaload, 1) := by decide +kernel
theorem dX2_gather_119 : decode cX2_gather 119 = .ok (.iload 4, 2) := by decide +kernel
theorem dX2_gather_121 : decode cX2_gather 121 = .ok (.iconst 0, 1) := by decide +kernel
theorem dX2_gather_122 : decode cX2_gather 122 = .ok (.iastore, 1) := by decide +kernel
theorem dX2_gather_123 : decode cX2_gather 123 = .ok (.iinc 4 1, 3) := by decide +kernel
theorem dX2_gather_126 : decode cX2_gather 126 = .ok (.goto (-20), 3) := by decide +kernel
theorem dX2_gather_129 : decode cX2_gather 129 = .ok (.iconst 0, 1) := by decide +kernel
theorem dX2_gather_130 : decode cX2_gather 130 = .ok (.istore 4, 2) := by decide +kernel
theorem dX2_gather_132 : decode cX2_gather 132 = .ok (.iload 4, 2) := by decide +kernel
theorem dX2_gather_134 : decode cX2_gather 134 = .ok (.aload_n 0, 1) := by decide +kernel
theorem dX2_gather_135 : decode cX2_gather 135 = .ok (.getfield 40, 3) := by decide +kernel
theorem dX2_gather_138 : decode cX2_gather 138 = .ok (.iload_n 3, 1) := by decide +kernel
theorem dX2_gather_139 : decode cX2_gather 139 = .ok (.iaload, 1) := by decide +kernel
theorem dX2_gather_140 : decode cX2_gather 140 = .ok (.if_icmp .ge 37, 3) := by decide +kernel
theorem dX2_gather_143 : decode cX2_gather 143 = .ok (.aload_n 0, 1) := by decide +kernel
theorem dX2_gather_144 : decode cX2_gather 144 = .ok (.getfield 43, 3) := by decide +kernel
theorem dX2_gather_147 : decode cX2_gather 147 = .ok (.iload_n 3, 1) := by decide +kernel
theorem dX2_gather_148 : decode cX2_gather 148 = .ok (.aaload, 1) := by decide +kernel
theorem dX2_gather_149 : decode cX2_gather 149 = .ok (.aload_n 0, 1) := by decide +kernel
theorem dX2_gather_150 : decode cX2_gather 150 = .ok (.getfield 18, 3) := by decide +kernel
theorem dX2_gather_153 : decode cX2_gather 153 = .ok (.aload_n 0, 1) := by decide +kernel
theorem dX2_gather_154 : decode cX2_gather 154 = .ok (.getfield 34, 3) := by decide +kernel
theorem dX2_gather_157 : decode cX2_gather 157 = .ok (.iload_n 3, 1) := by decide +kernel
theorem dX2_gather_158 : decode cX2_gather 158 = .ok (.aaload, 1) := by decide +kernel
theorem dX2_gather_159 : decode cX2_gather 159 = .ok (.iload 4, 2) := by decide +kernel
theorem dX2_gather_161 : decode cX2_gather 161 = .ok (.iaload, 1) := by decide +kernel
theorem dX2_gather_162 : decode cX2_gather 162 = .ok (.iaload, 1) := by decide +kernel
theorem dX2_gather_163 : decode cX2_gather 163 = .ok (.dup2, 1) := by decide +kernel
theorem dX2_gather_164 : decode cX2_gather 164 = .ok (.iaload, 1) := by decide +kernel
theorem dX2_gather_165 : decode cX2_gather 165 = .ok (.iconst 1, 1) := by decide +kernel
theorem dX2_gather_166 : decode cX2_gather 166 = .ok (.iload 4, 2) := by decide +kernel
theorem dX2_gather_168 : decode cX2_gather 168 = .ok (.ishl, 1) := by decide +kernel
theorem dX2_gather_169 : decode cX2_gather 169 = .ok (.ior, 1) := by decide +kernel
theorem dX2_gather_170 : decode cX2_gather 170 = .ok (.iastore, 1) := by decide +kernel
theorem dX2_gather_171 : decode cX2_gather 171 = .ok (.iinc 4 1, 3) := by decide +kernel
theorem dX2_gather_174 : decode cX2_gather 174 = .ok (.goto (-42), 3) := by decide +kernel
theorem dX2_gather_177 : decode cX2_gather 177 = .ok (.iinc 3 1, 3) := by decide +kernel
theorem dX2_gather_180 : decode cX2_gather 180 = .ok (.goto (-82), 3) := by decide +kernel
theorem dX2_gather_183 : decode cX2_gather 183 = .ok (.return_, 1) := by decide +kernel
def lX2_gather_16 (u6 u7 u8 : Int) (K96 : ZS → Option (Int × ZS)) : Nat → ZS → Int → Option (Int × ZS)
  | 0, _, _ => none
  | n1 + 1, s5, x9 => (zgw s5 u7 0).bind (fun v10 => if v10 ≤ x9 then (K96 s5) else ((zg s5 2 u6 1).bind (fun v12 => (zgw s5 u7 1).bind (fun v13 => (zal s5 100 v13 x9).bind (fun v14 => zb (zv s5 2 u6 (fX2_cameBy s5 u6 x9 v14)) (fun v15 s16 => (zas s16 100 v12 x9 v15).bind (fun s18 => zjn (fun (K90 : ZS → Option (Int × ZS)) => if x9 = u8 then (K90 s18) else ((zg s18 2 u6 1).bind (fun v20 => (zal s18 100 v20 x9).bind (fun v21 => if v21 = (-1) then (K90 s18) else ((zgw s18 u7 1).bind (fun v23 => (zal s18 100 v23 x9).bind (fun v24 => if 24 = 0 then none else ((zg s18 2 u6 1).bind (fun v25 => (zal s18 100 v25 x9).bind (fun v26 => (zg s18 2 u6 0).bind (fun v27 => (zg s18 5 v27 6).bind (fun v28 => (zal s18 100 v28 x9).bind (fun v29 => zb (zw s18 u7 (fX10_order s18 u7 x9 v26 v29) (fX10_order s18 u7 x9 v26 v29) (fX3_order s18 u7 x9 v26 v29) (fX0_order s18 u7 x9 v26 v29) (fX1_order s18 u7 x9 v26 v29) (fX7_order s18 u7 x9 v26 v29)) (fun v30 s31 => zb (zv s31 2 u6 (fX2_rank s31 u6 (wrap (v24.tdiv 24)) x9 v30)) (fun v34 s35 => K90 s35))))))))))))))) (fun (s37 : ZS) => lX2_gather_16 u6 u7 u8 K96 n1 s37 (wrap (x9 + 1))))))))))

def lX2_gather_106 (u45 u46 : Int) (K129 : ZS → Option (Int × ZS)) : Nat → ZS → Int → Option (Int × ZS)
  | 0, _, _ => none
  | n2 + 1, s44, x47 => if 24 ≤ x47 then (K129 s44) else ((zg s44 2 u45 8).bind (fun v49 => (zal s44 102 v49 u46).bind (fun v50 => (zas s44 100 v50 x47 0).bind (fun s51 => lX2_gather_106 u45 u46 K129 n2 s51 (wrap (x47 + 1))))))

def lX2_gather_132 (u55 u56 : Int) (K177 : ZS → Option (Int × ZS)) : Nat → ZS → Int → Option (Int × ZS)
  | 0, _, _ => none
  | n2 + 1, s54, x57 => (zg s54 2 u55 7).bind (fun v58 => (zal s54 100 v58 u56).bind (fun v59 => if v59 ≤ x57 then (K177 s54) else ((zg s54 2 u55 8).bind (fun v61 => (zal s54 102 v61 u56).bind (fun v62 => (zg s54 2 u55 1).bind (fun v63 => (zg s54 2 u55 5).bind (fun v64 => (zal s54 102 v64 u56).bind (fun v65 => (zal s54 100 v65 x57).bind (fun v66 => (zal s54 100 v63 v66).bind (fun v67 => (zal s54 100 v62 v67).bind (fun v68 => (zas s54 100 v62 v67 (iOr v68 (iShl 1 x57))).bind (fun s69 => lX2_gather_132 u55 u56 K177 n2 s69 (wrap (x57 + 1))))))))))))))

def lX2_gather_98 (u41 : Int)  : Nat → ZS → Int → Option (Int × ZS)
  | 0, _, _ => none
  | n1 + 1, s40, x42 => if 2 ≤ x42 then (some (0, s40)) else (lX2_gather_106 u41 x42 (fun (s53 : ZS) => lX2_gather_132 u41 x42 (fun (s71 : ZS) => lX2_gather_98 u41 n1 s71 (wrap (x42 + 1))) 1000 s53 0) 1000 s40 0)

def fX2_gather (s0 : ZS) (a0 : Int) (a1 : Int) (a2 : Int) : Option (Int × ZS) := (zg s0 2 a0 7).bind (fun v1 => (zas s0 100 v1 0 0).bind (fun s2 => (zg s2 2 a0 7).bind (fun v3 => (zas s2 100 v3 1 0).bind (fun s4 => lX2_gather_16 a0 a1 a2 (fun (s39 : ZS) => lX2_gather_98 a0 1000 s39 0) 1000 s4 0))))
set_option maxHeartbeats 4000000 in
set_option maxRecDepth 100000 in
theorem mX2_gather (E : ZE) (hE : zOkE E) (l : Launch) (s0 : ZS) (a0 : Int) (a1 : Int) (a2 : Int) : Ct E l yX2_gather cX2_gather 5 none 6 [(2, a0), (2, a1), (0, a2)] 0 s0 (fX2_gather s0 a0 a1 a2) := by
  refine Ct.of (by decide) hE (Nat.le_of_ble_eq_true rfl) ?_
  intro X G hX hR hN hXE hXl hxn hk _
  subst hXE
  subst hXl
  have hX : G → ZOk X cX2_gather RX2 6 := hX
  clear hN
  show Zj X G 0 [(0, (2, a0)), (1, (2, a1)), (2, (0, a2))] [] s0 _
  unfold fX2_gather
  refine z_aload_n (pc := 0) hX 0 dX2_gather_0 rfl rfl ?_
  refine z_get (pc := 1) hX zc2 7 (by decide) wd163 rfl rfl dX2_gather_1 (fun v1 => ?_)
  refine z_iconst (pc := 4) hX dX2_gather_4 ?_
  refine z_iconst (pc := 5) hX dX2_gather_5 ?_
  refine z_iastA (pc := 6) hX dX2_gather_6 (fun s2 => ?_)
  refine z_aload_n (pc := 7) hX 0 dX2_gather_7 rfl rfl ?_
  refine z_get (pc := 8) hX zc2 7 (by decide) wd163 rfl rfl dX2_gather_8 (fun v3 => ?_)
  refine z_iconst (pc := 11) hX dX2_gather_11 ?_
  refine z_iconst (pc := 12) hX dX2_gather_12 ?_
  refine z_iastA (pc := 13) hX dX2_gather_13 (fun s4 => ?_)
  refine z_iconst (pc := 14) hX dX2_gather_14 ?_
  refine z_istore_n (lv' := [(3, (0, 0)), (0, (2, a0)), (1, (2, a1)), (2, (0, a2))]) (pc := 15) hX dX2_gather_15 rfl (zlt hxn rfl) rfl ?_
  have hl16 : ∀ (u6 u7 u8 : Int), ∀ (K96 : ZS → Option (Int × ZS)), (∀ (s38 : ZS), Zj X G 96 [(0, (2, u6))] [] s38 (K96 s38)) → ∀ (n1 : Nat) (s5 : ZS) (x9 : Int), Zj X G 16 [(0, (2, u6)), (1, (2, u7)), (2, (0, u8)), (3, (0, x9))] [] s5 (lX2_gather_16 u6 u7 u8 K96 n1 s5 x9) := by
    intro u6 u7 u8 K96 hK96 n1
    induction n1 with
    | zero => intro _ _; exact z_none
    | succ n1 ih1 =>
      intro s5 x9
      rw [lX2_gather_16]
      refine z_iload_n (pc := 16) hX 3 dX2_gather_16 rfl rfl ?_
      refine z_aload_n (pc := 17) hX 1 dX2_gather_17 rfl rfl ?_
      refine z_getw (pc := 18) hX zc10 zc9 zc3 zc0 zc1 zc7 0 (by decide) wd616 rfl rfl rfl rfl rfl rfl rfl rfl rfl rfl rfl rfl rfl dX2_gather_18 (fun v10 => ?_)
      refine z_icmp_ge (pc := 21) hX 96 dX2_gather_21 (by decide) (fun h11 => ?_) (fun h11 => ?_)
      · refine z_pick (lv' := [(0, (2, u6))]) [0] rfl ?_
        exact hK96 _
      · refine z_aload_n (pc := 24) hX 0 dX2_gather_24 rfl rfl ?_
        refine z_get (pc := 25) hX zc2 1 (by decide) wd153 rfl rfl dX2_gather_25 (fun v12 => ?_)
        refine z_iload_n (pc := 28) hX 3 dX2_gather_28 rfl rfl ?_
        refine z_aload_n (pc := 29) hX 0 dX2_gather_29 rfl rfl ?_
        refine z_iload_n (pc := 30) hX 3 dX2_gather_30 rfl rfl ?_
        refine z_aload_n (pc := 31) hX 1 dX2_gather_31 rfl rfl ?_
        refine z_getw (pc := 32) hX zc10 zc9 zc3 zc0 zc1 zc7 1 (by decide) wd619 rfl rfl rfl rfl rfl rfl rfl rfl rfl rfl rfl rfl rfl dX2_gather_32 (fun v13 => ?_)
        refine z_iload_n (pc := 35) hX 3 dX2_gather_35 rfl rfl ?_
        refine z_iald (pc := 36) hX dX2_gather_36 (fun v14 => ?_)
        refine z_callV (n := 2) (st := [(0, x9), (2, v12)]) (pc := 37) hX zc2 rfl (fun _ => (mX2_cameBy _ hE _ _ _ _ _)) ⟨wd731, wd62, wd734, ⟨by decide, by decide, by decide⟩, by decide⟩ rfl wd733 wd19 rfl rfl (by decide) (Nat.le_of_ble_eq_true rfl) dX2_gather_37 (fun v15 s16 r17 => ?_)
        show Zj X G 40 [(0, (2, u6)), (1, (2, u7)), (2, (0, u8)), (3, (0, x9))] [(0, v15), (0, x9), (2, v12)] _ _
        refine z_iastA (pc := 40) hX dX2_gather_40 (fun s18 => ?_)
        refine z_iload_n (pc := 41) hX 3 dX2_gather_41 rfl rfl ?_
        refine z_iload_n (pc := 42) hX 2 dX2_gather_42 rfl rfl ?_
        refine z_jn (fun K90 eK90 => ?_)
        have hK90 : ∀ (s37 : ZS), Zj X G 90 [(0, (2, u6)), (1, (2, u7)), (2, (0, u8)), (3, (0, x9))] [] s37 (K90 s37) := by
          intro s37
          rw [eK90]
          refine z_iinc (lv' := [(3, (0, (wrap (x9 + 1)))), (0, (2, u6)), (1, (2, u7)), (2, (0, u8))]) (pc := 90) hX 3 dX2_gather_90 rfl (zlt hxn rfl) rfl ?_
          refine z_goto (pc := 93) hX 16 dX2_gather_93 (by decide) ?_
          refine z_pick (lv' := [(0, (2, u6)), (1, (2, u7)), (2, (0, u8)), (3, (0, (wrap (x9 + 1))))]) [1, 2, 3, 0] rfl ?_
          exact ih1 _ _
        clear eK90
        refine z_icmp_eq (pc := 43) hX 90 dX2_gather_43 (by decide) (fun h19 => ?_) (fun h19 => ?_)
        · exact hK90 _
        · refine z_aload_n (pc := 46) hX 0 dX2_gather_46 rfl rfl ?_
          refine z_get (pc := 47) hX zc2 1 (by decide) wd153 rfl rfl dX2_gather_47 (fun v20 => ?_)
          refine z_iload_n (pc := 50) hX 3 dX2_gather_50 rfl rfl ?_
          refine z_iald (pc := 51) hX dX2_gather_51 (fun v21 => ?_)
          refine z_iconst (pc := 52) hX dX2_gather_52 ?_
          refine z_icmp_eq (pc := 53) hX 90 dX2_gather_53 (by decide) (fun h22 => ?_) (fun h22 => ?_)
          · exact hK90 _
          · refine z_aload_n (pc := 56) hX 0 dX2_gather_56 rfl rfl ?_
            refine z_aload_n (pc := 57) hX 1 dX2_gather_57 rfl rfl ?_
            refine z_getw (pc := 58) hX zc10 zc9 zc3 zc0 zc1 zc7 1 (by decide) wd619 rfl rfl rfl rfl rfl rfl rfl rfl rfl rfl rfl rfl rfl dX2_gather_58 (fun v23 => ?_)
            refine z_iload_n (pc := 61) hX 3 dX2_gather_61 rfl rfl ?_
            refine z_iald (pc := 62) hX dX2_gather_62 (fun v24 => ?_)
            refine z_bipush (pc := 63) hX dX2_gather_63 ?_
            refine z_idiv (pc := 65) hX dX2_gather_65 (fun _ => ?_)
            refine z_iload_n (pc := 66) hX 3 dX2_gather_66 rfl rfl ?_
            refine z_aload_n (pc := 67) hX 1 dX2_gather_67 rfl rfl ?_
            refine z_iload_n (pc := 68) hX 3 dX2_gather_68 rfl rfl ?_
            refine z_aload_n (pc := 69) hX 0 dX2_gather_69 rfl rfl ?_
            refine z_get (pc := 70) hX zc2 1 (by decide) wd153 rfl rfl dX2_gather_70 (fun v25 => ?_)
            refine z_iload_n (pc := 73) hX 3 dX2_gather_73 rfl rfl ?_
            refine z_iald (pc := 74) hX dX2_gather_74 (fun v26 => ?_)
            refine z_aload_n (pc := 75) hX 0 dX2_gather_75 rfl rfl ?_
            refine z_get (pc := 76) hX zc2 0 (by decide) wd151 rfl rfl dX2_gather_76 (fun v27 => ?_)
            refine z_get (pc := 79) hX zc5 6 (by decide) wd123 rfl rfl dX2_gather_79 (fun v28 => ?_)
            refine z_iload_n (pc := 82) hX 3 dX2_gather_82 rfl rfl ?_
            refine z_iald (pc := 83) hX dX2_gather_83 (fun v29 => ?_)
            refine z_kk (rk := 1) (st := [(0, x9), (0, (wrap (v24.tdiv 24))), (2, u6)]) (pc' := 87) (fun kk => z_zw (z_callV (n := 3) (pc := 84) (st := [(0, x9), (0, (wrap (v24.tdiv 24))), (2, u6)]) hX zc10 rfl (fun _ => (mX10_order _ hE _ _ _ _ _ _)) ⟨wd735, wd76, wd757, ⟨by decide, by decide, by decide⟩, by decide⟩ rfl wd736 wd737 rfl rfl (by decide) (Nat.le_of_ble_eq_true rfl) dX2_gather_84 kk) (z_callU (n := 3) (pc := 84) (x := yX10_order) (owner := "GateRoad$Way") (st := [(0, x9), (0, (wrap (v24.tdiv 24))), (2, u6)]) hX zc9 rfl (fun _ => (mX10_order _ hE _ _ _ _ _ _)) wd735 wd738 wd736 wd756 wd736 wd76 wd757 wd757 ⟨by decide, by decide, by decide⟩ (by decide) rfl rfl (by decide) (Nat.le_of_ble_eq_true rfl) dX2_gather_84 kk) (z_callU (n := 3) (pc := 84) (x := yX10_order) (owner := "GateRoad$Way") (st := [(0, x9), (0, (wrap (v24.tdiv 24))), (2, u6)]) hX zc3 rfl (fun _ => (mX3_order _ hE _ _ _ _ _ _)) wd735 wd738 wd736 wd749 wd743 wd78 wd744 wd757 ⟨by decide, by decide, by decide⟩ (by decide) rfl rfl (by decide) (Nat.le_of_ble_eq_true rfl) dX2_gather_84 kk) (z_callU (n := 3) (pc := 84) (x := yX10_order) (owner := "GateRoad$Way") (st := [(0, x9), (0, (wrap (v24.tdiv 24))), (2, u6)]) hX zc0 rfl (fun _ => (mX0_order _ hE _ _ _ _ _ _)) wd735 wd738 wd736 wd739 wd740 wd79 wd741 wd757 ⟨by decide, by decide, by decide⟩ (by decide) rfl rfl (by decide) (Nat.le_of_ble_eq_true rfl) dX2_gather_84 kk) (z_callU (n := 3) (pc := 84) (x := yX10_order) (owner := "GateRoad$Way") (st := [(0, x9), (0, (wrap (v24.tdiv 24))), (2, u6)]) hX zc1 rfl (fun _ => (mX1_order _ hE _ _ _ _ _ _)) wd735 wd738 wd736 wd745 wd746 wd80 wd747 wd757 ⟨by decide, by decide, by decide⟩ (by decide) rfl rfl (by decide) (Nat.le_of_ble_eq_true rfl) dX2_gather_84 kk) (z_callU (n := 3) (pc := 84) (x := yX10_order) (owner := "GateRoad$Way") (st := [(0, x9), (0, (wrap (v24.tdiv 24))), (2, u6)]) hX zc7 rfl (fun _ => (mX7_order _ hE _ _ _ _ _ _)) wd735 wd738 wd736 wd750 wd751 wd81 wd752 wd757 ⟨by decide, by decide, by decide⟩ (by decide) rfl rfl (by decide) (Nat.le_of_ble_eq_true rfl) dX2_gather_84 kk)) (fun v30 s31 r32 => ?_)
            show Zj X G 87 [(0, (2, u6)), (1, (2, u7)), (2, (0, u8)), (3, (0, x9))] [(0, v30), (0, x9), (0, (wrap (v24.tdiv 24))), (2, u6)] _ _
            refine z_callV (n := 3) (st := []) (pc := 87) hX zc2 rfl (fun _ => (mX2_rank _ hE _ _ _ _ _ _)) ⟨wd758, wd62, wd761, ⟨by decide, by decide, by decide⟩, by decide⟩ rfl wd760 wd20 rfl rfl (by decide) (Nat.le_of_ble_eq_true rfl) dX2_gather_87 (fun v34 s35 r36 => ?_)
            show Zj X G 90 [(0, (2, u6)), (1, (2, u7)), (2, (0, u8)), (3, (0, x9))] [] _ _
            exact hK90 _
  refine z_pick (lv' := [(0, (2, a0)), (1, (2, a1)), (2, (0, a2)), (3, (0, 0))]) [1, 2, 3, 0] rfl ?_
  refine hl16 _ _ _ _ (fun s39 => ?_) 1000 _ _
  refine z_iconst (pc := 96) hX dX2_gather_96 ?_
  refine z_istore_n (lv' := [(3, (0, 0)), (0, (2, a0))]) (pc := 97) hX dX2_gather_97 rfl (zlt hxn rfl) rfl ?_
  have hl98 : ∀ (u41 : Int), ∀ (n1 : Nat) (s40 : ZS) (x42 : Int), Zj X G 98 [(0, (2, u41)), (3, (0, x42))] [] s40 (lX2_gather_98 u41 n1 s40 x42) := by
    intro u41 n1
    induction n1 with
    | zero => intro _ _; exact z_none
    | succ n1 ih1 =>
      intro s40 x42
      rw [lX2_gather_98]
      refine z_iload_n (pc := 98) hX 1 dX2_gather_98 rfl rfl ?_
      refine z_iconst (pc := 99) hX dX2_gather_99 ?_
      refine z_icmp_ge (pc := 100) hX 183 dX2_gather_100 (by decide) (fun h43 => ?_) (fun h43 => ?_)
      · exact z_vret (pc := 183) hX hR hk dX2_gather_183
      · refine z_iconst (pc := 103) hX dX2_gather_103 ?_
        refine z_istore (lv' := [(4, (0, 0)), (0, (2, u41)), (3, (0, x42))]) (pc := 104) hX dX2_gather_104 (zlt hxn rfl) rfl ?_
        have hl106 : ∀ (u45 u46 : Int), ∀ (K129 : ZS → Option (Int × ZS)), (∀ (s52 : ZS), Zj X G 129 [(0, (2, u45)), (3, (0, u46))] [] s52 (K129 s52)) → ∀ (n2 : Nat) (s44 : ZS) (x47 : Int), Zj X G 106 [(0, (2, u45)), (3, (0, u46)), (4, (0, x47))] [] s44 (lX2_gather_106 u45 u46 K129 n2 s44 x47) := by
          intro u45 u46 K129 hK129 n2
          induction n2 with
          | zero => intro _ _; exact z_none
          | succ n2 ih2 =>
            intro s44 x47
            rw [lX2_gather_106]
            refine z_iload (pc := 106) hX 2 dX2_gather_106 rfl ?_
            refine z_bipush (pc := 108) hX dX2_gather_108 ?_
            refine z_icmp_ge (pc := 110) hX 129 dX2_gather_110 (by decide) (fun h48 => ?_) (fun h48 => ?_)
            · refine z_pick (lv' := [(0, (2, u45)), (3, (0, u46))]) [0, 1] rfl ?_
              exact hK129 _
            · refine z_aload_n (pc := 113) hX 0 dX2_gather_113 rfl rfl ?_
              refine z_get (pc := 114) hX zc2 8 (by decide) wd164 rfl rfl dX2_gather_114 (fun v49 => ?_)
              refine z_iload_n (pc := 117) hX 1 dX2_gather_117 rfl rfl ?_
              refine z_aald (pc := 118) hX 2 102 (by decide) rfl rfl dX2_gather_118 (fun v50 => ?_)
              refine z_iload (pc := 119) hX 2 dX2_gather_119 rfl ?_
              refine z_iconst (pc := 121) hX dX2_gather_121 ?_
              refine z_iastA (pc := 122) hX dX2_gather_122 (fun s51 => ?_)
              refine z_iinc (lv' := [(4, (0, (wrap (x47 + 1)))), (0, (2, u45)), (3, (0, u46))]) (pc := 123) hX 2 dX2_gather_123 rfl (zlt hxn rfl) rfl ?_
              refine z_goto (pc := 126) hX 106 dX2_gather_126 (by decide) ?_
              refine z_pick (lv' := [(0, (2, u45)), (3, (0, u46)), (4, (0, (wrap (x47 + 1))))]) [1, 2, 0] rfl ?_
              exact ih2 _ _
        refine z_pick (lv' := [(0, (2, u41)), (3, (0, x42)), (4, (0, 0))]) [1, 2, 0] rfl ?_
        refine hl106 _ _ _ (fun s53 => ?_) 1000 _ _
        refine z_iconst (pc := 129) hX dX2_gather_129 ?_
        refine z_istore (lv' := [(4, (0, 0)), (0, (2, u41)), (3, (0, x42))]) (pc := 130) hX dX2_gather_130 (zlt hxn rfl) rfl ?_
        have hl132 : ∀ (u55 u56 : Int), ∀ (K177 : ZS → Option (Int × ZS)), (∀ (s70 : ZS), Zj X G 177 [(0, (2, u55)), (3, (0, u56))] [] s70 (K177 s70)) → ∀ (n2 : Nat) (s54 : ZS) (x57 : Int), Zj X G 132 [(0, (2, u55)), (3, (0, u56)), (4, (0, x57))] [] s54 (lX2_gather_132 u55 u56 K177 n2 s54 x57) := by
          intro u55 u56 K177 hK177 n2
          induction n2 with
          | zero => intro _ _; exact z_none
          | succ n2 ih2 =>
            intro s54 x57
            rw [lX2_gather_132]
            refine z_iload (pc := 132) hX 2 dX2_gather_132 rfl ?_
            refine z_aload_n (pc := 134) hX 0 dX2_gather_134 rfl rfl ?_
            refine z_get (pc := 135) hX zc2 7 (by decide) wd163 rfl rfl dX2_gather_135 (fun v58 => ?_)
            refine z_iload_n (pc := 138) hX 1 dX2_gather_138 rfl rfl ?_
            refine z_iald (pc := 139) hX dX2_gather_139 (fun v59 => ?_)
            refine z_icmp_ge (pc := 140) hX 177 dX2_gather_140 (by decide) (fun h60 => ?_) (fun h60 => ?_)
            · refine z_pick (lv' := [(0, (2, u55)), (3, (0, u56))]) [0, 1] rfl ?_
              exact hK177 _
            · refine z_aload_n (pc := 143) hX 0 dX2_gather_143 rfl rfl ?_
              refine z_get (pc := 144) hX zc2 8 (by decide) wd164 rfl rfl dX2_gather_144 (fun v61 => ?_)
              refine z_iload_n (pc := 147) hX 1 dX2_gather_147 rfl rfl ?_
              refine z_aald (pc := 148) hX 2 102 (by decide) rfl rfl dX2_gather_148 (fun v62 => ?_)
              refine z_aload_n (pc := 149) hX 0 dX2_gather_149 rfl rfl ?_
              refine z_get (pc := 150) hX zc2 1 (by decide) wd153 rfl rfl dX2_gather_150 (fun v63 => ?_)
              refine z_aload_n (pc := 153) hX 0 dX2_gather_153 rfl rfl ?_
              refine z_get (pc := 154) hX zc2 5 (by decide) wd161 rfl rfl dX2_gather_154 (fun v64 => ?_)
              refine z_iload_n (pc := 157) hX 1 dX2_gather_157 rfl rfl ?_
              refine z_aald (pc := 158) hX 2 102 (by decide) rfl rfl dX2_gather_158 (fun v65 => ?_)
              refine z_iload (pc := 159) hX 2 dX2_gather_159 rfl ?_
              refine z_iald (pc := 161) hX dX2_gather_161 (fun v66 => ?_)
              refine z_iald (pc := 162) hX dX2_gather_162 (fun v67 => ?_)
              refine z_dup2 (pc := 163) hX zn0 zn2 dX2_gather_163 ?_
              refine z_iald (pc := 164) hX dX2_gather_164 (fun v68 => ?_)
              refine z_iconst (pc := 165) hX dX2_gather_165 ?_
              refine z_iload (pc := 166) hX 2 dX2_gather_166 rfl ?_
              refine z_ishl (pc := 168) hX dX2_gather_168 ?_
              refine z_ior (pc := 169) hX dX2_gather_169 ?_
              refine z_iastA (pc := 170) hX dX2_gather_170 (fun s69 => ?_)
              refine z_iinc (lv' := [(4, (0, (wrap (x57 + 1)))), (0, (2, u55)), (3, (0, u56))]) (pc := 171) hX 2 dX2_gather_171 rfl (zlt hxn rfl) rfl ?_
              refine z_goto (pc := 174) hX 132 dX2_gather_174 (by decide) ?_
              refine z_pick (lv' := [(0, (2, u55)), (3, (0, u56)), (4, (0, (wrap (x57 + 1))))]) [1, 2, 0] rfl ?_
              exact ih2 _ _
        refine z_pick (lv' := [(0, (2, u41)), (3, (0, x42)), (4, (0, 0))]) [1, 2, 0] rfl ?_
        refine hl132 _ _ _ (fun s71 => ?_) 1000 _ _
        refine z_iinc (lv' := [(3, (0, (wrap (x42 + 1)))), (0, (2, u41))]) (pc := 177) hX 1 dX2_gather_177 rfl (zlt hxn rfl) rfl ?_
        refine z_goto (pc := 180) hX 98 dX2_gather_180 (by decide) ?_
        refine z_pick (lv' := [(0, (2, u41)), (3, (0, (wrap (x42 + 1))))]) [1, 0] rfl ?_
        exact ih1 _ _
  refine z_pick (lv' := [(0, (2, a0)), (3, (0, 0))]) [1, 0] rfl ?_
  refine hl98 _ 1000 _ _

theorem dJ6_bitCount_0f7a4_0 : decode cJ6_bitCount_0f7a4 0 = .ok (.iload_n 0, 1) := by decide +kernel
theorem dJ6_bitCount_0f7a4_1 : decode cJ6_bitCount_0f7a4 1 = .ok (.iload_n 0, 1) := by decide +kernel
theorem dJ6_bitCount_0f7a4_2 : decode cJ6_bitCount_0f7a4 2 = .ok (.iconst 1, 1) := by decide +kernel
theorem dJ6_bitCount_0f7a4_3 : decode cJ6_bitCount_0f7a4 3 = .ok (.iushr, 1) := by decide +kernel
theorem dJ6_bitCount_0f7a4_4 : decode cJ6_bitCount_0f7a4 4 = .ok (.ldc_w 265, 3) := by decide +kernel
theorem dJ6_bitCount_0f7a4_7 : decode cJ6_bitCount_0f7a4 7 = .ok (.iand, 1) := by decide +kernel
theorem dJ6_bitCount_0f7a4_8 : decode cJ6_bitCount_0f7a4 8 = .ok (.isub, 1) := by decide +kernel
theorem dJ6_bitCount_0f7a4_9 : decode cJ6_bitCount_0f7a4 9 = .ok (.istore_n 0, 1) := by decide +kernel
theorem dJ6_bitCount_0f7a4_10 : decode cJ6_bitCount_0f7a4 10 = .ok (.iload_n 0, 1) := by decide +kernel
theorem dJ6_bitCount_0f7a4_11 : decode cJ6_bitCount_0f7a4 11 = .ok (.ldc_w 266, 3) := by decide +kernel
theorem dJ6_bitCount_0f7a4_14 : decode cJ6_bitCount_0f7a4 14 = .ok (.iand, 1) := by decide +kernel
theorem dJ6_bitCount_0f7a4_15 : decode cJ6_bitCount_0f7a4 15 = .ok (.iload_n 0, 1) := by decide +kernel
theorem dJ6_bitCount_0f7a4_16 : decode cJ6_bitCount_0f7a4 16 = .ok (.iconst 2, 1) := by decide +kernel
theorem dJ6_bitCount_0f7a4_17 : decode cJ6_bitCount_0f7a4 17 = .ok (.iushr, 1) := by decide +kernel
theorem dJ6_bitCount_0f7a4_18 : decode cJ6_bitCount_0f7a4 18 = .ok (.ldc_w 266, 3) := by decide +kernel
theorem dJ6_bitCount_0f7a4_21 : decode cJ6_bitCount_0f7a4 21 = .ok (.iand, 1) := by decide +kernel
theorem dJ6_bitCount_0f7a4_22 : decode cJ6_bitCount_0f7a4 22 = .ok (.iadd, 1) := by decide +kernel
theorem dJ6_bitCount_0f7a4_23 : decode cJ6_bitCount_0f7a4 23 = .ok (.istore_n 0, 1) := by decide +kernel
theorem dJ6_bitCount_0f7a4_24 : decode cJ6_bitCount_0f7a4 24 = .ok (.iload_n 0, 1) := by decide +kernel
theorem dJ6_bitCount_0f7a4_25 : decode cJ6_bitCount_0f7a4 25 = .ok (.iload_n 0, 1) := by decide +kernel
theorem dJ6_bitCount_0f7a4_26 : decode cJ6_bitCount_0f7a4 26 = .ok (.iconst 4, 1) := by decide +kernel
theorem dJ6_bitCount_0f7a4_27 : decode cJ6_bitCount_0f7a4 27 = .ok (.iushr, 1) := by decide +kernel
theorem dJ6_bitCount_0f7a4_28 : decode cJ6_bitCount_0f7a4 28 = .ok (.iadd, 1) := by decide +kernel
theorem dJ6_bitCount_0f7a4_29 : decode cJ6_bitCount_0f7a4 29 = .ok (.ldc_w 267, 3) := by decide +kernel
theorem dJ6_bitCount_0f7a4_32 : decode cJ6_bitCount_0f7a4 32 = .ok (.iand, 1) := by decide +kernel
theorem dJ6_bitCount_0f7a4_33 : decode cJ6_bitCount_0f7a4 33 = .ok (.istore_n 0, 1) := by decide +kernel
theorem dJ6_bitCount_0f7a4_34 : decode cJ6_bitCount_0f7a4 34 = .ok (.iload_n 0, 1) := by decide +kernel
theorem dJ6_bitCount_0f7a4_35 : decode cJ6_bitCount_0f7a4 35 = .ok (.iload_n 0, 1) := by decide +kernel
theorem dJ6_bitCount_0f7a4_36 : decode cJ6_bitCount_0f7a4 36 = .ok (.bipush 8, 2) := by decide +kernel
theorem dJ6_bitCount_0f7a4_38 : decode cJ6_bitCount_0f7a4 38 = .ok (.iushr, 1) := by decide +kernel
theorem dJ6_bitCount_0f7a4_39 : decode cJ6_bitCount_0f7a4 39 = .ok (.iadd, 1) := by decide +kernel
theorem dJ6_bitCount_0f7a4_40 : decode cJ6_bitCount_0f7a4 40 = .ok (.istore_n 0, 1) := by decide +kernel
theorem dJ6_bitCount_0f7a4_41 : decode cJ6_bitCount_0f7a4 41 = .ok (.iload_n 0, 1) := by decide +kernel
theorem dJ6_bitCount_0f7a4_42 : decode cJ6_bitCount_0f7a4 42 = .ok (.iload_n 0, 1) := by decide +kernel
theorem dJ6_bitCount_0f7a4_43 : decode cJ6_bitCount_0f7a4 43 = .ok (.bipush 16, 2) := by decide +kernel
theorem dJ6_bitCount_0f7a4_45 : decode cJ6_bitCount_0f7a4 45 = .ok (.iushr, 1) := by decide +kernel
theorem dJ6_bitCount_0f7a4_46 : decode cJ6_bitCount_0f7a4 46 = .ok (.iadd, 1) := by decide +kernel
theorem dJ6_bitCount_0f7a4_47 : decode cJ6_bitCount_0f7a4 47 = .ok (.istore_n 0, 1) := by decide +kernel
theorem dJ6_bitCount_0f7a4_48 : decode cJ6_bitCount_0f7a4 48 = .ok (.iload_n 0, 1) := by decide +kernel
theorem dJ6_bitCount_0f7a4_49 : decode cJ6_bitCount_0f7a4 49 = .ok (.bipush 63, 2) := by decide +kernel
theorem dJ6_bitCount_0f7a4_51 : decode cJ6_bitCount_0f7a4 51 = .ok (.iand, 1) := by decide +kernel
theorem dJ6_bitCount_0f7a4_52 : decode cJ6_bitCount_0f7a4 52 = .ok (.ireturn, 1) := by decide +kernel
def fJ6_bitCount_0f7a4 (s0 : ZS) (a0 : Int) : Option (Int × ZS) := some ((iAnd (wrap ((wrap ((iAnd (wrap ((wrap ((iAnd (wrap (a0 - (iAnd (iUshr a0 1) 1431655765))) 858993459) + (iAnd (iUshr (wrap (a0 - (iAnd (iUshr a0 1) 1431655765))) 2) 858993459))) + (iUshr (wrap ((iAnd (wrap (a0 - (iAnd (iUshr a0 1) 1431655765))) 858993459) + (iAnd (iUshr (wrap (a0 - (iAnd (iUshr a0 1) 1431655765))) 2) 858993459))) 4))) 252645135) + (iUshr (iAnd (wrap ((wrap ((iAnd (wrap (a0 - (iAnd (iUshr a0 1) 1431655765))) 858993459) + (iAnd (iUshr (wrap (a0 - (iAnd (iUshr a0 1) 1431655765))) 2) 858993459))) + (iUshr (wrap ((iAnd (wrap (a0 - (iAnd (iUshr a0 1) 1431655765))) 858993459) + (iAnd (iUshr (wrap (a0 - (iAnd (iUshr a0 1) 1431655765))) 2) 858993459))) 4))) 252645135) 8))) + (iUshr (wrap ((iAnd (wrap ((wrap ((iAnd (wrap (a0 - (iAnd (iUshr a0 1) 1431655765))) 858993459) + (iAnd (iUshr (wrap (a0 - (iAnd (iUshr a0 1) 1431655765))) 2) 858993459))) + (iUshr (wrap ((iAnd (wrap (a0 - (iAnd (iUshr a0 1) 1431655765))) 858993459) + (iAnd (iUshr (wrap (a0 - (iAnd (iUshr a0 1) 1431655765))) 2) 858993459))) 4))) 252645135) + (iUshr (iAnd (wrap ((wrap ((iAnd (wrap (a0 - (iAnd (iUshr a0 1) 1431655765))) 858993459) + (iAnd (iUshr (wrap (a0 - (iAnd (iUshr a0 1) 1431655765))) 2) 858993459))) + (iUshr (wrap ((iAnd (wrap (a0 - (iAnd (iUshr a0 1) 1431655765))) 858993459) + (iAnd (iUshr (wrap (a0 - (iAnd (iUshr a0 1) 1431655765))) 2) 858993459))) 4))) 252645135) 8))) 16))) 63), s0)
set_option maxHeartbeats 4000000 in
set_option maxRecDepth 100000 in
theorem mJ6_bitCount_0f7a4 (E : ZE) (hE : zOkE E) (l : Launch) (s0 : ZS) (a0 : Int) : Ct E l yJ6_bitCount_0f7a4 cJ6_bitCount_0f7a4 1 (some .int) 2 [(0, a0)] 1 s0 (fJ6_bitCount_0f7a4 s0 a0) := by
  refine Ct.of (by decide) hE (Nat.le_of_ble_eq_true rfl) ?_
  intro X G hX hR hN hXE hXl hxn hk _
  subst hXE
  subst hXl
  have hX : G → ZOk X cJ6_bitCount_0f7a4 RJ6 2 := hX
  clear hN
  show Zj X G 0 [(0, (0, a0))] [] s0 _
  unfold fJ6_bitCount_0f7a4
  refine z_iload_n (pc := 0) hX 0 dJ6_bitCount_0f7a4_0 rfl rfl ?_
  refine z_iload_n (pc := 1) hX 0 dJ6_bitCount_0f7a4_1 rfl rfl ?_
  refine z_iconst (pc := 2) hX dJ6_bitCount_0f7a4_2 ?_
  refine z_iushr (pc := 3) hX dJ6_bitCount_0f7a4_3 ?_
  refine z_ldc_w (n := 1431655765) (pc := 4) hX dJ6_bitCount_0f7a4_4 wd769 (by decide) ?_
  refine z_iand (pc := 7) hX dJ6_bitCount_0f7a4_7 ?_
  refine z_isub (pc := 8) hX dJ6_bitCount_0f7a4_8 ?_
  refine z_istore_n (lv' := [(0, (0, (wrap (a0 - (iAnd (iUshr a0 1) 1431655765)))))]) (pc := 9) hX dJ6_bitCount_0f7a4_9 rfl (zlt hxn rfl) rfl ?_
  refine z_iload_n (pc := 10) hX 0 dJ6_bitCount_0f7a4_10 rfl rfl ?_
  refine z_ldc_w (n := 858993459) (pc := 11) hX dJ6_bitCount_0f7a4_11 wd770 (by decide) ?_
  refine z_iand (pc := 14) hX dJ6_bitCount_0f7a4_14 ?_
  refine z_iload_n (pc := 15) hX 0 dJ6_bitCount_0f7a4_15 rfl rfl ?_
  refine z_iconst (pc := 16) hX dJ6_bitCount_0f7a4_16 ?_
  refine z_iushr (pc := 17) hX dJ6_bitCount_0f7a4_17 ?_
  refine z_ldc_w (n := 858993459) (pc := 18) hX dJ6_bitCount_0f7a4_18 wd770 (by decide) ?_
  refine z_iand (pc := 21) hX dJ6_bitCount_0f7a4_21 ?_
  refine z_iadd (pc := 22) hX dJ6_bitCount_0f7a4_22 ?_
  refine z_istore_n (lv' := [(0, (0, (wrap ((iAnd (wrap (a0 - (iAnd (iUshr a0 1) 1431655765))) 858993459) + (iAnd (iUshr (wrap (a0 - (iAnd (iUshr a0 1) 1431655765))) 2) 858993459)))))]) (pc := 23) hX dJ6_bitCount_0f7a4_23 rfl (zlt hxn rfl) rfl ?_
  refine z_iload_n (pc := 24) hX 0 dJ6_bitCount_0f7a4_24 rfl rfl ?_
  refine z_iload_n (pc := 25) hX 0 dJ6_bitCount_0f7a4_25 rfl rfl ?_
  refine z_iconst (pc := 26) hX dJ6_bitCount_0f7a4_26 ?_
  refine z_iushr (pc := 27) hX dJ6_bitCount_0f7a4_27 ?_
  refine z_iadd (pc := 28) hX dJ6_bitCount_0f7a4_28 ?_
  refine z_ldc_w (n := 252645135) (pc := 29) hX dJ6_bitCount_0f7a4_29 wd771 (by decide) ?_
  refine z_iand (pc := 32) hX dJ6_bitCount_0f7a4_32 ?_
  refine z_istore_n (lv' := [(0, (0, (iAnd (wrap ((wrap ((iAnd (wrap (a0 - (iAnd (iUshr a0 1) 1431655765))) 858993459) + (iAnd (iUshr (wrap (a0 - (iAnd (iUshr a0 1) 1431655765))) 2) 858993459))) + (iUshr (wrap ((iAnd (wrap (a0 - (iAnd (iUshr a0 1) 1431655765))) 858993459) + (iAnd (iUshr (wrap (a0 - (iAnd (iUshr a0 1) 1431655765))) 2) 858993459))) 4))) 252645135)))]) (pc := 33) hX dJ6_bitCount_0f7a4_33 rfl (zlt hxn rfl) rfl ?_
  refine z_iload_n (pc := 34) hX 0 dJ6_bitCount_0f7a4_34 rfl rfl ?_
  refine z_iload_n (pc := 35) hX 0 dJ6_bitCount_0f7a4_35 rfl rfl ?_
  refine z_bipush (pc := 36) hX dJ6_bitCount_0f7a4_36 ?_
  refine z_iushr (pc := 38) hX dJ6_bitCount_0f7a4_38 ?_
  refine z_iadd (pc := 39) hX dJ6_bitCount_0f7a4_39 ?_
  refine z_istore_n (lv' := [(0, (0, (wrap ((iAnd (wrap ((wrap ((iAnd (wrap (a0 - (iAnd (iUshr a0 1) 1431655765))) 858993459) + (iAnd (iUshr (wrap (a0 - (iAnd (iUshr a0 1) 1431655765))) 2) 858993459))) + (iUshr (wrap ((iAnd (wrap (a0 - (iAnd (iUshr a0 1) 1431655765))) 858993459) + (iAnd (iUshr (wrap (a0 - (iAnd (iUshr a0 1) 1431655765))) 2) 858993459))) 4))) 252645135) + (iUshr (iAnd (wrap ((wrap ((iAnd (wrap (a0 - (iAnd (iUshr a0 1) 1431655765))) 858993459) + (iAnd (iUshr (wrap (a0 - (iAnd (iUshr a0 1) 1431655765))) 2) 858993459))) + (iUshr (wrap ((iAnd (wrap (a0 - (iAnd (iUshr a0 1) 1431655765))) 858993459) + (iAnd (iUshr (wrap (a0 - (iAnd (iUshr a0 1) 1431655765))) 2) 858993459))) 4))) 252645135) 8)))))]) (pc := 40) hX dJ6_bitCount_0f7a4_40 rfl (zlt hxn rfl) rfl ?_
  refine z_iload_n (pc := 41) hX 0 dJ6_bitCount_0f7a4_41 rfl rfl ?_
  refine z_iload_n (pc := 42) hX 0 dJ6_bitCount_0f7a4_42 rfl rfl ?_
  refine z_bipush (pc := 43) hX dJ6_bitCount_0f7a4_43 ?_
  refine z_iushr (pc := 45) hX dJ6_bitCount_0f7a4_45 ?_
  refine z_iadd (pc := 46) hX dJ6_bitCount_0f7a4_46 ?_
  refine z_istore_n (lv' := [(0, (0, (wrap ((wrap ((iAnd (wrap ((wrap ((iAnd (wrap (a0 - (iAnd (iUshr a0 1) 1431655765))) 858993459) + (iAnd (iUshr (wrap (a0 - (iAnd (iUshr a0 1) 1431655765))) 2) 858993459))) + (iUshr (wrap ((iAnd (wrap (a0 - (iAnd (iUshr a0 1) 1431655765))) 858993459) + (iAnd (iUshr (wrap (a0 - (iAnd (iUshr a0 1) 1431655765))) 2) 858993459))) 4))) 252645135) + (iUshr (iAnd (wrap ((wrap ((iAnd (wrap (a0 - (iAnd (iUshr a0 1) 1431655765))) 858993459) + (iAnd (iUshr (wrap (a0 - (iAnd (iUshr a0 1) 1431655765))) 2) 858993459))) + (iUshr (wrap ((iAnd (wrap (a0 - (iAnd (iUshr a0 1) 1431655765))) 858993459) + (iAnd (iUshr (wrap (a0 - (iAnd (iUshr a0 1) 1431655765))) 2) 858993459))) 4))) 252645135) 8))) + (iUshr (wrap ((iAnd (wrap ((wrap ((iAnd (wrap (a0 - (iAnd (iUshr a0 1) 1431655765))) 858993459) + (iAnd (iUshr (wrap (a0 - (iAnd (iUshr a0 1) 1431655765))) 2) 858993459))) + (iUshr (wrap ((iAnd (wrap (a0 - (iAnd (iUshr a0 1) 1431655765))) 858993459) + (iAnd (iUshr (wrap (a0 - (iAnd (iUshr a0 1) 1431655765))) 2) 858993459))) 4))) 252645135) + (iUshr (iAnd (wrap ((wrap ((iAnd (wrap (a0 - (iAnd (iUshr a0 1) 1431655765))) 858993459) + (iAnd (iUshr (wrap (a0 - (iAnd (iUshr a0 1) 1431655765))) 2) 858993459))) + (iUshr (wrap ((iAnd (wrap (a0 - (iAnd (iUshr a0 1) 1431655765))) 858993459) + (iAnd (iUshr (wrap (a0 - (iAnd (iUshr a0 1) 1431655765))) 2) 858993459))) 4))) 252645135) 8))) 16)))))]) (pc := 47) hX dJ6_bitCount_0f7a4_47 rfl (zlt hxn rfl) rfl ?_
  refine z_iload_n (pc := 48) hX 0 dJ6_bitCount_0f7a4_48 rfl rfl ?_
  refine z_bipush (pc := 49) hX dJ6_bitCount_0f7a4_49 ?_
  refine z_iand (pc := 51) hX dJ6_bitCount_0f7a4_51 ?_
  exact z_iret (pc := 52) hX hR hk dJ6_bitCount_0f7a4_52
