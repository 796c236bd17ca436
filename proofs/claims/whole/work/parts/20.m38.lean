theorem dX11_split_0 : decode cX11_split 0 = .ok (.aload_n 0, 1) := by decide +kernel
theorem dX11_split_1 : decode cX11_split 1 = .ok (.iload_n 1, 1) := by decide +kernel
theorem dX11_split_2 : decode cX11_split 2 = .ok (.invokevirtual 177, 3) := by decide +kernel
theorem dX11_split_5 : decode cX11_split 5 = .ok (.astore 5, 2) := by decide +kernel
theorem dX11_split_7 : decode cX11_split 7 = .ok (.aload 5, 2) := by decide +kernel
theorem dX11_split_9 : decode cX11_split 9 = .ok (.ifnull 30, 3) := by decide +kernel
theorem dX11_split_12 : decode cX11_split 12 = .ok (.iload_n 2, 1) := by decide +kernel
theorem dX11_split_13 : decode cX11_split 13 = .ok (.bipush 48, 2) := by decide +kernel
theorem dX11_split_15 : decode cX11_split 15 = .ok (.invokestatic 102, 3) := by decide +kernel
theorem dX11_split_18 : decode cX11_split 18 = .ok (.ifCond .eq 21, 3) := by decide +kernel
theorem dX11_split_21 : decode cX11_split 21 = .ok (.iload_n 3, 1) := by decide +kernel
theorem dX11_split_22 : decode cX11_split 22 = .ok (.bipush 48, 2) := by decide +kernel
theorem dX11_split_24 : decode cX11_split 24 = .ok (.invokestatic 102, 3) := by decide +kernel
theorem dX11_split_27 : decode cX11_split 27 = .ok (.ifCond .eq 12, 3) := by decide +kernel
theorem dX11_split_30 : decode cX11_split 30 = .ok (.iload 4, 2) := by decide +kernel
theorem dX11_split_32 : decode cX11_split 32 = .ok (.iconst 1, 1) := by decide +kernel
theorem dX11_split_33 : decode cX11_split 33 = .ok (.invokestatic 102, 3) := by decide +kernel
theorem dX11_split_36 : decode cX11_split 36 = .ok (.ifCond .ne 7, 3) := by decide +kernel
theorem dX11_split_39 : decode cX11_split 39 = .ok (.ldc2_w 219, 3) := by decide +kernel
theorem dX11_split_42 : decode cX11_split 42 = .ok (.lreturn, 1) := by decide +kernel
theorem dX11_split_43 : decode cX11_split 43 = .ok (.aload 5, 2) := by decide +kernel
theorem dX11_split_45 : decode cX11_split 45 = .ok (.getfield 167, 3) := by decide +kernel
theorem dX11_split_48 : decode cX11_split 48 = .ok (.iconst 0, 1) := by decide +kernel
theorem dX11_split_49 : decode cX11_split 49 = .ok (.aload_n 0, 1) := by decide +kernel
theorem dX11_split_50 : decode cX11_split 50 = .ok (.getfield 75, 3) := by decide +kernel
theorem dX11_split_53 : decode cX11_split 53 = .ok (.iconst 0, 1) := by decide +kernel
theorem dX11_split_54 : decode cX11_split 54 = .ok (.bipush 16, 2) := by decide +kernel
theorem dX11_split_56 : decode cX11_split 56 = .ok (.invokestatic 171, 3) := by decide +kernel
theorem dX11_split_59 : decode cX11_split 59 = .ok (.aload 5, 2) := by decide +kernel
theorem dX11_split_61 : decode cX11_split 61 = .ok (.iconst 0, 1) := by decide +kernel
theorem dX11_split_62 : decode cX11_split 62 = .ok (.iload_n 2, 1) := by decide +kernel
theorem dX11_split_63 : decode cX11_split 63 = .ok (.iload_n 3, 1) := by decide +kernel
theorem dX11_split_64 : decode cX11_split 64 = .ok (.invokevirtual 262, 3) := by decide +kernel
theorem dX11_split_67 : decode cX11_split 67 = .ok (.iconst 0, 1) := by decide +kernel
theorem dX11_split_68 : decode cX11_split 68 = .ok (.istore 6, 2) := by decide +kernel
theorem dX11_split_70 : decode cX11_split 70 = .ok (.aload_n 0, 1) := by decide +kernel
theorem dX11_split_71 : decode cX11_split 71 = .ok (.aload 5, 2) := by decide +kernel
theorem dX11_split_73 : decode cX11_split 73 = .ok (.invokevirtual 249, 3) := by decide +kernel
theorem dX11_split_76 : decode cX11_split 76 = .ok (.lstore 7, 2) := by decide +kernel
theorem dX11_split_78 : decode cX11_split 78 = .ok (.iconst 1, 1) := by decide +kernel
theorem dX11_split_79 : decode cX11_split 79 = .ok (.istore 9, 2) := by decide +kernel
theorem dX11_split_81 : decode cX11_split 81 = .ok (.iload 9, 2) := by decide +kernel
theorem dX11_split_83 : decode cX11_split 83 = .ok (.aload 5, 2) := by decide +kernel
theorem dX11_split_85 : decode cX11_split 85 = .ok (.getfield 170, 3) := by decide +kernel
theorem dX11_split_88 : decode cX11_split 88 = .ok (.if_icmp .gt 42, 3) := by decide +kernel
theorem dX11_split_91 : decode cX11_split 91 = .ok (.aload 5, 2) := by decide +kernel
theorem dX11_split_93 : decode cX11_split 93 = .ok (.iload 9, 2) := by decide +kernel
theorem dX11_split_95 : decode cX11_split 95 = .ok (.iload_n 2, 1) := by decide +kernel
theorem dX11_split_96 : decode cX11_split 96 = .ok (.iload_n 3, 1) := by decide +kernel
theorem dX11_split_97 : decode cX11_split 97 = .ok (.invokevirtual 262, 3) := by decide +kernel
theorem dX11_split_100 : decode cX11_split 100 = .ok (.aload_n 0, 1) := by decide +kernel
theorem dX11_split_101 : decode cX11_split 101 = .ok (.aload 5, 2) := by decide +kernel
theorem dX11_split_103 : decode cX11_split 103 = .ok (.invokevirtual 249, 3) := by decide +kernel
theorem dX11_split_106 : decode cX11_split 106 = .ok (.lstore 10, 2) := by decide +kernel
theorem dX11_split_108 : decode cX11_split 108 = .ok (.lload 10, 2) := by decide +kernel
theorem dX11_split_110 : decode cX11_split 110 = .ok (.lload 7, 2) := by decide +kernel
theorem dX11_split_112 : decode cX11_split 112 = .ok (.lcmp, 1) := by decide +kernel
theorem dX11_split_113 : decode cX11_split 113 = .ok (.ifCond .ge 11, 3) := by decide +kernel
theorem dX11_split_116 : decode cX11_split 116 = .ok (.lload 10, 2) := by decide +kernel
theorem dX11_split_118 : decode cX11_split 118 = .ok (.lstore 7, 2) := by decide +kernel
theorem dX11_split_120 : decode cX11_split 120 = .ok (.iload 9, 2) := by decide +kernel
theorem dX11_split_122 : decode cX11_split 122 = .ok (.istore 6, 2) := by decide +kernel
theorem dX11_split_124 : decode cX11_split 124 = .ok (.iinc 9 1, 3) := by decide +kernel
theorem dX11_split_127 : decode cX11_split 127 = .ok (.goto (-46), 3) := by decide +kernel
theorem dX11_split_130 : decode cX11_split 130 = .ok (.aload_n 0, 1) := by decide +kernel
theorem dX11_split_131 : decode cX11_split 131 = .ok (.getfield 75, 3) := by decide +kernel
theorem dX11_split_134 : decode cX11_split 134 = .ok (.iconst 0, 1) := by decide +kernel
theorem dX11_split_135 : decode cX11_split 135 = .ok (.aload 5, 2) := by decide +kernel
theorem dX11_split_137 : decode cX11_split 137 = .ok (.getfield 167, 3) := by decide +kernel
theorem dX11_split_140 : decode cX11_split 140 = .ok (.iconst 0, 1) := by decide +kernel
theorem dX11_split_141 : decode cX11_split 141 = .ok (.bipush 16, 2) := by decide +kernel
theorem dX11_split_143 : decode cX11_split 143 = .ok (.invokestatic 171, 3) := by decide +kernel
theorem dX11_split_146 : decode cX11_split 146 = .ok (.iload 4, 2) := by decide +kernel
theorem dX11_split_148 : decode cX11_split 148 = .ok (.ifCond .ne 9, 3) := by decide +kernel
theorem dX11_split_151 : decode cX11_split 151 = .ok (.iload 6, 2) := by decide +kernel
theorem dX11_split_153 : decode cX11_split 153 = .ok (.i2l, 1) := by decide +kernel
theorem dX11_split_154 : decode cX11_split 154 = .ok (.goto 5, 3) := by decide +kernel
theorem dX11_split_157 : decode cX11_split 157 = .ok (.lload 7, 2) := by decide +kernel
theorem dX11_split_159 : decode cX11_split 159 = .ok (.lreturn, 1) := by decide +kernel
def lX11_split_81 (u28 u29 u30 u31 u32 : Int) (K130 : ZS → Int → Int → Option (Int × ZS)) : Nat → ZS → Int → Int → Int → Option (Int × ZS)
  | 0, _, _, _, _ => none
  | n1 + 1, s27, x33, x34, x35 => (zgw s27 u32 0).bind (fun v36 => if v36 < x35 then (K130 s27 x33 x34) else (zb (zw s27 u32 (fX10_divide s27 u32 x35 u29 u30) (fX10_divide s27 u32 x35 u29 u30) (fX10_divide s27 u32 x35 u29 u30) (fX10_divide s27 u32 x35 u29 u30) (fX10_divide s27 u32 x35 u29 u30) (fX10_divide s27 u32 x35 u29 u30)) (fun v38 s39 => zb (zv s39 11 u28 (fX11_costOfAll s39 u28 u32)) (fun v42 s43 => zjn (fun (K124 : ZS → Int → Int → Option (Int × ZS)) => if 0 ≤ (lCmp v42 x34) then (K124 s43 x33 x34) else (K124 s43 x35 v42)) (fun (s46 : ZS) (x47 x48 : Int) => lX11_split_81 u28 u29 u30 u31 u32 K130 n1 s46 x47 x48 (wrap (x35 + 1)))))))

def fX11_split (s0 : ZS) (a0 : Int) (a1 : Int) (a2 : Int) (a3 : Int) (a4 : Int) : Option (Int × ZS) := zb (zv s0 11 a0 (fX11_wayAt s0 a0 a1)) (fun v1 s2 => if v1 < 0 then (some ((-4611686018427387904), s2)) else (zb (fX11_within s2 a2 48) (fun v5 s6 => if v5 = 0 then (some ((-4611686018427387904), s6)) else (zb (fX11_within s6 a3 48) (fun v9 s10 => if v9 = 0 then (some ((-4611686018427387904), s10)) else (zb (fX11_within s10 a4 1) (fun v13 s14 => if v13 = 0 then (some ((-4611686018427387904), s14)) else ((zgw s14 v1 1).bind (fun v17 => (zg s14 11 a0 14).bind (fun v18 => (zcp s14 v17 0 v18 0 16).bind (fun s19 => zb (zw s19 v1 (fX10_divide s19 v1 0 a2 a3) (fX10_divide s19 v1 0 a2 a3) (fX10_divide s19 v1 0 a2 a3) (fX10_divide s19 v1 0 a2 a3) (fX10_divide s19 v1 0 a2 a3) (fX10_divide s19 v1 0 a2 a3)) (fun v20 s21 => zb (zv s21 11 a0 (fX11_costOfAll s21 a0 v1)) (fun v24 s25 => lX11_split_81 a0 a2 a3 a4 v1 (fun (s52 : ZS) (x53 x54 : Int) => (zg s52 11 a0 14).bind (fun v55 => (zgw s52 v1 1).bind (fun v56 => (zcp s52 v55 0 v56 0 16).bind (fun s57 => if a4 = 0 then (some (x53, s57)) else (some (x54, s57)))))) 1000 s25 0 v24 1)))))))))))))
set_option maxHeartbeats 4000000 in
set_option maxRecDepth 100000 in
theorem mX11_split (E : ZE) (hE : zOkE E) (l : Launch) (s0 : ZS) (a0 : Int) (a1 : Int) (a2 : Int) (a3 : Int) (a4 : Int) : Ct E l yX11_split cX11_split 12 (some .long) 12 [(2, a0), (0, a1), (0, a2), (0, a3), (0, a4)] 2 s0 (fX11_split s0 a0 a1 a2 a3 a4) := by
  refine Ct.of (by decide) hE (Nat.le_of_ble_eq_true rfl) ?_
  intro X G hX hR hN hXE hXl hxn hk _
  subst hXE
  subst hXl
  have hX : G → ZOk X cX11_split RX11 12 := hX
  clear hN
  show Zj X G 0 [(0, (2, a0)), (1, (0, a1)), (2, (0, a2)), (3, (0, a3)), (4, (0, a4))] [] s0 _
  unfold fX11_split
  refine z_aload_n (pc := 0) hX 0 dX11_split_0 rfl rfl ?_
  refine z_iload_n (pc := 1) hX 1 dX11_split_1 rfl rfl ?_
  refine z_callV (n := 1) (st := []) (pc := 2) hX zc11 rfl (fun _ => (mX11_wayAt _ hE _ _ _ _)) ⟨wd681, wd61, wd684, ⟨by decide, by decide, by decide⟩, by decide⟩ rfl wd683 wd18 rfl rfl (by decide) (Nat.le_of_ble_eq_true rfl) dX11_split_2 (fun v1 s2 r3 => ?_)
  show Zj X G 5 [(0, (2, a0)), (1, (0, a1)), (2, (0, a2)), (3, (0, a3)), (4, (0, a4))] [(2, v1)] _ _
  refine z_astore (lv' := [(5, (2, v1)), (0, (2, a0)), (1, (0, a1)), (2, (0, a2)), (3, (0, a3)), (4, (0, a4))]) (pc := 5) hX dX11_split_5 (zlt hxn rfl) rfl ?_
  refine z_aload (pc := 7) hX 0 dX11_split_7 rfl ?_
  refine z_ifnull (pc := 9) hX 39 dX11_split_9 (by decide) (fun h4 => ?_) (fun h4 => ?_)
  · refine z_ldc2 (n := -4611686018427387904) (pc := 39) hX dX11_split_39 wd846 (by decide) ?_
    exact z_lret (pc := 42) hX hR hk dX11_split_42
  · refine z_iload_n (pc := 12) hX 3 dX11_split_12 rfl rfl ?_
    refine z_bipush (pc := 13) hX dX11_split_13 ?_
    refine z_callS (n := 2) (st := []) (pc := 15) hX (mX11_within _ hE _ _ _ _) ⟨wd329, wd61, wd331, ⟨by decide, by decide, by decide⟩, by decide⟩ wd330 rfl rfl (by decide) (Nat.le_of_ble_eq_true rfl) dX11_split_15 (fun v5 s6 r7 => ?_)
    show Zj X G 18 [(5, (2, v1)), (0, (2, a0)), (1, (0, a1)), (2, (0, a2)), (3, (0, a3)), (4, (0, a4))] [(0, v5)] _ _
    refine z_if_eq (pc := 18) hX 39 dX11_split_18 (by decide) (fun h8 => ?_) (fun h8 => ?_)
    · refine z_ldc2 (n := -4611686018427387904) (pc := 39) hX dX11_split_39 wd846 (by decide) ?_
      exact z_lret (pc := 42) hX hR hk dX11_split_42
    · refine z_iload_n (pc := 21) hX 4 dX11_split_21 rfl rfl ?_
      refine z_bipush (pc := 22) hX dX11_split_22 ?_
      refine z_callS (n := 2) (st := []) (pc := 24) hX (mX11_within _ hE _ _ _ _) ⟨wd329, wd61, wd331, ⟨by decide, by decide, by decide⟩, by decide⟩ wd330 rfl rfl (by decide) (Nat.le_of_ble_eq_true rfl) dX11_split_24 (fun v9 s10 r11 => ?_)
      show Zj X G 27 [(5, (2, v1)), (0, (2, a0)), (1, (0, a1)), (2, (0, a2)), (3, (0, a3)), (4, (0, a4))] [(0, v9)] _ _
      refine z_if_eq (pc := 27) hX 39 dX11_split_27 (by decide) (fun h12 => ?_) (fun h12 => ?_)
      · refine z_ldc2 (n := -4611686018427387904) (pc := 39) hX dX11_split_39 wd846 (by decide) ?_
        exact z_lret (pc := 42) hX hR hk dX11_split_42
      · refine z_iload (pc := 30) hX 5 dX11_split_30 rfl ?_
        refine z_iconst (pc := 32) hX dX11_split_32 ?_
        refine z_callS (n := 2) (st := []) (pc := 33) hX (mX11_within _ hE _ _ _ _) ⟨wd329, wd61, wd331, ⟨by decide, by decide, by decide⟩, by decide⟩ wd330 rfl rfl (by decide) (Nat.le_of_ble_eq_true rfl) dX11_split_33 (fun v13 s14 r15 => ?_)
        show Zj X G 36 [(5, (2, v1)), (0, (2, a0)), (1, (0, a1)), (2, (0, a2)), (3, (0, a3)), (4, (0, a4))] [(0, v13)] _ _
        refine z_if_ne (pc := 36) hX 43 dX11_split_36 (by decide) (fun h16 => ?_) (fun h16 => ?_)
        · refine z_aload (pc := 43) hX 0 dX11_split_43 rfl ?_
          refine z_getw (pc := 45) hX zc10 zc9 zc3 zc0 zc1 zc7 1 (by decide) wd620 rfl rfl rfl rfl rfl rfl rfl rfl rfl rfl rfl rfl rfl dX11_split_45 (fun v17 => ?_)
          refine z_iconst (pc := 48) hX dX11_split_48 ?_
          refine z_aload_n (pc := 49) hX 1 dX11_split_49 rfl rfl ?_
          refine z_get (pc := 50) hX zc11 14 (by decide) wd284 rfl rfl dX11_split_50 (fun v18 => ?_)
          refine z_iconst (pc := 53) hX dX11_split_53 ?_
          refine z_bipush (pc := 54) hX dX11_split_54 ?_
          refine z_acopy (pc := 56) hX (by decide) dX11_split_56 wd676 wd573 wd572 wd75 (Nat.le_of_ble_eq_true rfl) (fun s19 => ?_)
          refine z_aload (pc := 59) hX 0 dX11_split_59 rfl ?_
          refine z_iconst (pc := 61) hX dX11_split_61 ?_
          refine z_iload_n (pc := 62) hX 3 dX11_split_62 rfl rfl ?_
          refine z_iload_n (pc := 63) hX 4 dX11_split_63 rfl rfl ?_
          refine z_kk (rk := 0) (st := []) (pc' := 67) (fun kk => z_zw (z_callV (n := 3) (pc := 64) (st := []) hX zc10 rfl (fun _ => (mX10_divide _ hE _ _ _ _ _ _)) ⟨wd931, wd76, wd940, ⟨by decide, by decide, by decide⟩, by decide⟩ rfl wd932 wd933 rfl rfl (by decide) (Nat.le_of_ble_eq_true rfl) dX11_split_64 kk) (z_callU (n := 3) (pc := 64) (x := yX10_divide) (owner := "GateRoad$Way") (st := []) hX zc9 rfl (fun _ => (mX10_divide _ hE _ _ _ _ _ _)) wd931 wd934 wd932 wd939 wd932 wd76 wd940 wd940 ⟨by decide, by decide, by decide⟩ (by decide) rfl rfl (by decide) (Nat.le_of_ble_eq_true rfl) dX11_split_64 kk) (z_callU (n := 3) (pc := 64) (x := yX10_divide) (owner := "GateRoad$Way") (st := []) hX zc3 rfl (fun _ => (mX10_divide _ hE _ _ _ _ _ _)) wd931 wd934 wd932 wd937 wd932 wd76 wd940 wd940 ⟨by decide, by decide, by decide⟩ (by decide) rfl rfl (by decide) (Nat.le_of_ble_eq_true rfl) dX11_split_64 kk) (z_callU (n := 3) (pc := 64) (x := yX10_divide) (owner := "GateRoad$Way") (st := []) hX zc0 rfl (fun _ => (mX10_divide _ hE _ _ _ _ _ _)) wd931 wd934 wd932 wd935 wd932 wd76 wd940 wd940 ⟨by decide, by decide, by decide⟩ (by decide) rfl rfl (by decide) (Nat.le_of_ble_eq_true rfl) dX11_split_64 kk) (z_callU (n := 3) (pc := 64) (x := yX10_divide) (owner := "GateRoad$Way") (st := []) hX zc1 rfl (fun _ => (mX10_divide _ hE _ _ _ _ _ _)) wd931 wd934 wd932 wd936 wd932 wd76 wd940 wd940 ⟨by decide, by decide, by decide⟩ (by decide) rfl rfl (by decide) (Nat.le_of_ble_eq_true rfl) dX11_split_64 kk) (z_callU (n := 3) (pc := 64) (x := yX10_divide) (owner := "GateRoad$Way") (st := []) hX zc7 rfl (fun _ => (mX10_divide _ hE _ _ _ _ _ _)) wd931 wd934 wd932 wd938 wd932 wd76 wd940 wd940 ⟨by decide, by decide, by decide⟩ (by decide) rfl rfl (by decide) (Nat.le_of_ble_eq_true rfl) dX11_split_64 kk)) (fun v20 s21 r22 => ?_)
          show Zj X G 67 [(5, (2, v1)), (0, (2, a0)), (1, (0, a1)), (2, (0, a2)), (3, (0, a3)), (4, (0, a4))] [] _ _
          refine z_iconst (pc := 67) hX dX11_split_67 ?_
          refine z_istore (lv' := [(6, (0, 0)), (5, (2, v1)), (0, (2, a0)), (1, (0, a1)), (2, (0, a2)), (3, (0, a3)), (4, (0, a4))]) (pc := 68) hX dX11_split_68 (zlt hxn rfl) rfl ?_
          refine z_aload_n (pc := 70) hX 2 dX11_split_70 rfl rfl ?_
          refine z_aload (pc := 71) hX 1 dX11_split_71 rfl ?_
          refine z_callV (n := 1) (st := []) (pc := 73) hX zc11 rfl (fun _ => (mX11_costOfAll _ hE _ _ _ _)) ⟨wd906, wd61, wd909, ⟨by decide, by decide, by decide⟩, by decide⟩ rfl wd908 wd29 rfl rfl (by decide) (Nat.le_of_ble_eq_true rfl) dX11_split_73 (fun v24 s25 r26 => ?_)
          show Zj X G 76 [(6, (0, 0)), (5, (2, v1)), (0, (2, a0)), (1, (0, a1)), (2, (0, a2)), (3, (0, a3)), (4, (0, a4))] [(1, v24)] _ _
          refine z_lstore (lv' := [(7, (1, v24)), (6, (0, 0)), (5, (2, v1)), (0, (2, a0)), (1, (0, a1)), (2, (0, a2)), (3, (0, a3)), (4, (0, a4))]) (pc := 76) hX dX11_split_76 (zlt2 hxn rfl) rfl ?_
          refine z_iconst (pc := 78) hX dX11_split_78 ?_
          refine z_istore (lv' := [(9, (0, 1)), (7, (1, v24)), (6, (0, 0)), (5, (2, v1)), (0, (2, a0)), (1, (0, a1)), (2, (0, a2)), (3, (0, a3)), (4, (0, a4))]) (pc := 79) hX dX11_split_79 (zlt hxn rfl) rfl ?_
          have hl81 : ∀ (u28 u29 u30 u31 u32 : Int), ∀ (K130 : ZS → Int → Int → Option (Int × ZS)), (∀ (s49 : ZS) (x50 x51 : Int), Zj X G 130 [(0, (2, u28)), (4, (0, u31)), (5, (2, u32)), (6, (0, x50)), (7, (1, x51))] [] s49 (K130 s49 x50 x51)) → ∀ (n1 : Nat) (s27 : ZS) (x33 x34 x35 : Int), Zj X G 81 [(0, (2, u28)), (2, (0, u29)), (3, (0, u30)), (4, (0, u31)), (5, (2, u32)), (6, (0, x33)), (7, (1, x34)), (9, (0, x35))] [] s27 (lX11_split_81 u28 u29 u30 u31 u32 K130 n1 s27 x33 x34 x35) := by
            intro u28 u29 u30 u31 u32 K130 hK130 n1
            induction n1 with
            | zero => intro _ _ _ _; exact z_none
            | succ n1 ih1 =>
              intro s27 x33 x34 x35
              rw [lX11_split_81]
              refine z_iload (pc := 81) hX 7 dX11_split_81 rfl ?_
              refine z_aload (pc := 83) hX 4 dX11_split_83 rfl ?_
              refine z_getw (pc := 85) hX zc10 zc9 zc3 zc0 zc1 zc7 0 (by decide) wd617 rfl rfl rfl rfl rfl rfl rfl rfl rfl rfl rfl rfl rfl dX11_split_85 (fun v36 => ?_)
              refine z_icmp_gt (pc := 88) hX 130 dX11_split_88 (by decide) (fun h37 => ?_) (fun h37 => ?_)
              · refine z_pick (lv' := [(0, (2, u28)), (4, (0, u31)), (5, (2, u32)), (6, (0, x33)), (7, (1, x34))]) [0, 3, 4, 5, 6] rfl ?_
                exact hK130 _ _ _
              · refine z_aload (pc := 91) hX 4 dX11_split_91 rfl ?_
                refine z_iload (pc := 93) hX 7 dX11_split_93 rfl ?_
                refine z_iload_n (pc := 95) hX 1 dX11_split_95 rfl rfl ?_
                refine z_iload_n (pc := 96) hX 2 dX11_split_96 rfl rfl ?_
                refine z_kk (rk := 0) (st := []) (pc' := 100) (fun kk => z_zw (z_callV (n := 3) (pc := 97) (st := []) hX zc10 rfl (fun _ => (mX10_divide _ hE _ _ _ _ _ _)) ⟨wd931, wd76, wd940, ⟨by decide, by decide, by decide⟩, by decide⟩ rfl wd932 wd933 rfl rfl (by decide) (Nat.le_of_ble_eq_true rfl) dX11_split_97 kk) (z_callU (n := 3) (pc := 97) (x := yX10_divide) (owner := "GateRoad$Way") (st := []) hX zc9 rfl (fun _ => (mX10_divide _ hE _ _ _ _ _ _)) wd931 wd934 wd932 wd939 wd932 wd76 wd940 wd940 ⟨by decide, by decide, by decide⟩ (by decide) rfl rfl (by decide) (Nat.le_of_ble_eq_true rfl) dX11_split_97 kk) (z_callU (n := 3) (pc := 97) (x := yX10_divide) (owner := "GateRoad$Way") (st := []) hX zc3 rfl (fun _ => (mX10_divide _ hE _ _ _ _ _ _)) wd931 wd934 wd932 wd937 wd932 wd76 wd940 wd940 ⟨by decide, by decide, by decide⟩ (by decide) rfl rfl (by decide) (Nat.le_of_ble_eq_true rfl) dX11_split_97 kk) (z_callU (n := 3) (pc := 97) (x := yX10_divide) (owner := "GateRoad$Way") (st := []) hX zc0 rfl (fun _ => (mX10_divide _ hE _ _ _ _ _ _)) wd931 wd934 wd932 wd935 wd932 wd76 wd940 wd940 ⟨by decide, by decide, by decide⟩ (by decide) rfl rfl (by decide) (Nat.le_of_ble_eq_true rfl) dX11_split_97 kk) (z_callU (n := 3) (pc := 97) (x := yX10_divide) (owner := "GateRoad$Way") (st := []) hX zc1 rfl (fun _ => (mX10_divide _ hE _ _ _ _ _ _)) wd931 wd934 wd932 wd936 wd932 wd76 wd940 wd940 ⟨by decide, by decide, by decide⟩ (by decide) rfl rfl (by decide) (Nat.le_of_ble_eq_true rfl) dX11_split_97 kk) (z_callU (n := 3) (pc := 97) (x := yX10_divide) (owner := "GateRoad$Way") (st := []) hX zc7 rfl (fun _ => (mX10_divide _ hE _ _ _ _ _ _)) wd931 wd934 wd932 wd938 wd932 wd76 wd940 wd940 ⟨by decide, by decide, by decide⟩ (by decide) rfl rfl (by decide) (Nat.le_of_ble_eq_true rfl) dX11_split_97 kk)) (fun v38 s39 r40 => ?_)
                show Zj X G 100 [(0, (2, u28)), (2, (0, u29)), (3, (0, u30)), (4, (0, u31)), (5, (2, u32)), (6, (0, x33)), (7, (1, x34)), (9, (0, x35))] [] _ _
                refine z_aload_n (pc := 100) hX 0 dX11_split_100 rfl rfl ?_
                refine z_aload (pc := 101) hX 4 dX11_split_101 rfl ?_
                refine z_callV (n := 1) (st := []) (pc := 103) hX zc11 rfl (fun _ => (mX11_costOfAll _ hE _ _ _ _)) ⟨wd906, wd61, wd909, ⟨by decide, by decide, by decide⟩, by decide⟩ rfl wd908 wd29 rfl rfl (by decide) (Nat.le_of_ble_eq_true rfl) dX11_split_103 (fun v42 s43 r44 => ?_)
                show Zj X G 106 [(0, (2, u28)), (2, (0, u29)), (3, (0, u30)), (4, (0, u31)), (5, (2, u32)), (6, (0, x33)), (7, (1, x34)), (9, (0, x35))] [(1, v42)] _ _
                refine z_lstore (lv' := [(10, (1, v42)), (0, (2, u28)), (2, (0, u29)), (3, (0, u30)), (4, (0, u31)), (5, (2, u32)), (6, (0, x33)), (7, (1, x34)), (9, (0, x35))]) (pc := 106) hX dX11_split_106 (zlt2 hxn rfl) rfl ?_
                refine z_lload (pc := 108) hX 0 dX11_split_108 rfl ?_
                refine z_lload (pc := 110) hX 7 dX11_split_110 rfl ?_
                refine z_lcmp (pc := 112) hX dX11_split_112 ?_
                refine z_jn (fun K124 eK124 => ?_)
                have hK124 : ∀ (s46 : ZS) (x47 x48 : Int), Zj X G 124 [(0, (2, u28)), (2, (0, u29)), (3, (0, u30)), (4, (0, u31)), (5, (2, u32)), (6, (0, x47)), (7, (1, x48)), (9, (0, x35))] [] s46 (K124 s46 x47 x48) := by
                  intro s46 x47 x48
                  rw [eK124]
                  refine z_iinc (lv' := [(9, (0, (wrap (x35 + 1)))), (0, (2, u28)), (2, (0, u29)), (3, (0, u30)), (4, (0, u31)), (5, (2, u32)), (6, (0, x47)), (7, (1, x48))]) (pc := 124) hX 7 dX11_split_124 rfl (zlt hxn rfl) rfl ?_
                  refine z_goto (pc := 127) hX 81 dX11_split_127 (by decide) ?_
                  refine z_pick (lv' := [(0, (2, u28)), (2, (0, u29)), (3, (0, u30)), (4, (0, u31)), (5, (2, u32)), (6, (0, x47)), (7, (1, x48)), (9, (0, (wrap (x35 + 1))))]) [1, 2, 3, 4, 5, 6, 7, 0] rfl ?_
                  exact ih1 _ _ _ _
                clear eK124
                refine z_if_ge (pc := 113) hX 124 dX11_split_113 (by decide) (fun h45 => ?_) (fun h45 => ?_)
                · refine z_pick (lv' := [(0, (2, u28)), (2, (0, u29)), (3, (0, u30)), (4, (0, u31)), (5, (2, u32)), (6, (0, x33)), (7, (1, x34)), (9, (0, x35))]) [1, 2, 3, 4, 5, 6, 7, 8] rfl ?_
                  exact hK124 _ _ _
                · refine z_lload (pc := 116) hX 0 dX11_split_116 rfl ?_
                  refine z_lstore (lv' := [(7, (1, v42)), (10, (1, v42)), (0, (2, u28)), (2, (0, u29)), (3, (0, u30)), (4, (0, u31)), (5, (2, u32)), (6, (0, x33)), (9, (0, x35))]) (pc := 118) hX dX11_split_118 (zlt2 hxn rfl) rfl ?_
                  refine z_iload (pc := 120) hX 8 dX11_split_120 rfl ?_
                  refine z_istore (lv' := [(6, (0, x35)), (7, (1, v42)), (10, (1, v42)), (0, (2, u28)), (2, (0, u29)), (3, (0, u30)), (4, (0, u31)), (5, (2, u32)), (9, (0, x35))]) (pc := 122) hX dX11_split_122 (zlt hxn rfl) rfl ?_
                  refine z_pick (lv' := [(0, (2, u28)), (2, (0, u29)), (3, (0, u30)), (4, (0, u31)), (5, (2, u32)), (6, (0, x35)), (7, (1, v42)), (9, (0, x35))]) [3, 4, 5, 6, 7, 0, 1, 8] rfl ?_
                  exact hK124 _ _ _
          refine z_pick (lv' := [(0, (2, a0)), (2, (0, a2)), (3, (0, a3)), (4, (0, a4)), (5, (2, v1)), (6, (0, 0)), (7, (1, v24)), (9, (0, 1))]) [4, 6, 7, 8, 3, 2, 1, 0] rfl ?_
          refine hl81 _ _ _ _ _ _ (fun s52 x53 x54 => ?_) 1000 _ _ _ _
          refine z_aload_n (pc := 130) hX 0 dX11_split_130 rfl rfl ?_
          refine z_get (pc := 131) hX zc11 14 (by decide) wd284 rfl rfl dX11_split_131 (fun v55 => ?_)
          refine z_iconst (pc := 134) hX dX11_split_134 ?_
          refine z_aload (pc := 135) hX 2 dX11_split_135 rfl ?_
          refine z_getw (pc := 137) hX zc10 zc9 zc3 zc0 zc1 zc7 1 (by decide) wd620 rfl rfl rfl rfl rfl rfl rfl rfl rfl rfl rfl rfl rfl dX11_split_137 (fun v56 => ?_)
          refine z_iconst (pc := 140) hX dX11_split_140 ?_
          refine z_bipush (pc := 141) hX dX11_split_141 ?_
          refine z_acopy (pc := 143) hX (by decide) dX11_split_143 wd676 wd573 wd572 wd75 (Nat.le_of_ble_eq_true rfl) (fun s57 => ?_)
          refine z_iload (pc := 146) hX 1 dX11_split_146 rfl ?_
          refine z_if_ne (pc := 148) hX 157 dX11_split_148 (by decide) (fun h58 => ?_) (fun h58 => ?_)
          · refine z_lload (pc := 157) hX 4 dX11_split_157 rfl ?_
            exact z_lret (pc := 159) hX hR hk dX11_split_159
          · refine z_iload (pc := 151) hX 3 dX11_split_151 rfl ?_
            refine z_i2lR (pc := 153) hX dX11_split_153 ?_
            refine z_goto (pc := 154) hX 159 dX11_split_154 (by decide) ?_
            exact z_lret (pc := 159) hX hR hk dX11_split_159
        · refine z_ldc2 (n := -4611686018427387904) (pc := 39) hX dX11_split_39 wd846 (by decide) ?_
          exact z_lret (pc := 42) hX hR hk dX11_split_42

theorem dX12_split_0 : decode cX12_split 0 = .ok (.aload_n 0, 1) := by decide +kernel
theorem dX12_split_1 : decode cX12_split 1 = .ok (.iload_n 1, 1) := by decide +kernel
theorem dX12_split_2 : decode cX12_split 2 = .ok (.invokevirtual 217, 3) := by decide +kernel
theorem dX12_split_5 : decode cX12_split 5 = .ok (.ifCond .eq 27, 3) := by decide +kernel
theorem dX12_split_8 : decode cX12_split 8 = .ok (.iload_n 2, 1) := by decide +kernel
theorem dX12_split_9 : decode cX12_split 9 = .ok (.invokestatic 220, 3) := by decide +kernel
theorem dX12_split_12 : decode cX12_split 12 = .ok (.ifCond .eq 20, 3) := by decide +kernel
theorem dX12_split_15 : decode cX12_split 15 = .ok (.iload_n 3, 1) := by decide +kernel
theorem dX12_split_16 : decode cX12_split 16 = .ok (.invokestatic 220, 3) := by decide +kernel
theorem dX12_split_19 : decode cX12_split 19 = .ok (.ifCond .eq 13, 3) := by decide +kernel
theorem dX12_split_22 : decode cX12_split 22 = .ok (.iload 4, 2) := by decide +kernel
theorem dX12_split_24 : decode cX12_split 24 = .ok (.iconst 0, 1) := by decide +kernel
theorem dX12_split_25 : decode cX12_split 25 = .ok (.iconst 1, 1) := by decide +kernel
theorem dX12_split_26 : decode cX12_split 26 = .ok (.invokestatic 127, 3) := by decide +kernel
theorem dX12_split_29 : decode cX12_split 29 = .ok (.ifCond .ne 7, 3) := by decide +kernel
theorem dX12_split_32 : decode cX12_split 32 = .ok (.ldc2_w 264, 3) := by decide +kernel
theorem dX12_split_35 : decode cX12_split 35 = .ok (.lreturn, 1) := by decide +kernel
theorem dX12_split_36 : decode cX12_split 36 = .ok (.iconst 0, 1) := by decide +kernel
theorem dX12_split_37 : decode cX12_split 37 = .ok (.istore 5, 2) := by decide +kernel
theorem dX12_split_39 : decode cX12_split 39 = .ok (.lconst 0, 1) := by decide +kernel
theorem dX12_split_40 : decode cX12_split 40 = .ok (.lstore 6, 2) := by decide +kernel
theorem dX12_split_42 : decode cX12_split 42 = .ok (.iconst 0, 1) := by decide +kernel
theorem dX12_split_43 : decode cX12_split 43 = .ok (.istore 8, 2) := by decide +kernel
theorem dX12_split_45 : decode cX12_split 45 = .ok (.iload 8, 2) := by decide +kernel
theorem dX12_split_47 : decode cX12_split 47 = .ok (.aload_n 0, 1) := by decide +kernel
theorem dX12_split_48 : decode cX12_split 48 = .ok (.getfield 31, 3) := by decide +kernel
theorem dX12_split_51 : decode cX12_split 51 = .ok (.iload_n 1, 1) := by decide +kernel
theorem dX12_split_52 : decode cX12_split 52 = .ok (.iaload, 1) := by decide +kernel
theorem dX12_split_53 : decode cX12_split 53 = .ok (.if_icmp .gt 81, 3) := by decide +kernel
theorem dX12_split_56 : decode cX12_split 56 = .ok (.iconst 0, 1) := by decide +kernel
theorem dX12_split_57 : decode cX12_split 57 = .ok (.istore 9, 2) := by decide +kernel
theorem dX12_split_59 : decode cX12_split 59 = .ok (.iload 9, 2) := by decide +kernel
theorem dX12_split_61 : decode cX12_split 61 = .ok (.aload_n 0, 1) := by decide +kernel
theorem dX12_split_62 : decode cX12_split 62 = .ok (.getfield 31, 3) := by decide +kernel
theorem dX12_split_65 : decode cX12_split 65 = .ok (.iload_n 1, 1) := by decide +kernel
theorem dX12_split_66 : decode cX12_split 66 = .ok (.iaload, 1) := by decide +kernel
theorem dX12_split_67 : decode cX12_split 67 = .ok (.if_icmp .ge 28, 3) := by decide +kernel
theorem dX12_split_70 : decode cX12_split 70 = .ok (.aload_n 0, 1) := by decide +kernel
theorem dX12_split_71 : decode cX12_split 71 = .ok (.getfield 106, 3) := by decide +kernel
theorem dX12_split_74 : decode cX12_split 74 = .ok (.iload 9, 2) := by decide +kernel
theorem dX12_split_76 : decode cX12_split 76 = .ok (.iload 9, 2) := by decide +kernel
theorem dX12_split_78 : decode cX12_split 78 = .ok (.iload 8, 2) := by decide +kernel
theorem dX12_split_80 : decode cX12_split 80 = .ok (.if_icmp .ge 7, 3) := by decide +kernel
theorem dX12_split_83 : decode cX12_split 83 = .ok (.iload_n 2, 1) := by decide +kernel
theorem dX12_split_84 : decode cX12_split 84 = .ok (.goto 4, 3) := by decide +kernel
theorem dX12_split_87 : decode cX12_split 87 = .ok (.iload_n 3, 1) := by decide +kernel
theorem dX12_split_88 : decode cX12_split 88 = .ok (.iastore, 1) := by decide +kernel
theorem dX12_split_89 : decode cX12_split 89 = .ok (.iinc 9 1, 3) := by decide +kernel
theorem dX12_split_92 : decode cX12_split 92 = .ok (.goto (-33), 3) := by decide +kernel
theorem dX12_split_95 : decode cX12_split 95 = .ok (.aload_n 0, 1) := by decide +kernel
theorem dX12_split_96 : decode cX12_split 96 = .ok (.iload_n 1, 1) := by decide +kernel
theorem dX12_split_97 : decode cX12_split 97 = .ok (.invokevirtual 254, 3) := by decide +kernel
theorem dX12_split_100 : decode cX12_split 100 = .ok (.aload_n 0, 1) := by decide +kernel
theorem dX12_split_101 : decode cX12_split 101 = .ok (.iload_n 1, 1) := by decide +kernel
theorem dX12_split_102 : decode cX12_split 102 = .ok (.invokevirtual 257, 3) := by decide +kernel
theorem dX12_split_105 : decode cX12_split 105 = .ok (.lstore 9, 2) := by decide +kernel
theorem dX12_split_107 : decode cX12_split 107 = .ok (.iload 8, 2) := by decide +kernel
theorem dX12_split_109 : decode cX12_split 109 = .ok (.ifCond .eq 11, 3) := by decide +kernel
theorem dX12_split_112 : decode cX12_split 112 = .ok (.lload 9, 2) := by decide +kernel
theorem dX12_split_114 : decode cX12_split 114 = .ok (.lload 6, 2) := by decide +kernel
theorem dX12_split_116 : decode cX12_split 116 = .ok (.lcmp, 1) := by decide +kernel
theorem dX12_split_117 : decode cX12_split 117 = .ok (.ifCond .ge 11, 3) := by decide +kernel
theorem dX12_split_120 : decode cX12_split 120 = .ok (.iload 8, 2) := by decide +kernel
theorem dX12_split_122 : decode cX12_split 122 = .ok (.istore 5, 2) := by decide +kernel
theorem dX12_split_124 : decode cX12_split 124 = .ok (.lload 9, 2) := by decide +kernel
theorem dX12_split_126 : decode cX12_split 126 = .ok (.lstore 6, 2) := by decide +kernel
theorem dX12_split_128 : decode cX12_split 128 = .ok (.iinc 8 1, 3) := by decide +kernel
theorem dX12_split_131 : decode cX12_split 131 = .ok (.goto (-86), 3) := by decide +kernel
theorem dX12_split_134 : decode cX12_split 134 = .ok (.iload 4, 2) := by decide +kernel
theorem dX12_split_136 : decode cX12_split 136 = .ok (.ifCond .ne 9, 3) := by decide +kernel
theorem dX12_split_139 : decode cX12_split 139 = .ok (.iload 5, 2) := by decide +kernel
theorem dX12_split_141 : decode cX12_split 141 = .ok (.i2l, 1) := by decide +kernel
theorem dX12_split_142 : decode cX12_split 142 = .ok (.goto 5, 3) := by decide +kernel
theorem dX12_split_145 : decode cX12_split 145 = .ok (.lload 6, 2) := by decide +kernel
theorem dX12_split_147 : decode cX12_split 147 = .ok (.lreturn, 1) := by decide +kernel
def lX12_split_59 (u30 u31 u32 u33 u34 u35 u36 u37 : Int) (K95 : ZS → Option (Int × ZS)) : Nat → ZS → Int → Option (Int × ZS)
  | 0, _, _ => none
  | n2 + 1, s29, x38 => (zg s29 12 u30 10).bind (fun v39 => (zal s29 100 v39 u31).bind (fun v40 => if v40 ≤ x38 then (K95 s29) else ((zg s29 12 u30 40).bind (fun v42 => zjn (fun (K88 : ZS → Int → Option (Int × ZS)) => if u37 ≤ x38 then (K88 s29 u33) else (K88 s29 u32)) (fun (s44 : ZS) (w45 : Int) => (zas s44 100 v42 x38 w45).bind (fun s46 => lX12_split_59 u30 u31 u32 u33 u34 u35 u36 u37 K95 n2 s46 (wrap (x38 + 1))))))))

def lX12_split_45 (u18 u19 u20 u21 u22 : Int) (K134 : ZS → Int → Int → Option (Int × ZS)) : Nat → ZS → Int → Int → Int → Option (Int × ZS)
  | 0, _, _, _, _ => none
  | n1 + 1, s17, x23, x24, x25 => (zg s17 12 u18 10).bind (fun v26 => (zal s17 100 v26 u19).bind (fun v27 => if v27 < x25 then (K134 s17 x23 x24) else (lX12_split_59 u18 u19 u20 u21 u22 x23 x24 x25 (fun (s48 : ZS) => zb (zv s48 12 u18 (fX12_goes s48 u18 u19)) (fun v49 s50 => zb (zv s50 12 u18 (fX12_costAll s50 u18 u19)) (fun v52 s53 => zjn (fun (K128 : ZS → Int → Int → Option (Int × ZS)) => zjn (fun (K120 : ZS → Option (Int × ZS)) => if x25 = 0 then (K120 s53) else (if 0 ≤ (lCmp v52 x24) then (K128 s53 x23 x24) else (K120 s53))) (fun (s57 : ZS) => K128 s57 x25 v52)) (fun (s58 : ZS) (x59 x60 : Int) => lX12_split_45 u18 u19 u20 u21 u22 K134 n1 s58 x59 x60 (wrap (x25 + 1)))))) 1000 s17 0)))

def fX12_split (s0 : ZS) (a0 : Int) (a1 : Int) (a2 : Int) (a3 : Int) (a4 : Int) : Option (Int × ZS) := zb (zv s0 12 a0 (fX12_isWay s0 a0 a1)) (fun v1 s2 => if v1 = 0 then (some ((-4611686018427387904), s2)) else (zb (fX12_isChoice s2 a2) (fun v5 s6 => if v5 = 0 then (some ((-4611686018427387904), s6)) else (zb (fX12_isChoice s6 a3) (fun v9 s10 => if v9 = 0 then (some ((-4611686018427387904), s10)) else (zb (fX12_in s10 a4 0 1) (fun v13 s14 => if v13 = 0 then (some ((-4611686018427387904), s14)) else (lX12_split_45 a0 a1 a2 a3 a4 (fun (s64 : ZS) (x65 x66 : Int) => if a4 = 0 then (some (x65, s64)) else (some (x66, s64))) 1000 s14 0 0 0))))))))
set_option maxHeartbeats 4000000 in
set_option maxRecDepth 100000 in
theorem mX12_split (E : ZE) (hE : zOkE E) (l : Launch) (s0 : ZS) (a0 : Int) (a1 : Int) (a2 : Int) (a3 : Int) (a4 : Int) : Ct E l yX12_split cX12_split 11 (some .long) 10 [(2, a0), (0, a1), (0, a2), (0, a3), (0, a4)] 2 s0 (fX12_split s0 a0 a1 a2 a3 a4) := by
  refine Ct.of (by decide) hE (Nat.le_of_ble_eq_true rfl) ?_
  intro X G hX hR hN hXE hXl hxn hk _
  subst hXE
  subst hXl
  have hX : G → ZOk X cX12_split RX12 10 := hX
  clear hN
  show Zj X G 0 [(0, (2, a0)), (1, (0, a1)), (2, (0, a2)), (3, (0, a3)), (4, (0, a4))] [] s0 _
  unfold fX12_split
  refine z_aload_n (pc := 0) hX 0 dX12_split_0 rfl rfl ?_
  refine z_iload_n (pc := 1) hX 1 dX12_split_1 rfl rfl ?_
  refine z_callV (n := 1) (st := []) (pc := 2) hX zc12 rfl (fun _ => (mX12_isWay _ hE _ _ _ _)) ⟨wd1268, wd67, wd1271, ⟨by decide, by decide, by decide⟩, by decide⟩ rfl wd1270 wd42 rfl rfl (by decide) (Nat.le_of_ble_eq_true rfl) dX12_split_2 (fun v1 s2 r3 => ?_)
  show Zj X G 5 [(0, (2, a0)), (1, (0, a1)), (2, (0, a2)), (3, (0, a3)), (4, (0, a4))] [(0, v1)] _ _
  refine z_if_eq (pc := 5) hX 32 dX12_split_5 (by decide) (fun h4 => ?_) (fun h4 => ?_)
  · refine z_ldc2 (n := -4611686018427387904) (pc := 32) hX dX12_split_32 wd1338 (by decide) ?_
    exact z_lret (pc := 35) hX hR hk dX12_split_35
  · refine z_iload_n (pc := 8) hX 2 dX12_split_8 rfl rfl ?_
    refine z_callS (n := 1) (st := []) (pc := 9) hX (mX12_isChoice _ hE _ _ _) ⟨wd1261, wd67, wd1263, ⟨by decide, by decide, by decide⟩, by decide⟩ wd1262 rfl rfl (by decide) (Nat.le_of_ble_eq_true rfl) dX12_split_9 (fun v5 s6 r7 => ?_)
    show Zj X G 12 [(0, (2, a0)), (1, (0, a1)), (2, (0, a2)), (3, (0, a3)), (4, (0, a4))] [(0, v5)] _ _
    refine z_if_eq (pc := 12) hX 32 dX12_split_12 (by decide) (fun h8 => ?_) (fun h8 => ?_)
    · refine z_ldc2 (n := -4611686018427387904) (pc := 32) hX dX12_split_32 wd1338 (by decide) ?_
      exact z_lret (pc := 35) hX hR hk dX12_split_35
    · refine z_iload_n (pc := 15) hX 3 dX12_split_15 rfl rfl ?_
      refine z_callS (n := 1) (st := []) (pc := 16) hX (mX12_isChoice _ hE _ _ _) ⟨wd1261, wd67, wd1263, ⟨by decide, by decide, by decide⟩, by decide⟩ wd1262 rfl rfl (by decide) (Nat.le_of_ble_eq_true rfl) dX12_split_16 (fun v9 s10 r11 => ?_)
      show Zj X G 19 [(0, (2, a0)), (1, (0, a1)), (2, (0, a2)), (3, (0, a3)), (4, (0, a4))] [(0, v9)] _ _
      refine z_if_eq (pc := 19) hX 32 dX12_split_19 (by decide) (fun h12 => ?_) (fun h12 => ?_)
      · refine z_ldc2 (n := -4611686018427387904) (pc := 32) hX dX12_split_32 wd1338 (by decide) ?_
        exact z_lret (pc := 35) hX hR hk dX12_split_35
      · refine z_iload (pc := 22) hX 4 dX12_split_22 rfl ?_
        refine z_iconst (pc := 24) hX dX12_split_24 ?_
        refine z_iconst (pc := 25) hX dX12_split_25 ?_
        refine z_callS (n := 3) (st := []) (pc := 26) hX (mX12_in _ hE _ _ _ _ _) ⟨wd1173, wd67, wd1175, ⟨by decide, by decide, by decide⟩, by decide⟩ wd1174 rfl rfl (by decide) (Nat.le_of_ble_eq_true rfl) dX12_split_26 (fun v13 s14 r15 => ?_)
        show Zj X G 29 [(0, (2, a0)), (1, (0, a1)), (2, (0, a2)), (3, (0, a3)), (4, (0, a4))] [(0, v13)] _ _
        refine z_if_ne (pc := 29) hX 36 dX12_split_29 (by decide) (fun h16 => ?_) (fun h16 => ?_)
        · refine z_iconst (pc := 36) hX dX12_split_36 ?_
          refine z_istore (lv' := [(5, (0, 0)), (0, (2, a0)), (1, (0, a1)), (2, (0, a2)), (3, (0, a3)), (4, (0, a4))]) (pc := 37) hX dX12_split_37 (zlt hxn rfl) rfl ?_
          refine z_lconst (pc := 39) hX dX12_split_39 rfl ?_
          refine z_lstore (lv' := [(6, (1, 0)), (5, (0, 0)), (0, (2, a0)), (1, (0, a1)), (2, (0, a2)), (3, (0, a3)), (4, (0, a4))]) (pc := 40) hX dX12_split_40 (zlt2 hxn rfl) rfl ?_
          refine z_iconst (pc := 42) hX dX12_split_42 ?_
          refine z_istore (lv' := [(8, (0, 0)), (6, (1, 0)), (5, (0, 0)), (0, (2, a0)), (1, (0, a1)), (2, (0, a2)), (3, (0, a3)), (4, (0, a4))]) (pc := 43) hX dX12_split_43 (zlt hxn rfl) rfl ?_
          have hl45 : ∀ (u18 u19 u20 u21 u22 : Int), ∀ (K134 : ZS → Int → Int → Option (Int × ZS)), (∀ (s61 : ZS) (x62 x63 : Int), Zj X G 134 [(4, (0, u22)), (5, (0, x62)), (6, (1, x63))] [] s61 (K134 s61 x62 x63)) → ∀ (n1 : Nat) (s17 : ZS) (x23 x24 x25 : Int), Zj X G 45 [(0, (2, u18)), (1, (0, u19)), (2, (0, u20)), (3, (0, u21)), (4, (0, u22)), (5, (0, x23)), (6, (1, x24)), (8, (0, x25))] [] s17 (lX12_split_45 u18 u19 u20 u21 u22 K134 n1 s17 x23 x24 x25) := by
            intro u18 u19 u20 u21 u22 K134 hK134 n1
            induction n1 with
            | zero => intro _ _ _ _; exact z_none
            | succ n1 ih1 =>
              intro s17 x23 x24 x25
              rw [lX12_split_45]
              refine z_iload (pc := 45) hX 7 dX12_split_45 rfl ?_
              refine z_aload_n (pc := 47) hX 0 dX12_split_47 rfl rfl ?_
              refine z_get (pc := 48) hX zc12 10 (by decide) wd1027 rfl rfl dX12_split_48 (fun v26 => ?_)
              refine z_iload_n (pc := 51) hX 1 dX12_split_51 rfl rfl ?_
              refine z_iald (pc := 52) hX dX12_split_52 (fun v27 => ?_)
              refine z_icmp_gt (pc := 53) hX 134 dX12_split_53 (by decide) (fun h28 => ?_) (fun h28 => ?_)
              · refine z_pick (lv' := [(4, (0, u22)), (5, (0, x23)), (6, (1, x24))]) [4, 5, 6] rfl ?_
                exact hK134 _ _ _
              · refine z_iconst (pc := 56) hX dX12_split_56 ?_
                refine z_istore (lv' := [(9, (0, 0)), (0, (2, u18)), (1, (0, u19)), (2, (0, u20)), (3, (0, u21)), (4, (0, u22)), (5, (0, x23)), (6, (1, x24)), (8, (0, x25))]) (pc := 57) hX dX12_split_57 (zlt hxn rfl) rfl ?_
                have hl59 : ∀ (u30 u31 u32 u33 u34 u35 u36 u37 : Int), ∀ (K95 : ZS → Option (Int × ZS)), (∀ (s47 : ZS), Zj X G 95 [(0, (2, u30)), (1, (0, u31)), (2, (0, u32)), (3, (0, u33)), (4, (0, u34)), (5, (0, u35)), (6, (1, u36)), (8, (0, u37))] [] s47 (K95 s47)) → ∀ (n2 : Nat) (s29 : ZS) (x38 : Int), Zj X G 59 [(0, (2, u30)), (1, (0, u31)), (2, (0, u32)), (3, (0, u33)), (4, (0, u34)), (5, (0, u35)), (6, (1, u36)), (8, (0, u37)), (9, (0, x38))] [] s29 (lX12_split_59 u30 u31 u32 u33 u34 u35 u36 u37 K95 n2 s29 x38) := by
                  intro u30 u31 u32 u33 u34 u35 u36 u37 K95 hK95 n2
                  induction n2 with
                  | zero => intro _ _; exact z_none
                  | succ n2 ih2 =>
                    intro s29 x38
                    rw [lX12_split_59]
                    refine z_iload (pc := 59) hX 8 dX12_split_59 rfl ?_
                    refine z_aload_n (pc := 61) hX 0 dX12_split_61 rfl rfl ?_
                    refine z_get (pc := 62) hX zc12 10 (by decide) wd1027 rfl rfl dX12_split_62 (fun v39 => ?_)
                    refine z_iload_n (pc := 65) hX 1 dX12_split_65 rfl rfl ?_
                    refine z_iald (pc := 66) hX dX12_split_66 (fun v40 => ?_)
                    refine z_icmp_ge (pc := 67) hX 95 dX12_split_67 (by decide) (fun h41 => ?_) (fun h41 => ?_)
                    · refine z_pick (lv' := [(0, (2, u30)), (1, (0, u31)), (2, (0, u32)), (3, (0, u33)), (4, (0, u34)), (5, (0, u35)), (6, (1, u36)), (8, (0, u37))]) [0, 1, 2, 3, 4, 5, 6, 7] rfl ?_
                      exact hK95 _
                    · refine z_aload_n (pc := 70) hX 0 dX12_split_70 rfl rfl ?_
                      refine z_get (pc := 71) hX zc12 40 (by decide) wd1057 rfl rfl dX12_split_71 (fun v42 => ?_)
                      refine z_iload (pc := 74) hX 8 dX12_split_74 rfl ?_
                      refine z_iload (pc := 76) hX 8 dX12_split_76 rfl ?_
                      refine z_iload (pc := 78) hX 7 dX12_split_78 rfl ?_
                      refine z_jn (fun K88 eK88 => ?_)
                      have hK88 : ∀ (s44 : ZS) (w45 : Int), Zj X G 88 [(0, (2, u30)), (1, (0, u31)), (2, (0, u32)), (3, (0, u33)), (4, (0, u34)), (5, (0, u35)), (6, (1, u36)), (8, (0, u37)), (9, (0, x38))] [(0, w45), (0, x38), (2, v42)] s44 (K88 s44 w45) := by
                        intro s44 w45
                        rw [eK88]
                        refine z_iastA (pc := 88) hX dX12_split_88 (fun s46 => ?_)
                        refine z_iinc (lv' := [(9, (0, (wrap (x38 + 1)))), (0, (2, u30)), (1, (0, u31)), (2, (0, u32)), (3, (0, u33)), (4, (0, u34)), (5, (0, u35)), (6, (1, u36)), (8, (0, u37))]) (pc := 89) hX 8 dX12_split_89 rfl (zlt hxn rfl) rfl ?_
                        refine z_goto (pc := 92) hX 59 dX12_split_92 (by decide) ?_
                        refine z_pick (lv' := [(0, (2, u30)), (1, (0, u31)), (2, (0, u32)), (3, (0, u33)), (4, (0, u34)), (5, (0, u35)), (6, (1, u36)), (8, (0, u37)), (9, (0, (wrap (x38 + 1))))]) [1, 2, 3, 4, 5, 6, 7, 8, 0] rfl ?_
                        exact ih2 _ _
                      clear eK88
                      refine z_icmp_ge (pc := 80) hX 87 dX12_split_80 (by decide) (fun h43 => ?_) (fun h43 => ?_)
                      · refine z_iload_n (pc := 87) hX 3 dX12_split_87 rfl rfl ?_
                        exact hK88 _ _
                      · refine z_iload_n (pc := 83) hX 2 dX12_split_83 rfl rfl ?_
                        refine z_goto (pc := 84) hX 88 dX12_split_84 (by decide) ?_
                        exact hK88 _ _
                refine z_pick (lv' := [(0, (2, u18)), (1, (0, u19)), (2, (0, u20)), (3, (0, u21)), (4, (0, u22)), (5, (0, x23)), (6, (1, x24)), (8, (0, x25)), (9, (0, 0))]) [1, 2, 3, 4, 5, 6, 7, 8, 0] rfl ?_
                refine hl59 _ _ _ _ _ _ _ _ _ (fun s48 => ?_) 1000 _ _
                refine z_aload_n (pc := 95) hX 0 dX12_split_95 rfl rfl ?_
                refine z_iload_n (pc := 96) hX 1 dX12_split_96 rfl rfl ?_
                refine z_callV (n := 1) (st := []) (pc := 97) hX zc12 rfl (fun _ => (mX12_goes _ hE _ _ _ _)) ⟨wd1288, wd67, wd1291, ⟨by decide, by decide, by decide⟩, by decide⟩ rfl wd1290 wd45 rfl rfl (by decide) (Nat.le_of_ble_eq_true rfl) dX12_split_97 (fun v49 s50 r51 => ?_)
                show Zj X G 100 [(0, (2, u18)), (1, (0, u19)), (2, (0, u20)), (3, (0, u21)), (4, (0, u22)), (5, (0, x23)), (6, (1, x24)), (8, (0, x25))] [] _ _
                refine z_aload_n (pc := 100) hX 0 dX12_split_100 rfl rfl ?_
                refine z_iload_n (pc := 101) hX 1 dX12_split_101 rfl rfl ?_
                refine z_callV (n := 1) (st := []) (pc := 102) hX zc12 rfl (fun _ => (mX12_costAll _ hE _ _ _ _)) ⟨wd1343, wd67, wd1346, ⟨by decide, by decide, by decide⟩, by decide⟩ rfl wd1345 wd54 rfl rfl (by decide) (Nat.le_of_ble_eq_true rfl) dX12_split_102 (fun v52 s53 r54 => ?_)
                show Zj X G 105 [(0, (2, u18)), (1, (0, u19)), (2, (0, u20)), (3, (0, u21)), (4, (0, u22)), (5, (0, x23)), (6, (1, x24)), (8, (0, x25))] [(1, v52)] _ _
                refine z_lstore (lv' := [(9, (1, v52)), (0, (2, u18)), (1, (0, u19)), (2, (0, u20)), (3, (0, u21)), (4, (0, u22)), (5, (0, x23)), (6, (1, x24)), (8, (0, x25))]) (pc := 105) hX dX12_split_105 (zlt2 hxn rfl) rfl ?_
                refine z_iload (pc := 107) hX 8 dX12_split_107 rfl ?_
                refine z_jn (fun K128 eK128 => ?_)
                have hK128 : ∀ (s58 : ZS) (x59 x60 : Int), Zj X G 128 [(0, (2, u18)), (1, (0, u19)), (2, (0, u20)), (3, (0, u21)), (4, (0, u22)), (5, (0, x59)), (6, (1, x60)), (8, (0, x25))] [] s58 (K128 s58 x59 x60) := by
                  intro s58 x59 x60
                  rw [eK128]
                  refine z_iinc (lv' := [(8, (0, (wrap (x25 + 1)))), (0, (2, u18)), (1, (0, u19)), (2, (0, u20)), (3, (0, u21)), (4, (0, u22)), (5, (0, x59)), (6, (1, x60))]) (pc := 128) hX 7 dX12_split_128 rfl (zlt hxn rfl) rfl ?_
                  refine z_goto (pc := 131) hX 45 dX12_split_131 (by decide) ?_
                  refine z_pick (lv' := [(0, (2, u18)), (1, (0, u19)), (2, (0, u20)), (3, (0, u21)), (4, (0, u22)), (5, (0, x59)), (6, (1, x60)), (8, (0, (wrap (x25 + 1))))]) [1, 2, 3, 4, 5, 6, 7, 0] rfl ?_
                  exact ih1 _ _ _ _
                clear eK128
                refine z_jn (fun K120 eK120 => ?_)
                have hK120 : ∀ (s57 : ZS), Zj X G 120 [(0, (2, u18)), (1, (0, u19)), (2, (0, u20)), (3, (0, u21)), (4, (0, u22)), (8, (0, x25)), (9, (1, v52))] [] s57 (K120 s57) := by
                  intro s57
                  rw [eK120]
                  refine z_iload (pc := 120) hX 5 dX12_split_120 rfl ?_
                  refine z_istore (lv' := [(5, (0, x25)), (0, (2, u18)), (1, (0, u19)), (2, (0, u20)), (3, (0, u21)), (4, (0, u22)), (8, (0, x25)), (9, (1, v52))]) (pc := 122) hX dX12_split_122 (zlt hxn rfl) rfl ?_
                  refine z_lload (pc := 124) hX 7 dX12_split_124 rfl ?_
                  refine z_lstore (lv' := [(6, (1, v52)), (5, (0, x25)), (0, (2, u18)), (1, (0, u19)), (2, (0, u20)), (3, (0, u21)), (4, (0, u22)), (8, (0, x25)), (9, (1, v52))]) (pc := 126) hX dX12_split_126 (zlt2 hxn rfl) rfl ?_
                  refine z_pick (lv' := [(0, (2, u18)), (1, (0, u19)), (2, (0, u20)), (3, (0, u21)), (4, (0, u22)), (5, (0, x25)), (6, (1, v52)), (8, (0, x25))]) [2, 3, 4, 5, 6, 1, 0, 7] rfl ?_
                  exact hK128 _ _ _
                clear eK120
                refine z_if_eq (pc := 109) hX 120 dX12_split_109 (by decide) (fun h55 => ?_) (fun h55 => ?_)
                · refine z_pick (lv' := [(0, (2, u18)), (1, (0, u19)), (2, (0, u20)), (3, (0, u21)), (4, (0, u22)), (8, (0, x25)), (9, (1, v52))]) [1, 2, 3, 4, 5, 8, 0] rfl ?_
                  exact hK120 _
                · refine z_lload (pc := 112) hX 0 dX12_split_112 rfl ?_
                  refine z_lload (pc := 114) hX 7 dX12_split_114 rfl ?_
                  refine z_lcmp (pc := 116) hX dX12_split_116 ?_
                  refine z_if_ge (pc := 117) hX 128 dX12_split_117 (by decide) (fun h56 => ?_) (fun h56 => ?_)
                  · refine z_pick (lv' := [(0, (2, u18)), (1, (0, u19)), (2, (0, u20)), (3, (0, u21)), (4, (0, u22)), (5, (0, x23)), (6, (1, x24)), (8, (0, x25))]) [1, 2, 3, 4, 5, 6, 7, 8] rfl ?_
                    exact hK128 _ _ _
                  · refine z_pick (lv' := [(0, (2, u18)), (1, (0, u19)), (2, (0, u20)), (3, (0, u21)), (4, (0, u22)), (8, (0, x25)), (9, (1, v52))]) [1, 2, 3, 4, 5, 8, 0] rfl ?_
                    exact hK120 _
          refine z_pick (lv' := [(0, (2, a0)), (1, (0, a1)), (2, (0, a2)), (3, (0, a3)), (4, (0, a4)), (5, (0, 0)), (6, (1, 0)), (8, (0, 0))]) [3, 4, 5, 6, 7, 2, 1, 0] rfl ?_
          refine hl45 _ _ _ _ _ _ (fun s64 x65 x66 => ?_) 1000 _ _ _ _
          refine z_iload (pc := 134) hX 0 dX12_split_134 rfl ?_
          refine z_if_ne (pc := 136) hX 145 dX12_split_136 (by decide) (fun h67 => ?_) (fun h67 => ?_)
          · refine z_lload (pc := 145) hX 2 dX12_split_145 rfl ?_
            exact z_lret (pc := 147) hX hR hk dX12_split_147
          · refine z_iload (pc := 139) hX 1 dX12_split_139 rfl ?_
            refine z_i2lR (pc := 141) hX dX12_split_141 ?_
            refine z_goto (pc := 142) hX 147 dX12_split_142 (by decide) ?_
            exact z_lret (pc := 147) hX hR hk dX12_split_147
        · refine z_ldc2 (n := -4611686018427387904) (pc := 32) hX dX12_split_32 wd1338 (by decide) ?_
          exact z_lret (pc := 35) hX hR hk dX12_split_35
