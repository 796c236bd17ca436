theorem dX12_sort_0 : decode cX12_sort 0 = .ok (.iload_n 1, 1) := by decide +kernel
theorem dX12_sort_1 : decode cX12_sort 1 = .ok (.iconst 0, 1) := by decide +kernel
theorem dX12_sort_2 : decode cX12_sort 2 = .ok (.bipush 23, 2) := by decide +kernel
theorem dX12_sort_4 : decode cX12_sort 4 = .ok (.invokestatic 127, 3) := by decide +kernel
theorem dX12_sort_7 : decode cX12_sort 7 = .ok (.ifCond .eq 35, 3) := by decide +kernel
theorem dX12_sort_10 : decode cX12_sort 10 = .ok (.iload_n 2, 1) := by decide +kernel
theorem dX12_sort_11 : decode cX12_sort 11 = .ok (.iconst 0, 1) := by decide +kernel
theorem dX12_sort_12 : decode cX12_sort 12 = .ok (.sipush 999, 3) := by decide +kernel
theorem dX12_sort_15 : decode cX12_sort 15 = .ok (.invokestatic 127, 3) := by decide +kernel
theorem dX12_sort_18 : decode cX12_sort 18 = .ok (.ifCond .eq 24, 3) := by decide +kernel
theorem dX12_sort_21 : decode cX12_sort 21 = .ok (.iload_n 3, 1) := by decide +kernel
theorem dX12_sort_22 : decode cX12_sort 22 = .ok (.iconst 0, 1) := by decide +kernel
theorem dX12_sort_23 : decode cX12_sort 23 = .ok (.bipush 9, 2) := by decide +kernel
theorem dX12_sort_25 : decode cX12_sort 25 = .ok (.invokestatic 127, 3) := by decide +kernel
theorem dX12_sort_28 : decode cX12_sort 28 = .ok (.ifCond .eq 14, 3) := by decide +kernel
theorem dX12_sort_31 : decode cX12_sort 31 = .ok (.iload 4, 2) := by decide +kernel
theorem dX12_sort_33 : decode cX12_sort 33 = .ok (.iconst 0, 1) := by decide +kernel
theorem dX12_sort_34 : decode cX12_sort 34 = .ok (.bipush 9, 2) := by decide +kernel
theorem dX12_sort_36 : decode cX12_sort 36 = .ok (.invokestatic 127, 3) := by decide +kernel
theorem dX12_sort_39 : decode cX12_sort 39 = .ok (.ifCond .ne 6, 3) := by decide +kernel
theorem dX12_sort_42 : decode cX12_sort 42 = .ok (.bipush (-2), 2) := by decide +kernel
theorem dX12_sort_44 : decode cX12_sort 44 = .ok (.ireturn, 1) := by decide +kernel
theorem dX12_sort_45 : decode cX12_sort 45 = .ok (.aload_n 0, 1) := by decide +kernel
theorem dX12_sort_46 : decode cX12_sort 46 = .ok (.getfield 135, 3) := by decide +kernel
theorem dX12_sort_49 : decode cX12_sort 49 = .ok (.iconst 4, 1) := by decide +kernel
theorem dX12_sort_50 : decode cX12_sort 50 = .ok (.if_icmp .ne 6, 3) := by decide +kernel
theorem dX12_sort_53 : decode cX12_sort 53 = .ok (.bipush (-4), 2) := by decide +kernel
theorem dX12_sort_55 : decode cX12_sort 55 = .ok (.ireturn, 1) := by decide +kernel
theorem dX12_sort_56 : decode cX12_sort 56 = .ok (.aload_n 0, 1) := by decide +kernel
theorem dX12_sort_57 : decode cX12_sort 57 = .ok (.getfield 16, 3) := by decide +kernel
theorem dX12_sort_60 : decode cX12_sort 60 = .ok (.aload_n 0, 1) := by decide +kernel
theorem dX12_sort_61 : decode cX12_sort 61 = .ok (.getfield 135, 3) := by decide +kernel
theorem dX12_sort_64 : decode cX12_sort 64 = .ok (.iload_n 1, 1) := by decide +kernel
theorem dX12_sort_65 : decode cX12_sort 65 = .ok (.iastore, 1) := by decide +kernel
theorem dX12_sort_66 : decode cX12_sort 66 = .ok (.aload_n 0, 1) := by decide +kernel
theorem dX12_sort_67 : decode cX12_sort 67 = .ok (.getfield 19, 3) := by decide +kernel
theorem dX12_sort_70 : decode cX12_sort 70 = .ok (.aload_n 0, 1) := by decide +kernel
theorem dX12_sort_71 : decode cX12_sort 71 = .ok (.getfield 135, 3) := by decide +kernel
theorem dX12_sort_74 : decode cX12_sort 74 = .ok (.iload_n 2, 1) := by decide +kernel
theorem dX12_sort_75 : decode cX12_sort 75 = .ok (.iastore, 1) := by decide +kernel
theorem dX12_sort_76 : decode cX12_sort 76 = .ok (.aload_n 0, 1) := by decide +kernel
theorem dX12_sort_77 : decode cX12_sort 77 = .ok (.getfield 22, 3) := by decide +kernel
theorem dX12_sort_80 : decode cX12_sort 80 = .ok (.iconst 2, 1) := by decide +kernel
theorem dX12_sort_81 : decode cX12_sort 81 = .ok (.aload_n 0, 1) := by decide +kernel
theorem dX12_sort_82 : decode cX12_sort 82 = .ok (.getfield 135, 3) := by decide +kernel
theorem dX12_sort_85 : decode cX12_sort 85 = .ok (.imul, 1) := by decide +kernel
theorem dX12_sort_86 : decode cX12_sort 86 = .ok (.iload_n 3, 1) := by decide +kernel
theorem dX12_sort_87 : decode cX12_sort 87 = .ok (.iastore, 1) := by decide +kernel
theorem dX12_sort_88 : decode cX12_sort 88 = .ok (.aload_n 0, 1) := by decide +kernel
theorem dX12_sort_89 : decode cX12_sort 89 = .ok (.getfield 22, 3) := by decide +kernel
theorem dX12_sort_92 : decode cX12_sort 92 = .ok (.iconst 2, 1) := by decide +kernel
theorem dX12_sort_93 : decode cX12_sort 93 = .ok (.aload_n 0, 1) := by decide +kernel
theorem dX12_sort_94 : decode cX12_sort 94 = .ok (.getfield 135, 3) := by decide +kernel
theorem dX12_sort_97 : decode cX12_sort 97 = .ok (.imul, 1) := by decide +kernel
theorem dX12_sort_98 : decode cX12_sort 98 = .ok (.iconst 1, 1) := by decide +kernel
theorem dX12_sort_99 : decode cX12_sort 99 = .ok (.iadd, 1) := by decide +kernel
theorem dX12_sort_100 : decode cX12_sort 100 = .ok (.iload 4, 2) := by decide +kernel
theorem dX12_sort_102 : decode cX12_sort 102 = .ok (.iastore, 1) := by decide +kernel
theorem dX12_sort_103 : decode cX12_sort 103 = .ok (.aload_n 0, 1) := by decide +kernel
theorem dX12_sort_104 : decode cX12_sort 104 = .ok (.dup, 1) := by decide +kernel
theorem dX12_sort_105 : decode cX12_sort 105 = .ok (.getfield 135, 3) := by decide +kernel
theorem dX12_sort_108 : decode cX12_sort 108 = .ok (.iconst 1, 1) := by decide +kernel
theorem dX12_sort_109 : decode cX12_sort 109 = .ok (.iadd, 1) := by decide +kernel
theorem dX12_sort_110 : decode cX12_sort 110 = .ok (.putfield 135, 3) := by decide +kernel
theorem dX12_sort_113 : decode cX12_sort 113 = .ok (.aload_n 0, 1) := by decide +kernel
theorem dX12_sort_114 : decode cX12_sort 114 = .ok (.getfield 135, 3) := by decide +kernel
theorem dX12_sort_117 : decode cX12_sort 117 = .ok (.iconst 1, 1) := by decide +kernel
theorem dX12_sort_118 : decode cX12_sort 118 = .ok (.isub, 1) := by decide +kernel
theorem dX12_sort_119 : decode cX12_sort 119 = .ok (.ireturn, 1) := by decide +kernel
def fX12_sort (s0 : ZS) (a0 : Int) (a1 : Int) (a2 : Int) (a3 : Int) (a4 : Int) : Option (Int × ZS) := zb (fX12_in s0 a1 0 23) (fun v1 s2 => if v1 = 0 then (some ((-2), s2)) else (zb (fX12_in s2 a2 0 999) (fun v5 s6 => if v5 = 0 then (some ((-2), s6)) else (zb (fX12_in s6 a3 0 9) (fun v9 s10 => if v9 = 0 then (some ((-2), s10)) else (zb (fX12_in s10 a4 0 9) (fun v13 s14 => if v13 = 0 then (some ((-2), s14)) else ((zg s14 12 a0 2).bind (fun v17 => if v17 = 4 then (some ((-4), s14)) else ((zg s14 12 a0 3).bind (fun v19 => (zg s14 12 a0 2).bind (fun v20 => (zas s14 100 v19 v20 a1).bind (fun s21 => (zg s21 12 a0 4).bind (fun v22 => (zg s21 12 a0 2).bind (fun v23 => (zas s21 100 v22 v23 a2).bind (fun s24 => (zg s24 12 a0 5).bind (fun v25 => (zg s24 12 a0 2).bind (fun v26 => (zas s24 100 v25 (wrap (2 * v26)) a3).bind (fun s27 => (zg s27 12 a0 5).bind (fun v28 => (zg s27 12 a0 2).bind (fun v29 => (zas s27 100 v28 (wrap ((wrap (2 * v29)) + 1)) a4).bind (fun s30 => (zg s30 12 a0 2).bind (fun v31 => (zp s30 12 a0 2 (wrap (v31 + 1))).bind (fun s32 => (zg s32 12 a0 2).bind (fun v33 => some ((wrap (v33 - 1)), s32))))))))))))))))))))))))))
set_option maxHeartbeats 4000000 in
set_option maxRecDepth 100000 in
theorem mX12_sort (E : ZE) (hE : zOkE E) (l : Launch) (s0 : ZS) (a0 : Int) (a1 : Int) (a2 : Int) (a3 : Int) (a4 : Int) : Ct E l yX12_sort cX12_sort 5 (some .int) 4 [(2, a0), (0, a1), (0, a2), (0, a3), (0, a4)] 1 s0 (fX12_sort s0 a0 a1 a2 a3 a4) := by
  refine Ct.of (by decide) hE (Nat.le_of_ble_eq_true rfl) ?_
  intro X G hX hR hN hXE hXl hxn hk _
  subst hXE
  subst hXl
  have hX : G → ZOk X cX12_sort RX12 4 := hX
  clear hN
  show Zj X G 0 [(0, (2, a0)), (1, (0, a1)), (2, (0, a2)), (3, (0, a3)), (4, (0, a4))] [] s0 _
  unfold fX12_sort
  refine z_iload_n (pc := 0) hX 1 dX12_sort_0 rfl rfl ?_
  refine z_iconst (pc := 1) hX dX12_sort_1 ?_
  refine z_bipush (pc := 2) hX dX12_sort_2 ?_
  refine z_callS (n := 3) (st := []) (pc := 4) hX (mX12_in _ hE _ _ _ _ _) ⟨wd1173, wd67, wd1175, ⟨by decide, by decide, by decide⟩, by decide⟩ wd1174 rfl rfl (by decide) (Nat.le_of_ble_eq_true rfl) dX12_sort_4 (fun v1 s2 r3 => ?_)
  show Zj X G 7 [(0, (2, a0)), (1, (0, a1)), (2, (0, a2)), (3, (0, a3)), (4, (0, a4))] [(0, v1)] _ _
  refine z_if_eq (pc := 7) hX 42 dX12_sort_7 (by decide) (fun h4 => ?_) (fun h4 => ?_)
  · refine z_bipush (pc := 42) hX dX12_sort_42 ?_
    exact z_iret (pc := 44) hX hR hk dX12_sort_44
  · refine z_iload_n (pc := 10) hX 2 dX12_sort_10 rfl rfl ?_
    refine z_iconst (pc := 11) hX dX12_sort_11 ?_
    refine z_sipush (pc := 12) hX dX12_sort_12 ?_
    refine z_callS (n := 3) (st := []) (pc := 15) hX (mX12_in _ hE _ _ _ _ _) ⟨wd1173, wd67, wd1175, ⟨by decide, by decide, by decide⟩, by decide⟩ wd1174 rfl rfl (by decide) (Nat.le_of_ble_eq_true rfl) dX12_sort_15 (fun v5 s6 r7 => ?_)
    show Zj X G 18 [(0, (2, a0)), (1, (0, a1)), (2, (0, a2)), (3, (0, a3)), (4, (0, a4))] [(0, v5)] _ _
    refine z_if_eq (pc := 18) hX 42 dX12_sort_18 (by decide) (fun h8 => ?_) (fun h8 => ?_)
    · refine z_bipush (pc := 42) hX dX12_sort_42 ?_
      exact z_iret (pc := 44) hX hR hk dX12_sort_44
    · refine z_iload_n (pc := 21) hX 3 dX12_sort_21 rfl rfl ?_
      refine z_iconst (pc := 22) hX dX12_sort_22 ?_
      refine z_bipush (pc := 23) hX dX12_sort_23 ?_
      refine z_callS (n := 3) (st := []) (pc := 25) hX (mX12_in _ hE _ _ _ _ _) ⟨wd1173, wd67, wd1175, ⟨by decide, by decide, by decide⟩, by decide⟩ wd1174 rfl rfl (by decide) (Nat.le_of_ble_eq_true rfl) dX12_sort_25 (fun v9 s10 r11 => ?_)
      show Zj X G 28 [(0, (2, a0)), (1, (0, a1)), (2, (0, a2)), (3, (0, a3)), (4, (0, a4))] [(0, v9)] _ _
      refine z_if_eq (pc := 28) hX 42 dX12_sort_28 (by decide) (fun h12 => ?_) (fun h12 => ?_)
      · refine z_bipush (pc := 42) hX dX12_sort_42 ?_
        exact z_iret (pc := 44) hX hR hk dX12_sort_44
      · refine z_iload (pc := 31) hX 4 dX12_sort_31 rfl ?_
        refine z_iconst (pc := 33) hX dX12_sort_33 ?_
        refine z_bipush (pc := 34) hX dX12_sort_34 ?_
        refine z_callS (n := 3) (st := []) (pc := 36) hX (mX12_in _ hE _ _ _ _ _) ⟨wd1173, wd67, wd1175, ⟨by decide, by decide, by decide⟩, by decide⟩ wd1174 rfl rfl (by decide) (Nat.le_of_ble_eq_true rfl) dX12_sort_36 (fun v13 s14 r15 => ?_)
        show Zj X G 39 [(0, (2, a0)), (1, (0, a1)), (2, (0, a2)), (3, (0, a3)), (4, (0, a4))] [(0, v13)] _ _
        refine z_if_ne (pc := 39) hX 45 dX12_sort_39 (by decide) (fun h16 => ?_) (fun h16 => ?_)
        · refine z_aload_n (pc := 45) hX 0 dX12_sort_45 rfl rfl ?_
          refine z_get (pc := 46) hX zc12 2 (by decide) wd1019 rfl rfl dX12_sort_46 (fun v17 => ?_)
          refine z_iconst (pc := 49) hX dX12_sort_49 ?_
          refine z_icmp_ne (pc := 50) hX 56 dX12_sort_50 (by decide) (fun h18 => ?_) (fun h18 => ?_)
          · refine z_aload_n (pc := 56) hX 0 dX12_sort_56 rfl rfl ?_
            refine z_get (pc := 57) hX zc12 3 (by decide) wd1020 rfl rfl dX12_sort_57 (fun v19 => ?_)
            refine z_aload_n (pc := 60) hX 0 dX12_sort_60 rfl rfl ?_
            refine z_get (pc := 61) hX zc12 2 (by decide) wd1019 rfl rfl dX12_sort_61 (fun v20 => ?_)
            refine z_iload_n (pc := 64) hX 1 dX12_sort_64 rfl rfl ?_
            refine z_iastA (pc := 65) hX dX12_sort_65 (fun s21 => ?_)
            refine z_aload_n (pc := 66) hX 0 dX12_sort_66 rfl rfl ?_
            refine z_get (pc := 67) hX zc12 4 (by decide) wd1021 rfl rfl dX12_sort_67 (fun v22 => ?_)
            refine z_aload_n (pc := 70) hX 0 dX12_sort_70 rfl rfl ?_
            refine z_get (pc := 71) hX zc12 2 (by decide) wd1019 rfl rfl dX12_sort_71 (fun v23 => ?_)
            refine z_iload_n (pc := 74) hX 2 dX12_sort_74 rfl rfl ?_
            refine z_iastA (pc := 75) hX dX12_sort_75 (fun s24 => ?_)
            refine z_aload_n (pc := 76) hX 0 dX12_sort_76 rfl rfl ?_
            refine z_get (pc := 77) hX zc12 5 (by decide) wd1022 rfl rfl dX12_sort_77 (fun v25 => ?_)
            refine z_iconst (pc := 80) hX dX12_sort_80 ?_
            refine z_aload_n (pc := 81) hX 0 dX12_sort_81 rfl rfl ?_
            refine z_get (pc := 82) hX zc12 2 (by decide) wd1019 rfl rfl dX12_sort_82 (fun v26 => ?_)
            refine z_imul (pc := 85) hX dX12_sort_85 ?_
            refine z_iload_n (pc := 86) hX 3 dX12_sort_86 rfl rfl ?_
            refine z_iastA (pc := 87) hX dX12_sort_87 (fun s27 => ?_)
            refine z_aload_n (pc := 88) hX 0 dX12_sort_88 rfl rfl ?_
            refine z_get (pc := 89) hX zc12 5 (by decide) wd1022 rfl rfl dX12_sort_89 (fun v28 => ?_)
            refine z_iconst (pc := 92) hX dX12_sort_92 ?_
            refine z_aload_n (pc := 93) hX 0 dX12_sort_93 rfl rfl ?_
            refine z_get (pc := 94) hX zc12 2 (by decide) wd1019 rfl rfl dX12_sort_94 (fun v29 => ?_)
            refine z_imul (pc := 97) hX dX12_sort_97 ?_
            refine z_iconst (pc := 98) hX dX12_sort_98 ?_
            refine z_iadd (pc := 99) hX dX12_sort_99 ?_
            refine z_iload (pc := 100) hX 4 dX12_sort_100 rfl ?_
            refine z_iastA (pc := 102) hX dX12_sort_102 (fun s30 => ?_)
            refine z_aload_n (pc := 103) hX 0 dX12_sort_103 rfl rfl ?_
            refine z_dup (pc := 104) hX zn2 dX12_sort_104 ?_
            refine z_get (pc := 105) hX zc12 2 (by decide) wd1019 rfl rfl dX12_sort_105 (fun v31 => ?_)
            refine z_iconst (pc := 108) hX dX12_sort_108 ?_
            refine z_iadd (pc := 109) hX dX12_sort_109 ?_
            refine z_putA (pc := 110) hX zc12 2 (by decide) wd1019 (Or.inl rfl) rfl rfl (fun _ => rfl) (fun _ => rfl) dX12_sort_110 (fun s32 => ?_)
            refine z_aload_n (pc := 113) hX 0 dX12_sort_113 rfl rfl ?_
            refine z_get (pc := 114) hX zc12 2 (by decide) wd1019 rfl rfl dX12_sort_114 (fun v33 => ?_)
            refine z_iconst (pc := 117) hX dX12_sort_117 ?_
            refine z_isub (pc := 118) hX dX12_sort_118 ?_
            exact z_iret (pc := 119) hX hR hk dX12_sort_119
          · refine z_bipush (pc := 53) hX dX12_sort_53 ?_
            exact z_iret (pc := 55) hX hR hk dX12_sort_55
        · refine z_bipush (pc := 42) hX dX12_sort_42 ?_
          exact z_iret (pc := 44) hX hR hk dX12_sort_44

theorem dX11_isSort_0 : decode cX11_isSort 0 = .ok (.iload_n 1, 1) := by decide +kernel
theorem dX11_isSort_1 : decode cX11_isSort 1 = .ok (.ifCond .lt 18, 3) := by decide +kernel
theorem dX11_isSort_4 : decode cX11_isSort 4 = .ok (.iload_n 1, 1) := by decide +kernel
theorem dX11_isSort_5 : decode cX11_isSort 5 = .ok (.aload_n 0, 1) := by decide +kernel
theorem dX11_isSort_6 : decode cX11_isSort 6 = .ok (.getfield 20, 3) := by decide +kernel
theorem dX11_isSort_9 : decode cX11_isSort 9 = .ok (.getfield 113, 3) := by decide +kernel
theorem dX11_isSort_12 : decode cX11_isSort 12 = .ok (.if_icmp .ge 7, 3) := by decide +kernel
theorem dX11_isSort_15 : decode cX11_isSort 15 = .ok (.iconst 1, 1) := by decide +kernel
theorem dX11_isSort_16 : decode cX11_isSort 16 = .ok (.goto 4, 3) := by decide +kernel
theorem dX11_isSort_19 : decode cX11_isSort 19 = .ok (.iconst 0, 1) := by decide +kernel
theorem dX11_isSort_20 : decode cX11_isSort 20 = .ok (.ireturn, 1) := by decide +kernel
def fX11_isSort (s0 : ZS) (a0 : Int) (a1 : Int) : Option (Int × ZS) := if a1 < 0 then (some (0, s0)) else ((zg s0 11 a0 1).bind (fun v2 => (zg s0 5 v2 5).bind (fun v3 => if v3 ≤ a1 then (some (0, s0)) else (some (1, s0)))))
set_option maxHeartbeats 4000000 in
set_option maxRecDepth 100000 in
theorem mX11_isSort (E : ZE) (hE : zOkE E) (l : Launch) (s0 : ZS) (a0 : Int) (a1 : Int) : Ct E l yX11_isSort cX11_isSort 2 (some .boolean) 2 [(2, a0), (0, a1)] 4 s0 (fX11_isSort s0 a0 a1) := by
  refine Ct.of (by decide) hE (Nat.le_of_ble_eq_true rfl) ?_
  intro X G hX hR hN hXE hXl hxn hk _
  subst hXE
  subst hXl
  have hX : G → ZOk X cX11_isSort RX11 2 := hX
  clear hN
  show Zj X G 0 [(0, (2, a0)), (1, (0, a1))] [] s0 _
  unfold fX11_isSort
  refine z_iload_n (pc := 0) hX 1 dX11_isSort_0 rfl rfl ?_
  refine z_if_lt (pc := 1) hX 19 dX11_isSort_1 (by decide) (fun h1 => ?_) (fun h1 => ?_)
  · refine z_iconst (pc := 19) hX dX11_isSort_19 ?_
    exact z_zret (pc := 20) hX hR hk dX11_isSort_20 (Or.inl rfl)
  · refine z_iload_n (pc := 4) hX 1 dX11_isSort_4 rfl rfl ?_
    refine z_aload_n (pc := 5) hX 0 dX11_isSort_5 rfl rfl ?_
    refine z_get (pc := 6) hX zc11 1 (by decide) wd271 rfl rfl dX11_isSort_6 (fun v2 => ?_)
    refine z_get (pc := 9) hX zc5 5 (by decide) wd121 rfl rfl dX11_isSort_9 (fun v3 => ?_)
    refine z_icmp_ge (pc := 12) hX 19 dX11_isSort_12 (by decide) (fun h4 => ?_) (fun h4 => ?_)
    · refine z_iconst (pc := 19) hX dX11_isSort_19 ?_
      exact z_zret (pc := 20) hX hR hk dX11_isSort_20 (Or.inl rfl)
    · refine z_iconst (pc := 15) hX dX11_isSort_15 ?_
      refine z_goto (pc := 16) hX 20 dX11_isSort_16 (by decide) ?_
      exact z_zret (pc := 20) hX hR hk dX11_isSort_20 (Or.inr rfl)

theorem dX11_cart_0 : decode cX11_cart 0 = .ok (.aload_n 0, 1) := by decide +kernel
theorem dX11_cart_1 : decode cX11_cart 1 = .ok (.iload_n 1, 1) := by decide +kernel
theorem dX11_cart_2 : decode cX11_cart 2 = .ok (.invokevirtual 125, 3) := by decide +kernel
theorem dX11_cart_5 : decode cX11_cart 5 = .ok (.ifCond .ne 5, 3) := by decide +kernel
theorem dX11_cart_8 : decode cX11_cart 8 = .ok (.iconst (-1), 1) := by decide +kernel
theorem dX11_cart_9 : decode cX11_cart 9 = .ok (.ireturn, 1) := by decide +kernel
theorem dX11_cart_10 : decode cX11_cart 10 = .ok (.aload_n 0, 1) := by decide +kernel
theorem dX11_cart_11 : decode cX11_cart 11 = .ok (.getfield 20, 3) := by decide +kernel
theorem dX11_cart_14 : decode cX11_cart 14 = .ok (.getfield 128, 3) := by decide +kernel
theorem dX11_cart_17 : decode cX11_cart 17 = .ok (.bipush 16, 2) := by decide +kernel
theorem dX11_cart_19 : decode cX11_cart 19 = .ok (.if_icmp .lt 6, 3) := by decide +kernel
theorem dX11_cart_22 : decode cX11_cart 22 = .ok (.bipush (-4), 2) := by decide +kernel
theorem dX11_cart_24 : decode cX11_cart 24 = .ok (.ireturn, 1) := by decide +kernel
theorem dX11_cart_25 : decode cX11_cart 25 = .ok (.aload_n 0, 1) := by decide +kernel
theorem dX11_cart_26 : decode cX11_cart 26 = .ok (.getfield 20, 3) := by decide +kernel
theorem dX11_cart_29 : decode cX11_cart 29 = .ok (.getfield 128, 3) := by decide +kernel
theorem dX11_cart_32 : decode cX11_cart 32 = .ok (.istore_n 2, 1) := by decide +kernel
theorem dX11_cart_33 : decode cX11_cart 33 = .ok (.aload_n 0, 1) := by decide +kernel
theorem dX11_cart_34 : decode cX11_cart 34 = .ok (.getfield 20, 3) := by decide +kernel
theorem dX11_cart_37 : decode cX11_cart 37 = .ok (.getfield 131, 3) := by decide +kernel
theorem dX11_cart_40 : decode cX11_cart 40 = .ok (.iload_n 2, 1) := by decide +kernel
theorem dX11_cart_41 : decode cX11_cart 41 = .ok (.iload_n 1, 1) := by decide +kernel
theorem dX11_cart_42 : decode cX11_cart 42 = .ok (.iastore, 1) := by decide +kernel
theorem dX11_cart_43 : decode cX11_cart 43 = .ok (.aload_n 0, 1) := by decide +kernel
theorem dX11_cart_44 : decode cX11_cart 44 = .ok (.getfield 20, 3) := by decide +kernel
theorem dX11_cart_47 : decode cX11_cart 47 = .ok (.iload_n 2, 1) := by decide +kernel
theorem dX11_cart_48 : decode cX11_cart 48 = .ok (.iconst 1, 1) := by decide +kernel
theorem dX11_cart_49 : decode cX11_cart 49 = .ok (.iadd, 1) := by decide +kernel
theorem dX11_cart_50 : decode cX11_cart 50 = .ok (.putfield 128, 3) := by decide +kernel
theorem dX11_cart_53 : decode cX11_cart 53 = .ok (.iload_n 2, 1) := by decide +kernel
theorem dX11_cart_54 : decode cX11_cart 54 = .ok (.ireturn, 1) := by decide +kernel
def fX11_cart (s0 : ZS) (a0 : Int) (a1 : Int) : Option (Int × ZS) := zb (zv s0 11 a0 (fX11_isSort s0 a0 a1)) (fun v1 s2 => if v1 = 0 then (some ((-1), s2)) else ((zg s2 11 a0 1).bind (fun v5 => (zg s2 5 v5 7).bind (fun v6 => if v6 < 16 then ((zg s2 11 a0 1).bind (fun v8 => (zg s2 5 v8 7).bind (fun v9 => (zg s2 11 a0 1).bind (fun v10 => (zg s2 5 v10 6).bind (fun v11 => (zas s2 100 v11 v9 a1).bind (fun s12 => (zg s12 11 a0 1).bind (fun v13 => (zp s12 5 v13 7 (wrap (v9 + 1))).bind (fun s14 => some (v9, s14))))))))) else (some ((-4), s2))))))
set_option maxHeartbeats 4000000 in
set_option maxRecDepth 100000 in
theorem mX11_cart (E : ZE) (hE : zOkE E) (l : Launch) (s0 : ZS) (a0 : Int) (a1 : Int) : Ct E l yX11_cart cX11_cart 3 (some .int) 4 [(2, a0), (0, a1)] 1 s0 (fX11_cart s0 a0 a1) := by
  refine Ct.of (by decide) hE (Nat.le_of_ble_eq_true rfl) ?_
  intro X G hX hR hN hXE hXl hxn hk _
  subst hXE
  subst hXl
  have hX : G → ZOk X cX11_cart RX11 4 := hX
  clear hN
  show Zj X G 0 [(0, (2, a0)), (1, (0, a1))] [] s0 _
  unfold fX11_cart
  refine z_aload_n (pc := 0) hX 0 dX11_cart_0 rfl rfl ?_
  refine z_iload_n (pc := 1) hX 1 dX11_cart_1 rfl rfl ?_
  refine z_callV (n := 1) (st := []) (pc := 2) hX zc11 rfl (fun _ => (mX11_isSort _ hE _ _ _ _)) ⟨wd347, wd61, wd350, ⟨by decide, by decide, by decide⟩, by decide⟩ rfl wd349 wd0 rfl rfl (by decide) (Nat.le_of_ble_eq_true rfl) dX11_cart_2 (fun v1 s2 r3 => ?_)
  show Zj X G 5 [(0, (2, a0)), (1, (0, a1))] [(0, v1)] _ _
  refine z_if_ne (pc := 5) hX 10 dX11_cart_5 (by decide) (fun h4 => ?_) (fun h4 => ?_)
  · refine z_aload_n (pc := 10) hX 0 dX11_cart_10 rfl rfl ?_
    refine z_get (pc := 11) hX zc11 1 (by decide) wd271 rfl rfl dX11_cart_11 (fun v5 => ?_)
    refine z_get (pc := 14) hX zc5 7 (by decide) wd126 rfl rfl dX11_cart_14 (fun v6 => ?_)
    refine z_bipush (pc := 17) hX dX11_cart_17 ?_
    refine z_icmp_lt (pc := 19) hX 25 dX11_cart_19 (by decide) (fun h7 => ?_) (fun h7 => ?_)
    · refine z_aload_n (pc := 25) hX 0 dX11_cart_25 rfl rfl ?_
      refine z_get (pc := 26) hX zc11 1 (by decide) wd271 rfl rfl dX11_cart_26 (fun v8 => ?_)
      refine z_get (pc := 29) hX zc5 7 (by decide) wd126 rfl rfl dX11_cart_29 (fun v9 => ?_)
      refine z_istore_n (lv' := [(2, (0, v9)), (0, (2, a0)), (1, (0, a1))]) (pc := 32) hX dX11_cart_32 rfl (zlt hxn rfl) rfl ?_
      refine z_aload_n (pc := 33) hX 1 dX11_cart_33 rfl rfl ?_
      refine z_get (pc := 34) hX zc11 1 (by decide) wd271 rfl rfl dX11_cart_34 (fun v10 => ?_)
      refine z_get (pc := 37) hX zc5 6 (by decide) wd124 rfl rfl dX11_cart_37 (fun v11 => ?_)
      refine z_iload_n (pc := 40) hX 0 dX11_cart_40 rfl rfl ?_
      refine z_iload_n (pc := 41) hX 2 dX11_cart_41 rfl rfl ?_
      refine z_iastA (pc := 42) hX dX11_cart_42 (fun s12 => ?_)
      refine z_aload_n (pc := 43) hX 1 dX11_cart_43 rfl rfl ?_
      refine z_get (pc := 44) hX zc11 1 (by decide) wd271 rfl rfl dX11_cart_44 (fun v13 => ?_)
      refine z_iload_n (pc := 47) hX 0 dX11_cart_47 rfl rfl ?_
      refine z_iconst (pc := 48) hX dX11_cart_48 ?_
      refine z_iadd (pc := 49) hX dX11_cart_49 ?_
      refine z_putA (pc := 50) hX zc5 7 (by decide) wd126 (Or.inl rfl) rfl rfl (fun _ => rfl) (fun _ => rfl) dX11_cart_50 (fun s14 => ?_)
      refine z_iload_n (pc := 53) hX 0 dX11_cart_53 rfl rfl ?_
      exact z_iret (pc := 54) hX hR hk dX11_cart_54
    · refine z_bipush (pc := 22) hX dX11_cart_22 ?_
      exact z_iret (pc := 24) hX hR hk dX11_cart_24
  · refine z_iconst (pc := 8) hX dX11_cart_8 ?_
    exact z_iret (pc := 9) hX hR hk dX11_cart_9

theorem dX12_isSort_0 : decode cX12_isSort 0 = .ok (.iload_n 1, 1) := by decide +kernel
theorem dX12_isSort_1 : decode cX12_isSort 1 = .ok (.iconst 0, 1) := by decide +kernel
theorem dX12_isSort_2 : decode cX12_isSort 2 = .ok (.aload_n 0, 1) := by decide +kernel
theorem dX12_isSort_3 : decode cX12_isSort 3 = .ok (.getfield 135, 3) := by decide +kernel
theorem dX12_isSort_6 : decode cX12_isSort 6 = .ok (.iconst 1, 1) := by decide +kernel
theorem dX12_isSort_7 : decode cX12_isSort 7 = .ok (.isub, 1) := by decide +kernel
theorem dX12_isSort_8 : decode cX12_isSort 8 = .ok (.invokestatic 127, 3) := by decide +kernel
theorem dX12_isSort_11 : decode cX12_isSort 11 = .ok (.ireturn, 1) := by decide +kernel
def fX12_isSort (s0 : ZS) (a0 : Int) (a1 : Int) : Option (Int × ZS) := (zg s0 12 a0 2).bind (fun v1 => zb (fX12_in s0 a1 0 (wrap (v1 - 1))) (fun v2 s3 => some (v2, s3)))
set_option maxHeartbeats 4000000 in
set_option maxRecDepth 100000 in
theorem mX12_isSort (E : ZE) (hE : zOkE E) (l : Launch) (s0 : ZS) (a0 : Int) (a1 : Int) : Ct E l yX12_isSort cX12_isSort 2 (some .boolean) 4 [(2, a0), (0, a1)] 4 s0 (fX12_isSort s0 a0 a1) := by
  refine Ct.of (by decide) hE (Nat.le_of_ble_eq_true rfl) ?_
  intro X G hX hR hN hXE hXl hxn hk _
  subst hXE
  subst hXl
  have hX : G → ZOk X cX12_isSort RX12 4 := hX
  clear hN
  show Zj X G 0 [(0, (2, a0)), (1, (0, a1))] [] s0 _
  unfold fX12_isSort
  refine z_iload_n (pc := 0) hX 1 dX12_isSort_0 rfl rfl ?_
  refine z_iconst (pc := 1) hX dX12_isSort_1 ?_
  refine z_aload_n (pc := 2) hX 0 dX12_isSort_2 rfl rfl ?_
  refine z_get (pc := 3) hX zc12 2 (by decide) wd1019 rfl rfl dX12_isSort_3 (fun v1 => ?_)
  refine z_iconst (pc := 6) hX dX12_isSort_6 ?_
  refine z_isub (pc := 7) hX dX12_isSort_7 ?_
  refine z_callS (n := 3) (st := []) (pc := 8) hX (mX12_in _ hE _ _ _ _ _) ⟨wd1173, wd67, wd1175, ⟨by decide, by decide, by decide⟩, by decide⟩ wd1174 rfl rfl (by decide) (Nat.le_of_ble_eq_true rfl) dX12_isSort_8 (fun v2 s3 r4 => ?_)
  show Zj X G 11 [(0, (2, a0)), (1, (0, a1))] [(0, v2)] _ _
  exact z_zret (pc := 11) hX hR hk dX12_isSort_11 r4

theorem dX12_cart_0 : decode cX12_cart 0 = .ok (.aload_n 0, 1) := by decide +kernel
theorem dX12_cart_1 : decode cX12_cart 1 = .ok (.iload_n 1, 1) := by decide +kernel
theorem dX12_cart_2 : decode cX12_cart 2 = .ok (.invokevirtual 138, 3) := by decide +kernel
theorem dX12_cart_5 : decode cX12_cart 5 = .ok (.ifCond .ne 5, 3) := by decide +kernel
theorem dX12_cart_8 : decode cX12_cart 8 = .ok (.iconst (-1), 1) := by decide +kernel
theorem dX12_cart_9 : decode cX12_cart 9 = .ok (.ireturn, 1) := by decide +kernel
theorem dX12_cart_10 : decode cX12_cart 10 = .ok (.aload_n 0, 1) := by decide +kernel
theorem dX12_cart_11 : decode cX12_cart 11 = .ok (.getfield 142, 3) := by decide +kernel
theorem dX12_cart_14 : decode cX12_cart 14 = .ok (.bipush 16, 2) := by decide +kernel
theorem dX12_cart_16 : decode cX12_cart 16 = .ok (.if_icmp .ne 6, 3) := by decide +kernel
theorem dX12_cart_19 : decode cX12_cart 19 = .ok (.bipush (-4), 2) := by decide +kernel
theorem dX12_cart_21 : decode cX12_cart 21 = .ok (.ireturn, 1) := by decide +kernel
theorem dX12_cart_22 : decode cX12_cart 22 = .ok (.aload_n 0, 1) := by decide +kernel
theorem dX12_cart_23 : decode cX12_cart 23 = .ok (.getfield 25, 3) := by decide +kernel
theorem dX12_cart_26 : decode cX12_cart 26 = .ok (.aload_n 0, 1) := by decide +kernel
theorem dX12_cart_27 : decode cX12_cart 27 = .ok (.getfield 142, 3) := by decide +kernel
theorem dX12_cart_30 : decode cX12_cart 30 = .ok (.iload_n 1, 1) := by decide +kernel
theorem dX12_cart_31 : decode cX12_cart 31 = .ok (.iastore, 1) := by decide +kernel
theorem dX12_cart_32 : decode cX12_cart 32 = .ok (.aload_n 0, 1) := by decide +kernel
theorem dX12_cart_33 : decode cX12_cart 33 = .ok (.dup, 1) := by decide +kernel
theorem dX12_cart_34 : decode cX12_cart 34 = .ok (.getfield 142, 3) := by decide +kernel
theorem dX12_cart_37 : decode cX12_cart 37 = .ok (.iconst 1, 1) := by decide +kernel
theorem dX12_cart_38 : decode cX12_cart 38 = .ok (.iadd, 1) := by decide +kernel
theorem dX12_cart_39 : decode cX12_cart 39 = .ok (.putfield 142, 3) := by decide +kernel
theorem dX12_cart_42 : decode cX12_cart 42 = .ok (.aload_n 0, 1) := by decide +kernel
theorem dX12_cart_43 : decode cX12_cart 43 = .ok (.getfield 142, 3) := by decide +kernel
theorem dX12_cart_46 : decode cX12_cart 46 = .ok (.iconst 1, 1) := by decide +kernel
theorem dX12_cart_47 : decode cX12_cart 47 = .ok (.isub, 1) := by decide +kernel
theorem dX12_cart_48 : decode cX12_cart 48 = .ok (.ireturn, 1) := by decide +kernel
def fX12_cart (s0 : ZS) (a0 : Int) (a1 : Int) : Option (Int × ZS) := zb (zv s0 12 a0 (fX12_isSort s0 a0 a1)) (fun v1 s2 => if v1 = 0 then (some ((-1), s2)) else ((zg s2 12 a0 6).bind (fun v5 => if v5 = 16 then (some ((-4), s2)) else ((zg s2 12 a0 7).bind (fun v7 => (zg s2 12 a0 6).bind (fun v8 => (zas s2 100 v7 v8 a1).bind (fun s9 => (zg s9 12 a0 6).bind (fun v10 => (zp s9 12 a0 6 (wrap (v10 + 1))).bind (fun s11 => (zg s11 12 a0 6).bind (fun v12 => some ((wrap (v12 - 1)), s11)))))))))))
set_option maxHeartbeats 4000000 in
set_option maxRecDepth 100000 in
theorem mX12_cart (E : ZE) (hE : zOkE E) (l : Launch) (s0 : ZS) (a0 : Int) (a1 : Int) : Ct E l yX12_cart cX12_cart 2 (some .int) 6 [(2, a0), (0, a1)] 1 s0 (fX12_cart s0 a0 a1) := by
  refine Ct.of (by decide) hE (Nat.le_of_ble_eq_true rfl) ?_
  intro X G hX hR hN hXE hXl hxn hk _
  subst hXE
  subst hXl
  have hX : G → ZOk X cX12_cart RX12 6 := hX
  clear hN
  show Zj X G 0 [(0, (2, a0)), (1, (0, a1))] [] s0 _
  unfold fX12_cart
  refine z_aload_n (pc := 0) hX 0 dX12_cart_0 rfl rfl ?_
  refine z_iload_n (pc := 1) hX 1 dX12_cart_1 rfl rfl ?_
  refine z_callV (n := 1) (st := []) (pc := 2) hX zc12 rfl (fun _ => (mX12_isSort _ hE _ _ _ _)) ⟨wd1188, wd67, wd1191, ⟨by decide, by decide, by decide⟩, by decide⟩ rfl wd1190 wd32 rfl rfl (by decide) (Nat.le_of_ble_eq_true rfl) dX12_cart_2 (fun v1 s2 r3 => ?_)
  show Zj X G 5 [(0, (2, a0)), (1, (0, a1))] [(0, v1)] _ _
  refine z_if_ne (pc := 5) hX 10 dX12_cart_5 (by decide) (fun h4 => ?_) (fun h4 => ?_)
  · refine z_aload_n (pc := 10) hX 0 dX12_cart_10 rfl rfl ?_
    refine z_get (pc := 11) hX zc12 6 (by decide) wd1023 rfl rfl dX12_cart_11 (fun v5 => ?_)
    refine z_bipush (pc := 14) hX dX12_cart_14 ?_
    refine z_icmp_ne (pc := 16) hX 22 dX12_cart_16 (by decide) (fun h6 => ?_) (fun h6 => ?_)
    · refine z_aload_n (pc := 22) hX 0 dX12_cart_22 rfl rfl ?_
      refine z_get (pc := 23) hX zc12 7 (by decide) wd1024 rfl rfl dX12_cart_23 (fun v7 => ?_)
      refine z_aload_n (pc := 26) hX 0 dX12_cart_26 rfl rfl ?_
      refine z_get (pc := 27) hX zc12 6 (by decide) wd1023 rfl rfl dX12_cart_27 (fun v8 => ?_)
      refine z_iload_n (pc := 30) hX 1 dX12_cart_30 rfl rfl ?_
      refine z_iastA (pc := 31) hX dX12_cart_31 (fun s9 => ?_)
      refine z_aload_n (pc := 32) hX 0 dX12_cart_32 rfl rfl ?_
      refine z_dup (pc := 33) hX zn2 dX12_cart_33 ?_
      refine z_get (pc := 34) hX zc12 6 (by decide) wd1023 rfl rfl dX12_cart_34 (fun v10 => ?_)
      refine z_iconst (pc := 37) hX dX12_cart_37 ?_
      refine z_iadd (pc := 38) hX dX12_cart_38 ?_
      refine z_putA (pc := 39) hX zc12 6 (by decide) wd1023 (Or.inl rfl) rfl rfl (fun _ => rfl) (fun _ => rfl) dX12_cart_39 (fun s11 => ?_)
      refine z_aload_n (pc := 42) hX 0 dX12_cart_42 rfl rfl ?_
      refine z_get (pc := 43) hX zc12 6 (by decide) wd1023 rfl rfl dX12_cart_43 (fun v12 => ?_)
      refine z_iconst (pc := 46) hX dX12_cart_46 ?_
      refine z_isub (pc := 47) hX dX12_cart_47 ?_
      exact z_iret (pc := 48) hX hR hk dX12_cart_48
    · refine z_bipush (pc := 19) hX dX12_cart_19 ?_
      exact z_iret (pc := 21) hX hR hk dX12_cart_21
  · refine z_iconst (pc := 8) hX dX12_cart_8 ?_
    exact z_iret (pc := 9) hX hR hk dX12_cart_9

theorem dX11_wishes_0 : decode cX11_wishes 0 = .ok (.aload_n 0, 1) := by decide +kernel
theorem dX11_wishes_1 : decode cX11_wishes 1 = .ok (.iload_n 1, 1) := by decide +kernel
theorem dX11_wishes_2 : decode cX11_wishes 2 = .ok (.invokevirtual 125, 3) := by decide +kernel
theorem dX11_wishes_5 : decode cX11_wishes 5 = .ok (.ifCond .ne 6, 3) := by decide +kernel
theorem dX11_wishes_8 : decode cX11_wishes 8 = .ok (.bipush (-5), 2) := by decide +kernel
theorem dX11_wishes_10 : decode cX11_wishes 10 = .ok (.ireturn, 1) := by decide +kernel
theorem dX11_wishes_11 : decode cX11_wishes 11 = .ok (.iload_n 2, 1) := by decide +kernel
theorem dX11_wishes_12 : decode cX11_wishes 12 = .ok (.invokestatic 99, 3) := by decide +kernel
theorem dX11_wishes_15 : decode cX11_wishes 15 = .ok (.ifCond .ne 6, 3) := by decide +kernel
theorem dX11_wishes_18 : decode cX11_wishes 18 = .ok (.bipush (-7), 2) := by decide +kernel
theorem dX11_wishes_20 : decode cX11_wishes 20 = .ok (.ireturn, 1) := by decide +kernel
theorem dX11_wishes_21 : decode cX11_wishes 21 = .ok (.aload_n 0, 1) := by decide +kernel
theorem dX11_wishes_22 : decode cX11_wishes 22 = .ok (.getfield 20, 3) := by decide +kernel
theorem dX11_wishes_25 : decode cX11_wishes 25 = .ok (.getfield 116, 3) := by decide +kernel
theorem dX11_wishes_28 : decode cX11_wishes 28 = .ok (.iload_n 1, 1) := by decide +kernel
theorem dX11_wishes_29 : decode cX11_wishes 29 = .ok (.iaload, 1) := by decide +kernel
theorem dX11_wishes_30 : decode cX11_wishes 30 = .ok (.istore_n 3, 1) := by decide +kernel
theorem dX11_wishes_31 : decode cX11_wishes 31 = .ok (.aload_n 0, 1) := by decide +kernel
theorem dX11_wishes_32 : decode cX11_wishes 32 = .ok (.getfield 20, 3) := by decide +kernel
theorem dX11_wishes_35 : decode cX11_wishes 35 = .ok (.getfield 116, 3) := by decide +kernel
theorem dX11_wishes_38 : decode cX11_wishes 38 = .ok (.iload_n 1, 1) := by decide +kernel
theorem dX11_wishes_39 : decode cX11_wishes 39 = .ok (.iload_n 2, 1) := by decide +kernel
theorem dX11_wishes_40 : decode cX11_wishes 40 = .ok (.iastore, 1) := by decide +kernel
theorem dX11_wishes_41 : decode cX11_wishes 41 = .ok (.iload_n 3, 1) := by decide +kernel
theorem dX11_wishes_42 : decode cX11_wishes 42 = .ok (.ireturn, 1) := by decide +kernel
def fX11_wishes (s0 : ZS) (a0 : Int) (a1 : Int) (a2 : Int) : Option (Int × ZS) := zb (zv s0 11 a0 (fX11_isSort s0 a0 a1)) (fun v1 s2 => if v1 = 0 then (some ((-5), s2)) else (zb (fX11_isMinute s2 a2) (fun v5 s6 => if v5 = 0 then (some ((-7), s6)) else ((zg s6 11 a0 1).bind (fun v9 => (zg s6 5 v9 3).bind (fun v10 => (zal s6 100 v10 a1).bind (fun v11 => (zg s6 11 a0 1).bind (fun v12 => (zg s6 5 v12 3).bind (fun v13 => (zas s6 100 v13 a1 a2).bind (fun s14 => some (v11, s14)))))))))))
set_option maxHeartbeats 4000000 in
set_option maxRecDepth 100000 in
theorem mX11_wishes (E : ZE) (hE : zOkE E) (l : Launch) (s0 : ZS) (a0 : Int) (a1 : Int) (a2 : Int) : Ct E l yX11_wishes cX11_wishes 4 (some .int) 6 [(2, a0), (0, a1), (0, a2)] 1 s0 (fX11_wishes s0 a0 a1 a2) := by
  refine Ct.of (by decide) hE (Nat.le_of_ble_eq_true rfl) ?_
  intro X G hX hR hN hXE hXl hxn hk _
  subst hXE
  subst hXl
  have hX : G → ZOk X cX11_wishes RX11 6 := hX
  clear hN
  show Zj X G 0 [(0, (2, a0)), (1, (0, a1)), (2, (0, a2))] [] s0 _
  unfold fX11_wishes
  refine z_aload_n (pc := 0) hX 0 dX11_wishes_0 rfl rfl ?_
  refine z_iload_n (pc := 1) hX 1 dX11_wishes_1 rfl rfl ?_
  refine z_callV (n := 1) (st := []) (pc := 2) hX zc11 rfl (fun _ => (mX11_isSort _ hE _ _ _ _)) ⟨wd347, wd61, wd350, ⟨by decide, by decide, by decide⟩, by decide⟩ rfl wd349 wd0 rfl rfl (by decide) (Nat.le_of_ble_eq_true rfl) dX11_wishes_2 (fun v1 s2 r3 => ?_)
  show Zj X G 5 [(0, (2, a0)), (1, (0, a1)), (2, (0, a2))] [(0, v1)] _ _
  refine z_if_ne (pc := 5) hX 11 dX11_wishes_5 (by decide) (fun h4 => ?_) (fun h4 => ?_)
  · refine z_iload_n (pc := 11) hX 2 dX11_wishes_11 rfl rfl ?_
    refine z_callS (n := 1) (st := []) (pc := 12) hX (mX11_isMinute _ hE _ _ _) ⟨wd332, wd61, wd334, ⟨by decide, by decide, by decide⟩, by decide⟩ wd333 rfl rfl (by decide) (Nat.le_of_ble_eq_true rfl) dX11_wishes_12 (fun v5 s6 r7 => ?_)
    show Zj X G 15 [(0, (2, a0)), (1, (0, a1)), (2, (0, a2))] [(0, v5)] _ _
    refine z_if_ne (pc := 15) hX 21 dX11_wishes_15 (by decide) (fun h8 => ?_) (fun h8 => ?_)
    · refine z_aload_n (pc := 21) hX 0 dX11_wishes_21 rfl rfl ?_
      refine z_get (pc := 22) hX zc11 1 (by decide) wd271 rfl rfl dX11_wishes_22 (fun v9 => ?_)
      refine z_get (pc := 25) hX zc5 3 (by decide) wd115 rfl rfl dX11_wishes_25 (fun v10 => ?_)
      refine z_iload_n (pc := 28) hX 1 dX11_wishes_28 rfl rfl ?_
      refine z_iald (pc := 29) hX dX11_wishes_29 (fun v11 => ?_)
      refine z_istore_n (lv' := [(3, (0, v11)), (0, (2, a0)), (1, (0, a1)), (2, (0, a2))]) (pc := 30) hX dX11_wishes_30 rfl (zlt hxn rfl) rfl ?_
      refine z_aload_n (pc := 31) hX 1 dX11_wishes_31 rfl rfl ?_
      refine z_get (pc := 32) hX zc11 1 (by decide) wd271 rfl rfl dX11_wishes_32 (fun v12 => ?_)
      refine z_get (pc := 35) hX zc5 3 (by decide) wd115 rfl rfl dX11_wishes_35 (fun v13 => ?_)
      refine z_iload_n (pc := 38) hX 2 dX11_wishes_38 rfl rfl ?_
      refine z_iload_n (pc := 39) hX 3 dX11_wishes_39 rfl rfl ?_
      refine z_iastA (pc := 40) hX dX11_wishes_40 (fun s14 => ?_)
      refine z_iload_n (pc := 41) hX 0 dX11_wishes_41 rfl rfl ?_
      exact z_iret (pc := 42) hX hR hk dX11_wishes_42
    · refine z_bipush (pc := 18) hX dX11_wishes_18 ?_
      exact z_iret (pc := 20) hX hR hk dX11_wishes_20
  · refine z_bipush (pc := 8) hX dX11_wishes_8 ?_
    exact z_iret (pc := 10) hX hR hk dX11_wishes_10

theorem dX12_wishes_0 : decode cX12_wishes 0 = .ok (.aload_n 0, 1) := by decide +kernel
theorem dX12_wishes_1 : decode cX12_wishes 1 = .ok (.iload_n 1, 1) := by decide +kernel
theorem dX12_wishes_2 : decode cX12_wishes 2 = .ok (.invokevirtual 138, 3) := by decide +kernel
theorem dX12_wishes_5 : decode cX12_wishes 5 = .ok (.ifCond .ne 6, 3) := by decide +kernel
theorem dX12_wishes_8 : decode cX12_wishes 8 = .ok (.bipush (-5), 2) := by decide +kernel
theorem dX12_wishes_10 : decode cX12_wishes 10 = .ok (.ireturn, 1) := by decide +kernel
theorem dX12_wishes_11 : decode cX12_wishes 11 = .ok (.iload_n 2, 1) := by decide +kernel
theorem dX12_wishes_12 : decode cX12_wishes 12 = .ok (.iconst 0, 1) := by decide +kernel
theorem dX12_wishes_13 : decode cX12_wishes 13 = .ok (.bipush 23, 2) := by decide +kernel
theorem dX12_wishes_15 : decode cX12_wishes 15 = .ok (.invokestatic 127, 3) := by decide +kernel
theorem dX12_wishes_18 : decode cX12_wishes 18 = .ok (.ifCond .ne 6, 3) := by decide +kernel
theorem dX12_wishes_21 : decode cX12_wishes 21 = .ok (.bipush (-7), 2) := by decide +kernel
theorem dX12_wishes_23 : decode cX12_wishes 23 = .ok (.ireturn, 1) := by decide +kernel
theorem dX12_wishes_24 : decode cX12_wishes 24 = .ok (.aload_n 0, 1) := by decide +kernel
theorem dX12_wishes_25 : decode cX12_wishes 25 = .ok (.getfield 16, 3) := by decide +kernel
theorem dX12_wishes_28 : decode cX12_wishes 28 = .ok (.iload_n 1, 1) := by decide +kernel
theorem dX12_wishes_29 : decode cX12_wishes 29 = .ok (.iaload, 1) := by decide +kernel
theorem dX12_wishes_30 : decode cX12_wishes 30 = .ok (.istore_n 3, 1) := by decide +kernel
theorem dX12_wishes_31 : decode cX12_wishes 31 = .ok (.aload_n 0, 1) := by decide +kernel
theorem dX12_wishes_32 : decode cX12_wishes 32 = .ok (.getfield 16, 3) := by decide +kernel
theorem dX12_wishes_35 : decode cX12_wishes 35 = .ok (.iload_n 1, 1) := by decide +kernel
theorem dX12_wishes_36 : decode cX12_wishes 36 = .ok (.iload_n 2, 1) := by decide +kernel
theorem dX12_wishes_37 : decode cX12_wishes 37 = .ok (.iastore, 1) := by decide +kernel
theorem dX12_wishes_38 : decode cX12_wishes 38 = .ok (.iload_n 3, 1) := by decide +kernel
theorem dX12_wishes_39 : decode cX12_wishes 39 = .ok (.ireturn, 1) := by decide +kernel
def fX12_wishes (s0 : ZS) (a0 : Int) (a1 : Int) (a2 : Int) : Option (Int × ZS) := zb (zv s0 12 a0 (fX12_isSort s0 a0 a1)) (fun v1 s2 => if v1 = 0 then (some ((-5), s2)) else (zb (fX12_in s2 a2 0 23) (fun v5 s6 => if v5 = 0 then (some ((-7), s6)) else ((zg s6 12 a0 3).bind (fun v9 => (zal s6 100 v9 a1).bind (fun v10 => (zg s6 12 a0 3).bind (fun v11 => (zas s6 100 v11 a1 a2).bind (fun s12 => some (v10, s12)))))))))
set_option maxHeartbeats 4000000 in
set_option maxRecDepth 100000 in
theorem mX12_wishes (E : ZE) (hE : zOkE E) (l : Launch) (s0 : ZS) (a0 : Int) (a1 : Int) (a2 : Int) : Ct E l yX12_wishes cX12_wishes 4 (some .int) 6 [(2, a0), (0, a1), (0, a2)] 1 s0 (fX12_wishes s0 a0 a1 a2) := by
  refine Ct.of (by decide) hE (Nat.le_of_ble_eq_true rfl) ?_
  intro X G hX hR hN hXE hXl hxn hk _
  subst hXE
  subst hXl
  have hX : G → ZOk X cX12_wishes RX12 6 := hX
  clear hN
  show Zj X G 0 [(0, (2, a0)), (1, (0, a1)), (2, (0, a2))] [] s0 _
  unfold fX12_wishes
  refine z_aload_n (pc := 0) hX 0 dX12_wishes_0 rfl rfl ?_
  refine z_iload_n (pc := 1) hX 1 dX12_wishes_1 rfl rfl ?_
  refine z_callV (n := 1) (st := []) (pc := 2) hX zc12 rfl (fun _ => (mX12_isSort _ hE _ _ _ _)) ⟨wd1188, wd67, wd1191, ⟨by decide, by decide, by decide⟩, by decide⟩ rfl wd1190 wd32 rfl rfl (by decide) (Nat.le_of_ble_eq_true rfl) dX12_wishes_2 (fun v1 s2 r3 => ?_)
  show Zj X G 5 [(0, (2, a0)), (1, (0, a1)), (2, (0, a2))] [(0, v1)] _ _
  refine z_if_ne (pc := 5) hX 11 dX12_wishes_5 (by decide) (fun h4 => ?_) (fun h4 => ?_)
  · refine z_iload_n (pc := 11) hX 2 dX12_wishes_11 rfl rfl ?_
    refine z_iconst (pc := 12) hX dX12_wishes_12 ?_
    refine z_bipush (pc := 13) hX dX12_wishes_13 ?_
    refine z_callS (n := 3) (st := []) (pc := 15) hX (mX12_in _ hE _ _ _ _ _) ⟨wd1173, wd67, wd1175, ⟨by decide, by decide, by decide⟩, by decide⟩ wd1174 rfl rfl (by decide) (Nat.le_of_ble_eq_true rfl) dX12_wishes_15 (fun v5 s6 r7 => ?_)
    show Zj X G 18 [(0, (2, a0)), (1, (0, a1)), (2, (0, a2))] [(0, v5)] _ _
    refine z_if_ne (pc := 18) hX 24 dX12_wishes_18 (by decide) (fun h8 => ?_) (fun h8 => ?_)
    · refine z_aload_n (pc := 24) hX 0 dX12_wishes_24 rfl rfl ?_
      refine z_get (pc := 25) hX zc12 3 (by decide) wd1020 rfl rfl dX12_wishes_25 (fun v9 => ?_)
      refine z_iload_n (pc := 28) hX 1 dX12_wishes_28 rfl rfl ?_
      refine z_iald (pc := 29) hX dX12_wishes_29 (fun v10 => ?_)
      refine z_istore_n (lv' := [(3, (0, v10)), (0, (2, a0)), (1, (0, a1)), (2, (0, a2))]) (pc := 30) hX dX12_wishes_30 rfl (zlt hxn rfl) rfl ?_
      refine z_aload_n (pc := 31) hX 1 dX12_wishes_31 rfl rfl ?_
      refine z_get (pc := 32) hX zc12 3 (by decide) wd1020 rfl rfl dX12_wishes_32 (fun v11 => ?_)
      refine z_iload_n (pc := 35) hX 2 dX12_wishes_35 rfl rfl ?_
      refine z_iload_n (pc := 36) hX 3 dX12_wishes_36 rfl rfl ?_
      refine z_iastA (pc := 37) hX dX12_wishes_37 (fun s12 => ?_)
      refine z_iload_n (pc := 38) hX 0 dX12_wishes_38 rfl rfl ?_
      exact z_iret (pc := 39) hX hR hk dX12_wishes_39
    · refine z_bipush (pc := 21) hX dX12_wishes_21 ?_
      exact z_iret (pc := 23) hX hR hk dX12_wishes_23
  · refine z_bipush (pc := 8) hX dX12_wishes_8 ?_
    exact z_iret (pc := 10) hX hR hk dX12_wishes_10

theorem dX11_gateTold_0 : decode cX11_gateTold 0 = .ok (.iload_n 1, 1) := by decide +kernel
theorem dX11_gateTold_1 : decode cX11_gateTold 1 = .ok (.invokestatic 95, 3) := by decide +kernel
theorem dX11_gateTold_4 : decode cX11_gateTold 4 = .ok (.ifCond .eq 10, 3) := by decide +kernel
theorem dX11_gateTold_7 : decode cX11_gateTold 7 = .ok (.iload_n 2, 1) := by decide +kernel
theorem dX11_gateTold_8 : decode cX11_gateTold 8 = .ok (.invokestatic 99, 3) := by decide +kernel
theorem dX11_gateTold_11 : decode cX11_gateTold 11 = .ok (.ifCond .ne 6, 3) := by decide +kernel
theorem dX11_gateTold_14 : decode cX11_gateTold 14 = .ok (.bipush (-5), 2) := by decide +kernel
theorem dX11_gateTold_16 : decode cX11_gateTold 16 = .ok (.ireturn, 1) := by decide +kernel
theorem dX11_gateTold_17 : decode cX11_gateTold 17 = .ok (.iload_n 3, 1) := by decide +kernel
theorem dX11_gateTold_18 : decode cX11_gateTold 18 = .ok (.lookupswitch 50 #[(0, 26), (1, 38)], 26) := by decide +kernel
theorem dX11_gateTold_44 : decode cX11_gateTold 44 = .ok (.aload_n 0, 1) := by decide +kernel
theorem dX11_gateTold_45 : decode cX11_gateTold 45 = .ok (.getfield 20, 3) := by decide +kernel
theorem dX11_gateTold_48 : decode cX11_gateTold 48 = .ok (.getfield 106, 3) := by decide +kernel
theorem dX11_gateTold_51 : decode cX11_gateTold 51 = .ok (.iload_n 1, 1) := by decide +kernel
theorem dX11_gateTold_52 : decode cX11_gateTold 52 = .ok (.aaload, 1) := by decide +kernel
theorem dX11_gateTold_53 : decode cX11_gateTold 53 = .ok (.iload_n 2, 1) := by decide +kernel
theorem dX11_gateTold_54 : decode cX11_gateTold 54 = .ok (.iaload, 1) := by decide +kernel
theorem dX11_gateTold_55 : decode cX11_gateTold 55 = .ok (.ireturn, 1) := by decide +kernel
theorem dX11_gateTold_56 : decode cX11_gateTold 56 = .ok (.aload_n 0, 1) := by decide +kernel
theorem dX11_gateTold_57 : decode cX11_gateTold 57 = .ok (.getfield 20, 3) := by decide +kernel
theorem dX11_gateTold_60 : decode cX11_gateTold 60 = .ok (.getfield 110, 3) := by decide +kernel
theorem dX11_gateTold_63 : decode cX11_gateTold 63 = .ok (.iload_n 1, 1) := by decide +kernel
theorem dX11_gateTold_64 : decode cX11_gateTold 64 = .ok (.aaload, 1) := by decide +kernel
theorem dX11_gateTold_65 : decode cX11_gateTold 65 = .ok (.iload_n 2, 1) := by decide +kernel
theorem dX11_gateTold_66 : decode cX11_gateTold 66 = .ok (.iaload, 1) := by decide +kernel
theorem dX11_gateTold_67 : decode cX11_gateTold 67 = .ok (.ireturn, 1) := by decide +kernel
theorem dX11_gateTold_68 : decode cX11_gateTold 68 = .ok (.bipush (-7), 2) := by decide +kernel
theorem dX11_gateTold_70 : decode cX11_gateTold 70 = .ok (.ireturn, 1) := by decide +kernel
def fX11_gateTold (s0 : ZS) (a0 : Int) (a1 : Int) (a2 : Int) (a3 : Int) : Option (Int × ZS) := zb (fX11_isGate s0 a1) (fun v1 s2 => if v1 = 0 then (some ((-5), s2)) else (zb (fX11_isMinute s2 a2) (fun v5 s6 => if v5 = 0 then (some ((-5), s6)) else (if a3 = 0 then ((zg s6 11 a0 1).bind (fun v10 => (zg s6 5 v10 0).bind (fun v11 => (zal s6 102 v11 a1).bind (fun v12 => (zal s6 100 v12 a2).bind (fun v13 => some (v13, s6)))))) else (if a3 = 1 then ((zg s6 11 a0 1).bind (fun v15 => (zg s6 5 v15 1).bind (fun v16 => (zal s6 102 v16 a1).bind (fun v17 => (zal s6 100 v17 a2).bind (fun v18 => some (v18, s6)))))) else (some ((-7), s6)))))))
set_option maxHeartbeats 4000000 in
set_option maxRecDepth 100000 in
theorem mX11_gateTold (E : ZE) (hE : zOkE E) (l : Launch) (s0 : ZS) (a0 : Int) (a1 : Int) (a2 : Int) (a3 : Int) : Ct E l yX11_gateTold cX11_gateTold 4 (some .int) 6 [(2, a0), (0, a1), (0, a2), (0, a3)] 1 s0 (fX11_gateTold s0 a0 a1 a2 a3) := by
  refine Ct.of (by decide) hE (Nat.le_of_ble_eq_true rfl) ?_
  intro X G hX hR hN hXE hXl hxn hk _
  subst hXE
  subst hXl
  have hX : G → ZOk X cX11_gateTold RX11 6 := hX
  clear hN
  show Zj X G 0 [(0, (2, a0)), (1, (0, a1)), (2, (0, a2)), (3, (0, a3))] [] s0 _
  unfold fX11_gateTold
  refine z_iload_n (pc := 0) hX 1 dX11_gateTold_0 rfl rfl ?_
  refine z_callS (n := 1) (st := []) (pc := 1) hX (mX11_isGate _ hE _ _ _) ⟨wd326, wd61, wd328, ⟨by decide, by decide, by decide⟩, by decide⟩ wd327 rfl rfl (by decide) (Nat.le_of_ble_eq_true rfl) dX11_gateTold_1 (fun v1 s2 r3 => ?_)
  show Zj X G 4 [(0, (2, a0)), (1, (0, a1)), (2, (0, a2)), (3, (0, a3))] [(0, v1)] _ _
  refine z_if_eq (pc := 4) hX 14 dX11_gateTold_4 (by decide) (fun h4 => ?_) (fun h4 => ?_)
  · refine z_bipush (pc := 14) hX dX11_gateTold_14 ?_
    exact z_iret (pc := 16) hX hR hk dX11_gateTold_16
  · refine z_iload_n (pc := 7) hX 2 dX11_gateTold_7 rfl rfl ?_
    refine z_callS (n := 1) (st := []) (pc := 8) hX (mX11_isMinute _ hE _ _ _) ⟨wd332, wd61, wd334, ⟨by decide, by decide, by decide⟩, by decide⟩ wd333 rfl rfl (by decide) (Nat.le_of_ble_eq_true rfl) dX11_gateTold_8 (fun v5 s6 r7 => ?_)
    show Zj X G 11 [(0, (2, a0)), (1, (0, a1)), (2, (0, a2)), (3, (0, a3))] [(0, v5)] _ _
    refine z_if_ne (pc := 11) hX 17 dX11_gateTold_11 (by decide) (fun h8 => ?_) (fun h8 => ?_)
    · refine z_iload_n (pc := 17) hX 3 dX11_gateTold_17 rfl rfl ?_
      by_cases h9 : a3 = 0
      · refine z_eq (if_pos h9) ?_
        refine z_lsw (off := 26) (pc := 18) hX 44 dX11_gateTold_18 (by decide) (by rw [h9]; first | done | rfl) (by decide) ?_
        refine z_aload_n (pc := 44) hX 0 dX11_gateTold_44 rfl rfl ?_
        refine z_get (pc := 45) hX zc11 1 (by decide) wd271 rfl rfl dX11_gateTold_45 (fun v10 => ?_)
        refine z_get (pc := 48) hX zc5 0 (by decide) wd106 rfl rfl dX11_gateTold_48 (fun v11 => ?_)
        refine z_iload_n (pc := 51) hX 1 dX11_gateTold_51 rfl rfl ?_
        refine z_aald (pc := 52) hX 2 102 (by decide) rfl rfl dX11_gateTold_52 (fun v12 => ?_)
        refine z_iload_n (pc := 53) hX 2 dX11_gateTold_53 rfl rfl ?_
        refine z_iald (pc := 54) hX dX11_gateTold_54 (fun v13 => ?_)
        exact z_iret (pc := 55) hX hR hk dX11_gateTold_55
      · refine z_eq (if_neg h9) ?_
        by_cases h14 : a3 = 1
        · refine z_eq (if_pos h14) ?_
          refine z_lsw (off := 38) (pc := 18) hX 56 dX11_gateTold_18 (by decide) (by rw [h14]; first | done | rfl) (by decide) ?_
          refine z_aload_n (pc := 56) hX 0 dX11_gateTold_56 rfl rfl ?_
          refine z_get (pc := 57) hX zc11 1 (by decide) wd271 rfl rfl dX11_gateTold_57 (fun v15 => ?_)
          refine z_get (pc := 60) hX zc5 1 (by decide) wd109 rfl rfl dX11_gateTold_60 (fun v16 => ?_)
          refine z_iload_n (pc := 63) hX 1 dX11_gateTold_63 rfl rfl ?_
          refine z_aald (pc := 64) hX 2 102 (by decide) rfl rfl dX11_gateTold_64 (fun v17 => ?_)
          refine z_iload_n (pc := 65) hX 2 dX11_gateTold_65 rfl rfl ?_
          refine z_iald (pc := 66) hX dX11_gateTold_66 (fun v18 => ?_)
          exact z_iret (pc := 67) hX hR hk dX11_gateTold_67
        · refine z_eq (if_neg h14) ?_
          refine z_lsw (off := 50) (pc := 18) hX 68 dX11_gateTold_18 (by decide) (by simp [Op.lookupswitch.offset, (show ¬ (0 : Int) = a3 from fun e => h9 e.symm), (show ¬ (1 : Int) = a3 from fun e => h14 e.symm)]) (by decide) ?_
          refine z_bipush (pc := 68) hX dX11_gateTold_68 ?_
          exact z_iret (pc := 70) hX hR hk dX11_gateTold_70
    · refine z_bipush (pc := 14) hX dX11_gateTold_14 ?_
      exact z_iret (pc := 16) hX hR hk dX11_gateTold_16
