theorem dX11_sort_0 : decode cX11_sort 0 = .ok (.iload_n 1, 1) := by decide +kernel
theorem dX11_sort_1 : decode cX11_sort 1 = .ok (.invokestatic 99, 3) := by decide +kernel
theorem dX11_sort_4 : decode cX11_sort 4 = .ok (.ifCond .eq 13, 3) := by decide +kernel
theorem dX11_sort_7 : decode cX11_sort 7 = .ok (.iload_n 2, 1) := by decide +kernel
theorem dX11_sort_8 : decode cX11_sort 8 = .ok (.sipush 999, 3) := by decide +kernel
theorem dX11_sort_11 : decode cX11_sort 11 = .ok (.invokestatic 102, 3) := by decide +kernel
theorem dX11_sort_14 : decode cX11_sort 14 = .ok (.ifCond .ne 6, 3) := by decide +kernel
theorem dX11_sort_17 : decode cX11_sort 17 = .ok (.bipush (-2), 2) := by decide +kernel
theorem dX11_sort_19 : decode cX11_sort 19 = .ok (.ireturn, 1) := by decide +kernel
theorem dX11_sort_20 : decode cX11_sort 20 = .ok (.iload_n 3, 1) := by decide +kernel
theorem dX11_sort_21 : decode cX11_sort 21 = .ok (.bipush 9, 2) := by decide +kernel
theorem dX11_sort_23 : decode cX11_sort 23 = .ok (.invokestatic 102, 3) := by decide +kernel
theorem dX11_sort_26 : decode cX11_sort 26 = .ok (.ifCond .eq 13, 3) := by decide +kernel
theorem dX11_sort_29 : decode cX11_sort 29 = .ok (.iload 4, 2) := by decide +kernel
theorem dX11_sort_31 : decode cX11_sort 31 = .ok (.bipush 9, 2) := by decide +kernel
theorem dX11_sort_33 : decode cX11_sort 33 = .ok (.invokestatic 102, 3) := by decide +kernel
theorem dX11_sort_36 : decode cX11_sort 36 = .ok (.ifCond .ne 6, 3) := by decide +kernel
theorem dX11_sort_39 : decode cX11_sort 39 = .ok (.bipush (-2), 2) := by decide +kernel
theorem dX11_sort_41 : decode cX11_sort 41 = .ok (.ireturn, 1) := by decide +kernel
theorem dX11_sort_42 : decode cX11_sort 42 = .ok (.aload_n 0, 1) := by decide +kernel
theorem dX11_sort_43 : decode cX11_sort 43 = .ok (.getfield 20, 3) := by decide +kernel
theorem dX11_sort_46 : decode cX11_sort 46 = .ok (.getfield 113, 3) := by decide +kernel
theorem dX11_sort_49 : decode cX11_sort 49 = .ok (.iconst 4, 1) := by decide +kernel
theorem dX11_sort_50 : decode cX11_sort 50 = .ok (.if_icmp .lt 6, 3) := by decide +kernel
theorem dX11_sort_53 : decode cX11_sort 53 = .ok (.bipush (-4), 2) := by decide +kernel
theorem dX11_sort_55 : decode cX11_sort 55 = .ok (.ireturn, 1) := by decide +kernel
theorem dX11_sort_56 : decode cX11_sort 56 = .ok (.aload_n 0, 1) := by decide +kernel
theorem dX11_sort_57 : decode cX11_sort 57 = .ok (.getfield 20, 3) := by decide +kernel
theorem dX11_sort_60 : decode cX11_sort 60 = .ok (.getfield 113, 3) := by decide +kernel
theorem dX11_sort_63 : decode cX11_sort 63 = .ok (.istore 5, 2) := by decide +kernel
theorem dX11_sort_65 : decode cX11_sort 65 = .ok (.aload_n 0, 1) := by decide +kernel
theorem dX11_sort_66 : decode cX11_sort 66 = .ok (.getfield 20, 3) := by decide +kernel
theorem dX11_sort_69 : decode cX11_sort 69 = .ok (.getfield 116, 3) := by decide +kernel
theorem dX11_sort_72 : decode cX11_sort 72 = .ok (.iload 5, 2) := by decide +kernel
theorem dX11_sort_74 : decode cX11_sort 74 = .ok (.iload_n 1, 1) := by decide +kernel
theorem dX11_sort_75 : decode cX11_sort 75 = .ok (.iastore, 1) := by decide +kernel
theorem dX11_sort_76 : decode cX11_sort 76 = .ok (.aload_n 0, 1) := by decide +kernel
theorem dX11_sort_77 : decode cX11_sort 77 = .ok (.getfield 20, 3) := by decide +kernel
theorem dX11_sort_80 : decode cX11_sort 80 = .ok (.getfield 119, 3) := by decide +kernel
theorem dX11_sort_83 : decode cX11_sort 83 = .ok (.iload 5, 2) := by decide +kernel
theorem dX11_sort_85 : decode cX11_sort 85 = .ok (.iload_n 2, 1) := by decide +kernel
theorem dX11_sort_86 : decode cX11_sort 86 = .ok (.iastore, 1) := by decide +kernel
theorem dX11_sort_87 : decode cX11_sort 87 = .ok (.aload_n 0, 1) := by decide +kernel
theorem dX11_sort_88 : decode cX11_sort 88 = .ok (.getfield 20, 3) := by decide +kernel
theorem dX11_sort_91 : decode cX11_sort 91 = .ok (.getfield 122, 3) := by decide +kernel
theorem dX11_sort_94 : decode cX11_sort 94 = .ok (.iconst 0, 1) := by decide +kernel
theorem dX11_sort_95 : decode cX11_sort 95 = .ok (.aaload, 1) := by decide +kernel
theorem dX11_sort_96 : decode cX11_sort 96 = .ok (.iload 5, 2) := by decide +kernel
theorem dX11_sort_98 : decode cX11_sort 98 = .ok (.iload_n 3, 1) := by decide +kernel
theorem dX11_sort_99 : decode cX11_sort 99 = .ok (.iastore, 1) := by decide +kernel
theorem dX11_sort_100 : decode cX11_sort 100 = .ok (.aload_n 0, 1) := by decide +kernel
theorem dX11_sort_101 : decode cX11_sort 101 = .ok (.getfield 20, 3) := by decide +kernel
theorem dX11_sort_104 : decode cX11_sort 104 = .ok (.getfield 122, 3) := by decide +kernel
theorem dX11_sort_107 : decode cX11_sort 107 = .ok (.iconst 1, 1) := by decide +kernel
theorem dX11_sort_108 : decode cX11_sort 108 = .ok (.aaload, 1) := by decide +kernel
theorem dX11_sort_109 : decode cX11_sort 109 = .ok (.iload 5, 2) := by decide +kernel
theorem dX11_sort_111 : decode cX11_sort 111 = .ok (.iload 4, 2) := by decide +kernel
theorem dX11_sort_113 : decode cX11_sort 113 = .ok (.iastore, 1) := by decide +kernel
theorem dX11_sort_114 : decode cX11_sort 114 = .ok (.aload_n 0, 1) := by decide +kernel
theorem dX11_sort_115 : decode cX11_sort 115 = .ok (.getfield 20, 3) := by decide +kernel
theorem dX11_sort_118 : decode cX11_sort 118 = .ok (.iload 5, 2) := by decide +kernel
theorem dX11_sort_120 : decode cX11_sort 120 = .ok (.iconst 1, 1) := by decide +kernel
theorem dX11_sort_121 : decode cX11_sort 121 = .ok (.iadd, 1) := by decide +kernel
theorem dX11_sort_122 : decode cX11_sort 122 = .ok (.putfield 113, 3) := by decide +kernel
theorem dX11_sort_125 : decode cX11_sort 125 = .ok (.iload 5, 2) := by decide +kernel
theorem dX11_sort_127 : decode cX11_sort 127 = .ok (.ireturn, 1) := by decide +kernel
def fX11_sort (s0 : ZS) (a0 : Int) (a1 : Int) (a2 : Int) (a3 : Int) (a4 : Int) : Option (Int × ZS) := zb (fX11_isMinute s0 a1) (fun v1 s2 => if v1 = 0 then (some ((-2), s2)) else (zb (fX11_within s2 a2 999) (fun v5 s6 => if v5 = 0 then (some ((-2), s6)) else (zb (fX11_within s6 a3 9) (fun v9 s10 => if v9 = 0 then (some ((-2), s10)) else (zb (fX11_within s10 a4 9) (fun v13 s14 => if v13 = 0 then (some ((-2), s14)) else ((zg s14 11 a0 1).bind (fun v17 => (zg s14 5 v17 5).bind (fun v18 => if v18 < 4 then ((zg s14 11 a0 1).bind (fun v20 => (zg s14 5 v20 5).bind (fun v21 => (zg s14 11 a0 1).bind (fun v22 => (zg s14 5 v22 3).bind (fun v23 => (zas s14 100 v23 v21 a1).bind (fun s24 => (zg s24 11 a0 1).bind (fun v25 => (zg s24 5 v25 4).bind (fun v26 => (zas s24 100 v26 v21 a2).bind (fun s27 => (zg s27 11 a0 1).bind (fun v28 => (zg s27 5 v28 2).bind (fun v29 => (zal s27 102 v29 0).bind (fun v30 => (zas s27 100 v30 v21 a3).bind (fun s31 => (zg s31 11 a0 1).bind (fun v32 => (zg s31 5 v32 2).bind (fun v33 => (zal s31 102 v33 1).bind (fun v34 => (zas s31 100 v34 v21 a4).bind (fun s35 => (zg s35 11 a0 1).bind (fun v36 => (zp s35 5 v36 5 (wrap (v21 + 1))).bind (fun s37 => some (v21, s37)))))))))))))))))))) else (some ((-4), s14))))))))))))
set_option maxHeartbeats 4000000 in
set_option maxRecDepth 100000 in
theorem mX11_sort (E : ZE) (hE : zOkE E) (l : Launch) (s0 : ZS) (a0 : Int) (a1 : Int) (a2 : Int) (a3 : Int) (a4 : Int) : Ct E l yX11_sort cX11_sort 6 (some .int) 6 [(2, a0), (0, a1), (0, a2), (0, a3), (0, a4)] 1 s0 (fX11_sort s0 a0 a1 a2 a3 a4) := by
  refine Ct.of (by decide) hE (Nat.le_of_ble_eq_true rfl) ?_
  intro X G hX hR hN hXE hXl hxn hk _
  subst hXE
  subst hXl
  have hX : G → ZOk X cX11_sort RX11 6 := hX
  clear hN
  show Zj X G 0 [(0, (2, a0)), (1, (0, a1)), (2, (0, a2)), (3, (0, a3)), (4, (0, a4))] [] s0 _
  unfold fX11_sort
  refine z_iload_n (pc := 0) hX 1 dX11_sort_0 rfl rfl ?_
  refine z_callS (n := 1) (st := []) (pc := 1) hX (mX11_isMinute _ hE _ _ _) ⟨wd332, wd61, wd334, ⟨by decide, by decide, by decide⟩, by decide⟩ wd333 rfl rfl (by decide) (Nat.le_of_ble_eq_true rfl) dX11_sort_1 (fun v1 s2 r3 => ?_)
  show Zj X G 4 [(0, (2, a0)), (1, (0, a1)), (2, (0, a2)), (3, (0, a3)), (4, (0, a4))] [(0, v1)] _ _
  refine z_if_eq (pc := 4) hX 17 dX11_sort_4 (by decide) (fun h4 => ?_) (fun h4 => ?_)
  · refine z_bipush (pc := 17) hX dX11_sort_17 ?_
    exact z_iret (pc := 19) hX hR hk dX11_sort_19
  · refine z_iload_n (pc := 7) hX 2 dX11_sort_7 rfl rfl ?_
    refine z_sipush (pc := 8) hX dX11_sort_8 ?_
    refine z_callS (n := 2) (st := []) (pc := 11) hX (mX11_within _ hE _ _ _ _) ⟨wd329, wd61, wd331, ⟨by decide, by decide, by decide⟩, by decide⟩ wd330 rfl rfl (by decide) (Nat.le_of_ble_eq_true rfl) dX11_sort_11 (fun v5 s6 r7 => ?_)
    show Zj X G 14 [(0, (2, a0)), (1, (0, a1)), (2, (0, a2)), (3, (0, a3)), (4, (0, a4))] [(0, v5)] _ _
    refine z_if_ne (pc := 14) hX 20 dX11_sort_14 (by decide) (fun h8 => ?_) (fun h8 => ?_)
    · refine z_iload_n (pc := 20) hX 3 dX11_sort_20 rfl rfl ?_
      refine z_bipush (pc := 21) hX dX11_sort_21 ?_
      refine z_callS (n := 2) (st := []) (pc := 23) hX (mX11_within _ hE _ _ _ _) ⟨wd329, wd61, wd331, ⟨by decide, by decide, by decide⟩, by decide⟩ wd330 rfl rfl (by decide) (Nat.le_of_ble_eq_true rfl) dX11_sort_23 (fun v9 s10 r11 => ?_)
      show Zj X G 26 [(0, (2, a0)), (1, (0, a1)), (2, (0, a2)), (3, (0, a3)), (4, (0, a4))] [(0, v9)] _ _
      refine z_if_eq (pc := 26) hX 39 dX11_sort_26 (by decide) (fun h12 => ?_) (fun h12 => ?_)
      · refine z_bipush (pc := 39) hX dX11_sort_39 ?_
        exact z_iret (pc := 41) hX hR hk dX11_sort_41
      · refine z_iload (pc := 29) hX 4 dX11_sort_29 rfl ?_
        refine z_bipush (pc := 31) hX dX11_sort_31 ?_
        refine z_callS (n := 2) (st := []) (pc := 33) hX (mX11_within _ hE _ _ _ _) ⟨wd329, wd61, wd331, ⟨by decide, by decide, by decide⟩, by decide⟩ wd330 rfl rfl (by decide) (Nat.le_of_ble_eq_true rfl) dX11_sort_33 (fun v13 s14 r15 => ?_)
        show Zj X G 36 [(0, (2, a0)), (1, (0, a1)), (2, (0, a2)), (3, (0, a3)), (4, (0, a4))] [(0, v13)] _ _
        refine z_if_ne (pc := 36) hX 42 dX11_sort_36 (by decide) (fun h16 => ?_) (fun h16 => ?_)
        · refine z_aload_n (pc := 42) hX 0 dX11_sort_42 rfl rfl ?_
          refine z_get (pc := 43) hX zc11 1 (by decide) wd271 rfl rfl dX11_sort_43 (fun v17 => ?_)
          refine z_get (pc := 46) hX zc5 5 (by decide) wd121 rfl rfl dX11_sort_46 (fun v18 => ?_)
          refine z_iconst (pc := 49) hX dX11_sort_49 ?_
          refine z_icmp_lt (pc := 50) hX 56 dX11_sort_50 (by decide) (fun h19 => ?_) (fun h19 => ?_)
          · refine z_aload_n (pc := 56) hX 0 dX11_sort_56 rfl rfl ?_
            refine z_get (pc := 57) hX zc11 1 (by decide) wd271 rfl rfl dX11_sort_57 (fun v20 => ?_)
            refine z_get (pc := 60) hX zc5 5 (by decide) wd121 rfl rfl dX11_sort_60 (fun v21 => ?_)
            refine z_istore (lv' := [(5, (0, v21)), (0, (2, a0)), (1, (0, a1)), (2, (0, a2)), (3, (0, a3)), (4, (0, a4))]) (pc := 63) hX dX11_sort_63 (zlt hxn rfl) rfl ?_
            refine z_aload_n (pc := 65) hX 1 dX11_sort_65 rfl rfl ?_
            refine z_get (pc := 66) hX zc11 1 (by decide) wd271 rfl rfl dX11_sort_66 (fun v22 => ?_)
            refine z_get (pc := 69) hX zc5 3 (by decide) wd115 rfl rfl dX11_sort_69 (fun v23 => ?_)
            refine z_iload (pc := 72) hX 0 dX11_sort_72 rfl ?_
            refine z_iload_n (pc := 74) hX 2 dX11_sort_74 rfl rfl ?_
            refine z_iastA (pc := 75) hX dX11_sort_75 (fun s24 => ?_)
            refine z_aload_n (pc := 76) hX 1 dX11_sort_76 rfl rfl ?_
            refine z_get (pc := 77) hX zc11 1 (by decide) wd271 rfl rfl dX11_sort_77 (fun v25 => ?_)
            refine z_get (pc := 80) hX zc5 4 (by decide) wd118 rfl rfl dX11_sort_80 (fun v26 => ?_)
            refine z_iload (pc := 83) hX 0 dX11_sort_83 rfl ?_
            refine z_iload_n (pc := 85) hX 3 dX11_sort_85 rfl rfl ?_
            refine z_iastA (pc := 86) hX dX11_sort_86 (fun s27 => ?_)
            refine z_aload_n (pc := 87) hX 1 dX11_sort_87 rfl rfl ?_
            refine z_get (pc := 88) hX zc11 1 (by decide) wd271 rfl rfl dX11_sort_88 (fun v28 => ?_)
            refine z_get (pc := 91) hX zc5 2 (by decide) wd112 rfl rfl dX11_sort_91 (fun v29 => ?_)
            refine z_iconst (pc := 94) hX dX11_sort_94 ?_
            refine z_aald (pc := 95) hX 2 102 (by decide) rfl rfl dX11_sort_95 (fun v30 => ?_)
            refine z_iload (pc := 96) hX 0 dX11_sort_96 rfl ?_
            refine z_iload_n (pc := 98) hX 4 dX11_sort_98 rfl rfl ?_
            refine z_iastA (pc := 99) hX dX11_sort_99 (fun s31 => ?_)
            refine z_aload_n (pc := 100) hX 1 dX11_sort_100 rfl rfl ?_
            refine z_get (pc := 101) hX zc11 1 (by decide) wd271 rfl rfl dX11_sort_101 (fun v32 => ?_)
            refine z_get (pc := 104) hX zc5 2 (by decide) wd112 rfl rfl dX11_sort_104 (fun v33 => ?_)
            refine z_iconst (pc := 107) hX dX11_sort_107 ?_
            refine z_aald (pc := 108) hX 2 102 (by decide) rfl rfl dX11_sort_108 (fun v34 => ?_)
            refine z_iload (pc := 109) hX 0 dX11_sort_109 rfl ?_
            refine z_iload (pc := 111) hX 5 dX11_sort_111 rfl ?_
            refine z_iastA (pc := 113) hX dX11_sort_113 (fun s35 => ?_)
            refine z_aload_n (pc := 114) hX 1 dX11_sort_114 rfl rfl ?_
            refine z_get (pc := 115) hX zc11 1 (by decide) wd271 rfl rfl dX11_sort_115 (fun v36 => ?_)
            refine z_iload (pc := 118) hX 0 dX11_sort_118 rfl ?_
            refine z_iconst (pc := 120) hX dX11_sort_120 ?_
            refine z_iadd (pc := 121) hX dX11_sort_121 ?_
            refine z_putA (pc := 122) hX zc5 5 (by decide) wd121 (Or.inl rfl) rfl rfl (fun _ => rfl) (fun _ => rfl) dX11_sort_122 (fun s37 => ?_)
            refine z_iload (pc := 125) hX 0 dX11_sort_125 rfl ?_
            exact z_iret (pc := 127) hX hR hk dX11_sort_127
          · refine z_bipush (pc := 53) hX dX11_sort_53 ?_
            exact z_iret (pc := 55) hX hR hk dX11_sort_55
        · refine z_bipush (pc := 39) hX dX11_sort_39 ?_
          exact z_iret (pc := 41) hX hR hk dX11_sort_41
    · refine z_bipush (pc := 17) hX dX11_sort_17 ?_
      exact z_iret (pc := 19) hX hR hk dX11_sort_19

theorem dX12_sort_0 : decode cX12_sort 0 = .ok (.iload_n 1, 1) := by decide +kernel
theorem dX12_sort_1 : decode cX12_sort 1 = .ok (.iconst 0, 1) := by decide +kernel
theorem dX12_sort_2 : decode cX12_sort 2 = .ok (.bipush 23, 2) := by decide +kernel
theorem dX12_sort_4 : decode cX12_sort 4 = .ok (.invokestatic 127, 3) := by decide +kernel
theorem dX12_sort_7 : decode cX12_sort 7 = .ok (.ifCond .eq 35, 3) := by decide +kernel
theorem dX12_sort_10 : decode cX12_sort 10 = .ok (.iload_n 2, 1) := by decide +kernel
theorem dX12_sort_11 : decode cX12_sort 11 = .ok (.iconst 0, 1) := by decide +kernel
theorem dX12_sort_12 : decode cX12_sort 12 = .ok (.sipush 999, 3) := by decide +kernel
theorem dX12_sort_15 : decode cX12_sort 15 = .ok (.invokestatic 127, 3) := by decide +kernel
theorem dX12_sort_18 : decode cX12_sort 18 = .ok (.ifCond .eq 24, 3) := by decide +kernel
theorem dX12_sort_21 : decode cX12_sort 21 = .ok (.iload_n 3, 1) := by decide +kernel
theorem dX12_sort_22 : decode cX12_sort 22 = .ok (.iconst 0, 1) := by decide +kernel
theorem dX12_sort_23 : decode cX12_sort 23 = .ok (.bipush 9, 2) := by decide +kernel
theorem dX12_sort_25 : decode cX12_sort 25 = .ok (.invokestatic 127, 3) := by decide +kernel
theorem dX12_sort_28 : decode cX12_sort 28 = .ok (.ifCond .eq 14, 3) := by decide +kernel
theorem dX12_sort_31 : decode cX12_sort 31 = .ok (.iload 4, 2) := by decide +kernel
theorem dX12_sort_33 : decode cX12_sort 33 = .ok (.iconst 0, 1) := by decide +kernel
theorem dX12_sort_34 : decode cX12_sort 34 = .ok (.bipush 9, 2) := by decide +kernel
theorem dX12_sort_36 : decode cX12_sort 36 = .ok (.invokestatic 127, 3) := by decide +kernel
theorem dX12_sort_39 : decode cX12_sort 39 = .ok (.ifCond .ne 6, 3) := by decide +kernel
theorem dX12_sort_42 : decode cX12_sort 42 = .ok (.bipush (-2), 2) := by decide +kernel
theorem dX12_sort_44 : decode cX12_sort 44 = .ok (.ireturn, 1) := by decide +kernel
theorem dX12_sort_45 : decode cX12_sort 45 = .ok (.aload_n 0, 1) := by decide +kernel
theorem dX12_sort_46 : decode cX12_sort 46 = .ok (.getfield 135, 3) := by decide +kernel
theorem dX12_sort_49 : decode cX12_sort 49 = .ok (.iconst 4, 1) := by decide +kernel
theorem dX12_sort_50 : decode cX12_sort 50 = .ok (.if_icmp .ne 6, 3) := by decide +kernel
theorem dX12_sort_53 : decode cX12_sort 53 = .ok (.bipush (-4), 2) := by decide +kernel
theorem dX12_sort_55 : decode cX12_sort 55 = .ok (.ireturn, 1) := by decide +kernel
theorem dX12_sort_56 : decode cX12_sort 56 = .ok (.aload_n 0, 1) := by decide +kernel
theorem dX12_sort_57 : decode cX12_sort 57 = .ok (.getfield 16, 3) := by decide +kernel
theorem dX12_sort_60 : decode cX12_sort 60 = .ok (.aload_n 0, 1) := by decide +kernel
theorem dX12_sort_61 : decode cX12_sort 61 = .ok (.getfield 135, 3) := by decide +kernel
theorem dX12_sort_64 : decode cX12_sort 64 = .ok (.iload_n 1, 1) := by decide +kernel
theorem dX12_sort_65 : decode cX12_sort 65 = .ok (.iastore, 1) := by decide +kernel
theorem dX12_sort_66 : decode cX12_sort 66 = .ok (.aload_n 0, 1) := by decide +kernel
theorem dX12_sort_67 : decode cX12_sort 67 = .ok (.getfield 19, 3) := by decide +kernel
theorem dX12_sort_70 : decode cX12_sort 70 = .ok (.aload_n 0, 1) := by decide +kernel
theorem dX12_sort_71 : decode cX12_sort 71 = .ok (.getfield 135, 3) := by decide +kernel
theorem dX12_sort_74 : decode cX12_sort 74 = .ok (.iload_n 2, 1) := by decide +kernel
theorem dX12_sort_75 : decode cX12_sort 75 = .ok (.iastore, 1) := by decide +kernel
theorem dX12_sort_76 : decode cX12_sort 76 = .ok (.aload_n 0, 1) := by decide +kernel
theorem dX12_sort_77 : decode cX12_sort 77 = .ok (.getfield 22, 3) := by decide +kernel
theorem dX12_sort_80 : decode cX12_sort 80 = .ok (.iconst 2, 1) := by decide +kernel
theorem dX12_sort_81 : decode cX12_sort 81 = .ok (.aload_n 0, 1) := by decide +kernel
theorem dX12_sort_82 : decode cX12_sort 82 = .ok (.getfield 135, 3) := by decide +kernel
theorem dX12_sort_85 : decode cX12_sort 85 = .ok (.imul, 1) := by decide +kernel
theorem dX12_sort_86 : decode cX12_sort 86 = .ok (.iload_n 3, 1) := by decide +kernel
theorem dX12_sort_87 : decode cX12_sort 87 = .ok (.iastore, 1) := by decide +kernel
theorem dX12_sort_88 : decode cX12_sort 88 = .ok (.aload_n 0, 1) := by decide +kernel
theorem dX12_sort_89 : decode cX12_sort 89 = .ok (.getfield 22, 3) := by decide +kernel
theorem dX12_sort_92 : decode cX12_sort 92 = .ok (.iconst 2, 1) := by decide +kernel
theorem dX12_sort_93 : decode cX12_sort 93 = .ok (.aload_n 0, 1) := by decide +kernel
theorem dX12_sort_94 : decode cX12_sort 94 = .ok (.getfield 135, 3) := by decide +kernel
theorem dX12_sort_97 : decode cX12_sort 97 = .ok (.imul, 1) := by decide +kernel
theorem dX12_sort_98 : decode cX12_sort 98 = .ok (.iconst 1, 1) := by decide +kernel
theorem dX12_sort_99 : decode cX12_sort 99 = .ok (.iadd, 1) := by decide +kernel
theorem dX12_sort_100 : decode cX12_sort 100 = .ok (.iload 4, 2) := by decide +kernel
theorem dX12_sort_102 : decode cX12_sort 102 = .ok (.iastore, 1) := by decide +kernel
theorem dX12_sort_103 : decode cX12_sort 103 = .ok (.aload_n 0, 1) := by decide +kernel
theorem dX12_sort_104 : decode cX12_sort 104 = .ok (.dup, 1) := by decide +kernel
theorem dX12_sort_105 : decode cX12_sort 105 = .ok (.getfield 135, 3) := by decide +kernel
theorem dX12_sort_108 : decode cX12_sort 108 = .ok (.iconst 1, 1) := by decide +kernel
theorem dX12_sort_109 : decode cX12_sort 109 = .ok (.iadd, 1) := by decide +kernel
theorem dX12_sort_110 : decode cX12_sort 110 = .ok (.putfield 135, 3) := by decide +kernel
theorem dX12_sort_113 : decode cX12_sort 113 = .ok (.aload_n 0, 1) := by decide +kernel
theorem dX12_sort_114 : decode cX12_sort 114 = .ok (.getfield 135, 3) := by decide +kernel
theorem dX12_sort_117 : decode cX12_sort 117 = .ok (.iconst 1, 1) := by decide +kernel
theorem dX12_sort_118 : decode cX12_sort 118 = .ok (.isub, 1) := by decide +kernel
theorem dX12_sort_119 : decode cX12_sort 119 = .ok (.ireturn, 1) := by decide +kernel
def fX12_sort (s0 : ZS) (a0 : Int) (a1 : Int) (a2 : Int) (a3 : Int) (a4 : Int) : Option (Int × ZS) := zb (fX12_in s0 a1 0 23) (fun v1 s2 => if v1 = 0 then (some ((-2), s2)) else (zb (fX12_in s2 a2 0 999) (fun v5 s6 => if v5 = 0 then (some ((-2), s6)) else (zb (fX12_in s6 a3 0 9) (fun v9 s10 => if v9 = 0 then (some ((-2), s10)) else (zb (fX12_in s10 a4 0 9) (fun v13 s14 => if v13 = 0 then (some ((-2), s14)) else ((zg s14 12 a0 2).bind (fun v17 => if v17 = 4 then (some ((-4), s14)) else ((zg s14 12 a0 3).bind (fun v19 => (zg s14 12 a0 2).bind (fun v20 => (zas s14 100 v19 v20 a1).bind (fun s21 => (zg s21 12 a0 4).bind (fun v22 => (zg s21 12 a0 2).bind (fun v23 => (zas s21 100 v22 v23 a2).bind (fun s24 => (zg s24 12 a0 5).bind (fun v25 => (zg s24 12 a0 2).bind (fun v26 => (zas s24 100 v25 (wrap (2 * v26)) a3).bind (fun s27 => (zg s27 12 a0 5).bind (fun v28 => (zg s27 12 a0 2).bind (fun v29 => (zas s27 100 v28 (wrap ((wrap (2 * v29)) + 1)) a4).bind (fun s30 => (zg s30 12 a0 2).bind (fun v31 => (zp s30 12 a0 2 (wrap (v31 + 1))).bind (fun s32 => (zg s32 12 a0 2).bind (fun v33 => some ((wrap (v33 - 1)), s32))))))))))))))))))))))))))
set_option maxHeartbeats 4000000 in
set_option maxRecDepth 100000 in
theorem mX12_sort (E : ZE) (hE : zOkE E) (l : Launch) (s0 : ZS) (a0 : Int) (a1 : Int) (a2 : Int) (a3 : Int) (a4 : Int) : Ct E l yX12_sort cX12_sort 5 (some .int) 4 [(2, a0), (0, a1), (0, a2), (0, a3), (0, a4)] 1 s0 (fX12_sort s0 a0 a1 a2 a3 a4) := by
  refine Ct.of (by decide) hE (Nat.le_of_ble_eq_true rfl) ?_
  intro X G hX hR hN hXE hXl hxn hk _
  subst hXE
  subst hXl
  have hX : G → ZOk X cX12_sort RX12 4 := hX
  clear hN
  show Zj X G 0 [(0, (2, a0)), (1, (0, a1)), (2, (0, a2)), (3, (0, a3)), (4, (0, a4))] [] s0 _
  unfold fX12_sort
  refine z_iload_n (pc := 0) hX 1 dX12_sort_0 rfl rfl ?_
  refine z_iconst (pc := 1) hX dX12_sort_1 ?_
  refine z_bipush (pc := 2) hX dX12_sort_2 ?_
  refine z_callS (n := 3) (st := []) (pc := 4) hX (mX12_in _ hE _ _ _ _ _) ⟨wd1173, wd67, wd1175, ⟨by decide, by decide, by decide⟩, by decide⟩ wd1174 rfl rfl (by decide) (Nat.le_of_ble_eq_true rfl) dX12_sort_4 (fun v1 s2 r3 => ?_)
  show Zj X G 7 [(0, (2, a0)), (1, (0, a1)), (2, (0, a2)), (3, (0, a3)), (4, (0, a4))] [(0, v1)] _ _
  refine z_if_eq (pc := 7) hX 42 dX12_sort_7 (by decide) (fun h4 => ?_) (fun h4 => ?_)
  · refine z_bipush (pc := 42) hX dX12_sort_42 ?_
    exact z_iret (pc := 44) hX hR hk dX12_sort_44
  · refine z_iload_n (pc := 10) hX 2 dX12_sort_10 rfl rfl ?_
    refine z_iconst (pc := 11) hX dX12_sort_11 ?_
    refine z_sipush (pc := 12) hX dX12_sort_12 ?_
    refine z_callS (n := 3) (st := []) (pc := 15) hX (mX12_in _ hE _ _ _ _ _) ⟨wd1173, wd67, wd1175, ⟨by decide, by decide, by decide⟩, by decide⟩ wd1174 rfl rfl (by decide) (Nat.le_of_ble_eq_true rfl) dX12_sort_15 (fun v5 s6 r7 => ?_)
    show Zj X G 18 [(0, (2, a0)), (1, (0, a1)), (2, (0, a2)), (3, (0, a3)), (4, (0, a4))] [(0, v5)] _ _
    refine z_if_eq (pc := 18) hX 42 dX12_sort_18 (by decide) (fun h8 => ?_) (fun h8 => ?_)
    · refine z_bipush (pc := 42) hX dX12_sort_42 ?_
      exact z_iret (pc := 44) hX hR hk dX12_sort_44
    · refine z_iload_n (pc := 21) hX 3 dX12_sort_21 rfl rfl ?_
      refine z_iconst (pc := 22) hX dX12_sort_22 ?_
      refine z_bipush (pc := 23) hX dX12_sort_23 ?_
      refine z_callS (n := 3) (st := []) (pc := 25) hX (mX12_in _ hE _ _ _ _ _) ⟨wd1173, wd67, wd1175, ⟨by decide, by decide, by decide⟩, by decide⟩ wd1174 rfl rfl (by decide) (Nat.le_of_ble_eq_true rfl) dX12_sort_25 (fun v9 s10 r11 => ?_)
      show Zj X G 28 [(0, (2, a0)), (1, (0, a1)), (2, (0, a2)), (3, (0, a3)), (4, (0, a4))] [(0, v9)] _ _
      refine z_if_eq (pc := 28) hX 42 dX12_sort_28 (by decide) (fun h12 => ?_) (fun h12 => ?_)
      · refine z_bipush (pc := 42) hX dX12_sort_42 ?_
        exact z_iret (pc := 44) hX hR hk dX12_sort_44
      · refine z_iload (pc := 31) hX 4 dX12_sort_31 rfl ?_
        refine z_iconst (pc := 33) hX dX12_sort_33 ?_
        refine z_bipush (pc := 34) hX dX12_sort_34 ?_
        refine z_callS (n := 3) (st := []) (pc := 36) hX (mX12_in _ hE _ _ _ _ _) ⟨wd1173, wd67, wd1175, ⟨by decide, by decide, by decide⟩, by decide⟩ wd1174 rfl rfl (by decide) (Nat.le_of_ble_eq_true rfl) dX12_sort_36 (fun v13 s14 r15 => ?_)
        show Zj X G 39 [(0, (2, a0)), (1, (0, a1)), (2, (0, a2)), (3, (0, a3)), (4, (0, a4))] [(0, v13)] _ _
        refine z_if_ne (pc := 39) hX 45 dX12_sort_39 (by decide) (fun h16 => ?_) (fun h16 => ?_)
        · refine z_aload_n (pc := 45) hX 0 dX12_sort_45 rfl rfl ?_
          refine z_get (pc := 46) hX zc12 2 (by decide) wd1019 rfl rfl dX12_sort_46 (fun v17 => ?_)
          refine z_iconst (pc := 49) hX dX12_sort_49 ?_
          refine z_icmp_ne (pc := 50) hX 56 dX12_sort_50 (by decide) (fun h18 => ?_) (fun h18 => ?_)
          · refine z_aload_n (pc := 56) hX 0 dX12_sort_56 rfl rfl ?_
            refine z_get (pc := 57) hX zc12 3 (by decide) wd1020 rfl rfl dX12_sort_57 (fun v19 => ?_)
            refine z_aload_n (pc := 60) hX 0 dX12_sort_60 rfl rfl ?_
            refine z_get (pc := 61) hX zc12 2 (by decide) wd1019 rfl rfl dX12_sort_61 (fun v20 => ?_)
            refine z_iload_n (pc := 64) hX 1 dX12_sort_64 rfl rfl ?_
            refine z_iastA (pc := 65) hX dX12_sort_65 (fun s21 => ?_)
            refine z_aload_n (pc := 66) hX 0 dX12_sort_66 rfl rfl ?_
            refine z_get (pc := 67) hX zc12 4 (by decide) wd1021 rfl rfl dX12_sort_67 (fun v22 => ?_)
            refine z_aload_n (pc := 70) hX 0 dX12_sort_70 rfl rfl ?_
            refine z_get (pc := 71) hX zc12 2 (by decide) wd1019 rfl rfl dX12_sort_71 (fun v23 => ?_)
            refine z_iload_n (pc := 74) hX 2 dX12_sort_74 rfl rfl ?_
            refine z_iastA (pc := 75) hX dX12_sort_75 (fun s24 => ?_)
            refine z_aload_n (pc := 76) hX 0 dX12_sort_76 rfl rfl ?_
            refine z_get (pc := 77) hX zc12 5 (by decide) wd1022 rfl rfl dX12_sort_77 (fun v25 => ?_)
            refine z_iconst (pc := 80) hX dX12_sort_80 ?_
            refine z_aload_n (pc := 81) hX 0 dX12_sort_81 rfl rfl ?_
            refine z_get (pc := 82) hX zc12 2 (by decide) wd1019 rfl rfl dX12_sort_82 (fun v26 => ?_)
            refine z_imul (pc := 85) hX dX12_sort_85 ?_
            refine z_iload_n (pc := 86) hX 3 dX12_sort_86 rfl rfl ?_
            refine z_iastA (pc := 87) hX dX12_sort_87 (fun s27 => ?_)
            refine z_aload_n (pc := 88) hX 0 dX12_sort_88 rfl rfl ?_
            refine z_get (pc := 89) hX zc12 5 (by decide) wd1022 rfl rfl dX12_sort_89 (fun v28 => ?_)
            refine z_iconst (pc := 92) hX dX12_sort_92 ?_
            refine z_aload_n (pc := 93) hX 0 dX12_sort_93 rfl rfl ?_
            refine z_get (pc := 94) hX zc12 2 (by decide) wd1019 rfl rfl dX12_sort_94 (fun v29 => ?_)
            refine z_imul (pc := 97) hX dX12_sort_97 ?_
            refine z_iconst (pc := 98) hX dX12_sort_98 ?_
            refine z_iadd (pc := 99) hX dX12_sort_99 ?_
            refine z_iload (pc := 100) hX 4 dX12_sort_100 rfl ?_
            refine z_iastA (pc := 102) hX dX12_sort_102 (fun s30 => ?_)
            refine z_aload_n (pc := 103) hX 0 dX12_sort_103 rfl rfl ?_
            refine z_dup (pc := 104) hX zn2 dX12_sort_104 ?_
            refine z_get (pc := 105) hX zc12 2 (by decide) wd1019 rfl rfl dX12_sort_105 (fun v31 => ?_)
            refine z_iconst (pc := 108) hX dX12_sort_108 ?_
            refine z_iadd (pc := 109) hX dX12_sort_109 ?_
            refine z_putA (pc := 110) hX zc12 2 (by decide) wd1019 (Or.inl rfl) rfl rfl (fun _ => rfl) (fun _ => rfl) dX12_sort_110 (fun s32 => ?_)
            refine z_aload_n (pc := 113) hX 0 dX12_sort_113 rfl rfl ?_
            refine z_get (pc := 114) hX zc12 2 (by decide) wd1019 rfl rfl dX12_sort_114 (fun v33 => ?_)
            refine z_iconst (pc := 117) hX dX12_sort_117 ?_
            refine z_isub (pc := 118) hX dX12_sort_118 ?_
            exact z_iret (pc := 119) hX hR hk dX12_sort_119
          · refine z_bipush (pc := 53) hX dX12_sort_53 ?_
            exact z_iret (pc := 55) hX hR hk dX12_sort_55
        · refine z_bipush (pc := 42) hX dX12_sort_42 ?_
          exact z_iret (pc := 44) hX hR hk dX12_sort_44

theorem dX11_isSort_0 : decode cX11_isSort 0 = .ok (.iload_n 1, 1) := by decide +kernel
theorem dX11_isSort_1 : decode cX11_isSort 1 = .ok (.ifCond .lt 18, 3) := by decide +kernel
theorem dX11_isSort_4 : decode cX11_isSort 4 = .ok (.iload_n 1, 1) := by decide +kernel
theorem dX11_isSort_5 : decode cX11_isSort 5 = .ok (.aload_n 0, 1) := by decide +kernel
theorem dX11_isSort_6 : decode cX11_isSort 6 = .ok (.getfield 20, 3) := by decide +kernel
theorem dX11_isSort_9 : decode cX11_isSort 9 = .ok (.getfield 113, 3) := by decide +kernel
theorem dX11_isSort_12 : decode cX11_isSort 12 = .ok (.if_icmp .ge 7, 3) := by decide +kernel
theorem dX11_isSort_15 : decode cX11_isSort 15 = .ok (.iconst 1, 1) := by decide +kernel
theorem dX11_isSort_16 : decode cX11_isSort 16 = .ok (.goto 4, 3) := by decide +kernel
theorem dX11_isSort_19 : decode cX11_isSort 19 = .ok (.iconst 0, 1) := by decide +kernel
theorem dX11_isSort_20 : decode cX11_isSort 20 = .ok (.ireturn, 1) := by decide +kernel
def fX11_isSort (s0 : ZS) (a0 : Int) (a1 : Int) : Option (Int × ZS) := if a1 < 0 then (some (0, s0)) else ((zg s0 11 a0 1).bind (fun v2 => (zg s0 5 v2 5).bind (fun v3 => if v3 ≤ a1 then (some (0, s0)) else (some (1, s0)))))
set_option maxHeartbeats 4000000 in
set_option maxRecDepth 100000 in
theorem mX11_isSort (E : ZE) (hE : zOkE E) (l : Launch) (s0 : ZS) (a0 : Int) (a1 : Int) : Ct E l yX11_isSort cX11_isSort 2 (some .boolean) 2 [(2, a0), (0, a1)] 4 s0 (fX11_isSort s0 a0 a1) := by
  refine Ct.of (by decide) hE (Nat.le_of_ble_eq_true rfl) ?_
  intro X G hX hR hN hXE hXl hxn hk _
  subst hXE
  subst hXl
  have hX : G → ZOk X cX11_isSort RX11 2 := hX
  clear hN
  show Zj X G 0 [(0, (2, a0)), (1, (0, a1))] [] s0 _
  unfold fX11_isSort
  refine z_iload_n (pc := 0) hX 1 dX11_isSort_0 rfl rfl ?_
  refine z_if_lt (pc := 1) hX 19 dX11_isSort_1 (by decide) (fun h1 => ?_) (fun h1 => ?_)
  · refine z_iconst (pc := 19) hX dX11_isSort_19 ?_
    exact z_zret (pc := 20) hX hR hk dX11_isSort_20 (Or.inl rfl)
  · refine z_iload_n (pc := 4) hX 1 dX11_isSort_4 rfl rfl ?_
    refine z_aload_n (pc := 5) hX 0 dX11_isSort_5 rfl rfl ?_
    refine z_get (pc := 6) hX zc11 1 (by decide) wd271 rfl rfl dX11_isSort_6 (fun v2 => ?_)
    refine z_get (pc := 9) hX zc5 5 (by decide) wd121 rfl rfl dX11_isSort_9 (fun v3 => ?_)
    refine z_icmp_ge (pc := 12) hX 19 dX11_isSort_12 (by decide) (fun h4 => ?_) (fun h4 => ?_)
    · refine z_iconst (pc := 19) hX dX11_isSort_19 ?_
      exact z_zret (pc := 20) hX hR hk dX11_isSort_20 (Or.inl rfl)
    · refine z_iconst (pc := 15) hX dX11_isSort_15 ?_
      refine z_goto (pc := 16) hX 20 dX11_isSort_16 (by decide) ?_
      exact z_zret (pc := 20) hX hR hk dX11_isSort_20 (Or.inr rfl)

theorem dX11_cart_0 : decode cX11_cart 0 = .ok (.aload_n 0, 1) := by decide +kernel
theorem dX11_cart_1 : decode cX11_cart 1 = .ok (.iload_n 1, 1) := by decide +kernel
theorem dX11_cart_2 : decode cX11_cart 2 = .ok (.invokevirtual 125, 3) := by decide +kernel
theorem dX11_cart_5 : decode cX11_cart 5 = .ok (.ifCond .ne 5, 3) := by decide +kernel
theorem dX11_cart_8 : decode cX11_cart 8 = .ok (.iconst (-1), 1) := by decide +kernel
theorem dX11_cart_9 : decode cX11_cart 9 = .ok (.ireturn, 1) := by decide +kernel
theorem dX11_cart_10 : decode cX11_cart 10 = .ok (.aload_n 0, 1) := by decide +kernel
theorem dX11_cart_11 : decode cX11_cart 11 = .ok (.getfield 20, 3) := by decide +kernel
theorem dX11_cart_14 : decode cX11_cart 14 = .ok (.getfield 128, 3) := by decide +kernel
theorem dX11_cart_17 : decode cX11_cart 17 = .ok (.bipush 16, 2) := by decide +kernel
theorem dX11_cart_19 : decode cX11_cart 19 = .ok (.if_icmp .lt 6, 3) := by decide +kernel
theorem dX11_cart_22 : decode cX11_cart 22 = .ok (.bipush (-4), 2) := by decide +kernel
theorem dX11_cart_24 : decode cX11_cart 24 = .ok (.ireturn, 1) := by decide +kernel
theorem dX11_cart_25 : decode cX11_cart 25 = .ok (.aload_n 0, 1) := by decide +kernel
theorem dX11_cart_26 : decode cX11_cart 26 = .ok (.getfield 20, 3) := by decide +kernel
theorem dX11_cart_29 : decode cX11_cart 29 = .ok (.getfield 128, 3) := by decide +kernel
theorem dX11_cart_32 : decode cX11_cart 32 = .ok (.istore_n 2, 1) := by decide +kernel
theorem dX11_cart_33 : decode cX11_cart 33 = .ok (.aload_n 0, 1) := by decide +kernel
theorem dX11_cart_34 : decode cX11_cart 34 = .ok (.getfield 20, 3) := by decide +kernel
theorem dX11_cart_37 : decode cX11_cart 37 = .ok (.getfield 131, 3) := by decide +kernel
theorem dX11_cart_40 : decode cX11_cart 40 = .ok (.iload_n 2, 1) := by decide +kernel
theorem dX11_cart_41 : decode cX11_cart 41 = .ok (.iload_n 1, 1) := by decide +kernel
theorem dX11_cart_42 : decode cX11_cart 42 = .ok (.iastore, 1) := by decide +kernel
theorem dX11_cart_43 : decode cX11_cart 43 = .ok (.aload_n 0, 1) := by decide +kernel
theorem dX11_cart_44 : decode cX11_cart 44 = .ok (.getfield 20, 3) := by decide +kernel
theorem dX11_cart_47 : decode cX11_cart 47 = .ok (.iload_n 2, 1) := by decide +kernel
theorem dX11_cart_48 : decode cX11_cart 48 = .ok (.iconst 1, 1) := by decide +kernel
theorem dX11_cart_49 : decode cX11_cart 49 = .ok (.iadd, 1) := by decide +kernel
theorem dX11_cart_50 : decode cX11_cart 50 = .ok (.putfield 128, 3) := by decide +kernel
theorem dX11_cart_53 : decode cX11_cart 53 = .ok (.iload_n 2, 1) := by decide +kernel
theorem dX11_cart_54 : decode cX11_cart 54 = .ok (.ireturn, 1) := by decide +kernel
def fX11_cart (s0 : ZS) (a0 : Int) (a1 : Int) : Option (Int × ZS) := zb (zv s0 11 a0 (fX11_isSort s0 a0 a1)) (fun v1 s2 => if v1 = 0 then (some ((-1), s2)) else ((zg s2 11 a0 1).bind (fun v5 => (zg s2 5 v5 7).bind (fun v6 => if v6 < 16 then ((zg s2 11 a0 1).bind (fun v8 => (zg s2 5 v8 7).bind (fun v9 => (zg s2 11 a0 1).bind (fun v10 => (zg s2 5 v10 6).bind (fun v11 => (zas s2 100 v11 v9 a1).bind (fun s12 => (zg s12 11 a0 1).bind (fun v13 => (zp s12 5 v13 7 (wrap (v9 + 1))).bind (fun s14 => some (v9, s14))))))))) else (some ((-4), s2))))))
set_option maxHeartbeats 4000000 in
set_option maxRecDepth 100000 in
theorem mX11_cart (E : ZE) (hE : zOkE E) (l : Launch) (s0 : ZS) (a0 : Int) (a1 : Int) : Ct E l yX11_cart cX11_cart 3 (some .int) 4 [(2, a0), (0, a1)] 1 s0 (fX11_cart s0 a0 a1) := by
  refine Ct.of (by decide) hE (Nat.le_of_ble_eq_true rfl) ?_
  intro X G hX hR hN hXE hXl hxn hk _
  subst hXE
  subst hXl
  have hX : G → ZOk X cX11_cart RX11 4 := hX
  clear hN
  show Zj X G 0 [(0, (2, a0)), (1, (0, a1))] [] s0 _
  unfold fX11_cart
  refine z_aload_n (pc := 0) hX 0 dX11_cart_0 rfl rfl ?_
  refine z_iload_n (pc := 1) hX 1 dX11_cart_1 rfl rfl ?_
  refine z_callV (n := 1) (st := []) (pc := 2) hX zc11 rfl (fun _ => (mX11_isSort _ hE _ _ _ _)) ⟨wd347, wd61, wd350, ⟨by decide, by decide, by decide⟩, by decide⟩ rfl wd349 wd0 rfl rfl (by decide) (Nat.le_of_ble_eq_true rfl) dX11_cart_2 (fun v1 s2 r3 => ?_)
  show Zj X G 5 [(0, (2, a0)), (1, (0, a1))] [(0, v1)] _ _
  refine z_if_ne (pc := 5) hX 10 dX11_cart_5 (by decide) (fun h4 => ?_) (fun h4 => ?_)
  · refine z_aload_n (pc := 10) hX 0 dX11_cart_10 rfl rfl ?_
    refine z_get (pc := 11) hX zc11 1 (by decide) wd271 rfl rfl dX11_cart_11 (fun v5 => ?_)
    refine z_get (pc := 14) hX zc5 7 (by decide) wd126 rfl rfl dX11_cart_14 (fun v6 => ?_)
    refine z_bipush (pc := 17) hX dX11_cart_17 ?_
    refine z_icmp_lt (pc := 19) hX 25 dX11_cart_19 (by decide) (fun h7 => ?_) (fun h7 => ?_)
    · refine z_aload_n (pc := 25) hX 0 dX11_cart_25 rfl rfl ?_
      refine z_get (pc := 26) hX zc11 1 (by decide) wd271 rfl rfl dX11_cart_26 (fun v8 => ?_)
      refine z_get (pc := 29) hX zc5 7 (by decide) wd126 rfl rfl dX11_cart_29 (fun v9 => ?_)
      refine z_istore_n (lv' := [(2, (0, v9)), (0, (2, a0)), (1, (0, a1))]) (pc := 32) hX dX11_cart_32 rfl (zlt hxn rfl) rfl ?_
      refine z_aload_n (pc := 33) hX 1 dX11_cart_33 rfl rfl ?_
      refine z_get (pc := 34) hX zc11 1 (by decide) wd271 rfl rfl dX11_cart_34 (fun v10 => ?_)
      refine z_get (pc := 37) hX zc5 6 (by decide) wd124 rfl rfl dX11_cart_37 (fun v11 => ?_)
      refine z_iload_n (pc := 40) hX 0 dX11_cart_40 rfl rfl ?_
      refine z_iload_n (pc := 41) hX 2 dX11_cart_41 rfl rfl ?_
      refine z_iastA (pc := 42) hX dX11_cart_42 (fun s12 => ?_)
      refine z_aload_n (pc := 43) hX 1 dX11_cart_43 rfl rfl ?_
      refine z_get (pc := 44) hX zc11 1 (by decide) wd271 rfl rfl dX11_cart_44 (fun v13 => ?_)
      refine z_iload_n (pc := 47) hX 0 dX11_cart_47 rfl rfl ?_
      refine z_iconst (pc := 48) hX dX11_cart_48 ?_
      refine z_iadd (pc := 49) hX dX11_cart_49 ?_
      refine z_putA (pc := 50) hX zc5 7 (by decide) wd126 (Or.inl rfl) rfl rfl (fun _ => rfl) (fun _ => rfl) dX11_cart_50 (fun s14 => ?_)
      refine z_iload_n (pc := 53) hX 0 dX11_cart_53 rfl rfl ?_
      exact z_iret (pc := 54) hX hR hk dX11_cart_54
    · refine z_bipush (pc := 22) hX dX11_cart_22 ?_
      exact z_iret (pc := 24) hX hR hk dX11_cart_24
  · refine z_iconst (pc := 8) hX dX11_cart_8 ?_
    exact z_iret (pc := 9) hX hR hk dX11_cart_9

theorem dX12_isSort_0 : decode cX12_isSort 0 = .ok (.iload_n 1, 1) := by decide +kernel
theorem dX12_isSort_1 : decode cX12_isSort 1 = .ok (.iconst 0, 1) := by decide +kernel
theorem dX12_isSort_2 : decode cX12_isSort 2 = .ok (.aload_n 0, 1) := by decide +kernel
theorem dX12_isSort_3 : decode cX12_isSort 3 = .ok (.getfield 135, 3) := by decide +kernel
theorem dX12_isSort_6 : decode cX12_isSort 6 = .ok (.iconst 1, 1) := by decide +kernel
theorem dX12_isSort_7 : decode cX12_isSort 7 = .ok (.isub, 1) := by decide +kernel
theorem dX12_isSort_8 : decode cX12_isSort 8 = .ok (.invokestatic 127, 3) := by decide +kernel
theorem dX12_isSort_11 : decode cX12_isSort 11 = .ok (.ireturn, 1) := by decide +kernel
def fX12_isSort (s0 : ZS) (a0 : Int) (a1 : Int) : Option (Int × ZS) := (zg s0 12 a0 2).bind (fun v1 => zb (fX12_in s0 a1 0 (wrap (v1 - 1))) (fun v2 s3 => some (v2, s3)))
set_option maxHeartbeats 4000000 in
set_option maxRecDepth 100000 in
theorem mX12_isSort (E : ZE) (hE : zOkE E) (l : Launch) (s0 : ZS) (a0 : Int) (a1 : Int) : Ct E l yX12_isSort cX12_isSort 2 (some .boolean) 4 [(2, a0), (0, a1)] 4 s0 (fX12_isSort s0 a0 a1) := by
  refine Ct.of (by decide) hE (Nat.le_of_ble_eq_true rfl) ?_
  intro X G hX hR hN hXE hXl hxn hk _
  subst hXE
  subst hXl
  have hX : G → ZOk X cX12_isSort RX12 4 := hX
  clear hN
  show Zj X G 0 [(0, (2, a0)), (1, (0, a1))] [] s0 _
  unfold fX12_isSort
  refine z_iload_n (pc := 0) hX 1 dX12_isSort_0 rfl rfl ?_
  refine z_iconst (pc := 1) hX dX12_isSort_1 ?_
  refine z_aload_n (pc := 2) hX 0 dX12_isSort_2 rfl rfl ?_
  refine z_get (pc := 3) hX zc12 2 (by decide) wd1019 rfl rfl dX12_isSort_3 (fun v1 => ?_)
  refine z_iconst (pc := 6) hX dX12_isSort_6 ?_
  refine z_isub (pc := 7) hX dX12_isSort_7 ?_
  refine z_callS (n := 3) (st := []) (pc := 8) hX (mX12_in _ hE _ _ _ _ _) ⟨wd1173, wd67, wd1175, ⟨by decide, by decide, by decide⟩, by decide⟩ wd1174 rfl rfl (by decide) (Nat.le_of_ble_eq_true rfl) dX12_isSort_8 (fun v2 s3 r4 => ?_)
  show Zj X G 11 [(0, (2, a0)), (1, (0, a1))] [(0, v2)] _ _
  exact z_zret (pc := 11) hX hR hk dX12_isSort_11 r4

theorem dX12_cart_0 : decode cX12_cart 0 = .ok (.aload_n 0, 1) := by decide +kernel
theorem dX12_cart_1 : decode cX12_cart 1 = .ok (.iload_n 1, 1) := by decide +kernel
theorem dX12_cart_2 : decode cX12_cart 2 = .ok (.invokevirtual 138, 3) := by decide +kernel
theorem dX12_cart_5 : decode cX12_cart 5 = .ok (.ifCond .ne 5, 3) := by decide +kernel
theorem dX12_cart_8 : decode cX12_cart 8 = .ok (.iconst (-1), 1) := by decide +kernel
theorem dX12_cart_9 : decode cX12_cart 9 = .ok (.ireturn, 1) := by decide +kernel
theorem dX12_cart_10 : decode cX12_cart 10 = .ok (.aload_n 0, 1) := by decide +kernel
theorem dX12_cart_11 : decode cX12_cart 11 = .ok (.getfield 142, 3) := by decide +kernel
theorem dX12_cart_14 : decode cX12_cart 14 = .ok (.bipush 16, 2) := by decide +kernel
theorem dX12_cart_16 : decode cX12_cart 16 = .ok (.if_icmp .ne 6, 3) := by decide +kernel
theorem dX12_cart_19 : decode cX12_cart 19 = .ok (.bipush (-4), 2) := by decide +kernel
theorem dX12_cart_21 : decode cX12_cart 21 = .ok (.ireturn, 1) := by decide +kernel
theorem dX12_cart_22 : decode cX12_cart 22 = .ok (.aload_n 0, 1) := by decide +kernel
theorem dX12_cart_23 : decode cX12_cart 23 = .ok (.getfield 25, 3) := by decide +kernel
theorem dX12_cart_26 : decode cX12_cart 26 = .ok (.aload_n 0, 1) := by decide +kernel
theorem dX12_cart_27 : decode cX12_cart 27 = .ok (.getfield 142, 3) := by decide +kernel
theorem dX12_cart_30 : decode cX12_cart 30 = .ok (.iload_n 1, 1) := by decide +kernel
theorem dX12_cart_31 : decode cX12_cart 31 = .ok (.iastore, 1) := by decide +kernel
theorem dX12_cart_32 : decode cX12_cart 32 = .ok (.aload_n 0, 1) := by decide +kernel
theorem dX12_cart_33 : decode cX12_cart 33 = .ok (.dup, 1) := by decide +kernel
theorem dX12_cart_34 : decode cX12_cart 34 = .ok (.getfield 142, 3) := by decide +kernel
theorem dX12_cart_37 : decode cX12_cart 37 = .ok (.iconst 1, 1) := by decide +kernel
theorem dX12_cart_38 : decode cX12_cart 38 = .ok (.iadd, 1) := by decide +kernel
theorem dX12_cart_39 : decode cX12_cart 39 = .ok (.putfield 142, 3) := by decide +kernel
theorem dX12_cart_42 : decode cX12_cart 42 = .ok (.aload_n 0, 1) := by decide +kernel
theorem dX12_cart_43 : decode cX12_cart 43 = .ok (.getfield 142, 3) := by decide +kernel
theorem dX12_cart_46 : decode cX12_cart 46 = .ok (.iconst 1, 1) := by decide +kernel
theorem dX12_cart_47 : decode cX12_cart 47 = .ok (.isub, 1) := by decide +kernel
theorem dX12_cart_48 : decode cX12_cart 48 = .ok (.ireturn, 1) := by decide +kernel
def fX12_cart (s0 : ZS) (a0 : Int) (a1 : Int) : Option (Int × ZS) := zb (zv s0 12 a0 (fX12_isSort s0 a0 a1)) (fun v1 s2 => if v1 = 0 then (some ((-1), s2)) else ((zg s2 12 a0 6).bind (fun v5 => if v5 = 16 then (some ((-4), s2)) else ((zg s2 12 a0 7).bind (fun v7 => (zg s2 12 a0 6).bind (fun v8 => (zas s2 100 v7 v8 a1).bind (fun s9 => (zg s9 12 a0 6).bind (fun v10 => (zp s9 12 a0 6 (wrap (v10 + 1))).bind (fun s11 => (zg s11 12 a0 6).bind (fun v12 => some ((wrap (v12 - 1)), s11)))))))))))
set_option maxHeartbeats 4000000 in
set_option maxRecDepth 100000 in
theorem mX12_cart (E : ZE) (hE : zOkE E) (l : Launch) (s0 : ZS) (a0 : Int) (a1 : Int) : Ct E l yX12_cart cX12_cart 2 (some .int) 6 [(2, a0), (0, a1)] 1 s0 (fX12_cart s0 a0 a1) := by
  refine Ct.of (by decide) hE (Nat.le_of_ble_eq_true rfl) ?_
  intro X G hX hR hN hXE hXl hxn hk _
  subst hXE
  subst hXl
  have hX : G → ZOk X cX12_cart RX12 6 := hX
  clear hN
  show Zj X G 0 [(0, (2, a0)), (1, (0, a1))] [] s0 _
  unfold fX12_cart
  refine z_aload_n (pc := 0) hX 0 dX12_cart_0 rfl rfl ?_
  refine z_iload_n (pc := 1) hX 1 dX12_cart_1 rfl rfl ?_
  refine z_callV (n := 1) (st := []) (pc := 2) hX zc12 rfl (fun _ => (mX12_isSort _ hE _ _ _ _)) ⟨wd1188, wd67, wd1191, ⟨by decide, by decide, by decide⟩, by decide⟩ rfl wd1190 wd32 rfl rfl (by decide) (Nat.le_of_ble_eq_true rfl) dX12_cart_2 (fun v1 s2 r3 => ?_)
  show Zj X G 5 [(0, (2, a0)), (1, (0, a1))] [(0, v1)] _ _
  refine z_if_ne (pc := 5) hX 10 dX12_cart_5 (by decide) (fun h4 => ?_) (fun h4 => ?_)
  · refine z_aload_n (pc := 10) hX 0 dX12_cart_10 rfl rfl ?_
    refine z_get (pc := 11) hX zc12 6 (by decide) wd1023 rfl rfl dX12_cart_11 (fun v5 => ?_)
    refine z_bipush (pc := 14) hX dX12_cart_14 ?_
    refine z_icmp_ne (pc := 16) hX 22 dX12_cart_16 (by decide) (fun h6 => ?_) (fun h6 => ?_)
    · refine z_aload_n (pc := 22) hX 0 dX12_cart_22 rfl rfl ?_
      refine z_get (pc := 23) hX zc12 7 (by decide) wd1024 rfl rfl dX12_cart_23 (fun v7 => ?_)
      refine z_aload_n (pc := 26) hX 0 dX12_cart_26 rfl rfl ?_
      refine z_get (pc := 27) hX zc12 6 (by decide) wd1023 rfl rfl dX12_cart_27 (fun v8 => ?_)
      refine z_iload_n (pc := 30) hX 1 dX12_cart_30 rfl rfl ?_
      refine z_iastA (pc := 31) hX dX12_cart_31 (fun s9 => ?_)
      refine z_aload_n (pc := 32) hX 0 dX12_cart_32 rfl rfl ?_
      refine z_dup (pc := 33) hX zn2 dX12_cart_33 ?_
      refine z_get (pc := 34) hX zc12 6 (by decide) wd1023 rfl rfl dX12_cart_34 (fun v10 => ?_)
      refine z_iconst (pc := 37) hX dX12_cart_37 ?_
      refine z_iadd (pc := 38) hX dX12_cart_38 ?_
      refine z_putA (pc := 39) hX zc12 6 (by decide) wd1023 (Or.inl rfl) rfl rfl (fun _ => rfl) (fun _ => rfl) dX12_cart_39 (fun s11 => ?_)
      refine z_aload_n (pc := 42) hX 0 dX12_cart_42 rfl rfl ?_
      refine z_get (pc := 43) hX zc12 6 (by decide) wd1023 rfl rfl dX12_cart_43 (fun v12 => ?_)
      refine z_iconst (pc := 46) hX dX12_cart_46 ?_
      refine z_isub (pc := 47) hX dX12_cart_47 ?_
      exact z_iret (pc := 48) hX hR hk dX12_cart_48
    · refine z_bipush (pc := 19) hX dX12_cart_19 ?_
      exact z_iret (pc := 21) hX hR hk dX12_cart_21
  · refine z_iconst (pc := 8) hX dX12_cart_8 ?_
    exact z_iret (pc := 9) hX hR hk dX12_cart_9
