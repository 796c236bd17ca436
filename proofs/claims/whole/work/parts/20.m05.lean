theorem dX12_gateTold_0 : decode cX12_gateTold 0 = .ok (.iload_n 1, 1) := by decide +kernel
theorem dX12_gateTold_1 : decode cX12_gateTold 1 = .ok (.iload_n 2, 1) := by decide +kernel
theorem dX12_gateTold_2 : decode cX12_gateTold 2 = .ok (.invokestatic 131, 3) := by decide +kernel
theorem dX12_gateTold_5 : decode cX12_gateTold 5 = .ok (.ifCond .ne 6, 3) := by decide +kernel
theorem dX12_gateTold_8 : decode cX12_gateTold 8 = .ok (.bipush (-5), 2) := by decide +kernel
theorem dX12_gateTold_10 : decode cX12_gateTold 10 = .ok (.ireturn, 1) := by decide +kernel
theorem dX12_gateTold_11 : decode cX12_gateTold 11 = .ok (.iload_n 3, 1) := by decide +kernel
theorem dX12_gateTold_12 : decode cX12_gateTold 12 = .ok (.ifCond .ne 17, 3) := by decide +kernel
theorem dX12_gateTold_15 : decode cX12_gateTold 15 = .ok (.aload_n 0, 1) := by decide +kernel
theorem dX12_gateTold_16 : decode cX12_gateTold 16 = .ok (.getfield 7, 3) := by decide +kernel
theorem dX12_gateTold_19 : decode cX12_gateTold 19 = .ok (.bipush 24, 2) := by decide +kernel
theorem dX12_gateTold_21 : decode cX12_gateTold 21 = .ok (.iload_n 1, 1) := by decide +kernel
theorem dX12_gateTold_22 : decode cX12_gateTold 22 = .ok (.imul, 1) := by decide +kernel
theorem dX12_gateTold_23 : decode cX12_gateTold 23 = .ok (.iload_n 2, 1) := by decide +kernel
theorem dX12_gateTold_24 : decode cX12_gateTold 24 = .ok (.iadd, 1) := by decide +kernel
theorem dX12_gateTold_25 : decode cX12_gateTold 25 = .ok (.iaload, 1) := by decide +kernel
theorem dX12_gateTold_26 : decode cX12_gateTold 26 = .ok (.goto 24, 3) := by decide +kernel
theorem dX12_gateTold_29 : decode cX12_gateTold 29 = .ok (.iload_n 3, 1) := by decide +kernel
theorem dX12_gateTold_30 : decode cX12_gateTold 30 = .ok (.iconst 1, 1) := by decide +kernel
theorem dX12_gateTold_31 : decode cX12_gateTold 31 = .ok (.if_icmp .ne 17, 3) := by decide +kernel
theorem dX12_gateTold_34 : decode cX12_gateTold 34 = .ok (.aload_n 0, 1) := by decide +kernel
theorem dX12_gateTold_35 : decode cX12_gateTold 35 = .ok (.getfield 13, 3) := by decide +kernel
theorem dX12_gateTold_38 : decode cX12_gateTold 38 = .ok (.bipush 24, 2) := by decide +kernel
theorem dX12_gateTold_40 : decode cX12_gateTold 40 = .ok (.iload_n 1, 1) := by decide +kernel
theorem dX12_gateTold_41 : decode cX12_gateTold 41 = .ok (.imul, 1) := by decide +kernel
theorem dX12_gateTold_42 : decode cX12_gateTold 42 = .ok (.iload_n 2, 1) := by decide +kernel
theorem dX12_gateTold_43 : decode cX12_gateTold 43 = .ok (.iadd, 1) := by decide +kernel
theorem dX12_gateTold_44 : decode cX12_gateTold 44 = .ok (.iaload, 1) := by decide +kernel
theorem dX12_gateTold_45 : decode cX12_gateTold 45 = .ok (.goto 5, 3) := by decide +kernel
theorem dX12_gateTold_48 : decode cX12_gateTold 48 = .ok (.bipush (-7), 2) := by decide +kernel
theorem dX12_gateTold_50 : decode cX12_gateTold 50 = .ok (.ireturn, 1) := by decide +kernel
def fX12_gateTold (s0 : ZS) (a0 : Int) (a1 : Int) (a2 : Int) (a3 : Int) : Option (Int × ZS) := zb (fX12_isGate s0 a1 a2) (fun v1 s2 => if v1 = 0 then (some ((-5), s2)) else (if a3 = 0 then ((zg s2 12 a0 0).bind (fun v9 => (zal s2 100 v9 (wrap ((wrap (24 * a1)) + a2))).bind (fun v10 => some (v10, s2)))) else (if a3 = 1 then ((zg s2 12 a0 1).bind (fun v7 => (zal s2 100 v7 (wrap ((wrap (24 * a1)) + a2))).bind (fun v8 => some (v8, s2)))) else (some ((-7), s2)))))
set_option maxHeartbeats 4000000 in
set_option maxRecDepth 100000 in
theorem mX12_gateTold (E : ZE) (hE : zOkE E) (l : Launch) (s0 : ZS) (a0 : Int) (a1 : Int) (a2 : Int) (a3 : Int) : Ct E l yX12_gateTold cX12_gateTold 4 (some .int) 6 [(2, a0), (0, a1), (0, a2), (0, a3)] 1 s0 (fX12_gateTold s0 a0 a1 a2 a3) := by
  refine Ct.of (by decide) hE (Nat.le_of_ble_eq_true rfl) ?_
  intro X G hX hR hN hXE hXl hxn hk _
  subst hXE
  subst hXl
  have hX : G → ZOk X cX12_gateTold RX12 6 := hX
  clear hN
  show Zj X G 0 [(0, (2, a0)), (1, (0, a1)), (2, (0, a2)), (3, (0, a3))] [] s0 _
  unfold fX12_gateTold
  refine z_iload_n (pc := 0) hX 1 dX12_gateTold_0 rfl rfl ?_
  refine z_iload_n (pc := 1) hX 2 dX12_gateTold_1 rfl rfl ?_
  refine z_callS (n := 2) (st := []) (pc := 2) hX (mX12_isGate _ hE _ _ _ _) ⟨wd1170, wd67, wd1172, ⟨by decide, by decide, by decide⟩, by decide⟩ wd1171 rfl rfl (by decide) (Nat.le_of_ble_eq_true rfl) dX12_gateTold_2 (fun v1 s2 r3 => ?_)
  show Zj X G 5 [(0, (2, a0)), (1, (0, a1)), (2, (0, a2)), (3, (0, a3))] [(0, v1)] _ _
  refine z_if_ne (pc := 5) hX 11 dX12_gateTold_5 (by decide) (fun h4 => ?_) (fun h4 => ?_)
  · refine z_iload_n (pc := 11) hX 3 dX12_gateTold_11 rfl rfl ?_
    refine z_if_ne (pc := 12) hX 29 dX12_gateTold_12 (by decide) (fun h5 => ?_) (fun h5 => ?_)
    · refine z_iload_n (pc := 29) hX 3 dX12_gateTold_29 rfl rfl ?_
      refine z_iconst (pc := 30) hX dX12_gateTold_30 ?_
      refine z_icmp_ne (pc := 31) hX 48 dX12_gateTold_31 (by decide) (fun h6 => ?_) (fun h6 => ?_)
      · refine z_bipush (pc := 48) hX dX12_gateTold_48 ?_
        exact z_iret (pc := 50) hX hR hk dX12_gateTold_50
      · refine z_aload_n (pc := 34) hX 0 dX12_gateTold_34 rfl rfl ?_
        refine z_get (pc := 35) hX zc12 1 (by decide) wd1018 rfl rfl dX12_gateTold_35 (fun v7 => ?_)
        refine z_bipush (pc := 38) hX dX12_gateTold_38 ?_
        refine z_iload_n (pc := 40) hX 1 dX12_gateTold_40 rfl rfl ?_
        refine z_imul (pc := 41) hX dX12_gateTold_41 ?_
        refine z_iload_n (pc := 42) hX 2 dX12_gateTold_42 rfl rfl ?_
        refine z_iadd (pc := 43) hX dX12_gateTold_43 ?_
        refine z_iald (pc := 44) hX dX12_gateTold_44 (fun v8 => ?_)
        refine z_goto (pc := 45) hX 50 dX12_gateTold_45 (by decide) ?_
        exact z_iret (pc := 50) hX hR hk dX12_gateTold_50
    · refine z_aload_n (pc := 15) hX 0 dX12_gateTold_15 rfl rfl ?_
      refine z_get (pc := 16) hX zc12 0 (by decide) wd1017 rfl rfl dX12_gateTold_16 (fun v9 => ?_)
      refine z_bipush (pc := 19) hX dX12_gateTold_19 ?_
      refine z_iload_n (pc := 21) hX 1 dX12_gateTold_21 rfl rfl ?_
      refine z_imul (pc := 22) hX dX12_gateTold_22 ?_
      refine z_iload_n (pc := 23) hX 2 dX12_gateTold_23 rfl rfl ?_
      refine z_iadd (pc := 24) hX dX12_gateTold_24 ?_
      refine z_iald (pc := 25) hX dX12_gateTold_25 (fun v10 => ?_)
      refine z_goto (pc := 26) hX 50 dX12_gateTold_26 (by decide) ?_
      exact z_iret (pc := 50) hX hR hk dX12_gateTold_50
  · refine z_bipush (pc := 8) hX dX12_gateTold_8 ?_
    exact z_iret (pc := 10) hX hR hk dX12_gateTold_10

theorem dX11_sortTold_0 : decode cX11_sortTold 0 = .ok (.aload_n 0, 1) := by decide +kernel
theorem dX11_sortTold_1 : decode cX11_sortTold 1 = .ok (.iload_n 1, 1) := by decide +kernel
theorem dX11_sortTold_2 : decode cX11_sortTold 2 = .ok (.invokevirtual 125, 3) := by decide +kernel
theorem dX11_sortTold_5 : decode cX11_sortTold 5 = .ok (.ifCond .ne 6, 3) := by decide +kernel
theorem dX11_sortTold_8 : decode cX11_sortTold 8 = .ok (.bipush (-5), 2) := by decide +kernel
theorem dX11_sortTold_10 : decode cX11_sortTold 10 = .ok (.ireturn, 1) := by decide +kernel
theorem dX11_sortTold_11 : decode cX11_sortTold 11 = .ok (.iload_n 2, 1) := by decide +kernel
theorem dX11_sortTold_12 : decode cX11_sortTold 12 = .ok (.tableswitch 76 0 3 #[32, 42, 52, 64], 32) := by decide +kernel
theorem dX11_sortTold_44 : decode cX11_sortTold 44 = .ok (.aload_n 0, 1) := by decide +kernel
theorem dX11_sortTold_45 : decode cX11_sortTold 45 = .ok (.getfield 20, 3) := by decide +kernel
theorem dX11_sortTold_48 : decode cX11_sortTold 48 = .ok (.getfield 116, 3) := by decide +kernel
theorem dX11_sortTold_51 : decode cX11_sortTold 51 = .ok (.iload_n 1, 1) := by decide +kernel
theorem dX11_sortTold_52 : decode cX11_sortTold 52 = .ok (.iaload, 1) := by decide +kernel
theorem dX11_sortTold_53 : decode cX11_sortTold 53 = .ok (.ireturn, 1) := by decide +kernel
theorem dX11_sortTold_54 : decode cX11_sortTold 54 = .ok (.aload_n 0, 1) := by decide +kernel
theorem dX11_sortTold_55 : decode cX11_sortTold 55 = .ok (.getfield 20, 3) := by decide +kernel
theorem dX11_sortTold_58 : decode cX11_sortTold 58 = .ok (.getfield 119, 3) := by decide +kernel
theorem dX11_sortTold_61 : decode cX11_sortTold 61 = .ok (.iload_n 1, 1) := by decide +kernel
theorem dX11_sortTold_62 : decode cX11_sortTold 62 = .ok (.iaload, 1) := by decide +kernel
theorem dX11_sortTold_63 : decode cX11_sortTold 63 = .ok (.ireturn, 1) := by decide +kernel
theorem dX11_sortTold_64 : decode cX11_sortTold 64 = .ok (.aload_n 0, 1) := by decide +kernel
theorem dX11_sortTold_65 : decode cX11_sortTold 65 = .ok (.getfield 20, 3) := by decide +kernel
theorem dX11_sortTold_68 : decode cX11_sortTold 68 = .ok (.getfield 122, 3) := by decide +kernel
theorem dX11_sortTold_71 : decode cX11_sortTold 71 = .ok (.iconst 0, 1) := by decide +kernel
theorem dX11_sortTold_72 : decode cX11_sortTold 72 = .ok (.aaload, 1) := by decide +kernel
theorem dX11_sortTold_73 : decode cX11_sortTold 73 = .ok (.iload_n 1, 1) := by decide +kernel
theorem dX11_sortTold_74 : decode cX11_sortTold 74 = .ok (.iaload, 1) := by decide +kernel
theorem dX11_sortTold_75 : decode cX11_sortTold 75 = .ok (.ireturn, 1) := by decide +kernel
theorem dX11_sortTold_76 : decode cX11_sortTold 76 = .ok (.aload_n 0, 1) := by decide +kernel
theorem dX11_sortTold_77 : decode cX11_sortTold 77 = .ok (.getfield 20, 3) := by decide +kernel
theorem dX11_sortTold_80 : decode cX11_sortTold 80 = .ok (.getfield 122, 3) := by decide +kernel
theorem dX11_sortTold_83 : decode cX11_sortTold 83 = .ok (.iconst 1, 1) := by decide +kernel
theorem dX11_sortTold_84 : decode cX11_sortTold 84 = .ok (.aaload, 1) := by decide +kernel
theorem dX11_sortTold_85 : decode cX11_sortTold 85 = .ok (.iload_n 1, 1) := by decide +kernel
theorem dX11_sortTold_86 : decode cX11_sortTold 86 = .ok (.iaload, 1) := by decide +kernel
theorem dX11_sortTold_87 : decode cX11_sortTold 87 = .ok (.ireturn, 1) := by decide +kernel
theorem dX11_sortTold_88 : decode cX11_sortTold 88 = .ok (.bipush (-7), 2) := by decide +kernel
theorem dX11_sortTold_90 : decode cX11_sortTold 90 = .ok (.ireturn, 1) := by decide +kernel
def fX11_sortTold (s0 : ZS) (a0 : Int) (a1 : Int) (a2 : Int) : Option (Int × ZS) := zb (zv s0 11 a0 (fX11_isSort s0 a0 a1)) (fun v1 s2 => if v1 = 0 then (some ((-5), s2)) else (if a2 = 0 then ((zg s2 11 a0 1).bind (fun v6 => (zg s2 5 v6 3).bind (fun v7 => (zal s2 100 v7 a1).bind (fun v8 => some (v8, s2))))) else (if a2 = 1 then ((zg s2 11 a0 1).bind (fun v10 => (zg s2 5 v10 4).bind (fun v11 => (zal s2 100 v11 a1).bind (fun v12 => some (v12, s2))))) else (if a2 = 2 then ((zg s2 11 a0 1).bind (fun v14 => (zg s2 5 v14 2).bind (fun v15 => (zal s2 102 v15 0).bind (fun v16 => (zal s2 100 v16 a1).bind (fun v17 => some (v17, s2)))))) else (if a2 = 3 then ((zg s2 11 a0 1).bind (fun v19 => (zg s2 5 v19 2).bind (fun v20 => (zal s2 102 v20 1).bind (fun v21 => (zal s2 100 v21 a1).bind (fun v22 => some (v22, s2)))))) else (some ((-7), s2)))))))
set_option maxHeartbeats 4000000 in
set_option maxRecDepth 100000 in
theorem mX11_sortTold (E : ZE) (hE : zOkE E) (l : Launch) (s0 : ZS) (a0 : Int) (a1 : Int) (a2 : Int) : Ct E l yX11_sortTold cX11_sortTold 3 (some .int) 4 [(2, a0), (0, a1), (0, a2)] 1 s0 (fX11_sortTold s0 a0 a1 a2) := by
  refine Ct.of (by decide) hE (Nat.le_of_ble_eq_true rfl) ?_
  intro X G hX hR hN hXE hXl hxn hk _
  subst hXE
  subst hXl
  have hX : G → ZOk X cX11_sortTold RX11 4 := hX
  clear hN
  show Zj X G 0 [(0, (2, a0)), (1, (0, a1)), (2, (0, a2))] [] s0 _
  unfold fX11_sortTold
  refine z_aload_n (pc := 0) hX 0 dX11_sortTold_0 rfl rfl ?_
  refine z_iload_n (pc := 1) hX 1 dX11_sortTold_1 rfl rfl ?_
  refine z_callV (n := 1) (st := []) (pc := 2) hX zc11 rfl (fun _ => (mX11_isSort _ hE _ _ _ _)) ⟨wd347, wd61, wd350, ⟨by decide, by decide, by decide⟩, by decide⟩ rfl wd349 wd0 rfl rfl (by decide) (Nat.le_of_ble_eq_true rfl) dX11_sortTold_2 (fun v1 s2 r3 => ?_)
  show Zj X G 5 [(0, (2, a0)), (1, (0, a1)), (2, (0, a2))] [(0, v1)] _ _
  refine z_if_ne (pc := 5) hX 11 dX11_sortTold_5 (by decide) (fun h4 => ?_) (fun h4 => ?_)
  · refine z_iload_n (pc := 11) hX 2 dX11_sortTold_11 rfl rfl ?_
    by_cases h5 : a2 = 0
    · refine z_eq (if_pos h5) ?_
      refine z_tswIn (pc := 12) hX 44 dX11_sortTold_12 h5 (by decide) (by decide) rfl (by decide) ?_
      refine z_aload_n (pc := 44) hX 0 dX11_sortTold_44 rfl rfl ?_
      refine z_get (pc := 45) hX zc11 1 (by decide) wd271 rfl rfl dX11_sortTold_45 (fun v6 => ?_)
      refine z_get (pc := 48) hX zc5 3 (by decide) wd115 rfl rfl dX11_sortTold_48 (fun v7 => ?_)
      refine z_iload_n (pc := 51) hX 1 dX11_sortTold_51 rfl rfl ?_
      refine z_iald (pc := 52) hX dX11_sortTold_52 (fun v8 => ?_)
      exact z_iret (pc := 53) hX hR hk dX11_sortTold_53
    · refine z_eq (if_neg h5) ?_
      by_cases h9 : a2 = 1
      · refine z_eq (if_pos h9) ?_
        refine z_tswIn (pc := 12) hX 54 dX11_sortTold_12 h9 (by decide) (by decide) rfl (by decide) ?_
        refine z_aload_n (pc := 54) hX 0 dX11_sortTold_54 rfl rfl ?_
        refine z_get (pc := 55) hX zc11 1 (by decide) wd271 rfl rfl dX11_sortTold_55 (fun v10 => ?_)
        refine z_get (pc := 58) hX zc5 4 (by decide) wd118 rfl rfl dX11_sortTold_58 (fun v11 => ?_)
        refine z_iload_n (pc := 61) hX 1 dX11_sortTold_61 rfl rfl ?_
        refine z_iald (pc := 62) hX dX11_sortTold_62 (fun v12 => ?_)
        exact z_iret (pc := 63) hX hR hk dX11_sortTold_63
      · refine z_eq (if_neg h9) ?_
        by_cases h13 : a2 = 2
        · refine z_eq (if_pos h13) ?_
          refine z_tswIn (pc := 12) hX 64 dX11_sortTold_12 h13 (by decide) (by decide) rfl (by decide) ?_
          refine z_aload_n (pc := 64) hX 0 dX11_sortTold_64 rfl rfl ?_
          refine z_get (pc := 65) hX zc11 1 (by decide) wd271 rfl rfl dX11_sortTold_65 (fun v14 => ?_)
          refine z_get (pc := 68) hX zc5 2 (by decide) wd112 rfl rfl dX11_sortTold_68 (fun v15 => ?_)
          refine z_iconst (pc := 71) hX dX11_sortTold_71 ?_
          refine z_aald (pc := 72) hX 2 102 (by decide) rfl rfl dX11_sortTold_72 (fun v16 => ?_)
          refine z_iload_n (pc := 73) hX 1 dX11_sortTold_73 rfl rfl ?_
          refine z_iald (pc := 74) hX dX11_sortTold_74 (fun v17 => ?_)
          exact z_iret (pc := 75) hX hR hk dX11_sortTold_75
        · refine z_eq (if_neg h13) ?_
          by_cases h18 : a2 = 3
          · refine z_eq (if_pos h18) ?_
            refine z_tswIn (pc := 12) hX 76 dX11_sortTold_12 h18 (by decide) (by decide) rfl (by decide) ?_
            refine z_aload_n (pc := 76) hX 0 dX11_sortTold_76 rfl rfl ?_
            refine z_get (pc := 77) hX zc11 1 (by decide) wd271 rfl rfl dX11_sortTold_77 (fun v19 => ?_)
            refine z_get (pc := 80) hX zc5 2 (by decide) wd112 rfl rfl dX11_sortTold_80 (fun v20 => ?_)
            refine z_iconst (pc := 83) hX dX11_sortTold_83 ?_
            refine z_aald (pc := 84) hX 2 102 (by decide) rfl rfl dX11_sortTold_84 (fun v21 => ?_)
            refine z_iload_n (pc := 85) hX 1 dX11_sortTold_85 rfl rfl ?_
            refine z_iald (pc := 86) hX dX11_sortTold_86 (fun v22 => ?_)
            exact z_iret (pc := 87) hX hR hk dX11_sortTold_87
          · refine z_eq (if_neg h18) ?_
            refine z_tswOut (pc := 12) hX 88 dX11_sortTold_12 (by omega) (by decide) ?_
            refine z_bipush (pc := 88) hX dX11_sortTold_88 ?_
            exact z_iret (pc := 90) hX hR hk dX11_sortTold_90
  · refine z_bipush (pc := 8) hX dX11_sortTold_8 ?_
    exact z_iret (pc := 10) hX hR hk dX11_sortTold_10

theorem dX12_sortTold_0 : decode cX12_sortTold 0 = .ok (.aload_n 0, 1) := by decide +kernel
theorem dX12_sortTold_1 : decode cX12_sortTold 1 = .ok (.iload_n 1, 1) := by decide +kernel
theorem dX12_sortTold_2 : decode cX12_sortTold 2 = .ok (.invokevirtual 138, 3) := by decide +kernel
theorem dX12_sortTold_5 : decode cX12_sortTold 5 = .ok (.ifCond .ne 6, 3) := by decide +kernel
theorem dX12_sortTold_8 : decode cX12_sortTold 8 = .ok (.bipush (-5), 2) := by decide +kernel
theorem dX12_sortTold_10 : decode cX12_sortTold 10 = .ok (.ireturn, 1) := by decide +kernel
theorem dX12_sortTold_11 : decode cX12_sortTold 11 = .ok (.iload_n 2, 1) := by decide +kernel
theorem dX12_sortTold_12 : decode cX12_sortTold 12 = .ok (.ifCond .ne 12, 3) := by decide +kernel
theorem dX12_sortTold_15 : decode cX12_sortTold 15 = .ok (.aload_n 0, 1) := by decide +kernel
theorem dX12_sortTold_16 : decode cX12_sortTold 16 = .ok (.getfield 16, 3) := by decide +kernel
theorem dX12_sortTold_19 : decode cX12_sortTold 19 = .ok (.iload_n 1, 1) := by decide +kernel
theorem dX12_sortTold_20 : decode cX12_sortTold 20 = .ok (.iaload, 1) := by decide +kernel
theorem dX12_sortTold_21 : decode cX12_sortTold 21 = .ok (.goto 50, 3) := by decide +kernel
theorem dX12_sortTold_24 : decode cX12_sortTold 24 = .ok (.iload_n 2, 1) := by decide +kernel
theorem dX12_sortTold_25 : decode cX12_sortTold 25 = .ok (.iconst 1, 1) := by decide +kernel
theorem dX12_sortTold_26 : decode cX12_sortTold 26 = .ok (.if_icmp .ne 12, 3) := by decide +kernel
theorem dX12_sortTold_29 : decode cX12_sortTold 29 = .ok (.aload_n 0, 1) := by decide +kernel
theorem dX12_sortTold_30 : decode cX12_sortTold 30 = .ok (.getfield 19, 3) := by decide +kernel
theorem dX12_sortTold_33 : decode cX12_sortTold 33 = .ok (.iload_n 1, 1) := by decide +kernel
theorem dX12_sortTold_34 : decode cX12_sortTold 34 = .ok (.iaload, 1) := by decide +kernel
theorem dX12_sortTold_35 : decode cX12_sortTold 35 = .ok (.goto 36, 3) := by decide +kernel
theorem dX12_sortTold_38 : decode cX12_sortTold 38 = .ok (.iload_n 2, 1) := by decide +kernel
theorem dX12_sortTold_39 : decode cX12_sortTold 39 = .ok (.iconst 2, 1) := by decide +kernel
theorem dX12_sortTold_40 : decode cX12_sortTold 40 = .ok (.iconst 3, 1) := by decide +kernel
theorem dX12_sortTold_41 : decode cX12_sortTold 41 = .ok (.invokestatic 127, 3) := by decide +kernel
theorem dX12_sortTold_44 : decode cX12_sortTold 44 = .ok (.ifCond .eq 25, 3) := by decide +kernel
theorem dX12_sortTold_47 : decode cX12_sortTold 47 = .ok (.aload_n 0, 1) := by decide +kernel
theorem dX12_sortTold_48 : decode cX12_sortTold 48 = .ok (.getfield 22, 3) := by decide +kernel
theorem dX12_sortTold_51 : decode cX12_sortTold 51 = .ok (.iconst 2, 1) := by decide +kernel
theorem dX12_sortTold_52 : decode cX12_sortTold 52 = .ok (.iload_n 1, 1) := by decide +kernel
theorem dX12_sortTold_53 : decode cX12_sortTold 53 = .ok (.imul, 1) := by decide +kernel
theorem dX12_sortTold_54 : decode cX12_sortTold 54 = .ok (.iload_n 2, 1) := by decide +kernel
theorem dX12_sortTold_55 : decode cX12_sortTold 55 = .ok (.iconst 3, 1) := by decide +kernel
theorem dX12_sortTold_56 : decode cX12_sortTold 56 = .ok (.if_icmp .ne 7, 3) := by decide +kernel
theorem dX12_sortTold_59 : decode cX12_sortTold 59 = .ok (.iconst 1, 1) := by decide +kernel
theorem dX12_sortTold_60 : decode cX12_sortTold 60 = .ok (.goto 4, 3) := by decide +kernel
theorem dX12_sortTold_63 : decode cX12_sortTold 63 = .ok (.iconst 0, 1) := by decide +kernel
theorem dX12_sortTold_64 : decode cX12_sortTold 64 = .ok (.iadd, 1) := by decide +kernel
theorem dX12_sortTold_65 : decode cX12_sortTold 65 = .ok (.iaload, 1) := by decide +kernel
theorem dX12_sortTold_66 : decode cX12_sortTold 66 = .ok (.goto 5, 3) := by decide +kernel
theorem dX12_sortTold_69 : decode cX12_sortTold 69 = .ok (.bipush (-7), 2) := by decide +kernel
theorem dX12_sortTold_71 : decode cX12_sortTold 71 = .ok (.ireturn, 1) := by decide +kernel
def fX12_sortTold (s0 : ZS) (a0 : Int) (a1 : Int) (a2 : Int) : Option (Int × ZS) := zb (zv s0 12 a0 (fX12_isSort s0 a0 a1)) (fun v1 s2 => if v1 = 0 then (some ((-5), s2)) else (if a2 = 0 then ((zg s2 12 a0 3).bind (fun v18 => (zal s2 100 v18 a1).bind (fun v19 => some (v19, s2)))) else (if a2 = 1 then ((zg s2 12 a0 4).bind (fun v16 => (zal s2 100 v16 a1).bind (fun v17 => some (v17, s2)))) else (zb (fX12_in s2 a2 2 3) (fun v7 s8 => if v7 = 0 then (some ((-7), s8)) else ((zg s8 12 a0 5).bind (fun v11 => zjn (fun (K64 : ZS → Int → Option (Int × ZS)) => if a2 = 3 then (K64 s8 1) else (K64 s8 0)) (fun (s13 : ZS) (w14 : Int) => (zal s13 100 v11 (wrap ((wrap (2 * a1)) + w14))).bind (fun v15 => some (v15, s13))))))))))
set_option maxHeartbeats 4000000 in
set_option maxRecDepth 100000 in
theorem mX12_sortTold (E : ZE) (hE : zOkE E) (l : Launch) (s0 : ZS) (a0 : Int) (a1 : Int) (a2 : Int) : Ct E l yX12_sortTold cX12_sortTold 3 (some .int) 6 [(2, a0), (0, a1), (0, a2)] 1 s0 (fX12_sortTold s0 a0 a1 a2) := by
  refine Ct.of (by decide) hE (Nat.le_of_ble_eq_true rfl) ?_
  intro X G hX hR hN hXE hXl hxn hk _
  subst hXE
  subst hXl
  have hX : G → ZOk X cX12_sortTold RX12 6 := hX
  clear hN
  show Zj X G 0 [(0, (2, a0)), (1, (0, a1)), (2, (0, a2))] [] s0 _
  unfold fX12_sortTold
  refine z_aload_n (pc := 0) hX 0 dX12_sortTold_0 rfl rfl ?_
  refine z_iload_n (pc := 1) hX 1 dX12_sortTold_1 rfl rfl ?_
  refine z_callV (n := 1) (st := []) (pc := 2) hX zc12 rfl (fun _ => (mX12_isSort _ hE _ _ _ _)) ⟨wd1188, wd67, wd1191, ⟨by decide, by decide, by decide⟩, by decide⟩ rfl wd1190 wd32 rfl rfl (by decide) (Nat.le_of_ble_eq_true rfl) dX12_sortTold_2 (fun v1 s2 r3 => ?_)
  show Zj X G 5 [(0, (2, a0)), (1, (0, a1)), (2, (0, a2))] [(0, v1)] _ _
  refine z_if_ne (pc := 5) hX 11 dX12_sortTold_5 (by decide) (fun h4 => ?_) (fun h4 => ?_)
  · refine z_iload_n (pc := 11) hX 2 dX12_sortTold_11 rfl rfl ?_
    refine z_if_ne (pc := 12) hX 24 dX12_sortTold_12 (by decide) (fun h5 => ?_) (fun h5 => ?_)
    · refine z_iload_n (pc := 24) hX 2 dX12_sortTold_24 rfl rfl ?_
      refine z_iconst (pc := 25) hX dX12_sortTold_25 ?_
      refine z_icmp_ne (pc := 26) hX 38 dX12_sortTold_26 (by decide) (fun h6 => ?_) (fun h6 => ?_)
      · refine z_iload_n (pc := 38) hX 2 dX12_sortTold_38 rfl rfl ?_
        refine z_iconst (pc := 39) hX dX12_sortTold_39 ?_
        refine z_iconst (pc := 40) hX dX12_sortTold_40 ?_
        refine z_callS (n := 3) (st := []) (pc := 41) hX (mX12_in _ hE _ _ _ _ _) ⟨wd1173, wd67, wd1175, ⟨by decide, by decide, by decide⟩, by decide⟩ wd1174 rfl rfl (by decide) (Nat.le_of_ble_eq_true rfl) dX12_sortTold_41 (fun v7 s8 r9 => ?_)
        show Zj X G 44 [(0, (2, a0)), (1, (0, a1)), (2, (0, a2))] [(0, v7)] _ _
        refine z_if_eq (pc := 44) hX 69 dX12_sortTold_44 (by decide) (fun h10 => ?_) (fun h10 => ?_)
        · refine z_bipush (pc := 69) hX dX12_sortTold_69 ?_
          exact z_iret (pc := 71) hX hR hk dX12_sortTold_71
        · refine z_aload_n (pc := 47) hX 0 dX12_sortTold_47 rfl rfl ?_
          refine z_get (pc := 48) hX zc12 5 (by decide) wd1022 rfl rfl dX12_sortTold_48 (fun v11 => ?_)
          refine z_iconst (pc := 51) hX dX12_sortTold_51 ?_
          refine z_iload_n (pc := 52) hX 1 dX12_sortTold_52 rfl rfl ?_
          refine z_imul (pc := 53) hX dX12_sortTold_53 ?_
          refine z_iload_n (pc := 54) hX 2 dX12_sortTold_54 rfl rfl ?_
          refine z_iconst (pc := 55) hX dX12_sortTold_55 ?_
          refine z_jn (fun K64 eK64 => ?_)
          have hK64 : ∀ (s13 : ZS) (w14 : Int), Zj X G 64 [] [(0, w14), (0, (wrap (2 * a1))), (2, v11)] s13 (K64 s13 w14) := by
            intro s13 w14
            rw [eK64]
            refine z_iadd (pc := 64) hX dX12_sortTold_64 ?_
            refine z_iald (pc := 65) hX dX12_sortTold_65 (fun v15 => ?_)
            refine z_goto (pc := 66) hX 71 dX12_sortTold_66 (by decide) ?_
            exact z_iret (pc := 71) hX hR hk dX12_sortTold_71
          clear eK64
          refine z_icmp_ne (pc := 56) hX 63 dX12_sortTold_56 (by decide) (fun h12 => ?_) (fun h12 => ?_)
          · refine z_iconst (pc := 63) hX dX12_sortTold_63 ?_
            refine z_pick (lv' := []) [] rfl ?_
            exact hK64 _ _
          · refine z_iconst (pc := 59) hX dX12_sortTold_59 ?_
            refine z_goto (pc := 60) hX 64 dX12_sortTold_60 (by decide) ?_
            refine z_pick (lv' := []) [] rfl ?_
            exact hK64 _ _
      · refine z_aload_n (pc := 29) hX 0 dX12_sortTold_29 rfl rfl ?_
        refine z_get (pc := 30) hX zc12 4 (by decide) wd1021 rfl rfl dX12_sortTold_30 (fun v16 => ?_)
        refine z_iload_n (pc := 33) hX 1 dX12_sortTold_33 rfl rfl ?_
        refine z_iald (pc := 34) hX dX12_sortTold_34 (fun v17 => ?_)
        refine z_goto (pc := 35) hX 71 dX12_sortTold_35 (by decide) ?_
        exact z_iret (pc := 71) hX hR hk dX12_sortTold_71
    · refine z_aload_n (pc := 15) hX 0 dX12_sortTold_15 rfl rfl ?_
      refine z_get (pc := 16) hX zc12 3 (by decide) wd1020 rfl rfl dX12_sortTold_16 (fun v18 => ?_)
      refine z_iload_n (pc := 19) hX 1 dX12_sortTold_19 rfl rfl ?_
      refine z_iald (pc := 20) hX dX12_sortTold_20 (fun v19 => ?_)
      refine z_goto (pc := 21) hX 71 dX12_sortTold_21 (by decide) ?_
      exact z_iret (pc := 71) hX hR hk dX12_sortTold_71
  · refine z_bipush (pc := 8) hX dX12_sortTold_8 ?_
    exact z_iret (pc := 10) hX hR hk dX12_sortTold_10

theorem dX4_append_0 : decode cX4_append 0 = .ok (.iload_n 3, 1) := by decide +kernel
theorem dX4_append_1 : decode cX4_append 1 = .ok (.sipush 160, 3) := by decide +kernel
theorem dX4_append_4 : decode cX4_append 4 = .ok (.aload_n 0, 1) := by decide +kernel
theorem dX4_append_5 : decode cX4_append 5 = .ok (.getfield 17, 3) := by decide +kernel
theorem dX4_append_8 : decode cX4_append 8 = .ok (.isub, 1) := by decide +kernel
theorem dX4_append_9 : decode cX4_append 9 = .ok (.if_icmp .le 5, 3) := by decide +kernel
theorem dX4_append_12 : decode cX4_append 12 = .ok (.iconst 0, 1) := by decide +kernel
theorem dX4_append_13 : decode cX4_append 13 = .ok (.ireturn, 1) := by decide +kernel
theorem dX4_append_14 : decode cX4_append 14 = .ok (.iload_n 3, 1) := by decide +kernel
theorem dX4_append_15 : decode cX4_append 15 = .ok (.iconst 1, 1) := by decide +kernel
theorem dX4_append_16 : decode cX4_append 16 = .ok (.isub, 1) := by decide +kernel
theorem dX4_append_17 : decode cX4_append 17 = .ok (.istore 4, 2) := by decide +kernel
theorem dX4_append_19 : decode cX4_append 19 = .ok (.iload 4, 2) := by decide +kernel
theorem dX4_append_21 : decode cX4_append 21 = .ok (.ifCond .lt 40, 3) := by decide +kernel
theorem dX4_append_24 : decode cX4_append 24 = .ok (.aload_n 0, 1) := by decide +kernel
theorem dX4_append_25 : decode cX4_append 25 = .ok (.getfield 13, 3) := by decide +kernel
theorem dX4_append_28 : decode cX4_append 28 = .ok (.aload_n 0, 1) := by decide +kernel
theorem dX4_append_29 : decode cX4_append 29 = .ok (.getfield 17, 3) := by decide +kernel
theorem dX4_append_32 : decode cX4_append 32 = .ok (.lload_n 1, 1) := by decide +kernel
theorem dX4_append_33 : decode cX4_append 33 = .ok (.bipush 8, 2) := by decide +kernel
theorem dX4_append_35 : decode cX4_append 35 = .ok (.iload 4, 2) := by decide +kernel
theorem dX4_append_37 : decode cX4_append 37 = .ok (.imul, 1) := by decide +kernel
theorem dX4_append_38 : decode cX4_append 38 = .ok (.lshr, 1) := by decide +kernel
theorem dX4_append_39 : decode cX4_append 39 = .ok (.l2i, 1) := by decide +kernel
theorem dX4_append_40 : decode cX4_append 40 = .ok (.sipush 255, 3) := by decide +kernel
theorem dX4_append_43 : decode cX4_append 43 = .ok (.iand, 1) := by decide +kernel
theorem dX4_append_44 : decode cX4_append 44 = .ok (.iastore, 1) := by decide +kernel
theorem dX4_append_45 : decode cX4_append 45 = .ok (.aload_n 0, 1) := by decide +kernel
theorem dX4_append_46 : decode cX4_append 46 = .ok (.dup, 1) := by decide +kernel
theorem dX4_append_47 : decode cX4_append 47 = .ok (.getfield 17, 3) := by decide +kernel
theorem dX4_append_50 : decode cX4_append 50 = .ok (.iconst 1, 1) := by decide +kernel
theorem dX4_append_51 : decode cX4_append 51 = .ok (.iadd, 1) := by decide +kernel
theorem dX4_append_52 : decode cX4_append 52 = .ok (.putfield 17, 3) := by decide +kernel
theorem dX4_append_55 : decode cX4_append 55 = .ok (.iinc 4 (-1), 3) := by decide +kernel
theorem dX4_append_58 : decode cX4_append 58 = .ok (.goto (-39), 3) := by decide +kernel
theorem dX4_append_61 : decode cX4_append 61 = .ok (.iconst 1, 1) := by decide +kernel
theorem dX4_append_62 : decode cX4_append 62 = .ok (.ireturn, 1) := by decide +kernel
def lX4_append_19 (u4 u5 : Int)  : Nat → ZS → Int → Option (Int × ZS)
  | 0, _, _ => none
  | n1 + 1, s3, x6 => if x6 < 0 then (some (1, s3)) else ((zg s3 4 u4 0).bind (fun v8 => (zg s3 4 u4 1).bind (fun v9 => (zas s3 100 v8 v9 (iAnd (wrap (lShr u5 (wrap (8 * x6)))) 255)).bind (fun s10 => (zg s10 4 u4 1).bind (fun v11 => (zp s10 4 u4 1 (wrap (v11 + 1))).bind (fun s12 => lX4_append_19 u4 u5 n1 s12 (wrap (x6 + (-1)))))))))

def fX4_append (s0 : ZS) (a0 : Int) (a1 : Int) (a3 : Int) : Option (Int × ZS) := (zg s0 4 a0 1).bind (fun v1 => if a3 ≤ (wrap (160 - v1)) then (lX4_append_19 a0 a1 1000 s0 (wrap (a3 - 1))) else (some (0, s0)))
set_option maxHeartbeats 4000000 in
set_option maxRecDepth 100000 in
theorem mX4_append (E : ZE) (hE : zOkE E) (l : Launch) (s0 : ZS) (a0 : Int) (a1 : Int) (a3 : Int) : Ct E l yX4_append cX4_append 5 (some .boolean) 2 [(2, a0), (1, a1), (0, a3)] 4 s0 (fX4_append s0 a0 a1 a3) := by
  refine Ct.of (by decide) hE (Nat.le_of_ble_eq_true rfl) ?_
  intro X G hX hR hN hXE hXl hxn hk _
  subst hXE
  subst hXl
  have hX : G → ZOk X cX4_append RX4 2 := hX
  clear hN
  show Zj X G 0 [(0, (2, a0)), (1, (1, a1)), (3, (0, a3))] [] s0 _
  unfold fX4_append
  refine z_iload_n (pc := 0) hX 2 dX4_append_0 rfl rfl ?_
  refine z_sipush (pc := 1) hX dX4_append_1 ?_
  refine z_aload_n (pc := 4) hX 0 dX4_append_4 rfl rfl ?_
  refine z_get (pc := 5) hX zc4 1 (by decide) wd199 rfl rfl dX4_append_5 (fun v1 => ?_)
  refine z_isub (pc := 8) hX dX4_append_8 ?_
  refine z_icmp_le (pc := 9) hX 14 dX4_append_9 (by decide) (fun h2 => ?_) (fun h2 => ?_)
  · refine z_iload_n (pc := 14) hX 2 dX4_append_14 rfl rfl ?_
    refine z_iconst (pc := 15) hX dX4_append_15 ?_
    refine z_isub (pc := 16) hX dX4_append_16 ?_
    refine z_istore (lv' := [(4, (0, (wrap (a3 - 1)))), (0, (2, a0)), (1, (1, a1)), (3, (0, a3))]) (pc := 17) hX dX4_append_17 (zlt hxn rfl) rfl ?_
    have hl19 : ∀ (u4 u5 : Int), ∀ (n1 : Nat) (s3 : ZS) (x6 : Int), Zj X G 19 [(0, (2, u4)), (1, (1, u5)), (4, (0, x6))] [] s3 (lX4_append_19 u4 u5 n1 s3 x6) := by
      intro u4 u5 n1
      induction n1 with
      | zero => intro _ _; exact z_none
      | succ n1 ih1 =>
        intro s3 x6
        rw [lX4_append_19]
        refine z_iload (pc := 19) hX 2 dX4_append_19 rfl ?_
        refine z_if_lt (pc := 21) hX 61 dX4_append_21 (by decide) (fun h7 => ?_) (fun h7 => ?_)
        · refine z_iconst (pc := 61) hX dX4_append_61 ?_
          exact z_zret (pc := 62) hX hR hk dX4_append_62 (Or.inr rfl)
        · refine z_aload_n (pc := 24) hX 0 dX4_append_24 rfl rfl ?_
          refine z_get (pc := 25) hX zc4 0 (by decide) wd198 rfl rfl dX4_append_25 (fun v8 => ?_)
          refine z_aload_n (pc := 28) hX 0 dX4_append_28 rfl rfl ?_
          refine z_get (pc := 29) hX zc4 1 (by decide) wd199 rfl rfl dX4_append_29 (fun v9 => ?_)
          refine z_lload_n (pc := 32) hX 1 dX4_append_32 rfl rfl ?_
          refine z_bipush (pc := 33) hX dX4_append_33 ?_
          refine z_iload (pc := 35) hX 2 dX4_append_35 rfl ?_
          refine z_imul (pc := 37) hX dX4_append_37 ?_
          refine z_lshr (pc := 38) hX dX4_append_38 ?_
          refine z_l2iR (pc := 39) hX dX4_append_39 ?_
          refine z_sipush (pc := 40) hX dX4_append_40 ?_
          refine z_iand (pc := 43) hX dX4_append_43 ?_
          refine z_iastA (pc := 44) hX dX4_append_44 (fun s10 => ?_)
          refine z_aload_n (pc := 45) hX 0 dX4_append_45 rfl rfl ?_
          refine z_dup (pc := 46) hX zn2 dX4_append_46 ?_
          refine z_get (pc := 47) hX zc4 1 (by decide) wd199 rfl rfl dX4_append_47 (fun v11 => ?_)
          refine z_iconst (pc := 50) hX dX4_append_50 ?_
          refine z_iadd (pc := 51) hX dX4_append_51 ?_
          refine z_putA (pc := 52) hX zc4 1 (by decide) wd199 (Or.inl rfl) rfl rfl (fun _ => rfl) (fun _ => rfl) dX4_append_52 (fun s12 => ?_)
          refine z_iinc (lv' := [(4, (0, (wrap (x6 + (-1))))), (0, (2, u4)), (1, (1, u5))]) (pc := 55) hX 2 dX4_append_55 rfl (zlt hxn rfl) rfl ?_
          refine z_goto (pc := 58) hX 19 dX4_append_58 (by decide) ?_
          refine z_pick (lv' := [(0, (2, u4)), (1, (1, u5)), (4, (0, (wrap (x6 + (-1)))))]) [1, 2, 0] rfl ?_
          exact ih1 _ _
    refine z_pick (lv' := [(0, (2, a0)), (1, (1, a1)), (4, (0, (wrap (a3 - 1))))]) [1, 2, 0] rfl ?_
    refine hl19 _ _ 1000 _ _
  · refine z_iconst (pc := 12) hX dX4_append_12 ?_
    exact z_zret (pc := 13) hX hR hk dX4_append_13 (Or.inl rfl)

theorem dX11_feed_0 : decode cX11_feed 0 = .ok (.iload_n 3, 1) := by decide +kernel
theorem dX11_feed_1 : decode cX11_feed 1 = .ok (.iconst 1, 1) := by decide +kernel
theorem dX11_feed_2 : decode cX11_feed 2 = .ok (.if_icmp .lt 9, 3) := by decide +kernel
theorem dX11_feed_5 : decode cX11_feed 5 = .ok (.iload_n 3, 1) := by decide +kernel
theorem dX11_feed_6 : decode cX11_feed 6 = .ok (.bipush 8, 2) := by decide +kernel
theorem dX11_feed_8 : decode cX11_feed 8 = .ok (.if_icmp .le 6, 3) := by decide +kernel
theorem dX11_feed_11 : decode cX11_feed 11 = .ok (.bipush (-2), 2) := by decide +kernel
theorem dX11_feed_13 : decode cX11_feed 13 = .ok (.ireturn, 1) := by decide +kernel
theorem dX11_feed_14 : decode cX11_feed 14 = .ok (.aload_n 0, 1) := by decide +kernel
theorem dX11_feed_15 : decode cX11_feed 15 = .ok (.getfield 34, 3) := by decide +kernel
theorem dX11_feed_18 : decode cX11_feed 18 = .ok (.lload_n 1, 1) := by decide +kernel
theorem dX11_feed_19 : decode cX11_feed 19 = .ok (.iload_n 3, 1) := by decide +kernel
theorem dX11_feed_20 : decode cX11_feed 20 = .ok (.invokevirtual 134, 3) := by decide +kernel
theorem dX11_feed_23 : decode cX11_feed 23 = .ok (.ifCond .eq 13, 3) := by decide +kernel
theorem dX11_feed_26 : decode cX11_feed 26 = .ok (.aload_n 0, 1) := by decide +kernel
theorem dX11_feed_27 : decode cX11_feed 27 = .ok (.getfield 34, 3) := by decide +kernel
theorem dX11_feed_30 : decode cX11_feed 30 = .ok (.getfield 138, 3) := by decide +kernel
theorem dX11_feed_33 : decode cX11_feed 33 = .ok (.goto 5, 3) := by decide +kernel
theorem dX11_feed_36 : decode cX11_feed 36 = .ok (.bipush (-4), 2) := by decide +kernel
theorem dX11_feed_38 : decode cX11_feed 38 = .ok (.ireturn, 1) := by decide +kernel
def fX11_feed (s0 : ZS) (a0 : Int) (a1 : Int) (a3 : Int) : Option (Int × ZS) := if a3 < 1 then (some ((-2), s0)) else (if a3 ≤ 8 then ((zg s0 11 a0 4).bind (fun v3 => zb (zv s0 4 v3 (fX4_append s0 v3 a1 a3)) (fun v4 s5 => if v4 = 0 then (some ((-4), s5)) else ((zg s5 11 a0 4).bind (fun v8 => (zg s5 4 v8 1).bind (fun v9 => some (v9, s5))))))) else (some ((-2), s0)))
set_option maxHeartbeats 4000000 in
set_option maxRecDepth 100000 in
theorem mX11_feed (E : ZE) (hE : zOkE E) (l : Launch) (s0 : ZS) (a0 : Int) (a1 : Int) (a3 : Int) : Ct E l yX11_feed cX11_feed 4 (some .int) 4 [(2, a0), (1, a1), (0, a3)] 1 s0 (fX11_feed s0 a0 a1 a3) := by
  refine Ct.of (by decide) hE (Nat.le_of_ble_eq_true rfl) ?_
  intro X G hX hR hN hXE hXl hxn hk _
  subst hXE
  subst hXl
  have hX : G → ZOk X cX11_feed RX11 4 := hX
  clear hN
  show Zj X G 0 [(0, (2, a0)), (1, (1, a1)), (3, (0, a3))] [] s0 _
  unfold fX11_feed
  refine z_iload_n (pc := 0) hX 2 dX11_feed_0 rfl rfl ?_
  refine z_iconst (pc := 1) hX dX11_feed_1 ?_
  refine z_icmp_lt (pc := 2) hX 11 dX11_feed_2 (by decide) (fun h1 => ?_) (fun h1 => ?_)
  · refine z_bipush (pc := 11) hX dX11_feed_11 ?_
    exact z_iret (pc := 13) hX hR hk dX11_feed_13
  · refine z_iload_n (pc := 5) hX 2 dX11_feed_5 rfl rfl ?_
    refine z_bipush (pc := 6) hX dX11_feed_6 ?_
    refine z_icmp_le (pc := 8) hX 14 dX11_feed_8 (by decide) (fun h2 => ?_) (fun h2 => ?_)
    · refine z_aload_n (pc := 14) hX 0 dX11_feed_14 rfl rfl ?_
      refine z_get (pc := 15) hX zc11 4 (by decide) wd274 rfl rfl dX11_feed_15 (fun v3 => ?_)
      refine z_lload_n (pc := 18) hX 1 dX11_feed_18 rfl rfl ?_
      refine z_iload_n (pc := 19) hX 2 dX11_feed_19 rfl rfl ?_
      refine z_callV (n := 2) (st := []) (pc := 20) hX zc4 rfl (fun _ => (mX4_append _ hE _ _ _ _ _)) ⟨wd367, wd64, wd370, ⟨by decide, by decide, by decide⟩, by decide⟩ rfl wd368 wd369 rfl rfl (by decide) (Nat.le_of_ble_eq_true rfl) dX11_feed_20 (fun v4 s5 r6 => ?_)
      show Zj X G 23 [(0, (2, a0)), (1, (1, a1)), (3, (0, a3))] [(0, v4)] _ _
      refine z_if_eq (pc := 23) hX 36 dX11_feed_23 (by decide) (fun h7 => ?_) (fun h7 => ?_)
      · refine z_bipush (pc := 36) hX dX11_feed_36 ?_
        exact z_iret (pc := 38) hX hR hk dX11_feed_38
      · refine z_aload_n (pc := 26) hX 0 dX11_feed_26 rfl rfl ?_
        refine z_get (pc := 27) hX zc11 4 (by decide) wd274 rfl rfl dX11_feed_27 (fun v8 => ?_)
        refine z_get (pc := 30) hX zc4 1 (by decide) wd200 rfl rfl dX11_feed_30 (fun v9 => ?_)
        refine z_goto (pc := 33) hX 38 dX11_feed_33 (by decide) ?_
        exact z_iret (pc := 38) hX hR hk dX11_feed_38
    · refine z_bipush (pc := 11) hX dX11_feed_11 ?_
      exact z_iret (pc := 13) hX hR hk dX11_feed_13

theorem dX12_feed_0 : decode cX12_feed 0 = .ok (.iload_n 3, 1) := by decide +kernel
theorem dX12_feed_1 : decode cX12_feed 1 = .ok (.iconst 1, 1) := by decide +kernel
theorem dX12_feed_2 : decode cX12_feed 2 = .ok (.bipush 8, 2) := by decide +kernel
theorem dX12_feed_4 : decode cX12_feed 4 = .ok (.invokestatic 127, 3) := by decide +kernel
theorem dX12_feed_7 : decode cX12_feed 7 = .ok (.ifCond .ne 6, 3) := by decide +kernel
theorem dX12_feed_10 : decode cX12_feed 10 = .ok (.bipush (-2), 2) := by decide +kernel
theorem dX12_feed_12 : decode cX12_feed 12 = .ok (.ireturn, 1) := by decide +kernel
theorem dX12_feed_13 : decode cX12_feed 13 = .ok (.aload_n 0, 1) := by decide +kernel
theorem dX12_feed_14 : decode cX12_feed 14 = .ok (.getfield 145, 3) := by decide +kernel
theorem dX12_feed_17 : decode cX12_feed 17 = .ok (.iload_n 3, 1) := by decide +kernel
theorem dX12_feed_18 : decode cX12_feed 18 = .ok (.iadd, 1) := by decide +kernel
theorem dX12_feed_19 : decode cX12_feed 19 = .ok (.sipush 160, 3) := by decide +kernel
theorem dX12_feed_22 : decode cX12_feed 22 = .ok (.if_icmp .le 6, 3) := by decide +kernel
theorem dX12_feed_25 : decode cX12_feed 25 = .ok (.bipush (-4), 2) := by decide +kernel
theorem dX12_feed_27 : decode cX12_feed 27 = .ok (.ireturn, 1) := by decide +kernel
theorem dX12_feed_28 : decode cX12_feed 28 = .ok (.iload_n 3, 1) := by decide +kernel
theorem dX12_feed_29 : decode cX12_feed 29 = .ok (.iconst 1, 1) := by decide +kernel
theorem dX12_feed_30 : decode cX12_feed 30 = .ok (.isub, 1) := by decide +kernel
theorem dX12_feed_31 : decode cX12_feed 31 = .ok (.istore 4, 2) := by decide +kernel
theorem dX12_feed_33 : decode cX12_feed 33 = .ok (.iload 4, 2) := by decide +kernel
theorem dX12_feed_35 : decode cX12_feed 35 = .ok (.ifCond .lt 40, 3) := by decide +kernel
theorem dX12_feed_38 : decode cX12_feed 38 = .ok (.aload_n 0, 1) := by decide +kernel
theorem dX12_feed_39 : decode cX12_feed 39 = .ok (.getfield 37, 3) := by decide +kernel
theorem dX12_feed_42 : decode cX12_feed 42 = .ok (.aload_n 0, 1) := by decide +kernel
theorem dX12_feed_43 : decode cX12_feed 43 = .ok (.getfield 145, 3) := by decide +kernel
theorem dX12_feed_46 : decode cX12_feed 46 = .ok (.lload_n 1, 1) := by decide +kernel
theorem dX12_feed_47 : decode cX12_feed 47 = .ok (.bipush 8, 2) := by decide +kernel
theorem dX12_feed_49 : decode cX12_feed 49 = .ok (.iload 4, 2) := by decide +kernel
theorem dX12_feed_51 : decode cX12_feed 51 = .ok (.imul, 1) := by decide +kernel
theorem dX12_feed_52 : decode cX12_feed 52 = .ok (.lshr, 1) := by decide +kernel
theorem dX12_feed_53 : decode cX12_feed 53 = .ok (.ldc2_w 148, 3) := by decide +kernel
theorem dX12_feed_56 : decode cX12_feed 56 = .ok (.land, 1) := by decide +kernel
theorem dX12_feed_57 : decode cX12_feed 57 = .ok (.l2i, 1) := by decide +kernel
theorem dX12_feed_58 : decode cX12_feed 58 = .ok (.iastore, 1) := by decide +kernel
theorem dX12_feed_59 : decode cX12_feed 59 = .ok (.aload_n 0, 1) := by decide +kernel
theorem dX12_feed_60 : decode cX12_feed 60 = .ok (.dup, 1) := by decide +kernel
theorem dX12_feed_61 : decode cX12_feed 61 = .ok (.getfield 145, 3) := by decide +kernel
theorem dX12_feed_64 : decode cX12_feed 64 = .ok (.iconst 1, 1) := by decide +kernel
theorem dX12_feed_65 : decode cX12_feed 65 = .ok (.iadd, 1) := by decide +kernel
theorem dX12_feed_66 : decode cX12_feed 66 = .ok (.putfield 145, 3) := by decide +kernel
theorem dX12_feed_69 : decode cX12_feed 69 = .ok (.iinc 4 (-1), 3) := by decide +kernel
theorem dX12_feed_72 : decode cX12_feed 72 = .ok (.goto (-39), 3) := by decide +kernel
theorem dX12_feed_75 : decode cX12_feed 75 = .ok (.aload_n 0, 1) := by decide +kernel
theorem dX12_feed_76 : decode cX12_feed 76 = .ok (.getfield 145, 3) := by decide +kernel
theorem dX12_feed_79 : decode cX12_feed 79 = .ok (.ireturn, 1) := by decide +kernel
def lX12_feed_33 (u8 u9 : Int)  : Nat → ZS → Int → Option (Int × ZS)
  | 0, _, _ => none
  | n1 + 1, s7, x10 => if x10 < 0 then ((zg s7 12 u8 13).bind (fun v12 => some (v12, s7))) else ((zg s7 12 u8 12).bind (fun v13 => (zg s7 12 u8 13).bind (fun v14 => (zas s7 100 v13 v14 (wrap (lAnd (lShr u9 (wrap (8 * x10))) 255))).bind (fun s15 => (zg s15 12 u8 13).bind (fun v16 => (zp s15 12 u8 13 (wrap (v16 + 1))).bind (fun s17 => lX12_feed_33 u8 u9 n1 s17 (wrap (x10 + (-1)))))))))

def fX12_feed (s0 : ZS) (a0 : Int) (a1 : Int) (a3 : Int) : Option (Int × ZS) := zb (fX12_in s0 a3 1 8) (fun v1 s2 => if v1 = 0 then (some ((-2), s2)) else ((zg s2 12 a0 13).bind (fun v5 => if (wrap (v5 + a3)) ≤ 160 then (lX12_feed_33 a0 a1 1000 s2 (wrap (a3 - 1))) else (some ((-4), s2)))))
set_option maxHeartbeats 4000000 in
set_option maxRecDepth 100000 in
theorem mX12_feed (E : ZE) (hE : zOkE E) (l : Launch) (s0 : ZS) (a0 : Int) (a1 : Int) (a3 : Int) : Ct E l yX12_feed cX12_feed 5 (some .int) 4 [(2, a0), (1, a1), (0, a3)] 1 s0 (fX12_feed s0 a0 a1 a3) := by
  refine Ct.of (by decide) hE (Nat.le_of_ble_eq_true rfl) ?_
  intro X G hX hR hN hXE hXl hxn hk _
  subst hXE
  subst hXl
  have hX : G → ZOk X cX12_feed RX12 4 := hX
  clear hN
  show Zj X G 0 [(0, (2, a0)), (1, (1, a1)), (3, (0, a3))] [] s0 _
  unfold fX12_feed
  refine z_iload_n (pc := 0) hX 2 dX12_feed_0 rfl rfl ?_
  refine z_iconst (pc := 1) hX dX12_feed_1 ?_
  refine z_bipush (pc := 2) hX dX12_feed_2 ?_
  refine z_callS (n := 3) (st := []) (pc := 4) hX (mX12_in _ hE _ _ _ _ _) ⟨wd1173, wd67, wd1175, ⟨by decide, by decide, by decide⟩, by decide⟩ wd1174 rfl rfl (by decide) (Nat.le_of_ble_eq_true rfl) dX12_feed_4 (fun v1 s2 r3 => ?_)
  show Zj X G 7 [(0, (2, a0)), (1, (1, a1)), (3, (0, a3))] [(0, v1)] _ _
  refine z_if_ne (pc := 7) hX 13 dX12_feed_7 (by decide) (fun h4 => ?_) (fun h4 => ?_)
  · refine z_aload_n (pc := 13) hX 0 dX12_feed_13 rfl rfl ?_
    refine z_get (pc := 14) hX zc12 13 (by decide) wd1030 rfl rfl dX12_feed_14 (fun v5 => ?_)
    refine z_iload_n (pc := 17) hX 2 dX12_feed_17 rfl rfl ?_
    refine z_iadd (pc := 18) hX dX12_feed_18 ?_
    refine z_sipush (pc := 19) hX dX12_feed_19 ?_
    refine z_icmp_le (pc := 22) hX 28 dX12_feed_22 (by decide) (fun h6 => ?_) (fun h6 => ?_)
    · refine z_iload_n (pc := 28) hX 2 dX12_feed_28 rfl rfl ?_
      refine z_iconst (pc := 29) hX dX12_feed_29 ?_
      refine z_isub (pc := 30) hX dX12_feed_30 ?_
      refine z_istore (lv' := [(4, (0, (wrap (a3 - 1)))), (0, (2, a0)), (1, (1, a1)), (3, (0, a3))]) (pc := 31) hX dX12_feed_31 (zlt hxn rfl) rfl ?_
      have hl33 : ∀ (u8 u9 : Int), ∀ (n1 : Nat) (s7 : ZS) (x10 : Int), Zj X G 33 [(0, (2, u8)), (1, (1, u9)), (4, (0, x10))] [] s7 (lX12_feed_33 u8 u9 n1 s7 x10) := by
        intro u8 u9 n1
        induction n1 with
        | zero => intro _ _; exact z_none
        | succ n1 ih1 =>
          intro s7 x10
          rw [lX12_feed_33]
          refine z_iload (pc := 33) hX 2 dX12_feed_33 rfl ?_
          refine z_if_lt (pc := 35) hX 75 dX12_feed_35 (by decide) (fun h11 => ?_) (fun h11 => ?_)
          · refine z_aload_n (pc := 75) hX 0 dX12_feed_75 rfl rfl ?_
            refine z_get (pc := 76) hX zc12 13 (by decide) wd1030 rfl rfl dX12_feed_76 (fun v12 => ?_)
            exact z_iret (pc := 79) hX hR hk dX12_feed_79
          · refine z_aload_n (pc := 38) hX 0 dX12_feed_38 rfl rfl ?_
            refine z_get (pc := 39) hX zc12 12 (by decide) wd1029 rfl rfl dX12_feed_39 (fun v13 => ?_)
            refine z_aload_n (pc := 42) hX 0 dX12_feed_42 rfl rfl ?_
            refine z_get (pc := 43) hX zc12 13 (by decide) wd1030 rfl rfl dX12_feed_43 (fun v14 => ?_)
            refine z_lload_n (pc := 46) hX 1 dX12_feed_46 rfl rfl ?_
            refine z_bipush (pc := 47) hX dX12_feed_47 ?_
            refine z_iload (pc := 49) hX 2 dX12_feed_49 rfl ?_
            refine z_imul (pc := 51) hX dX12_feed_51 ?_
            refine z_lshr (pc := 52) hX dX12_feed_52 ?_
            refine z_ldc2 (n := 255) (pc := 53) hX dX12_feed_53 wd1208 (by decide) ?_
            refine z_land (pc := 56) hX dX12_feed_56 ?_
            refine z_l2iR (pc := 57) hX dX12_feed_57 ?_
            refine z_iastA (pc := 58) hX dX12_feed_58 (fun s15 => ?_)
            refine z_aload_n (pc := 59) hX 0 dX12_feed_59 rfl rfl ?_
            refine z_dup (pc := 60) hX zn2 dX12_feed_60 ?_
            refine z_get (pc := 61) hX zc12 13 (by decide) wd1030 rfl rfl dX12_feed_61 (fun v16 => ?_)
            refine z_iconst (pc := 64) hX dX12_feed_64 ?_
            refine z_iadd (pc := 65) hX dX12_feed_65 ?_
            refine z_putA (pc := 66) hX zc12 13 (by decide) wd1030 (Or.inl rfl) rfl rfl (fun _ => rfl) (fun _ => rfl) dX12_feed_66 (fun s17 => ?_)
            refine z_iinc (lv' := [(4, (0, (wrap (x10 + (-1))))), (0, (2, u8)), (1, (1, u9))]) (pc := 69) hX 2 dX12_feed_69 rfl (zlt hxn rfl) rfl ?_
            refine z_goto (pc := 72) hX 33 dX12_feed_72 (by decide) ?_
            refine z_pick (lv' := [(0, (2, u8)), (1, (1, u9)), (4, (0, (wrap (x10 + (-1)))))]) [1, 2, 0] rfl ?_
            exact ih1 _ _
      refine z_pick (lv' := [(0, (2, a0)), (1, (1, a1)), (4, (0, (wrap (a3 - 1))))]) [1, 2, 0] rfl ?_
      refine hl33 _ _ 1000 _ _
    · refine z_bipush (pc := 25) hX dX12_feed_25 ?_
      exact z_iret (pc := 27) hX hR hk dX12_feed_27
  · refine z_bipush (pc := 10) hX dX12_feed_10 ?_
    exact z_iret (pc := 12) hX hR hk dX12_feed_12
