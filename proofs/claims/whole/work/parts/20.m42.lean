theorem dX11_copy_0 : decode cX11_copy 0 = .ok (.iload_n 1, 1) := by decide +kernel
theorem dX11_copy_1 : decode cX11_copy 1 = .ok (.invokestatic 148, 3) := by decide +kernel
theorem dX11_copy_4 : decode cX11_copy 4 = .ok (.ifCond .eq 10, 3) := by decide +kernel
theorem dX11_copy_7 : decode cX11_copy 7 = .ok (.iload_n 3, 1) := by decide +kernel
theorem dX11_copy_8 : decode cX11_copy 8 = .ok (.invokestatic 148, 3) := by decide +kernel
theorem dX11_copy_11 : decode cX11_copy 11 = .ok (.ifCond .ne 6, 3) := by decide +kernel
theorem dX11_copy_14 : decode cX11_copy 14 = .ok (.bipush (-2), 2) := by decide +kernel
theorem dX11_copy_16 : decode cX11_copy 16 = .ok (.ireturn, 1) := by decide +kernel
theorem dX11_copy_17 : decode cX11_copy 17 = .ok (.aload_n 0, 1) := by decide +kernel
theorem dX11_copy_18 : decode cX11_copy 18 = .ok (.getfield 52, 3) := by decide +kernel
theorem dX11_copy_21 : decode cX11_copy 21 = .ok (.iload_n 1, 1) := by decide +kernel
theorem dX11_copy_22 : decode cX11_copy 22 = .ok (.aaload, 1) := by decide +kernel
theorem dX11_copy_23 : decode cX11_copy 23 = .ok (.astore 6, 2) := by decide +kernel
theorem dX11_copy_25 : decode cX11_copy 25 = .ok (.aload_n 0, 1) := by decide +kernel
theorem dX11_copy_26 : decode cX11_copy 26 = .ok (.getfield 52, 3) := by decide +kernel
theorem dX11_copy_29 : decode cX11_copy 29 = .ok (.iload_n 3, 1) := by decide +kernel
theorem dX11_copy_30 : decode cX11_copy 30 = .ok (.aaload, 1) := by decide +kernel
theorem dX11_copy_31 : decode cX11_copy 31 = .ok (.astore 7, 2) := by decide +kernel
theorem dX11_copy_33 : decode cX11_copy 33 = .ok (.aload 6, 2) := by decide +kernel
theorem dX11_copy_35 : decode cX11_copy 35 = .ok (.invokevirtual 151, 3) := by decide +kernel
theorem dX11_copy_38 : decode cX11_copy 38 = .ok (.ifCond .ne 11, 3) := by decide +kernel
theorem dX11_copy_41 : decode cX11_copy 41 = .ok (.aload 7, 2) := by decide +kernel
theorem dX11_copy_43 : decode cX11_copy 43 = .ok (.invokevirtual 151, 3) := by decide +kernel
theorem dX11_copy_46 : decode cX11_copy 46 = .ok (.ifCond .eq 6, 3) := by decide +kernel
theorem dX11_copy_49 : decode cX11_copy 49 = .ok (.bipush (-11), 2) := by decide +kernel
theorem dX11_copy_51 : decode cX11_copy 51 = .ok (.ireturn, 1) := by decide +kernel
theorem dX11_copy_52 : decode cX11_copy 52 = .ok (.aload 6, 2) := by decide +kernel
theorem dX11_copy_54 : decode cX11_copy 54 = .ok (.getfield 278, 3) := by decide +kernel
theorem dX11_copy_57 : decode cX11_copy 57 = .ok (.aload 7, 2) := by decide +kernel
theorem dX11_copy_59 : decode cX11_copy 59 = .ok (.getfield 278, 3) := by decide +kernel
theorem dX11_copy_62 : decode cX11_copy 62 = .ok (.if_icmp .eq 6, 3) := by decide +kernel
theorem dX11_copy_65 : decode cX11_copy 65 = .ok (.bipush (-13), 2) := by decide +kernel
theorem dX11_copy_67 : decode cX11_copy 67 = .ok (.ireturn, 1) := by decide +kernel
theorem dX11_copy_68 : decode cX11_copy 68 = .ok (.aload 6, 2) := by decide +kernel
theorem dX11_copy_70 : decode cX11_copy 70 = .ok (.iload_n 2, 1) := by decide +kernel
theorem dX11_copy_71 : decode cX11_copy 71 = .ok (.iload 5, 2) := by decide +kernel
theorem dX11_copy_73 : decode cX11_copy 73 = .ok (.invokevirtual 281, 3) := by decide +kernel
theorem dX11_copy_76 : decode cX11_copy 76 = .ok (.ifCond .eq 15, 3) := by decide +kernel
theorem dX11_copy_79 : decode cX11_copy 79 = .ok (.aload 7, 2) := by decide +kernel
theorem dX11_copy_81 : decode cX11_copy 81 = .ok (.iload 4, 2) := by decide +kernel
theorem dX11_copy_83 : decode cX11_copy 83 = .ok (.iload 5, 2) := by decide +kernel
theorem dX11_copy_85 : decode cX11_copy 85 = .ok (.invokevirtual 281, 3) := by decide +kernel
theorem dX11_copy_88 : decode cX11_copy 88 = .ok (.ifCond .ne 6, 3) := by decide +kernel
theorem dX11_copy_91 : decode cX11_copy 91 = .ok (.bipush (-12), 2) := by decide +kernel
theorem dX11_copy_93 : decode cX11_copy 93 = .ok (.ireturn, 1) := by decide +kernel
theorem dX11_copy_94 : decode cX11_copy 94 = .ok (.aload 6, 2) := by decide +kernel
theorem dX11_copy_96 : decode cX11_copy 96 = .ok (.getfield 164, 3) := by decide +kernel
theorem dX11_copy_99 : decode cX11_copy 99 = .ok (.iload_n 2, 1) := by decide +kernel
theorem dX11_copy_100 : decode cX11_copy 100 = .ok (.aload 7, 2) := by decide +kernel
theorem dX11_copy_102 : decode cX11_copy 102 = .ok (.getfield 164, 3) := by decide +kernel
theorem dX11_copy_105 : decode cX11_copy 105 = .ok (.iload 4, 2) := by decide +kernel
theorem dX11_copy_107 : decode cX11_copy 107 = .ok (.iload 5, 2) := by decide +kernel
theorem dX11_copy_109 : decode cX11_copy 109 = .ok (.invokestatic 171, 3) := by decide +kernel
theorem dX11_copy_112 : decode cX11_copy 112 = .ok (.iload 5, 2) := by decide +kernel
theorem dX11_copy_114 : decode cX11_copy 114 = .ok (.ireturn, 1) := by decide +kernel
def fX11_copy (s0 : ZS) (a0 : Int) (a1 : Int) (a2 : Int) (a3 : Int) (a4 : Int) (a5 : Int) : Option (Int × ZS) := zb (fX11_isSheet s0 a1) (fun v1 s2 => if v1 = 0 then (some ((-2), s2)) else (zb (fX11_isSheet s2 a3) (fun v5 s6 => if v5 = 0 then (some ((-2), s6)) else ((zg s6 11 a0 8).bind (fun v9 => (zal s6 105 v9 a1).bind (fun v10 => (zg s6 11 a0 8).bind (fun v11 => (zal s6 105 v11 a3).bind (fun v12 => zb (zv s6 6 v10 (fX6_isMissing s6 v10)) (fun v13 s14 => if v13 = 0 then (zb (zv s14 6 v12 (fX6_isMissing s14 v12)) (fun v17 s18 => if v17 = 0 then ((zg s18 6 v10 1).bind (fun v21 => (zg s18 6 v12 1).bind (fun v22 => if v21 = v22 then (zb (zv s18 6 v10 (fX6_reaches s18 v10 a2 a5)) (fun v24 s25 => if v24 = 0 then (some ((-12), s25)) else (zb (zv s25 6 v12 (fX6_reaches s25 v12 a4 a5)) (fun v28 s29 => if v28 = 0 then (some ((-12), s29)) else ((zg s29 6 v10 0).bind (fun v32 => (zg s29 6 v12 0).bind (fun v33 => (zcp s29 v32 a2 v33 a4 a5).bind (fun s34 => some (a5, s34))))))))) else (some ((-13), s18))))) else (some ((-11), s18)))) else (some ((-11), s14)))))))))))
set_option maxHeartbeats 4000000 in
set_option maxRecDepth 100000 in
theorem mX11_copy (E : ZE) (hE : zOkE E) (l : Launch) (s0 : ZS) (a0 : Int) (a1 : Int) (a2 : Int) (a3 : Int) (a4 : Int) (a5 : Int) : Ct E l yX11_copy cX11_copy 8 (some .int) 6 [(2, a0), (0, a1), (0, a2), (0, a3), (0, a4), (0, a5)] 1 s0 (fX11_copy s0 a0 a1 a2 a3 a4 a5) := by
  refine Ct.of (by decide) hE (Nat.le_of_ble_eq_true rfl) ?_
  intro X G hX hR hN hXE hXl hxn hk _
  subst hXE
  subst hXl
  have hX : G → ZOk X cX11_copy RX11 6 := hX
  clear hN
  show Zj X G 0 [(0, (2, a0)), (1, (0, a1)), (2, (0, a2)), (3, (0, a3)), (4, (0, a4)), (5, (0, a5))] [] s0 _
  unfold fX11_copy
  refine z_iload_n (pc := 0) hX 1 dX11_copy_0 rfl rfl ?_
  refine z_callS (n := 1) (st := []) (pc := 1) hX (mX11_isSheet _ hE _ _ _) ⟨wd593, wd61, wd595, ⟨by decide, by decide, by decide⟩, by decide⟩ wd594 rfl rfl (by decide) (Nat.le_of_ble_eq_true rfl) dX11_copy_1 (fun v1 s2 r3 => ?_)
  show Zj X G 4 [(0, (2, a0)), (1, (0, a1)), (2, (0, a2)), (3, (0, a3)), (4, (0, a4)), (5, (0, a5))] [(0, v1)] _ _
  refine z_if_eq (pc := 4) hX 14 dX11_copy_4 (by decide) (fun h4 => ?_) (fun h4 => ?_)
  · refine z_bipush (pc := 14) hX dX11_copy_14 ?_
    exact z_iret (pc := 16) hX hR hk dX11_copy_16
  · refine z_iload_n (pc := 7) hX 3 dX11_copy_7 rfl rfl ?_
    refine z_callS (n := 1) (st := []) (pc := 8) hX (mX11_isSheet _ hE _ _ _) ⟨wd593, wd61, wd595, ⟨by decide, by decide, by decide⟩, by decide⟩ wd594 rfl rfl (by decide) (Nat.le_of_ble_eq_true rfl) dX11_copy_8 (fun v5 s6 r7 => ?_)
    show Zj X G 11 [(0, (2, a0)), (1, (0, a1)), (2, (0, a2)), (3, (0, a3)), (4, (0, a4)), (5, (0, a5))] [(0, v5)] _ _
    refine z_if_ne (pc := 11) hX 17 dX11_copy_11 (by decide) (fun h8 => ?_) (fun h8 => ?_)
    · refine z_aload_n (pc := 17) hX 0 dX11_copy_17 rfl rfl ?_
      refine z_get (pc := 18) hX zc11 8 (by decide) wd278 rfl rfl dX11_copy_18 (fun v9 => ?_)
      refine z_iload_n (pc := 21) hX 1 dX11_copy_21 rfl rfl ?_
      refine z_aald (pc := 22) hX 5 105 (by decide) rfl rfl dX11_copy_22 (fun v10 => ?_)
      refine z_astore (lv' := [(6, (2, v10)), (0, (2, a0)), (1, (0, a1)), (2, (0, a2)), (3, (0, a3)), (4, (0, a4)), (5, (0, a5))]) (pc := 23) hX dX11_copy_23 (zlt hxn rfl) rfl ?_
      refine z_aload_n (pc := 25) hX 1 dX11_copy_25 rfl rfl ?_
      refine z_get (pc := 26) hX zc11 8 (by decide) wd278 rfl rfl dX11_copy_26 (fun v11 => ?_)
      refine z_iload_n (pc := 29) hX 4 dX11_copy_29 rfl rfl ?_
      refine z_aald (pc := 30) hX 5 105 (by decide) rfl rfl dX11_copy_30 (fun v12 => ?_)
      refine z_astore (lv' := [(7, (2, v12)), (6, (2, v10)), (0, (2, a0)), (1, (0, a1)), (2, (0, a2)), (3, (0, a3)), (4, (0, a4)), (5, (0, a5))]) (pc := 31) hX dX11_copy_31 (zlt hxn rfl) rfl ?_
      refine z_aload (pc := 33) hX 1 dX11_copy_33 rfl ?_
      refine z_callV (n := 0) (st := []) (pc := 35) hX zc6 rfl (fun _ => (mX6_isMissing _ hE _ _ _)) ⟨wd596, wd66, wd599, ⟨by decide, by decide, by decide⟩, by decide⟩ rfl wd597 wd598 rfl rfl (by decide) (Nat.le_of_ble_eq_true rfl) dX11_copy_35 (fun v13 s14 r15 => ?_)
      show Zj X G 38 [(7, (2, v12)), (6, (2, v10)), (0, (2, a0)), (1, (0, a1)), (2, (0, a2)), (3, (0, a3)), (4, (0, a4)), (5, (0, a5))] [(0, v13)] _ _
      refine z_if_ne (pc := 38) hX 49 dX11_copy_38 (by decide) (fun h16 => ?_) (fun h16 => ?_)
      · refine z_bipush (pc := 49) hX dX11_copy_49 ?_
        exact z_iret (pc := 51) hX hR hk dX11_copy_51
      · refine z_aload (pc := 41) hX 0 dX11_copy_41 rfl ?_
        refine z_callV (n := 0) (st := []) (pc := 43) hX zc6 rfl (fun _ => (mX6_isMissing _ hE _ _ _)) ⟨wd596, wd66, wd599, ⟨by decide, by decide, by decide⟩, by decide⟩ rfl wd597 wd598 rfl rfl (by decide) (Nat.le_of_ble_eq_true rfl) dX11_copy_43 (fun v17 s18 r19 => ?_)
        show Zj X G 46 [(7, (2, v12)), (6, (2, v10)), (0, (2, a0)), (1, (0, a1)), (2, (0, a2)), (3, (0, a3)), (4, (0, a4)), (5, (0, a5))] [(0, v17)] _ _
        refine z_if_eq (pc := 46) hX 52 dX11_copy_46 (by decide) (fun h20 => ?_) (fun h20 => ?_)
        · refine z_aload (pc := 52) hX 1 dX11_copy_52 rfl ?_
          refine z_get (pc := 54) hX zc6 1 (by decide) wd260 rfl rfl dX11_copy_54 (fun v21 => ?_)
          refine z_aload (pc := 57) hX 0 dX11_copy_57 rfl ?_
          refine z_get (pc := 59) hX zc6 1 (by decide) wd260 rfl rfl dX11_copy_59 (fun v22 => ?_)
          refine z_icmp_eq (pc := 62) hX 68 dX11_copy_62 (by decide) (fun h23 => ?_) (fun h23 => ?_)
          · refine z_aload (pc := 68) hX 1 dX11_copy_68 rfl ?_
            refine z_iload_n (pc := 70) hX 4 dX11_copy_70 rfl rfl ?_
            refine z_iload (pc := 71) hX 7 dX11_copy_71 rfl ?_
            refine z_callV (n := 2) (st := []) (pc := 73) hX zc6 rfl (fun _ => (mX6_reaches _ hE _ _ _ _ _)) ⟨wd978, wd66, wd981, ⟨by decide, by decide, by decide⟩, by decide⟩ rfl wd979 wd980 rfl rfl (by decide) (Nat.le_of_ble_eq_true rfl) dX11_copy_73 (fun v24 s25 r26 => ?_)
            show Zj X G 76 [(7, (2, v12)), (6, (2, v10)), (0, (2, a0)), (1, (0, a1)), (2, (0, a2)), (3, (0, a3)), (4, (0, a4)), (5, (0, a5))] [(0, v24)] _ _
            refine z_if_eq (pc := 76) hX 91 dX11_copy_76 (by decide) (fun h27 => ?_) (fun h27 => ?_)
            · refine z_bipush (pc := 91) hX dX11_copy_91 ?_
              exact z_iret (pc := 93) hX hR hk dX11_copy_93
            · refine z_aload (pc := 79) hX 0 dX11_copy_79 rfl ?_
              refine z_iload (pc := 81) hX 6 dX11_copy_81 rfl ?_
              refine z_iload (pc := 83) hX 7 dX11_copy_83 rfl ?_
              refine z_callV (n := 2) (st := []) (pc := 85) hX zc6 rfl (fun _ => (mX6_reaches _ hE _ _ _ _ _)) ⟨wd978, wd66, wd981, ⟨by decide, by decide, by decide⟩, by decide⟩ rfl wd979 wd980 rfl rfl (by decide) (Nat.le_of_ble_eq_true rfl) dX11_copy_85 (fun v28 s29 r30 => ?_)
              show Zj X G 88 [(7, (2, v12)), (6, (2, v10)), (0, (2, a0)), (1, (0, a1)), (2, (0, a2)), (3, (0, a3)), (4, (0, a4)), (5, (0, a5))] [(0, v28)] _ _
              refine z_if_ne (pc := 88) hX 94 dX11_copy_88 (by decide) (fun h31 => ?_) (fun h31 => ?_)
              · refine z_aload (pc := 94) hX 1 dX11_copy_94 rfl ?_
                refine z_get (pc := 96) hX zc6 0 (by decide) wd258 rfl rfl dX11_copy_96 (fun v32 => ?_)
                refine z_iload_n (pc := 99) hX 4 dX11_copy_99 rfl rfl ?_
                refine z_aload (pc := 100) hX 0 dX11_copy_100 rfl ?_
                refine z_get (pc := 102) hX zc6 0 (by decide) wd258 rfl rfl dX11_copy_102 (fun v33 => ?_)
                refine z_iload (pc := 105) hX 6 dX11_copy_105 rfl ?_
                refine z_iload (pc := 107) hX 7 dX11_copy_107 rfl ?_
                refine z_acopy (pc := 109) hX (by decide) dX11_copy_109 wd676 wd573 wd572 wd75 (Nat.le_of_ble_eq_true rfl) (fun s34 => ?_)
                refine z_iload (pc := 112) hX 7 dX11_copy_112 rfl ?_
                exact z_iret (pc := 114) hX hR hk dX11_copy_114
              · refine z_bipush (pc := 91) hX dX11_copy_91 ?_
                exact z_iret (pc := 93) hX hR hk dX11_copy_93
          · refine z_bipush (pc := 65) hX dX11_copy_65 ?_
            exact z_iret (pc := 67) hX hR hk dX11_copy_67
        · refine z_bipush (pc := 49) hX dX11_copy_49 ?_
          exact z_iret (pc := 51) hX hR hk dX11_copy_51
    · refine z_bipush (pc := 14) hX dX11_copy_14 ?_
      exact z_iret (pc := 16) hX hR hk dX11_copy_16

theorem dX12_copy_0 : decode cX12_copy 0 = .ok (.iload_n 1, 1) := by decide +kernel
theorem dX12_copy_1 : decode cX12_copy 1 = .ok (.iconst 0, 1) := by decide +kernel
theorem dX12_copy_2 : decode cX12_copy 2 = .ok (.iconst 3, 1) := by decide +kernel
theorem dX12_copy_3 : decode cX12_copy 3 = .ok (.invokestatic 127, 3) := by decide +kernel
theorem dX12_copy_6 : decode cX12_copy 6 = .ok (.ifCond .eq 12, 3) := by decide +kernel
theorem dX12_copy_9 : decode cX12_copy 9 = .ok (.iload_n 3, 1) := by decide +kernel
theorem dX12_copy_10 : decode cX12_copy 10 = .ok (.iconst 0, 1) := by decide +kernel
theorem dX12_copy_11 : decode cX12_copy 11 = .ok (.iconst 3, 1) := by decide +kernel
theorem dX12_copy_12 : decode cX12_copy 12 = .ok (.invokestatic 127, 3) := by decide +kernel
theorem dX12_copy_15 : decode cX12_copy 15 = .ok (.ifCond .ne 6, 3) := by decide +kernel
theorem dX12_copy_18 : decode cX12_copy 18 = .ok (.bipush (-2), 2) := by decide +kernel
theorem dX12_copy_20 : decode cX12_copy 20 = .ok (.ireturn, 1) := by decide +kernel
theorem dX12_copy_21 : decode cX12_copy 21 = .ok (.aload_n 0, 1) := by decide +kernel
theorem dX12_copy_22 : decode cX12_copy 22 = .ok (.getfield 62, 3) := by decide +kernel
theorem dX12_copy_25 : decode cX12_copy 25 = .ok (.iload_n 1, 1) := by decide +kernel
theorem dX12_copy_26 : decode cX12_copy 26 = .ok (.iaload, 1) := by decide +kernel
theorem dX12_copy_27 : decode cX12_copy 27 = .ok (.iconst (-1), 1) := by decide +kernel
theorem dX12_copy_28 : decode cX12_copy 28 = .ok (.if_icmp .eq 13, 3) := by decide +kernel
theorem dX12_copy_31 : decode cX12_copy 31 = .ok (.aload_n 0, 1) := by decide +kernel
theorem dX12_copy_32 : decode cX12_copy 32 = .ok (.getfield 62, 3) := by decide +kernel
theorem dX12_copy_35 : decode cX12_copy 35 = .ok (.iload_n 3, 1) := by decide +kernel
theorem dX12_copy_36 : decode cX12_copy 36 = .ok (.iaload, 1) := by decide +kernel
theorem dX12_copy_37 : decode cX12_copy 37 = .ok (.iconst (-1), 1) := by decide +kernel
theorem dX12_copy_38 : decode cX12_copy 38 = .ok (.if_icmp .ne 6, 3) := by decide +kernel
theorem dX12_copy_41 : decode cX12_copy 41 = .ok (.bipush (-11), 2) := by decide +kernel
theorem dX12_copy_43 : decode cX12_copy 43 = .ok (.ireturn, 1) := by decide +kernel
theorem dX12_copy_44 : decode cX12_copy 44 = .ok (.aload_n 0, 1) := by decide +kernel
theorem dX12_copy_45 : decode cX12_copy 45 = .ok (.getfield 62, 3) := by decide +kernel
theorem dX12_copy_48 : decode cX12_copy 48 = .ok (.iload_n 1, 1) := by decide +kernel
theorem dX12_copy_49 : decode cX12_copy 49 = .ok (.iaload, 1) := by decide +kernel
theorem dX12_copy_50 : decode cX12_copy 50 = .ok (.aload_n 0, 1) := by decide +kernel
theorem dX12_copy_51 : decode cX12_copy 51 = .ok (.getfield 62, 3) := by decide +kernel
theorem dX12_copy_54 : decode cX12_copy 54 = .ok (.iload_n 3, 1) := by decide +kernel
theorem dX12_copy_55 : decode cX12_copy 55 = .ok (.iaload, 1) := by decide +kernel
theorem dX12_copy_56 : decode cX12_copy 56 = .ok (.if_icmp .eq 6, 3) := by decide +kernel
theorem dX12_copy_59 : decode cX12_copy 59 = .ok (.bipush (-13), 2) := by decide +kernel
theorem dX12_copy_61 : decode cX12_copy 61 = .ok (.ireturn, 1) := by decide +kernel
theorem dX12_copy_62 : decode cX12_copy 62 = .ok (.iload 5, 2) := by decide +kernel
theorem dX12_copy_64 : decode cX12_copy 64 = .ok (.ifCond .lt 60, 3) := by decide +kernel
theorem dX12_copy_67 : decode cX12_copy 67 = .ok (.iload_n 2, 1) := by decide +kernel
theorem dX12_copy_68 : decode cX12_copy 68 = .ok (.ifCond .lt 56, 3) := by decide +kernel
theorem dX12_copy_71 : decode cX12_copy 71 = .ok (.iload 4, 2) := by decide +kernel
theorem dX12_copy_73 : decode cX12_copy 73 = .ok (.ifCond .lt 51, 3) := by decide +kernel
theorem dX12_copy_76 : decode cX12_copy 76 = .ok (.iload_n 2, 1) := by decide +kernel
theorem dX12_copy_77 : decode cX12_copy 77 = .ok (.aload_n 0, 1) := by decide +kernel
theorem dX12_copy_78 : decode cX12_copy 78 = .ok (.getfield 65, 3) := by decide +kernel
theorem dX12_copy_81 : decode cX12_copy 81 = .ok (.iload_n 1, 1) := by decide +kernel
theorem dX12_copy_82 : decode cX12_copy 82 = .ok (.iaload, 1) := by decide +kernel
theorem dX12_copy_83 : decode cX12_copy 83 = .ok (.if_icmp .gt 41, 3) := by decide +kernel
theorem dX12_copy_86 : decode cX12_copy 86 = .ok (.iload 4, 2) := by decide +kernel
theorem dX12_copy_88 : decode cX12_copy 88 = .ok (.aload_n 0, 1) := by decide +kernel
theorem dX12_copy_89 : decode cX12_copy 89 = .ok (.getfield 65, 3) := by decide +kernel
theorem dX12_copy_92 : decode cX12_copy 92 = .ok (.iload_n 3, 1) := by decide +kernel
theorem dX12_copy_93 : decode cX12_copy 93 = .ok (.iaload, 1) := by decide +kernel
theorem dX12_copy_94 : decode cX12_copy 94 = .ok (.if_icmp .gt 30, 3) := by decide +kernel
theorem dX12_copy_97 : decode cX12_copy 97 = .ok (.iload 5, 2) := by decide +kernel
theorem dX12_copy_99 : decode cX12_copy 99 = .ok (.aload_n 0, 1) := by decide +kernel
theorem dX12_copy_100 : decode cX12_copy 100 = .ok (.getfield 65, 3) := by decide +kernel
theorem dX12_copy_103 : decode cX12_copy 103 = .ok (.iload_n 1, 1) := by decide +kernel
theorem dX12_copy_104 : decode cX12_copy 104 = .ok (.iaload, 1) := by decide +kernel
theorem dX12_copy_105 : decode cX12_copy 105 = .ok (.iload_n 2, 1) := by decide +kernel
theorem dX12_copy_106 : decode cX12_copy 106 = .ok (.isub, 1) := by decide +kernel
theorem dX12_copy_107 : decode cX12_copy 107 = .ok (.if_icmp .gt 17, 3) := by decide +kernel
theorem dX12_copy_110 : decode cX12_copy 110 = .ok (.iload 5, 2) := by decide +kernel
theorem dX12_copy_112 : decode cX12_copy 112 = .ok (.aload_n 0, 1) := by decide +kernel
theorem dX12_copy_113 : decode cX12_copy 113 = .ok (.getfield 65, 3) := by decide +kernel
theorem dX12_copy_116 : decode cX12_copy 116 = .ok (.iload_n 3, 1) := by decide +kernel
theorem dX12_copy_117 : decode cX12_copy 117 = .ok (.iaload, 1) := by decide +kernel
theorem dX12_copy_118 : decode cX12_copy 118 = .ok (.iload 4, 2) := by decide +kernel
theorem dX12_copy_120 : decode cX12_copy 120 = .ok (.isub, 1) := by decide +kernel
theorem dX12_copy_121 : decode cX12_copy 121 = .ok (.if_icmp .le 6, 3) := by decide +kernel
theorem dX12_copy_124 : decode cX12_copy 124 = .ok (.bipush (-12), 2) := by decide +kernel
theorem dX12_copy_126 : decode cX12_copy 126 = .ok (.ireturn, 1) := by decide +kernel
theorem dX12_copy_127 : decode cX12_copy 127 = .ok (.bipush 40, 2) := by decide +kernel
theorem dX12_copy_129 : decode cX12_copy 129 = .ok (.iload_n 1, 1) := by decide +kernel
theorem dX12_copy_130 : decode cX12_copy 130 = .ok (.imul, 1) := by decide +kernel
theorem dX12_copy_131 : decode cX12_copy 131 = .ok (.iload_n 2, 1) := by decide +kernel
theorem dX12_copy_132 : decode cX12_copy 132 = .ok (.iadd, 1) := by decide +kernel
theorem dX12_copy_133 : decode cX12_copy 133 = .ok (.istore 6, 2) := by decide +kernel
theorem dX12_copy_135 : decode cX12_copy 135 = .ok (.bipush 40, 2) := by decide +kernel
theorem dX12_copy_137 : decode cX12_copy 137 = .ok (.iload_n 3, 1) := by decide +kernel
theorem dX12_copy_138 : decode cX12_copy 138 = .ok (.imul, 1) := by decide +kernel
theorem dX12_copy_139 : decode cX12_copy 139 = .ok (.iload 4, 2) := by decide +kernel
theorem dX12_copy_141 : decode cX12_copy 141 = .ok (.iadd, 1) := by decide +kernel
theorem dX12_copy_142 : decode cX12_copy 142 = .ok (.istore 7, 2) := by decide +kernel
theorem dX12_copy_144 : decode cX12_copy 144 = .ok (.iconst 0, 1) := by decide +kernel
theorem dX12_copy_145 : decode cX12_copy 145 = .ok (.istore 8, 2) := by decide +kernel
theorem dX12_copy_147 : decode cX12_copy 147 = .ok (.iload 8, 2) := by decide +kernel
theorem dX12_copy_149 : decode cX12_copy 149 = .ok (.iload 5, 2) := by decide +kernel
theorem dX12_copy_151 : decode cX12_copy 151 = .ok (.if_icmp .ge 50, 3) := by decide +kernel
theorem dX12_copy_154 : decode cX12_copy 154 = .ok (.iload 6, 2) := by decide +kernel
theorem dX12_copy_156 : decode cX12_copy 156 = .ok (.iload 7, 2) := by decide +kernel
theorem dX12_copy_158 : decode cX12_copy 158 = .ok (.if_icmp .ge 13, 3) := by decide +kernel
theorem dX12_copy_161 : decode cX12_copy 161 = .ok (.iload 5, 2) := by decide +kernel
theorem dX12_copy_163 : decode cX12_copy 163 = .ok (.iconst 1, 1) := by decide +kernel
theorem dX12_copy_164 : decode cX12_copy 164 = .ok (.isub, 1) := by decide +kernel
theorem dX12_copy_165 : decode cX12_copy 165 = .ok (.iload 8, 2) := by decide +kernel
theorem dX12_copy_167 : decode cX12_copy 167 = .ok (.isub, 1) := by decide +kernel
theorem dX12_copy_168 : decode cX12_copy 168 = .ok (.goto 5, 3) := by decide +kernel
theorem dX12_copy_171 : decode cX12_copy 171 = .ok (.iload 8, 2) := by decide +kernel
theorem dX12_copy_173 : decode cX12_copy 173 = .ok (.istore 9, 2) := by decide +kernel
theorem dX12_copy_175 : decode cX12_copy 175 = .ok (.aload_n 0, 1) := by decide +kernel
theorem dX12_copy_176 : decode cX12_copy 176 = .ok (.getfield 68, 3) := by decide +kernel
theorem dX12_copy_179 : decode cX12_copy 179 = .ok (.iload 7, 2) := by decide +kernel
theorem dX12_copy_181 : decode cX12_copy 181 = .ok (.iload 9, 2) := by decide +kernel
theorem dX12_copy_183 : decode cX12_copy 183 = .ok (.iadd, 1) := by decide +kernel
theorem dX12_copy_184 : decode cX12_copy 184 = .ok (.aload_n 0, 1) := by decide +kernel
theorem dX12_copy_185 : decode cX12_copy 185 = .ok (.getfield 68, 3) := by decide +kernel
theorem dX12_copy_188 : decode cX12_copy 188 = .ok (.iload 6, 2) := by decide +kernel
theorem dX12_copy_190 : decode cX12_copy 190 = .ok (.iload 9, 2) := by decide +kernel
theorem dX12_copy_192 : decode cX12_copy 192 = .ok (.iadd, 1) := by decide +kernel
theorem dX12_copy_193 : decode cX12_copy 193 = .ok (.iaload, 1) := by decide +kernel
theorem dX12_copy_194 : decode cX12_copy 194 = .ok (.iastore, 1) := by decide +kernel
theorem dX12_copy_195 : decode cX12_copy 195 = .ok (.iinc 8 1, 3) := by decide +kernel
theorem dX12_copy_198 : decode cX12_copy 198 = .ok (.goto (-51), 3) := by decide +kernel
theorem dX12_copy_201 : decode cX12_copy 201 = .ok (.iload 5, 2) := by decide +kernel
theorem dX12_copy_203 : decode cX12_copy 203 = .ok (.ireturn, 1) := by decide +kernel
def lX12_copy_147 (u36 u37 u38 u39 : Int)  : Nat → ZS → Int → Option (Int × ZS)
  | 0, _, _ => none
  | n1 + 1, s35, x40 => if u37 ≤ x40 then (some (u37, s35)) else (zjn (fun (K173 : ZS → Int → Option (Int × ZS)) => if u39 ≤ u38 then (K173 s35 x40) else (K173 s35 (wrap ((wrap (u37 - 1)) - x40)))) (fun (s43 : ZS) (w44 : Int) => (zg s43 12 u36 28).bind (fun v45 => (zg s43 12 u36 28).bind (fun v46 => (zal s43 100 v46 (wrap (u38 + w44))).bind (fun v47 => (zas s43 100 v45 (wrap (u39 + w44)) v47).bind (fun s48 => lX12_copy_147 u36 u37 u38 u39 n1 s48 (wrap (x40 + 1))))))))

def fX12_copy (s0 : ZS) (a0 : Int) (a1 : Int) (a2 : Int) (a3 : Int) (a4 : Int) (a5 : Int) : Option (Int × ZS) := zb (fX12_in s0 a1 0 3) (fun v1 s2 => if v1 = 0 then (some ((-2), s2)) else (zb (fX12_in s2 a3 0 3) (fun v5 s6 => if v5 = 0 then (some ((-2), s6)) else ((zg s6 12 a0 26).bind (fun v9 => (zal s6 100 v9 a1).bind (fun v10 => if v10 = (-1) then (some ((-11), s6)) else ((zg s6 12 a0 26).bind (fun v12 => (zal s6 100 v12 a3).bind (fun v13 => if v13 = (-1) then (some ((-11), s6)) else ((zg s6 12 a0 26).bind (fun v15 => (zal s6 100 v15 a1).bind (fun v16 => (zg s6 12 a0 26).bind (fun v17 => (zal s6 100 v17 a3).bind (fun v18 => if v16 = v18 then (if a5 < 0 then (some ((-12), s6)) else (if a2 < 0 then (some ((-12), s6)) else (if a4 < 0 then (some ((-12), s6)) else ((zg s6 12 a0 27).bind (fun v23 => (zal s6 100 v23 a1).bind (fun v24 => if v24 < a2 then (some ((-12), s6)) else ((zg s6 12 a0 27).bind (fun v26 => (zal s6 100 v26 a3).bind (fun v27 => if v27 < a4 then (some ((-12), s6)) else ((zg s6 12 a0 27).bind (fun v29 => (zal s6 100 v29 a1).bind (fun v30 => if (wrap (v30 - a2)) < a5 then (some ((-12), s6)) else ((zg s6 12 a0 27).bind (fun v32 => (zal s6 100 v32 a3).bind (fun v33 => if a5 ≤ (wrap (v33 - a4)) then (lX12_copy_147 a0 a5 (wrap ((wrap (40 * a1)) + a2)) (wrap ((wrap (40 * a3)) + a4)) 1000 s6 0) else (some ((-12), s6))))))))))))))))) else (some ((-13), s6))))))))))))))))
set_option maxHeartbeats 4000000 in
set_option maxRecDepth 100000 in
theorem mX12_copy (E : ZE) (hE : zOkE E) (l : Launch) (s0 : ZS) (a0 : Int) (a1 : Int) (a2 : Int) (a3 : Int) (a4 : Int) (a5 : Int) : Ct E l yX12_copy cX12_copy 10 (some .int) 4 [(2, a0), (0, a1), (0, a2), (0, a3), (0, a4), (0, a5)] 1 s0 (fX12_copy s0 a0 a1 a2 a3 a4 a5) := by
  refine Ct.of (by decide) hE (Nat.le_of_ble_eq_true rfl) ?_
  intro X G hX hR hN hXE hXl hxn hk _
  subst hXE
  subst hXl
  have hX : G → ZOk X cX12_copy RX12 4 := hX
  clear hN
  show Zj X G 0 [(0, (2, a0)), (1, (0, a1)), (2, (0, a2)), (3, (0, a3)), (4, (0, a4)), (5, (0, a5))] [] s0 _
  unfold fX12_copy
  refine z_iload_n (pc := 0) hX 1 dX12_copy_0 rfl rfl ?_
  refine z_iconst (pc := 1) hX dX12_copy_1 ?_
  refine z_iconst (pc := 2) hX dX12_copy_2 ?_
  refine z_callS (n := 3) (st := []) (pc := 3) hX (mX12_in _ hE _ _ _ _ _) ⟨wd1173, wd67, wd1175, ⟨by decide, by decide, by decide⟩, by decide⟩ wd1174 rfl rfl (by decide) (Nat.le_of_ble_eq_true rfl) dX12_copy_3 (fun v1 s2 r3 => ?_)
  show Zj X G 6 [(0, (2, a0)), (1, (0, a1)), (2, (0, a2)), (3, (0, a3)), (4, (0, a4)), (5, (0, a5))] [(0, v1)] _ _
  refine z_if_eq (pc := 6) hX 18 dX12_copy_6 (by decide) (fun h4 => ?_) (fun h4 => ?_)
  · refine z_bipush (pc := 18) hX dX12_copy_18 ?_
    exact z_iret (pc := 20) hX hR hk dX12_copy_20
  · refine z_iload_n (pc := 9) hX 3 dX12_copy_9 rfl rfl ?_
    refine z_iconst (pc := 10) hX dX12_copy_10 ?_
    refine z_iconst (pc := 11) hX dX12_copy_11 ?_
    refine z_callS (n := 3) (st := []) (pc := 12) hX (mX12_in _ hE _ _ _ _ _) ⟨wd1173, wd67, wd1175, ⟨by decide, by decide, by decide⟩, by decide⟩ wd1174 rfl rfl (by decide) (Nat.le_of_ble_eq_true rfl) dX12_copy_12 (fun v5 s6 r7 => ?_)
    show Zj X G 15 [(0, (2, a0)), (1, (0, a1)), (2, (0, a2)), (3, (0, a3)), (4, (0, a4)), (5, (0, a5))] [(0, v5)] _ _
    refine z_if_ne (pc := 15) hX 21 dX12_copy_15 (by decide) (fun h8 => ?_) (fun h8 => ?_)
    · refine z_aload_n (pc := 21) hX 0 dX12_copy_21 rfl rfl ?_
      refine z_get (pc := 22) hX zc12 26 (by decide) wd1043 rfl rfl dX12_copy_22 (fun v9 => ?_)
      refine z_iload_n (pc := 25) hX 1 dX12_copy_25 rfl rfl ?_
      refine z_iald (pc := 26) hX dX12_copy_26 (fun v10 => ?_)
      refine z_iconst (pc := 27) hX dX12_copy_27 ?_
      refine z_icmp_eq (pc := 28) hX 41 dX12_copy_28 (by decide) (fun h11 => ?_) (fun h11 => ?_)
      · refine z_bipush (pc := 41) hX dX12_copy_41 ?_
        exact z_iret (pc := 43) hX hR hk dX12_copy_43
      · refine z_aload_n (pc := 31) hX 0 dX12_copy_31 rfl rfl ?_
        refine z_get (pc := 32) hX zc12 26 (by decide) wd1043 rfl rfl dX12_copy_32 (fun v12 => ?_)
        refine z_iload_n (pc := 35) hX 3 dX12_copy_35 rfl rfl ?_
        refine z_iald (pc := 36) hX dX12_copy_36 (fun v13 => ?_)
        refine z_iconst (pc := 37) hX dX12_copy_37 ?_
        refine z_icmp_ne (pc := 38) hX 44 dX12_copy_38 (by decide) (fun h14 => ?_) (fun h14 => ?_)
        · refine z_aload_n (pc := 44) hX 0 dX12_copy_44 rfl rfl ?_
          refine z_get (pc := 45) hX zc12 26 (by decide) wd1043 rfl rfl dX12_copy_45 (fun v15 => ?_)
          refine z_iload_n (pc := 48) hX 1 dX12_copy_48 rfl rfl ?_
          refine z_iald (pc := 49) hX dX12_copy_49 (fun v16 => ?_)
          refine z_aload_n (pc := 50) hX 0 dX12_copy_50 rfl rfl ?_
          refine z_get (pc := 51) hX zc12 26 (by decide) wd1043 rfl rfl dX12_copy_51 (fun v17 => ?_)
          refine z_iload_n (pc := 54) hX 3 dX12_copy_54 rfl rfl ?_
          refine z_iald (pc := 55) hX dX12_copy_55 (fun v18 => ?_)
          refine z_icmp_eq (pc := 56) hX 62 dX12_copy_56 (by decide) (fun h19 => ?_) (fun h19 => ?_)
          · refine z_iload (pc := 62) hX 5 dX12_copy_62 rfl ?_
            refine z_if_lt (pc := 64) hX 124 dX12_copy_64 (by decide) (fun h20 => ?_) (fun h20 => ?_)
            · refine z_bipush (pc := 124) hX dX12_copy_124 ?_
              exact z_iret (pc := 126) hX hR hk dX12_copy_126
            · refine z_iload_n (pc := 67) hX 2 dX12_copy_67 rfl rfl ?_
              refine z_if_lt (pc := 68) hX 124 dX12_copy_68 (by decide) (fun h21 => ?_) (fun h21 => ?_)
              · refine z_bipush (pc := 124) hX dX12_copy_124 ?_
                exact z_iret (pc := 126) hX hR hk dX12_copy_126
              · refine z_iload (pc := 71) hX 4 dX12_copy_71 rfl ?_
                refine z_if_lt (pc := 73) hX 124 dX12_copy_73 (by decide) (fun h22 => ?_) (fun h22 => ?_)
                · refine z_bipush (pc := 124) hX dX12_copy_124 ?_
                  exact z_iret (pc := 126) hX hR hk dX12_copy_126
                · refine z_iload_n (pc := 76) hX 2 dX12_copy_76 rfl rfl ?_
                  refine z_aload_n (pc := 77) hX 0 dX12_copy_77 rfl rfl ?_
                  refine z_get (pc := 78) hX zc12 27 (by decide) wd1044 rfl rfl dX12_copy_78 (fun v23 => ?_)
                  refine z_iload_n (pc := 81) hX 1 dX12_copy_81 rfl rfl ?_
                  refine z_iald (pc := 82) hX dX12_copy_82 (fun v24 => ?_)
                  refine z_icmp_gt (pc := 83) hX 124 dX12_copy_83 (by decide) (fun h25 => ?_) (fun h25 => ?_)
                  · refine z_bipush (pc := 124) hX dX12_copy_124 ?_
                    exact z_iret (pc := 126) hX hR hk dX12_copy_126
                  · refine z_iload (pc := 86) hX 4 dX12_copy_86 rfl ?_
                    refine z_aload_n (pc := 88) hX 0 dX12_copy_88 rfl rfl ?_
                    refine z_get (pc := 89) hX zc12 27 (by decide) wd1044 rfl rfl dX12_copy_89 (fun v26 => ?_)
                    refine z_iload_n (pc := 92) hX 3 dX12_copy_92 rfl rfl ?_
                    refine z_iald (pc := 93) hX dX12_copy_93 (fun v27 => ?_)
                    refine z_icmp_gt (pc := 94) hX 124 dX12_copy_94 (by decide) (fun h28 => ?_) (fun h28 => ?_)
                    · refine z_bipush (pc := 124) hX dX12_copy_124 ?_
                      exact z_iret (pc := 126) hX hR hk dX12_copy_126
                    · refine z_iload (pc := 97) hX 5 dX12_copy_97 rfl ?_
                      refine z_aload_n (pc := 99) hX 0 dX12_copy_99 rfl rfl ?_
                      refine z_get (pc := 100) hX zc12 27 (by decide) wd1044 rfl rfl dX12_copy_100 (fun v29 => ?_)
                      refine z_iload_n (pc := 103) hX 1 dX12_copy_103 rfl rfl ?_
                      refine z_iald (pc := 104) hX dX12_copy_104 (fun v30 => ?_)
                      refine z_iload_n (pc := 105) hX 2 dX12_copy_105 rfl rfl ?_
                      refine z_isub (pc := 106) hX dX12_copy_106 ?_
                      refine z_icmp_gt (pc := 107) hX 124 dX12_copy_107 (by decide) (fun h31 => ?_) (fun h31 => ?_)
                      · refine z_bipush (pc := 124) hX dX12_copy_124 ?_
                        exact z_iret (pc := 126) hX hR hk dX12_copy_126
                      · refine z_iload (pc := 110) hX 5 dX12_copy_110 rfl ?_
                        refine z_aload_n (pc := 112) hX 0 dX12_copy_112 rfl rfl ?_
                        refine z_get (pc := 113) hX zc12 27 (by decide) wd1044 rfl rfl dX12_copy_113 (fun v32 => ?_)
                        refine z_iload_n (pc := 116) hX 3 dX12_copy_116 rfl rfl ?_
                        refine z_iald (pc := 117) hX dX12_copy_117 (fun v33 => ?_)
                        refine z_iload (pc := 118) hX 4 dX12_copy_118 rfl ?_
                        refine z_isub (pc := 120) hX dX12_copy_120 ?_
                        refine z_icmp_le (pc := 121) hX 127 dX12_copy_121 (by decide) (fun h34 => ?_) (fun h34 => ?_)
                        · refine z_bipush (pc := 127) hX dX12_copy_127 ?_
                          refine z_iload_n (pc := 129) hX 1 dX12_copy_129 rfl rfl ?_
                          refine z_imul (pc := 130) hX dX12_copy_130 ?_
                          refine z_iload_n (pc := 131) hX 2 dX12_copy_131 rfl rfl ?_
                          refine z_iadd (pc := 132) hX dX12_copy_132 ?_
                          refine z_istore (lv' := [(6, (0, (wrap ((wrap (40 * a1)) + a2)))), (0, (2, a0)), (1, (0, a1)), (2, (0, a2)), (3, (0, a3)), (4, (0, a4)), (5, (0, a5))]) (pc := 133) hX dX12_copy_133 (zlt hxn rfl) rfl ?_
                          refine z_bipush (pc := 135) hX dX12_copy_135 ?_
                          refine z_iload_n (pc := 137) hX 4 dX12_copy_137 rfl rfl ?_
                          refine z_imul (pc := 138) hX dX12_copy_138 ?_
                          refine z_iload (pc := 139) hX 5 dX12_copy_139 rfl ?_
                          refine z_iadd (pc := 141) hX dX12_copy_141 ?_
                          refine z_istore (lv' := [(7, (0, (wrap ((wrap (40 * a3)) + a4)))), (6, (0, (wrap ((wrap (40 * a1)) + a2)))), (0, (2, a0)), (1, (0, a1)), (2, (0, a2)), (3, (0, a3)), (4, (0, a4)), (5, (0, a5))]) (pc := 142) hX dX12_copy_142 (zlt hxn rfl) rfl ?_
                          refine z_iconst (pc := 144) hX dX12_copy_144 ?_
                          refine z_istore (lv' := [(8, (0, 0)), (7, (0, (wrap ((wrap (40 * a3)) + a4)))), (6, (0, (wrap ((wrap (40 * a1)) + a2)))), (0, (2, a0)), (1, (0, a1)), (2, (0, a2)), (3, (0, a3)), (4, (0, a4)), (5, (0, a5))]) (pc := 145) hX dX12_copy_145 (zlt hxn rfl) rfl ?_
                          have hl147 : ∀ (u36 u37 u38 u39 : Int), ∀ (n1 : Nat) (s35 : ZS) (x40 : Int), Zj X G 147 [(0, (2, u36)), (5, (0, u37)), (6, (0, u38)), (7, (0, u39)), (8, (0, x40))] [] s35 (lX12_copy_147 u36 u37 u38 u39 n1 s35 x40) := by
                            intro u36 u37 u38 u39 n1
                            induction n1 with
                            | zero => intro _ _; exact z_none
                            | succ n1 ih1 =>
                              intro s35 x40
                              rw [lX12_copy_147]
                              refine z_iload (pc := 147) hX 4 dX12_copy_147 rfl ?_
                              refine z_iload (pc := 149) hX 1 dX12_copy_149 rfl ?_
                              refine z_icmp_ge (pc := 151) hX 201 dX12_copy_151 (by decide) (fun h41 => ?_) (fun h41 => ?_)
                              · refine z_iload (pc := 201) hX 1 dX12_copy_201 rfl ?_
                                exact z_iret (pc := 203) hX hR hk dX12_copy_203
                              · refine z_iload (pc := 154) hX 2 dX12_copy_154 rfl ?_
                                refine z_iload (pc := 156) hX 3 dX12_copy_156 rfl ?_
                                refine z_jn (fun K173 eK173 => ?_)
                                have hK173 : ∀ (s43 : ZS) (w44 : Int), Zj X G 173 [(0, (2, u36)), (5, (0, u37)), (6, (0, u38)), (7, (0, u39)), (8, (0, x40))] [(0, w44)] s43 (K173 s43 w44) := by
                                  intro s43 w44
                                  rw [eK173]
                                  refine z_istore (lv' := [(9, (0, w44)), (0, (2, u36)), (5, (0, u37)), (6, (0, u38)), (7, (0, u39)), (8, (0, x40))]) (pc := 173) hX dX12_copy_173 (zlt hxn rfl) rfl ?_
                                  refine z_aload_n (pc := 175) hX 1 dX12_copy_175 rfl rfl ?_
                                  refine z_get (pc := 176) hX zc12 28 (by decide) wd1045 rfl rfl dX12_copy_176 (fun v45 => ?_)
                                  refine z_iload (pc := 179) hX 4 dX12_copy_179 rfl ?_
                                  refine z_iload (pc := 181) hX 0 dX12_copy_181 rfl ?_
                                  refine z_iadd (pc := 183) hX dX12_copy_183 ?_
                                  refine z_aload_n (pc := 184) hX 1 dX12_copy_184 rfl rfl ?_
                                  refine z_get (pc := 185) hX zc12 28 (by decide) wd1045 rfl rfl dX12_copy_185 (fun v46 => ?_)
                                  refine z_iload (pc := 188) hX 3 dX12_copy_188 rfl ?_
                                  refine z_iload (pc := 190) hX 0 dX12_copy_190 rfl ?_
                                  refine z_iadd (pc := 192) hX dX12_copy_192 ?_
                                  refine z_iald (pc := 193) hX dX12_copy_193 (fun v47 => ?_)
                                  refine z_iastA (pc := 194) hX dX12_copy_194 (fun s48 => ?_)
                                  refine z_iinc (lv' := [(8, (0, (wrap (x40 + 1)))), (9, (0, w44)), (0, (2, u36)), (5, (0, u37)), (6, (0, u38)), (7, (0, u39))]) (pc := 195) hX 5 dX12_copy_195 rfl (zlt hxn rfl) rfl ?_
                                  refine z_goto (pc := 198) hX 147 dX12_copy_198 (by decide) ?_
                                  refine z_pick (lv' := [(0, (2, u36)), (5, (0, u37)), (6, (0, u38)), (7, (0, u39)), (8, (0, (wrap (x40 + 1))))]) [2, 3, 4, 5, 0] rfl ?_
                                  exact ih1 _ _
                                clear eK173
                                refine z_icmp_ge (pc := 158) hX 171 dX12_copy_158 (by decide) (fun h42 => ?_) (fun h42 => ?_)
                                · refine z_iload (pc := 171) hX 4 dX12_copy_171 rfl ?_
                                  exact hK173 _ _
                                · refine z_iload (pc := 161) hX 1 dX12_copy_161 rfl ?_
                                  refine z_iconst (pc := 163) hX dX12_copy_163 ?_
                                  refine z_isub (pc := 164) hX dX12_copy_164 ?_
                                  refine z_iload (pc := 165) hX 4 dX12_copy_165 rfl ?_
                                  refine z_isub (pc := 167) hX dX12_copy_167 ?_
                                  refine z_goto (pc := 168) hX 173 dX12_copy_168 (by decide) ?_
                                  exact hK173 _ _
                          refine z_pick (lv' := [(0, (2, a0)), (5, (0, a5)), (6, (0, (wrap ((wrap (40 * a1)) + a2)))), (7, (0, (wrap ((wrap (40 * a3)) + a4)))), (8, (0, 0))]) [3, 8, 2, 1, 0] rfl ?_
                          refine hl147 _ _ _ _ 1000 _ _
                        · refine z_bipush (pc := 124) hX dX12_copy_124 ?_
                          exact z_iret (pc := 126) hX hR hk dX12_copy_126
          · refine z_bipush (pc := 59) hX dX12_copy_59 ?_
            exact z_iret (pc := 61) hX hR hk dX12_copy_61
        · refine z_bipush (pc := 41) hX dX12_copy_41 ?_
          exact z_iret (pc := 43) hX hR hk dX12_copy_43
    · refine z_bipush (pc := 18) hX dX12_copy_18 ?_
      exact z_iret (pc := 20) hX hR hk dX12_copy_20
