theorem dX11_newWay_0 : decode cX11_newWay 0 = .ok (.iload_n 0, 1) := by decide +kernel
theorem dX11_newWay_1 : decode cX11_newWay 1 = .ok (.tableswitch 80 1 5 #[35, 44, 53, 62, 71], 35) := by decide +kernel
theorem dX11_newWay_36 : decode cX11_newWay 36 = .ok (.new 292, 3) := by decide +kernel
theorem dX11_newWay_39 : decode cX11_newWay 39 = .ok (.dup, 1) := by decide +kernel
theorem dX11_newWay_40 : decode cX11_newWay 40 = .ok (.iload_n 1, 1) := by decide +kernel
theorem dX11_newWay_41 : decode cX11_newWay 41 = .ok (.invokespecial 294, 3) := by decide +kernel
theorem dX11_newWay_44 : decode cX11_newWay 44 = .ok (.areturn, 1) := by decide +kernel
theorem dX11_newWay_45 : decode cX11_newWay 45 = .ok (.new 297, 3) := by decide +kernel
theorem dX11_newWay_48 : decode cX11_newWay 48 = .ok (.dup, 1) := by decide +kernel
theorem dX11_newWay_49 : decode cX11_newWay 49 = .ok (.iload_n 1, 1) := by decide +kernel
theorem dX11_newWay_50 : decode cX11_newWay 50 = .ok (.invokespecial 299, 3) := by decide +kernel
theorem dX11_newWay_53 : decode cX11_newWay 53 = .ok (.areturn, 1) := by decide +kernel
theorem dX11_newWay_54 : decode cX11_newWay 54 = .ok (.new 300, 3) := by decide +kernel
theorem dX11_newWay_57 : decode cX11_newWay 57 = .ok (.dup, 1) := by decide +kernel
theorem dX11_newWay_58 : decode cX11_newWay 58 = .ok (.iload_n 1, 1) := by decide +kernel
theorem dX11_newWay_59 : decode cX11_newWay 59 = .ok (.invokespecial 302, 3) := by decide +kernel
theorem dX11_newWay_62 : decode cX11_newWay 62 = .ok (.areturn, 1) := by decide +kernel
theorem dX11_newWay_63 : decode cX11_newWay 63 = .ok (.new 303, 3) := by decide +kernel
theorem dX11_newWay_66 : decode cX11_newWay 66 = .ok (.dup, 1) := by decide +kernel
theorem dX11_newWay_67 : decode cX11_newWay 67 = .ok (.iload_n 1, 1) := by decide +kernel
theorem dX11_newWay_68 : decode cX11_newWay 68 = .ok (.invokespecial 305, 3) := by decide +kernel
theorem dX11_newWay_71 : decode cX11_newWay 71 = .ok (.areturn, 1) := by decide +kernel
theorem dX11_newWay_72 : decode cX11_newWay 72 = .ok (.new 306, 3) := by decide +kernel
theorem dX11_newWay_75 : decode cX11_newWay 75 = .ok (.dup, 1) := by decide +kernel
theorem dX11_newWay_76 : decode cX11_newWay 76 = .ok (.iload_n 1, 1) := by decide +kernel
theorem dX11_newWay_77 : decode cX11_newWay 77 = .ok (.invokespecial 308, 3) := by decide +kernel
theorem dX11_newWay_80 : decode cX11_newWay 80 = .ok (.areturn, 1) := by decide +kernel
theorem dX11_newWay_81 : decode cX11_newWay 81 = .ok (.new 21, 3) := by decide +kernel
theorem dX11_newWay_84 : decode cX11_newWay 84 = .ok (.dup, 1) := by decide +kernel
theorem dX11_newWay_85 : decode cX11_newWay 85 = .ok (.iload_n 1, 1) := by decide +kernel
theorem dX11_newWay_86 : decode cX11_newWay 86 = .ok (.invokespecial 309, 3) := by decide +kernel
theorem dX11_newWay_89 : decode cX11_newWay 89 = .ok (.areturn, 1) := by decide +kernel
def fX11_newWay (s0 : ZS) (a0 : Int) (a1 : Int) : Option (Int × ZS) := if a0 = 1 then (if (sN s0 : Int) < 0 then none else (zb (fX9_init (znew s0 9 3) (sN s0 : Int) a1) (fun v2 s3 => some ((sN s0 : Int), s3)))) else (if a0 = 2 then (if (sN s0 : Int) < 0 then none else (zb (fX3_init (znew s0 3 3) (sN s0 : Int) a1) (fun v6 s7 => some ((sN s0 : Int), s7)))) else (if a0 = 3 then (if (sN s0 : Int) < 0 then none else (zb (fX0_init (znew s0 0 3) (sN s0 : Int) a1) (fun v10 s11 => some ((sN s0 : Int), s11)))) else (if a0 = 4 then (if (sN s0 : Int) < 0 then none else (zb (fX1_init (znew s0 1 3) (sN s0 : Int) a1) (fun v14 s15 => some ((sN s0 : Int), s15)))) else (if a0 = 5 then (if (sN s0 : Int) < 0 then none else (zb (fX7_init (znew s0 7 3) (sN s0 : Int) a1) (fun v18 s19 => some ((sN s0 : Int), s19)))) else (if (sN s0 : Int) < 0 then none else (zb (fX10_init (znew s0 10 3) (sN s0 : Int) a1) (fun v21 s22 => some ((sN s0 : Int), s22))))))))
set_option maxHeartbeats 4000000 in
set_option maxRecDepth 100000 in
theorem mX11_newWay (E : ZE) (hE : zOkE E) (l : Launch) (s0 : ZS) (a0 : Int) (a1 : Int) : Ct E l yX11_newWay cX11_newWay 2 (some (.object "GateRoad$Way")) 8 [(0, a0), (0, a1)] 3 s0 (fX11_newWay s0 a0 a1) := by
  refine Ct.of (by decide) hE (Nat.le_of_ble_eq_true rfl) ?_
  intro X G hX hR hN hXE hXl hxn hk _
  subst hXE
  subst hXl
  have hX : G → ZOk X cX11_newWay RX11 8 := hX
  clear hN
  show Zj X G 0 [(0, (0, a0)), (1, (0, a1))] [] s0 _
  unfold fX11_newWay
  refine z_iload_n (pc := 0) hX 0 dX11_newWay_0 rfl rfl ?_
  by_cases h1 : a0 = 1
  · refine z_eq (if_pos h1) ?_
    refine z_tswIn (pc := 1) hX 36 dX11_newWay_1 h1 (by decide) (by decide) rfl (by decide) ?_
    refine z_new (pc := 36) hX zc9 (by decide) wd606 wd607 wd77 dX11_newWay_36 ?_
    refine z_dup (pc := 39) hX zn2 dX11_newWay_39 ?_
    refine z_iload_n (pc := 40) hX 1 dX11_newWay_40 rfl rfl ?_
    refine z_callI (n := 1) (st := [(2, (sN s0 : Int))]) (pc := 41) hX rfl (mX9_init _ hE _ _ _ _) ⟨wd608, wd77, wd610, ⟨by decide, by decide, by decide⟩, by decide⟩ rfl wd609 rfl rfl (by decide) (Nat.le_of_ble_eq_true rfl) dX11_newWay_41 (fun v2 s3 r4 => ?_)
    show Zj X G 44 [(0, (0, a0)), (1, (0, a1))] [(2, (sN s0 : Int))] _ _
    exact z_aret (pc := 44) hX hR (Or.inl ⟨_, rfl⟩) hk dX11_newWay_44
  · refine z_eq (if_neg h1) ?_
    by_cases h5 : a0 = 2
    · refine z_eq (if_pos h5) ?_
      refine z_tswIn (pc := 1) hX 45 dX11_newWay_1 h5 (by decide) (by decide) rfl (by decide) ?_
      refine z_new (pc := 45) hX zc3 (by decide) wd630 wd631 wd78 dX11_newWay_45 ?_
      refine z_dup (pc := 48) hX zn2 dX11_newWay_48 ?_
      refine z_iload_n (pc := 49) hX 1 dX11_newWay_49 rfl rfl ?_
      refine z_callI (n := 1) (st := [(2, (sN s0 : Int))]) (pc := 50) hX rfl (mX3_init _ hE _ _ _ _) ⟨wd632, wd78, wd634, ⟨by decide, by decide, by decide⟩, by decide⟩ rfl wd633 rfl rfl (by decide) (Nat.le_of_ble_eq_true rfl) dX11_newWay_50 (fun v6 s7 r8 => ?_)
      show Zj X G 53 [(0, (0, a0)), (1, (0, a1))] [(2, (sN s0 : Int))] _ _
      exact z_aret (pc := 53) hX hR (Or.inl ⟨_, rfl⟩) hk dX11_newWay_53
    · refine z_eq (if_neg h5) ?_
      by_cases h9 : a0 = 3
      · refine z_eq (if_pos h9) ?_
        refine z_tswIn (pc := 1) hX 54 dX11_newWay_1 h9 (by decide) (by decide) rfl (by decide) ?_
        refine z_new (pc := 54) hX zc0 (by decide) wd640 wd641 wd79 dX11_newWay_54 ?_
        refine z_dup (pc := 57) hX zn2 dX11_newWay_57 ?_
        refine z_iload_n (pc := 58) hX 1 dX11_newWay_58 rfl rfl ?_
        refine z_callI (n := 1) (st := [(2, (sN s0 : Int))]) (pc := 59) hX rfl (mX0_init _ hE _ _ _ _) ⟨wd642, wd79, wd644, ⟨by decide, by decide, by decide⟩, by decide⟩ rfl wd643 rfl rfl (by decide) (Nat.le_of_ble_eq_true rfl) dX11_newWay_59 (fun v10 s11 r12 => ?_)
        show Zj X G 62 [(0, (0, a0)), (1, (0, a1))] [(2, (sN s0 : Int))] _ _
        exact z_aret (pc := 62) hX hR (Or.inl ⟨_, rfl⟩) hk dX11_newWay_62
      · refine z_eq (if_neg h9) ?_
        by_cases h13 : a0 = 4
        · refine z_eq (if_pos h13) ?_
          refine z_tswIn (pc := 1) hX 63 dX11_newWay_1 h13 (by decide) (by decide) rfl (by decide) ?_
          refine z_new (pc := 63) hX zc1 (by decide) wd650 wd651 wd80 dX11_newWay_63 ?_
          refine z_dup (pc := 66) hX zn2 dX11_newWay_66 ?_
          refine z_iload_n (pc := 67) hX 1 dX11_newWay_67 rfl rfl ?_
          refine z_callI (n := 1) (st := [(2, (sN s0 : Int))]) (pc := 68) hX rfl (mX1_init _ hE _ _ _ _) ⟨wd652, wd80, wd654, ⟨by decide, by decide, by decide⟩, by decide⟩ rfl wd653 rfl rfl (by decide) (Nat.le_of_ble_eq_true rfl) dX11_newWay_68 (fun v14 s15 r16 => ?_)
          show Zj X G 71 [(0, (0, a0)), (1, (0, a1))] [(2, (sN s0 : Int))] _ _
          exact z_aret (pc := 71) hX hR (Or.inl ⟨_, rfl⟩) hk dX11_newWay_71
        · refine z_eq (if_neg h13) ?_
          by_cases h17 : a0 = 5
          · refine z_eq (if_pos h17) ?_
            refine z_tswIn (pc := 1) hX 72 dX11_newWay_1 h17 (by decide) (by decide) rfl (by decide) ?_
            refine z_new (pc := 72) hX zc7 (by decide) wd660 wd661 wd81 dX11_newWay_72 ?_
            refine z_dup (pc := 75) hX zn2 dX11_newWay_75 ?_
            refine z_iload_n (pc := 76) hX 1 dX11_newWay_76 rfl rfl ?_
            refine z_callI (n := 1) (st := [(2, (sN s0 : Int))]) (pc := 77) hX rfl (mX7_init _ hE _ _ _ _) ⟨wd662, wd81, wd664, ⟨by decide, by decide, by decide⟩, by decide⟩ rfl wd663 rfl rfl (by decide) (Nat.le_of_ble_eq_true rfl) dX11_newWay_77 (fun v18 s19 r20 => ?_)
            show Zj X G 80 [(0, (0, a0)), (1, (0, a1))] [(2, (sN s0 : Int))] _ _
            exact z_aret (pc := 80) hX hR (Or.inl ⟨_, rfl⟩) hk dX11_newWay_80
          · refine z_eq (if_neg h17) ?_
            refine z_tswOut (pc := 1) hX 81 dX11_newWay_1 (by omega) (by decide) ?_
            refine z_new (pc := 81) hX zc10 (by decide) wd190 wd670 wd76 dX11_newWay_81 ?_
            refine z_dup (pc := 84) hX zn2 dX11_newWay_84 ?_
            refine z_iload_n (pc := 85) hX 1 dX11_newWay_85 rfl rfl ?_
            refine z_callI (n := 1) (st := [(2, (sN s0 : Int))]) (pc := 86) hX rfl (mX10_init _ hE _ _ _ _) ⟨wd671, wd76, wd613, ⟨by decide, by decide, by decide⟩, by decide⟩ rfl wd612 rfl rfl (by decide) (Nat.le_of_ble_eq_true rfl) dX11_newWay_86 (fun v21 s22 r23 => ?_)
            show Zj X G 89 [(0, (0, a0)), (1, (0, a1))] [(2, (sN s0 : Int))] _ _
            exact z_aret (pc := 89) hX hR (Or.inl ⟨_, rfl⟩) hk dX11_newWay_89

theorem dX11_way_0 : decode cX11_way 0 = .ok (.iload_n 1, 1) := by decide +kernel
theorem dX11_way_1 : decode cX11_way 1 = .ok (.iconst 5, 1) := by decide +kernel
theorem dX11_way_2 : decode cX11_way 2 = .ok (.invokestatic 102, 3) := by decide +kernel
theorem dX11_way_5 : decode cX11_way 5 = .ok (.ifCond .eq 10, 3) := by decide +kernel
theorem dX11_way_8 : decode cX11_way 8 = .ok (.iload_n 2, 1) := by decide +kernel
theorem dX11_way_9 : decode cX11_way 9 = .ok (.invokestatic 148, 3) := by decide +kernel
theorem dX11_way_12 : decode cX11_way 12 = .ok (.ifCond .ne 6, 3) := by decide +kernel
theorem dX11_way_15 : decode cX11_way 15 = .ok (.bipush (-2), 2) := by decide +kernel
theorem dX11_way_17 : decode cX11_way 17 = .ok (.ireturn, 1) := by decide +kernel
theorem dX11_way_18 : decode cX11_way 18 = .ok (.aload_n 0, 1) := by decide +kernel
theorem dX11_way_19 : decode cX11_way 19 = .ok (.getfield 52, 3) := by decide +kernel
theorem dX11_way_22 : decode cX11_way 22 = .ok (.iload_n 2, 1) := by decide +kernel
theorem dX11_way_23 : decode cX11_way 23 = .ok (.aaload, 1) := by decide +kernel
theorem dX11_way_24 : decode cX11_way 24 = .ok (.astore_n 3, 1) := by decide +kernel
theorem dX11_way_25 : decode cX11_way 25 = .ok (.aload_n 3, 1) := by decide +kernel
theorem dX11_way_26 : decode cX11_way 26 = .ok (.invokevirtual 151, 3) := by decide +kernel
theorem dX11_way_29 : decode cX11_way 29 = .ok (.ifCond .eq 6, 3) := by decide +kernel
theorem dX11_way_32 : decode cX11_way 32 = .ok (.bipush (-11), 2) := by decide +kernel
theorem dX11_way_34 : decode cX11_way 34 = .ok (.ireturn, 1) := by decide +kernel
theorem dX11_way_35 : decode cX11_way 35 = .ok (.aload_n 3, 1) := by decide +kernel
theorem dX11_way_36 : decode cX11_way 36 = .ok (.getfield 155, 3) := by decide +kernel
theorem dX11_way_39 : decode cX11_way 39 = .ok (.aload_n 0, 1) := by decide +kernel
theorem dX11_way_40 : decode cX11_way 40 = .ok (.getfield 20, 3) := by decide +kernel
theorem dX11_way_43 : decode cX11_way 43 = .ok (.getfield 128, 3) := by decide +kernel
theorem dX11_way_46 : decode cX11_way 46 = .ok (.if_icmp .ne 10, 3) := by decide +kernel
theorem dX11_way_49 : decode cX11_way 49 = .ok (.aload_n 3, 1) := by decide +kernel
theorem dX11_way_50 : decode cX11_way 50 = .ok (.invokestatic 156, 3) := by decide +kernel
theorem dX11_way_53 : decode cX11_way 53 = .ok (.ifCond .ne 6, 3) := by decide +kernel
theorem dX11_way_56 : decode cX11_way 56 = .ok (.bipush (-2), 2) := by decide +kernel
theorem dX11_way_58 : decode cX11_way 58 = .ok (.ireturn, 1) := by decide +kernel
theorem dX11_way_59 : decode cX11_way 59 = .ok (.aload_n 0, 1) := by decide +kernel
theorem dX11_way_60 : decode cX11_way 60 = .ok (.getfield 27, 3) := by decide +kernel
theorem dX11_way_63 : decode cX11_way 63 = .ok (.bipush 8, 2) := by decide +kernel
theorem dX11_way_65 : decode cX11_way 65 = .ok (.if_icmp .lt 6, 3) := by decide +kernel
theorem dX11_way_68 : decode cX11_way 68 = .ok (.bipush (-4), 2) := by decide +kernel
theorem dX11_way_70 : decode cX11_way 70 = .ok (.ireturn, 1) := by decide +kernel
theorem dX11_way_71 : decode cX11_way 71 = .ok (.iload_n 1, 1) := by decide +kernel
theorem dX11_way_72 : decode cX11_way 72 = .ok (.aload_n 0, 1) := by decide +kernel
theorem dX11_way_73 : decode cX11_way 73 = .ok (.getfield 20, 3) := by decide +kernel
theorem dX11_way_76 : decode cX11_way 76 = .ok (.getfield 128, 3) := by decide +kernel
theorem dX11_way_79 : decode cX11_way 79 = .ok (.invokestatic 160, 3) := by decide +kernel
theorem dX11_way_82 : decode cX11_way 82 = .ok (.astore 4, 2) := by decide +kernel
theorem dX11_way_84 : decode cX11_way 84 = .ok (.aload_n 3, 1) := by decide +kernel
theorem dX11_way_85 : decode cX11_way 85 = .ok (.getfield 164, 3) := by decide +kernel
theorem dX11_way_88 : decode cX11_way 88 = .ok (.iconst 0, 1) := by decide +kernel
theorem dX11_way_89 : decode cX11_way 89 = .ok (.aload 4, 2) := by decide +kernel
theorem dX11_way_91 : decode cX11_way 91 = .ok (.getfield 167, 3) := by decide +kernel
theorem dX11_way_94 : decode cX11_way 94 = .ok (.iconst 0, 1) := by decide +kernel
theorem dX11_way_95 : decode cX11_way 95 = .ok (.aload 4, 2) := by decide +kernel
theorem dX11_way_97 : decode cX11_way 97 = .ok (.getfield 170, 3) := by decide +kernel
theorem dX11_way_100 : decode cX11_way 100 = .ok (.invokestatic 171, 3) := by decide +kernel
theorem dX11_way_103 : decode cX11_way 103 = .ok (.aload_n 0, 1) := by decide +kernel
theorem dX11_way_104 : decode cX11_way 104 = .ok (.getfield 23, 3) := by decide +kernel
theorem dX11_way_107 : decode cX11_way 107 = .ok (.aload_n 0, 1) := by decide +kernel
theorem dX11_way_108 : decode cX11_way 108 = .ok (.getfield 27, 3) := by decide +kernel
theorem dX11_way_111 : decode cX11_way 111 = .ok (.aload 4, 2) := by decide +kernel
theorem dX11_way_113 : decode cX11_way 113 = .ok (.aastore, 1) := by decide +kernel
theorem dX11_way_114 : decode cX11_way 114 = .ok (.aload_n 0, 1) := by decide +kernel
theorem dX11_way_115 : decode cX11_way 115 = .ok (.dup, 1) := by decide +kernel
theorem dX11_way_116 : decode cX11_way 116 = .ok (.getfield 27, 3) := by decide +kernel
theorem dX11_way_119 : decode cX11_way 119 = .ok (.iconst 1, 1) := by decide +kernel
theorem dX11_way_120 : decode cX11_way 120 = .ok (.iadd, 1) := by decide +kernel
theorem dX11_way_121 : decode cX11_way 121 = .ok (.putfield 27, 3) := by decide +kernel
theorem dX11_way_124 : decode cX11_way 124 = .ok (.aload_n 0, 1) := by decide +kernel
theorem dX11_way_125 : decode cX11_way 125 = .ok (.getfield 27, 3) := by decide +kernel
theorem dX11_way_128 : decode cX11_way 128 = .ok (.iconst 1, 1) := by decide +kernel
theorem dX11_way_129 : decode cX11_way 129 = .ok (.isub, 1) := by decide +kernel
theorem dX11_way_130 : decode cX11_way 130 = .ok (.ireturn, 1) := by decide +kernel
def fX11_way (s0 : ZS) (a0 : Int) (a1 : Int) (a2 : Int) : Option (Int × ZS) := zb (fX11_within s0 a1 5) (fun v1 s2 => if v1 = 0 then (some ((-2), s2)) else (zb (fX11_isSheet s2 a2) (fun v5 s6 => if v5 = 0 then (some ((-2), s6)) else ((zg s6 11 a0 8).bind (fun v9 => (zal s6 105 v9 a2).bind (fun v10 => zb (zv s6 6 v10 (fX6_isMissing s6 v10)) (fun v11 s12 => if v11 = 0 then ((zg s12 6 v10 2).bind (fun v15 => (zg s12 11 a0 1).bind (fun v16 => (zg s12 5 v16 7).bind (fun v17 => if v15 = v17 then (zb (fX11_holdsChoices s12 v10) (fun v19 s20 => if v19 = 0 then (some ((-2), s20)) else ((zg s20 11 a0 3).bind (fun v23 => if v23 < 8 then ((zg s20 11 a0 1).bind (fun v25 => (zg s20 5 v25 7).bind (fun v26 => zb (fX11_newWay s20 a1 v26) (fun v27 s28 => (zg s28 6 v10 0).bind (fun v30 => (zgw s28 v27 1).bind (fun v31 => (zgw s28 v27 0).bind (fun v32 => (zcp s28 v30 0 v31 0 v32).bind (fun s33 => (zg s33 11 a0 2).bind (fun v34 => (zg s33 11 a0 3).bind (fun v35 => (zar s33 103 v34 v35 okW v27).bind (fun s36 => (zg s36 11 a0 3).bind (fun v37 => (zp s36 11 a0 3 (wrap (v37 + 1))).bind (fun s38 => (zg s38 11 a0 3).bind (fun v39 => some ((wrap (v39 - 1)), s38))))))))))))))) else (some ((-4), s20)))))) else (some ((-2), s12)))))) else (some ((-11), s12)))))))))
set_option maxHeartbeats 4000000 in
set_option maxRecDepth 100000 in
theorem mX11_way (E : ZE) (hE : zOkE E) (l : Launch) (s0 : ZS) (a0 : Int) (a1 : Int) (a2 : Int) : Ct E l yX11_way cX11_way 5 (some .int) 10 [(2, a0), (0, a1), (0, a2)] 1 s0 (fX11_way s0 a0 a1 a2) := by
  refine Ct.of (by decide) hE (Nat.le_of_ble_eq_true rfl) ?_
  intro X G hX hR hN hXE hXl hxn hk _
  subst hXE
  subst hXl
  have hX : G → ZOk X cX11_way RX11 10 := hX
  clear hN
  show Zj X G 0 [(0, (2, a0)), (1, (0, a1)), (2, (0, a2))] [] s0 _
  unfold fX11_way
  refine z_iload_n (pc := 0) hX 1 dX11_way_0 rfl rfl ?_
  refine z_iconst (pc := 1) hX dX11_way_1 ?_
  refine z_callS (n := 2) (st := []) (pc := 2) hX (mX11_within _ hE _ _ _ _) ⟨wd329, wd61, wd331, ⟨by decide, by decide, by decide⟩, by decide⟩ wd330 rfl rfl (by decide) (Nat.le_of_ble_eq_true rfl) dX11_way_2 (fun v1 s2 r3 => ?_)
  show Zj X G 5 [(0, (2, a0)), (1, (0, a1)), (2, (0, a2))] [(0, v1)] _ _
  refine z_if_eq (pc := 5) hX 15 dX11_way_5 (by decide) (fun h4 => ?_) (fun h4 => ?_)
  · refine z_bipush (pc := 15) hX dX11_way_15 ?_
    exact z_iret (pc := 17) hX hR hk dX11_way_17
  · refine z_iload_n (pc := 8) hX 2 dX11_way_8 rfl rfl ?_
    refine z_callS (n := 1) (st := []) (pc := 9) hX (mX11_isSheet _ hE _ _ _) ⟨wd593, wd61, wd595, ⟨by decide, by decide, by decide⟩, by decide⟩ wd594 rfl rfl (by decide) (Nat.le_of_ble_eq_true rfl) dX11_way_9 (fun v5 s6 r7 => ?_)
    show Zj X G 12 [(0, (2, a0)), (1, (0, a1)), (2, (0, a2))] [(0, v5)] _ _
    refine z_if_ne (pc := 12) hX 18 dX11_way_12 (by decide) (fun h8 => ?_) (fun h8 => ?_)
    · refine z_aload_n (pc := 18) hX 0 dX11_way_18 rfl rfl ?_
      refine z_get (pc := 19) hX zc11 8 (by decide) wd278 rfl rfl dX11_way_19 (fun v9 => ?_)
      refine z_iload_n (pc := 22) hX 2 dX11_way_22 rfl rfl ?_
      refine z_aald (pc := 23) hX 5 105 (by decide) rfl rfl dX11_way_23 (fun v10 => ?_)
      refine z_astore_n (lv' := [(3, (2, v10)), (0, (2, a0)), (1, (0, a1)), (2, (0, a2))]) (pc := 24) hX dX11_way_24 rfl (zlt hxn rfl) rfl ?_
      refine z_aload_n (pc := 25) hX 0 dX11_way_25 rfl rfl ?_
      refine z_callV (n := 0) (st := []) (pc := 26) hX zc6 rfl (fun _ => (mX6_isMissing _ hE _ _ _)) ⟨wd596, wd66, wd599, ⟨by decide, by decide, by decide⟩, by decide⟩ rfl wd597 wd598 rfl rfl (by decide) (Nat.le_of_ble_eq_true rfl) dX11_way_26 (fun v11 s12 r13 => ?_)
      show Zj X G 29 [(3, (2, v10)), (0, (2, a0)), (1, (0, a1)), (2, (0, a2))] [(0, v11)] _ _
      refine z_if_eq (pc := 29) hX 35 dX11_way_29 (by decide) (fun h14 => ?_) (fun h14 => ?_)
      · refine z_aload_n (pc := 35) hX 0 dX11_way_35 rfl rfl ?_
        refine z_get (pc := 36) hX zc6 2 (by decide) wd262 rfl rfl dX11_way_36 (fun v15 => ?_)
        refine z_aload_n (pc := 39) hX 1 dX11_way_39 rfl rfl ?_
        refine z_get (pc := 40) hX zc11 1 (by decide) wd271 rfl rfl dX11_way_40 (fun v16 => ?_)
        refine z_get (pc := 43) hX zc5 7 (by decide) wd126 rfl rfl dX11_way_43 (fun v17 => ?_)
        refine z_icmp_ne (pc := 46) hX 56 dX11_way_46 (by decide) (fun h18 => ?_) (fun h18 => ?_)
        · refine z_bipush (pc := 56) hX dX11_way_56 ?_
          exact z_iret (pc := 58) hX hR hk dX11_way_58
        · refine z_aload_n (pc := 49) hX 0 dX11_way_49 rfl rfl ?_
          refine z_callS (n := 1) (st := []) (pc := 50) hX (mX11_holdsChoices _ hE _ _ _) ⟨wd600, wd61, wd602, ⟨by decide, by decide, by decide⟩, by decide⟩ wd601 rfl rfl (by decide) (Nat.le_of_ble_eq_true rfl) dX11_way_50 (fun v19 s20 r21 => ?_)
          show Zj X G 53 [(3, (2, v10)), (0, (2, a0)), (1, (0, a1)), (2, (0, a2))] [(0, v19)] _ _
          refine z_if_ne (pc := 53) hX 59 dX11_way_53 (by decide) (fun h22 => ?_) (fun h22 => ?_)
          · refine z_aload_n (pc := 59) hX 1 dX11_way_59 rfl rfl ?_
            refine z_get (pc := 60) hX zc11 3 (by decide) wd273 rfl rfl dX11_way_60 (fun v23 => ?_)
            refine z_bipush (pc := 63) hX dX11_way_63 ?_
            refine z_icmp_lt (pc := 65) hX 71 dX11_way_65 (by decide) (fun h24 => ?_) (fun h24 => ?_)
            · refine z_iload_n (pc := 71) hX 2 dX11_way_71 rfl rfl ?_
              refine z_aload_n (pc := 72) hX 1 dX11_way_72 rfl rfl ?_
              refine z_get (pc := 73) hX zc11 1 (by decide) wd271 rfl rfl dX11_way_73 (fun v25 => ?_)
              refine z_get (pc := 76) hX zc5 7 (by decide) wd126 rfl rfl dX11_way_76 (fun v26 => ?_)
              refine z_callS (n := 2) (st := []) (pc := 79) hX (mX11_newWay _ hE _ _ _ _) ⟨wd603, wd61, wd605, ⟨by decide, by decide, by decide⟩, by decide⟩ wd604 rfl rfl (by decide) (Nat.le_of_ble_eq_true rfl) dX11_way_79 (fun v27 s28 r29 => ?_)
              show Zj X G 82 [(3, (2, v10)), (0, (2, a0)), (1, (0, a1)), (2, (0, a2))] [(2, v27)] _ _
              refine z_astore (lv' := [(4, (2, v27)), (3, (2, v10)), (0, (2, a0)), (1, (0, a1)), (2, (0, a2))]) (pc := 82) hX dX11_way_82 (zlt hxn rfl) rfl ?_
              refine z_aload_n (pc := 84) hX 1 dX11_way_84 rfl rfl ?_
              refine z_get (pc := 85) hX zc6 0 (by decide) wd258 rfl rfl dX11_way_85 (fun v30 => ?_)
              refine z_iconst (pc := 88) hX dX11_way_88 ?_
              refine z_aload (pc := 89) hX 0 dX11_way_89 rfl ?_
              refine z_getw (pc := 91) hX zc10 zc9 zc3 zc0 zc1 zc7 1 (by decide) wd620 rfl rfl rfl rfl rfl rfl rfl rfl rfl rfl rfl rfl rfl dX11_way_91 (fun v31 => ?_)
              refine z_iconst (pc := 94) hX dX11_way_94 ?_
              refine z_aload (pc := 95) hX 0 dX11_way_95 rfl ?_
              refine z_getw (pc := 97) hX zc10 zc9 zc3 zc0 zc1 zc7 0 (by decide) wd617 rfl rfl rfl rfl rfl rfl rfl rfl rfl rfl rfl rfl rfl dX11_way_97 (fun v32 => ?_)
              refine z_acopy (pc := 100) hX (by decide) dX11_way_100 wd676 wd573 wd572 wd75 (Nat.le_of_ble_eq_true rfl) (fun s33 => ?_)
              refine z_aload_n (pc := 103) hX 2 dX11_way_103 rfl rfl ?_
              refine z_get (pc := 104) hX zc11 2 (by decide) wd272 rfl rfl dX11_way_104 (fun v34 => ?_)
              refine z_aload_n (pc := 107) hX 2 dX11_way_107 rfl rfl ?_
              refine z_get (pc := 108) hX zc11 3 (by decide) wd273 rfl rfl dX11_way_108 (fun v35 => ?_)
              refine z_aload (pc := 111) hX 0 dX11_way_111 rfl ?_
              refine z_aastA (pc := 113) hX 3 103 "GateRoad$Way" (by decide) rfl rfl okW okW_ok dX11_way_113 (fun s36 => ?_)
              refine z_aload_n (pc := 114) hX 2 dX11_way_114 rfl rfl ?_
              refine z_dup (pc := 115) hX zn2 dX11_way_115 ?_
              refine z_get (pc := 116) hX zc11 3 (by decide) wd273 rfl rfl dX11_way_116 (fun v37 => ?_)
              refine z_iconst (pc := 119) hX dX11_way_119 ?_
              refine z_iadd (pc := 120) hX dX11_way_120 ?_
              refine z_putA (pc := 121) hX zc11 3 (by decide) wd273 (Or.inl rfl) rfl rfl (fun _ => rfl) (fun _ => rfl) dX11_way_121 (fun s38 => ?_)
              refine z_aload_n (pc := 124) hX 2 dX11_way_124 rfl rfl ?_
              refine z_get (pc := 125) hX zc11 3 (by decide) wd273 rfl rfl dX11_way_125 (fun v39 => ?_)
              refine z_iconst (pc := 128) hX dX11_way_128 ?_
              refine z_isub (pc := 129) hX dX11_way_129 ?_
              exact z_iret (pc := 130) hX hR hk dX11_way_130
            · refine z_bipush (pc := 68) hX dX11_way_68 ?_
              exact z_iret (pc := 70) hX hR hk dX11_way_70
          · refine z_bipush (pc := 56) hX dX11_way_56 ?_
            exact z_iret (pc := 58) hX hR hk dX11_way_58
      · refine z_bipush (pc := 32) hX dX11_way_32 ?_
        exact z_iret (pc := 34) hX hR hk dX11_way_34
    · refine z_bipush (pc := 15) hX dX11_way_15 ?_
      exact z_iret (pc := 17) hX hR hk dX11_way_17

theorem dX12_isChoice_0 : decode cX12_isChoice 0 = .ok (.iload_n 0, 1) := by decide +kernel
theorem dX12_isChoice_1 : decode cX12_isChoice 1 = .ok (.iconst 0, 1) := by decide +kernel
theorem dX12_isChoice_2 : decode cX12_isChoice 2 = .ok (.bipush 48, 2) := by decide +kernel
theorem dX12_isChoice_4 : decode cX12_isChoice 4 = .ok (.invokestatic 127, 3) := by decide +kernel
theorem dX12_isChoice_7 : decode cX12_isChoice 7 = .ok (.ireturn, 1) := by decide +kernel
def fX12_isChoice (s0 : ZS) (a0 : Int) : Option (Int × ZS) := zb (fX12_in s0 a0 0 48) (fun v1 s2 => some (v1, s2))
set_option maxHeartbeats 4000000 in
set_option maxRecDepth 100000 in
theorem mX12_isChoice (E : ZE) (hE : zOkE E) (l : Launch) (s0 : ZS) (a0 : Int) : Ct E l yX12_isChoice cX12_isChoice 1 (some .boolean) 4 [(0, a0)] 4 s0 (fX12_isChoice s0 a0) := by
  refine Ct.of (by decide) hE (Nat.le_of_ble_eq_true rfl) ?_
  intro X G hX hR hN hXE hXl hxn hk _
  subst hXE
  subst hXl
  have hX : G → ZOk X cX12_isChoice RX12 4 := hX
  clear hN
  show Zj X G 0 [(0, (0, a0))] [] s0 _
  unfold fX12_isChoice
  refine z_iload_n (pc := 0) hX 0 dX12_isChoice_0 rfl rfl ?_
  refine z_iconst (pc := 1) hX dX12_isChoice_1 ?_
  refine z_bipush (pc := 2) hX dX12_isChoice_2 ?_
  refine z_callS (n := 3) (st := []) (pc := 4) hX (mX12_in _ hE _ _ _ _ _) ⟨wd1173, wd67, wd1175, ⟨by decide, by decide, by decide⟩, by decide⟩ wd1174 rfl rfl (by decide) (Nat.le_of_ble_eq_true rfl) dX12_isChoice_4 (fun v1 s2 r3 => ?_)
  show Zj X G 7 [(0, (0, a0))] [(0, v1)] _ _
  exact z_zret (pc := 7) hX hR hk dX12_isChoice_7 r3

theorem dX12_way_0 : decode cX12_way 0 = .ok (.iload_n 1, 1) := by decide +kernel
theorem dX12_way_1 : decode cX12_way 1 = .ok (.iconst 0, 1) := by decide +kernel
theorem dX12_way_2 : decode cX12_way 2 = .ok (.iconst 5, 1) := by decide +kernel
theorem dX12_way_3 : decode cX12_way 3 = .ok (.invokestatic 127, 3) := by decide +kernel
theorem dX12_way_6 : decode cX12_way 6 = .ok (.ifCond .eq 12, 3) := by decide +kernel
theorem dX12_way_9 : decode cX12_way 9 = .ok (.iload_n 2, 1) := by decide +kernel
theorem dX12_way_10 : decode cX12_way 10 = .ok (.iconst 0, 1) := by decide +kernel
theorem dX12_way_11 : decode cX12_way 11 = .ok (.iconst 3, 1) := by decide +kernel
theorem dX12_way_12 : decode cX12_way 12 = .ok (.invokestatic 127, 3) := by decide +kernel
theorem dX12_way_15 : decode cX12_way 15 = .ok (.ifCond .ne 6, 3) := by decide +kernel
theorem dX12_way_18 : decode cX12_way 18 = .ok (.bipush (-2), 2) := by decide +kernel
theorem dX12_way_20 : decode cX12_way 20 = .ok (.ireturn, 1) := by decide +kernel
theorem dX12_way_21 : decode cX12_way 21 = .ok (.aload_n 0, 1) := by decide +kernel
theorem dX12_way_22 : decode cX12_way 22 = .ok (.getfield 62, 3) := by decide +kernel
theorem dX12_way_25 : decode cX12_way 25 = .ok (.iload_n 2, 1) := by decide +kernel
theorem dX12_way_26 : decode cX12_way 26 = .ok (.iaload, 1) := by decide +kernel
theorem dX12_way_27 : decode cX12_way 27 = .ok (.iconst (-1), 1) := by decide +kernel
theorem dX12_way_28 : decode cX12_way 28 = .ok (.if_icmp .ne 6, 3) := by decide +kernel
theorem dX12_way_31 : decode cX12_way 31 = .ok (.bipush (-11), 2) := by decide +kernel
theorem dX12_way_33 : decode cX12_way 33 = .ok (.ireturn, 1) := by decide +kernel
theorem dX12_way_34 : decode cX12_way 34 = .ok (.aload_n 0, 1) := by decide +kernel
theorem dX12_way_35 : decode cX12_way 35 = .ok (.getfield 65, 3) := by decide +kernel
theorem dX12_way_38 : decode cX12_way 38 = .ok (.iload_n 2, 1) := by decide +kernel
theorem dX12_way_39 : decode cX12_way 39 = .ok (.iaload, 1) := by decide +kernel
theorem dX12_way_40 : decode cX12_way 40 = .ok (.aload_n 0, 1) := by decide +kernel
theorem dX12_way_41 : decode cX12_way 41 = .ok (.getfield 142, 3) := by decide +kernel
theorem dX12_way_44 : decode cX12_way 44 = .ok (.if_icmp .ne 7, 3) := by decide +kernel
theorem dX12_way_47 : decode cX12_way 47 = .ok (.iconst 1, 1) := by decide +kernel
theorem dX12_way_48 : decode cX12_way 48 = .ok (.goto 4, 3) := by decide +kernel
theorem dX12_way_51 : decode cX12_way 51 = .ok (.iconst 0, 1) := by decide +kernel
theorem dX12_way_52 : decode cX12_way 52 = .ok (.istore_n 3, 1) := by decide +kernel
theorem dX12_way_53 : decode cX12_way 53 = .ok (.iconst 0, 1) := by decide +kernel
theorem dX12_way_54 : decode cX12_way 54 = .ok (.istore 4, 2) := by decide +kernel
theorem dX12_way_56 : decode cX12_way 56 = .ok (.iload 4, 2) := by decide +kernel
theorem dX12_way_58 : decode cX12_way 58 = .ok (.aload_n 0, 1) := by decide +kernel
theorem dX12_way_59 : decode cX12_way 59 = .ok (.getfield 142, 3) := by decide +kernel
theorem dX12_way_62 : decode cX12_way 62 = .ok (.if_icmp .ge 29, 3) := by decide +kernel
theorem dX12_way_65 : decode cX12_way 65 = .ok (.iload_n 3, 1) := by decide +kernel
theorem dX12_way_66 : decode cX12_way 66 = .ok (.ifCond .eq 25, 3) := by decide +kernel
theorem dX12_way_69 : decode cX12_way 69 = .ok (.aload_n 0, 1) := by decide +kernel
theorem dX12_way_70 : decode cX12_way 70 = .ok (.getfield 68, 3) := by decide +kernel
theorem dX12_way_73 : decode cX12_way 73 = .ok (.bipush 40, 2) := by decide +kernel
theorem dX12_way_75 : decode cX12_way 75 = .ok (.iload_n 2, 1) := by decide +kernel
theorem dX12_way_76 : decode cX12_way 76 = .ok (.imul, 1) := by decide +kernel
theorem dX12_way_77 : decode cX12_way 77 = .ok (.iload 4, 2) := by decide +kernel
theorem dX12_way_79 : decode cX12_way 79 = .ok (.iadd, 1) := by decide +kernel
theorem dX12_way_80 : decode cX12_way 80 = .ok (.iaload, 1) := by decide +kernel
theorem dX12_way_81 : decode cX12_way 81 = .ok (.invokestatic 220, 3) := by decide +kernel
theorem dX12_way_84 : decode cX12_way 84 = .ok (.istore_n 3, 1) := by decide +kernel
theorem dX12_way_85 : decode cX12_way 85 = .ok (.iinc 4 1, 3) := by decide +kernel
theorem dX12_way_88 : decode cX12_way 88 = .ok (.goto (-32), 3) := by decide +kernel
theorem dX12_way_91 : decode cX12_way 91 = .ok (.iload_n 3, 1) := by decide +kernel
theorem dX12_way_92 : decode cX12_way 92 = .ok (.ifCond .ne 6, 3) := by decide +kernel
theorem dX12_way_95 : decode cX12_way 95 = .ok (.bipush (-2), 2) := by decide +kernel
theorem dX12_way_97 : decode cX12_way 97 = .ok (.ireturn, 1) := by decide +kernel
theorem dX12_way_98 : decode cX12_way 98 = .ok (.aload_n 0, 1) := by decide +kernel
theorem dX12_way_99 : decode cX12_way 99 = .ok (.getfield 214, 3) := by decide +kernel
theorem dX12_way_102 : decode cX12_way 102 = .ok (.bipush 8, 2) := by decide +kernel
theorem dX12_way_104 : decode cX12_way 104 = .ok (.if_icmp .ne 6, 3) := by decide +kernel
theorem dX12_way_107 : decode cX12_way 107 = .ok (.bipush (-4), 2) := by decide +kernel
theorem dX12_way_109 : decode cX12_way 109 = .ok (.ireturn, 1) := by decide +kernel
theorem dX12_way_110 : decode cX12_way 110 = .ok (.aload_n 0, 1) := by decide +kernel
theorem dX12_way_111 : decode cX12_way 111 = .ok (.getfield 28, 3) := by decide +kernel
theorem dX12_way_114 : decode cX12_way 114 = .ok (.aload_n 0, 1) := by decide +kernel
theorem dX12_way_115 : decode cX12_way 115 = .ok (.getfield 214, 3) := by decide +kernel
theorem dX12_way_118 : decode cX12_way 118 = .ok (.iload_n 1, 1) := by decide +kernel
theorem dX12_way_119 : decode cX12_way 119 = .ok (.iastore, 1) := by decide +kernel
theorem dX12_way_120 : decode cX12_way 120 = .ok (.aload_n 0, 1) := by decide +kernel
theorem dX12_way_121 : decode cX12_way 121 = .ok (.getfield 31, 3) := by decide +kernel
theorem dX12_way_124 : decode cX12_way 124 = .ok (.aload_n 0, 1) := by decide +kernel
theorem dX12_way_125 : decode cX12_way 125 = .ok (.getfield 214, 3) := by decide +kernel
theorem dX12_way_128 : decode cX12_way 128 = .ok (.aload_n 0, 1) := by decide +kernel
theorem dX12_way_129 : decode cX12_way 129 = .ok (.getfield 142, 3) := by decide +kernel
theorem dX12_way_132 : decode cX12_way 132 = .ok (.iastore, 1) := by decide +kernel
theorem dX12_way_133 : decode cX12_way 133 = .ok (.iconst 0, 1) := by decide +kernel
theorem dX12_way_134 : decode cX12_way 134 = .ok (.istore 4, 2) := by decide +kernel
theorem dX12_way_136 : decode cX12_way 136 = .ok (.iload 4, 2) := by decide +kernel
theorem dX12_way_138 : decode cX12_way 138 = .ok (.aload_n 0, 1) := by decide +kernel
theorem dX12_way_139 : decode cX12_way 139 = .ok (.getfield 142, 3) := by decide +kernel
theorem dX12_way_142 : decode cX12_way 142 = .ok (.if_icmp .ge 36, 3) := by decide +kernel
theorem dX12_way_145 : decode cX12_way 145 = .ok (.aload_n 0, 1) := by decide +kernel
theorem dX12_way_146 : decode cX12_way 146 = .ok (.getfield 34, 3) := by decide +kernel
theorem dX12_way_149 : decode cX12_way 149 = .ok (.bipush 16, 2) := by decide +kernel
theorem dX12_way_151 : decode cX12_way 151 = .ok (.aload_n 0, 1) := by decide +kernel
theorem dX12_way_152 : decode cX12_way 152 = .ok (.getfield 214, 3) := by decide +kernel
theorem dX12_way_155 : decode cX12_way 155 = .ok (.imul, 1) := by decide +kernel
theorem dX12_way_156 : decode cX12_way 156 = .ok (.iload 4, 2) := by decide +kernel
theorem dX12_way_158 : decode cX12_way 158 = .ok (.iadd, 1) := by decide +kernel
theorem dX12_way_159 : decode cX12_way 159 = .ok (.aload_n 0, 1) := by decide +kernel
theorem dX12_way_160 : decode cX12_way 160 = .ok (.getfield 68, 3) := by decide +kernel
theorem dX12_way_163 : decode cX12_way 163 = .ok (.bipush 40, 2) := by decide +kernel
theorem dX12_way_165 : decode cX12_way 165 = .ok (.iload_n 2, 1) := by decide +kernel
theorem dX12_way_166 : decode cX12_way 166 = .ok (.imul, 1) := by decide +kernel
theorem dX12_way_167 : decode cX12_way 167 = .ok (.iload 4, 2) := by decide +kernel
theorem dX12_way_169 : decode cX12_way 169 = .ok (.iadd, 1) := by decide +kernel
theorem dX12_way_170 : decode cX12_way 170 = .ok (.iaload, 1) := by decide +kernel
theorem dX12_way_171 : decode cX12_way 171 = .ok (.iastore, 1) := by decide +kernel
theorem dX12_way_172 : decode cX12_way 172 = .ok (.iinc 4 1, 3) := by decide +kernel
theorem dX12_way_175 : decode cX12_way 175 = .ok (.goto (-39), 3) := by decide +kernel
theorem dX12_way_178 : decode cX12_way 178 = .ok (.aload_n 0, 1) := by decide +kernel
theorem dX12_way_179 : decode cX12_way 179 = .ok (.dup, 1) := by decide +kernel
theorem dX12_way_180 : decode cX12_way 180 = .ok (.getfield 214, 3) := by decide +kernel
theorem dX12_way_183 : decode cX12_way 183 = .ok (.iconst 1, 1) := by decide +kernel
theorem dX12_way_184 : decode cX12_way 184 = .ok (.iadd, 1) := by decide +kernel
theorem dX12_way_185 : decode cX12_way 185 = .ok (.putfield 214, 3) := by decide +kernel
theorem dX12_way_188 : decode cX12_way 188 = .ok (.aload_n 0, 1) := by decide +kernel
theorem dX12_way_189 : decode cX12_way 189 = .ok (.getfield 214, 3) := by decide +kernel
theorem dX12_way_192 : decode cX12_way 192 = .ok (.iconst 1, 1) := by decide +kernel
theorem dX12_way_193 : decode cX12_way 193 = .ok (.isub, 1) := by decide +kernel
theorem dX12_way_194 : decode cX12_way 194 = .ok (.ireturn, 1) := by decide +kernel
def lX12_way_56 (u19 u20 u21 : Int) (K91 : ZS → Int → Option (Int × ZS)) : Nat → ZS → Int → Int → Option (Int × ZS)
  | 0, _, _, _ => none
  | n1 + 1, s18, x22, x23 => (zg s18 12 u19 6).bind (fun v24 => if v24 ≤ x23 then (K91 s18 x22) else (if x22 = 0 then (K91 s18 x22) else ((zg s18 12 u19 28).bind (fun v27 => (zal s18 100 v27 (wrap ((wrap (40 * u21)) + x23))).bind (fun v28 => zb (fX12_isChoice s18 v28) (fun v29 s30 => lX12_way_56 u19 u20 u21 K91 n1 s30 v29 (wrap (x23 + 1))))))))

def lX12_way_136 (u47 u48 : Int) (K178 : ZS → Option (Int × ZS)) : Nat → ZS → Int → Option (Int × ZS)
  | 0, _, _ => none
  | n1 + 1, s46, x49 => (zg s46 12 u47 6).bind (fun v50 => if v50 ≤ x49 then (K178 s46) else ((zg s46 12 u47 11).bind (fun v52 => (zg s46 12 u47 8).bind (fun v53 => (zg s46 12 u47 28).bind (fun v54 => (zal s46 100 v54 (wrap ((wrap (40 * u48)) + x49))).bind (fun v55 => (zas s46 100 v52 (wrap ((wrap (16 * v53)) + x49)) v55).bind (fun s56 => lX12_way_136 u47 u48 K178 n1 s56 (wrap (x49 + 1)))))))))

def fX12_way (s0 : ZS) (a0 : Int) (a1 : Int) (a2 : Int) : Option (Int × ZS) := zb (fX12_in s0 a1 0 5) (fun v1 s2 => if v1 = 0 then (some ((-2), s2)) else (zb (fX12_in s2 a2 0 3) (fun v5 s6 => if v5 = 0 then (some ((-2), s6)) else ((zg s6 12 a0 26).bind (fun v9 => (zal s6 100 v9 a2).bind (fun v10 => if v10 = (-1) then (some ((-11), s6)) else ((zg s6 12 a0 27).bind (fun v12 => (zal s6 100 v12 a2).bind (fun v13 => (zg s6 12 a0 6).bind (fun v14 => zjn (fun (K52 : ZS → Int → Option (Int × ZS)) => if v13 = v14 then (K52 s6 1) else (K52 s6 0)) (fun (s16 : ZS) (w17 : Int) => lX12_way_56 a0 a1 a2 (fun (s34 : ZS) (x35 : Int) => if x35 = 0 then (some ((-2), s34)) else ((zg s34 12 a0 8).bind (fun v37 => if v37 = 8 then (some ((-4), s34)) else ((zg s34 12 a0 9).bind (fun v39 => (zg s34 12 a0 8).bind (fun v40 => (zas s34 100 v39 v40 a1).bind (fun s41 => (zg s41 12 a0 10).bind (fun v42 => (zg s41 12 a0 8).bind (fun v43 => (zg s41 12 a0 6).bind (fun v44 => (zas s41 100 v42 v43 v44).bind (fun s45 => lX12_way_136 a0 a2 (fun (s58 : ZS) => (zg s58 12 a0 8).bind (fun v59 => (zp s58 12 a0 8 (wrap (v59 + 1))).bind (fun s60 => (zg s60 12 a0 8).bind (fun v61 => some ((wrap (v61 - 1)), s60))))) 1000 s45 0))))))))))) 1000 s16 w17 0)))))))))))
set_option maxHeartbeats 4000000 in
set_option maxRecDepth 100000 in
theorem mX12_way (E : ZE) (hE : zOkE E) (l : Launch) (s0 : ZS) (a0 : Int) (a1 : Int) (a2 : Int) : Ct E l yX12_way cX12_way 5 (some .int) 6 [(2, a0), (0, a1), (0, a2)] 1 s0 (fX12_way s0 a0 a1 a2) := by
  refine Ct.of (by decide) hE (Nat.le_of_ble_eq_true rfl) ?_
  intro X G hX hR hN hXE hXl hxn hk _
  subst hXE
  subst hXl
  have hX : G → ZOk X cX12_way RX12 6 := hX
  clear hN
  show Zj X G 0 [(0, (2, a0)), (1, (0, a1)), (2, (0, a2))] [] s0 _
  unfold fX12_way
  refine z_iload_n (pc := 0) hX 1 dX12_way_0 rfl rfl ?_
  refine z_iconst (pc := 1) hX dX12_way_1 ?_
  refine z_iconst (pc := 2) hX dX12_way_2 ?_
  refine z_callS (n := 3) (st := []) (pc := 3) hX (mX12_in _ hE _ _ _ _ _) ⟨wd1173, wd67, wd1175, ⟨by decide, by decide, by decide⟩, by decide⟩ wd1174 rfl rfl (by decide) (Nat.le_of_ble_eq_true rfl) dX12_way_3 (fun v1 s2 r3 => ?_)
  show Zj X G 6 [(0, (2, a0)), (1, (0, a1)), (2, (0, a2))] [(0, v1)] _ _
  refine z_if_eq (pc := 6) hX 18 dX12_way_6 (by decide) (fun h4 => ?_) (fun h4 => ?_)
  · refine z_bipush (pc := 18) hX dX12_way_18 ?_
    exact z_iret (pc := 20) hX hR hk dX12_way_20
  · refine z_iload_n (pc := 9) hX 2 dX12_way_9 rfl rfl ?_
    refine z_iconst (pc := 10) hX dX12_way_10 ?_
    refine z_iconst (pc := 11) hX dX12_way_11 ?_
    refine z_callS (n := 3) (st := []) (pc := 12) hX (mX12_in _ hE _ _ _ _ _) ⟨wd1173, wd67, wd1175, ⟨by decide, by decide, by decide⟩, by decide⟩ wd1174 rfl rfl (by decide) (Nat.le_of_ble_eq_true rfl) dX12_way_12 (fun v5 s6 r7 => ?_)
    show Zj X G 15 [(0, (2, a0)), (1, (0, a1)), (2, (0, a2))] [(0, v5)] _ _
    refine z_if_ne (pc := 15) hX 21 dX12_way_15 (by decide) (fun h8 => ?_) (fun h8 => ?_)
    · refine z_aload_n (pc := 21) hX 0 dX12_way_21 rfl rfl ?_
      refine z_get (pc := 22) hX zc12 26 (by decide) wd1043 rfl rfl dX12_way_22 (fun v9 => ?_)
      refine z_iload_n (pc := 25) hX 2 dX12_way_25 rfl rfl ?_
      refine z_iald (pc := 26) hX dX12_way_26 (fun v10 => ?_)
      refine z_iconst (pc := 27) hX dX12_way_27 ?_
      refine z_icmp_ne (pc := 28) hX 34 dX12_way_28 (by decide) (fun h11 => ?_) (fun h11 => ?_)
      · refine z_aload_n (pc := 34) hX 0 dX12_way_34 rfl rfl ?_
        refine z_get (pc := 35) hX zc12 27 (by decide) wd1044 rfl rfl dX12_way_35 (fun v12 => ?_)
        refine z_iload_n (pc := 38) hX 2 dX12_way_38 rfl rfl ?_
        refine z_iald (pc := 39) hX dX12_way_39 (fun v13 => ?_)
        refine z_aload_n (pc := 40) hX 0 dX12_way_40 rfl rfl ?_
        refine z_get (pc := 41) hX zc12 6 (by decide) wd1023 rfl rfl dX12_way_41 (fun v14 => ?_)
        refine z_jn (fun K52 eK52 => ?_)
        have hK52 : ∀ (s16 : ZS) (w17 : Int), Zj X G 52 [(0, (2, a0)), (1, (0, a1)), (2, (0, a2))] [(0, w17)] s16 (K52 s16 w17) := by
          intro s16 w17
          rw [eK52]
          refine z_istore_n (lv' := [(3, (0, w17)), (0, (2, a0)), (1, (0, a1)), (2, (0, a2))]) (pc := 52) hX dX12_way_52 rfl (zlt hxn rfl) rfl ?_
          refine z_iconst (pc := 53) hX dX12_way_53 ?_
          refine z_istore (lv' := [(4, (0, 0)), (3, (0, w17)), (0, (2, a0)), (1, (0, a1)), (2, (0, a2))]) (pc := 54) hX dX12_way_54 (zlt hxn rfl) rfl ?_
          have hl56 : ∀ (u19 u20 u21 : Int), ∀ (K91 : ZS → Int → Option (Int × ZS)), (∀ (s32 : ZS) (x33 : Int), Zj X G 91 [(0, (2, u19)), (1, (0, u20)), (2, (0, u21)), (3, (0, x33))] [] s32 (K91 s32 x33)) → ∀ (n1 : Nat) (s18 : ZS) (x22 x23 : Int), Zj X G 56 [(0, (2, u19)), (1, (0, u20)), (2, (0, u21)), (3, (0, x22)), (4, (0, x23))] [] s18 (lX12_way_56 u19 u20 u21 K91 n1 s18 x22 x23) := by
            intro u19 u20 u21 K91 hK91 n1
            induction n1 with
            | zero => intro _ _ _; exact z_none
            | succ n1 ih1 =>
              intro s18 x22 x23
              rw [lX12_way_56]
              refine z_iload (pc := 56) hX 4 dX12_way_56 rfl ?_
              refine z_aload_n (pc := 58) hX 0 dX12_way_58 rfl rfl ?_
              refine z_get (pc := 59) hX zc12 6 (by decide) wd1023 rfl rfl dX12_way_59 (fun v24 => ?_)
              refine z_icmp_ge (pc := 62) hX 91 dX12_way_62 (by decide) (fun h25 => ?_) (fun h25 => ?_)
              · refine z_pick (lv' := [(0, (2, u19)), (1, (0, u20)), (2, (0, u21)), (3, (0, x22))]) [0, 1, 2, 3] rfl ?_
                exact hK91 _ _
              · refine z_iload_n (pc := 65) hX 3 dX12_way_65 rfl rfl ?_
                refine z_if_eq (pc := 66) hX 91 dX12_way_66 (by decide) (fun h26 => ?_) (fun h26 => ?_)
                · refine z_pick (lv' := [(0, (2, u19)), (1, (0, u20)), (2, (0, u21)), (3, (0, x22))]) [0, 1, 2, 3] rfl ?_
                  exact hK91 _ _
                · refine z_aload_n (pc := 69) hX 0 dX12_way_69 rfl rfl ?_
                  refine z_get (pc := 70) hX zc12 28 (by decide) wd1045 rfl rfl dX12_way_70 (fun v27 => ?_)
                  refine z_bipush (pc := 73) hX dX12_way_73 ?_
                  refine z_iload_n (pc := 75) hX 2 dX12_way_75 rfl rfl ?_
                  refine z_imul (pc := 76) hX dX12_way_76 ?_
                  refine z_iload (pc := 77) hX 4 dX12_way_77 rfl ?_
                  refine z_iadd (pc := 79) hX dX12_way_79 ?_
                  refine z_iald (pc := 80) hX dX12_way_80 (fun v28 => ?_)
                  refine z_callS (n := 1) (st := []) (pc := 81) hX (mX12_isChoice _ hE _ _ _) ⟨wd1261, wd67, wd1263, ⟨by decide, by decide, by decide⟩, by decide⟩ wd1262 rfl rfl (by decide) (Nat.le_of_ble_eq_true rfl) dX12_way_81 (fun v29 s30 r31 => ?_)
                  show Zj X G 84 [(0, (2, u19)), (1, (0, u20)), (2, (0, u21)), (3, (0, x22)), (4, (0, x23))] [(0, v29)] _ _
                  refine z_istore_n (lv' := [(3, (0, v29)), (0, (2, u19)), (1, (0, u20)), (2, (0, u21)), (4, (0, x23))]) (pc := 84) hX dX12_way_84 rfl (zlt hxn rfl) rfl ?_
                  refine z_iinc (lv' := [(4, (0, (wrap (x23 + 1)))), (3, (0, v29)), (0, (2, u19)), (1, (0, u20)), (2, (0, u21))]) (pc := 85) hX 4 dX12_way_85 rfl (zlt hxn rfl) rfl ?_
                  refine z_goto (pc := 88) hX 56 dX12_way_88 (by decide) ?_
                  refine z_pick (lv' := [(0, (2, u19)), (1, (0, u20)), (2, (0, u21)), (3, (0, v29)), (4, (0, (wrap (x23 + 1))))]) [2, 3, 4, 1, 0] rfl ?_
                  exact ih1 _ _ _
          refine z_pick (lv' := [(0, (2, a0)), (1, (0, a1)), (2, (0, a2)), (3, (0, w17)), (4, (0, 0))]) [2, 3, 4, 1, 0] rfl ?_
          refine hl56 _ _ _ _ (fun s34 x35 => ?_) 1000 _ _ _
          refine z_iload_n (pc := 91) hX 3 dX12_way_91 rfl rfl ?_
          refine z_if_ne (pc := 92) hX 98 dX12_way_92 (by decide) (fun h36 => ?_) (fun h36 => ?_)
          · refine z_aload_n (pc := 98) hX 0 dX12_way_98 rfl rfl ?_
            refine z_get (pc := 99) hX zc12 8 (by decide) wd1025 rfl rfl dX12_way_99 (fun v37 => ?_)
            refine z_bipush (pc := 102) hX dX12_way_102 ?_
            refine z_icmp_ne (pc := 104) hX 110 dX12_way_104 (by decide) (fun h38 => ?_) (fun h38 => ?_)
            · refine z_aload_n (pc := 110) hX 0 dX12_way_110 rfl rfl ?_
              refine z_get (pc := 111) hX zc12 9 (by decide) wd1026 rfl rfl dX12_way_111 (fun v39 => ?_)
              refine z_aload_n (pc := 114) hX 0 dX12_way_114 rfl rfl ?_
              refine z_get (pc := 115) hX zc12 8 (by decide) wd1025 rfl rfl dX12_way_115 (fun v40 => ?_)
              refine z_iload_n (pc := 118) hX 1 dX12_way_118 rfl rfl ?_
              refine z_iastA (pc := 119) hX dX12_way_119 (fun s41 => ?_)
              refine z_aload_n (pc := 120) hX 0 dX12_way_120 rfl rfl ?_
              refine z_get (pc := 121) hX zc12 10 (by decide) wd1027 rfl rfl dX12_way_121 (fun v42 => ?_)
              refine z_aload_n (pc := 124) hX 0 dX12_way_124 rfl rfl ?_
              refine z_get (pc := 125) hX zc12 8 (by decide) wd1025 rfl rfl dX12_way_125 (fun v43 => ?_)
              refine z_aload_n (pc := 128) hX 0 dX12_way_128 rfl rfl ?_
              refine z_get (pc := 129) hX zc12 6 (by decide) wd1023 rfl rfl dX12_way_129 (fun v44 => ?_)
              refine z_iastA (pc := 132) hX dX12_way_132 (fun s45 => ?_)
              refine z_iconst (pc := 133) hX dX12_way_133 ?_
              refine z_istore (lv' := [(4, (0, 0)), (0, (2, a0)), (1, (0, a1)), (2, (0, a2)), (3, (0, x35))]) (pc := 134) hX dX12_way_134 (zlt hxn rfl) rfl ?_
              have hl136 : ∀ (u47 u48 : Int), ∀ (K178 : ZS → Option (Int × ZS)), (∀ (s57 : ZS), Zj X G 178 [(0, (2, u47))] [] s57 (K178 s57)) → ∀ (n1 : Nat) (s46 : ZS) (x49 : Int), Zj X G 136 [(0, (2, u47)), (2, (0, u48)), (4, (0, x49))] [] s46 (lX12_way_136 u47 u48 K178 n1 s46 x49) := by
                intro u47 u48 K178 hK178 n1
                induction n1 with
                | zero => intro _ _; exact z_none
                | succ n1 ih1 =>
                  intro s46 x49
                  rw [lX12_way_136]
                  refine z_iload (pc := 136) hX 2 dX12_way_136 rfl ?_
                  refine z_aload_n (pc := 138) hX 0 dX12_way_138 rfl rfl ?_
                  refine z_get (pc := 139) hX zc12 6 (by decide) wd1023 rfl rfl dX12_way_139 (fun v50 => ?_)
                  refine z_icmp_ge (pc := 142) hX 178 dX12_way_142 (by decide) (fun h51 => ?_) (fun h51 => ?_)
                  · refine z_pick (lv' := [(0, (2, u47))]) [0] rfl ?_
                    exact hK178 _
                  · refine z_aload_n (pc := 145) hX 0 dX12_way_145 rfl rfl ?_
                    refine z_get (pc := 146) hX zc12 11 (by decide) wd1028 rfl rfl dX12_way_146 (fun v52 => ?_)
                    refine z_bipush (pc := 149) hX dX12_way_149 ?_
                    refine z_aload_n (pc := 151) hX 0 dX12_way_151 rfl rfl ?_
                    refine z_get (pc := 152) hX zc12 8 (by decide) wd1025 rfl rfl dX12_way_152 (fun v53 => ?_)
                    refine z_imul (pc := 155) hX dX12_way_155 ?_
                    refine z_iload (pc := 156) hX 2 dX12_way_156 rfl ?_
                    refine z_iadd (pc := 158) hX dX12_way_158 ?_
                    refine z_aload_n (pc := 159) hX 0 dX12_way_159 rfl rfl ?_
                    refine z_get (pc := 160) hX zc12 28 (by decide) wd1045 rfl rfl dX12_way_160 (fun v54 => ?_)
                    refine z_bipush (pc := 163) hX dX12_way_163 ?_
                    refine z_iload_n (pc := 165) hX 1 dX12_way_165 rfl rfl ?_
                    refine z_imul (pc := 166) hX dX12_way_166 ?_
                    refine z_iload (pc := 167) hX 2 dX12_way_167 rfl ?_
                    refine z_iadd (pc := 169) hX dX12_way_169 ?_
                    refine z_iald (pc := 170) hX dX12_way_170 (fun v55 => ?_)
                    refine z_iastA (pc := 171) hX dX12_way_171 (fun s56 => ?_)
                    refine z_iinc (lv' := [(4, (0, (wrap (x49 + 1)))), (0, (2, u47)), (2, (0, u48))]) (pc := 172) hX 2 dX12_way_172 rfl (zlt hxn rfl) rfl ?_
                    refine z_goto (pc := 175) hX 136 dX12_way_175 (by decide) ?_
                    refine z_pick (lv' := [(0, (2, u47)), (2, (0, u48)), (4, (0, (wrap (x49 + 1))))]) [1, 2, 0] rfl ?_
                    exact ih1 _ _
              refine z_pick (lv' := [(0, (2, a0)), (2, (0, a2)), (4, (0, 0))]) [1, 3, 0] rfl ?_
              refine hl136 _ _ _ (fun s58 => ?_) 1000 _ _
              refine z_aload_n (pc := 178) hX 0 dX12_way_178 rfl rfl ?_
              refine z_dup (pc := 179) hX zn2 dX12_way_179 ?_
              refine z_get (pc := 180) hX zc12 8 (by decide) wd1025 rfl rfl dX12_way_180 (fun v59 => ?_)
              refine z_iconst (pc := 183) hX dX12_way_183 ?_
              refine z_iadd (pc := 184) hX dX12_way_184 ?_
              refine z_putA (pc := 185) hX zc12 8 (by decide) wd1025 (Or.inl rfl) rfl rfl (fun _ => rfl) (fun _ => rfl) dX12_way_185 (fun s60 => ?_)
              refine z_aload_n (pc := 188) hX 0 dX12_way_188 rfl rfl ?_
              refine z_get (pc := 189) hX zc12 8 (by decide) wd1025 rfl rfl dX12_way_189 (fun v61 => ?_)
              refine z_iconst (pc := 192) hX dX12_way_192 ?_
              refine z_isub (pc := 193) hX dX12_way_193 ?_
              exact z_iret (pc := 194) hX hR hk dX12_way_194
            · refine z_bipush (pc := 107) hX dX12_way_107 ?_
              exact z_iret (pc := 109) hX hR hk dX12_way_109
          · refine z_bipush (pc := 95) hX dX12_way_95 ?_
            exact z_iret (pc := 97) hX hR hk dX12_way_97
        clear eK52
        refine z_icmp_ne (pc := 44) hX 51 dX12_way_44 (by decide) (fun h15 => ?_) (fun h15 => ?_)
        · refine z_iconst (pc := 51) hX dX12_way_51 ?_
          exact hK52 _ _
        · refine z_iconst (pc := 47) hX dX12_way_47 ?_
          refine z_goto (pc := 48) hX 52 dX12_way_48 (by decide) ?_
          exact hK52 _ _
      · refine z_bipush (pc := 31) hX dX12_way_31 ?_
        exact z_iret (pc := 33) hX hR hk dX12_way_33
    · refine z_bipush (pc := 18) hX dX12_way_18 ?_
      exact z_iret (pc := 20) hX hR hk dX12_way_20
