theorem dX12_of_0 : decode cX12_of 0 = .ok (.aload_n 0, 1) := by decide +kernel
theorem dX12_of_1 : decode cX12_of 1 = .ok (.iload_n 1, 1) := by decide +kernel
theorem dX12_of_2 : decode cX12_of 2 = .ok (.iload_n 2, 1) := by decide +kernel
theorem dX12_of_3 : decode cX12_of 3 = .ok (.invokevirtual 223, 3) := by decide +kernel
theorem dX12_of_6 : decode cX12_of 6 = .ok (.ifCond .ne 7, 3) := by decide +kernel
theorem dX12_of_9 : decode cX12_of 9 = .ok (.sipush (-10000), 3) := by decide +kernel
theorem dX12_of_12 : decode cX12_of 12 = .ok (.ireturn, 1) := by decide +kernel
theorem dX12_of_13 : decode cX12_of 13 = .ok (.aload_n 0, 1) := by decide +kernel
theorem dX12_of_14 : decode cX12_of 14 = .ok (.iload_n 1, 1) := by decide +kernel
theorem dX12_of_15 : decode cX12_of 15 = .ok (.invokevirtual 251, 3) := by decide +kernel
theorem dX12_of_18 : decode cX12_of 18 = .ok (.aload_n 0, 1) := by decide +kernel
theorem dX12_of_19 : decode cX12_of 19 = .ok (.iload_n 1, 1) := by decide +kernel
theorem dX12_of_20 : decode cX12_of 20 = .ok (.invokevirtual 254, 3) := by decide +kernel
theorem dX12_of_23 : decode cX12_of 23 = .ok (.iload_n 3, 1) := by decide +kernel
theorem dX12_of_24 : decode cX12_of 24 = .ok (.tableswitch 71 0 4 #[36, 43, 50, 57, 64], 36) := by decide +kernel
theorem dX12_of_60 : decode cX12_of 60 = .ok (.aload_n 0, 1) := by decide +kernel
theorem dX12_of_61 : decode cX12_of 61 = .ok (.getfield 109, 3) := by decide +kernel
theorem dX12_of_64 : decode cX12_of 64 = .ok (.iload_n 2, 1) := by decide +kernel
theorem dX12_of_65 : decode cX12_of 65 = .ok (.iaload, 1) := by decide +kernel
theorem dX12_of_66 : decode cX12_of 66 = .ok (.ireturn, 1) := by decide +kernel
theorem dX12_of_67 : decode cX12_of 67 = .ok (.aload_n 0, 1) := by decide +kernel
theorem dX12_of_68 : decode cX12_of 68 = .ok (.getfield 112, 3) := by decide +kernel
theorem dX12_of_71 : decode cX12_of 71 = .ok (.iload_n 2, 1) := by decide +kernel
theorem dX12_of_72 : decode cX12_of 72 = .ok (.iaload, 1) := by decide +kernel
theorem dX12_of_73 : decode cX12_of 73 = .ok (.ireturn, 1) := by decide +kernel
theorem dX12_of_74 : decode cX12_of 74 = .ok (.aload_n 0, 1) := by decide +kernel
theorem dX12_of_75 : decode cX12_of 75 = .ok (.iload_n 1, 1) := by decide +kernel
theorem dX12_of_76 : decode cX12_of 76 = .ok (.iload_n 2, 1) := by decide +kernel
theorem dX12_of_77 : decode cX12_of 77 = .ok (.invokevirtual 248, 3) := by decide +kernel
theorem dX12_of_80 : decode cX12_of 80 = .ok (.ireturn, 1) := by decide +kernel
theorem dX12_of_81 : decode cX12_of 81 = .ok (.aload_n 0, 1) := by decide +kernel
theorem dX12_of_82 : decode cX12_of 82 = .ok (.iload_n 1, 1) := by decide +kernel
theorem dX12_of_83 : decode cX12_of 83 = .ok (.iload_n 2, 1) := by decide +kernel
theorem dX12_of_84 : decode cX12_of 84 = .ok (.invokevirtual 236, 3) := by decide +kernel
theorem dX12_of_87 : decode cX12_of 87 = .ok (.ireturn, 1) := by decide +kernel
theorem dX12_of_88 : decode cX12_of 88 = .ok (.aload_n 0, 1) := by decide +kernel
theorem dX12_of_89 : decode cX12_of 89 = .ok (.iload_n 1, 1) := by decide +kernel
theorem dX12_of_90 : decode cX12_of 90 = .ok (.iload_n 2, 1) := by decide +kernel
theorem dX12_of_91 : decode cX12_of 91 = .ok (.invokevirtual 261, 3) := by decide +kernel
theorem dX12_of_94 : decode cX12_of 94 = .ok (.ireturn, 1) := by decide +kernel
theorem dX12_of_95 : decode cX12_of 95 = .ok (.sipush (-10001), 3) := by decide +kernel
theorem dX12_of_98 : decode cX12_of 98 = .ok (.ireturn, 1) := by decide +kernel
def fX12_of (s0 : ZS) (a0 : Int) (a1 : Int) (a2 : Int) (a3 : Int) : Option (Int × ZS) := zb (zv s0 12 a0 (fX12_isOf s0 a0 a1 a2)) (fun v1 s2 => if v1 = 0 then (some ((-10000), s2)) else (zb (zv s2 12 a0 (fX12_lays s2 a0 a1)) (fun v5 s6 => zb (zv s6 12 a0 (fX12_goes s6 a0 a1)) (fun v8 s9 => if a3 = 0 then ((zg s9 12 a0 41).bind (fun v12 => (zal s9 100 v12 a2).bind (fun v13 => some (v13, s9)))) else (if a3 = 1 then ((zg s9 12 a0 42).bind (fun v15 => (zal s9 100 v15 a2).bind (fun v16 => some (v16, s9)))) else (if a3 = 2 then (zb (zv s9 12 a0 (fX12_cost s9 a0 a1 a2)) (fun v18 s19 => some (v18, s19))) else (if a3 = 3 then (zb (zv s9 12 a0 (fX12_paid s9 a0 a1 a2)) (fun v22 s23 => some (v22, s23))) else (if a3 = 4 then (zb (zv s9 12 a0 (fX12_lost s9 a0 a1 a2)) (fun v26 s27 => some (v26, s27))) else (some ((-10001), s9))))))))))
set_option maxHeartbeats 4000000 in
set_option maxRecDepth 100000 in
theorem mX12_of (E : ZE) (hE : zOkE E) (l : Launch) (s0 : ZS) (a0 : Int) (a1 : Int) (a2 : Int) (a3 : Int) : Ct E l yX12_of cX12_of 4 (some .int) 8 [(2, a0), (0, a1), (0, a2), (0, a3)] 1 s0 (fX12_of s0 a0 a1 a2 a3) := by
  refine Ct.of (by decide) hE (Nat.le_of_ble_eq_true rfl) ?_
  intro X G hX hR hN hXE hXl hxn hk _
  subst hXE
  subst hXl
  have hX : G → ZOk X cX12_of RX12 8 := hX
  clear hN
  show Zj X G 0 [(0, (2, a0)), (1, (0, a1)), (2, (0, a2)), (3, (0, a3))] [] s0 _
  unfold fX12_of
  refine z_aload_n (pc := 0) hX 0 dX12_of_0 rfl rfl ?_
  refine z_iload_n (pc := 1) hX 1 dX12_of_1 rfl rfl ?_
  refine z_iload_n (pc := 2) hX 2 dX12_of_2 rfl rfl ?_
  refine z_callV (n := 2) (st := []) (pc := 3) hX zc12 rfl (fun _ => (mX12_isOf _ hE _ _ _ _ _)) ⟨wd1272, wd67, wd1275, ⟨by decide, by decide, by decide⟩, by decide⟩ rfl wd1274 wd43 rfl rfl (by decide) (Nat.le_of_ble_eq_true rfl) dX12_of_3 (fun v1 s2 r3 => ?_)
  show Zj X G 6 [(0, (2, a0)), (1, (0, a1)), (2, (0, a2)), (3, (0, a3))] [(0, v1)] _ _
  refine z_if_ne (pc := 6) hX 13 dX12_of_6 (by decide) (fun h4 => ?_) (fun h4 => ?_)
  · refine z_aload_n (pc := 13) hX 0 dX12_of_13 rfl rfl ?_
    refine z_iload_n (pc := 14) hX 1 dX12_of_14 rfl rfl ?_
    refine z_callV (n := 1) (st := []) (pc := 15) hX zc12 rfl (fun _ => (mX12_lays _ hE _ _ _ _)) ⟨wd1284, wd67, wd1287, ⟨by decide, by decide, by decide⟩, by decide⟩ rfl wd1286 wd44 rfl rfl (by decide) (Nat.le_of_ble_eq_true rfl) dX12_of_15 (fun v5 s6 r7 => ?_)
    show Zj X G 18 [(0, (2, a0)), (1, (0, a1)), (2, (0, a2)), (3, (0, a3))] [] _ _
    refine z_aload_n (pc := 18) hX 0 dX12_of_18 rfl rfl ?_
    refine z_iload_n (pc := 19) hX 1 dX12_of_19 rfl rfl ?_
    refine z_callV (n := 1) (st := []) (pc := 20) hX zc12 rfl (fun _ => (mX12_goes _ hE _ _ _ _)) ⟨wd1288, wd67, wd1291, ⟨by decide, by decide, by decide⟩, by decide⟩ rfl wd1290 wd45 rfl rfl (by decide) (Nat.le_of_ble_eq_true rfl) dX12_of_20 (fun v8 s9 r10 => ?_)
    show Zj X G 23 [(0, (2, a0)), (1, (0, a1)), (2, (0, a2)), (3, (0, a3))] [] _ _
    refine z_iload_n (pc := 23) hX 3 dX12_of_23 rfl rfl ?_
    by_cases h11 : a3 = 0
    · refine z_eq (if_pos h11) ?_
      refine z_tswIn (pc := 24) hX 60 dX12_of_24 h11 (by decide) (by decide) rfl (by decide) ?_
      refine z_aload_n (pc := 60) hX 0 dX12_of_60 rfl rfl ?_
      refine z_get (pc := 61) hX zc12 41 (by decide) wd1058 rfl rfl dX12_of_61 (fun v12 => ?_)
      refine z_iload_n (pc := 64) hX 2 dX12_of_64 rfl rfl ?_
      refine z_iald (pc := 65) hX dX12_of_65 (fun v13 => ?_)
      exact z_iret (pc := 66) hX hR hk dX12_of_66
    · refine z_eq (if_neg h11) ?_
      by_cases h14 : a3 = 1
      · refine z_eq (if_pos h14) ?_
        refine z_tswIn (pc := 24) hX 67 dX12_of_24 h14 (by decide) (by decide) rfl (by decide) ?_
        refine z_aload_n (pc := 67) hX 0 dX12_of_67 rfl rfl ?_
        refine z_get (pc := 68) hX zc12 42 (by decide) wd1059 rfl rfl dX12_of_68 (fun v15 => ?_)
        refine z_iload_n (pc := 71) hX 2 dX12_of_71 rfl rfl ?_
        refine z_iald (pc := 72) hX dX12_of_72 (fun v16 => ?_)
        exact z_iret (pc := 73) hX hR hk dX12_of_73
      · refine z_eq (if_neg h14) ?_
        by_cases h17 : a3 = 2
        · refine z_eq (if_pos h17) ?_
          refine z_tswIn (pc := 24) hX 74 dX12_of_24 h17 (by decide) (by decide) rfl (by decide) ?_
          refine z_aload_n (pc := 74) hX 0 dX12_of_74 rfl rfl ?_
          refine z_iload_n (pc := 75) hX 1 dX12_of_75 rfl rfl ?_
          refine z_iload_n (pc := 76) hX 2 dX12_of_76 rfl rfl ?_
          refine z_callV (n := 2) (st := []) (pc := 77) hX zc12 rfl (fun _ => (mX12_cost _ hE _ _ _ _ _)) ⟨wd1300, wd67, wd1303, ⟨by decide, by decide, by decide⟩, by decide⟩ rfl wd1302 wd48 rfl rfl (by decide) (Nat.le_of_ble_eq_true rfl) dX12_of_77 (fun v18 s19 r20 => ?_)
          show Zj X G 80 [(0, (2, a0)), (1, (0, a1)), (2, (0, a2)), (3, (0, a3))] [(0, v18)] _ _
          exact z_iret (pc := 80) hX hR hk dX12_of_80
        · refine z_eq (if_neg h17) ?_
          by_cases h21 : a3 = 3
          · refine z_eq (if_pos h21) ?_
            refine z_tswIn (pc := 24) hX 81 dX12_of_24 h21 (by decide) (by decide) rfl (by decide) ?_
            refine z_aload_n (pc := 81) hX 0 dX12_of_81 rfl rfl ?_
            refine z_iload_n (pc := 82) hX 1 dX12_of_82 rfl rfl ?_
            refine z_iload_n (pc := 83) hX 2 dX12_of_83 rfl rfl ?_
            refine z_callV (n := 2) (st := []) (pc := 84) hX zc12 rfl (fun _ => (mX12_paid _ hE _ _ _ _ _)) ⟨wd1308, wd67, wd1311, ⟨by decide, by decide, by decide⟩, by decide⟩ rfl wd1310 wd50 rfl rfl (by decide) (Nat.le_of_ble_eq_true rfl) dX12_of_84 (fun v22 s23 r24 => ?_)
            show Zj X G 87 [(0, (2, a0)), (1, (0, a1)), (2, (0, a2)), (3, (0, a3))] [(0, v22)] _ _
            exact z_iret (pc := 87) hX hR hk dX12_of_87
          · refine z_eq (if_neg h21) ?_
            by_cases h25 : a3 = 4
            · refine z_eq (if_pos h25) ?_
              refine z_tswIn (pc := 24) hX 88 dX12_of_24 h25 (by decide) (by decide) rfl (by decide) ?_
              refine z_aload_n (pc := 88) hX 0 dX12_of_88 rfl rfl ?_
              refine z_iload_n (pc := 89) hX 1 dX12_of_89 rfl rfl ?_
              refine z_iload_n (pc := 90) hX 2 dX12_of_90 rfl rfl ?_
              refine z_callV (n := 2) (st := []) (pc := 91) hX zc12 rfl (fun _ => (mX12_lost _ hE _ _ _ _ _)) ⟨wd1322, wd67, wd1325, ⟨by decide, by decide, by decide⟩, by decide⟩ rfl wd1324 wd52 rfl rfl (by decide) (Nat.le_of_ble_eq_true rfl) dX12_of_91 (fun v26 s27 r28 => ?_)
              show Zj X G 94 [(0, (2, a0)), (1, (0, a1)), (2, (0, a2)), (3, (0, a3))] [(0, v26)] _ _
              exact z_iret (pc := 94) hX hR hk dX12_of_94
            · refine z_eq (if_neg h25) ?_
              refine z_tswOut (pc := 24) hX 95 dX12_of_24 (by omega) (by decide) ?_
              refine z_sipush (pc := 95) hX dX12_of_95 ?_
              exact z_iret (pc := 98) hX hR hk dX12_of_98
  · refine z_sipush (pc := 9) hX dX12_of_9 ?_
    exact z_iret (pc := 12) hX hR hk dX12_of_12

theorem dX2_waitingBehind_0 : decode cX2_waitingBehind 0 = .ok (.iconst 0, 1) := by decide +kernel
theorem dX2_waitingBehind_1 : decode cX2_waitingBehind 1 = .ok (.istore 4, 2) := by decide +kernel
theorem dX2_waitingBehind_3 : decode cX2_waitingBehind 3 = .ok (.iconst 0, 1) := by decide +kernel
theorem dX2_waitingBehind_4 : decode cX2_waitingBehind 4 = .ok (.istore 5, 2) := by decide +kernel
theorem dX2_waitingBehind_6 : decode cX2_waitingBehind 6 = .ok (.iload 5, 2) := by decide +kernel
theorem dX2_waitingBehind_8 : decode cX2_waitingBehind 8 = .ok (.aload_n 1, 1) := by decide +kernel
theorem dX2_waitingBehind_9 : decode cX2_waitingBehind 9 = .ok (.getfield 71, 3) := by decide +kernel
theorem dX2_waitingBehind_12 : decode cX2_waitingBehind 12 = .ok (.if_icmp .ge 82, 3) := by decide +kernel
theorem dX2_waitingBehind_15 : decode cX2_waitingBehind 15 = .ok (.aload_n 0, 1) := by decide +kernel
theorem dX2_waitingBehind_16 : decode cX2_waitingBehind 16 = .ok (.getfield 18, 3) := by decide +kernel
theorem dX2_waitingBehind_19 : decode cX2_waitingBehind 19 = .ok (.iload 5, 2) := by decide +kernel
theorem dX2_waitingBehind_21 : decode cX2_waitingBehind 21 = .ok (.iaload, 1) := by decide +kernel
theorem dX2_waitingBehind_22 : decode cX2_waitingBehind 22 = .ok (.iconst (-1), 1) := by decide +kernel
theorem dX2_waitingBehind_23 : decode cX2_waitingBehind 23 = .ok (.if_icmp .eq 32, 3) := by decide +kernel
theorem dX2_waitingBehind_26 : decode cX2_waitingBehind 26 = .ok (.aload_n 0, 1) := by decide +kernel
theorem dX2_waitingBehind_27 : decode cX2_waitingBehind 27 = .ok (.getfield 18, 3) := by decide +kernel
theorem dX2_waitingBehind_30 : decode cX2_waitingBehind 30 = .ok (.iload 5, 2) := by decide +kernel
theorem dX2_waitingBehind_32 : decode cX2_waitingBehind 32 = .ok (.iaload, 1) := by decide +kernel
theorem dX2_waitingBehind_33 : decode cX2_waitingBehind 33 = .ok (.iload_n 3, 1) := by decide +kernel
theorem dX2_waitingBehind_34 : decode cX2_waitingBehind 34 = .ok (.if_icmp .gt 21, 3) := by decide +kernel
theorem dX2_waitingBehind_37 : decode cX2_waitingBehind 37 = .ok (.aload_n 1, 1) := by decide +kernel
theorem dX2_waitingBehind_38 : decode cX2_waitingBehind 38 = .ok (.getfield 76, 3) := by decide +kernel
theorem dX2_waitingBehind_41 : decode cX2_waitingBehind 41 = .ok (.iload 5, 2) := by decide +kernel
theorem dX2_waitingBehind_43 : decode cX2_waitingBehind 43 = .ok (.iaload, 1) := by decide +kernel
theorem dX2_waitingBehind_44 : decode cX2_waitingBehind 44 = .ok (.bipush 24, 2) := by decide +kernel
theorem dX2_waitingBehind_46 : decode cX2_waitingBehind 46 = .ok (.idiv, 1) := by decide +kernel
theorem dX2_waitingBehind_47 : decode cX2_waitingBehind 47 = .ok (.iload_n 2, 1) := by decide +kernel
theorem dX2_waitingBehind_48 : decode cX2_waitingBehind 48 = .ok (.if_icmp .ne 7, 3) := by decide +kernel
theorem dX2_waitingBehind_51 : decode cX2_waitingBehind 51 = .ok (.iconst 1, 1) := by decide +kernel
theorem dX2_waitingBehind_52 : decode cX2_waitingBehind 52 = .ok (.goto 4, 3) := by decide +kernel
theorem dX2_waitingBehind_55 : decode cX2_waitingBehind 55 = .ok (.iconst 0, 1) := by decide +kernel
theorem dX2_waitingBehind_56 : decode cX2_waitingBehind 56 = .ok (.istore 6, 2) := by decide +kernel
theorem dX2_waitingBehind_58 : decode cX2_waitingBehind 58 = .ok (.iload 6, 2) := by decide +kernel
theorem dX2_waitingBehind_60 : decode cX2_waitingBehind 60 = .ok (.ifCond .eq 28, 3) := by decide +kernel
theorem dX2_waitingBehind_63 : decode cX2_waitingBehind 63 = .ok (.aload_n 0, 1) := by decide +kernel
theorem dX2_waitingBehind_64 : decode cX2_waitingBehind 64 = .ok (.getfield 22, 3) := by decide +kernel
theorem dX2_waitingBehind_67 : decode cX2_waitingBehind 67 = .ok (.iload 5, 2) := by decide +kernel
theorem dX2_waitingBehind_69 : decode cX2_waitingBehind 69 = .ok (.iaload, 1) := by decide +kernel
theorem dX2_waitingBehind_70 : decode cX2_waitingBehind 70 = .ok (.iconst (-1), 1) := by decide +kernel
theorem dX2_waitingBehind_71 : decode cX2_waitingBehind 71 = .ok (.if_icmp .eq 14, 3) := by decide +kernel
theorem dX2_waitingBehind_74 : decode cX2_waitingBehind 74 = .ok (.aload_n 0, 1) := by decide +kernel
theorem dX2_waitingBehind_75 : decode cX2_waitingBehind 75 = .ok (.getfield 22, 3) := by decide +kernel
theorem dX2_waitingBehind_78 : decode cX2_waitingBehind 78 = .ok (.iload 5, 2) := by decide +kernel
theorem dX2_waitingBehind_80 : decode cX2_waitingBehind 80 = .ok (.iaload, 1) := by decide +kernel
theorem dX2_waitingBehind_81 : decode cX2_waitingBehind 81 = .ok (.iload_n 3, 1) := by decide +kernel
theorem dX2_waitingBehind_82 : decode cX2_waitingBehind 82 = .ok (.if_icmp .le 6, 3) := by decide +kernel
theorem dX2_waitingBehind_85 : decode cX2_waitingBehind 85 = .ok (.iinc 4 1, 3) := by decide +kernel
theorem dX2_waitingBehind_88 : decode cX2_waitingBehind 88 = .ok (.iinc 5 1, 3) := by decide +kernel
theorem dX2_waitingBehind_91 : decode cX2_waitingBehind 91 = .ok (.goto (-85), 3) := by decide +kernel
theorem dX2_waitingBehind_94 : decode cX2_waitingBehind 94 = .ok (.iload 4, 2) := by decide +kernel
theorem dX2_waitingBehind_96 : decode cX2_waitingBehind 96 = .ok (.ireturn, 1) := by decide +kernel
def lX2_waitingBehind_6 (u2 u3 u4 u5 : Int)  : Nat → ZS → Int → Int → Option (Int × ZS)
  | 0, _, _, _ => none
  | n1 + 1, s1, x6, x7 => (zgw s1 u3 0).bind (fun v8 => if v8 ≤ x7 then (some (x6, s1)) else ((zg s1 2 u2 1).bind (fun v10 => (zal s1 100 v10 x7).bind (fun v11 => zjn (fun (K56 : ZS → Int → Option (Int × ZS)) => zjn (fun (K55 : ZS → Option (Int × ZS)) => if v11 = (-1) then (K55 s1) else ((zg s1 2 u2 1).bind (fun v13 => (zal s1 100 v13 x7).bind (fun v14 => if u5 < v14 then (K55 s1) else ((zgw s1 u3 1).bind (fun v16 => (zal s1 100 v16 x7).bind (fun v17 => if 24 = 0 then none else (if (wrap (v17.tdiv 24)) = u4 then (K56 s1 1) else (K55 s1))))))))) (fun (s19 : ZS) => K56 s19 0)) (fun (s20 : ZS) (w21 : Int) => zjn (fun (K88 : ZS → Int → Option (Int × ZS)) => if w21 = 0 then (K88 s20 x6) else ((zg s20 2 u2 2).bind (fun v23 => (zal s20 100 v23 x7).bind (fun v24 => zjn (fun (K85 : ZS → Option (Int × ZS)) => if v24 = (-1) then (K85 s20) else ((zg s20 2 u2 2).bind (fun v26 => (zal s20 100 v26 x7).bind (fun v27 => if v27 ≤ u5 then (K88 s20 x6) else (K85 s20))))) (fun (s29 : ZS) => K88 s29 (wrap (x6 + 1))))))) (fun (s30 : ZS) (x31 : Int) => lX2_waitingBehind_6 u2 u3 u4 u5 n1 s30 x31 (wrap (x7 + 1))))))))

def fX2_waitingBehind (s0 : ZS) (a0 : Int) (a1 : Int) (a2 : Int) (a3 : Int) : Option (Int × ZS) := lX2_waitingBehind_6 a0 a1 a2 a3 1000 s0 0 0
set_option maxHeartbeats 4000000 in
set_option maxRecDepth 100000 in
theorem mX2_waitingBehind (E : ZE) (hE : zOkE E) (l : Launch) (s0 : ZS) (a0 : Int) (a1 : Int) (a2 : Int) (a3 : Int) : Ct E l yX2_waitingBehind cX2_waitingBehind 7 (some .int) 2 [(2, a0), (2, a1), (0, a2), (0, a3)] 1 s0 (fX2_waitingBehind s0 a0 a1 a2 a3) := by
  refine Ct.of (by decide) hE (Nat.le_of_ble_eq_true rfl) ?_
  intro X G hX hR hN hXE hXl hxn hk _
  subst hXE
  subst hXl
  have hX : G → ZOk X cX2_waitingBehind RX2 2 := hX
  clear hN
  show Zj X G 0 [(0, (2, a0)), (1, (2, a1)), (2, (0, a2)), (3, (0, a3))] [] s0 _
  unfold fX2_waitingBehind
  refine z_iconst (pc := 0) hX dX2_waitingBehind_0 ?_
  refine z_istore (lv' := [(4, (0, 0)), (0, (2, a0)), (1, (2, a1)), (2, (0, a2)), (3, (0, a3))]) (pc := 1) hX dX2_waitingBehind_1 (zlt hxn rfl) rfl ?_
  refine z_iconst (pc := 3) hX dX2_waitingBehind_3 ?_
  refine z_istore (lv' := [(5, (0, 0)), (4, (0, 0)), (0, (2, a0)), (1, (2, a1)), (2, (0, a2)), (3, (0, a3))]) (pc := 4) hX dX2_waitingBehind_4 (zlt hxn rfl) rfl ?_
  have hl6 : ∀ (u2 u3 u4 u5 : Int), ∀ (n1 : Nat) (s1 : ZS) (x6 x7 : Int), Zj X G 6 [(0, (2, u2)), (1, (2, u3)), (2, (0, u4)), (3, (0, u5)), (4, (0, x6)), (5, (0, x7))] [] s1 (lX2_waitingBehind_6 u2 u3 u4 u5 n1 s1 x6 x7) := by
    intro u2 u3 u4 u5 n1
    induction n1 with
    | zero => intro _ _ _; exact z_none
    | succ n1 ih1 =>
      intro s1 x6 x7
      rw [lX2_waitingBehind_6]
      refine z_iload (pc := 6) hX 5 dX2_waitingBehind_6 rfl ?_
      refine z_aload_n (pc := 8) hX 1 dX2_waitingBehind_8 rfl rfl ?_
      refine z_getw (pc := 9) hX zc10 zc9 zc3 zc0 zc1 zc7 0 (by decide) wd616 rfl rfl rfl rfl rfl rfl rfl rfl rfl rfl rfl rfl rfl dX2_waitingBehind_9 (fun v8 => ?_)
      refine z_icmp_ge (pc := 12) hX 94 dX2_waitingBehind_12 (by decide) (fun h9 => ?_) (fun h9 => ?_)
      · refine z_iload (pc := 94) hX 4 dX2_waitingBehind_94 rfl ?_
        exact z_iret (pc := 96) hX hR hk dX2_waitingBehind_96
      · refine z_aload_n (pc := 15) hX 0 dX2_waitingBehind_15 rfl rfl ?_
        refine z_get (pc := 16) hX zc2 1 (by decide) wd153 rfl rfl dX2_waitingBehind_16 (fun v10 => ?_)
        refine z_iload (pc := 19) hX 5 dX2_waitingBehind_19 rfl ?_
        refine z_iald (pc := 21) hX dX2_waitingBehind_21 (fun v11 => ?_)
        refine z_iconst (pc := 22) hX dX2_waitingBehind_22 ?_
        refine z_jn (fun K56 eK56 => ?_)
        have hK56 : ∀ (s20 : ZS) (w21 : Int), Zj X G 56 [(0, (2, u2)), (1, (2, u3)), (2, (0, u4)), (3, (0, u5)), (4, (0, x6)), (5, (0, x7))] [(0, w21)] s20 (K56 s20 w21) := by
          intro s20 w21
          rw [eK56]
          refine z_istore (lv' := [(6, (0, w21)), (0, (2, u2)), (1, (2, u3)), (2, (0, u4)), (3, (0, u5)), (4, (0, x6)), (5, (0, x7))]) (pc := 56) hX dX2_waitingBehind_56 (zlt hxn rfl) rfl ?_
          refine z_iload (pc := 58) hX 0 dX2_waitingBehind_58 rfl ?_
          refine z_jn (fun K88 eK88 => ?_)
          have hK88 : ∀ (s30 : ZS) (x31 : Int), Zj X G 88 [(0, (2, u2)), (1, (2, u3)), (2, (0, u4)), (3, (0, u5)), (4, (0, x31)), (5, (0, x7))] [] s30 (K88 s30 x31) := by
            intro s30 x31
            rw [eK88]
            refine z_iinc (lv' := [(5, (0, (wrap (x7 + 1)))), (0, (2, u2)), (1, (2, u3)), (2, (0, u4)), (3, (0, u5)), (4, (0, x31))]) (pc := 88) hX 5 dX2_waitingBehind_88 rfl (zlt hxn rfl) rfl ?_
            refine z_goto (pc := 91) hX 6 dX2_waitingBehind_91 (by decide) ?_
            refine z_pick (lv' := [(0, (2, u2)), (1, (2, u3)), (2, (0, u4)), (3, (0, u5)), (4, (0, x31)), (5, (0, (wrap (x7 + 1))))]) [1, 2, 3, 4, 5, 0] rfl ?_
            exact ih1 _ _ _
          clear eK88
          refine z_if_eq (pc := 60) hX 88 dX2_waitingBehind_60 (by decide) (fun h22 => ?_) (fun h22 => ?_)
          · refine z_pick (lv' := [(0, (2, u2)), (1, (2, u3)), (2, (0, u4)), (3, (0, u5)), (4, (0, x6)), (5, (0, x7))]) [1, 2, 3, 4, 5, 6] rfl ?_
            exact hK88 _ _
          · refine z_aload_n (pc := 63) hX 1 dX2_waitingBehind_63 rfl rfl ?_
            refine z_get (pc := 64) hX zc2 2 (by decide) wd155 rfl rfl dX2_waitingBehind_64 (fun v23 => ?_)
            refine z_iload (pc := 67) hX 6 dX2_waitingBehind_67 rfl ?_
            refine z_iald (pc := 69) hX dX2_waitingBehind_69 (fun v24 => ?_)
            refine z_iconst (pc := 70) hX dX2_waitingBehind_70 ?_
            refine z_jn (fun K85 eK85 => ?_)
            have hK85 : ∀ (s29 : ZS), Zj X G 85 [(0, (2, u2)), (1, (2, u3)), (2, (0, u4)), (3, (0, u5)), (4, (0, x6)), (5, (0, x7))] [] s29 (K85 s29) := by
              intro s29
              rw [eK85]
              refine z_iinc (lv' := [(4, (0, (wrap (x6 + 1)))), (0, (2, u2)), (1, (2, u3)), (2, (0, u4)), (3, (0, u5)), (5, (0, x7))]) (pc := 85) hX 4 dX2_waitingBehind_85 rfl (zlt hxn rfl) rfl ?_
              refine z_pick (lv' := [(0, (2, u2)), (1, (2, u3)), (2, (0, u4)), (3, (0, u5)), (4, (0, (wrap (x6 + 1)))), (5, (0, x7))]) [1, 2, 3, 4, 0, 5] rfl ?_
              exact hK88 _ _
            clear eK85
            refine z_icmp_eq (pc := 71) hX 85 dX2_waitingBehind_71 (by decide) (fun h25 => ?_) (fun h25 => ?_)
            · refine z_pick (lv' := [(0, (2, u2)), (1, (2, u3)), (2, (0, u4)), (3, (0, u5)), (4, (0, x6)), (5, (0, x7))]) [1, 2, 3, 4, 5, 6] rfl ?_
              exact hK85 _
            · refine z_aload_n (pc := 74) hX 1 dX2_waitingBehind_74 rfl rfl ?_
              refine z_get (pc := 75) hX zc2 2 (by decide) wd155 rfl rfl dX2_waitingBehind_75 (fun v26 => ?_)
              refine z_iload (pc := 78) hX 6 dX2_waitingBehind_78 rfl ?_
              refine z_iald (pc := 80) hX dX2_waitingBehind_80 (fun v27 => ?_)
              refine z_iload_n (pc := 81) hX 4 dX2_waitingBehind_81 rfl rfl ?_
              refine z_icmp_le (pc := 82) hX 88 dX2_waitingBehind_82 (by decide) (fun h28 => ?_) (fun h28 => ?_)
              · refine z_pick (lv' := [(0, (2, u2)), (1, (2, u3)), (2, (0, u4)), (3, (0, u5)), (4, (0, x6)), (5, (0, x7))]) [1, 2, 3, 4, 5, 6] rfl ?_
                exact hK88 _ _
              · refine z_pick (lv' := [(0, (2, u2)), (1, (2, u3)), (2, (0, u4)), (3, (0, u5)), (4, (0, x6)), (5, (0, x7))]) [1, 2, 3, 4, 5, 6] rfl ?_
                exact hK85 _
        clear eK56
        refine z_jn (fun K55 eK55 => ?_)
        have hK55 : ∀ (s19 : ZS), Zj X G 55 [(0, (2, u2)), (1, (2, u3)), (2, (0, u4)), (3, (0, u5)), (4, (0, x6)), (5, (0, x7))] [] s19 (K55 s19) := by
          intro s19
          rw [eK55]
          refine z_iconst (pc := 55) hX dX2_waitingBehind_55 ?_
          exact hK56 _ _
        clear eK55
        refine z_icmp_eq (pc := 23) hX 55 dX2_waitingBehind_23 (by decide) (fun h12 => ?_) (fun h12 => ?_)
        · exact hK55 _
        · refine z_aload_n (pc := 26) hX 0 dX2_waitingBehind_26 rfl rfl ?_
          refine z_get (pc := 27) hX zc2 1 (by decide) wd153 rfl rfl dX2_waitingBehind_27 (fun v13 => ?_)
          refine z_iload (pc := 30) hX 5 dX2_waitingBehind_30 rfl ?_
          refine z_iald (pc := 32) hX dX2_waitingBehind_32 (fun v14 => ?_)
          refine z_iload_n (pc := 33) hX 3 dX2_waitingBehind_33 rfl rfl ?_
          refine z_icmp_gt (pc := 34) hX 55 dX2_waitingBehind_34 (by decide) (fun h15 => ?_) (fun h15 => ?_)
          · exact hK55 _
          · refine z_aload_n (pc := 37) hX 1 dX2_waitingBehind_37 rfl rfl ?_
            refine z_getw (pc := 38) hX zc10 zc9 zc3 zc0 zc1 zc7 1 (by decide) wd619 rfl rfl rfl rfl rfl rfl rfl rfl rfl rfl rfl rfl rfl dX2_waitingBehind_38 (fun v16 => ?_)
            refine z_iload (pc := 41) hX 5 dX2_waitingBehind_41 rfl ?_
            refine z_iald (pc := 43) hX dX2_waitingBehind_43 (fun v17 => ?_)
            refine z_bipush (pc := 44) hX dX2_waitingBehind_44 ?_
            refine z_idiv (pc := 46) hX dX2_waitingBehind_46 (fun _ => ?_)
            refine z_iload_n (pc := 47) hX 2 dX2_waitingBehind_47 rfl rfl ?_
            refine z_icmp_ne (pc := 48) hX 55 dX2_waitingBehind_48 (by decide) (fun h18 => ?_) (fun h18 => ?_)
            · exact hK55 _
            · refine z_iconst (pc := 51) hX dX2_waitingBehind_51 ?_
              refine z_goto (pc := 52) hX 56 dX2_waitingBehind_52 (by decide) ?_
              exact hK56 _ _
  refine z_pick (lv' := [(0, (2, a0)), (1, (2, a1)), (2, (0, a2)), (3, (0, a3)), (4, (0, 0)), (5, (0, 0))]) [2, 3, 4, 5, 1, 0] rfl ?_
  refine hl6 _ _ _ _ 1000 _ _ _

theorem dX11_line_0 : decode cX11_line 0 = .ok (.aload_n 0, 1) := by decide +kernel
theorem dX11_line_1 : decode cX11_line 1 = .ok (.iload_n 1, 1) := by decide +kernel
theorem dX11_line_2 : decode cX11_line 2 = .ok (.invokevirtual 177, 3) := by decide +kernel
theorem dX11_line_5 : decode cX11_line 5 = .ok (.astore 4, 2) := by decide +kernel
theorem dX11_line_7 : decode cX11_line 7 = .ok (.aload 4, 2) := by decide +kernel
theorem dX11_line_9 : decode cX11_line 9 = .ok (.ifnull 17, 3) := by decide +kernel
theorem dX11_line_12 : decode cX11_line 12 = .ok (.iload_n 2, 1) := by decide +kernel
theorem dX11_line_13 : decode cX11_line 13 = .ok (.invokestatic 95, 3) := by decide +kernel
theorem dX11_line_16 : decode cX11_line 16 = .ok (.ifCond .eq 10, 3) := by decide +kernel
theorem dX11_line_19 : decode cX11_line 19 = .ok (.iload_n 3, 1) := by decide +kernel
theorem dX11_line_20 : decode cX11_line 20 = .ok (.invokestatic 99, 3) := by decide +kernel
theorem dX11_line_23 : decode cX11_line 23 = .ok (.ifCond .ne 6, 3) := by decide +kernel
theorem dX11_line_26 : decode cX11_line 26 = .ok (.bipush (-5), 2) := by decide +kernel
theorem dX11_line_28 : decode cX11_line 28 = .ok (.ireturn, 1) := by decide +kernel
theorem dX11_line_29 : decode cX11_line 29 = .ok (.aload_n 0, 1) := by decide +kernel
theorem dX11_line_30 : decode cX11_line 30 = .ok (.getfield 10, 3) := by decide +kernel
theorem dX11_line_33 : decode cX11_line 33 = .ok (.aload 4, 2) := by decide +kernel
theorem dX11_line_35 : decode cX11_line 35 = .ok (.invokevirtual 188, 3) := by decide +kernel
theorem dX11_line_38 : decode cX11_line 38 = .ok (.aload_n 0, 1) := by decide +kernel
theorem dX11_line_39 : decode cX11_line 39 = .ok (.getfield 10, 3) := by decide +kernel
theorem dX11_line_42 : decode cX11_line 42 = .ok (.aload 4, 2) := by decide +kernel
theorem dX11_line_44 : decode cX11_line 44 = .ok (.iload_n 2, 1) := by decide +kernel
theorem dX11_line_45 : decode cX11_line 45 = .ok (.iload_n 3, 1) := by decide +kernel
theorem dX11_line_46 : decode cX11_line 46 = .ok (.invokevirtual 209, 3) := by decide +kernel
theorem dX11_line_49 : decode cX11_line 49 = .ok (.ireturn, 1) := by decide +kernel
def fX11_line (s0 : ZS) (a0 : Int) (a1 : Int) (a2 : Int) (a3 : Int) : Option (Int × ZS) := zb (zv s0 11 a0 (fX11_wayAt s0 a0 a1)) (fun v1 s2 => if v1 < 0 then (some ((-5), s2)) else (zb (fX11_isGate s2 a2) (fun v5 s6 => if v5 = 0 then (some ((-5), s6)) else (zb (fX11_isMinute s6 a3) (fun v9 s10 => if v9 = 0 then (some ((-5), s10)) else ((zg s10 11 a0 0).bind (fun v13 => zb (zv s10 2 v13 (fX2_follow s10 v13 v1)) (fun v14 s15 => (zg s15 11 a0 0).bind (fun v17 => zb (zv s15 2 v17 (fX2_waitingBehind s15 v17 v1 a2 a3)) (fun v18 s19 => some (v18, s19)))))))))))
set_option maxHeartbeats 4000000 in
set_option maxRecDepth 100000 in
theorem mX11_line (E : ZE) (hE : zOkE E) (l : Launch) (s0 : ZS) (a0 : Int) (a1 : Int) (a2 : Int) (a3 : Int) : Ct E l yX11_line cX11_line 5 (some .int) 10 [(2, a0), (0, a1), (0, a2), (0, a3)] 1 s0 (fX11_line s0 a0 a1 a2 a3) := by
  refine Ct.of (by decide) hE (Nat.le_of_ble_eq_true rfl) ?_
  intro X G hX hR hN hXE hXl hxn hk _
  subst hXE
  subst hXl
  have hX : G → ZOk X cX11_line RX11 10 := hX
  clear hN
  show Zj X G 0 [(0, (2, a0)), (1, (0, a1)), (2, (0, a2)), (3, (0, a3))] [] s0 _
  unfold fX11_line
  refine z_aload_n (pc := 0) hX 0 dX11_line_0 rfl rfl ?_
  refine z_iload_n (pc := 1) hX 1 dX11_line_1 rfl rfl ?_
  refine z_callV (n := 1) (st := []) (pc := 2) hX zc11 rfl (fun _ => (mX11_wayAt _ hE _ _ _ _)) ⟨wd681, wd61, wd684, ⟨by decide, by decide, by decide⟩, by decide⟩ rfl wd683 wd18 rfl rfl (by decide) (Nat.le_of_ble_eq_true rfl) dX11_line_2 (fun v1 s2 r3 => ?_)
  show Zj X G 5 [(0, (2, a0)), (1, (0, a1)), (2, (0, a2)), (3, (0, a3))] [(2, v1)] _ _
  refine z_astore (lv' := [(4, (2, v1)), (0, (2, a0)), (1, (0, a1)), (2, (0, a2)), (3, (0, a3))]) (pc := 5) hX dX11_line_5 (zlt hxn rfl) rfl ?_
  refine z_aload (pc := 7) hX 0 dX11_line_7 rfl ?_
  refine z_ifnull (pc := 9) hX 26 dX11_line_9 (by decide) (fun h4 => ?_) (fun h4 => ?_)
  · refine z_bipush (pc := 26) hX dX11_line_26 ?_
    exact z_iret (pc := 28) hX hR hk dX11_line_28
  · refine z_iload_n (pc := 12) hX 3 dX11_line_12 rfl rfl ?_
    refine z_callS (n := 1) (st := []) (pc := 13) hX (mX11_isGate _ hE _ _ _) ⟨wd326, wd61, wd328, ⟨by decide, by decide, by decide⟩, by decide⟩ wd327 rfl rfl (by decide) (Nat.le_of_ble_eq_true rfl) dX11_line_13 (fun v5 s6 r7 => ?_)
    show Zj X G 16 [(4, (2, v1)), (0, (2, a0)), (1, (0, a1)), (2, (0, a2)), (3, (0, a3))] [(0, v5)] _ _
    refine z_if_eq (pc := 16) hX 26 dX11_line_16 (by decide) (fun h8 => ?_) (fun h8 => ?_)
    · refine z_bipush (pc := 26) hX dX11_line_26 ?_
      exact z_iret (pc := 28) hX hR hk dX11_line_28
    · refine z_iload_n (pc := 19) hX 4 dX11_line_19 rfl rfl ?_
      refine z_callS (n := 1) (st := []) (pc := 20) hX (mX11_isMinute _ hE _ _ _) ⟨wd332, wd61, wd334, ⟨by decide, by decide, by decide⟩, by decide⟩ wd333 rfl rfl (by decide) (Nat.le_of_ble_eq_true rfl) dX11_line_20 (fun v9 s10 r11 => ?_)
      show Zj X G 23 [(4, (2, v1)), (0, (2, a0)), (1, (0, a1)), (2, (0, a2)), (3, (0, a3))] [(0, v9)] _ _
      refine z_if_ne (pc := 23) hX 29 dX11_line_23 (by decide) (fun h12 => ?_) (fun h12 => ?_)
      · refine z_aload_n (pc := 29) hX 1 dX11_line_29 rfl rfl ?_
        refine z_get (pc := 30) hX zc11 0 (by decide) wd270 rfl rfl dX11_line_30 (fun v13 => ?_)
        refine z_aload (pc := 33) hX 0 dX11_line_33 rfl ?_
        refine z_callV (n := 1) (st := []) (pc := 35) hX zc2 rfl (fun _ => (mX2_follow _ hE _ _ _ _)) ⟨wd723, wd62, wd726, ⟨by decide, by decide, by decide⟩, by decide⟩ rfl wd724 wd725 rfl rfl (by decide) (Nat.le_of_ble_eq_true rfl) dX11_line_35 (fun v14 s15 r16 => ?_)
        show Zj X G 38 [(4, (2, v1)), (0, (2, a0)), (1, (0, a1)), (2, (0, a2)), (3, (0, a3))] [] _ _
        refine z_aload_n (pc := 38) hX 1 dX11_line_38 rfl rfl ?_
        refine z_get (pc := 39) hX zc11 0 (by decide) wd270 rfl rfl dX11_line_39 (fun v17 => ?_)
        refine z_aload (pc := 42) hX 0 dX11_line_42 rfl ?_
        refine z_iload_n (pc := 44) hX 3 dX11_line_44 rfl rfl ?_
        refine z_iload_n (pc := 45) hX 4 dX11_line_45 rfl rfl ?_
        refine z_callV (n := 3) (st := []) (pc := 46) hX zc2 rfl (fun _ => (mX2_waitingBehind _ hE _ _ _ _ _ _)) ⟨wd834, wd62, wd837, ⟨by decide, by decide, by decide⟩, by decide⟩ rfl wd835 wd836 rfl rfl (by decide) (Nat.le_of_ble_eq_true rfl) dX11_line_46 (fun v18 s19 r20 => ?_)
        show Zj X G 49 [(4, (2, v1)), (0, (2, a0)), (1, (0, a1)), (2, (0, a2)), (3, (0, a3))] [(0, v18)] _ _
        exact z_iret (pc := 49) hX hR hk dX11_line_49
      · refine z_bipush (pc := 26) hX dX11_line_26 ?_
        exact z_iret (pc := 28) hX hR hk dX11_line_28
