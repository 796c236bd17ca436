theorem dX12_swap_0 : decode cX12_swap 0 = .ok (.aload_n 0, 1) := by decide +kernel
theorem dX12_swap_1 : decode cX12_swap 1 = .ok (.iload_n 1, 1) := by decide +kernel
theorem dX12_swap_2 : decode cX12_swap 2 = .ok (.iload_n 2, 1) := by decide +kernel
theorem dX12_swap_3 : decode cX12_swap 3 = .ok (.invokevirtual 223, 3) := by decide +kernel
theorem dX12_swap_6 : decode cX12_swap 6 = .ok (.ifCond .eq 12, 3) := by decide +kernel
theorem dX12_swap_9 : decode cX12_swap 9 = .ok (.aload_n 0, 1) := by decide +kernel
theorem dX12_swap_10 : decode cX12_swap 10 = .ok (.iload_n 1, 1) := by decide +kernel
theorem dX12_swap_11 : decode cX12_swap 11 = .ok (.iload_n 3, 1) := by decide +kernel
theorem dX12_swap_12 : decode cX12_swap 12 = .ok (.invokevirtual 223, 3) := by decide +kernel
theorem dX12_swap_15 : decode cX12_swap 15 = .ok (.ifCond .ne 6, 3) := by decide +kernel
theorem dX12_swap_18 : decode cX12_swap 18 = .ok (.bipush (-5), 2) := by decide +kernel
theorem dX12_swap_20 : decode cX12_swap 20 = .ok (.ireturn, 1) := by decide +kernel
theorem dX12_swap_21 : decode cX12_swap 21 = .ok (.iload_n 2, 1) := by decide +kernel
theorem dX12_swap_22 : decode cX12_swap 22 = .ok (.iload_n 3, 1) := by decide +kernel
theorem dX12_swap_23 : decode cX12_swap 23 = .ok (.if_icmp .ne 6, 3) := by decide +kernel
theorem dX12_swap_26 : decode cX12_swap 26 = .ok (.bipush (-7), 2) := by decide +kernel
theorem dX12_swap_28 : decode cX12_swap 28 = .ok (.ireturn, 1) := by decide +kernel
theorem dX12_swap_29 : decode cX12_swap 29 = .ok (.aload_n 0, 1) := by decide +kernel
theorem dX12_swap_30 : decode cX12_swap 30 = .ok (.iload_n 1, 1) := by decide +kernel
theorem dX12_swap_31 : decode cX12_swap 31 = .ok (.invokevirtual 251, 3) := by decide +kernel
theorem dX12_swap_34 : decode cX12_swap 34 = .ok (.aload_n 0, 1) := by decide +kernel
theorem dX12_swap_35 : decode cX12_swap 35 = .ok (.iload_n 1, 1) := by decide +kernel
theorem dX12_swap_36 : decode cX12_swap 36 = .ok (.invokevirtual 254, 3) := by decide +kernel
theorem dX12_swap_39 : decode cX12_swap 39 = .ok (.aload_n 0, 1) := by decide +kernel
theorem dX12_swap_40 : decode cX12_swap 40 = .ok (.iload_n 1, 1) := by decide +kernel
theorem dX12_swap_41 : decode cX12_swap 41 = .ok (.iload_n 2, 1) := by decide +kernel
theorem dX12_swap_42 : decode cX12_swap 42 = .ok (.invokevirtual 248, 3) := by decide +kernel
theorem dX12_swap_45 : decode cX12_swap 45 = .ok (.istore 4, 2) := by decide +kernel
theorem dX12_swap_47 : decode cX12_swap 47 = .ok (.aload_n 0, 1) := by decide +kernel
theorem dX12_swap_48 : decode cX12_swap 48 = .ok (.iload_n 1, 1) := by decide +kernel
theorem dX12_swap_49 : decode cX12_swap 49 = .ok (.iload_n 3, 1) := by decide +kernel
theorem dX12_swap_50 : decode cX12_swap 50 = .ok (.invokevirtual 248, 3) := by decide +kernel
theorem dX12_swap_53 : decode cX12_swap 53 = .ok (.istore 5, 2) := by decide +kernel
theorem dX12_swap_55 : decode cX12_swap 55 = .ok (.aload_n 0, 1) := by decide +kernel
theorem dX12_swap_56 : decode cX12_swap 56 = .ok (.getfield 106, 3) := by decide +kernel
theorem dX12_swap_59 : decode cX12_swap 59 = .ok (.iload_n 2, 1) := by decide +kernel
theorem dX12_swap_60 : decode cX12_swap 60 = .ok (.iaload, 1) := by decide +kernel
theorem dX12_swap_61 : decode cX12_swap 61 = .ok (.istore 6, 2) := by decide +kernel
theorem dX12_swap_63 : decode cX12_swap 63 = .ok (.aload_n 0, 1) := by decide +kernel
theorem dX12_swap_64 : decode cX12_swap 64 = .ok (.getfield 106, 3) := by decide +kernel
theorem dX12_swap_67 : decode cX12_swap 67 = .ok (.iload_n 2, 1) := by decide +kernel
theorem dX12_swap_68 : decode cX12_swap 68 = .ok (.aload_n 0, 1) := by decide +kernel
theorem dX12_swap_69 : decode cX12_swap 69 = .ok (.getfield 106, 3) := by decide +kernel
theorem dX12_swap_72 : decode cX12_swap 72 = .ok (.iload_n 3, 1) := by decide +kernel
theorem dX12_swap_73 : decode cX12_swap 73 = .ok (.iaload, 1) := by decide +kernel
theorem dX12_swap_74 : decode cX12_swap 74 = .ok (.iastore, 1) := by decide +kernel
theorem dX12_swap_75 : decode cX12_swap 75 = .ok (.aload_n 0, 1) := by decide +kernel
theorem dX12_swap_76 : decode cX12_swap 76 = .ok (.getfield 106, 3) := by decide +kernel
theorem dX12_swap_79 : decode cX12_swap 79 = .ok (.iload_n 3, 1) := by decide +kernel
theorem dX12_swap_80 : decode cX12_swap 80 = .ok (.iload 6, 2) := by decide +kernel
theorem dX12_swap_82 : decode cX12_swap 82 = .ok (.iastore, 1) := by decide +kernel
theorem dX12_swap_83 : decode cX12_swap 83 = .ok (.aload_n 0, 1) := by decide +kernel
theorem dX12_swap_84 : decode cX12_swap 84 = .ok (.iload_n 1, 1) := by decide +kernel
theorem dX12_swap_85 : decode cX12_swap 85 = .ok (.invokevirtual 254, 3) := by decide +kernel
theorem dX12_swap_88 : decode cX12_swap 88 = .ok (.aload_n 0, 1) := by decide +kernel
theorem dX12_swap_89 : decode cX12_swap 89 = .ok (.iload_n 1, 1) := by decide +kernel
theorem dX12_swap_90 : decode cX12_swap 90 = .ok (.iload_n 2, 1) := by decide +kernel
theorem dX12_swap_91 : decode cX12_swap 91 = .ok (.invokevirtual 248, 3) := by decide +kernel
theorem dX12_swap_94 : decode cX12_swap 94 = .ok (.iload 4, 2) := by decide +kernel
theorem dX12_swap_96 : decode cX12_swap 96 = .ok (.if_icmp .ge 14, 3) := by decide +kernel
theorem dX12_swap_99 : decode cX12_swap 99 = .ok (.aload_n 0, 1) := by decide +kernel
theorem dX12_swap_100 : decode cX12_swap 100 = .ok (.iload_n 1, 1) := by decide +kernel
theorem dX12_swap_101 : decode cX12_swap 101 = .ok (.iload_n 3, 1) := by decide +kernel
theorem dX12_swap_102 : decode cX12_swap 102 = .ok (.invokevirtual 248, 3) := by decide +kernel
theorem dX12_swap_105 : decode cX12_swap 105 = .ok (.iload 5, 2) := by decide +kernel
theorem dX12_swap_107 : decode cX12_swap 107 = .ok (.if_icmp .lt 5, 3) := by decide +kernel
theorem dX12_swap_110 : decode cX12_swap 110 = .ok (.iconst 0, 1) := by decide +kernel
theorem dX12_swap_111 : decode cX12_swap 111 = .ok (.ireturn, 1) := by decide +kernel
theorem dX12_swap_112 : decode cX12_swap 112 = .ok (.aload_n 0, 1) := by decide +kernel
theorem dX12_swap_113 : decode cX12_swap 113 = .ok (.getfield 34, 3) := by decide +kernel
theorem dX12_swap_116 : decode cX12_swap 116 = .ok (.bipush 16, 2) := by decide +kernel
theorem dX12_swap_118 : decode cX12_swap 118 = .ok (.iload_n 1, 1) := by decide +kernel
theorem dX12_swap_119 : decode cX12_swap 119 = .ok (.imul, 1) := by decide +kernel
theorem dX12_swap_120 : decode cX12_swap 120 = .ok (.iload_n 2, 1) := by decide +kernel
theorem dX12_swap_121 : decode cX12_swap 121 = .ok (.iadd, 1) := by decide +kernel
theorem dX12_swap_122 : decode cX12_swap 122 = .ok (.aload_n 0, 1) := by decide +kernel
theorem dX12_swap_123 : decode cX12_swap 123 = .ok (.getfield 106, 3) := by decide +kernel
theorem dX12_swap_126 : decode cX12_swap 126 = .ok (.iload_n 2, 1) := by decide +kernel
theorem dX12_swap_127 : decode cX12_swap 127 = .ok (.iaload, 1) := by decide +kernel
theorem dX12_swap_128 : decode cX12_swap 128 = .ok (.iastore, 1) := by decide +kernel
theorem dX12_swap_129 : decode cX12_swap 129 = .ok (.aload_n 0, 1) := by decide +kernel
theorem dX12_swap_130 : decode cX12_swap 130 = .ok (.getfield 34, 3) := by decide +kernel
theorem dX12_swap_133 : decode cX12_swap 133 = .ok (.bipush 16, 2) := by decide +kernel
theorem dX12_swap_135 : decode cX12_swap 135 = .ok (.iload_n 1, 1) := by decide +kernel
theorem dX12_swap_136 : decode cX12_swap 136 = .ok (.imul, 1) := by decide +kernel
theorem dX12_swap_137 : decode cX12_swap 137 = .ok (.iload_n 3, 1) := by decide +kernel
theorem dX12_swap_138 : decode cX12_swap 138 = .ok (.iadd, 1) := by decide +kernel
theorem dX12_swap_139 : decode cX12_swap 139 = .ok (.aload_n 0, 1) := by decide +kernel
theorem dX12_swap_140 : decode cX12_swap 140 = .ok (.getfield 106, 3) := by decide +kernel
theorem dX12_swap_143 : decode cX12_swap 143 = .ok (.iload_n 3, 1) := by decide +kernel
theorem dX12_swap_144 : decode cX12_swap 144 = .ok (.iaload, 1) := by decide +kernel
theorem dX12_swap_145 : decode cX12_swap 145 = .ok (.iastore, 1) := by decide +kernel
theorem dX12_swap_146 : decode cX12_swap 146 = .ok (.iconst 1, 1) := by decide +kernel
theorem dX12_swap_147 : decode cX12_swap 147 = .ok (.ireturn, 1) := by decide +kernel
def fX12_swap (s0 : ZS) (a0 : Int) (a1 : Int) (a2 : Int) (a3 : Int) : Option (Int × ZS) := zb (zv s0 12 a0 (fX12_isOf s0 a0 a1 a2)) (fun v1 s2 => if v1 = 0 then (some ((-5), s2)) else (zb (zv s2 12 a0 (fX12_isOf s2 a0 a1 a3)) (fun v5 s6 => if v5 = 0 then (some ((-5), s6)) else (if a2 = a3 then (some ((-7), s6)) else (zb (zv s6 12 a0 (fX12_lays s6 a0 a1)) (fun v10 s11 => zb (zv s11 12 a0 (fX12_goes s11 a0 a1)) (fun v13 s14 => zb (zv s14 12 a0 (fX12_cost s14 a0 a1 a2)) (fun v16 s17 => zb (zv s17 12 a0 (fX12_cost s17 a0 a1 a3)) (fun v19 s20 => (zg s20 12 a0 40).bind (fun v22 => (zal s20 100 v22 a2).bind (fun v23 => (zg s20 12 a0 40).bind (fun v24 => (zg s20 12 a0 40).bind (fun v25 => (zal s20 100 v25 a3).bind (fun v26 => (zas s20 100 v24 a2 v26).bind (fun s27 => (zg s27 12 a0 40).bind (fun v28 => (zas s27 100 v28 a3 v23).bind (fun s29 => zb (zv s29 12 a0 (fX12_goes s29 a0 a1)) (fun v30 s31 => zb (zv s31 12 a0 (fX12_cost s31 a0 a1 a2)) (fun v33 s34 => if v16 ≤ v33 then (some (0, s34)) else (zb (zv s34 12 a0 (fX12_cost s34 a0 a1 a3)) (fun v37 s38 => if v37 < v19 then ((zg s38 12 a0 11).bind (fun v41 => (zg s38 12 a0 40).bind (fun v42 => (zal s38 100 v42 a2).bind (fun v43 => (zas s38 100 v41 (wrap ((wrap (16 * a1)) + a2)) v43).bind (fun s44 => (zg s44 12 a0 11).bind (fun v45 => (zg s44 12 a0 40).bind (fun v46 => (zal s44 100 v46 a3).bind (fun v47 => (zas s44 100 v45 (wrap ((wrap (16 * a1)) + a3)) v47).bind (fun s48 => some (1, s48)))))))))) else (some (0, s38)))))))))))))))))))))))
set_option maxHeartbeats 4000000 in
set_option maxRecDepth 100000 in
theorem mX12_swap (E : ZE) (hE : zOkE E) (l : Launch) (s0 : ZS) (a0 : Int) (a1 : Int) (a2 : Int) (a3 : Int) : Ct E l yX12_swap cX12_swap 7 (some .int) 8 [(2, a0), (0, a1), (0, a2), (0, a3)] 1 s0 (fX12_swap s0 a0 a1 a2 a3) := by
  refine Ct.of (by decide) hE (Nat.le_of_ble_eq_true rfl) ?_
  intro X G hX hR hN hXE hXl hxn hk _
  subst hXE
  subst hXl
  have hX : G → ZOk X cX12_swap RX12 8 := hX
  clear hN
  show Zj X G 0 [(0, (2, a0)), (1, (0, a1)), (2, (0, a2)), (3, (0, a3))] [] s0 _
  unfold fX12_swap
  refine z_aload_n (pc := 0) hX 0 dX12_swap_0 rfl rfl ?_
  refine z_iload_n (pc := 1) hX 1 dX12_swap_1 rfl rfl ?_
  refine z_iload_n (pc := 2) hX 2 dX12_swap_2 rfl rfl ?_
  refine z_callV (n := 2) (st := []) (pc := 3) hX zc12 rfl (fun _ => (mX12_isOf _ hE _ _ _ _ _)) ⟨wd1272, wd67, wd1275, ⟨by decide, by decide, by decide⟩, by decide⟩ rfl wd1274 wd43 rfl rfl (by decide) (Nat.le_of_ble_eq_true rfl) dX12_swap_3 (fun v1 s2 r3 => ?_)
  show Zj X G 6 [(0, (2, a0)), (1, (0, a1)), (2, (0, a2)), (3, (0, a3))] [(0, v1)] _ _
  refine z_if_eq (pc := 6) hX 18 dX12_swap_6 (by decide) (fun h4 => ?_) (fun h4 => ?_)
  · refine z_bipush (pc := 18) hX dX12_swap_18 ?_
    exact z_iret (pc := 20) hX hR hk dX12_swap_20
  · refine z_aload_n (pc := 9) hX 0 dX12_swap_9 rfl rfl ?_
    refine z_iload_n (pc := 10) hX 1 dX12_swap_10 rfl rfl ?_
    refine z_iload_n (pc := 11) hX 3 dX12_swap_11 rfl rfl ?_
    refine z_callV (n := 2) (st := []) (pc := 12) hX zc12 rfl (fun _ => (mX12_isOf _ hE _ _ _ _ _)) ⟨wd1272, wd67, wd1275, ⟨by decide, by decide, by decide⟩, by decide⟩ rfl wd1274 wd43 rfl rfl (by decide) (Nat.le_of_ble_eq_true rfl) dX12_swap_12 (fun v5 s6 r7 => ?_)
    show Zj X G 15 [(0, (2, a0)), (1, (0, a1)), (2, (0, a2)), (3, (0, a3))] [(0, v5)] _ _
    refine z_if_ne (pc := 15) hX 21 dX12_swap_15 (by decide) (fun h8 => ?_) (fun h8 => ?_)
    · refine z_iload_n (pc := 21) hX 2 dX12_swap_21 rfl rfl ?_
      refine z_iload_n (pc := 22) hX 3 dX12_swap_22 rfl rfl ?_
      refine z_icmp_ne (pc := 23) hX 29 dX12_swap_23 (by decide) (fun h9 => ?_) (fun h9 => ?_)
      · refine z_aload_n (pc := 29) hX 0 dX12_swap_29 rfl rfl ?_
        refine z_iload_n (pc := 30) hX 1 dX12_swap_30 rfl rfl ?_
        refine z_callV (n := 1) (st := []) (pc := 31) hX zc12 rfl (fun _ => (mX12_lays _ hE _ _ _ _)) ⟨wd1284, wd67, wd1287, ⟨by decide, by decide, by decide⟩, by decide⟩ rfl wd1286 wd44 rfl rfl (by decide) (Nat.le_of_ble_eq_true rfl) dX12_swap_31 (fun v10 s11 r12 => ?_)
        show Zj X G 34 [(0, (2, a0)), (1, (0, a1)), (2, (0, a2)), (3, (0, a3))] [] _ _
        refine z_aload_n (pc := 34) hX 0 dX12_swap_34 rfl rfl ?_
        refine z_iload_n (pc := 35) hX 1 dX12_swap_35 rfl rfl ?_
        refine z_callV (n := 1) (st := []) (pc := 36) hX zc12 rfl (fun _ => (mX12_goes _ hE _ _ _ _)) ⟨wd1288, wd67, wd1291, ⟨by decide, by decide, by decide⟩, by decide⟩ rfl wd1290 wd45 rfl rfl (by decide) (Nat.le_of_ble_eq_true rfl) dX12_swap_36 (fun v13 s14 r15 => ?_)
        show Zj X G 39 [(0, (2, a0)), (1, (0, a1)), (2, (0, a2)), (3, (0, a3))] [] _ _
        refine z_aload_n (pc := 39) hX 0 dX12_swap_39 rfl rfl ?_
        refine z_iload_n (pc := 40) hX 1 dX12_swap_40 rfl rfl ?_
        refine z_iload_n (pc := 41) hX 2 dX12_swap_41 rfl rfl ?_
        refine z_callV (n := 2) (st := []) (pc := 42) hX zc12 rfl (fun _ => (mX12_cost _ hE _ _ _ _ _)) ⟨wd1300, wd67, wd1303, ⟨by decide, by decide, by decide⟩, by decide⟩ rfl wd1302 wd48 rfl rfl (by decide) (Nat.le_of_ble_eq_true rfl) dX12_swap_42 (fun v16 s17 r18 => ?_)
        show Zj X G 45 [(0, (2, a0)), (1, (0, a1)), (2, (0, a2)), (3, (0, a3))] [(0, v16)] _ _
        refine z_istore (lv' := [(4, (0, v16)), (0, (2, a0)), (1, (0, a1)), (2, (0, a2)), (3, (0, a3))]) (pc := 45) hX dX12_swap_45 (zlt hxn rfl) rfl ?_
        refine z_aload_n (pc := 47) hX 1 dX12_swap_47 rfl rfl ?_
        refine z_iload_n (pc := 48) hX 2 dX12_swap_48 rfl rfl ?_
        refine z_iload_n (pc := 49) hX 4 dX12_swap_49 rfl rfl ?_
        refine z_callV (n := 2) (st := []) (pc := 50) hX zc12 rfl (fun _ => (mX12_cost _ hE _ _ _ _ _)) ⟨wd1300, wd67, wd1303, ⟨by decide, by decide, by decide⟩, by decide⟩ rfl wd1302 wd48 rfl rfl (by decide) (Nat.le_of_ble_eq_true rfl) dX12_swap_50 (fun v19 s20 r21 => ?_)
        show Zj X G 53 [(4, (0, v16)), (0, (2, a0)), (1, (0, a1)), (2, (0, a2)), (3, (0, a3))] [(0, v19)] _ _
        refine z_istore (lv' := [(5, (0, v19)), (4, (0, v16)), (0, (2, a0)), (1, (0, a1)), (2, (0, a2)), (3, (0, a3))]) (pc := 53) hX dX12_swap_53 (zlt hxn rfl) rfl ?_
        refine z_aload_n (pc := 55) hX 2 dX12_swap_55 rfl rfl ?_
        refine z_get (pc := 56) hX zc12 40 (by decide) wd1057 rfl rfl dX12_swap_56 (fun v22 => ?_)
        refine z_iload_n (pc := 59) hX 4 dX12_swap_59 rfl rfl ?_
        refine z_iald (pc := 60) hX dX12_swap_60 (fun v23 => ?_)
        refine z_istore (lv' := [(6, (0, v23)), (5, (0, v19)), (4, (0, v16)), (0, (2, a0)), (1, (0, a1)), (2, (0, a2)), (3, (0, a3))]) (pc := 61) hX dX12_swap_61 (zlt hxn rfl) rfl ?_
        refine z_aload_n (pc := 63) hX 3 dX12_swap_63 rfl rfl ?_
        refine z_get (pc := 64) hX zc12 40 (by decide) wd1057 rfl rfl dX12_swap_64 (fun v24 => ?_)
        refine z_iload_n (pc := 67) hX 5 dX12_swap_67 rfl rfl ?_
        refine z_aload_n (pc := 68) hX 3 dX12_swap_68 rfl rfl ?_
        refine z_get (pc := 69) hX zc12 40 (by decide) wd1057 rfl rfl dX12_swap_69 (fun v25 => ?_)
        refine z_iload_n (pc := 72) hX 6 dX12_swap_72 rfl rfl ?_
        refine z_iald (pc := 73) hX dX12_swap_73 (fun v26 => ?_)
        refine z_iastA (pc := 74) hX dX12_swap_74 (fun s27 => ?_)
        refine z_aload_n (pc := 75) hX 3 dX12_swap_75 rfl rfl ?_
        refine z_get (pc := 76) hX zc12 40 (by decide) wd1057 rfl rfl dX12_swap_76 (fun v28 => ?_)
        refine z_iload_n (pc := 79) hX 6 dX12_swap_79 rfl rfl ?_
        refine z_iload (pc := 80) hX 0 dX12_swap_80 rfl ?_
        refine z_iastA (pc := 82) hX dX12_swap_82 (fun s29 => ?_)
        refine z_aload_n (pc := 83) hX 3 dX12_swap_83 rfl rfl ?_
        refine z_iload_n (pc := 84) hX 4 dX12_swap_84 rfl rfl ?_
        refine z_callV (n := 1) (st := []) (pc := 85) hX zc12 rfl (fun _ => (mX12_goes _ hE _ _ _ _)) ⟨wd1288, wd67, wd1291, ⟨by decide, by decide, by decide⟩, by decide⟩ rfl wd1290 wd45 rfl rfl (by decide) (Nat.le_of_ble_eq_true rfl) dX12_swap_85 (fun v30 s31 r32 => ?_)
        show Zj X G 88 [(6, (0, v23)), (5, (0, v19)), (4, (0, v16)), (0, (2, a0)), (1, (0, a1)), (2, (0, a2)), (3, (0, a3))] [] _ _
        refine z_aload_n (pc := 88) hX 3 dX12_swap_88 rfl rfl ?_
        refine z_iload_n (pc := 89) hX 4 dX12_swap_89 rfl rfl ?_
        refine z_iload_n (pc := 90) hX 5 dX12_swap_90 rfl rfl ?_
        refine z_callV (n := 2) (st := []) (pc := 91) hX zc12 rfl (fun _ => (mX12_cost _ hE _ _ _ _ _)) ⟨wd1300, wd67, wd1303, ⟨by decide, by decide, by decide⟩, by decide⟩ rfl wd1302 wd48 rfl rfl (by decide) (Nat.le_of_ble_eq_true rfl) dX12_swap_91 (fun v33 s34 r35 => ?_)
        show Zj X G 94 [(6, (0, v23)), (5, (0, v19)), (4, (0, v16)), (0, (2, a0)), (1, (0, a1)), (2, (0, a2)), (3, (0, a3))] [(0, v33)] _ _
        refine z_iload (pc := 94) hX 2 dX12_swap_94 rfl ?_
        refine z_icmp_ge (pc := 96) hX 110 dX12_swap_96 (by decide) (fun h36 => ?_) (fun h36 => ?_)
        · refine z_iconst (pc := 110) hX dX12_swap_110 ?_
          exact z_iret (pc := 111) hX hR hk dX12_swap_111
        · refine z_aload_n (pc := 99) hX 3 dX12_swap_99 rfl rfl ?_
          refine z_iload_n (pc := 100) hX 4 dX12_swap_100 rfl rfl ?_
          refine z_iload_n (pc := 101) hX 6 dX12_swap_101 rfl rfl ?_
          refine z_callV (n := 2) (st := []) (pc := 102) hX zc12 rfl (fun _ => (mX12_cost _ hE _ _ _ _ _)) ⟨wd1300, wd67, wd1303, ⟨by decide, by decide, by decide⟩, by decide⟩ rfl wd1302 wd48 rfl rfl (by decide) (Nat.le_of_ble_eq_true rfl) dX12_swap_102 (fun v37 s38 r39 => ?_)
          show Zj X G 105 [(6, (0, v23)), (5, (0, v19)), (4, (0, v16)), (0, (2, a0)), (1, (0, a1)), (2, (0, a2)), (3, (0, a3))] [(0, v37)] _ _
          refine z_iload (pc := 105) hX 1 dX12_swap_105 rfl ?_
          refine z_icmp_lt (pc := 107) hX 112 dX12_swap_107 (by decide) (fun h40 => ?_) (fun h40 => ?_)
          · refine z_aload_n (pc := 112) hX 3 dX12_swap_112 rfl rfl ?_
            refine z_get (pc := 113) hX zc12 11 (by decide) wd1028 rfl rfl dX12_swap_113 (fun v41 => ?_)
            refine z_bipush (pc := 116) hX dX12_swap_116 ?_
            refine z_iload_n (pc := 118) hX 4 dX12_swap_118 rfl rfl ?_
            refine z_imul (pc := 119) hX dX12_swap_119 ?_
            refine z_iload_n (pc := 120) hX 5 dX12_swap_120 rfl rfl ?_
            refine z_iadd (pc := 121) hX dX12_swap_121 ?_
            refine z_aload_n (pc := 122) hX 3 dX12_swap_122 rfl rfl ?_
            refine z_get (pc := 123) hX zc12 40 (by decide) wd1057 rfl rfl dX12_swap_123 (fun v42 => ?_)
            refine z_iload_n (pc := 126) hX 5 dX12_swap_126 rfl rfl ?_
            refine z_iald (pc := 127) hX dX12_swap_127 (fun v43 => ?_)
            refine z_iastA (pc := 128) hX dX12_swap_128 (fun s44 => ?_)
            refine z_aload_n (pc := 129) hX 3 dX12_swap_129 rfl rfl ?_
            refine z_get (pc := 130) hX zc12 11 (by decide) wd1028 rfl rfl dX12_swap_130 (fun v45 => ?_)
            refine z_bipush (pc := 133) hX dX12_swap_133 ?_
            refine z_iload_n (pc := 135) hX 4 dX12_swap_135 rfl rfl ?_
            refine z_imul (pc := 136) hX dX12_swap_136 ?_
            refine z_iload_n (pc := 137) hX 6 dX12_swap_137 rfl rfl ?_
            refine z_iadd (pc := 138) hX dX12_swap_138 ?_
            refine z_aload_n (pc := 139) hX 3 dX12_swap_139 rfl rfl ?_
            refine z_get (pc := 140) hX zc12 40 (by decide) wd1057 rfl rfl dX12_swap_140 (fun v46 => ?_)
            refine z_iload_n (pc := 143) hX 6 dX12_swap_143 rfl rfl ?_
            refine z_iald (pc := 144) hX dX12_swap_144 (fun v47 => ?_)
            refine z_iastA (pc := 145) hX dX12_swap_145 (fun s48 => ?_)
            refine z_iconst (pc := 146) hX dX12_swap_146 ?_
            exact z_iret (pc := 147) hX hR hk dX12_swap_147
          · refine z_iconst (pc := 110) hX dX12_swap_110 ?_
            exact z_iret (pc := 111) hX hR hk dX12_swap_111
      · refine z_bipush (pc := 26) hX dX12_swap_26 ?_
        exact z_iret (pc := 28) hX hR hk dX12_swap_28
    · refine z_bipush (pc := 18) hX dX12_swap_18 ?_
      exact z_iret (pc := 20) hX hR hk dX12_swap_20

theorem dX11_costOfAll_0 : decode cX11_costOfAll 0 = .ok (.aload_n 0, 1) := by decide +kernel
theorem dX11_costOfAll_1 : decode cX11_costOfAll 1 = .ok (.getfield 10, 3) := by decide +kernel
theorem dX11_costOfAll_4 : decode cX11_costOfAll 4 = .ok (.aload_n 1, 1) := by decide +kernel
theorem dX11_costOfAll_5 : decode cX11_costOfAll 5 = .ok (.invokevirtual 188, 3) := by decide +kernel
theorem dX11_costOfAll_8 : decode cX11_costOfAll 8 = .ok (.lconst 0, 1) := by decide +kernel
theorem dX11_costOfAll_9 : decode cX11_costOfAll 9 = .ok (.lstore_n 2, 1) := by decide +kernel
theorem dX11_costOfAll_10 : decode cX11_costOfAll 10 = .ok (.iconst 0, 1) := by decide +kernel
theorem dX11_costOfAll_11 : decode cX11_costOfAll 11 = .ok (.istore 4, 2) := by decide +kernel
theorem dX11_costOfAll_13 : decode cX11_costOfAll 13 = .ok (.iload 4, 2) := by decide +kernel
theorem dX11_costOfAll_15 : decode cX11_costOfAll 15 = .ok (.aload_n 1, 1) := by decide +kernel
theorem dX11_costOfAll_16 : decode cX11_costOfAll 16 = .ok (.getfield 170, 3) := by decide +kernel
theorem dX11_costOfAll_19 : decode cX11_costOfAll 19 = .ok (.if_icmp .ge 32, 3) := by decide +kernel
theorem dX11_costOfAll_22 : decode cX11_costOfAll 22 = .ok (.lload_n 2, 1) := by decide +kernel
theorem dX11_costOfAll_23 : decode cX11_costOfAll 23 = .ok (.aload_n 0, 1) := by decide +kernel
theorem dX11_costOfAll_24 : decode cX11_costOfAll 24 = .ok (.getfield 10, 3) := by decide +kernel
theorem dX11_costOfAll_27 : decode cX11_costOfAll 27 = .ok (.aload_n 1, 1) := by decide +kernel
theorem dX11_costOfAll_28 : decode cX11_costOfAll 28 = .ok (.iload 4, 2) := by decide +kernel
theorem dX11_costOfAll_30 : decode cX11_costOfAll 30 = .ok (.aload_n 0, 1) := by decide +kernel
theorem dX11_costOfAll_31 : decode cX11_costOfAll 31 = .ok (.getfield 40, 3) := by decide +kernel
theorem dX11_costOfAll_34 : decode cX11_costOfAll 34 = .ok (.aload_n 0, 1) := by decide +kernel
theorem dX11_costOfAll_35 : decode cX11_costOfAll 35 = .ok (.getfield 47, 3) := by decide +kernel
theorem dX11_costOfAll_38 : decode cX11_costOfAll 38 = .ok (.aaload, 1) := by decide +kernel
theorem dX11_costOfAll_39 : decode cX11_costOfAll 39 = .ok (.invokevirtual 198, 3) := by decide +kernel
theorem dX11_costOfAll_42 : decode cX11_costOfAll 42 = .ok (.i2l, 1) := by decide +kernel
theorem dX11_costOfAll_43 : decode cX11_costOfAll 43 = .ok (.ladd, 1) := by decide +kernel
theorem dX11_costOfAll_44 : decode cX11_costOfAll 44 = .ok (.lstore_n 2, 1) := by decide +kernel
theorem dX11_costOfAll_45 : decode cX11_costOfAll 45 = .ok (.iinc 4 1, 3) := by decide +kernel
theorem dX11_costOfAll_48 : decode cX11_costOfAll 48 = .ok (.goto (-35), 3) := by decide +kernel
theorem dX11_costOfAll_51 : decode cX11_costOfAll 51 = .ok (.lload_n 2, 1) := by decide +kernel
theorem dX11_costOfAll_52 : decode cX11_costOfAll 52 = .ok (.lreturn, 1) := by decide +kernel
def lX11_costOfAll_13 (u6 u7 : Int)  : Nat → ZS → Int → Int → Option (Int × ZS)
  | 0, _, _, _ => none
  | n1 + 1, s5, x8, x9 => (zgw s5 u7 0).bind (fun v10 => if v10 ≤ x9 then (some (x8, s5)) else ((zg s5 11 u6 0).bind (fun v12 => (zg s5 11 u6 5).bind (fun v13 => (zg s5 11 u6 7).bind (fun v14 => (zal s5 104 v13 v14).bind (fun v15 => zb (zv s5 2 v12 (fX2_costOf s5 v12 u7 x9 v15)) (fun v16 s17 => lX11_costOfAll_13 u6 u7 n1 s17 (wrapL (x8 + v16)) (wrap (x9 + 1)))))))))

def fX11_costOfAll (s0 : ZS) (a0 : Int) (a1 : Int) : Option (Int × ZS) := (zg s0 11 a0 0).bind (fun v1 => zb (zv s0 2 v1 (fX2_follow s0 v1 a1)) (fun v2 s3 => lX11_costOfAll_13 a0 a1 1000 s3 0 0))
set_option maxHeartbeats 4000000 in
set_option maxRecDepth 100000 in
theorem mX11_costOfAll (E : ZE) (hE : zOkE E) (l : Launch) (s0 : ZS) (a0 : Int) (a1 : Int) : Ct E l yX11_costOfAll cX11_costOfAll 5 (some .long) 10 [(2, a0), (2, a1)] 2 s0 (fX11_costOfAll s0 a0 a1) := by
  refine Ct.of (by decide) hE (Nat.le_of_ble_eq_true rfl) ?_
  intro X G hX hR hN hXE hXl hxn hk _
  subst hXE
  subst hXl
  have hX : G → ZOk X cX11_costOfAll RX11 10 := hX
  clear hN
  show Zj X G 0 [(0, (2, a0)), (1, (2, a1))] [] s0 _
  unfold fX11_costOfAll
  refine z_aload_n (pc := 0) hX 0 dX11_costOfAll_0 rfl rfl ?_
  refine z_get (pc := 1) hX zc11 0 (by decide) wd270 rfl rfl dX11_costOfAll_1 (fun v1 => ?_)
  refine z_aload_n (pc := 4) hX 1 dX11_costOfAll_4 rfl rfl ?_
  refine z_callV (n := 1) (st := []) (pc := 5) hX zc2 rfl (fun _ => (mX2_follow _ hE _ _ _ _)) ⟨wd723, wd62, wd726, ⟨by decide, by decide, by decide⟩, by decide⟩ rfl wd724 wd725 rfl rfl (by decide) (Nat.le_of_ble_eq_true rfl) dX11_costOfAll_5 (fun v2 s3 r4 => ?_)
  show Zj X G 8 [(0, (2, a0)), (1, (2, a1))] [] _ _
  refine z_lconst (pc := 8) hX dX11_costOfAll_8 rfl ?_
  refine z_lstore_n (lv' := [(2, (1, 0)), (0, (2, a0)), (1, (2, a1))]) (pc := 9) hX dX11_costOfAll_9 rfl (zlt2 hxn rfl) rfl ?_
  refine z_iconst (pc := 10) hX dX11_costOfAll_10 ?_
  refine z_istore (lv' := [(4, (0, 0)), (2, (1, 0)), (0, (2, a0)), (1, (2, a1))]) (pc := 11) hX dX11_costOfAll_11 (zlt hxn rfl) rfl ?_
  have hl13 : ∀ (u6 u7 : Int), ∀ (n1 : Nat) (s5 : ZS) (x8 x9 : Int), Zj X G 13 [(0, (2, u6)), (1, (2, u7)), (2, (1, x8)), (4, (0, x9))] [] s5 (lX11_costOfAll_13 u6 u7 n1 s5 x8 x9) := by
    intro u6 u7 n1
    induction n1 with
    | zero => intro _ _ _; exact z_none
    | succ n1 ih1 =>
      intro s5 x8 x9
      rw [lX11_costOfAll_13]
      refine z_iload (pc := 13) hX 3 dX11_costOfAll_13 rfl ?_
      refine z_aload_n (pc := 15) hX 1 dX11_costOfAll_15 rfl rfl ?_
      refine z_getw (pc := 16) hX zc10 zc9 zc3 zc0 zc1 zc7 0 (by decide) wd617 rfl rfl rfl rfl rfl rfl rfl rfl rfl rfl rfl rfl rfl dX11_costOfAll_16 (fun v10 => ?_)
      refine z_icmp_ge (pc := 19) hX 51 dX11_costOfAll_19 (by decide) (fun h11 => ?_) (fun h11 => ?_)
      · refine z_lload_n (pc := 51) hX 2 dX11_costOfAll_51 rfl rfl ?_
        exact z_lret (pc := 52) hX hR hk dX11_costOfAll_52
      · refine z_lload_n (pc := 22) hX 2 dX11_costOfAll_22 rfl rfl ?_
        refine z_aload_n (pc := 23) hX 0 dX11_costOfAll_23 rfl rfl ?_
        refine z_get (pc := 24) hX zc11 0 (by decide) wd270 rfl rfl dX11_costOfAll_24 (fun v12 => ?_)
        refine z_aload_n (pc := 27) hX 1 dX11_costOfAll_27 rfl rfl ?_
        refine z_iload (pc := 28) hX 3 dX11_costOfAll_28 rfl ?_
        refine z_aload_n (pc := 30) hX 0 dX11_costOfAll_30 rfl rfl ?_
        refine z_get (pc := 31) hX zc11 5 (by decide) wd275 rfl rfl dX11_costOfAll_31 (fun v13 => ?_)
        refine z_aload_n (pc := 34) hX 0 dX11_costOfAll_34 rfl rfl ?_
        refine z_get (pc := 35) hX zc11 7 (by decide) wd277 rfl rfl dX11_costOfAll_35 (fun v14 => ?_)
        refine z_aald (pc := 38) hX 4 104 (by decide) rfl rfl dX11_costOfAll_38 (fun v15 => ?_)
        refine z_callV (n := 3) (st := [(1, x8)]) (pc := 39) hX zc2 rfl (fun _ => (mX2_costOf _ hE _ _ _ _ _ _)) ⟨wd772, wd62, wd775, ⟨by decide, by decide, by decide⟩, by decide⟩ rfl wd773 wd774 rfl rfl (by decide) (Nat.le_of_ble_eq_true rfl) dX11_costOfAll_39 (fun v16 s17 r18 => ?_)
        show Zj X G 42 [(0, (2, u6)), (1, (2, u7)), (2, (1, x8)), (4, (0, x9))] [(0, v16), (1, x8)] _ _
        refine z_i2lR (pc := 42) hX dX11_costOfAll_42 ?_
        refine z_ladd (pc := 43) hX dX11_costOfAll_43 ?_
        refine z_lstore_n (lv' := [(2, (1, (wrapL (x8 + v16)))), (0, (2, u6)), (1, (2, u7)), (4, (0, x9))]) (pc := 44) hX dX11_costOfAll_44 rfl (zlt2 hxn rfl) rfl ?_
        refine z_iinc (lv' := [(4, (0, (wrap (x9 + 1)))), (2, (1, (wrapL (x8 + v16)))), (0, (2, u6)), (1, (2, u7))]) (pc := 45) hX 3 dX11_costOfAll_45 rfl (zlt hxn rfl) rfl ?_
        refine z_goto (pc := 48) hX 13 dX11_costOfAll_48 (by decide) ?_
        refine z_pick (lv' := [(0, (2, u6)), (1, (2, u7)), (2, (1, (wrapL (x8 + v16)))), (4, (0, (wrap (x9 + 1))))]) [2, 3, 1, 0] rfl ?_
        exact ih1 _ _ _
  refine z_pick (lv' := [(0, (2, a0)), (1, (2, a1)), (2, (1, 0)), (4, (0, 0))]) [2, 3, 1, 0] rfl ?_
  refine hl13 _ _ 1000 _ _ _

theorem dX11_costWithRate_0 : decode cX11_costWithRate 0 = .ok (.aload_n 0, 1) := by decide +kernel
theorem dX11_costWithRate_1 : decode cX11_costWithRate 1 = .ok (.getfield 20, 3) := by decide +kernel
theorem dX11_costWithRate_4 : decode cX11_costWithRate 4 = .ok (.getfield 106, 3) := by decide +kernel
theorem dX11_costWithRate_7 : decode cX11_costWithRate 7 = .ok (.iload_n 2, 1) := by decide +kernel
theorem dX11_costWithRate_8 : decode cX11_costWithRate 8 = .ok (.aaload, 1) := by decide +kernel
theorem dX11_costWithRate_9 : decode cX11_costWithRate 9 = .ok (.iload_n 3, 1) := by decide +kernel
theorem dX11_costWithRate_10 : decode cX11_costWithRate 10 = .ok (.iaload, 1) := by decide +kernel
theorem dX11_costWithRate_11 : decode cX11_costWithRate 11 = .ok (.istore 5, 2) := by decide +kernel
theorem dX11_costWithRate_13 : decode cX11_costWithRate 13 = .ok (.aload_n 0, 1) := by decide +kernel
theorem dX11_costWithRate_14 : decode cX11_costWithRate 14 = .ok (.getfield 20, 3) := by decide +kernel
theorem dX11_costWithRate_17 : decode cX11_costWithRate 17 = .ok (.getfield 106, 3) := by decide +kernel
theorem dX11_costWithRate_20 : decode cX11_costWithRate 20 = .ok (.iload_n 2, 1) := by decide +kernel
theorem dX11_costWithRate_21 : decode cX11_costWithRate 21 = .ok (.aaload, 1) := by decide +kernel
theorem dX11_costWithRate_22 : decode cX11_costWithRate 22 = .ok (.iload_n 3, 1) := by decide +kernel
theorem dX11_costWithRate_23 : decode cX11_costWithRate 23 = .ok (.iload 4, 2) := by decide +kernel
theorem dX11_costWithRate_25 : decode cX11_costWithRate 25 = .ok (.iastore, 1) := by decide +kernel
theorem dX11_costWithRate_26 : decode cX11_costWithRate 26 = .ok (.aload_n 0, 1) := by decide +kernel
theorem dX11_costWithRate_27 : decode cX11_costWithRate 27 = .ok (.aload_n 1, 1) := by decide +kernel
theorem dX11_costWithRate_28 : decode cX11_costWithRate 28 = .ok (.invokevirtual 249, 3) := by decide +kernel
theorem dX11_costWithRate_31 : decode cX11_costWithRate 31 = .ok (.lstore 6, 2) := by decide +kernel
theorem dX11_costWithRate_33 : decode cX11_costWithRate 33 = .ok (.aload_n 0, 1) := by decide +kernel
theorem dX11_costWithRate_34 : decode cX11_costWithRate 34 = .ok (.getfield 20, 3) := by decide +kernel
theorem dX11_costWithRate_37 : decode cX11_costWithRate 37 = .ok (.getfield 106, 3) := by decide +kernel
theorem dX11_costWithRate_40 : decode cX11_costWithRate 40 = .ok (.iload_n 2, 1) := by decide +kernel
theorem dX11_costWithRate_41 : decode cX11_costWithRate 41 = .ok (.aaload, 1) := by decide +kernel
theorem dX11_costWithRate_42 : decode cX11_costWithRate 42 = .ok (.iload_n 3, 1) := by decide +kernel
theorem dX11_costWithRate_43 : decode cX11_costWithRate 43 = .ok (.iload 5, 2) := by decide +kernel
theorem dX11_costWithRate_45 : decode cX11_costWithRate 45 = .ok (.iastore, 1) := by decide +kernel
theorem dX11_costWithRate_46 : decode cX11_costWithRate 46 = .ok (.lload 6, 2) := by decide +kernel
theorem dX11_costWithRate_48 : decode cX11_costWithRate 48 = .ok (.lreturn, 1) := by decide +kernel
def fX11_costWithRate (s0 : ZS) (a0 : Int) (a1 : Int) (a2 : Int) (a3 : Int) (a4 : Int) : Option (Int × ZS) := (zg s0 11 a0 1).bind (fun v1 => (zg s0 5 v1 0).bind (fun v2 => (zal s0 102 v2 a2).bind (fun v3 => (zal s0 100 v3 a3).bind (fun v4 => (zg s0 11 a0 1).bind (fun v5 => (zg s0 5 v5 0).bind (fun v6 => (zal s0 102 v6 a2).bind (fun v7 => (zas s0 100 v7 a3 a4).bind (fun s8 => zb (zv s8 11 a0 (fX11_costOfAll s8 a0 a1)) (fun v9 s10 => (zg s10 11 a0 1).bind (fun v12 => (zg s10 5 v12 0).bind (fun v13 => (zal s10 102 v13 a2).bind (fun v14 => (zas s10 100 v14 a3 v4).bind (fun s15 => some (v9, s15))))))))))))))
set_option maxHeartbeats 4000000 in
set_option maxRecDepth 100000 in
theorem mX11_costWithRate (E : ZE) (hE : zOkE E) (l : Launch) (s0 : ZS) (a0 : Int) (a1 : Int) (a2 : Int) (a3 : Int) (a4 : Int) : Ct E l yX11_costWithRate cX11_costWithRate 8 (some .long) 12 [(2, a0), (2, a1), (0, a2), (0, a3), (0, a4)] 2 s0 (fX11_costWithRate s0 a0 a1 a2 a3 a4) := by
  refine Ct.of (by decide) hE (Nat.le_of_ble_eq_true rfl) ?_
  intro X G hX hR hN hXE hXl hxn hk _
  subst hXE
  subst hXl
  have hX : G → ZOk X cX11_costWithRate RX11 12 := hX
  clear hN
  show Zj X G 0 [(0, (2, a0)), (1, (2, a1)), (2, (0, a2)), (3, (0, a3)), (4, (0, a4))] [] s0 _
  unfold fX11_costWithRate
  refine z_aload_n (pc := 0) hX 0 dX11_costWithRate_0 rfl rfl ?_
  refine z_get (pc := 1) hX zc11 1 (by decide) wd271 rfl rfl dX11_costWithRate_1 (fun v1 => ?_)
  refine z_get (pc := 4) hX zc5 0 (by decide) wd106 rfl rfl dX11_costWithRate_4 (fun v2 => ?_)
  refine z_iload_n (pc := 7) hX 2 dX11_costWithRate_7 rfl rfl ?_
  refine z_aald (pc := 8) hX 2 102 (by decide) rfl rfl dX11_costWithRate_8 (fun v3 => ?_)
  refine z_iload_n (pc := 9) hX 3 dX11_costWithRate_9 rfl rfl ?_
  refine z_iald (pc := 10) hX dX11_costWithRate_10 (fun v4 => ?_)
  refine z_istore (lv' := [(5, (0, v4)), (0, (2, a0)), (1, (2, a1)), (2, (0, a2)), (3, (0, a3)), (4, (0, a4))]) (pc := 11) hX dX11_costWithRate_11 (zlt hxn rfl) rfl ?_
  refine z_aload_n (pc := 13) hX 1 dX11_costWithRate_13 rfl rfl ?_
  refine z_get (pc := 14) hX zc11 1 (by decide) wd271 rfl rfl dX11_costWithRate_14 (fun v5 => ?_)
  refine z_get (pc := 17) hX zc5 0 (by decide) wd106 rfl rfl dX11_costWithRate_17 (fun v6 => ?_)
  refine z_iload_n (pc := 20) hX 3 dX11_costWithRate_20 rfl rfl ?_
  refine z_aald (pc := 21) hX 2 102 (by decide) rfl rfl dX11_costWithRate_21 (fun v7 => ?_)
  refine z_iload_n (pc := 22) hX 4 dX11_costWithRate_22 rfl rfl ?_
  refine z_iload (pc := 23) hX 5 dX11_costWithRate_23 rfl ?_
  refine z_iastA (pc := 25) hX dX11_costWithRate_25 (fun s8 => ?_)
  refine z_aload_n (pc := 26) hX 1 dX11_costWithRate_26 rfl rfl ?_
  refine z_aload_n (pc := 27) hX 2 dX11_costWithRate_27 rfl rfl ?_
  refine z_callV (n := 1) (st := []) (pc := 28) hX zc11 rfl (fun _ => (mX11_costOfAll _ hE _ _ _ _)) ⟨wd906, wd61, wd909, ⟨by decide, by decide, by decide⟩, by decide⟩ rfl wd908 wd29 rfl rfl (by decide) (Nat.le_of_ble_eq_true rfl) dX11_costWithRate_28 (fun v9 s10 r11 => ?_)
  show Zj X G 31 [(5, (0, v4)), (0, (2, a0)), (1, (2, a1)), (2, (0, a2)), (3, (0, a3)), (4, (0, a4))] [(1, v9)] _ _
  refine z_lstore (lv' := [(6, (1, v9)), (5, (0, v4)), (0, (2, a0)), (1, (2, a1)), (2, (0, a2)), (3, (0, a3)), (4, (0, a4))]) (pc := 31) hX dX11_costWithRate_31 (zlt2 hxn rfl) rfl ?_
  refine z_aload_n (pc := 33) hX 2 dX11_costWithRate_33 rfl rfl ?_
  refine z_get (pc := 34) hX zc11 1 (by decide) wd271 rfl rfl dX11_costWithRate_34 (fun v12 => ?_)
  refine z_get (pc := 37) hX zc5 0 (by decide) wd106 rfl rfl dX11_costWithRate_37 (fun v13 => ?_)
  refine z_iload_n (pc := 40) hX 4 dX11_costWithRate_40 rfl rfl ?_
  refine z_aald (pc := 41) hX 2 102 (by decide) rfl rfl dX11_costWithRate_41 (fun v14 => ?_)
  refine z_iload_n (pc := 42) hX 5 dX11_costWithRate_42 rfl rfl ?_
  refine z_iload (pc := 43) hX 1 dX11_costWithRate_43 rfl ?_
  refine z_iastA (pc := 45) hX dX11_costWithRate_45 (fun s15 => ?_)
  refine z_lload (pc := 46) hX 0 dX11_costWithRate_46 rfl ?_
  exact z_lret (pc := 48) hX hR hk dX11_costWithRate_48

theorem dX11_beside_0 : decode cX11_beside 0 = .ok (.aload_n 0, 1) := by decide +kernel
theorem dX11_beside_1 : decode cX11_beside 1 = .ok (.iload_n 1, 1) := by decide +kernel
theorem dX11_beside_2 : decode cX11_beside 2 = .ok (.invokevirtual 177, 3) := by decide +kernel
theorem dX11_beside_5 : decode cX11_beside 5 = .ok (.astore 5, 2) := by decide +kernel
theorem dX11_beside_7 : decode cX11_beside 7 = .ok (.aload 5, 2) := by decide +kernel
theorem dX11_beside_9 : decode cX11_beside 9 = .ok (.ifnull 27, 3) := by decide +kernel
theorem dX11_beside_12 : decode cX11_beside 12 = .ok (.iload_n 2, 1) := by decide +kernel
theorem dX11_beside_13 : decode cX11_beside 13 = .ok (.invokestatic 95, 3) := by decide +kernel
theorem dX11_beside_16 : decode cX11_beside 16 = .ok (.ifCond .eq 20, 3) := by decide +kernel
theorem dX11_beside_19 : decode cX11_beside 19 = .ok (.iload_n 3, 1) := by decide +kernel
theorem dX11_beside_20 : decode cX11_beside 20 = .ok (.invokestatic 99, 3) := by decide +kernel
theorem dX11_beside_23 : decode cX11_beside 23 = .ok (.ifCond .eq 13, 3) := by decide +kernel
theorem dX11_beside_26 : decode cX11_beside 26 = .ok (.iload 4, 2) := by decide +kernel
theorem dX11_beside_28 : decode cX11_beside 28 = .ok (.bipush 9, 2) := by decide +kernel
theorem dX11_beside_30 : decode cX11_beside 30 = .ok (.invokestatic 102, 3) := by decide +kernel
theorem dX11_beside_33 : decode cX11_beside 33 = .ok (.ifCond .ne 7, 3) := by decide +kernel
theorem dX11_beside_36 : decode cX11_beside 36 = .ok (.ldc2_w 219, 3) := by decide +kernel
theorem dX11_beside_39 : decode cX11_beside 39 = .ok (.lreturn, 1) := by decide +kernel
theorem dX11_beside_40 : decode cX11_beside 40 = .ok (.aload_n 0, 1) := by decide +kernel
theorem dX11_beside_41 : decode cX11_beside 41 = .ok (.aload 5, 2) := by decide +kernel
theorem dX11_beside_43 : decode cX11_beside 43 = .ok (.iload_n 2, 1) := by decide +kernel
theorem dX11_beside_44 : decode cX11_beside 44 = .ok (.iload_n 3, 1) := by decide +kernel
theorem dX11_beside_45 : decode cX11_beside 45 = .ok (.iload 4, 2) := by decide +kernel
theorem dX11_beside_47 : decode cX11_beside 47 = .ok (.invokevirtual 245, 3) := by decide +kernel
theorem dX11_beside_50 : decode cX11_beside 50 = .ok (.aload_n 0, 1) := by decide +kernel
theorem dX11_beside_51 : decode cX11_beside 51 = .ok (.aload 5, 2) := by decide +kernel
theorem dX11_beside_53 : decode cX11_beside 53 = .ok (.invokevirtual 249, 3) := by decide +kernel
theorem dX11_beside_56 : decode cX11_beside 56 = .ok (.lsub, 1) := by decide +kernel
theorem dX11_beside_57 : decode cX11_beside 57 = .ok (.lreturn, 1) := by decide +kernel
def fX11_beside (s0 : ZS) (a0 : Int) (a1 : Int) (a2 : Int) (a3 : Int) (a4 : Int) : Option (Int × ZS) := zb (zv s0 11 a0 (fX11_wayAt s0 a0 a1)) (fun v1 s2 => if v1 < 0 then (some ((-4611686018427387904), s2)) else (zb (fX11_isGate s2 a2) (fun v5 s6 => if v5 = 0 then (some ((-4611686018427387904), s6)) else (zb (fX11_isMinute s6 a3) (fun v9 s10 => if v9 = 0 then (some ((-4611686018427387904), s10)) else (zb (fX11_within s10 a4 9) (fun v13 s14 => if v13 = 0 then (some ((-4611686018427387904), s14)) else (zb (zv s14 11 a0 (fX11_costWithRate s14 a0 v1 a2 a3 a4)) (fun v17 s18 => zb (zv s18 11 a0 (fX11_costOfAll s18 a0 v1)) (fun v20 s21 => some ((wrapL (v17 - v20)), s21)))))))))))
set_option maxHeartbeats 4000000 in
set_option maxRecDepth 100000 in
theorem mX11_beside (E : ZE) (hE : zOkE E) (l : Launch) (s0 : ZS) (a0 : Int) (a1 : Int) (a2 : Int) (a3 : Int) (a4 : Int) : Ct E l yX11_beside cX11_beside 6 (some .long) 14 [(2, a0), (0, a1), (0, a2), (0, a3), (0, a4)] 2 s0 (fX11_beside s0 a0 a1 a2 a3 a4) := by
  refine Ct.of (by decide) hE (Nat.le_of_ble_eq_true rfl) ?_
  intro X G hX hR hN hXE hXl hxn hk _
  subst hXE
  subst hXl
  have hX : G → ZOk X cX11_beside RX11 14 := hX
  clear hN
  show Zj X G 0 [(0, (2, a0)), (1, (0, a1)), (2, (0, a2)), (3, (0, a3)), (4, (0, a4))] [] s0 _
  unfold fX11_beside
  refine z_aload_n (pc := 0) hX 0 dX11_beside_0 rfl rfl ?_
  refine z_iload_n (pc := 1) hX 1 dX11_beside_1 rfl rfl ?_
  refine z_callV (n := 1) (st := []) (pc := 2) hX zc11 rfl (fun _ => (mX11_wayAt _ hE _ _ _ _)) ⟨wd681, wd61, wd684, ⟨by decide, by decide, by decide⟩, by decide⟩ rfl wd683 wd18 rfl rfl (by decide) (Nat.le_of_ble_eq_true rfl) dX11_beside_2 (fun v1 s2 r3 => ?_)
  show Zj X G 5 [(0, (2, a0)), (1, (0, a1)), (2, (0, a2)), (3, (0, a3)), (4, (0, a4))] [(2, v1)] _ _
  refine z_astore (lv' := [(5, (2, v1)), (0, (2, a0)), (1, (0, a1)), (2, (0, a2)), (3, (0, a3)), (4, (0, a4))]) (pc := 5) hX dX11_beside_5 (zlt hxn rfl) rfl ?_
  refine z_aload (pc := 7) hX 0 dX11_beside_7 rfl ?_
  refine z_ifnull (pc := 9) hX 36 dX11_beside_9 (by decide) (fun h4 => ?_) (fun h4 => ?_)
  · refine z_ldc2 (n := -4611686018427387904) (pc := 36) hX dX11_beside_36 wd846 (by decide) ?_
    exact z_lret (pc := 39) hX hR hk dX11_beside_39
  · refine z_iload_n (pc := 12) hX 3 dX11_beside_12 rfl rfl ?_
    refine z_callS (n := 1) (st := []) (pc := 13) hX (mX11_isGate _ hE _ _ _) ⟨wd326, wd61, wd328, ⟨by decide, by decide, by decide⟩, by decide⟩ wd327 rfl rfl (by decide) (Nat.le_of_ble_eq_true rfl) dX11_beside_13 (fun v5 s6 r7 => ?_)
    show Zj X G 16 [(5, (2, v1)), (0, (2, a0)), (1, (0, a1)), (2, (0, a2)), (3, (0, a3)), (4, (0, a4))] [(0, v5)] _ _
    refine z_if_eq (pc := 16) hX 36 dX11_beside_16 (by decide) (fun h8 => ?_) (fun h8 => ?_)
    · refine z_ldc2 (n := -4611686018427387904) (pc := 36) hX dX11_beside_36 wd846 (by decide) ?_
      exact z_lret (pc := 39) hX hR hk dX11_beside_39
    · refine z_iload_n (pc := 19) hX 4 dX11_beside_19 rfl rfl ?_
      refine z_callS (n := 1) (st := []) (pc := 20) hX (mX11_isMinute _ hE _ _ _) ⟨wd332, wd61, wd334, ⟨by decide, by decide, by decide⟩, by decide⟩ wd333 rfl rfl (by decide) (Nat.le_of_ble_eq_true rfl) dX11_beside_20 (fun v9 s10 r11 => ?_)
      show Zj X G 23 [(5, (2, v1)), (0, (2, a0)), (1, (0, a1)), (2, (0, a2)), (3, (0, a3)), (4, (0, a4))] [(0, v9)] _ _
      refine z_if_eq (pc := 23) hX 36 dX11_beside_23 (by decide) (fun h12 => ?_) (fun h12 => ?_)
      · refine z_ldc2 (n := -4611686018427387904) (pc := 36) hX dX11_beside_36 wd846 (by decide) ?_
        exact z_lret (pc := 39) hX hR hk dX11_beside_39
      · refine z_iload (pc := 26) hX 5 dX11_beside_26 rfl ?_
        refine z_bipush (pc := 28) hX dX11_beside_28 ?_
        refine z_callS (n := 2) (st := []) (pc := 30) hX (mX11_within _ hE _ _ _ _) ⟨wd329, wd61, wd331, ⟨by decide, by decide, by decide⟩, by decide⟩ wd330 rfl rfl (by decide) (Nat.le_of_ble_eq_true rfl) dX11_beside_30 (fun v13 s14 r15 => ?_)
        show Zj X G 33 [(5, (2, v1)), (0, (2, a0)), (1, (0, a1)), (2, (0, a2)), (3, (0, a3)), (4, (0, a4))] [(0, v13)] _ _
        refine z_if_ne (pc := 33) hX 40 dX11_beside_33 (by decide) (fun h16 => ?_) (fun h16 => ?_)
        · refine z_aload_n (pc := 40) hX 1 dX11_beside_40 rfl rfl ?_
          refine z_aload (pc := 41) hX 0 dX11_beside_41 rfl ?_
          refine z_iload_n (pc := 43) hX 3 dX11_beside_43 rfl rfl ?_
          refine z_iload_n (pc := 44) hX 4 dX11_beside_44 rfl rfl ?_
          refine z_iload (pc := 45) hX 5 dX11_beside_45 rfl ?_
          refine z_callV (n := 4) (st := []) (pc := 47) hX zc11 rfl (fun _ => (mX11_costWithRate _ hE _ _ _ _ _ _ _)) ⟨wd902, wd61, wd905, ⟨by decide, by decide, by decide⟩, by decide⟩ rfl wd904 wd28 rfl rfl (by decide) (Nat.le_of_ble_eq_true rfl) dX11_beside_47 (fun v17 s18 r19 => ?_)
          show Zj X G 50 [(5, (2, v1)), (0, (2, a0)), (1, (0, a1)), (2, (0, a2)), (3, (0, a3)), (4, (0, a4))] [(1, v17)] _ _
          refine z_aload_n (pc := 50) hX 1 dX11_beside_50 rfl rfl ?_
          refine z_aload (pc := 51) hX 0 dX11_beside_51 rfl ?_
          refine z_callV (n := 1) (st := [(1, v17)]) (pc := 53) hX zc11 rfl (fun _ => (mX11_costOfAll _ hE _ _ _ _)) ⟨wd906, wd61, wd909, ⟨by decide, by decide, by decide⟩, by decide⟩ rfl wd908 wd29 rfl rfl (by decide) (Nat.le_of_ble_eq_true rfl) dX11_beside_53 (fun v20 s21 r22 => ?_)
          show Zj X G 56 [(5, (2, v1)), (0, (2, a0)), (1, (0, a1)), (2, (0, a2)), (3, (0, a3)), (4, (0, a4))] [(1, v20), (1, v17)] _ _
          refine z_lsub (pc := 56) hX dX11_beside_56 ?_
          exact z_lret (pc := 57) hX hR hk dX11_beside_57
        · refine z_ldc2 (n := -4611686018427387904) (pc := 36) hX dX11_beside_36 wd846 (by decide) ?_
          exact z_lret (pc := 39) hX hR hk dX11_beside_39
