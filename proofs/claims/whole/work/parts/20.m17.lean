theorem dX12_set_0 : decode cX12_set 0 = .ok (.aload_n 0, 1) := by decide +kernel
theorem dX12_set_1 : decode cX12_set 1 = .ok (.iload_n 1, 1) := by decide +kernel
theorem dX12_set_2 : decode cX12_set 2 = .ok (.iload_n 2, 1) := by decide +kernel
theorem dX12_set_3 : decode cX12_set 3 = .ok (.invokevirtual 223, 3) := by decide +kernel
theorem dX12_set_6 : decode cX12_set 6 = .ok (.ifCond .ne 6, 3) := by decide +kernel
theorem dX12_set_9 : decode cX12_set 9 = .ok (.bipush (-5), 2) := by decide +kernel
theorem dX12_set_11 : decode cX12_set 11 = .ok (.ireturn, 1) := by decide +kernel
theorem dX12_set_12 : decode cX12_set 12 = .ok (.iload_n 3, 1) := by decide +kernel
theorem dX12_set_13 : decode cX12_set 13 = .ok (.invokestatic 220, 3) := by decide +kernel
theorem dX12_set_16 : decode cX12_set 16 = .ok (.ifCond .ne 6, 3) := by decide +kernel
theorem dX12_set_19 : decode cX12_set 19 = .ok (.bipush (-7), 2) := by decide +kernel
theorem dX12_set_21 : decode cX12_set 21 = .ok (.ireturn, 1) := by decide +kernel
theorem dX12_set_22 : decode cX12_set 22 = .ok (.aload_n 0, 1) := by decide +kernel
theorem dX12_set_23 : decode cX12_set 23 = .ok (.getfield 34, 3) := by decide +kernel
theorem dX12_set_26 : decode cX12_set 26 = .ok (.bipush 16, 2) := by decide +kernel
theorem dX12_set_28 : decode cX12_set 28 = .ok (.iload_n 1, 1) := by decide +kernel
theorem dX12_set_29 : decode cX12_set 29 = .ok (.imul, 1) := by decide +kernel
theorem dX12_set_30 : decode cX12_set 30 = .ok (.iload_n 2, 1) := by decide +kernel
theorem dX12_set_31 : decode cX12_set 31 = .ok (.iadd, 1) := by decide +kernel
theorem dX12_set_32 : decode cX12_set 32 = .ok (.iaload, 1) := by decide +kernel
theorem dX12_set_33 : decode cX12_set 33 = .ok (.istore 4, 2) := by decide +kernel
theorem dX12_set_35 : decode cX12_set 35 = .ok (.aload_n 0, 1) := by decide +kernel
theorem dX12_set_36 : decode cX12_set 36 = .ok (.getfield 34, 3) := by decide +kernel
theorem dX12_set_39 : decode cX12_set 39 = .ok (.bipush 16, 2) := by decide +kernel
theorem dX12_set_41 : decode cX12_set 41 = .ok (.iload_n 1, 1) := by decide +kernel
theorem dX12_set_42 : decode cX12_set 42 = .ok (.imul, 1) := by decide +kernel
theorem dX12_set_43 : decode cX12_set 43 = .ok (.iload_n 2, 1) := by decide +kernel
theorem dX12_set_44 : decode cX12_set 44 = .ok (.iadd, 1) := by decide +kernel
theorem dX12_set_45 : decode cX12_set 45 = .ok (.iload_n 3, 1) := by decide +kernel
theorem dX12_set_46 : decode cX12_set 46 = .ok (.iastore, 1) := by decide +kernel
theorem dX12_set_47 : decode cX12_set 47 = .ok (.iload 4, 2) := by decide +kernel
theorem dX12_set_49 : decode cX12_set 49 = .ok (.ireturn, 1) := by decide +kernel
def fX12_set (s0 : ZS) (a0 : Int) (a1 : Int) (a2 : Int) (a3 : Int) : Option (Int × ZS) := zb (zv s0 12 a0 (fX12_isOf s0 a0 a1 a2)) (fun v1 s2 => if v1 = 0 then (some ((-5), s2)) else (zb (fX12_isChoice s2 a3) (fun v5 s6 => if v5 = 0 then (some ((-7), s6)) else ((zg s6 12 a0 11).bind (fun v9 => (zal s6 100 v9 (wrap ((wrap (16 * a1)) + a2))).bind (fun v10 => (zg s6 12 a0 11).bind (fun v11 => (zas s6 100 v11 (wrap ((wrap (16 * a1)) + a2)) a3).bind (fun s12 => some (v10, s12)))))))))
set_option maxHeartbeats 4000000 in
set_option maxRecDepth 100000 in
theorem mX12_set (E : ZE) (hE : zOkE E) (l : Launch) (s0 : ZS) (a0 : Int) (a1 : Int) (a2 : Int) (a3 : Int) : Ct E l yX12_set cX12_set 5 (some .int) 8 [(2, a0), (0, a1), (0, a2), (0, a3)] 1 s0 (fX12_set s0 a0 a1 a2 a3) := by
  refine Ct.of (by decide) hE (Nat.le_of_ble_eq_true rfl) ?_
  intro X G hX hR hN hXE hXl hxn hk _
  subst hXE
  subst hXl
  have hX : G → ZOk X cX12_set RX12 8 := hX
  clear hN
  show Zj X G 0 [(0, (2, a0)), (1, (0, a1)), (2, (0, a2)), (3, (0, a3))] [] s0 _
  unfold fX12_set
  refine z_aload_n (pc := 0) hX 0 dX12_set_0 rfl rfl ?_
  refine z_iload_n (pc := 1) hX 1 dX12_set_1 rfl rfl ?_
  refine z_iload_n (pc := 2) hX 2 dX12_set_2 rfl rfl ?_
  refine z_callV (n := 2) (st := []) (pc := 3) hX zc12 rfl (fun _ => (mX12_isOf _ hE _ _ _ _ _)) ⟨wd1272, wd67, wd1275, ⟨by decide, by decide, by decide⟩, by decide⟩ rfl wd1274 wd43 rfl rfl (by decide) (Nat.le_of_ble_eq_true rfl) dX12_set_3 (fun v1 s2 r3 => ?_)
  show Zj X G 6 [(0, (2, a0)), (1, (0, a1)), (2, (0, a2)), (3, (0, a3))] [(0, v1)] _ _
  refine z_if_ne (pc := 6) hX 12 dX12_set_6 (by decide) (fun h4 => ?_) (fun h4 => ?_)
  · refine z_iload_n (pc := 12) hX 3 dX12_set_12 rfl rfl ?_
    refine z_callS (n := 1) (st := []) (pc := 13) hX (mX12_isChoice _ hE _ _ _) ⟨wd1261, wd67, wd1263, ⟨by decide, by decide, by decide⟩, by decide⟩ wd1262 rfl rfl (by decide) (Nat.le_of_ble_eq_true rfl) dX12_set_13 (fun v5 s6 r7 => ?_)
    show Zj X G 16 [(0, (2, a0)), (1, (0, a1)), (2, (0, a2)), (3, (0, a3))] [(0, v5)] _ _
    refine z_if_ne (pc := 16) hX 22 dX12_set_16 (by decide) (fun h8 => ?_) (fun h8 => ?_)
    · refine z_aload_n (pc := 22) hX 0 dX12_set_22 rfl rfl ?_
      refine z_get (pc := 23) hX zc12 11 (by decide) wd1028 rfl rfl dX12_set_23 (fun v9 => ?_)
      refine z_bipush (pc := 26) hX dX12_set_26 ?_
      refine z_iload_n (pc := 28) hX 1 dX12_set_28 rfl rfl ?_
      refine z_imul (pc := 29) hX dX12_set_29 ?_
      refine z_iload_n (pc := 30) hX 2 dX12_set_30 rfl rfl ?_
      refine z_iadd (pc := 31) hX dX12_set_31 ?_
      refine z_iald (pc := 32) hX dX12_set_32 (fun v10 => ?_)
      refine z_istore (lv' := [(4, (0, v10)), (0, (2, a0)), (1, (0, a1)), (2, (0, a2)), (3, (0, a3))]) (pc := 33) hX dX12_set_33 (zlt hxn rfl) rfl ?_
      refine z_aload_n (pc := 35) hX 1 dX12_set_35 rfl rfl ?_
      refine z_get (pc := 36) hX zc12 11 (by decide) wd1028 rfl rfl dX12_set_36 (fun v11 => ?_)
      refine z_bipush (pc := 39) hX dX12_set_39 ?_
      refine z_iload_n (pc := 41) hX 2 dX12_set_41 rfl rfl ?_
      refine z_imul (pc := 42) hX dX12_set_42 ?_
      refine z_iload_n (pc := 43) hX 3 dX12_set_43 rfl rfl ?_
      refine z_iadd (pc := 44) hX dX12_set_44 ?_
      refine z_iload_n (pc := 45) hX 4 dX12_set_45 rfl rfl ?_
      refine z_iastA (pc := 46) hX dX12_set_46 (fun s12 => ?_)
      refine z_iload (pc := 47) hX 0 dX12_set_47 rfl ?_
      exact z_iret (pc := 49) hX hR hk dX12_set_49
    · refine z_bipush (pc := 19) hX dX12_set_19 ?_
      exact z_iret (pc := 21) hX hR hk dX12_set_21
  · refine z_bipush (pc := 9) hX dX12_set_9 ?_
    exact z_iret (pc := 11) hX hR hk dX12_set_11

theorem dX2_cameBy_0 : decode cX2_cameBy 0 = .ok (.iload_n 2, 1) := by decide +kernel
theorem dX2_cameBy_1 : decode cX2_cameBy 1 = .ok (.bipush 48, 2) := by decide +kernel
theorem dX2_cameBy_3 : decode cX2_cameBy 3 = .ok (.if_icmp .lt 5, 3) := by decide +kernel
theorem dX2_cameBy_6 : decode cX2_cameBy 6 = .ok (.iconst (-1), 1) := by decide +kernel
theorem dX2_cameBy_7 : decode cX2_cameBy 7 = .ok (.ireturn, 1) := by decide +kernel
theorem dX2_cameBy_8 : decode cX2_cameBy 8 = .ok (.iload_n 2, 1) := by decide +kernel
theorem dX2_cameBy_9 : decode cX2_cameBy 9 = .ok (.bipush 24, 2) := by decide +kernel
theorem dX2_cameBy_11 : decode cX2_cameBy 11 = .ok (.irem, 1) := by decide +kernel
theorem dX2_cameBy_12 : decode cX2_cameBy 12 = .ok (.aload_n 0, 1) := by decide +kernel
theorem dX2_cameBy_13 : decode cX2_cameBy 13 = .ok (.getfield 12, 3) := by decide +kernel
theorem dX2_cameBy_16 : decode cX2_cameBy 16 = .ok (.getfield 93, 3) := by decide +kernel
theorem dX2_cameBy_19 : decode cX2_cameBy 19 = .ok (.iload_n 2, 1) := by decide +kernel
theorem dX2_cameBy_20 : decode cX2_cameBy 20 = .ok (.bipush 24, 2) := by decide +kernel
theorem dX2_cameBy_22 : decode cX2_cameBy 22 = .ok (.idiv, 1) := by decide +kernel
theorem dX2_cameBy_23 : decode cX2_cameBy 23 = .ok (.aaload, 1) := by decide +kernel
theorem dX2_cameBy_24 : decode cX2_cameBy 24 = .ok (.aload_n 0, 1) := by decide +kernel
theorem dX2_cameBy_25 : decode cX2_cameBy 25 = .ok (.getfield 12, 3) := by decide +kernel
theorem dX2_cameBy_28 : decode cX2_cameBy 28 = .ok (.getfield 83, 3) := by decide +kernel
theorem dX2_cameBy_31 : decode cX2_cameBy 31 = .ok (.iload_n 1, 1) := by decide +kernel
theorem dX2_cameBy_32 : decode cX2_cameBy 32 = .ok (.iaload, 1) := by decide +kernel
theorem dX2_cameBy_33 : decode cX2_cameBy 33 = .ok (.iaload, 1) := by decide +kernel
theorem dX2_cameBy_34 : decode cX2_cameBy 34 = .ok (.iadd, 1) := by decide +kernel
theorem dX2_cameBy_35 : decode cX2_cameBy 35 = .ok (.istore_n 3, 1) := by decide +kernel
theorem dX2_cameBy_36 : decode cX2_cameBy 36 = .ok (.iload_n 3, 1) := by decide +kernel
theorem dX2_cameBy_37 : decode cX2_cameBy 37 = .ok (.bipush 24, 2) := by decide +kernel
theorem dX2_cameBy_39 : decode cX2_cameBy 39 = .ok (.if_icmp .ge 7, 3) := by decide +kernel
theorem dX2_cameBy_42 : decode cX2_cameBy 42 = .ok (.iload_n 3, 1) := by decide +kernel
theorem dX2_cameBy_43 : decode cX2_cameBy 43 = .ok (.goto 4, 3) := by decide +kernel
theorem dX2_cameBy_46 : decode cX2_cameBy 46 = .ok (.iconst (-1), 1) := by decide +kernel
theorem dX2_cameBy_47 : decode cX2_cameBy 47 = .ok (.ireturn, 1) := by decide +kernel
def fX2_cameBy (s0 : ZS) (a0 : Int) (a1 : Int) (a2 : Int) : Option (Int × ZS) := if a2 < 48 then (if 24 = 0 then none else ((zg s0 2 a0 0).bind (fun v2 => (zg s0 5 v2 2).bind (fun v3 => if 24 = 0 then none else ((zal s0 102 v3 (wrap (a2.tdiv 24))).bind (fun v4 => (zg s0 2 a0 0).bind (fun v5 => (zg s0 5 v5 6).bind (fun v6 => (zal s0 100 v6 a1).bind (fun v7 => (zal s0 100 v4 v7).bind (fun v8 => if 24 ≤ (wrap ((a2.tmod 24) + v8)) then (some ((-1), s0)) else (some ((wrap ((a2.tmod 24) + v8)), s0)))))))))))) else (some ((-1), s0))
set_option maxHeartbeats 4000000 in
set_option maxRecDepth 100000 in
theorem mX2_cameBy (E : ZE) (hE : zOkE E) (l : Launch) (s0 : ZS) (a0 : Int) (a1 : Int) (a2 : Int) : Ct E l yX2_cameBy cX2_cameBy 4 (some .int) 2 [(2, a0), (0, a1), (0, a2)] 1 s0 (fX2_cameBy s0 a0 a1 a2) := by
  refine Ct.of (by decide) hE (Nat.le_of_ble_eq_true rfl) ?_
  intro X G hX hR hN hXE hXl hxn hk _
  subst hXE
  subst hXl
  have hX : G → ZOk X cX2_cameBy RX2 2 := hX
  clear hN
  show Zj X G 0 [(0, (2, a0)), (1, (0, a1)), (2, (0, a2))] [] s0 _
  unfold fX2_cameBy
  refine z_iload_n (pc := 0) hX 2 dX2_cameBy_0 rfl rfl ?_
  refine z_bipush (pc := 1) hX dX2_cameBy_1 ?_
  refine z_icmp_lt (pc := 3) hX 8 dX2_cameBy_3 (by decide) (fun h1 => ?_) (fun h1 => ?_)
  · refine z_iload_n (pc := 8) hX 2 dX2_cameBy_8 rfl rfl ?_
    refine z_bipush (pc := 9) hX dX2_cameBy_9 ?_
    refine z_irem (pc := 11) hX dX2_cameBy_11 (fun _ => ?_)
    refine z_aload_n (pc := 12) hX 0 dX2_cameBy_12 rfl rfl ?_
    refine z_get (pc := 13) hX zc2 0 (by decide) wd151 rfl rfl dX2_cameBy_13 (fun v2 => ?_)
    refine z_get (pc := 16) hX zc5 2 (by decide) wd113 rfl rfl dX2_cameBy_16 (fun v3 => ?_)
    refine z_iload_n (pc := 19) hX 2 dX2_cameBy_19 rfl rfl ?_
    refine z_bipush (pc := 20) hX dX2_cameBy_20 ?_
    refine z_idiv (pc := 22) hX dX2_cameBy_22 (fun _ => ?_)
    refine z_aald (pc := 23) hX 2 102 (by decide) rfl rfl dX2_cameBy_23 (fun v4 => ?_)
    refine z_aload_n (pc := 24) hX 0 dX2_cameBy_24 rfl rfl ?_
    refine z_get (pc := 25) hX zc2 0 (by decide) wd151 rfl rfl dX2_cameBy_25 (fun v5 => ?_)
    refine z_get (pc := 28) hX zc5 6 (by decide) wd123 rfl rfl dX2_cameBy_28 (fun v6 => ?_)
    refine z_iload_n (pc := 31) hX 1 dX2_cameBy_31 rfl rfl ?_
    refine z_iald (pc := 32) hX dX2_cameBy_32 (fun v7 => ?_)
    refine z_iald (pc := 33) hX dX2_cameBy_33 (fun v8 => ?_)
    refine z_iadd (pc := 34) hX dX2_cameBy_34 ?_
    refine z_istore_n (lv' := [(3, (0, (wrap ((a2.tmod 24) + v8)))), (0, (2, a0)), (1, (0, a1)), (2, (0, a2))]) (pc := 35) hX dX2_cameBy_35 rfl (zlt hxn rfl) rfl ?_
    refine z_iload_n (pc := 36) hX 0 dX2_cameBy_36 rfl rfl ?_
    refine z_bipush (pc := 37) hX dX2_cameBy_37 ?_
    refine z_icmp_ge (pc := 39) hX 46 dX2_cameBy_39 (by decide) (fun h9 => ?_) (fun h9 => ?_)
    · refine z_iconst (pc := 46) hX dX2_cameBy_46 ?_
      exact z_iret (pc := 47) hX hR hk dX2_cameBy_47
    · refine z_iload_n (pc := 42) hX 0 dX2_cameBy_42 rfl rfl ?_
      refine z_goto (pc := 43) hX 47 dX2_cameBy_43 (by decide) ?_
      exact z_iret (pc := 47) hX hR hk dX2_cameBy_47
  · refine z_iconst (pc := 6) hX dX2_cameBy_6 ?_
    exact z_iret (pc := 7) hX hR hk dX2_cameBy_7

theorem dX3_order_0 : decode cX3_order 0 = .ok (.iload_n 1, 1) := by decide +kernel
theorem dX3_order_1 : decode cX3_order 1 = .ok (.ireturn, 1) := by decide +kernel
def fX3_order (s0 : ZS) (a0 : Int) (a1 : Int) (a2 : Int) (a3 : Int) : Option (Int × ZS) := some (a1, s0)
set_option maxHeartbeats 4000000 in
set_option maxRecDepth 100000 in
theorem mX3_order (E : ZE) (hE : zOkE E) (l : Launch) (s0 : ZS) (a0 : Int) (a1 : Int) (a2 : Int) (a3 : Int) : Ct E l yX3_order cX3_order 4 (some .int) 2 [(2, a0), (0, a1), (0, a2), (0, a3)] 1 s0 (fX3_order s0 a0 a1 a2 a3) := by
  refine Ct.of (by decide) hE (Nat.le_of_ble_eq_true rfl) ?_
  intro X G hX hR hN hXE hXl hxn hk _
  subst hXE
  subst hXl
  have hX : G → ZOk X cX3_order RX3 2 := hX
  clear hN
  show Zj X G 0 [(0, (2, a0)), (1, (0, a1)), (2, (0, a2)), (3, (0, a3))] [] s0 _
  unfold fX3_order
  refine z_iload_n (pc := 0) hX 1 dX3_order_0 rfl rfl ?_
  exact z_iret (pc := 1) hX hR hk dX3_order_1

theorem dX0_order_0 : decode cX0_order 0 = .ok (.iconst 5, 1) := by decide +kernel
theorem dX0_order_1 : decode cX0_order 1 = .ok (.aload_n 0, 1) := by decide +kernel
theorem dX0_order_2 : decode cX0_order 2 = .ok (.iload_n 1, 1) := by decide +kernel
theorem dX0_order_3 : decode cX0_order 3 = .ok (.iload_n 2, 1) := by decide +kernel
theorem dX0_order_4 : decode cX0_order 4 = .ok (.iload_n 3, 1) := by decide +kernel
theorem dX0_order_5 : decode cX0_order 5 = .ok (.invokespecial 7, 3) := by decide +kernel
theorem dX0_order_8 : decode cX0_order 8 = .ok (.imul, 1) := by decide +kernel
theorem dX0_order_9 : decode cX0_order 9 = .ok (.iconst 3, 1) := by decide +kernel
theorem dX0_order_10 : decode cX0_order 10 = .ok (.iadd, 1) := by decide +kernel
theorem dX0_order_11 : decode cX0_order 11 = .ok (.bipush 17, 2) := by decide +kernel
theorem dX0_order_13 : decode cX0_order 13 = .ok (.irem, 1) := by decide +kernel
theorem dX0_order_14 : decode cX0_order 14 = .ok (.ireturn, 1) := by decide +kernel
def fX0_order (s0 : ZS) (a0 : Int) (a1 : Int) (a2 : Int) (a3 : Int) : Option (Int × ZS) := zb (zv s0 0 a0 (fX3_order s0 a0 a1 a2 a3)) (fun v1 s2 => if 17 = 0 then none else (some (((wrap ((wrap (5 * v1)) + 3)).tmod 17), s2)))
set_option maxHeartbeats 4000000 in
set_option maxRecDepth 100000 in
theorem mX0_order (E : ZE) (hE : zOkE E) (l : Launch) (s0 : ZS) (a0 : Int) (a1 : Int) (a2 : Int) (a3 : Int) : Ct E l yX0_order cX0_order 4 (some .int) 4 [(2, a0), (0, a1), (0, a2), (0, a3)] 1 s0 (fX0_order s0 a0 a1 a2 a3) := by
  refine Ct.of (by decide) hE (Nat.le_of_ble_eq_true rfl) ?_
  intro X G hX hR hN hXE hXl hxn hk _
  subst hXE
  subst hXl
  have hX : G → ZOk X cX0_order RX0 4 := hX
  clear hN
  show Zj X G 0 [(0, (2, a0)), (1, (0, a1)), (2, (0, a2)), (3, (0, a3))] [] s0 _
  unfold fX0_order
  refine z_iconst (pc := 0) hX dX0_order_0 ?_
  refine z_aload_n (pc := 1) hX 0 dX0_order_1 rfl rfl ?_
  refine z_iload_n (pc := 2) hX 1 dX0_order_2 rfl rfl ?_
  refine z_iload_n (pc := 3) hX 2 dX0_order_3 rfl rfl ?_
  refine z_iload_n (pc := 4) hX 3 dX0_order_4 rfl rfl ?_
  refine z_callSU (n := 3) (st := [(0, 5)]) (pc := 5) hX zc0 rfl (fun _ => (mX3_order _ hE _ _ _ _ _ _)) ⟨wd742, wd78, wd744, ⟨by decide, by decide, by decide⟩, by decide⟩ wd1444 wd649 (by decide) wd743 rfl rfl (by decide) (Nat.le_of_ble_eq_true rfl) dX0_order_5 (fun v1 s2 r3 => ?_)
  show Zj X G 8 [(0, (2, a0)), (1, (0, a1)), (2, (0, a2)), (3, (0, a3))] [(0, v1), (0, 5)] _ _
  refine z_imul (pc := 8) hX dX0_order_8 ?_
  refine z_iconst (pc := 9) hX dX0_order_9 ?_
  refine z_iadd (pc := 10) hX dX0_order_10 ?_
  refine z_bipush (pc := 11) hX dX0_order_11 ?_
  refine z_irem (pc := 13) hX dX0_order_13 (fun _ => ?_)
  exact z_iret (pc := 14) hX hR hk dX0_order_14

theorem dX10_order_0 : decode cX10_order 0 = .ok (.iload_n 2, 1) := by decide +kernel
theorem dX10_order_1 : decode cX10_order 1 = .ok (.ireturn, 1) := by decide +kernel
def fX10_order (s0 : ZS) (a0 : Int) (a1 : Int) (a2 : Int) (a3 : Int) : Option (Int × ZS) := some (a2, s0)
set_option maxHeartbeats 4000000 in
set_option maxRecDepth 100000 in
theorem mX10_order (E : ZE) (hE : zOkE E) (l : Launch) (s0 : ZS) (a0 : Int) (a1 : Int) (a2 : Int) (a3 : Int) : Ct E l yX10_order cX10_order 4 (some .int) 2 [(2, a0), (0, a1), (0, a2), (0, a3)] 1 s0 (fX10_order s0 a0 a1 a2 a3) := by
  refine Ct.of (by decide) hE (Nat.le_of_ble_eq_true rfl) ?_
  intro X G hX hR hN hXE hXl hxn hk _
  subst hXE
  subst hXl
  have hX : G → ZOk X cX10_order RX10 2 := hX
  clear hN
  show Zj X G 0 [(0, (2, a0)), (1, (0, a1)), (2, (0, a2)), (3, (0, a3))] [] s0 _
  unfold fX10_order
  refine z_iload_n (pc := 0) hX 2 dX10_order_0 rfl rfl ?_
  exact z_iret (pc := 1) hX hR hk dX10_order_1

theorem dX1_order_0 : decode cX1_order 0 = .ok (.aload_n 0, 1) := by decide +kernel
theorem dX1_order_1 : decode cX1_order 1 = .ok (.iload_n 1, 1) := by decide +kernel
theorem dX1_order_2 : decode cX1_order 2 = .ok (.iload_n 2, 1) := by decide +kernel
theorem dX1_order_3 : decode cX1_order 3 = .ok (.iload_n 3, 1) := by decide +kernel
theorem dX1_order_4 : decode cX1_order 4 = .ok (.invokespecial 7, 3) := by decide +kernel
theorem dX1_order_7 : decode cX1_order 7 = .ok (.ineg, 1) := by decide +kernel
theorem dX1_order_8 : decode cX1_order 8 = .ok (.ireturn, 1) := by decide +kernel
def fX1_order (s0 : ZS) (a0 : Int) (a1 : Int) (a2 : Int) (a3 : Int) : Option (Int × ZS) := zb (zv s0 1 a0 (fX10_order s0 a0 a1 a2 a3)) (fun v1 s2 => some ((wrap (-v1)), s2))
set_option maxHeartbeats 4000000 in
set_option maxRecDepth 100000 in
theorem mX1_order (E : ZE) (hE : zOkE E) (l : Launch) (s0 : ZS) (a0 : Int) (a1 : Int) (a2 : Int) (a3 : Int) : Ct E l yX1_order cX1_order 4 (some .int) 4 [(2, a0), (0, a1), (0, a2), (0, a3)] 1 s0 (fX1_order s0 a0 a1 a2 a3) := by
  refine Ct.of (by decide) hE (Nat.le_of_ble_eq_true rfl) ?_
  intro X G hX hR hN hXE hXl hxn hk _
  subst hXE
  subst hXl
  have hX : G → ZOk X cX1_order RX1 4 := hX
  clear hN
  show Zj X G 0 [(0, (2, a0)), (1, (0, a1)), (2, (0, a2)), (3, (0, a3))] [] s0 _
  unfold fX1_order
  refine z_aload_n (pc := 0) hX 0 dX1_order_0 rfl rfl ?_
  refine z_iload_n (pc := 1) hX 1 dX1_order_1 rfl rfl ?_
  refine z_iload_n (pc := 2) hX 2 dX1_order_2 rfl rfl ?_
  refine z_iload_n (pc := 3) hX 3 dX1_order_3 rfl rfl ?_
  refine z_callSU (n := 3) (st := []) (pc := 4) hX zc1 rfl (fun _ => (mX10_order _ hE _ _ _ _ _ _)) ⟨wd748, wd76, wd757, ⟨by decide, by decide, by decide⟩, by decide⟩ wd738 wd659 (by decide) wd736 rfl rfl (by decide) (Nat.le_of_ble_eq_true rfl) dX1_order_4 (fun v1 s2 r3 => ?_)
  show Zj X G 7 [(0, (2, a0)), (1, (0, a1)), (2, (0, a2)), (3, (0, a3))] [(0, v1)] _ _
  refine z_ineg (pc := 7) hX dX1_order_7 ?_
  exact z_iret (pc := 8) hX hR hk dX1_order_8

theorem dX7_order_0 : decode cX7_order 0 = .ok (.aload_n 0, 1) := by decide +kernel
theorem dX7_order_1 : decode cX7_order 1 = .ok (.iload_n 1, 1) := by decide +kernel
theorem dX7_order_2 : decode cX7_order 2 = .ok (.iload_n 2, 1) := by decide +kernel
theorem dX7_order_3 : decode cX7_order 3 = .ok (.iload_n 3, 1) := by decide +kernel
theorem dX7_order_4 : decode cX7_order 4 = .ok (.invokespecial 7, 3) := by decide +kernel
theorem dX7_order_7 : decode cX7_order 7 = .ok (.iconst 3, 1) := by decide +kernel
theorem dX7_order_8 : decode cX7_order 8 = .ok (.iload_n 3, 1) := by decide +kernel
theorem dX7_order_9 : decode cX7_order 9 = .ok (.imul, 1) := by decide +kernel
theorem dX7_order_10 : decode cX7_order 10 = .ok (.isub, 1) := by decide +kernel
theorem dX7_order_11 : decode cX7_order 11 = .ok (.ireturn, 1) := by decide +kernel
def fX7_order (s0 : ZS) (a0 : Int) (a1 : Int) (a2 : Int) (a3 : Int) : Option (Int × ZS) := zb (zv s0 7 a0 (fX10_order s0 a0 a1 a2 a3)) (fun v1 s2 => some ((wrap (v1 - (wrap (3 * a3)))), s2))
set_option maxHeartbeats 4000000 in
set_option maxRecDepth 100000 in
theorem mX7_order (E : ZE) (hE : zOkE E) (l : Launch) (s0 : ZS) (a0 : Int) (a1 : Int) (a2 : Int) (a3 : Int) : Ct E l yX7_order cX7_order 4 (some .int) 4 [(2, a0), (0, a1), (0, a2), (0, a3)] 1 s0 (fX7_order s0 a0 a1 a2 a3) := by
  refine Ct.of (by decide) hE (Nat.le_of_ble_eq_true rfl) ?_
  intro X G hX hR hN hXE hXl hxn hk _
  subst hXE
  subst hXl
  have hX : G → ZOk X cX7_order RX7 4 := hX
  clear hN
  show Zj X G 0 [(0, (2, a0)), (1, (0, a1)), (2, (0, a2)), (3, (0, a3))] [] s0 _
  unfold fX7_order
  refine z_aload_n (pc := 0) hX 0 dX7_order_0 rfl rfl ?_
  refine z_iload_n (pc := 1) hX 1 dX7_order_1 rfl rfl ?_
  refine z_iload_n (pc := 2) hX 2 dX7_order_2 rfl rfl ?_
  refine z_iload_n (pc := 3) hX 3 dX7_order_3 rfl rfl ?_
  refine z_callSW (n := 3) (st := []) (pc := 4) hX zc7 rfl (fun _ => (mX10_order _ hE _ _ _ _ _ _)) wd753 rfl wd754 wd669 wd629 wd736 wd76 wd757 (by decide) (by decide) (by decide) rfl rfl (by decide) (Nat.le_of_ble_eq_true rfl) dX7_order_4 (fun v1 s2 r3 => ?_)
  show Zj X G 7 [(0, (2, a0)), (1, (0, a1)), (2, (0, a2)), (3, (0, a3))] [(0, v1)] _ _
  refine z_iconst (pc := 7) hX dX7_order_7 ?_
  refine z_iload_n (pc := 8) hX 3 dX7_order_8 rfl rfl ?_
  refine z_imul (pc := 9) hX dX7_order_9 ?_
  refine z_isub (pc := 10) hX dX7_order_10 ?_
  exact z_iret (pc := 11) hX hR hk dX7_order_11

theorem dX2_rank_0 : decode cX2_rank 0 = .ok (.aload_n 0, 1) := by decide +kernel
theorem dX2_rank_1 : decode cX2_rank 1 = .ok (.getfield 40, 3) := by decide +kernel
theorem dX2_rank_4 : decode cX2_rank 4 = .ok (.iload_n 1, 1) := by decide +kernel
theorem dX2_rank_5 : decode cX2_rank 5 = .ok (.iaload, 1) := by decide +kernel
theorem dX2_rank_6 : decode cX2_rank 6 = .ok (.istore 4, 2) := by decide +kernel
theorem dX2_rank_8 : decode cX2_rank 8 = .ok (.iload 4, 2) := by decide +kernel
theorem dX2_rank_10 : decode cX2_rank 10 = .ok (.ifCond .le 64, 3) := by decide +kernel
theorem dX2_rank_13 : decode cX2_rank 13 = .ok (.aload_n 0, 1) := by decide +kernel
theorem dX2_rank_14 : decode cX2_rank 14 = .ok (.getfield 37, 3) := by decide +kernel
theorem dX2_rank_17 : decode cX2_rank 17 = .ok (.iload_n 1, 1) := by decide +kernel
theorem dX2_rank_18 : decode cX2_rank 18 = .ok (.aaload, 1) := by decide +kernel
theorem dX2_rank_19 : decode cX2_rank 19 = .ok (.iload 4, 2) := by decide +kernel
theorem dX2_rank_21 : decode cX2_rank 21 = .ok (.iconst 1, 1) := by decide +kernel
theorem dX2_rank_22 : decode cX2_rank 22 = .ok (.isub, 1) := by decide +kernel
theorem dX2_rank_23 : decode cX2_rank 23 = .ok (.iaload, 1) := by decide +kernel
theorem dX2_rank_24 : decode cX2_rank 24 = .ok (.iload_n 3, 1) := by decide +kernel
theorem dX2_rank_25 : decode cX2_rank 25 = .ok (.if_icmp .le 49, 3) := by decide +kernel
theorem dX2_rank_28 : decode cX2_rank 28 = .ok (.aload_n 0, 1) := by decide +kernel
theorem dX2_rank_29 : decode cX2_rank 29 = .ok (.getfield 37, 3) := by decide +kernel
theorem dX2_rank_32 : decode cX2_rank 32 = .ok (.iload_n 1, 1) := by decide +kernel
theorem dX2_rank_33 : decode cX2_rank 33 = .ok (.aaload, 1) := by decide +kernel
theorem dX2_rank_34 : decode cX2_rank 34 = .ok (.iload 4, 2) := by decide +kernel
theorem dX2_rank_36 : decode cX2_rank 36 = .ok (.aload_n 0, 1) := by decide +kernel
theorem dX2_rank_37 : decode cX2_rank 37 = .ok (.getfield 37, 3) := by decide +kernel
theorem dX2_rank_40 : decode cX2_rank 40 = .ok (.iload_n 1, 1) := by decide +kernel
theorem dX2_rank_41 : decode cX2_rank 41 = .ok (.aaload, 1) := by decide +kernel
theorem dX2_rank_42 : decode cX2_rank 42 = .ok (.iload 4, 2) := by decide +kernel
theorem dX2_rank_44 : decode cX2_rank 44 = .ok (.iconst 1, 1) := by decide +kernel
theorem dX2_rank_45 : decode cX2_rank 45 = .ok (.isub, 1) := by decide +kernel
theorem dX2_rank_46 : decode cX2_rank 46 = .ok (.iaload, 1) := by decide +kernel
theorem dX2_rank_47 : decode cX2_rank 47 = .ok (.iastore, 1) := by decide +kernel
theorem dX2_rank_48 : decode cX2_rank 48 = .ok (.aload_n 0, 1) := by decide +kernel
theorem dX2_rank_49 : decode cX2_rank 49 = .ok (.getfield 34, 3) := by decide +kernel
theorem dX2_rank_52 : decode cX2_rank 52 = .ok (.iload_n 1, 1) := by decide +kernel
theorem dX2_rank_53 : decode cX2_rank 53 = .ok (.aaload, 1) := by decide +kernel
theorem dX2_rank_54 : decode cX2_rank 54 = .ok (.iload 4, 2) := by decide +kernel
theorem dX2_rank_56 : decode cX2_rank 56 = .ok (.aload_n 0, 1) := by decide +kernel
theorem dX2_rank_57 : decode cX2_rank 57 = .ok (.getfield 34, 3) := by decide +kernel
theorem dX2_rank_60 : decode cX2_rank 60 = .ok (.iload_n 1, 1) := by decide +kernel
theorem dX2_rank_61 : decode cX2_rank 61 = .ok (.aaload, 1) := by decide +kernel
theorem dX2_rank_62 : decode cX2_rank 62 = .ok (.iload 4, 2) := by decide +kernel
theorem dX2_rank_64 : decode cX2_rank 64 = .ok (.iconst 1, 1) := by decide +kernel
theorem dX2_rank_65 : decode cX2_rank 65 = .ok (.isub, 1) := by decide +kernel
theorem dX2_rank_66 : decode cX2_rank 66 = .ok (.iaload, 1) := by decide +kernel
theorem dX2_rank_67 : decode cX2_rank 67 = .ok (.iastore, 1) := by decide +kernel
theorem dX2_rank_68 : decode cX2_rank 68 = .ok (.iinc 4 (-1), 3) := by decide +kernel
theorem dX2_rank_71 : decode cX2_rank 71 = .ok (.goto (-63), 3) := by decide +kernel
theorem dX2_rank_74 : decode cX2_rank 74 = .ok (.aload_n 0, 1) := by decide +kernel
theorem dX2_rank_75 : decode cX2_rank 75 = .ok (.getfield 37, 3) := by decide +kernel
theorem dX2_rank_78 : decode cX2_rank 78 = .ok (.iload_n 1, 1) := by decide +kernel
theorem dX2_rank_79 : decode cX2_rank 79 = .ok (.aaload, 1) := by decide +kernel
theorem dX2_rank_80 : decode cX2_rank 80 = .ok (.iload 4, 2) := by decide +kernel
theorem dX2_rank_82 : decode cX2_rank 82 = .ok (.iload_n 3, 1) := by decide +kernel
theorem dX2_rank_83 : decode cX2_rank 83 = .ok (.iastore, 1) := by decide +kernel
theorem dX2_rank_84 : decode cX2_rank 84 = .ok (.aload_n 0, 1) := by decide +kernel
theorem dX2_rank_85 : decode cX2_rank 85 = .ok (.getfield 34, 3) := by decide +kernel
theorem dX2_rank_88 : decode cX2_rank 88 = .ok (.iload_n 1, 1) := by decide +kernel
theorem dX2_rank_89 : decode cX2_rank 89 = .ok (.aaload, 1) := by decide +kernel
theorem dX2_rank_90 : decode cX2_rank 90 = .ok (.iload 4, 2) := by decide +kernel
theorem dX2_rank_92 : decode cX2_rank 92 = .ok (.iload_n 2, 1) := by decide +kernel
theorem dX2_rank_93 : decode cX2_rank 93 = .ok (.iastore, 1) := by decide +kernel
theorem dX2_rank_94 : decode cX2_rank 94 = .ok (.aload_n 0, 1) := by decide +kernel
theorem dX2_rank_95 : decode cX2_rank 95 = .ok (.getfield 40, 3) := by decide +kernel
theorem dX2_rank_98 : decode cX2_rank 98 = .ok (.iload_n 1, 1) := by decide +kernel
theorem dX2_rank_99 : decode cX2_rank 99 = .ok (.dup2, 1) := by decide +kernel
theorem dX2_rank_100 : decode cX2_rank 100 = .ok (.iaload, 1) := by decide +kernel
theorem dX2_rank_101 : decode cX2_rank 101 = .ok (.iconst 1, 1) := by decide +kernel
theorem dX2_rank_102 : decode cX2_rank 102 = .ok (.iadd, 1) := by decide +kernel
theorem dX2_rank_103 : decode cX2_rank 103 = .ok (.iastore, 1) := by decide +kernel
theorem dX2_rank_104 : decode cX2_rank 104 = .ok (.return_, 1) := by decide +kernel
def lX2_rank_8 (u4 u5 u6 u7 : Int) (K74 : ZS → Int → Option (Int × ZS)) : Nat → ZS → Int → Option (Int × ZS)
  | 0, _, _ => none
  | n1 + 1, s3, x8 => if x8 ≤ 0 then (K74 s3 x8) else ((zg s3 2 u4 6).bind (fun v10 => (zal s3 102 v10 u5).bind (fun v11 => (zal s3 100 v11 (wrap (x8 - 1))).bind (fun v12 => if v12 ≤ u7 then (K74 s3 x8) else ((zg s3 2 u4 6).bind (fun v14 => (zal s3 102 v14 u5).bind (fun v15 => (zg s3 2 u4 6).bind (fun v16 => (zal s3 102 v16 u5).bind (fun v17 => (zal s3 100 v17 (wrap (x8 - 1))).bind (fun v18 => (zas s3 100 v15 x8 v18).bind (fun s19 => (zg s19 2 u4 5).bind (fun v20 => (zal s19 102 v20 u5).bind (fun v21 => (zg s19 2 u4 5).bind (fun v22 => (zal s19 102 v22 u5).bind (fun v23 => (zal s19 100 v23 (wrap (x8 - 1))).bind (fun v24 => (zas s19 100 v21 x8 v24).bind (fun s25 => lX2_rank_8 u4 u5 u6 u7 K74 n1 s25 (wrap (x8 + (-1))))))))))))))))))))

def fX2_rank (s0 : ZS) (a0 : Int) (a1 : Int) (a2 : Int) (a3 : Int) : Option (Int × ZS) := (zg s0 2 a0 7).bind (fun v1 => (zal s0 100 v1 a1).bind (fun v2 => lX2_rank_8 a0 a1 a2 a3 (fun (s28 : ZS) (x29 : Int) => (zg s28 2 a0 6).bind (fun v30 => (zal s28 102 v30 a1).bind (fun v31 => (zas s28 100 v31 x29 a3).bind (fun s32 => (zg s32 2 a0 5).bind (fun v33 => (zal s32 102 v33 a1).bind (fun v34 => (zas s32 100 v34 x29 a2).bind (fun s35 => (zg s35 2 a0 7).bind (fun v36 => (zal s35 100 v36 a1).bind (fun v37 => (zas s35 100 v36 a1 (wrap (v37 + 1))).bind (fun s38 => some (0, s38))))))))))) 1000 s0 v2))
set_option maxHeartbeats 4000000 in
set_option maxRecDepth 100000 in
theorem mX2_rank (E : ZE) (hE : zOkE E) (l : Launch) (s0 : ZS) (a0 : Int) (a1 : Int) (a2 : Int) (a3 : Int) : Ct E l yX2_rank cX2_rank 5 none 2 [(2, a0), (0, a1), (0, a2), (0, a3)] 0 s0 (fX2_rank s0 a0 a1 a2 a3) := by
  refine Ct.of (by decide) hE (Nat.le_of_ble_eq_true rfl) ?_
  intro X G hX hR hN hXE hXl hxn hk _
  subst hXE
  subst hXl
  have hX : G → ZOk X cX2_rank RX2 2 := hX
  clear hN
  show Zj X G 0 [(0, (2, a0)), (1, (0, a1)), (2, (0, a2)), (3, (0, a3))] [] s0 _
  unfold fX2_rank
  refine z_aload_n (pc := 0) hX 0 dX2_rank_0 rfl rfl ?_
  refine z_get (pc := 1) hX zc2 7 (by decide) wd163 rfl rfl dX2_rank_1 (fun v1 => ?_)
  refine z_iload_n (pc := 4) hX 1 dX2_rank_4 rfl rfl ?_
  refine z_iald (pc := 5) hX dX2_rank_5 (fun v2 => ?_)
  refine z_istore (lv' := [(4, (0, v2)), (0, (2, a0)), (1, (0, a1)), (2, (0, a2)), (3, (0, a3))]) (pc := 6) hX dX2_rank_6 (zlt hxn rfl) rfl ?_
  have hl8 : ∀ (u4 u5 u6 u7 : Int), ∀ (K74 : ZS → Int → Option (Int × ZS)), (∀ (s26 : ZS) (x27 : Int), Zj X G 74 [(0, (2, u4)), (1, (0, u5)), (2, (0, u6)), (3, (0, u7)), (4, (0, x27))] [] s26 (K74 s26 x27)) → ∀ (n1 : Nat) (s3 : ZS) (x8 : Int), Zj X G 8 [(0, (2, u4)), (1, (0, u5)), (2, (0, u6)), (3, (0, u7)), (4, (0, x8))] [] s3 (lX2_rank_8 u4 u5 u6 u7 K74 n1 s3 x8) := by
    intro u4 u5 u6 u7 K74 hK74 n1
    induction n1 with
    | zero => intro _ _; exact z_none
    | succ n1 ih1 =>
      intro s3 x8
      rw [lX2_rank_8]
      refine z_iload (pc := 8) hX 4 dX2_rank_8 rfl ?_
      refine z_if_le (pc := 10) hX 74 dX2_rank_10 (by decide) (fun h9 => ?_) (fun h9 => ?_)
      · exact hK74 _ _
      · refine z_aload_n (pc := 13) hX 0 dX2_rank_13 rfl rfl ?_
        refine z_get (pc := 14) hX zc2 6 (by decide) wd162 rfl rfl dX2_rank_14 (fun v10 => ?_)
        refine z_iload_n (pc := 17) hX 1 dX2_rank_17 rfl rfl ?_
        refine z_aald (pc := 18) hX 2 102 (by decide) rfl rfl dX2_rank_18 (fun v11 => ?_)
        refine z_iload (pc := 19) hX 4 dX2_rank_19 rfl ?_
        refine z_iconst (pc := 21) hX dX2_rank_21 ?_
        refine z_isub (pc := 22) hX dX2_rank_22 ?_
        refine z_iald (pc := 23) hX dX2_rank_23 (fun v12 => ?_)
        refine z_iload_n (pc := 24) hX 3 dX2_rank_24 rfl rfl ?_
        refine z_icmp_le (pc := 25) hX 74 dX2_rank_25 (by decide) (fun h13 => ?_) (fun h13 => ?_)
        · exact hK74 _ _
        · refine z_aload_n (pc := 28) hX 0 dX2_rank_28 rfl rfl ?_
          refine z_get (pc := 29) hX zc2 6 (by decide) wd162 rfl rfl dX2_rank_29 (fun v14 => ?_)
          refine z_iload_n (pc := 32) hX 1 dX2_rank_32 rfl rfl ?_
          refine z_aald (pc := 33) hX 2 102 (by decide) rfl rfl dX2_rank_33 (fun v15 => ?_)
          refine z_iload (pc := 34) hX 4 dX2_rank_34 rfl ?_
          refine z_aload_n (pc := 36) hX 0 dX2_rank_36 rfl rfl ?_
          refine z_get (pc := 37) hX zc2 6 (by decide) wd162 rfl rfl dX2_rank_37 (fun v16 => ?_)
          refine z_iload_n (pc := 40) hX 1 dX2_rank_40 rfl rfl ?_
          refine z_aald (pc := 41) hX 2 102 (by decide) rfl rfl dX2_rank_41 (fun v17 => ?_)
          refine z_iload (pc := 42) hX 4 dX2_rank_42 rfl ?_
          refine z_iconst (pc := 44) hX dX2_rank_44 ?_
          refine z_isub (pc := 45) hX dX2_rank_45 ?_
          refine z_iald (pc := 46) hX dX2_rank_46 (fun v18 => ?_)
          refine z_iastA (pc := 47) hX dX2_rank_47 (fun s19 => ?_)
          refine z_aload_n (pc := 48) hX 0 dX2_rank_48 rfl rfl ?_
          refine z_get (pc := 49) hX zc2 5 (by decide) wd161 rfl rfl dX2_rank_49 (fun v20 => ?_)
          refine z_iload_n (pc := 52) hX 1 dX2_rank_52 rfl rfl ?_
          refine z_aald (pc := 53) hX 2 102 (by decide) rfl rfl dX2_rank_53 (fun v21 => ?_)
          refine z_iload (pc := 54) hX 4 dX2_rank_54 rfl ?_
          refine z_aload_n (pc := 56) hX 0 dX2_rank_56 rfl rfl ?_
          refine z_get (pc := 57) hX zc2 5 (by decide) wd161 rfl rfl dX2_rank_57 (fun v22 => ?_)
          refine z_iload_n (pc := 60) hX 1 dX2_rank_60 rfl rfl ?_
          refine z_aald (pc := 61) hX 2 102 (by decide) rfl rfl dX2_rank_61 (fun v23 => ?_)
          refine z_iload (pc := 62) hX 4 dX2_rank_62 rfl ?_
          refine z_iconst (pc := 64) hX dX2_rank_64 ?_
          refine z_isub (pc := 65) hX dX2_rank_65 ?_
          refine z_iald (pc := 66) hX dX2_rank_66 (fun v24 => ?_)
          refine z_iastA (pc := 67) hX dX2_rank_67 (fun s25 => ?_)
          refine z_iinc (lv' := [(4, (0, (wrap (x8 + (-1))))), (0, (2, u4)), (1, (0, u5)), (2, (0, u6)), (3, (0, u7))]) (pc := 68) hX 4 dX2_rank_68 rfl (zlt hxn rfl) rfl ?_
          refine z_goto (pc := 71) hX 8 dX2_rank_71 (by decide) ?_
          refine z_pick (lv' := [(0, (2, u4)), (1, (0, u5)), (2, (0, u6)), (3, (0, u7)), (4, (0, (wrap (x8 + (-1)))))]) [1, 2, 3, 4, 0] rfl ?_
          exact ih1 _ _
  refine z_pick (lv' := [(0, (2, a0)), (1, (0, a1)), (2, (0, a2)), (3, (0, a3)), (4, (0, v2))]) [1, 2, 3, 4, 0] rfl ?_
  refine hl8 _ _ _ _ _ (fun s28 x29 => ?_) 1000 _ _
  refine z_aload_n (pc := 74) hX 0 dX2_rank_74 rfl rfl ?_
  refine z_get (pc := 75) hX zc2 6 (by decide) wd162 rfl rfl dX2_rank_75 (fun v30 => ?_)
  refine z_iload_n (pc := 78) hX 1 dX2_rank_78 rfl rfl ?_
  refine z_aald (pc := 79) hX 2 102 (by decide) rfl rfl dX2_rank_79 (fun v31 => ?_)
  refine z_iload (pc := 80) hX 4 dX2_rank_80 rfl ?_
  refine z_iload_n (pc := 82) hX 3 dX2_rank_82 rfl rfl ?_
  refine z_iastA (pc := 83) hX dX2_rank_83 (fun s32 => ?_)
  refine z_aload_n (pc := 84) hX 0 dX2_rank_84 rfl rfl ?_
  refine z_get (pc := 85) hX zc2 5 (by decide) wd161 rfl rfl dX2_rank_85 (fun v33 => ?_)
  refine z_iload_n (pc := 88) hX 1 dX2_rank_88 rfl rfl ?_
  refine z_aald (pc := 89) hX 2 102 (by decide) rfl rfl dX2_rank_89 (fun v34 => ?_)
  refine z_iload (pc := 90) hX 4 dX2_rank_90 rfl ?_
  refine z_iload_n (pc := 92) hX 2 dX2_rank_92 rfl rfl ?_
  refine z_iastA (pc := 93) hX dX2_rank_93 (fun s35 => ?_)
  refine z_aload_n (pc := 94) hX 0 dX2_rank_94 rfl rfl ?_
  refine z_get (pc := 95) hX zc2 7 (by decide) wd163 rfl rfl dX2_rank_95 (fun v36 => ?_)
  refine z_iload_n (pc := 98) hX 1 dX2_rank_98 rfl rfl ?_
  refine z_dup2 (pc := 99) hX zn0 zn2 dX2_rank_99 ?_
  refine z_iald (pc := 100) hX dX2_rank_100 (fun v37 => ?_)
  refine z_iconst (pc := 101) hX dX2_rank_101 ?_
  refine z_iadd (pc := 102) hX dX2_rank_102 ?_
  refine z_iastA (pc := 103) hX dX2_rank_103 (fun s38 => ?_)
  exact z_vret (pc := 104) hX hR hk dX2_rank_104
