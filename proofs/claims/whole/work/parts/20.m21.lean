theorem dX2_paidOf_0 : decode cX2_paidOf 0 = .ok (.aload_n 0, 1) := by decide +kernel
theorem dX2_paidOf_1 : decode cX2_paidOf 1 = .ok (.getfield 22, 3) := by decide +kernel
theorem dX2_paidOf_4 : decode cX2_paidOf 4 = .ok (.iload_n 2, 1) := by decide +kernel
theorem dX2_paidOf_5 : decode cX2_paidOf 5 = .ok (.iaload, 1) := by decide +kernel
theorem dX2_paidOf_6 : decode cX2_paidOf 6 = .ok (.iconst (-1), 1) := by decide +kernel
theorem dX2_paidOf_7 : decode cX2_paidOf 7 = .ok (.if_icmp .ne 7, 3) := by decide +kernel
theorem dX2_paidOf_10 : decode cX2_paidOf 10 = .ok (.iconst 0, 1) := by decide +kernel
theorem dX2_paidOf_11 : decode cX2_paidOf 11 = .ok (.goto 31, 3) := by decide +kernel
theorem dX2_paidOf_14 : decode cX2_paidOf 14 = .ok (.aload_n 1, 1) := by decide +kernel
theorem dX2_paidOf_15 : decode cX2_paidOf 15 = .ok (.aload_n 0, 1) := by decide +kernel
theorem dX2_paidOf_16 : decode cX2_paidOf 16 = .ok (.getfield 12, 3) := by decide +kernel
theorem dX2_paidOf_19 : decode cX2_paidOf 19 = .ok (.getfield 109, 3) := by decide +kernel
theorem dX2_paidOf_22 : decode cX2_paidOf 22 = .ok (.aload_n 1, 1) := by decide +kernel
theorem dX2_paidOf_23 : decode cX2_paidOf 23 = .ok (.getfield 76, 3) := by decide +kernel
theorem dX2_paidOf_26 : decode cX2_paidOf 26 = .ok (.iload_n 2, 1) := by decide +kernel
theorem dX2_paidOf_27 : decode cX2_paidOf 27 = .ok (.iaload, 1) := by decide +kernel
theorem dX2_paidOf_28 : decode cX2_paidOf 28 = .ok (.bipush 24, 2) := by decide +kernel
theorem dX2_paidOf_30 : decode cX2_paidOf 30 = .ok (.idiv, 1) := by decide +kernel
theorem dX2_paidOf_31 : decode cX2_paidOf 31 = .ok (.aaload, 1) := by decide +kernel
theorem dX2_paidOf_32 : decode cX2_paidOf 32 = .ok (.aload_n 0, 1) := by decide +kernel
theorem dX2_paidOf_33 : decode cX2_paidOf 33 = .ok (.getfield 22, 3) := by decide +kernel
theorem dX2_paidOf_36 : decode cX2_paidOf 36 = .ok (.iload_n 2, 1) := by decide +kernel
theorem dX2_paidOf_37 : decode cX2_paidOf 37 = .ok (.iaload, 1) := by decide +kernel
theorem dX2_paidOf_38 : decode cX2_paidOf 38 = .ok (.iaload, 1) := by decide +kernel
theorem dX2_paidOf_39 : decode cX2_paidOf 39 = .ok (.invokevirtual 112, 3) := by decide +kernel
theorem dX2_paidOf_42 : decode cX2_paidOf 42 = .ok (.ireturn, 1) := by decide +kernel
def fX2_paidOf (s0 : ZS) (a0 : Int) (a1 : Int) (a2 : Int) : Option (Int × ZS) := (zg s0 2 a0 2).bind (fun v1 => (zal s0 100 v1 a2).bind (fun v2 => if v2 = (-1) then (some (0, s0)) else ((zg s0 2 a0 0).bind (fun v4 => (zg s0 5 v4 1).bind (fun v5 => (zgw s0 a1 1).bind (fun v6 => (zal s0 100 v6 a2).bind (fun v7 => if 24 = 0 then none else ((zal s0 102 v5 (wrap (v7.tdiv 24))).bind (fun v8 => (zg s0 2 a0 2).bind (fun v9 => (zal s0 100 v9 a2).bind (fun v10 => (zal s0 100 v8 v10).bind (fun v11 => zb (zw s0 a1 (fX10_paid s0 a1 v11) (fX9_paid s0 a1 v11) (fX10_paid s0 a1 v11) (fX10_paid s0 a1 v11) (fX10_paid s0 a1 v11) (fX7_paid s0 a1 v11)) (fun v12 s13 => some (v12, s13))))))))))))))
set_option maxHeartbeats 4000000 in
set_option maxRecDepth 100000 in
theorem mX2_paidOf (E : ZE) (hE : zOkE E) (l : Launch) (s0 : ZS) (a0 : Int) (a1 : Int) (a2 : Int) : Ct E l yX2_paidOf cX2_paidOf 3 (some .int) 6 [(2, a0), (2, a1), (0, a2)] 1 s0 (fX2_paidOf s0 a0 a1 a2) := by
  refine Ct.of (by decide) hE (Nat.le_of_ble_eq_true rfl) ?_
  intro X G hX hR hN hXE hXl hxn hk _
  subst hXE
  subst hXl
  have hX : G → ZOk X cX2_paidOf RX2 6 := hX
  clear hN
  show Zj X G 0 [(0, (2, a0)), (1, (2, a1)), (2, (0, a2))] [] s0 _
  unfold fX2_paidOf
  refine z_aload_n (pc := 0) hX 0 dX2_paidOf_0 rfl rfl ?_
  refine z_get (pc := 1) hX zc2 2 (by decide) wd155 rfl rfl dX2_paidOf_1 (fun v1 => ?_)
  refine z_iload_n (pc := 4) hX 2 dX2_paidOf_4 rfl rfl ?_
  refine z_iald (pc := 5) hX dX2_paidOf_5 (fun v2 => ?_)
  refine z_iconst (pc := 6) hX dX2_paidOf_6 ?_
  refine z_icmp_ne (pc := 7) hX 14 dX2_paidOf_7 (by decide) (fun h3 => ?_) (fun h3 => ?_)
  · refine z_aload_n (pc := 14) hX 1 dX2_paidOf_14 rfl rfl ?_
    refine z_aload_n (pc := 15) hX 0 dX2_paidOf_15 rfl rfl ?_
    refine z_get (pc := 16) hX zc2 0 (by decide) wd151 rfl rfl dX2_paidOf_16 (fun v4 => ?_)
    refine z_get (pc := 19) hX zc5 1 (by decide) wd110 rfl rfl dX2_paidOf_19 (fun v5 => ?_)
    refine z_aload_n (pc := 22) hX 1 dX2_paidOf_22 rfl rfl ?_
    refine z_getw (pc := 23) hX zc10 zc9 zc3 zc0 zc1 zc7 1 (by decide) wd619 rfl rfl rfl rfl rfl rfl rfl rfl rfl rfl rfl rfl rfl dX2_paidOf_23 (fun v6 => ?_)
    refine z_iload_n (pc := 26) hX 2 dX2_paidOf_26 rfl rfl ?_
    refine z_iald (pc := 27) hX dX2_paidOf_27 (fun v7 => ?_)
    refine z_bipush (pc := 28) hX dX2_paidOf_28 ?_
    refine z_idiv (pc := 30) hX dX2_paidOf_30 (fun _ => ?_)
    refine z_aald (pc := 31) hX 2 102 (by decide) rfl rfl dX2_paidOf_31 (fun v8 => ?_)
    refine z_aload_n (pc := 32) hX 0 dX2_paidOf_32 rfl rfl ?_
    refine z_get (pc := 33) hX zc2 2 (by decide) wd155 rfl rfl dX2_paidOf_33 (fun v9 => ?_)
    refine z_iload_n (pc := 36) hX 2 dX2_paidOf_36 rfl rfl ?_
    refine z_iald (pc := 37) hX dX2_paidOf_37 (fun v10 => ?_)
    refine z_iald (pc := 38) hX dX2_paidOf_38 (fun v11 => ?_)
    refine z_kk (rk := 1) (st := []) (pc' := 42) (fun kk => z_zw (z_callV (n := 1) (pc := 39) (st := []) hX zc10 rfl (fun _ => (mX10_paid _ hE _ _ _ _)) ⟨wd780, wd76, wd794, ⟨by decide, by decide, by decide⟩, by decide⟩ rfl wd781 wd782 rfl rfl (by decide) (Nat.le_of_ble_eq_true rfl) dX2_paidOf_39 kk) (z_callU (n := 1) (pc := 39) (x := yX10_paid) (owner := "GateRoad$Way") (st := []) hX zc9 rfl (fun _ => (mX9_paid _ hE _ _ _ _)) wd780 wd783 wd781 wd793 wd791 wd77 wd792 wd794 ⟨by decide, by decide, by decide⟩ (by decide) rfl rfl (by decide) (Nat.le_of_ble_eq_true rfl) dX2_paidOf_39 kk) (z_callU (n := 1) (pc := 39) (x := yX10_paid) (owner := "GateRoad$Way") (st := []) hX zc3 rfl (fun _ => (mX10_paid _ hE _ _ _ _)) wd780 wd783 wd781 wd786 wd781 wd76 wd794 wd794 ⟨by decide, by decide, by decide⟩ (by decide) rfl rfl (by decide) (Nat.le_of_ble_eq_true rfl) dX2_paidOf_39 kk) (z_callU (n := 1) (pc := 39) (x := yX10_paid) (owner := "GateRoad$Way") (st := []) hX zc0 rfl (fun _ => (mX10_paid _ hE _ _ _ _)) wd780 wd783 wd781 wd784 wd781 wd76 wd794 wd794 ⟨by decide, by decide, by decide⟩ (by decide) rfl rfl (by decide) (Nat.le_of_ble_eq_true rfl) dX2_paidOf_39 kk) (z_callU (n := 1) (pc := 39) (x := yX10_paid) (owner := "GateRoad$Way") (st := []) hX zc1 rfl (fun _ => (mX10_paid _ hE _ _ _ _)) wd780 wd783 wd781 wd785 wd781 wd76 wd794 wd794 ⟨by decide, by decide, by decide⟩ (by decide) rfl rfl (by decide) (Nat.le_of_ble_eq_true rfl) dX2_paidOf_39 kk) (z_callU (n := 1) (pc := 39) (x := yX10_paid) (owner := "GateRoad$Way") (st := []) hX zc7 rfl (fun _ => (mX7_paid _ hE _ _ _ _)) wd780 wd783 wd781 wd787 wd788 wd81 wd789 wd794 ⟨by decide, by decide, by decide⟩ (by decide) rfl rfl (by decide) (Nat.le_of_ble_eq_true rfl) dX2_paidOf_39 kk)) (fun v12 s13 r14 => ?_)
    show Zj X G 42 [(0, (2, a0)), (1, (2, a1)), (2, (0, a2))] [(0, v12)] _ _
    exact z_iret (pc := 42) hX hR hk dX2_paidOf_42
  · refine z_iconst (pc := 10) hX dX2_paidOf_10 ?_
    refine z_goto (pc := 11) hX 42 dX2_paidOf_11 (by decide) ?_
    exact z_iret (pc := 42) hX hR hk dX2_paidOf_42

theorem dX2_lostOf_0 : decode cX2_lostOf 0 = .ok (.aload_n 0, 1) := by decide +kernel
theorem dX2_lostOf_1 : decode cX2_lostOf 1 = .ok (.getfield 22, 3) := by decide +kernel
theorem dX2_lostOf_4 : decode cX2_lostOf 4 = .ok (.iload_n 2, 1) := by decide +kernel
theorem dX2_lostOf_5 : decode cX2_lostOf 5 = .ok (.iaload, 1) := by decide +kernel
theorem dX2_lostOf_6 : decode cX2_lostOf 6 = .ok (.iconst (-1), 1) := by decide +kernel
theorem dX2_lostOf_7 : decode cX2_lostOf 7 = .ok (.if_icmp .ne 5, 3) := by decide +kernel
theorem dX2_lostOf_10 : decode cX2_lostOf 10 = .ok (.iconst 0, 1) := by decide +kernel
theorem dX2_lostOf_11 : decode cX2_lostOf 11 = .ok (.ireturn, 1) := by decide +kernel
theorem dX2_lostOf_12 : decode cX2_lostOf 12 = .ok (.aload_n 0, 1) := by decide +kernel
theorem dX2_lostOf_13 : decode cX2_lostOf 13 = .ok (.iload_n 2, 1) := by decide +kernel
theorem dX2_lostOf_14 : decode cX2_lostOf 14 = .ok (.aload_n 0, 1) := by decide +kernel
theorem dX2_lostOf_15 : decode cX2_lostOf 15 = .ok (.getfield 18, 3) := by decide +kernel
theorem dX2_lostOf_18 : decode cX2_lostOf 18 = .ok (.iload_n 2, 1) := by decide +kernel
theorem dX2_lostOf_19 : decode cX2_lostOf 19 = .ok (.iaload, 1) := by decide +kernel
theorem dX2_lostOf_20 : decode cX2_lostOf 20 = .ok (.aload_n 0, 1) := by decide +kernel
theorem dX2_lostOf_21 : decode cX2_lostOf 21 = .ok (.getfield 22, 3) := by decide +kernel
theorem dX2_lostOf_24 : decode cX2_lostOf 24 = .ok (.iload_n 2, 1) := by decide +kernel
theorem dX2_lostOf_25 : decode cX2_lostOf 25 = .ok (.iaload, 1) := by decide +kernel
theorem dX2_lostOf_26 : decode cX2_lostOf 26 = .ok (.aload_n 0, 1) := by decide +kernel
theorem dX2_lostOf_27 : decode cX2_lostOf 27 = .ok (.aload_n 1, 1) := by decide +kernel
theorem dX2_lostOf_28 : decode cX2_lostOf 28 = .ok (.iload_n 2, 1) := by decide +kernel
theorem dX2_lostOf_29 : decode cX2_lostOf 29 = .ok (.invokevirtual 128, 3) := by decide +kernel
theorem dX2_lostOf_32 : decode cX2_lostOf 32 = .ok (.invokevirtual 115, 3) := by decide +kernel
theorem dX2_lostOf_35 : decode cX2_lostOf 35 = .ok (.aload_n 3, 1) := by decide +kernel
theorem dX2_lostOf_36 : decode cX2_lostOf 36 = .ok (.getfield 132, 3) := by decide +kernel
theorem dX2_lostOf_39 : decode cX2_lostOf 39 = .ok (.aload_n 0, 1) := by decide +kernel
theorem dX2_lostOf_40 : decode cX2_lostOf 40 = .ok (.getfield 48, 3) := by decide +kernel
theorem dX2_lostOf_43 : decode cX2_lostOf 43 = .ok (.aload_n 0, 1) := by decide +kernel
theorem dX2_lostOf_44 : decode cX2_lostOf 44 = .ok (.getfield 51, 3) := by decide +kernel
theorem dX2_lostOf_47 : decode cX2_lostOf 47 = .ok (.invokestatic 121, 3) := by decide +kernel
theorem dX2_lostOf_50 : decode cX2_lostOf 50 = .ok (.ireturn, 1) := by decide +kernel
def fX2_lostOf (s0 : ZS) (a0 : Int) (a1 : Int) (a2 : Int) (a3 : Int) : Option (Int × ZS) := (zg s0 2 a0 2).bind (fun v1 => (zal s0 100 v1 a2).bind (fun v2 => if v2 = (-1) then (some (0, s0)) else ((zg s0 2 a0 1).bind (fun v4 => (zal s0 100 v4 a2).bind (fun v5 => (zg s0 2 a0 2).bind (fun v6 => (zal s0 100 v6 a2).bind (fun v7 => zb (zv s0 2 a0 (fX2_paidOf s0 a0 a1 a2)) (fun v8 s9 => zb (zv s9 2 a0 (fX2_learn s9 a0 a2 v5 v7 v8)) (fun v11 s12 => (zg s12 8 a3 1).bind (fun v14 => (zg s12 2 a0 9).bind (fun v15 => (zg s12 2 a0 10).bind (fun v16 => zb (fX8_amount s12 v14 v15 v16) (fun v17 s18 => some (v17, s18))))))))))))))
set_option maxHeartbeats 4000000 in
set_option maxRecDepth 100000 in
theorem mX2_lostOf (E : ZE) (hE : zOkE E) (l : Launch) (s0 : ZS) (a0 : Int) (a1 : Int) (a2 : Int) (a3 : Int) : Ct E l yX2_lostOf cX2_lostOf 4 (some .int) 8 [(2, a0), (2, a1), (0, a2), (2, a3)] 1 s0 (fX2_lostOf s0 a0 a1 a2 a3) := by
  refine Ct.of (by decide) hE (Nat.le_of_ble_eq_true rfl) ?_
  intro X G hX hR hN hXE hXl hxn hk _
  subst hXE
  subst hXl
  have hX : G → ZOk X cX2_lostOf RX2 8 := hX
  clear hN
  show Zj X G 0 [(0, (2, a0)), (1, (2, a1)), (2, (0, a2)), (3, (2, a3))] [] s0 _
  unfold fX2_lostOf
  refine z_aload_n (pc := 0) hX 0 dX2_lostOf_0 rfl rfl ?_
  refine z_get (pc := 1) hX zc2 2 (by decide) wd155 rfl rfl dX2_lostOf_1 (fun v1 => ?_)
  refine z_iload_n (pc := 4) hX 2 dX2_lostOf_4 rfl rfl ?_
  refine z_iald (pc := 5) hX dX2_lostOf_5 (fun v2 => ?_)
  refine z_iconst (pc := 6) hX dX2_lostOf_6 ?_
  refine z_icmp_ne (pc := 7) hX 12 dX2_lostOf_7 (by decide) (fun h3 => ?_) (fun h3 => ?_)
  · refine z_aload_n (pc := 12) hX 0 dX2_lostOf_12 rfl rfl ?_
    refine z_iload_n (pc := 13) hX 2 dX2_lostOf_13 rfl rfl ?_
    refine z_aload_n (pc := 14) hX 0 dX2_lostOf_14 rfl rfl ?_
    refine z_get (pc := 15) hX zc2 1 (by decide) wd153 rfl rfl dX2_lostOf_15 (fun v4 => ?_)
    refine z_iload_n (pc := 18) hX 2 dX2_lostOf_18 rfl rfl ?_
    refine z_iald (pc := 19) hX dX2_lostOf_19 (fun v5 => ?_)
    refine z_aload_n (pc := 20) hX 0 dX2_lostOf_20 rfl rfl ?_
    refine z_get (pc := 21) hX zc2 2 (by decide) wd155 rfl rfl dX2_lostOf_21 (fun v6 => ?_)
    refine z_iload_n (pc := 24) hX 2 dX2_lostOf_24 rfl rfl ?_
    refine z_iald (pc := 25) hX dX2_lostOf_25 (fun v7 => ?_)
    refine z_aload_n (pc := 26) hX 0 dX2_lostOf_26 rfl rfl ?_
    refine z_aload_n (pc := 27) hX 1 dX2_lostOf_27 rfl rfl ?_
    refine z_iload_n (pc := 28) hX 2 dX2_lostOf_28 rfl rfl ?_
    refine z_callV (n := 2) (st := [(0, v7), (0, v5), (0, a2), (2, a0)]) (pc := 29) hX zc2 rfl (fun _ => (mX2_paidOf _ hE _ _ _ _ _)) ⟨wd829, wd62, wd824, ⟨by decide, by decide, by decide⟩, by decide⟩ rfl wd822 wd823 rfl rfl (by decide) (Nat.le_of_ble_eq_true rfl) dX2_lostOf_29 (fun v8 s9 r10 => ?_)
    show Zj X G 32 [(0, (2, a0)), (1, (2, a1)), (2, (0, a2)), (3, (2, a3))] [(0, v8), (0, v7), (0, v5), (0, a2), (2, a0)] _ _
    refine z_callV (n := 4) (st := []) (pc := 32) hX zc2 rfl (fun _ => (mX2_learn _ hE _ _ _ _ _ _ _)) ⟨wd795, wd62, wd798, ⟨by decide, by decide, by decide⟩, by decide⟩ rfl wd797 wd23 rfl rfl (by decide) (Nat.le_of_ble_eq_true rfl) dX2_lostOf_32 (fun v11 s12 r13 => ?_)
    show Zj X G 35 [(0, (2, a0)), (1, (2, a1)), (2, (0, a2)), (3, (2, a3))] [] _ _
    refine z_aload_n (pc := 35) hX 3 dX2_lostOf_35 rfl rfl ?_
    refine z_get (pc := 36) hX zc8 1 (by decide) wd246 rfl rfl dX2_lostOf_36 (fun v14 => ?_)
    refine z_aload_n (pc := 39) hX 0 dX2_lostOf_39 rfl rfl ?_
    refine z_get (pc := 40) hX zc2 9 (by decide) wd165 rfl rfl dX2_lostOf_40 (fun v15 => ?_)
    refine z_aload_n (pc := 43) hX 0 dX2_lostOf_43 rfl rfl ?_
    refine z_get (pc := 44) hX zc2 10 (by decide) wd166 rfl rfl dX2_lostOf_44 (fun v16 => ?_)
    refine z_callS (n := 3) (st := []) (pc := 47) hX (mX8_amount _ hE _ _ _ _ _) ⟨wd801, wd65, wd803, ⟨by decide, by decide, by decide⟩, by decide⟩ wd802 rfl rfl (by decide) (Nat.le_of_ble_eq_true rfl) dX2_lostOf_47 (fun v17 s18 r19 => ?_)
    show Zj X G 50 [(0, (2, a0)), (1, (2, a1)), (2, (0, a2)), (3, (2, a3))] [(0, v17)] _ _
    exact z_iret (pc := 50) hX hR hk dX2_lostOf_50
  · refine z_iconst (pc := 10) hX dX2_lostOf_10 ?_
    exact z_iret (pc := 11) hX hR hk dX2_lostOf_11

theorem dX11_of_0 : decode cX11_of 0 = .ok (.aload_n 0, 1) := by decide +kernel
theorem dX11_of_1 : decode cX11_of 1 = .ok (.iload_n 1, 1) := by decide +kernel
theorem dX11_of_2 : decode cX11_of 2 = .ok (.invokevirtual 177, 3) := by decide +kernel
theorem dX11_of_5 : decode cX11_of 5 = .ok (.astore 4, 2) := by decide +kernel
theorem dX11_of_7 : decode cX11_of 7 = .ok (.aload 4, 2) := by decide +kernel
theorem dX11_of_9 : decode cX11_of 9 = .ok (.ifnull 12, 3) := by decide +kernel
theorem dX11_of_12 : decode cX11_of 12 = .ok (.aload 4, 2) := by decide +kernel
theorem dX11_of_14 : decode cX11_of 14 = .ok (.iload_n 2, 1) := by decide +kernel
theorem dX11_of_15 : decode cX11_of 15 = .ok (.invokevirtual 185, 3) := by decide +kernel
theorem dX11_of_18 : decode cX11_of 18 = .ok (.ifCond .ne 7, 3) := by decide +kernel
theorem dX11_of_21 : decode cX11_of 21 = .ok (.sipush (-10000), 3) := by decide +kernel
theorem dX11_of_24 : decode cX11_of 24 = .ok (.ireturn, 1) := by decide +kernel
theorem dX11_of_25 : decode cX11_of 25 = .ok (.iload_n 3, 1) := by decide +kernel
theorem dX11_of_26 : decode cX11_of 26 = .ok (.iconst 4, 1) := by decide +kernel
theorem dX11_of_27 : decode cX11_of 27 = .ok (.invokestatic 102, 3) := by decide +kernel
theorem dX11_of_30 : decode cX11_of 30 = .ok (.ifCond .ne 7, 3) := by decide +kernel
theorem dX11_of_33 : decode cX11_of 33 = .ok (.sipush (-10001), 3) := by decide +kernel
theorem dX11_of_36 : decode cX11_of 36 = .ok (.ireturn, 1) := by decide +kernel
theorem dX11_of_37 : decode cX11_of 37 = .ok (.aload_n 0, 1) := by decide +kernel
theorem dX11_of_38 : decode cX11_of 38 = .ok (.getfield 10, 3) := by decide +kernel
theorem dX11_of_41 : decode cX11_of 41 = .ok (.aload 4, 2) := by decide +kernel
theorem dX11_of_43 : decode cX11_of 43 = .ok (.invokevirtual 188, 3) := by decide +kernel
theorem dX11_of_46 : decode cX11_of 46 = .ok (.iload_n 3, 1) := by decide +kernel
theorem dX11_of_47 : decode cX11_of 47 = .ok (.tableswitch 80 0 3 #[29, 39, 49, 69], 29) := by decide +kernel
theorem dX11_of_76 : decode cX11_of 76 = .ok (.aload_n 0, 1) := by decide +kernel
theorem dX11_of_77 : decode cX11_of 77 = .ok (.getfield 10, 3) := by decide +kernel
theorem dX11_of_80 : decode cX11_of 80 = .ok (.getfield 192, 3) := by decide +kernel
theorem dX11_of_83 : decode cX11_of 83 = .ok (.iload_n 2, 1) := by decide +kernel
theorem dX11_of_84 : decode cX11_of 84 = .ok (.iaload, 1) := by decide +kernel
theorem dX11_of_85 : decode cX11_of 85 = .ok (.ireturn, 1) := by decide +kernel
theorem dX11_of_86 : decode cX11_of 86 = .ok (.aload_n 0, 1) := by decide +kernel
theorem dX11_of_87 : decode cX11_of 87 = .ok (.getfield 10, 3) := by decide +kernel
theorem dX11_of_90 : decode cX11_of 90 = .ok (.getfield 195, 3) := by decide +kernel
theorem dX11_of_93 : decode cX11_of 93 = .ok (.iload_n 2, 1) := by decide +kernel
theorem dX11_of_94 : decode cX11_of 94 = .ok (.iaload, 1) := by decide +kernel
theorem dX11_of_95 : decode cX11_of 95 = .ok (.ireturn, 1) := by decide +kernel
theorem dX11_of_96 : decode cX11_of 96 = .ok (.aload_n 0, 1) := by decide +kernel
theorem dX11_of_97 : decode cX11_of 97 = .ok (.getfield 10, 3) := by decide +kernel
theorem dX11_of_100 : decode cX11_of 100 = .ok (.aload 4, 2) := by decide +kernel
theorem dX11_of_102 : decode cX11_of 102 = .ok (.iload_n 2, 1) := by decide +kernel
theorem dX11_of_103 : decode cX11_of 103 = .ok (.aload_n 0, 1) := by decide +kernel
theorem dX11_of_104 : decode cX11_of 104 = .ok (.getfield 40, 3) := by decide +kernel
theorem dX11_of_107 : decode cX11_of 107 = .ok (.aload_n 0, 1) := by decide +kernel
theorem dX11_of_108 : decode cX11_of 108 = .ok (.getfield 47, 3) := by decide +kernel
theorem dX11_of_111 : decode cX11_of 111 = .ok (.aaload, 1) := by decide +kernel
theorem dX11_of_112 : decode cX11_of 112 = .ok (.invokevirtual 198, 3) := by decide +kernel
theorem dX11_of_115 : decode cX11_of 115 = .ok (.ireturn, 1) := by decide +kernel
theorem dX11_of_116 : decode cX11_of 116 = .ok (.aload_n 0, 1) := by decide +kernel
theorem dX11_of_117 : decode cX11_of 117 = .ok (.getfield 10, 3) := by decide +kernel
theorem dX11_of_120 : decode cX11_of 120 = .ok (.aload 4, 2) := by decide +kernel
theorem dX11_of_122 : decode cX11_of 122 = .ok (.iload_n 2, 1) := by decide +kernel
theorem dX11_of_123 : decode cX11_of 123 = .ok (.invokevirtual 202, 3) := by decide +kernel
theorem dX11_of_126 : decode cX11_of 126 = .ok (.ireturn, 1) := by decide +kernel
theorem dX11_of_127 : decode cX11_of 127 = .ok (.aload_n 0, 1) := by decide +kernel
theorem dX11_of_128 : decode cX11_of 128 = .ok (.getfield 10, 3) := by decide +kernel
theorem dX11_of_131 : decode cX11_of 131 = .ok (.aload 4, 2) := by decide +kernel
theorem dX11_of_133 : decode cX11_of 133 = .ok (.iload_n 2, 1) := by decide +kernel
theorem dX11_of_134 : decode cX11_of 134 = .ok (.aload_n 0, 1) := by decide +kernel
theorem dX11_of_135 : decode cX11_of 135 = .ok (.getfield 40, 3) := by decide +kernel
theorem dX11_of_138 : decode cX11_of 138 = .ok (.aload_n 0, 1) := by decide +kernel
theorem dX11_of_139 : decode cX11_of 139 = .ok (.getfield 47, 3) := by decide +kernel
theorem dX11_of_142 : decode cX11_of 142 = .ok (.aaload, 1) := by decide +kernel
theorem dX11_of_143 : decode cX11_of 143 = .ok (.invokevirtual 206, 3) := by decide +kernel
theorem dX11_of_146 : decode cX11_of 146 = .ok (.ireturn, 1) := by decide +kernel
def fX11_of (s0 : ZS) (a0 : Int) (a1 : Int) (a2 : Int) (a3 : Int) : Option (Int × ZS) := zb (zv s0 11 a0 (fX11_wayAt s0 a0 a1)) (fun v1 s2 => if v1 < 0 then (some ((-10000), s2)) else (zb (zw s2 v1 (fX10_isFor s2 v1 a2) (fX10_isFor s2 v1 a2) (fX10_isFor s2 v1 a2) (fX10_isFor s2 v1 a2) (fX10_isFor s2 v1 a2) (fX10_isFor s2 v1 a2)) (fun v5 s6 => if v5 = 0 then (some ((-10000), s6)) else (zb (fX11_within s6 a3 4) (fun v10 s11 => if v10 = 0 then (some ((-10001), s11)) else ((zg s11 11 a0 0).bind (fun v14 => zb (zv s11 2 v14 (fX2_follow s11 v14 v1)) (fun v15 s16 => if a3 = 0 then ((zg s16 11 a0 0).bind (fun v19 => (zg s16 2 v19 1).bind (fun v20 => (zal s16 100 v20 a2).bind (fun v21 => some (v21, s16))))) else (if a3 = 1 then ((zg s16 11 a0 0).bind (fun v23 => (zg s16 2 v23 2).bind (fun v24 => (zal s16 100 v24 a2).bind (fun v25 => some (v25, s16))))) else (if a3 = 2 then ((zg s16 11 a0 0).bind (fun v27 => (zg s16 11 a0 5).bind (fun v28 => (zg s16 11 a0 7).bind (fun v29 => (zal s16 104 v28 v29).bind (fun v30 => zb (zv s16 2 v27 (fX2_costOf s16 v27 v1 a2 v30)) (fun v31 s32 => some (v31, s32))))))) else (if a3 = 3 then ((zg s16 11 a0 0).bind (fun v35 => zb (zv s16 2 v35 (fX2_paidOf s16 v35 v1 a2)) (fun v36 s37 => some (v36, s37)))) else ((zg s16 11 a0 0).bind (fun v39 => (zg s16 11 a0 5).bind (fun v40 => (zg s16 11 a0 7).bind (fun v41 => (zal s16 104 v40 v41).bind (fun v42 => zb (zv s16 2 v39 (fX2_lostOf s16 v39 v1 a2 v42)) (fun v43 s44 => some (v43, s44))))))))))))))))))
set_option maxHeartbeats 4000000 in
set_option maxRecDepth 100000 in
theorem mX11_of (E : ZE) (hE : zOkE E) (l : Launch) (s0 : ZS) (a0 : Int) (a1 : Int) (a2 : Int) (a3 : Int) : Ct E l yX11_of cX11_of 5 (some .int) 10 [(2, a0), (0, a1), (0, a2), (0, a3)] 1 s0 (fX11_of s0 a0 a1 a2 a3) := by
  refine Ct.of (by decide) hE (Nat.le_of_ble_eq_true rfl) ?_
  intro X G hX hR hN hXE hXl hxn hk _
  subst hXE
  subst hXl
  have hX : G → ZOk X cX11_of RX11 10 := hX
  clear hN
  show Zj X G 0 [(0, (2, a0)), (1, (0, a1)), (2, (0, a2)), (3, (0, a3))] [] s0 _
  unfold fX11_of
  refine z_aload_n (pc := 0) hX 0 dX11_of_0 rfl rfl ?_
  refine z_iload_n (pc := 1) hX 1 dX11_of_1 rfl rfl ?_
  refine z_callV (n := 1) (st := []) (pc := 2) hX zc11 rfl (fun _ => (mX11_wayAt _ hE _ _ _ _)) ⟨wd681, wd61, wd684, ⟨by decide, by decide, by decide⟩, by decide⟩ rfl wd683 wd18 rfl rfl (by decide) (Nat.le_of_ble_eq_true rfl) dX11_of_2 (fun v1 s2 r3 => ?_)
  show Zj X G 5 [(0, (2, a0)), (1, (0, a1)), (2, (0, a2)), (3, (0, a3))] [(2, v1)] _ _
  refine z_astore (lv' := [(4, (2, v1)), (0, (2, a0)), (1, (0, a1)), (2, (0, a2)), (3, (0, a3))]) (pc := 5) hX dX11_of_5 (zlt hxn rfl) rfl ?_
  refine z_aload (pc := 7) hX 0 dX11_of_7 rfl ?_
  refine z_ifnull (pc := 9) hX 21 dX11_of_9 (by decide) (fun h4 => ?_) (fun h4 => ?_)
  · refine z_sipush (pc := 21) hX dX11_of_21 ?_
    exact z_iret (pc := 24) hX hR hk dX11_of_24
  · refine z_aload (pc := 12) hX 0 dX11_of_12 rfl ?_
    refine z_iload_n (pc := 14) hX 3 dX11_of_14 rfl rfl ?_
    refine z_kk (rk := 4) (st := []) (pc' := 18) (fun kk => z_zw (z_callV (n := 1) (pc := 15) (st := []) hX zc10 rfl (fun _ => (mX10_isFor _ hE _ _ _ _)) ⟨wd705, wd76, wd714, ⟨by decide, by decide, by decide⟩, by decide⟩ rfl wd706 wd707 rfl rfl (by decide) (Nat.le_of_ble_eq_true rfl) dX11_of_15 kk) (z_callU (n := 1) (pc := 15) (x := yX10_isFor) (owner := "GateRoad$Way") (st := []) hX zc9 rfl (fun _ => (mX10_isFor _ hE _ _ _ _)) wd705 wd708 wd706 wd713 wd706 wd76 wd714 wd714 ⟨by decide, by decide, by decide⟩ (by decide) rfl rfl (by decide) (Nat.le_of_ble_eq_true rfl) dX11_of_15 kk) (z_callU (n := 1) (pc := 15) (x := yX10_isFor) (owner := "GateRoad$Way") (st := []) hX zc3 rfl (fun _ => (mX10_isFor _ hE _ _ _ _)) wd705 wd708 wd706 wd711 wd706 wd76 wd714 wd714 ⟨by decide, by decide, by decide⟩ (by decide) rfl rfl (by decide) (Nat.le_of_ble_eq_true rfl) dX11_of_15 kk) (z_callU (n := 1) (pc := 15) (x := yX10_isFor) (owner := "GateRoad$Way") (st := []) hX zc0 rfl (fun _ => (mX10_isFor _ hE _ _ _ _)) wd705 wd708 wd706 wd709 wd706 wd76 wd714 wd714 ⟨by decide, by decide, by decide⟩ (by decide) rfl rfl (by decide) (Nat.le_of_ble_eq_true rfl) dX11_of_15 kk) (z_callU (n := 1) (pc := 15) (x := yX10_isFor) (owner := "GateRoad$Way") (st := []) hX zc1 rfl (fun _ => (mX10_isFor _ hE _ _ _ _)) wd705 wd708 wd706 wd710 wd706 wd76 wd714 wd714 ⟨by decide, by decide, by decide⟩ (by decide) rfl rfl (by decide) (Nat.le_of_ble_eq_true rfl) dX11_of_15 kk) (z_callU (n := 1) (pc := 15) (x := yX10_isFor) (owner := "GateRoad$Way") (st := []) hX zc7 rfl (fun _ => (mX10_isFor _ hE _ _ _ _)) wd705 wd708 wd706 wd712 wd706 wd76 wd714 wd714 ⟨by decide, by decide, by decide⟩ (by decide) rfl rfl (by decide) (Nat.le_of_ble_eq_true rfl) dX11_of_15 kk)) (fun v5 s6 r7 => ?_)
    show Zj X G 18 [(4, (2, v1)), (0, (2, a0)), (1, (0, a1)), (2, (0, a2)), (3, (0, a3))] [(0, v5)] _ _
    refine z_if_ne (pc := 18) hX 25 dX11_of_18 (by decide) (fun h9 => ?_) (fun h9 => ?_)
    · refine z_iload_n (pc := 25) hX 4 dX11_of_25 rfl rfl ?_
      refine z_iconst (pc := 26) hX dX11_of_26 ?_
      refine z_callS (n := 2) (st := []) (pc := 27) hX (mX11_within _ hE _ _ _ _) ⟨wd329, wd61, wd331, ⟨by decide, by decide, by decide⟩, by decide⟩ wd330 rfl rfl (by decide) (Nat.le_of_ble_eq_true rfl) dX11_of_27 (fun v10 s11 r12 => ?_)
      show Zj X G 30 [(4, (2, v1)), (0, (2, a0)), (1, (0, a1)), (2, (0, a2)), (3, (0, a3))] [(0, v10)] _ _
      refine z_if_ne (pc := 30) hX 37 dX11_of_30 (by decide) (fun h13 => ?_) (fun h13 => ?_)
      · refine z_aload_n (pc := 37) hX 1 dX11_of_37 rfl rfl ?_
        refine z_get (pc := 38) hX zc11 0 (by decide) wd270 rfl rfl dX11_of_38 (fun v14 => ?_)
        refine z_aload (pc := 41) hX 0 dX11_of_41 rfl ?_
        refine z_callV (n := 1) (st := []) (pc := 43) hX zc2 rfl (fun _ => (mX2_follow _ hE _ _ _ _)) ⟨wd723, wd62, wd726, ⟨by decide, by decide, by decide⟩, by decide⟩ rfl wd724 wd725 rfl rfl (by decide) (Nat.le_of_ble_eq_true rfl) dX11_of_43 (fun v15 s16 r17 => ?_)
        show Zj X G 46 [(4, (2, v1)), (0, (2, a0)), (1, (0, a1)), (2, (0, a2)), (3, (0, a3))] [] _ _
        refine z_iload_n (pc := 46) hX 4 dX11_of_46 rfl rfl ?_
        by_cases h18 : a3 = 0
        · refine z_eq (if_pos h18) ?_
          refine z_tswIn (pc := 47) hX 76 dX11_of_47 h18 (by decide) (by decide) rfl (by decide) ?_
          refine z_aload_n (pc := 76) hX 1 dX11_of_76 rfl rfl ?_
          refine z_get (pc := 77) hX zc11 0 (by decide) wd270 rfl rfl dX11_of_77 (fun v19 => ?_)
          refine z_get (pc := 80) hX zc2 1 (by decide) wd154 rfl rfl dX11_of_80 (fun v20 => ?_)
          refine z_iload_n (pc := 83) hX 3 dX11_of_83 rfl rfl ?_
          refine z_iald (pc := 84) hX dX11_of_84 (fun v21 => ?_)
          exact z_iret (pc := 85) hX hR hk dX11_of_85
        · refine z_eq (if_neg h18) ?_
          by_cases h22 : a3 = 1
          · refine z_eq (if_pos h22) ?_
            refine z_tswIn (pc := 47) hX 86 dX11_of_47 h22 (by decide) (by decide) rfl (by decide) ?_
            refine z_aload_n (pc := 86) hX 1 dX11_of_86 rfl rfl ?_
            refine z_get (pc := 87) hX zc11 0 (by decide) wd270 rfl rfl dX11_of_87 (fun v23 => ?_)
            refine z_get (pc := 90) hX zc2 2 (by decide) wd156 rfl rfl dX11_of_90 (fun v24 => ?_)
            refine z_iload_n (pc := 93) hX 3 dX11_of_93 rfl rfl ?_
            refine z_iald (pc := 94) hX dX11_of_94 (fun v25 => ?_)
            exact z_iret (pc := 95) hX hR hk dX11_of_95
          · refine z_eq (if_neg h22) ?_
            by_cases h26 : a3 = 2
            · refine z_eq (if_pos h26) ?_
              refine z_tswIn (pc := 47) hX 96 dX11_of_47 h26 (by decide) (by decide) rfl (by decide) ?_
              refine z_aload_n (pc := 96) hX 1 dX11_of_96 rfl rfl ?_
              refine z_get (pc := 97) hX zc11 0 (by decide) wd270 rfl rfl dX11_of_97 (fun v27 => ?_)
              refine z_aload (pc := 100) hX 0 dX11_of_100 rfl ?_
              refine z_iload_n (pc := 102) hX 3 dX11_of_102 rfl rfl ?_
              refine z_aload_n (pc := 103) hX 1 dX11_of_103 rfl rfl ?_
              refine z_get (pc := 104) hX zc11 5 (by decide) wd275 rfl rfl dX11_of_104 (fun v28 => ?_)
              refine z_aload_n (pc := 107) hX 1 dX11_of_107 rfl rfl ?_
              refine z_get (pc := 108) hX zc11 7 (by decide) wd277 rfl rfl dX11_of_108 (fun v29 => ?_)
              refine z_aald (pc := 111) hX 4 104 (by decide) rfl rfl dX11_of_111 (fun v30 => ?_)
              refine z_callV (n := 3) (st := []) (pc := 112) hX zc2 rfl (fun _ => (mX2_costOf _ hE _ _ _ _ _ _)) ⟨wd772, wd62, wd775, ⟨by decide, by decide, by decide⟩, by decide⟩ rfl wd773 wd774 rfl rfl (by decide) (Nat.le_of_ble_eq_true rfl) dX11_of_112 (fun v31 s32 r33 => ?_)
              show Zj X G 115 [(4, (2, v1)), (0, (2, a0)), (1, (0, a1)), (2, (0, a2)), (3, (0, a3))] [(0, v31)] _ _
              exact z_iret (pc := 115) hX hR hk dX11_of_115
            · refine z_eq (if_neg h26) ?_
              by_cases h34 : a3 = 3
              · refine z_eq (if_pos h34) ?_
                refine z_tswIn (pc := 47) hX 116 dX11_of_47 h34 (by decide) (by decide) rfl (by decide) ?_
                refine z_aload_n (pc := 116) hX 1 dX11_of_116 rfl rfl ?_
                refine z_get (pc := 117) hX zc11 0 (by decide) wd270 rfl rfl dX11_of_117 (fun v35 => ?_)
                refine z_aload (pc := 120) hX 0 dX11_of_120 rfl ?_
                refine z_iload_n (pc := 122) hX 3 dX11_of_122 rfl rfl ?_
                refine z_callV (n := 2) (st := []) (pc := 123) hX zc2 rfl (fun _ => (mX2_paidOf _ hE _ _ _ _ _)) ⟨wd821, wd62, wd824, ⟨by decide, by decide, by decide⟩, by decide⟩ rfl wd822 wd823 rfl rfl (by decide) (Nat.le_of_ble_eq_true rfl) dX11_of_123 (fun v36 s37 r38 => ?_)
                show Zj X G 126 [(4, (2, v1)), (0, (2, a0)), (1, (0, a1)), (2, (0, a2)), (3, (0, a3))] [(0, v36)] _ _
                exact z_iret (pc := 126) hX hR hk dX11_of_126
              · refine z_eq (if_neg h34) ?_
                refine z_tswOut (pc := 47) hX 127 dX11_of_47 (by omega) (by decide) ?_
                refine z_aload_n (pc := 127) hX 1 dX11_of_127 rfl rfl ?_
                refine z_get (pc := 128) hX zc11 0 (by decide) wd270 rfl rfl dX11_of_128 (fun v39 => ?_)
                refine z_aload (pc := 131) hX 0 dX11_of_131 rfl ?_
                refine z_iload_n (pc := 133) hX 3 dX11_of_133 rfl rfl ?_
                refine z_aload_n (pc := 134) hX 1 dX11_of_134 rfl rfl ?_
                refine z_get (pc := 135) hX zc11 5 (by decide) wd275 rfl rfl dX11_of_135 (fun v40 => ?_)
                refine z_aload_n (pc := 138) hX 1 dX11_of_138 rfl rfl ?_
                refine z_get (pc := 139) hX zc11 7 (by decide) wd277 rfl rfl dX11_of_139 (fun v41 => ?_)
                refine z_aald (pc := 142) hX 4 104 (by decide) rfl rfl dX11_of_142 (fun v42 => ?_)
                refine z_callV (n := 3) (st := []) (pc := 143) hX zc2 rfl (fun _ => (mX2_lostOf _ hE _ _ _ _ _ _)) ⟨wd825, wd62, wd828, ⟨by decide, by decide, by decide⟩, by decide⟩ rfl wd826 wd827 rfl rfl (by decide) (Nat.le_of_ble_eq_true rfl) dX11_of_143 (fun v43 s44 r45 => ?_)
                show Zj X G 146 [(4, (2, v1)), (0, (2, a0)), (1, (0, a1)), (2, (0, a2)), (3, (0, a3))] [(0, v43)] _ _
                exact z_iret (pc := 146) hX hR hk dX11_of_146
      · refine z_sipush (pc := 33) hX dX11_of_33 ?_
        exact z_iret (pc := 36) hX hR hk dX11_of_36
    · refine z_sipush (pc := 21) hX dX11_of_21 ?_
      exact z_iret (pc := 24) hX hR hk dX11_of_24

theorem dX12_lays_0 : decode cX12_lays 0 = .ok (.iconst 0, 1) := by decide +kernel
theorem dX12_lays_1 : decode cX12_lays 1 = .ok (.istore_n 2, 1) := by decide +kernel
theorem dX12_lays_2 : decode cX12_lays 2 = .ok (.iload_n 2, 1) := by decide +kernel
theorem dX12_lays_3 : decode cX12_lays 3 = .ok (.aload_n 0, 1) := by decide +kernel
theorem dX12_lays_4 : decode cX12_lays 4 = .ok (.getfield 31, 3) := by decide +kernel
theorem dX12_lays_7 : decode cX12_lays 7 = .ok (.iload_n 1, 1) := by decide +kernel
theorem dX12_lays_8 : decode cX12_lays 8 = .ok (.iaload, 1) := by decide +kernel
theorem dX12_lays_9 : decode cX12_lays 9 = .ok (.if_icmp .ge 26, 3) := by decide +kernel
theorem dX12_lays_12 : decode cX12_lays 12 = .ok (.aload_n 0, 1) := by decide +kernel
theorem dX12_lays_13 : decode cX12_lays 13 = .ok (.getfield 106, 3) := by decide +kernel
theorem dX12_lays_16 : decode cX12_lays 16 = .ok (.iload_n 2, 1) := by decide +kernel
theorem dX12_lays_17 : decode cX12_lays 17 = .ok (.aload_n 0, 1) := by decide +kernel
theorem dX12_lays_18 : decode cX12_lays 18 = .ok (.getfield 34, 3) := by decide +kernel
theorem dX12_lays_21 : decode cX12_lays 21 = .ok (.bipush 16, 2) := by decide +kernel
theorem dX12_lays_23 : decode cX12_lays 23 = .ok (.iload_n 1, 1) := by decide +kernel
theorem dX12_lays_24 : decode cX12_lays 24 = .ok (.imul, 1) := by decide +kernel
theorem dX12_lays_25 : decode cX12_lays 25 = .ok (.iload_n 2, 1) := by decide +kernel
theorem dX12_lays_26 : decode cX12_lays 26 = .ok (.iadd, 1) := by decide +kernel
theorem dX12_lays_27 : decode cX12_lays 27 = .ok (.iaload, 1) := by decide +kernel
theorem dX12_lays_28 : decode cX12_lays 28 = .ok (.iastore, 1) := by decide +kernel
theorem dX12_lays_29 : decode cX12_lays 29 = .ok (.iinc 2 1, 3) := by decide +kernel
theorem dX12_lays_32 : decode cX12_lays 32 = .ok (.goto (-30), 3) := by decide +kernel
theorem dX12_lays_35 : decode cX12_lays 35 = .ok (.return_, 1) := by decide +kernel
def lX12_lays_2 (u2 u3 : Int)  : Nat → ZS → Int → Option (Int × ZS)
  | 0, _, _ => none
  | n1 + 1, s1, x4 => (zg s1 12 u2 10).bind (fun v5 => (zal s1 100 v5 u3).bind (fun v6 => if v6 ≤ x4 then (some (0, s1)) else ((zg s1 12 u2 40).bind (fun v8 => (zg s1 12 u2 11).bind (fun v9 => (zal s1 100 v9 (wrap ((wrap (16 * u3)) + x4))).bind (fun v10 => (zas s1 100 v8 x4 v10).bind (fun s11 => lX12_lays_2 u2 u3 n1 s11 (wrap (x4 + 1)))))))))

def fX12_lays (s0 : ZS) (a0 : Int) (a1 : Int) : Option (Int × ZS) := lX12_lays_2 a0 a1 1000 s0 0
set_option maxHeartbeats 4000000 in
set_option maxRecDepth 100000 in
theorem mX12_lays (E : ZE) (hE : zOkE E) (l : Launch) (s0 : ZS) (a0 : Int) (a1 : Int) : Ct E l yX12_lays cX12_lays 3 none 2 [(2, a0), (0, a1)] 0 s0 (fX12_lays s0 a0 a1) := by
  refine Ct.of (by decide) hE (Nat.le_of_ble_eq_true rfl) ?_
  intro X G hX hR hN hXE hXl hxn hk _
  subst hXE
  subst hXl
  have hX : G → ZOk X cX12_lays RX12 2 := hX
  clear hN
  show Zj X G 0 [(0, (2, a0)), (1, (0, a1))] [] s0 _
  unfold fX12_lays
  refine z_iconst (pc := 0) hX dX12_lays_0 ?_
  refine z_istore_n (lv' := [(2, (0, 0)), (0, (2, a0)), (1, (0, a1))]) (pc := 1) hX dX12_lays_1 rfl (zlt hxn rfl) rfl ?_
  have hl2 : ∀ (u2 u3 : Int), ∀ (n1 : Nat) (s1 : ZS) (x4 : Int), Zj X G 2 [(0, (2, u2)), (1, (0, u3)), (2, (0, x4))] [] s1 (lX12_lays_2 u2 u3 n1 s1 x4) := by
    intro u2 u3 n1
    induction n1 with
    | zero => intro _ _; exact z_none
    | succ n1 ih1 =>
      intro s1 x4
      rw [lX12_lays_2]
      refine z_iload_n (pc := 2) hX 2 dX12_lays_2 rfl rfl ?_
      refine z_aload_n (pc := 3) hX 0 dX12_lays_3 rfl rfl ?_
      refine z_get (pc := 4) hX zc12 10 (by decide) wd1027 rfl rfl dX12_lays_4 (fun v5 => ?_)
      refine z_iload_n (pc := 7) hX 1 dX12_lays_7 rfl rfl ?_
      refine z_iald (pc := 8) hX dX12_lays_8 (fun v6 => ?_)
      refine z_icmp_ge (pc := 9) hX 35 dX12_lays_9 (by decide) (fun h7 => ?_) (fun h7 => ?_)
      · exact z_vret (pc := 35) hX hR hk dX12_lays_35
      · refine z_aload_n (pc := 12) hX 0 dX12_lays_12 rfl rfl ?_
        refine z_get (pc := 13) hX zc12 40 (by decide) wd1057 rfl rfl dX12_lays_13 (fun v8 => ?_)
        refine z_iload_n (pc := 16) hX 2 dX12_lays_16 rfl rfl ?_
        refine z_aload_n (pc := 17) hX 0 dX12_lays_17 rfl rfl ?_
        refine z_get (pc := 18) hX zc12 11 (by decide) wd1028 rfl rfl dX12_lays_18 (fun v9 => ?_)
        refine z_bipush (pc := 21) hX dX12_lays_21 ?_
        refine z_iload_n (pc := 23) hX 1 dX12_lays_23 rfl rfl ?_
        refine z_imul (pc := 24) hX dX12_lays_24 ?_
        refine z_iload_n (pc := 25) hX 2 dX12_lays_25 rfl rfl ?_
        refine z_iadd (pc := 26) hX dX12_lays_26 ?_
        refine z_iald (pc := 27) hX dX12_lays_27 (fun v10 => ?_)
        refine z_iastA (pc := 28) hX dX12_lays_28 (fun s11 => ?_)
        refine z_iinc (lv' := [(2, (0, (wrap (x4 + 1)))), (0, (2, u2)), (1, (0, u3))]) (pc := 29) hX 2 dX12_lays_29 rfl (zlt hxn rfl) rfl ?_
        refine z_goto (pc := 32) hX 2 dX12_lays_32 (by decide) ?_
        refine z_pick (lv' := [(0, (2, u2)), (1, (0, u3)), (2, (0, (wrap (x4 + 1))))]) [1, 2, 0] rfl ?_
        exact ih1 _ _
  refine z_pick (lv' := [(0, (2, a0)), (1, (0, a1)), (2, (0, 0))]) [1, 2, 0] rfl ?_
  refine hl2 _ _ 1000 _ _

theorem dX12_orderOf_0 : decode cX12_orderOf 0 = .ok (.iload_n 1, 1) := by decide +kernel
theorem dX12_orderOf_1 : decode cX12_orderOf 1 = .ok (.tableswitch 66 2 5 #[31, 33, 42, 50], 31) := by decide +kernel
theorem dX12_orderOf_32 : decode cX12_orderOf 32 = .ok (.iload_n 2, 1) := by decide +kernel
theorem dX12_orderOf_33 : decode cX12_orderOf 33 = .ok (.ireturn, 1) := by decide +kernel
theorem dX12_orderOf_34 : decode cX12_orderOf 34 = .ok (.iconst 5, 1) := by decide +kernel
theorem dX12_orderOf_35 : decode cX12_orderOf 35 = .ok (.iload_n 2, 1) := by decide +kernel
theorem dX12_orderOf_36 : decode cX12_orderOf 36 = .ok (.imul, 1) := by decide +kernel
theorem dX12_orderOf_37 : decode cX12_orderOf 37 = .ok (.iconst 3, 1) := by decide +kernel
theorem dX12_orderOf_38 : decode cX12_orderOf 38 = .ok (.iadd, 1) := by decide +kernel
theorem dX12_orderOf_39 : decode cX12_orderOf 39 = .ok (.bipush 17, 2) := by decide +kernel
theorem dX12_orderOf_41 : decode cX12_orderOf 41 = .ok (.irem, 1) := by decide +kernel
theorem dX12_orderOf_42 : decode cX12_orderOf 42 = .ok (.ireturn, 1) := by decide +kernel
theorem dX12_orderOf_43 : decode cX12_orderOf 43 = .ok (.aload_n 0, 1) := by decide +kernel
theorem dX12_orderOf_44 : decode cX12_orderOf 44 = .ok (.getfield 109, 3) := by decide +kernel
theorem dX12_orderOf_47 : decode cX12_orderOf 47 = .ok (.iload_n 2, 1) := by decide +kernel
theorem dX12_orderOf_48 : decode cX12_orderOf 48 = .ok (.iaload, 1) := by decide +kernel
theorem dX12_orderOf_49 : decode cX12_orderOf 49 = .ok (.ineg, 1) := by decide +kernel
theorem dX12_orderOf_50 : decode cX12_orderOf 50 = .ok (.ireturn, 1) := by decide +kernel
theorem dX12_orderOf_51 : decode cX12_orderOf 51 = .ok (.aload_n 0, 1) := by decide +kernel
theorem dX12_orderOf_52 : decode cX12_orderOf 52 = .ok (.getfield 109, 3) := by decide +kernel
theorem dX12_orderOf_55 : decode cX12_orderOf 55 = .ok (.iload_n 2, 1) := by decide +kernel
theorem dX12_orderOf_56 : decode cX12_orderOf 56 = .ok (.iaload, 1) := by decide +kernel
theorem dX12_orderOf_57 : decode cX12_orderOf 57 = .ok (.iconst 3, 1) := by decide +kernel
theorem dX12_orderOf_58 : decode cX12_orderOf 58 = .ok (.aload_n 0, 1) := by decide +kernel
theorem dX12_orderOf_59 : decode cX12_orderOf 59 = .ok (.getfield 25, 3) := by decide +kernel
theorem dX12_orderOf_62 : decode cX12_orderOf 62 = .ok (.iload_n 2, 1) := by decide +kernel
theorem dX12_orderOf_63 : decode cX12_orderOf 63 = .ok (.iaload, 1) := by decide +kernel
theorem dX12_orderOf_64 : decode cX12_orderOf 64 = .ok (.imul, 1) := by decide +kernel
theorem dX12_orderOf_65 : decode cX12_orderOf 65 = .ok (.isub, 1) := by decide +kernel
theorem dX12_orderOf_66 : decode cX12_orderOf 66 = .ok (.ireturn, 1) := by decide +kernel
theorem dX12_orderOf_67 : decode cX12_orderOf 67 = .ok (.aload_n 0, 1) := by decide +kernel
theorem dX12_orderOf_68 : decode cX12_orderOf 68 = .ok (.getfield 109, 3) := by decide +kernel
theorem dX12_orderOf_71 : decode cX12_orderOf 71 = .ok (.iload_n 2, 1) := by decide +kernel
theorem dX12_orderOf_72 : decode cX12_orderOf 72 = .ok (.iaload, 1) := by decide +kernel
theorem dX12_orderOf_73 : decode cX12_orderOf 73 = .ok (.ireturn, 1) := by decide +kernel
def fX12_orderOf (s0 : ZS) (a0 : Int) (a1 : Int) (a2 : Int) : Option (Int × ZS) := if a1 = 2 then (some (a2, s0)) else (if a1 = 3 then (if 17 = 0 then none else (some (((wrap ((wrap (5 * a2)) + 3)).tmod 17), s0))) else (if a1 = 4 then ((zg s0 12 a0 41).bind (fun v4 => (zal s0 100 v4 a2).bind (fun v5 => some ((wrap (-v5)), s0)))) else (if a1 = 5 then ((zg s0 12 a0 41).bind (fun v7 => (zal s0 100 v7 a2).bind (fun v8 => (zg s0 12 a0 7).bind (fun v9 => (zal s0 100 v9 a2).bind (fun v10 => some ((wrap (v8 - (wrap (3 * v10)))), s0)))))) else ((zg s0 12 a0 41).bind (fun v11 => (zal s0 100 v11 a2).bind (fun v12 => some (v12, s0)))))))
set_option maxHeartbeats 4000000 in
set_option maxRecDepth 100000 in
theorem mX12_orderOf (E : ZE) (hE : zOkE E) (l : Launch) (s0 : ZS) (a0 : Int) (a1 : Int) (a2 : Int) : Ct E l yX12_orderOf cX12_orderOf 3 (some .int) 2 [(2, a0), (0, a1), (0, a2)] 1 s0 (fX12_orderOf s0 a0 a1 a2) := by
  refine Ct.of (by decide) hE (Nat.le_of_ble_eq_true rfl) ?_
  intro X G hX hR hN hXE hXl hxn hk _
  subst hXE
  subst hXl
  have hX : G → ZOk X cX12_orderOf RX12 2 := hX
  clear hN
  show Zj X G 0 [(0, (2, a0)), (1, (0, a1)), (2, (0, a2))] [] s0 _
  unfold fX12_orderOf
  refine z_iload_n (pc := 0) hX 1 dX12_orderOf_0 rfl rfl ?_
  by_cases h1 : a1 = 2
  · refine z_eq (if_pos h1) ?_
    refine z_tswIn (pc := 1) hX 32 dX12_orderOf_1 h1 (by decide) (by decide) rfl (by decide) ?_
    refine z_iload_n (pc := 32) hX 2 dX12_orderOf_32 rfl rfl ?_
    exact z_iret (pc := 33) hX hR hk dX12_orderOf_33
  · refine z_eq (if_neg h1) ?_
    by_cases h2 : a1 = 3
    · refine z_eq (if_pos h2) ?_
      refine z_tswIn (pc := 1) hX 34 dX12_orderOf_1 h2 (by decide) (by decide) rfl (by decide) ?_
      refine z_iconst (pc := 34) hX dX12_orderOf_34 ?_
      refine z_iload_n (pc := 35) hX 2 dX12_orderOf_35 rfl rfl ?_
      refine z_imul (pc := 36) hX dX12_orderOf_36 ?_
      refine z_iconst (pc := 37) hX dX12_orderOf_37 ?_
      refine z_iadd (pc := 38) hX dX12_orderOf_38 ?_
      refine z_bipush (pc := 39) hX dX12_orderOf_39 ?_
      refine z_irem (pc := 41) hX dX12_orderOf_41 (fun _ => ?_)
      exact z_iret (pc := 42) hX hR hk dX12_orderOf_42
    · refine z_eq (if_neg h2) ?_
      by_cases h3 : a1 = 4
      · refine z_eq (if_pos h3) ?_
        refine z_tswIn (pc := 1) hX 43 dX12_orderOf_1 h3 (by decide) (by decide) rfl (by decide) ?_
        refine z_aload_n (pc := 43) hX 0 dX12_orderOf_43 rfl rfl ?_
        refine z_get (pc := 44) hX zc12 41 (by decide) wd1058 rfl rfl dX12_orderOf_44 (fun v4 => ?_)
        refine z_iload_n (pc := 47) hX 2 dX12_orderOf_47 rfl rfl ?_
        refine z_iald (pc := 48) hX dX12_orderOf_48 (fun v5 => ?_)
        refine z_ineg (pc := 49) hX dX12_orderOf_49 ?_
        exact z_iret (pc := 50) hX hR hk dX12_orderOf_50
      · refine z_eq (if_neg h3) ?_
        by_cases h6 : a1 = 5
        · refine z_eq (if_pos h6) ?_
          refine z_tswIn (pc := 1) hX 51 dX12_orderOf_1 h6 (by decide) (by decide) rfl (by decide) ?_
          refine z_aload_n (pc := 51) hX 0 dX12_orderOf_51 rfl rfl ?_
          refine z_get (pc := 52) hX zc12 41 (by decide) wd1058 rfl rfl dX12_orderOf_52 (fun v7 => ?_)
          refine z_iload_n (pc := 55) hX 2 dX12_orderOf_55 rfl rfl ?_
          refine z_iald (pc := 56) hX dX12_orderOf_56 (fun v8 => ?_)
          refine z_iconst (pc := 57) hX dX12_orderOf_57 ?_
          refine z_aload_n (pc := 58) hX 0 dX12_orderOf_58 rfl rfl ?_
          refine z_get (pc := 59) hX zc12 7 (by decide) wd1024 rfl rfl dX12_orderOf_59 (fun v9 => ?_)
          refine z_iload_n (pc := 62) hX 2 dX12_orderOf_62 rfl rfl ?_
          refine z_iald (pc := 63) hX dX12_orderOf_63 (fun v10 => ?_)
          refine z_imul (pc := 64) hX dX12_orderOf_64 ?_
          refine z_isub (pc := 65) hX dX12_orderOf_65 ?_
          exact z_iret (pc := 66) hX hR hk dX12_orderOf_66
        · refine z_eq (if_neg h6) ?_
          refine z_tswOut (pc := 1) hX 67 dX12_orderOf_1 (by omega) (by decide) ?_
          refine z_aload_n (pc := 67) hX 0 dX12_orderOf_67 rfl rfl ?_
          refine z_get (pc := 68) hX zc12 41 (by decide) wd1058 rfl rfl dX12_orderOf_68 (fun v11 => ?_)
          refine z_iload_n (pc := 71) hX 2 dX12_orderOf_71 rfl rfl ?_
          refine z_iald (pc := 72) hX dX12_orderOf_72 (fun v12 => ?_)
          exact z_iret (pc := 73) hX hR hk dX12_orderOf_73
