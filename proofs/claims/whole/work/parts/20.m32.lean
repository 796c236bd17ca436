theorem dX11_other_0 : decode cX11_other 0 = .ok (.aload_n 0, 1) := by decide +kernel
theorem dX11_other_1 : decode cX11_other 1 = .ok (.iload_n 1, 1) := by decide +kernel
theorem dX11_other_2 : decode cX11_other 2 = .ok (.invokevirtual 177, 3) := by decide +kernel
theorem dX11_other_5 : decode cX11_other 5 = .ok (.astore 4, 2) := by decide +kernel
theorem dX11_other_7 : decode cX11_other 7 = .ok (.aload 4, 2) := by decide +kernel
theorem dX11_other_9 : decode cX11_other 9 = .ok (.ifnull 21, 3) := by decide +kernel
theorem dX11_other_12 : decode cX11_other 12 = .ok (.aload 4, 2) := by decide +kernel
theorem dX11_other_14 : decode cX11_other 14 = .ok (.iload_n 2, 1) := by decide +kernel
theorem dX11_other_15 : decode cX11_other 15 = .ok (.invokevirtual 185, 3) := by decide +kernel
theorem dX11_other_18 : decode cX11_other 18 = .ok (.ifCond .eq 12, 3) := by decide +kernel
theorem dX11_other_21 : decode cX11_other 21 = .ok (.iload_n 3, 1) := by decide +kernel
theorem dX11_other_22 : decode cX11_other 22 = .ok (.bipush 48, 2) := by decide +kernel
theorem dX11_other_24 : decode cX11_other 24 = .ok (.invokestatic 102, 3) := by decide +kernel
theorem dX11_other_27 : decode cX11_other 27 = .ok (.ifCond .ne 7, 3) := by decide +kernel
theorem dX11_other_30 : decode cX11_other 30 = .ok (.sipush (-10000), 3) := by decide +kernel
theorem dX11_other_33 : decode cX11_other 33 = .ok (.ireturn, 1) := by decide +kernel
theorem dX11_other_34 : decode cX11_other 34 = .ok (.aload_n 0, 1) := by decide +kernel
theorem dX11_other_35 : decode cX11_other 35 = .ok (.getfield 10, 3) := by decide +kernel
theorem dX11_other_38 : decode cX11_other 38 = .ok (.aload 4, 2) := by decide +kernel
theorem dX11_other_40 : decode cX11_other 40 = .ok (.iload_n 2, 1) := by decide +kernel
theorem dX11_other_41 : decode cX11_other 41 = .ok (.invokevirtual 233, 3) := by decide +kernel
theorem dX11_other_44 : decode cX11_other 44 = .ok (.aload_n 0, 1) := by decide +kernel
theorem dX11_other_45 : decode cX11_other 45 = .ok (.getfield 10, 3) := by decide +kernel
theorem dX11_other_48 : decode cX11_other 48 = .ok (.aload 4, 2) := by decide +kernel
theorem dX11_other_50 : decode cX11_other 50 = .ok (.iload_n 2, 1) := by decide +kernel
theorem dX11_other_51 : decode cX11_other 51 = .ok (.iload_n 3, 1) := by decide +kernel
theorem dX11_other_52 : decode cX11_other 52 = .ok (.aload_n 0, 1) := by decide +kernel
theorem dX11_other_53 : decode cX11_other 53 = .ok (.getfield 40, 3) := by decide +kernel
theorem dX11_other_56 : decode cX11_other 56 = .ok (.aload_n 0, 1) := by decide +kernel
theorem dX11_other_57 : decode cX11_other 57 = .ok (.getfield 47, 3) := by decide +kernel
theorem dX11_other_60 : decode cX11_other 60 = .ok (.aaload, 1) := by decide +kernel
theorem dX11_other_61 : decode cX11_other 61 = .ok (.invokevirtual 237, 3) := by decide +kernel
theorem dX11_other_64 : decode cX11_other 64 = .ok (.ireturn, 1) := by decide +kernel
def fX11_other (s0 : ZS) (a0 : Int) (a1 : Int) (a2 : Int) (a3 : Int) : Option (Int × ZS) := zb (zv s0 11 a0 (fX11_wayAt s0 a0 a1)) (fun v1 s2 => if v1 < 0 then (some ((-10000), s2)) else (zb (zw s2 v1 (fX10_isFor s2 v1 a2) (fX10_isFor s2 v1 a2) (fX10_isFor s2 v1 a2) (fX10_isFor s2 v1 a2) (fX10_isFor s2 v1 a2) (fX10_isFor s2 v1 a2)) (fun v5 s6 => if v5 = 0 then (some ((-10000), s6)) else (zb (fX11_within s6 a3 48) (fun v10 s11 => if v10 = 0 then (some ((-10000), s11)) else ((zg s11 11 a0 0).bind (fun v14 => zb (zv s11 2 v14 (fX2_gather s11 v14 v1 a2)) (fun v15 s16 => (zg s16 11 a0 0).bind (fun v18 => (zg s16 11 a0 5).bind (fun v19 => (zg s16 11 a0 7).bind (fun v20 => (zal s16 104 v19 v20).bind (fun v21 => zb (zv s16 2 v18 (fX2_costIf s16 v18 v1 a2 a3 v21)) (fun v22 s23 => some (v22, s23))))))))))))))
set_option maxHeartbeats 4000000 in
set_option maxRecDepth 100000 in
theorem mX11_other (E : ZE) (hE : zOkE E) (l : Launch) (s0 : ZS) (a0 : Int) (a1 : Int) (a2 : Int) (a3 : Int) : Ct E l yX11_other cX11_other 5 (some .int) 10 [(2, a0), (0, a1), (0, a2), (0, a3)] 1 s0 (fX11_other s0 a0 a1 a2 a3) := by
  refine Ct.of (by decide) hE (Nat.le_of_ble_eq_true rfl) ?_
  intro X G hX hR hN hXE hXl hxn hk _
  subst hXE
  subst hXl
  have hX : G → ZOk X cX11_other RX11 10 := hX
  clear hN
  show Zj X G 0 [(0, (2, a0)), (1, (0, a1)), (2, (0, a2)), (3, (0, a3))] [] s0 _
  unfold fX11_other
  refine z_aload_n (pc := 0) hX 0 dX11_other_0 rfl rfl ?_
  refine z_iload_n (pc := 1) hX 1 dX11_other_1 rfl rfl ?_
  refine z_callV (n := 1) (st := []) (pc := 2) hX zc11 rfl (fun _ => (mX11_wayAt _ hE _ _ _ _)) ⟨wd681, wd61, wd684, ⟨by decide, by decide, by decide⟩, by decide⟩ rfl wd683 wd18 rfl rfl (by decide) (Nat.le_of_ble_eq_true rfl) dX11_other_2 (fun v1 s2 r3 => ?_)
  show Zj X G 5 [(0, (2, a0)), (1, (0, a1)), (2, (0, a2)), (3, (0, a3))] [(2, v1)] _ _
  refine z_astore (lv' := [(4, (2, v1)), (0, (2, a0)), (1, (0, a1)), (2, (0, a2)), (3, (0, a3))]) (pc := 5) hX dX11_other_5 (zlt hxn rfl) rfl ?_
  refine z_aload (pc := 7) hX 0 dX11_other_7 rfl ?_
  refine z_ifnull (pc := 9) hX 30 dX11_other_9 (by decide) (fun h4 => ?_) (fun h4 => ?_)
  · refine z_sipush (pc := 30) hX dX11_other_30 ?_
    exact z_iret (pc := 33) hX hR hk dX11_other_33
  · refine z_aload (pc := 12) hX 0 dX11_other_12 rfl ?_
    refine z_iload_n (pc := 14) hX 3 dX11_other_14 rfl rfl ?_
    refine z_kk (rk := 4) (st := []) (pc' := 18) (fun kk => z_zw (z_callV (n := 1) (pc := 15) (st := []) hX zc10 rfl (fun _ => (mX10_isFor _ hE _ _ _ _)) ⟨wd705, wd76, wd714, ⟨by decide, by decide, by decide⟩, by decide⟩ rfl wd706 wd707 rfl rfl (by decide) (Nat.le_of_ble_eq_true rfl) dX11_other_15 kk) (z_callU (n := 1) (pc := 15) (x := yX10_isFor) (owner := "GateRoad$Way") (st := []) hX zc9 rfl (fun _ => (mX10_isFor _ hE _ _ _ _)) wd705 wd708 wd706 wd713 wd706 wd76 wd714 wd714 ⟨by decide, by decide, by decide⟩ (by decide) rfl rfl (by decide) (Nat.le_of_ble_eq_true rfl) dX11_other_15 kk) (z_callU (n := 1) (pc := 15) (x := yX10_isFor) (owner := "GateRoad$Way") (st := []) hX zc3 rfl (fun _ => (mX10_isFor _ hE _ _ _ _)) wd705 wd708 wd706 wd711 wd706 wd76 wd714 wd714 ⟨by decide, by decide, by decide⟩ (by decide) rfl rfl (by decide) (Nat.le_of_ble_eq_true rfl) dX11_other_15 kk) (z_callU (n := 1) (pc := 15) (x := yX10_isFor) (owner := "GateRoad$Way") (st := []) hX zc0 rfl (fun _ => (mX10_isFor _ hE _ _ _ _)) wd705 wd708 wd706 wd709 wd706 wd76 wd714 wd714 ⟨by decide, by decide, by decide⟩ (by decide) rfl rfl (by decide) (Nat.le_of_ble_eq_true rfl) dX11_other_15 kk) (z_callU (n := 1) (pc := 15) (x := yX10_isFor) (owner := "GateRoad$Way") (st := []) hX zc1 rfl (fun _ => (mX10_isFor _ hE _ _ _ _)) wd705 wd708 wd706 wd710 wd706 wd76 wd714 wd714 ⟨by decide, by decide, by decide⟩ (by decide) rfl rfl (by decide) (Nat.le_of_ble_eq_true rfl) dX11_other_15 kk) (z_callU (n := 1) (pc := 15) (x := yX10_isFor) (owner := "GateRoad$Way") (st := []) hX zc7 rfl (fun _ => (mX10_isFor _ hE _ _ _ _)) wd705 wd708 wd706 wd712 wd706 wd76 wd714 wd714 ⟨by decide, by decide, by decide⟩ (by decide) rfl rfl (by decide) (Nat.le_of_ble_eq_true rfl) dX11_other_15 kk)) (fun v5 s6 r7 => ?_)
    show Zj X G 18 [(4, (2, v1)), (0, (2, a0)), (1, (0, a1)), (2, (0, a2)), (3, (0, a3))] [(0, v5)] _ _
    refine z_if_eq (pc := 18) hX 30 dX11_other_18 (by decide) (fun h9 => ?_) (fun h9 => ?_)
    · refine z_sipush (pc := 30) hX dX11_other_30 ?_
      exact z_iret (pc := 33) hX hR hk dX11_other_33
    · refine z_iload_n (pc := 21) hX 4 dX11_other_21 rfl rfl ?_
      refine z_bipush (pc := 22) hX dX11_other_22 ?_
      refine z_callS (n := 2) (st := []) (pc := 24) hX (mX11_within _ hE _ _ _ _) ⟨wd329, wd61, wd331, ⟨by decide, by decide, by decide⟩, by decide⟩ wd330 rfl rfl (by decide) (Nat.le_of_ble_eq_true rfl) dX11_other_24 (fun v10 s11 r12 => ?_)
      show Zj X G 27 [(4, (2, v1)), (0, (2, a0)), (1, (0, a1)), (2, (0, a2)), (3, (0, a3))] [(0, v10)] _ _
      refine z_if_ne (pc := 27) hX 34 dX11_other_27 (by decide) (fun h13 => ?_) (fun h13 => ?_)
      · refine z_aload_n (pc := 34) hX 1 dX11_other_34 rfl rfl ?_
        refine z_get (pc := 35) hX zc11 0 (by decide) wd270 rfl rfl dX11_other_35 (fun v14 => ?_)
        refine z_aload (pc := 38) hX 0 dX11_other_38 rfl ?_
        refine z_iload_n (pc := 40) hX 3 dX11_other_40 rfl rfl ?_
        refine z_callV (n := 2) (st := []) (pc := 41) hX zc2 rfl (fun _ => (mX2_gather _ hE _ _ _ _ _)) ⟨wd859, wd62, wd730, ⟨by decide, by decide, by decide⟩, by decide⟩ rfl wd728 wd729 rfl rfl (by decide) (Nat.le_of_ble_eq_true rfl) dX11_other_41 (fun v15 s16 r17 => ?_)
        show Zj X G 44 [(4, (2, v1)), (0, (2, a0)), (1, (0, a1)), (2, (0, a2)), (3, (0, a3))] [] _ _
        refine z_aload_n (pc := 44) hX 1 dX11_other_44 rfl rfl ?_
        refine z_get (pc := 45) hX zc11 0 (by decide) wd270 rfl rfl dX11_other_45 (fun v18 => ?_)
        refine z_aload (pc := 48) hX 0 dX11_other_48 rfl ?_
        refine z_iload_n (pc := 50) hX 3 dX11_other_50 rfl rfl ?_
        refine z_iload_n (pc := 51) hX 4 dX11_other_51 rfl rfl ?_
        refine z_aload_n (pc := 52) hX 1 dX11_other_52 rfl rfl ?_
        refine z_get (pc := 53) hX zc11 5 (by decide) wd275 rfl rfl dX11_other_53 (fun v19 => ?_)
        refine z_aload_n (pc := 56) hX 1 dX11_other_56 rfl rfl ?_
        refine z_get (pc := 57) hX zc11 7 (by decide) wd277 rfl rfl dX11_other_57 (fun v20 => ?_)
        refine z_aald (pc := 60) hX 4 104 (by decide) rfl rfl dX11_other_60 (fun v21 => ?_)
        refine z_callV (n := 4) (st := []) (pc := 61) hX zc2 rfl (fun _ => (mX2_costIf _ hE _ _ _ _ _ _ _)) ⟨wd860, wd62, wd863, ⟨by decide, by decide, by decide⟩, by decide⟩ rfl wd861 wd862 rfl rfl (by decide) (Nat.le_of_ble_eq_true rfl) dX11_other_61 (fun v22 s23 r24 => ?_)
        show Zj X G 64 [(4, (2, v1)), (0, (2, a0)), (1, (0, a1)), (2, (0, a2)), (3, (0, a3))] [(0, v22)] _ _
        exact z_iret (pc := 64) hX hR hk dX11_other_64
      · refine z_sipush (pc := 30) hX dX11_other_30 ?_
        exact z_iret (pc := 33) hX hR hk dX11_other_33

theorem dX12_other_0 : decode cX12_other 0 = .ok (.aload_n 0, 1) := by decide +kernel
theorem dX12_other_1 : decode cX12_other 1 = .ok (.iload_n 1, 1) := by decide +kernel
theorem dX12_other_2 : decode cX12_other 2 = .ok (.iload_n 2, 1) := by decide +kernel
theorem dX12_other_3 : decode cX12_other 3 = .ok (.invokevirtual 223, 3) := by decide +kernel
theorem dX12_other_6 : decode cX12_other 6 = .ok (.ifCond .eq 10, 3) := by decide +kernel
theorem dX12_other_9 : decode cX12_other 9 = .ok (.iload_n 3, 1) := by decide +kernel
theorem dX12_other_10 : decode cX12_other 10 = .ok (.invokestatic 220, 3) := by decide +kernel
theorem dX12_other_13 : decode cX12_other 13 = .ok (.ifCond .ne 7, 3) := by decide +kernel
theorem dX12_other_16 : decode cX12_other 16 = .ok (.sipush (-10000), 3) := by decide +kernel
theorem dX12_other_19 : decode cX12_other 19 = .ok (.ireturn, 1) := by decide +kernel
theorem dX12_other_20 : decode cX12_other 20 = .ok (.aload_n 0, 1) := by decide +kernel
theorem dX12_other_21 : decode cX12_other 21 = .ok (.iload_n 1, 1) := by decide +kernel
theorem dX12_other_22 : decode cX12_other 22 = .ok (.invokevirtual 251, 3) := by decide +kernel
theorem dX12_other_25 : decode cX12_other 25 = .ok (.aload_n 0, 1) := by decide +kernel
theorem dX12_other_26 : decode cX12_other 26 = .ok (.iload_n 1, 1) := by decide +kernel
theorem dX12_other_27 : decode cX12_other 27 = .ok (.iload_n 2, 1) := by decide +kernel
theorem dX12_other_28 : decode cX12_other 28 = .ok (.iload_n 3, 1) := by decide +kernel
theorem dX12_other_29 : decode cX12_other 29 = .ok (.invokevirtual 272, 3) := by decide +kernel
theorem dX12_other_32 : decode cX12_other 32 = .ok (.ireturn, 1) := by decide +kernel
def fX12_other (s0 : ZS) (a0 : Int) (a1 : Int) (a2 : Int) (a3 : Int) : Option (Int × ZS) := zb (zv s0 12 a0 (fX12_isOf s0 a0 a1 a2)) (fun v1 s2 => if v1 = 0 then (some ((-10000), s2)) else (zb (fX12_isChoice s2 a3) (fun v5 s6 => if v5 = 0 then (some ((-10000), s6)) else (zb (zv s6 12 a0 (fX12_lays s6 a0 a1)) (fun v9 s10 => zb (zv s10 12 a0 (fX12_costBy s10 a0 a1 a2 a3)) (fun v12 s13 => some (v12, s13)))))))
set_option maxHeartbeats 4000000 in
set_option maxRecDepth 100000 in
theorem mX12_other (E : ZE) (hE : zOkE E) (l : Launch) (s0 : ZS) (a0 : Int) (a1 : Int) (a2 : Int) (a3 : Int) : Ct E l yX12_other cX12_other 4 (some .int) 10 [(2, a0), (0, a1), (0, a2), (0, a3)] 1 s0 (fX12_other s0 a0 a1 a2 a3) := by
  refine Ct.of (by decide) hE (Nat.le_of_ble_eq_true rfl) ?_
  intro X G hX hR hN hXE hXl hxn hk _
  subst hXE
  subst hXl
  have hX : G → ZOk X cX12_other RX12 10 := hX
  clear hN
  show Zj X G 0 [(0, (2, a0)), (1, (0, a1)), (2, (0, a2)), (3, (0, a3))] [] s0 _
  unfold fX12_other
  refine z_aload_n (pc := 0) hX 0 dX12_other_0 rfl rfl ?_
  refine z_iload_n (pc := 1) hX 1 dX12_other_1 rfl rfl ?_
  refine z_iload_n (pc := 2) hX 2 dX12_other_2 rfl rfl ?_
  refine z_callV (n := 2) (st := []) (pc := 3) hX zc12 rfl (fun _ => (mX12_isOf _ hE _ _ _ _ _)) ⟨wd1272, wd67, wd1275, ⟨by decide, by decide, by decide⟩, by decide⟩ rfl wd1274 wd43 rfl rfl (by decide) (Nat.le_of_ble_eq_true rfl) dX12_other_3 (fun v1 s2 r3 => ?_)
  show Zj X G 6 [(0, (2, a0)), (1, (0, a1)), (2, (0, a2)), (3, (0, a3))] [(0, v1)] _ _
  refine z_if_eq (pc := 6) hX 16 dX12_other_6 (by decide) (fun h4 => ?_) (fun h4 => ?_)
  · refine z_sipush (pc := 16) hX dX12_other_16 ?_
    exact z_iret (pc := 19) hX hR hk dX12_other_19
  · refine z_iload_n (pc := 9) hX 3 dX12_other_9 rfl rfl ?_
    refine z_callS (n := 1) (st := []) (pc := 10) hX (mX12_isChoice _ hE _ _ _) ⟨wd1261, wd67, wd1263, ⟨by decide, by decide, by decide⟩, by decide⟩ wd1262 rfl rfl (by decide) (Nat.le_of_ble_eq_true rfl) dX12_other_10 (fun v5 s6 r7 => ?_)
    show Zj X G 13 [(0, (2, a0)), (1, (0, a1)), (2, (0, a2)), (3, (0, a3))] [(0, v5)] _ _
    refine z_if_ne (pc := 13) hX 20 dX12_other_13 (by decide) (fun h8 => ?_) (fun h8 => ?_)
    · refine z_aload_n (pc := 20) hX 0 dX12_other_20 rfl rfl ?_
      refine z_iload_n (pc := 21) hX 1 dX12_other_21 rfl rfl ?_
      refine z_callV (n := 1) (st := []) (pc := 22) hX zc12 rfl (fun _ => (mX12_lays _ hE _ _ _ _)) ⟨wd1284, wd67, wd1287, ⟨by decide, by decide, by decide⟩, by decide⟩ rfl wd1286 wd44 rfl rfl (by decide) (Nat.le_of_ble_eq_true rfl) dX12_other_22 (fun v9 s10 r11 => ?_)
      show Zj X G 25 [(0, (2, a0)), (1, (0, a1)), (2, (0, a2)), (3, (0, a3))] [] _ _
      refine z_aload_n (pc := 25) hX 0 dX12_other_25 rfl rfl ?_
      refine z_iload_n (pc := 26) hX 1 dX12_other_26 rfl rfl ?_
      refine z_iload_n (pc := 27) hX 2 dX12_other_27 rfl rfl ?_
      refine z_iload_n (pc := 28) hX 3 dX12_other_28 rfl rfl ?_
      refine z_callV (n := 3) (st := []) (pc := 29) hX zc12 rfl (fun _ => (mX12_costBy _ hE _ _ _ _ _ _)) ⟨wd1355, wd67, wd1358, ⟨by decide, by decide, by decide⟩, by decide⟩ rfl wd1357 wd56 rfl rfl (by decide) (Nat.le_of_ble_eq_true rfl) dX12_other_29 (fun v12 s13 r14 => ?_)
      show Zj X G 32 [(0, (2, a0)), (1, (0, a1)), (2, (0, a2)), (3, (0, a3))] [(0, v12)] _ _
      exact z_iret (pc := 32) hX hR hk dX12_other_32
    · refine z_sipush (pc := 16) hX dX12_other_16 ?_
      exact z_iret (pc := 19) hX hR hk dX12_other_19

theorem dX10_exchange_0 : decode cX10_exchange 0 = .ok (.aload_n 0, 1) := by decide +kernel
theorem dX10_exchange_1 : decode cX10_exchange 1 = .ok (.getfield 9, 3) := by decide +kernel
theorem dX10_exchange_4 : decode cX10_exchange 4 = .ok (.iload_n 1, 1) := by decide +kernel
theorem dX10_exchange_5 : decode cX10_exchange 5 = .ok (.iaload, 1) := by decide +kernel
theorem dX10_exchange_6 : decode cX10_exchange 6 = .ok (.istore_n 3, 1) := by decide +kernel
theorem dX10_exchange_7 : decode cX10_exchange 7 = .ok (.aload_n 0, 1) := by decide +kernel
theorem dX10_exchange_8 : decode cX10_exchange 8 = .ok (.getfield 9, 3) := by decide +kernel
theorem dX10_exchange_11 : decode cX10_exchange 11 = .ok (.iload_n 1, 1) := by decide +kernel
theorem dX10_exchange_12 : decode cX10_exchange 12 = .ok (.aload_n 0, 1) := by decide +kernel
theorem dX10_exchange_13 : decode cX10_exchange 13 = .ok (.getfield 9, 3) := by decide +kernel
theorem dX10_exchange_16 : decode cX10_exchange 16 = .ok (.iload_n 2, 1) := by decide +kernel
theorem dX10_exchange_17 : decode cX10_exchange 17 = .ok (.iaload, 1) := by decide +kernel
theorem dX10_exchange_18 : decode cX10_exchange 18 = .ok (.iastore, 1) := by decide +kernel
theorem dX10_exchange_19 : decode cX10_exchange 19 = .ok (.aload_n 0, 1) := by decide +kernel
theorem dX10_exchange_20 : decode cX10_exchange 20 = .ok (.getfield 9, 3) := by decide +kernel
theorem dX10_exchange_23 : decode cX10_exchange 23 = .ok (.iload_n 2, 1) := by decide +kernel
theorem dX10_exchange_24 : decode cX10_exchange 24 = .ok (.iload_n 3, 1) := by decide +kernel
theorem dX10_exchange_25 : decode cX10_exchange 25 = .ok (.iastore, 1) := by decide +kernel
theorem dX10_exchange_26 : decode cX10_exchange 26 = .ok (.return_, 1) := by decide +kernel
def fX10_exchange (s0 : ZS) (a0 : Int) (a1 : Int) (a2 : Int) : Option (Int × ZS) := (zgw s0 a0 1).bind (fun v1 => (zal s0 100 v1 a1).bind (fun v2 => (zgw s0 a0 1).bind (fun v3 => (zgw s0 a0 1).bind (fun v4 => (zal s0 100 v4 a2).bind (fun v5 => (zas s0 100 v3 a1 v5).bind (fun s6 => (zgw s6 a0 1).bind (fun v7 => (zas s6 100 v7 a2 v2).bind (fun s8 => some (0, s8)))))))))
set_option maxHeartbeats 4000000 in
set_option maxRecDepth 100000 in
theorem mX10_exchange (E : ZE) (hE : zOkE E) (l : Launch) (s0 : ZS) (a0 : Int) (a1 : Int) (a2 : Int) : Ct E l yX10_exchange cX10_exchange 4 none 2 [(2, a0), (0, a1), (0, a2)] 0 s0 (fX10_exchange s0 a0 a1 a2) := by
  refine Ct.of (by decide) hE (Nat.le_of_ble_eq_true rfl) ?_
  intro X G hX hR hN hXE hXl hxn hk _
  subst hXE
  subst hXl
  have hX : G → ZOk X cX10_exchange RX10 2 := hX
  clear hN
  show Zj X G 0 [(0, (2, a0)), (1, (0, a1)), (2, (0, a2))] [] s0 _
  unfold fX10_exchange
  refine z_aload_n (pc := 0) hX 0 dX10_exchange_0 rfl rfl ?_
  refine z_getw (pc := 1) hX zc10 zc9 zc3 zc0 zc1 zc7 1 (by decide) wd618 rfl rfl rfl rfl rfl rfl rfl rfl rfl rfl rfl rfl rfl dX10_exchange_1 (fun v1 => ?_)
  refine z_iload_n (pc := 4) hX 1 dX10_exchange_4 rfl rfl ?_
  refine z_iald (pc := 5) hX dX10_exchange_5 (fun v2 => ?_)
  refine z_istore_n (lv' := [(3, (0, v2)), (0, (2, a0)), (1, (0, a1)), (2, (0, a2))]) (pc := 6) hX dX10_exchange_6 rfl (zlt hxn rfl) rfl ?_
  refine z_aload_n (pc := 7) hX 1 dX10_exchange_7 rfl rfl ?_
  refine z_getw (pc := 8) hX zc10 zc9 zc3 zc0 zc1 zc7 1 (by decide) wd618 rfl rfl rfl rfl rfl rfl rfl rfl rfl rfl rfl rfl rfl dX10_exchange_8 (fun v3 => ?_)
  refine z_iload_n (pc := 11) hX 2 dX10_exchange_11 rfl rfl ?_
  refine z_aload_n (pc := 12) hX 1 dX10_exchange_12 rfl rfl ?_
  refine z_getw (pc := 13) hX zc10 zc9 zc3 zc0 zc1 zc7 1 (by decide) wd618 rfl rfl rfl rfl rfl rfl rfl rfl rfl rfl rfl rfl rfl dX10_exchange_13 (fun v4 => ?_)
  refine z_iload_n (pc := 16) hX 3 dX10_exchange_16 rfl rfl ?_
  refine z_iald (pc := 17) hX dX10_exchange_17 (fun v5 => ?_)
  refine z_iastA (pc := 18) hX dX10_exchange_18 (fun s6 => ?_)
  refine z_aload_n (pc := 19) hX 1 dX10_exchange_19 rfl rfl ?_
  refine z_getw (pc := 20) hX zc10 zc9 zc3 zc0 zc1 zc7 1 (by decide) wd618 rfl rfl rfl rfl rfl rfl rfl rfl rfl rfl rfl rfl rfl dX10_exchange_20 (fun v7 => ?_)
  refine z_iload_n (pc := 23) hX 3 dX10_exchange_23 rfl rfl ?_
  refine z_iload_n (pc := 24) hX 0 dX10_exchange_24 rfl rfl ?_
  refine z_iastA (pc := 25) hX dX10_exchange_25 (fun s8 => ?_)
  exact z_vret (pc := 26) hX hR hk dX10_exchange_26

theorem dX11_swap_0 : decode cX11_swap 0 = .ok (.aload_n 0, 1) := by decide +kernel
theorem dX11_swap_1 : decode cX11_swap 1 = .ok (.iload_n 1, 1) := by decide +kernel
theorem dX11_swap_2 : decode cX11_swap 2 = .ok (.invokevirtual 177, 3) := by decide +kernel
theorem dX11_swap_5 : decode cX11_swap 5 = .ok (.astore 4, 2) := by decide +kernel
theorem dX11_swap_7 : decode cX11_swap 7 = .ok (.aload 4, 2) := by decide +kernel
theorem dX11_swap_9 : decode cX11_swap 9 = .ok (.ifnull 21, 3) := by decide +kernel
theorem dX11_swap_12 : decode cX11_swap 12 = .ok (.aload 4, 2) := by decide +kernel
theorem dX11_swap_14 : decode cX11_swap 14 = .ok (.iload_n 2, 1) := by decide +kernel
theorem dX11_swap_15 : decode cX11_swap 15 = .ok (.invokevirtual 185, 3) := by decide +kernel
theorem dX11_swap_18 : decode cX11_swap 18 = .ok (.ifCond .eq 12, 3) := by decide +kernel
theorem dX11_swap_21 : decode cX11_swap 21 = .ok (.aload 4, 2) := by decide +kernel
theorem dX11_swap_23 : decode cX11_swap 23 = .ok (.iload_n 3, 1) := by decide +kernel
theorem dX11_swap_24 : decode cX11_swap 24 = .ok (.invokevirtual 185, 3) := by decide +kernel
theorem dX11_swap_27 : decode cX11_swap 27 = .ok (.ifCond .ne 6, 3) := by decide +kernel
theorem dX11_swap_30 : decode cX11_swap 30 = .ok (.bipush (-5), 2) := by decide +kernel
theorem dX11_swap_32 : decode cX11_swap 32 = .ok (.ireturn, 1) := by decide +kernel
theorem dX11_swap_33 : decode cX11_swap 33 = .ok (.iload_n 2, 1) := by decide +kernel
theorem dX11_swap_34 : decode cX11_swap 34 = .ok (.iload_n 3, 1) := by decide +kernel
theorem dX11_swap_35 : decode cX11_swap 35 = .ok (.if_icmp .ne 6, 3) := by decide +kernel
theorem dX11_swap_38 : decode cX11_swap 38 = .ok (.bipush (-7), 2) := by decide +kernel
theorem dX11_swap_40 : decode cX11_swap 40 = .ok (.ireturn, 1) := by decide +kernel
theorem dX11_swap_41 : decode cX11_swap 41 = .ok (.aload_n 0, 1) := by decide +kernel
theorem dX11_swap_42 : decode cX11_swap 42 = .ok (.getfield 40, 3) := by decide +kernel
theorem dX11_swap_45 : decode cX11_swap 45 = .ok (.aload_n 0, 1) := by decide +kernel
theorem dX11_swap_46 : decode cX11_swap 46 = .ok (.getfield 47, 3) := by decide +kernel
theorem dX11_swap_49 : decode cX11_swap 49 = .ok (.aaload, 1) := by decide +kernel
theorem dX11_swap_50 : decode cX11_swap 50 = .ok (.astore 5, 2) := by decide +kernel
theorem dX11_swap_52 : decode cX11_swap 52 = .ok (.aload_n 0, 1) := by decide +kernel
theorem dX11_swap_53 : decode cX11_swap 53 = .ok (.getfield 10, 3) := by decide +kernel
theorem dX11_swap_56 : decode cX11_swap 56 = .ok (.aload 4, 2) := by decide +kernel
theorem dX11_swap_58 : decode cX11_swap 58 = .ok (.invokevirtual 188, 3) := by decide +kernel
theorem dX11_swap_61 : decode cX11_swap 61 = .ok (.aload_n 0, 1) := by decide +kernel
theorem dX11_swap_62 : decode cX11_swap 62 = .ok (.getfield 10, 3) := by decide +kernel
theorem dX11_swap_65 : decode cX11_swap 65 = .ok (.aload 4, 2) := by decide +kernel
theorem dX11_swap_67 : decode cX11_swap 67 = .ok (.iload_n 2, 1) := by decide +kernel
theorem dX11_swap_68 : decode cX11_swap 68 = .ok (.aload 5, 2) := by decide +kernel
theorem dX11_swap_70 : decode cX11_swap 70 = .ok (.invokevirtual 198, 3) := by decide +kernel
theorem dX11_swap_73 : decode cX11_swap 73 = .ok (.istore 6, 2) := by decide +kernel
theorem dX11_swap_75 : decode cX11_swap 75 = .ok (.aload_n 0, 1) := by decide +kernel
theorem dX11_swap_76 : decode cX11_swap 76 = .ok (.getfield 10, 3) := by decide +kernel
theorem dX11_swap_79 : decode cX11_swap 79 = .ok (.aload 4, 2) := by decide +kernel
theorem dX11_swap_81 : decode cX11_swap 81 = .ok (.iload_n 3, 1) := by decide +kernel
theorem dX11_swap_82 : decode cX11_swap 82 = .ok (.aload 5, 2) := by decide +kernel
theorem dX11_swap_84 : decode cX11_swap 84 = .ok (.invokevirtual 198, 3) := by decide +kernel
theorem dX11_swap_87 : decode cX11_swap 87 = .ok (.istore 7, 2) := by decide +kernel
theorem dX11_swap_89 : decode cX11_swap 89 = .ok (.aload 4, 2) := by decide +kernel
theorem dX11_swap_91 : decode cX11_swap 91 = .ok (.iload_n 2, 1) := by decide +kernel
theorem dX11_swap_92 : decode cX11_swap 92 = .ok (.iload_n 3, 1) := by decide +kernel
theorem dX11_swap_93 : decode cX11_swap 93 = .ok (.invokevirtual 241, 3) := by decide +kernel
theorem dX11_swap_96 : decode cX11_swap 96 = .ok (.aload_n 0, 1) := by decide +kernel
theorem dX11_swap_97 : decode cX11_swap 97 = .ok (.getfield 10, 3) := by decide +kernel
theorem dX11_swap_100 : decode cX11_swap 100 = .ok (.aload 4, 2) := by decide +kernel
theorem dX11_swap_102 : decode cX11_swap 102 = .ok (.invokevirtual 188, 3) := by decide +kernel
theorem dX11_swap_105 : decode cX11_swap 105 = .ok (.aload_n 0, 1) := by decide +kernel
theorem dX11_swap_106 : decode cX11_swap 106 = .ok (.getfield 10, 3) := by decide +kernel
theorem dX11_swap_109 : decode cX11_swap 109 = .ok (.aload 4, 2) := by decide +kernel
theorem dX11_swap_111 : decode cX11_swap 111 = .ok (.iload_n 2, 1) := by decide +kernel
theorem dX11_swap_112 : decode cX11_swap 112 = .ok (.aload 5, 2) := by decide +kernel
theorem dX11_swap_114 : decode cX11_swap 114 = .ok (.invokevirtual 198, 3) := by decide +kernel
theorem dX11_swap_117 : decode cX11_swap 117 = .ok (.iload 6, 2) := by decide +kernel
theorem dX11_swap_119 : decode cX11_swap 119 = .ok (.if_icmp .ge 22, 3) := by decide +kernel
theorem dX11_swap_122 : decode cX11_swap 122 = .ok (.aload_n 0, 1) := by decide +kernel
theorem dX11_swap_123 : decode cX11_swap 123 = .ok (.getfield 10, 3) := by decide +kernel
theorem dX11_swap_126 : decode cX11_swap 126 = .ok (.aload 4, 2) := by decide +kernel
theorem dX11_swap_128 : decode cX11_swap 128 = .ok (.iload_n 3, 1) := by decide +kernel
theorem dX11_swap_129 : decode cX11_swap 129 = .ok (.aload 5, 2) := by decide +kernel
theorem dX11_swap_131 : decode cX11_swap 131 = .ok (.invokevirtual 198, 3) := by decide +kernel
theorem dX11_swap_134 : decode cX11_swap 134 = .ok (.iload 7, 2) := by decide +kernel
theorem dX11_swap_136 : decode cX11_swap 136 = .ok (.if_icmp .ge 5, 3) := by decide +kernel
theorem dX11_swap_139 : decode cX11_swap 139 = .ok (.iconst 1, 1) := by decide +kernel
theorem dX11_swap_140 : decode cX11_swap 140 = .ok (.ireturn, 1) := by decide +kernel
theorem dX11_swap_141 : decode cX11_swap 141 = .ok (.aload 4, 2) := by decide +kernel
theorem dX11_swap_143 : decode cX11_swap 143 = .ok (.iload_n 2, 1) := by decide +kernel
theorem dX11_swap_144 : decode cX11_swap 144 = .ok (.iload_n 3, 1) := by decide +kernel
theorem dX11_swap_145 : decode cX11_swap 145 = .ok (.invokevirtual 241, 3) := by decide +kernel
theorem dX11_swap_148 : decode cX11_swap 148 = .ok (.iconst 0, 1) := by decide +kernel
theorem dX11_swap_149 : decode cX11_swap 149 = .ok (.ireturn, 1) := by decide +kernel
def fX11_swap (s0 : ZS) (a0 : Int) (a1 : Int) (a2 : Int) (a3 : Int) : Option (Int × ZS) := zb (zv s0 11 a0 (fX11_wayAt s0 a0 a1)) (fun v1 s2 => if v1 < 0 then (some ((-5), s2)) else (zb (zw s2 v1 (fX10_isFor s2 v1 a2) (fX10_isFor s2 v1 a2) (fX10_isFor s2 v1 a2) (fX10_isFor s2 v1 a2) (fX10_isFor s2 v1 a2) (fX10_isFor s2 v1 a2)) (fun v5 s6 => if v5 = 0 then (some ((-5), s6)) else (zb (zw s6 v1 (fX10_isFor s6 v1 a3) (fX10_isFor s6 v1 a3) (fX10_isFor s6 v1 a3) (fX10_isFor s6 v1 a3) (fX10_isFor s6 v1 a3) (fX10_isFor s6 v1 a3)) (fun v10 s11 => if v10 = 0 then (some ((-5), s11)) else (if a2 = a3 then (some ((-7), s11)) else ((zg s11 11 a0 5).bind (fun v16 => (zg s11 11 a0 7).bind (fun v17 => (zal s11 104 v16 v17).bind (fun v18 => (zg s11 11 a0 0).bind (fun v19 => zb (zv s11 2 v19 (fX2_follow s11 v19 v1)) (fun v20 s21 => (zg s21 11 a0 0).bind (fun v23 => zb (zv s21 2 v23 (fX2_costOf s21 v23 v1 a2 v18)) (fun v24 s25 => (zg s25 11 a0 0).bind (fun v27 => zb (zv s25 2 v27 (fX2_costOf s25 v27 v1 a3 v18)) (fun v28 s29 => zb (zw s29 v1 (fX10_exchange s29 v1 a2 a3) (fX10_exchange s29 v1 a2 a3) (fX10_exchange s29 v1 a2 a3) (fX10_exchange s29 v1 a2 a3) (fX10_exchange s29 v1 a2 a3) (fX10_exchange s29 v1 a2 a3)) (fun v31 s32 => (zg s32 11 a0 0).bind (fun v35 => zb (zv s32 2 v35 (fX2_follow s32 v35 v1)) (fun v36 s37 => (zg s37 11 a0 0).bind (fun v39 => zb (zv s37 2 v39 (fX2_costOf s37 v39 v1 a2 v18)) (fun v40 s41 => zjn (fun (K141 : ZS → Option (Int × ZS)) => if v24 ≤ v40 then (K141 s41) else ((zg s41 11 a0 0).bind (fun v44 => zb (zv s41 2 v44 (fX2_costOf s41 v44 v1 a3 v18)) (fun v45 s46 => if v28 ≤ v45 then (K141 s46) else (some (1, s46)))))) (fun (s49 : ZS) => zb (zw s49 v1 (fX10_exchange s49 v1 a2 a3) (fX10_exchange s49 v1 a2 a3) (fX10_exchange s49 v1 a2 a3) (fX10_exchange s49 v1 a2 a3) (fX10_exchange s49 v1 a2 a3) (fX10_exchange s49 v1 a2 a3)) (fun v50 s51 => some (0, s51))))))))))))))))))))))))
set_option maxHeartbeats 4000000 in
set_option maxRecDepth 100000 in
theorem mX11_swap (E : ZE) (hE : zOkE E) (l : Launch) (s0 : ZS) (a0 : Int) (a1 : Int) (a2 : Int) (a3 : Int) : Ct E l yX11_swap cX11_swap 8 (some .int) 10 [(2, a0), (0, a1), (0, a2), (0, a3)] 1 s0 (fX11_swap s0 a0 a1 a2 a3) := by
  refine Ct.of (by decide) hE (Nat.le_of_ble_eq_true rfl) ?_
  intro X G hX hR hN hXE hXl hxn hk _
  subst hXE
  subst hXl
  have hX : G → ZOk X cX11_swap RX11 10 := hX
  clear hN
  show Zj X G 0 [(0, (2, a0)), (1, (0, a1)), (2, (0, a2)), (3, (0, a3))] [] s0 _
  unfold fX11_swap
  refine z_aload_n (pc := 0) hX 0 dX11_swap_0 rfl rfl ?_
  refine z_iload_n (pc := 1) hX 1 dX11_swap_1 rfl rfl ?_
  refine z_callV (n := 1) (st := []) (pc := 2) hX zc11 rfl (fun _ => (mX11_wayAt _ hE _ _ _ _)) ⟨wd681, wd61, wd684, ⟨by decide, by decide, by decide⟩, by decide⟩ rfl wd683 wd18 rfl rfl (by decide) (Nat.le_of_ble_eq_true rfl) dX11_swap_2 (fun v1 s2 r3 => ?_)
  show Zj X G 5 [(0, (2, a0)), (1, (0, a1)), (2, (0, a2)), (3, (0, a3))] [(2, v1)] _ _
  refine z_astore (lv' := [(4, (2, v1)), (0, (2, a0)), (1, (0, a1)), (2, (0, a2)), (3, (0, a3))]) (pc := 5) hX dX11_swap_5 (zlt hxn rfl) rfl ?_
  refine z_aload (pc := 7) hX 0 dX11_swap_7 rfl ?_
  refine z_ifnull (pc := 9) hX 30 dX11_swap_9 (by decide) (fun h4 => ?_) (fun h4 => ?_)
  · refine z_bipush (pc := 30) hX dX11_swap_30 ?_
    exact z_iret (pc := 32) hX hR hk dX11_swap_32
  · refine z_aload (pc := 12) hX 0 dX11_swap_12 rfl ?_
    refine z_iload_n (pc := 14) hX 3 dX11_swap_14 rfl rfl ?_
    refine z_kk (rk := 4) (st := []) (pc' := 18) (fun kk => z_zw (z_callV (n := 1) (pc := 15) (st := []) hX zc10 rfl (fun _ => (mX10_isFor _ hE _ _ _ _)) ⟨wd705, wd76, wd714, ⟨by decide, by decide, by decide⟩, by decide⟩ rfl wd706 wd707 rfl rfl (by decide) (Nat.le_of_ble_eq_true rfl) dX11_swap_15 kk) (z_callU (n := 1) (pc := 15) (x := yX10_isFor) (owner := "GateRoad$Way") (st := []) hX zc9 rfl (fun _ => (mX10_isFor _ hE _ _ _ _)) wd705 wd708 wd706 wd713 wd706 wd76 wd714 wd714 ⟨by decide, by decide, by decide⟩ (by decide) rfl rfl (by decide) (Nat.le_of_ble_eq_true rfl) dX11_swap_15 kk) (z_callU (n := 1) (pc := 15) (x := yX10_isFor) (owner := "GateRoad$Way") (st := []) hX zc3 rfl (fun _ => (mX10_isFor _ hE _ _ _ _)) wd705 wd708 wd706 wd711 wd706 wd76 wd714 wd714 ⟨by decide, by decide, by decide⟩ (by decide) rfl rfl (by decide) (Nat.le_of_ble_eq_true rfl) dX11_swap_15 kk) (z_callU (n := 1) (pc := 15) (x := yX10_isFor) (owner := "GateRoad$Way") (st := []) hX zc0 rfl (fun _ => (mX10_isFor _ hE _ _ _ _)) wd705 wd708 wd706 wd709 wd706 wd76 wd714 wd714 ⟨by decide, by decide, by decide⟩ (by decide) rfl rfl (by decide) (Nat.le_of_ble_eq_true rfl) dX11_swap_15 kk) (z_callU (n := 1) (pc := 15) (x := yX10_isFor) (owner := "GateRoad$Way") (st := []) hX zc1 rfl (fun _ => (mX10_isFor _ hE _ _ _ _)) wd705 wd708 wd706 wd710 wd706 wd76 wd714 wd714 ⟨by decide, by decide, by decide⟩ (by decide) rfl rfl (by decide) (Nat.le_of_ble_eq_true rfl) dX11_swap_15 kk) (z_callU (n := 1) (pc := 15) (x := yX10_isFor) (owner := "GateRoad$Way") (st := []) hX zc7 rfl (fun _ => (mX10_isFor _ hE _ _ _ _)) wd705 wd708 wd706 wd712 wd706 wd76 wd714 wd714 ⟨by decide, by decide, by decide⟩ (by decide) rfl rfl (by decide) (Nat.le_of_ble_eq_true rfl) dX11_swap_15 kk)) (fun v5 s6 r7 => ?_)
    show Zj X G 18 [(4, (2, v1)), (0, (2, a0)), (1, (0, a1)), (2, (0, a2)), (3, (0, a3))] [(0, v5)] _ _
    refine z_if_eq (pc := 18) hX 30 dX11_swap_18 (by decide) (fun h9 => ?_) (fun h9 => ?_)
    · refine z_bipush (pc := 30) hX dX11_swap_30 ?_
      exact z_iret (pc := 32) hX hR hk dX11_swap_32
    · refine z_aload (pc := 21) hX 0 dX11_swap_21 rfl ?_
      refine z_iload_n (pc := 23) hX 4 dX11_swap_23 rfl rfl ?_
      refine z_kk (rk := 4) (st := []) (pc' := 27) (fun kk => z_zw (z_callV (n := 1) (pc := 24) (st := []) hX zc10 rfl (fun _ => (mX10_isFor _ hE _ _ _ _)) ⟨wd705, wd76, wd714, ⟨by decide, by decide, by decide⟩, by decide⟩ rfl wd706 wd707 rfl rfl (by decide) (Nat.le_of_ble_eq_true rfl) dX11_swap_24 kk) (z_callU (n := 1) (pc := 24) (x := yX10_isFor) (owner := "GateRoad$Way") (st := []) hX zc9 rfl (fun _ => (mX10_isFor _ hE _ _ _ _)) wd705 wd708 wd706 wd713 wd706 wd76 wd714 wd714 ⟨by decide, by decide, by decide⟩ (by decide) rfl rfl (by decide) (Nat.le_of_ble_eq_true rfl) dX11_swap_24 kk) (z_callU (n := 1) (pc := 24) (x := yX10_isFor) (owner := "GateRoad$Way") (st := []) hX zc3 rfl (fun _ => (mX10_isFor _ hE _ _ _ _)) wd705 wd708 wd706 wd711 wd706 wd76 wd714 wd714 ⟨by decide, by decide, by decide⟩ (by decide) rfl rfl (by decide) (Nat.le_of_ble_eq_true rfl) dX11_swap_24 kk) (z_callU (n := 1) (pc := 24) (x := yX10_isFor) (owner := "GateRoad$Way") (st := []) hX zc0 rfl (fun _ => (mX10_isFor _ hE _ _ _ _)) wd705 wd708 wd706 wd709 wd706 wd76 wd714 wd714 ⟨by decide, by decide, by decide⟩ (by decide) rfl rfl (by decide) (Nat.le_of_ble_eq_true rfl) dX11_swap_24 kk) (z_callU (n := 1) (pc := 24) (x := yX10_isFor) (owner := "GateRoad$Way") (st := []) hX zc1 rfl (fun _ => (mX10_isFor _ hE _ _ _ _)) wd705 wd708 wd706 wd710 wd706 wd76 wd714 wd714 ⟨by decide, by decide, by decide⟩ (by decide) rfl rfl (by decide) (Nat.le_of_ble_eq_true rfl) dX11_swap_24 kk) (z_callU (n := 1) (pc := 24) (x := yX10_isFor) (owner := "GateRoad$Way") (st := []) hX zc7 rfl (fun _ => (mX10_isFor _ hE _ _ _ _)) wd705 wd708 wd706 wd712 wd706 wd76 wd714 wd714 ⟨by decide, by decide, by decide⟩ (by decide) rfl rfl (by decide) (Nat.le_of_ble_eq_true rfl) dX11_swap_24 kk)) (fun v10 s11 r12 => ?_)
      show Zj X G 27 [(4, (2, v1)), (0, (2, a0)), (1, (0, a1)), (2, (0, a2)), (3, (0, a3))] [(0, v10)] _ _
      refine z_if_ne (pc := 27) hX 33 dX11_swap_27 (by decide) (fun h14 => ?_) (fun h14 => ?_)
      · refine z_iload_n (pc := 33) hX 3 dX11_swap_33 rfl rfl ?_
        refine z_iload_n (pc := 34) hX 4 dX11_swap_34 rfl rfl ?_
        refine z_icmp_ne (pc := 35) hX 41 dX11_swap_35 (by decide) (fun h15 => ?_) (fun h15 => ?_)
        · refine z_aload_n (pc := 41) hX 1 dX11_swap_41 rfl rfl ?_
          refine z_get (pc := 42) hX zc11 5 (by decide) wd275 rfl rfl dX11_swap_42 (fun v16 => ?_)
          refine z_aload_n (pc := 45) hX 1 dX11_swap_45 rfl rfl ?_
          refine z_get (pc := 46) hX zc11 7 (by decide) wd277 rfl rfl dX11_swap_46 (fun v17 => ?_)
          refine z_aald (pc := 49) hX 4 104 (by decide) rfl rfl dX11_swap_49 (fun v18 => ?_)
          refine z_astore (lv' := [(5, (2, v18)), (4, (2, v1)), (0, (2, a0)), (1, (0, a1)), (2, (0, a2)), (3, (0, a3))]) (pc := 50) hX dX11_swap_50 (zlt hxn rfl) rfl ?_
          refine z_aload_n (pc := 52) hX 2 dX11_swap_52 rfl rfl ?_
          refine z_get (pc := 53) hX zc11 0 (by decide) wd270 rfl rfl dX11_swap_53 (fun v19 => ?_)
          refine z_aload (pc := 56) hX 1 dX11_swap_56 rfl ?_
          refine z_callV (n := 1) (st := []) (pc := 58) hX zc2 rfl (fun _ => (mX2_follow _ hE _ _ _ _)) ⟨wd723, wd62, wd726, ⟨by decide, by decide, by decide⟩, by decide⟩ rfl wd724 wd725 rfl rfl (by decide) (Nat.le_of_ble_eq_true rfl) dX11_swap_58 (fun v20 s21 r22 => ?_)
          show Zj X G 61 [(5, (2, v18)), (4, (2, v1)), (0, (2, a0)), (1, (0, a1)), (2, (0, a2)), (3, (0, a3))] [] _ _
          refine z_aload_n (pc := 61) hX 2 dX11_swap_61 rfl rfl ?_
          refine z_get (pc := 62) hX zc11 0 (by decide) wd270 rfl rfl dX11_swap_62 (fun v23 => ?_)
          refine z_aload (pc := 65) hX 1 dX11_swap_65 rfl ?_
          refine z_iload_n (pc := 67) hX 4 dX11_swap_67 rfl rfl ?_
          refine z_aload (pc := 68) hX 0 dX11_swap_68 rfl ?_
          refine z_callV (n := 3) (st := []) (pc := 70) hX zc2 rfl (fun _ => (mX2_costOf _ hE _ _ _ _ _ _)) ⟨wd772, wd62, wd775, ⟨by decide, by decide, by decide⟩, by decide⟩ rfl wd773 wd774 rfl rfl (by decide) (Nat.le_of_ble_eq_true rfl) dX11_swap_70 (fun v24 s25 r26 => ?_)
          show Zj X G 73 [(5, (2, v18)), (4, (2, v1)), (0, (2, a0)), (1, (0, a1)), (2, (0, a2)), (3, (0, a3))] [(0, v24)] _ _
          refine z_istore (lv' := [(6, (0, v24)), (5, (2, v18)), (4, (2, v1)), (0, (2, a0)), (1, (0, a1)), (2, (0, a2)), (3, (0, a3))]) (pc := 73) hX dX11_swap_73 (zlt hxn rfl) rfl ?_
          refine z_aload_n (pc := 75) hX 3 dX11_swap_75 rfl rfl ?_
          refine z_get (pc := 76) hX zc11 0 (by decide) wd270 rfl rfl dX11_swap_76 (fun v27 => ?_)
          refine z_aload (pc := 79) hX 2 dX11_swap_79 rfl ?_
          refine z_iload_n (pc := 81) hX 6 dX11_swap_81 rfl rfl ?_
          refine z_aload (pc := 82) hX 1 dX11_swap_82 rfl ?_
          refine z_callV (n := 3) (st := []) (pc := 84) hX zc2 rfl (fun _ => (mX2_costOf _ hE _ _ _ _ _ _)) ⟨wd772, wd62, wd775, ⟨by decide, by decide, by decide⟩, by decide⟩ rfl wd773 wd774 rfl rfl (by decide) (Nat.le_of_ble_eq_true rfl) dX11_swap_84 (fun v28 s29 r30 => ?_)
          show Zj X G 87 [(6, (0, v24)), (5, (2, v18)), (4, (2, v1)), (0, (2, a0)), (1, (0, a1)), (2, (0, a2)), (3, (0, a3))] [(0, v28)] _ _
          refine z_istore (lv' := [(7, (0, v28)), (6, (0, v24)), (5, (2, v18)), (4, (2, v1)), (0, (2, a0)), (1, (0, a1)), (2, (0, a2)), (3, (0, a3))]) (pc := 87) hX dX11_swap_87 (zlt hxn rfl) rfl ?_
          refine z_aload (pc := 89) hX 3 dX11_swap_89 rfl ?_
          refine z_iload_n (pc := 91) hX 6 dX11_swap_91 rfl rfl ?_
          refine z_iload_n (pc := 92) hX 7 dX11_swap_92 rfl rfl ?_
          refine z_kk (rk := 0) (st := []) (pc' := 96) (fun kk => z_zw (z_callV (n := 2) (pc := 93) (st := []) hX zc10 rfl (fun _ => (mX10_exchange _ hE _ _ _ _ _)) ⟨wd888, wd76, wd897, ⟨by decide, by decide, by decide⟩, by decide⟩ rfl wd889 wd890 rfl rfl (by decide) (Nat.le_of_ble_eq_true rfl) dX11_swap_93 kk) (z_callU (n := 2) (pc := 93) (x := yX10_exchange) (owner := "GateRoad$Way") (st := []) hX zc9 rfl (fun _ => (mX10_exchange _ hE _ _ _ _ _)) wd888 wd891 wd889 wd896 wd889 wd76 wd897 wd897 ⟨by decide, by decide, by decide⟩ (by decide) rfl rfl (by decide) (Nat.le_of_ble_eq_true rfl) dX11_swap_93 kk) (z_callU (n := 2) (pc := 93) (x := yX10_exchange) (owner := "GateRoad$Way") (st := []) hX zc3 rfl (fun _ => (mX10_exchange _ hE _ _ _ _ _)) wd888 wd891 wd889 wd894 wd889 wd76 wd897 wd897 ⟨by decide, by decide, by decide⟩ (by decide) rfl rfl (by decide) (Nat.le_of_ble_eq_true rfl) dX11_swap_93 kk) (z_callU (n := 2) (pc := 93) (x := yX10_exchange) (owner := "GateRoad$Way") (st := []) hX zc0 rfl (fun _ => (mX10_exchange _ hE _ _ _ _ _)) wd888 wd891 wd889 wd892 wd889 wd76 wd897 wd897 ⟨by decide, by decide, by decide⟩ (by decide) rfl rfl (by decide) (Nat.le_of_ble_eq_true rfl) dX11_swap_93 kk) (z_callU (n := 2) (pc := 93) (x := yX10_exchange) (owner := "GateRoad$Way") (st := []) hX zc1 rfl (fun _ => (mX10_exchange _ hE _ _ _ _ _)) wd888 wd891 wd889 wd893 wd889 wd76 wd897 wd897 ⟨by decide, by decide, by decide⟩ (by decide) rfl rfl (by decide) (Nat.le_of_ble_eq_true rfl) dX11_swap_93 kk) (z_callU (n := 2) (pc := 93) (x := yX10_exchange) (owner := "GateRoad$Way") (st := []) hX zc7 rfl (fun _ => (mX10_exchange _ hE _ _ _ _ _)) wd888 wd891 wd889 wd895 wd889 wd76 wd897 wd897 ⟨by decide, by decide, by decide⟩ (by decide) rfl rfl (by decide) (Nat.le_of_ble_eq_true rfl) dX11_swap_93 kk)) (fun v31 s32 r33 => ?_)
          show Zj X G 96 [(7, (0, v28)), (6, (0, v24)), (5, (2, v18)), (4, (2, v1)), (0, (2, a0)), (1, (0, a1)), (2, (0, a2)), (3, (0, a3))] [] _ _
          refine z_aload_n (pc := 96) hX 4 dX11_swap_96 rfl rfl ?_
          refine z_get (pc := 97) hX zc11 0 (by decide) wd270 rfl rfl dX11_swap_97 (fun v35 => ?_)
          refine z_aload (pc := 100) hX 3 dX11_swap_100 rfl ?_
          refine z_callV (n := 1) (st := []) (pc := 102) hX zc2 rfl (fun _ => (mX2_follow _ hE _ _ _ _)) ⟨wd723, wd62, wd726, ⟨by decide, by decide, by decide⟩, by decide⟩ rfl wd724 wd725 rfl rfl (by decide) (Nat.le_of_ble_eq_true rfl) dX11_swap_102 (fun v36 s37 r38 => ?_)
          show Zj X G 105 [(7, (0, v28)), (6, (0, v24)), (5, (2, v18)), (4, (2, v1)), (0, (2, a0)), (1, (0, a1)), (2, (0, a2)), (3, (0, a3))] [] _ _
          refine z_aload_n (pc := 105) hX 4 dX11_swap_105 rfl rfl ?_
          refine z_get (pc := 106) hX zc11 0 (by decide) wd270 rfl rfl dX11_swap_106 (fun v39 => ?_)
          refine z_aload (pc := 109) hX 3 dX11_swap_109 rfl ?_
          refine z_iload_n (pc := 111) hX 6 dX11_swap_111 rfl rfl ?_
          refine z_aload (pc := 112) hX 2 dX11_swap_112 rfl ?_
          refine z_callV (n := 3) (st := []) (pc := 114) hX zc2 rfl (fun _ => (mX2_costOf _ hE _ _ _ _ _ _)) ⟨wd772, wd62, wd775, ⟨by decide, by decide, by decide⟩, by decide⟩ rfl wd773 wd774 rfl rfl (by decide) (Nat.le_of_ble_eq_true rfl) dX11_swap_114 (fun v40 s41 r42 => ?_)
          show Zj X G 117 [(7, (0, v28)), (6, (0, v24)), (5, (2, v18)), (4, (2, v1)), (0, (2, a0)), (1, (0, a1)), (2, (0, a2)), (3, (0, a3))] [(0, v40)] _ _
          refine z_iload (pc := 117) hX 1 dX11_swap_117 rfl ?_
          refine z_jn (fun K141 eK141 => ?_)
          have hK141 : ∀ (s49 : ZS), Zj X G 141 [(2, (0, a2)), (3, (0, a3)), (4, (2, v1))] [] s49 (K141 s49) := by
            intro s49
            rw [eK141]
            refine z_aload (pc := 141) hX 2 dX11_swap_141 rfl ?_
            refine z_iload_n (pc := 143) hX 0 dX11_swap_143 rfl rfl ?_
            refine z_iload_n (pc := 144) hX 1 dX11_swap_144 rfl rfl ?_
            refine z_kk (rk := 0) (st := []) (pc' := 148) (fun kk => z_zw (z_callV (n := 2) (pc := 145) (st := []) hX zc10 rfl (fun _ => (mX10_exchange _ hE _ _ _ _ _)) ⟨wd888, wd76, wd897, ⟨by decide, by decide, by decide⟩, by decide⟩ rfl wd889 wd890 rfl rfl (by decide) (Nat.le_of_ble_eq_true rfl) dX11_swap_145 kk) (z_callU (n := 2) (pc := 145) (x := yX10_exchange) (owner := "GateRoad$Way") (st := []) hX zc9 rfl (fun _ => (mX10_exchange _ hE _ _ _ _ _)) wd888 wd891 wd889 wd896 wd889 wd76 wd897 wd897 ⟨by decide, by decide, by decide⟩ (by decide) rfl rfl (by decide) (Nat.le_of_ble_eq_true rfl) dX11_swap_145 kk) (z_callU (n := 2) (pc := 145) (x := yX10_exchange) (owner := "GateRoad$Way") (st := []) hX zc3 rfl (fun _ => (mX10_exchange _ hE _ _ _ _ _)) wd888 wd891 wd889 wd894 wd889 wd76 wd897 wd897 ⟨by decide, by decide, by decide⟩ (by decide) rfl rfl (by decide) (Nat.le_of_ble_eq_true rfl) dX11_swap_145 kk) (z_callU (n := 2) (pc := 145) (x := yX10_exchange) (owner := "GateRoad$Way") (st := []) hX zc0 rfl (fun _ => (mX10_exchange _ hE _ _ _ _ _)) wd888 wd891 wd889 wd892 wd889 wd76 wd897 wd897 ⟨by decide, by decide, by decide⟩ (by decide) rfl rfl (by decide) (Nat.le_of_ble_eq_true rfl) dX11_swap_145 kk) (z_callU (n := 2) (pc := 145) (x := yX10_exchange) (owner := "GateRoad$Way") (st := []) hX zc1 rfl (fun _ => (mX10_exchange _ hE _ _ _ _ _)) wd888 wd891 wd889 wd893 wd889 wd76 wd897 wd897 ⟨by decide, by decide, by decide⟩ (by decide) rfl rfl (by decide) (Nat.le_of_ble_eq_true rfl) dX11_swap_145 kk) (z_callU (n := 2) (pc := 145) (x := yX10_exchange) (owner := "GateRoad$Way") (st := []) hX zc7 rfl (fun _ => (mX10_exchange _ hE _ _ _ _ _)) wd888 wd891 wd889 wd895 wd889 wd76 wd897 wd897 ⟨by decide, by decide, by decide⟩ (by decide) rfl rfl (by decide) (Nat.le_of_ble_eq_true rfl) dX11_swap_145 kk)) (fun v50 s51 r52 => ?_)
            show Zj X G 148 [(2, (0, a2)), (3, (0, a3)), (4, (2, v1))] [] _ _
            refine z_iconst (pc := 148) hX dX11_swap_148 ?_
            exact z_iret (pc := 149) hX hR hk dX11_swap_149
          clear eK141
          refine z_icmp_ge (pc := 119) hX 141 dX11_swap_119 (by decide) (fun h43 => ?_) (fun h43 => ?_)
          · refine z_pick (lv' := [(2, (0, a2)), (3, (0, a3)), (4, (2, v1))]) [6, 7, 3] rfl ?_
            exact hK141 _
          · refine z_aload_n (pc := 122) hX 4 dX11_swap_122 rfl rfl ?_
            refine z_get (pc := 123) hX zc11 0 (by decide) wd270 rfl rfl dX11_swap_123 (fun v44 => ?_)
            refine z_aload (pc := 126) hX 3 dX11_swap_126 rfl ?_
            refine z_iload_n (pc := 128) hX 7 dX11_swap_128 rfl rfl ?_
            refine z_aload (pc := 129) hX 2 dX11_swap_129 rfl ?_
            refine z_callV (n := 3) (st := []) (pc := 131) hX zc2 rfl (fun _ => (mX2_costOf _ hE _ _ _ _ _ _)) ⟨wd772, wd62, wd775, ⟨by decide, by decide, by decide⟩, by decide⟩ rfl wd773 wd774 rfl rfl (by decide) (Nat.le_of_ble_eq_true rfl) dX11_swap_131 (fun v45 s46 r47 => ?_)
            show Zj X G 134 [(7, (0, v28)), (6, (0, v24)), (5, (2, v18)), (4, (2, v1)), (0, (2, a0)), (1, (0, a1)), (2, (0, a2)), (3, (0, a3))] [(0, v45)] _ _
            refine z_iload (pc := 134) hX 0 dX11_swap_134 rfl ?_
            refine z_icmp_ge (pc := 136) hX 141 dX11_swap_136 (by decide) (fun h48 => ?_) (fun h48 => ?_)
            · refine z_pick (lv' := [(2, (0, a2)), (3, (0, a3)), (4, (2, v1))]) [6, 7, 3] rfl ?_
              exact hK141 _
            · refine z_iconst (pc := 139) hX dX11_swap_139 ?_
              exact z_iret (pc := 140) hX hR hk dX11_swap_140
        · refine z_bipush (pc := 38) hX dX11_swap_38 ?_
          exact z_iret (pc := 40) hX hR hk dX11_swap_40
      · refine z_bipush (pc := 30) hX dX11_swap_30 ?_
        exact z_iret (pc := 32) hX hR hk dX11_swap_32
