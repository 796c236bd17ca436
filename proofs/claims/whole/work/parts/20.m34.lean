theorem dX12_costWith_0 : decode cX12_costWith 0 = .ok (.aload_n 0, 1) := by decide +kernel
theorem dX12_costWith_1 : decode cX12_costWith 1 = .ok (.getfield 7, 3) := by decide +kernel
theorem dX12_costWith_4 : decode cX12_costWith 4 = .ok (.bipush 24, 2) := by decide +kernel
theorem dX12_costWith_6 : decode cX12_costWith 6 = .ok (.iload_n 2, 1) := by decide +kernel
theorem dX12_costWith_7 : decode cX12_costWith 7 = .ok (.imul, 1) := by decide +kernel
theorem dX12_costWith_8 : decode cX12_costWith 8 = .ok (.iload_n 3, 1) := by decide +kernel
theorem dX12_costWith_9 : decode cX12_costWith 9 = .ok (.iadd, 1) := by decide +kernel
theorem dX12_costWith_10 : decode cX12_costWith 10 = .ok (.iaload, 1) := by decide +kernel
theorem dX12_costWith_11 : decode cX12_costWith 11 = .ok (.istore 5, 2) := by decide +kernel
theorem dX12_costWith_13 : decode cX12_costWith 13 = .ok (.aload_n 0, 1) := by decide +kernel
theorem dX12_costWith_14 : decode cX12_costWith 14 = .ok (.getfield 7, 3) := by decide +kernel
theorem dX12_costWith_17 : decode cX12_costWith 17 = .ok (.bipush 24, 2) := by decide +kernel
theorem dX12_costWith_19 : decode cX12_costWith 19 = .ok (.iload_n 2, 1) := by decide +kernel
theorem dX12_costWith_20 : decode cX12_costWith 20 = .ok (.imul, 1) := by decide +kernel
theorem dX12_costWith_21 : decode cX12_costWith 21 = .ok (.iload_n 3, 1) := by decide +kernel
theorem dX12_costWith_22 : decode cX12_costWith 22 = .ok (.iadd, 1) := by decide +kernel
theorem dX12_costWith_23 : decode cX12_costWith 23 = .ok (.iload 4, 2) := by decide +kernel
theorem dX12_costWith_25 : decode cX12_costWith 25 = .ok (.iastore, 1) := by decide +kernel
theorem dX12_costWith_26 : decode cX12_costWith 26 = .ok (.aload_n 0, 1) := by decide +kernel
theorem dX12_costWith_27 : decode cX12_costWith 27 = .ok (.iload_n 1, 1) := by decide +kernel
theorem dX12_costWith_28 : decode cX12_costWith 28 = .ok (.invokevirtual 266, 3) := by decide +kernel
theorem dX12_costWith_31 : decode cX12_costWith 31 = .ok (.lstore 6, 2) := by decide +kernel
theorem dX12_costWith_33 : decode cX12_costWith 33 = .ok (.aload_n 0, 1) := by decide +kernel
theorem dX12_costWith_34 : decode cX12_costWith 34 = .ok (.getfield 7, 3) := by decide +kernel
theorem dX12_costWith_37 : decode cX12_costWith 37 = .ok (.bipush 24, 2) := by decide +kernel
theorem dX12_costWith_39 : decode cX12_costWith 39 = .ok (.iload_n 2, 1) := by decide +kernel
theorem dX12_costWith_40 : decode cX12_costWith 40 = .ok (.imul, 1) := by decide +kernel
theorem dX12_costWith_41 : decode cX12_costWith 41 = .ok (.iload_n 3, 1) := by decide +kernel
theorem dX12_costWith_42 : decode cX12_costWith 42 = .ok (.iadd, 1) := by decide +kernel
theorem dX12_costWith_43 : decode cX12_costWith 43 = .ok (.iload 5, 2) := by decide +kernel
theorem dX12_costWith_45 : decode cX12_costWith 45 = .ok (.iastore, 1) := by decide +kernel
theorem dX12_costWith_46 : decode cX12_costWith 46 = .ok (.lload 6, 2) := by decide +kernel
theorem dX12_costWith_48 : decode cX12_costWith 48 = .ok (.lreturn, 1) := by decide +kernel
def fX12_costWith (s0 : ZS) (a0 : Int) (a1 : Int) (a2 : Int) (a3 : Int) (a4 : Int) : Option (Int × ZS) := (zg s0 12 a0 0).bind (fun v1 => (zal s0 100 v1 (wrap ((wrap (24 * a2)) + a3))).bind (fun v2 => (zg s0 12 a0 0).bind (fun v3 => (zas s0 100 v3 (wrap ((wrap (24 * a2)) + a3)) a4).bind (fun s4 => zb (zv s4 12 a0 (fX12_costNow s4 a0 a1)) (fun v5 s6 => (zg s6 12 a0 0).bind (fun v8 => (zas s6 100 v8 (wrap ((wrap (24 * a2)) + a3)) v2).bind (fun s9 => some (v5, s9))))))))
set_option maxHeartbeats 4000000 in
set_option maxRecDepth 100000 in
theorem mX12_costWith (E : ZE) (hE : zOkE E) (l : Launch) (s0 : ZS) (a0 : Int) (a1 : Int) (a2 : Int) (a3 : Int) (a4 : Int) : Ct E l yX12_costWith cX12_costWith 8 (some .long) 12 [(2, a0), (0, a1), (0, a2), (0, a3), (0, a4)] 2 s0 (fX12_costWith s0 a0 a1 a2 a3 a4) := by
  refine Ct.of (by decide) hE (Nat.le_of_ble_eq_true rfl) ?_
  intro X G hX hR hN hXE hXl hxn hk _
  subst hXE
  subst hXl
  have hX : G → ZOk X cX12_costWith RX12 12 := hX
  clear hN
  show Zj X G 0 [(0, (2, a0)), (1, (0, a1)), (2, (0, a2)), (3, (0, a3)), (4, (0, a4))] [] s0 _
  unfold fX12_costWith
  refine z_aload_n (pc := 0) hX 0 dX12_costWith_0 rfl rfl ?_
  refine z_get (pc := 1) hX zc12 0 (by decide) wd1017 rfl rfl dX12_costWith_1 (fun v1 => ?_)
  refine z_bipush (pc := 4) hX dX12_costWith_4 ?_
  refine z_iload_n (pc := 6) hX 2 dX12_costWith_6 rfl rfl ?_
  refine z_imul (pc := 7) hX dX12_costWith_7 ?_
  refine z_iload_n (pc := 8) hX 3 dX12_costWith_8 rfl rfl ?_
  refine z_iadd (pc := 9) hX dX12_costWith_9 ?_
  refine z_iald (pc := 10) hX dX12_costWith_10 (fun v2 => ?_)
  refine z_istore (lv' := [(5, (0, v2)), (0, (2, a0)), (1, (0, a1)), (2, (0, a2)), (3, (0, a3)), (4, (0, a4))]) (pc := 11) hX dX12_costWith_11 (zlt hxn rfl) rfl ?_
  refine z_aload_n (pc := 13) hX 1 dX12_costWith_13 rfl rfl ?_
  refine z_get (pc := 14) hX zc12 0 (by decide) wd1017 rfl rfl dX12_costWith_14 (fun v3 => ?_)
  refine z_bipush (pc := 17) hX dX12_costWith_17 ?_
  refine z_iload_n (pc := 19) hX 3 dX12_costWith_19 rfl rfl ?_
  refine z_imul (pc := 20) hX dX12_costWith_20 ?_
  refine z_iload_n (pc := 21) hX 4 dX12_costWith_21 rfl rfl ?_
  refine z_iadd (pc := 22) hX dX12_costWith_22 ?_
  refine z_iload (pc := 23) hX 5 dX12_costWith_23 rfl ?_
  refine z_iastA (pc := 25) hX dX12_costWith_25 (fun s4 => ?_)
  refine z_aload_n (pc := 26) hX 1 dX12_costWith_26 rfl rfl ?_
  refine z_iload_n (pc := 27) hX 2 dX12_costWith_27 rfl rfl ?_
  refine z_callV (n := 1) (st := []) (pc := 28) hX zc12 rfl (fun _ => (mX12_costNow _ hE _ _ _ _)) ⟨wd1339, wd67, wd1342, ⟨by decide, by decide, by decide⟩, by decide⟩ rfl wd1341 wd53 rfl rfl (by decide) (Nat.le_of_ble_eq_true rfl) dX12_costWith_28 (fun v5 s6 r7 => ?_)
  show Zj X G 31 [(5, (0, v2)), (0, (2, a0)), (1, (0, a1)), (2, (0, a2)), (3, (0, a3)), (4, (0, a4))] [(1, v5)] _ _
  refine z_lstore (lv' := [(6, (1, v5)), (5, (0, v2)), (0, (2, a0)), (1, (0, a1)), (2, (0, a2)), (3, (0, a3)), (4, (0, a4))]) (pc := 31) hX dX12_costWith_31 (zlt2 hxn rfl) rfl ?_
  refine z_aload_n (pc := 33) hX 2 dX12_costWith_33 rfl rfl ?_
  refine z_get (pc := 34) hX zc12 0 (by decide) wd1017 rfl rfl dX12_costWith_34 (fun v8 => ?_)
  refine z_bipush (pc := 37) hX dX12_costWith_37 ?_
  refine z_iload_n (pc := 39) hX 4 dX12_costWith_39 rfl rfl ?_
  refine z_imul (pc := 40) hX dX12_costWith_40 ?_
  refine z_iload_n (pc := 41) hX 5 dX12_costWith_41 rfl rfl ?_
  refine z_iadd (pc := 42) hX dX12_costWith_42 ?_
  refine z_iload (pc := 43) hX 1 dX12_costWith_43 rfl ?_
  refine z_iastA (pc := 45) hX dX12_costWith_45 (fun s9 => ?_)
  refine z_lload (pc := 46) hX 0 dX12_costWith_46 rfl ?_
  exact z_lret (pc := 48) hX hR hk dX12_costWith_48

theorem dX12_beside_0 : decode cX12_beside 0 = .ok (.aload_n 0, 1) := by decide +kernel
theorem dX12_beside_1 : decode cX12_beside 1 = .ok (.iload_n 1, 1) := by decide +kernel
theorem dX12_beside_2 : decode cX12_beside 2 = .ok (.invokevirtual 217, 3) := by decide +kernel
theorem dX12_beside_5 : decode cX12_beside 5 = .ok (.ifCond .eq 40, 3) := by decide +kernel
theorem dX12_beside_8 : decode cX12_beside 8 = .ok (.iload_n 2, 1) := by decide +kernel
theorem dX12_beside_9 : decode cX12_beside 9 = .ok (.iload_n 3, 1) := by decide +kernel
theorem dX12_beside_10 : decode cX12_beside 10 = .ok (.invokestatic 131, 3) := by decide +kernel
theorem dX12_beside_13 : decode cX12_beside 13 = .ok (.ifCond .eq 32, 3) := by decide +kernel
theorem dX12_beside_16 : decode cX12_beside 16 = .ok (.iload 4, 2) := by decide +kernel
theorem dX12_beside_18 : decode cX12_beside 18 = .ok (.iconst 0, 1) := by decide +kernel
theorem dX12_beside_19 : decode cX12_beside 19 = .ok (.bipush 9, 2) := by decide +kernel
theorem dX12_beside_21 : decode cX12_beside 21 = .ok (.invokestatic 127, 3) := by decide +kernel
theorem dX12_beside_24 : decode cX12_beside 24 = .ok (.ifCond .eq 21, 3) := by decide +kernel
theorem dX12_beside_27 : decode cX12_beside 27 = .ok (.aload_n 0, 1) := by decide +kernel
theorem dX12_beside_28 : decode cX12_beside 28 = .ok (.iload_n 1, 1) := by decide +kernel
theorem dX12_beside_29 : decode cX12_beside 29 = .ok (.iload_n 2, 1) := by decide +kernel
theorem dX12_beside_30 : decode cX12_beside 30 = .ok (.iload_n 3, 1) := by decide +kernel
theorem dX12_beside_31 : decode cX12_beside 31 = .ok (.iload 4, 2) := by decide +kernel
theorem dX12_beside_33 : decode cX12_beside 33 = .ok (.invokevirtual 287, 3) := by decide +kernel
theorem dX12_beside_36 : decode cX12_beside 36 = .ok (.aload_n 0, 1) := by decide +kernel
theorem dX12_beside_37 : decode cX12_beside 37 = .ok (.iload_n 1, 1) := by decide +kernel
theorem dX12_beside_38 : decode cX12_beside 38 = .ok (.invokevirtual 266, 3) := by decide +kernel
theorem dX12_beside_41 : decode cX12_beside 41 = .ok (.lsub, 1) := by decide +kernel
theorem dX12_beside_42 : decode cX12_beside 42 = .ok (.goto 6, 3) := by decide +kernel
theorem dX12_beside_45 : decode cX12_beside 45 = .ok (.ldc2_w 264, 3) := by decide +kernel
theorem dX12_beside_48 : decode cX12_beside 48 = .ok (.lreturn, 1) := by decide +kernel
def fX12_beside (s0 : ZS) (a0 : Int) (a1 : Int) (a2 : Int) (a3 : Int) (a4 : Int) : Option (Int × ZS) := zb (zv s0 12 a0 (fX12_isWay s0 a0 a1)) (fun v1 s2 => if v1 = 0 then (some ((-4611686018427387904), s2)) else (zb (fX12_isGate s2 a2 a3) (fun v5 s6 => if v5 = 0 then (some ((-4611686018427387904), s6)) else (zb (fX12_in s6 a4 0 9) (fun v9 s10 => if v9 = 0 then (some ((-4611686018427387904), s10)) else (zb (zv s10 12 a0 (fX12_costWith s10 a0 a1 a2 a3 a4)) (fun v13 s14 => zb (zv s14 12 a0 (fX12_costNow s14 a0 a1)) (fun v16 s17 => some ((wrapL (v13 - v16)), s17)))))))))
set_option maxHeartbeats 4000000 in
set_option maxRecDepth 100000 in
theorem mX12_beside (E : ZE) (hE : zOkE E) (l : Launch) (s0 : ZS) (a0 : Int) (a1 : Int) (a2 : Int) (a3 : Int) (a4 : Int) : Ct E l yX12_beside cX12_beside 5 (some .long) 14 [(2, a0), (0, a1), (0, a2), (0, a3), (0, a4)] 2 s0 (fX12_beside s0 a0 a1 a2 a3 a4) := by
  refine Ct.of (by decide) hE (Nat.le_of_ble_eq_true rfl) ?_
  intro X G hX hR hN hXE hXl hxn hk _
  subst hXE
  subst hXl
  have hX : G → ZOk X cX12_beside RX12 14 := hX
  clear hN
  show Zj X G 0 [(0, (2, a0)), (1, (0, a1)), (2, (0, a2)), (3, (0, a3)), (4, (0, a4))] [] s0 _
  unfold fX12_beside
  refine z_aload_n (pc := 0) hX 0 dX12_beside_0 rfl rfl ?_
  refine z_iload_n (pc := 1) hX 1 dX12_beside_1 rfl rfl ?_
  refine z_callV (n := 1) (st := []) (pc := 2) hX zc12 rfl (fun _ => (mX12_isWay _ hE _ _ _ _)) ⟨wd1268, wd67, wd1271, ⟨by decide, by decide, by decide⟩, by decide⟩ rfl wd1270 wd42 rfl rfl (by decide) (Nat.le_of_ble_eq_true rfl) dX12_beside_2 (fun v1 s2 r3 => ?_)
  show Zj X G 5 [(0, (2, a0)), (1, (0, a1)), (2, (0, a2)), (3, (0, a3)), (4, (0, a4))] [(0, v1)] _ _
  refine z_if_eq (pc := 5) hX 45 dX12_beside_5 (by decide) (fun h4 => ?_) (fun h4 => ?_)
  · refine z_ldc2 (n := -4611686018427387904) (pc := 45) hX dX12_beside_45 wd1338 (by decide) ?_
    exact z_lret (pc := 48) hX hR hk dX12_beside_48
  · refine z_iload_n (pc := 8) hX 2 dX12_beside_8 rfl rfl ?_
    refine z_iload_n (pc := 9) hX 3 dX12_beside_9 rfl rfl ?_
    refine z_callS (n := 2) (st := []) (pc := 10) hX (mX12_isGate _ hE _ _ _ _) ⟨wd1170, wd67, wd1172, ⟨by decide, by decide, by decide⟩, by decide⟩ wd1171 rfl rfl (by decide) (Nat.le_of_ble_eq_true rfl) dX12_beside_10 (fun v5 s6 r7 => ?_)
    show Zj X G 13 [(0, (2, a0)), (1, (0, a1)), (2, (0, a2)), (3, (0, a3)), (4, (0, a4))] [(0, v5)] _ _
    refine z_if_eq (pc := 13) hX 45 dX12_beside_13 (by decide) (fun h8 => ?_) (fun h8 => ?_)
    · refine z_ldc2 (n := -4611686018427387904) (pc := 45) hX dX12_beside_45 wd1338 (by decide) ?_
      exact z_lret (pc := 48) hX hR hk dX12_beside_48
    · refine z_iload (pc := 16) hX 4 dX12_beside_16 rfl ?_
      refine z_iconst (pc := 18) hX dX12_beside_18 ?_
      refine z_bipush (pc := 19) hX dX12_beside_19 ?_
      refine z_callS (n := 3) (st := []) (pc := 21) hX (mX12_in _ hE _ _ _ _ _) ⟨wd1173, wd67, wd1175, ⟨by decide, by decide, by decide⟩, by decide⟩ wd1174 rfl rfl (by decide) (Nat.le_of_ble_eq_true rfl) dX12_beside_21 (fun v9 s10 r11 => ?_)
      show Zj X G 24 [(0, (2, a0)), (1, (0, a1)), (2, (0, a2)), (3, (0, a3)), (4, (0, a4))] [(0, v9)] _ _
      refine z_if_eq (pc := 24) hX 45 dX12_beside_24 (by decide) (fun h12 => ?_) (fun h12 => ?_)
      · refine z_ldc2 (n := -4611686018427387904) (pc := 45) hX dX12_beside_45 wd1338 (by decide) ?_
        exact z_lret (pc := 48) hX hR hk dX12_beside_48
      · refine z_aload_n (pc := 27) hX 0 dX12_beside_27 rfl rfl ?_
        refine z_iload_n (pc := 28) hX 1 dX12_beside_28 rfl rfl ?_
        refine z_iload_n (pc := 29) hX 2 dX12_beside_29 rfl rfl ?_
        refine z_iload_n (pc := 30) hX 3 dX12_beside_30 rfl rfl ?_
        refine z_iload (pc := 31) hX 4 dX12_beside_31 rfl ?_
        refine z_callV (n := 4) (st := []) (pc := 33) hX zc12 rfl (fun _ => (mX12_costWith _ hE _ _ _ _ _ _ _)) ⟨wd1379, wd67, wd1382, ⟨by decide, by decide, by decide⟩, by decide⟩ rfl wd1381 wd58 rfl rfl (by decide) (Nat.le_of_ble_eq_true rfl) dX12_beside_33 (fun v13 s14 r15 => ?_)
        show Zj X G 36 [(0, (2, a0)), (1, (0, a1)), (2, (0, a2)), (3, (0, a3)), (4, (0, a4))] [(1, v13)] _ _
        refine z_aload_n (pc := 36) hX 0 dX12_beside_36 rfl rfl ?_
        refine z_iload_n (pc := 37) hX 1 dX12_beside_37 rfl rfl ?_
        refine z_callV (n := 1) (st := [(1, v13)]) (pc := 38) hX zc12 rfl (fun _ => (mX12_costNow _ hE _ _ _ _)) ⟨wd1339, wd67, wd1342, ⟨by decide, by decide, by decide⟩, by decide⟩ rfl wd1341 wd53 rfl rfl (by decide) (Nat.le_of_ble_eq_true rfl) dX12_beside_38 (fun v16 s17 r18 => ?_)
        show Zj X G 41 [(0, (2, a0)), (1, (0, a1)), (2, (0, a2)), (3, (0, a3)), (4, (0, a4))] [(1, v16), (1, v13)] _ _
        refine z_lsub (pc := 41) hX dX12_beside_41 ?_
        refine z_goto (pc := 42) hX 48 dX12_beside_42 (by decide) ?_
        exact z_lret (pc := 48) hX hR hk dX12_beside_48

theorem dX11_sticks_0 : decode cX11_sticks 0 = .ok (.aload_n 0, 1) := by decide +kernel
theorem dX11_sticks_1 : decode cX11_sticks 1 = .ok (.iload_n 1, 1) := by decide +kernel
theorem dX11_sticks_2 : decode cX11_sticks 2 = .ok (.invokevirtual 177, 3) := by decide +kernel
theorem dX11_sticks_5 : decode cX11_sticks 5 = .ok (.astore 6, 2) := by decide +kernel
theorem dX11_sticks_7 : decode cX11_sticks 7 = .ok (.aload 6, 2) := by decide +kernel
theorem dX11_sticks_9 : decode cX11_sticks 9 = .ok (.ifnull 17, 3) := by decide +kernel
theorem dX11_sticks_12 : decode cX11_sticks 12 = .ok (.iload_n 2, 1) := by decide +kernel
theorem dX11_sticks_13 : decode cX11_sticks 13 = .ok (.invokestatic 95, 3) := by decide +kernel
theorem dX11_sticks_16 : decode cX11_sticks 16 = .ok (.ifCond .eq 10, 3) := by decide +kernel
theorem dX11_sticks_19 : decode cX11_sticks 19 = .ok (.iload_n 3, 1) := by decide +kernel
theorem dX11_sticks_20 : decode cX11_sticks 20 = .ok (.invokestatic 99, 3) := by decide +kernel
theorem dX11_sticks_23 : decode cX11_sticks 23 = .ok (.ifCond .ne 7, 3) := by decide +kernel
theorem dX11_sticks_26 : decode cX11_sticks 26 = .ok (.ldc2_w 219, 3) := by decide +kernel
theorem dX11_sticks_29 : decode cX11_sticks 29 = .ok (.lreturn, 1) := by decide +kernel
theorem dX11_sticks_30 : decode cX11_sticks 30 = .ok (.iload 4, 2) := by decide +kernel
theorem dX11_sticks_32 : decode cX11_sticks 32 = .ok (.bipush 10, 2) := by decide +kernel
theorem dX11_sticks_34 : decode cX11_sticks 34 = .ok (.invokestatic 102, 3) := by decide +kernel
theorem dX11_sticks_37 : decode cX11_sticks 37 = .ok (.ifCond .eq 12, 3) := by decide +kernel
theorem dX11_sticks_40 : decode cX11_sticks 40 = .ok (.iload 5, 2) := by decide +kernel
theorem dX11_sticks_42 : decode cX11_sticks 42 = .ok (.iconst 1, 1) := by decide +kernel
theorem dX11_sticks_43 : decode cX11_sticks 43 = .ok (.invokestatic 102, 3) := by decide +kernel
theorem dX11_sticks_46 : decode cX11_sticks 46 = .ok (.ifCond .ne 7, 3) := by decide +kernel
theorem dX11_sticks_49 : decode cX11_sticks 49 = .ok (.ldc2_w 219, 3) := by decide +kernel
theorem dX11_sticks_52 : decode cX11_sticks 52 = .ok (.lreturn, 1) := by decide +kernel
theorem dX11_sticks_53 : decode cX11_sticks 53 = .ok (.bipush 10, 2) := by decide +kernel
theorem dX11_sticks_55 : decode cX11_sticks 55 = .ok (.iload 4, 2) := by decide +kernel
theorem dX11_sticks_57 : decode cX11_sticks 57 = .ok (.isub, 1) := by decide +kernel
theorem dX11_sticks_58 : decode cX11_sticks 58 = .ok (.i2l, 1) := by decide +kernel
theorem dX11_sticks_59 : decode cX11_sticks 59 = .ok (.aload_n 0, 1) := by decide +kernel
theorem dX11_sticks_60 : decode cX11_sticks 60 = .ok (.aload 6, 2) := by decide +kernel
theorem dX11_sticks_62 : decode cX11_sticks 62 = .ok (.invokevirtual 249, 3) := by decide +kernel
theorem dX11_sticks_65 : decode cX11_sticks 65 = .ok (.lmul, 1) := by decide +kernel
theorem dX11_sticks_66 : decode cX11_sticks 66 = .ok (.iload 4, 2) := by decide +kernel
theorem dX11_sticks_68 : decode cX11_sticks 68 = .ok (.i2l, 1) := by decide +kernel
theorem dX11_sticks_69 : decode cX11_sticks 69 = .ok (.aload_n 0, 1) := by decide +kernel
theorem dX11_sticks_70 : decode cX11_sticks 70 = .ok (.aload 6, 2) := by decide +kernel
theorem dX11_sticks_72 : decode cX11_sticks 72 = .ok (.iload_n 2, 1) := by decide +kernel
theorem dX11_sticks_73 : decode cX11_sticks 73 = .ok (.iload_n 3, 1) := by decide +kernel
theorem dX11_sticks_74 : decode cX11_sticks 74 = .ok (.iconst 0, 1) := by decide +kernel
theorem dX11_sticks_75 : decode cX11_sticks 75 = .ok (.invokevirtual 245, 3) := by decide +kernel
theorem dX11_sticks_78 : decode cX11_sticks 78 = .ok (.lmul, 1) := by decide +kernel
theorem dX11_sticks_79 : decode cX11_sticks 79 = .ok (.ladd, 1) := by decide +kernel
theorem dX11_sticks_80 : decode cX11_sticks 80 = .ok (.lstore 7, 2) := by decide +kernel
theorem dX11_sticks_82 : decode cX11_sticks 82 = .ok (.ldc2_w 253, 3) := by decide +kernel
theorem dX11_sticks_85 : decode cX11_sticks 85 = .ok (.lstore 9, 2) := by decide +kernel
theorem dX11_sticks_87 : decode cX11_sticks 87 = .ok (.iconst 2, 1) := by decide +kernel
theorem dX11_sticks_88 : decode cX11_sticks 88 = .ok (.istore 11, 2) := by decide +kernel
theorem dX11_sticks_90 : decode cX11_sticks 90 = .ok (.iload 11, 2) := by decide +kernel
theorem dX11_sticks_92 : decode cX11_sticks 92 = .ok (.bipush 10, 2) := by decide +kernel
theorem dX11_sticks_94 : decode cX11_sticks 94 = .ok (.if_icmp .gt 47, 3) := by decide +kernel
theorem dX11_sticks_97 : decode cX11_sticks 97 = .ok (.lload 7, 2) := by decide +kernel
theorem dX11_sticks_99 : decode cX11_sticks 99 = .ok (.iload 11, 2) := by decide +kernel
theorem dX11_sticks_101 : decode cX11_sticks 101 = .ok (.i2l, 1) := by decide +kernel
theorem dX11_sticks_102 : decode cX11_sticks 102 = .ok (.lrem, 1) := by decide +kernel
theorem dX11_sticks_103 : decode cX11_sticks 103 = .ok (.lconst 0, 1) := by decide +kernel
theorem dX11_sticks_104 : decode cX11_sticks 104 = .ok (.lcmp, 1) := by decide +kernel
theorem dX11_sticks_105 : decode cX11_sticks 105 = .ok (.ifCond .ne 30, 3) := by decide +kernel
theorem dX11_sticks_108 : decode cX11_sticks 108 = .ok (.lload 9, 2) := by decide +kernel
theorem dX11_sticks_110 : decode cX11_sticks 110 = .ok (.iload 11, 2) := by decide +kernel
theorem dX11_sticks_112 : decode cX11_sticks 112 = .ok (.i2l, 1) := by decide +kernel
theorem dX11_sticks_113 : decode cX11_sticks 113 = .ok (.lrem, 1) := by decide +kernel
theorem dX11_sticks_114 : decode cX11_sticks 114 = .ok (.lconst 0, 1) := by decide +kernel
theorem dX11_sticks_115 : decode cX11_sticks 115 = .ok (.lcmp, 1) := by decide +kernel
theorem dX11_sticks_116 : decode cX11_sticks 116 = .ok (.ifCond .ne 19, 3) := by decide +kernel
theorem dX11_sticks_119 : decode cX11_sticks 119 = .ok (.lload 7, 2) := by decide +kernel
theorem dX11_sticks_121 : decode cX11_sticks 121 = .ok (.iload 11, 2) := by decide +kernel
theorem dX11_sticks_123 : decode cX11_sticks 123 = .ok (.i2l, 1) := by decide +kernel
theorem dX11_sticks_124 : decode cX11_sticks 124 = .ok (.ldiv, 1) := by decide +kernel
theorem dX11_sticks_125 : decode cX11_sticks 125 = .ok (.lstore 7, 2) := by decide +kernel
theorem dX11_sticks_127 : decode cX11_sticks 127 = .ok (.lload 9, 2) := by decide +kernel
theorem dX11_sticks_129 : decode cX11_sticks 129 = .ok (.iload 11, 2) := by decide +kernel
theorem dX11_sticks_131 : decode cX11_sticks 131 = .ok (.i2l, 1) := by decide +kernel
theorem dX11_sticks_132 : decode cX11_sticks 132 = .ok (.ldiv, 1) := by decide +kernel
theorem dX11_sticks_133 : decode cX11_sticks 133 = .ok (.lstore 9, 2) := by decide +kernel
theorem dX11_sticks_135 : decode cX11_sticks 135 = .ok (.iinc 11 1, 3) := by decide +kernel
theorem dX11_sticks_138 : decode cX11_sticks 138 = .ok (.goto (-48), 3) := by decide +kernel
theorem dX11_sticks_141 : decode cX11_sticks 141 = .ok (.iload 5, 2) := by decide +kernel
theorem dX11_sticks_143 : decode cX11_sticks 143 = .ok (.ifCond .ne 8, 3) := by decide +kernel
theorem dX11_sticks_146 : decode cX11_sticks 146 = .ok (.lload 7, 2) := by decide +kernel
theorem dX11_sticks_148 : decode cX11_sticks 148 = .ok (.goto 5, 3) := by decide +kernel
theorem dX11_sticks_151 : decode cX11_sticks 151 = .ok (.lload 9, 2) := by decide +kernel
theorem dX11_sticks_153 : decode cX11_sticks 153 = .ok (.lreturn, 1) := by decide +kernel
def lX11_sticks_90 (u28 : Int) (K141 : ZS → Int → Int → Option (Int × ZS)) : Nat → ZS → Int → Int → Int → Option (Int × ZS)
  | 0, _, _, _, _ => none
  | n1 + 1, s27, x29, x30, x31 => if 10 < x31 then (K141 s27 x29 x30) else (if x31 = 0 then none else (zjn (fun (K135 : ZS → Int → Int → Option (Int × ZS)) => if (lCmp (x29.tmod x31) 0) = 0 then (if x31 = 0 then none else (if (lCmp (x30.tmod x31) 0) = 0 then (if x31 = 0 then none else (if x31 = 0 then none else (K135 s27 (wrapL (x29.tdiv x31)) (wrapL (x30.tdiv x31))))) else (K135 s27 x29 x30))) else (K135 s27 x29 x30)) (fun (s35 : ZS) (x36 x37 : Int) => lX11_sticks_90 u28 K141 n1 s35 x36 x37 (wrap (x31 + 1)))))

def fX11_sticks (s0 : ZS) (a0 : Int) (a1 : Int) (a2 : Int) (a3 : Int) (a4 : Int) (a5 : Int) : Option (Int × ZS) := zb (zv s0 11 a0 (fX11_wayAt s0 a0 a1)) (fun v1 s2 => if v1 < 0 then (some ((-4611686018427387904), s2)) else (zb (fX11_isGate s2 a2) (fun v5 s6 => if v5 = 0 then (some ((-4611686018427387904), s6)) else (zb (fX11_isMinute s6 a3) (fun v9 s10 => if v9 = 0 then (some ((-4611686018427387904), s10)) else (zb (fX11_within s10 a4 10) (fun v13 s14 => if v13 = 0 then (some ((-4611686018427387904), s14)) else (zb (fX11_within s14 a5 1) (fun v17 s18 => if v17 = 0 then (some ((-4611686018427387904), s18)) else (zb (zv s18 11 a0 (fX11_costOfAll s18 a0 v1)) (fun v21 s22 => zb (zv s22 11 a0 (fX11_costWithRate s22 a0 v1 a2 a3 0)) (fun v24 s25 => lX11_sticks_90 a5 (fun (s41 : ZS) (x42 x43 : Int) => if a5 = 0 then (some (x42, s41)) else (some (x43, s41))) 1000 s25 (wrapL ((wrapL ((wrap (10 - a4)) * v21)) + (wrapL (a4 * v24)))) 10 2))))))))))))
set_option maxHeartbeats 4000000 in
set_option maxRecDepth 100000 in
theorem mX11_sticks (E : ZE) (hE : zOkE E) (l : Launch) (s0 : ZS) (a0 : Int) (a1 : Int) (a2 : Int) (a3 : Int) (a4 : Int) (a5 : Int) : Ct E l yX11_sticks cX11_sticks 12 (some .long) 14 [(2, a0), (0, a1), (0, a2), (0, a3), (0, a4), (0, a5)] 2 s0 (fX11_sticks s0 a0 a1 a2 a3 a4 a5) := by
  refine Ct.of (by decide) hE (Nat.le_of_ble_eq_true rfl) ?_
  intro X G hX hR hN hXE hXl hxn hk _
  subst hXE
  subst hXl
  have hX : G → ZOk X cX11_sticks RX11 14 := hX
  clear hN
  show Zj X G 0 [(0, (2, a0)), (1, (0, a1)), (2, (0, a2)), (3, (0, a3)), (4, (0, a4)), (5, (0, a5))] [] s0 _
  unfold fX11_sticks
  refine z_aload_n (pc := 0) hX 0 dX11_sticks_0 rfl rfl ?_
  refine z_iload_n (pc := 1) hX 1 dX11_sticks_1 rfl rfl ?_
  refine z_callV (n := 1) (st := []) (pc := 2) hX zc11 rfl (fun _ => (mX11_wayAt _ hE _ _ _ _)) ⟨wd681, wd61, wd684, ⟨by decide, by decide, by decide⟩, by decide⟩ rfl wd683 wd18 rfl rfl (by decide) (Nat.le_of_ble_eq_true rfl) dX11_sticks_2 (fun v1 s2 r3 => ?_)
  show Zj X G 5 [(0, (2, a0)), (1, (0, a1)), (2, (0, a2)), (3, (0, a3)), (4, (0, a4)), (5, (0, a5))] [(2, v1)] _ _
  refine z_astore (lv' := [(6, (2, v1)), (0, (2, a0)), (1, (0, a1)), (2, (0, a2)), (3, (0, a3)), (4, (0, a4)), (5, (0, a5))]) (pc := 5) hX dX11_sticks_5 (zlt hxn rfl) rfl ?_
  refine z_aload (pc := 7) hX 0 dX11_sticks_7 rfl ?_
  refine z_ifnull (pc := 9) hX 26 dX11_sticks_9 (by decide) (fun h4 => ?_) (fun h4 => ?_)
  · refine z_ldc2 (n := -4611686018427387904) (pc := 26) hX dX11_sticks_26 wd846 (by decide) ?_
    exact z_lret (pc := 29) hX hR hk dX11_sticks_29
  · refine z_iload_n (pc := 12) hX 3 dX11_sticks_12 rfl rfl ?_
    refine z_callS (n := 1) (st := []) (pc := 13) hX (mX11_isGate _ hE _ _ _) ⟨wd326, wd61, wd328, ⟨by decide, by decide, by decide⟩, by decide⟩ wd327 rfl rfl (by decide) (Nat.le_of_ble_eq_true rfl) dX11_sticks_13 (fun v5 s6 r7 => ?_)
    show Zj X G 16 [(6, (2, v1)), (0, (2, a0)), (1, (0, a1)), (2, (0, a2)), (3, (0, a3)), (4, (0, a4)), (5, (0, a5))] [(0, v5)] _ _
    refine z_if_eq (pc := 16) hX 26 dX11_sticks_16 (by decide) (fun h8 => ?_) (fun h8 => ?_)
    · refine z_ldc2 (n := -4611686018427387904) (pc := 26) hX dX11_sticks_26 wd846 (by decide) ?_
      exact z_lret (pc := 29) hX hR hk dX11_sticks_29
    · refine z_iload_n (pc := 19) hX 4 dX11_sticks_19 rfl rfl ?_
      refine z_callS (n := 1) (st := []) (pc := 20) hX (mX11_isMinute _ hE _ _ _) ⟨wd332, wd61, wd334, ⟨by decide, by decide, by decide⟩, by decide⟩ wd333 rfl rfl (by decide) (Nat.le_of_ble_eq_true rfl) dX11_sticks_20 (fun v9 s10 r11 => ?_)
      show Zj X G 23 [(6, (2, v1)), (0, (2, a0)), (1, (0, a1)), (2, (0, a2)), (3, (0, a3)), (4, (0, a4)), (5, (0, a5))] [(0, v9)] _ _
      refine z_if_ne (pc := 23) hX 30 dX11_sticks_23 (by decide) (fun h12 => ?_) (fun h12 => ?_)
      · refine z_iload (pc := 30) hX 5 dX11_sticks_30 rfl ?_
        refine z_bipush (pc := 32) hX dX11_sticks_32 ?_
        refine z_callS (n := 2) (st := []) (pc := 34) hX (mX11_within _ hE _ _ _ _) ⟨wd329, wd61, wd331, ⟨by decide, by decide, by decide⟩, by decide⟩ wd330 rfl rfl (by decide) (Nat.le_of_ble_eq_true rfl) dX11_sticks_34 (fun v13 s14 r15 => ?_)
        show Zj X G 37 [(6, (2, v1)), (0, (2, a0)), (1, (0, a1)), (2, (0, a2)), (3, (0, a3)), (4, (0, a4)), (5, (0, a5))] [(0, v13)] _ _
        refine z_if_eq (pc := 37) hX 49 dX11_sticks_37 (by decide) (fun h16 => ?_) (fun h16 => ?_)
        · refine z_ldc2 (n := -4611686018427387904) (pc := 49) hX dX11_sticks_49 wd846 (by decide) ?_
          exact z_lret (pc := 52) hX hR hk dX11_sticks_52
        · refine z_iload (pc := 40) hX 6 dX11_sticks_40 rfl ?_
          refine z_iconst (pc := 42) hX dX11_sticks_42 ?_
          refine z_callS (n := 2) (st := []) (pc := 43) hX (mX11_within _ hE _ _ _ _) ⟨wd329, wd61, wd331, ⟨by decide, by decide, by decide⟩, by decide⟩ wd330 rfl rfl (by decide) (Nat.le_of_ble_eq_true rfl) dX11_sticks_43 (fun v17 s18 r19 => ?_)
          show Zj X G 46 [(6, (2, v1)), (0, (2, a0)), (1, (0, a1)), (2, (0, a2)), (3, (0, a3)), (4, (0, a4)), (5, (0, a5))] [(0, v17)] _ _
          refine z_if_ne (pc := 46) hX 53 dX11_sticks_46 (by decide) (fun h20 => ?_) (fun h20 => ?_)
          · refine z_bipush (pc := 53) hX dX11_sticks_53 ?_
            refine z_iload (pc := 55) hX 5 dX11_sticks_55 rfl ?_
            refine z_isub (pc := 57) hX dX11_sticks_57 ?_
            refine z_i2lR (pc := 58) hX dX11_sticks_58 ?_
            refine z_aload_n (pc := 59) hX 1 dX11_sticks_59 rfl rfl ?_
            refine z_aload (pc := 60) hX 0 dX11_sticks_60 rfl ?_
            refine z_callV (n := 1) (st := [(1, (wrap (10 - a4)))]) (pc := 62) hX zc11 rfl (fun _ => (mX11_costOfAll _ hE _ _ _ _)) ⟨wd906, wd61, wd909, ⟨by decide, by decide, by decide⟩, by decide⟩ rfl wd908 wd29 rfl rfl (by decide) (Nat.le_of_ble_eq_true rfl) dX11_sticks_62 (fun v21 s22 r23 => ?_)
            show Zj X G 65 [(6, (2, v1)), (0, (2, a0)), (1, (0, a1)), (2, (0, a2)), (3, (0, a3)), (4, (0, a4)), (5, (0, a5))] [(1, v21), (1, (wrap (10 - a4)))] _ _
            refine z_lmul (pc := 65) hX dX11_sticks_65 ?_
            refine z_iload (pc := 66) hX 5 dX11_sticks_66 rfl ?_
            refine z_i2lR (pc := 68) hX dX11_sticks_68 ?_
            refine z_aload_n (pc := 69) hX 1 dX11_sticks_69 rfl rfl ?_
            refine z_aload (pc := 70) hX 0 dX11_sticks_70 rfl ?_
            refine z_iload_n (pc := 72) hX 3 dX11_sticks_72 rfl rfl ?_
            refine z_iload_n (pc := 73) hX 4 dX11_sticks_73 rfl rfl ?_
            refine z_iconst (pc := 74) hX dX11_sticks_74 ?_
            refine z_callV (n := 4) (st := [(1, a4), (1, (wrapL ((wrap (10 - a4)) * v21)))]) (pc := 75) hX zc11 rfl (fun _ => (mX11_costWithRate _ hE _ _ _ _ _ _ _)) ⟨wd902, wd61, wd905, ⟨by decide, by decide, by decide⟩, by decide⟩ rfl wd904 wd28 rfl rfl (by decide) (Nat.le_of_ble_eq_true rfl) dX11_sticks_75 (fun v24 s25 r26 => ?_)
            show Zj X G 78 [(6, (2, v1)), (0, (2, a0)), (1, (0, a1)), (2, (0, a2)), (3, (0, a3)), (4, (0, a4)), (5, (0, a5))] [(1, v24), (1, a4), (1, (wrapL ((wrap (10 - a4)) * v21)))] _ _
            refine z_lmul (pc := 78) hX dX11_sticks_78 ?_
            refine z_ladd (pc := 79) hX dX11_sticks_79 ?_
            refine z_lstore (lv' := [(7, (1, (wrapL ((wrapL ((wrap (10 - a4)) * v21)) + (wrapL (a4 * v24)))))), (6, (2, v1)), (0, (2, a0)), (1, (0, a1)), (2, (0, a2)), (3, (0, a3)), (4, (0, a4)), (5, (0, a5))]) (pc := 80) hX dX11_sticks_80 (zlt2 hxn rfl) rfl ?_
            refine z_ldc2 (n := 10) (pc := 82) hX dX11_sticks_82 wd914 (by decide) ?_
            refine z_lstore (lv' := [(9, (1, 10)), (7, (1, (wrapL ((wrapL ((wrap (10 - a4)) * v21)) + (wrapL (a4 * v24)))))), (6, (2, v1)), (0, (2, a0)), (1, (0, a1)), (2, (0, a2)), (3, (0, a3)), (4, (0, a4)), (5, (0, a5))]) (pc := 85) hX dX11_sticks_85 (zlt2 hxn rfl) rfl ?_
            refine z_iconst (pc := 87) hX dX11_sticks_87 ?_
            refine z_istore (lv' := [(11, (0, 2)), (9, (1, 10)), (7, (1, (wrapL ((wrapL ((wrap (10 - a4)) * v21)) + (wrapL (a4 * v24)))))), (6, (2, v1)), (0, (2, a0)), (1, (0, a1)), (2, (0, a2)), (3, (0, a3)), (4, (0, a4)), (5, (0, a5))]) (pc := 88) hX dX11_sticks_88 (zlt hxn rfl) rfl ?_
            have hl90 : ∀ (u28 : Int), ∀ (K141 : ZS → Int → Int → Option (Int × ZS)), (∀ (s38 : ZS) (x39 x40 : Int), Zj X G 141 [(5, (0, u28)), (7, (1, x39)), (9, (1, x40))] [] s38 (K141 s38 x39 x40)) → ∀ (n1 : Nat) (s27 : ZS) (x29 x30 x31 : Int), Zj X G 90 [(5, (0, u28)), (7, (1, x29)), (9, (1, x30)), (11, (0, x31))] [] s27 (lX11_sticks_90 u28 K141 n1 s27 x29 x30 x31) := by
              intro u28 K141 hK141 n1
              induction n1 with
              | zero => intro _ _ _ _; exact z_none
              | succ n1 ih1 =>
                intro s27 x29 x30 x31
                rw [lX11_sticks_90]
                refine z_iload (pc := 90) hX 3 dX11_sticks_90 rfl ?_
                refine z_bipush (pc := 92) hX dX11_sticks_92 ?_
                refine z_icmp_gt (pc := 94) hX 141 dX11_sticks_94 (by decide) (fun h32 => ?_) (fun h32 => ?_)
                · refine z_pick (lv' := [(5, (0, u28)), (7, (1, x29)), (9, (1, x30))]) [0, 1, 2] rfl ?_
                  exact hK141 _ _ _
                · refine z_lload (pc := 97) hX 1 dX11_sticks_97 rfl ?_
                  refine z_iload (pc := 99) hX 3 dX11_sticks_99 rfl ?_
                  refine z_i2lR (pc := 101) hX dX11_sticks_101 ?_
                  refine z_lrem (pc := 102) hX dX11_sticks_102 (fun _ => ?_)
                  refine z_lconst (pc := 103) hX dX11_sticks_103 rfl ?_
                  refine z_lcmp (pc := 104) hX dX11_sticks_104 ?_
                  refine z_jn (fun K135 eK135 => ?_)
                  have hK135 : ∀ (s35 : ZS) (x36 x37 : Int), Zj X G 135 [(5, (0, u28)), (7, (1, x36)), (9, (1, x37)), (11, (0, x31))] [] s35 (K135 s35 x36 x37) := by
                    intro s35 x36 x37
                    rw [eK135]
                    refine z_iinc (lv' := [(11, (0, (wrap (x31 + 1)))), (5, (0, u28)), (7, (1, x36)), (9, (1, x37))]) (pc := 135) hX 3 dX11_sticks_135 rfl (zlt hxn rfl) rfl ?_
                    refine z_goto (pc := 138) hX 90 dX11_sticks_138 (by decide) ?_
                    refine z_pick (lv' := [(5, (0, u28)), (7, (1, x36)), (9, (1, x37)), (11, (0, (wrap (x31 + 1))))]) [1, 2, 3, 0] rfl ?_
                    exact ih1 _ _ _ _
                  clear eK135
                  refine z_if_ne (pc := 105) hX 135 dX11_sticks_105 (by decide) (fun h33 => ?_) (fun h33 => ?_)
                  · exact hK135 _ _ _
                  · refine z_lload (pc := 108) hX 2 dX11_sticks_108 rfl ?_
                    refine z_iload (pc := 110) hX 3 dX11_sticks_110 rfl ?_
                    refine z_i2lR (pc := 112) hX dX11_sticks_112 ?_
                    refine z_lrem (pc := 113) hX dX11_sticks_113 (fun _ => ?_)
                    refine z_lconst (pc := 114) hX dX11_sticks_114 rfl ?_
                    refine z_lcmp (pc := 115) hX dX11_sticks_115 ?_
                    refine z_if_ne (pc := 116) hX 135 dX11_sticks_116 (by decide) (fun h34 => ?_) (fun h34 => ?_)
                    · exact hK135 _ _ _
                    · refine z_lload (pc := 119) hX 1 dX11_sticks_119 rfl ?_
                      refine z_iload (pc := 121) hX 3 dX11_sticks_121 rfl ?_
                      refine z_i2lR (pc := 123) hX dX11_sticks_123 ?_
                      refine z_ldiv (pc := 124) hX dX11_sticks_124 (fun _ => ?_)
                      refine z_lstore (lv' := [(7, (1, (wrapL (x29.tdiv x31)))), (5, (0, u28)), (9, (1, x30)), (11, (0, x31))]) (pc := 125) hX dX11_sticks_125 (zlt2 hxn rfl) rfl ?_
                      refine z_lload (pc := 127) hX 2 dX11_sticks_127 rfl ?_
                      refine z_iload (pc := 129) hX 3 dX11_sticks_129 rfl ?_
                      refine z_i2lR (pc := 131) hX dX11_sticks_131 ?_
                      refine z_ldiv (pc := 132) hX dX11_sticks_132 (fun _ => ?_)
                      refine z_lstore (lv' := [(9, (1, (wrapL (x30.tdiv x31)))), (7, (1, (wrapL (x29.tdiv x31)))), (5, (0, u28)), (11, (0, x31))]) (pc := 133) hX dX11_sticks_133 (zlt2 hxn rfl) rfl ?_
                      refine z_pick (lv' := [(5, (0, u28)), (7, (1, (wrapL (x29.tdiv x31)))), (9, (1, (wrapL (x30.tdiv x31)))), (11, (0, x31))]) [2, 1, 0, 3] rfl ?_
                      exact hK135 _ _ _
            refine z_pick (lv' := [(5, (0, a5)), (7, (1, (wrapL ((wrapL ((wrap (10 - a4)) * v21)) + (wrapL (a4 * v24)))))), (9, (1, 10)), (11, (0, 2))]) [9, 2, 1, 0] rfl ?_
            refine hl90 _ _ (fun s41 x42 x43 => ?_) 1000 _ _ _ _
            refine z_iload (pc := 141) hX 0 dX11_sticks_141 rfl ?_
            refine z_if_ne (pc := 143) hX 151 dX11_sticks_143 (by decide) (fun h44 => ?_) (fun h44 => ?_)
            · refine z_lload (pc := 151) hX 2 dX11_sticks_151 rfl ?_
              exact z_lret (pc := 153) hX hR hk dX11_sticks_153
            · refine z_lload (pc := 146) hX 1 dX11_sticks_146 rfl ?_
              refine z_goto (pc := 148) hX 153 dX11_sticks_148 (by decide) ?_
              exact z_lret (pc := 153) hX hR hk dX11_sticks_153
          · refine z_ldc2 (n := -4611686018427387904) (pc := 49) hX dX11_sticks_49 wd846 (by decide) ?_
            exact z_lret (pc := 52) hX hR hk dX11_sticks_52
      · refine z_ldc2 (n := -4611686018427387904) (pc := 26) hX dX11_sticks_26 wd846 (by decide) ?_
        exact z_lret (pc := 29) hX hR hk dX11_sticks_29

theorem dX12_lowest_0 : decode cX12_lowest 0 = .ok (.lload_n 0, 1) := by decide +kernel
theorem dX12_lowest_1 : decode cX12_lowest 1 = .ok (.lconst 0, 1) := by decide +kernel
theorem dX12_lowest_2 : decode cX12_lowest 2 = .ok (.lcmp, 1) := by decide +kernel
theorem dX12_lowest_3 : decode cX12_lowest 3 = .ok (.ifCond .ne 7, 3) := by decide +kernel
theorem dX12_lowest_6 : decode cX12_lowest 6 = .ok (.iload 4, 2) := by decide +kernel
theorem dX12_lowest_8 : decode cX12_lowest 8 = .ok (.i2l, 1) := by decide +kernel
theorem dX12_lowest_9 : decode cX12_lowest 9 = .ok (.lreturn, 1) := by decide +kernel
theorem dX12_lowest_10 : decode cX12_lowest 10 = .ok (.lload_n 0, 1) := by decide +kernel
theorem dX12_lowest_11 : decode cX12_lowest 11 = .ok (.lconst 0, 1) := by decide +kernel
theorem dX12_lowest_12 : decode cX12_lowest 12 = .ok (.lcmp, 1) := by decide +kernel
theorem dX12_lowest_13 : decode cX12_lowest 13 = .ok (.ifCond .ge 8, 3) := by decide +kernel
theorem dX12_lowest_16 : decode cX12_lowest 16 = .ok (.lload_n 0, 1) := by decide +kernel
theorem dX12_lowest_17 : decode cX12_lowest 17 = .ok (.lneg, 1) := by decide +kernel
theorem dX12_lowest_18 : decode cX12_lowest 18 = .ok (.goto 4, 3) := by decide +kernel
theorem dX12_lowest_21 : decode cX12_lowest 21 = .ok (.lload_n 0, 1) := by decide +kernel
theorem dX12_lowest_22 : decode cX12_lowest 22 = .ok (.lstore 5, 2) := by decide +kernel
theorem dX12_lowest_24 : decode cX12_lowest 24 = .ok (.lload_n 2, 1) := by decide +kernel
theorem dX12_lowest_25 : decode cX12_lowest 25 = .ok (.lstore 7, 2) := by decide +kernel
theorem dX12_lowest_27 : decode cX12_lowest 27 = .ok (.lload 7, 2) := by decide +kernel
theorem dX12_lowest_29 : decode cX12_lowest 29 = .ok (.lconst 0, 1) := by decide +kernel
theorem dX12_lowest_30 : decode cX12_lowest 30 = .ok (.lcmp, 1) := by decide +kernel
theorem dX12_lowest_31 : decode cX12_lowest 31 = .ok (.ifCond .eq 21, 3) := by decide +kernel
theorem dX12_lowest_34 : decode cX12_lowest 34 = .ok (.lload 5, 2) := by decide +kernel
theorem dX12_lowest_36 : decode cX12_lowest 36 = .ok (.lload 7, 2) := by decide +kernel
theorem dX12_lowest_38 : decode cX12_lowest 38 = .ok (.lrem, 1) := by decide +kernel
theorem dX12_lowest_39 : decode cX12_lowest 39 = .ok (.lstore 9, 2) := by decide +kernel
theorem dX12_lowest_41 : decode cX12_lowest 41 = .ok (.lload 7, 2) := by decide +kernel
theorem dX12_lowest_43 : decode cX12_lowest 43 = .ok (.lstore 5, 2) := by decide +kernel
theorem dX12_lowest_45 : decode cX12_lowest 45 = .ok (.lload 9, 2) := by decide +kernel
theorem dX12_lowest_47 : decode cX12_lowest 47 = .ok (.lstore 7, 2) := by decide +kernel
theorem dX12_lowest_49 : decode cX12_lowest 49 = .ok (.goto (-22), 3) := by decide +kernel
theorem dX12_lowest_52 : decode cX12_lowest 52 = .ok (.iload 4, 2) := by decide +kernel
theorem dX12_lowest_54 : decode cX12_lowest 54 = .ok (.ifCond .ne 7, 3) := by decide +kernel
theorem dX12_lowest_57 : decode cX12_lowest 57 = .ok (.lload_n 0, 1) := by decide +kernel
theorem dX12_lowest_58 : decode cX12_lowest 58 = .ok (.goto 4, 3) := by decide +kernel
theorem dX12_lowest_61 : decode cX12_lowest 61 = .ok (.lload_n 2, 1) := by decide +kernel
theorem dX12_lowest_62 : decode cX12_lowest 62 = .ok (.lload 5, 2) := by decide +kernel
theorem dX12_lowest_64 : decode cX12_lowest 64 = .ok (.ldiv, 1) := by decide +kernel
theorem dX12_lowest_65 : decode cX12_lowest 65 = .ok (.lreturn, 1) := by decide +kernel
def lX12_lowest_27 (u6 u7 u8 : Int) (K52 : ZS → Int → Option (Int × ZS)) : Nat → ZS → Int → Int → Option (Int × ZS)
  | 0, _, _, _ => none
  | n1 + 1, s5, x9, x10 => if (lCmp x10 0) = 0 then (K52 s5 x9) else (if x10 = 0 then none else (lX12_lowest_27 u6 u7 u8 K52 n1 s5 x10 (x9.tmod x10)))

def fX12_lowest (s0 : ZS) (a0 : Int) (a2 : Int) (a4 : Int) : Option (Int × ZS) := if (lCmp a0 0) = 0 then (some (a4, s0)) else (zjn (fun (K22 : ZS → Int → Option (Int × ZS)) => if 0 ≤ (lCmp a0 0) then (K22 s0 a0) else (K22 s0 (wrapL (-a0)))) (fun (s3 : ZS) (w4 : Int) => lX12_lowest_27 a0 a2 a4 (fun (s14 : ZS) (x15 : Int) => if a4 = 0 then (if x15 = 0 then none else (some ((wrapL (a0.tdiv x15)), s14))) else (if x15 = 0 then none else (some ((wrapL (a2.tdiv x15)), s14)))) 1000 s3 w4 a2))
set_option maxHeartbeats 4000000 in
set_option maxRecDepth 100000 in
theorem mX12_lowest (E : ZE) (hE : zOkE E) (l : Launch) (s0 : ZS) (a0 : Int) (a2 : Int) (a4 : Int) : Ct E l yX12_lowest cX12_lowest 11 (some .long) 2 [(1, a0), (1, a2), (0, a4)] 2 s0 (fX12_lowest s0 a0 a2 a4) := by
  refine Ct.of (by decide) hE (Nat.le_of_ble_eq_true rfl) ?_
  intro X G hX hR hN hXE hXl hxn hk _
  subst hXE
  subst hXl
  have hX : G → ZOk X cX12_lowest RX12 2 := hX
  clear hN
  show Zj X G 0 [(0, (1, a0)), (2, (1, a2)), (4, (0, a4))] [] s0 _
  unfold fX12_lowest
  refine z_lload_n (pc := 0) hX 0 dX12_lowest_0 rfl rfl ?_
  refine z_lconst (pc := 1) hX dX12_lowest_1 rfl ?_
  refine z_lcmp (pc := 2) hX dX12_lowest_2 ?_
  refine z_if_ne (pc := 3) hX 10 dX12_lowest_3 (by decide) (fun h1 => ?_) (fun h1 => ?_)
  · refine z_lload_n (pc := 10) hX 0 dX12_lowest_10 rfl rfl ?_
    refine z_lconst (pc := 11) hX dX12_lowest_11 rfl ?_
    refine z_lcmp (pc := 12) hX dX12_lowest_12 ?_
    refine z_jn (fun K22 eK22 => ?_)
    have hK22 : ∀ (s3 : ZS) (w4 : Int), Zj X G 22 [(0, (1, a0)), (2, (1, a2)), (4, (0, a4))] [(1, w4)] s3 (K22 s3 w4) := by
      intro s3 w4
      rw [eK22]
      refine z_lstore (lv' := [(5, (1, w4)), (0, (1, a0)), (2, (1, a2)), (4, (0, a4))]) (pc := 22) hX dX12_lowest_22 (zlt2 hxn rfl) rfl ?_
      refine z_lload_n (pc := 24) hX 2 dX12_lowest_24 rfl rfl ?_
      refine z_lstore (lv' := [(7, (1, a2)), (5, (1, w4)), (0, (1, a0)), (2, (1, a2)), (4, (0, a4))]) (pc := 25) hX dX12_lowest_25 (zlt2 hxn rfl) rfl ?_
      have hl27 : ∀ (u6 u7 u8 : Int), ∀ (K52 : ZS → Int → Option (Int × ZS)), (∀ (s12 : ZS) (x13 : Int), Zj X G 52 [(0, (1, u6)), (2, (1, u7)), (4, (0, u8)), (5, (1, x13))] [] s12 (K52 s12 x13)) → ∀ (n1 : Nat) (s5 : ZS) (x9 x10 : Int), Zj X G 27 [(0, (1, u6)), (2, (1, u7)), (4, (0, u8)), (5, (1, x9)), (7, (1, x10))] [] s5 (lX12_lowest_27 u6 u7 u8 K52 n1 s5 x9 x10) := by
        intro u6 u7 u8 K52 hK52 n1
        induction n1 with
        | zero => intro _ _ _; exact z_none
        | succ n1 ih1 =>
          intro s5 x9 x10
          rw [lX12_lowest_27]
          refine z_lload (pc := 27) hX 4 dX12_lowest_27 rfl ?_
          refine z_lconst (pc := 29) hX dX12_lowest_29 rfl ?_
          refine z_lcmp (pc := 30) hX dX12_lowest_30 ?_
          refine z_if_eq (pc := 31) hX 52 dX12_lowest_31 (by decide) (fun h11 => ?_) (fun h11 => ?_)
          · refine z_pick (lv' := [(0, (1, u6)), (2, (1, u7)), (4, (0, u8)), (5, (1, x9))]) [0, 1, 2, 3] rfl ?_
            exact hK52 _ _
          · refine z_lload (pc := 34) hX 3 dX12_lowest_34 rfl ?_
            refine z_lload (pc := 36) hX 4 dX12_lowest_36 rfl ?_
            refine z_lrem (pc := 38) hX dX12_lowest_38 (fun _ => ?_)
            refine z_lstore (lv' := [(9, (1, (x9.tmod x10))), (0, (1, u6)), (2, (1, u7)), (4, (0, u8)), (5, (1, x9)), (7, (1, x10))]) (pc := 39) hX dX12_lowest_39 (zlt2 hxn rfl) rfl ?_
            refine z_lload (pc := 41) hX 5 dX12_lowest_41 rfl ?_
            refine z_lstore (lv' := [(5, (1, x10)), (9, (1, (x9.tmod x10))), (0, (1, u6)), (2, (1, u7)), (4, (0, u8)), (7, (1, x10))]) (pc := 43) hX dX12_lowest_43 (zlt2 hxn rfl) rfl ?_
            refine z_lload (pc := 45) hX 1 dX12_lowest_45 rfl ?_
            refine z_lstore (lv' := [(7, (1, (x9.tmod x10))), (5, (1, x10)), (9, (1, (x9.tmod x10))), (0, (1, u6)), (2, (1, u7)), (4, (0, u8))]) (pc := 47) hX dX12_lowest_47 (zlt2 hxn rfl) rfl ?_
            refine z_goto (pc := 49) hX 27 dX12_lowest_49 (by decide) ?_
            refine z_pick (lv' := [(0, (1, u6)), (2, (1, u7)), (4, (0, u8)), (5, (1, x10)), (7, (1, (x9.tmod x10)))]) [3, 4, 5, 1, 0] rfl ?_
            exact ih1 _ _ _
      refine z_pick (lv' := [(0, (1, a0)), (2, (1, a2)), (4, (0, a4)), (5, (1, w4)), (7, (1, a2))]) [2, 3, 4, 1, 0] rfl ?_
      refine hl27 _ _ _ _ (fun s14 x15 => ?_) 1000 _ _ _
      refine z_iload (pc := 52) hX 2 dX12_lowest_52 rfl ?_
      refine z_if_ne (pc := 54) hX 61 dX12_lowest_54 (by decide) (fun h16 => ?_) (fun h16 => ?_)
      · refine z_lload_n (pc := 61) hX 1 dX12_lowest_61 rfl rfl ?_
        refine z_lload (pc := 62) hX 3 dX12_lowest_62 rfl ?_
        refine z_ldiv (pc := 64) hX dX12_lowest_64 (fun _ => ?_)
        exact z_lret (pc := 65) hX hR hk dX12_lowest_65
      · refine z_lload_n (pc := 57) hX 0 dX12_lowest_57 rfl rfl ?_
        refine z_goto (pc := 58) hX 62 dX12_lowest_58 (by decide) ?_
        refine z_lload (pc := 62) hX 3 dX12_lowest_62 rfl ?_
        refine z_ldiv (pc := 64) hX dX12_lowest_64 (fun _ => ?_)
        exact z_lret (pc := 65) hX hR hk dX12_lowest_65
    clear eK22
    refine z_if_ge (pc := 13) hX 21 dX12_lowest_13 (by decide) (fun h2 => ?_) (fun h2 => ?_)
    · refine z_lload_n (pc := 21) hX 0 dX12_lowest_21 rfl rfl ?_
      exact hK22 _ _
    · refine z_lload_n (pc := 16) hX 0 dX12_lowest_16 rfl rfl ?_
      refine z_lneg (pc := 17) hX dX12_lowest_17 ?_
      refine z_goto (pc := 18) hX 22 dX12_lowest_18 (by decide) ?_
      exact hK22 _ _
  · refine z_iload (pc := 6) hX 2 dX12_lowest_6 rfl ?_
    refine z_i2lR (pc := 8) hX dX12_lowest_8 ?_
    exact z_lret (pc := 9) hX hR hk dX12_lowest_9
