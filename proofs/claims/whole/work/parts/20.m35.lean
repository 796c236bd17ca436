theorem dX12_sticks_0 : decode cX12_sticks 0 = .ok (.aload_n 0, 1) := by decide +kernel
theorem dX12_sticks_1 : decode cX12_sticks 1 = .ok (.iload_n 1, 1) := by decide +kernel
theorem dX12_sticks_2 : decode cX12_sticks 2 = .ok (.invokevirtual 217, 3) := by decide +kernel
theorem dX12_sticks_5 : decode cX12_sticks 5 = .ok (.ifCond .eq 32, 3) := by decide +kernel
theorem dX12_sticks_8 : decode cX12_sticks 8 = .ok (.iload_n 2, 1) := by decide +kernel
theorem dX12_sticks_9 : decode cX12_sticks 9 = .ok (.iload_n 3, 1) := by decide +kernel
theorem dX12_sticks_10 : decode cX12_sticks 10 = .ok (.invokestatic 131, 3) := by decide +kernel
theorem dX12_sticks_13 : decode cX12_sticks 13 = .ok (.ifCond .eq 24, 3) := by decide +kernel
theorem dX12_sticks_16 : decode cX12_sticks 16 = .ok (.iload 4, 2) := by decide +kernel
theorem dX12_sticks_18 : decode cX12_sticks 18 = .ok (.iconst 0, 1) := by decide +kernel
theorem dX12_sticks_19 : decode cX12_sticks 19 = .ok (.bipush 10, 2) := by decide +kernel
theorem dX12_sticks_21 : decode cX12_sticks 21 = .ok (.invokestatic 127, 3) := by decide +kernel
theorem dX12_sticks_24 : decode cX12_sticks 24 = .ok (.ifCond .eq 13, 3) := by decide +kernel
theorem dX12_sticks_27 : decode cX12_sticks 27 = .ok (.iload 5, 2) := by decide +kernel
theorem dX12_sticks_29 : decode cX12_sticks 29 = .ok (.iconst 0, 1) := by decide +kernel
theorem dX12_sticks_30 : decode cX12_sticks 30 = .ok (.iconst 1, 1) := by decide +kernel
theorem dX12_sticks_31 : decode cX12_sticks 31 = .ok (.invokestatic 127, 3) := by decide +kernel
theorem dX12_sticks_34 : decode cX12_sticks 34 = .ok (.ifCond .ne 7, 3) := by decide +kernel
theorem dX12_sticks_37 : decode cX12_sticks 37 = .ok (.ldc2_w 264, 3) := by decide +kernel
theorem dX12_sticks_40 : decode cX12_sticks 40 = .ok (.lreturn, 1) := by decide +kernel
theorem dX12_sticks_41 : decode cX12_sticks 41 = .ok (.iload 4, 2) := by decide +kernel
theorem dX12_sticks_43 : decode cX12_sticks 43 = .ok (.i2l, 1) := by decide +kernel
theorem dX12_sticks_44 : decode cX12_sticks 44 = .ok (.aload_n 0, 1) := by decide +kernel
theorem dX12_sticks_45 : decode cX12_sticks 45 = .ok (.iload_n 1, 1) := by decide +kernel
theorem dX12_sticks_46 : decode cX12_sticks 46 = .ok (.iload_n 2, 1) := by decide +kernel
theorem dX12_sticks_47 : decode cX12_sticks 47 = .ok (.iload_n 3, 1) := by decide +kernel
theorem dX12_sticks_48 : decode cX12_sticks 48 = .ok (.iconst 0, 1) := by decide +kernel
theorem dX12_sticks_49 : decode cX12_sticks 49 = .ok (.invokevirtual 287, 3) := by decide +kernel
theorem dX12_sticks_52 : decode cX12_sticks 52 = .ok (.lmul, 1) := by decide +kernel
theorem dX12_sticks_53 : decode cX12_sticks 53 = .ok (.bipush 10, 2) := by decide +kernel
theorem dX12_sticks_55 : decode cX12_sticks 55 = .ok (.iload 4, 2) := by decide +kernel
theorem dX12_sticks_57 : decode cX12_sticks 57 = .ok (.isub, 1) := by decide +kernel
theorem dX12_sticks_58 : decode cX12_sticks 58 = .ok (.i2l, 1) := by decide +kernel
theorem dX12_sticks_59 : decode cX12_sticks 59 = .ok (.aload_n 0, 1) := by decide +kernel
theorem dX12_sticks_60 : decode cX12_sticks 60 = .ok (.iload_n 1, 1) := by decide +kernel
theorem dX12_sticks_61 : decode cX12_sticks 61 = .ok (.invokevirtual 266, 3) := by decide +kernel
theorem dX12_sticks_64 : decode cX12_sticks 64 = .ok (.lmul, 1) := by decide +kernel
theorem dX12_sticks_65 : decode cX12_sticks 65 = .ok (.ladd, 1) := by decide +kernel
theorem dX12_sticks_66 : decode cX12_sticks 66 = .ok (.ldc2_w 291, 3) := by decide +kernel
theorem dX12_sticks_69 : decode cX12_sticks 69 = .ok (.iload 5, 2) := by decide +kernel
theorem dX12_sticks_71 : decode cX12_sticks 71 = .ok (.invokestatic 293, 3) := by decide +kernel
theorem dX12_sticks_74 : decode cX12_sticks 74 = .ok (.lreturn, 1) := by decide +kernel
def fX12_sticks (s0 : ZS) (a0 : Int) (a1 : Int) (a2 : Int) (a3 : Int) (a4 : Int) (a5 : Int) : Option (Int × ZS) := zb (zv s0 12 a0 (fX12_isWay s0 a0 a1)) (fun v1 s2 => if v1 = 0 then (some ((-4611686018427387904), s2)) else (zb (fX12_isGate s2 a2 a3) (fun v5 s6 => if v5 = 0 then (some ((-4611686018427387904), s6)) else (zb (fX12_in s6 a4 0 10) (fun v9 s10 => if v9 = 0 then (some ((-4611686018427387904), s10)) else (zb (fX12_in s10 a5 0 1) (fun v13 s14 => if v13 = 0 then (some ((-4611686018427387904), s14)) else (zb (zv s14 12 a0 (fX12_costWith s14 a0 a1 a2 a3 0)) (fun v17 s18 => zb (zv s18 12 a0 (fX12_costNow s18 a0 a1)) (fun v20 s21 => zb (fX12_lowest s21 (wrapL ((wrapL (a4 * v17)) + (wrapL ((wrap (10 - a4)) * v20)))) 10 a5) (fun v23 s24 => some (v23, s24))))))))))))
set_option maxHeartbeats 4000000 in
set_option maxRecDepth 100000 in
theorem mX12_sticks (E : ZE) (hE : zOkE E) (l : Launch) (s0 : ZS) (a0 : Int) (a1 : Int) (a2 : Int) (a3 : Int) (a4 : Int) (a5 : Int) : Ct E l yX12_sticks cX12_sticks 6 (some .long) 14 [(2, a0), (0, a1), (0, a2), (0, a3), (0, a4), (0, a5)] 2 s0 (fX12_sticks s0 a0 a1 a2 a3 a4 a5) := by
  refine Ct.of (by decide) hE (Nat.le_of_ble_eq_true rfl) ?_
  intro X G hX hR hN hXE hXl hxn hk _
  subst hXE
  subst hXl
  have hX : G → ZOk X cX12_sticks RX12 14 := hX
  clear hN
  show Zj X G 0 [(0, (2, a0)), (1, (0, a1)), (2, (0, a2)), (3, (0, a3)), (4, (0, a4)), (5, (0, a5))] [] s0 _
  unfold fX12_sticks
  refine z_aload_n (pc := 0) hX 0 dX12_sticks_0 rfl rfl ?_
  refine z_iload_n (pc := 1) hX 1 dX12_sticks_1 rfl rfl ?_
  refine z_callV (n := 1) (st := []) (pc := 2) hX zc12 rfl (fun _ => (mX12_isWay _ hE _ _ _ _)) ⟨wd1268, wd67, wd1271, ⟨by decide, by decide, by decide⟩, by decide⟩ rfl wd1270 wd42 rfl rfl (by decide) (Nat.le_of_ble_eq_true rfl) dX12_sticks_2 (fun v1 s2 r3 => ?_)
  show Zj X G 5 [(0, (2, a0)), (1, (0, a1)), (2, (0, a2)), (3, (0, a3)), (4, (0, a4)), (5, (0, a5))] [(0, v1)] _ _
  refine z_if_eq (pc := 5) hX 37 dX12_sticks_5 (by decide) (fun h4 => ?_) (fun h4 => ?_)
  · refine z_ldc2 (n := -4611686018427387904) (pc := 37) hX dX12_sticks_37 wd1338 (by decide) ?_
    exact z_lret (pc := 40) hX hR hk dX12_sticks_40
  · refine z_iload_n (pc := 8) hX 2 dX12_sticks_8 rfl rfl ?_
    refine z_iload_n (pc := 9) hX 3 dX12_sticks_9 rfl rfl ?_
    refine z_callS (n := 2) (st := []) (pc := 10) hX (mX12_isGate _ hE _ _ _ _) ⟨wd1170, wd67, wd1172, ⟨by decide, by decide, by decide⟩, by decide⟩ wd1171 rfl rfl (by decide) (Nat.le_of_ble_eq_true rfl) dX12_sticks_10 (fun v5 s6 r7 => ?_)
    show Zj X G 13 [(0, (2, a0)), (1, (0, a1)), (2, (0, a2)), (3, (0, a3)), (4, (0, a4)), (5, (0, a5))] [(0, v5)] _ _
    refine z_if_eq (pc := 13) hX 37 dX12_sticks_13 (by decide) (fun h8 => ?_) (fun h8 => ?_)
    · refine z_ldc2 (n := -4611686018427387904) (pc := 37) hX dX12_sticks_37 wd1338 (by decide) ?_
      exact z_lret (pc := 40) hX hR hk dX12_sticks_40
    · refine z_iload (pc := 16) hX 4 dX12_sticks_16 rfl ?_
      refine z_iconst (pc := 18) hX dX12_sticks_18 ?_
      refine z_bipush (pc := 19) hX dX12_sticks_19 ?_
      refine z_callS (n := 3) (st := []) (pc := 21) hX (mX12_in _ hE _ _ _ _ _) ⟨wd1173, wd67, wd1175, ⟨by decide, by decide, by decide⟩, by decide⟩ wd1174 rfl rfl (by decide) (Nat.le_of_ble_eq_true rfl) dX12_sticks_21 (fun v9 s10 r11 => ?_)
      show Zj X G 24 [(0, (2, a0)), (1, (0, a1)), (2, (0, a2)), (3, (0, a3)), (4, (0, a4)), (5, (0, a5))] [(0, v9)] _ _
      refine z_if_eq (pc := 24) hX 37 dX12_sticks_24 (by decide) (fun h12 => ?_) (fun h12 => ?_)
      · refine z_ldc2 (n := -4611686018427387904) (pc := 37) hX dX12_sticks_37 wd1338 (by decide) ?_
        exact z_lret (pc := 40) hX hR hk dX12_sticks_40
      · refine z_iload (pc := 27) hX 5 dX12_sticks_27 rfl ?_
        refine z_iconst (pc := 29) hX dX12_sticks_29 ?_
        refine z_iconst (pc := 30) hX dX12_sticks_30 ?_
        refine z_callS (n := 3) (st := []) (pc := 31) hX (mX12_in _ hE _ _ _ _ _) ⟨wd1173, wd67, wd1175, ⟨by decide, by decide, by decide⟩, by decide⟩ wd1174 rfl rfl (by decide) (Nat.le_of_ble_eq_true rfl) dX12_sticks_31 (fun v13 s14 r15 => ?_)
        show Zj X G 34 [(0, (2, a0)), (1, (0, a1)), (2, (0, a2)), (3, (0, a3)), (4, (0, a4)), (5, (0, a5))] [(0, v13)] _ _
        refine z_if_ne (pc := 34) hX 41 dX12_sticks_34 (by decide) (fun h16 => ?_) (fun h16 => ?_)
        · refine z_iload (pc := 41) hX 4 dX12_sticks_41 rfl ?_
          refine z_i2lR (pc := 43) hX dX12_sticks_43 ?_
          refine z_aload_n (pc := 44) hX 0 dX12_sticks_44 rfl rfl ?_
          refine z_iload_n (pc := 45) hX 1 dX12_sticks_45 rfl rfl ?_
          refine z_iload_n (pc := 46) hX 2 dX12_sticks_46 rfl rfl ?_
          refine z_iload_n (pc := 47) hX 3 dX12_sticks_47 rfl rfl ?_
          refine z_iconst (pc := 48) hX dX12_sticks_48 ?_
          refine z_callV (n := 4) (st := [(1, a4)]) (pc := 49) hX zc12 rfl (fun _ => (mX12_costWith _ hE _ _ _ _ _ _ _)) ⟨wd1379, wd67, wd1382, ⟨by decide, by decide, by decide⟩, by decide⟩ rfl wd1381 wd58 rfl rfl (by decide) (Nat.le_of_ble_eq_true rfl) dX12_sticks_49 (fun v17 s18 r19 => ?_)
          show Zj X G 52 [(0, (2, a0)), (1, (0, a1)), (2, (0, a2)), (3, (0, a3)), (4, (0, a4)), (5, (0, a5))] [(1, v17), (1, a4)] _ _
          refine z_lmul (pc := 52) hX dX12_sticks_52 ?_
          refine z_bipush (pc := 53) hX dX12_sticks_53 ?_
          refine z_iload (pc := 55) hX 4 dX12_sticks_55 rfl ?_
          refine z_isub (pc := 57) hX dX12_sticks_57 ?_
          refine z_i2lR (pc := 58) hX dX12_sticks_58 ?_
          refine z_aload_n (pc := 59) hX 0 dX12_sticks_59 rfl rfl ?_
          refine z_iload_n (pc := 60) hX 1 dX12_sticks_60 rfl rfl ?_
          refine z_callV (n := 1) (st := [(1, (wrap (10 - a4))), (1, (wrapL (a4 * v17)))]) (pc := 61) hX zc12 rfl (fun _ => (mX12_costNow _ hE _ _ _ _)) ⟨wd1339, wd67, wd1342, ⟨by decide, by decide, by decide⟩, by decide⟩ rfl wd1341 wd53 rfl rfl (by decide) (Nat.le_of_ble_eq_true rfl) dX12_sticks_61 (fun v20 s21 r22 => ?_)
          show Zj X G 64 [(0, (2, a0)), (1, (0, a1)), (2, (0, a2)), (3, (0, a3)), (4, (0, a4)), (5, (0, a5))] [(1, v20), (1, (wrap (10 - a4))), (1, (wrapL (a4 * v17)))] _ _
          refine z_lmul (pc := 64) hX dX12_sticks_64 ?_
          refine z_ladd (pc := 65) hX dX12_sticks_65 ?_
          refine z_ldc2 (n := 10) (pc := 66) hX dX12_sticks_66 wd1387 (by decide) ?_
          refine z_iload (pc := 69) hX 5 dX12_sticks_69 rfl ?_
          refine z_callS (n := 3) (st := []) (pc := 71) hX (mX12_lowest _ hE _ _ _ _ _) ⟨wd1388, wd67, wd1390, ⟨by decide, by decide, by decide⟩, by decide⟩ wd1389 rfl rfl (by decide) (Nat.le_of_ble_eq_true rfl) dX12_sticks_71 (fun v23 s24 r25 => ?_)
          show Zj X G 74 [(0, (2, a0)), (1, (0, a1)), (2, (0, a2)), (3, (0, a3)), (4, (0, a4)), (5, (0, a5))] [(1, v23)] _ _
          exact z_lret (pc := 74) hX hR hk dX12_sticks_74
        · refine z_ldc2 (n := -4611686018427387904) (pc := 37) hX dX12_sticks_37 wd1338 (by decide) ?_
          exact z_lret (pc := 40) hX hR hk dX12_sticks_40

theorem dX11_shift_0 : decode cX11_shift 0 = .ok (.aload_n 0, 1) := by decide +kernel
theorem dX11_shift_1 : decode cX11_shift 1 = .ok (.iload_n 1, 1) := by decide +kernel
theorem dX11_shift_2 : decode cX11_shift 2 = .ok (.invokevirtual 177, 3) := by decide +kernel
theorem dX11_shift_5 : decode cX11_shift 5 = .ok (.astore_n 3, 1) := by decide +kernel
theorem dX11_shift_6 : decode cX11_shift 6 = .ok (.aload_n 3, 1) := by decide +kernel
theorem dX11_shift_7 : decode cX11_shift 7 = .ok (.ifnull 15, 3) := by decide +kernel
theorem dX11_shift_10 : decode cX11_shift 10 = .ok (.iload_n 2, 1) := by decide +kernel
theorem dX11_shift_11 : decode cX11_shift 11 = .ok (.bipush (-24), 2) := by decide +kernel
theorem dX11_shift_13 : decode cX11_shift 13 = .ok (.if_icmp .le 9, 3) := by decide +kernel
theorem dX11_shift_16 : decode cX11_shift 16 = .ok (.iload_n 2, 1) := by decide +kernel
theorem dX11_shift_17 : decode cX11_shift 17 = .ok (.bipush 24, 2) := by decide +kernel
theorem dX11_shift_19 : decode cX11_shift 19 = .ok (.if_icmp .lt 7, 3) := by decide +kernel
theorem dX11_shift_22 : decode cX11_shift 22 = .ok (.ldc2_w 219, 3) := by decide +kernel
theorem dX11_shift_25 : decode cX11_shift 25 = .ok (.lreturn, 1) := by decide +kernel
theorem dX11_shift_26 : decode cX11_shift 26 = .ok (.aload_n 0, 1) := by decide +kernel
theorem dX11_shift_27 : decode cX11_shift 27 = .ok (.getfield 20, 3) := by decide +kernel
theorem dX11_shift_30 : decode cX11_shift 30 = .ok (.iload_n 2, 1) := by decide +kernel
theorem dX11_shift_31 : decode cX11_shift 31 = .ok (.putfield 255, 3) := by decide +kernel
theorem dX11_shift_34 : decode cX11_shift 34 = .ok (.aload_n 0, 1) := by decide +kernel
theorem dX11_shift_35 : decode cX11_shift 35 = .ok (.aload_n 3, 1) := by decide +kernel
theorem dX11_shift_36 : decode cX11_shift 36 = .ok (.invokevirtual 249, 3) := by decide +kernel
theorem dX11_shift_39 : decode cX11_shift 39 = .ok (.lstore 4, 2) := by decide +kernel
theorem dX11_shift_41 : decode cX11_shift 41 = .ok (.aload_n 0, 1) := by decide +kernel
theorem dX11_shift_42 : decode cX11_shift 42 = .ok (.getfield 20, 3) := by decide +kernel
theorem dX11_shift_45 : decode cX11_shift 45 = .ok (.iconst 0, 1) := by decide +kernel
theorem dX11_shift_46 : decode cX11_shift 46 = .ok (.putfield 255, 3) := by decide +kernel
theorem dX11_shift_49 : decode cX11_shift 49 = .ok (.lload 4, 2) := by decide +kernel
theorem dX11_shift_51 : decode cX11_shift 51 = .ok (.lreturn, 1) := by decide +kernel
def fX11_shift (s0 : ZS) (a0 : Int) (a1 : Int) (a2 : Int) : Option (Int × ZS) := zb (zv s0 11 a0 (fX11_wayAt s0 a0 a1)) (fun v1 s2 => if v1 < 0 then (some ((-4611686018427387904), s2)) else (if a2 ≤ (-24) then (some ((-4611686018427387904), s2)) else (if a2 < 24 then ((zg s2 11 a0 1).bind (fun v7 => (zp s2 5 v7 8 a2).bind (fun s8 => zb (zv s8 11 a0 (fX11_costOfAll s8 a0 v1)) (fun v9 s10 => (zg s10 11 a0 1).bind (fun v12 => (zp s10 5 v12 8 0).bind (fun s13 => some (v9, s13))))))) else (some ((-4611686018427387904), s2)))))
set_option maxHeartbeats 4000000 in
set_option maxRecDepth 100000 in
theorem mX11_shift (E : ZE) (hE : zOkE E) (l : Launch) (s0 : ZS) (a0 : Int) (a1 : Int) (a2 : Int) : Ct E l yX11_shift cX11_shift 6 (some .long) 12 [(2, a0), (0, a1), (0, a2)] 2 s0 (fX11_shift s0 a0 a1 a2) := by
  refine Ct.of (by decide) hE (Nat.le_of_ble_eq_true rfl) ?_
  intro X G hX hR hN hXE hXl hxn hk _
  subst hXE
  subst hXl
  have hX : G → ZOk X cX11_shift RX11 12 := hX
  clear hN
  show Zj X G 0 [(0, (2, a0)), (1, (0, a1)), (2, (0, a2))] [] s0 _
  unfold fX11_shift
  refine z_aload_n (pc := 0) hX 0 dX11_shift_0 rfl rfl ?_
  refine z_iload_n (pc := 1) hX 1 dX11_shift_1 rfl rfl ?_
  refine z_callV (n := 1) (st := []) (pc := 2) hX zc11 rfl (fun _ => (mX11_wayAt _ hE _ _ _ _)) ⟨wd681, wd61, wd684, ⟨by decide, by decide, by decide⟩, by decide⟩ rfl wd683 wd18 rfl rfl (by decide) (Nat.le_of_ble_eq_true rfl) dX11_shift_2 (fun v1 s2 r3 => ?_)
  show Zj X G 5 [(0, (2, a0)), (1, (0, a1)), (2, (0, a2))] [(2, v1)] _ _
  refine z_astore_n (lv' := [(3, (2, v1)), (0, (2, a0)), (1, (0, a1)), (2, (0, a2))]) (pc := 5) hX dX11_shift_5 rfl (zlt hxn rfl) rfl ?_
  refine z_aload_n (pc := 6) hX 0 dX11_shift_6 rfl rfl ?_
  refine z_ifnull (pc := 7) hX 22 dX11_shift_7 (by decide) (fun h4 => ?_) (fun h4 => ?_)
  · refine z_ldc2 (n := -4611686018427387904) (pc := 22) hX dX11_shift_22 wd846 (by decide) ?_
    exact z_lret (pc := 25) hX hR hk dX11_shift_25
  · refine z_iload_n (pc := 10) hX 3 dX11_shift_10 rfl rfl ?_
    refine z_bipush (pc := 11) hX dX11_shift_11 ?_
    refine z_icmp_le (pc := 13) hX 22 dX11_shift_13 (by decide) (fun h5 => ?_) (fun h5 => ?_)
    · refine z_ldc2 (n := -4611686018427387904) (pc := 22) hX dX11_shift_22 wd846 (by decide) ?_
      exact z_lret (pc := 25) hX hR hk dX11_shift_25
    · refine z_iload_n (pc := 16) hX 3 dX11_shift_16 rfl rfl ?_
      refine z_bipush (pc := 17) hX dX11_shift_17 ?_
      refine z_icmp_lt (pc := 19) hX 26 dX11_shift_19 (by decide) (fun h6 => ?_) (fun h6 => ?_)
      · refine z_aload_n (pc := 26) hX 1 dX11_shift_26 rfl rfl ?_
        refine z_get (pc := 27) hX zc11 1 (by decide) wd271 rfl rfl dX11_shift_27 (fun v7 => ?_)
        refine z_iload_n (pc := 30) hX 3 dX11_shift_30 rfl rfl ?_
        refine z_putA (pc := 31) hX zc5 8 (by decide) wd129 (Or.inl rfl) rfl rfl (fun _ => rfl) (fun _ => rfl) dX11_shift_31 (fun s8 => ?_)
        refine z_aload_n (pc := 34) hX 1 dX11_shift_34 rfl rfl ?_
        refine z_aload_n (pc := 35) hX 0 dX11_shift_35 rfl rfl ?_
        refine z_callV (n := 1) (st := []) (pc := 36) hX zc11 rfl (fun _ => (mX11_costOfAll _ hE _ _ _ _)) ⟨wd906, wd61, wd909, ⟨by decide, by decide, by decide⟩, by decide⟩ rfl wd908 wd29 rfl rfl (by decide) (Nat.le_of_ble_eq_true rfl) dX11_shift_36 (fun v9 s10 r11 => ?_)
        show Zj X G 39 [(3, (2, v1)), (0, (2, a0)), (1, (0, a1)), (2, (0, a2))] [(1, v9)] _ _
        refine z_lstore (lv' := [(4, (1, v9)), (3, (2, v1)), (0, (2, a0)), (1, (0, a1)), (2, (0, a2))]) (pc := 39) hX dX11_shift_39 (zlt2 hxn rfl) rfl ?_
        refine z_aload_n (pc := 41) hX 2 dX11_shift_41 rfl rfl ?_
        refine z_get (pc := 42) hX zc11 1 (by decide) wd271 rfl rfl dX11_shift_42 (fun v12 => ?_)
        refine z_iconst (pc := 45) hX dX11_shift_45 ?_
        refine z_putA (pc := 46) hX zc5 8 (by decide) wd129 (Or.inl rfl) rfl rfl (fun _ => rfl) (fun _ => rfl) dX11_shift_46 (fun s13 => ?_)
        refine z_lload (pc := 49) hX 0 dX11_shift_49 rfl ?_
        exact z_lret (pc := 51) hX hR hk dX11_shift_51
      · refine z_ldc2 (n := -4611686018427387904) (pc := 22) hX dX11_shift_22 wd846 (by decide) ?_
        exact z_lret (pc := 25) hX hR hk dX11_shift_25

theorem dX12_shift_0 : decode cX12_shift 0 = .ok (.aload_n 0, 1) := by decide +kernel
theorem dX12_shift_1 : decode cX12_shift 1 = .ok (.iload_n 1, 1) := by decide +kernel
theorem dX12_shift_2 : decode cX12_shift 2 = .ok (.invokevirtual 217, 3) := by decide +kernel
theorem dX12_shift_5 : decode cX12_shift 5 = .ok (.ifCond .eq 14, 3) := by decide +kernel
theorem dX12_shift_8 : decode cX12_shift 8 = .ok (.iload_n 2, 1) := by decide +kernel
theorem dX12_shift_9 : decode cX12_shift 9 = .ok (.bipush (-23), 2) := by decide +kernel
theorem dX12_shift_11 : decode cX12_shift 11 = .ok (.bipush 23, 2) := by decide +kernel
theorem dX12_shift_13 : decode cX12_shift 13 = .ok (.invokestatic 127, 3) := by decide +kernel
theorem dX12_shift_16 : decode cX12_shift 16 = .ok (.ifCond .ne 7, 3) := by decide +kernel
theorem dX12_shift_19 : decode cX12_shift 19 = .ok (.ldc2_w 264, 3) := by decide +kernel
theorem dX12_shift_22 : decode cX12_shift 22 = .ok (.lreturn, 1) := by decide +kernel
theorem dX12_shift_23 : decode cX12_shift 23 = .ok (.iconst 0, 1) := by decide +kernel
theorem dX12_shift_24 : decode cX12_shift 24 = .ok (.istore_n 3, 1) := by decide +kernel
theorem dX12_shift_25 : decode cX12_shift 25 = .ok (.iload_n 3, 1) := by decide +kernel
theorem dX12_shift_26 : decode cX12_shift 26 = .ok (.aload_n 0, 1) := by decide +kernel
theorem dX12_shift_27 : decode cX12_shift 27 = .ok (.getfield 135, 3) := by decide +kernel
theorem dX12_shift_30 : decode cX12_shift 30 = .ok (.if_icmp .ge 60, 3) := by decide +kernel
theorem dX12_shift_33 : decode cX12_shift 33 = .ok (.aload_n 0, 1) := by decide +kernel
theorem dX12_shift_34 : decode cX12_shift 34 = .ok (.getfield 118, 3) := by decide +kernel
theorem dX12_shift_37 : decode cX12_shift 37 = .ok (.iload_n 3, 1) := by decide +kernel
theorem dX12_shift_38 : decode cX12_shift 38 = .ok (.aload_n 0, 1) := by decide +kernel
theorem dX12_shift_39 : decode cX12_shift 39 = .ok (.getfield 16, 3) := by decide +kernel
theorem dX12_shift_42 : decode cX12_shift 42 = .ok (.iload_n 3, 1) := by decide +kernel
theorem dX12_shift_43 : decode cX12_shift 43 = .ok (.iaload, 1) := by decide +kernel
theorem dX12_shift_44 : decode cX12_shift 44 = .ok (.iastore, 1) := by decide +kernel
theorem dX12_shift_45 : decode cX12_shift 45 = .ok (.aload_n 0, 1) := by decide +kernel
theorem dX12_shift_46 : decode cX12_shift 46 = .ok (.getfield 16, 3) := by decide +kernel
theorem dX12_shift_49 : decode cX12_shift 49 = .ok (.iload_n 3, 1) := by decide +kernel
theorem dX12_shift_50 : decode cX12_shift 50 = .ok (.iaload, 1) := by decide +kernel
theorem dX12_shift_51 : decode cX12_shift 51 = .ok (.iload_n 2, 1) := by decide +kernel
theorem dX12_shift_52 : decode cX12_shift 52 = .ok (.iadd, 1) := by decide +kernel
theorem dX12_shift_53 : decode cX12_shift 53 = .ok (.istore 4, 2) := by decide +kernel
theorem dX12_shift_55 : decode cX12_shift 55 = .ok (.aload_n 0, 1) := by decide +kernel
theorem dX12_shift_56 : decode cX12_shift 56 = .ok (.getfield 16, 3) := by decide +kernel
theorem dX12_shift_59 : decode cX12_shift 59 = .ok (.iload_n 3, 1) := by decide +kernel
theorem dX12_shift_60 : decode cX12_shift 60 = .ok (.iload 4, 2) := by decide +kernel
theorem dX12_shift_62 : decode cX12_shift 62 = .ok (.ifCond .ge 7, 3) := by decide +kernel
theorem dX12_shift_65 : decode cX12_shift 65 = .ok (.iconst 0, 1) := by decide +kernel
theorem dX12_shift_66 : decode cX12_shift 66 = .ok (.goto 17, 3) := by decide +kernel
theorem dX12_shift_69 : decode cX12_shift 69 = .ok (.iload 4, 2) := by decide +kernel
theorem dX12_shift_71 : decode cX12_shift 71 = .ok (.bipush 23, 2) := by decide +kernel
theorem dX12_shift_73 : decode cX12_shift 73 = .ok (.if_icmp .le 8, 3) := by decide +kernel
theorem dX12_shift_76 : decode cX12_shift 76 = .ok (.bipush 23, 2) := by decide +kernel
theorem dX12_shift_78 : decode cX12_shift 78 = .ok (.goto 5, 3) := by decide +kernel
theorem dX12_shift_81 : decode cX12_shift 81 = .ok (.iload 4, 2) := by decide +kernel
theorem dX12_shift_83 : decode cX12_shift 83 = .ok (.iastore, 1) := by decide +kernel
theorem dX12_shift_84 : decode cX12_shift 84 = .ok (.iinc 3 1, 3) := by decide +kernel
theorem dX12_shift_87 : decode cX12_shift 87 = .ok (.goto (-62), 3) := by decide +kernel
theorem dX12_shift_90 : decode cX12_shift 90 = .ok (.aload_n 0, 1) := by decide +kernel
theorem dX12_shift_91 : decode cX12_shift 91 = .ok (.iload_n 1, 1) := by decide +kernel
theorem dX12_shift_92 : decode cX12_shift 92 = .ok (.invokevirtual 266, 3) := by decide +kernel
theorem dX12_shift_95 : decode cX12_shift 95 = .ok (.lstore_n 3, 1) := by decide +kernel
theorem dX12_shift_96 : decode cX12_shift 96 = .ok (.iconst 0, 1) := by decide +kernel
theorem dX12_shift_97 : decode cX12_shift 97 = .ok (.istore 5, 2) := by decide +kernel
theorem dX12_shift_99 : decode cX12_shift 99 = .ok (.iload 5, 2) := by decide +kernel
theorem dX12_shift_101 : decode cX12_shift 101 = .ok (.aload_n 0, 1) := by decide +kernel
theorem dX12_shift_102 : decode cX12_shift 102 = .ok (.getfield 135, 3) := by decide +kernel
theorem dX12_shift_105 : decode cX12_shift 105 = .ok (.if_icmp .ge 23, 3) := by decide +kernel
theorem dX12_shift_108 : decode cX12_shift 108 = .ok (.aload_n 0, 1) := by decide +kernel
theorem dX12_shift_109 : decode cX12_shift 109 = .ok (.getfield 16, 3) := by decide +kernel
theorem dX12_shift_112 : decode cX12_shift 112 = .ok (.iload 5, 2) := by decide +kernel
theorem dX12_shift_114 : decode cX12_shift 114 = .ok (.aload_n 0, 1) := by decide +kernel
theorem dX12_shift_115 : decode cX12_shift 115 = .ok (.getfield 118, 3) := by decide +kernel
theorem dX12_shift_118 : decode cX12_shift 118 = .ok (.iload 5, 2) := by decide +kernel
theorem dX12_shift_120 : decode cX12_shift 120 = .ok (.iaload, 1) := by decide +kernel
theorem dX12_shift_121 : decode cX12_shift 121 = .ok (.iastore, 1) := by decide +kernel
theorem dX12_shift_122 : decode cX12_shift 122 = .ok (.iinc 5 1, 3) := by decide +kernel
theorem dX12_shift_125 : decode cX12_shift 125 = .ok (.goto (-26), 3) := by decide +kernel
theorem dX12_shift_128 : decode cX12_shift 128 = .ok (.lload_n 3, 1) := by decide +kernel
theorem dX12_shift_129 : decode cX12_shift 129 = .ok (.lreturn, 1) := by decide +kernel
def lX12_shift_25 (u10 u11 u12 : Int) (K90 : ZS → Option (Int × ZS)) : Nat → ZS → Int → Option (Int × ZS)
  | 0, _, _ => none
  | n1 + 1, s9, x13 => (zg s9 12 u10 2).bind (fun v14 => if v14 ≤ x13 then (K90 s9) else ((zg s9 12 u10 48).bind (fun v16 => (zg s9 12 u10 3).bind (fun v17 => (zal s9 100 v17 x13).bind (fun v18 => (zas s9 100 v16 x13 v18).bind (fun s19 => (zg s19 12 u10 3).bind (fun v20 => (zal s19 100 v20 x13).bind (fun v21 => (zg s19 12 u10 3).bind (fun v22 => zjn (fun (K83 : ZS → Int → Option (Int × ZS)) => if 0 ≤ (wrap (v21 + u12)) then (if (wrap (v21 + u12)) ≤ 23 then (K83 s19 (wrap (v21 + u12))) else (K83 s19 23)) else (K83 s19 0)) (fun (s25 : ZS) (w26 : Int) => (zas s25 100 v22 x13 w26).bind (fun s27 => lX12_shift_25 u10 u11 u12 K90 n1 s27 (wrap (x13 + 1)))))))))))))

def lX12_shift_99 (u34 u35 : Int)  : Nat → ZS → Int → Option (Int × ZS)
  | 0, _, _ => none
  | n1 + 1, s33, x36 => (zg s33 12 u34 2).bind (fun v37 => if v37 ≤ x36 then (some (u35, s33)) else ((zg s33 12 u34 3).bind (fun v39 => (zg s33 12 u34 48).bind (fun v40 => (zal s33 100 v40 x36).bind (fun v41 => (zas s33 100 v39 x36 v41).bind (fun s42 => lX12_shift_99 u34 u35 n1 s42 (wrap (x36 + 1))))))))

def fX12_shift (s0 : ZS) (a0 : Int) (a1 : Int) (a2 : Int) : Option (Int × ZS) := zb (zv s0 12 a0 (fX12_isWay s0 a0 a1)) (fun v1 s2 => if v1 = 0 then (some ((-4611686018427387904), s2)) else (zb (fX12_in s2 a2 (-23) 23) (fun v5 s6 => if v5 = 0 then (some ((-4611686018427387904), s6)) else (lX12_shift_25 a0 a1 a2 (fun (s29 : ZS) => zb (zv s29 12 a0 (fX12_costNow s29 a0 a1)) (fun v30 s31 => lX12_shift_99 a0 v30 1000 s31 0)) 1000 s6 0))))
set_option maxHeartbeats 4000000 in
set_option maxRecDepth 100000 in
theorem mX12_shift (E : ZE) (hE : zOkE E) (l : Launch) (s0 : ZS) (a0 : Int) (a1 : Int) (a2 : Int) : Ct E l yX12_shift cX12_shift 6 (some .long) 12 [(2, a0), (0, a1), (0, a2)] 2 s0 (fX12_shift s0 a0 a1 a2) := by
  refine Ct.of (by decide) hE (Nat.le_of_ble_eq_true rfl) ?_
  intro X G hX hR hN hXE hXl hxn hk _
  subst hXE
  subst hXl
  have hX : G → ZOk X cX12_shift RX12 12 := hX
  clear hN
  show Zj X G 0 [(0, (2, a0)), (1, (0, a1)), (2, (0, a2))] [] s0 _
  unfold fX12_shift
  refine z_aload_n (pc := 0) hX 0 dX12_shift_0 rfl rfl ?_
  refine z_iload_n (pc := 1) hX 1 dX12_shift_1 rfl rfl ?_
  refine z_callV (n := 1) (st := []) (pc := 2) hX zc12 rfl (fun _ => (mX12_isWay _ hE _ _ _ _)) ⟨wd1268, wd67, wd1271, ⟨by decide, by decide, by decide⟩, by decide⟩ rfl wd1270 wd42 rfl rfl (by decide) (Nat.le_of_ble_eq_true rfl) dX12_shift_2 (fun v1 s2 r3 => ?_)
  show Zj X G 5 [(0, (2, a0)), (1, (0, a1)), (2, (0, a2))] [(0, v1)] _ _
  refine z_if_eq (pc := 5) hX 19 dX12_shift_5 (by decide) (fun h4 => ?_) (fun h4 => ?_)
  · refine z_ldc2 (n := -4611686018427387904) (pc := 19) hX dX12_shift_19 wd1338 (by decide) ?_
    exact z_lret (pc := 22) hX hR hk dX12_shift_22
  · refine z_iload_n (pc := 8) hX 2 dX12_shift_8 rfl rfl ?_
    refine z_bipush (pc := 9) hX dX12_shift_9 ?_
    refine z_bipush (pc := 11) hX dX12_shift_11 ?_
    refine z_callS (n := 3) (st := []) (pc := 13) hX (mX12_in _ hE _ _ _ _ _) ⟨wd1173, wd67, wd1175, ⟨by decide, by decide, by decide⟩, by decide⟩ wd1174 rfl rfl (by decide) (Nat.le_of_ble_eq_true rfl) dX12_shift_13 (fun v5 s6 r7 => ?_)
    show Zj X G 16 [(0, (2, a0)), (1, (0, a1)), (2, (0, a2))] [(0, v5)] _ _
    refine z_if_ne (pc := 16) hX 23 dX12_shift_16 (by decide) (fun h8 => ?_) (fun h8 => ?_)
    · refine z_iconst (pc := 23) hX dX12_shift_23 ?_
      refine z_istore_n (lv' := [(3, (0, 0)), (0, (2, a0)), (1, (0, a1)), (2, (0, a2))]) (pc := 24) hX dX12_shift_24 rfl (zlt hxn rfl) rfl ?_
      have hl25 : ∀ (u10 u11 u12 : Int), ∀ (K90 : ZS → Option (Int × ZS)), (∀ (s28 : ZS), Zj X G 90 [(0, (2, u10)), (1, (0, u11))] [] s28 (K90 s28)) → ∀ (n1 : Nat) (s9 : ZS) (x13 : Int), Zj X G 25 [(0, (2, u10)), (1, (0, u11)), (2, (0, u12)), (3, (0, x13))] [] s9 (lX12_shift_25 u10 u11 u12 K90 n1 s9 x13) := by
        intro u10 u11 u12 K90 hK90 n1
        induction n1 with
        | zero => intro _ _; exact z_none
        | succ n1 ih1 =>
          intro s9 x13
          rw [lX12_shift_25]
          refine z_iload_n (pc := 25) hX 3 dX12_shift_25 rfl rfl ?_
          refine z_aload_n (pc := 26) hX 0 dX12_shift_26 rfl rfl ?_
          refine z_get (pc := 27) hX zc12 2 (by decide) wd1019 rfl rfl dX12_shift_27 (fun v14 => ?_)
          refine z_icmp_ge (pc := 30) hX 90 dX12_shift_30 (by decide) (fun h15 => ?_) (fun h15 => ?_)
          · refine z_pick (lv' := [(0, (2, u10)), (1, (0, u11))]) [0, 1] rfl ?_
            exact hK90 _
          · refine z_aload_n (pc := 33) hX 0 dX12_shift_33 rfl rfl ?_
            refine z_get (pc := 34) hX zc12 48 (by decide) wd1065 rfl rfl dX12_shift_34 (fun v16 => ?_)
            refine z_iload_n (pc := 37) hX 3 dX12_shift_37 rfl rfl ?_
            refine z_aload_n (pc := 38) hX 0 dX12_shift_38 rfl rfl ?_
            refine z_get (pc := 39) hX zc12 3 (by decide) wd1020 rfl rfl dX12_shift_39 (fun v17 => ?_)
            refine z_iload_n (pc := 42) hX 3 dX12_shift_42 rfl rfl ?_
            refine z_iald (pc := 43) hX dX12_shift_43 (fun v18 => ?_)
            refine z_iastA (pc := 44) hX dX12_shift_44 (fun s19 => ?_)
            refine z_aload_n (pc := 45) hX 0 dX12_shift_45 rfl rfl ?_
            refine z_get (pc := 46) hX zc12 3 (by decide) wd1020 rfl rfl dX12_shift_46 (fun v20 => ?_)
            refine z_iload_n (pc := 49) hX 3 dX12_shift_49 rfl rfl ?_
            refine z_iald (pc := 50) hX dX12_shift_50 (fun v21 => ?_)
            refine z_iload_n (pc := 51) hX 2 dX12_shift_51 rfl rfl ?_
            refine z_iadd (pc := 52) hX dX12_shift_52 ?_
            refine z_istore (lv' := [(4, (0, (wrap (v21 + u12)))), (0, (2, u10)), (1, (0, u11)), (2, (0, u12)), (3, (0, x13))]) (pc := 53) hX dX12_shift_53 (zlt hxn rfl) rfl ?_
            refine z_aload_n (pc := 55) hX 1 dX12_shift_55 rfl rfl ?_
            refine z_get (pc := 56) hX zc12 3 (by decide) wd1020 rfl rfl dX12_shift_56 (fun v22 => ?_)
            refine z_iload_n (pc := 59) hX 4 dX12_shift_59 rfl rfl ?_
            refine z_iload (pc := 60) hX 0 dX12_shift_60 rfl ?_
            refine z_jn (fun K83 eK83 => ?_)
            have hK83 : ∀ (s25 : ZS) (w26 : Int), Zj X G 83 [(0, (2, u10)), (1, (0, u11)), (2, (0, u12)), (3, (0, x13))] [(0, w26), (0, x13), (2, v22)] s25 (K83 s25 w26) := by
              intro s25 w26
              rw [eK83]
              refine z_iastA (pc := 83) hX dX12_shift_83 (fun s27 => ?_)
              refine z_iinc (lv' := [(3, (0, (wrap (x13 + 1)))), (0, (2, u10)), (1, (0, u11)), (2, (0, u12))]) (pc := 84) hX 3 dX12_shift_84 rfl (zlt hxn rfl) rfl ?_
              refine z_goto (pc := 87) hX 25 dX12_shift_87 (by decide) ?_
              refine z_pick (lv' := [(0, (2, u10)), (1, (0, u11)), (2, (0, u12)), (3, (0, (wrap (x13 + 1))))]) [1, 2, 3, 0] rfl ?_
              exact ih1 _ _
            clear eK83
            refine z_if_ge (pc := 62) hX 69 dX12_shift_62 (by decide) (fun h23 => ?_) (fun h23 => ?_)
            · refine z_iload (pc := 69) hX 0 dX12_shift_69 rfl ?_
              refine z_bipush (pc := 71) hX dX12_shift_71 ?_
              refine z_icmp_le (pc := 73) hX 81 dX12_shift_73 (by decide) (fun h24 => ?_) (fun h24 => ?_)
              · refine z_iload (pc := 81) hX 0 dX12_shift_81 rfl ?_
                refine z_pick (lv' := [(0, (2, u10)), (1, (0, u11)), (2, (0, u12)), (3, (0, x13))]) [1, 2, 3, 4] rfl ?_
                exact hK83 _ _
              · refine z_bipush (pc := 76) hX dX12_shift_76 ?_
                refine z_goto (pc := 78) hX 83 dX12_shift_78 (by decide) ?_
                refine z_pick (lv' := [(0, (2, u10)), (1, (0, u11)), (2, (0, u12)), (3, (0, x13))]) [1, 2, 3, 4] rfl ?_
                exact hK83 _ _
            · refine z_iconst (pc := 65) hX dX12_shift_65 ?_
              refine z_goto (pc := 66) hX 83 dX12_shift_66 (by decide) ?_
              refine z_pick (lv' := [(0, (2, u10)), (1, (0, u11)), (2, (0, u12)), (3, (0, x13))]) [1, 2, 3, 4] rfl ?_
              exact hK83 _ _
      refine z_pick (lv' := [(0, (2, a0)), (1, (0, a1)), (2, (0, a2)), (3, (0, 0))]) [1, 2, 3, 0] rfl ?_
      refine hl25 _ _ _ _ (fun s29 => ?_) 1000 _ _
      refine z_aload_n (pc := 90) hX 0 dX12_shift_90 rfl rfl ?_
      refine z_iload_n (pc := 91) hX 1 dX12_shift_91 rfl rfl ?_
      refine z_callV (n := 1) (st := []) (pc := 92) hX zc12 rfl (fun _ => (mX12_costNow _ hE _ _ _ _)) ⟨wd1339, wd67, wd1342, ⟨by decide, by decide, by decide⟩, by decide⟩ rfl wd1341 wd53 rfl rfl (by decide) (Nat.le_of_ble_eq_true rfl) dX12_shift_92 (fun v30 s31 r32 => ?_)
      show Zj X G 95 [(0, (2, a0)), (1, (0, a1))] [(1, v30)] _ _
      refine z_lstore_n (lv' := [(3, (1, v30)), (0, (2, a0)), (1, (0, a1))]) (pc := 95) hX dX12_shift_95 rfl (zlt2 hxn rfl) rfl ?_
      refine z_iconst (pc := 96) hX dX12_shift_96 ?_
      refine z_istore (lv' := [(5, (0, 0)), (3, (1, v30)), (0, (2, a0)), (1, (0, a1))]) (pc := 97) hX dX12_shift_97 (zlt hxn rfl) rfl ?_
      have hl99 : ∀ (u34 u35 : Int), ∀ (n1 : Nat) (s33 : ZS) (x36 : Int), Zj X G 99 [(0, (2, u34)), (3, (1, u35)), (5, (0, x36))] [] s33 (lX12_shift_99 u34 u35 n1 s33 x36) := by
        intro u34 u35 n1
        induction n1 with
        | zero => intro _ _; exact z_none
        | succ n1 ih1 =>
          intro s33 x36
          rw [lX12_shift_99]
          refine z_iload (pc := 99) hX 2 dX12_shift_99 rfl ?_
          refine z_aload_n (pc := 101) hX 0 dX12_shift_101 rfl rfl ?_
          refine z_get (pc := 102) hX zc12 2 (by decide) wd1019 rfl rfl dX12_shift_102 (fun v37 => ?_)
          refine z_icmp_ge (pc := 105) hX 128 dX12_shift_105 (by decide) (fun h38 => ?_) (fun h38 => ?_)
          · refine z_lload_n (pc := 128) hX 1 dX12_shift_128 rfl rfl ?_
            exact z_lret (pc := 129) hX hR hk dX12_shift_129
          · refine z_aload_n (pc := 108) hX 0 dX12_shift_108 rfl rfl ?_
            refine z_get (pc := 109) hX zc12 3 (by decide) wd1020 rfl rfl dX12_shift_109 (fun v39 => ?_)
            refine z_iload (pc := 112) hX 2 dX12_shift_112 rfl ?_
            refine z_aload_n (pc := 114) hX 0 dX12_shift_114 rfl rfl ?_
            refine z_get (pc := 115) hX zc12 48 (by decide) wd1065 rfl rfl dX12_shift_115 (fun v40 => ?_)
            refine z_iload (pc := 118) hX 2 dX12_shift_118 rfl ?_
            refine z_iald (pc := 120) hX dX12_shift_120 (fun v41 => ?_)
            refine z_iastA (pc := 121) hX dX12_shift_121 (fun s42 => ?_)
            refine z_iinc (lv' := [(5, (0, (wrap (x36 + 1)))), (0, (2, u34)), (3, (1, u35))]) (pc := 122) hX 2 dX12_shift_122 rfl (zlt hxn rfl) rfl ?_
            refine z_goto (pc := 125) hX 99 dX12_shift_125 (by decide) ?_
            refine z_pick (lv' := [(0, (2, u34)), (3, (1, u35)), (5, (0, (wrap (x36 + 1))))]) [1, 2, 0] rfl ?_
            exact ih1 _ _
      refine z_pick (lv' := [(0, (2, a0)), (3, (1, v30)), (5, (0, 0))]) [2, 1, 0] rfl ?_
      refine hl99 _ _ 1000 _ _
    · refine z_ldc2 (n := -4611686018427387904) (pc := 19) hX dX12_shift_19 wd1338 (by decide) ?_
      exact z_lret (pc := 22) hX hR hk dX12_shift_22
