theorem dX11_wishes_0 : decode cX11_wishes 0 = .ok (.aload_n 0, 1) := by decide +kernel
theorem dX11_wishes_1 : decode cX11_wishes 1 = .ok (.iload_n 1, 1) := by decide +kernel
theorem dX11_wishes_2 : decode cX11_wishes 2 = .ok (.invokevirtual 125, 3) := by decide +kernel
theorem dX11_wishes_5 : decode cX11_wishes 5 = .ok (.ifCond .ne 6, 3) := by decide +kernel
theorem dX11_wishes_8 : decode cX11_wishes 8 = .ok (.bipush (-5), 2) := by decide +kernel
theorem dX11_wishes_10 : decode cX11_wishes 10 = .ok (.ireturn, 1) := by decide +kernel
theorem dX11_wishes_11 : decode cX11_wishes 11 = .ok (.iload_n 2, 1) := by decide +kernel
theorem dX11_wishes_12 : decode cX11_wishes 12 = .ok (.invokestatic 99, 3) := by decide +kernel
theorem dX11_wishes_15 : decode cX11_wishes 15 = .ok (.ifCond .ne 6, 3) := by decide +kernel
theorem dX11_wishes_18 : decode cX11_wishes 18 = .ok (.bipush (-7), 2) := by decide +kernel
theorem dX11_wishes_20 : decode cX11_wishes 20 = .ok (.ireturn, 1) := by decide +kernel
theorem dX11_wishes_21 : decode cX11_wishes 21 = .ok (.aload_n 0, 1) := by decide +kernel
theorem dX11_wishes_22 : decode cX11_wishes 22 = .ok (.getfield 20, 3) := by decide +kernel
theorem dX11_wishes_25 : decode cX11_wishes 25 = .ok (.getfield 116, 3) := by decide +kernel
theorem dX11_wishes_28 : decode cX11_wishes 28 = .ok (.iload_n 1, 1) := by decide +kernel
theorem dX11_wishes_29 : decode cX11_wishes 29 = .ok (.iaload, 1) := by decide +kernel
theorem dX11_wishes_30 : decode cX11_wishes 30 = .ok (.istore_n 3, 1) := by decide +kernel
theorem dX11_wishes_31 : decode cX11_wishes 31 = .ok (.aload_n 0, 1) := by decide +kernel
theorem dX11_wishes_32 : decode cX11_wishes 32 = .ok (.getfield 20, 3) := by decide +kernel
theorem dX11_wishes_35 : decode cX11_wishes 35 = .ok (.getfield 116, 3) := by decide +kernel
theorem dX11_wishes_38 : decode cX11_wishes 38 = .ok (.iload_n 1, 1) := by decide +kernel
theorem dX11_wishes_39 : decode cX11_wishes 39 = .ok (.iload_n 2, 1) := by decide +kernel
theorem dX11_wishes_40 : decode cX11_wishes 40 = .ok (.iastore, 1) := by decide +kernel
theorem dX11_wishes_41 : decode cX11_wishes 41 = .ok (.iload_n 3, 1) := by decide +kernel
theorem dX11_wishes_42 : decode cX11_wishes 42 = .ok (.ireturn, 1) := by decide +kernel
def fX11_wishes (s0 : ZS) (a0 : Int) (a1 : Int) (a2 : Int) : Option (Int × ZS) := zb (zv s0 11 a0 (fX11_isSort s0 a0 a1)) (fun v1 s2 => if v1 = 0 then (some ((-5), s2)) else (zb (fX11_isMinute s2 a2) (fun v5 s6 => if v5 = 0 then (some ((-7), s6)) else ((zg s6 11 a0 1).bind (fun v9 => (zg s6 5 v9 3).bind (fun v10 => (zal s6 100 v10 a1).bind (fun v11 => (zg s6 11 a0 1).bind (fun v12 => (zg s6 5 v12 3).bind (fun v13 => (zas s6 100 v13 a1 a2).bind (fun s14 => some (v11, s14)))))))))))
set_option maxHeartbeats 4000000 in
set_option maxRecDepth 100000 in
theorem mX11_wishes (E : ZE) (hE : zOkE E) (l : Launch) (s0 : ZS) (a0 : Int) (a1 : Int) (a2 : Int) : Ct E l yX11_wishes cX11_wishes 4 (some .int) 6 [(2, a0), (0, a1), (0, a2)] 1 s0 (fX11_wishes s0 a0 a1 a2) := by
  refine Ct.of (by decide) hE (Nat.le_of_ble_eq_true rfl) ?_
  intro X G hX hR hN hXE hXl hxn hk _
  subst hXE
  subst hXl
  have hX : G → ZOk X cX11_wishes RX11 6 := hX
  clear hN
  show Zj X G 0 [(0, (2, a0)), (1, (0, a1)), (2, (0, a2))] [] s0 _
  unfold fX11_wishes
  refine z_aload_n (pc := 0) hX 0 dX11_wishes_0 rfl rfl ?_
  refine z_iload_n (pc := 1) hX 1 dX11_wishes_1 rfl rfl ?_
  refine z_callV (n := 1) (st := []) (pc := 2) hX zc11 rfl (fun _ => (mX11_isSort _ hE _ _ _ _)) ⟨wd347, wd61, wd350, ⟨by decide, by decide, by decide⟩, by decide⟩ rfl wd349 wd0 rfl rfl (by decide) (Nat.le_of_ble_eq_true rfl) dX11_wishes_2 (fun v1 s2 r3 => ?_)
  show Zj X G 5 [(0, (2, a0)), (1, (0, a1)), (2, (0, a2))] [(0, v1)] _ _
  refine z_if_ne (pc := 5) hX 11 dX11_wishes_5 (by decide) (fun h4 => ?_) (fun h4 => ?_)
  · refine z_iload_n (pc := 11) hX 2 dX11_wishes_11 rfl rfl ?_
    refine z_callS (n := 1) (st := []) (pc := 12) hX (mX11_isMinute _ hE _ _ _) ⟨wd332, wd61, wd334, ⟨by decide, by decide, by decide⟩, by decide⟩ wd333 rfl rfl (by decide) (Nat.le_of_ble_eq_true rfl) dX11_wishes_12 (fun v5 s6 r7 => ?_)
    show Zj X G 15 [(0, (2, a0)), (1, (0, a1)), (2, (0, a2))] [(0, v5)] _ _
    refine z_if_ne (pc := 15) hX 21 dX11_wishes_15 (by decide) (fun h8 => ?_) (fun h8 => ?_)
    · refine z_aload_n (pc := 21) hX 0 dX11_wishes_21 rfl rfl ?_
      refine z_get (pc := 22) hX zc11 1 (by decide) wd271 rfl rfl dX11_wishes_22 (fun v9 => ?_)
      refine z_get (pc := 25) hX zc5 3 (by decide) wd115 rfl rfl dX11_wishes_25 (fun v10 => ?_)
      refine z_iload_n (pc := 28) hX 1 dX11_wishes_28 rfl rfl ?_
      refine z_iald (pc := 29) hX dX11_wishes_29 (fun v11 => ?_)
      refine z_istore_n (lv' := [(3, (0, v11)), (0, (2, a0)), (1, (0, a1)), (2, (0, a2))]) (pc := 30) hX dX11_wishes_30 rfl (zlt hxn rfl) rfl ?_
      refine z_aload_n (pc := 31) hX 1 dX11_wishes_31 rfl rfl ?_
      refine z_get (pc := 32) hX zc11 1 (by decide) wd271 rfl rfl dX11_wishes_32 (fun v12 => ?_)
      refine z_get (pc := 35) hX zc5 3 (by decide) wd115 rfl rfl dX11_wishes_35 (fun v13 => ?_)
      refine z_iload_n (pc := 38) hX 2 dX11_wishes_38 rfl rfl ?_
      refine z_iload_n (pc := 39) hX 3 dX11_wishes_39 rfl rfl ?_
      refine z_iastA (pc := 40) hX dX11_wishes_40 (fun s14 => ?_)
      refine z_iload_n (pc := 41) hX 0 dX11_wishes_41 rfl rfl ?_
      exact z_iret (pc := 42) hX hR hk dX11_wishes_42
    · refine z_bipush (pc := 18) hX dX11_wishes_18 ?_
      exact z_iret (pc := 20) hX hR hk dX11_wishes_20
  · refine z_bipush (pc := 8) hX dX11_wishes_8 ?_
    exact z_iret (pc := 10) hX hR hk dX11_wishes_10

theorem dX12_wishes_0 : decode cX12_wishes 0 = .ok (.aload_n 0, 1) := by decide +kernel
theorem dX12_wishes_1 : decode cX12_wishes 1 = .ok (.iload_n 1, 1) := by decide +kernel
theorem dX12_wishes_2 : decode cX12_wishes 2 = .ok (.invokevirtual 138, 3) := by decide +kernel
theorem dX12_wishes_5 : decode cX12_wishes 5 = .ok (.ifCond .ne 6, 3) := by decide +kernel
theorem dX12_wishes_8 : decode cX12_wishes 8 = .ok (.bipush (-5), 2) := by decide +kernel
theorem dX12_wishes_10 : decode cX12_wishes 10 = .ok (.ireturn, 1) := by decide +kernel
theorem dX12_wishes_11 : decode cX12_wishes 11 = .ok (.iload_n 2, 1) := by decide +kernel
theorem dX12_wishes_12 : decode cX12_wishes 12 = .ok (.iconst 0, 1) := by decide +kernel
theorem dX12_wishes_13 : decode cX12_wishes 13 = .ok (.bipush 23, 2) := by decide +kernel
theorem dX12_wishes_15 : decode cX12_wishes 15 = .ok (.invokestatic 127, 3) := by decide +kernel
theorem dX12_wishes_18 : decode cX12_wishes 18 = .ok (.ifCond .ne 6, 3) := by decide +kernel
theorem dX12_wishes_21 : decode cX12_wishes 21 = .ok (.bipush (-7), 2) := by decide +kernel
theorem dX12_wishes_23 : decode cX12_wishes 23 = .ok (.ireturn, 1) := by decide +kernel
theorem dX12_wishes_24 : decode cX12_wishes 24 = .ok (.aload_n 0, 1) := by decide +kernel
theorem dX12_wishes_25 : decode cX12_wishes 25 = .ok (.getfield 16, 3) := by decide +kernel
theorem dX12_wishes_28 : decode cX12_wishes 28 = .ok (.iload_n 1, 1) := by decide +kernel
theorem dX12_wishes_29 : decode cX12_wishes 29 = .ok (.iaload, 1) := by decide +kernel
theorem dX12_wishes_30 : decode cX12_wishes 30 = .ok (.istore_n 3, 1) := by decide +kernel
theorem dX12_wishes_31 : decode cX12_wishes 31 = .ok (.aload_n 0, 1) := by decide +kernel
theorem dX12_wishes_32 : decode cX12_wishes 32 = .ok (.getfield 16, 3) := by decide +kernel
theorem dX12_wishes_35 : decode cX12_wishes 35 = .ok (.iload_n 1, 1) := by decide +kernel
theorem dX12_wishes_36 : decode cX12_wishes 36 = .ok (.iload_n 2, 1) := by decide +kernel
theorem dX12_wishes_37 : decode cX12_wishes 37 = .ok (.iastore, 1) := by decide +kernel
theorem dX12_wishes_38 : decode cX12_wishes 38 = .ok (.iload_n 3, 1) := by decide +kernel
theorem dX12_wishes_39 : decode cX12_wishes 39 = .ok (.ireturn, 1) := by decide +kernel
def fX12_wishes (s0 : ZS) (a0 : Int) (a1 : Int) (a2 : Int) : Option (Int × ZS) := zb (zv s0 12 a0 (fX12_isSort s0 a0 a1)) (fun v1 s2 => if v1 = 0 then (some ((-5), s2)) else (zb (fX12_in s2 a2 0 23) (fun v5 s6 => if v5 = 0 then (some ((-7), s6)) else ((zg s6 12 a0 3).bind (fun v9 => (zal s6 100 v9 a1).bind (fun v10 => (zg s6 12 a0 3).bind (fun v11 => (zas s6 100 v11 a1 a2).bind (fun s12 => some (v10, s12)))))))))
set_option maxHeartbeats 4000000 in
set_option maxRecDepth 100000 in
theorem mX12_wishes (E : ZE) (hE : zOkE E) (l : Launch) (s0 : ZS) (a0 : Int) (a1 : Int) (a2 : Int) : Ct E l yX12_wishes cX12_wishes 4 (some .int) 6 [(2, a0), (0, a1), (0, a2)] 1 s0 (fX12_wishes s0 a0 a1 a2) := by
  refine Ct.of (by decide) hE (Nat.le_of_ble_eq_true rfl) ?_
  intro X G hX hR hN hXE hXl hxn hk _
  subst hXE
  subst hXl
  have hX : G → ZOk X cX12_wishes RX12 6 := hX
  clear hN
  show Zj X G 0 [(0, (2, a0)), (1, (0, a1)), (2, (0, a2))] [] s0 _
  unfold fX12_wishes
  refine z_aload_n (pc := 0) hX 0 dX12_wishes_0 rfl rfl ?_
  refine z_iload_n (pc := 1) hX 1 dX12_wishes_1 rfl rfl ?_
  refine z_callV (n := 1) (st := []) (pc := 2) hX zc12 rfl (fun _ => (mX12_isSort _ hE _ _ _ _)) ⟨wd1188, wd67, wd1191, ⟨by decide, by decide, by decide⟩, by decide⟩ rfl wd1190 wd32 rfl rfl (by decide) (Nat.le_of_ble_eq_true rfl) dX12_wishes_2 (fun v1 s2 r3 => ?_)
  show Zj X G 5 [(0, (2, a0)), (1, (0, a1)), (2, (0, a2))] [(0, v1)] _ _
  refine z_if_ne (pc := 5) hX 11 dX12_wishes_5 (by decide) (fun h4 => ?_) (fun h4 => ?_)
  · refine z_iload_n (pc := 11) hX 2 dX12_wishes_11 rfl rfl ?_
    refine z_iconst (pc := 12) hX dX12_wishes_12 ?_
    refine z_bipush (pc := 13) hX dX12_wishes_13 ?_
    refine z_callS (n := 3) (st := []) (pc := 15) hX (mX12_in _ hE _ _ _ _ _) ⟨wd1173, wd67, wd1175, ⟨by decide, by decide, by decide⟩, by decide⟩ wd1174 rfl rfl (by decide) (Nat.le_of_ble_eq_true rfl) dX12_wishes_15 (fun v5 s6 r7 => ?_)
    show Zj X G 18 [(0, (2, a0)), (1, (0, a1)), (2, (0, a2))] [(0, v5)] _ _
    refine z_if_ne (pc := 18) hX 24 dX12_wishes_18 (by decide) (fun h8 => ?_) (fun h8 => ?_)
    · refine z_aload_n (pc := 24) hX 0 dX12_wishes_24 rfl rfl ?_
      refine z_get (pc := 25) hX zc12 3 (by decide) wd1020 rfl rfl dX12_wishes_25 (fun v9 => ?_)
      refine z_iload_n (pc := 28) hX 1 dX12_wishes_28 rfl rfl ?_
      refine z_iald (pc := 29) hX dX12_wishes_29 (fun v10 => ?_)
      refine z_istore_n (lv' := [(3, (0, v10)), (0, (2, a0)), (1, (0, a1)), (2, (0, a2))]) (pc := 30) hX dX12_wishes_30 rfl (zlt hxn rfl) rfl ?_
      refine z_aload_n (pc := 31) hX 1 dX12_wishes_31 rfl rfl ?_
      refine z_get (pc := 32) hX zc12 3 (by decide) wd1020 rfl rfl dX12_wishes_32 (fun v11 => ?_)
      refine z_iload_n (pc := 35) hX 2 dX12_wishes_35 rfl rfl ?_
      refine z_iload_n (pc := 36) hX 3 dX12_wishes_36 rfl rfl ?_
      refine z_iastA (pc := 37) hX dX12_wishes_37 (fun s12 => ?_)
      refine z_iload_n (pc := 38) hX 0 dX12_wishes_38 rfl rfl ?_
      exact z_iret (pc := 39) hX hR hk dX12_wishes_39
    · refine z_bipush (pc := 21) hX dX12_wishes_21 ?_
      exact z_iret (pc := 23) hX hR hk dX12_wishes_23
  · refine z_bipush (pc := 8) hX dX12_wishes_8 ?_
    exact z_iret (pc := 10) hX hR hk dX12_wishes_10

theorem dX11_gateTold_0 : decode cX11_gateTold 0 = .ok (.iload_n 1, 1) := by decide +kernel
theorem dX11_gateTold_1 : decode cX11_gateTold 1 = .ok (.invokestatic 95, 3) := by decide +kernel
theorem dX11_gateTold_4 : decode cX11_gateTold 4 = .ok (.ifCond .eq 10, 3) := by decide +kernel
theorem dX11_gateTold_7 : decode cX11_gateTold 7 = .ok (.iload_n 2, 1) := by decide +kernel
theorem dX11_gateTold_8 : decode cX11_gateTold 8 = .ok (.invokestatic 99, 3) := by decide +kernel
theorem dX11_gateTold_11 : decode cX11_gateTold 11 = .ok (.ifCond .ne 6, 3) := by decide +kernel
theorem dX11_gateTold_14 : decode cX11_gateTold 14 = .ok (.bipush (-5), 2) := by decide +kernel
theorem dX11_gateTold_16 : decode cX11_gateTold 16 = .ok (.ireturn, 1) := by decide +kernel
theorem dX11_gateTold_17 : decode cX11_gateTold 17 = .ok (.iload_n 3, 1) := by decide +kernel
theorem dX11_gateTold_18 : decode cX11_gateTold 18 = .ok (.lookupswitch 50 #[(0, 26), (1, 38)], 26) := by decide +kernel
theorem dX11_gateTold_44 : decode cX11_gateTold 44 = .ok (.aload_n 0, 1) := by decide +kernel
theorem dX11_gateTold_45 : decode cX11_gateTold 45 = .ok (.getfield 20, 3) := by decide +kernel
theorem dX11_gateTold_48 : decode cX11_gateTold 48 = .ok (.getfield 106, 3) := by decide +kernel
theorem dX11_gateTold_51 : decode cX11_gateTold 51 = .ok (.iload_n 1, 1) := by decide +kernel
theorem dX11_gateTold_52 : decode cX11_gateTold 52 = .ok (.aaload, 1) := by decide +kernel
theorem dX11_gateTold_53 : decode cX11_gateTold 53 = .ok (.iload_n 2, 1) := by decide +kernel
theorem dX11_gateTold_54 : decode cX11_gateTold 54 = .ok (.iaload, 1) := by decide +kernel
theorem dX11_gateTold_55 : decode cX11_gateTold 55 = .ok (.ireturn, 1) := by decide +kernel
theorem dX11_gateTold_56 : decode cX11_gateTold 56 = .ok (.aload_n 0, 1) := by decide +kernel
theorem dX11_gateTold_57 : decode cX11_gateTold 57 = .ok (.getfield 20, 3) := by decide +kernel
theorem dX11_gateTold_60 : decode cX11_gateTold 60 = .ok (.getfield 110, 3) := by decide +kernel
theorem dX11_gateTold_63 : decode cX11_gateTold 63 = .ok (.iload_n 1, 1) := by decide +kernel
theorem dX11_gateTold_64 : decode cX11_gateTold 64 = .ok (.aaload, 1) := by decide +kernel
theorem dX11_gateTold_65 : decode cX11_gateTold 65 = .ok (.iload_n 2, 1) := by decide +kernel
theorem dX11_gateTold_66 : decode cX11_gateTold 66 = .ok (.iaload, 1) := by decide +kernel
theorem dX11_gateTold_67 : decode cX11_gateTold 67 = .ok (.ireturn, 1) := by decide +kernel
theorem dX11_gateTold_68 : decode cX11_gateTold 68 = .ok (.bipush (-7), 2) := by decide +kernel
theorem dX11_gateTold_70 : decode cX11_gateTold 70 = .ok (.ireturn, 1) := by decide +kernel
def fX11_gateTold (s0 : ZS) (a0 : Int) (a1 : Int) (a2 : Int) (a3 : Int) : Option (Int × ZS) := zb (fX11_isGate s0 a1) (fun v1 s2 => if v1 = 0 then (some ((-5), s2)) else (zb (fX11_isMinute s2 a2) (fun v5 s6 => if v5 = 0 then (some ((-5), s6)) else (if a3 = 0 then ((zg s6 11 a0 1).bind (fun v10 => (zg s6 5 v10 0).bind (fun v11 => (zal s6 102 v11 a1).bind (fun v12 => (zal s6 100 v12 a2).bind (fun v13 => some (v13, s6)))))) else (if a3 = 1 then ((zg s6 11 a0 1).bind (fun v15 => (zg s6 5 v15 1).bind (fun v16 => (zal s6 102 v16 a1).bind (fun v17 => (zal s6 100 v17 a2).bind (fun v18 => some (v18, s6)))))) else (some ((-7), s6)))))))
set_option maxHeartbeats 4000000 in
set_option maxRecDepth 100000 in
theorem mX11_gateTold (E : ZE) (hE : zOkE E) (l : Launch) (s0 : ZS) (a0 : Int) (a1 : Int) (a2 : Int) (a3 : Int) : Ct E l yX11_gateTold cX11_gateTold 4 (some .int) 6 [(2, a0), (0, a1), (0, a2), (0, a3)] 1 s0 (fX11_gateTold s0 a0 a1 a2 a3) := by
  refine Ct.of (by decide) hE (Nat.le_of_ble_eq_true rfl) ?_
  intro X G hX hR hN hXE hXl hxn hk _
  subst hXE
  subst hXl
  have hX : G → ZOk X cX11_gateTold RX11 6 := hX
  clear hN
  show Zj X G 0 [(0, (2, a0)), (1, (0, a1)), (2, (0, a2)), (3, (0, a3))] [] s0 _
  unfold fX11_gateTold
  refine z_iload_n (pc := 0) hX 1 dX11_gateTold_0 rfl rfl ?_
  refine z_callS (n := 1) (st := []) (pc := 1) hX (mX11_isGate _ hE _ _ _) ⟨wd326, wd61, wd328, ⟨by decide, by decide, by decide⟩, by decide⟩ wd327 rfl rfl (by decide) (Nat.le_of_ble_eq_true rfl) dX11_gateTold_1 (fun v1 s2 r3 => ?_)
  show Zj X G 4 [(0, (2, a0)), (1, (0, a1)), (2, (0, a2)), (3, (0, a3))] [(0, v1)] _ _
  refine z_if_eq (pc := 4) hX 14 dX11_gateTold_4 (by decide) (fun h4 => ?_) (fun h4 => ?_)
  · refine z_bipush (pc := 14) hX dX11_gateTold_14 ?_
    exact z_iret (pc := 16) hX hR hk dX11_gateTold_16
  · refine z_iload_n (pc := 7) hX 2 dX11_gateTold_7 rfl rfl ?_
    refine z_callS (n := 1) (st := []) (pc := 8) hX (mX11_isMinute _ hE _ _ _) ⟨wd332, wd61, wd334, ⟨by decide, by decide, by decide⟩, by decide⟩ wd333 rfl rfl (by decide) (Nat.le_of_ble_eq_true rfl) dX11_gateTold_8 (fun v5 s6 r7 => ?_)
    show Zj X G 11 [(0, (2, a0)), (1, (0, a1)), (2, (0, a2)), (3, (0, a3))] [(0, v5)] _ _
    refine z_if_ne (pc := 11) hX 17 dX11_gateTold_11 (by decide) (fun h8 => ?_) (fun h8 => ?_)
    · refine z_iload_n (pc := 17) hX 3 dX11_gateTold_17 rfl rfl ?_
      by_cases h9 : a3 = 0
      · refine z_eq (if_pos h9) ?_
        refine z_lsw (off := 26) (pc := 18) hX 44 dX11_gateTold_18 (by decide) (by rw [h9]; first | done | rfl) (by decide) ?_
        refine z_aload_n (pc := 44) hX 0 dX11_gateTold_44 rfl rfl ?_
        refine z_get (pc := 45) hX zc11 1 (by decide) wd271 rfl rfl dX11_gateTold_45 (fun v10 => ?_)
        refine z_get (pc := 48) hX zc5 0 (by decide) wd106 rfl rfl dX11_gateTold_48 (fun v11 => ?_)
        refine z_iload_n (pc := 51) hX 1 dX11_gateTold_51 rfl rfl ?_
        refine z_aald (pc := 52) hX 2 102 (by decide) rfl rfl dX11_gateTold_52 (fun v12 => ?_)
        refine z_iload_n (pc := 53) hX 2 dX11_gateTold_53 rfl rfl ?_
        refine z_iald (pc := 54) hX dX11_gateTold_54 (fun v13 => ?_)
        exact z_iret (pc := 55) hX hR hk dX11_gateTold_55
      · refine z_eq (if_neg h9) ?_
        by_cases h14 : a3 = 1
        · refine z_eq (if_pos h14) ?_
          refine z_lsw (off := 38) (pc := 18) hX 56 dX11_gateTold_18 (by decide) (by rw [h14]; first | done | rfl) (by decide) ?_
          refine z_aload_n (pc := 56) hX 0 dX11_gateTold_56 rfl rfl ?_
          refine z_get (pc := 57) hX zc11 1 (by decide) wd271 rfl rfl dX11_gateTold_57 (fun v15 => ?_)
          refine z_get (pc := 60) hX zc5 1 (by decide) wd109 rfl rfl dX11_gateTold_60 (fun v16 => ?_)
          refine z_iload_n (pc := 63) hX 1 dX11_gateTold_63 rfl rfl ?_
          refine z_aald (pc := 64) hX 2 102 (by decide) rfl rfl dX11_gateTold_64 (fun v17 => ?_)
          refine z_iload_n (pc := 65) hX 2 dX11_gateTold_65 rfl rfl ?_
          refine z_iald (pc := 66) hX dX11_gateTold_66 (fun v18 => ?_)
          exact z_iret (pc := 67) hX hR hk dX11_gateTold_67
        · refine z_eq (if_neg h14) ?_
          refine z_lsw (off := 50) (pc := 18) hX 68 dX11_gateTold_18 (by decide) (by simp [Op.lookupswitch.offset, (show ¬ (0 : Int) = a3 from fun e => h9 e.symm), (show ¬ (1 : Int) = a3 from fun e => h14 e.symm)]) (by decide) ?_
          refine z_bipush (pc := 68) hX dX11_gateTold_68 ?_
          exact z_iret (pc := 70) hX hR hk dX11_gateTold_70
    · refine z_bipush (pc := 14) hX dX11_gateTold_14 ?_
      exact z_iret (pc := 16) hX hR hk dX11_gateTold_16

theorem dX12_gateTold_0 : decode cX12_gateTold 0 = .ok (.iload_n 1, 1) := by decide +kernel
theorem dX12_gateTold_1 : decode cX12_gateTold 1 = .ok (.iload_n 2, 1) := by decide +kernel
theorem dX12_gateTold_2 : decode cX12_gateTold 2 = .ok (.invokestatic 131, 3) := by decide +kernel
theorem dX12_gateTold_5 : decode cX12_gateTold 5 = .ok (.ifCond .ne 6, 3) := by decide +kernel
theorem dX12_gateTold_8 : decode cX12_gateTold 8 = .ok (.bipush (-5), 2) := by decide +kernel
theorem dX12_gateTold_10 : decode cX12_gateTold 10 = .ok (.ireturn, 1) := by decide +kernel
theorem dX12_gateTold_11 : decode cX12_gateTold 11 = .ok (.iload_n 3, 1) := by decide +kernel
theorem dX12_gateTold_12 : decode cX12_gateTold 12 = .ok (.ifCond .ne 17, 3) := by decide +kernel
theorem dX12_gateTold_15 : decode cX12_gateTold 15 = .ok (.aload_n 0, 1) := by decide +kernel
theorem dX12_gateTold_16 : decode cX12_gateTold 16 = .ok (.getfield 7, 3) := by decide +kernel
theorem dX12_gateTold_19 : decode cX12_gateTold 19 = .ok (.bipush 24, 2) := by decide +kernel
theorem dX12_gateTold_21 : decode cX12_gateTold 21 = .ok (.iload_n 1, 1) := by decide +kernel
theorem dX12_gateTold_22 : decode cX12_gateTold 22 = .ok (.imul, 1) := by decide +kernel
theorem dX12_gateTold_23 : decode cX12_gateTold 23 = .ok (.iload_n 2, 1) := by decide +kernel
theorem dX12_gateTold_24 : decode cX12_gateTold 24 = .ok (.iadd, 1) := by decide +kernel
theorem dX12_gateTold_25 : decode cX12_gateTold 25 = .ok (.iaload, 1) := by decide +kernel
theorem dX12_gateTold_26 : decode cX12_gateTold 26 = .ok (.goto 24, 3) := by decide +kernel
theorem dX12_gateTold_29 : decode cX12_gateTold 29 = .ok (.iload_n 3, 1) := by decide +kernel
theorem dX12_gateTold_30 : decode cX12_gateTold 30 = .ok (.iconst 1, 1) := by decide +kernel
theorem dX12_gateTold_31 : decode cX12_gateTold 31 = .ok (.if_icmp .ne 17, 3) := by decide +kernel
theorem dX12_gateTold_34 : decode cX12_gateTold 34 = .ok (.aload_n 0, 1) := by decide +kernel
theorem dX12_gateTold_35 : decode cX12_gateTold 35 = .ok (.getfield 13, 3) := by decide +kernel
theorem dX12_gateTold_38 : decode cX12_gateTold 38 = .ok (.bipush 24, 2) := by decide +kernel
theorem dX12_gateTold_40 : decode cX12_gateTold 40 = .ok (.iload_n 1, 1) := by decide +kernel
theorem dX12_gateTold_41 : decode cX12_gateTold 41 = .ok (.imul, 1) := by decide +kernel
theorem dX12_gateTold_42 : decode cX12_gateTold 42 = .ok (.iload_n 2, 1) := by decide +kernel
theorem dX12_gateTold_43 : decode cX12_gateTold 43 = .ok (.iadd, 1) := by decide +kernel
theorem dX12_gateTold_44 : decode cX12_gateTold 44 = .ok (.iaload, 1) := by decide +kernel
theorem dX12_gateTold_45 : decode cX12_gateTold 45 = .ok (.goto 5, 3) := by decide +kernel
theorem dX12_gateTold_48 : decode cX12_gateTold 48 = .ok (.bipush (-7), 2) := by decide +kernel
theorem dX12_gateTold_50 : decode cX12_gateTold 50 = .ok (.ireturn, 1) := by decide +kernel
def fX12_gateTold (s0 : ZS) (a0 : Int) (a1 : Int) (a2 : Int) (a3 : Int) : Option (Int × ZS) := zb (fX12_isGate s0 a1 a2) (fun v1 s2 => if v1 = 0 then (some ((-5), s2)) else (if a3 = 0 then ((zg s2 12 a0 0).bind (fun v9 => (zal s2 100 v9 (wrap ((wrap (24 * a1)) + a2))).bind (fun v10 => some (v10, s2)))) else (if a3 = 1 then ((zg s2 12 a0 1).bind (fun v7 => (zal s2 100 v7 (wrap ((wrap (24 * a1)) + a2))).bind (fun v8 => some (v8, s2)))) else (some ((-7), s2)))))
set_option maxHeartbeats 4000000 in
set_option maxRecDepth 100000 in
theorem mX12_gateTold (E : ZE) (hE : zOkE E) (l : Launch) (s0 : ZS) (a0 : Int) (a1 : Int) (a2 : Int) (a3 : Int) : Ct E l yX12_gateTold cX12_gateTold 4 (some .int) 6 [(2, a0), (0, a1), (0, a2), (0, a3)] 1 s0 (fX12_gateTold s0 a0 a1 a2 a3) := by
  refine Ct.of (by decide) hE (Nat.le_of_ble_eq_true rfl) ?_
  intro X G hX hR hN hXE hXl hxn hk _
  subst hXE
  subst hXl
  have hX : G → ZOk X cX12_gateTold RX12 6 := hX
  clear hN
  show Zj X G 0 [(0, (2, a0)), (1, (0, a1)), (2, (0, a2)), (3, (0, a3))] [] s0 _
  unfold fX12_gateTold
  refine z_iload_n (pc := 0) hX 1 dX12_gateTold_0 rfl rfl ?_
  refine z_iload_n (pc := 1) hX 2 dX12_gateTold_1 rfl rfl ?_
  refine z_callS (n := 2) (st := []) (pc := 2) hX (mX12_isGate _ hE _ _ _ _) ⟨wd1170, wd67, wd1172, ⟨by decide, by decide, by decide⟩, by decide⟩ wd1171 rfl rfl (by decide) (Nat.le_of_ble_eq_true rfl) dX12_gateTold_2 (fun v1 s2 r3 => ?_)
  show Zj X G 5 [(0, (2, a0)), (1, (0, a1)), (2, (0, a2)), (3, (0, a3))] [(0, v1)] _ _
  refine z_if_ne (pc := 5) hX 11 dX12_gateTold_5 (by decide) (fun h4 => ?_) (fun h4 => ?_)
  · refine z_iload_n (pc := 11) hX 3 dX12_gateTold_11 rfl rfl ?_
    refine z_if_ne (pc := 12) hX 29 dX12_gateTold_12 (by decide) (fun h5 => ?_) (fun h5 => ?_)
    · refine z_iload_n (pc := 29) hX 3 dX12_gateTold_29 rfl rfl ?_
      refine z_iconst (pc := 30) hX dX12_gateTold_30 ?_
      refine z_icmp_ne (pc := 31) hX 48 dX12_gateTold_31 (by decide) (fun h6 => ?_) (fun h6 => ?_)
      · refine z_bipush (pc := 48) hX dX12_gateTold_48 ?_
        exact z_iret (pc := 50) hX hR hk dX12_gateTold_50
      · refine z_aload_n (pc := 34) hX 0 dX12_gateTold_34 rfl rfl ?_
        refine z_get (pc := 35) hX zc12 1 (by decide) wd1018 rfl rfl dX12_gateTold_35 (fun v7 => ?_)
        refine z_bipush (pc := 38) hX dX12_gateTold_38 ?_
        refine z_iload_n (pc := 40) hX 1 dX12_gateTold_40 rfl rfl ?_
        refine z_imul (pc := 41) hX dX12_gateTold_41 ?_
        refine z_iload_n (pc := 42) hX 2 dX12_gateTold_42 rfl rfl ?_
        refine z_iadd (pc := 43) hX dX12_gateTold_43 ?_
        refine z_iald (pc := 44) hX dX12_gateTold_44 (fun v8 => ?_)
        refine z_goto (pc := 45) hX 50 dX12_gateTold_45 (by decide) ?_
        exact z_iret (pc := 50) hX hR hk dX12_gateTold_50
    · refine z_aload_n (pc := 15) hX 0 dX12_gateTold_15 rfl rfl ?_
      refine z_get (pc := 16) hX zc12 0 (by decide) wd1017 rfl rfl dX12_gateTold_16 (fun v9 => ?_)
      refine z_bipush (pc := 19) hX dX12_gateTold_19 ?_
      refine z_iload_n (pc := 21) hX 1 dX12_gateTold_21 rfl rfl ?_
      refine z_imul (pc := 22) hX dX12_gateTold_22 ?_
      refine z_iload_n (pc := 23) hX 2 dX12_gateTold_23 rfl rfl ?_
      refine z_iadd (pc := 24) hX dX12_gateTold_24 ?_
      refine z_iald (pc := 25) hX dX12_gateTold_25 (fun v10 => ?_)
      refine z_goto (pc := 26) hX 50 dX12_gateTold_26 (by decide) ?_
      exact z_iret (pc := 50) hX hR hk dX12_gateTold_50
  · refine z_bipush (pc := 8) hX dX12_gateTold_8 ?_
    exact z_iret (pc := 10) hX hR hk dX12_gateTold_10

theorem dX11_sortTold_0 : decode cX11_sortTold 0 = .ok (.aload_n 0, 1) := by decide +kernel
theorem dX11_sortTold_1 : decode cX11_sortTold 1 = .ok (.iload_n 1, 1) := by decide +kernel
theorem dX11_sortTold_2 : decode cX11_sortTold 2 = .ok (.invokevirtual 125, 3) := by decide +kernel
theorem dX11_sortTold_5 : decode cX11_sortTold 5 = .ok (.ifCond .ne 6, 3) := by decide +kernel
theorem dX11_sortTold_8 : decode cX11_sortTold 8 = .ok (.bipush (-5), 2) := by decide +kernel
theorem dX11_sortTold_10 : decode cX11_sortTold 10 = .ok (.ireturn, 1) := by decide +kernel
theorem dX11_sortTold_11 : decode cX11_sortTold 11 = .ok (.iload_n 2, 1) := by decide +kernel
theorem dX11_sortTold_12 : decode cX11_sortTold 12 = .ok (.tableswitch 76 0 3 #[32, 42, 52, 64], 32) := by decide +kernel
theorem dX11_sortTold_44 : decode cX11_sortTold 44 = .ok (.aload_n 0, 1) := by decide +kernel
theorem dX11_sortTold_45 : decode cX11_sortTold 45 = .ok (.getfield 20, 3) := by decide +kernel
theorem dX11_sortTold_48 : decode cX11_sortTold 48 = .ok (.getfield 116, 3) := by decide +kernel
theorem dX11_sortTold_51 : decode cX11_sortTold 51 = .ok (.iload_n 1, 1) := by decide +kernel
theorem dX11_sortTold_52 : decode cX11_sortTold 52 = .ok (.iaload, 1) := by decide +kernel
theorem dX11_sortTold_53 : decode cX11_sortTold 53 = .ok (.ireturn, 1) := by decide +kernel
theorem dX11_sortTold_54 : decode cX11_sortTold 54 = .ok (.aload_n 0, 1) := by decide +kernel
theorem dX11_sortTold_55 : decode cX11_sortTold 55 = .ok (.getfield 20, 3) := by decide +kernel
theorem dX11_sortTold_58 : decode cX11_sortTold 58 = .ok (.getfield 119, 3) := by decide +kernel
theorem dX11_sortTold_61 : decode cX11_sortTold 61 = .ok (.iload_n 1, 1) := by decide +kernel
theorem dX11_sortTold_62 : decode cX11_sortTold 62 = .ok (.iaload, 1) := by decide +kernel
theorem dX11_sortTold_63 : decode cX11_sortTold 63 = .ok (.ireturn, 1) := by decide +kernel
theorem dX11_sortTold_64 : decode cX11_sortTold 64 = .ok (.aload_n 0, 1) := by decide +kernel
theorem dX11_sortTold_65 : decode cX11_sortTold 65 = .ok (.getfield 20, 3) := by decide +kernel
theorem dX11_sortTold_68 : decode cX11_sortTold 68 = .ok (.getfield 122, 3) := by decide +kernel
theorem dX11_sortTold_71 : decode cX11_sortTold 71 = .ok (.iconst 0, 1) := by decide +kernel
theorem dX11_sortTold_72 : decode cX11_sortTold 72 = .ok (.aaload, 1) := by decide +kernel
theorem dX11_sortTold_73 : decode cX11_sortTold 73 = .ok (.iload_n 1, 1) := by decide +kernel
theorem dX11_sortTold_74 : decode cX11_sortTold 74 = .ok (.iaload, 1) := by decide +kernel
theorem dX11_sortTold_75 : decode cX11_sortTold 75 = .ok (.ireturn, 1) := by decide +kernel
theorem dX11_sortTold_76 : decode cX11_sortTold 76 = .ok (.aload_n 0, 1) := by decide +kernel
theorem dX11_sortTold_77 : decode cX11_sortTold 77 = .ok (.getfield 20, 3) := by decide +kernel
theorem dX11_sortTold_80 : decode cX11_sortTold 80 = .ok (.getfield 122, 3) := by decide +kernel
theorem dX11_sortTold_83 : decode cX11_sortTold 83 = .ok (.iconst 1, 1) := by decide +kernel
theorem dX11_sortTold_84 : decode cX11_sortTold 84 = .ok (.aaload, 1) := by decide +kernel
theorem dX11_sortTold_85 : decode cX11_sortTold 85 = .ok (.iload_n 1, 1) := by decide +kernel
theorem dX11_sortTold_86 : decode cX11_sortTold 86 = .ok (.iaload, 1) := by decide +kernel
theorem dX11_sortTold_87 : decode cX11_sortTold 87 = .ok (.ireturn, 1) := by decide +kernel
theorem dX11_sortTold_88 : decode cX11_sortTold 88 = .ok (.bipush (-7), 2) := by decide +kernel
theorem dX11_sortTold_90 : decode cX11_sortTold 90 = .ok (.ireturn, 1) := by decide +kernel
def fX11_sortTold (s0 : ZS) (a0 : Int) (a1 : Int) (a2 : Int) : Option (Int × ZS) := zb (zv s0 11 a0 (fX11_isSort s0 a0 a1)) (fun v1 s2 => if v1 = 0 then (some ((-5), s2)) else (if a2 = 0 then ((zg s2 11 a0 1).bind (fun v6 => (zg s2 5 v6 3).bind (fun v7 => (zal s2 100 v7 a1).bind (fun v8 => some (v8, s2))))) else (if a2 = 1 then ((zg s2 11 a0 1).bind (fun v10 => (zg s2 5 v10 4).bind (fun v11 => (zal s2 100 v11 a1).bind (fun v12 => some (v12, s2))))) else (if a2 = 2 then ((zg s2 11 a0 1).bind (fun v14 => (zg s2 5 v14 2).bind (fun v15 => (zal s2 102 v15 0).bind (fun v16 => (zal s2 100 v16 a1).bind (fun v17 => some (v17, s2)))))) else (if a2 = 3 then ((zg s2 11 a0 1).bind (fun v19 => (zg s2 5 v19 2).bind (fun v20 => (zal s2 102 v20 1).bind (fun v21 => (zal s2 100 v21 a1).bind (fun v22 => some (v22, s2)))))) else (some ((-7), s2)))))))
set_option maxHeartbeats 4000000 in
set_option maxRecDepth 100000 in
theorem mX11_sortTold (E : ZE) (hE : zOkE E) (l : Launch) (s0 : ZS) (a0 : Int) (a1 : Int) (a2 : Int) : Ct E l yX11_sortTold cX11_sortTold 3 (some .int) 4 [(2, a0), (0, a1), (0, a2)] 1 s0 (fX11_sortTold s0 a0 a1 a2) := by
  refine Ct.of (by decide) hE (Nat.le_of_ble_eq_true rfl) ?_
  intro X G hX hR hN hXE hXl hxn hk _
  subst hXE
  subst hXl
  have hX : G → ZOk X cX11_sortTold RX11 4 := hX
  clear hN
  show Zj X G 0 [(0, (2, a0)), (1, (0, a1)), (2, (0, a2))] [] s0 _
  unfold fX11_sortTold
  refine z_aload_n (pc := 0) hX 0 dX11_sortTold_0 rfl rfl ?_
  refine z_iload_n (pc := 1) hX 1 dX11_sortTold_1 rfl rfl ?_
  refine z_callV (n := 1) (st := []) (pc := 2) hX zc11 rfl (fun _ => (mX11_isSort _ hE _ _ _ _)) ⟨wd347, wd61, wd350, ⟨by decide, by decide, by decide⟩, by decide⟩ rfl wd349 wd0 rfl rfl (by decide) (Nat.le_of_ble_eq_true rfl) dX11_sortTold_2 (fun v1 s2 r3 => ?_)
  show Zj X G 5 [(0, (2, a0)), (1, (0, a1)), (2, (0, a2))] [(0, v1)] _ _
  refine z_if_ne (pc := 5) hX 11 dX11_sortTold_5 (by decide) (fun h4 => ?_) (fun h4 => ?_)
  · refine z_iload_n (pc := 11) hX 2 dX11_sortTold_11 rfl rfl ?_
    by_cases h5 : a2 = 0
    · refine z_eq (if_pos h5) ?_
      refine z_tswIn (pc := 12) hX 44 dX11_sortTold_12 h5 (by decide) (by decide) rfl (by decide) ?_
      refine z_aload_n (pc := 44) hX 0 dX11_sortTold_44 rfl rfl ?_
      refine z_get (pc := 45) hX zc11 1 (by decide) wd271 rfl rfl dX11_sortTold_45 (fun v6 => ?_)
      refine z_get (pc := 48) hX zc5 3 (by decide) wd115 rfl rfl dX11_sortTold_48 (fun v7 => ?_)
      refine z_iload_n (pc := 51) hX 1 dX11_sortTold_51 rfl rfl ?_
      refine z_iald (pc := 52) hX dX11_sortTold_52 (fun v8 => ?_)
      exact z_iret (pc := 53) hX hR hk dX11_sortTold_53
    · refine z_eq (if_neg h5) ?_
      by_cases h9 : a2 = 1
      · refine z_eq (if_pos h9) ?_
        refine z_tswIn (pc := 12) hX 54 dX11_sortTold_12 h9 (by decide) (by decide) rfl (by decide) ?_
        refine z_aload_n (pc := 54) hX 0 dX11_sortTold_54 rfl rfl ?_
        refine z_get (pc := 55) hX zc11 1 (by decide) wd271 rfl rfl dX11_sortTold_55 (fun v10 => ?_)
        refine z_get (pc := 58) hX zc5 4 (by decide) wd118 rfl rfl dX11_sortTold_58 (fun v11 => ?_)
        refine z_iload_n (pc := 61) hX 1 dX11_sortTold_61 rfl rfl ?_
        refine z_iald (pc := 62) hX dX11_sortTold_62 (fun v12 => ?_)
        exact z_iret (pc := 63) hX hR hk dX11_sortTold_63
      · refine z_eq (if_neg h9) ?_
        by_cases h13 : a2 = 2
        · refine z_eq (if_pos h13) ?_
          refine z_tswIn (pc := 12) hX 64 dX11_sortTold_12 h13 (by decide) (by decide) rfl (by decide) ?_
          refine z_aload_n (pc := 64) hX 0 dX11_sortTold_64 rfl rfl ?_
          refine z_get (pc := 65) hX zc11 1 (by decide) wd271 rfl rfl dX11_sortTold_65 (fun v14 => ?_)
          refine z_get (pc := 68) hX zc5 2 (by decide) wd112 rfl rfl dX11_sortTold_68 (fun v15 => ?_)
          refine z_iconst (pc := 71) hX dX11_sortTold_71 ?_
          refine z_aald (pc := 72) hX 2 102 (by decide) rfl rfl dX11_sortTold_72 (fun v16 => ?_)
          refine z_iload_n (pc := 73) hX 1 dX11_sortTold_73 rfl rfl ?_
          refine z_iald (pc := 74) hX dX11_sortTold_74 (fun v17 => ?_)
          exact z_iret (pc := 75) hX hR hk dX11_sortTold_75
        · refine z_eq (if_neg h13) ?_
          by_cases h18 : a2 = 3
          · refine z_eq (if_pos h18) ?_
            refine z_tswIn (pc := 12) hX 76 dX11_sortTold_12 h18 (by decide) (by decide) rfl (by decide) ?_
            refine z_aload_n (pc := 76) hX 0 dX11_sortTold_76 rfl rfl ?_
            refine z_get (pc := 77) hX zc11 1 (by decide) wd271 rfl rfl dX11_sortTold_77 (fun v19 => ?_)
            refine z_get (pc := 80) hX zc5 2 (by decide) wd112 rfl rfl dX11_sortTold_80 (fun v20 => ?_)
            refine z_iconst (pc := 83) hX dX11_sortTold_83 ?_
            refine z_aald (pc := 84) hX 2 102 (by decide) rfl rfl dX11_sortTold_84 (fun v21 => ?_)
            refine z_iload_n (pc := 85) hX 1 dX11_sortTold_85 rfl rfl ?_
            refine z_iald (pc := 86) hX dX11_sortTold_86 (fun v22 => ?_)
            exact z_iret (pc := 87) hX hR hk dX11_sortTold_87
          · refine z_eq (if_neg h18) ?_
            refine z_tswOut (pc := 12) hX 88 dX11_sortTold_12 (by omega) (by decide) ?_
            refine z_bipush (pc := 88) hX dX11_sortTold_88 ?_
            exact z_iret (pc := 90) hX hR hk dX11_sortTold_90
  · refine z_bipush (pc := 8) hX dX11_sortTold_8 ?_
    exact z_iret (pc := 10) hX hR hk dX11_sortTold_10

theorem dX12_sortTold_0 : decode cX12_sortTold 0 = .ok (.aload_n 0, 1) := by decide +kernel
theorem dX12_sortTold_1 : decode cX12_sortTold 1 = .ok (.iload_n 1, 1) := by decide +kernel
theorem dX12_sortTold_2 : decode cX12_sortTold 2 = .ok (.invokevirtual 138, 3) := by decide +kernel
theorem dX12_sortTold_5 : decode cX12_sortTold 5 = .ok (.ifCond .ne 6, 3) := by decide +kernel
theorem dX12_sortTold_8 : decode cX12_sortTold 8 = .ok (.bipush (-5), 2) := by decide +kernel
theorem dX12_sortTold_10 : decode cX12_sortTold 10 = .ok (.ireturn, 1) := by decide +kernel
theorem dX12_sortTold_11 : decode cX12_sortTold 11 = .ok (.iload_n 2, 1) := by decide +kernel
theorem dX12_sortTold_12 : decode cX12_sortTold 12 = .ok (.ifCond .ne 12, 3) := by decide +kernel
theorem dX12_sortTold_15 : decode cX12_sortTold 15 = .ok (.aload_n 0, 1) := by decide +kernel
theorem dX12_sortTold_16 : decode cX12_sortTold 16 = .ok (.getfield 16, 3) := by decide +kernel
theorem dX12_sortTold_19 : decode cX12_sortTold 19 = .ok (.iload_n 1, 1) := by decide +kernel
theorem dX12_sortTold_20 : decode cX12_sortTold 20 = .ok (.iaload, 1) := by decide +kernel
theorem dX12_sortTold_21 : decode cX12_sortTold 21 = .ok (.goto 50, 3) := by decide +kernel
theorem dX12_sortTold_24 : decode cX12_sortTold 24 = .ok (.iload_n 2, 1) := by decide +kernel
theorem dX12_sortTold_25 : decode cX12_sortTold 25 = .ok (.iconst 1, 1) := by decide +kernel
theorem dX12_sortTold_26 : decode cX12_sortTold 26 = .ok (.if_icmp .ne 12, 3) := by decide +kernel
theorem dX12_sortTold_29 : decode cX12_sortTold 29 = .ok (.aload_n 0, 1) := by decide +kernel
theorem dX12_sortTold_30 : decode cX12_sortTold 30 = .ok (.getfield 19, 3) := by decide +kernel
theorem dX12_sortTold_33 : decode cX12_sortTold 33 = .ok (.iload_n 1, 1) := by decide +kernel
theorem dX12_sortTold_34 : decode cX12_sortTold 34 = .ok (.iaload, 1) := by decide +kernel
theorem dX12_sortTold_35 : decode cX12_sortTold 35 = .ok (.goto 36, 3) := by decide +kernel
theorem dX12_sortTold_38 : decode cX12_sortTold 38 = .ok (.iload_n 2, 1) := by decide +kernel
theorem dX12_sortTold_39 : decode cX12_sortTold 39 = .ok (.iconst 2, 1) := by decide +kernel
theorem dX12_sortTold_40 : decode cX12_sortTold 40 = .ok (.iconst 3, 1) := by decide +kernel
theorem dX12_sortTold_41 : decode cX12_sortTold 41 = .ok (.invokestatic 127, 3) := by decide +kernel
theorem dX12_sortTold_44 : decode cX12_sortTold 44 = .ok (.ifCond .eq 25, 3) := by decide +kernel
theorem dX12_sortTold_47 : decode cX12_sortTold 47 = .ok (.aload_n 0, 1) := by decide +kernel
theorem dX12_sortTold_48 : decode cX12_sortTold 48 = .ok (.getfield 22, 3) := by decide +kernel
theorem dX12_sortTold_51 : decode cX12_sortTold 51 = .ok (.iconst 2, 1) := by decide +kernel
theorem dX12_sortTold_52 : decode cX12_sortTold 52 = .ok (.iload_n 1, 1) := by decide +kernel
theorem dX12_sortTold_53 : decode cX12_sortTold 53 = .ok (.imul, 1) := by decide +kernel
theorem dX12_sortTold_54 : decode cX12_sortTold 54 = .ok (.iload_n 2, 1) := by decide +kernel
theorem dX12_sortTold_55 : decode cX12_sortTold 55 = .ok (.iconst 3, 1) := by decide +kernel
theorem dX12_sortTold_56 : decode cX12_sortTold 56 = .ok (.if_icmp .ne 7, 3) := by decide +kernel
theorem dX12_sortTold_59 : decode cX12_sortTold 59 = .ok (.iconst 1, 1) := by decide +kernel
theorem dX12_sortTold_60 : decode cX12_sortTold 60 = .ok (.goto 4, 3) := by decide +kernel
theorem dX12_sortTold_63 : decode cX12_sortTold 63 = .ok (.iconst 0, 1) := by decide +kernel
theorem dX12_sortTold_64 : decode cX12_sortTold 64 = .ok (.iadd, 1) := by decide +kernel
theorem dX12_sortTold_65 : decode cX12_sortTold 65 = .ok (.iaload, 1) := by decide +kernel
theorem dX12_sortTold_66 : decode cX12_sortTold 66 = .ok (.goto 5, 3) := by decide +kernel
theorem dX12_sortTold_69 : decode cX12_sortTold 69 = .ok (.bipush (-7), 2) := by decide +kernel
theorem dX12_sortTold_71 : decode cX12_sortTold 71 = .ok (.ireturn, 1) := by decide +kernel
def fX12_sortTold (s0 : ZS) (a0 : Int) (a1 : Int) (a2 : Int) : Option (Int × ZS) := zb (zv s0 12 a0 (fX12_isSort s0 a0 a1)) (fun v1 s2 => if v1 = 0 then (some ((-5), s2)) else (if a2 = 0 then ((zg s2 12 a0 3).bind (fun v18 => (zal s2 100 v18 a1).bind (fun v19 => some (v19, s2)))) else (if a2 = 1 then ((zg s2 12 a0 4).bind (fun v16 => (zal s2 100 v16 a1).bind (fun v17 => some (v17, s2)))) else (zb (fX12_in s2 a2 2 3) (fun v7 s8 => if v7 = 0 then (some ((-7), s8)) else ((zg s8 12 a0 5).bind (fun v11 => zjn (fun (K64 : ZS → Int → Option (Int × ZS)) => if a2 = 3 then (K64 s8 1) else (K64 s8 0)) (fun (s13 : ZS) (w14 : Int) => (zal s13 100 v11 (wrap ((wrap (2 * a1)) + w14))).bind (fun v15 => some (v15, s13))))))))))
set_option maxHeartbeats 4000000 in
set_option maxRecDepth 100000 in
theorem mX12_sortTold (E : ZE) (hE : zOkE E) (l : Launch) (s0 : ZS) (a0 : Int) (a1 : Int) (a2 : Int) : Ct E l yX12_sortTold cX12_sortTold 3 (some .int) 6 [(2, a0), (0, a1), (0, a2)] 1 s0 (fX12_sortTold s0 a0 a1 a2) := by
  refine Ct.of (by decide) hE (Nat.le_of_ble_eq_true rfl) ?_
  intro X G hX hR hN hXE hXl hxn hk _
  subst hXE
  subst hXl
  have hX : G → ZOk X cX12_sortTold RX12 6 := hX
  clear hN
  show Zj X G 0 [(0, (2, a0)), (1, (0, a1)), (2, (0, a2))] [] s0 _
  unfold fX12_sortTold
  refine z_aload_n (pc := 0) hX 0 dX12_sortTold_0 rfl rfl ?_
  refine z_iload_n (pc := 1) hX 1 dX12_sortTold_1 rfl rfl ?_
  refine z_callV (n := 1) (st := []) (pc := 2) hX zc12 rfl (fun _ => (mX12_isSort _ hE _ _ _ _)) ⟨wd1188, wd67, wd1191, ⟨by decide, by decide, by decide⟩, by decide⟩ rfl wd1190 wd32 rfl rfl (by decide) (Nat.le_of_ble_eq_true rfl) dX12_sortTold_2 (fun v1 s2 r3 => ?_)
  show Zj X G 5 [(0, (2, a0)), (1, (0, a1)), (2, (0, a2))] [(0, v1)] _ _
  refine z_if_ne (pc := 5) hX 11 dX12_sortTold_5 (by decide) (fun h4 => ?_) (fun h4 => ?_)
  · refine z_iload_n (pc := 11) hX 2 dX12_sortTold_11 rfl rfl ?_
    refine z_if_ne (pc := 12) hX 24 dX12_sortTold_12 (by decide) (fun h5 => ?_) (fun h5 => ?_)
    · refine z_iload_n (pc := 24) hX 2 dX12_sortTold_24 rfl rfl ?_
      refine z_iconst (pc := 25) hX dX12_sortTold_25 ?_
      refine z_icmp_ne (pc := 26) hX 38 dX12_sortTold_26 (by decide) (fun h6 => ?_) (fun h6 => ?_)
      · refine z_iload_n (pc := 38) hX 2 dX12_sortTold_38 rfl rfl ?_
        refine z_iconst (pc := 39) hX dX12_sortTold_39 ?_
        refine z_iconst (pc := 40) hX dX12_sortTold_40 ?_
        refine z_callS (n := 3) (st := []) (pc := 41) hX (mX12_in _ hE _ _ _ _ _) ⟨wd1173, wd67, wd1175, ⟨by decide, by decide, by decide⟩, by decide⟩ wd1174 rfl rfl (by decide) (Nat.le_of_ble_eq_true rfl) dX12_sortTold_41 (fun v7 s8 r9 => ?_)
        show Zj X G 44 [(0, (2, a0)), (1, (0, a1)), (2, (0, a2))] [(0, v7)] _ _
        refine z_if_eq (pc := 44) hX 69 dX12_sortTold_44 (by decide) (fun h10 => ?_) (fun h10 => ?_)
        · refine z_bipush (pc := 69) hX dX12_sortTold_69 ?_
          exact z_iret (pc := 71) hX hR hk dX12_sortTold_71
        · refine z_aload_n (pc := 47) hX 0 dX12_sortTold_47 rfl rfl ?_
          refine z_get (pc := 48) hX zc12 5 (by decide) wd1022 rfl rfl dX12_sortTold_48 (fun v11 => ?_)
          refine z_iconst (pc := 51) hX dX12_sortTold_51 ?_
          refine z_iload_n (pc := 52) hX 1 dX12_sortTold_52 rfl rfl ?_
          refine z_imul (pc := 53) hX dX12_sortTold_53 ?_
          refine z_iload_n (pc := 54) hX 2 dX12_sortTold_54 rfl rfl ?_
          refine z_iconst (pc := 55) hX dX12_sortTold_55 ?_
          refine z_jn (fun K64 eK64 => ?_)
          have hK64 : ∀ (s13 : ZS) (w14 : Int), Zj X G 64 [] [(0, w14), (0, (wrap (2 * a1))), (2, v11)] s13 (K64 s13 w14) := by
            intro s13 w14
            rw [eK64]
            refine z_iadd (pc := 64) hX dX12_sortTold_64 ?_
            refine z_iald (pc := 65) hX dX12_sortTold_65 (fun v15 => ?_)
            refine z_goto (pc := 66) hX 71 dX12_sortTold_66 (by decide) ?_
            exact z_iret (pc := 71) hX hR hk dX12_sortTold_71
          clear eK64
          refine z_icmp_ne (pc := 56) hX 63 dX12_sortTold_56 (by decide) (fun h12 => ?_) (fun h12 => ?_)
          · refine z_iconst (pc := 63) hX dX12_sortTold_63 ?_
            refine z_pick (lv' := []) [] rfl ?_
            exact hK64 _ _
          · refine z_iconst (pc := 59) hX dX12_sortTold_59 ?_
            refine z_goto (pc := 60) hX 64 dX12_sortTold_60 (by decide) ?_
            refine z_pick (lv' := []) [] rfl ?_
            exact hK64 _ _
      · refine z_aload_n (pc := 29) hX 0 dX12_sortTold_29 rfl rfl ?_
        refine z_get (pc := 30) hX zc12 4 (by decide) wd1021 rfl rfl dX12_sortTold_30 (fun v16 => ?_)
        refine z_iload_n (pc := 33) hX 1 dX12_sortTold_33 rfl rfl ?_
        refine z_iald (pc := 34) hX dX12_sortTold_34 (fun v17 => ?_)
        refine z_goto (pc := 35) hX 71 dX12_sortTold_35 (by decide) ?_
        exact z_iret (pc := 71) hX hR hk dX12_sortTold_71
    · refine z_aload_n (pc := 15) hX 0 dX12_sortTold_15 rfl rfl ?_
      refine z_get (pc := 16) hX zc12 3 (by decide) wd1020 rfl rfl dX12_sortTold_16 (fun v18 => ?_)
      refine z_iload_n (pc := 19) hX 1 dX12_sortTold_19 rfl rfl ?_
      refine z_iald (pc := 20) hX dX12_sortTold_20 (fun v19 => ?_)
      refine z_goto (pc := 21) hX 71 dX12_sortTold_21 (by decide) ?_
      exact z_iret (pc := 71) hX hR hk dX12_sortTold_71
  · refine z_bipush (pc := 8) hX dX12_sortTold_8 ?_
    exact z_iret (pc := 10) hX hR hk dX12_sortTold_10
