theorem dX11_wayAt_0 : decode cX11_wayAt 0 = .ok (.iload_n 1, 1) := by decide +kernel
theorem dX11_wayAt_1 : decode cX11_wayAt 1 = .ok (.ifCond .lt 20, 3) := by decide +kernel
theorem dX11_wayAt_4 : decode cX11_wayAt 4 = .ok (.iload_n 1, 1) := by decide +kernel
theorem dX11_wayAt_5 : decode cX11_wayAt 5 = .ok (.aload_n 0, 1) := by decide +kernel
theorem dX11_wayAt_6 : decode cX11_wayAt 6 = .ok (.getfield 27, 3) := by decide +kernel
theorem dX11_wayAt_9 : decode cX11_wayAt 9 = .ok (.if_icmp .ge 12, 3) := by decide +kernel
theorem dX11_wayAt_12 : decode cX11_wayAt 12 = .ok (.aload_n 0, 1) := by decide +kernel
theorem dX11_wayAt_13 : decode cX11_wayAt 13 = .ok (.getfield 23, 3) := by decide +kernel
theorem dX11_wayAt_16 : decode cX11_wayAt 16 = .ok (.iload_n 1, 1) := by decide +kernel
theorem dX11_wayAt_17 : decode cX11_wayAt 17 = .ok (.aaload, 1) := by decide +kernel
theorem dX11_wayAt_18 : decode cX11_wayAt 18 = .ok (.goto 4, 3) := by decide +kernel
theorem dX11_wayAt_21 : decode cX11_wayAt 21 = .ok (.aconst_null, 1) := by decide +kernel
theorem dX11_wayAt_22 : decode cX11_wayAt 22 = .ok (.areturn, 1) := by decide +kernel
def fX11_wayAt (s0 : ZS) (a0 : Int) (a1 : Int) : Option (Int × ZS) := if a1 < 0 then (some ((-1), s0)) else ((zg s0 11 a0 3).bind (fun v2 => if v2 ≤ a1 then (some ((-1), s0)) else ((zg s0 11 a0 2).bind (fun v4 => (zal s0 103 v4 a1).bind (fun v5 => some (v5, s0))))))
set_option maxHeartbeats 4000000 in
set_option maxRecDepth 100000 in
theorem mX11_wayAt (E : ZE) (hE : zOkE E) (l : Launch) (s0 : ZS) (a0 : Int) (a1 : Int) : Ct E l yX11_wayAt cX11_wayAt 2 (some (.object "GateRoad$Way")) 2 [(2, a0), (0, a1)] 3 s0 (fX11_wayAt s0 a0 a1) := by
  refine Ct.of (by decide) hE (Nat.le_of_ble_eq_true rfl) ?_
  intro X G hX hR hN hXE hXl hxn hk _
  subst hXE
  subst hXl
  have hX : G → ZOk X cX11_wayAt RX11 2 := hX
  clear hN
  show Zj X G 0 [(0, (2, a0)), (1, (0, a1))] [] s0 _
  unfold fX11_wayAt
  refine z_iload_n (pc := 0) hX 1 dX11_wayAt_0 rfl rfl ?_
  refine z_if_lt (pc := 1) hX 21 dX11_wayAt_1 (by decide) (fun h1 => ?_) (fun h1 => ?_)
  · refine z_null (pc := 21) hX dX11_wayAt_21 ?_
    exact z_aret (pc := 22) hX hR (Or.inl ⟨_, rfl⟩) hk dX11_wayAt_22
  · refine z_iload_n (pc := 4) hX 1 dX11_wayAt_4 rfl rfl ?_
    refine z_aload_n (pc := 5) hX 0 dX11_wayAt_5 rfl rfl ?_
    refine z_get (pc := 6) hX zc11 3 (by decide) wd273 rfl rfl dX11_wayAt_6 (fun v2 => ?_)
    refine z_icmp_ge (pc := 9) hX 21 dX11_wayAt_9 (by decide) (fun h3 => ?_) (fun h3 => ?_)
    · refine z_null (pc := 21) hX dX11_wayAt_21 ?_
      exact z_aret (pc := 22) hX hR (Or.inl ⟨_, rfl⟩) hk dX11_wayAt_22
    · refine z_aload_n (pc := 12) hX 0 dX11_wayAt_12 rfl rfl ?_
      refine z_get (pc := 13) hX zc11 2 (by decide) wd272 rfl rfl dX11_wayAt_13 (fun v4 => ?_)
      refine z_iload_n (pc := 16) hX 1 dX11_wayAt_16 rfl rfl ?_
      refine z_aald (pc := 17) hX 3 103 (by decide) rfl rfl dX11_wayAt_17 (fun v5 => ?_)
      refine z_goto (pc := 18) hX 22 dX11_wayAt_18 (by decide) ?_
      exact z_aret (pc := 22) hX hR (Or.inl ⟨_, rfl⟩) hk dX11_wayAt_22

theorem dX0_kind_0 : decode cX0_kind 0 = .ok (.iconst 3, 1) := by decide +kernel
theorem dX0_kind_1 : decode cX0_kind 1 = .ok (.ireturn, 1) := by decide +kernel
def fX0_kind (s0 : ZS) (a0 : Int) : Option (Int × ZS) := some (3, s0)
set_option maxHeartbeats 4000000 in
set_option maxRecDepth 100000 in
theorem mX0_kind (E : ZE) (hE : zOkE E) (l : Launch) (s0 : ZS) (a0 : Int) : Ct E l yX0_kind cX0_kind 1 (some .int) 2 [(2, a0)] 1 s0 (fX0_kind s0 a0) := by
  refine Ct.of (by decide) hE (Nat.le_of_ble_eq_true rfl) ?_
  intro X G hX hR hN hXE hXl hxn hk _
  subst hXE
  subst hXl
  have hX : G → ZOk X cX0_kind RX0 2 := hX
  clear hN
  show Zj X G 0 [(0, (2, a0))] [] s0 _
  unfold fX0_kind
  refine z_iconst (pc := 0) hX dX0_kind_0 ?_
  exact z_iret (pc := 1) hX hR hk dX0_kind_1

theorem dX1_kind_0 : decode cX1_kind 0 = .ok (.iconst 4, 1) := by decide +kernel
theorem dX1_kind_1 : decode cX1_kind 1 = .ok (.ireturn, 1) := by decide +kernel
def fX1_kind (s0 : ZS) (a0 : Int) : Option (Int × ZS) := some (4, s0)
set_option maxHeartbeats 4000000 in
set_option maxRecDepth 100000 in
theorem mX1_kind (E : ZE) (hE : zOkE E) (l : Launch) (s0 : ZS) (a0 : Int) : Ct E l yX1_kind cX1_kind 1 (some .int) 2 [(2, a0)] 1 s0 (fX1_kind s0 a0) := by
  refine Ct.of (by decide) hE (Nat.le_of_ble_eq_true rfl) ?_
  intro X G hX hR hN hXE hXl hxn hk _
  subst hXE
  subst hXl
  have hX : G → ZOk X cX1_kind RX1 2 := hX
  clear hN
  show Zj X G 0 [(0, (2, a0))] [] s0 _
  unfold fX1_kind
  refine z_iconst (pc := 0) hX dX1_kind_0 ?_
  exact z_iret (pc := 1) hX hR hk dX1_kind_1

theorem dX3_kind_0 : decode cX3_kind 0 = .ok (.iconst 2, 1) := by decide +kernel
theorem dX3_kind_1 : decode cX3_kind 1 = .ok (.ireturn, 1) := by decide +kernel
def fX3_kind (s0 : ZS) (a0 : Int) : Option (Int × ZS) := some (2, s0)
set_option maxHeartbeats 4000000 in
set_option maxRecDepth 100000 in
theorem mX3_kind (E : ZE) (hE : zOkE E) (l : Launch) (s0 : ZS) (a0 : Int) : Ct E l yX3_kind cX3_kind 1 (some .int) 2 [(2, a0)] 1 s0 (fX3_kind s0 a0) := by
  refine Ct.of (by decide) hE (Nat.le_of_ble_eq_true rfl) ?_
  intro X G hX hR hN hXE hXl hxn hk _
  subst hXE
  subst hXl
  have hX : G → ZOk X cX3_kind RX3 2 := hX
  clear hN
  show Zj X G 0 [(0, (2, a0))] [] s0 _
  unfold fX3_kind
  refine z_iconst (pc := 0) hX dX3_kind_0 ?_
  exact z_iret (pc := 1) hX hR hk dX3_kind_1

theorem dX7_kind_0 : decode cX7_kind 0 = .ok (.iconst 5, 1) := by decide +kernel
theorem dX7_kind_1 : decode cX7_kind 1 = .ok (.ireturn, 1) := by decide +kernel
def fX7_kind (s0 : ZS) (a0 : Int) : Option (Int × ZS) := some (5, s0)
set_option maxHeartbeats 4000000 in
set_option maxRecDepth 100000 in
theorem mX7_kind (E : ZE) (hE : zOkE E) (l : Launch) (s0 : ZS) (a0 : Int) : Ct E l yX7_kind cX7_kind 1 (some .int) 2 [(2, a0)] 1 s0 (fX7_kind s0 a0) := by
  refine Ct.of (by decide) hE (Nat.le_of_ble_eq_true rfl) ?_
  intro X G hX hR hN hXE hXl hxn hk _
  subst hXE
  subst hXl
  have hX : G → ZOk X cX7_kind RX7 2 := hX
  clear hN
  show Zj X G 0 [(0, (2, a0))] [] s0 _
  unfold fX7_kind
  refine z_iconst (pc := 0) hX dX7_kind_0 ?_
  exact z_iret (pc := 1) hX hR hk dX7_kind_1

theorem dX9_kind_0 : decode cX9_kind 0 = .ok (.iconst 1, 1) := by decide +kernel
theorem dX9_kind_1 : decode cX9_kind 1 = .ok (.ireturn, 1) := by decide +kernel
def fX9_kind (s0 : ZS) (a0 : Int) : Option (Int × ZS) := some (1, s0)
set_option maxHeartbeats 4000000 in
set_option maxRecDepth 100000 in
theorem mX9_kind (E : ZE) (hE : zOkE E) (l : Launch) (s0 : ZS) (a0 : Int) : Ct E l yX9_kind cX9_kind 1 (some .int) 2 [(2, a0)] 1 s0 (fX9_kind s0 a0) := by
  refine Ct.of (by decide) hE (Nat.le_of_ble_eq_true rfl) ?_
  intro X G hX hR hN hXE hXl hxn hk _
  subst hXE
  subst hXl
  have hX : G → ZOk X cX9_kind RX9 2 := hX
  clear hN
  show Zj X G 0 [(0, (2, a0))] [] s0 _
  unfold fX9_kind
  refine z_iconst (pc := 0) hX dX9_kind_0 ?_
  exact z_iret (pc := 1) hX hR hk dX9_kind_1

theorem dX10_kind_0 : decode cX10_kind 0 = .ok (.iconst 0, 1) := by decide +kernel
theorem dX10_kind_1 : decode cX10_kind 1 = .ok (.ireturn, 1) := by decide +kernel
def fX10_kind (s0 : ZS) (a0 : Int) : Option (Int × ZS) := some (0, s0)
set_option maxHeartbeats 4000000 in
set_option maxRecDepth 100000 in
theorem mX10_kind (E : ZE) (hE : zOkE E) (l : Launch) (s0 : ZS) (a0 : Int) : Ct E l yX10_kind cX10_kind 1 (some .int) 2 [(2, a0)] 1 s0 (fX10_kind s0 a0) := by
  refine Ct.of (by decide) hE (Nat.le_of_ble_eq_true rfl) ?_
  intro X G hX hR hN hXE hXl hxn hk _
  subst hXE
  subst hXl
  have hX : G → ZOk X cX10_kind RX10 2 := hX
  clear hN
  show Zj X G 0 [(0, (2, a0))] [] s0 _
  unfold fX10_kind
  refine z_iconst (pc := 0) hX dX10_kind_0 ?_
  exact z_iret (pc := 1) hX hR hk dX10_kind_1

theorem dX10_isFor_0 : decode cX10_isFor 0 = .ok (.iload_n 1, 1) := by decide +kernel
theorem dX10_isFor_1 : decode cX10_isFor 1 = .ok (.ifCond .lt 15, 3) := by decide +kernel
theorem dX10_isFor_4 : decode cX10_isFor 4 = .ok (.iload_n 1, 1) := by decide +kernel
theorem dX10_isFor_5 : decode cX10_isFor 5 = .ok (.aload_n 0, 1) := by decide +kernel
theorem dX10_isFor_6 : decode cX10_isFor 6 = .ok (.getfield 18, 3) := by decide +kernel
theorem dX10_isFor_9 : decode cX10_isFor 9 = .ok (.if_icmp .ge 7, 3) := by decide +kernel
theorem dX10_isFor_12 : decode cX10_isFor 12 = .ok (.iconst 1, 1) := by decide +kernel
theorem dX10_isFor_13 : decode cX10_isFor 13 = .ok (.goto 4, 3) := by decide +kernel
theorem dX10_isFor_16 : decode cX10_isFor 16 = .ok (.iconst 0, 1) := by decide +kernel
theorem dX10_isFor_17 : decode cX10_isFor 17 = .ok (.ireturn, 1) := by decide +kernel
def fX10_isFor (s0 : ZS) (a0 : Int) (a1 : Int) : Option (Int × ZS) := if a1 < 0 then (some (0, s0)) else ((zgw s0 a0 0).bind (fun v2 => if v2 ≤ a1 then (some (0, s0)) else (some (1, s0))))
set_option maxHeartbeats 4000000 in
set_option maxRecDepth 100000 in
theorem mX10_isFor (E : ZE) (hE : zOkE E) (l : Launch) (s0 : ZS) (a0 : Int) (a1 : Int) : Ct E l yX10_isFor cX10_isFor 2 (some .boolean) 2 [(2, a0), (0, a1)] 4 s0 (fX10_isFor s0 a0 a1) := by
  refine Ct.of (by decide) hE (Nat.le_of_ble_eq_true rfl) ?_
  intro X G hX hR hN hXE hXl hxn hk _
  subst hXE
  subst hXl
  have hX : G → ZOk X cX10_isFor RX10 2 := hX
  clear hN
  show Zj X G 0 [(0, (2, a0)), (1, (0, a1))] [] s0 _
  unfold fX10_isFor
  refine z_iload_n (pc := 0) hX 1 dX10_isFor_0 rfl rfl ?_
  refine z_if_lt (pc := 1) hX 16 dX10_isFor_1 (by decide) (fun h1 => ?_) (fun h1 => ?_)
  · refine z_iconst (pc := 16) hX dX10_isFor_16 ?_
    exact z_zret (pc := 17) hX hR hk dX10_isFor_17 (Or.inl rfl)
  · refine z_iload_n (pc := 4) hX 1 dX10_isFor_4 rfl rfl ?_
    refine z_aload_n (pc := 5) hX 0 dX10_isFor_5 rfl rfl ?_
    refine z_getw (pc := 6) hX zc10 zc9 zc3 zc0 zc1 zc7 0 (by decide) wd615 rfl rfl rfl rfl rfl rfl rfl rfl rfl rfl rfl rfl rfl dX10_isFor_6 (fun v2 => ?_)
    refine z_icmp_ge (pc := 9) hX 16 dX10_isFor_9 (by decide) (fun h3 => ?_) (fun h3 => ?_)
    · refine z_iconst (pc := 16) hX dX10_isFor_16 ?_
      exact z_zret (pc := 17) hX hR hk dX10_isFor_17 (Or.inl rfl)
    · refine z_iconst (pc := 12) hX dX10_isFor_12 ?_
      refine z_goto (pc := 13) hX 17 dX10_isFor_13 (by decide) ?_
      exact z_zret (pc := 17) hX hR hk dX10_isFor_17 (Or.inr rfl)

theorem dX11_wayTold_0 : decode cX11_wayTold 0 = .ok (.aload_n 0, 1) := by decide +kernel
theorem dX11_wayTold_1 : decode cX11_wayTold 1 = .ok (.iload_n 1, 1) := by decide +kernel
theorem dX11_wayTold_2 : decode cX11_wayTold 2 = .ok (.invokevirtual 177, 3) := by decide +kernel
theorem dX11_wayTold_5 : decode cX11_wayTold 5 = .ok (.astore_n 3, 1) := by decide +kernel
theorem dX11_wayTold_6 : decode cX11_wayTold 6 = .ok (.aload_n 3, 1) := by decide +kernel
theorem dX11_wayTold_7 : decode cX11_wayTold 7 = .ok (.ifnonnull 6, 3) := by decide +kernel
theorem dX11_wayTold_10 : decode cX11_wayTold 10 = .ok (.bipush (-5), 2) := by decide +kernel
theorem dX11_wayTold_12 : decode cX11_wayTold 12 = .ok (.ireturn, 1) := by decide +kernel
theorem dX11_wayTold_13 : decode cX11_wayTold 13 = .ok (.iload_n 2, 1) := by decide +kernel
theorem dX11_wayTold_14 : decode cX11_wayTold 14 = .ok (.iconst (-1), 1) := by decide +kernel
theorem dX11_wayTold_15 : decode cX11_wayTold 15 = .ok (.if_icmp .ne 8, 3) := by decide +kernel
theorem dX11_wayTold_18 : decode cX11_wayTold 18 = .ok (.aload_n 3, 1) := by decide +kernel
theorem dX11_wayTold_19 : decode cX11_wayTold 19 = .ok (.invokevirtual 181, 3) := by decide +kernel
theorem dX11_wayTold_22 : decode cX11_wayTold 22 = .ok (.ireturn, 1) := by decide +kernel
theorem dX11_wayTold_23 : decode cX11_wayTold 23 = .ok (.iload_n 2, 1) := by decide +kernel
theorem dX11_wayTold_24 : decode cX11_wayTold 24 = .ok (.bipush (-2), 2) := by decide +kernel
theorem dX11_wayTold_26 : decode cX11_wayTold 26 = .ok (.if_icmp .ne 8, 3) := by decide +kernel
theorem dX11_wayTold_29 : decode cX11_wayTold 29 = .ok (.aload_n 3, 1) := by decide +kernel
theorem dX11_wayTold_30 : decode cX11_wayTold 30 = .ok (.getfield 170, 3) := by decide +kernel
theorem dX11_wayTold_33 : decode cX11_wayTold 33 = .ok (.ireturn, 1) := by decide +kernel
theorem dX11_wayTold_34 : decode cX11_wayTold 34 = .ok (.aload_n 3, 1) := by decide +kernel
theorem dX11_wayTold_35 : decode cX11_wayTold 35 = .ok (.iload_n 2, 1) := by decide +kernel
theorem dX11_wayTold_36 : decode cX11_wayTold 36 = .ok (.invokevirtual 185, 3) := by decide +kernel
theorem dX11_wayTold_39 : decode cX11_wayTold 39 = .ok (.ifCond .eq 12, 3) := by decide +kernel
theorem dX11_wayTold_42 : decode cX11_wayTold 42 = .ok (.aload_n 3, 1) := by decide +kernel
theorem dX11_wayTold_43 : decode cX11_wayTold 43 = .ok (.getfield 167, 3) := by decide +kernel
theorem dX11_wayTold_46 : decode cX11_wayTold 46 = .ok (.iload_n 2, 1) := by decide +kernel
theorem dX11_wayTold_47 : decode cX11_wayTold 47 = .ok (.iaload, 1) := by decide +kernel
theorem dX11_wayTold_48 : decode cX11_wayTold 48 = .ok (.goto 5, 3) := by decide +kernel
theorem dX11_wayTold_51 : decode cX11_wayTold 51 = .ok (.bipush (-7), 2) := by decide +kernel
theorem dX11_wayTold_53 : decode cX11_wayTold 53 = .ok (.ireturn, 1) := by decide +kernel
def fX11_wayTold (s0 : ZS) (a0 : Int) (a1 : Int) (a2 : Int) : Option (Int × ZS) := zb (zv s0 11 a0 (fX11_wayAt s0 a0 a1)) (fun v1 s2 => if v1 < 0 then (some ((-5), s2)) else (if a2 = (-1) then (zb (zw s2 v1 (fX10_kind s2 v1) (fX9_kind s2 v1) (fX3_kind s2 v1) (fX0_kind s2 v1) (fX1_kind s2 v1) (fX7_kind s2 v1)) (fun v15 s16 => some (v15, s16))) else (if a2 = (-2) then ((zgw s2 v1 0).bind (fun v14 => some (v14, s2))) else (zb (zw s2 v1 (fX10_isFor s2 v1 a2) (fX10_isFor s2 v1 a2) (fX10_isFor s2 v1 a2) (fX10_isFor s2 v1 a2) (fX10_isFor s2 v1 a2) (fX10_isFor s2 v1 a2)) (fun v7 s8 => if v7 = 0 then (some ((-7), s8)) else ((zgw s8 v1 1).bind (fun v12 => (zal s8 100 v12 a2).bind (fun v13 => some (v13, s8)))))))))
set_option maxHeartbeats 4000000 in
set_option maxRecDepth 100000 in
theorem mX11_wayTold (E : ZE) (hE : zOkE E) (l : Launch) (s0 : ZS) (a0 : Int) (a1 : Int) (a2 : Int) : Ct E l yX11_wayTold cX11_wayTold 4 (some .int) 4 [(2, a0), (0, a1), (0, a2)] 1 s0 (fX11_wayTold s0 a0 a1 a2) := by
  refine Ct.of (by decide) hE (Nat.le_of_ble_eq_true rfl) ?_
  intro X G hX hR hN hXE hXl hxn hk _
  subst hXE
  subst hXl
  have hX : G → ZOk X cX11_wayTold RX11 4 := hX
  clear hN
  show Zj X G 0 [(0, (2, a0)), (1, (0, a1)), (2, (0, a2))] [] s0 _
  unfold fX11_wayTold
  refine z_aload_n (pc := 0) hX 0 dX11_wayTold_0 rfl rfl ?_
  refine z_iload_n (pc := 1) hX 1 dX11_wayTold_1 rfl rfl ?_
  refine z_callV (n := 1) (st := []) (pc := 2) hX zc11 rfl (fun _ => (mX11_wayAt _ hE _ _ _ _)) ⟨wd681, wd61, wd684, ⟨by decide, by decide, by decide⟩, by decide⟩ rfl wd683 wd18 rfl rfl (by decide) (Nat.le_of_ble_eq_true rfl) dX11_wayTold_2 (fun v1 s2 r3 => ?_)
  show Zj X G 5 [(0, (2, a0)), (1, (0, a1)), (2, (0, a2))] [(2, v1)] _ _
  refine z_astore_n (lv' := [(3, (2, v1)), (0, (2, a0)), (1, (0, a1)), (2, (0, a2))]) (pc := 5) hX dX11_wayTold_5 rfl (zlt hxn rfl) rfl ?_
  refine z_aload_n (pc := 6) hX 0 dX11_wayTold_6 rfl rfl ?_
  refine z_ifnonnull (pc := 7) hX 13 dX11_wayTold_7 (by decide) (fun h4 => ?_) (fun h4 => ?_)
  · refine z_iload_n (pc := 13) hX 3 dX11_wayTold_13 rfl rfl ?_
    refine z_iconst (pc := 14) hX dX11_wayTold_14 ?_
    refine z_icmp_ne (pc := 15) hX 23 dX11_wayTold_15 (by decide) (fun h5 => ?_) (fun h5 => ?_)
    · refine z_iload_n (pc := 23) hX 3 dX11_wayTold_23 rfl rfl ?_
      refine z_bipush (pc := 24) hX dX11_wayTold_24 ?_
      refine z_icmp_ne (pc := 26) hX 34 dX11_wayTold_26 (by decide) (fun h6 => ?_) (fun h6 => ?_)
      · refine z_aload_n (pc := 34) hX 0 dX11_wayTold_34 rfl rfl ?_
        refine z_iload_n (pc := 35) hX 3 dX11_wayTold_35 rfl rfl ?_
        refine z_kk (rk := 4) (st := []) (pc' := 39) (fun kk => z_zw (z_callV (n := 1) (pc := 36) (st := []) hX zc10 rfl (fun _ => (mX10_isFor _ hE _ _ _ _)) ⟨wd705, wd76, wd714, ⟨by decide, by decide, by decide⟩, by decide⟩ rfl wd706 wd707 rfl rfl (by decide) (Nat.le_of_ble_eq_true rfl) dX11_wayTold_36 kk) (z_callU (n := 1) (pc := 36) (x := yX10_isFor) (owner := "GateRoad$Way") (st := []) hX zc9 rfl (fun _ => (mX10_isFor _ hE _ _ _ _)) wd705 wd708 wd706 wd713 wd706 wd76 wd714 wd714 ⟨by decide, by decide, by decide⟩ (by decide) rfl rfl (by decide) (Nat.le_of_ble_eq_true rfl) dX11_wayTold_36 kk) (z_callU (n := 1) (pc := 36) (x := yX10_isFor) (owner := "GateRoad$Way") (st := []) hX zc3 rfl (fun _ => (mX10_isFor _ hE _ _ _ _)) wd705 wd708 wd706 wd711 wd706 wd76 wd714 wd714 ⟨by decide, by decide, by decide⟩ (by decide) rfl rfl (by decide) (Nat.le_of_ble_eq_true rfl) dX11_wayTold_36 kk) (z_callU (n := 1) (pc := 36) (x := yX10_isFor) (owner := "GateRoad$Way") (st := []) hX zc0 rfl (fun _ => (mX10_isFor _ hE _ _ _ _)) wd705 wd708 wd706 wd709 wd706 wd76 wd714 wd714 ⟨by decide, by decide, by decide⟩ (by decide) rfl rfl (by decide) (Nat.le_of_ble_eq_true rfl) dX11_wayTold_36 kk) (z_callU (n := 1) (pc := 36) (x := yX10_isFor) (owner := "GateRoad$Way") (st := []) hX zc1 rfl (fun _ => (mX10_isFor _ hE _ _ _ _)) wd705 wd708 wd706 wd710 wd706 wd76 wd714 wd714 ⟨by decide, by decide, by decide⟩ (by decide) rfl rfl (by decide) (Nat.le_of_ble_eq_true rfl) dX11_wayTold_36 kk) (z_callU (n := 1) (pc := 36) (x := yX10_isFor) (owner := "GateRoad$Way") (st := []) hX zc7 rfl (fun _ => (mX10_isFor _ hE _ _ _ _)) wd705 wd708 wd706 wd712 wd706 wd76 wd714 wd714 ⟨by decide, by decide, by decide⟩ (by decide) rfl rfl (by decide) (Nat.le_of_ble_eq_true rfl) dX11_wayTold_36 kk)) (fun v7 s8 r9 => ?_)
        show Zj X G 39 [(3, (2, v1)), (0, (2, a0)), (1, (0, a1)), (2, (0, a2))] [(0, v7)] _ _
        refine z_if_eq (pc := 39) hX 51 dX11_wayTold_39 (by decide) (fun h11 => ?_) (fun h11 => ?_)
        · refine z_bipush (pc := 51) hX dX11_wayTold_51 ?_
          exact z_iret (pc := 53) hX hR hk dX11_wayTold_53
        · refine z_aload_n (pc := 42) hX 0 dX11_wayTold_42 rfl rfl ?_
          refine z_getw (pc := 43) hX zc10 zc9 zc3 zc0 zc1 zc7 1 (by decide) wd620 rfl rfl rfl rfl rfl rfl rfl rfl rfl rfl rfl rfl rfl dX11_wayTold_43 (fun v12 => ?_)
          refine z_iload_n (pc := 46) hX 3 dX11_wayTold_46 rfl rfl ?_
          refine z_iald (pc := 47) hX dX11_wayTold_47 (fun v13 => ?_)
          refine z_goto (pc := 48) hX 53 dX11_wayTold_48 (by decide) ?_
          exact z_iret (pc := 53) hX hR hk dX11_wayTold_53
      · refine z_aload_n (pc := 29) hX 0 dX11_wayTold_29 rfl rfl ?_
        refine z_getw (pc := 30) hX zc10 zc9 zc3 zc0 zc1 zc7 0 (by decide) wd617 rfl rfl rfl rfl rfl rfl rfl rfl rfl rfl rfl rfl rfl dX11_wayTold_30 (fun v14 => ?_)
        exact z_iret (pc := 33) hX hR hk dX11_wayTold_33
    · refine z_aload_n (pc := 18) hX 0 dX11_wayTold_18 rfl rfl ?_
      refine z_kk (rk := 1) (st := []) (pc' := 22) (fun kk => z_zw (z_callV (n := 0) (pc := 19) (st := []) hX zc10 rfl (fun _ => (mX10_kind _ hE _ _ _)) ⟨wd685, wd76, wd704, ⟨by decide, by decide, by decide⟩, by decide⟩ rfl wd686 wd687 rfl rfl (by decide) (Nat.le_of_ble_eq_true rfl) dX11_wayTold_19 kk) (z_callU (n := 0) (pc := 19) (x := yX10_kind) (owner := "GateRoad$Way") (st := []) hX zc9 rfl (fun _ => (mX9_kind _ hE _ _ _)) wd685 wd688 wd686 wd701 wd702 wd77 wd703 wd704 ⟨by decide, by decide, by decide⟩ (by decide) rfl rfl (by decide) (Nat.le_of_ble_eq_true rfl) dX11_wayTold_19 kk) (z_callU (n := 0) (pc := 19) (x := yX10_kind) (owner := "GateRoad$Way") (st := []) hX zc3 rfl (fun _ => (mX3_kind _ hE _ _ _)) wd685 wd688 wd686 wd695 wd696 wd78 wd697 wd704 ⟨by decide, by decide, by decide⟩ (by decide) rfl rfl (by decide) (Nat.le_of_ble_eq_true rfl) dX11_wayTold_19 kk) (z_callU (n := 0) (pc := 19) (x := yX10_kind) (owner := "GateRoad$Way") (st := []) hX zc0 rfl (fun _ => (mX0_kind _ hE _ _ _)) wd685 wd688 wd686 wd689 wd690 wd79 wd691 wd704 ⟨by decide, by decide, by decide⟩ (by decide) rfl rfl (by decide) (Nat.le_of_ble_eq_true rfl) dX11_wayTold_19 kk) (z_callU (n := 0) (pc := 19) (x := yX10_kind) (owner := "GateRoad$Way") (st := []) hX zc1 rfl (fun _ => (mX1_kind _ hE _ _ _)) wd685 wd688 wd686 wd692 wd693 wd80 wd694 wd704 ⟨by decide, by decide, by decide⟩ (by decide) rfl rfl (by decide) (Nat.le_of_ble_eq_true rfl) dX11_wayTold_19 kk) (z_callU (n := 0) (pc := 19) (x := yX10_kind) (owner := "GateRoad$Way") (st := []) hX zc7 rfl (fun _ => (mX7_kind _ hE _ _ _)) wd685 wd688 wd686 wd698 wd699 wd81 wd700 wd704 ⟨by decide, by decide, by decide⟩ (by decide) rfl rfl (by decide) (Nat.le_of_ble_eq_true rfl) dX11_wayTold_19 kk)) (fun v15 s16 r17 => ?_)
      show Zj X G 22 [(3, (2, v1)), (0, (2, a0)), (1, (0, a1)), (2, (0, a2))] [(0, v15)] _ _
      exact z_iret (pc := 22) hX hR hk dX11_wayTold_22
  · refine z_bipush (pc := 10) hX dX11_wayTold_10 ?_
    exact z_iret (pc := 12) hX hR hk dX11_wayTold_12

theorem dX12_isWay_0 : decode cX12_isWay 0 = .ok (.iload_n 1, 1) := by decide +kernel
theorem dX12_isWay_1 : decode cX12_isWay 1 = .ok (.iconst 0, 1) := by decide +kernel
theorem dX12_isWay_2 : decode cX12_isWay 2 = .ok (.aload_n 0, 1) := by decide +kernel
theorem dX12_isWay_3 : decode cX12_isWay 3 = .ok (.getfield 214, 3) := by decide +kernel
theorem dX12_isWay_6 : decode cX12_isWay 6 = .ok (.iconst 1, 1) := by decide +kernel
theorem dX12_isWay_7 : decode cX12_isWay 7 = .ok (.isub, 1) := by decide +kernel
theorem dX12_isWay_8 : decode cX12_isWay 8 = .ok (.invokestatic 127, 3) := by decide +kernel
theorem dX12_isWay_11 : decode cX12_isWay 11 = .ok (.ireturn, 1) := by decide +kernel
def fX12_isWay (s0 : ZS) (a0 : Int) (a1 : Int) : Option (Int × ZS) := (zg s0 12 a0 8).bind (fun v1 => zb (fX12_in s0 a1 0 (wrap (v1 - 1))) (fun v2 s3 => some (v2, s3)))
set_option maxHeartbeats 4000000 in
set_option maxRecDepth 100000 in
theorem mX12_isWay (E : ZE) (hE : zOkE E) (l : Launch) (s0 : ZS) (a0 : Int) (a1 : Int) : Ct E l yX12_isWay cX12_isWay 2 (some .boolean) 4 [(2, a0), (0, a1)] 4 s0 (fX12_isWay s0 a0 a1) := by
  refine Ct.of (by decide) hE (Nat.le_of_ble_eq_true rfl) ?_
  intro X G hX hR hN hXE hXl hxn hk _
  subst hXE
  subst hXl
  have hX : G → ZOk X cX12_isWay RX12 4 := hX
  clear hN
  show Zj X G 0 [(0, (2, a0)), (1, (0, a1))] [] s0 _
  unfold fX12_isWay
  refine z_iload_n (pc := 0) hX 1 dX12_isWay_0 rfl rfl ?_
  refine z_iconst (pc := 1) hX dX12_isWay_1 ?_
  refine z_aload_n (pc := 2) hX 0 dX12_isWay_2 rfl rfl ?_
  refine z_get (pc := 3) hX zc12 8 (by decide) wd1025 rfl rfl dX12_isWay_3 (fun v1 => ?_)
  refine z_iconst (pc := 6) hX dX12_isWay_6 ?_
  refine z_isub (pc := 7) hX dX12_isWay_7 ?_
  refine z_callS (n := 3) (st := []) (pc := 8) hX (mX12_in _ hE _ _ _ _ _) ⟨wd1173, wd67, wd1175, ⟨by decide, by decide, by decide⟩, by decide⟩ wd1174 rfl rfl (by decide) (Nat.le_of_ble_eq_true rfl) dX12_isWay_8 (fun v2 s3 r4 => ?_)
  show Zj X G 11 [(0, (2, a0)), (1, (0, a1))] [(0, v2)] _ _
  exact z_zret (pc := 11) hX hR hk dX12_isWay_11 r4

theorem dX12_isOf_0 : decode cX12_isOf 0 = .ok (.aload_n 0, 1) := by decide +kernel
theorem dX12_isOf_1 : decode cX12_isOf 1 = .ok (.iload_n 1, 1) := by decide +kernel
theorem dX12_isOf_2 : decode cX12_isOf 2 = .ok (.invokevirtual 217, 3) := by decide +kernel
theorem dX12_isOf_5 : decode cX12_isOf 5 = .ok (.ifCond .eq 37, 3) := by decide +kernel
theorem dX12_isOf_8 : decode cX12_isOf 8 = .ok (.iload_n 2, 1) := by decide +kernel
theorem dX12_isOf_9 : decode cX12_isOf 9 = .ok (.iconst 0, 1) := by decide +kernel
theorem dX12_isOf_10 : decode cX12_isOf 10 = .ok (.aload_n 0, 1) := by decide +kernel
theorem dX12_isOf_11 : decode cX12_isOf 11 = .ok (.getfield 31, 3) := by decide +kernel
theorem dX12_isOf_14 : decode cX12_isOf 14 = .ok (.iload_n 1, 1) := by decide +kernel
theorem dX12_isOf_15 : decode cX12_isOf 15 = .ok (.iconst 0, 1) := by decide +kernel
theorem dX12_isOf_16 : decode cX12_isOf 16 = .ok (.bipush 7, 2) := by decide +kernel
theorem dX12_isOf_18 : decode cX12_isOf 18 = .ok (.invokestatic 127, 3) := by decide +kernel
theorem dX12_isOf_21 : decode cX12_isOf 21 = .ok (.ifCond .eq 7, 3) := by decide +kernel
theorem dX12_isOf_24 : decode cX12_isOf 24 = .ok (.iload_n 1, 1) := by decide +kernel
theorem dX12_isOf_25 : decode cX12_isOf 25 = .ok (.goto 4, 3) := by decide +kernel
theorem dX12_isOf_28 : decode cX12_isOf 28 = .ok (.iconst 0, 1) := by decide +kernel
theorem dX12_isOf_29 : decode cX12_isOf 29 = .ok (.iaload, 1) := by decide +kernel
theorem dX12_isOf_30 : decode cX12_isOf 30 = .ok (.iconst 1, 1) := by decide +kernel
theorem dX12_isOf_31 : decode cX12_isOf 31 = .ok (.isub, 1) := by decide +kernel
theorem dX12_isOf_32 : decode cX12_isOf 32 = .ok (.invokestatic 127, 3) := by decide +kernel
theorem dX12_isOf_35 : decode cX12_isOf 35 = .ok (.ifCond .eq 7, 3) := by decide +kernel
theorem dX12_isOf_38 : decode cX12_isOf 38 = .ok (.iconst 1, 1) := by decide +kernel
theorem dX12_isOf_39 : decode cX12_isOf 39 = .ok (.goto 4, 3) := by decide +kernel
theorem dX12_isOf_42 : decode cX12_isOf 42 = .ok (.iconst 0, 1) := by decide +kernel
theorem dX12_isOf_43 : decode cX12_isOf 43 = .ok (.ireturn, 1) := by decide +kernel
def fX12_isOf (s0 : ZS) (a0 : Int) (a1 : Int) (a2 : Int) : Option (Int × ZS) := zb (zv s0 12 a0 (fX12_isWay s0 a0 a1)) (fun v1 s2 => if v1 = 0 then (some (0, s2)) else ((zg s2 12 a0 10).bind (fun v5 => zb (fX12_in s2 a1 0 7) (fun v6 s7 => zjn (fun (K29 : ZS → Int → Option (Int × ZS)) => if v6 = 0 then (K29 s7 0) else (K29 s7 a1)) (fun (s10 : ZS) (w11 : Int) => (zal s10 100 v5 w11).bind (fun v12 => zb (fX12_in s10 a2 0 (wrap (v12 - 1))) (fun v13 s14 => if v13 = 0 then (some (0, s14)) else (some (1, s14)))))))))
set_option maxHeartbeats 4000000 in
set_option maxRecDepth 100000 in
theorem mX12_isOf (E : ZE) (hE : zOkE E) (l : Launch) (s0 : ZS) (a0 : Int) (a1 : Int) (a2 : Int) : Ct E l yX12_isOf cX12_isOf 3 (some .boolean) 6 [(2, a0), (0, a1), (0, a2)] 4 s0 (fX12_isOf s0 a0 a1 a2) := by
  refine Ct.of (by decide) hE (Nat.le_of_ble_eq_true rfl) ?_
  intro X G hX hR hN hXE hXl hxn hk _
  subst hXE
  subst hXl
  have hX : G → ZOk X cX12_isOf RX12 6 := hX
  clear hN
  show Zj X G 0 [(0, (2, a0)), (1, (0, a1)), (2, (0, a2))] [] s0 _
  unfold fX12_isOf
  refine z_aload_n (pc := 0) hX 0 dX12_isOf_0 rfl rfl ?_
  refine z_iload_n (pc := 1) hX 1 dX12_isOf_1 rfl rfl ?_
  refine z_callV (n := 1) (st := []) (pc := 2) hX zc12 rfl (fun _ => (mX12_isWay _ hE _ _ _ _)) ⟨wd1268, wd67, wd1271, ⟨by decide, by decide, by decide⟩, by decide⟩ rfl wd1270 wd42 rfl rfl (by decide) (Nat.le_of_ble_eq_true rfl) dX12_isOf_2 (fun v1 s2 r3 => ?_)
  show Zj X G 5 [(0, (2, a0)), (1, (0, a1)), (2, (0, a2))] [(0, v1)] _ _
  refine z_if_eq (pc := 5) hX 42 dX12_isOf_5 (by decide) (fun h4 => ?_) (fun h4 => ?_)
  · refine z_iconst (pc := 42) hX dX12_isOf_42 ?_
    exact z_zret (pc := 43) hX hR hk dX12_isOf_43 (Or.inl rfl)
  · refine z_iload_n (pc := 8) hX 2 dX12_isOf_8 rfl rfl ?_
    refine z_iconst (pc := 9) hX dX12_isOf_9 ?_
    refine z_aload_n (pc := 10) hX 0 dX12_isOf_10 rfl rfl ?_
    refine z_get (pc := 11) hX zc12 10 (by decide) wd1027 rfl rfl dX12_isOf_11 (fun v5 => ?_)
    refine z_iload_n (pc := 14) hX 1 dX12_isOf_14 rfl rfl ?_
    refine z_iconst (pc := 15) hX dX12_isOf_15 ?_
    refine z_bipush (pc := 16) hX dX12_isOf_16 ?_
    refine z_callS (n := 3) (st := [(2, v5), (0, 0), (0, a2)]) (pc := 18) hX (mX12_in _ hE _ _ _ _ _) ⟨wd1173, wd67, wd1175, ⟨by decide, by decide, by decide⟩, by decide⟩ wd1174 rfl rfl (by decide) (Nat.le_of_ble_eq_true rfl) dX12_isOf_18 (fun v6 s7 r8 => ?_)
    show Zj X G 21 [(0, (2, a0)), (1, (0, a1)), (2, (0, a2))] [(0, v6), (2, v5), (0, 0), (0, a2)] _ _
    refine z_jn (fun K29 eK29 => ?_)
    have hK29 : ∀ (s10 : ZS) (w11 : Int), Zj X G 29 [] [(0, w11), (2, v5), (0, 0), (0, a2)] s10 (K29 s10 w11) := by
      intro s10 w11
      rw [eK29]
      refine z_iald (pc := 29) hX dX12_isOf_29 (fun v12 => ?_)
      refine z_iconst (pc := 30) hX dX12_isOf_30 ?_
      refine z_isub (pc := 31) hX dX12_isOf_31 ?_
      refine z_callS (n := 3) (st := []) (pc := 32) hX (mX12_in _ hE _ _ _ _ _) ⟨wd1173, wd67, wd1175, ⟨by decide, by decide, by decide⟩, by decide⟩ wd1174 rfl rfl (by decide) (Nat.le_of_ble_eq_true rfl) dX12_isOf_32 (fun v13 s14 r15 => ?_)
      show Zj X G 35 [] [(0, v13)] _ _
      refine z_if_eq (pc := 35) hX 42 dX12_isOf_35 (by decide) (fun h16 => ?_) (fun h16 => ?_)
      · refine z_iconst (pc := 42) hX dX12_isOf_42 ?_
        exact z_zret (pc := 43) hX hR hk dX12_isOf_43 (Or.inl rfl)
      · refine z_iconst (pc := 38) hX dX12_isOf_38 ?_
        refine z_goto (pc := 39) hX 43 dX12_isOf_39 (by decide) ?_
        exact z_zret (pc := 43) hX hR hk dX12_isOf_43 (Or.inr rfl)
    clear eK29
    refine z_if_eq (pc := 21) hX 28 dX12_isOf_21 (by decide) (fun h9 => ?_) (fun h9 => ?_)
    · refine z_iconst (pc := 28) hX dX12_isOf_28 ?_
      refine z_pick (lv' := []) [] rfl ?_
      exact hK29 _ _
    · refine z_iload_n (pc := 24) hX 1 dX12_isOf_24 rfl rfl ?_
      refine z_goto (pc := 25) hX 29 dX12_isOf_25 (by decide) ?_
      refine z_pick (lv' := []) [] rfl ?_
      exact hK29 _ _

theorem dX12_wayTold_0 : decode cX12_wayTold 0 = .ok (.aload_n 0, 1) := by decide +kernel
theorem dX12_wayTold_1 : decode cX12_wayTold 1 = .ok (.iload_n 1, 1) := by decide +kernel
theorem dX12_wayTold_2 : decode cX12_wayTold 2 = .ok (.invokevirtual 217, 3) := by decide +kernel
theorem dX12_wayTold_5 : decode cX12_wayTold 5 = .ok (.ifCond .ne 6, 3) := by decide +kernel
theorem dX12_wayTold_8 : decode cX12_wayTold 8 = .ok (.bipush (-5), 2) := by decide +kernel
theorem dX12_wayTold_10 : decode cX12_wayTold 10 = .ok (.ireturn, 1) := by decide +kernel
theorem dX12_wayTold_11 : decode cX12_wayTold 11 = .ok (.iload_n 2, 1) := by decide +kernel
theorem dX12_wayTold_12 : decode cX12_wayTold 12 = .ok (.iconst (-1), 1) := by decide +kernel
theorem dX12_wayTold_13 : decode cX12_wayTold 13 = .ok (.if_icmp .ne 12, 3) := by decide +kernel
theorem dX12_wayTold_16 : decode cX12_wayTold 16 = .ok (.aload_n 0, 1) := by decide +kernel
theorem dX12_wayTold_17 : decode cX12_wayTold 17 = .ok (.getfield 28, 3) := by decide +kernel
theorem dX12_wayTold_20 : decode cX12_wayTold 20 = .ok (.iload_n 1, 1) := by decide +kernel
theorem dX12_wayTold_21 : decode cX12_wayTold 21 = .ok (.iaload, 1) := by decide +kernel
theorem dX12_wayTold_22 : decode cX12_wayTold 22 = .ok (.goto 43, 3) := by decide +kernel
theorem dX12_wayTold_25 : decode cX12_wayTold 25 = .ok (.iload_n 2, 1) := by decide +kernel
theorem dX12_wayTold_26 : decode cX12_wayTold 26 = .ok (.bipush (-2), 2) := by decide +kernel
theorem dX12_wayTold_28 : decode cX12_wayTold 28 = .ok (.if_icmp .ne 12, 3) := by decide +kernel
theorem dX12_wayTold_31 : decode cX12_wayTold 31 = .ok (.aload_n 0, 1) := by decide +kernel
theorem dX12_wayTold_32 : decode cX12_wayTold 32 = .ok (.getfield 31, 3) := by decide +kernel
theorem dX12_wayTold_35 : decode cX12_wayTold 35 = .ok (.iload_n 1, 1) := by decide +kernel
theorem dX12_wayTold_36 : decode cX12_wayTold 36 = .ok (.iaload, 1) := by decide +kernel
theorem dX12_wayTold_37 : decode cX12_wayTold 37 = .ok (.goto 28, 3) := by decide +kernel
theorem dX12_wayTold_40 : decode cX12_wayTold 40 = .ok (.aload_n 0, 1) := by decide +kernel
theorem dX12_wayTold_41 : decode cX12_wayTold 41 = .ok (.iload_n 1, 1) := by decide +kernel
theorem dX12_wayTold_42 : decode cX12_wayTold 42 = .ok (.iload_n 2, 1) := by decide +kernel
theorem dX12_wayTold_43 : decode cX12_wayTold 43 = .ok (.invokevirtual 223, 3) := by decide +kernel
theorem dX12_wayTold_46 : decode cX12_wayTold 46 = .ok (.ifCond .eq 17, 3) := by decide +kernel
theorem dX12_wayTold_49 : decode cX12_wayTold 49 = .ok (.aload_n 0, 1) := by decide +kernel
theorem dX12_wayTold_50 : decode cX12_wayTold 50 = .ok (.getfield 34, 3) := by decide +kernel
theorem dX12_wayTold_53 : decode cX12_wayTold 53 = .ok (.bipush 16, 2) := by decide +kernel
theorem dX12_wayTold_55 : decode cX12_wayTold 55 = .ok (.iload_n 1, 1) := by decide +kernel
theorem dX12_wayTold_56 : decode cX12_wayTold 56 = .ok (.imul, 1) := by decide +kernel
theorem dX12_wayTold_57 : decode cX12_wayTold 57 = .ok (.iload_n 2, 1) := by decide +kernel
theorem dX12_wayTold_58 : decode cX12_wayTold 58 = .ok (.iadd, 1) := by decide +kernel
theorem dX12_wayTold_59 : decode cX12_wayTold 59 = .ok (.iaload, 1) := by decide +kernel
theorem dX12_wayTold_60 : decode cX12_wayTold 60 = .ok (.goto 5, 3) := by decide +kernel
theorem dX12_wayTold_63 : decode cX12_wayTold 63 = .ok (.bipush (-7), 2) := by decide +kernel
theorem dX12_wayTold_65 : decode cX12_wayTold 65 = .ok (.ireturn, 1) := by decide +kernel
def fX12_wayTold (s0 : ZS) (a0 : Int) (a1 : Int) (a2 : Int) : Option (Int × ZS) := zb (zv s0 12 a0 (fX12_isWay s0 a0 a1)) (fun v1 s2 => if v1 = 0 then (some ((-5), s2)) else (if a2 = (-1) then ((zg s2 12 a0 9).bind (fun v15 => (zal s2 100 v15 a1).bind (fun v16 => some (v16, s2)))) else (if a2 = (-2) then ((zg s2 12 a0 10).bind (fun v13 => (zal s2 100 v13 a1).bind (fun v14 => some (v14, s2)))) else (zb (zv s2 12 a0 (fX12_isOf s2 a0 a1 a2)) (fun v7 s8 => if v7 = 0 then (some ((-7), s8)) else ((zg s8 12 a0 11).bind (fun v11 => (zal s8 100 v11 (wrap ((wrap (16 * a1)) + a2))).bind (fun v12 => some (v12, s8)))))))))
set_option maxHeartbeats 4000000 in
set_option maxRecDepth 100000 in
theorem mX12_wayTold (E : ZE) (hE : zOkE E) (l : Launch) (s0 : ZS) (a0 : Int) (a1 : Int) (a2 : Int) : Ct E l yX12_wayTold cX12_wayTold 3 (some .int) 8 [(2, a0), (0, a1), (0, a2)] 1 s0 (fX12_wayTold s0 a0 a1 a2) := by
  refine Ct.of (by decide) hE (Nat.le_of_ble_eq_true rfl) ?_
  intro X G hX hR hN hXE hXl hxn hk _
  subst hXE
  subst hXl
  have hX : G → ZOk X cX12_wayTold RX12 8 := hX
  clear hN
  show Zj X G 0 [(0, (2, a0)), (1, (0, a1)), (2, (0, a2))] [] s0 _
  unfold fX12_wayTold
  refine z_aload_n (pc := 0) hX 0 dX12_wayTold_0 rfl rfl ?_
  refine z_iload_n (pc := 1) hX 1 dX12_wayTold_1 rfl rfl ?_
  refine z_callV (n := 1) (st := []) (pc := 2) hX zc12 rfl (fun _ => (mX12_isWay _ hE _ _ _ _)) ⟨wd1268, wd67, wd1271, ⟨by decide, by decide, by decide⟩, by decide⟩ rfl wd1270 wd42 rfl rfl (by decide) (Nat.le_of_ble_eq_true rfl) dX12_wayTold_2 (fun v1 s2 r3 => ?_)
  show Zj X G 5 [(0, (2, a0)), (1, (0, a1)), (2, (0, a2))] [(0, v1)] _ _
  refine z_if_ne (pc := 5) hX 11 dX12_wayTold_5 (by decide) (fun h4 => ?_) (fun h4 => ?_)
  · refine z_iload_n (pc := 11) hX 2 dX12_wayTold_11 rfl rfl ?_
    refine z_iconst (pc := 12) hX dX12_wayTold_12 ?_
    refine z_icmp_ne (pc := 13) hX 25 dX12_wayTold_13 (by decide) (fun h5 => ?_) (fun h5 => ?_)
    · refine z_iload_n (pc := 25) hX 2 dX12_wayTold_25 rfl rfl ?_
      refine z_bipush (pc := 26) hX dX12_wayTold_26 ?_
      refine z_icmp_ne (pc := 28) hX 40 dX12_wayTold_28 (by decide) (fun h6 => ?_) (fun h6 => ?_)
      · refine z_aload_n (pc := 40) hX 0 dX12_wayTold_40 rfl rfl ?_
        refine z_iload_n (pc := 41) hX 1 dX12_wayTold_41 rfl rfl ?_
        refine z_iload_n (pc := 42) hX 2 dX12_wayTold_42 rfl rfl ?_
        refine z_callV (n := 2) (st := []) (pc := 43) hX zc12 rfl (fun _ => (mX12_isOf _ hE _ _ _ _ _)) ⟨wd1272, wd67, wd1275, ⟨by decide, by decide, by decide⟩, by decide⟩ rfl wd1274 wd43 rfl rfl (by decide) (Nat.le_of_ble_eq_true rfl) dX12_wayTold_43 (fun v7 s8 r9 => ?_)
        show Zj X G 46 [(0, (2, a0)), (1, (0, a1)), (2, (0, a2))] [(0, v7)] _ _
        refine z_if_eq (pc := 46) hX 63 dX12_wayTold_46 (by decide) (fun h10 => ?_) (fun h10 => ?_)
        · refine z_bipush (pc := 63) hX dX12_wayTold_63 ?_
          exact z_iret (pc := 65) hX hR hk dX12_wayTold_65
        · refine z_aload_n (pc := 49) hX 0 dX12_wayTold_49 rfl rfl ?_
          refine z_get (pc := 50) hX zc12 11 (by decide) wd1028 rfl rfl dX12_wayTold_50 (fun v11 => ?_)
          refine z_bipush (pc := 53) hX dX12_wayTold_53 ?_
          refine z_iload_n (pc := 55) hX 1 dX12_wayTold_55 rfl rfl ?_
          refine z_imul (pc := 56) hX dX12_wayTold_56 ?_
          refine z_iload_n (pc := 57) hX 2 dX12_wayTold_57 rfl rfl ?_
          refine z_iadd (pc := 58) hX dX12_wayTold_58 ?_
          refine z_iald (pc := 59) hX dX12_wayTold_59 (fun v12 => ?_)
          refine z_goto (pc := 60) hX 65 dX12_wayTold_60 (by decide) ?_
          exact z_iret (pc := 65) hX hR hk dX12_wayTold_65
      · refine z_aload_n (pc := 31) hX 0 dX12_wayTold_31 rfl rfl ?_
        refine z_get (pc := 32) hX zc12 10 (by decide) wd1027 rfl rfl dX12_wayTold_32 (fun v13 => ?_)
        refine z_iload_n (pc := 35) hX 1 dX12_wayTold_35 rfl rfl ?_
        refine z_iald (pc := 36) hX dX12_wayTold_36 (fun v14 => ?_)
        refine z_goto (pc := 37) hX 65 dX12_wayTold_37 (by decide) ?_
        exact z_iret (pc := 65) hX hR hk dX12_wayTold_65
    · refine z_aload_n (pc := 16) hX 0 dX12_wayTold_16 rfl rfl ?_
      refine z_get (pc := 17) hX zc12 9 (by decide) wd1026 rfl rfl dX12_wayTold_17 (fun v15 => ?_)
      refine z_iload_n (pc := 20) hX 1 dX12_wayTold_20 rfl rfl ?_
      refine z_iald (pc := 21) hX dX12_wayTold_21 (fun v16 => ?_)
      refine z_goto (pc := 22) hX 65 dX12_wayTold_22 (by decide) ?_
      exact z_iret (pc := 65) hX hR hk dX12_wayTold_65
  · refine z_bipush (pc := 8) hX dX12_wayTold_8 ?_
    exact z_iret (pc := 10) hX hR hk dX12_wayTold_10

theorem dX11_set_0 : decode cX11_set 0 = .ok (.aload_n 0, 1) := by decide +kernel
theorem dX11_set_1 : decode cX11_set 1 = .ok (.iload_n 1, 1) := by decide +kernel
theorem dX11_set_2 : decode cX11_set 2 = .ok (.invokevirtual 177, 3) := by decide +kernel
theorem dX11_set_5 : decode cX11_set 5 = .ok (.astore 4, 2) := by decide +kernel
theorem dX11_set_7 : decode cX11_set 7 = .ok (.aload 4, 2) := by decide +kernel
theorem dX11_set_9 : decode cX11_set 9 = .ok (.ifnull 12, 3) := by decide +kernel
theorem dX11_set_12 : decode cX11_set 12 = .ok (.aload 4, 2) := by decide +kernel
theorem dX11_set_14 : decode cX11_set 14 = .ok (.iload_n 2, 1) := by decide +kernel
theorem dX11_set_15 : decode cX11_set 15 = .ok (.invokevirtual 185, 3) := by decide +kernel
theorem dX11_set_18 : decode cX11_set 18 = .ok (.ifCond .ne 6, 3) := by decide +kernel
theorem dX11_set_21 : decode cX11_set 21 = .ok (.bipush (-5), 2) := by decide +kernel
theorem dX11_set_23 : decode cX11_set 23 = .ok (.ireturn, 1) := by decide +kernel
theorem dX11_set_24 : decode cX11_set 24 = .ok (.iload_n 3, 1) := by decide +kernel
theorem dX11_set_25 : decode cX11_set 25 = .ok (.bipush 48, 2) := by decide +kernel
theorem dX11_set_27 : decode cX11_set 27 = .ok (.invokestatic 102, 3) := by decide +kernel
theorem dX11_set_30 : decode cX11_set 30 = .ok (.ifCond .ne 6, 3) := by decide +kernel
theorem dX11_set_33 : decode cX11_set 33 = .ok (.bipush (-7), 2) := by decide +kernel
theorem dX11_set_35 : decode cX11_set 35 = .ok (.ireturn, 1) := by decide +kernel
theorem dX11_set_36 : decode cX11_set 36 = .ok (.aload 4, 2) := by decide +kernel
theorem dX11_set_38 : decode cX11_set 38 = .ok (.getfield 167, 3) := by decide +kernel
theorem dX11_set_41 : decode cX11_set 41 = .ok (.iload_n 2, 1) := by decide +kernel
theorem dX11_set_42 : decode cX11_set 42 = .ok (.iaload, 1) := by decide +kernel
theorem dX11_set_43 : decode cX11_set 43 = .ok (.istore 5, 2) := by decide +kernel
theorem dX11_set_45 : decode cX11_set 45 = .ok (.aload 4, 2) := by decide +kernel
theorem dX11_set_47 : decode cX11_set 47 = .ok (.getfield 167, 3) := by decide +kernel
theorem dX11_set_50 : decode cX11_set 50 = .ok (.iload_n 2, 1) := by decide +kernel
theorem dX11_set_51 : decode cX11_set 51 = .ok (.iload_n 3, 1) := by decide +kernel
theorem dX11_set_52 : decode cX11_set 52 = .ok (.iastore, 1) := by decide +kernel
theorem dX11_set_53 : decode cX11_set 53 = .ok (.iload 5, 2) := by decide +kernel
theorem dX11_set_55 : decode cX11_set 55 = .ok (.ireturn, 1) := by decide +kernel
def fX11_set (s0 : ZS) (a0 : Int) (a1 : Int) (a2 : Int) (a3 : Int) : Option (Int × ZS) := zb (zv s0 11 a0 (fX11_wayAt s0 a0 a1)) (fun v1 s2 => if v1 < 0 then (some ((-5), s2)) else (zb (zw s2 v1 (fX10_isFor s2 v1 a2) (fX10_isFor s2 v1 a2) (fX10_isFor s2 v1 a2) (fX10_isFor s2 v1 a2) (fX10_isFor s2 v1 a2) (fX10_isFor s2 v1 a2)) (fun v5 s6 => if v5 = 0 then (some ((-5), s6)) else (zb (fX11_within s6 a3 48) (fun v10 s11 => if v10 = 0 then (some ((-7), s11)) else ((zgw s11 v1 1).bind (fun v14 => (zal s11 100 v14 a2).bind (fun v15 => (zgw s11 v1 1).bind (fun v16 => (zas s11 100 v16 a2 a3).bind (fun s17 => some (v15, s17)))))))))))
set_option maxHeartbeats 4000000 in
set_option maxRecDepth 100000 in
theorem mX11_set (E : ZE) (hE : zOkE E) (l : Launch) (s0 : ZS) (a0 : Int) (a1 : Int) (a2 : Int) (a3 : Int) : Ct E l yX11_set cX11_set 6 (some .int) 4 [(2, a0), (0, a1), (0, a2), (0, a3)] 1 s0 (fX11_set s0 a0 a1 a2 a3) := by
  refine Ct.of (by decide) hE (Nat.le_of_ble_eq_true rfl) ?_
  intro X G hX hR hN hXE hXl hxn hk _
  subst hXE
  subst hXl
  have hX : G → ZOk X cX11_set RX11 4 := hX
  clear hN
  show Zj X G 0 [(0, (2, a0)), (1, (0, a1)), (2, (0, a2)), (3, (0, a3))] [] s0 _
  unfold fX11_set
  refine z_aload_n (pc := 0) hX 0 dX11_set_0 rfl rfl ?_
  refine z_iload_n (pc := 1) hX 1 dX11_set_1 rfl rfl ?_
  refine z_callV (n := 1) (st := []) (pc := 2) hX zc11 rfl (fun _ => (mX11_wayAt _ hE _ _ _ _)) ⟨wd681, wd61, wd684, ⟨by decide, by decide, by decide⟩, by decide⟩ rfl wd683 wd18 rfl rfl (by decide) (Nat.le_of_ble_eq_true rfl) dX11_set_2 (fun v1 s2 r3 => ?_)
  show Zj X G 5 [(0, (2, a0)), (1, (0, a1)), (2, (0, a2)), (3, (0, a3))] [(2, v1)] _ _
  refine z_astore (lv' := [(4, (2, v1)), (0, (2, a0)), (1, (0, a1)), (2, (0, a2)), (3, (0, a3))]) (pc := 5) hX dX11_set_5 (zlt hxn rfl) rfl ?_
  refine z_aload (pc := 7) hX 0 dX11_set_7 rfl ?_
  refine z_ifnull (pc := 9) hX 21 dX11_set_9 (by decide) (fun h4 => ?_) (fun h4 => ?_)
  · refine z_bipush (pc := 21) hX dX11_set_21 ?_
    exact z_iret (pc := 23) hX hR hk dX11_set_23
  · refine z_aload (pc := 12) hX 0 dX11_set_12 rfl ?_
    refine z_iload_n (pc := 14) hX 3 dX11_set_14 rfl rfl ?_
    refine z_kk (rk := 4) (st := []) (pc' := 18) (fun kk => z_zw (z_callV (n := 1) (pc := 15) (st := []) hX zc10 rfl (fun _ => (mX10_isFor _ hE _ _ _ _)) ⟨wd705, wd76, wd714, ⟨by decide, by decide, by decide⟩, by decide⟩ rfl wd706 wd707 rfl rfl (by decide) (Nat.le_of_ble_eq_true rfl) dX11_set_15 kk) (z_callU (n := 1) (pc := 15) (x := yX10_isFor) (owner := "GateRoad$Way") (st := []) hX zc9 rfl (fun _ => (mX10_isFor _ hE _ _ _ _)) wd705 wd708 wd706 wd713 wd706 wd76 wd714 wd714 ⟨by decide, by decide, by decide⟩ (by decide) rfl rfl (by decide) (Nat.le_of_ble_eq_true rfl) dX11_set_15 kk) (z_callU (n := 1) (pc := 15) (x := yX10_isFor) (owner := "GateRoad$Way") (st := []) hX zc3 rfl (fun _ => (mX10_isFor _ hE _ _ _ _)) wd705 wd708 wd706 wd711 wd706 wd76 wd714 wd714 ⟨by decide, by decide, by decide⟩ (by decide) rfl rfl (by decide) (Nat.le_of_ble_eq_true rfl) dX11_set_15 kk) (z_callU (n := 1) (pc := 15) (x := yX10_isFor) (owner := "GateRoad$Way") (st := []) hX zc0 rfl (fun _ => (mX10_isFor _ hE _ _ _ _)) wd705 wd708 wd706 wd709 wd706 wd76 wd714 wd714 ⟨by decide, by decide, by decide⟩ (by decide) rfl rfl (by decide) (Nat.le_of_ble_eq_true rfl) dX11_set_15 kk) (z_callU (n := 1) (pc := 15) (x := yX10_isFor) (owner := "GateRoad$Way") (st := []) hX zc1 rfl (fun _ => (mX10_isFor _ hE _ _ _ _)) wd705 wd708 wd706 wd710 wd706 wd76 wd714 wd714 ⟨by decide, by decide, by decide⟩ (by decide) rfl rfl (by decide) (Nat.le_of_ble_eq_true rfl) dX11_set_15 kk) (z_callU (n := 1) (pc := 15) (x := yX10_isFor) (owner := "GateRoad$Way") (st := []) hX zc7 rfl (fun _ => (mX10_isFor _ hE _ _ _ _)) wd705 wd708 wd706 wd712 wd706 wd76 wd714 wd714 ⟨by decide, by decide, by decide⟩ (by decide) rfl rfl (by decide) (Nat.le_of_ble_eq_true rfl) dX11_set_15 kk)) (fun v5 s6 r7 => ?_)
    show Zj X G 18 [(4, (2, v1)), (0, (2, a0)), (1, (0, a1)), (2, (0, a2)), (3, (0, a3))] [(0, v5)] _ _
    refine z_if_ne (pc := 18) hX 24 dX11_set_18 (by decide) (fun h9 => ?_) (fun h9 => ?_)
    · refine z_iload_n (pc := 24) hX 4 dX11_set_24 rfl rfl ?_
      refine z_bipush (pc := 25) hX dX11_set_25 ?_
      refine z_callS (n := 2) (st := []) (pc := 27) hX (mX11_within _ hE _ _ _ _) ⟨wd329, wd61, wd331, ⟨by decide, by decide, by decide⟩, by decide⟩ wd330 rfl rfl (by decide) (Nat.le_of_ble_eq_true rfl) dX11_set_27 (fun v10 s11 r12 => ?_)
      show Zj X G 30 [(4, (2, v1)), (0, (2, a0)), (1, (0, a1)), (2, (0, a2)), (3, (0, a3))] [(0, v10)] _ _
      refine z_if_ne (pc := 30) hX 36 dX11_set_30 (by decide) (fun h13 => ?_) (fun h13 => ?_)
      · refine z_aload (pc := 36) hX 0 dX11_set_36 rfl ?_
        refine z_getw (pc := 38) hX zc10 zc9 zc3 zc0 zc1 zc7 1 (by decide) wd620 rfl rfl rfl rfl rfl rfl rfl rfl rfl rfl rfl rfl rfl dX11_set_38 (fun v14 => ?_)
        refine z_iload_n (pc := 41) hX 3 dX11_set_41 rfl rfl ?_
        refine z_iald (pc := 42) hX dX11_set_42 (fun v15 => ?_)
        refine z_istore (lv' := [(5, (0, v15)), (4, (2, v1)), (0, (2, a0)), (1, (0, a1)), (2, (0, a2)), (3, (0, a3))]) (pc := 43) hX dX11_set_43 (zlt hxn rfl) rfl ?_
        refine z_aload (pc := 45) hX 1 dX11_set_45 rfl ?_
        refine z_getw (pc := 47) hX zc10 zc9 zc3 zc0 zc1 zc7 1 (by decide) wd620 rfl rfl rfl rfl rfl rfl rfl rfl rfl rfl rfl rfl rfl dX11_set_47 (fun v16 => ?_)
        refine z_iload_n (pc := 50) hX 4 dX11_set_50 rfl rfl ?_
        refine z_iload_n (pc := 51) hX 5 dX11_set_51 rfl rfl ?_
        refine z_iastA (pc := 52) hX dX11_set_52 (fun s17 => ?_)
        refine z_iload (pc := 53) hX 0 dX11_set_53 rfl ?_
        exact z_iret (pc := 55) hX hR hk dX11_set_55
      · refine z_bipush (pc := 33) hX dX11_set_33 ?_
        exact z_iret (pc := 35) hX hR hk dX11_set_35
    · refine z_bipush (pc := 21) hX dX11_set_21 ?_
      exact z_iret (pc := 23) hX hR hk dX11_set_23
