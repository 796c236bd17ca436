theorem dX4_readClause_0 : decode cX4_readClause 0 = .ok (.aload_n 0, 1) := by decide +kernel
theorem dX4_readClause_1 : decode cX4_readClause 1 = .ok (.iload_n 1, 1) := by decide +kernel
theorem dX4_readClause_2 : decode cX4_readClause 2 = .ok (.invokevirtual 65, 3) := by decide +kernel
theorem dX4_readClause_5 : decode cX4_readClause 5 = .ok (.aload_n 0, 1) := by decide +kernel
theorem dX4_readClause_6 : decode cX4_readClause 6 = .ok (.iconst 0, 1) := by decide +kernel
theorem dX4_readClause_7 : decode cX4_readClause 7 = .ok (.invokevirtual 68, 3) := by decide +kernel
theorem dX4_readClause_10 : decode cX4_readClause 10 = .ok (.aload_n 0, 1) := by decide +kernel
theorem dX4_readClause_11 : decode cX4_readClause 11 = .ok (.sipush 20059, 3) := by decide +kernel
theorem dX4_readClause_14 : decode cX4_readClause 14 = .ok (.invokevirtual 65, 3) := by decide +kernel
theorem dX4_readClause_17 : decode cX4_readClause 17 = .ok (.return_, 1) := by decide +kernel
def fX4_readClause (s0 : ZS) (a0 : Int) (a1 : Int) : Option (Int × ZS) := zb (zv s0 4 a0 (fX4_expect s0 a0 a1)) (fun v1 s2 => zb (zv s2 4 a0 (fX4_readOr s2 a0 0)) (fun v4 s5 => zb (zv s5 4 a0 (fX4_expect s5 a0 20059)) (fun v7 s8 => some (0, s8))))
set_option maxHeartbeats 4000000 in
set_option maxRecDepth 100000 in
theorem mX4_readClause (E : ZE) (hE : zOkE E) (l : Launch) (s0 : ZS) (a0 : Int) (a1 : Int) : Ct E l yX4_readClause cX4_readClause 2 none 68 [(2, a0), (0, a1)] 0 s0 (fX4_readClause s0 a0 a1) := by
  refine Ct.of (by decide) hE (Nat.le_of_ble_eq_true rfl) ?_
  intro X G hX hR hN hXE hXl hxn hk _
  subst hXE
  subst hXl
  have hX : G → ZOk X cX4_readClause RX4 68 := hX
  clear hN
  show Zj X G 0 [(0, (2, a0)), (1, (0, a1))] [] s0 _
  unfold fX4_readClause
  refine z_aload_n (pc := 0) hX 0 dX4_readClause_0 rfl rfl ?_
  refine z_iload_n (pc := 1) hX 1 dX4_readClause_1 rfl rfl ?_
  refine z_callV (n := 1) (st := []) (pc := 2) hX zc4 rfl (fun _ => (mX4_expect _ hE _ _ _ _)) ⟨wd515, wd64, wd518, ⟨by decide, by decide, by decide⟩, by decide⟩ rfl wd517 wd7 rfl rfl (by decide) (Nat.le_of_ble_eq_true rfl) dX4_readClause_2 (fun v1 s2 r3 => ?_)
  show Zj X G 5 [(0, (2, a0)), (1, (0, a1))] [] _ _
  refine z_aload_n (pc := 5) hX 0 dX4_readClause_5 rfl rfl ?_
  refine z_iconst (pc := 6) hX dX4_readClause_6 ?_
  refine z_callV (n := 1) (st := []) (pc := 7) hX zc4 rfl (fun _ => (mX4_readOr _ hE _ _ _ _)) ⟨wd527, wd64, wd530, ⟨by decide, by decide, by decide⟩, by decide⟩ rfl wd529 wd10 rfl rfl (by decide) (Nat.le_of_ble_eq_true rfl) dX4_readClause_7 (fun v4 s5 r6 => ?_)
  show Zj X G 10 [(0, (2, a0)), (1, (0, a1))] [] _ _
  refine z_aload_n (pc := 10) hX 0 dX4_readClause_10 rfl rfl ?_
  refine z_sipush (pc := 11) hX dX4_readClause_11 ?_
  refine z_callV (n := 1) (st := []) (pc := 14) hX zc4 rfl (fun _ => (mX4_expect _ hE _ _ _ _)) ⟨wd515, wd64, wd518, ⟨by decide, by decide, by decide⟩, by decide⟩ rfl wd517 wd7 rfl rfl (by decide) (Nat.le_of_ble_eq_true rfl) dX4_readClause_14 (fun v7 s8 r9 => ?_)
  show Zj X G 17 [(0, (2, a0)), (1, (0, a1))] [] _ _
  exact z_vret (pc := 17) hX hR hk dX4_readClause_17

theorem dJ7_copyOf_59c91_0 : decode cJ7_copyOf_59c91 0 = .ok (.iload_n 1, 1) := by decide +kernel
theorem dJ7_copyOf_59c91_1 : decode cJ7_copyOf_59c91 1 = .ok (.aload_n 0, 1) := by decide +kernel
theorem dJ7_copyOf_59c91_2 : decode cJ7_copyOf_59c91 2 = .ok (.arraylength, 1) := by decide +kernel
theorem dJ7_copyOf_59c91_3 : decode cJ7_copyOf_59c91 3 = .ok (.if_icmp .ne 11, 3) := by decide +kernel
theorem dJ7_copyOf_59c91_6 : decode cJ7_copyOf_59c91 6 = .ok (.aload_n 0, 1) := by decide +kernel
theorem dJ7_copyOf_59c91_7 : decode cJ7_copyOf_59c91 7 = .ok (.invokevirtual 316, 3) := by decide +kernel
theorem dJ7_copyOf_59c91_14 : decode cJ7_copyOf_59c91 14 = .ok (.iload_n 1, 1) := by decide +kernel
theorem dJ7_copyOf_59c91_15 : decode cJ7_copyOf_59c91 15 = .ok (.newarray .int, 2) := by decide +kernel
theorem dJ7_copyOf_59c91_17 : decode cJ7_copyOf_59c91 17 = .ok (.astore_n 2, 1) := by decide +kernel
theorem dJ7_copyOf_59c91_18 : decode cJ7_copyOf_59c91 18 = .ok (.aload_n 0, 1) := by decide +kernel
theorem dJ7_copyOf_59c91_19 : decode cJ7_copyOf_59c91 19 = .ok (.iconst 0, 1) := by decide +kernel
theorem dJ7_copyOf_59c91_20 : decode cJ7_copyOf_59c91 20 = .ok (.aload_n 2, 1) := by decide +kernel
theorem dJ7_copyOf_59c91_21 : decode cJ7_copyOf_59c91 21 = .ok (.iconst 0, 1) := by decide +kernel
theorem dJ7_copyOf_59c91_22 : decode cJ7_copyOf_59c91 22 = .ok (.aload_n 0, 1) := by decide +kernel
theorem dJ7_copyOf_59c91_23 : decode cJ7_copyOf_59c91 23 = .ok (.arraylength, 1) := by decide +kernel
theorem dJ7_copyOf_59c91_24 : decode cJ7_copyOf_59c91 24 = .ok (.iload_n 1, 1) := by decide +kernel
theorem dJ7_copyOf_59c91_25 : decode cJ7_copyOf_59c91 25 = .ok (.invokestatic 304, 3) := by decide +kernel
theorem dJ7_copyOf_59c91_28 : decode cJ7_copyOf_59c91 28 = .ok (.invokestatic 150, 3) := by decide +kernel
theorem dJ7_copyOf_59c91_31 : decode cJ7_copyOf_59c91 31 = .ok (.aload_n 2, 1) := by decide +kernel
theorem dJ7_copyOf_59c91_32 : decode cJ7_copyOf_59c91 32 = .ok (.areturn, 1) := by decide +kernel
def fJ7_copyOf_59c91 (s0 : ZS) (a0 : Int) (a1 : Int) : Option (Int × ZS) := (zlen s0 100 a0).bind (fun v1 => if a1 = v1 then (none) else ((zna s0 100 a1).bind (fun s3 => (zlen s3 100 a0).bind (fun v4 => (zcp s3 a0 0 (sN s0 : Int) 0 (imin v4 a1)).bind (fun s5 => some ((sN s0 : Int), s5))))))
set_option maxHeartbeats 4000000 in
set_option maxRecDepth 100000 in
theorem mJ7_copyOf_59c91 (E : ZE) (hE : zOkE E) (l : Launch) (s0 : ZS) (a0 : Int) (a1 : Int) : Ct E l yJ7_copyOf_59c91 cJ7_copyOf_59c91 3 (some (.array .int)) 2 [(2, a0), (0, a1)] 3 s0 (fJ7_copyOf_59c91 s0 a0 a1) := by
  refine Ct.of (by decide) hE (Nat.le_of_ble_eq_true rfl) ?_
  intro X G hX hR hN hXE hXl hxn hk _
  subst hXE
  subst hXl
  have hX : G → ZOk X cJ7_copyOf_59c91 RJ7 2 := hX
  clear hN
  show Zj X G 0 [(0, (2, a0)), (1, (0, a1))] [] s0 _
  unfold fJ7_copyOf_59c91
  refine z_iload_n (pc := 0) hX 1 dJ7_copyOf_59c91_0 rfl rfl ?_
  refine z_aload_n (pc := 1) hX 0 dJ7_copyOf_59c91_1 rfl rfl ?_
  refine z_alen (pc := 2) hX dJ7_copyOf_59c91_2 (fun v1 => ?_)
  refine z_icmp_ne (pc := 3) hX 14 dJ7_copyOf_59c91_3 (by decide) (fun h2 => ?_) (fun h2 => ?_)
  · refine z_iload_n (pc := 14) hX 1 dJ7_copyOf_59c91_14 rfl rfl ?_
    refine z_newIA (pc := 15) hX dJ7_copyOf_59c91_15 wd149 (fun s3 => ?_)
    refine z_astore_n (lv' := [(2, (2, (sN s0 : Int))), (0, (2, a0)), (1, (0, a1))]) (pc := 17) hX dJ7_copyOf_59c91_17 rfl (zlt hxn rfl) rfl ?_
    refine z_aload_n (pc := 18) hX 1 dJ7_copyOf_59c91_18 rfl rfl ?_
    refine z_iconst (pc := 19) hX dJ7_copyOf_59c91_19 ?_
    refine z_aload_n (pc := 20) hX 0 dJ7_copyOf_59c91_20 rfl rfl ?_
    refine z_iconst (pc := 21) hX dJ7_copyOf_59c91_21 ?_
    refine z_aload_n (pc := 22) hX 1 dJ7_copyOf_59c91_22 rfl rfl ?_
    refine z_alen (pc := 23) hX dJ7_copyOf_59c91_23 (fun v4 => ?_)
    refine z_iload_n (pc := 24) hX 2 dJ7_copyOf_59c91_24 rfl rfl ?_
    refine z_min (st := [(0, 0), (2, (sN s0 : Int)), (0, 0), (2, a0)]) (pc := 25) hX (by decide) wd570 wd471 wd72 wd472 (Nat.le_of_ble_eq_true rfl) dJ7_copyOf_59c91_25 ?_
    refine z_acopy (pc := 28) hX (by decide) dJ7_copyOf_59c91_28 wd571 wd573 wd572 wd75 (Nat.le_of_ble_eq_true rfl) (fun s5 => ?_)
    refine z_aload_n (pc := 31) hX 0 dJ7_copyOf_59c91_31 rfl rfl ?_
    exact z_aret (pc := 32) hX hR (Or.inr ⟨_, rfl⟩) hk dJ7_copyOf_59c91_32
  · refine z_aload_n (pc := 6) hX 0 dJ7_copyOf_59c91_6 rfl rfl ?_
    exact z_none

theorem dJ7_checkLength_df160_0 : decode cJ7_checkLength_df160 0 = .ok (.iload_n 1, 1) := by decide +kernel
theorem dJ7_checkLength_df160_1 : decode cJ7_checkLength_df160 1 = .ok (.iload_n 0, 1) := by decide +kernel
theorem dJ7_checkLength_df160_2 : decode cJ7_checkLength_df160 2 = .ok (.if_icmp .ge 35, 3) := by decide +kernel
theorem dJ7_checkLength_df160_5 : decode cJ7_checkLength_df160 5 = .ok (.new 43, 3) := by decide +kernel
theorem dJ7_checkLength_df160_37 : decode cJ7_checkLength_df160 37 = .ok (.return_, 1) := by decide +kernel
def fJ7_checkLength_df160 (s0 : ZS) (a0 : Int) (a1 : Int) : Option (Int × ZS) := if a0 ≤ a1 then (some (0, s0)) else (none)
set_option maxHeartbeats 4000000 in
set_option maxRecDepth 100000 in
theorem mJ7_checkLength_df160 (E : ZE) (hE : zOkE E) (l : Launch) (s0 : ZS) (a0 : Int) (a1 : Int) : Ct E l yJ7_checkLength_df160 cJ7_checkLength_df160 2 none 2 [(0, a0), (0, a1)] 0 s0 (fJ7_checkLength_df160 s0 a0 a1) := by
  refine Ct.of (by decide) hE (Nat.le_of_ble_eq_true rfl) ?_
  intro X G hX hR hN hXE hXl hxn hk _
  subst hXE
  subst hXl
  have hX : G → ZOk X cJ7_checkLength_df160 RJ7 2 := hX
  clear hN
  show Zj X G 0 [(0, (0, a0)), (1, (0, a1))] [] s0 _
  unfold fJ7_checkLength_df160
  refine z_iload_n (pc := 0) hX 1 dJ7_checkLength_df160_0 rfl rfl ?_
  refine z_iload_n (pc := 1) hX 0 dJ7_checkLength_df160_1 rfl rfl ?_
  refine z_icmp_ge (pc := 2) hX 37 dJ7_checkLength_df160_2 (by decide) (fun h1 => ?_) (fun h1 => ?_)
  · exact z_vret (pc := 37) hX hR hk dJ7_checkLength_df160_37
  · exact z_none

theorem dJ7_copyOfRangeInt_feecc_0 : decode cJ7_copyOfRangeInt_feecc 0 = .ok (.iload_n 1, 1) := by decide +kernel
theorem dJ7_copyOfRangeInt_feecc_1 : decode cJ7_copyOfRangeInt_feecc 1 = .ok (.iload_n 2, 1) := by decide +kernel
theorem dJ7_copyOfRangeInt_feecc_2 : decode cJ7_copyOfRangeInt_feecc 2 = .ok (.invokestatic 343, 3) := by decide +kernel
theorem dJ7_copyOfRangeInt_feecc_5 : decode cJ7_copyOfRangeInt_feecc 5 = .ok (.iload_n 2, 1) := by decide +kernel
theorem dJ7_copyOfRangeInt_feecc_6 : decode cJ7_copyOfRangeInt_feecc 6 = .ok (.iload_n 1, 1) := by decide +kernel
theorem dJ7_copyOfRangeInt_feecc_7 : decode cJ7_copyOfRangeInt_feecc 7 = .ok (.isub, 1) := by decide +kernel
theorem dJ7_copyOfRangeInt_feecc_8 : decode cJ7_copyOfRangeInt_feecc 8 = .ok (.istore_n 3, 1) := by decide +kernel
theorem dJ7_copyOfRangeInt_feecc_9 : decode cJ7_copyOfRangeInt_feecc 9 = .ok (.iload_n 3, 1) := by decide +kernel
theorem dJ7_copyOfRangeInt_feecc_10 : decode cJ7_copyOfRangeInt_feecc 10 = .ok (.newarray .int, 2) := by decide +kernel
theorem dJ7_copyOfRangeInt_feecc_12 : decode cJ7_copyOfRangeInt_feecc 12 = .ok (.astore 4, 2) := by decide +kernel
theorem dJ7_copyOfRangeInt_feecc_14 : decode cJ7_copyOfRangeInt_feecc 14 = .ok (.aload_n 0, 1) := by decide +kernel
theorem dJ7_copyOfRangeInt_feecc_15 : decode cJ7_copyOfRangeInt_feecc 15 = .ok (.iload_n 1, 1) := by decide +kernel
theorem dJ7_copyOfRangeInt_feecc_16 : decode cJ7_copyOfRangeInt_feecc 16 = .ok (.aload 4, 2) := by decide +kernel
theorem dJ7_copyOfRangeInt_feecc_18 : decode cJ7_copyOfRangeInt_feecc 18 = .ok (.iconst 0, 1) := by decide +kernel
theorem dJ7_copyOfRangeInt_feecc_19 : decode cJ7_copyOfRangeInt_feecc 19 = .ok (.aload_n 0, 1) := by decide +kernel
theorem dJ7_copyOfRangeInt_feecc_20 : decode cJ7_copyOfRangeInt_feecc 20 = .ok (.arraylength, 1) := by decide +kernel
theorem dJ7_copyOfRangeInt_feecc_21 : decode cJ7_copyOfRangeInt_feecc 21 = .ok (.iload_n 1, 1) := by decide +kernel
theorem dJ7_copyOfRangeInt_feecc_22 : decode cJ7_copyOfRangeInt_feecc 22 = .ok (.isub, 1) := by decide +kernel
theorem dJ7_copyOfRangeInt_feecc_23 : decode cJ7_copyOfRangeInt_feecc 23 = .ok (.iload_n 3, 1) := by decide +kernel
theorem dJ7_copyOfRangeInt_feecc_24 : decode cJ7_copyOfRangeInt_feecc 24 = .ok (.invokestatic 304, 3) := by decide +kernel
theorem dJ7_copyOfRangeInt_feecc_27 : decode cJ7_copyOfRangeInt_feecc 27 = .ok (.invokestatic 150, 3) := by decide +kernel
theorem dJ7_copyOfRangeInt_feecc_30 : decode cJ7_copyOfRangeInt_feecc 30 = .ok (.aload 4, 2) := by decide +kernel
theorem dJ7_copyOfRangeInt_feecc_32 : decode cJ7_copyOfRangeInt_feecc 32 = .ok (.areturn, 1) := by decide +kernel
def fJ7_copyOfRangeInt_feecc (s0 : ZS) (a0 : Int) (a1 : Int) (a2 : Int) : Option (Int × ZS) := zb (fJ7_checkLength_df160 s0 a1 a2) (fun v1 s2 => (zna s2 100 (wrap (a2 - a1))).bind (fun s4 => (zlen s4 100 a0).bind (fun v5 => (zcp s4 a0 a1 (sN s2 : Int) 0 (imin (wrap (v5 - a1)) (wrap (a2 - a1)))).bind (fun s6 => some ((sN s2 : Int), s6)))))
set_option maxHeartbeats 4000000 in
set_option maxRecDepth 100000 in
theorem mJ7_copyOfRangeInt_feecc (E : ZE) (hE : zOkE E) (l : Launch) (s0 : ZS) (a0 : Int) (a1 : Int) (a2 : Int) : Ct E l yJ7_copyOfRangeInt_feecc cJ7_copyOfRangeInt_feecc 5 (some (.array .int)) 4 [(2, a0), (0, a1), (0, a2)] 3 s0 (fJ7_copyOfRangeInt_feecc s0 a0 a1 a2) := by
  refine Ct.of (by decide) hE (Nat.le_of_ble_eq_true rfl) ?_
  intro X G hX hR hN hXE hXl hxn hk _
  subst hXE
  subst hXl
  have hX : G → ZOk X cJ7_copyOfRangeInt_feecc RJ7 4 := hX
  clear hN
  show Zj X G 0 [(0, (2, a0)), (1, (0, a1)), (2, (0, a2))] [] s0 _
  unfold fJ7_copyOfRangeInt_feecc
  refine z_iload_n (pc := 0) hX 1 dJ7_copyOfRangeInt_feecc_0 rfl rfl ?_
  refine z_iload_n (pc := 1) hX 2 dJ7_copyOfRangeInt_feecc_1 rfl rfl ?_
  refine z_callS (n := 2) (st := []) (pc := 2) hX (mJ7_checkLength_df160 _ hE _ _ _ _) ⟨wd580, wd74, wd582, ⟨by decide, by decide, by decide⟩, by decide⟩ wd581 rfl rfl (by decide) (Nat.le_of_ble_eq_true rfl) dJ7_copyOfRangeInt_feecc_2 (fun v1 s2 r3 => ?_)
  show Zj X G 5 [(0, (2, a0)), (1, (0, a1)), (2, (0, a2))] [] _ _
  refine z_iload_n (pc := 5) hX 2 dJ7_copyOfRangeInt_feecc_5 rfl rfl ?_
  refine z_iload_n (pc := 6) hX 1 dJ7_copyOfRangeInt_feecc_6 rfl rfl ?_
  refine z_isub (pc := 7) hX dJ7_copyOfRangeInt_feecc_7 ?_
  refine z_istore_n (lv' := [(3, (0, (wrap (a2 - a1)))), (0, (2, a0)), (1, (0, a1)), (2, (0, a2))]) (pc := 8) hX dJ7_copyOfRangeInt_feecc_8 rfl (zlt hxn rfl) rfl ?_
  refine z_iload_n (pc := 9) hX 0 dJ7_copyOfRangeInt_feecc_9 rfl rfl ?_
  refine z_newIA (pc := 10) hX dJ7_copyOfRangeInt_feecc_10 wd149 (fun s4 => ?_)
  refine z_astore (lv' := [(4, (2, (sN s2 : Int))), (3, (0, (wrap (a2 - a1)))), (0, (2, a0)), (1, (0, a1)), (2, (0, a2))]) (pc := 12) hX dJ7_copyOfRangeInt_feecc_12 (zlt hxn rfl) rfl ?_
  refine z_aload_n (pc := 14) hX 2 dJ7_copyOfRangeInt_feecc_14 rfl rfl ?_
  refine z_iload_n (pc := 15) hX 3 dJ7_copyOfRangeInt_feecc_15 rfl rfl ?_
  refine z_aload (pc := 16) hX 0 dJ7_copyOfRangeInt_feecc_16 rfl ?_
  refine z_iconst (pc := 18) hX dJ7_copyOfRangeInt_feecc_18 ?_
  refine z_aload_n (pc := 19) hX 2 dJ7_copyOfRangeInt_feecc_19 rfl rfl ?_
  refine z_alen (pc := 20) hX dJ7_copyOfRangeInt_feecc_20 (fun v5 => ?_)
  refine z_iload_n (pc := 21) hX 3 dJ7_copyOfRangeInt_feecc_21 rfl rfl ?_
  refine z_isub (pc := 22) hX dJ7_copyOfRangeInt_feecc_22 ?_
  refine z_iload_n (pc := 23) hX 1 dJ7_copyOfRangeInt_feecc_23 rfl rfl ?_
  refine z_min (st := [(0, 0), (2, (sN s2 : Int)), (0, a1), (2, a0)]) (pc := 24) hX (by decide) wd570 wd471 wd72 wd472 (Nat.le_of_ble_eq_true rfl) dJ7_copyOfRangeInt_feecc_24 ?_
  refine z_acopy (pc := 27) hX (by decide) dJ7_copyOfRangeInt_feecc_27 wd571 wd573 wd572 wd75 (Nat.le_of_ble_eq_true rfl) (fun s6 => ?_)
  refine z_aload (pc := 30) hX 0 dJ7_copyOfRangeInt_feecc_30 rfl ?_
  exact z_aret (pc := 32) hX hR (Or.inr ⟨_, rfl⟩) hk dJ7_copyOfRangeInt_feecc_32

theorem dJ7_copyOfRange_feecc_0 : decode cJ7_copyOfRange_feecc 0 = .ok (.iload_n 1, 1) := by decide +kernel
theorem dJ7_copyOfRange_feecc_1 : decode cJ7_copyOfRange_feecc 1 = .ok (.ifCond .ne 9, 3) := by decide +kernel
theorem dJ7_copyOfRange_feecc_4 : decode cJ7_copyOfRange_feecc 4 = .ok (.iload_n 2, 1) := by decide +kernel
theorem dJ7_copyOfRange_feecc_5 : decode cJ7_copyOfRange_feecc 5 = .ok (.aload_n 0, 1) := by decide +kernel
theorem dJ7_copyOfRange_feecc_6 : decode cJ7_copyOfRange_feecc 6 = .ok (.arraylength, 1) := by decide +kernel
theorem dJ7_copyOfRange_feecc_7 : decode cJ7_copyOfRange_feecc 7 = .ok (.if_icmp .eq 10, 3) := by decide +kernel
theorem dJ7_copyOfRange_feecc_10 : decode cJ7_copyOfRange_feecc 10 = .ok (.aload_n 0, 1) := by decide +kernel
theorem dJ7_copyOfRange_feecc_11 : decode cJ7_copyOfRange_feecc 11 = .ok (.iload_n 1, 1) := by decide +kernel
theorem dJ7_copyOfRange_feecc_12 : decode cJ7_copyOfRange_feecc 12 = .ok (.iload_n 2, 1) := by decide +kernel
theorem dJ7_copyOfRange_feecc_13 : decode cJ7_copyOfRange_feecc 13 = .ok (.invokestatic 351, 3) := by decide +kernel
theorem dJ7_copyOfRange_feecc_16 : decode cJ7_copyOfRange_feecc 16 = .ok (.areturn, 1) := by decide +kernel
theorem dJ7_copyOfRange_feecc_17 : decode cJ7_copyOfRange_feecc 17 = .ok (.aload_n 0, 1) := by decide +kernel
theorem dJ7_copyOfRange_feecc_18 : decode cJ7_copyOfRange_feecc 18 = .ok (.invokevirtual 316, 3) := by decide +kernel
def fJ7_copyOfRange_feecc (s0 : ZS) (a0 : Int) (a1 : Int) (a2 : Int) : Option (Int × ZS) := zjn (fun (K10 : ZS → Option (Int × ZS)) => if a1 = 0 then ((zlen s0 100 a0).bind (fun v2 => if a2 = v2 then (none) else (K10 s0))) else (K10 s0)) (fun (s4 : ZS) => zb (fJ7_copyOfRangeInt_feecc s4 a0 a1 a2) (fun v5 s6 => some (v5, s6)))
set_option maxHeartbeats 4000000 in
set_option maxRecDepth 100000 in
theorem mJ7_copyOfRange_feecc (E : ZE) (hE : zOkE E) (l : Launch) (s0 : ZS) (a0 : Int) (a1 : Int) (a2 : Int) : Ct E l yJ7_copyOfRange_feecc cJ7_copyOfRange_feecc 3 (some (.array .int)) 6 [(2, a0), (0, a1), (0, a2)] 3 s0 (fJ7_copyOfRange_feecc s0 a0 a1 a2) := by
  refine Ct.of (by decide) hE (Nat.le_of_ble_eq_true rfl) ?_
  intro X G hX hR hN hXE hXl hxn hk _
  subst hXE
  subst hXl
  have hX : G → ZOk X cJ7_copyOfRange_feecc RJ7 6 := hX
  clear hN
  show Zj X G 0 [(0, (2, a0)), (1, (0, a1)), (2, (0, a2))] [] s0 _
  unfold fJ7_copyOfRange_feecc
  refine z_iload_n (pc := 0) hX 1 dJ7_copyOfRange_feecc_0 rfl rfl ?_
  refine z_jn (fun K10 eK10 => ?_)
  have hK10 : ∀ (s4 : ZS), Zj X G 10 [(0, (2, a0)), (1, (0, a1)), (2, (0, a2))] [] s4 (K10 s4) := by
    intro s4
    rw [eK10]
    refine z_aload_n (pc := 10) hX 0 dJ7_copyOfRange_feecc_10 rfl rfl ?_
    refine z_iload_n (pc := 11) hX 1 dJ7_copyOfRange_feecc_11 rfl rfl ?_
    refine z_iload_n (pc := 12) hX 2 dJ7_copyOfRange_feecc_12 rfl rfl ?_
    refine z_callS (n := 3) (st := []) (pc := 13) hX (mJ7_copyOfRangeInt_feecc _ hE _ _ _ _ _) ⟨wd577, wd74, wd579, ⟨by decide, by decide, by decide⟩, by decide⟩ wd578 rfl rfl (by decide) (Nat.le_of_ble_eq_true rfl) dJ7_copyOfRange_feecc_13 (fun v5 s6 r7 => ?_)
    show Zj X G 16 [(0, (2, a0)), (1, (0, a1)), (2, (0, a2))] [(2, v5)] _ _
    exact z_aret (pc := 16) hX hR (Or.inr ⟨_, rfl⟩) hk dJ7_copyOfRange_feecc_16
  clear eK10
  refine z_if_ne (pc := 1) hX 10 dJ7_copyOfRange_feecc_1 (by decide) (fun h1 => ?_) (fun h1 => ?_)
  · exact hK10 _
  · refine z_iload_n (pc := 4) hX 2 dJ7_copyOfRange_feecc_4 rfl rfl ?_
    refine z_aload_n (pc := 5) hX 0 dJ7_copyOfRange_feecc_5 rfl rfl ?_
    refine z_alen (pc := 6) hX dJ7_copyOfRange_feecc_6 (fun v2 => ?_)
    refine z_icmp_eq (pc := 7) hX 17 dJ7_copyOfRange_feecc_7 (by decide) (fun h3 => ?_) (fun h3 => ?_)
    · refine z_aload_n (pc := 17) hX 0 dJ7_copyOfRange_feecc_17 rfl rfl ?_
      exact z_none
    · exact hK10 _

theorem dX4_readTape_0 : decode cX4_readTape 0 = .ok (.aload_n 0, 1) := by decide +kernel
theorem dX4_readTape_1 : decode cX4_readTape 1 = .ok (.invokevirtual 42, 3) := by decide +kernel
theorem dX4_readTape_4 : decode cX4_readTape 4 = .ok (.aload_n 0, 1) := by decide +kernel
theorem dX4_readTape_5 : decode cX4_readTape 5 = .ok (.iconst 0, 1) := by decide +kernel
theorem dX4_readTape_6 : decode cX4_readTape 6 = .ok (.putfield 33, 3) := by decide +kernel
theorem dX4_readTape_9 : decode cX4_readTape 9 = .ok (.aload_n 0, 1) := by decide +kernel
theorem dX4_readTape_10 : decode cX4_readTape 10 = .ok (.iconst (-1), 1) := by decide +kernel
theorem dX4_readTape_11 : decode cX4_readTape 11 = .ok (.putfield 21, 3) := by decide +kernel
theorem dX4_readTape_14 : decode cX4_readTape 14 = .ok (.aload_n 0, 1) := by decide +kernel
theorem dX4_readTape_15 : decode cX4_readTape 15 = .ok (.iconst 0, 1) := by decide +kernel
theorem dX4_readTape_16 : decode cX4_readTape 16 = .ok (.putfield 39, 3) := by decide +kernel
theorem dX4_readTape_19 : decode cX4_readTape 19 = .ok (.aload_n 0, 1) := by decide +kernel
theorem dX4_readTape_20 : decode cX4_readTape 20 = .ok (.sipush 10006, 3) := by decide +kernel
theorem dX4_readTape_23 : decode cX4_readTape 23 = .ok (.invokevirtual 45, 3) := by decide +kernel
theorem dX4_readTape_26 : decode cX4_readTape 26 = .ok (.aload_n 0, 1) := by decide +kernel
theorem dX4_readTape_27 : decode cX4_readTape 27 = .ok (.getfield 39, 3) := by decide +kernel
theorem dX4_readTape_30 : decode cX4_readTape 30 = .ok (.istore_n 1, 1) := by decide +kernel
theorem dX4_readTape_31 : decode cX4_readTape 31 = .ok (.aload_n 0, 1) := by decide +kernel
theorem dX4_readTape_32 : decode cX4_readTape 32 = .ok (.sipush 10007, 3) := by decide +kernel
theorem dX4_readTape_35 : decode cX4_readTape 35 = .ok (.invokevirtual 45, 3) := by decide +kernel
theorem dX4_readTape_38 : decode cX4_readTape 38 = .ok (.aload_n 0, 1) := by decide +kernel
theorem dX4_readTape_39 : decode cX4_readTape 39 = .ok (.getfield 24, 3) := by decide +kernel
theorem dX4_readTape_42 : decode cX4_readTape 42 = .ok (.aload_n 0, 1) := by decide +kernel
theorem dX4_readTape_43 : decode cX4_readTape 43 = .ok (.getfield 33, 3) := by decide +kernel
theorem dX4_readTape_46 : decode cX4_readTape 46 = .ok (.iaload, 1) := by decide +kernel
theorem dX4_readTape_47 : decode cX4_readTape 47 = .ok (.sipush 30000, 3) := by decide +kernel
theorem dX4_readTape_50 : decode cX4_readTape 50 = .ok (.if_icmp .eq 7, 3) := by decide +kernel
theorem dX4_readTape_53 : decode cX4_readTape 53 = .ok (.aload_n 0, 1) := by decide +kernel
theorem dX4_readTape_54 : decode cX4_readTape 54 = .ok (.invokevirtual 49, 3) := by decide +kernel
theorem dX4_readTape_57 : decode cX4_readTape 57 = .ok (.aload_n 0, 1) := by decide +kernel
theorem dX4_readTape_58 : decode cX4_readTape 58 = .ok (.iconst 0, 1) := by decide +kernel
theorem dX4_readTape_59 : decode cX4_readTape 59 = .ok (.putfield 17, 3) := by decide +kernel
theorem dX4_readTape_62 : decode cX4_readTape 62 = .ok (.aload_n 0, 1) := by decide +kernel
theorem dX4_readTape_63 : decode cX4_readTape 63 = .ok (.getfield 21, 3) := by decide +kernel
theorem dX4_readTape_66 : decode cX4_readTape 66 = .ok (.iconst (-1), 1) := by decide +kernel
theorem dX4_readTape_67 : decode cX4_readTape 67 = .ok (.if_icmp .eq 5, 3) := by decide +kernel
theorem dX4_readTape_70 : decode cX4_readTape 70 = .ok (.aconst_null, 1) := by decide +kernel
theorem dX4_readTape_71 : decode cX4_readTape 71 = .ok (.areturn, 1) := by decide +kernel
theorem dX4_readTape_72 : decode cX4_readTape 72 = .ok (.new 1, 3) := by decide +kernel
theorem dX4_readTape_75 : decode cX4_readTape 75 = .ok (.dup, 1) := by decide +kernel
theorem dX4_readTape_76 : decode cX4_readTape 76 = .ok (.aload_n 0, 1) := by decide +kernel
theorem dX4_readTape_77 : decode cX4_readTape 77 = .ok (.getfield 36, 3) := by decide +kernel
theorem dX4_readTape_80 : decode cX4_readTape 80 = .ok (.iload_n 1, 1) := by decide +kernel
theorem dX4_readTape_81 : decode cX4_readTape 81 = .ok (.invokestatic 52, 3) := by decide +kernel
theorem dX4_readTape_84 : decode cX4_readTape 84 = .ok (.aload_n 0, 1) := by decide +kernel
theorem dX4_readTape_85 : decode cX4_readTape 85 = .ok (.getfield 36, 3) := by decide +kernel
theorem dX4_readTape_88 : decode cX4_readTape 88 = .ok (.iload_n 1, 1) := by decide +kernel
theorem dX4_readTape_89 : decode cX4_readTape 89 = .ok (.aload_n 0, 1) := by decide +kernel
theorem dX4_readTape_90 : decode cX4_readTape 90 = .ok (.getfield 39, 3) := by decide +kernel
theorem dX4_readTape_93 : decode cX4_readTape 93 = .ok (.invokestatic 58, 3) := by decide +kernel
theorem dX4_readTape_96 : decode cX4_readTape 96 = .ok (.invokespecial 62, 3) := by decide +kernel
theorem dX4_readTape_99 : decode cX4_readTape 99 = .ok (.areturn, 1) := by decide +kernel
def fX4_readTape (s0 : ZS) (a0 : Int) : Option (Int × ZS) := zb (zv s0 4 a0 (fX4_scan s0 a0)) (fun v1 s2 => (zp s2 4 a0 6 0).bind (fun s4 => (zp s4 4 a0 2 (-1)).bind (fun s5 => (zp s5 4 a0 8 0).bind (fun s6 => zb (zv s6 4 a0 (fX4_readClause s6 a0 10006)) (fun v7 s8 => (zg s8 4 a0 8).bind (fun v10 => zb (zv s8 4 a0 (fX4_readClause s8 a0 10007)) (fun v11 s12 => (zg s12 4 a0 3).bind (fun v14 => (zg s12 4 a0 6).bind (fun v15 => (zal s12 100 v14 v15).bind (fun v16 => zjn (fun (K57 : ZS → Option (Int × ZS)) => if v16 = 30000 then (K57 s12) else (zb (zv s12 4 a0 (fX4_fail s12 a0)) (fun v18 s19 => K57 s19))) (fun (s21 : ZS) => (zp s21 4 a0 1 0).bind (fun s22 => (zg s22 4 a0 2).bind (fun v23 => if v23 = (-1) then ((zg (znew s22 8 2) 4 a0 7).bind (fun v25 => zb (fJ7_copyOf_59c91 (znew s22 8 2) v25 v10) (fun v26 s27 => (zg s27 4 a0 7).bind (fun v29 => (zg s27 4 a0 8).bind (fun v30 => zb (fJ7_copyOfRange_feecc s27 v29 v10 v30) (fun v31 s32 => if (sN s22 : Int) < 0 then none else (zb (fX8_init s32 (sN s22 : Int) v26 v31) (fun v34 s35 => some ((sN s22 : Int), s35))))))))) else (some ((-1), s22)))))))))))))))
set_option maxHeartbeats 4000000 in
set_option maxRecDepth 100000 in
theorem mX4_readTape (E : ZE) (hE : zOkE E) (l : Launch) (s0 : ZS) (a0 : Int) : Ct E l yX4_readTape cX4_readTape 2 (some (.object "GateRoad$Text")) 70 [(2, a0)] 3 s0 (fX4_readTape s0 a0) := by
  refine Ct.of (by decide) hE (Nat.le_of_ble_eq_true rfl) ?_
  intro X G hX hR hN hXE hXl hxn hk _
  subst hXE
  subst hXl
  have hX : G → ZOk X cX4_readTape RX4 70 := hX
  clear hN
  show Zj X G 0 [(0, (2, a0))] [] s0 _
  unfold fX4_readTape
  refine z_aload_n (pc := 0) hX 0 dX4_readTape_0 rfl rfl ?_
  refine z_callV (n := 0) (st := []) (pc := 1) hX zc4 rfl (fun _ => (mX4_scan _ hE _ _ _)) ⟨wd379, wd64, wd382, ⟨by decide, by decide, by decide⟩, by decide⟩ rfl wd381 wd1 rfl rfl (by decide) (Nat.le_of_ble_eq_true rfl) dX4_readTape_1 (fun v1 s2 r3 => ?_)
  show Zj X G 4 [(0, (2, a0))] [] _ _
  refine z_aload_n (pc := 4) hX 0 dX4_readTape_4 rfl rfl ?_
  refine z_iconst (pc := 5) hX dX4_readTape_5 ?_
  refine z_putA (pc := 6) hX zc4 6 (by decide) wd206 (Or.inl rfl) rfl rfl (fun _ => rfl) (fun _ => rfl) dX4_readTape_6 (fun s4 => ?_)
  refine z_aload_n (pc := 9) hX 0 dX4_readTape_9 rfl rfl ?_
  refine z_iconst (pc := 10) hX dX4_readTape_10 ?_
  refine z_putA (pc := 11) hX zc4 2 (by decide) wd201 (Or.inl rfl) rfl rfl (fun _ => rfl) (fun _ => rfl) dX4_readTape_11 (fun s5 => ?_)
  refine z_aload_n (pc := 14) hX 0 dX4_readTape_14 rfl rfl ?_
  refine z_iconst (pc := 15) hX dX4_readTape_15 ?_
  refine z_putA (pc := 16) hX zc4 8 (by decide) wd208 (Or.inl rfl) rfl rfl (fun _ => rfl) (fun _ => rfl) dX4_readTape_16 (fun s6 => ?_)
  refine z_aload_n (pc := 19) hX 0 dX4_readTape_19 rfl rfl ?_
  refine z_sipush (pc := 20) hX dX4_readTape_20 ?_
  refine z_callV (n := 1) (st := []) (pc := 23) hX zc4 rfl (fun _ => (mX4_readClause _ hE _ _ _ _)) ⟨wd511, wd64, wd514, ⟨by decide, by decide, by decide⟩, by decide⟩ rfl wd513 wd6 rfl rfl (by decide) (Nat.le_of_ble_eq_true rfl) dX4_readTape_23 (fun v7 s8 r9 => ?_)
  show Zj X G 26 [(0, (2, a0))] [] _ _
  refine z_aload_n (pc := 26) hX 0 dX4_readTape_26 rfl rfl ?_
  refine z_get (pc := 27) hX zc4 8 (by decide) wd208 rfl rfl dX4_readTape_27 (fun v10 => ?_)
  refine z_istore_n (lv' := [(1, (0, v10)), (0, (2, a0))]) (pc := 30) hX dX4_readTape_30 rfl (zlt hxn rfl) rfl ?_
  refine z_aload_n (pc := 31) hX 1 dX4_readTape_31 rfl rfl ?_
  refine z_sipush (pc := 32) hX dX4_readTape_32 ?_
  refine z_callV (n := 1) (st := []) (pc := 35) hX zc4 rfl (fun _ => (mX4_readClause _ hE _ _ _ _)) ⟨wd511, wd64, wd514, ⟨by decide, by decide, by decide⟩, by decide⟩ rfl wd513 wd6 rfl rfl (by decide) (Nat.le_of_ble_eq_true rfl) dX4_readTape_35 (fun v11 s12 r13 => ?_)
  show Zj X G 38 [(1, (0, v10)), (0, (2, a0))] [] _ _
  refine z_aload_n (pc := 38) hX 1 dX4_readTape_38 rfl rfl ?_
  refine z_get (pc := 39) hX zc4 3 (by decide) wd203 rfl rfl dX4_readTape_39 (fun v14 => ?_)
  refine z_aload_n (pc := 42) hX 1 dX4_readTape_42 rfl rfl ?_
  refine z_get (pc := 43) hX zc4 6 (by decide) wd206 rfl rfl dX4_readTape_43 (fun v15 => ?_)
  refine z_iald (pc := 46) hX dX4_readTape_46 (fun v16 => ?_)
  refine z_sipush (pc := 47) hX dX4_readTape_47 ?_
  refine z_jn (fun K57 eK57 => ?_)
  have hK57 : ∀ (s21 : ZS), Zj X G 57 [(0, (2, a0)), (1, (0, v10))] [] s21 (K57 s21) := by
    intro s21
    rw [eK57]
    refine z_aload_n (pc := 57) hX 0 dX4_readTape_57 rfl rfl ?_
    refine z_iconst (pc := 58) hX dX4_readTape_58 ?_
    refine z_putA (pc := 59) hX zc4 1 (by decide) wd199 (Or.inl rfl) rfl rfl (fun _ => rfl) (fun _ => rfl) dX4_readTape_59 (fun s22 => ?_)
    refine z_aload_n (pc := 62) hX 0 dX4_readTape_62 rfl rfl ?_
    refine z_get (pc := 63) hX zc4 2 (by decide) wd201 rfl rfl dX4_readTape_63 (fun v23 => ?_)
    refine z_iconst (pc := 66) hX dX4_readTape_66 ?_
    refine z_icmp_eq (pc := 67) hX 72 dX4_readTape_67 (by decide) (fun h24 => ?_) (fun h24 => ?_)
    · refine z_new (pc := 72) hX zc8 (by decide) wd559 wd234 wd65 dX4_readTape_72 ?_
      refine z_dup (pc := 75) hX zn2 dX4_readTape_75 ?_
      refine z_aload_n (pc := 76) hX 0 dX4_readTape_76 rfl rfl ?_
      refine z_get (pc := 77) hX zc4 7 (by decide) wd207 rfl rfl dX4_readTape_77 (fun v25 => ?_)
      refine z_iload_n (pc := 80) hX 1 dX4_readTape_80 rfl rfl ?_
      refine z_callS (n := 2) (st := [(2, (sN s22 : Int)), (2, (sN s22 : Int))]) (pc := 81) hX (mJ7_copyOf_59c91 _ hE _ _ _ _) ⟨wd560, wd74, wd562, ⟨by decide, by decide, by decide⟩, by decide⟩ wd561 rfl rfl (by decide) (Nat.le_of_ble_eq_true rfl) dX4_readTape_81 (fun v26 s27 r28 => ?_)
      show Zj X G 84 [(0, (2, a0)), (1, (0, v10))] [(2, v26), (2, (sN s22 : Int)), (2, (sN s22 : Int))] _ _
      refine z_aload_n (pc := 84) hX 0 dX4_readTape_84 rfl rfl ?_
      refine z_get (pc := 85) hX zc4 7 (by decide) wd207 rfl rfl dX4_readTape_85 (fun v29 => ?_)
      refine z_iload_n (pc := 88) hX 1 dX4_readTape_88 rfl rfl ?_
      refine z_aload_n (pc := 89) hX 0 dX4_readTape_89 rfl rfl ?_
      refine z_get (pc := 90) hX zc4 8 (by decide) wd208 rfl rfl dX4_readTape_90 (fun v30 => ?_)
      refine z_callS (n := 3) (st := [(2, v26), (2, (sN s22 : Int)), (2, (sN s22 : Int))]) (pc := 93) hX (mJ7_copyOfRange_feecc _ hE _ _ _ _ _) ⟨wd574, wd74, wd576, ⟨by decide, by decide, by decide⟩, by decide⟩ wd575 rfl rfl (by decide) (Nat.le_of_ble_eq_true rfl) dX4_readTape_93 (fun v31 s32 r33 => ?_)
      show Zj X G 96 [(0, (2, a0)), (1, (0, v10))] [(2, v31), (2, v26), (2, (sN s22 : Int)), (2, (sN s22 : Int))] _ _
      refine z_callI (n := 2) (st := [(2, (sN s22 : Int))]) (pc := 96) hX rfl (mX8_init _ hE _ _ _ _ _) ⟨wd583, wd65, wd241, ⟨by decide, by decide, by decide⟩, by decide⟩ rfl wd240 rfl rfl (by decide) (Nat.le_of_ble_eq_true rfl) dX4_readTape_96 (fun v34 s35 r36 => ?_)
      show Zj X G 99 [(0, (2, a0)), (1, (0, v10))] [(2, (sN s22 : Int))] _ _
      exact z_aret (pc := 99) hX hR (Or.inl ⟨_, rfl⟩) hk dX4_readTape_99
    · refine z_null (pc := 70) hX dX4_readTape_70 ?_
      exact z_aret (pc := 71) hX hR (Or.inl ⟨_, rfl⟩) hk dX4_readTape_71
  clear eK57
  refine z_icmp_eq (pc := 50) hX 57 dX4_readTape_50 (by decide) (fun h17 => ?_) (fun h17 => ?_)
  · refine z_pick (lv' := [(0, (2, a0)), (1, (0, v10))]) [1, 0] rfl ?_
    exact hK57 _
  · refine z_aload_n (pc := 53) hX 1 dX4_readTape_53 rfl rfl ?_
    refine z_callV (n := 0) (st := []) (pc := 54) hX zc4 rfl (fun _ => (mX4_fail _ hE _ _ _)) ⟨wd523, wd64, wd526, ⟨by decide, by decide, by decide⟩, by decide⟩ rfl wd525 wd9 rfl rfl (by decide) (Nat.le_of_ble_eq_true rfl) dX4_readTape_54 (fun v18 s19 r20 => ?_)
    show Zj X G 57 [(1, (0, v10)), (0, (2, a0))] [] _ _
    refine z_pick (lv' := [(0, (2, a0)), (1, (0, v10))]) [1, 0] rfl ?_
    exact hK57 _

theorem dX11_text_0 : decode cX11_text 0 = .ok (.aload_n 0, 1) := by decide +kernel
theorem dX11_text_1 : decode cX11_text 1 = .ok (.getfield 44, 3) := by decide +kernel
theorem dX11_text_4 : decode cX11_text 4 = .ok (.bipush 6, 2) := by decide +kernel
theorem dX11_text_6 : decode cX11_text 6 = .ok (.if_icmp .lt 6, 3) := by decide +kernel
theorem dX11_text_9 : decode cX11_text 9 = .ok (.bipush (-4), 2) := by decide +kernel
theorem dX11_text_11 : decode cX11_text 11 = .ok (.ireturn, 1) := by decide +kernel
theorem dX11_text_12 : decode cX11_text 12 = .ok (.aload_n 0, 1) := by decide +kernel
theorem dX11_text_13 : decode cX11_text 13 = .ok (.getfield 34, 3) := by decide +kernel
theorem dX11_text_16 : decode cX11_text 16 = .ok (.invokevirtual 141, 3) := by decide +kernel
theorem dX11_text_19 : decode cX11_text 19 = .ok (.astore_n 1, 1) := by decide +kernel
theorem dX11_text_20 : decode cX11_text 20 = .ok (.aload_n 1, 1) := by decide +kernel
theorem dX11_text_21 : decode cX11_text 21 = .ok (.ifnonnull 14, 3) := by decide +kernel
theorem dX11_text_24 : decode cX11_text 24 = .ok (.bipush (-100), 2) := by decide +kernel
theorem dX11_text_26 : decode cX11_text 26 = .ok (.aload_n 0, 1) := by decide +kernel
theorem dX11_text_27 : decode cX11_text 27 = .ok (.getfield 34, 3) := by decide +kernel
theorem dX11_text_30 : decode cX11_text 30 = .ok (.getfield 145, 3) := by decide +kernel
theorem dX11_text_33 : decode cX11_text 33 = .ok (.isub, 1) := by decide +kernel
theorem dX11_text_34 : decode cX11_text 34 = .ok (.ireturn, 1) := by decide +kernel
theorem dX11_text_35 : decode cX11_text 35 = .ok (.aload_n 0, 1) := by decide +kernel
theorem dX11_text_36 : decode cX11_text 36 = .ok (.getfield 40, 3) := by decide +kernel
theorem dX11_text_39 : decode cX11_text 39 = .ok (.aload_n 0, 1) := by decide +kernel
theorem dX11_text_40 : decode cX11_text 40 = .ok (.getfield 44, 3) := by decide +kernel
theorem dX11_text_43 : decode cX11_text 43 = .ok (.aload_n 1, 1) := by decide +kernel
theorem dX11_text_44 : decode cX11_text 44 = .ok (.aastore, 1) := by decide +kernel
theorem dX11_text_45 : decode cX11_text 45 = .ok (.aload_n 0, 1) := by decide +kernel
theorem dX11_text_46 : decode cX11_text 46 = .ok (.dup, 1) := by decide +kernel
theorem dX11_text_47 : decode cX11_text 47 = .ok (.getfield 44, 3) := by decide +kernel
theorem dX11_text_50 : decode cX11_text 50 = .ok (.iconst 1, 1) := by decide +kernel
theorem dX11_text_51 : decode cX11_text 51 = .ok (.iadd, 1) := by decide +kernel
theorem dX11_text_52 : decode cX11_text 52 = .ok (.putfield 44, 3) := by decide +kernel
theorem dX11_text_55 : decode cX11_text 55 = .ok (.aload_n 0, 1) := by decide +kernel
theorem dX11_text_56 : decode cX11_text 56 = .ok (.getfield 44, 3) := by decide +kernel
theorem dX11_text_59 : decode cX11_text 59 = .ok (.iconst 1, 1) := by decide +kernel
theorem dX11_text_60 : decode cX11_text 60 = .ok (.isub, 1) := by decide +kernel
theorem dX11_text_61 : decode cX11_text 61 = .ok (.ireturn, 1) := by decide +kernel
def fX11_text (s0 : ZS) (a0 : Int) : Option (Int × ZS) := (zg s0 11 a0 6).bind (fun v1 => if v1 < 6 then ((zg s0 11 a0 4).bind (fun v3 => zb (zv s0 4 v3 (fX4_readTape s0 v3)) (fun v4 s5 => if v4 < 0 then ((zg s5 11 a0 4).bind (fun v14 => (zg s5 4 v14 2).bind (fun v15 => some ((wrap ((-100) - v15)), s5)))) else ((zg s5 11 a0 5).bind (fun v8 => (zg s5 11 a0 6).bind (fun v9 => (zar s5 104 v8 v9 okT v4).bind (fun s10 => (zg s10 11 a0 6).bind (fun v11 => (zp s10 11 a0 6 (wrap (v11 + 1))).bind (fun s12 => (zg s12 11 a0 6).bind (fun v13 => some ((wrap (v13 - 1)), s12))))))))))) else (some ((-4), s0)))
set_option maxHeartbeats 4000000 in
set_option maxRecDepth 100000 in
theorem mX11_text (E : ZE) (hE : zOkE E) (l : Launch) (s0 : ZS) (a0 : Int) : Ct E l yX11_text cX11_text 2 (some .int) 72 [(2, a0)] 1 s0 (fX11_text s0 a0) := by
  refine Ct.of (by decide) hE (Nat.le_of_ble_eq_true rfl) ?_
  intro X G hX hR hN hXE hXl hxn hk _
  subst hXE
  subst hXl
  have hX : G → ZOk X cX11_text RX11 72 := hX
  clear hN
  show Zj X G 0 [(0, (2, a0))] [] s0 _
  unfold fX11_text
  refine z_aload_n (pc := 0) hX 0 dX11_text_0 rfl rfl ?_
  refine z_get (pc := 1) hX zc11 6 (by decide) wd276 rfl rfl dX11_text_1 (fun v1 => ?_)
  refine z_bipush (pc := 4) hX dX11_text_4 ?_
  refine z_icmp_lt (pc := 6) hX 12 dX11_text_6 (by decide) (fun h2 => ?_) (fun h2 => ?_)
  · refine z_aload_n (pc := 12) hX 0 dX11_text_12 rfl rfl ?_
    refine z_get (pc := 13) hX zc11 4 (by decide) wd274 rfl rfl dX11_text_13 (fun v3 => ?_)
    refine z_callV (n := 0) (st := []) (pc := 16) hX zc4 rfl (fun _ => (mX4_readTape _ hE _ _ _)) ⟨wd375, wd64, wd378, ⟨by decide, by decide, by decide⟩, by decide⟩ rfl wd376 wd377 rfl rfl (by decide) (Nat.le_of_ble_eq_true rfl) dX11_text_16 (fun v4 s5 r6 => ?_)
    show Zj X G 19 [(0, (2, a0))] [(2, v4)] _ _
    refine z_astore_n (lv' := [(1, (2, v4)), (0, (2, a0))]) (pc := 19) hX dX11_text_19 rfl (zlt hxn rfl) rfl ?_
    refine z_aload_n (pc := 20) hX 0 dX11_text_20 rfl rfl ?_
    refine z_ifnonnull (pc := 21) hX 35 dX11_text_21 (by decide) (fun h7 => ?_) (fun h7 => ?_)
    · refine z_aload_n (pc := 35) hX 1 dX11_text_35 rfl rfl ?_
      refine z_get (pc := 36) hX zc11 5 (by decide) wd275 rfl rfl dX11_text_36 (fun v8 => ?_)
      refine z_aload_n (pc := 39) hX 1 dX11_text_39 rfl rfl ?_
      refine z_get (pc := 40) hX zc11 6 (by decide) wd276 rfl rfl dX11_text_40 (fun v9 => ?_)
      refine z_aload_n (pc := 43) hX 0 dX11_text_43 rfl rfl ?_
      refine z_aastA (pc := 44) hX 4 104 "GateRoad$Text" (by decide) rfl rfl okT okT_ok dX11_text_44 (fun s10 => ?_)
      refine z_aload_n (pc := 45) hX 1 dX11_text_45 rfl rfl ?_
      refine z_dup (pc := 46) hX zn2 dX11_text_46 ?_
      refine z_get (pc := 47) hX zc11 6 (by decide) wd276 rfl rfl dX11_text_47 (fun v11 => ?_)
      refine z_iconst (pc := 50) hX dX11_text_50 ?_
      refine z_iadd (pc := 51) hX dX11_text_51 ?_
      refine z_putA (pc := 52) hX zc11 6 (by decide) wd276 (Or.inl rfl) rfl rfl (fun _ => rfl) (fun _ => rfl) dX11_text_52 (fun s12 => ?_)
      refine z_aload_n (pc := 55) hX 1 dX11_text_55 rfl rfl ?_
      refine z_get (pc := 56) hX zc11 6 (by decide) wd276 rfl rfl dX11_text_56 (fun v13 => ?_)
      refine z_iconst (pc := 59) hX dX11_text_59 ?_
      refine z_isub (pc := 60) hX dX11_text_60 ?_
      exact z_iret (pc := 61) hX hR hk dX11_text_61
    · refine z_bipush (pc := 24) hX dX11_text_24 ?_
      refine z_aload_n (pc := 26) hX 1 dX11_text_26 rfl rfl ?_
      refine z_get (pc := 27) hX zc11 4 (by decide) wd274 rfl rfl dX11_text_27 (fun v14 => ?_)
      refine z_get (pc := 30) hX zc4 2 (by decide) wd202 rfl rfl dX11_text_30 (fun v15 => ?_)
      refine z_isub (pc := 33) hX dX11_text_33 ?_
      exact z_iret (pc := 34) hX hR hk dX11_text_34
  · refine z_bipush (pc := 9) hX dX11_text_9 ?_
    exact z_iret (pc := 11) hX hR hk dX11_text_11

theorem dX12_letters_0 : decode cX12_letters 0 = .ok (.lconst 0, 1) := by decide +kernel
theorem dX12_letters_1 : decode cX12_letters 1 = .ok (.lstore_n 1, 1) := by decide +kernel
theorem dX12_letters_2 : decode cX12_letters 2 = .ok (.iconst 0, 1) := by decide +kernel
theorem dX12_letters_3 : decode cX12_letters 3 = .ok (.istore_n 3, 1) := by decide +kernel
theorem dX12_letters_4 : decode cX12_letters 4 = .ok (.aload_n 0, 1) := by decide +kernel
theorem dX12_letters_5 : decode cX12_letters 5 = .ok (.getfield 150, 3) := by decide +kernel
theorem dX12_letters_8 : decode cX12_letters 8 = .ok (.aload_n 0, 1) := by decide +kernel
theorem dX12_letters_9 : decode cX12_letters 9 = .ok (.getfield 145, 3) := by decide +kernel
theorem dX12_letters_12 : decode cX12_letters 12 = .ok (.if_icmp .ge 64, 3) := by decide +kernel
theorem dX12_letters_15 : decode cX12_letters 15 = .ok (.aload_n 0, 1) := by decide +kernel
theorem dX12_letters_16 : decode cX12_letters 16 = .ok (.getfield 37, 3) := by decide +kernel
theorem dX12_letters_19 : decode cX12_letters 19 = .ok (.aload_n 0, 1) := by decide +kernel
theorem dX12_letters_20 : decode cX12_letters 20 = .ok (.getfield 150, 3) := by decide +kernel
theorem dX12_letters_23 : decode cX12_letters 23 = .ok (.iaload, 1) := by decide +kernel
theorem dX12_letters_24 : decode cX12_letters 24 = .ok (.bipush 97, 2) := by decide +kernel
theorem dX12_letters_26 : decode cX12_letters 26 = .ok (.bipush 122, 2) := by decide +kernel
theorem dX12_letters_28 : decode cX12_letters 28 = .ok (.invokestatic 127, 3) := by decide +kernel
theorem dX12_letters_31 : decode cX12_letters 31 = .ok (.ifCond .eq 45, 3) := by decide +kernel
theorem dX12_letters_34 : decode cX12_letters 34 = .ok (.iload_n 3, 1) := by decide +kernel
theorem dX12_letters_35 : decode cX12_letters 35 = .ok (.bipush 8, 2) := by decide +kernel
theorem dX12_letters_37 : decode cX12_letters 37 = .ok (.if_icmp .ge 21, 3) := by decide +kernel
theorem dX12_letters_40 : decode cX12_letters 40 = .ok (.lload_n 1, 1) := by decide +kernel
theorem dX12_letters_41 : decode cX12_letters 41 = .ok (.bipush 8, 2) := by decide +kernel
theorem dX12_letters_43 : decode cX12_letters 43 = .ok (.lshl, 1) := by decide +kernel
theorem dX12_letters_44 : decode cX12_letters 44 = .ok (.aload_n 0, 1) := by decide +kernel
theorem dX12_letters_45 : decode cX12_letters 45 = .ok (.getfield 37, 3) := by decide +kernel
theorem dX12_letters_48 : decode cX12_letters 48 = .ok (.aload_n 0, 1) := by decide +kernel
theorem dX12_letters_49 : decode cX12_letters 49 = .ok (.getfield 150, 3) := by decide +kernel
theorem dX12_letters_52 : decode cX12_letters 52 = .ok (.iaload, 1) := by decide +kernel
theorem dX12_letters_53 : decode cX12_letters 53 = .ok (.i2l, 1) := by decide +kernel
theorem dX12_letters_54 : decode cX12_letters 54 = .ok (.lor, 1) := by decide +kernel
theorem dX12_letters_55 : decode cX12_letters 55 = .ok (.goto 4, 3) := by decide +kernel
theorem dX12_letters_58 : decode cX12_letters 58 = .ok (.lload_n 1, 1) := by decide +kernel
theorem dX12_letters_59 : decode cX12_letters 59 = .ok (.lstore_n 1, 1) := by decide +kernel
theorem dX12_letters_60 : decode cX12_letters 60 = .ok (.iinc 3 1, 3) := by decide +kernel
theorem dX12_letters_63 : decode cX12_letters 63 = .ok (.aload_n 0, 1) := by decide +kernel
theorem dX12_letters_64 : decode cX12_letters 64 = .ok (.dup, 1) := by decide +kernel
theorem dX12_letters_65 : decode cX12_letters 65 = .ok (.getfield 150, 3) := by decide +kernel
theorem dX12_letters_68 : decode cX12_letters 68 = .ok (.iconst 1, 1) := by decide +kernel
theorem dX12_letters_69 : decode cX12_letters 69 = .ok (.iadd, 1) := by decide +kernel
theorem dX12_letters_70 : decode cX12_letters 70 = .ok (.putfield 150, 3) := by decide +kernel
theorem dX12_letters_73 : decode cX12_letters 73 = .ok (.goto (-69), 3) := by decide +kernel
theorem dX12_letters_76 : decode cX12_letters 76 = .ok (.iload_n 3, 1) := by decide +kernel
theorem dX12_letters_77 : decode cX12_letters 77 = .ok (.bipush 6, 2) := by decide +kernel
theorem dX12_letters_79 : decode cX12_letters 79 = .ok (.if_icmp .le 7, 3) := by decide +kernel
theorem dX12_letters_82 : decode cX12_letters 82 = .ok (.lconst 0, 1) := by decide +kernel
theorem dX12_letters_83 : decode cX12_letters 83 = .ok (.goto 4, 3) := by decide +kernel
theorem dX12_letters_86 : decode cX12_letters 86 = .ok (.lload_n 1, 1) := by decide +kernel
theorem dX12_letters_87 : decode cX12_letters 87 = .ok (.lreturn, 1) := by decide +kernel
def lX12_letters_4 (u2 : Int) (K76 : ZS → Int → Int → Option (Int × ZS)) : Nat → ZS → Int → Int → Option (Int × ZS)
  | 0, _, _, _ => none
  | n1 + 1, s1, x3, x4 => (zg s1 12 u2 29).bind (fun v5 => (zg s1 12 u2 13).bind (fun v6 => if v6 ≤ v5 then (K76 s1 x3 x4) else ((zg s1 12 u2 12).bind (fun v8 => (zg s1 12 u2 29).bind (fun v9 => (zal s1 100 v8 v9).bind (fun v10 => zb (fX12_in s1 v10 97 122) (fun v11 s12 => if v11 = 0 then (K76 s12 x3 x4) else (zjn (fun (K59 : ZS → Int → Option (Int × ZS)) => if 8 ≤ x4 then (K59 s12 x3) else ((zg s12 12 u2 12).bind (fun v16 => (zg s12 12 u2 29).bind (fun v17 => (zal s12 100 v16 v17).bind (fun v18 => K59 s12 (lOr (lShl x3 8) v18)))))) (fun (s19 : ZS) (w20 : Int) => (zg s19 12 u2 29).bind (fun v21 => (zp s19 12 u2 29 (wrap (v21 + 1))).bind (fun s22 => lX12_letters_4 u2 K76 n1 s22 w20 (wrap (x4 + 1)))))))))))))

def fX12_letters (s0 : ZS) (a0 : Int) : Option (Int × ZS) := lX12_letters_4 a0 (fun (s26 : ZS) (x27 x28 : Int) => if x28 ≤ 6 then (some (x27, s26)) else (some (0, s26))) 1000 s0 0 0
set_option maxHeartbeats 4000000 in
set_option maxRecDepth 100000 in
theorem mX12_letters (E : ZE) (hE : zOkE E) (l : Launch) (s0 : ZS) (a0 : Int) : Ct E l yX12_letters cX12_letters 4 (some .long) 4 [(2, a0)] 2 s0 (fX12_letters s0 a0) := by
  refine Ct.of (by decide) hE (Nat.le_of_ble_eq_true rfl) ?_
  intro X G hX hR hN hXE hXl hxn hk _
  subst hXE
  subst hXl
  have hX : G → ZOk X cX12_letters RX12 4 := hX
  clear hN
  show Zj X G 0 [(0, (2, a0))] [] s0 _
  unfold fX12_letters
  refine z_lconst (pc := 0) hX dX12_letters_0 rfl ?_
  refine z_lstore_n (lv' := [(1, (1, 0)), (0, (2, a0))]) (pc := 1) hX dX12_letters_1 rfl (zlt2 hxn rfl) rfl ?_
  refine z_iconst (pc := 2) hX dX12_letters_2 ?_
  refine z_istore_n (lv' := [(3, (0, 0)), (1, (1, 0)), (0, (2, a0))]) (pc := 3) hX dX12_letters_3 rfl (zlt hxn rfl) rfl ?_
  have hl4 : ∀ (u2 : Int), ∀ (K76 : ZS → Int → Int → Option (Int × ZS)), (∀ (s23 : ZS) (x24 x25 : Int), Zj X G 76 [(1, (1, x24)), (3, (0, x25))] [] s23 (K76 s23 x24 x25)) → ∀ (n1 : Nat) (s1 : ZS) (x3 x4 : Int), Zj X G 4 [(0, (2, u2)), (1, (1, x3)), (3, (0, x4))] [] s1 (lX12_letters_4 u2 K76 n1 s1 x3 x4) := by
    intro u2 K76 hK76 n1
    induction n1 with
    | zero => intro _ _ _; exact z_none
    | succ n1 ih1 =>
      intro s1 x3 x4
      rw [lX12_letters_4]
      refine z_aload_n (pc := 4) hX 0 dX12_letters_4 rfl rfl ?_
      refine z_get (pc := 5) hX zc12 29 (by decide) wd1046 rfl rfl dX12_letters_5 (fun v5 => ?_)
      refine z_aload_n (pc := 8) hX 0 dX12_letters_8 rfl rfl ?_
      refine z_get (pc := 9) hX zc12 13 (by decide) wd1030 rfl rfl dX12_letters_9 (fun v6 => ?_)
      refine z_icmp_ge (pc := 12) hX 76 dX12_letters_12 (by decide) (fun h7 => ?_) (fun h7 => ?_)
      · refine z_pick (lv' := [(1, (1, x3)), (3, (0, x4))]) [1, 2] rfl ?_
        exact hK76 _ _ _
      · refine z_aload_n (pc := 15) hX 0 dX12_letters_15 rfl rfl ?_
        refine z_get (pc := 16) hX zc12 12 (by decide) wd1029 rfl rfl dX12_letters_16 (fun v8 => ?_)
        refine z_aload_n (pc := 19) hX 0 dX12_letters_19 rfl rfl ?_
        refine z_get (pc := 20) hX zc12 29 (by decide) wd1046 rfl rfl dX12_letters_20 (fun v9 => ?_)
        refine z_iald (pc := 23) hX dX12_letters_23 (fun v10 => ?_)
        refine z_bipush (pc := 24) hX dX12_letters_24 ?_
        refine z_bipush (pc := 26) hX dX12_letters_26 ?_
        refine z_callS (n := 3) (st := []) (pc := 28) hX (mX12_in _ hE _ _ _ _ _) ⟨wd1173, wd67, wd1175, ⟨by decide, by decide, by decide⟩, by decide⟩ wd1174 rfl rfl (by decide) (Nat.le_of_ble_eq_true rfl) dX12_letters_28 (fun v11 s12 r13 => ?_)
        show Zj X G 31 [(0, (2, u2)), (1, (1, x3)), (3, (0, x4))] [(0, v11)] _ _
        refine z_if_eq (pc := 31) hX 76 dX12_letters_31 (by decide) (fun h14 => ?_) (fun h14 => ?_)
        · refine z_pick (lv' := [(1, (1, x3)), (3, (0, x4))]) [1, 2] rfl ?_
          exact hK76 _ _ _
        · refine z_iload_n (pc := 34) hX 2 dX12_letters_34 rfl rfl ?_
          refine z_bipush (pc := 35) hX dX12_letters_35 ?_
          refine z_jn (fun K59 eK59 => ?_)
          have hK59 : ∀ (s19 : ZS) (w20 : Int), Zj X G 59 [(0, (2, u2)), (3, (0, x4))] [(1, w20)] s19 (K59 s19 w20) := by
            intro s19 w20
            rw [eK59]
            refine z_lstore_n (lv' := [(1, (1, w20)), (0, (2, u2)), (3, (0, x4))]) (pc := 59) hX dX12_letters_59 rfl (zlt2 hxn rfl) rfl ?_
            refine z_iinc (lv' := [(3, (0, (wrap (x4 + 1)))), (1, (1, w20)), (0, (2, u2))]) (pc := 60) hX 2 dX12_letters_60 rfl (zlt hxn rfl) rfl ?_
            refine z_aload_n (pc := 63) hX 2 dX12_letters_63 rfl rfl ?_
            refine z_dup (pc := 64) hX zn2 dX12_letters_64 ?_
            refine z_get (pc := 65) hX zc12 29 (by decide) wd1046 rfl rfl dX12_letters_65 (fun v21 => ?_)
            refine z_iconst (pc := 68) hX dX12_letters_68 ?_
            refine z_iadd (pc := 69) hX dX12_letters_69 ?_
            refine z_putA (pc := 70) hX zc12 29 (by decide) wd1046 (Or.inl rfl) rfl rfl (fun _ => rfl) (fun _ => rfl) dX12_letters_70 (fun s22 => ?_)
            refine z_goto (pc := 73) hX 4 dX12_letters_73 (by decide) ?_
            refine z_pick (lv' := [(0, (2, u2)), (1, (1, w20)), (3, (0, (wrap (x4 + 1))))]) [2, 1, 0] rfl ?_
            exact ih1 _ _ _
          clear eK59
          refine z_icmp_ge (pc := 37) hX 58 dX12_letters_37 (by decide) (fun h15 => ?_) (fun h15 => ?_)
          · refine z_lload_n (pc := 58) hX 1 dX12_letters_58 rfl rfl ?_
            refine z_pick (lv' := [(0, (2, u2)), (3, (0, x4))]) [0, 2] rfl ?_
            exact hK59 _ _
          · refine z_lload_n (pc := 40) hX 1 dX12_letters_40 rfl rfl ?_
            refine z_bipush (pc := 41) hX dX12_letters_41 ?_
            refine z_lshl (pc := 43) hX dX12_letters_43 ?_
            refine z_aload_n (pc := 44) hX 0 dX12_letters_44 rfl rfl ?_
            refine z_get (pc := 45) hX zc12 12 (by decide) wd1029 rfl rfl dX12_letters_45 (fun v16 => ?_)
            refine z_aload_n (pc := 48) hX 0 dX12_letters_48 rfl rfl ?_
            refine z_get (pc := 49) hX zc12 29 (by decide) wd1046 rfl rfl dX12_letters_49 (fun v17 => ?_)
            refine z_iald (pc := 52) hX dX12_letters_52 (fun v18 => ?_)
            refine z_i2lR (pc := 53) hX dX12_letters_53 ?_
            refine z_lor (pc := 54) hX dX12_letters_54 ?_
            refine z_goto (pc := 55) hX 59 dX12_letters_55 (by decide) ?_
            refine z_pick (lv' := [(0, (2, u2)), (3, (0, x4))]) [0, 2] rfl ?_
            exact hK59 _ _
  refine z_pick (lv' := [(0, (2, a0)), (1, (1, 0)), (3, (0, 0))]) [2, 1, 0] rfl ?_
  refine hl4 _ _ (fun s26 x27 x28 => ?_) 1000 _ _ _
  refine z_iload_n (pc := 76) hX 1 dX12_letters_76 rfl rfl ?_
  refine z_bipush (pc := 77) hX dX12_letters_77 ?_
  refine z_icmp_le (pc := 79) hX 86 dX12_letters_79 (by decide) (fun h29 => ?_) (fun h29 => ?_)
  · refine z_lload_n (pc := 86) hX 0 dX12_letters_86 rfl rfl ?_
    exact z_lret (pc := 87) hX hR hk dX12_letters_87
  · refine z_lconst (pc := 82) hX dX12_letters_82 rfl ?_
    refine z_goto (pc := 83) hX 87 dX12_letters_83 (by decide) ?_
    exact z_lret (pc := 87) hX hR hk dX12_letters_87
