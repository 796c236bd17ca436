theorem dX4_lookOf_0 : decode cX4_lookOf 0 = .ok (.iload_n 0, 1) := by decide +kernel
theorem dX4_lookOf_1 : decode cX4_lookOf 1 = .ok (.bipush 32, 2) := by decide +kernel
theorem dX4_lookOf_3 : decode cX4_lookOf 3 = .ok (.if_icmp .eq 9, 3) := by decide +kernel
theorem dX4_lookOf_6 : decode cX4_lookOf 6 = .ok (.iload_n 0, 1) := by decide +kernel
theorem dX4_lookOf_7 : decode cX4_lookOf 7 = .ok (.bipush 10, 2) := by decide +kernel
theorem dX4_lookOf_9 : decode cX4_lookOf 9 = .ok (.if_icmp .ne 5, 3) := by decide +kernel
theorem dX4_lookOf_12 : decode cX4_lookOf 12 = .ok (.iconst 0, 1) := by decide +kernel
theorem dX4_lookOf_13 : decode cX4_lookOf 13 = .ok (.ireturn, 1) := by decide +kernel
theorem dX4_lookOf_14 : decode cX4_lookOf 14 = .ok (.iload_n 0, 1) := by decide +kernel
theorem dX4_lookOf_15 : decode cX4_lookOf 15 = .ok (.bipush 97, 2) := by decide +kernel
theorem dX4_lookOf_17 : decode cX4_lookOf 17 = .ok (.if_icmp .lt 11, 3) := by decide +kernel
theorem dX4_lookOf_20 : decode cX4_lookOf 20 = .ok (.iload_n 0, 1) := by decide +kernel
theorem dX4_lookOf_21 : decode cX4_lookOf 21 = .ok (.bipush 122, 2) := by decide +kernel
theorem dX4_lookOf_23 : decode cX4_lookOf 23 = .ok (.if_icmp .gt 5, 3) := by decide +kernel
theorem dX4_lookOf_26 : decode cX4_lookOf 26 = .ok (.iconst 1, 1) := by decide +kernel
theorem dX4_lookOf_27 : decode cX4_lookOf 27 = .ok (.ireturn, 1) := by decide +kernel
theorem dX4_lookOf_28 : decode cX4_lookOf 28 = .ok (.iload_n 0, 1) := by decide +kernel
theorem dX4_lookOf_29 : decode cX4_lookOf 29 = .ok (.bipush 48, 2) := by decide +kernel
theorem dX4_lookOf_31 : decode cX4_lookOf 31 = .ok (.if_icmp .lt 13, 3) := by decide +kernel
theorem dX4_lookOf_34 : decode cX4_lookOf 34 = .ok (.iload_n 0, 1) := by decide +kernel
theorem dX4_lookOf_35 : decode cX4_lookOf 35 = .ok (.bipush 57, 2) := by decide +kernel
theorem dX4_lookOf_37 : decode cX4_lookOf 37 = .ok (.if_icmp .gt 7, 3) := by decide +kernel
theorem dX4_lookOf_40 : decode cX4_lookOf 40 = .ok (.iconst 2, 1) := by decide +kernel
theorem dX4_lookOf_41 : decode cX4_lookOf 41 = .ok (.goto 4, 3) := by decide +kernel
theorem dX4_lookOf_44 : decode cX4_lookOf 44 = .ok (.iconst 3, 1) := by decide +kernel
theorem dX4_lookOf_45 : decode cX4_lookOf 45 = .ok (.ireturn, 1) := by decide +kernel
def fX4_lookOf (s0 : ZS) (a0 : Int) : Option (Int × ZS) := if a0 = 32 then (some (0, s0)) else (if a0 = 10 then (some (0, s0)) else (zjn (fun (K28 : ZS → Option (Int × ZS)) => if a0 < 97 then (K28 s0) else (if 122 < a0 then (K28 s0) else (some (1, s0)))) (fun (s5 : ZS) => if a0 < 48 then (some (3, s5)) else (if 57 < a0 then (some (3, s5)) else (some (2, s5))))))
set_option maxHeartbeats 4000000 in
set_option maxRecDepth 100000 in
theorem mX4_lookOf (E : ZE) (hE : zOkE E) (l : Launch) (s0 : ZS) (a0 : Int) : Ct E l yX4_lookOf cX4_lookOf 1 (some .int) 2 [(0, a0)] 1 s0 (fX4_lookOf s0 a0) := by
  refine Ct.of (by decide) hE (Nat.le_of_ble_eq_true rfl) ?_
  intro X G hX hR hN hXE hXl hxn hk _
  subst hXE
  subst hXl
  have hX : G → ZOk X cX4_lookOf RX4 2 := hX
  clear hN
  show Zj X G 0 [(0, (0, a0))] [] s0 _
  unfold fX4_lookOf
  refine z_iload_n (pc := 0) hX 0 dX4_lookOf_0 rfl rfl ?_
  refine z_bipush (pc := 1) hX dX4_lookOf_1 ?_
  refine z_icmp_eq (pc := 3) hX 12 dX4_lookOf_3 (by decide) (fun h1 => ?_) (fun h1 => ?_)
  · refine z_iconst (pc := 12) hX dX4_lookOf_12 ?_
    exact z_iret (pc := 13) hX hR hk dX4_lookOf_13
  · refine z_iload_n (pc := 6) hX 0 dX4_lookOf_6 rfl rfl ?_
    refine z_bipush (pc := 7) hX dX4_lookOf_7 ?_
    refine z_icmp_ne (pc := 9) hX 14 dX4_lookOf_9 (by decide) (fun h2 => ?_) (fun h2 => ?_)
    · refine z_iload_n (pc := 14) hX 0 dX4_lookOf_14 rfl rfl ?_
      refine z_bipush (pc := 15) hX dX4_lookOf_15 ?_
      refine z_jn (fun K28 eK28 => ?_)
      have hK28 : ∀ (s5 : ZS), Zj X G 28 [(0, (0, a0))] [] s5 (K28 s5) := by
        intro s5
        rw [eK28]
        refine z_iload_n (pc := 28) hX 0 dX4_lookOf_28 rfl rfl ?_
        refine z_bipush (pc := 29) hX dX4_lookOf_29 ?_
        refine z_icmp_lt (pc := 31) hX 44 dX4_lookOf_31 (by decide) (fun h6 => ?_) (fun h6 => ?_)
        · refine z_iconst (pc := 44) hX dX4_lookOf_44 ?_
          exact z_iret (pc := 45) hX hR hk dX4_lookOf_45
        · refine z_iload_n (pc := 34) hX 0 dX4_lookOf_34 rfl rfl ?_
          refine z_bipush (pc := 35) hX dX4_lookOf_35 ?_
          refine z_icmp_gt (pc := 37) hX 44 dX4_lookOf_37 (by decide) (fun h7 => ?_) (fun h7 => ?_)
          · refine z_iconst (pc := 44) hX dX4_lookOf_44 ?_
            exact z_iret (pc := 45) hX hR hk dX4_lookOf_45
          · refine z_iconst (pc := 40) hX dX4_lookOf_40 ?_
            refine z_goto (pc := 41) hX 45 dX4_lookOf_41 (by decide) ?_
            exact z_iret (pc := 45) hX hR hk dX4_lookOf_45
      clear eK28
      refine z_icmp_lt (pc := 17) hX 28 dX4_lookOf_17 (by decide) (fun h3 => ?_) (fun h3 => ?_)
      · exact hK28 _
      · refine z_iload_n (pc := 20) hX 0 dX4_lookOf_20 rfl rfl ?_
        refine z_bipush (pc := 21) hX dX4_lookOf_21 ?_
        refine z_icmp_gt (pc := 23) hX 28 dX4_lookOf_23 (by decide) (fun h4 => ?_) (fun h4 => ?_)
        · exact hK28 _
        · refine z_iconst (pc := 26) hX dX4_lookOf_26 ?_
          exact z_iret (pc := 27) hX hR hk dX4_lookOf_27
    · refine z_iconst (pc := 12) hX dX4_lookOf_12 ?_
      exact z_iret (pc := 13) hX hR hk dX4_lookOf_13

theorem dJ0_coder_7d493_0 : decode cJ0_coder_7d493 0 = .ok (.getstatic 38, 3) := by decide +kernel
theorem dJ0_coder_7d493_3 : decode cJ0_coder_7d493 3 = .ok (.ifCond .eq 10, 3) := by decide +kernel
theorem dJ0_coder_7d493_6 : decode cJ0_coder_7d493 6 = .ok (.aload_n 0, 1) := by decide +kernel
theorem dJ0_coder_7d493_7 : decode cJ0_coder_7d493 7 = .ok (.getfield 15, 3) := by decide +kernel
theorem dJ0_coder_7d493_10 : decode cJ0_coder_7d493 10 = .ok (.goto 4, 3) := by decide +kernel
theorem dJ0_coder_7d493_14 : decode cJ0_coder_7d493 14 = .ok (.ireturn, 1) := by decide +kernel
def fJ0_coder_7d493 (s0 : ZS) (i : Nat) : Option (Int × ZS) := some (0, s0)
set_option maxHeartbeats 4000000 in
set_option maxRecDepth 100000 in
theorem mJ0_coder_7d493 (E : ZE) (hE : zOkE E) (l : Launch) (s0 : ZS) (i : Nat) (hi : i < 2) : Ct E l yJ0_coder_7d493 cJ0_coder_7d493 1 (some .byte) 2 [(3, (eS E i : Int))] 1 s0 (fJ0_coder_7d493 s0 i) := by
  refine Ct.of (by decide) hE (Nat.le_of_ble_eq_true rfl) ?_
  intro X G hX hR hN hXE hXl hxn hk _
  subst hXE
  subst hXl
  have hX : G → ZOk X cJ0_coder_7d493 RJ0 2 := hX
  clear hN
  show Zj X G 0 [(0, (3, (eS (xE X) i : Int)))] [] s0 _
  unfold fJ0_coder_7d493
  refine z_compact (pc := 0) hX wd399 dJ0_coder_7d493_0 ?_
  refine z_eq (if_neg (show ¬ (1 : Int) = 0 by decide)).symm (z_if_eq (O1 := none) (pc := 3) hX 13 dJ0_coder_7d493_3 (by decide) (fun h1 => absurd h1 (by decide)) (fun h1 => ?_))
  refine z_aload3_n (pc := 6) hX 0 dJ0_coder_7d493_6 rfl rfl ?_
  refine z_coder (pc := 7) hX hi wd1454 dJ0_coder_7d493_7 ?_
  refine z_goto (pc := 10) hX 14 dJ0_coder_7d493_10 (by decide) ?_
  exact z_bret (pc := 14) hX hR hk dJ0_coder_7d493_14 (by decide)

theorem dJ0_length_8abf5_0 : decode cJ0_length_8abf5 0 = .ok (.aload_n 0, 1) := by decide +kernel
theorem dJ0_length_8abf5_1 : decode cJ0_length_8abf5 1 = .ok (.getfield 9, 3) := by decide +kernel
theorem dJ0_length_8abf5_4 : decode cJ0_length_8abf5 4 = .ok (.arraylength, 1) := by decide +kernel
theorem dJ0_length_8abf5_5 : decode cJ0_length_8abf5 5 = .ok (.aload_n 0, 1) := by decide +kernel
theorem dJ0_length_8abf5_6 : decode cJ0_length_8abf5 6 = .ok (.invokevirtual 335, 3) := by decide +kernel
theorem dJ0_length_8abf5_9 : decode cJ0_length_8abf5 9 = .ok (.ishr, 1) := by decide +kernel
theorem dJ0_length_8abf5_10 : decode cJ0_length_8abf5 10 = .ok (.ireturn, 1) := by decide +kernel
def fJ0_length_8abf5 (s0 : ZS) (i : Nat) : Option (Int × ZS) := zb (fJ0_coder_7d493 s0 i) (fun v1 s2 => some ((iShr (zLen.getD i 0 : Int) v1), s2))
set_option maxHeartbeats 4000000 in
set_option maxRecDepth 100000 in
theorem mJ0_length_8abf5 (E : ZE) (hE : zOkE E) (l : Launch) (s0 : ZS) (i : Nat) (hi : i < 2) : Ct E l yJ0_length_8abf5 cJ0_length_8abf5 1 (some .int) 4 [(3, (eS E i : Int))] 1 s0 (fJ0_length_8abf5 s0 i) := by
  refine Ct.of (by decide) hE (Nat.le_of_ble_eq_true rfl) ?_
  intro X G hX hR hN hXE hXl hxn hk _
  subst hXE
  subst hXl
  have hX : G → ZOk X cJ0_length_8abf5 RJ0 4 := hX
  clear hN
  show Zj X G 0 [(0, (3, (eS (xE X) i : Int)))] [] s0 _
  unfold fJ0_length_8abf5
  refine z_aload3_n (pc := 0) hX 0 dJ0_length_8abf5_0 rfl rfl ?_
  refine z_value (pc := 1) hX hi wd1453 dJ0_length_8abf5_1 ?_
  refine z_blen (pc := 4) hX hi dJ0_length_8abf5_4 ?_
  refine z_aload3_n (pc := 5) hX 0 dJ0_length_8abf5_5 rfl rfl ?_
  refine z_callV3 (n := 0) (st := [(0, (zLen.getD i 0 : Int))]) (pc := 6) hX hi rfl (mJ0_coder_7d493 _ hE _ _ _ hi) ⟨wd395, wd68, wd398, ⟨by decide, by decide, by decide⟩, by decide⟩ rfl wd396 wd397 rfl rfl (by decide) (Nat.le_of_ble_eq_true rfl) dJ0_length_8abf5_6 (fun v1 s2 r3 => ?_)
  show Zj X G 9 [(0, (3, (eS (xE X) i : Int)))] [(0, v1), (0, (zLen.getD i 0 : Int))] _ _
  refine z_ishr (pc := 9) hX dJ0_length_8abf5_9 ?_
  exact z_iret (pc := 10) hX hR hk dJ0_length_8abf5_10

theorem dJ0_isLatin1_aae02_0 : decode cJ0_isLatin1_aae02 0 = .ok (.getstatic 38, 3) := by decide +kernel
theorem dJ0_isLatin1_aae02_3 : decode cJ0_isLatin1_aae02 3 = .ok (.ifCond .eq 14, 3) := by decide +kernel
theorem dJ0_isLatin1_aae02_6 : decode cJ0_isLatin1_aae02 6 = .ok (.aload_n 0, 1) := by decide +kernel
theorem dJ0_isLatin1_aae02_7 : decode cJ0_isLatin1_aae02 7 = .ok (.getfield 15, 3) := by decide +kernel
theorem dJ0_isLatin1_aae02_10 : decode cJ0_isLatin1_aae02 10 = .ok (.ifCond .ne 7, 3) := by decide +kernel
theorem dJ0_isLatin1_aae02_13 : decode cJ0_isLatin1_aae02 13 = .ok (.iconst 1, 1) := by decide +kernel
theorem dJ0_isLatin1_aae02_14 : decode cJ0_isLatin1_aae02 14 = .ok (.goto 4, 3) := by decide +kernel
theorem dJ0_isLatin1_aae02_18 : decode cJ0_isLatin1_aae02 18 = .ok (.ireturn, 1) := by decide +kernel
def fJ0_isLatin1_aae02 (s0 : ZS) (i : Nat) : Option (Int × ZS) := some (1, s0)
set_option maxHeartbeats 4000000 in
set_option maxRecDepth 100000 in
theorem mJ0_isLatin1_aae02 (E : ZE) (hE : zOkE E) (l : Launch) (s0 : ZS) (i : Nat) (hi : i < 2) : Ct E l yJ0_isLatin1_aae02 cJ0_isLatin1_aae02 1 (some .boolean) 2 [(3, (eS E i : Int))] 4 s0 (fJ0_isLatin1_aae02 s0 i) := by
  refine Ct.of (by decide) hE (Nat.le_of_ble_eq_true rfl) ?_
  intro X G hX hR hN hXE hXl hxn hk _
  subst hXE
  subst hXl
  have hX : G → ZOk X cJ0_isLatin1_aae02 RJ0 2 := hX
  clear hN
  show Zj X G 0 [(0, (3, (eS (xE X) i : Int)))] [] s0 _
  unfold fJ0_isLatin1_aae02
  refine z_compact (pc := 0) hX wd399 dJ0_isLatin1_aae02_0 ?_
  refine z_eq (if_neg (show ¬ (1 : Int) = 0 by decide)).symm (z_if_eq (O1 := none) (pc := 3) hX 17 dJ0_isLatin1_aae02_3 (by decide) (fun h1 => absurd h1 (by decide)) (fun h1 => ?_))
  refine z_aload3_n (pc := 6) hX 0 dJ0_isLatin1_aae02_6 rfl rfl ?_
  refine z_coder (pc := 7) hX hi wd1454 dJ0_isLatin1_aae02_7 ?_
  refine z_eq (if_pos (show (0 : Int) = 0 by decide)).symm (z_if_ne (O1 := none) (pc := 10) hX 17 dJ0_isLatin1_aae02_10 (by decide) (fun h2 => absurd h2 (by decide)) (fun h2 => ?_))
  refine z_iconst (pc := 13) hX dJ0_isLatin1_aae02_13 ?_
  refine z_goto (pc := 14) hX 18 dJ0_isLatin1_aae02_14 (by decide) ?_
  exact z_zret (pc := 18) hX hR hk dJ0_isLatin1_aae02_18 (Or.inr rfl)

theorem dJ3_checkIndex_8e157_0 : decode cJ3_checkIndex_8e157 0 = .ok (.iload_n 0, 1) := by decide +kernel
theorem dJ3_checkIndex_8e157_1 : decode cJ3_checkIndex_8e157 1 = .ok (.ifCond .lt 8, 3) := by decide +kernel
theorem dJ3_checkIndex_8e157_4 : decode cJ3_checkIndex_8e157 4 = .ok (.iload_n 0, 1) := by decide +kernel
theorem dJ3_checkIndex_8e157_5 : decode cJ3_checkIndex_8e157 5 = .ok (.iload_n 1, 1) := by decide +kernel
theorem dJ3_checkIndex_8e157_6 : decode cJ3_checkIndex_8e157 6 = .ok (.if_icmp .lt 10, 3) := by decide +kernel
theorem dJ3_checkIndex_8e157_9 : decode cJ3_checkIndex_8e157 9 = .ok (.aload_n 2, 1) := by decide +kernel
theorem dJ3_checkIndex_8e157_10 : decode cJ3_checkIndex_8e157 10 = .ok (.iload_n 0, 1) := by decide +kernel
theorem dJ3_checkIndex_8e157_11 : decode cJ3_checkIndex_8e157 11 = .ok (.iload_n 1, 1) := by decide +kernel
theorem dJ3_checkIndex_8e157_12 : decode cJ3_checkIndex_8e157 12 = .ok (.invokestatic 95, 3) := by decide +kernel
theorem dJ3_checkIndex_8e157_16 : decode cJ3_checkIndex_8e157 16 = .ok (.iload_n 0, 1) := by decide +kernel
theorem dJ3_checkIndex_8e157_17 : decode cJ3_checkIndex_8e157 17 = .ok (.ireturn, 1) := by decide +kernel
def fJ3_checkIndex_8e157 (s0 : ZS) (a0 : Int) (a1 : Int) : Option (Int × ZS) := zjn (fun (K9 : ZS → Option (Int × ZS)) => if a0 < 0 then (K9 s0) else (if a0 < a1 then (some (a0, s0)) else (K9 s0))) (fun (s3 : ZS) => none)
set_option maxHeartbeats 4000000 in
set_option maxRecDepth 100000 in
theorem mJ3_checkIndex_8e157 (E : ZE) (hE : zOkE E) (l : Launch) (s0 : ZS) (a0 : Int) (a1 : Int) : Ct E l yJ3_checkIndex_8e157 cJ3_checkIndex_8e157 3 (some .int) 2 [(0, a0), (0, a1), eF E] 1 s0 (fJ3_checkIndex_8e157 s0 a0 a1) := by
  refine Ct.of (by decide) hE (zslF hE [(0, a0), (0, a1)] (Nat.le_of_ble_eq_true rfl)) ?_
  intro X G hX hR hN hXE hXl hxn hk _
  subst hXE
  subst hXl
  have hX : G → ZOk X cJ3_checkIndex_8e157 RJ3 2 := hX
  clear hN
  show Zj X G 0 [(0, (0, a0)), (1, (0, a1)), (2, (eF (xE X)))] [] s0 _
  unfold fJ3_checkIndex_8e157
  refine z_iload_n (pc := 0) hX 0 dJ3_checkIndex_8e157_0 rfl rfl ?_
  refine z_jn (fun K9 eK9 => ?_)
  have hK9 : ∀ (s3 : ZS), Zj X G 9 [(0, (0, a0)), (1, (0, a1)), (2, (eF (xE X)))] [] s3 (K9 s3) := by
    intro s3
    rw [eK9]
    refine z_aloadF_n (pc := 9) hX hE 2 dJ3_checkIndex_8e157_9 rfl rfl ?_
    refine z_iload_n (pc := 10) hX 0 dJ3_checkIndex_8e157_10 rfl rfl ?_
    refine z_iload_n (pc := 11) hX 1 dJ3_checkIndex_8e157_11 rfl rfl ?_
    exact z_none
  clear eK9
  refine z_if_lt (pc := 1) hX 9 dJ3_checkIndex_8e157_1 (by decide) (fun h1 => ?_) (fun h1 => ?_)
  · exact hK9 _
  · refine z_iload_n (pc := 4) hX 0 dJ3_checkIndex_8e157_4 rfl rfl ?_
    refine z_iload_n (pc := 5) hX 1 dJ3_checkIndex_8e157_5 rfl rfl ?_
    refine z_icmp_lt (pc := 6) hX 16 dJ3_checkIndex_8e157_6 (by decide) (fun h2 => ?_) (fun h2 => ?_)
    · refine z_iload_n (pc := 16) hX 0 dJ3_checkIndex_8e157_16 rfl rfl ?_
      exact z_iret (pc := 17) hX hR hk dJ3_checkIndex_8e157_17
    · exact hK9 _

theorem dJ0_checkIndex_df160_0 : decode cJ0_checkIndex_df160 0 = .ok (.iload_n 0, 1) := by decide +kernel
theorem dJ0_checkIndex_df160_1 : decode cJ0_checkIndex_df160 1 = .ok (.iload_n 1, 1) := by decide +kernel
theorem dJ0_checkIndex_df160_2 : decode cJ0_checkIndex_df160 2 = .ok (.getstatic 1053, 3) := by decide +kernel
theorem dJ0_checkIndex_df160_5 : decode cJ0_checkIndex_df160 5 = .ok (.invokestatic 1059, 3) := by decide +kernel
theorem dJ0_checkIndex_df160_8 : decode cJ0_checkIndex_df160 8 = .ok (.pop, 1) := by decide +kernel
theorem dJ0_checkIndex_df160_9 : decode cJ0_checkIndex_df160 9 = .ok (.return_, 1) := by decide +kernel
def fJ0_checkIndex_df160 (s0 : ZS) (a0 : Int) (a1 : Int) : Option (Int × ZS) := zb (fJ3_checkIndex_8e157 s0 a0 a1) (fun v1 s2 => some (0, s2))
set_option maxHeartbeats 4000000 in
set_option maxRecDepth 100000 in
theorem mJ0_checkIndex_df160 (E : ZE) (hE : zOkE E) (l : Launch) (s0 : ZS) (a0 : Int) (a1 : Int) : Ct E l yJ0_checkIndex_df160 cJ0_checkIndex_df160 2 none 4 [(0, a0), (0, a1)] 0 s0 (fJ0_checkIndex_df160 s0 a0 a1) := by
  refine Ct.of (by decide) hE (Nat.le_of_ble_eq_true rfl) ?_
  intro X G hX hR hN hXE hXl hxn hk _
  subst hXE
  subst hXl
  have hX : G → ZOk X cJ0_checkIndex_df160 RJ0 4 := hX
  clear hN
  show Zj X G 0 [(0, (0, a0)), (1, (0, a1))] [] s0 _
  unfold fJ0_checkIndex_df160
  refine z_iload_n (pc := 0) hX 0 dJ0_checkIndex_df160_0 rfl rfl ?_
  refine z_iload_n (pc := 1) hX 1 dJ0_checkIndex_df160_1 rfl rfl ?_
  refine z_fmt (pc := 2) hX hE wd415 dJ0_checkIndex_df160_2 ?_
  refine z_callS (n := 3) (st := []) (pc := 5) hX (mJ3_checkIndex_8e157 _ hE _ _ _ _) ⟨wd417, wd70, wd419, ⟨by decide, by decide, by decide⟩, by decide⟩ wd418 rfl rfl (by decide) (Nat.le_of_ble_eq_true rfl) dJ0_checkIndex_df160_5 (fun v1 s2 r3 => ?_)
  show Zj X G 8 [(0, (0, a0)), (1, (0, a1))] [(0, v1)] _ _
  refine z_pop (pc := 8) hX zn0 dJ0_checkIndex_df160_8 ?_
  exact z_vret (pc := 9) hX hR hk dJ0_checkIndex_df160_9

theorem dJ1_charAt_3b067_0 : decode cJ1_charAt_3b067 0 = .ok (.iload_n 1, 1) := by decide +kernel
theorem dJ1_charAt_3b067_1 : decode cJ1_charAt_3b067 1 = .ok (.aload_n 0, 1) := by decide +kernel
theorem dJ1_charAt_3b067_2 : decode cJ1_charAt_3b067 2 = .ok (.arraylength, 1) := by decide +kernel
theorem dJ1_charAt_3b067_3 : decode cJ1_charAt_3b067 3 = .ok (.invokestatic 9, 3) := by decide +kernel
theorem dJ1_charAt_3b067_6 : decode cJ1_charAt_3b067 6 = .ok (.aload_n 0, 1) := by decide +kernel
theorem dJ1_charAt_3b067_7 : decode cJ1_charAt_3b067 7 = .ok (.iload_n 1, 1) := by decide +kernel
theorem dJ1_charAt_3b067_8 : decode cJ1_charAt_3b067 8 = .ok (.baload, 1) := by decide +kernel
theorem dJ1_charAt_3b067_9 : decode cJ1_charAt_3b067 9 = .ok (.sipush 255, 3) := by decide +kernel
theorem dJ1_charAt_3b067_12 : decode cJ1_charAt_3b067 12 = .ok (.iand, 1) := by decide +kernel
theorem dJ1_charAt_3b067_13 : decode cJ1_charAt_3b067 13 = .ok (.i2c, 1) := by decide +kernel
theorem dJ1_charAt_3b067_14 : decode cJ1_charAt_3b067 14 = .ok (.ireturn, 1) := by decide +kernel
def fJ1_charAt_3b067 (s0 : ZS) (i : Nat) (a1 : Int) : Option (Int × ZS) := zb (fJ0_checkIndex_df160 s0 a1 (zLen.getD i 0 : Int)) (fun v1 s2 => if 0 ≤ a1 ∧ a1 < (zLen.getD i 0 : Int) then (some ((iC (iAnd (zbt i a1) 255)), s2)) else none)
set_option maxHeartbeats 4000000 in
set_option maxRecDepth 100000 in
theorem mJ1_charAt_3b067 (E : ZE) (hE : zOkE E) (l : Launch) (s0 : ZS) (i : Nat) (a1 : Int) (hi : i < 2) : Ct E l yJ1_charAt_3b067 cJ1_charAt_3b067 2 (some .char) 6 [(3, (eV E i : Int)), (0, a1)] 5 s0 (fJ1_charAt_3b067 s0 i a1) := by
  refine Ct.of (by decide) hE (Nat.le_of_ble_eq_true rfl) ?_
  intro X G hX hR hN hXE hXl hxn hk _
  subst hXE
  subst hXl
  have hX : G → ZOk X cJ1_charAt_3b067 RJ1 6 := hX
  clear hN
  show Zj X G 0 [(0, (3, (eV (xE X) i : Int))), (1, (0, a1))] [] s0 _
  unfold fJ1_charAt_3b067
  refine z_iload_n (pc := 0) hX 1 dJ1_charAt_3b067_0 rfl rfl ?_
  refine z_aload3_n (pc := 1) hX 0 dJ1_charAt_3b067_1 rfl rfl ?_
  refine z_blen (pc := 2) hX hi dJ1_charAt_3b067_2 ?_
  refine z_callS (n := 2) (st := []) (pc := 3) hX (mJ0_checkIndex_df160 _ hE _ _ _ _) ⟨wd412, wd68, wd414, ⟨by decide, by decide, by decide⟩, by decide⟩ wd413 rfl rfl (by decide) (Nat.le_of_ble_eq_true rfl) dJ1_charAt_3b067_3 (fun v1 s2 r3 => ?_)
  show Zj X G 6 [(0, (3, (eV (xE X) i : Int))), (1, (0, a1))] [] _ _
  refine z_aload3_n (pc := 6) hX 0 dJ1_charAt_3b067_6 rfl rfl ?_
  refine z_iload_n (pc := 7) hX 1 dJ1_charAt_3b067_7 rfl rfl ?_
  refine z_bald (pc := 8) hX hi dJ1_charAt_3b067_8 ?_
  refine z_sipush (pc := 9) hX dJ1_charAt_3b067_9 ?_
  refine z_iand (pc := 12) hX dJ1_charAt_3b067_12 ?_
  refine z_i2c (pc := 13) hX dJ1_charAt_3b067_13 ?_
  exact z_cret (pc := 14) hX hR hk dJ1_charAt_3b067_14 (iC_in _)

theorem dJ0_charAt_5068e_0 : decode cJ0_charAt_5068e 0 = .ok (.aload_n 0, 1) := by decide +kernel
theorem dJ0_charAt_5068e_1 : decode cJ0_charAt_5068e 1 = .ok (.invokevirtual 492, 3) := by decide +kernel
theorem dJ0_charAt_5068e_4 : decode cJ0_charAt_5068e 4 = .ok (.ifCond .eq 12, 3) := by decide +kernel
theorem dJ0_charAt_5068e_7 : decode cJ0_charAt_5068e 7 = .ok (.aload_n 0, 1) := by decide +kernel
theorem dJ0_charAt_5068e_8 : decode cJ0_charAt_5068e 8 = .ok (.getfield 9, 3) := by decide +kernel
theorem dJ0_charAt_5068e_11 : decode cJ0_charAt_5068e 11 = .ok (.iload_n 1, 1) := by decide +kernel
theorem dJ0_charAt_5068e_12 : decode cJ0_charAt_5068e 12 = .ok (.invokestatic 495, 3) := by decide +kernel
theorem dJ0_charAt_5068e_15 : decode cJ0_charAt_5068e 15 = .ok (.ireturn, 1) := by decide +kernel
theorem dJ0_charAt_5068e_16 : decode cJ0_charAt_5068e 16 = .ok (.aload_n 0, 1) := by decide +kernel
theorem dJ0_charAt_5068e_17 : decode cJ0_charAt_5068e 17 = .ok (.getfield 9, 3) := by decide +kernel
theorem dJ0_charAt_5068e_20 : decode cJ0_charAt_5068e 20 = .ok (.iload_n 1, 1) := by decide +kernel
theorem dJ0_charAt_5068e_21 : decode cJ0_charAt_5068e 21 = .ok (.invokestatic 498, 3) := by decide +kernel
def fJ0_charAt_5068e (s0 : ZS) (i : Nat) (a1 : Int) : Option (Int × ZS) := zb (fJ0_isLatin1_aae02 s0 i) (fun v1 s2 => if v1 = 0 then (none) else (zb (fJ1_charAt_3b067 s2 i a1) (fun v8 s9 => some (v8, s9))))
set_option maxHeartbeats 4000000 in
set_option maxRecDepth 100000 in
theorem mJ0_charAt_5068e (E : ZE) (hE : zOkE E) (l : Launch) (s0 : ZS) (i : Nat) (a1 : Int) (hi : i < 2) : Ct E l yJ0_charAt_5068e cJ0_charAt_5068e 2 (some .char) 8 [(3, (eS E i : Int)), (0, a1)] 5 s0 (fJ0_charAt_5068e s0 i a1) := by
  refine Ct.of (by decide) hE (Nat.le_of_ble_eq_true rfl) ?_
  intro X G hX hR hN hXE hXl hxn hk _
  subst hXE
  subst hXl
  have hX : G → ZOk X cJ0_charAt_5068e RJ0 8 := hX
  clear hN
  show Zj X G 0 [(0, (3, (eS (xE X) i : Int))), (1, (0, a1))] [] s0 _
  unfold fJ0_charAt_5068e
  refine z_aload3_n (pc := 0) hX 0 dJ0_charAt_5068e_0 rfl rfl ?_
  refine z_callV3 (n := 0) (st := []) (pc := 1) hX hi rfl (mJ0_isLatin1_aae02 _ hE _ _ _ hi) ⟨wd405, wd68, wd408, ⟨by decide, by decide, by decide⟩, by decide⟩ rfl wd406 wd407 rfl rfl (by decide) (Nat.le_of_ble_eq_true rfl) dJ0_charAt_5068e_1 (fun v1 s2 r3 => ?_)
  show Zj X G 4 [(0, (3, (eS (xE X) i : Int))), (1, (0, a1))] [(0, v1)] _ _
  refine z_if_eq (pc := 4) hX 16 dJ0_charAt_5068e_4 (by decide) (fun h4 => ?_) (fun h4 => ?_)
  · refine z_aload3_n (pc := 16) hX 0 dJ0_charAt_5068e_16 rfl rfl ?_
    refine z_value (pc := 17) hX hi wd1453 dJ0_charAt_5068e_17 ?_
    refine z_iload_n (pc := 20) hX 1 dJ0_charAt_5068e_20 rfl rfl ?_
    exact z_none
  · refine z_aload3_n (pc := 7) hX 0 dJ0_charAt_5068e_7 rfl rfl ?_
    refine z_value (pc := 8) hX hi wd1453 dJ0_charAt_5068e_8 ?_
    refine z_iload_n (pc := 11) hX 1 dJ0_charAt_5068e_11 rfl rfl ?_
    refine z_callS (n := 2) (st := []) (pc := 12) hX (mJ1_charAt_3b067 _ hE _ _ _ _ hi) ⟨wd409, wd69, wd411, ⟨by decide, by decide, by decide⟩, by decide⟩ wd410 rfl rfl (by decide) (Nat.le_of_ble_eq_true rfl) dJ0_charAt_5068e_12 (fun v8 s9 r10 => ?_)
    show Zj X G 15 [(0, (3, (eS (xE X) i : Int))), (1, (0, a1))] [(0, v8)] _ _
    exact z_cret (pc := 15) hX hR hk dJ0_charAt_5068e_15 (r10)

theorem dX4_isWord_0 : decode cX4_isWord 0 = .ok (.iload_n 1, 1) := by decide +kernel
theorem dX4_isWord_1 : decode cX4_isWord 1 = .ok (.istore 4, 2) := by decide +kernel
theorem dX4_isWord_3 : decode cX4_isWord 3 = .ok (.iload 4, 2) := by decide +kernel
theorem dX4_isWord_5 : decode cX4_isWord 5 = .ok (.iload_n 2, 1) := by decide +kernel
theorem dX4_isWord_6 : decode cX4_isWord 6 = .ok (.if_icmp .ge 32, 3) := by decide +kernel
theorem dX4_isWord_9 : decode cX4_isWord 9 = .ok (.ldc 116, 2) := by decide +kernel
theorem dX4_isWord_11 : decode cX4_isWord 11 = .ok (.iload 4, 2) := by decide +kernel
theorem dX4_isWord_13 : decode cX4_isWord 13 = .ok (.invokevirtual 122, 3) := by decide +kernel
theorem dX4_isWord_16 : decode cX4_isWord 16 = .ok (.aload_n 0, 1) := by decide +kernel
theorem dX4_isWord_17 : decode cX4_isWord 17 = .ok (.getfield 13, 3) := by decide +kernel
theorem dX4_isWord_20 : decode cX4_isWord 20 = .ok (.iload_n 3, 1) := by decide +kernel
theorem dX4_isWord_21 : decode cX4_isWord 21 = .ok (.iload 4, 2) := by decide +kernel
theorem dX4_isWord_23 : decode cX4_isWord 23 = .ok (.iadd, 1) := by decide +kernel
theorem dX4_isWord_24 : decode cX4_isWord 24 = .ok (.iload_n 1, 1) := by decide +kernel
theorem dX4_isWord_25 : decode cX4_isWord 25 = .ok (.isub, 1) := by decide +kernel
theorem dX4_isWord_26 : decode cX4_isWord 26 = .ok (.iaload, 1) := by decide +kernel
theorem dX4_isWord_27 : decode cX4_isWord 27 = .ok (.if_icmp .eq 5, 3) := by decide +kernel
theorem dX4_isWord_30 : decode cX4_isWord 30 = .ok (.iconst 0, 1) := by decide +kernel
theorem dX4_isWord_31 : decode cX4_isWord 31 = .ok (.ireturn, 1) := by decide +kernel
theorem dX4_isWord_32 : decode cX4_isWord 32 = .ok (.iinc 4 1, 3) := by decide +kernel
theorem dX4_isWord_35 : decode cX4_isWord 35 = .ok (.goto (-32), 3) := by decide +kernel
theorem dX4_isWord_38 : decode cX4_isWord 38 = .ok (.iconst 1, 1) := by decide +kernel
theorem dX4_isWord_39 : decode cX4_isWord 39 = .ok (.ireturn, 1) := by decide +kernel
def lX4_isWord_3 (u2 u3 u4 u5 : Int)  : Nat → ZS → Int → Option (Int × ZS)
  | 0, _, _ => none
  | n1 + 1, s1, x6 => if u4 ≤ x6 then (some (1, s1)) else (zb (fJ0_charAt_5068e s1 0 x6) (fun v8 s9 => (zg s9 4 u2 0).bind (fun v11 => (zal s9 100 v11 (wrap ((wrap (u5 + x6)) - u3))).bind (fun v12 => if v8 = v12 then (lX4_isWord_3 u2 u3 u4 u5 n1 s9 (wrap (x6 + 1))) else (some (0, s9))))))

def fX4_isWord (s0 : ZS) (a0 : Int) (a1 : Int) (a2 : Int) (a3 : Int) : Option (Int × ZS) := lX4_isWord_3 a0 a1 a2 a3 1000 s0 a1
set_option maxHeartbeats 4000000 in
set_option maxRecDepth 100000 in
theorem mX4_isWord (E : ZE) (hE : zOkE E) (l : Launch) (s0 : ZS) (a0 : Int) (a1 : Int) (a2 : Int) (a3 : Int) : Ct E l yX4_isWord cX4_isWord 5 (some .boolean) 10 [(2, a0), (0, a1), (0, a2), (0, a3)] 4 s0 (fX4_isWord s0 a0 a1 a2 a3) := by
  refine Ct.of (by decide) hE (Nat.le_of_ble_eq_true rfl) ?_
  intro X G hX hR hN hXE hXl hxn hk _
  subst hXE
  subst hXl
  have hX : G → ZOk X cX4_isWord RX4 10 := hX
  clear hN
  show Zj X G 0 [(0, (2, a0)), (1, (0, a1)), (2, (0, a2)), (3, (0, a3))] [] s0 _
  unfold fX4_isWord
  refine z_iload_n (pc := 0) hX 1 dX4_isWord_0 rfl rfl ?_
  refine z_istore (lv' := [(4, (0, a1)), (0, (2, a0)), (1, (0, a1)), (2, (0, a2)), (3, (0, a3))]) (pc := 1) hX dX4_isWord_1 (zlt hxn rfl) rfl ?_
  have hl3 : ∀ (u2 u3 u4 u5 : Int), ∀ (n1 : Nat) (s1 : ZS) (x6 : Int), Zj X G 3 [(0, (2, u2)), (1, (0, u3)), (2, (0, u4)), (3, (0, u5)), (4, (0, x6))] [] s1 (lX4_isWord_3 u2 u3 u4 u5 n1 s1 x6) := by
    intro u2 u3 u4 u5 n1
    induction n1 with
    | zero => intro _ _; exact z_none
    | succ n1 ih1 =>
      intro s1 x6
      rw [lX4_isWord_3]
      refine z_iload (pc := 3) hX 4 dX4_isWord_3 rfl ?_
      refine z_iload_n (pc := 5) hX 2 dX4_isWord_5 rfl rfl ?_
      refine z_icmp_ge (pc := 6) hX 38 dX4_isWord_6 (by decide) (fun h7 => ?_) (fun h7 => ?_)
      · refine z_iconst (pc := 38) hX dX4_isWord_38 ?_
        exact z_zret (pc := 39) hX hR hk dX4_isWord_39 (Or.inr rfl)
      · refine z_ldcS (pc := 9) hX 0 (fun g => (zNe (hX := hX g)).2.2.2.2.1.1) dX4_isWord_9 ?_
        refine z_iload (pc := 11) hX 4 dX4_isWord_11 rfl ?_
        refine z_callV3 (n := 1) (st := []) (pc := 13) hX (by decide) rfl (mJ0_charAt_5068e _ hE _ _ _ _ (by decide)) ⟨wd401, wd68, wd404, ⟨by decide, by decide, by decide⟩, by decide⟩ rfl wd402 wd403 rfl rfl (by decide) (Nat.le_of_ble_eq_true rfl) dX4_isWord_13 (fun v8 s9 r10 => ?_)
        show Zj X G 16 [(0, (2, u2)), (1, (0, u3)), (2, (0, u4)), (3, (0, u5)), (4, (0, x6))] [(0, v8)] _ _
        refine z_aload_n (pc := 16) hX 0 dX4_isWord_16 rfl rfl ?_
        refine z_get (pc := 17) hX zc4 0 (by decide) wd198 rfl rfl dX4_isWord_17 (fun v11 => ?_)
        refine z_iload_n (pc := 20) hX 3 dX4_isWord_20 rfl rfl ?_
        refine z_iload (pc := 21) hX 4 dX4_isWord_21 rfl ?_
        refine z_iadd (pc := 23) hX dX4_isWord_23 ?_
        refine z_iload_n (pc := 24) hX 1 dX4_isWord_24 rfl rfl ?_
        refine z_isub (pc := 25) hX dX4_isWord_25 ?_
        refine z_iald (pc := 26) hX dX4_isWord_26 (fun v12 => ?_)
        refine z_icmp_eq (pc := 27) hX 32 dX4_isWord_27 (by decide) (fun h13 => ?_) (fun h13 => ?_)
        · refine z_iinc (lv' := [(4, (0, (wrap (x6 + 1)))), (0, (2, u2)), (1, (0, u3)), (2, (0, u4)), (3, (0, u5))]) (pc := 32) hX 4 dX4_isWord_32 rfl (zlt hxn rfl) rfl ?_
          refine z_goto (pc := 35) hX 3 dX4_isWord_35 (by decide) ?_
          refine z_pick (lv' := [(0, (2, u2)), (1, (0, u3)), (2, (0, u4)), (3, (0, u5)), (4, (0, (wrap (x6 + 1))))]) [1, 2, 3, 4, 0] rfl ?_
          exact ih1 _ _
        · refine z_iconst (pc := 30) hX dX4_isWord_30 ?_
          exact z_zret (pc := 31) hX hR hk dX4_isWord_31 (Or.inl rfl)
  refine z_pick (lv' := [(0, (2, a0)), (1, (0, a1)), (2, (0, a2)), (3, (0, a3)), (4, (0, a1))]) [1, 2, 3, 4, 0] rfl ?_
  refine hl3 _ _ _ _ 1000 _ _

theorem dX4_wordAt_0 : decode cX4_wordAt 0 = .ok (.iload_n 1, 1) := by decide +kernel
theorem dX4_wordAt_1 : decode cX4_wordAt 1 = .ok (.istore_n 2, 1) := by decide +kernel
theorem dX4_wordAt_2 : decode cX4_wordAt 2 = .ok (.iload_n 2, 1) := by decide +kernel
theorem dX4_wordAt_3 : decode cX4_wordAt 3 = .ok (.aload_n 0, 1) := by decide +kernel
theorem dX4_wordAt_4 : decode cX4_wordAt 4 = .ok (.getfield 17, 3) := by decide +kernel
theorem dX4_wordAt_7 : decode cX4_wordAt 7 = .ok (.if_icmp .ge 22, 3) := by decide +kernel
theorem dX4_wordAt_10 : decode cX4_wordAt 10 = .ok (.aload_n 0, 1) := by decide +kernel
theorem dX4_wordAt_11 : decode cX4_wordAt 11 = .ok (.getfield 13, 3) := by decide +kernel
theorem dX4_wordAt_14 : decode cX4_wordAt 14 = .ok (.iload_n 2, 1) := by decide +kernel
theorem dX4_wordAt_15 : decode cX4_wordAt 15 = .ok (.iaload, 1) := by decide +kernel
theorem dX4_wordAt_16 : decode cX4_wordAt 16 = .ok (.invokestatic 96, 3) := by decide +kernel
theorem dX4_wordAt_19 : decode cX4_wordAt 19 = .ok (.iconst 1, 1) := by decide +kernel
theorem dX4_wordAt_20 : decode cX4_wordAt 20 = .ok (.if_icmp .ne 9, 3) := by decide +kernel
theorem dX4_wordAt_23 : decode cX4_wordAt 23 = .ok (.iinc 2 1, 3) := by decide +kernel
theorem dX4_wordAt_26 : decode cX4_wordAt 26 = .ok (.goto (-24), 3) := by decide +kernel
theorem dX4_wordAt_29 : decode cX4_wordAt 29 = .ok (.iconst 0, 1) := by decide +kernel
theorem dX4_wordAt_30 : decode cX4_wordAt 30 = .ok (.istore_n 3, 1) := by decide +kernel
theorem dX4_wordAt_31 : decode cX4_wordAt 31 = .ok (.iconst 0, 1) := by decide +kernel
theorem dX4_wordAt_32 : decode cX4_wordAt 32 = .ok (.istore 4, 2) := by decide +kernel
theorem dX4_wordAt_34 : decode cX4_wordAt 34 = .ok (.iconst 0, 1) := by decide +kernel
theorem dX4_wordAt_35 : decode cX4_wordAt 35 = .ok (.istore 5, 2) := by decide +kernel
theorem dX4_wordAt_37 : decode cX4_wordAt 37 = .ok (.iload 5, 2) := by decide +kernel
theorem dX4_wordAt_39 : decode cX4_wordAt 39 = .ok (.ldc 116, 2) := by decide +kernel
theorem dX4_wordAt_41 : decode cX4_wordAt 41 = .ok (.invokevirtual 118, 3) := by decide +kernel
theorem dX4_wordAt_44 : decode cX4_wordAt 44 = .ok (.if_icmp .gt 69, 3) := by decide +kernel
theorem dX4_wordAt_47 : decode cX4_wordAt 47 = .ok (.iload 5, 2) := by decide +kernel
theorem dX4_wordAt_49 : decode cX4_wordAt 49 = .ok (.ldc 116, 2) := by decide +kernel
theorem dX4_wordAt_51 : decode cX4_wordAt 51 = .ok (.invokevirtual 118, 3) := by decide +kernel
theorem dX4_wordAt_54 : decode cX4_wordAt 54 = .ok (.if_icmp .eq 15, 3) := by decide +kernel
theorem dX4_wordAt_57 : decode cX4_wordAt 57 = .ok (.ldc 116, 2) := by decide +kernel
theorem dX4_wordAt_59 : decode cX4_wordAt 59 = .ok (.iload 5, 2) := by decide +kernel
theorem dX4_wordAt_61 : decode cX4_wordAt 61 = .ok (.invokevirtual 122, 3) := by decide +kernel
theorem dX4_wordAt_64 : decode cX4_wordAt 64 = .ok (.bipush 32, 2) := by decide +kernel
theorem dX4_wordAt_66 : decode cX4_wordAt 66 = .ok (.if_icmp .ne 41, 3) := by decide +kernel
theorem dX4_wordAt_69 : decode cX4_wordAt 69 = .ok (.iload 5, 2) := by decide +kernel
theorem dX4_wordAt_71 : decode cX4_wordAt 71 = .ok (.iload 4, 2) := by decide +kernel
theorem dX4_wordAt_73 : decode cX4_wordAt 73 = .ok (.isub, 1) := by decide +kernel
theorem dX4_wordAt_74 : decode cX4_wordAt 74 = .ok (.iload_n 2, 1) := by decide +kernel
theorem dX4_wordAt_75 : decode cX4_wordAt 75 = .ok (.iload_n 1, 1) := by decide +kernel
theorem dX4_wordAt_76 : decode cX4_wordAt 76 = .ok (.isub, 1) := by decide +kernel
theorem dX4_wordAt_77 : decode cX4_wordAt 77 = .ok (.if_icmp .ne 21, 3) := by decide +kernel
theorem dX4_wordAt_80 : decode cX4_wordAt 80 = .ok (.aload_n 0, 1) := by decide +kernel
theorem dX4_wordAt_81 : decode cX4_wordAt 81 = .ok (.iload 4, 2) := by decide +kernel
theorem dX4_wordAt_83 : decode cX4_wordAt 83 = .ok (.iload 5, 2) := by decide +kernel
theorem dX4_wordAt_85 : decode cX4_wordAt 85 = .ok (.iload_n 1, 1) := by decide +kernel
theorem dX4_wordAt_86 : decode cX4_wordAt 86 = .ok (.invokevirtual 126, 3) := by decide +kernel
theorem dX4_wordAt_89 : decode cX4_wordAt 89 = .ok (.ifCond .eq 9, 3) := by decide +kernel
theorem dX4_wordAt_92 : decode cX4_wordAt 92 = .ok (.sipush 10000, 3) := by decide +kernel
theorem dX4_wordAt_95 : decode cX4_wordAt 95 = .ok (.iload_n 3, 1) := by decide +kernel
theorem dX4_wordAt_96 : decode cX4_wordAt 96 = .ok (.iadd, 1) := by decide +kernel
theorem dX4_wordAt_97 : decode cX4_wordAt 97 = .ok (.ireturn, 1) := by decide +kernel
theorem dX4_wordAt_98 : decode cX4_wordAt 98 = .ok (.iinc 3 1, 3) := by decide +kernel
theorem dX4_wordAt_101 : decode cX4_wordAt 101 = .ok (.iload 5, 2) := by decide +kernel
theorem dX4_wordAt_103 : decode cX4_wordAt 103 = .ok (.iconst 1, 1) := by decide +kernel
theorem dX4_wordAt_104 : decode cX4_wordAt 104 = .ok (.iadd, 1) := by decide +kernel
theorem dX4_wordAt_105 : decode cX4_wordAt 105 = .ok (.istore 4, 2) := by decide +kernel
theorem dX4_wordAt_107 : decode cX4_wordAt 107 = .ok (.iinc 5 1, 3) := by decide +kernel
theorem dX4_wordAt_110 : decode cX4_wordAt 110 = .ok (.goto (-73), 3) := by decide +kernel
theorem dX4_wordAt_113 : decode cX4_wordAt 113 = .ok (.sipush 30001, 3) := by decide +kernel
theorem dX4_wordAt_116 : decode cX4_wordAt 116 = .ok (.ireturn, 1) := by decide +kernel
def lX4_wordAt_2 (u2 u3 : Int) (K29 : ZS → Int → Option (Int × ZS)) : Nat → ZS → Int → Option (Int × ZS)
  | 0, _, _ => none
  | n1 + 1, s1, x4 => (zg s1 4 u2 1).bind (fun v5 => if v5 ≤ x4 then (K29 s1 x4) else ((zg s1 4 u2 0).bind (fun v7 => (zal s1 100 v7 x4).bind (fun v8 => zb (fX4_lookOf s1 v8) (fun v9 s10 => if v9 = 1 then (lX4_wordAt_2 u2 u3 K29 n1 s10 (wrap (x4 + 1))) else (K29 s10 x4))))))

def lX4_wordAt_37 (u18 u19 u20 : Int)  : Nat → ZS → Int → Int → Int → Option (Int × ZS)
  | 0, _, _, _, _ => none
  | n1 + 1, s17, x21, x22, x23 => zb (fJ0_length_8abf5 s17 0) (fun v24 s25 => if v24 < x23 then (some (30001, s25)) else (zb (fJ0_length_8abf5 s25 0) (fun v28 s29 => zjn (fun (K107 : ZS → Int → Int → Option (Int × ZS)) => zjn (fun (K69 : ZS → Option (Int × ZS)) => if x23 = v28 then (K69 s29) else (zb (fJ0_charAt_5068e s29 0 x23) (fun v32 s33 => if v32 = 32 then (K69 s33) else (K107 s33 x21 x22)))) (fun (s36 : ZS) => zjn (fun (K98 : ZS → Option (Int × ZS)) => if (wrap (x23 - x22)) = (wrap (u20 - u19)) then (zb (zv s36 4 u18 (fX4_isWord s36 u18 x22 x23 u19)) (fun v38 s39 => if v38 = 0 then (K98 s39) else (some ((wrap (10000 + x21)), s39)))) else (K98 s36)) (fun (s42 : ZS) => K107 s42 (wrap (x21 + 1)) (wrap (x23 + 1))))) (fun (s43 : ZS) (x44 x45 : Int) => lX4_wordAt_37 u18 u19 u20 n1 s43 x44 x45 (wrap (x23 + 1))))))

def fX4_wordAt (s0 : ZS) (a0 : Int) (a1 : Int) : Option (Int × ZS) := lX4_wordAt_2 a0 a1 (fun (s15 : ZS) (x16 : Int) => lX4_wordAt_37 a0 a1 x16 1000 s15 0 0 0) 1000 s0 a1
set_option maxHeartbeats 4000000 in
set_option maxRecDepth 100000 in
theorem mX4_wordAt (E : ZE) (hE : zOkE E) (l : Launch) (s0 : ZS) (a0 : Int) (a1 : Int) : Ct E l yX4_wordAt cX4_wordAt 6 (some .int) 12 [(2, a0), (0, a1)] 1 s0 (fX4_wordAt s0 a0 a1) := by
  refine Ct.of (by decide) hE (Nat.le_of_ble_eq_true rfl) ?_
  intro X G hX hR hN hXE hXl hxn hk _
  subst hXE
  subst hXl
  have hX : G → ZOk X cX4_wordAt RX4 12 := hX
  clear hN
  show Zj X G 0 [(0, (2, a0)), (1, (0, a1))] [] s0 _
  unfold fX4_wordAt
  refine z_iload_n (pc := 0) hX 1 dX4_wordAt_0 rfl rfl ?_
  refine z_istore_n (lv' := [(2, (0, a1)), (0, (2, a0)), (1, (0, a1))]) (pc := 1) hX dX4_wordAt_1 rfl (zlt hxn rfl) rfl ?_
  have hl2 : ∀ (u2 u3 : Int), ∀ (K29 : ZS → Int → Option (Int × ZS)), (∀ (s13 : ZS) (x14 : Int), Zj X G 29 [(0, (2, u2)), (1, (0, u3)), (2, (0, x14))] [] s13 (K29 s13 x14)) → ∀ (n1 : Nat) (s1 : ZS) (x4 : Int), Zj X G 2 [(0, (2, u2)), (1, (0, u3)), (2, (0, x4))] [] s1 (lX4_wordAt_2 u2 u3 K29 n1 s1 x4) := by
    intro u2 u3 K29 hK29 n1
    induction n1 with
    | zero => intro _ _; exact z_none
    | succ n1 ih1 =>
      intro s1 x4
      rw [lX4_wordAt_2]
      refine z_iload_n (pc := 2) hX 2 dX4_wordAt_2 rfl rfl ?_
      refine z_aload_n (pc := 3) hX 0 dX4_wordAt_3 rfl rfl ?_
      refine z_get (pc := 4) hX zc4 1 (by decide) wd199 rfl rfl dX4_wordAt_4 (fun v5 => ?_)
      refine z_icmp_ge (pc := 7) hX 29 dX4_wordAt_7 (by decide) (fun h6 => ?_) (fun h6 => ?_)
      · exact hK29 _ _
      · refine z_aload_n (pc := 10) hX 0 dX4_wordAt_10 rfl rfl ?_
        refine z_get (pc := 11) hX zc4 0 (by decide) wd198 rfl rfl dX4_wordAt_11 (fun v7 => ?_)
        refine z_iload_n (pc := 14) hX 2 dX4_wordAt_14 rfl rfl ?_
        refine z_iald (pc := 15) hX dX4_wordAt_15 (fun v8 => ?_)
        refine z_callS (n := 1) (st := []) (pc := 16) hX (mX4_lookOf _ hE _ _ _) ⟨wd383, wd64, wd385, ⟨by decide, by decide, by decide⟩, by decide⟩ wd384 rfl rfl (by decide) (Nat.le_of_ble_eq_true rfl) dX4_wordAt_16 (fun v9 s10 r11 => ?_)
        show Zj X G 19 [(0, (2, u2)), (1, (0, u3)), (2, (0, x4))] [(0, v9)] _ _
        refine z_iconst (pc := 19) hX dX4_wordAt_19 ?_
        refine z_icmp_ne (pc := 20) hX 29 dX4_wordAt_20 (by decide) (fun h12 => ?_) (fun h12 => ?_)
        · exact hK29 _ _
        · refine z_iinc (lv' := [(2, (0, (wrap (x4 + 1)))), (0, (2, u2)), (1, (0, u3))]) (pc := 23) hX 2 dX4_wordAt_23 rfl (zlt hxn rfl) rfl ?_
          refine z_goto (pc := 26) hX 2 dX4_wordAt_26 (by decide) ?_
          refine z_pick (lv' := [(0, (2, u2)), (1, (0, u3)), (2, (0, (wrap (x4 + 1))))]) [1, 2, 0] rfl ?_
          exact ih1 _ _
  refine z_pick (lv' := [(0, (2, a0)), (1, (0, a1)), (2, (0, a1))]) [1, 2, 0] rfl ?_
  refine hl2 _ _ _ (fun s15 x16 => ?_) 1000 _ _
  refine z_iconst (pc := 29) hX dX4_wordAt_29 ?_
  refine z_istore_n (lv' := [(3, (0, 0)), (0, (2, a0)), (1, (0, a1)), (2, (0, x16))]) (pc := 30) hX dX4_wordAt_30 rfl (zlt hxn rfl) rfl ?_
  refine z_iconst (pc := 31) hX dX4_wordAt_31 ?_
  refine z_istore (lv' := [(4, (0, 0)), (3, (0, 0)), (0, (2, a0)), (1, (0, a1)), (2, (0, x16))]) (pc := 32) hX dX4_wordAt_32 (zlt hxn rfl) rfl ?_
  refine z_iconst (pc := 34) hX dX4_wordAt_34 ?_
  refine z_istore (lv' := [(5, (0, 0)), (4, (0, 0)), (3, (0, 0)), (0, (2, a0)), (1, (0, a1)), (2, (0, x16))]) (pc := 35) hX dX4_wordAt_35 (zlt hxn rfl) rfl ?_
  have hl37 : ∀ (u18 u19 u20 : Int), ∀ (n1 : Nat) (s17 : ZS) (x21 x22 x23 : Int), Zj X G 37 [(0, (2, u18)), (1, (0, u19)), (2, (0, u20)), (3, (0, x21)), (4, (0, x22)), (5, (0, x23))] [] s17 (lX4_wordAt_37 u18 u19 u20 n1 s17 x21 x22 x23) := by
    intro u18 u19 u20 n1
    induction n1 with
    | zero => intro _ _ _ _; exact z_none
    | succ n1 ih1 =>
      intro s17 x21 x22 x23
      rw [lX4_wordAt_37]
      refine z_iload (pc := 37) hX 5 dX4_wordAt_37 rfl ?_
      refine z_ldcS (pc := 39) hX 0 (fun g => (zNe (hX := hX g)).2.2.2.2.1.1) dX4_wordAt_39 ?_
      refine z_callV3 (n := 0) (st := [(0, x23)]) (pc := 41) hX (by decide) rfl (mJ0_length_8abf5 _ hE _ _ _ (by decide)) ⟨wd391, wd68, wd394, ⟨by decide, by decide, by decide⟩, by decide⟩ rfl wd392 wd393 rfl rfl (by decide) (Nat.le_of_ble_eq_true rfl) dX4_wordAt_41 (fun v24 s25 r26 => ?_)
      show Zj X G 44 [(0, (2, u18)), (1, (0, u19)), (2, (0, u20)), (3, (0, x21)), (4, (0, x22)), (5, (0, x23))] [(0, v24), (0, x23)] _ _
      refine z_icmp_gt (pc := 44) hX 113 dX4_wordAt_44 (by decide) (fun h27 => ?_) (fun h27 => ?_)
      · refine z_sipush (pc := 113) hX dX4_wordAt_113 ?_
        exact z_iret (pc := 116) hX hR hk dX4_wordAt_116
      · refine z_iload (pc := 47) hX 5 dX4_wordAt_47 rfl ?_
        refine z_ldcS (pc := 49) hX 0 (fun g => (zNe (hX := hX g)).2.2.2.2.1.1) dX4_wordAt_49 ?_
        refine z_callV3 (n := 0) (st := [(0, x23)]) (pc := 51) hX (by decide) rfl (mJ0_length_8abf5 _ hE _ _ _ (by decide)) ⟨wd391, wd68, wd394, ⟨by decide, by decide, by decide⟩, by decide⟩ rfl wd392 wd393 rfl rfl (by decide) (Nat.le_of_ble_eq_true rfl) dX4_wordAt_51 (fun v28 s29 r30 => ?_)
        show Zj X G 54 [(0, (2, u18)), (1, (0, u19)), (2, (0, u20)), (3, (0, x21)), (4, (0, x22)), (5, (0, x23))] [(0, v28), (0, x23)] _ _
        refine z_jn (fun K107 eK107 => ?_)
        have hK107 : ∀ (s43 : ZS) (x44 x45 : Int), Zj X G 107 [(0, (2, u18)), (1, (0, u19)), (2, (0, u20)), (3, (0, x44)), (4, (0, x45)), (5, (0, x23))] [] s43 (K107 s43 x44 x45) := by
          intro s43 x44 x45
          rw [eK107]
          refine z_iinc (lv' := [(5, (0, (wrap (x23 + 1)))), (0, (2, u18)), (1, (0, u19)), (2, (0, u20)), (3, (0, x44)), (4, (0, x45))]) (pc := 107) hX 5 dX4_wordAt_107 rfl (zlt hxn rfl) rfl ?_
          refine z_goto (pc := 110) hX 37 dX4_wordAt_110 (by decide) ?_
          refine z_pick (lv' := [(0, (2, u18)), (1, (0, u19)), (2, (0, u20)), (3, (0, x44)), (4, (0, x45)), (5, (0, (wrap (x23 + 1))))]) [1, 2, 3, 4, 5, 0] rfl ?_
          exact ih1 _ _ _ _
        clear eK107
        refine z_jn (fun K69 eK69 => ?_)
        have hK69 : ∀ (s36 : ZS), Zj X G 69 [(0, (2, u18)), (1, (0, u19)), (2, (0, u20)), (3, (0, x21)), (4, (0, x22)), (5, (0, x23))] [] s36 (K69 s36) := by
          intro s36
          rw [eK69]
          refine z_iload (pc := 69) hX 5 dX4_wordAt_69 rfl ?_
          refine z_iload (pc := 71) hX 4 dX4_wordAt_71 rfl ?_
          refine z_isub (pc := 73) hX dX4_wordAt_73 ?_
          refine z_iload_n (pc := 74) hX 2 dX4_wordAt_74 rfl rfl ?_
          refine z_iload_n (pc := 75) hX 1 dX4_wordAt_75 rfl rfl ?_
          refine z_isub (pc := 76) hX dX4_wordAt_76 ?_
          refine z_jn (fun K98 eK98 => ?_)
          have hK98 : ∀ (s42 : ZS), Zj X G 98 [(0, (2, u18)), (1, (0, u19)), (2, (0, u20)), (3, (0, x21)), (5, (0, x23))] [] s42 (K98 s42) := by
            intro s42
            rw [eK98]
            refine z_iinc (lv' := [(3, (0, (wrap (x21 + 1)))), (0, (2, u18)), (1, (0, u19)), (2, (0, u20)), (5, (0, x23))]) (pc := 98) hX 3 dX4_wordAt_98 rfl (zlt hxn rfl) rfl ?_
            refine z_iload (pc := 101) hX 4 dX4_wordAt_101 rfl ?_
            refine z_iconst (pc := 103) hX dX4_wordAt_103 ?_
            refine z_iadd (pc := 104) hX dX4_wordAt_104 ?_
            refine z_istore (lv' := [(4, (0, (wrap (x23 + 1)))), (3, (0, (wrap (x21 + 1)))), (0, (2, u18)), (1, (0, u19)), (2, (0, u20)), (5, (0, x23))]) (pc := 105) hX dX4_wordAt_105 (zlt hxn rfl) rfl ?_
            refine z_pick (lv' := [(0, (2, u18)), (1, (0, u19)), (2, (0, u20)), (3, (0, (wrap (x21 + 1)))), (4, (0, (wrap (x23 + 1)))), (5, (0, x23))]) [2, 3, 4, 1, 0, 5] rfl ?_
            exact hK107 _ _ _
          clear eK98
          refine z_icmp_ne (pc := 77) hX 98 dX4_wordAt_77 (by decide) (fun h37 => ?_) (fun h37 => ?_)
          · refine z_pick (lv' := [(0, (2, u18)), (1, (0, u19)), (2, (0, u20)), (3, (0, x21)), (5, (0, x23))]) [0, 1, 2, 3, 5] rfl ?_
            exact hK98 _
          · refine z_aload_n (pc := 80) hX 0 dX4_wordAt_80 rfl rfl ?_
            refine z_iload (pc := 81) hX 4 dX4_wordAt_81 rfl ?_
            refine z_iload (pc := 83) hX 5 dX4_wordAt_83 rfl ?_
            refine z_iload_n (pc := 85) hX 1 dX4_wordAt_85 rfl rfl ?_
            refine z_callV (n := 3) (st := []) (pc := 86) hX zc4 rfl (fun _ => (mX4_isWord _ hE _ _ _ _ _ _)) ⟨wd439, wd64, wd442, ⟨by decide, by decide, by decide⟩, by decide⟩ rfl wd441 wd3 rfl rfl (by decide) (Nat.le_of_ble_eq_true rfl) dX4_wordAt_86 (fun v38 s39 r40 => ?_)
            show Zj X G 89 [(0, (2, u18)), (1, (0, u19)), (2, (0, u20)), (3, (0, x21)), (4, (0, x22)), (5, (0, x23))] [(0, v38)] _ _
            refine z_if_eq (pc := 89) hX 98 dX4_wordAt_89 (by decide) (fun h41 => ?_) (fun h41 => ?_)
            · refine z_pick (lv' := [(0, (2, u18)), (1, (0, u19)), (2, (0, u20)), (3, (0, x21)), (5, (0, x23))]) [0, 1, 2, 3, 5] rfl ?_
              exact hK98 _
            · refine z_sipush (pc := 92) hX dX4_wordAt_92 ?_
              refine z_iload_n (pc := 95) hX 3 dX4_wordAt_95 rfl rfl ?_
              refine z_iadd (pc := 96) hX dX4_wordAt_96 ?_
              exact z_iret (pc := 97) hX hR hk dX4_wordAt_97
        clear eK69
        refine z_icmp_eq (pc := 54) hX 69 dX4_wordAt_54 (by decide) (fun h31 => ?_) (fun h31 => ?_)
        · exact hK69 _
        · refine z_ldcS (pc := 57) hX 0 (fun g => (zNe (hX := hX g)).2.2.2.2.1.1) dX4_wordAt_57 ?_
          refine z_iload (pc := 59) hX 5 dX4_wordAt_59 rfl ?_
          refine z_callV3 (n := 1) (st := []) (pc := 61) hX (by decide) rfl (mJ0_charAt_5068e _ hE _ _ _ _ (by decide)) ⟨wd401, wd68, wd404, ⟨by decide, by decide, by decide⟩, by decide⟩ rfl wd402 wd403 rfl rfl (by decide) (Nat.le_of_ble_eq_true rfl) dX4_wordAt_61 (fun v32 s33 r34 => ?_)
          show Zj X G 64 [(0, (2, u18)), (1, (0, u19)), (2, (0, u20)), (3, (0, x21)), (4, (0, x22)), (5, (0, x23))] [(0, v32)] _ _
          refine z_bipush (pc := 64) hX dX4_wordAt_64 ?_
          refine z_icmp_ne (pc := 66) hX 107 dX4_wordAt_66 (by decide) (fun h35 => ?_) (fun h35 => ?_)
          · exact hK107 _ _ _
          · exact hK69 _
  refine z_pick (lv' := [(0, (2, a0)), (1, (0, a1)), (2, (0, x16)), (3, (0, 0)), (4, (0, 0)), (5, (0, 0))]) [3, 4, 5, 2, 1, 0] rfl ?_
  refine hl37 _ _ _ 1000 _ _ _ _
