theorem dX11_taken_0 : decode cX11_taken 0 = .ok (.iload_n 2, 1) := by decide +kernel
theorem dX11_taken_1 : decode cX11_taken 1 = .ok (.bipush 6, 2) := by decide +kernel
theorem dX11_taken_3 : decode cX11_taken 3 = .ok (.invokestatic 102, 3) := by decide +kernel
theorem dX11_taken_6 : decode cX11_taken 6 = .ok (.ifCond .ne 6, 3) := by decide +kernel
theorem dX11_taken_9 : decode cX11_taken 9 = .ok (.bipush (-2), 2) := by decide +kernel
theorem dX11_taken_11 : decode cX11_taken 11 = .ok (.ireturn, 1) := by decide +kernel
theorem dX11_taken_12 : decode cX11_taken 12 = .ok (.iload_n 1, 1) := by decide +kernel
theorem dX11_taken_13 : decode cX11_taken 13 = .ok (.ifCond .lt 9, 3) := by decide +kernel
theorem dX11_taken_16 : decode cX11_taken 16 = .ok (.iload_n 1, 1) := by decide +kernel
theorem dX11_taken_17 : decode cX11_taken 17 = .ok (.bipush 24, 2) := by decide +kernel
theorem dX11_taken_19 : decode cX11_taken 19 = .ok (.if_icmp .lt 6, 3) := by decide +kernel
theorem dX11_taken_22 : decode cX11_taken 22 = .ok (.bipush (-12), 2) := by decide +kernel
theorem dX11_taken_24 : decode cX11_taken 24 = .ok (.ireturn, 1) := by decide +kernel
theorem dX11_taken_25 : decode cX11_taken 25 = .ok (.iload_n 1, 1) := by decide +kernel
theorem dX11_taken_26 : decode cX11_taken 26 = .ok (.bipush 16, 2) := by decide +kernel
theorem dX11_taken_28 : decode cX11_taken 28 = .ok (.if_icmp .ge 38, 3) := by decide +kernel
theorem dX11_taken_31 : decode cX11_taken 31 = .ok (.iload_n 1, 1) := by decide +kernel
theorem dX11_taken_32 : decode cX11_taken 32 = .ok (.aload_n 0, 1) := by decide +kernel
theorem dX11_taken_33 : decode cX11_taken 33 = .ok (.getfield 20, 3) := by decide +kernel
theorem dX11_taken_36 : decode cX11_taken 36 = .ok (.getfield 128, 3) := by decide +kernel
theorem dX11_taken_39 : decode cX11_taken 39 = .ok (.if_icmp .lt 6, 3) := by decide +kernel
theorem dX11_taken_42 : decode cX11_taken 42 = .ok (.bipush (-11), 2) := by decide +kernel
theorem dX11_taken_44 : decode cX11_taken 44 = .ok (.ireturn, 1) := by decide +kernel
theorem dX11_taken_45 : decode cX11_taken 45 = .ok (.iload_n 2, 1) := by decide +kernel
theorem dX11_taken_46 : decode cX11_taken 46 = .ok (.bipush 6, 2) := by decide +kernel
theorem dX11_taken_48 : decode cX11_taken 48 = .ok (.if_icmp .ne 15, 3) := by decide +kernel
theorem dX11_taken_51 : decode cX11_taken 51 = .ok (.aload_n 0, 1) := by decide +kernel
theorem dX11_taken_52 : decode cX11_taken 52 = .ok (.getfield 20, 3) := by decide +kernel
theorem dX11_taken_55 : decode cX11_taken 55 = .ok (.getfield 131, 3) := by decide +kernel
theorem dX11_taken_58 : decode cX11_taken 58 = .ok (.iload_n 1, 1) := by decide +kernel
theorem dX11_taken_59 : decode cX11_taken 59 = .ok (.iaload, 1) := by decide +kernel
theorem dX11_taken_60 : decode cX11_taken 60 = .ok (.goto 5, 3) := by decide +kernel
theorem dX11_taken_63 : decode cX11_taken 63 = .ok (.bipush (-13), 2) := by decide +kernel
theorem dX11_taken_65 : decode cX11_taken 65 = .ok (.ireturn, 1) := by decide +kernel
theorem dX11_taken_66 : decode cX11_taken 66 = .ok (.aload_n 0, 1) := by decide +kernel
theorem dX11_taken_67 : decode cX11_taken 67 = .ok (.iload_n 1, 1) := by decide +kernel
theorem dX11_taken_68 : decode cX11_taken 68 = .ok (.bipush 16, 2) := by decide +kernel
theorem dX11_taken_70 : decode cX11_taken 70 = .ok (.isub, 1) := by decide +kernel
theorem dX11_taken_71 : decode cX11_taken 71 = .ok (.invokevirtual 177, 3) := by decide +kernel
theorem dX11_taken_74 : decode cX11_taken 74 = .ok (.astore_n 3, 1) := by decide +kernel
theorem dX11_taken_75 : decode cX11_taken 75 = .ok (.aload_n 3, 1) := by decide +kernel
theorem dX11_taken_76 : decode cX11_taken 76 = .ok (.ifnonnull 6, 3) := by decide +kernel
theorem dX11_taken_79 : decode cX11_taken 79 = .ok (.bipush (-11), 2) := by decide +kernel
theorem dX11_taken_81 : decode cX11_taken 81 = .ok (.ireturn, 1) := by decide +kernel
theorem dX11_taken_82 : decode cX11_taken 82 = .ok (.aload_n 3, 1) := by decide +kernel
theorem dX11_taken_83 : decode cX11_taken 83 = .ok (.iload_n 2, 1) := by decide +kernel
theorem dX11_taken_84 : decode cX11_taken 84 = .ok (.invokestatic 288, 3) := by decide +kernel
theorem dX11_taken_87 : decode cX11_taken 87 = .ok (.ifCond .eq 10, 3) := by decide +kernel
theorem dX11_taken_90 : decode cX11_taken 90 = .ok (.iload_n 1, 1) := by decide +kernel
theorem dX11_taken_91 : decode cX11_taken 91 = .ok (.bipush 16, 2) := by decide +kernel
theorem dX11_taken_93 : decode cX11_taken 93 = .ok (.isub, 1) := by decide +kernel
theorem dX11_taken_94 : decode cX11_taken 94 = .ok (.goto 5, 3) := by decide +kernel
theorem dX11_taken_97 : decode cX11_taken 97 = .ok (.bipush (-13), 2) := by decide +kernel
theorem dX11_taken_99 : decode cX11_taken 99 = .ok (.ireturn, 1) := by decide +kernel
def fX11_taken (s0 : ZS) (a0 : Int) (a1 : Int) (a2 : Int) : Option (Int × ZS) := zb (fX11_within s0 a2 6) (fun v1 s2 => if v1 = 0 then (some ((-2), s2)) else (if a1 < 0 then (some ((-12), s2)) else (if a1 < 24 then (if 16 ≤ a1 then (zb (zv s2 11 a0 (fX11_wayAt s2 a0 (wrap (a1 - 16)))) (fun v8 s9 => if v8 < 0 then (some ((-11), s9)) else (zb (fX11_isOfKind s9 v8 a2) (fun v12 s13 => if v12 = 0 then (some ((-13), s13)) else (some ((wrap (a1 - 16)), s13)))))) else ((zg s2 11 a0 1).bind (fun v16 => (zg s2 5 v16 7).bind (fun v17 => if a1 < v17 then (if a2 = 6 then ((zg s2 11 a0 1).bind (fun v20 => (zg s2 5 v20 6).bind (fun v21 => (zal s2 100 v21 a1).bind (fun v22 => some (v22, s2))))) else (some ((-13), s2))) else (some ((-11), s2)))))) else (some ((-12), s2)))))
set_option maxHeartbeats 4000000 in
set_option maxRecDepth 100000 in
theorem mX11_taken (E : ZE) (hE : zOkE E) (l : Launch) (s0 : ZS) (a0 : Int) (a1 : Int) (a2 : Int) : Ct E l yX11_taken cX11_taken 4 (some .int) 4 [(2, a0), (0, a1), (0, a2)] 1 s0 (fX11_taken s0 a0 a1 a2) := by
  refine Ct.of (by decide) hE (Nat.le_of_ble_eq_true rfl) ?_
  intro X G hX hR hN hXE hXl hxn hk _
  subst hXE
  subst hXl
  have hX : G → ZOk X cX11_taken RX11 4 := hX
  clear hN
  show Zj X G 0 [(0, (2, a0)), (1, (0, a1)), (2, (0, a2))] [] s0 _
  unfold fX11_taken
  refine z_iload_n (pc := 0) hX 2 dX11_taken_0 rfl rfl ?_
  refine z_bipush (pc := 1) hX dX11_taken_1 ?_
  refine z_callS (n := 2) (st := []) (pc := 3) hX (mX11_within _ hE _ _ _ _) ⟨wd329, wd61, wd331, ⟨by decide, by decide, by decide⟩, by decide⟩ wd330 rfl rfl (by decide) (Nat.le_of_ble_eq_true rfl) dX11_taken_3 (fun v1 s2 r3 => ?_)
  show Zj X G 6 [(0, (2, a0)), (1, (0, a1)), (2, (0, a2))] [(0, v1)] _ _
  refine z_if_ne (pc := 6) hX 12 dX11_taken_6 (by decide) (fun h4 => ?_) (fun h4 => ?_)
  · refine z_iload_n (pc := 12) hX 1 dX11_taken_12 rfl rfl ?_
    refine z_if_lt (pc := 13) hX 22 dX11_taken_13 (by decide) (fun h5 => ?_) (fun h5 => ?_)
    · refine z_bipush (pc := 22) hX dX11_taken_22 ?_
      exact z_iret (pc := 24) hX hR hk dX11_taken_24
    · refine z_iload_n (pc := 16) hX 1 dX11_taken_16 rfl rfl ?_
      refine z_bipush (pc := 17) hX dX11_taken_17 ?_
      refine z_icmp_lt (pc := 19) hX 25 dX11_taken_19 (by decide) (fun h6 => ?_) (fun h6 => ?_)
      · refine z_iload_n (pc := 25) hX 1 dX11_taken_25 rfl rfl ?_
        refine z_bipush (pc := 26) hX dX11_taken_26 ?_
        refine z_icmp_ge (pc := 28) hX 66 dX11_taken_28 (by decide) (fun h7 => ?_) (fun h7 => ?_)
        · refine z_aload_n (pc := 66) hX 0 dX11_taken_66 rfl rfl ?_
          refine z_iload_n (pc := 67) hX 1 dX11_taken_67 rfl rfl ?_
          refine z_bipush (pc := 68) hX dX11_taken_68 ?_
          refine z_isub (pc := 70) hX dX11_taken_70 ?_
          refine z_callV (n := 1) (st := []) (pc := 71) hX zc11 rfl (fun _ => (mX11_wayAt _ hE _ _ _ _)) ⟨wd681, wd61, wd684, ⟨by decide, by decide, by decide⟩, by decide⟩ rfl wd683 wd18 rfl rfl (by decide) (Nat.le_of_ble_eq_true rfl) dX11_taken_71 (fun v8 s9 r10 => ?_)
          show Zj X G 74 [(0, (2, a0)), (1, (0, a1)), (2, (0, a2))] [(2, v8)] _ _
          refine z_astore_n (lv' := [(3, (2, v8)), (0, (2, a0)), (1, (0, a1)), (2, (0, a2))]) (pc := 74) hX dX11_taken_74 rfl (zlt hxn rfl) rfl ?_
          refine z_aload_n (pc := 75) hX 0 dX11_taken_75 rfl rfl ?_
          refine z_ifnonnull (pc := 76) hX 82 dX11_taken_76 (by decide) (fun h11 => ?_) (fun h11 => ?_)
          · refine z_aload_n (pc := 82) hX 0 dX11_taken_82 rfl rfl ?_
            refine z_iload_n (pc := 83) hX 3 dX11_taken_83 rfl rfl ?_
            refine z_callS (n := 2) (st := []) (pc := 84) hX (mX11_isOfKind _ hE _ _ _ _) ⟨wd991, wd61, wd993, ⟨by decide, by decide, by decide⟩, by decide⟩ wd992 rfl rfl (by decide) (Nat.le_of_ble_eq_true rfl) dX11_taken_84 (fun v12 s13 r14 => ?_)
            show Zj X G 87 [(3, (2, v8)), (0, (2, a0)), (1, (0, a1)), (2, (0, a2))] [(0, v12)] _ _
            refine z_if_eq (pc := 87) hX 97 dX11_taken_87 (by decide) (fun h15 => ?_) (fun h15 => ?_)
            · refine z_bipush (pc := 97) hX dX11_taken_97 ?_
              exact z_iret (pc := 99) hX hR hk dX11_taken_99
            · refine z_iload_n (pc := 90) hX 2 dX11_taken_90 rfl rfl ?_
              refine z_bipush (pc := 91) hX dX11_taken_91 ?_
              refine z_isub (pc := 93) hX dX11_taken_93 ?_
              refine z_goto (pc := 94) hX 99 dX11_taken_94 (by decide) ?_
              exact z_iret (pc := 99) hX hR hk dX11_taken_99
          · refine z_bipush (pc := 79) hX dX11_taken_79 ?_
            exact z_iret (pc := 81) hX hR hk dX11_taken_81
        · refine z_iload_n (pc := 31) hX 1 dX11_taken_31 rfl rfl ?_
          refine z_aload_n (pc := 32) hX 0 dX11_taken_32 rfl rfl ?_
          refine z_get (pc := 33) hX zc11 1 (by decide) wd271 rfl rfl dX11_taken_33 (fun v16 => ?_)
          refine z_get (pc := 36) hX zc5 7 (by decide) wd126 rfl rfl dX11_taken_36 (fun v17 => ?_)
          refine z_icmp_lt (pc := 39) hX 45 dX11_taken_39 (by decide) (fun h18 => ?_) (fun h18 => ?_)
          · refine z_iload_n (pc := 45) hX 2 dX11_taken_45 rfl rfl ?_
            refine z_bipush (pc := 46) hX dX11_taken_46 ?_
            refine z_icmp_ne (pc := 48) hX 63 dX11_taken_48 (by decide) (fun h19 => ?_) (fun h19 => ?_)
            · refine z_bipush (pc := 63) hX dX11_taken_63 ?_
              exact z_iret (pc := 65) hX hR hk dX11_taken_65
            · refine z_aload_n (pc := 51) hX 0 dX11_taken_51 rfl rfl ?_
              refine z_get (pc := 52) hX zc11 1 (by decide) wd271 rfl rfl dX11_taken_52 (fun v20 => ?_)
              refine z_get (pc := 55) hX zc5 6 (by decide) wd124 rfl rfl dX11_taken_55 (fun v21 => ?_)
              refine z_iload_n (pc := 58) hX 1 dX11_taken_58 rfl rfl ?_
              refine z_iald (pc := 59) hX dX11_taken_59 (fun v22 => ?_)
              refine z_goto (pc := 60) hX 65 dX11_taken_60 (by decide) ?_
              exact z_iret (pc := 65) hX hR hk dX11_taken_65
          · refine z_bipush (pc := 42) hX dX11_taken_42 ?_
            exact z_iret (pc := 44) hX hR hk dX11_taken_44
      · refine z_bipush (pc := 22) hX dX11_taken_22 ?_
        exact z_iret (pc := 24) hX hR hk dX11_taken_24
  · refine z_bipush (pc := 9) hX dX11_taken_9 ?_
    exact z_iret (pc := 11) hX hR hk dX11_taken_11

theorem dX12_isUnder_0 : decode cX12_isUnder 0 = .ok (.iload_n 1, 1) := by decide +kernel
theorem dX12_isUnder_1 : decode cX12_isUnder 1 = .ok (.ifCond .eq 28, 3) := by decide +kernel
theorem dX12_isUnder_4 : decode cX12_isUnder 4 = .ok (.iload_n 0, 1) := by decide +kernel
theorem dX12_isUnder_5 : decode cX12_isUnder 5 = .ok (.iload_n 1, 1) := by decide +kernel
theorem dX12_isUnder_6 : decode cX12_isUnder 6 = .ok (.if_icmp .eq 23, 3) := by decide +kernel
theorem dX12_isUnder_9 : decode cX12_isUnder 9 = .ok (.iload_n 1, 1) := by decide +kernel
theorem dX12_isUnder_10 : decode cX12_isUnder 10 = .ok (.iconst 1, 1) := by decide +kernel
theorem dX12_isUnder_11 : decode cX12_isUnder 11 = .ok (.if_icmp .ne 8, 3) := by decide +kernel
theorem dX12_isUnder_14 : decode cX12_isUnder 14 = .ok (.iload_n 0, 1) := by decide +kernel
theorem dX12_isUnder_15 : decode cX12_isUnder 15 = .ok (.iconst 5, 1) := by decide +kernel
theorem dX12_isUnder_16 : decode cX12_isUnder 16 = .ok (.if_icmp .eq 13, 3) := by decide +kernel
theorem dX12_isUnder_19 : decode cX12_isUnder 19 = .ok (.iload_n 1, 1) := by decide +kernel
theorem dX12_isUnder_20 : decode cX12_isUnder 20 = .ok (.iconst 2, 1) := by decide +kernel
theorem dX12_isUnder_21 : decode cX12_isUnder 21 = .ok (.if_icmp .ne 12, 3) := by decide +kernel
theorem dX12_isUnder_24 : decode cX12_isUnder 24 = .ok (.iload_n 0, 1) := by decide +kernel
theorem dX12_isUnder_25 : decode cX12_isUnder 25 = .ok (.iconst 3, 1) := by decide +kernel
theorem dX12_isUnder_26 : decode cX12_isUnder 26 = .ok (.if_icmp .ne 7, 3) := by decide +kernel
theorem dX12_isUnder_29 : decode cX12_isUnder 29 = .ok (.iconst 1, 1) := by decide +kernel
theorem dX12_isUnder_30 : decode cX12_isUnder 30 = .ok (.goto 4, 3) := by decide +kernel
theorem dX12_isUnder_33 : decode cX12_isUnder 33 = .ok (.iconst 0, 1) := by decide +kernel
theorem dX12_isUnder_34 : decode cX12_isUnder 34 = .ok (.ireturn, 1) := by decide +kernel
def fX12_isUnder (s0 : ZS) (a0 : Int) (a1 : Int) : Option (Int × ZS) := zjn (fun (K29 : ZS → Option (Int × ZS)) => if a1 = 0 then (K29 s0) else (if a0 = a1 then (K29 s0) else (zjn (fun (K19 : ZS → Option (Int × ZS)) => if a1 = 1 then (if a0 = 5 then (K29 s0) else (K19 s0)) else (K19 s0)) (fun (s5 : ZS) => if a1 = 2 then (if a0 = 3 then (K29 s5) else (some (0, s5))) else (some (0, s5)))))) (fun (s8 : ZS) => some (1, s8))
set_option maxHeartbeats 4000000 in
set_option maxRecDepth 100000 in
theorem mX12_isUnder (E : ZE) (hE : zOkE E) (l : Launch) (s0 : ZS) (a0 : Int) (a1 : Int) : Ct E l yX12_isUnder cX12_isUnder 2 (some .boolean) 2 [(0, a0), (0, a1)] 4 s0 (fX12_isUnder s0 a0 a1) := by
  refine Ct.of (by decide) hE (Nat.le_of_ble_eq_true rfl) ?_
  intro X G hX hR hN hXE hXl hxn hk _
  subst hXE
  subst hXl
  have hX : G → ZOk X cX12_isUnder RX12 2 := hX
  clear hN
  show Zj X G 0 [(0, (0, a0)), (1, (0, a1))] [] s0 _
  unfold fX12_isUnder
  refine z_iload_n (pc := 0) hX 1 dX12_isUnder_0 rfl rfl ?_
  refine z_jn (fun K29 eK29 => ?_)
  have hK29 : ∀ (s8 : ZS), Zj X G 29 [] [] s8 (K29 s8) := by
    intro s8
    rw [eK29]
    refine z_iconst (pc := 29) hX dX12_isUnder_29 ?_
    refine z_goto (pc := 30) hX 34 dX12_isUnder_30 (by decide) ?_
    exact z_zret (pc := 34) hX hR hk dX12_isUnder_34 (Or.inr rfl)
  clear eK29
  refine z_if_eq (pc := 1) hX 29 dX12_isUnder_1 (by decide) (fun h1 => ?_) (fun h1 => ?_)
  · refine z_pick (lv' := []) [] rfl ?_
    exact hK29 _
  · refine z_iload_n (pc := 4) hX 0 dX12_isUnder_4 rfl rfl ?_
    refine z_iload_n (pc := 5) hX 1 dX12_isUnder_5 rfl rfl ?_
    refine z_icmp_eq (pc := 6) hX 29 dX12_isUnder_6 (by decide) (fun h2 => ?_) (fun h2 => ?_)
    · refine z_pick (lv' := []) [] rfl ?_
      exact hK29 _
    · refine z_iload_n (pc := 9) hX 1 dX12_isUnder_9 rfl rfl ?_
      refine z_iconst (pc := 10) hX dX12_isUnder_10 ?_
      refine z_jn (fun K19 eK19 => ?_)
      have hK19 : ∀ (s5 : ZS), Zj X G 19 [(0, (0, a0)), (1, (0, a1))] [] s5 (K19 s5) := by
        intro s5
        rw [eK19]
        refine z_iload_n (pc := 19) hX 1 dX12_isUnder_19 rfl rfl ?_
        refine z_iconst (pc := 20) hX dX12_isUnder_20 ?_
        refine z_icmp_ne (pc := 21) hX 33 dX12_isUnder_21 (by decide) (fun h6 => ?_) (fun h6 => ?_)
        · refine z_iconst (pc := 33) hX dX12_isUnder_33 ?_
          exact z_zret (pc := 34) hX hR hk dX12_isUnder_34 (Or.inl rfl)
        · refine z_iload_n (pc := 24) hX 0 dX12_isUnder_24 rfl rfl ?_
          refine z_iconst (pc := 25) hX dX12_isUnder_25 ?_
          refine z_icmp_ne (pc := 26) hX 33 dX12_isUnder_26 (by decide) (fun h7 => ?_) (fun h7 => ?_)
          · refine z_iconst (pc := 33) hX dX12_isUnder_33 ?_
            exact z_zret (pc := 34) hX hR hk dX12_isUnder_34 (Or.inl rfl)
          · refine z_pick (lv' := []) [] rfl ?_
            exact hK29 _
      clear eK19
      refine z_icmp_ne (pc := 11) hX 19 dX12_isUnder_11 (by decide) (fun h3 => ?_) (fun h3 => ?_)
      · exact hK19 _
      · refine z_iload_n (pc := 14) hX 0 dX12_isUnder_14 rfl rfl ?_
        refine z_iconst (pc := 15) hX dX12_isUnder_15 ?_
        refine z_icmp_eq (pc := 16) hX 29 dX12_isUnder_16 (by decide) (fun h4 => ?_) (fun h4 => ?_)
        · refine z_pick (lv' := []) [] rfl ?_
          exact hK29 _
        · exact hK19 _

theorem dX12_taken_0 : decode cX12_taken 0 = .ok (.iload_n 2, 1) := by decide +kernel
theorem dX12_taken_1 : decode cX12_taken 1 = .ok (.iconst 0, 1) := by decide +kernel
theorem dX12_taken_2 : decode cX12_taken 2 = .ok (.bipush 6, 2) := by decide +kernel
theorem dX12_taken_4 : decode cX12_taken 4 = .ok (.invokestatic 127, 3) := by decide +kernel
theorem dX12_taken_7 : decode cX12_taken 7 = .ok (.ifCond .ne 6, 3) := by decide +kernel
theorem dX12_taken_10 : decode cX12_taken 10 = .ok (.bipush (-2), 2) := by decide +kernel
theorem dX12_taken_12 : decode cX12_taken 12 = .ok (.ireturn, 1) := by decide +kernel
theorem dX12_taken_13 : decode cX12_taken 13 = .ok (.iload_n 1, 1) := by decide +kernel
theorem dX12_taken_14 : decode cX12_taken 14 = .ok (.iconst 0, 1) := by decide +kernel
theorem dX12_taken_15 : decode cX12_taken 15 = .ok (.bipush 23, 2) := by decide +kernel
theorem dX12_taken_17 : decode cX12_taken 17 = .ok (.invokestatic 127, 3) := by decide +kernel
theorem dX12_taken_20 : decode cX12_taken 20 = .ok (.ifCond .ne 6, 3) := by decide +kernel
theorem dX12_taken_23 : decode cX12_taken 23 = .ok (.bipush (-12), 2) := by decide +kernel
theorem dX12_taken_25 : decode cX12_taken 25 = .ok (.ireturn, 1) := by decide +kernel
theorem dX12_taken_26 : decode cX12_taken 26 = .ok (.iload_n 1, 1) := by decide +kernel
theorem dX12_taken_27 : decode cX12_taken 27 = .ok (.bipush 16, 2) := by decide +kernel
theorem dX12_taken_29 : decode cX12_taken 29 = .ok (.if_icmp .ge 34, 3) := by decide +kernel
theorem dX12_taken_32 : decode cX12_taken 32 = .ok (.iload_n 1, 1) := by decide +kernel
theorem dX12_taken_33 : decode cX12_taken 33 = .ok (.aload_n 0, 1) := by decide +kernel
theorem dX12_taken_34 : decode cX12_taken 34 = .ok (.getfield 142, 3) := by decide +kernel
theorem dX12_taken_37 : decode cX12_taken 37 = .ok (.if_icmp .lt 8, 3) := by decide +kernel
theorem dX12_taken_40 : decode cX12_taken 40 = .ok (.bipush (-11), 2) := by decide +kernel
theorem dX12_taken_42 : decode cX12_taken 42 = .ok (.goto 20, 3) := by decide +kernel
theorem dX12_taken_45 : decode cX12_taken 45 = .ok (.iload_n 2, 1) := by decide +kernel
theorem dX12_taken_46 : decode cX12_taken 46 = .ok (.bipush 6, 2) := by decide +kernel
theorem dX12_taken_48 : decode cX12_taken 48 = .ok (.if_icmp .ne 12, 3) := by decide +kernel
theorem dX12_taken_51 : decode cX12_taken 51 = .ok (.aload_n 0, 1) := by decide +kernel
theorem dX12_taken_52 : decode cX12_taken 52 = .ok (.getfield 25, 3) := by decide +kernel
theorem dX12_taken_55 : decode cX12_taken 55 = .ok (.iload_n 1, 1) := by decide +kernel
theorem dX12_taken_56 : decode cX12_taken 56 = .ok (.iaload, 1) := by decide +kernel
theorem dX12_taken_57 : decode cX12_taken 57 = .ok (.goto 5, 3) := by decide +kernel
theorem dX12_taken_60 : decode cX12_taken 60 = .ok (.bipush (-13), 2) := by decide +kernel
theorem dX12_taken_62 : decode cX12_taken 62 = .ok (.ireturn, 1) := by decide +kernel
theorem dX12_taken_63 : decode cX12_taken 63 = .ok (.iload_n 1, 1) := by decide +kernel
theorem dX12_taken_64 : decode cX12_taken 64 = .ok (.bipush 16, 2) := by decide +kernel
theorem dX12_taken_66 : decode cX12_taken 66 = .ok (.isub, 1) := by decide +kernel
theorem dX12_taken_67 : decode cX12_taken 67 = .ok (.aload_n 0, 1) := by decide +kernel
theorem dX12_taken_68 : decode cX12_taken 68 = .ok (.getfield 214, 3) := by decide +kernel
theorem dX12_taken_71 : decode cX12_taken 71 = .ok (.if_icmp .lt 8, 3) := by decide +kernel
theorem dX12_taken_74 : decode cX12_taken 74 = .ok (.bipush (-11), 2) := by decide +kernel
theorem dX12_taken_76 : decode cX12_taken 76 = .ok (.goto 34, 3) := by decide +kernel
theorem dX12_taken_79 : decode cX12_taken 79 = .ok (.iload_n 2, 1) := by decide +kernel
theorem dX12_taken_80 : decode cX12_taken 80 = .ok (.bipush 6, 2) := by decide +kernel
theorem dX12_taken_82 : decode cX12_taken 82 = .ok (.if_icmp .ge 26, 3) := by decide +kernel
theorem dX12_taken_85 : decode cX12_taken 85 = .ok (.aload_n 0, 1) := by decide +kernel
theorem dX12_taken_86 : decode cX12_taken 86 = .ok (.getfield 28, 3) := by decide +kernel
theorem dX12_taken_89 : decode cX12_taken 89 = .ok (.iload_n 1, 1) := by decide +kernel
theorem dX12_taken_90 : decode cX12_taken 90 = .ok (.bipush 16, 2) := by decide +kernel
theorem dX12_taken_92 : decode cX12_taken 92 = .ok (.isub, 1) := by decide +kernel
theorem dX12_taken_93 : decode cX12_taken 93 = .ok (.iaload, 1) := by decide +kernel
theorem dX12_taken_94 : decode cX12_taken 94 = .ok (.iload_n 2, 1) := by decide +kernel
theorem dX12_taken_95 : decode cX12_taken 95 = .ok (.invokestatic 316, 3) := by decide +kernel
theorem dX12_taken_98 : decode cX12_taken 98 = .ok (.ifCond .eq 10, 3) := by decide +kernel
theorem dX12_taken_101 : decode cX12_taken 101 = .ok (.iload_n 1, 1) := by decide +kernel
theorem dX12_taken_102 : decode cX12_taken 102 = .ok (.bipush 16, 2) := by decide +kernel
theorem dX12_taken_104 : decode cX12_taken 104 = .ok (.isub, 1) := by decide +kernel
theorem dX12_taken_105 : decode cX12_taken 105 = .ok (.goto 5, 3) := by decide +kernel
theorem dX12_taken_108 : decode cX12_taken 108 = .ok (.bipush (-13), 2) := by decide +kernel
theorem dX12_taken_110 : decode cX12_taken 110 = .ok (.ireturn, 1) := by decide +kernel
def fX12_taken (s0 : ZS) (a0 : Int) (a1 : Int) (a2 : Int) : Option (Int × ZS) := zb (fX12_in s0 a2 0 6) (fun v1 s2 => if v1 = 0 then (some ((-2), s2)) else (zb (fX12_in s2 a1 0 23) (fun v5 s6 => if v5 = 0 then (some ((-12), s6)) else (if 16 ≤ a1 then ((zg s6 12 a0 8).bind (fun v10 => if (wrap (a1 - 16)) < v10 then (if 6 ≤ a2 then (some ((-13), s6)) else ((zg s6 12 a0 9).bind (fun v13 => (zal s6 100 v13 (wrap (a1 - 16))).bind (fun v14 => zb (fX12_isUnder s6 v14 a2) (fun v15 s16 => if v15 = 0 then (some ((-13), s16)) else (some ((wrap (a1 - 16)), s16))))))) else (some ((-11), s6)))) else ((zg s6 12 a0 6).bind (fun v19 => if a1 < v19 then (if a2 = 6 then ((zg s6 12 a0 7).bind (fun v22 => (zal s6 100 v22 a1).bind (fun v23 => some (v23, s6)))) else (some ((-13), s6))) else (some ((-11), s6))))))))
set_option maxHeartbeats 4000000 in
set_option maxRecDepth 100000 in
theorem mX12_taken (E : ZE) (hE : zOkE E) (l : Launch) (s0 : ZS) (a0 : Int) (a1 : Int) (a2 : Int) : Ct E l yX12_taken cX12_taken 3 (some .int) 4 [(2, a0), (0, a1), (0, a2)] 1 s0 (fX12_taken s0 a0 a1 a2) := by
  refine Ct.of (by decide) hE (Nat.le_of_ble_eq_true rfl) ?_
  intro X G hX hR hN hXE hXl hxn hk _
  subst hXE
  subst hXl
  have hX : G → ZOk X cX12_taken RX12 4 := hX
  clear hN
  show Zj X G 0 [(0, (2, a0)), (1, (0, a1)), (2, (0, a2))] [] s0 _
  unfold fX12_taken
  refine z_iload_n (pc := 0) hX 2 dX12_taken_0 rfl rfl ?_
  refine z_iconst (pc := 1) hX dX12_taken_1 ?_
  refine z_bipush (pc := 2) hX dX12_taken_2 ?_
  refine z_callS (n := 3) (st := []) (pc := 4) hX (mX12_in _ hE _ _ _ _ _) ⟨wd1173, wd67, wd1175, ⟨by decide, by decide, by decide⟩, by decide⟩ wd1174 rfl rfl (by decide) (Nat.le_of_ble_eq_true rfl) dX12_taken_4 (fun v1 s2 r3 => ?_)
  show Zj X G 7 [(0, (2, a0)), (1, (0, a1)), (2, (0, a2))] [(0, v1)] _ _
  refine z_if_ne (pc := 7) hX 13 dX12_taken_7 (by decide) (fun h4 => ?_) (fun h4 => ?_)
  · refine z_iload_n (pc := 13) hX 1 dX12_taken_13 rfl rfl ?_
    refine z_iconst (pc := 14) hX dX12_taken_14 ?_
    refine z_bipush (pc := 15) hX dX12_taken_15 ?_
    refine z_callS (n := 3) (st := []) (pc := 17) hX (mX12_in _ hE _ _ _ _ _) ⟨wd1173, wd67, wd1175, ⟨by decide, by decide, by decide⟩, by decide⟩ wd1174 rfl rfl (by decide) (Nat.le_of_ble_eq_true rfl) dX12_taken_17 (fun v5 s6 r7 => ?_)
    show Zj X G 20 [(0, (2, a0)), (1, (0, a1)), (2, (0, a2))] [(0, v5)] _ _
    refine z_if_ne (pc := 20) hX 26 dX12_taken_20 (by decide) (fun h8 => ?_) (fun h8 => ?_)
    · refine z_iload_n (pc := 26) hX 1 dX12_taken_26 rfl rfl ?_
      refine z_bipush (pc := 27) hX dX12_taken_27 ?_
      refine z_icmp_ge (pc := 29) hX 63 dX12_taken_29 (by decide) (fun h9 => ?_) (fun h9 => ?_)
      · refine z_iload_n (pc := 63) hX 1 dX12_taken_63 rfl rfl ?_
        refine z_bipush (pc := 64) hX dX12_taken_64 ?_
        refine z_isub (pc := 66) hX dX12_taken_66 ?_
        refine z_aload_n (pc := 67) hX 0 dX12_taken_67 rfl rfl ?_
        refine z_get (pc := 68) hX zc12 8 (by decide) wd1025 rfl rfl dX12_taken_68 (fun v10 => ?_)
        refine z_icmp_lt (pc := 71) hX 79 dX12_taken_71 (by decide) (fun h11 => ?_) (fun h11 => ?_)
        · refine z_iload_n (pc := 79) hX 2 dX12_taken_79 rfl rfl ?_
          refine z_bipush (pc := 80) hX dX12_taken_80 ?_
          refine z_icmp_ge (pc := 82) hX 108 dX12_taken_82 (by decide) (fun h12 => ?_) (fun h12 => ?_)
          · refine z_bipush (pc := 108) hX dX12_taken_108 ?_
            exact z_iret (pc := 110) hX hR hk dX12_taken_110
          · refine z_aload_n (pc := 85) hX 0 dX12_taken_85 rfl rfl ?_
            refine z_get (pc := 86) hX zc12 9 (by decide) wd1026 rfl rfl dX12_taken_86 (fun v13 => ?_)
            refine z_iload_n (pc := 89) hX 1 dX12_taken_89 rfl rfl ?_
            refine z_bipush (pc := 90) hX dX12_taken_90 ?_
            refine z_isub (pc := 92) hX dX12_taken_92 ?_
            refine z_iald (pc := 93) hX dX12_taken_93 (fun v14 => ?_)
            refine z_iload_n (pc := 94) hX 2 dX12_taken_94 rfl rfl ?_
            refine z_callS (n := 2) (st := []) (pc := 95) hX (mX12_isUnder _ hE _ _ _ _) ⟨wd1440, wd67, wd1442, ⟨by decide, by decide, by decide⟩, by decide⟩ wd1441 rfl rfl (by decide) (Nat.le_of_ble_eq_true rfl) dX12_taken_95 (fun v15 s16 r17 => ?_)
            show Zj X G 98 [(0, (2, a0)), (1, (0, a1)), (2, (0, a2))] [(0, v15)] _ _
            refine z_if_eq (pc := 98) hX 108 dX12_taken_98 (by decide) (fun h18 => ?_) (fun h18 => ?_)
            · refine z_bipush (pc := 108) hX dX12_taken_108 ?_
              exact z_iret (pc := 110) hX hR hk dX12_taken_110
            · refine z_iload_n (pc := 101) hX 1 dX12_taken_101 rfl rfl ?_
              refine z_bipush (pc := 102) hX dX12_taken_102 ?_
              refine z_isub (pc := 104) hX dX12_taken_104 ?_
              refine z_goto (pc := 105) hX 110 dX12_taken_105 (by decide) ?_
              exact z_iret (pc := 110) hX hR hk dX12_taken_110
        · refine z_bipush (pc := 74) hX dX12_taken_74 ?_
          refine z_goto (pc := 76) hX 110 dX12_taken_76 (by decide) ?_
          exact z_iret (pc := 110) hX hR hk dX12_taken_110
      · refine z_iload_n (pc := 32) hX 1 dX12_taken_32 rfl rfl ?_
        refine z_aload_n (pc := 33) hX 0 dX12_taken_33 rfl rfl ?_
        refine z_get (pc := 34) hX zc12 6 (by decide) wd1023 rfl rfl dX12_taken_34 (fun v19 => ?_)
        refine z_icmp_lt (pc := 37) hX 45 dX12_taken_37 (by decide) (fun h20 => ?_) (fun h20 => ?_)
        · refine z_iload_n (pc := 45) hX 2 dX12_taken_45 rfl rfl ?_
          refine z_bipush (pc := 46) hX dX12_taken_46 ?_
          refine z_icmp_ne (pc := 48) hX 60 dX12_taken_48 (by decide) (fun h21 => ?_) (fun h21 => ?_)
          · refine z_bipush (pc := 60) hX dX12_taken_60 ?_
            exact z_iret (pc := 62) hX hR hk dX12_taken_62
          · refine z_aload_n (pc := 51) hX 0 dX12_taken_51 rfl rfl ?_
            refine z_get (pc := 52) hX zc12 7 (by decide) wd1024 rfl rfl dX12_taken_52 (fun v22 => ?_)
            refine z_iload_n (pc := 55) hX 1 dX12_taken_55 rfl rfl ?_
            refine z_iald (pc := 56) hX dX12_taken_56 (fun v23 => ?_)
            refine z_goto (pc := 57) hX 62 dX12_taken_57 (by decide) ?_
            exact z_iret (pc := 62) hX hR hk dX12_taken_62
        · refine z_bipush (pc := 40) hX dX12_taken_40 ?_
          refine z_goto (pc := 42) hX 62 dX12_taken_42 (by decide) ?_
          exact z_iret (pc := 62) hX hR hk dX12_taken_62
    · refine z_bipush (pc := 23) hX dX12_taken_23 ?_
      exact z_iret (pc := 25) hX hR hk dX12_taken_25
  · refine z_bipush (pc := 10) hX dX12_taken_10 ?_
    exact z_iret (pc := 12) hX hR hk dX12_taken_12
