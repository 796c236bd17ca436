theorem dX2_aheadOf_0 : decode cX2_aheadOf 0 = .ok (.iconst 0, 1) := by decide +kernel
theorem dX2_aheadOf_1 : decode cX2_aheadOf 1 = .ok (.istore 4, 2) := by decide +kernel
theorem dX2_aheadOf_3 : decode cX2_aheadOf 3 = .ok (.iconst 0, 1) := by decide +kernel
theorem dX2_aheadOf_4 : decode cX2_aheadOf 4 = .ok (.istore 5, 2) := by decide +kernel
theorem dX2_aheadOf_6 : decode cX2_aheadOf 6 = .ok (.iload 5, 2) := by decide +kernel
theorem dX2_aheadOf_8 : decode cX2_aheadOf 8 = .ok (.aload_n 0, 1) := by decide +kernel
theorem dX2_aheadOf_9 : decode cX2_aheadOf 9 = .ok (.getfield 40, 3) := by decide +kernel
theorem dX2_aheadOf_12 : decode cX2_aheadOf 12 = .ok (.iload_n 1, 1) := by decide +kernel
theorem dX2_aheadOf_13 : decode cX2_aheadOf 13 = .ok (.iaload, 1) := by decide +kernel
theorem dX2_aheadOf_14 : decode cX2_aheadOf 14 = .ok (.if_icmp .ge 51, 3) := by decide +kernel
theorem dX2_aheadOf_17 : decode cX2_aheadOf 17 = .ok (.aload_n 0, 1) := by decide +kernel
theorem dX2_aheadOf_18 : decode cX2_aheadOf 18 = .ok (.getfield 37, 3) := by decide +kernel
theorem dX2_aheadOf_21 : decode cX2_aheadOf 21 = .ok (.iload_n 1, 1) := by decide +kernel
theorem dX2_aheadOf_22 : decode cX2_aheadOf 22 = .ok (.aaload, 1) := by decide +kernel
theorem dX2_aheadOf_23 : decode cX2_aheadOf 23 = .ok (.iload 5, 2) := by decide +kernel
theorem dX2_aheadOf_25 : decode cX2_aheadOf 25 = .ok (.iaload, 1) := by decide +kernel
theorem dX2_aheadOf_26 : decode cX2_aheadOf 26 = .ok (.iload_n 3, 1) := by decide +kernel
theorem dX2_aheadOf_27 : decode cX2_aheadOf 27 = .ok (.if_icmp .lt 29, 3) := by decide +kernel
theorem dX2_aheadOf_30 : decode cX2_aheadOf 30 = .ok (.aload_n 0, 1) := by decide +kernel
theorem dX2_aheadOf_31 : decode cX2_aheadOf 31 = .ok (.getfield 37, 3) := by decide +kernel
theorem dX2_aheadOf_34 : decode cX2_aheadOf 34 = .ok (.iload_n 1, 1) := by decide +kernel
theorem dX2_aheadOf_35 : decode cX2_aheadOf 35 = .ok (.aaload, 1) := by decide +kernel
theorem dX2_aheadOf_36 : decode cX2_aheadOf 36 = .ok (.iload 5, 2) := by decide +kernel
theorem dX2_aheadOf_38 : decode cX2_aheadOf 38 = .ok (.iaload, 1) := by decide +kernel
theorem dX2_aheadOf_39 : decode cX2_aheadOf 39 = .ok (.iload_n 3, 1) := by decide +kernel
theorem dX2_aheadOf_40 : decode cX2_aheadOf 40 = .ok (.if_icmp .ne 19, 3) := by decide +kernel
theorem dX2_aheadOf_43 : decode cX2_aheadOf 43 = .ok (.aload_n 0, 1) := by decide +kernel
theorem dX2_aheadOf_44 : decode cX2_aheadOf 44 = .ok (.getfield 34, 3) := by decide +kernel
theorem dX2_aheadOf_47 : decode cX2_aheadOf 47 = .ok (.iload_n 1, 1) := by decide +kernel
theorem dX2_aheadOf_48 : decode cX2_aheadOf 48 = .ok (.aaload, 1) := by decide +kernel
theorem dX2_aheadOf_49 : decode cX2_aheadOf 49 = .ok (.iload 5, 2) := by decide +kernel
theorem dX2_aheadOf_51 : decode cX2_aheadOf 51 = .ok (.iaload, 1) := by decide +kernel
theorem dX2_aheadOf_52 : decode cX2_aheadOf 52 = .ok (.iload_n 2, 1) := by decide +kernel
theorem dX2_aheadOf_53 : decode cX2_aheadOf 53 = .ok (.if_icmp .ge 6, 3) := by decide +kernel
theorem dX2_aheadOf_56 : decode cX2_aheadOf 56 = .ok (.iinc 4 1, 3) := by decide +kernel
theorem dX2_aheadOf_59 : decode cX2_aheadOf 59 = .ok (.iinc 5 1, 3) := by decide +kernel
theorem dX2_aheadOf_62 : decode cX2_aheadOf 62 = .ok (.goto (-56), 3) := by decide +kernel
theorem dX2_aheadOf_65 : decode cX2_aheadOf 65 = .ok (.iconst 1, 1) := by decide +kernel
theorem dX2_aheadOf_66 : decode cX2_aheadOf 66 = .ok (.iload 4, 2) := by decide +kernel
theorem dX2_aheadOf_68 : decode cX2_aheadOf 68 = .ok (.ishl, 1) := by decide +kernel
theorem dX2_aheadOf_69 : decode cX2_aheadOf 69 = .ok (.iconst 1, 1) := by decide +kernel
theorem dX2_aheadOf_70 : decode cX2_aheadOf 70 = .ok (.isub, 1) := by decide +kernel
theorem dX2_aheadOf_71 : decode cX2_aheadOf 71 = .ok (.ireturn, 1) := by decide +kernel
def lX2_aheadOf_6 (u2 u3 u4 u5 : Int)  : Nat → ZS → Int → Int → Option (Int × ZS)
  | 0, _, _, _ => none
  | n1 + 1, s1, x6, x7 => (zg s1 2 u2 7).bind (fun v8 => (zal s1 100 v8 u3).bind (fun v9 => if v9 ≤ x7 then (some ((wrap ((iShl 1 x6) - 1)), s1)) else ((zg s1 2 u2 6).bind (fun v11 => (zal s1 102 v11 u3).bind (fun v12 => (zal s1 100 v12 x7).bind (fun v13 => zjn (fun (K59 : ZS → Int → Option (Int × ZS)) => zjn (fun (K56 : ZS → Option (Int × ZS)) => if v13 < u5 then (K56 s1) else ((zg s1 2 u2 6).bind (fun v15 => (zal s1 102 v15 u3).bind (fun v16 => (zal s1 100 v16 x7).bind (fun v17 => if v17 = u5 then ((zg s1 2 u2 5).bind (fun v19 => (zal s1 102 v19 u3).bind (fun v20 => (zal s1 100 v20 x7).bind (fun v21 => if u4 ≤ v21 then (K59 s1 x6) else (K56 s1))))) else (K59 s1 x6)))))) (fun (s23 : ZS) => K59 s23 (wrap (x6 + 1)))) (fun (s24 : ZS) (x25 : Int) => lX2_aheadOf_6 u2 u3 u4 u5 n1 s24 x25 (wrap (x7 + 1)))))))))

def fX2_aheadOf (s0 : ZS) (a0 : Int) (a1 : Int) (a2 : Int) (a3 : Int) : Option (Int × ZS) := lX2_aheadOf_6 a0 a1 a2 a3 1000 s0 0 0
set_option maxHeartbeats 4000000 in
set_option maxRecDepth 100000 in
theorem mX2_aheadOf (E : ZE) (hE : zOkE E) (l : Launch) (s0 : ZS) (a0 : Int) (a1 : Int) (a2 : Int) (a3 : Int) : Ct E l yX2_aheadOf cX2_aheadOf 6 (some .int) 2 [(2, a0), (0, a1), (0, a2), (0, a3)] 1 s0 (fX2_aheadOf s0 a0 a1 a2 a3) := by
  refine Ct.of (by decide) hE (Nat.le_of_ble_eq_true rfl) ?_
  intro X G hX hR hN hXE hXl hxn hk _
  subst hXE
  subst hXl
  have hX : G → ZOk X cX2_aheadOf RX2 2 := hX
  clear hN
  show Zj X G 0 [(0, (2, a0)), (1, (0, a1)), (2, (0, a2)), (3, (0, a3))] [] s0 _
  unfold fX2_aheadOf
  refine z_iconst (pc := 0) hX dX2_aheadOf_0 ?_
  refine z_istore (lv' := [(4, (0, 0)), (0, (2, a0)), (1, (0, a1)), (2, (0, a2)), (3, (0, a3))]) (pc := 1) hX dX2_aheadOf_1 (zlt hxn rfl) rfl ?_
  refine z_iconst (pc := 3) hX dX2_aheadOf_3 ?_
  refine z_istore (lv' := [(5, (0, 0)), (4, (0, 0)), (0, (2, a0)), (1, (0, a1)), (2, (0, a2)), (3, (0, a3))]) (pc := 4) hX dX2_aheadOf_4 (zlt hxn rfl) rfl ?_
  have hl6 : ∀ (u2 u3 u4 u5 : Int), ∀ (n1 : Nat) (s1 : ZS) (x6 x7 : Int), Zj X G 6 [(0, (2, u2)), (1, (0, u3)), (2, (0, u4)), (3, (0, u5)), (4, (0, x6)), (5, (0, x7))] [] s1 (lX2_aheadOf_6 u2 u3 u4 u5 n1 s1 x6 x7) := by
    intro u2 u3 u4 u5 n1
    induction n1 with
    | zero => intro _ _ _; exact z_none
    | succ n1 ih1 =>
      intro s1 x6 x7
      rw [lX2_aheadOf_6]
      refine z_iload (pc := 6) hX 5 dX2_aheadOf_6 rfl ?_
      refine z_aload_n (pc := 8) hX 0 dX2_aheadOf_8 rfl rfl ?_
      refine z_get (pc := 9) hX zc2 7 (by decide) wd163 rfl rfl dX2_aheadOf_9 (fun v8 => ?_)
      refine z_iload_n (pc := 12) hX 1 dX2_aheadOf_12 rfl rfl ?_
      refine z_iald (pc := 13) hX dX2_aheadOf_13 (fun v9 => ?_)
      refine z_icmp_ge (pc := 14) hX 65 dX2_aheadOf_14 (by decide) (fun h10 => ?_) (fun h10 => ?_)
      · refine z_iconst (pc := 65) hX dX2_aheadOf_65 ?_
        refine z_iload (pc := 66) hX 4 dX2_aheadOf_66 rfl ?_
        refine z_ishl (pc := 68) hX dX2_aheadOf_68 ?_
        refine z_iconst (pc := 69) hX dX2_aheadOf_69 ?_
        refine z_isub (pc := 70) hX dX2_aheadOf_70 ?_
        exact z_iret (pc := 71) hX hR hk dX2_aheadOf_71
      · refine z_aload_n (pc := 17) hX 0 dX2_aheadOf_17 rfl rfl ?_
        refine z_get (pc := 18) hX zc2 6 (by decide) wd162 rfl rfl dX2_aheadOf_18 (fun v11 => ?_)
        refine z_iload_n (pc := 21) hX 1 dX2_aheadOf_21 rfl rfl ?_
        refine z_aald (pc := 22) hX 2 102 (by decide) rfl rfl dX2_aheadOf_22 (fun v12 => ?_)
        refine z_iload (pc := 23) hX 5 dX2_aheadOf_23 rfl ?_
        refine z_iald (pc := 25) hX dX2_aheadOf_25 (fun v13 => ?_)
        refine z_iload_n (pc := 26) hX 3 dX2_aheadOf_26 rfl rfl ?_
        refine z_jn (fun K59 eK59 => ?_)
        have hK59 : ∀ (s24 : ZS) (x25 : Int), Zj X G 59 [(0, (2, u2)), (1, (0, u3)), (2, (0, u4)), (3, (0, u5)), (4, (0, x25)), (5, (0, x7))] [] s24 (K59 s24 x25) := by
          intro s24 x25
          rw [eK59]
          refine z_iinc (lv' := [(5, (0, (wrap (x7 + 1)))), (0, (2, u2)), (1, (0, u3)), (2, (0, u4)), (3, (0, u5)), (4, (0, x25))]) (pc := 59) hX 5 dX2_aheadOf_59 rfl (zlt hxn rfl) rfl ?_
          refine z_goto (pc := 62) hX 6 dX2_aheadOf_62 (by decide) ?_
          refine z_pick (lv' := [(0, (2, u2)), (1, (0, u3)), (2, (0, u4)), (3, (0, u5)), (4, (0, x25)), (5, (0, (wrap (x7 + 1))))]) [1, 2, 3, 4, 5, 0] rfl ?_
          exact ih1 _ _ _
        clear eK59
        refine z_jn (fun K56 eK56 => ?_)
        have hK56 : ∀ (s23 : ZS), Zj X G 56 [(0, (2, u2)), (1, (0, u3)), (2, (0, u4)), (3, (0, u5)), (4, (0, x6)), (5, (0, x7))] [] s23 (K56 s23) := by
          intro s23
          rw [eK56]
          refine z_iinc (lv' := [(4, (0, (wrap (x6 + 1)))), (0, (2, u2)), (1, (0, u3)), (2, (0, u4)), (3, (0, u5)), (5, (0, x7))]) (pc := 56) hX 4 dX2_aheadOf_56 rfl (zlt hxn rfl) rfl ?_
          refine z_pick (lv' := [(0, (2, u2)), (1, (0, u3)), (2, (0, u4)), (3, (0, u5)), (4, (0, (wrap (x6 + 1)))), (5, (0, x7))]) [1, 2, 3, 4, 0, 5] rfl ?_
          exact hK59 _ _
        clear eK56
        refine z_icmp_lt (pc := 27) hX 56 dX2_aheadOf_27 (by decide) (fun h14 => ?_) (fun h14 => ?_)
        · exact hK56 _
        · refine z_aload_n (pc := 30) hX 0 dX2_aheadOf_30 rfl rfl ?_
          refine z_get (pc := 31) hX zc2 6 (by decide) wd162 rfl rfl dX2_aheadOf_31 (fun v15 => ?_)
          refine z_iload_n (pc := 34) hX 1 dX2_aheadOf_34 rfl rfl ?_
          refine z_aald (pc := 35) hX 2 102 (by decide) rfl rfl dX2_aheadOf_35 (fun v16 => ?_)
          refine z_iload (pc := 36) hX 5 dX2_aheadOf_36 rfl ?_
          refine z_iald (pc := 38) hX dX2_aheadOf_38 (fun v17 => ?_)
          refine z_iload_n (pc := 39) hX 3 dX2_aheadOf_39 rfl rfl ?_
          refine z_icmp_ne (pc := 40) hX 59 dX2_aheadOf_40 (by decide) (fun h18 => ?_) (fun h18 => ?_)
          · exact hK59 _ _
          · refine z_aload_n (pc := 43) hX 0 dX2_aheadOf_43 rfl rfl ?_
            refine z_get (pc := 44) hX zc2 5 (by decide) wd161 rfl rfl dX2_aheadOf_44 (fun v19 => ?_)
            refine z_iload_n (pc := 47) hX 1 dX2_aheadOf_47 rfl rfl ?_
            refine z_aald (pc := 48) hX 2 102 (by decide) rfl rfl dX2_aheadOf_48 (fun v20 => ?_)
            refine z_iload (pc := 49) hX 5 dX2_aheadOf_49 rfl ?_
            refine z_iald (pc := 51) hX dX2_aheadOf_51 (fun v21 => ?_)
            refine z_iload_n (pc := 52) hX 2 dX2_aheadOf_52 rfl rfl ?_
            refine z_icmp_ge (pc := 53) hX 59 dX2_aheadOf_53 (by decide) (fun h22 => ?_) (fun h22 => ?_)
            · exact hK59 _ _
            · exact hK56 _
  refine z_pick (lv' := [(0, (2, a0)), (1, (0, a1)), (2, (0, a2)), (3, (0, a3)), (4, (0, 0)), (5, (0, 0))]) [2, 3, 4, 5, 1, 0] rfl ?_
  refine hl6 _ _ _ _ 1000 _ _ _

theorem dX2_minuteAmongOthers_0 : decode cX2_minuteAmongOthers 0 = .ok (.iconst 0, 1) := by decide +kernel
theorem dX2_minuteAmongOthers_1 : decode cX2_minuteAmongOthers 1 = .ok (.istore 4, 2) := by decide +kernel
theorem dX2_minuteAmongOthers_3 : decode cX2_minuteAmongOthers 3 = .ok (.iconst 0, 1) := by decide +kernel
theorem dX2_minuteAmongOthers_4 : decode cX2_minuteAmongOthers 4 = .ok (.istore 5, 2) := by decide +kernel
theorem dX2_minuteAmongOthers_6 : decode cX2_minuteAmongOthers 6 = .ok (.iload 5, 2) := by decide +kernel
theorem dX2_minuteAmongOthers_8 : decode cX2_minuteAmongOthers 8 = .ok (.bipush 24, 2) := by decide +kernel
theorem dX2_minuteAmongOthers_10 : decode cX2_minuteAmongOthers 10 = .ok (.if_icmp .ge 83, 3) := by decide +kernel
theorem dX2_minuteAmongOthers_13 : decode cX2_minuteAmongOthers 13 = .ok (.iload 4, 2) := by decide +kernel
theorem dX2_minuteAmongOthers_15 : decode cX2_minuteAmongOthers 15 = .ok (.aload_n 0, 1) := by decide +kernel
theorem dX2_minuteAmongOthers_16 : decode cX2_minuteAmongOthers 16 = .ok (.getfield 43, 3) := by decide +kernel
theorem dX2_minuteAmongOthers_19 : decode cX2_minuteAmongOthers 19 = .ok (.iload_n 1, 1) := by decide +kernel
theorem dX2_minuteAmongOthers_20 : decode cX2_minuteAmongOthers 20 = .ok (.aaload, 1) := by decide +kernel
theorem dX2_minuteAmongOthers_21 : decode cX2_minuteAmongOthers 21 = .ok (.iload 5, 2) := by decide +kernel
theorem dX2_minuteAmongOthers_23 : decode cX2_minuteAmongOthers 23 = .ok (.iaload, 1) := by decide +kernel
theorem dX2_minuteAmongOthers_24 : decode cX2_minuteAmongOthers 24 = .ok (.ior, 1) := by decide +kernel
theorem dX2_minuteAmongOthers_25 : decode cX2_minuteAmongOthers 25 = .ok (.istore 4, 2) := by decide +kernel
theorem dX2_minuteAmongOthers_27 : decode cX2_minuteAmongOthers 27 = .ok (.aload_n 0, 1) := by decide +kernel
theorem dX2_minuteAmongOthers_28 : decode cX2_minuteAmongOthers 28 = .ok (.getfield 12, 3) := by decide +kernel
theorem dX2_minuteAmongOthers_31 : decode cX2_minuteAmongOthers 31 = .ok (.getfield 62, 3) := by decide +kernel
theorem dX2_minuteAmongOthers_34 : decode cX2_minuteAmongOthers 34 = .ok (.iload_n 1, 1) := by decide +kernel
theorem dX2_minuteAmongOthers_35 : decode cX2_minuteAmongOthers 35 = .ok (.aaload, 1) := by decide +kernel
theorem dX2_minuteAmongOthers_36 : decode cX2_minuteAmongOthers 36 = .ok (.iload 5, 2) := by decide +kernel
theorem dX2_minuteAmongOthers_38 : decode cX2_minuteAmongOthers 38 = .ok (.iaload, 1) := by decide +kernel
theorem dX2_minuteAmongOthers_39 : decode cX2_minuteAmongOthers 39 = .ok (.istore 6, 2) := by decide +kernel
theorem dX2_minuteAmongOthers_41 : decode cX2_minuteAmongOthers 41 = .ok (.iload 5, 2) := by decide +kernel
theorem dX2_minuteAmongOthers_43 : decode cX2_minuteAmongOthers 43 = .ok (.iload_n 2, 1) := by decide +kernel
theorem dX2_minuteAmongOthers_44 : decode cX2_minuteAmongOthers 44 = .ok (.if_icmp .lt 18, 3) := by decide +kernel
theorem dX2_minuteAmongOthers_47 : decode cX2_minuteAmongOthers 47 = .ok (.iload 4, 2) := by decide +kernel
theorem dX2_minuteAmongOthers_49 : decode cX2_minuteAmongOthers 49 = .ok (.iload_n 3, 1) := by decide +kernel
theorem dX2_minuteAmongOthers_50 : decode cX2_minuteAmongOthers 50 = .ok (.iand, 1) := by decide +kernel
theorem dX2_minuteAmongOthers_51 : decode cX2_minuteAmongOthers 51 = .ok (.invokestatic 65, 3) := by decide +kernel
theorem dX2_minuteAmongOthers_54 : decode cX2_minuteAmongOthers 54 = .ok (.iload 6, 2) := by decide +kernel
theorem dX2_minuteAmongOthers_56 : decode cX2_minuteAmongOthers 56 = .ok (.if_icmp .ge 6, 3) := by decide +kernel
theorem dX2_minuteAmongOthers_59 : decode cX2_minuteAmongOthers 59 = .ok (.iload 5, 2) := by decide +kernel
theorem dX2_minuteAmongOthers_61 : decode cX2_minuteAmongOthers 61 = .ok (.ireturn, 1) := by decide +kernel
theorem dX2_minuteAmongOthers_62 : decode cX2_minuteAmongOthers 62 = .ok (.iconst 0, 1) := by decide +kernel
theorem dX2_minuteAmongOthers_63 : decode cX2_minuteAmongOthers 63 = .ok (.istore 7, 2) := by decide +kernel
theorem dX2_minuteAmongOthers_65 : decode cX2_minuteAmongOthers 65 = .ok (.iload 7, 2) := by decide +kernel
theorem dX2_minuteAmongOthers_67 : decode cX2_minuteAmongOthers 67 = .ok (.iload 6, 2) := by decide +kernel
theorem dX2_minuteAmongOthers_69 : decode cX2_minuteAmongOthers 69 = .ok (.if_icmp .ge 18, 3) := by decide +kernel
theorem dX2_minuteAmongOthers_72 : decode cX2_minuteAmongOthers 72 = .ok (.iload 4, 2) := by decide +kernel
theorem dX2_minuteAmongOthers_74 : decode cX2_minuteAmongOthers 74 = .ok (.iload 4, 2) := by decide +kernel
theorem dX2_minuteAmongOthers_76 : decode cX2_minuteAmongOthers 76 = .ok (.iconst 1, 1) := by decide +kernel
theorem dX2_minuteAmongOthers_77 : decode cX2_minuteAmongOthers 77 = .ok (.isub, 1) := by decide +kernel
theorem dX2_minuteAmongOthers_78 : decode cX2_minuteAmongOthers 78 = .ok (.iand, 1) := by decide +kernel
theorem dX2_minuteAmongOthers_79 : decode cX2_minuteAmongOthers 79 = .ok (.istore 4, 2) := by decide +kernel
theorem dX2_minuteAmongOthers_81 : decode cX2_minuteAmongOthers 81 = .ok (.iinc 7 1, 3) := by decide +kernel
theorem dX2_minuteAmongOthers_84 : decode cX2_minuteAmongOthers 84 = .ok (.goto (-19), 3) := by decide +kernel
theorem dX2_minuteAmongOthers_87 : decode cX2_minuteAmongOthers 87 = .ok (.iinc 5 1, 3) := by decide +kernel
theorem dX2_minuteAmongOthers_90 : decode cX2_minuteAmongOthers 90 = .ok (.goto (-84), 3) := by decide +kernel
theorem dX2_minuteAmongOthers_93 : decode cX2_minuteAmongOthers 93 = .ok (.iconst (-1), 1) := by decide +kernel
theorem dX2_minuteAmongOthers_94 : decode cX2_minuteAmongOthers 94 = .ok (.ireturn, 1) := by decide +kernel
def lX2_minuteAmongOthers_65 (u23 u24 u25 u26 u28 u29 : Int) (K87 : ZS → Int → Option (Int × ZS)) : Nat → ZS → Int → Int → Option (Int × ZS)
  | 0, _, _, _ => none
  | n2 + 1, s22, x27, x30 => if u29 ≤ x30 then (K87 s22 x27) else (lX2_minuteAmongOthers_65 u23 u24 u25 u26 u28 u29 K87 n2 s22 (iAnd x27 (wrap (x27 - 1))) (wrap (x30 + 1)))

def lX2_minuteAmongOthers_6 (u2 u3 u4 u5 : Int)  : Nat → ZS → Int → Int → Option (Int × ZS)
  | 0, _, _, _ => none
  | n1 + 1, s1, x6, x7 => if 24 ≤ x7 then (some ((-1), s1)) else ((zg s1 2 u2 8).bind (fun v9 => (zal s1 102 v9 u3).bind (fun v10 => (zal s1 100 v10 x7).bind (fun v11 => (zg s1 2 u2 0).bind (fun v12 => (zg s1 5 v12 0).bind (fun v13 => (zal s1 102 v13 u3).bind (fun v14 => (zal s1 100 v14 x7).bind (fun v15 => zjn (fun (K62 : ZS → Option (Int × ZS)) => if x7 < u4 then (K62 s1) else (zb (fJ6_bitCount_0f7a4 s1 (iAnd (iOr x6 v11) u5)) (fun v17 s18 => if v15 ≤ v17 then (K62 s18) else (some (x7, s18))))) (fun (s21 : ZS) => lX2_minuteAmongOthers_65 u2 u3 u4 u5 x7 v15 (fun (s34 : ZS) (x35 : Int) => lX2_minuteAmongOthers_6 u2 u3 u4 u5 n1 s34 x35 (wrap (x7 + 1))) 1000 s21 (iOr x6 v11) 0)))))))))

def fX2_minuteAmongOthers (s0 : ZS) (a0 : Int) (a1 : Int) (a2 : Int) (a3 : Int) : Option (Int × ZS) := lX2_minuteAmongOthers_6 a0 a1 a2 a3 1000 s0 0 0
set_option maxHeartbeats 4000000 in
set_option maxRecDepth 100000 in
theorem mX2_minuteAmongOthers (E : ZE) (hE : zOkE E) (l : Launch) (s0 : ZS) (a0 : Int) (a1 : Int) (a2 : Int) (a3 : Int) : Ct E l yX2_minuteAmongOthers cX2_minuteAmongOthers 8 (some .int) 4 [(2, a0), (0, a1), (0, a2), (0, a3)] 1 s0 (fX2_minuteAmongOthers s0 a0 a1 a2 a3) := by
  refine Ct.of (by decide) hE (Nat.le_of_ble_eq_true rfl) ?_
  intro X G hX hR hN hXE hXl hxn hk _
  subst hXE
  subst hXl
  have hX : G → ZOk X cX2_minuteAmongOthers RX2 4 := hX
  clear hN
  show Zj X G 0 [(0, (2, a0)), (1, (0, a1)), (2, (0, a2)), (3, (0, a3))] [] s0 _
  unfold fX2_minuteAmongOthers
  refine z_iconst (pc := 0) hX dX2_minuteAmongOthers_0 ?_
  refine z_istore (lv' := [(4, (0, 0)), (0, (2, a0)), (1, (0, a1)), (2, (0, a2)), (3, (0, a3))]) (pc := 1) hX dX2_minuteAmongOthers_1 (zlt hxn rfl) rfl ?_
  refine z_iconst (pc := 3) hX dX2_minuteAmongOthers_3 ?_
  refine z_istore (lv' := [(5, (0, 0)), (4, (0, 0)), (0, (2, a0)), (1, (0, a1)), (2, (0, a2)), (3, (0, a3))]) (pc := 4) hX dX2_minuteAmongOthers_4 (zlt hxn rfl) rfl ?_
  have hl6 : ∀ (u2 u3 u4 u5 : Int), ∀ (n1 : Nat) (s1 : ZS) (x6 x7 : Int), Zj X G 6 [(0, (2, u2)), (1, (0, u3)), (2, (0, u4)), (3, (0, u5)), (4, (0, x6)), (5, (0, x7))] [] s1 (lX2_minuteAmongOthers_6 u2 u3 u4 u5 n1 s1 x6 x7) := by
    intro u2 u3 u4 u5 n1
    induction n1 with
    | zero => intro _ _ _; exact z_none
    | succ n1 ih1 =>
      intro s1 x6 x7
      rw [lX2_minuteAmongOthers_6]
      refine z_iload (pc := 6) hX 5 dX2_minuteAmongOthers_6 rfl ?_
      refine z_bipush (pc := 8) hX dX2_minuteAmongOthers_8 ?_
      refine z_icmp_ge (pc := 10) hX 93 dX2_minuteAmongOthers_10 (by decide) (fun h8 => ?_) (fun h8 => ?_)
      · refine z_iconst (pc := 93) hX dX2_minuteAmongOthers_93 ?_
        exact z_iret (pc := 94) hX hR hk dX2_minuteAmongOthers_94
      · refine z_iload (pc := 13) hX 4 dX2_minuteAmongOthers_13 rfl ?_
        refine z_aload_n (pc := 15) hX 0 dX2_minuteAmongOthers_15 rfl rfl ?_
        refine z_get (pc := 16) hX zc2 8 (by decide) wd164 rfl rfl dX2_minuteAmongOthers_16 (fun v9 => ?_)
        refine z_iload_n (pc := 19) hX 1 dX2_minuteAmongOthers_19 rfl rfl ?_
        refine z_aald (pc := 20) hX 2 102 (by decide) rfl rfl dX2_minuteAmongOthers_20 (fun v10 => ?_)
        refine z_iload (pc := 21) hX 5 dX2_minuteAmongOthers_21 rfl ?_
        refine z_iald (pc := 23) hX dX2_minuteAmongOthers_23 (fun v11 => ?_)
        refine z_ior (pc := 24) hX dX2_minuteAmongOthers_24 ?_
        refine z_istore (lv' := [(4, (0, (iOr x6 v11))), (0, (2, u2)), (1, (0, u3)), (2, (0, u4)), (3, (0, u5)), (5, (0, x7))]) (pc := 25) hX dX2_minuteAmongOthers_25 (zlt hxn rfl) rfl ?_
        refine z_aload_n (pc := 27) hX 1 dX2_minuteAmongOthers_27 rfl rfl ?_
        refine z_get (pc := 28) hX zc2 0 (by decide) wd151 rfl rfl dX2_minuteAmongOthers_28 (fun v12 => ?_)
        refine z_get (pc := 31) hX zc5 0 (by decide) wd107 rfl rfl dX2_minuteAmongOthers_31 (fun v13 => ?_)
        refine z_iload_n (pc := 34) hX 2 dX2_minuteAmongOthers_34 rfl rfl ?_
        refine z_aald (pc := 35) hX 2 102 (by decide) rfl rfl dX2_minuteAmongOthers_35 (fun v14 => ?_)
        refine z_iload (pc := 36) hX 5 dX2_minuteAmongOthers_36 rfl ?_
        refine z_iald (pc := 38) hX dX2_minuteAmongOthers_38 (fun v15 => ?_)
        refine z_istore (lv' := [(6, (0, v15)), (4, (0, (iOr x6 v11))), (0, (2, u2)), (1, (0, u3)), (2, (0, u4)), (3, (0, u5)), (5, (0, x7))]) (pc := 39) hX dX2_minuteAmongOthers_39 (zlt hxn rfl) rfl ?_
        refine z_iload (pc := 41) hX 6 dX2_minuteAmongOthers_41 rfl ?_
        refine z_iload_n (pc := 43) hX 4 dX2_minuteAmongOthers_43 rfl rfl ?_
        refine z_jn (fun K62 eK62 => ?_)
        have hK62 : ∀ (s21 : ZS), Zj X G 62 [(0, (2, u2)), (1, (0, u3)), (2, (0, u4)), (3, (0, u5)), (4, (0, (iOr x6 v11))), (5, (0, x7)), (6, (0, v15))] [] s21 (K62 s21) := by
          intro s21
          rw [eK62]
          refine z_iconst (pc := 62) hX dX2_minuteAmongOthers_62 ?_
          refine z_istore (lv' := [(7, (0, 0)), (0, (2, u2)), (1, (0, u3)), (2, (0, u4)), (3, (0, u5)), (4, (0, (iOr x6 v11))), (5, (0, x7)), (6, (0, v15))]) (pc := 63) hX dX2_minuteAmongOthers_63 (zlt hxn rfl) rfl ?_
          have hl65 : ∀ (u23 u24 u25 u26 u28 u29 : Int), ∀ (K87 : ZS → Int → Option (Int × ZS)), (∀ (s32 : ZS) (x33 : Int), Zj X G 87 [(0, (2, u23)), (1, (0, u24)), (2, (0, u25)), (3, (0, u26)), (4, (0, x33)), (5, (0, u28))] [] s32 (K87 s32 x33)) → ∀ (n2 : Nat) (s22 : ZS) (x27 x30 : Int), Zj X G 65 [(0, (2, u23)), (1, (0, u24)), (2, (0, u25)), (3, (0, u26)), (4, (0, x27)), (5, (0, u28)), (6, (0, u29)), (7, (0, x30))] [] s22 (lX2_minuteAmongOthers_65 u23 u24 u25 u26 u28 u29 K87 n2 s22 x27 x30) := by
            intro u23 u24 u25 u26 u28 u29 K87 hK87 n2
            induction n2 with
            | zero => intro _ _ _; exact z_none
            | succ n2 ih2 =>
              intro s22 x27 x30
              rw [lX2_minuteAmongOthers_65]
              refine z_iload (pc := 65) hX 7 dX2_minuteAmongOthers_65 rfl ?_
              refine z_iload (pc := 67) hX 6 dX2_minuteAmongOthers_67 rfl ?_
              refine z_icmp_ge (pc := 69) hX 87 dX2_minuteAmongOthers_69 (by decide) (fun h31 => ?_) (fun h31 => ?_)
              · refine z_pick (lv' := [(0, (2, u23)), (1, (0, u24)), (2, (0, u25)), (3, (0, u26)), (4, (0, x27)), (5, (0, u28))]) [0, 1, 2, 3, 4, 5] rfl ?_
                exact hK87 _ _
              · refine z_iload (pc := 72) hX 4 dX2_minuteAmongOthers_72 rfl ?_
                refine z_iload (pc := 74) hX 4 dX2_minuteAmongOthers_74 rfl ?_
                refine z_iconst (pc := 76) hX dX2_minuteAmongOthers_76 ?_
                refine z_isub (pc := 77) hX dX2_minuteAmongOthers_77 ?_
                refine z_iand (pc := 78) hX dX2_minuteAmongOthers_78 ?_
                refine z_istore (lv' := [(4, (0, (iAnd x27 (wrap (x27 - 1))))), (0, (2, u23)), (1, (0, u24)), (2, (0, u25)), (3, (0, u26)), (5, (0, u28)), (6, (0, u29)), (7, (0, x30))]) (pc := 79) hX dX2_minuteAmongOthers_79 (zlt hxn rfl) rfl ?_
                refine z_iinc (lv' := [(7, (0, (wrap (x30 + 1)))), (4, (0, (iAnd x27 (wrap (x27 - 1))))), (0, (2, u23)), (1, (0, u24)), (2, (0, u25)), (3, (0, u26)), (5, (0, u28)), (6, (0, u29))]) (pc := 81) hX 7 dX2_minuteAmongOthers_81 rfl (zlt hxn rfl) rfl ?_
                refine z_goto (pc := 84) hX 65 dX2_minuteAmongOthers_84 (by decide) ?_
                refine z_pick (lv' := [(0, (2, u23)), (1, (0, u24)), (2, (0, u25)), (3, (0, u26)), (4, (0, (iAnd x27 (wrap (x27 - 1))))), (5, (0, u28)), (6, (0, u29)), (7, (0, (wrap (x30 + 1))))]) [2, 3, 4, 5, 1, 6, 7, 0] rfl ?_
                exact ih2 _ _ _
          refine z_pick (lv' := [(0, (2, u2)), (1, (0, u3)), (2, (0, u4)), (3, (0, u5)), (4, (0, (iOr x6 v11))), (5, (0, x7)), (6, (0, v15)), (7, (0, 0))]) [1, 2, 3, 4, 5, 6, 7, 0] rfl ?_
          refine hl65 _ _ _ _ _ _ _ (fun s34 x35 => ?_) 1000 _ _ _
          refine z_iinc (lv' := [(5, (0, (wrap (x7 + 1)))), (0, (2, u2)), (1, (0, u3)), (2, (0, u4)), (3, (0, u5)), (4, (0, x35))]) (pc := 87) hX 5 dX2_minuteAmongOthers_87 rfl (zlt hxn rfl) rfl ?_
          refine z_goto (pc := 90) hX 6 dX2_minuteAmongOthers_90 (by decide) ?_
          refine z_pick (lv' := [(0, (2, u2)), (1, (0, u3)), (2, (0, u4)), (3, (0, u5)), (4, (0, x35)), (5, (0, (wrap (x7 + 1))))]) [1, 2, 3, 4, 5, 0] rfl ?_
          exact ih1 _ _ _
        clear eK62
        refine z_icmp_lt (pc := 44) hX 62 dX2_minuteAmongOthers_44 (by decide) (fun h16 => ?_) (fun h16 => ?_)
        · refine z_pick (lv' := [(0, (2, u2)), (1, (0, u3)), (2, (0, u4)), (3, (0, u5)), (4, (0, (iOr x6 v11))), (5, (0, x7)), (6, (0, v15))]) [2, 3, 4, 5, 1, 6, 0] rfl ?_
          exact hK62 _
        · refine z_iload (pc := 47) hX 1 dX2_minuteAmongOthers_47 rfl ?_
          refine z_iload_n (pc := 49) hX 5 dX2_minuteAmongOthers_49 rfl rfl ?_
          refine z_iand (pc := 50) hX dX2_minuteAmongOthers_50 ?_
          refine z_callS (n := 1) (st := []) (pc := 51) hX (mJ6_bitCount_0f7a4 _ hE _ _ _) ⟨wd766, wd82, wd768, ⟨by decide, by decide, by decide⟩, by decide⟩ wd767 rfl rfl (by decide) (Nat.le_of_ble_eq_true rfl) dX2_minuteAmongOthers_51 (fun v17 s18 r19 => ?_)
          show Zj X G 54 [(6, (0, v15)), (4, (0, (iOr x6 v11))), (0, (2, u2)), (1, (0, u3)), (2, (0, u4)), (3, (0, u5)), (5, (0, x7))] [(0, v17)] _ _
          refine z_iload (pc := 54) hX 0 dX2_minuteAmongOthers_54 rfl ?_
          refine z_icmp_ge (pc := 56) hX 62 dX2_minuteAmongOthers_56 (by decide) (fun h20 => ?_) (fun h20 => ?_)
          · refine z_pick (lv' := [(0, (2, u2)), (1, (0, u3)), (2, (0, u4)), (3, (0, u5)), (4, (0, (iOr x6 v11))), (5, (0, x7)), (6, (0, v15))]) [2, 3, 4, 5, 1, 6, 0] rfl ?_
            exact hK62 _
          · refine z_iload (pc := 59) hX 6 dX2_minuteAmongOthers_59 rfl ?_
            exact z_iret (pc := 61) hX hR hk dX2_minuteAmongOthers_61
  refine z_pick (lv' := [(0, (2, a0)), (1, (0, a1)), (2, (0, a2)), (3, (0, a3)), (4, (0, 0)), (5, (0, 0))]) [2, 3, 4, 5, 1, 0] rfl ?_
  refine hl6 _ _ _ _ 1000 _ _ _

theorem dX2_costIf_0 : decode cX2_costIf 0 = .ok (.aload_n 0, 1) := by decide +kernel
theorem dX2_costIf_1 : decode cX2_costIf 1 = .ok (.iload_n 2, 1) := by decide +kernel
theorem dX2_costIf_2 : decode cX2_costIf 2 = .ok (.iload_n 3, 1) := by decide +kernel
theorem dX2_costIf_3 : decode cX2_costIf 3 = .ok (.invokevirtual 79, 3) := by decide +kernel
theorem dX2_costIf_6 : decode cX2_costIf 6 = .ok (.istore 5, 2) := by decide +kernel
theorem dX2_costIf_8 : decode cX2_costIf 8 = .ok (.iconst (-1), 1) := by decide +kernel
theorem dX2_costIf_9 : decode cX2_costIf 9 = .ok (.istore 6, 2) := by decide +kernel
theorem dX2_costIf_11 : decode cX2_costIf 11 = .ok (.iload 5, 2) := by decide +kernel
theorem dX2_costIf_13 : decode cX2_costIf 13 = .ok (.iconst (-1), 1) := by decide +kernel
theorem dX2_costIf_14 : decode cX2_costIf 14 = .ok (.if_icmp .eq 42, 3) := by decide +kernel
theorem dX2_costIf_17 : decode cX2_costIf 17 = .ok (.iload_n 3, 1) := by decide +kernel
theorem dX2_costIf_18 : decode cX2_costIf 18 = .ok (.bipush 24, 2) := by decide +kernel
theorem dX2_costIf_20 : decode cX2_costIf 20 = .ok (.idiv, 1) := by decide +kernel
theorem dX2_costIf_21 : decode cX2_costIf 21 = .ok (.istore 7, 2) := by decide +kernel
theorem dX2_costIf_23 : decode cX2_costIf 23 = .ok (.aload_n 0, 1) := by decide +kernel
theorem dX2_costIf_24 : decode cX2_costIf 24 = .ok (.iload 7, 2) := by decide +kernel
theorem dX2_costIf_26 : decode cX2_costIf 26 = .ok (.iload 5, 2) := by decide +kernel
theorem dX2_costIf_28 : decode cX2_costIf 28 = .ok (.aload_n 0, 1) := by decide +kernel
theorem dX2_costIf_29 : decode cX2_costIf 29 = .ok (.iload 7, 2) := by decide +kernel
theorem dX2_costIf_31 : decode cX2_costIf 31 = .ok (.iload_n 2, 1) := by decide +kernel
theorem dX2_costIf_32 : decode cX2_costIf 32 = .ok (.aload_n 1, 1) := by decide +kernel
theorem dX2_costIf_33 : decode cX2_costIf 33 = .ok (.iload_n 2, 1) := by decide +kernel
theorem dX2_costIf_34 : decode cX2_costIf 34 = .ok (.iload 5, 2) := by decide +kernel
theorem dX2_costIf_36 : decode cX2_costIf 36 = .ok (.aload_n 0, 1) := by decide +kernel
theorem dX2_costIf_37 : decode cX2_costIf 37 = .ok (.getfield 12, 3) := by decide +kernel
theorem dX2_costIf_40 : decode cX2_costIf 40 = .ok (.getfield 83, 3) := by decide +kernel
theorem dX2_costIf_43 : decode cX2_costIf 43 = .ok (.iload_n 2, 1) := by decide +kernel
theorem dX2_costIf_44 : decode cX2_costIf 44 = .ok (.iaload, 1) := by decide +kernel
theorem dX2_costIf_45 : decode cX2_costIf 45 = .ok (.invokevirtual 86, 3) := by decide +kernel
theorem dX2_costIf_48 : decode cX2_costIf 48 = .ok (.invokevirtual 96, 3) := by decide +kernel
theorem dX2_costIf_51 : decode cX2_costIf 51 = .ok (.invokevirtual 99, 3) := by decide +kernel
theorem dX2_costIf_54 : decode cX2_costIf 54 = .ok (.istore 6, 2) := by decide +kernel
theorem dX2_costIf_56 : decode cX2_costIf 56 = .ok (.aload_n 0, 1) := by decide +kernel
theorem dX2_costIf_57 : decode cX2_costIf 57 = .ok (.aload_n 1, 1) := by decide +kernel
theorem dX2_costIf_58 : decode cX2_costIf 58 = .ok (.iload_n 2, 1) := by decide +kernel
theorem dX2_costIf_59 : decode cX2_costIf 59 = .ok (.iload_n 3, 1) := by decide +kernel
theorem dX2_costIf_60 : decode cX2_costIf 60 = .ok (.iload 5, 2) := by decide +kernel
theorem dX2_costIf_62 : decode cX2_costIf 62 = .ok (.iload 6, 2) := by decide +kernel
theorem dX2_costIf_64 : decode cX2_costIf 64 = .ok (.aload 4, 2) := by decide +kernel
theorem dX2_costIf_66 : decode cX2_costIf 66 = .ok (.invokevirtual 102, 3) := by decide +kernel
theorem dX2_costIf_69 : decode cX2_costIf 69 = .ok (.ireturn, 1) := by decide +kernel
def fX2_costIf (s0 : ZS) (a0 : Int) (a1 : Int) (a2 : Int) (a3 : Int) (a4 : Int) : Option (Int × ZS) := zb (zv s0 2 a0 (fX2_cameBy s0 a0 a2 a3)) (fun v1 s2 => zjn (fun (K56 : ZS → Int → Option (Int × ZS)) => if v1 = (-1) then (K56 s2 (-1)) else (if 24 = 0 then none else ((zg s2 2 a0 0).bind (fun v5 => (zg s2 5 v5 6).bind (fun v6 => (zal s2 100 v6 a2).bind (fun v7 => zb (zw s2 a1 (fX10_order s2 a1 a2 v1 v7) (fX10_order s2 a1 a2 v1 v7) (fX3_order s2 a1 a2 v1 v7) (fX0_order s2 a1 a2 v1 v7) (fX1_order s2 a1 a2 v1 v7) (fX7_order s2 a1 a2 v1 v7)) (fun v8 s9 => zb (zv s9 2 a0 (fX2_aheadOf s9 a0 (wrap (a3.tdiv 24)) a2 v8)) (fun v12 s13 => zb (zv s13 2 a0 (fX2_minuteAmongOthers s13 a0 (wrap (a3.tdiv 24)) v1 v12)) (fun v15 s16 => K56 s16 v15))))))))) (fun (s18 : ZS) (x19 : Int) => zb (zv s18 2 a0 (fX2_cost s18 a0 a1 a2 a3 v1 x19 a4)) (fun v20 s21 => some (v20, s21))))
set_option maxHeartbeats 4000000 in
set_option maxRecDepth 100000 in
theorem mX2_costIf (E : ZE) (hE : zOkE E) (l : Launch) (s0 : ZS) (a0 : Int) (a1 : Int) (a2 : Int) (a3 : Int) (a4 : Int) : Ct E l yX2_costIf cX2_costIf 8 (some .int) 8 [(2, a0), (2, a1), (0, a2), (0, a3), (2, a4)] 1 s0 (fX2_costIf s0 a0 a1 a2 a3 a4) := by
  refine Ct.of (by decide) hE (Nat.le_of_ble_eq_true rfl) ?_
  intro X G hX hR hN hXE hXl hxn hk _
  subst hXE
  subst hXl
  have hX : G → ZOk X cX2_costIf RX2 8 := hX
  clear hN
  show Zj X G 0 [(0, (2, a0)), (1, (2, a1)), (2, (0, a2)), (3, (0, a3)), (4, (2, a4))] [] s0 _
  unfold fX2_costIf
  refine z_aload_n (pc := 0) hX 0 dX2_costIf_0 rfl rfl ?_
  refine z_iload_n (pc := 1) hX 2 dX2_costIf_1 rfl rfl ?_
  refine z_iload_n (pc := 2) hX 3 dX2_costIf_2 rfl rfl ?_
  refine z_callV (n := 2) (st := []) (pc := 3) hX zc2 rfl (fun _ => (mX2_cameBy _ hE _ _ _ _ _)) ⟨wd731, wd62, wd734, ⟨by decide, by decide, by decide⟩, by decide⟩ rfl wd733 wd19 rfl rfl (by decide) (Nat.le_of_ble_eq_true rfl) dX2_costIf_3 (fun v1 s2 r3 => ?_)
  show Zj X G 6 [(0, (2, a0)), (1, (2, a1)), (2, (0, a2)), (3, (0, a3)), (4, (2, a4))] [(0, v1)] _ _
  refine z_istore (lv' := [(5, (0, v1)), (0, (2, a0)), (1, (2, a1)), (2, (0, a2)), (3, (0, a3)), (4, (2, a4))]) (pc := 6) hX dX2_costIf_6 (zlt hxn rfl) rfl ?_
  refine z_iconst (pc := 8) hX dX2_costIf_8 ?_
  refine z_istore (lv' := [(6, (0, (-1))), (5, (0, v1)), (0, (2, a0)), (1, (2, a1)), (2, (0, a2)), (3, (0, a3)), (4, (2, a4))]) (pc := 9) hX dX2_costIf_9 (zlt hxn rfl) rfl ?_
  refine z_iload (pc := 11) hX 1 dX2_costIf_11 rfl ?_
  refine z_iconst (pc := 13) hX dX2_costIf_13 ?_
  refine z_jn (fun K56 eK56 => ?_)
  have hK56 : ∀ (s18 : ZS) (x19 : Int), Zj X G 56 [(0, (2, a0)), (1, (2, a1)), (2, (0, a2)), (3, (0, a3)), (4, (2, a4)), (5, (0, v1)), (6, (0, x19))] [] s18 (K56 s18 x19) := by
    intro s18 x19
    rw [eK56]
    refine z_aload_n (pc := 56) hX 0 dX2_costIf_56 rfl rfl ?_
    refine z_aload_n (pc := 57) hX 1 dX2_costIf_57 rfl rfl ?_
    refine z_iload_n (pc := 58) hX 2 dX2_costIf_58 rfl rfl ?_
    refine z_iload_n (pc := 59) hX 3 dX2_costIf_59 rfl rfl ?_
    refine z_iload (pc := 60) hX 5 dX2_costIf_60 rfl ?_
    refine z_iload (pc := 62) hX 6 dX2_costIf_62 rfl ?_
    refine z_aload (pc := 64) hX 4 dX2_costIf_64 rfl ?_
    refine z_callV (n := 6) (st := []) (pc := 66) hX zc2 rfl (fun _ => (mX2_cost _ hE _ _ _ _ _ _ _ _ _)) ⟨wd776, wd62, wd779, ⟨by decide, by decide, by decide⟩, by decide⟩ rfl wd778 wd22 rfl rfl (by decide) (Nat.le_of_ble_eq_true rfl) dX2_costIf_66 (fun v20 s21 r22 => ?_)
    show Zj X G 69 [(0, (2, a0)), (1, (2, a1)), (2, (0, a2)), (3, (0, a3)), (4, (2, a4)), (5, (0, v1)), (6, (0, x19))] [(0, v20)] _ _
    exact z_iret (pc := 69) hX hR hk dX2_costIf_69
  clear eK56
  refine z_icmp_eq (pc := 14) hX 56 dX2_costIf_14 (by decide) (fun h4 => ?_) (fun h4 => ?_)
  · refine z_pick (lv' := [(0, (2, a0)), (1, (2, a1)), (2, (0, a2)), (3, (0, a3)), (4, (2, a4)), (5, (0, v1)), (6, (0, (-1)))]) [2, 3, 4, 5, 6, 1, 0] rfl ?_
    exact hK56 _ _
  · refine z_iload_n (pc := 17) hX 5 dX2_costIf_17 rfl rfl ?_
    refine z_bipush (pc := 18) hX dX2_costIf_18 ?_
    refine z_idiv (pc := 20) hX dX2_costIf_20 (fun _ => ?_)
    refine z_istore (lv' := [(7, (0, (wrap (a3.tdiv 24)))), (6, (0, (-1))), (5, (0, v1)), (0, (2, a0)), (1, (2, a1)), (2, (0, a2)), (3, (0, a3)), (4, (2, a4))]) (pc := 21) hX dX2_costIf_21 (zlt hxn rfl) rfl ?_
    refine z_aload_n (pc := 23) hX 3 dX2_costIf_23 rfl rfl ?_
    refine z_iload (pc := 24) hX 0 dX2_costIf_24 rfl ?_
    refine z_iload (pc := 26) hX 2 dX2_costIf_26 rfl ?_
    refine z_aload_n (pc := 28) hX 3 dX2_costIf_28 rfl rfl ?_
    refine z_iload (pc := 29) hX 0 dX2_costIf_29 rfl ?_
    refine z_iload_n (pc := 31) hX 5 dX2_costIf_31 rfl rfl ?_
    refine z_aload_n (pc := 32) hX 4 dX2_costIf_32 rfl rfl ?_
    refine z_iload_n (pc := 33) hX 5 dX2_costIf_33 rfl rfl ?_
    refine z_iload (pc := 34) hX 2 dX2_costIf_34 rfl ?_
    refine z_aload_n (pc := 36) hX 3 dX2_costIf_36 rfl rfl ?_
    refine z_get (pc := 37) hX zc2 0 (by decide) wd151 rfl rfl dX2_costIf_37 (fun v5 => ?_)
    refine z_get (pc := 40) hX zc5 6 (by decide) wd123 rfl rfl dX2_costIf_40 (fun v6 => ?_)
    refine z_iload_n (pc := 43) hX 5 dX2_costIf_43 rfl rfl ?_
    refine z_iald (pc := 44) hX dX2_costIf_44 (fun v7 => ?_)
    refine z_kk (rk := 1) (st := [(0, a2), (0, (wrap (a3.tdiv 24))), (2, a0), (0, v1), (0, (wrap (a3.tdiv 24))), (2, a0)]) (pc' := 48) (fun kk => z_zw (z_callV (n := 3) (pc := 45) (st := [(0, a2), (0, (wrap (a3.tdiv 24))), (2, a0), (0, v1), (0, (wrap (a3.tdiv 24))), (2, a0)]) hX zc10 rfl (fun _ => (mX10_order _ hE _ _ _ _ _ _)) ⟨wd735, wd76, wd757, ⟨by decide, by decide, by decide⟩, by decide⟩ rfl wd736 wd737 rfl rfl (by decide) (Nat.le_of_ble_eq_true rfl) dX2_costIf_45 kk) (z_callU (n := 3) (pc := 45) (x := yX10_order) (owner := "GateRoad$Way") (st := [(0, a2), (0, (wrap (a3.tdiv 24))), (2, a0), (0, v1), (0, (wrap (a3.tdiv 24))), (2, a0)]) hX zc9 rfl (fun _ => (mX10_order _ hE _ _ _ _ _ _)) wd735 wd738 wd736 wd756 wd736 wd76 wd757 wd757 ⟨by decide, by decide, by decide⟩ (by decide) rfl rfl (by decide) (Nat.le_of_ble_eq_true rfl) dX2_costIf_45 kk) (z_callU (n := 3) (pc := 45) (x := yX10_order) (owner := "GateRoad$Way") (st := [(0, a2), (0, (wrap (a3.tdiv 24))), (2, a0), (0, v1), (0, (wrap (a3.tdiv 24))), (2, a0)]) hX zc3 rfl (fun _ => (mX3_order _ hE _ _ _ _ _ _)) wd735 wd738 wd736 wd749 wd743 wd78 wd744 wd757 ⟨by decide, by decide, by decide⟩ (by decide) rfl rfl (by decide) (Nat.le_of_ble_eq_true rfl) dX2_costIf_45 kk) (z_callU (n := 3) (pc := 45) (x := yX10_order) (owner := "GateRoad$Way") (st := [(0, a2), (0, (wrap (a3.tdiv 24))), (2, a0), (0, v1), (0, (wrap (a3.tdiv 24))), (2, a0)]) hX zc0 rfl (fun _ => (mX0_order _ hE _ _ _ _ _ _)) wd735 wd738 wd736 wd739 wd740 wd79 wd741 wd757 ⟨by decide, by decide, by decide⟩ (by decide) rfl rfl (by decide) (Nat.le_of_ble_eq_true rfl) dX2_costIf_45 kk) (z_callU (n := 3) (pc := 45) (x := yX10_order) (owner := "GateRoad$Way") (st := [(0, a2), (0, (wrap (a3.tdiv 24))), (2, a0), (0, v1), (0, (wrap (a3.tdiv 24))), (2, a0)]) hX zc1 rfl (fun _ => (mX1_order _ hE _ _ _ _ _ _)) wd735 wd738 wd736 wd745 wd746 wd80 wd747 wd757 ⟨by decide, by decide, by decide⟩ (by decide) rfl rfl (by decide) (Nat.le_of_ble_eq_true rfl) dX2_costIf_45 kk) (z_callU (n := 3) (pc := 45) (x := yX10_order) (owner := "GateRoad$Way") (st := [(0, a2), (0, (wrap (a3.tdiv 24))), (2, a0), (0, v1), (0, (wrap (a3.tdiv 24))), (2, a0)]) hX zc7 rfl (fun _ => (mX7_order _ hE _ _ _ _ _ _)) wd735 wd738 wd736 wd750 wd751 wd81 wd752 wd757 ⟨by decide, by decide, by decide⟩ (by decide) rfl rfl (by decide) (Nat.le_of_ble_eq_true rfl) dX2_costIf_45 kk)) (fun v8 s9 r10 => ?_)
    show Zj X G 48 [(7, (0, (wrap (a3.tdiv 24)))), (6, (0, (-1))), (5, (0, v1)), (0, (2, a0)), (1, (2, a1)), (2, (0, a2)), (3, (0, a3)), (4, (2, a4))] [(0, v8), (0, a2), (0, (wrap (a3.tdiv 24))), (2, a0), (0, v1), (0, (wrap (a3.tdiv 24))), (2, a0)] _ _
    refine z_callV (n := 3) (st := [(0, v1), (0, (wrap (a3.tdiv 24))), (2, a0)]) (pc := 48) hX zc2 rfl (fun _ => (mX2_aheadOf _ hE _ _ _ _ _ _)) ⟨wd864, wd62, wd867, ⟨by decide, by decide, by decide⟩, by decide⟩ rfl wd866 wd25 rfl rfl (by decide) (Nat.le_of_ble_eq_true rfl) dX2_costIf_48 (fun v12 s13 r14 => ?_)
    show Zj X G 51 [(7, (0, (wrap (a3.tdiv 24)))), (6, (0, (-1))), (5, (0, v1)), (0, (2, a0)), (1, (2, a1)), (2, (0, a2)), (3, (0, a3)), (4, (2, a4))] [(0, v12), (0, v1), (0, (wrap (a3.tdiv 24))), (2, a0)] _ _
    refine z_callV (n := 3) (st := []) (pc := 51) hX zc2 rfl (fun _ => (mX2_minuteAmongOthers _ hE _ _ _ _ _ _)) ⟨wd868, wd62, wd871, ⟨by decide, by decide, by decide⟩, by decide⟩ rfl wd870 wd26 rfl rfl (by decide) (Nat.le_of_ble_eq_true rfl) dX2_costIf_51 (fun v15 s16 r17 => ?_)
    show Zj X G 54 [(7, (0, (wrap (a3.tdiv 24)))), (6, (0, (-1))), (5, (0, v1)), (0, (2, a0)), (1, (2, a1)), (2, (0, a2)), (3, (0, a3)), (4, (2, a4))] [(0, v15)] _ _
    refine z_istore (lv' := [(6, (0, v15)), (7, (0, (wrap (a3.tdiv 24)))), (5, (0, v1)), (0, (2, a0)), (1, (2, a1)), (2, (0, a2)), (3, (0, a3)), (4, (2, a4))]) (pc := 54) hX dX2_costIf_54 (zlt hxn rfl) rfl ?_
    refine z_pick (lv' := [(0, (2, a0)), (1, (2, a1)), (2, (0, a2)), (3, (0, a3)), (4, (2, a4)), (5, (0, v1)), (6, (0, v15))]) [3, 4, 5, 6, 7, 2, 0] rfl ?_
    exact hK56 _ _
