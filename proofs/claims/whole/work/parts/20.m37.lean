theorem dX12_waited_0 : decode cX12_waited 0 = .ok (.aload_n 0, 1) := by decide +kernel
theorem dX12_waited_1 : decode cX12_waited 1 = .ok (.iload_n 1, 1) := by decide +kernel
theorem dX12_waited_2 : decode cX12_waited 2 = .ok (.invokevirtual 254, 3) := by decide +kernel
theorem dX12_waited_5 : decode cX12_waited 5 = .ok (.iconst 0, 1) := by decide +kernel
theorem dX12_waited_6 : decode cX12_waited 6 = .ok (.istore_n 2, 1) := by decide +kernel
theorem dX12_waited_7 : decode cX12_waited 7 = .ok (.iconst 0, 1) := by decide +kernel
theorem dX12_waited_8 : decode cX12_waited 8 = .ok (.istore_n 3, 1) := by decide +kernel
theorem dX12_waited_9 : decode cX12_waited 9 = .ok (.iload_n 3, 1) := by decide +kernel
theorem dX12_waited_10 : decode cX12_waited 10 = .ok (.aload_n 0, 1) := by decide +kernel
theorem dX12_waited_11 : decode cX12_waited 11 = .ok (.getfield 31, 3) := by decide +kernel
theorem dX12_waited_14 : decode cX12_waited 14 = .ok (.iload_n 1, 1) := by decide +kernel
theorem dX12_waited_15 : decode cX12_waited 15 = .ok (.iaload, 1) := by decide +kernel
theorem dX12_waited_16 : decode cX12_waited 16 = .ok (.if_icmp .ge 54, 3) := by decide +kernel
theorem dX12_waited_19 : decode cX12_waited 19 = .ok (.iload_n 2, 1) := by decide +kernel
theorem dX12_waited_20 : decode cX12_waited 20 = .ok (.aload_n 0, 1) := by decide +kernel
theorem dX12_waited_21 : decode cX12_waited 21 = .ok (.getfield 109, 3) := by decide +kernel
theorem dX12_waited_24 : decode cX12_waited 24 = .ok (.iload_n 3, 1) := by decide +kernel
theorem dX12_waited_25 : decode cX12_waited 25 = .ok (.iaload, 1) := by decide +kernel
theorem dX12_waited_26 : decode cX12_waited 26 = .ok (.iconst (-1), 1) := by decide +kernel
theorem dX12_waited_27 : decode cX12_waited 27 = .ok (.if_icmp .ne 7, 3) := by decide +kernel
theorem dX12_waited_30 : decode cX12_waited 30 = .ok (.iconst 0, 1) := by decide +kernel
theorem dX12_waited_31 : decode cX12_waited 31 = .ok (.goto 31, 3) := by decide +kernel
theorem dX12_waited_34 : decode cX12_waited 34 = .ok (.aload_n 0, 1) := by decide +kernel
theorem dX12_waited_35 : decode cX12_waited 35 = .ok (.getfield 112, 3) := by decide +kernel
theorem dX12_waited_38 : decode cX12_waited 38 = .ok (.iload_n 3, 1) := by decide +kernel
theorem dX12_waited_39 : decode cX12_waited 39 = .ok (.iaload, 1) := by decide +kernel
theorem dX12_waited_40 : decode cX12_waited 40 = .ok (.iconst (-1), 1) := by decide +kernel
theorem dX12_waited_41 : decode cX12_waited 41 = .ok (.if_icmp .ne 8, 3) := by decide +kernel
theorem dX12_waited_44 : decode cX12_waited 44 = .ok (.bipush 24, 2) := by decide +kernel
theorem dX12_waited_46 : decode cX12_waited 46 = .ok (.goto 16, 3) := by decide +kernel
theorem dX12_waited_49 : decode cX12_waited 49 = .ok (.aload_n 0, 1) := by decide +kernel
theorem dX12_waited_50 : decode cX12_waited 50 = .ok (.getfield 112, 3) := by decide +kernel
theorem dX12_waited_53 : decode cX12_waited 53 = .ok (.iload_n 3, 1) := by decide +kernel
theorem dX12_waited_54 : decode cX12_waited 54 = .ok (.iaload, 1) := by decide +kernel
theorem dX12_waited_55 : decode cX12_waited 55 = .ok (.aload_n 0, 1) := by decide +kernel
theorem dX12_waited_56 : decode cX12_waited 56 = .ok (.getfield 109, 3) := by decide +kernel
theorem dX12_waited_59 : decode cX12_waited 59 = .ok (.iload_n 3, 1) := by decide +kernel
theorem dX12_waited_60 : decode cX12_waited 60 = .ok (.iaload, 1) := by decide +kernel
theorem dX12_waited_61 : decode cX12_waited 61 = .ok (.isub, 1) := by decide +kernel
theorem dX12_waited_62 : decode cX12_waited 62 = .ok (.iadd, 1) := by decide +kernel
theorem dX12_waited_63 : decode cX12_waited 63 = .ok (.istore_n 2, 1) := by decide +kernel
theorem dX12_waited_64 : decode cX12_waited 64 = .ok (.iinc 3 1, 3) := by decide +kernel
theorem dX12_waited_67 : decode cX12_waited 67 = .ok (.goto (-58), 3) := by decide +kernel
theorem dX12_waited_70 : decode cX12_waited 70 = .ok (.iload_n 2, 1) := by decide +kernel
theorem dX12_waited_71 : decode cX12_waited 71 = .ok (.ireturn, 1) := by decide +kernel
def lX12_waited_9 (u5 u6 : Int)  : Nat → ZS → Int → Int → Option (Int × ZS)
  | 0, _, _, _ => none
  | n1 + 1, s4, x7, x8 => (zg s4 12 u5 10).bind (fun v9 => (zal s4 100 v9 u6).bind (fun v10 => if v10 ≤ x8 then (some (x7, s4)) else ((zg s4 12 u5 41).bind (fun v12 => (zal s4 100 v12 x8).bind (fun v13 => zjn (fun (K62 : ZS → Int → Option (Int × ZS)) => if v13 = (-1) then (K62 s4 0) else ((zg s4 12 u5 42).bind (fun v15 => (zal s4 100 v15 x8).bind (fun v16 => if v16 = (-1) then (K62 s4 24) else ((zg s4 12 u5 42).bind (fun v18 => (zal s4 100 v18 x8).bind (fun v19 => (zg s4 12 u5 41).bind (fun v20 => (zal s4 100 v20 x8).bind (fun v21 => K62 s4 (wrap (v19 - v21))))))))))) (fun (s22 : ZS) (w23 : Int) => lX12_waited_9 u5 u6 n1 s22 (wrap (x7 + w23)) (wrap (x8 + 1))))))))

def fX12_waited (s0 : ZS) (a0 : Int) (a1 : Int) : Option (Int × ZS) := zb (zv s0 12 a0 (fX12_goes s0 a0 a1)) (fun v1 s2 => lX12_waited_9 a0 a1 1000 s2 0 0)
set_option maxHeartbeats 4000000 in
set_option maxRecDepth 100000 in
theorem mX12_waited (E : ZE) (hE : zOkE E) (l : Launch) (s0 : ZS) (a0 : Int) (a1 : Int) : Ct E l yX12_waited cX12_waited 4 (some .int) 8 [(2, a0), (0, a1)] 1 s0 (fX12_waited s0 a0 a1) := by
  refine Ct.of (by decide) hE (Nat.le_of_ble_eq_true rfl) ?_
  intro X G hX hR hN hXE hXl hxn hk _
  subst hXE
  subst hXl
  have hX : G → ZOk X cX12_waited RX12 8 := hX
  clear hN
  show Zj X G 0 [(0, (2, a0)), (1, (0, a1))] [] s0 _
  unfold fX12_waited
  refine z_aload_n (pc := 0) hX 0 dX12_waited_0 rfl rfl ?_
  refine z_iload_n (pc := 1) hX 1 dX12_waited_1 rfl rfl ?_
  refine z_callV (n := 1) (st := []) (pc := 2) hX zc12 rfl (fun _ => (mX12_goes _ hE _ _ _ _)) ⟨wd1288, wd67, wd1291, ⟨by decide, by decide, by decide⟩, by decide⟩ rfl wd1290 wd45 rfl rfl (by decide) (Nat.le_of_ble_eq_true rfl) dX12_waited_2 (fun v1 s2 r3 => ?_)
  show Zj X G 5 [(0, (2, a0)), (1, (0, a1))] [] _ _
  refine z_iconst (pc := 5) hX dX12_waited_5 ?_
  refine z_istore_n (lv' := [(2, (0, 0)), (0, (2, a0)), (1, (0, a1))]) (pc := 6) hX dX12_waited_6 rfl (zlt hxn rfl) rfl ?_
  refine z_iconst (pc := 7) hX dX12_waited_7 ?_
  refine z_istore_n (lv' := [(3, (0, 0)), (2, (0, 0)), (0, (2, a0)), (1, (0, a1))]) (pc := 8) hX dX12_waited_8 rfl (zlt hxn rfl) rfl ?_
  have hl9 : ∀ (u5 u6 : Int), ∀ (n1 : Nat) (s4 : ZS) (x7 x8 : Int), Zj X G 9 [(0, (2, u5)), (1, (0, u6)), (2, (0, x7)), (3, (0, x8))] [] s4 (lX12_waited_9 u5 u6 n1 s4 x7 x8) := by
    intro u5 u6 n1
    induction n1 with
    | zero => intro _ _ _; exact z_none
    | succ n1 ih1 =>
      intro s4 x7 x8
      rw [lX12_waited_9]
      refine z_iload_n (pc := 9) hX 3 dX12_waited_9 rfl rfl ?_
      refine z_aload_n (pc := 10) hX 0 dX12_waited_10 rfl rfl ?_
      refine z_get (pc := 11) hX zc12 10 (by decide) wd1027 rfl rfl dX12_waited_11 (fun v9 => ?_)
      refine z_iload_n (pc := 14) hX 1 dX12_waited_14 rfl rfl ?_
      refine z_iald (pc := 15) hX dX12_waited_15 (fun v10 => ?_)
      refine z_icmp_ge (pc := 16) hX 70 dX12_waited_16 (by decide) (fun h11 => ?_) (fun h11 => ?_)
      · refine z_iload_n (pc := 70) hX 2 dX12_waited_70 rfl rfl ?_
        exact z_iret (pc := 71) hX hR hk dX12_waited_71
      · refine z_iload_n (pc := 19) hX 2 dX12_waited_19 rfl rfl ?_
        refine z_aload_n (pc := 20) hX 0 dX12_waited_20 rfl rfl ?_
        refine z_get (pc := 21) hX zc12 41 (by decide) wd1058 rfl rfl dX12_waited_21 (fun v12 => ?_)
        refine z_iload_n (pc := 24) hX 3 dX12_waited_24 rfl rfl ?_
        refine z_iald (pc := 25) hX dX12_waited_25 (fun v13 => ?_)
        refine z_iconst (pc := 26) hX dX12_waited_26 ?_
        refine z_jn (fun K62 eK62 => ?_)
        have hK62 : ∀ (s22 : ZS) (w23 : Int), Zj X G 62 [(0, (2, u5)), (1, (0, u6)), (3, (0, x8))] [(0, w23), (0, x7)] s22 (K62 s22 w23) := by
          intro s22 w23
          rw [eK62]
          refine z_iadd (pc := 62) hX dX12_waited_62 ?_
          refine z_istore_n (lv' := [(2, (0, (wrap (x7 + w23)))), (0, (2, u5)), (1, (0, u6)), (3, (0, x8))]) (pc := 63) hX dX12_waited_63 rfl (zlt hxn rfl) rfl ?_
          refine z_iinc (lv' := [(3, (0, (wrap (x8 + 1)))), (2, (0, (wrap (x7 + w23)))), (0, (2, u5)), (1, (0, u6))]) (pc := 64) hX 3 dX12_waited_64 rfl (zlt hxn rfl) rfl ?_
          refine z_goto (pc := 67) hX 9 dX12_waited_67 (by decide) ?_
          refine z_pick (lv' := [(0, (2, u5)), (1, (0, u6)), (2, (0, (wrap (x7 + w23)))), (3, (0, (wrap (x8 + 1))))]) [2, 3, 1, 0] rfl ?_
          exact ih1 _ _ _
        clear eK62
        refine z_icmp_ne (pc := 27) hX 34 dX12_waited_27 (by decide) (fun h14 => ?_) (fun h14 => ?_)
        · refine z_aload_n (pc := 34) hX 0 dX12_waited_34 rfl rfl ?_
          refine z_get (pc := 35) hX zc12 42 (by decide) wd1059 rfl rfl dX12_waited_35 (fun v15 => ?_)
          refine z_iload_n (pc := 38) hX 3 dX12_waited_38 rfl rfl ?_
          refine z_iald (pc := 39) hX dX12_waited_39 (fun v16 => ?_)
          refine z_iconst (pc := 40) hX dX12_waited_40 ?_
          refine z_icmp_ne (pc := 41) hX 49 dX12_waited_41 (by decide) (fun h17 => ?_) (fun h17 => ?_)
          · refine z_aload_n (pc := 49) hX 0 dX12_waited_49 rfl rfl ?_
            refine z_get (pc := 50) hX zc12 42 (by decide) wd1059 rfl rfl dX12_waited_50 (fun v18 => ?_)
            refine z_iload_n (pc := 53) hX 3 dX12_waited_53 rfl rfl ?_
            refine z_iald (pc := 54) hX dX12_waited_54 (fun v19 => ?_)
            refine z_aload_n (pc := 55) hX 0 dX12_waited_55 rfl rfl ?_
            refine z_get (pc := 56) hX zc12 41 (by decide) wd1058 rfl rfl dX12_waited_56 (fun v20 => ?_)
            refine z_iload_n (pc := 59) hX 3 dX12_waited_59 rfl rfl ?_
            refine z_iald (pc := 60) hX dX12_waited_60 (fun v21 => ?_)
            refine z_isub (pc := 61) hX dX12_waited_61 ?_
            refine z_pick (lv' := [(0, (2, u5)), (1, (0, u6)), (3, (0, x8))]) [0, 1, 3] rfl ?_
            exact hK62 _ _
          · refine z_bipush (pc := 44) hX dX12_waited_44 ?_
            refine z_goto (pc := 46) hX 62 dX12_waited_46 (by decide) ?_
            refine z_pick (lv' := [(0, (2, u5)), (1, (0, u6)), (3, (0, x8))]) [0, 1, 3] rfl ?_
            exact hK62 _ _
        · refine z_iconst (pc := 30) hX dX12_waited_30 ?_
          refine z_goto (pc := 31) hX 62 dX12_waited_31 (by decide) ?_
          refine z_pick (lv' := [(0, (2, u5)), (1, (0, u6)), (3, (0, x8))]) [0, 1, 3] rfl ?_
          exact hK62 _ _
  refine z_pick (lv' := [(0, (2, a0)), (1, (0, a1)), (2, (0, 0)), (3, (0, 0))]) [2, 3, 1, 0] rfl ?_
  refine hl9 _ _ 1000 _ _ _

theorem dX12_finest_0 : decode cX12_finest 0 = .ok (.aload_n 0, 1) := by decide +kernel
theorem dX12_finest_1 : decode cX12_finest 1 = .ok (.iload_n 1, 1) := by decide +kernel
theorem dX12_finest_2 : decode cX12_finest 2 = .ok (.invokevirtual 217, 3) := by decide +kernel
theorem dX12_finest_5 : decode cX12_finest 5 = .ok (.ifCond .eq 11, 3) := by decide +kernel
theorem dX12_finest_8 : decode cX12_finest 8 = .ok (.iload_n 2, 1) := by decide +kernel
theorem dX12_finest_9 : decode cX12_finest 9 = .ok (.iload_n 3, 1) := by decide +kernel
theorem dX12_finest_10 : decode cX12_finest 10 = .ok (.invokestatic 131, 3) := by decide +kernel
theorem dX12_finest_13 : decode cX12_finest 13 = .ok (.ifCond .ne 6, 3) := by decide +kernel
theorem dX12_finest_16 : decode cX12_finest 16 = .ok (.bipush (-5), 2) := by decide +kernel
theorem dX12_finest_18 : decode cX12_finest 18 = .ok (.ireturn, 1) := by decide +kernel
theorem dX12_finest_19 : decode cX12_finest 19 = .ok (.iload 4, 2) := by decide +kernel
theorem dX12_finest_21 : decode cX12_finest 21 = .ok (.iconst 0, 1) := by decide +kernel
theorem dX12_finest_22 : decode cX12_finest 22 = .ok (.iconst 1, 1) := by decide +kernel
theorem dX12_finest_23 : decode cX12_finest 23 = .ok (.invokestatic 127, 3) := by decide +kernel
theorem dX12_finest_26 : decode cX12_finest 26 = .ok (.ifCond .ne 6, 3) := by decide +kernel
theorem dX12_finest_29 : decode cX12_finest 29 = .ok (.bipush (-7), 2) := by decide +kernel
theorem dX12_finest_31 : decode cX12_finest 31 = .ok (.ireturn, 1) := by decide +kernel
theorem dX12_finest_32 : decode cX12_finest 32 = .ok (.aload_n 0, 1) := by decide +kernel
theorem dX12_finest_33 : decode cX12_finest 33 = .ok (.getfield 13, 3) := by decide +kernel
theorem dX12_finest_36 : decode cX12_finest 36 = .ok (.bipush 24, 2) := by decide +kernel
theorem dX12_finest_38 : decode cX12_finest 38 = .ok (.iload_n 2, 1) := by decide +kernel
theorem dX12_finest_39 : decode cX12_finest 39 = .ok (.imul, 1) := by decide +kernel
theorem dX12_finest_40 : decode cX12_finest 40 = .ok (.iload_n 3, 1) := by decide +kernel
theorem dX12_finest_41 : decode cX12_finest 41 = .ok (.iadd, 1) := by decide +kernel
theorem dX12_finest_42 : decode cX12_finest 42 = .ok (.iaload, 1) := by decide +kernel
theorem dX12_finest_43 : decode cX12_finest 43 = .ok (.istore 5, 2) := by decide +kernel
theorem dX12_finest_45 : decode cX12_finest 45 = .ok (.iconst 0, 1) := by decide +kernel
theorem dX12_finest_46 : decode cX12_finest 46 = .ok (.istore 6, 2) := by decide +kernel
theorem dX12_finest_48 : decode cX12_finest 48 = .ok (.iconst 0, 1) := by decide +kernel
theorem dX12_finest_49 : decode cX12_finest 49 = .ok (.istore 7, 2) := by decide +kernel
theorem dX12_finest_51 : decode cX12_finest 51 = .ok (.iconst 0, 1) := by decide +kernel
theorem dX12_finest_52 : decode cX12_finest 52 = .ok (.istore 8, 2) := by decide +kernel
theorem dX12_finest_54 : decode cX12_finest 54 = .ok (.iload 8, 2) := by decide +kernel
theorem dX12_finest_56 : decode cX12_finest 56 = .ok (.bipush 8, 2) := by decide +kernel
theorem dX12_finest_58 : decode cX12_finest 58 = .ok (.if_icmp .ge 62, 3) := by decide +kernel
theorem dX12_finest_61 : decode cX12_finest 61 = .ok (.aload_n 0, 1) := by decide +kernel
theorem dX12_finest_62 : decode cX12_finest 62 = .ok (.getfield 13, 3) := by decide +kernel
theorem dX12_finest_65 : decode cX12_finest 65 = .ok (.bipush 24, 2) := by decide +kernel
theorem dX12_finest_67 : decode cX12_finest 67 = .ok (.iload_n 2, 1) := by decide +kernel
theorem dX12_finest_68 : decode cX12_finest 68 = .ok (.imul, 1) := by decide +kernel
theorem dX12_finest_69 : decode cX12_finest 69 = .ok (.iload_n 3, 1) := by decide +kernel
theorem dX12_finest_70 : decode cX12_finest 70 = .ok (.iadd, 1) := by decide +kernel
theorem dX12_finest_71 : decode cX12_finest 71 = .ok (.iload 8, 2) := by decide +kernel
theorem dX12_finest_73 : decode cX12_finest 73 = .ok (.iastore, 1) := by decide +kernel
theorem dX12_finest_74 : decode cX12_finest 74 = .ok (.aload_n 0, 1) := by decide +kernel
theorem dX12_finest_75 : decode cX12_finest 75 = .ok (.iload_n 1, 1) := by decide +kernel
theorem dX12_finest_76 : decode cX12_finest 76 = .ok (.invokevirtual 251, 3) := by decide +kernel
theorem dX12_finest_79 : decode cX12_finest 79 = .ok (.aload_n 0, 1) := by decide +kernel
theorem dX12_finest_80 : decode cX12_finest 80 = .ok (.iload_n 1, 1) := by decide +kernel
theorem dX12_finest_81 : decode cX12_finest 81 = .ok (.iload 4, 2) := by decide +kernel
theorem dX12_finest_83 : decode cX12_finest 83 = .ok (.invokevirtual 284, 3) := by decide +kernel
theorem dX12_finest_86 : decode cX12_finest 86 = .ok (.pop, 1) := by decide +kernel
theorem dX12_finest_87 : decode cX12_finest 87 = .ok (.aload_n 0, 1) := by decide +kernel
theorem dX12_finest_88 : decode cX12_finest 88 = .ok (.iload_n 1, 1) := by decide +kernel
theorem dX12_finest_89 : decode cX12_finest 89 = .ok (.invokevirtual 297, 3) := by decide +kernel
theorem dX12_finest_92 : decode cX12_finest 92 = .ok (.istore 9, 2) := by decide +kernel
theorem dX12_finest_94 : decode cX12_finest 94 = .ok (.iload 8, 2) := by decide +kernel
theorem dX12_finest_96 : decode cX12_finest 96 = .ok (.ifCond .eq 10, 3) := by decide +kernel
theorem dX12_finest_99 : decode cX12_finest 99 = .ok (.iload 9, 2) := by decide +kernel
theorem dX12_finest_101 : decode cX12_finest 101 = .ok (.iload 7, 2) := by decide +kernel
theorem dX12_finest_103 : decode cX12_finest 103 = .ok (.if_icmp .ge 11, 3) := by decide +kernel
theorem dX12_finest_106 : decode cX12_finest 106 = .ok (.iload 8, 2) := by decide +kernel
theorem dX12_finest_108 : decode cX12_finest 108 = .ok (.istore 6, 2) := by decide +kernel
theorem dX12_finest_110 : decode cX12_finest 110 = .ok (.iload 9, 2) := by decide +kernel
theorem dX12_finest_112 : decode cX12_finest 112 = .ok (.istore 7, 2) := by decide +kernel
theorem dX12_finest_114 : decode cX12_finest 114 = .ok (.iinc 8 1, 3) := by decide +kernel
theorem dX12_finest_117 : decode cX12_finest 117 = .ok (.goto (-63), 3) := by decide +kernel
theorem dX12_finest_120 : decode cX12_finest 120 = .ok (.aload_n 0, 1) := by decide +kernel
theorem dX12_finest_121 : decode cX12_finest 121 = .ok (.getfield 13, 3) := by decide +kernel
theorem dX12_finest_124 : decode cX12_finest 124 = .ok (.bipush 24, 2) := by decide +kernel
theorem dX12_finest_126 : decode cX12_finest 126 = .ok (.iload_n 2, 1) := by decide +kernel
theorem dX12_finest_127 : decode cX12_finest 127 = .ok (.imul, 1) := by decide +kernel
theorem dX12_finest_128 : decode cX12_finest 128 = .ok (.iload_n 3, 1) := by decide +kernel
theorem dX12_finest_129 : decode cX12_finest 129 = .ok (.iadd, 1) := by decide +kernel
theorem dX12_finest_130 : decode cX12_finest 130 = .ok (.iload 5, 2) := by decide +kernel
theorem dX12_finest_132 : decode cX12_finest 132 = .ok (.iastore, 1) := by decide +kernel
theorem dX12_finest_133 : decode cX12_finest 133 = .ok (.iload 6, 2) := by decide +kernel
theorem dX12_finest_135 : decode cX12_finest 135 = .ok (.ireturn, 1) := by decide +kernel
def lX12_finest_54 (u16 u17 u18 u19 u20 u21 : Int) (K120 : ZS → Int → Option (Int × ZS)) : Nat → ZS → Int → Int → Int → Option (Int × ZS)
  | 0, _, _, _, _ => none
  | n1 + 1, s15, x22, x23, x24 => if 8 ≤ x24 then (K120 s15 x22) else ((zg s15 12 u16 1).bind (fun v26 => (zas s15 100 v26 (wrap ((wrap (24 * u18)) + u19)) x24).bind (fun s27 => zb (zv s27 12 u16 (fX12_lays s27 u16 u17)) (fun v28 s29 => zb (zv s29 12 u16 (fX12_moves s29 u16 u17 u20)) (fun v31 s32 => zb (zv s32 12 u16 (fX12_waited s32 u16 u17)) (fun v34 s35 => zjn (fun (K114 : ZS → Int → Int → Option (Int × ZS)) => zjn (fun (K106 : ZS → Option (Int × ZS)) => if x24 = 0 then (K106 s35) else (if x23 ≤ v34 then (K114 s35 x22 x23) else (K106 s35))) (fun (s39 : ZS) => K114 s39 x24 v34)) (fun (s40 : ZS) (x41 x42 : Int) => lX12_finest_54 u16 u17 u18 u19 u20 u21 K120 n1 s40 x41 x42 (wrap (x24 + 1)))))))))

def fX12_finest (s0 : ZS) (a0 : Int) (a1 : Int) (a2 : Int) (a3 : Int) (a4 : Int) : Option (Int × ZS) := zb (zv s0 12 a0 (fX12_isWay s0 a0 a1)) (fun v1 s2 => if v1 = 0 then (some ((-5), s2)) else (zb (fX12_isGate s2 a2 a3) (fun v5 s6 => if v5 = 0 then (some ((-5), s6)) else (zb (fX12_in s6 a4 0 1) (fun v9 s10 => if v9 = 0 then (some ((-7), s10)) else ((zg s10 12 a0 1).bind (fun v13 => (zal s10 100 v13 (wrap ((wrap (24 * a2)) + a3))).bind (fun v14 => lX12_finest_54 a0 a1 a2 a3 a4 v14 (fun (s45 : ZS) (x46 : Int) => (zg s45 12 a0 1).bind (fun v47 => (zas s45 100 v47 (wrap ((wrap (24 * a2)) + a3)) v14).bind (fun s48 => some (x46, s48)))) 1000 s10 0 0 0))))))))
set_option maxHeartbeats 4000000 in
set_option maxRecDepth 100000 in
theorem mX12_finest (E : ZE) (hE : zOkE E) (l : Launch) (s0 : ZS) (a0 : Int) (a1 : Int) (a2 : Int) (a3 : Int) (a4 : Int) : Ct E l yX12_finest cX12_finest 10 (some .int) 14 [(2, a0), (0, a1), (0, a2), (0, a3), (0, a4)] 1 s0 (fX12_finest s0 a0 a1 a2 a3 a4) := by
  refine Ct.of (by decide) hE (Nat.le_of_ble_eq_true rfl) ?_
  intro X G hX hR hN hXE hXl hxn hk _
  subst hXE
  subst hXl
  have hX : G → ZOk X cX12_finest RX12 14 := hX
  clear hN
  show Zj X G 0 [(0, (2, a0)), (1, (0, a1)), (2, (0, a2)), (3, (0, a3)), (4, (0, a4))] [] s0 _
  unfold fX12_finest
  refine z_aload_n (pc := 0) hX 0 dX12_finest_0 rfl rfl ?_
  refine z_iload_n (pc := 1) hX 1 dX12_finest_1 rfl rfl ?_
  refine z_callV (n := 1) (st := []) (pc := 2) hX zc12 rfl (fun _ => (mX12_isWay _ hE _ _ _ _)) ⟨wd1268, wd67, wd1271, ⟨by decide, by decide, by decide⟩, by decide⟩ rfl wd1270 wd42 rfl rfl (by decide) (Nat.le_of_ble_eq_true rfl) dX12_finest_2 (fun v1 s2 r3 => ?_)
  show Zj X G 5 [(0, (2, a0)), (1, (0, a1)), (2, (0, a2)), (3, (0, a3)), (4, (0, a4))] [(0, v1)] _ _
  refine z_if_eq (pc := 5) hX 16 dX12_finest_5 (by decide) (fun h4 => ?_) (fun h4 => ?_)
  · refine z_bipush (pc := 16) hX dX12_finest_16 ?_
    exact z_iret (pc := 18) hX hR hk dX12_finest_18
  · refine z_iload_n (pc := 8) hX 2 dX12_finest_8 rfl rfl ?_
    refine z_iload_n (pc := 9) hX 3 dX12_finest_9 rfl rfl ?_
    refine z_callS (n := 2) (st := []) (pc := 10) hX (mX12_isGate _ hE _ _ _ _) ⟨wd1170, wd67, wd1172, ⟨by decide, by decide, by decide⟩, by decide⟩ wd1171 rfl rfl (by decide) (Nat.le_of_ble_eq_true rfl) dX12_finest_10 (fun v5 s6 r7 => ?_)
    show Zj X G 13 [(0, (2, a0)), (1, (0, a1)), (2, (0, a2)), (3, (0, a3)), (4, (0, a4))] [(0, v5)] _ _
    refine z_if_ne (pc := 13) hX 19 dX12_finest_13 (by decide) (fun h8 => ?_) (fun h8 => ?_)
    · refine z_iload (pc := 19) hX 4 dX12_finest_19 rfl ?_
      refine z_iconst (pc := 21) hX dX12_finest_21 ?_
      refine z_iconst (pc := 22) hX dX12_finest_22 ?_
      refine z_callS (n := 3) (st := []) (pc := 23) hX (mX12_in _ hE _ _ _ _ _) ⟨wd1173, wd67, wd1175, ⟨by decide, by decide, by decide⟩, by decide⟩ wd1174 rfl rfl (by decide) (Nat.le_of_ble_eq_true rfl) dX12_finest_23 (fun v9 s10 r11 => ?_)
      show Zj X G 26 [(0, (2, a0)), (1, (0, a1)), (2, (0, a2)), (3, (0, a3)), (4, (0, a4))] [(0, v9)] _ _
      refine z_if_ne (pc := 26) hX 32 dX12_finest_26 (by decide) (fun h12 => ?_) (fun h12 => ?_)
      · refine z_aload_n (pc := 32) hX 0 dX12_finest_32 rfl rfl ?_
        refine z_get (pc := 33) hX zc12 1 (by decide) wd1018 rfl rfl dX12_finest_33 (fun v13 => ?_)
        refine z_bipush (pc := 36) hX dX12_finest_36 ?_
        refine z_iload_n (pc := 38) hX 2 dX12_finest_38 rfl rfl ?_
        refine z_imul (pc := 39) hX dX12_finest_39 ?_
        refine z_iload_n (pc := 40) hX 3 dX12_finest_40 rfl rfl ?_
        refine z_iadd (pc := 41) hX dX12_finest_41 ?_
        refine z_iald (pc := 42) hX dX12_finest_42 (fun v14 => ?_)
        refine z_istore (lv' := [(5, (0, v14)), (0, (2, a0)), (1, (0, a1)), (2, (0, a2)), (3, (0, a3)), (4, (0, a4))]) (pc := 43) hX dX12_finest_43 (zlt hxn rfl) rfl ?_
        refine z_iconst (pc := 45) hX dX12_finest_45 ?_
        refine z_istore (lv' := [(6, (0, 0)), (5, (0, v14)), (0, (2, a0)), (1, (0, a1)), (2, (0, a2)), (3, (0, a3)), (4, (0, a4))]) (pc := 46) hX dX12_finest_46 (zlt hxn rfl) rfl ?_
        refine z_iconst (pc := 48) hX dX12_finest_48 ?_
        refine z_istore (lv' := [(7, (0, 0)), (6, (0, 0)), (5, (0, v14)), (0, (2, a0)), (1, (0, a1)), (2, (0, a2)), (3, (0, a3)), (4, (0, a4))]) (pc := 49) hX dX12_finest_49 (zlt hxn rfl) rfl ?_
        refine z_iconst (pc := 51) hX dX12_finest_51 ?_
        refine z_istore (lv' := [(8, (0, 0)), (7, (0, 0)), (6, (0, 0)), (5, (0, v14)), (0, (2, a0)), (1, (0, a1)), (2, (0, a2)), (3, (0, a3)), (4, (0, a4))]) (pc := 52) hX dX12_finest_52 (zlt hxn rfl) rfl ?_
        have hl54 : ∀ (u16 u17 u18 u19 u20 u21 : Int), ∀ (K120 : ZS → Int → Option (Int × ZS)), (∀ (s43 : ZS) (x44 : Int), Zj X G 120 [(0, (2, u16)), (2, (0, u18)), (3, (0, u19)), (5, (0, u21)), (6, (0, x44))] [] s43 (K120 s43 x44)) → ∀ (n1 : Nat) (s15 : ZS) (x22 x23 x24 : Int), Zj X G 54 [(0, (2, u16)), (1, (0, u17)), (2, (0, u18)), (3, (0, u19)), (4, (0, u20)), (5, (0, u21)), (6, (0, x22)), (7, (0, x23)), (8, (0, x24))] [] s15 (lX12_finest_54 u16 u17 u18 u19 u20 u21 K120 n1 s15 x22 x23 x24) := by
          intro u16 u17 u18 u19 u20 u21 K120 hK120 n1
          induction n1 with
          | zero => intro _ _ _ _; exact z_none
          | succ n1 ih1 =>
            intro s15 x22 x23 x24
            rw [lX12_finest_54]
            refine z_iload (pc := 54) hX 8 dX12_finest_54 rfl ?_
            refine z_bipush (pc := 56) hX dX12_finest_56 ?_
            refine z_icmp_ge (pc := 58) hX 120 dX12_finest_58 (by decide) (fun h25 => ?_) (fun h25 => ?_)
            · refine z_pick (lv' := [(0, (2, u16)), (2, (0, u18)), (3, (0, u19)), (5, (0, u21)), (6, (0, x22))]) [0, 2, 3, 5, 6] rfl ?_
              exact hK120 _ _
            · refine z_aload_n (pc := 61) hX 0 dX12_finest_61 rfl rfl ?_
              refine z_get (pc := 62) hX zc12 1 (by decide) wd1018 rfl rfl dX12_finest_62 (fun v26 => ?_)
              refine z_bipush (pc := 65) hX dX12_finest_65 ?_
              refine z_iload_n (pc := 67) hX 2 dX12_finest_67 rfl rfl ?_
              refine z_imul (pc := 68) hX dX12_finest_68 ?_
              refine z_iload_n (pc := 69) hX 3 dX12_finest_69 rfl rfl ?_
              refine z_iadd (pc := 70) hX dX12_finest_70 ?_
              refine z_iload (pc := 71) hX 8 dX12_finest_71 rfl ?_
              refine z_iastA (pc := 73) hX dX12_finest_73 (fun s27 => ?_)
              refine z_aload_n (pc := 74) hX 0 dX12_finest_74 rfl rfl ?_
              refine z_iload_n (pc := 75) hX 1 dX12_finest_75 rfl rfl ?_
              refine z_callV (n := 1) (st := []) (pc := 76) hX zc12 rfl (fun _ => (mX12_lays _ hE _ _ _ _)) ⟨wd1284, wd67, wd1287, ⟨by decide, by decide, by decide⟩, by decide⟩ rfl wd1286 wd44 rfl rfl (by decide) (Nat.le_of_ble_eq_true rfl) dX12_finest_76 (fun v28 s29 r30 => ?_)
              show Zj X G 79 [(0, (2, u16)), (1, (0, u17)), (2, (0, u18)), (3, (0, u19)), (4, (0, u20)), (5, (0, u21)), (6, (0, x22)), (7, (0, x23)), (8, (0, x24))] [] _ _
              refine z_aload_n (pc := 79) hX 0 dX12_finest_79 rfl rfl ?_
              refine z_iload_n (pc := 80) hX 1 dX12_finest_80 rfl rfl ?_
              refine z_iload (pc := 81) hX 4 dX12_finest_81 rfl ?_
              refine z_callV (n := 2) (st := []) (pc := 83) hX zc12 rfl (fun _ => (mX12_moves _ hE _ _ _ _ _)) ⟨wd1363, wd67, wd1366, ⟨by decide, by decide, by decide⟩, by decide⟩ rfl wd1365 wd57 rfl rfl (by decide) (Nat.le_of_ble_eq_true rfl) dX12_finest_83 (fun v31 s32 r33 => ?_)
              show Zj X G 86 [(0, (2, u16)), (1, (0, u17)), (2, (0, u18)), (3, (0, u19)), (4, (0, u20)), (5, (0, u21)), (6, (0, x22)), (7, (0, x23)), (8, (0, x24))] [(0, v31)] _ _
              refine z_pop (pc := 86) hX zn0 dX12_finest_86 ?_
              refine z_aload_n (pc := 87) hX 0 dX12_finest_87 rfl rfl ?_
              refine z_iload_n (pc := 88) hX 1 dX12_finest_88 rfl rfl ?_
              refine z_callV (n := 1) (st := []) (pc := 89) hX zc12 rfl (fun _ => (mX12_waited _ hE _ _ _ _)) ⟨wd1399, wd67, wd1402, ⟨by decide, by decide, by decide⟩, by decide⟩ rfl wd1401 wd59 rfl rfl (by decide) (Nat.le_of_ble_eq_true rfl) dX12_finest_89 (fun v34 s35 r36 => ?_)
              show Zj X G 92 [(0, (2, u16)), (1, (0, u17)), (2, (0, u18)), (3, (0, u19)), (4, (0, u20)), (5, (0, u21)), (6, (0, x22)), (7, (0, x23)), (8, (0, x24))] [(0, v34)] _ _
              refine z_istore (lv' := [(9, (0, v34)), (0, (2, u16)), (1, (0, u17)), (2, (0, u18)), (3, (0, u19)), (4, (0, u20)), (5, (0, u21)), (6, (0, x22)), (7, (0, x23)), (8, (0, x24))]) (pc := 92) hX dX12_finest_92 (zlt hxn rfl) rfl ?_
              refine z_iload (pc := 94) hX 9 dX12_finest_94 rfl ?_
              refine z_jn (fun K114 eK114 => ?_)
              have hK114 : ∀ (s40 : ZS) (x41 x42 : Int), Zj X G 114 [(0, (2, u16)), (1, (0, u17)), (2, (0, u18)), (3, (0, u19)), (4, (0, u20)), (5, (0, u21)), (6, (0, x41)), (7, (0, x42)), (8, (0, x24))] [] s40 (K114 s40 x41 x42) := by
                intro s40 x41 x42
                rw [eK114]
                refine z_iinc (lv' := [(8, (0, (wrap (x24 + 1)))), (0, (2, u16)), (1, (0, u17)), (2, (0, u18)), (3, (0, u19)), (4, (0, u20)), (5, (0, u21)), (6, (0, x41)), (7, (0, x42))]) (pc := 114) hX 8 dX12_finest_114 rfl (zlt hxn rfl) rfl ?_
                refine z_goto (pc := 117) hX 54 dX12_finest_117 (by decide) ?_
                refine z_pick (lv' := [(0, (2, u16)), (1, (0, u17)), (2, (0, u18)), (3, (0, u19)), (4, (0, u20)), (5, (0, u21)), (6, (0, x41)), (7, (0, x42)), (8, (0, (wrap (x24 + 1))))]) [1, 2, 3, 4, 5, 6, 7, 8, 0] rfl ?_
                exact ih1 _ _ _ _
              clear eK114
              refine z_jn (fun K106 eK106 => ?_)
              have hK106 : ∀ (s39 : ZS), Zj X G 106 [(0, (2, u16)), (1, (0, u17)), (2, (0, u18)), (3, (0, u19)), (4, (0, u20)), (5, (0, u21)), (8, (0, x24)), (9, (0, v34))] [] s39 (K106 s39) := by
                intro s39
                rw [eK106]
                refine z_iload (pc := 106) hX 6 dX12_finest_106 rfl ?_
                refine z_istore (lv' := [(6, (0, x24)), (0, (2, u16)), (1, (0, u17)), (2, (0, u18)), (3, (0, u19)), (4, (0, u20)), (5, (0, u21)), (8, (0, x24)), (9, (0, v34))]) (pc := 108) hX dX12_finest_108 (zlt hxn rfl) rfl ?_
                refine z_iload (pc := 110) hX 8 dX12_finest_110 rfl ?_
                refine z_istore (lv' := [(7, (0, v34)), (6, (0, x24)), (0, (2, u16)), (1, (0, u17)), (2, (0, u18)), (3, (0, u19)), (4, (0, u20)), (5, (0, u21)), (8, (0, x24)), (9, (0, v34))]) (pc := 112) hX dX12_finest_112 (zlt hxn rfl) rfl ?_
                refine z_pick (lv' := [(0, (2, u16)), (1, (0, u17)), (2, (0, u18)), (3, (0, u19)), (4, (0, u20)), (5, (0, u21)), (6, (0, x24)), (7, (0, v34)), (8, (0, x24))]) [2, 3, 4, 5, 6, 7, 1, 0, 8] rfl ?_
                exact hK114 _ _ _
              clear eK106
              refine z_if_eq (pc := 96) hX 106 dX12_finest_96 (by decide) (fun h37 => ?_) (fun h37 => ?_)
              · refine z_pick (lv' := [(0, (2, u16)), (1, (0, u17)), (2, (0, u18)), (3, (0, u19)), (4, (0, u20)), (5, (0, u21)), (8, (0, x24)), (9, (0, v34))]) [1, 2, 3, 4, 5, 6, 9, 0] rfl ?_
                exact hK106 _
              · refine z_iload (pc := 99) hX 0 dX12_finest_99 rfl ?_
                refine z_iload (pc := 101) hX 8 dX12_finest_101 rfl ?_
                refine z_icmp_ge (pc := 103) hX 114 dX12_finest_103 (by decide) (fun h38 => ?_) (fun h38 => ?_)
                · refine z_pick (lv' := [(0, (2, u16)), (1, (0, u17)), (2, (0, u18)), (3, (0, u19)), (4, (0, u20)), (5, (0, u21)), (6, (0, x22)), (7, (0, x23)), (8, (0, x24))]) [1, 2, 3, 4, 5, 6, 7, 8, 9] rfl ?_
                  exact hK114 _ _ _
                · refine z_pick (lv' := [(0, (2, u16)), (1, (0, u17)), (2, (0, u18)), (3, (0, u19)), (4, (0, u20)), (5, (0, u21)), (8, (0, x24)), (9, (0, v34))]) [1, 2, 3, 4, 5, 6, 9, 0] rfl ?_
                  exact hK106 _
        refine z_pick (lv' := [(0, (2, a0)), (1, (0, a1)), (2, (0, a2)), (3, (0, a3)), (4, (0, a4)), (5, (0, v14)), (6, (0, 0)), (7, (0, 0)), (8, (0, 0))]) [4, 5, 6, 7, 8, 3, 2, 1, 0] rfl ?_
        refine hl54 _ _ _ _ _ _ _ (fun s45 x46 => ?_) 1000 _ _ _ _
        refine z_aload_n (pc := 120) hX 0 dX12_finest_120 rfl rfl ?_
        refine z_get (pc := 121) hX zc12 1 (by decide) wd1018 rfl rfl dX12_finest_121 (fun v47 => ?_)
        refine z_bipush (pc := 124) hX dX12_finest_124 ?_
        refine z_iload_n (pc := 126) hX 1 dX12_finest_126 rfl rfl ?_
        refine z_imul (pc := 127) hX dX12_finest_127 ?_
        refine z_iload_n (pc := 128) hX 2 dX12_finest_128 rfl rfl ?_
        refine z_iadd (pc := 129) hX dX12_finest_129 ?_
        refine z_iload (pc := 130) hX 3 dX12_finest_130 rfl ?_
        refine z_iastA (pc := 132) hX dX12_finest_132 (fun s48 => ?_)
        refine z_iload (pc := 133) hX 4 dX12_finest_133 rfl ?_
        exact z_iret (pc := 135) hX hR hk dX12_finest_135
      · refine z_bipush (pc := 29) hX dX12_finest_29 ?_
        exact z_iret (pc := 31) hX hR hk dX12_finest_31
    · refine z_bipush (pc := 16) hX dX12_finest_16 ?_
      exact z_iret (pc := 18) hX hR hk dX12_finest_18

theorem dX10_divide_0 : decode cX10_divide 0 = .ok (.iconst 0, 1) := by decide +kernel
theorem dX10_divide_1 : decode cX10_divide 1 = .ok (.istore 4, 2) := by decide +kernel
theorem dX10_divide_3 : decode cX10_divide 3 = .ok (.iload 4, 2) := by decide +kernel
theorem dX10_divide_5 : decode cX10_divide 5 = .ok (.aload_n 0, 1) := by decide +kernel
theorem dX10_divide_6 : decode cX10_divide 6 = .ok (.getfield 18, 3) := by decide +kernel
theorem dX10_divide_9 : decode cX10_divide 9 = .ok (.if_icmp .ge 27, 3) := by decide +kernel
theorem dX10_divide_12 : decode cX10_divide 12 = .ok (.aload_n 0, 1) := by decide +kernel
theorem dX10_divide_13 : decode cX10_divide 13 = .ok (.getfield 9, 3) := by decide +kernel
theorem dX10_divide_16 : decode cX10_divide 16 = .ok (.iload 4, 2) := by decide +kernel
theorem dX10_divide_18 : decode cX10_divide 18 = .ok (.iload 4, 2) := by decide +kernel
theorem dX10_divide_20 : decode cX10_divide 20 = .ok (.iload_n 1, 1) := by decide +kernel
theorem dX10_divide_21 : decode cX10_divide 21 = .ok (.if_icmp .ge 7, 3) := by decide +kernel
theorem dX10_divide_24 : decode cX10_divide 24 = .ok (.iload_n 2, 1) := by decide +kernel
theorem dX10_divide_25 : decode cX10_divide 25 = .ok (.goto 4, 3) := by decide +kernel
theorem dX10_divide_28 : decode cX10_divide 28 = .ok (.iload_n 3, 1) := by decide +kernel
theorem dX10_divide_29 : decode cX10_divide 29 = .ok (.iastore, 1) := by decide +kernel
theorem dX10_divide_30 : decode cX10_divide 30 = .ok (.iinc 4 1, 3) := by decide +kernel
theorem dX10_divide_33 : decode cX10_divide 33 = .ok (.goto (-30), 3) := by decide +kernel
theorem dX10_divide_36 : decode cX10_divide 36 = .ok (.return_, 1) := by decide +kernel
def lX10_divide_3 (u2 u3 u4 u5 : Int)  : Nat → ZS → Int → Option (Int × ZS)
  | 0, _, _ => none
  | n1 + 1, s1, x6 => (zgw s1 u2 0).bind (fun v7 => if v7 ≤ x6 then (some (0, s1)) else ((zgw s1 u2 1).bind (fun v9 => zjn (fun (K29 : ZS → Int → Option (Int × ZS)) => if u3 ≤ x6 then (K29 s1 u5) else (K29 s1 u4)) (fun (s11 : ZS) (w12 : Int) => (zas s11 100 v9 x6 w12).bind (fun s13 => lX10_divide_3 u2 u3 u4 u5 n1 s13 (wrap (x6 + 1)))))))

def fX10_divide (s0 : ZS) (a0 : Int) (a1 : Int) (a2 : Int) (a3 : Int) : Option (Int × ZS) := lX10_divide_3 a0 a1 a2 a3 1000 s0 0
set_option maxHeartbeats 4000000 in
set_option maxRecDepth 100000 in
theorem mX10_divide (E : ZE) (hE : zOkE E) (l : Launch) (s0 : ZS) (a0 : Int) (a1 : Int) (a2 : Int) (a3 : Int) : Ct E l yX10_divide cX10_divide 5 none 2 [(2, a0), (0, a1), (0, a2), (0, a3)] 0 s0 (fX10_divide s0 a0 a1 a2 a3) := by
  refine Ct.of (by decide) hE (Nat.le_of_ble_eq_true rfl) ?_
  intro X G hX hR hN hXE hXl hxn hk _
  subst hXE
  subst hXl
  have hX : G → ZOk X cX10_divide RX10 2 := hX
  clear hN
  show Zj X G 0 [(0, (2, a0)), (1, (0, a1)), (2, (0, a2)), (3, (0, a3))] [] s0 _
  unfold fX10_divide
  refine z_iconst (pc := 0) hX dX10_divide_0 ?_
  refine z_istore (lv' := [(4, (0, 0)), (0, (2, a0)), (1, (0, a1)), (2, (0, a2)), (3, (0, a3))]) (pc := 1) hX dX10_divide_1 (zlt hxn rfl) rfl ?_
  have hl3 : ∀ (u2 u3 u4 u5 : Int), ∀ (n1 : Nat) (s1 : ZS) (x6 : Int), Zj X G 3 [(0, (2, u2)), (1, (0, u3)), (2, (0, u4)), (3, (0, u5)), (4, (0, x6))] [] s1 (lX10_divide_3 u2 u3 u4 u5 n1 s1 x6) := by
    intro u2 u3 u4 u5 n1
    induction n1 with
    | zero => intro _ _; exact z_none
    | succ n1 ih1 =>
      intro s1 x6
      rw [lX10_divide_3]
      refine z_iload (pc := 3) hX 4 dX10_divide_3 rfl ?_
      refine z_aload_n (pc := 5) hX 0 dX10_divide_5 rfl rfl ?_
      refine z_getw (pc := 6) hX zc10 zc9 zc3 zc0 zc1 zc7 0 (by decide) wd615 rfl rfl rfl rfl rfl rfl rfl rfl rfl rfl rfl rfl rfl dX10_divide_6 (fun v7 => ?_)
      refine z_icmp_ge (pc := 9) hX 36 dX10_divide_9 (by decide) (fun h8 => ?_) (fun h8 => ?_)
      · exact z_vret (pc := 36) hX hR hk dX10_divide_36
      · refine z_aload_n (pc := 12) hX 0 dX10_divide_12 rfl rfl ?_
        refine z_getw (pc := 13) hX zc10 zc9 zc3 zc0 zc1 zc7 1 (by decide) wd618 rfl rfl rfl rfl rfl rfl rfl rfl rfl rfl rfl rfl rfl dX10_divide_13 (fun v9 => ?_)
        refine z_iload (pc := 16) hX 4 dX10_divide_16 rfl ?_
        refine z_iload (pc := 18) hX 4 dX10_divide_18 rfl ?_
        refine z_iload_n (pc := 20) hX 1 dX10_divide_20 rfl rfl ?_
        refine z_jn (fun K29 eK29 => ?_)
        have hK29 : ∀ (s11 : ZS) (w12 : Int), Zj X G 29 [(0, (2, u2)), (1, (0, u3)), (2, (0, u4)), (3, (0, u5)), (4, (0, x6))] [(0, w12), (0, x6), (2, v9)] s11 (K29 s11 w12) := by
          intro s11 w12
          rw [eK29]
          refine z_iastA (pc := 29) hX dX10_divide_29 (fun s13 => ?_)
          refine z_iinc (lv' := [(4, (0, (wrap (x6 + 1)))), (0, (2, u2)), (1, (0, u3)), (2, (0, u4)), (3, (0, u5))]) (pc := 30) hX 4 dX10_divide_30 rfl (zlt hxn rfl) rfl ?_
          refine z_goto (pc := 33) hX 3 dX10_divide_33 (by decide) ?_
          refine z_pick (lv' := [(0, (2, u2)), (1, (0, u3)), (2, (0, u4)), (3, (0, u5)), (4, (0, (wrap (x6 + 1))))]) [1, 2, 3, 4, 0] rfl ?_
          exact ih1 _ _
        clear eK29
        refine z_icmp_ge (pc := 21) hX 28 dX10_divide_21 (by decide) (fun h10 => ?_) (fun h10 => ?_)
        · refine z_iload_n (pc := 28) hX 3 dX10_divide_28 rfl rfl ?_
          exact hK29 _ _
        · refine z_iload_n (pc := 24) hX 2 dX10_divide_24 rfl rfl ?_
          refine z_goto (pc := 25) hX 29 dX10_divide_25 (by decide) ?_
          exact hK29 _ _
  refine z_pick (lv' := [(0, (2, a0)), (1, (0, a1)), (2, (0, a2)), (3, (0, a3)), (4, (0, 0))]) [1, 2, 3, 4, 0] rfl ?_
  refine hl3 _ _ _ _ 1000 _ _
