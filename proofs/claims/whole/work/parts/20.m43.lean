theorem dX11_rates_0 : decode cX11_rates 0 = .ok (.iload_n 1, 1) := by decide +kernel
theorem dX11_rates_1 : decode cX11_rates 1 = .ok (.invokestatic 148, 3) := by decide +kernel
theorem dX11_rates_4 : decode cX11_rates 4 = .ok (.ifCond .eq 21, 3) := by decide +kernel
theorem dX11_rates_7 : decode cX11_rates 7 = .ok (.iload_n 2, 1) := by decide +kernel
theorem dX11_rates_8 : decode cX11_rates 8 = .ok (.iconst 2, 1) := by decide +kernel
theorem dX11_rates_9 : decode cX11_rates 9 = .ok (.invokestatic 102, 3) := by decide +kernel
theorem dX11_rates_12 : decode cX11_rates 12 = .ok (.ifCond .eq 13, 3) := by decide +kernel
theorem dX11_rates_15 : decode cX11_rates 15 = .ok (.iload 4, 2) := by decide +kernel
theorem dX11_rates_17 : decode cX11_rates 17 = .ok (.bipush 10, 2) := by decide +kernel
theorem dX11_rates_19 : decode cX11_rates 19 = .ok (.invokestatic 102, 3) := by decide +kernel
theorem dX11_rates_22 : decode cX11_rates 22 = .ok (.ifCond .ne 6, 3) := by decide +kernel
theorem dX11_rates_25 : decode cX11_rates 25 = .ok (.bipush (-2), 2) := by decide +kernel
theorem dX11_rates_27 : decode cX11_rates 27 = .ok (.ireturn, 1) := by decide +kernel
theorem dX11_rates_28 : decode cX11_rates 28 = .ok (.aload_n 0, 1) := by decide +kernel
theorem dX11_rates_29 : decode cX11_rates 29 = .ok (.getfield 52, 3) := by decide +kernel
theorem dX11_rates_32 : decode cX11_rates 32 = .ok (.iload_n 1, 1) := by decide +kernel
theorem dX11_rates_33 : decode cX11_rates 33 = .ok (.aaload, 1) := by decide +kernel
theorem dX11_rates_34 : decode cX11_rates 34 = .ok (.astore 5, 2) := by decide +kernel
theorem dX11_rates_36 : decode cX11_rates 36 = .ok (.aload 5, 2) := by decide +kernel
theorem dX11_rates_38 : decode cX11_rates 38 = .ok (.invokevirtual 151, 3) := by decide +kernel
theorem dX11_rates_41 : decode cX11_rates 41 = .ok (.ifCond .eq 6, 3) := by decide +kernel
theorem dX11_rates_44 : decode cX11_rates 44 = .ok (.bipush (-11), 2) := by decide +kernel
theorem dX11_rates_46 : decode cX11_rates 46 = .ok (.ireturn, 1) := by decide +kernel
theorem dX11_rates_47 : decode cX11_rates 47 = .ok (.aload 5, 2) := by decide +kernel
theorem dX11_rates_49 : decode cX11_rates 49 = .ok (.getfield 278, 3) := by decide +kernel
theorem dX11_rates_52 : decode cX11_rates 52 = .ok (.iload_n 2, 1) := by decide +kernel
theorem dX11_rates_53 : decode cX11_rates 53 = .ok (.if_icmp .eq 6, 3) := by decide +kernel
theorem dX11_rates_56 : decode cX11_rates 56 = .ok (.bipush (-13), 2) := by decide +kernel
theorem dX11_rates_58 : decode cX11_rates 58 = .ok (.ireturn, 1) := by decide +kernel
theorem dX11_rates_59 : decode cX11_rates 59 = .ok (.iconst 0, 1) := by decide +kernel
theorem dX11_rates_60 : decode cX11_rates 60 = .ok (.istore 6, 2) := by decide +kernel
theorem dX11_rates_62 : decode cX11_rates 62 = .ok (.iload_n 3, 1) := by decide +kernel
theorem dX11_rates_63 : decode cX11_rates 63 = .ok (.istore 7, 2) := by decide +kernel
theorem dX11_rates_65 : decode cX11_rates 65 = .ok (.iconst 0, 1) := by decide +kernel
theorem dX11_rates_66 : decode cX11_rates 66 = .ok (.istore 8, 2) := by decide +kernel
theorem dX11_rates_68 : decode cX11_rates 68 = .ok (.iload 8, 2) := by decide +kernel
theorem dX11_rates_70 : decode cX11_rates 70 = .ok (.iload 4, 2) := by decide +kernel
theorem dX11_rates_72 : decode cX11_rates 72 = .ok (.if_icmp .ge 69, 3) := by decide +kernel
theorem dX11_rates_75 : decode cX11_rates 75 = .ok (.aload 5, 2) := by decide +kernel
theorem dX11_rates_77 : decode cX11_rates 77 = .ok (.iload 7, 2) := by decide +kernel
theorem dX11_rates_79 : decode cX11_rates 79 = .ok (.iconst 4, 1) := by decide +kernel
theorem dX11_rates_80 : decode cX11_rates 80 = .ok (.invokevirtual 281, 3) := by decide +kernel
theorem dX11_rates_83 : decode cX11_rates 83 = .ok (.ifCond .ne 6, 3) := by decide +kernel
theorem dX11_rates_86 : decode cX11_rates 86 = .ok (.bipush (-12), 2) := by decide +kernel
theorem dX11_rates_88 : decode cX11_rates 88 = .ok (.ireturn, 1) := by decide +kernel
theorem dX11_rates_89 : decode cX11_rates 89 = .ok (.aload 5, 2) := by decide +kernel
theorem dX11_rates_91 : decode cX11_rates 91 = .ok (.getfield 164, 3) := by decide +kernel
theorem dX11_rates_94 : decode cX11_rates 94 = .ok (.astore 9, 2) := by decide +kernel
theorem dX11_rates_96 : decode cX11_rates 96 = .ok (.aload_n 0, 1) := by decide +kernel
theorem dX11_rates_97 : decode cX11_rates 97 = .ok (.aload 9, 2) := by decide +kernel
theorem dX11_rates_99 : decode cX11_rates 99 = .ok (.iload 7, 2) := by decide +kernel
theorem dX11_rates_101 : decode cX11_rates 101 = .ok (.iaload, 1) := by decide +kernel
theorem dX11_rates_102 : decode cX11_rates 102 = .ok (.aload 9, 2) := by decide +kernel
theorem dX11_rates_104 : decode cX11_rates 104 = .ok (.iload 7, 2) := by decide +kernel
theorem dX11_rates_106 : decode cX11_rates 106 = .ok (.iconst 1, 1) := by decide +kernel
theorem dX11_rates_107 : decode cX11_rates 107 = .ok (.iadd, 1) := by decide +kernel
theorem dX11_rates_108 : decode cX11_rates 108 = .ok (.iaload, 1) := by decide +kernel
theorem dX11_rates_109 : decode cX11_rates 109 = .ok (.aload 9, 2) := by decide +kernel
theorem dX11_rates_111 : decode cX11_rates 111 = .ok (.iload 7, 2) := by decide +kernel
theorem dX11_rates_113 : decode cX11_rates 113 = .ok (.iconst 2, 1) := by decide +kernel
theorem dX11_rates_114 : decode cX11_rates 114 = .ok (.iadd, 1) := by decide +kernel
theorem dX11_rates_115 : decode cX11_rates 115 = .ok (.iaload, 1) := by decide +kernel
theorem dX11_rates_116 : decode cX11_rates 116 = .ok (.aload 9, 2) := by decide +kernel
theorem dX11_rates_118 : decode cX11_rates 118 = .ok (.iload 7, 2) := by decide +kernel
theorem dX11_rates_120 : decode cX11_rates 120 = .ok (.iconst 3, 1) := by decide +kernel
theorem dX11_rates_121 : decode cX11_rates 121 = .ok (.iadd, 1) := by decide +kernel
theorem dX11_rates_122 : decode cX11_rates 122 = .ok (.iaload, 1) := by decide +kernel
theorem dX11_rates_123 : decode cX11_rates 123 = .ok (.invokevirtual 284, 3) := by decide +kernel
theorem dX11_rates_126 : decode cX11_rates 126 = .ok (.ifCond .lt 6, 3) := by decide +kernel
theorem dX11_rates_129 : decode cX11_rates 129 = .ok (.iinc 6 1, 3) := by decide +kernel
theorem dX11_rates_132 : decode cX11_rates 132 = .ok (.iinc 7 4, 3) := by decide +kernel
theorem dX11_rates_135 : decode cX11_rates 135 = .ok (.iinc 8 1, 3) := by decide +kernel
theorem dX11_rates_138 : decode cX11_rates 138 = .ok (.goto (-70), 3) := by decide +kernel
theorem dX11_rates_141 : decode cX11_rates 141 = .ok (.iload 6, 2) := by decide +kernel
theorem dX11_rates_143 : decode cX11_rates 143 = .ok (.ireturn, 1) := by decide +kernel
def lX11_rates_68 (u22 u23 u24 : Int)  : Nat → ZS → Int → Int → Int → Option (Int × ZS)
  | 0, _, _, _, _ => none
  | n1 + 1, s21, x25, x26, x27 => if u23 ≤ x27 then (some (x25, s21)) else (zb (zv s21 6 u24 (fX6_reaches s21 u24 x26 4)) (fun v29 s30 => if v29 = 0 then (some ((-12), s30)) else ((zg s30 6 u24 0).bind (fun v33 => (zal s30 100 v33 x26).bind (fun v34 => (zal s30 100 v33 (wrap (x26 + 1))).bind (fun v35 => (zal s30 100 v33 (wrap (x26 + 2))).bind (fun v36 => (zal s30 100 v33 (wrap (x26 + 3))).bind (fun v37 => zb (zv s30 11 u22 (fX11_rate s30 u22 v34 v35 v36 v37)) (fun v38 s39 => zjn (fun (K132 : ZS → Int → Option (Int × ZS)) => if v38 < 0 then (K132 s39 x25) else (K132 s39 (wrap (x25 + 1)))) (fun (s42 : ZS) (x43 : Int) => lX11_rates_68 u22 u23 u24 n1 s42 x43 (wrap (x26 + 4)) (wrap (x27 + 1))))))))))))

def fX11_rates (s0 : ZS) (a0 : Int) (a1 : Int) (a2 : Int) (a3 : Int) (a4 : Int) : Option (Int × ZS) := zb (fX11_isSheet s0 a1) (fun v1 s2 => if v1 = 0 then (some ((-2), s2)) else (zb (fX11_within s2 a2 2) (fun v5 s6 => if v5 = 0 then (some ((-2), s6)) else (zb (fX11_within s6 a4 10) (fun v9 s10 => if v9 = 0 then (some ((-2), s10)) else ((zg s10 11 a0 8).bind (fun v13 => (zal s10 105 v13 a1).bind (fun v14 => zb (zv s10 6 v14 (fX6_isMissing s10 v14)) (fun v15 s16 => if v15 = 0 then ((zg s16 6 v14 1).bind (fun v19 => if v19 = a2 then (lX11_rates_68 a0 a4 v14 1000 s16 0 a3 0) else (some ((-13), s16)))) else (some ((-11), s16)))))))))))
set_option maxHeartbeats 4000000 in
set_option maxRecDepth 100000 in
theorem mX11_rates (E : ZE) (hE : zOkE E) (l : Launch) (s0 : ZS) (a0 : Int) (a1 : Int) (a2 : Int) (a3 : Int) (a4 : Int) : Ct E l yX11_rates cX11_rates 10 (some .int) 8 [(2, a0), (0, a1), (0, a2), (0, a3), (0, a4)] 1 s0 (fX11_rates s0 a0 a1 a2 a3 a4) := by
  refine Ct.of (by decide) hE (Nat.le_of_ble_eq_true rfl) ?_
  intro X G hX hR hN hXE hXl hxn hk _
  subst hXE
  subst hXl
  have hX : G → ZOk X cX11_rates RX11 8 := hX
  clear hN
  show Zj X G 0 [(0, (2, a0)), (1, (0, a1)), (2, (0, a2)), (3, (0, a3)), (4, (0, a4))] [] s0 _
  unfold fX11_rates
  refine z_iload_n (pc := 0) hX 1 dX11_rates_0 rfl rfl ?_
  refine z_callS (n := 1) (st := []) (pc := 1) hX (mX11_isSheet _ hE _ _ _) ⟨wd593, wd61, wd595, ⟨by decide, by decide, by decide⟩, by decide⟩ wd594 rfl rfl (by decide) (Nat.le_of_ble_eq_true rfl) dX11_rates_1 (fun v1 s2 r3 => ?_)
  show Zj X G 4 [(0, (2, a0)), (1, (0, a1)), (2, (0, a2)), (3, (0, a3)), (4, (0, a4))] [(0, v1)] _ _
  refine z_if_eq (pc := 4) hX 25 dX11_rates_4 (by decide) (fun h4 => ?_) (fun h4 => ?_)
  · refine z_bipush (pc := 25) hX dX11_rates_25 ?_
    exact z_iret (pc := 27) hX hR hk dX11_rates_27
  · refine z_iload_n (pc := 7) hX 2 dX11_rates_7 rfl rfl ?_
    refine z_iconst (pc := 8) hX dX11_rates_8 ?_
    refine z_callS (n := 2) (st := []) (pc := 9) hX (mX11_within _ hE _ _ _ _) ⟨wd329, wd61, wd331, ⟨by decide, by decide, by decide⟩, by decide⟩ wd330 rfl rfl (by decide) (Nat.le_of_ble_eq_true rfl) dX11_rates_9 (fun v5 s6 r7 => ?_)
    show Zj X G 12 [(0, (2, a0)), (1, (0, a1)), (2, (0, a2)), (3, (0, a3)), (4, (0, a4))] [(0, v5)] _ _
    refine z_if_eq (pc := 12) hX 25 dX11_rates_12 (by decide) (fun h8 => ?_) (fun h8 => ?_)
    · refine z_bipush (pc := 25) hX dX11_rates_25 ?_
      exact z_iret (pc := 27) hX hR hk dX11_rates_27
    · refine z_iload (pc := 15) hX 4 dX11_rates_15 rfl ?_
      refine z_bipush (pc := 17) hX dX11_rates_17 ?_
      refine z_callS (n := 2) (st := []) (pc := 19) hX (mX11_within _ hE _ _ _ _) ⟨wd329, wd61, wd331, ⟨by decide, by decide, by decide⟩, by decide⟩ wd330 rfl rfl (by decide) (Nat.le_of_ble_eq_true rfl) dX11_rates_19 (fun v9 s10 r11 => ?_)
      show Zj X G 22 [(0, (2, a0)), (1, (0, a1)), (2, (0, a2)), (3, (0, a3)), (4, (0, a4))] [(0, v9)] _ _
      refine z_if_ne (pc := 22) hX 28 dX11_rates_22 (by decide) (fun h12 => ?_) (fun h12 => ?_)
      · refine z_aload_n (pc := 28) hX 0 dX11_rates_28 rfl rfl ?_
        refine z_get (pc := 29) hX zc11 8 (by decide) wd278 rfl rfl dX11_rates_29 (fun v13 => ?_)
        refine z_iload_n (pc := 32) hX 1 dX11_rates_32 rfl rfl ?_
        refine z_aald (pc := 33) hX 5 105 (by decide) rfl rfl dX11_rates_33 (fun v14 => ?_)
        refine z_astore (lv' := [(5, (2, v14)), (0, (2, a0)), (1, (0, a1)), (2, (0, a2)), (3, (0, a3)), (4, (0, a4))]) (pc := 34) hX dX11_rates_34 (zlt hxn rfl) rfl ?_
        refine z_aload (pc := 36) hX 0 dX11_rates_36 rfl ?_
        refine z_callV (n := 0) (st := []) (pc := 38) hX zc6 rfl (fun _ => (mX6_isMissing _ hE _ _ _)) ⟨wd596, wd66, wd599, ⟨by decide, by decide, by decide⟩, by decide⟩ rfl wd597 wd598 rfl rfl (by decide) (Nat.le_of_ble_eq_true rfl) dX11_rates_38 (fun v15 s16 r17 => ?_)
        show Zj X G 41 [(5, (2, v14)), (0, (2, a0)), (1, (0, a1)), (2, (0, a2)), (3, (0, a3)), (4, (0, a4))] [(0, v15)] _ _
        refine z_if_eq (pc := 41) hX 47 dX11_rates_41 (by decide) (fun h18 => ?_) (fun h18 => ?_)
        · refine z_aload (pc := 47) hX 0 dX11_rates_47 rfl ?_
          refine z_get (pc := 49) hX zc6 1 (by decide) wd260 rfl rfl dX11_rates_49 (fun v19 => ?_)
          refine z_iload_n (pc := 52) hX 3 dX11_rates_52 rfl rfl ?_
          refine z_icmp_eq (pc := 53) hX 59 dX11_rates_53 (by decide) (fun h20 => ?_) (fun h20 => ?_)
          · refine z_iconst (pc := 59) hX dX11_rates_59 ?_
            refine z_istore (lv' := [(6, (0, 0)), (5, (2, v14)), (0, (2, a0)), (1, (0, a1)), (2, (0, a2)), (3, (0, a3)), (4, (0, a4))]) (pc := 60) hX dX11_rates_60 (zlt hxn rfl) rfl ?_
            refine z_iload_n (pc := 62) hX 5 dX11_rates_62 rfl rfl ?_
            refine z_istore (lv' := [(7, (0, a3)), (6, (0, 0)), (5, (2, v14)), (0, (2, a0)), (1, (0, a1)), (2, (0, a2)), (3, (0, a3)), (4, (0, a4))]) (pc := 63) hX dX11_rates_63 (zlt hxn rfl) rfl ?_
            refine z_iconst (pc := 65) hX dX11_rates_65 ?_
            refine z_istore (lv' := [(8, (0, 0)), (7, (0, a3)), (6, (0, 0)), (5, (2, v14)), (0, (2, a0)), (1, (0, a1)), (2, (0, a2)), (3, (0, a3)), (4, (0, a4))]) (pc := 66) hX dX11_rates_66 (zlt hxn rfl) rfl ?_
            have hl68 : ∀ (u22 u23 u24 : Int), ∀ (n1 : Nat) (s21 : ZS) (x25 x26 x27 : Int), Zj X G 68 [(0, (2, u22)), (4, (0, u23)), (5, (2, u24)), (6, (0, x25)), (7, (0, x26)), (8, (0, x27))] [] s21 (lX11_rates_68 u22 u23 u24 n1 s21 x25 x26 x27) := by
              intro u22 u23 u24 n1
              induction n1 with
              | zero => intro _ _ _ _; exact z_none
              | succ n1 ih1 =>
                intro s21 x25 x26 x27
                rw [lX11_rates_68]
                refine z_iload (pc := 68) hX 5 dX11_rates_68 rfl ?_
                refine z_iload (pc := 70) hX 1 dX11_rates_70 rfl ?_
                refine z_icmp_ge (pc := 72) hX 141 dX11_rates_72 (by decide) (fun h28 => ?_) (fun h28 => ?_)
                · refine z_iload (pc := 141) hX 3 dX11_rates_141 rfl ?_
                  exact z_iret (pc := 143) hX hR hk dX11_rates_143
                · refine z_aload (pc := 75) hX 2 dX11_rates_75 rfl ?_
                  refine z_iload (pc := 77) hX 4 dX11_rates_77 rfl ?_
                  refine z_iconst (pc := 79) hX dX11_rates_79 ?_
                  refine z_callV (n := 2) (st := []) (pc := 80) hX zc6 rfl (fun _ => (mX6_reaches _ hE _ _ _ _ _)) ⟨wd978, wd66, wd981, ⟨by decide, by decide, by decide⟩, by decide⟩ rfl wd979 wd980 rfl rfl (by decide) (Nat.le_of_ble_eq_true rfl) dX11_rates_80 (fun v29 s30 r31 => ?_)
                  show Zj X G 83 [(0, (2, u22)), (4, (0, u23)), (5, (2, u24)), (6, (0, x25)), (7, (0, x26)), (8, (0, x27))] [(0, v29)] _ _
                  refine z_if_ne (pc := 83) hX 89 dX11_rates_83 (by decide) (fun h32 => ?_) (fun h32 => ?_)
                  · refine z_aload (pc := 89) hX 2 dX11_rates_89 rfl ?_
                    refine z_get (pc := 91) hX zc6 0 (by decide) wd258 rfl rfl dX11_rates_91 (fun v33 => ?_)
                    refine z_astore (lv' := [(9, (2, v33)), (0, (2, u22)), (4, (0, u23)), (5, (2, u24)), (6, (0, x25)), (7, (0, x26)), (8, (0, x27))]) (pc := 94) hX dX11_rates_94 (zlt hxn rfl) rfl ?_
                    refine z_aload_n (pc := 96) hX 1 dX11_rates_96 rfl rfl ?_
                    refine z_aload (pc := 97) hX 0 dX11_rates_97 rfl ?_
                    refine z_iload (pc := 99) hX 5 dX11_rates_99 rfl ?_
                    refine z_iald (pc := 101) hX dX11_rates_101 (fun v34 => ?_)
                    refine z_aload (pc := 102) hX 0 dX11_rates_102 rfl ?_
                    refine z_iload (pc := 104) hX 5 dX11_rates_104 rfl ?_
                    refine z_iconst (pc := 106) hX dX11_rates_106 ?_
                    refine z_iadd (pc := 107) hX dX11_rates_107 ?_
                    refine z_iald (pc := 108) hX dX11_rates_108 (fun v35 => ?_)
                    refine z_aload (pc := 109) hX 0 dX11_rates_109 rfl ?_
                    refine z_iload (pc := 111) hX 5 dX11_rates_111 rfl ?_
                    refine z_iconst (pc := 113) hX dX11_rates_113 ?_
                    refine z_iadd (pc := 114) hX dX11_rates_114 ?_
                    refine z_iald (pc := 115) hX dX11_rates_115 (fun v36 => ?_)
                    refine z_aload (pc := 116) hX 0 dX11_rates_116 rfl ?_
                    refine z_iload (pc := 118) hX 5 dX11_rates_118 rfl ?_
                    refine z_iconst (pc := 120) hX dX11_rates_120 ?_
                    refine z_iadd (pc := 121) hX dX11_rates_121 ?_
                    refine z_iald (pc := 122) hX dX11_rates_122 (fun v37 => ?_)
                    refine z_callV (n := 4) (st := []) (pc := 123) hX zc11 rfl (fun _ => (mX11_rate _ hE _ _ _ _ _ _ _)) ⟨wd986, wd61, wd325, ⟨by decide, by decide, by decide⟩, by decide⟩ rfl wd323 wd324 rfl rfl (by decide) (Nat.le_of_ble_eq_true rfl) dX11_rates_123 (fun v38 s39 r40 => ?_)
                    show Zj X G 126 [(9, (2, v33)), (0, (2, u22)), (4, (0, u23)), (5, (2, u24)), (6, (0, x25)), (7, (0, x26)), (8, (0, x27))] [(0, v38)] _ _
                    refine z_jn (fun K132 eK132 => ?_)
                    have hK132 : ∀ (s42 : ZS) (x43 : Int), Zj X G 132 [(0, (2, u22)), (4, (0, u23)), (5, (2, u24)), (6, (0, x43)), (7, (0, x26)), (8, (0, x27))] [] s42 (K132 s42 x43) := by
                      intro s42 x43
                      rw [eK132]
                      refine z_iinc (lv' := [(7, (0, (wrap (x26 + 4)))), (0, (2, u22)), (4, (0, u23)), (5, (2, u24)), (6, (0, x43)), (8, (0, x27))]) (pc := 132) hX 4 dX11_rates_132 rfl (zlt hxn rfl) rfl ?_
                      refine z_iinc (lv' := [(8, (0, (wrap (x27 + 1)))), (7, (0, (wrap (x26 + 4)))), (0, (2, u22)), (4, (0, u23)), (5, (2, u24)), (6, (0, x43))]) (pc := 135) hX 5 dX11_rates_135 rfl (zlt hxn rfl) rfl ?_
                      refine z_goto (pc := 138) hX 68 dX11_rates_138 (by decide) ?_
                      refine z_pick (lv' := [(0, (2, u22)), (4, (0, u23)), (5, (2, u24)), (6, (0, x43)), (7, (0, (wrap (x26 + 4)))), (8, (0, (wrap (x27 + 1))))]) [2, 3, 4, 5, 1, 0] rfl ?_
                      exact ih1 _ _ _ _
                    clear eK132
                    refine z_if_lt (pc := 126) hX 132 dX11_rates_126 (by decide) (fun h41 => ?_) (fun h41 => ?_)
                    · refine z_pick (lv' := [(0, (2, u22)), (4, (0, u23)), (5, (2, u24)), (6, (0, x25)), (7, (0, x26)), (8, (0, x27))]) [1, 2, 3, 4, 5, 6] rfl ?_
                      exact hK132 _ _
                    · refine z_iinc (lv' := [(6, (0, (wrap (x25 + 1)))), (9, (2, v33)), (0, (2, u22)), (4, (0, u23)), (5, (2, u24)), (7, (0, x26)), (8, (0, x27))]) (pc := 129) hX 4 dX11_rates_129 rfl (zlt hxn rfl) rfl ?_
                      refine z_pick (lv' := [(0, (2, u22)), (4, (0, u23)), (5, (2, u24)), (6, (0, (wrap (x25 + 1)))), (7, (0, x26)), (8, (0, x27))]) [2, 3, 4, 0, 5, 6] rfl ?_
                      exact hK132 _ _
                  · refine z_bipush (pc := 86) hX dX11_rates_86 ?_
                    exact z_iret (pc := 88) hX hR hk dX11_rates_88
            refine z_pick (lv' := [(0, (2, a0)), (4, (0, a4)), (5, (2, v14)), (6, (0, 0)), (7, (0, a3)), (8, (0, 0))]) [4, 8, 3, 2, 1, 0] rfl ?_
            refine hl68 _ _ _ 1000 _ _ _ _
          · refine z_bipush (pc := 56) hX dX11_rates_56 ?_
            exact z_iret (pc := 58) hX hR hk dX11_rates_58
        · refine z_bipush (pc := 44) hX dX11_rates_44 ?_
          exact z_iret (pc := 46) hX hR hk dX11_rates_46
      · refine z_bipush (pc := 25) hX dX11_rates_25 ?_
        exact z_iret (pc := 27) hX hR hk dX11_rates_27

theorem dX12_rates_0 : decode cX12_rates 0 = .ok (.iload_n 1, 1) := by decide +kernel
theorem dX12_rates_1 : decode cX12_rates 1 = .ok (.iconst 0, 1) := by decide +kernel
theorem dX12_rates_2 : decode cX12_rates 2 = .ok (.iconst 3, 1) := by decide +kernel
theorem dX12_rates_3 : decode cX12_rates 3 = .ok (.invokestatic 127, 3) := by decide +kernel
theorem dX12_rates_6 : decode cX12_rates 6 = .ok (.ifCond .eq 23, 3) := by decide +kernel
theorem dX12_rates_9 : decode cX12_rates 9 = .ok (.iload_n 2, 1) := by decide +kernel
theorem dX12_rates_10 : decode cX12_rates 10 = .ok (.iconst 0, 1) := by decide +kernel
theorem dX12_rates_11 : decode cX12_rates 11 = .ok (.iconst 2, 1) := by decide +kernel
theorem dX12_rates_12 : decode cX12_rates 12 = .ok (.invokestatic 127, 3) := by decide +kernel
theorem dX12_rates_15 : decode cX12_rates 15 = .ok (.ifCond .eq 14, 3) := by decide +kernel
theorem dX12_rates_18 : decode cX12_rates 18 = .ok (.iload 4, 2) := by decide +kernel
theorem dX12_rates_20 : decode cX12_rates 20 = .ok (.iconst 0, 1) := by decide +kernel
theorem dX12_rates_21 : decode cX12_rates 21 = .ok (.bipush 10, 2) := by decide +kernel
theorem dX12_rates_23 : decode cX12_rates 23 = .ok (.invokestatic 127, 3) := by decide +kernel
theorem dX12_rates_26 : decode cX12_rates 26 = .ok (.ifCond .ne 6, 3) := by decide +kernel
theorem dX12_rates_29 : decode cX12_rates 29 = .ok (.bipush (-2), 2) := by decide +kernel
theorem dX12_rates_31 : decode cX12_rates 31 = .ok (.ireturn, 1) := by decide +kernel
theorem dX12_rates_32 : decode cX12_rates 32 = .ok (.aload_n 0, 1) := by decide +kernel
theorem dX12_rates_33 : decode cX12_rates 33 = .ok (.getfield 62, 3) := by decide +kernel
theorem dX12_rates_36 : decode cX12_rates 36 = .ok (.iload_n 1, 1) := by decide +kernel
theorem dX12_rates_37 : decode cX12_rates 37 = .ok (.iaload, 1) := by decide +kernel
theorem dX12_rates_38 : decode cX12_rates 38 = .ok (.iconst (-1), 1) := by decide +kernel
theorem dX12_rates_39 : decode cX12_rates 39 = .ok (.if_icmp .ne 6, 3) := by decide +kernel
theorem dX12_rates_42 : decode cX12_rates 42 = .ok (.bipush (-11), 2) := by decide +kernel
theorem dX12_rates_44 : decode cX12_rates 44 = .ok (.ireturn, 1) := by decide +kernel
theorem dX12_rates_45 : decode cX12_rates 45 = .ok (.aload_n 0, 1) := by decide +kernel
theorem dX12_rates_46 : decode cX12_rates 46 = .ok (.getfield 62, 3) := by decide +kernel
theorem dX12_rates_49 : decode cX12_rates 49 = .ok (.iload_n 1, 1) := by decide +kernel
theorem dX12_rates_50 : decode cX12_rates 50 = .ok (.iaload, 1) := by decide +kernel
theorem dX12_rates_51 : decode cX12_rates 51 = .ok (.iload_n 2, 1) := by decide +kernel
theorem dX12_rates_52 : decode cX12_rates 52 = .ok (.if_icmp .eq 6, 3) := by decide +kernel
theorem dX12_rates_55 : decode cX12_rates 55 = .ok (.bipush (-13), 2) := by decide +kernel
theorem dX12_rates_57 : decode cX12_rates 57 = .ok (.ireturn, 1) := by decide +kernel
theorem dX12_rates_58 : decode cX12_rates 58 = .ok (.iconst 0, 1) := by decide +kernel
theorem dX12_rates_59 : decode cX12_rates 59 = .ok (.istore 5, 2) := by decide +kernel
theorem dX12_rates_61 : decode cX12_rates 61 = .ok (.iconst 0, 1) := by decide +kernel
theorem dX12_rates_62 : decode cX12_rates 62 = .ok (.istore 6, 2) := by decide +kernel
theorem dX12_rates_64 : decode cX12_rates 64 = .ok (.iload 6, 2) := by decide +kernel
theorem dX12_rates_66 : decode cX12_rates 66 = .ok (.iload 4, 2) := by decide +kernel
theorem dX12_rates_68 : decode cX12_rates 68 = .ok (.if_icmp .ge 103, 3) := by decide +kernel
theorem dX12_rates_71 : decode cX12_rates 71 = .ok (.iload_n 3, 1) := by decide +kernel
theorem dX12_rates_72 : decode cX12_rates 72 = .ok (.iconst 4, 1) := by decide +kernel
theorem dX12_rates_73 : decode cX12_rates 73 = .ok (.iload 6, 2) := by decide +kernel
theorem dX12_rates_75 : decode cX12_rates 75 = .ok (.imul, 1) := by decide +kernel
theorem dX12_rates_76 : decode cX12_rates 76 = .ok (.iadd, 1) := by decide +kernel
theorem dX12_rates_77 : decode cX12_rates 77 = .ok (.istore 7, 2) := by decide +kernel
theorem dX12_rates_79 : decode cX12_rates 79 = .ok (.iload_n 3, 1) := by decide +kernel
theorem dX12_rates_80 : decode cX12_rates 80 = .ok (.ifCond .lt 22, 3) := by decide +kernel
theorem dX12_rates_83 : decode cX12_rates 83 = .ok (.iload 7, 2) := by decide +kernel
theorem dX12_rates_85 : decode cX12_rates 85 = .ok (.iload_n 3, 1) := by decide +kernel
theorem dX12_rates_86 : decode cX12_rates 86 = .ok (.if_icmp .lt 16, 3) := by decide +kernel
theorem dX12_rates_89 : decode cX12_rates 89 = .ok (.iload 7, 2) := by decide +kernel
theorem dX12_rates_91 : decode cX12_rates 91 = .ok (.aload_n 0, 1) := by decide +kernel
theorem dX12_rates_92 : decode cX12_rates 92 = .ok (.getfield 65, 3) := by decide +kernel
theorem dX12_rates_95 : decode cX12_rates 95 = .ok (.iload_n 1, 1) := by decide +kernel
theorem dX12_rates_96 : decode cX12_rates 96 = .ok (.iaload, 1) := by decide +kernel
theorem dX12_rates_97 : decode cX12_rates 97 = .ok (.iconst 4, 1) := by decide +kernel
theorem dX12_rates_98 : decode cX12_rates 98 = .ok (.isub, 1) := by decide +kernel
theorem dX12_rates_99 : decode cX12_rates 99 = .ok (.if_icmp .le 6, 3) := by decide +kernel
theorem dX12_rates_102 : decode cX12_rates 102 = .ok (.bipush (-12), 2) := by decide +kernel
theorem dX12_rates_104 : decode cX12_rates 104 = .ok (.ireturn, 1) := by decide +kernel
theorem dX12_rates_105 : decode cX12_rates 105 = .ok (.bipush 40, 2) := by decide +kernel
theorem dX12_rates_107 : decode cX12_rates 107 = .ok (.iload_n 1, 1) := by decide +kernel
theorem dX12_rates_108 : decode cX12_rates 108 = .ok (.imul, 1) := by decide +kernel
theorem dX12_rates_109 : decode cX12_rates 109 = .ok (.iload 7, 2) := by decide +kernel
theorem dX12_rates_111 : decode cX12_rates 111 = .ok (.iadd, 1) := by decide +kernel
theorem dX12_rates_112 : decode cX12_rates 112 = .ok (.istore 8, 2) := by decide +kernel
theorem dX12_rates_114 : decode cX12_rates 114 = .ok (.iload 5, 2) := by decide +kernel
theorem dX12_rates_116 : decode cX12_rates 116 = .ok (.aload_n 0, 1) := by decide +kernel
theorem dX12_rates_117 : decode cX12_rates 117 = .ok (.aload_n 0, 1) := by decide +kernel
theorem dX12_rates_118 : decode cX12_rates 118 = .ok (.getfield 68, 3) := by decide +kernel
theorem dX12_rates_121 : decode cX12_rates 121 = .ok (.iload 8, 2) := by decide +kernel
theorem dX12_rates_123 : decode cX12_rates 123 = .ok (.iaload, 1) := by decide +kernel
theorem dX12_rates_124 : decode cX12_rates 124 = .ok (.aload_n 0, 1) := by decide +kernel
theorem dX12_rates_125 : decode cX12_rates 125 = .ok (.getfield 68, 3) := by decide +kernel
theorem dX12_rates_128 : decode cX12_rates 128 = .ok (.iload 8, 2) := by decide +kernel
theorem dX12_rates_130 : decode cX12_rates 130 = .ok (.iconst 1, 1) := by decide +kernel
theorem dX12_rates_131 : decode cX12_rates 131 = .ok (.iadd, 1) := by decide +kernel
theorem dX12_rates_132 : decode cX12_rates 132 = .ok (.iaload, 1) := by decide +kernel
theorem dX12_rates_133 : decode cX12_rates 133 = .ok (.aload_n 0, 1) := by decide +kernel
theorem dX12_rates_134 : decode cX12_rates 134 = .ok (.getfield 68, 3) := by decide +kernel
theorem dX12_rates_137 : decode cX12_rates 137 = .ok (.iload 8, 2) := by decide +kernel
theorem dX12_rates_139 : decode cX12_rates 139 = .ok (.iconst 2, 1) := by decide +kernel
theorem dX12_rates_140 : decode cX12_rates 140 = .ok (.iadd, 1) := by decide +kernel
theorem dX12_rates_141 : decode cX12_rates 141 = .ok (.iaload, 1) := by decide +kernel
theorem dX12_rates_142 : decode cX12_rates 142 = .ok (.aload_n 0, 1) := by decide +kernel
theorem dX12_rates_143 : decode cX12_rates 143 = .ok (.getfield 68, 3) := by decide +kernel
theorem dX12_rates_146 : decode cX12_rates 146 = .ok (.iload 8, 2) := by decide +kernel
theorem dX12_rates_148 : decode cX12_rates 148 = .ok (.iconst 3, 1) := by decide +kernel
theorem dX12_rates_149 : decode cX12_rates 149 = .ok (.iadd, 1) := by decide +kernel
theorem dX12_rates_150 : decode cX12_rates 150 = .ok (.iaload, 1) := by decide +kernel
theorem dX12_rates_151 : decode cX12_rates 151 = .ok (.invokevirtual 313, 3) := by decide +kernel
theorem dX12_rates_154 : decode cX12_rates 154 = .ok (.ifCond .lt 7, 3) := by decide +kernel
theorem dX12_rates_157 : decode cX12_rates 157 = .ok (.iconst 1, 1) := by decide +kernel
theorem dX12_rates_158 : decode cX12_rates 158 = .ok (.goto 4, 3) := by decide +kernel
theorem dX12_rates_161 : decode cX12_rates 161 = .ok (.iconst 0, 1) := by decide +kernel
theorem dX12_rates_162 : decode cX12_rates 162 = .ok (.iadd, 1) := by decide +kernel
theorem dX12_rates_163 : decode cX12_rates 163 = .ok (.istore 5, 2) := by decide +kernel
theorem dX12_rates_165 : decode cX12_rates 165 = .ok (.iinc 6 1, 3) := by decide +kernel
theorem dX12_rates_168 : decode cX12_rates 168 = .ok (.goto (-104), 3) := by decide +kernel
theorem dX12_rates_171 : decode cX12_rates 171 = .ok (.iload 5, 2) := by decide +kernel
theorem dX12_rates_173 : decode cX12_rates 173 = .ok (.ireturn, 1) := by decide +kernel
def lX12_rates_64 (u20 u21 u22 u23 : Int)  : Nat → ZS → Int → Int → Option (Int × ZS)
  | 0, _, _, _ => none
  | n1 + 1, s19, x24, x25 => if u23 ≤ x25 then (some (x24, s19)) else (if u22 < 0 then (some ((-12), s19)) else (if (wrap (u22 + (wrap (4 * x25)))) < u22 then (some ((-12), s19)) else ((zg s19 12 u20 27).bind (fun v29 => (zal s19 100 v29 u21).bind (fun v30 => if (wrap (u22 + (wrap (4 * x25)))) ≤ (wrap (v30 - 4)) then ((zg s19 12 u20 28).bind (fun v32 => (zal s19 100 v32 (wrap ((wrap (40 * u21)) + (wrap (u22 + (wrap (4 * x25))))))).bind (fun v33 => (zg s19 12 u20 28).bind (fun v34 => (zal s19 100 v34 (wrap ((wrap ((wrap (40 * u21)) + (wrap (u22 + (wrap (4 * x25)))))) + 1))).bind (fun v35 => (zg s19 12 u20 28).bind (fun v36 => (zal s19 100 v36 (wrap ((wrap ((wrap (40 * u21)) + (wrap (u22 + (wrap (4 * x25)))))) + 2))).bind (fun v37 => (zg s19 12 u20 28).bind (fun v38 => (zal s19 100 v38 (wrap ((wrap ((wrap (40 * u21)) + (wrap (u22 + (wrap (4 * x25)))))) + 3))).bind (fun v39 => zb (zv s19 12 u20 (fX12_rate s19 u20 v33 v35 v37 v39)) (fun v40 s41 => zjn (fun (K162 : ZS → Int → Option (Int × ZS)) => if v40 < 0 then (K162 s41 0) else (K162 s41 1)) (fun (s44 : ZS) (w45 : Int) => lX12_rates_64 u20 u21 u22 u23 n1 s44 (wrap (x24 + w45)) (wrap (x25 + 1))))))))))))) else (some ((-12), s19)))))))

def fX12_rates (s0 : ZS) (a0 : Int) (a1 : Int) (a2 : Int) (a3 : Int) (a4 : Int) : Option (Int × ZS) := zb (fX12_in s0 a1 0 3) (fun v1 s2 => if v1 = 0 then (some ((-2), s2)) else (zb (fX12_in s2 a2 0 2) (fun v5 s6 => if v5 = 0 then (some ((-2), s6)) else (zb (fX12_in s6 a4 0 10) (fun v9 s10 => if v9 = 0 then (some ((-2), s10)) else ((zg s10 12 a0 26).bind (fun v13 => (zal s10 100 v13 a1).bind (fun v14 => if v14 = (-1) then (some ((-11), s10)) else ((zg s10 12 a0 26).bind (fun v16 => (zal s10 100 v16 a1).bind (fun v17 => if v17 = a2 then (lX12_rates_64 a0 a1 a3 a4 1000 s10 0 0) else (some ((-13), s10)))))))))))))
set_option maxHeartbeats 4000000 in
set_option maxRecDepth 100000 in
theorem mX12_rates (E : ZE) (hE : zOkE E) (l : Launch) (s0 : ZS) (a0 : Int) (a1 : Int) (a2 : Int) (a3 : Int) (a4 : Int) : Ct E l yX12_rates cX12_rates 9 (some .int) 8 [(2, a0), (0, a1), (0, a2), (0, a3), (0, a4)] 1 s0 (fX12_rates s0 a0 a1 a2 a3 a4) := by
  refine Ct.of (by decide) hE (Nat.le_of_ble_eq_true rfl) ?_
  intro X G hX hR hN hXE hXl hxn hk _
  subst hXE
  subst hXl
  have hX : G → ZOk X cX12_rates RX12 8 := hX
  clear hN
  show Zj X G 0 [(0, (2, a0)), (1, (0, a1)), (2, (0, a2)), (3, (0, a3)), (4, (0, a4))] [] s0 _
  unfold fX12_rates
  refine z_iload_n (pc := 0) hX 1 dX12_rates_0 rfl rfl ?_
  refine z_iconst (pc := 1) hX dX12_rates_1 ?_
  refine z_iconst (pc := 2) hX dX12_rates_2 ?_
  refine z_callS (n := 3) (st := []) (pc := 3) hX (mX12_in _ hE _ _ _ _ _) ⟨wd1173, wd67, wd1175, ⟨by decide, by decide, by decide⟩, by decide⟩ wd1174 rfl rfl (by decide) (Nat.le_of_ble_eq_true rfl) dX12_rates_3 (fun v1 s2 r3 => ?_)
  show Zj X G 6 [(0, (2, a0)), (1, (0, a1)), (2, (0, a2)), (3, (0, a3)), (4, (0, a4))] [(0, v1)] _ _
  refine z_if_eq (pc := 6) hX 29 dX12_rates_6 (by decide) (fun h4 => ?_) (fun h4 => ?_)
  · refine z_bipush (pc := 29) hX dX12_rates_29 ?_
    exact z_iret (pc := 31) hX hR hk dX12_rates_31
  · refine z_iload_n (pc := 9) hX 2 dX12_rates_9 rfl rfl ?_
    refine z_iconst (pc := 10) hX dX12_rates_10 ?_
    refine z_iconst (pc := 11) hX dX12_rates_11 ?_
    refine z_callS (n := 3) (st := []) (pc := 12) hX (mX12_in _ hE _ _ _ _ _) ⟨wd1173, wd67, wd1175, ⟨by decide, by decide, by decide⟩, by decide⟩ wd1174 rfl rfl (by decide) (Nat.le_of_ble_eq_true rfl) dX12_rates_12 (fun v5 s6 r7 => ?_)
    show Zj X G 15 [(0, (2, a0)), (1, (0, a1)), (2, (0, a2)), (3, (0, a3)), (4, (0, a4))] [(0, v5)] _ _
    refine z_if_eq (pc := 15) hX 29 dX12_rates_15 (by decide) (fun h8 => ?_) (fun h8 => ?_)
    · refine z_bipush (pc := 29) hX dX12_rates_29 ?_
      exact z_iret (pc := 31) hX hR hk dX12_rates_31
    · refine z_iload (pc := 18) hX 4 dX12_rates_18 rfl ?_
      refine z_iconst (pc := 20) hX dX12_rates_20 ?_
      refine z_bipush (pc := 21) hX dX12_rates_21 ?_
      refine z_callS (n := 3) (st := []) (pc := 23) hX (mX12_in _ hE _ _ _ _ _) ⟨wd1173, wd67, wd1175, ⟨by decide, by decide, by decide⟩, by decide⟩ wd1174 rfl rfl (by decide) (Nat.le_of_ble_eq_true rfl) dX12_rates_23 (fun v9 s10 r11 => ?_)
      show Zj X G 26 [(0, (2, a0)), (1, (0, a1)), (2, (0, a2)), (3, (0, a3)), (4, (0, a4))] [(0, v9)] _ _
      refine z_if_ne (pc := 26) hX 32 dX12_rates_26 (by decide) (fun h12 => ?_) (fun h12 => ?_)
      · refine z_aload_n (pc := 32) hX 0 dX12_rates_32 rfl rfl ?_
        refine z_get (pc := 33) hX zc12 26 (by decide) wd1043 rfl rfl dX12_rates_33 (fun v13 => ?_)
        refine z_iload_n (pc := 36) hX 1 dX12_rates_36 rfl rfl ?_
        refine z_iald (pc := 37) hX dX12_rates_37 (fun v14 => ?_)
        refine z_iconst (pc := 38) hX dX12_rates_38 ?_
        refine z_icmp_ne (pc := 39) hX 45 dX12_rates_39 (by decide) (fun h15 => ?_) (fun h15 => ?_)
        · refine z_aload_n (pc := 45) hX 0 dX12_rates_45 rfl rfl ?_
          refine z_get (pc := 46) hX zc12 26 (by decide) wd1043 rfl rfl dX12_rates_46 (fun v16 => ?_)
          refine z_iload_n (pc := 49) hX 1 dX12_rates_49 rfl rfl ?_
          refine z_iald (pc := 50) hX dX12_rates_50 (fun v17 => ?_)
          refine z_iload_n (pc := 51) hX 2 dX12_rates_51 rfl rfl ?_
          refine z_icmp_eq (pc := 52) hX 58 dX12_rates_52 (by decide) (fun h18 => ?_) (fun h18 => ?_)
          · refine z_iconst (pc := 58) hX dX12_rates_58 ?_
            refine z_istore (lv' := [(5, (0, 0)), (0, (2, a0)), (1, (0, a1)), (2, (0, a2)), (3, (0, a3)), (4, (0, a4))]) (pc := 59) hX dX12_rates_59 (zlt hxn rfl) rfl ?_
            refine z_iconst (pc := 61) hX dX12_rates_61 ?_
            refine z_istore (lv' := [(6, (0, 0)), (5, (0, 0)), (0, (2, a0)), (1, (0, a1)), (2, (0, a2)), (3, (0, a3)), (4, (0, a4))]) (pc := 62) hX dX12_rates_62 (zlt hxn rfl) rfl ?_
            have hl64 : ∀ (u20 u21 u22 u23 : Int), ∀ (n1 : Nat) (s19 : ZS) (x24 x25 : Int), Zj X G 64 [(0, (2, u20)), (1, (0, u21)), (3, (0, u22)), (4, (0, u23)), (5, (0, x24)), (6, (0, x25))] [] s19 (lX12_rates_64 u20 u21 u22 u23 n1 s19 x24 x25) := by
              intro u20 u21 u22 u23 n1
              induction n1 with
              | zero => intro _ _ _; exact z_none
              | succ n1 ih1 =>
                intro s19 x24 x25
                rw [lX12_rates_64]
                refine z_iload (pc := 64) hX 5 dX12_rates_64 rfl ?_
                refine z_iload (pc := 66) hX 3 dX12_rates_66 rfl ?_
                refine z_icmp_ge (pc := 68) hX 171 dX12_rates_68 (by decide) (fun h26 => ?_) (fun h26 => ?_)
                · refine z_iload (pc := 171) hX 4 dX12_rates_171 rfl ?_
                  exact z_iret (pc := 173) hX hR hk dX12_rates_173
                · refine z_iload_n (pc := 71) hX 2 dX12_rates_71 rfl rfl ?_
                  refine z_iconst (pc := 72) hX dX12_rates_72 ?_
                  refine z_iload (pc := 73) hX 5 dX12_rates_73 rfl ?_
                  refine z_imul (pc := 75) hX dX12_rates_75 ?_
                  refine z_iadd (pc := 76) hX dX12_rates_76 ?_
                  refine z_istore (lv' := [(7, (0, (wrap (u22 + (wrap (4 * x25)))))), (0, (2, u20)), (1, (0, u21)), (3, (0, u22)), (4, (0, u23)), (5, (0, x24)), (6, (0, x25))]) (pc := 77) hX dX12_rates_77 (zlt hxn rfl) rfl ?_
                  refine z_iload_n (pc := 79) hX 3 dX12_rates_79 rfl rfl ?_
                  refine z_if_lt (pc := 80) hX 102 dX12_rates_80 (by decide) (fun h27 => ?_) (fun h27 => ?_)
                  · refine z_bipush (pc := 102) hX dX12_rates_102 ?_
                    exact z_iret (pc := 104) hX hR hk dX12_rates_104
                  · refine z_iload (pc := 83) hX 0 dX12_rates_83 rfl ?_
                    refine z_iload_n (pc := 85) hX 3 dX12_rates_85 rfl rfl ?_
                    refine z_icmp_lt (pc := 86) hX 102 dX12_rates_86 (by decide) (fun h28 => ?_) (fun h28 => ?_)
                    · refine z_bipush (pc := 102) hX dX12_rates_102 ?_
                      exact z_iret (pc := 104) hX hR hk dX12_rates_104
                    · refine z_iload (pc := 89) hX 0 dX12_rates_89 rfl ?_
                      refine z_aload_n (pc := 91) hX 1 dX12_rates_91 rfl rfl ?_
                      refine z_get (pc := 92) hX zc12 27 (by decide) wd1044 rfl rfl dX12_rates_92 (fun v29 => ?_)
                      refine z_iload_n (pc := 95) hX 2 dX12_rates_95 rfl rfl ?_
                      refine z_iald (pc := 96) hX dX12_rates_96 (fun v30 => ?_)
                      refine z_iconst (pc := 97) hX dX12_rates_97 ?_
                      refine z_isub (pc := 98) hX dX12_rates_98 ?_
                      refine z_icmp_le (pc := 99) hX 105 dX12_rates_99 (by decide) (fun h31 => ?_) (fun h31 => ?_)
                      · refine z_bipush (pc := 105) hX dX12_rates_105 ?_
                        refine z_iload_n (pc := 107) hX 2 dX12_rates_107 rfl rfl ?_
                        refine z_imul (pc := 108) hX dX12_rates_108 ?_
                        refine z_iload (pc := 109) hX 0 dX12_rates_109 rfl ?_
                        refine z_iadd (pc := 111) hX dX12_rates_111 ?_
                        refine z_istore (lv' := [(8, (0, (wrap ((wrap (40 * u21)) + (wrap (u22 + (wrap (4 * x25)))))))), (7, (0, (wrap (u22 + (wrap (4 * x25)))))), (0, (2, u20)), (1, (0, u21)), (3, (0, u22)), (4, (0, u23)), (5, (0, x24)), (6, (0, x25))]) (pc := 112) hX dX12_rates_112 (zlt hxn rfl) rfl ?_
                        refine z_iload (pc := 114) hX 6 dX12_rates_114 rfl ?_
                        refine z_aload_n (pc := 116) hX 2 dX12_rates_116 rfl rfl ?_
                        refine z_aload_n (pc := 117) hX 2 dX12_rates_117 rfl rfl ?_
                        refine z_get (pc := 118) hX zc12 28 (by decide) wd1045 rfl rfl dX12_rates_118 (fun v32 => ?_)
                        refine z_iload (pc := 121) hX 0 dX12_rates_121 rfl ?_
                        refine z_iald (pc := 123) hX dX12_rates_123 (fun v33 => ?_)
                        refine z_aload_n (pc := 124) hX 2 dX12_rates_124 rfl rfl ?_
                        refine z_get (pc := 125) hX zc12 28 (by decide) wd1045 rfl rfl dX12_rates_125 (fun v34 => ?_)
                        refine z_iload (pc := 128) hX 0 dX12_rates_128 rfl ?_
                        refine z_iconst (pc := 130) hX dX12_rates_130 ?_
                        refine z_iadd (pc := 131) hX dX12_rates_131 ?_
                        refine z_iald (pc := 132) hX dX12_rates_132 (fun v35 => ?_)
                        refine z_aload_n (pc := 133) hX 2 dX12_rates_133 rfl rfl ?_
                        refine z_get (pc := 134) hX zc12 28 (by decide) wd1045 rfl rfl dX12_rates_134 (fun v36 => ?_)
                        refine z_iload (pc := 137) hX 0 dX12_rates_137 rfl ?_
                        refine z_iconst (pc := 139) hX dX12_rates_139 ?_
                        refine z_iadd (pc := 140) hX dX12_rates_140 ?_
                        refine z_iald (pc := 141) hX dX12_rates_141 (fun v37 => ?_)
                        refine z_aload_n (pc := 142) hX 2 dX12_rates_142 rfl rfl ?_
                        refine z_get (pc := 143) hX zc12 28 (by decide) wd1045 rfl rfl dX12_rates_143 (fun v38 => ?_)
                        refine z_iload (pc := 146) hX 0 dX12_rates_146 rfl ?_
                        refine z_iconst (pc := 148) hX dX12_rates_148 ?_
                        refine z_iadd (pc := 149) hX dX12_rates_149 ?_
                        refine z_iald (pc := 150) hX dX12_rates_150 (fun v39 => ?_)
                        refine z_callV (n := 4) (st := [(0, x24)]) (pc := 151) hX zc12 rfl (fun _ => (mX12_rate _ hE _ _ _ _ _ _ _)) ⟨wd1435, wd67, wd1169, ⟨by decide, by decide, by decide⟩, by decide⟩ rfl wd1167 wd1168 rfl rfl (by decide) (Nat.le_of_ble_eq_true rfl) dX12_rates_151 (fun v40 s41 r42 => ?_)
                        show Zj X G 154 [(8, (0, (wrap ((wrap (40 * u21)) + (wrap (u22 + (wrap (4 * x25)))))))), (7, (0, (wrap (u22 + (wrap (4 * x25)))))), (0, (2, u20)), (1, (0, u21)), (3, (0, u22)), (4, (0, u23)), (5, (0, x24)), (6, (0, x25))] [(0, v40), (0, x24)] _ _
                        refine z_jn (fun K162 eK162 => ?_)
                        have hK162 : ∀ (s44 : ZS) (w45 : Int), Zj X G 162 [(0, (2, u20)), (1, (0, u21)), (3, (0, u22)), (4, (0, u23)), (6, (0, x25))] [(0, w45), (0, x24)] s44 (K162 s44 w45) := by
                          intro s44 w45
                          rw [eK162]
                          refine z_iadd (pc := 162) hX dX12_rates_162 ?_
                          refine z_istore (lv' := [(5, (0, (wrap (x24 + w45)))), (0, (2, u20)), (1, (0, u21)), (3, (0, u22)), (4, (0, u23)), (6, (0, x25))]) (pc := 163) hX dX12_rates_163 (zlt hxn rfl) rfl ?_
                          refine z_iinc (lv' := [(6, (0, (wrap (x25 + 1)))), (5, (0, (wrap (x24 + w45)))), (0, (2, u20)), (1, (0, u21)), (3, (0, u22)), (4, (0, u23))]) (pc := 165) hX 5 dX12_rates_165 rfl (zlt hxn rfl) rfl ?_
                          refine z_goto (pc := 168) hX 64 dX12_rates_168 (by decide) ?_
                          refine z_pick (lv' := [(0, (2, u20)), (1, (0, u21)), (3, (0, u22)), (4, (0, u23)), (5, (0, (wrap (x24 + w45)))), (6, (0, (wrap (x25 + 1))))]) [2, 3, 4, 5, 1, 0] rfl ?_
                          exact ih1 _ _ _
                        clear eK162
                        refine z_if_lt (pc := 154) hX 161 dX12_rates_154 (by decide) (fun h43 => ?_) (fun h43 => ?_)
                        · refine z_iconst (pc := 161) hX dX12_rates_161 ?_
                          refine z_pick (lv' := [(0, (2, u20)), (1, (0, u21)), (3, (0, u22)), (4, (0, u23)), (6, (0, x25))]) [2, 3, 4, 5, 7] rfl ?_
                          exact hK162 _ _
                        · refine z_iconst (pc := 157) hX dX12_rates_157 ?_
                          refine z_goto (pc := 158) hX 162 dX12_rates_158 (by decide) ?_
                          refine z_pick (lv' := [(0, (2, u20)), (1, (0, u21)), (3, (0, u22)), (4, (0, u23)), (6, (0, x25))]) [2, 3, 4, 5, 7] rfl ?_
                          exact hK162 _ _
                      · refine z_bipush (pc := 102) hX dX12_rates_102 ?_
                        exact z_iret (pc := 104) hX hR hk dX12_rates_104
            refine z_pick (lv' := [(0, (2, a0)), (1, (0, a1)), (3, (0, a3)), (4, (0, a4)), (5, (0, 0)), (6, (0, 0))]) [2, 3, 5, 6, 1, 0] rfl ?_
            refine hl64 _ _ _ _ 1000 _ _ _
          · refine z_bipush (pc := 55) hX dX12_rates_55 ?_
            exact z_iret (pc := 57) hX hR hk dX12_rates_57
        · refine z_bipush (pc := 42) hX dX12_rates_42 ?_
          exact z_iret (pc := 44) hX hR hk dX12_rates_44
      · refine z_bipush (pc := 29) hX dX12_rates_29 ?_
        exact z_iret (pc := 31) hX hR hk dX12_rates_31

theorem dX11_isOfKind_0 : decode cX11_isOfKind 0 = .ok (.iload_n 1, 1) := by decide +kernel
theorem dX11_isOfKind_1 : decode cX11_isOfKind 1 = .ok (.tableswitch 66 0 5 #[39, 41, 46, 51, 56, 61], 39) := by decide +kernel
theorem dX11_isOfKind_40 : decode cX11_isOfKind 40 = .ok (.iconst 1, 1) := by decide +kernel
theorem dX11_isOfKind_41 : decode cX11_isOfKind 41 = .ok (.ireturn, 1) := by decide +kernel
theorem dX11_isOfKind_42 : decode cX11_isOfKind 42 = .ok (.aload_n 0, 1) := by decide +kernel
theorem dX11_isOfKind_43 : decode cX11_isOfKind 43 = .ok (.instanceof 292, 3) := by decide +kernel
theorem dX11_isOfKind_46 : decode cX11_isOfKind 46 = .ok (.ireturn, 1) := by decide +kernel
theorem dX11_isOfKind_47 : decode cX11_isOfKind 47 = .ok (.aload_n 0, 1) := by decide +kernel
theorem dX11_isOfKind_48 : decode cX11_isOfKind 48 = .ok (.instanceof 297, 3) := by decide +kernel
theorem dX11_isOfKind_51 : decode cX11_isOfKind 51 = .ok (.ireturn, 1) := by decide +kernel
theorem dX11_isOfKind_52 : decode cX11_isOfKind 52 = .ok (.aload_n 0, 1) := by decide +kernel
theorem dX11_isOfKind_53 : decode cX11_isOfKind 53 = .ok (.instanceof 300, 3) := by decide +kernel
theorem dX11_isOfKind_56 : decode cX11_isOfKind 56 = .ok (.ireturn, 1) := by decide +kernel
theorem dX11_isOfKind_57 : decode cX11_isOfKind 57 = .ok (.aload_n 0, 1) := by decide +kernel
theorem dX11_isOfKind_58 : decode cX11_isOfKind 58 = .ok (.instanceof 303, 3) := by decide +kernel
theorem dX11_isOfKind_61 : decode cX11_isOfKind 61 = .ok (.ireturn, 1) := by decide +kernel
theorem dX11_isOfKind_62 : decode cX11_isOfKind 62 = .ok (.aload_n 0, 1) := by decide +kernel
theorem dX11_isOfKind_63 : decode cX11_isOfKind 63 = .ok (.instanceof 306, 3) := by decide +kernel
theorem dX11_isOfKind_66 : decode cX11_isOfKind 66 = .ok (.ireturn, 1) := by decide +kernel
theorem dX11_isOfKind_67 : decode cX11_isOfKind 67 = .ok (.iconst 0, 1) := by decide +kernel
theorem dX11_isOfKind_68 : decode cX11_isOfKind 68 = .ok (.ireturn, 1) := by decide +kernel
def fX11_isOfKind (s0 : ZS) (a0 : Int) (a1 : Int) : Option (Int × ZS) := if a1 = 0 then (some (1, s0)) else (if a1 = 1 then ((zio s0 a0 isTolled okW).bind (fun v3 => some (v3, s0))) else (if a1 = 2 then ((zio s0 a0 isNumbered okW).bind (fun v6 => some (v6, s0))) else (if a1 = 3 then ((zio s0 a0 isDrawn okW).bind (fun v9 => some (v9, s0))) else (if a1 = 4 then ((zio s0 a0 isLast okW).bind (fun v12 => some (v12, s0))) else (if a1 = 5 then ((zio s0 a0 isSorted okW).bind (fun v15 => some (v15, s0))) else (some (0, s0)))))))
set_option maxHeartbeats 4000000 in
set_option maxRecDepth 100000 in
theorem mX11_isOfKind (E : ZE) (hE : zOkE E) (l : Launch) (s0 : ZS) (a0 : Int) (a1 : Int) : Ct E l yX11_isOfKind cX11_isOfKind 2 (some .boolean) 2 [(2, a0), (0, a1)] 4 s0 (fX11_isOfKind s0 a0 a1) := by
  refine Ct.of (by decide) hE (Nat.le_of_ble_eq_true rfl) ?_
  intro X G hX hR hN hXE hXl hxn hk _
  subst hXE
  subst hXl
  have hX : G → ZOk X cX11_isOfKind RX11 2 := hX
  clear hN
  show Zj X G 0 [(0, (2, a0)), (1, (0, a1))] [] s0 _
  unfold fX11_isOfKind
  refine z_iload_n (pc := 0) hX 1 dX11_isOfKind_0 rfl rfl ?_
  by_cases h1 : a1 = 0
  · refine z_eq (if_pos h1) ?_
    refine z_tswIn (pc := 1) hX 40 dX11_isOfKind_1 h1 (by decide) (by decide) rfl (by decide) ?_
    refine z_iconst (pc := 40) hX dX11_isOfKind_40 ?_
    exact z_zret (pc := 41) hX hR hk dX11_isOfKind_41 (Or.inr rfl)
  · refine z_eq (if_neg h1) ?_
    by_cases h2 : a1 = 1
    · refine z_eq (if_pos h2) ?_
      refine z_tswIn (pc := 1) hX 42 dX11_isOfKind_1 h2 (by decide) (by decide) rfl (by decide) ?_
      refine z_aload_n (pc := 42) hX 0 dX11_isOfKind_42 rfl rfl ?_
      refine z_instA (pc := 43) hX isTolled okW wd606 isTolled_ok dX11_isOfKind_43 (fun v3 r4 => ?_)
      exact z_zret (pc := 46) hX hR hk dX11_isOfKind_46 r4
    · refine z_eq (if_neg h2) ?_
      by_cases h5 : a1 = 2
      · refine z_eq (if_pos h5) ?_
        refine z_tswIn (pc := 1) hX 47 dX11_isOfKind_1 h5 (by decide) (by decide) rfl (by decide) ?_
        refine z_aload_n (pc := 47) hX 0 dX11_isOfKind_47 rfl rfl ?_
        refine z_instA (pc := 48) hX isNumbered okW wd630 isNumbered_ok dX11_isOfKind_48 (fun v6 r7 => ?_)
        exact z_zret (pc := 51) hX hR hk dX11_isOfKind_51 r7
      · refine z_eq (if_neg h5) ?_
        by_cases h8 : a1 = 3
        · refine z_eq (if_pos h8) ?_
          refine z_tswIn (pc := 1) hX 52 dX11_isOfKind_1 h8 (by decide) (by decide) rfl (by decide) ?_
          refine z_aload_n (pc := 52) hX 0 dX11_isOfKind_52 rfl rfl ?_
          refine z_instA (pc := 53) hX isDrawn okW wd640 isDrawn_ok dX11_isOfKind_53 (fun v9 r10 => ?_)
          exact z_zret (pc := 56) hX hR hk dX11_isOfKind_56 r10
        · refine z_eq (if_neg h8) ?_
          by_cases h11 : a1 = 4
          · refine z_eq (if_pos h11) ?_
            refine z_tswIn (pc := 1) hX 57 dX11_isOfKind_1 h11 (by decide) (by decide) rfl (by decide) ?_
            refine z_aload_n (pc := 57) hX 0 dX11_isOfKind_57 rfl rfl ?_
            refine z_instA (pc := 58) hX isLast okW wd650 isLast_ok dX11_isOfKind_58 (fun v12 r13 => ?_)
            exact z_zret (pc := 61) hX hR hk dX11_isOfKind_61 r13
          · refine z_eq (if_neg h11) ?_
            by_cases h14 : a1 = 5
            · refine z_eq (if_pos h14) ?_
              refine z_tswIn (pc := 1) hX 62 dX11_isOfKind_1 h14 (by decide) (by decide) rfl (by decide) ?_
              refine z_aload_n (pc := 62) hX 0 dX11_isOfKind_62 rfl rfl ?_
              refine z_instA (pc := 63) hX isSorted okW wd660 isSorted_ok dX11_isOfKind_63 (fun v15 r16 => ?_)
              exact z_zret (pc := 66) hX hR hk dX11_isOfKind_66 r16
            · refine z_eq (if_neg h14) ?_
              refine z_tswOut (pc := 1) hX 67 dX11_isOfKind_1 (by omega) (by decide) ?_
              refine z_iconst (pc := 67) hX dX11_isOfKind_67 ?_
              exact z_zret (pc := 68) hX hR hk dX11_isOfKind_68 (Or.inl rfl)
