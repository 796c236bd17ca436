theorem dX12_line_0 : decode cX12_line 0 = .ok (.aload_n 0, 1) := by decide +kernel
theorem dX12_line_1 : decode cX12_line 1 = .ok (.iload_n 1, 1) := by decide +kernel
theorem dX12_line_2 : decode cX12_line 2 = .ok (.invokevirtual 217, 3) := by decide +kernel
theorem dX12_line_5 : decode cX12_line 5 = .ok (.ifCond .eq 11, 3) := by decide +kernel
theorem dX12_line_8 : decode cX12_line 8 = .ok (.iload_n 2, 1) := by decide +kernel
theorem dX12_line_9 : decode cX12_line 9 = .ok (.iload_n 3, 1) := by decide +kernel
theorem dX12_line_10 : decode cX12_line 10 = .ok (.invokestatic 131, 3) := by decide +kernel
theorem dX12_line_13 : decode cX12_line 13 = .ok (.ifCond .ne 6, 3) := by decide +kernel
theorem dX12_line_16 : decode cX12_line 16 = .ok (.bipush (-5), 2) := by decide +kernel
theorem dX12_line_18 : decode cX12_line 18 = .ok (.ireturn, 1) := by decide +kernel
theorem dX12_line_19 : decode cX12_line 19 = .ok (.aload_n 0, 1) := by decide +kernel
theorem dX12_line_20 : decode cX12_line 20 = .ok (.iload_n 1, 1) := by decide +kernel
theorem dX12_line_21 : decode cX12_line 21 = .ok (.invokevirtual 251, 3) := by decide +kernel
theorem dX12_line_24 : decode cX12_line 24 = .ok (.aload_n 0, 1) := by decide +kernel
theorem dX12_line_25 : decode cX12_line 25 = .ok (.iload_n 1, 1) := by decide +kernel
theorem dX12_line_26 : decode cX12_line 26 = .ok (.invokevirtual 254, 3) := by decide +kernel
theorem dX12_line_29 : decode cX12_line 29 = .ok (.iconst 0, 1) := by decide +kernel
theorem dX12_line_30 : decode cX12_line 30 = .ok (.istore 4, 2) := by decide +kernel
theorem dX12_line_32 : decode cX12_line 32 = .ok (.iconst 0, 1) := by decide +kernel
theorem dX12_line_33 : decode cX12_line 33 = .ok (.istore 5, 2) := by decide +kernel
theorem dX12_line_35 : decode cX12_line 35 = .ok (.iload 5, 2) := by decide +kernel
theorem dX12_line_37 : decode cX12_line 37 = .ok (.aload_n 0, 1) := by decide +kernel
theorem dX12_line_38 : decode cX12_line 38 = .ok (.getfield 31, 3) := by decide +kernel
theorem dX12_line_41 : decode cX12_line 41 = .ok (.iload_n 1, 1) := by decide +kernel
theorem dX12_line_42 : decode cX12_line 42 = .ok (.iaload, 1) := by decide +kernel
theorem dX12_line_43 : decode cX12_line 43 = .ok (.if_icmp .ge 101, 3) := by decide +kernel
theorem dX12_line_46 : decode cX12_line 46 = .ok (.aload_n 0, 1) := by decide +kernel
theorem dX12_line_47 : decode cX12_line 47 = .ok (.getfield 106, 3) := by decide +kernel
theorem dX12_line_50 : decode cX12_line 50 = .ok (.iload 5, 2) := by decide +kernel
theorem dX12_line_52 : decode cX12_line 52 = .ok (.iaload, 1) := by decide +kernel
theorem dX12_line_53 : decode cX12_line 53 = .ok (.bipush 48, 2) := by decide +kernel
theorem dX12_line_55 : decode cX12_line 55 = .ok (.if_icmp .eq 43, 3) := by decide +kernel
theorem dX12_line_58 : decode cX12_line 58 = .ok (.aload_n 0, 1) := by decide +kernel
theorem dX12_line_59 : decode cX12_line 59 = .ok (.getfield 106, 3) := by decide +kernel
theorem dX12_line_62 : decode cX12_line 62 = .ok (.iload 5, 2) := by decide +kernel
theorem dX12_line_64 : decode cX12_line 64 = .ok (.iaload, 1) := by decide +kernel
theorem dX12_line_65 : decode cX12_line 65 = .ok (.bipush 24, 2) := by decide +kernel
theorem dX12_line_67 : decode cX12_line 67 = .ok (.idiv, 1) := by decide +kernel
theorem dX12_line_68 : decode cX12_line 68 = .ok (.iload_n 2, 1) := by decide +kernel
theorem dX12_line_69 : decode cX12_line 69 = .ok (.if_icmp .ne 29, 3) := by decide +kernel
theorem dX12_line_72 : decode cX12_line 72 = .ok (.aload_n 0, 1) := by decide +kernel
theorem dX12_line_73 : decode cX12_line 73 = .ok (.getfield 109, 3) := by decide +kernel
theorem dX12_line_76 : decode cX12_line 76 = .ok (.iload 5, 2) := by decide +kernel
theorem dX12_line_78 : decode cX12_line 78 = .ok (.iaload, 1) := by decide +kernel
theorem dX12_line_79 : decode cX12_line 79 = .ok (.iconst (-1), 1) := by decide +kernel
theorem dX12_line_80 : decode cX12_line 80 = .ok (.if_icmp .eq 18, 3) := by decide +kernel
theorem dX12_line_83 : decode cX12_line 83 = .ok (.aload_n 0, 1) := by decide +kernel
theorem dX12_line_84 : decode cX12_line 84 = .ok (.getfield 109, 3) := by decide +kernel
theorem dX12_line_87 : decode cX12_line 87 = .ok (.iload 5, 2) := by decide +kernel
theorem dX12_line_89 : decode cX12_line 89 = .ok (.iaload, 1) := by decide +kernel
theorem dX12_line_90 : decode cX12_line 90 = .ok (.iload_n 3, 1) := by decide +kernel
theorem dX12_line_91 : decode cX12_line 91 = .ok (.if_icmp .gt 7, 3) := by decide +kernel
theorem dX12_line_94 : decode cX12_line 94 = .ok (.iconst 1, 1) := by decide +kernel
theorem dX12_line_95 : decode cX12_line 95 = .ok (.goto 4, 3) := by decide +kernel
theorem dX12_line_98 : decode cX12_line 98 = .ok (.iconst 0, 1) := by decide +kernel
theorem dX12_line_99 : decode cX12_line 99 = .ok (.istore 6, 2) := by decide +kernel
theorem dX12_line_101 : decode cX12_line 101 = .ok (.iload 4, 2) := by decide +kernel
theorem dX12_line_103 : decode cX12_line 103 = .ok (.iload 6, 2) := by decide +kernel
theorem dX12_line_105 : decode cX12_line 105 = .ok (.ifCond .eq 29, 3) := by decide +kernel
theorem dX12_line_108 : decode cX12_line 108 = .ok (.aload_n 0, 1) := by decide +kernel
theorem dX12_line_109 : decode cX12_line 109 = .ok (.getfield 112, 3) := by decide +kernel
theorem dX12_line_112 : decode cX12_line 112 = .ok (.iload 5, 2) := by decide +kernel
theorem dX12_line_114 : decode cX12_line 114 = .ok (.iaload, 1) := by decide +kernel
theorem dX12_line_115 : decode cX12_line 115 = .ok (.iconst (-1), 1) := by decide +kernel
theorem dX12_line_116 : decode cX12_line 116 = .ok (.if_icmp .eq 14, 3) := by decide +kernel
theorem dX12_line_119 : decode cX12_line 119 = .ok (.aload_n 0, 1) := by decide +kernel
theorem dX12_line_120 : decode cX12_line 120 = .ok (.getfield 112, 3) := by decide +kernel
theorem dX12_line_123 : decode cX12_line 123 = .ok (.iload 5, 2) := by decide +kernel
theorem dX12_line_125 : decode cX12_line 125 = .ok (.iaload, 1) := by decide +kernel
theorem dX12_line_126 : decode cX12_line 126 = .ok (.iload_n 3, 1) := by decide +kernel
theorem dX12_line_127 : decode cX12_line 127 = .ok (.if_icmp .le 7, 3) := by decide +kernel
theorem dX12_line_130 : decode cX12_line 130 = .ok (.iconst 1, 1) := by decide +kernel
theorem dX12_line_131 : decode cX12_line 131 = .ok (.goto 4, 3) := by decide +kernel
theorem dX12_line_134 : decode cX12_line 134 = .ok (.iconst 0, 1) := by decide +kernel
theorem dX12_line_135 : decode cX12_line 135 = .ok (.iadd, 1) := by decide +kernel
theorem dX12_line_136 : decode cX12_line 136 = .ok (.istore 4, 2) := by decide +kernel
theorem dX12_line_138 : decode cX12_line 138 = .ok (.iinc 5 1, 3) := by decide +kernel
theorem dX12_line_141 : decode cX12_line 141 = .ok (.goto (-106), 3) := by decide +kernel
theorem dX12_line_144 : decode cX12_line 144 = .ok (.iload 4, 2) := by decide +kernel
theorem dX12_line_146 : decode cX12_line 146 = .ok (.ireturn, 1) := by decide +kernel
def lX12_line_35 (u16 u17 u18 u19 : Int)  : Nat → ZS → Int → Int → Option (Int × ZS)
  | 0, _, _, _ => none
  | n1 + 1, s15, x20, x21 => (zg s15 12 u16 10).bind (fun v22 => (zal s15 100 v22 u17).bind (fun v23 => if v23 ≤ x21 then (some (x20, s15)) else ((zg s15 12 u16 40).bind (fun v25 => (zal s15 100 v25 x21).bind (fun v26 => zjn (fun (K99 : ZS → Int → Option (Int × ZS)) => zjn (fun (K98 : ZS → Option (Int × ZS)) => if v26 = 48 then (K98 s15) else ((zg s15 12 u16 40).bind (fun v28 => (zal s15 100 v28 x21).bind (fun v29 => if 24 = 0 then none else (if (wrap (v29.tdiv 24)) = u18 then ((zg s15 12 u16 41).bind (fun v31 => (zal s15 100 v31 x21).bind (fun v32 => if v32 = (-1) then (K98 s15) else ((zg s15 12 u16 41).bind (fun v34 => (zal s15 100 v34 x21).bind (fun v35 => if u19 < v35 then (K98 s15) else (K99 s15 1))))))) else (K98 s15)))))) (fun (s37 : ZS) => K99 s37 0)) (fun (s38 : ZS) (w39 : Int) => zjn (fun (K135 : ZS → Int → Option (Int × ZS)) => zjn (fun (K134 : ZS → Option (Int × ZS)) => if w39 = 0 then (K134 s38) else ((zg s38 12 u16 42).bind (fun v41 => (zal s38 100 v41 x21).bind (fun v42 => zjn (fun (K130 : ZS → Option (Int × ZS)) => if v42 = (-1) then (K130 s38) else ((zg s38 12 u16 42).bind (fun v44 => (zal s38 100 v44 x21).bind (fun v45 => if v45 ≤ u19 then (K134 s38) else (K130 s38))))) (fun (s47 : ZS) => K135 s47 1))))) (fun (s48 : ZS) => K135 s48 0)) (fun (s49 : ZS) (w50 : Int) => lX12_line_35 u16 u17 u18 u19 n1 s49 (wrap (x20 + w50)) (wrap (x21 + 1)))))))))

def fX12_line (s0 : ZS) (a0 : Int) (a1 : Int) (a2 : Int) (a3 : Int) : Option (Int × ZS) := zb (zv s0 12 a0 (fX12_isWay s0 a0 a1)) (fun v1 s2 => if v1 = 0 then (some ((-5), s2)) else (zb (fX12_isGate s2 a2 a3) (fun v5 s6 => if v5 = 0 then (some ((-5), s6)) else (zb (zv s6 12 a0 (fX12_lays s6 a0 a1)) (fun v9 s10 => zb (zv s10 12 a0 (fX12_goes s10 a0 a1)) (fun v12 s13 => lX12_line_35 a0 a1 a2 a3 1000 s13 0 0))))))
set_option maxHeartbeats 4000000 in
set_option maxRecDepth 100000 in
theorem mX12_line (E : ZE) (hE : zOkE E) (l : Launch) (s0 : ZS) (a0 : Int) (a1 : Int) (a2 : Int) (a3 : Int) : Ct E l yX12_line cX12_line 7 (some .int) 8 [(2, a0), (0, a1), (0, a2), (0, a3)] 1 s0 (fX12_line s0 a0 a1 a2 a3) := by
  refine Ct.of (by decide) hE (Nat.le_of_ble_eq_true rfl) ?_
  intro X G hX hR hN hXE hXl hxn hk _
  subst hXE
  subst hXl
  have hX : G → ZOk X cX12_line RX12 8 := hX
  clear hN
  show Zj X G 0 [(0, (2, a0)), (1, (0, a1)), (2, (0, a2)), (3, (0, a3))] [] s0 _
  unfold fX12_line
  refine z_aload_n (pc := 0) hX 0 dX12_line_0 rfl rfl ?_
  refine z_iload_n (pc := 1) hX 1 dX12_line_1 rfl rfl ?_
  refine z_callV (n := 1) (st := []) (pc := 2) hX zc12 rfl (fun _ => (mX12_isWay _ hE _ _ _ _)) ⟨wd1268, wd67, wd1271, ⟨by decide, by decide, by decide⟩, by decide⟩ rfl wd1270 wd42 rfl rfl (by decide) (Nat.le_of_ble_eq_true rfl) dX12_line_2 (fun v1 s2 r3 => ?_)
  show Zj X G 5 [(0, (2, a0)), (1, (0, a1)), (2, (0, a2)), (3, (0, a3))] [(0, v1)] _ _
  refine z_if_eq (pc := 5) hX 16 dX12_line_5 (by decide) (fun h4 => ?_) (fun h4 => ?_)
  · refine z_bipush (pc := 16) hX dX12_line_16 ?_
    exact z_iret (pc := 18) hX hR hk dX12_line_18
  · refine z_iload_n (pc := 8) hX 2 dX12_line_8 rfl rfl ?_
    refine z_iload_n (pc := 9) hX 3 dX12_line_9 rfl rfl ?_
    refine z_callS (n := 2) (st := []) (pc := 10) hX (mX12_isGate _ hE _ _ _ _) ⟨wd1170, wd67, wd1172, ⟨by decide, by decide, by decide⟩, by decide⟩ wd1171 rfl rfl (by decide) (Nat.le_of_ble_eq_true rfl) dX12_line_10 (fun v5 s6 r7 => ?_)
    show Zj X G 13 [(0, (2, a0)), (1, (0, a1)), (2, (0, a2)), (3, (0, a3))] [(0, v5)] _ _
    refine z_if_ne (pc := 13) hX 19 dX12_line_13 (by decide) (fun h8 => ?_) (fun h8 => ?_)
    · refine z_aload_n (pc := 19) hX 0 dX12_line_19 rfl rfl ?_
      refine z_iload_n (pc := 20) hX 1 dX12_line_20 rfl rfl ?_
      refine z_callV (n := 1) (st := []) (pc := 21) hX zc12 rfl (fun _ => (mX12_lays _ hE _ _ _ _)) ⟨wd1284, wd67, wd1287, ⟨by decide, by decide, by decide⟩, by decide⟩ rfl wd1286 wd44 rfl rfl (by decide) (Nat.le_of_ble_eq_true rfl) dX12_line_21 (fun v9 s10 r11 => ?_)
      show Zj X G 24 [(0, (2, a0)), (1, (0, a1)), (2, (0, a2)), (3, (0, a3))] [] _ _
      refine z_aload_n (pc := 24) hX 0 dX12_line_24 rfl rfl ?_
      refine z_iload_n (pc := 25) hX 1 dX12_line_25 rfl rfl ?_
      refine z_callV (n := 1) (st := []) (pc := 26) hX zc12 rfl (fun _ => (mX12_goes _ hE _ _ _ _)) ⟨wd1288, wd67, wd1291, ⟨by decide, by decide, by decide⟩, by decide⟩ rfl wd1290 wd45 rfl rfl (by decide) (Nat.le_of_ble_eq_true rfl) dX12_line_26 (fun v12 s13 r14 => ?_)
      show Zj X G 29 [(0, (2, a0)), (1, (0, a1)), (2, (0, a2)), (3, (0, a3))] [] _ _
      refine z_iconst (pc := 29) hX dX12_line_29 ?_
      refine z_istore (lv' := [(4, (0, 0)), (0, (2, a0)), (1, (0, a1)), (2, (0, a2)), (3, (0, a3))]) (pc := 30) hX dX12_line_30 (zlt hxn rfl) rfl ?_
      refine z_iconst (pc := 32) hX dX12_line_32 ?_
      refine z_istore (lv' := [(5, (0, 0)), (4, (0, 0)), (0, (2, a0)), (1, (0, a1)), (2, (0, a2)), (3, (0, a3))]) (pc := 33) hX dX12_line_33 (zlt hxn rfl) rfl ?_
      have hl35 : ∀ (u16 u17 u18 u19 : Int), ∀ (n1 : Nat) (s15 : ZS) (x20 x21 : Int), Zj X G 35 [(0, (2, u16)), (1, (0, u17)), (2, (0, u18)), (3, (0, u19)), (4, (0, x20)), (5, (0, x21))] [] s15 (lX12_line_35 u16 u17 u18 u19 n1 s15 x20 x21) := by
        intro u16 u17 u18 u19 n1
        induction n1 with
        | zero => intro _ _ _; exact z_none
        | succ n1 ih1 =>
          intro s15 x20 x21
          rw [lX12_line_35]
          refine z_iload (pc := 35) hX 5 dX12_line_35 rfl ?_
          refine z_aload_n (pc := 37) hX 0 dX12_line_37 rfl rfl ?_
          refine z_get (pc := 38) hX zc12 10 (by decide) wd1027 rfl rfl dX12_line_38 (fun v22 => ?_)
          refine z_iload_n (pc := 41) hX 1 dX12_line_41 rfl rfl ?_
          refine z_iald (pc := 42) hX dX12_line_42 (fun v23 => ?_)
          refine z_icmp_ge (pc := 43) hX 144 dX12_line_43 (by decide) (fun h24 => ?_) (fun h24 => ?_)
          · refine z_iload (pc := 144) hX 4 dX12_line_144 rfl ?_
            exact z_iret (pc := 146) hX hR hk dX12_line_146
          · refine z_aload_n (pc := 46) hX 0 dX12_line_46 rfl rfl ?_
            refine z_get (pc := 47) hX zc12 40 (by decide) wd1057 rfl rfl dX12_line_47 (fun v25 => ?_)
            refine z_iload (pc := 50) hX 5 dX12_line_50 rfl ?_
            refine z_iald (pc := 52) hX dX12_line_52 (fun v26 => ?_)
            refine z_bipush (pc := 53) hX dX12_line_53 ?_
            refine z_jn (fun K99 eK99 => ?_)
            have hK99 : ∀ (s38 : ZS) (w39 : Int), Zj X G 99 [(0, (2, u16)), (1, (0, u17)), (2, (0, u18)), (3, (0, u19)), (4, (0, x20)), (5, (0, x21))] [(0, w39)] s38 (K99 s38 w39) := by
              intro s38 w39
              rw [eK99]
              refine z_istore (lv' := [(6, (0, w39)), (0, (2, u16)), (1, (0, u17)), (2, (0, u18)), (3, (0, u19)), (4, (0, x20)), (5, (0, x21))]) (pc := 99) hX dX12_line_99 (zlt hxn rfl) rfl ?_
              refine z_iload (pc := 101) hX 5 dX12_line_101 rfl ?_
              refine z_iload (pc := 103) hX 0 dX12_line_103 rfl ?_
              refine z_jn (fun K135 eK135 => ?_)
              have hK135 : ∀ (s49 : ZS) (w50 : Int), Zj X G 135 [(0, (2, u16)), (1, (0, u17)), (2, (0, u18)), (3, (0, u19)), (5, (0, x21))] [(0, w50), (0, x20)] s49 (K135 s49 w50) := by
                intro s49 w50
                rw [eK135]
                refine z_iadd (pc := 135) hX dX12_line_135 ?_
                refine z_istore (lv' := [(4, (0, (wrap (x20 + w50)))), (0, (2, u16)), (1, (0, u17)), (2, (0, u18)), (3, (0, u19)), (5, (0, x21))]) (pc := 136) hX dX12_line_136 (zlt hxn rfl) rfl ?_
                refine z_iinc (lv' := [(5, (0, (wrap (x21 + 1)))), (4, (0, (wrap (x20 + w50)))), (0, (2, u16)), (1, (0, u17)), (2, (0, u18)), (3, (0, u19))]) (pc := 138) hX 5 dX12_line_138 rfl (zlt hxn rfl) rfl ?_
                refine z_goto (pc := 141) hX 35 dX12_line_141 (by decide) ?_
                refine z_pick (lv' := [(0, (2, u16)), (1, (0, u17)), (2, (0, u18)), (3, (0, u19)), (4, (0, (wrap (x20 + w50)))), (5, (0, (wrap (x21 + 1))))]) [2, 3, 4, 5, 1, 0] rfl ?_
                exact ih1 _ _ _
              clear eK135
              refine z_jn (fun K134 eK134 => ?_)
              have hK134 : ∀ (s48 : ZS), Zj X G 134 [(0, (2, u16)), (1, (0, u17)), (2, (0, u18)), (3, (0, u19)), (5, (0, x21))] [(0, x20)] s48 (K134 s48) := by
                intro s48
                rw [eK134]
                refine z_iconst (pc := 134) hX dX12_line_134 ?_
                exact hK135 _ _
              clear eK134
              refine z_if_eq (pc := 105) hX 134 dX12_line_105 (by decide) (fun h40 => ?_) (fun h40 => ?_)
              · refine z_pick (lv' := [(0, (2, u16)), (1, (0, u17)), (2, (0, u18)), (3, (0, u19)), (5, (0, x21))]) [1, 2, 3, 4, 6] rfl ?_
                exact hK134 _
              · refine z_aload_n (pc := 108) hX 1 dX12_line_108 rfl rfl ?_
                refine z_get (pc := 109) hX zc12 42 (by decide) wd1059 rfl rfl dX12_line_109 (fun v41 => ?_)
                refine z_iload (pc := 112) hX 6 dX12_line_112 rfl ?_
                refine z_iald (pc := 114) hX dX12_line_114 (fun v42 => ?_)
                refine z_iconst (pc := 115) hX dX12_line_115 ?_
                refine z_jn (fun K130 eK130 => ?_)
                have hK130 : ∀ (s47 : ZS), Zj X G 130 [(0, (2, u16)), (1, (0, u17)), (2, (0, u18)), (3, (0, u19)), (5, (0, x21))] [(0, x20)] s47 (K130 s47) := by
                  intro s47
                  rw [eK130]
                  refine z_iconst (pc := 130) hX dX12_line_130 ?_
                  refine z_goto (pc := 131) hX 135 dX12_line_131 (by decide) ?_
                  exact hK135 _ _
                clear eK130
                refine z_icmp_eq (pc := 116) hX 130 dX12_line_116 (by decide) (fun h43 => ?_) (fun h43 => ?_)
                · refine z_pick (lv' := [(0, (2, u16)), (1, (0, u17)), (2, (0, u18)), (3, (0, u19)), (5, (0, x21))]) [1, 2, 3, 4, 6] rfl ?_
                  exact hK130 _
                · refine z_aload_n (pc := 119) hX 1 dX12_line_119 rfl rfl ?_
                  refine z_get (pc := 120) hX zc12 42 (by decide) wd1059 rfl rfl dX12_line_120 (fun v44 => ?_)
                  refine z_iload (pc := 123) hX 6 dX12_line_123 rfl ?_
                  refine z_iald (pc := 125) hX dX12_line_125 (fun v45 => ?_)
                  refine z_iload_n (pc := 126) hX 4 dX12_line_126 rfl rfl ?_
                  refine z_icmp_le (pc := 127) hX 134 dX12_line_127 (by decide) (fun h46 => ?_) (fun h46 => ?_)
                  · refine z_pick (lv' := [(0, (2, u16)), (1, (0, u17)), (2, (0, u18)), (3, (0, u19)), (5, (0, x21))]) [1, 2, 3, 4, 6] rfl ?_
                    exact hK134 _
                  · refine z_pick (lv' := [(0, (2, u16)), (1, (0, u17)), (2, (0, u18)), (3, (0, u19)), (5, (0, x21))]) [1, 2, 3, 4, 6] rfl ?_
                    exact hK130 _
            clear eK99
            refine z_jn (fun K98 eK98 => ?_)
            have hK98 : ∀ (s37 : ZS), Zj X G 98 [(0, (2, u16)), (1, (0, u17)), (2, (0, u18)), (3, (0, u19)), (4, (0, x20)), (5, (0, x21))] [] s37 (K98 s37) := by
              intro s37
              rw [eK98]
              refine z_iconst (pc := 98) hX dX12_line_98 ?_
              exact hK99 _ _
            clear eK98
            refine z_icmp_eq (pc := 55) hX 98 dX12_line_55 (by decide) (fun h27 => ?_) (fun h27 => ?_)
            · exact hK98 _
            · refine z_aload_n (pc := 58) hX 0 dX12_line_58 rfl rfl ?_
              refine z_get (pc := 59) hX zc12 40 (by decide) wd1057 rfl rfl dX12_line_59 (fun v28 => ?_)
              refine z_iload (pc := 62) hX 5 dX12_line_62 rfl ?_
              refine z_iald (pc := 64) hX dX12_line_64 (fun v29 => ?_)
              refine z_bipush (pc := 65) hX dX12_line_65 ?_
              refine z_idiv (pc := 67) hX dX12_line_67 (fun _ => ?_)
              refine z_iload_n (pc := 68) hX 2 dX12_line_68 rfl rfl ?_
              refine z_icmp_ne (pc := 69) hX 98 dX12_line_69 (by decide) (fun h30 => ?_) (fun h30 => ?_)
              · exact hK98 _
              · refine z_aload_n (pc := 72) hX 0 dX12_line_72 rfl rfl ?_
                refine z_get (pc := 73) hX zc12 41 (by decide) wd1058 rfl rfl dX12_line_73 (fun v31 => ?_)
                refine z_iload (pc := 76) hX 5 dX12_line_76 rfl ?_
                refine z_iald (pc := 78) hX dX12_line_78 (fun v32 => ?_)
                refine z_iconst (pc := 79) hX dX12_line_79 ?_
                refine z_icmp_eq (pc := 80) hX 98 dX12_line_80 (by decide) (fun h33 => ?_) (fun h33 => ?_)
                · exact hK98 _
                · refine z_aload_n (pc := 83) hX 0 dX12_line_83 rfl rfl ?_
                  refine z_get (pc := 84) hX zc12 41 (by decide) wd1058 rfl rfl dX12_line_84 (fun v34 => ?_)
                  refine z_iload (pc := 87) hX 5 dX12_line_87 rfl ?_
                  refine z_iald (pc := 89) hX dX12_line_89 (fun v35 => ?_)
                  refine z_iload_n (pc := 90) hX 3 dX12_line_90 rfl rfl ?_
                  refine z_icmp_gt (pc := 91) hX 98 dX12_line_91 (by decide) (fun h36 => ?_) (fun h36 => ?_)
                  · exact hK98 _
                  · refine z_iconst (pc := 94) hX dX12_line_94 ?_
                    refine z_goto (pc := 95) hX 99 dX12_line_95 (by decide) ?_
                    exact hK99 _ _
      refine z_pick (lv' := [(0, (2, a0)), (1, (0, a1)), (2, (0, a2)), (3, (0, a3)), (4, (0, 0)), (5, (0, 0))]) [2, 3, 4, 5, 1, 0] rfl ?_
      refine hl35 _ _ _ _ 1000 _ _ _
    · refine z_bipush (pc := 16) hX dX12_line_16 ?_
      exact z_iret (pc := 18) hX hR hk dX12_line_18

theorem dX11_passes_0 : decode cX11_passes 0 = .ok (.aload_n 0, 1) := by decide +kernel
theorem dX11_passes_1 : decode cX11_passes 1 = .ok (.iload_n 1, 1) := by decide +kernel
theorem dX11_passes_2 : decode cX11_passes 2 = .ok (.invokevirtual 177, 3) := by decide +kernel
theorem dX11_passes_5 : decode cX11_passes 5 = .ok (.astore_n 3, 1) := by decide +kernel
theorem dX11_passes_6 : decode cX11_passes 6 = .ok (.aload_n 3, 1) := by decide +kernel
theorem dX11_passes_7 : decode cX11_passes 7 = .ok (.ifnonnull 6, 3) := by decide +kernel
theorem dX11_passes_10 : decode cX11_passes 10 = .ok (.bipush (-5), 2) := by decide +kernel
theorem dX11_passes_12 : decode cX11_passes 12 = .ok (.ireturn, 1) := by decide +kernel
theorem dX11_passes_13 : decode cX11_passes 13 = .ok (.aload_n 0, 1) := by decide +kernel
theorem dX11_passes_14 : decode cX11_passes 14 = .ok (.getfield 10, 3) := by decide +kernel
theorem dX11_passes_17 : decode cX11_passes 17 = .ok (.aload_n 3, 1) := by decide +kernel
theorem dX11_passes_18 : decode cX11_passes 18 = .ok (.invokevirtual 188, 3) := by decide +kernel
theorem dX11_passes_21 : decode cX11_passes 21 = .ok (.iload_n 2, 1) := by decide +kernel
theorem dX11_passes_22 : decode cX11_passes 22 = .ok (.iconst (-1), 1) := by decide +kernel
theorem dX11_passes_23 : decode cX11_passes 23 = .ok (.if_icmp .ne 11, 3) := by decide +kernel
theorem dX11_passes_26 : decode cX11_passes 26 = .ok (.aload_n 0, 1) := by decide +kernel
theorem dX11_passes_27 : decode cX11_passes 27 = .ok (.getfield 10, 3) := by decide +kernel
theorem dX11_passes_30 : decode cX11_passes 30 = .ok (.getfield 213, 3) := by decide +kernel
theorem dX11_passes_33 : decode cX11_passes 33 = .ok (.ireturn, 1) := by decide +kernel
theorem dX11_passes_34 : decode cX11_passes 34 = .ok (.iload_n 2, 1) := by decide +kernel
theorem dX11_passes_35 : decode cX11_passes 35 = .ok (.ifCond .lt 26, 3) := by decide +kernel
theorem dX11_passes_38 : decode cX11_passes 38 = .ok (.iload_n 2, 1) := by decide +kernel
theorem dX11_passes_39 : decode cX11_passes 39 = .ok (.aload_n 0, 1) := by decide +kernel
theorem dX11_passes_40 : decode cX11_passes 40 = .ok (.getfield 10, 3) := by decide +kernel
theorem dX11_passes_43 : decode cX11_passes 43 = .ok (.getfield 213, 3) := by decide +kernel
theorem dX11_passes_46 : decode cX11_passes 46 = .ok (.if_icmp .ge 15, 3) := by decide +kernel
theorem dX11_passes_49 : decode cX11_passes 49 = .ok (.aload_n 0, 1) := by decide +kernel
theorem dX11_passes_50 : decode cX11_passes 50 = .ok (.getfield 10, 3) := by decide +kernel
theorem dX11_passes_53 : decode cX11_passes 53 = .ok (.getfield 216, 3) := by decide +kernel
theorem dX11_passes_56 : decode cX11_passes 56 = .ok (.iload_n 2, 1) := by decide +kernel
theorem dX11_passes_57 : decode cX11_passes 57 = .ok (.iaload, 1) := by decide +kernel
theorem dX11_passes_58 : decode cX11_passes 58 = .ok (.goto 4, 3) := by decide +kernel
theorem dX11_passes_61 : decode cX11_passes 61 = .ok (.iconst (-1), 1) := by decide +kernel
theorem dX11_passes_62 : decode cX11_passes 62 = .ok (.ireturn, 1) := by decide +kernel
def fX11_passes (s0 : ZS) (a0 : Int) (a1 : Int) (a2 : Int) : Option (Int × ZS) := zb (zv s0 11 a0 (fX11_wayAt s0 a0 a1)) (fun v1 s2 => if v1 < 0 then (some ((-5), s2)) else ((zg s2 11 a0 0).bind (fun v5 => zb (zv s2 2 v5 (fX2_follow s2 v5 v1)) (fun v6 s7 => if a2 = (-1) then ((zg s7 11 a0 0).bind (fun v17 => (zg s7 2 v17 4).bind (fun v18 => some (v18, s7)))) else (if a2 < 0 then (some ((-1), s7)) else ((zg s7 11 a0 0).bind (fun v11 => (zg s7 2 v11 4).bind (fun v12 => if v12 ≤ a2 then (some ((-1), s7)) else ((zg s7 11 a0 0).bind (fun v14 => (zg s7 2 v14 3).bind (fun v15 => (zal s7 100 v15 a2).bind (fun v16 => some (v16, s7)))))))))))))
set_option maxHeartbeats 4000000 in
set_option maxRecDepth 100000 in
theorem mX11_passes (E : ZE) (hE : zOkE E) (l : Launch) (s0 : ZS) (a0 : Int) (a1 : Int) (a2 : Int) : Ct E l yX11_passes cX11_passes 4 (some .int) 10 [(2, a0), (0, a1), (0, a2)] 1 s0 (fX11_passes s0 a0 a1 a2) := by
  refine Ct.of (by decide) hE (Nat.le_of_ble_eq_true rfl) ?_
  intro X G hX hR hN hXE hXl hxn hk _
  subst hXE
  subst hXl
  have hX : G → ZOk X cX11_passes RX11 10 := hX
  clear hN
  show Zj X G 0 [(0, (2, a0)), (1, (0, a1)), (2, (0, a2))] [] s0 _
  unfold fX11_passes
  refine z_aload_n (pc := 0) hX 0 dX11_passes_0 rfl rfl ?_
  refine z_iload_n (pc := 1) hX 1 dX11_passes_1 rfl rfl ?_
  refine z_callV (n := 1) (st := []) (pc := 2) hX zc11 rfl (fun _ => (mX11_wayAt _ hE _ _ _ _)) ⟨wd681, wd61, wd684, ⟨by decide, by decide, by decide⟩, by decide⟩ rfl wd683 wd18 rfl rfl (by decide) (Nat.le_of_ble_eq_true rfl) dX11_passes_2 (fun v1 s2 r3 => ?_)
  show Zj X G 5 [(0, (2, a0)), (1, (0, a1)), (2, (0, a2))] [(2, v1)] _ _
  refine z_astore_n (lv' := [(3, (2, v1)), (0, (2, a0)), (1, (0, a1)), (2, (0, a2))]) (pc := 5) hX dX11_passes_5 rfl (zlt hxn rfl) rfl ?_
  refine z_aload_n (pc := 6) hX 0 dX11_passes_6 rfl rfl ?_
  refine z_ifnonnull (pc := 7) hX 13 dX11_passes_7 (by decide) (fun h4 => ?_) (fun h4 => ?_)
  · refine z_aload_n (pc := 13) hX 1 dX11_passes_13 rfl rfl ?_
    refine z_get (pc := 14) hX zc11 0 (by decide) wd270 rfl rfl dX11_passes_14 (fun v5 => ?_)
    refine z_aload_n (pc := 17) hX 0 dX11_passes_17 rfl rfl ?_
    refine z_callV (n := 1) (st := []) (pc := 18) hX zc2 rfl (fun _ => (mX2_follow _ hE _ _ _ _)) ⟨wd723, wd62, wd726, ⟨by decide, by decide, by decide⟩, by decide⟩ rfl wd724 wd725 rfl rfl (by decide) (Nat.le_of_ble_eq_true rfl) dX11_passes_18 (fun v6 s7 r8 => ?_)
    show Zj X G 21 [(3, (2, v1)), (0, (2, a0)), (1, (0, a1)), (2, (0, a2))] [] _ _
    refine z_iload_n (pc := 21) hX 3 dX11_passes_21 rfl rfl ?_
    refine z_iconst (pc := 22) hX dX11_passes_22 ?_
    refine z_icmp_ne (pc := 23) hX 34 dX11_passes_23 (by decide) (fun h9 => ?_) (fun h9 => ?_)
    · refine z_iload_n (pc := 34) hX 3 dX11_passes_34 rfl rfl ?_
      refine z_if_lt (pc := 35) hX 61 dX11_passes_35 (by decide) (fun h10 => ?_) (fun h10 => ?_)
      · refine z_iconst (pc := 61) hX dX11_passes_61 ?_
        exact z_iret (pc := 62) hX hR hk dX11_passes_62
      · refine z_iload_n (pc := 38) hX 3 dX11_passes_38 rfl rfl ?_
        refine z_aload_n (pc := 39) hX 1 dX11_passes_39 rfl rfl ?_
        refine z_get (pc := 40) hX zc11 0 (by decide) wd270 rfl rfl dX11_passes_40 (fun v11 => ?_)
        refine z_get (pc := 43) hX zc2 4 (by decide) wd160 rfl rfl dX11_passes_43 (fun v12 => ?_)
        refine z_icmp_ge (pc := 46) hX 61 dX11_passes_46 (by decide) (fun h13 => ?_) (fun h13 => ?_)
        · refine z_iconst (pc := 61) hX dX11_passes_61 ?_
          exact z_iret (pc := 62) hX hR hk dX11_passes_62
        · refine z_aload_n (pc := 49) hX 1 dX11_passes_49 rfl rfl ?_
          refine z_get (pc := 50) hX zc11 0 (by decide) wd270 rfl rfl dX11_passes_50 (fun v14 => ?_)
          refine z_get (pc := 53) hX zc2 3 (by decide) wd158 rfl rfl dX11_passes_53 (fun v15 => ?_)
          refine z_iload_n (pc := 56) hX 3 dX11_passes_56 rfl rfl ?_
          refine z_iald (pc := 57) hX dX11_passes_57 (fun v16 => ?_)
          refine z_goto (pc := 58) hX 62 dX11_passes_58 (by decide) ?_
          exact z_iret (pc := 62) hX hR hk dX11_passes_62
    · refine z_aload_n (pc := 26) hX 1 dX11_passes_26 rfl rfl ?_
      refine z_get (pc := 27) hX zc11 0 (by decide) wd270 rfl rfl dX11_passes_27 (fun v17 => ?_)
      refine z_get (pc := 30) hX zc2 4 (by decide) wd160 rfl rfl dX11_passes_30 (fun v18 => ?_)
      exact z_iret (pc := 33) hX hR hk dX11_passes_33
  · refine z_bipush (pc := 10) hX dX11_passes_10 ?_
    exact z_iret (pc := 12) hX hR hk dX11_passes_12

theorem dX12_passes_0 : decode cX12_passes 0 = .ok (.aload_n 0, 1) := by decide +kernel
theorem dX12_passes_1 : decode cX12_passes 1 = .ok (.iload_n 1, 1) := by decide +kernel
theorem dX12_passes_2 : decode cX12_passes 2 = .ok (.invokevirtual 217, 3) := by decide +kernel
theorem dX12_passes_5 : decode cX12_passes 5 = .ok (.ifCond .ne 6, 3) := by decide +kernel
theorem dX12_passes_8 : decode cX12_passes 8 = .ok (.bipush (-5), 2) := by decide +kernel
theorem dX12_passes_10 : decode cX12_passes 10 = .ok (.ireturn, 1) := by decide +kernel
theorem dX12_passes_11 : decode cX12_passes 11 = .ok (.aload_n 0, 1) := by decide +kernel
theorem dX12_passes_12 : decode cX12_passes 12 = .ok (.iload_n 1, 1) := by decide +kernel
theorem dX12_passes_13 : decode cX12_passes 13 = .ok (.invokevirtual 251, 3) := by decide +kernel
theorem dX12_passes_16 : decode cX12_passes 16 = .ok (.aload_n 0, 1) := by decide +kernel
theorem dX12_passes_17 : decode cX12_passes 17 = .ok (.iload_n 1, 1) := by decide +kernel
theorem dX12_passes_18 : decode cX12_passes 18 = .ok (.invokevirtual 254, 3) := by decide +kernel
theorem dX12_passes_21 : decode cX12_passes 21 = .ok (.iload_n 2, 1) := by decide +kernel
theorem dX12_passes_22 : decode cX12_passes 22 = .ok (.iconst (-1), 1) := by decide +kernel
theorem dX12_passes_23 : decode cX12_passes 23 = .ok (.if_icmp .ne 10, 3) := by decide +kernel
theorem dX12_passes_26 : decode cX12_passes 26 = .ok (.aload_n 0, 1) := by decide +kernel
theorem dX12_passes_27 : decode cX12_passes 27 = .ok (.getfield 230, 3) := by decide +kernel
theorem dX12_passes_30 : decode cX12_passes 30 = .ok (.goto 27, 3) := by decide +kernel
theorem dX12_passes_33 : decode cX12_passes 33 = .ok (.iload_n 2, 1) := by decide +kernel
theorem dX12_passes_34 : decode cX12_passes 34 = .ok (.iconst 0, 1) := by decide +kernel
theorem dX12_passes_35 : decode cX12_passes 35 = .ok (.aload_n 0, 1) := by decide +kernel
theorem dX12_passes_36 : decode cX12_passes 36 = .ok (.getfield 230, 3) := by decide +kernel
theorem dX12_passes_39 : decode cX12_passes 39 = .ok (.iconst 1, 1) := by decide +kernel
theorem dX12_passes_40 : decode cX12_passes 40 = .ok (.isub, 1) := by decide +kernel
theorem dX12_passes_41 : decode cX12_passes 41 = .ok (.invokestatic 127, 3) := by decide +kernel
theorem dX12_passes_44 : decode cX12_passes 44 = .ok (.ifCond .eq 12, 3) := by decide +kernel
theorem dX12_passes_47 : decode cX12_passes 47 = .ok (.aload_n 0, 1) := by decide +kernel
theorem dX12_passes_48 : decode cX12_passes 48 = .ok (.getfield 115, 3) := by decide +kernel
theorem dX12_passes_51 : decode cX12_passes 51 = .ok (.iload_n 2, 1) := by decide +kernel
theorem dX12_passes_52 : decode cX12_passes 52 = .ok (.iaload, 1) := by decide +kernel
theorem dX12_passes_53 : decode cX12_passes 53 = .ok (.goto 4, 3) := by decide +kernel
theorem dX12_passes_56 : decode cX12_passes 56 = .ok (.iconst (-1), 1) := by decide +kernel
theorem dX12_passes_57 : decode cX12_passes 57 = .ok (.ireturn, 1) := by decide +kernel
def fX12_passes (s0 : ZS) (a0 : Int) (a1 : Int) (a2 : Int) : Option (Int × ZS) := zb (zv s0 12 a0 (fX12_isWay s0 a0 a1)) (fun v1 s2 => if v1 = 0 then (some ((-5), s2)) else (zb (zv s2 12 a0 (fX12_lays s2 a0 a1)) (fun v5 s6 => zb (zv s6 12 a0 (fX12_goes s6 a0 a1)) (fun v8 s9 => if a2 = (-1) then ((zg s9 12 a0 44).bind (fun v19 => some (v19, s9))) else ((zg s9 12 a0 44).bind (fun v12 => zb (fX12_in s9 a2 0 (wrap (v12 - 1))) (fun v13 s14 => if v13 = 0 then (some ((-1), s14)) else ((zg s14 12 a0 43).bind (fun v17 => (zal s14 100 v17 a2).bind (fun v18 => some (v18, s14)))))))))))
set_option maxHeartbeats 4000000 in
set_option maxRecDepth 100000 in
theorem mX12_passes (E : ZE) (hE : zOkE E) (l : Launch) (s0 : ZS) (a0 : Int) (a1 : Int) (a2 : Int) : Ct E l yX12_passes cX12_passes 3 (some .int) 8 [(2, a0), (0, a1), (0, a2)] 1 s0 (fX12_passes s0 a0 a1 a2) := by
  refine Ct.of (by decide) hE (Nat.le_of_ble_eq_true rfl) ?_
  intro X G hX hR hN hXE hXl hxn hk _
  subst hXE
  subst hXl
  have hX : G → ZOk X cX12_passes RX12 8 := hX
  clear hN
  show Zj X G 0 [(0, (2, a0)), (1, (0, a1)), (2, (0, a2))] [] s0 _
  unfold fX12_passes
  refine z_aload_n (pc := 0) hX 0 dX12_passes_0 rfl rfl ?_
  refine z_iload_n (pc := 1) hX 1 dX12_passes_1 rfl rfl ?_
  refine z_callV (n := 1) (st := []) (pc := 2) hX zc12 rfl (fun _ => (mX12_isWay _ hE _ _ _ _)) ⟨wd1268, wd67, wd1271, ⟨by decide, by decide, by decide⟩, by decide⟩ rfl wd1270 wd42 rfl rfl (by decide) (Nat.le_of_ble_eq_true rfl) dX12_passes_2 (fun v1 s2 r3 => ?_)
  show Zj X G 5 [(0, (2, a0)), (1, (0, a1)), (2, (0, a2))] [(0, v1)] _ _
  refine z_if_ne (pc := 5) hX 11 dX12_passes_5 (by decide) (fun h4 => ?_) (fun h4 => ?_)
  · refine z_aload_n (pc := 11) hX 0 dX12_passes_11 rfl rfl ?_
    refine z_iload_n (pc := 12) hX 1 dX12_passes_12 rfl rfl ?_
    refine z_callV (n := 1) (st := []) (pc := 13) hX zc12 rfl (fun _ => (mX12_lays _ hE _ _ _ _)) ⟨wd1284, wd67, wd1287, ⟨by decide, by decide, by decide⟩, by decide⟩ rfl wd1286 wd44 rfl rfl (by decide) (Nat.le_of_ble_eq_true rfl) dX12_passes_13 (fun v5 s6 r7 => ?_)
    show Zj X G 16 [(0, (2, a0)), (1, (0, a1)), (2, (0, a2))] [] _ _
    refine z_aload_n (pc := 16) hX 0 dX12_passes_16 rfl rfl ?_
    refine z_iload_n (pc := 17) hX 1 dX12_passes_17 rfl rfl ?_
    refine z_callV (n := 1) (st := []) (pc := 18) hX zc12 rfl (fun _ => (mX12_goes _ hE _ _ _ _)) ⟨wd1288, wd67, wd1291, ⟨by decide, by decide, by decide⟩, by decide⟩ rfl wd1290 wd45 rfl rfl (by decide) (Nat.le_of_ble_eq_true rfl) dX12_passes_18 (fun v8 s9 r10 => ?_)
    show Zj X G 21 [(0, (2, a0)), (1, (0, a1)), (2, (0, a2))] [] _ _
    refine z_iload_n (pc := 21) hX 2 dX12_passes_21 rfl rfl ?_
    refine z_iconst (pc := 22) hX dX12_passes_22 ?_
    refine z_icmp_ne (pc := 23) hX 33 dX12_passes_23 (by decide) (fun h11 => ?_) (fun h11 => ?_)
    · refine z_iload_n (pc := 33) hX 2 dX12_passes_33 rfl rfl ?_
      refine z_iconst (pc := 34) hX dX12_passes_34 ?_
      refine z_aload_n (pc := 35) hX 0 dX12_passes_35 rfl rfl ?_
      refine z_get (pc := 36) hX zc12 44 (by decide) wd1061 rfl rfl dX12_passes_36 (fun v12 => ?_)
      refine z_iconst (pc := 39) hX dX12_passes_39 ?_
      refine z_isub (pc := 40) hX dX12_passes_40 ?_
      refine z_callS (n := 3) (st := []) (pc := 41) hX (mX12_in _ hE _ _ _ _ _) ⟨wd1173, wd67, wd1175, ⟨by decide, by decide, by decide⟩, by decide⟩ wd1174 rfl rfl (by decide) (Nat.le_of_ble_eq_true rfl) dX12_passes_41 (fun v13 s14 r15 => ?_)
      show Zj X G 44 [(0, (2, a0)), (1, (0, a1)), (2, (0, a2))] [(0, v13)] _ _
      refine z_if_eq (pc := 44) hX 56 dX12_passes_44 (by decide) (fun h16 => ?_) (fun h16 => ?_)
      · refine z_iconst (pc := 56) hX dX12_passes_56 ?_
        exact z_iret (pc := 57) hX hR hk dX12_passes_57
      · refine z_aload_n (pc := 47) hX 0 dX12_passes_47 rfl rfl ?_
        refine z_get (pc := 48) hX zc12 43 (by decide) wd1060 rfl rfl dX12_passes_48 (fun v17 => ?_)
        refine z_iload_n (pc := 51) hX 2 dX12_passes_51 rfl rfl ?_
        refine z_iald (pc := 52) hX dX12_passes_52 (fun v18 => ?_)
        refine z_goto (pc := 53) hX 57 dX12_passes_53 (by decide) ?_
        exact z_iret (pc := 57) hX hR hk dX12_passes_57
    · refine z_aload_n (pc := 26) hX 0 dX12_passes_26 rfl rfl ?_
      refine z_get (pc := 27) hX zc12 44 (by decide) wd1061 rfl rfl dX12_passes_27 (fun v19 => ?_)
      refine z_goto (pc := 30) hX 57 dX12_passes_30 (by decide) ?_
      exact z_iret (pc := 57) hX hR hk dX12_passes_57
  · refine z_bipush (pc := 8) hX dX12_passes_8 ?_
    exact z_iret (pc := 10) hX hR hk dX12_passes_10

theorem dX2_waitOf_0 : decode cX2_waitOf 0 = .ok (.aload_n 0, 1) := by decide +kernel
theorem dX2_waitOf_1 : decode cX2_waitOf 1 = .ok (.getfield 22, 3) := by decide +kernel
theorem dX2_waitOf_4 : decode cX2_waitOf 4 = .ok (.iload_n 1, 1) := by decide +kernel
theorem dX2_waitOf_5 : decode cX2_waitOf 5 = .ok (.iaload, 1) := by decide +kernel
theorem dX2_waitOf_6 : decode cX2_waitOf 6 = .ok (.iconst (-1), 1) := by decide +kernel
theorem dX2_waitOf_7 : decode cX2_waitOf 7 = .ok (.if_icmp .ne 7, 3) := by decide +kernel
theorem dX2_waitOf_10 : decode cX2_waitOf 10 = .ok (.iconst 0, 1) := by decide +kernel
theorem dX2_waitOf_11 : decode cX2_waitOf 11 = .ok (.goto 16, 3) := by decide +kernel
theorem dX2_waitOf_14 : decode cX2_waitOf 14 = .ok (.aload_n 0, 1) := by decide +kernel
theorem dX2_waitOf_15 : decode cX2_waitOf 15 = .ok (.getfield 22, 3) := by decide +kernel
theorem dX2_waitOf_18 : decode cX2_waitOf 18 = .ok (.iload_n 1, 1) := by decide +kernel
theorem dX2_waitOf_19 : decode cX2_waitOf 19 = .ok (.iaload, 1) := by decide +kernel
theorem dX2_waitOf_20 : decode cX2_waitOf 20 = .ok (.aload_n 0, 1) := by decide +kernel
theorem dX2_waitOf_21 : decode cX2_waitOf 21 = .ok (.getfield 18, 3) := by decide +kernel
theorem dX2_waitOf_24 : decode cX2_waitOf 24 = .ok (.iload_n 1, 1) := by decide +kernel
theorem dX2_waitOf_25 : decode cX2_waitOf 25 = .ok (.iaload, 1) := by decide +kernel
theorem dX2_waitOf_26 : decode cX2_waitOf 26 = .ok (.isub, 1) := by decide +kernel
theorem dX2_waitOf_27 : decode cX2_waitOf 27 = .ok (.ireturn, 1) := by decide +kernel
def fX2_waitOf (s0 : ZS) (a0 : Int) (a1 : Int) : Option (Int × ZS) := (zg s0 2 a0 2).bind (fun v1 => (zal s0 100 v1 a1).bind (fun v2 => if v2 = (-1) then (some (0, s0)) else ((zg s0 2 a0 2).bind (fun v4 => (zal s0 100 v4 a1).bind (fun v5 => (zg s0 2 a0 1).bind (fun v6 => (zal s0 100 v6 a1).bind (fun v7 => some ((wrap (v5 - v7)), s0))))))))
set_option maxHeartbeats 4000000 in
set_option maxRecDepth 100000 in
theorem mX2_waitOf (E : ZE) (hE : zOkE E) (l : Launch) (s0 : ZS) (a0 : Int) (a1 : Int) : Ct E l yX2_waitOf cX2_waitOf 2 (some .int) 2 [(2, a0), (0, a1)] 1 s0 (fX2_waitOf s0 a0 a1) := by
  refine Ct.of (by decide) hE (Nat.le_of_ble_eq_true rfl) ?_
  intro X G hX hR hN hXE hXl hxn hk _
  subst hXE
  subst hXl
  have hX : G → ZOk X cX2_waitOf RX2 2 := hX
  clear hN
  show Zj X G 0 [(0, (2, a0)), (1, (0, a1))] [] s0 _
  unfold fX2_waitOf
  refine z_aload_n (pc := 0) hX 0 dX2_waitOf_0 rfl rfl ?_
  refine z_get (pc := 1) hX zc2 2 (by decide) wd155 rfl rfl dX2_waitOf_1 (fun v1 => ?_)
  refine z_iload_n (pc := 4) hX 1 dX2_waitOf_4 rfl rfl ?_
  refine z_iald (pc := 5) hX dX2_waitOf_5 (fun v2 => ?_)
  refine z_iconst (pc := 6) hX dX2_waitOf_6 ?_
  refine z_icmp_ne (pc := 7) hX 14 dX2_waitOf_7 (by decide) (fun h3 => ?_) (fun h3 => ?_)
  · refine z_aload_n (pc := 14) hX 0 dX2_waitOf_14 rfl rfl ?_
    refine z_get (pc := 15) hX zc2 2 (by decide) wd155 rfl rfl dX2_waitOf_15 (fun v4 => ?_)
    refine z_iload_n (pc := 18) hX 1 dX2_waitOf_18 rfl rfl ?_
    refine z_iald (pc := 19) hX dX2_waitOf_19 (fun v5 => ?_)
    refine z_aload_n (pc := 20) hX 0 dX2_waitOf_20 rfl rfl ?_
    refine z_get (pc := 21) hX zc2 1 (by decide) wd153 rfl rfl dX2_waitOf_21 (fun v6 => ?_)
    refine z_iload_n (pc := 24) hX 1 dX2_waitOf_24 rfl rfl ?_
    refine z_iald (pc := 25) hX dX2_waitOf_25 (fun v7 => ?_)
    refine z_isub (pc := 26) hX dX2_waitOf_26 ?_
    exact z_iret (pc := 27) hX hR hk dX2_waitOf_27
  · refine z_iconst (pc := 10) hX dX2_waitOf_10 ?_
    refine z_goto (pc := 11) hX 27 dX2_waitOf_11 (by decide) ?_
    exact z_iret (pc := 27) hX hR hk dX2_waitOf_27
