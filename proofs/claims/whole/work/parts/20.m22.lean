theorem dX12_nextAt_0 : decode cX12_nextAt 0 = .ok (.iconst (-1), 1) := by decide +kernel
theorem dX12_nextAt_1 : decode cX12_nextAt 1 = .ok (.istore 4, 2) := by decide +kernel
theorem dX12_nextAt_3 : decode cX12_nextAt 3 = .ok (.iconst 0, 1) := by decide +kernel
theorem dX12_nextAt_4 : decode cX12_nextAt 4 = .ok (.istore 5, 2) := by decide +kernel
theorem dX12_nextAt_6 : decode cX12_nextAt 6 = .ok (.iload 5, 2) := by decide +kernel
theorem dX12_nextAt_8 : decode cX12_nextAt 8 = .ok (.aload_n 0, 1) := by decide +kernel
theorem dX12_nextAt_9 : decode cX12_nextAt 9 = .ok (.getfield 31, 3) := by decide +kernel
theorem dX12_nextAt_12 : decode cX12_nextAt 12 = .ok (.iload_n 1, 1) := by decide +kernel
theorem dX12_nextAt_13 : decode cX12_nextAt 13 = .ok (.iaload, 1) := by decide +kernel
theorem dX12_nextAt_14 : decode cX12_nextAt 14 = .ok (.if_icmp .ge 126, 3) := by decide +kernel
theorem dX12_nextAt_17 : decode cX12_nextAt 17 = .ok (.aload_n 0, 1) := by decide +kernel
theorem dX12_nextAt_18 : decode cX12_nextAt 18 = .ok (.getfield 106, 3) := by decide +kernel
theorem dX12_nextAt_21 : decode cX12_nextAt 21 = .ok (.iload 5, 2) := by decide +kernel
theorem dX12_nextAt_23 : decode cX12_nextAt 23 = .ok (.iaload, 1) := by decide +kernel
theorem dX12_nextAt_24 : decode cX12_nextAt 24 = .ok (.bipush 48, 2) := by decide +kernel
theorem dX12_nextAt_26 : decode cX12_nextAt 26 = .ok (.if_icmp .eq 54, 3) := by decide +kernel
theorem dX12_nextAt_29 : decode cX12_nextAt 29 = .ok (.aload_n 0, 1) := by decide +kernel
theorem dX12_nextAt_30 : decode cX12_nextAt 30 = .ok (.getfield 106, 3) := by decide +kernel
theorem dX12_nextAt_33 : decode cX12_nextAt 33 = .ok (.iload 5, 2) := by decide +kernel
theorem dX12_nextAt_35 : decode cX12_nextAt 35 = .ok (.iaload, 1) := by decide +kernel
theorem dX12_nextAt_36 : decode cX12_nextAt 36 = .ok (.bipush 24, 2) := by decide +kernel
theorem dX12_nextAt_38 : decode cX12_nextAt 38 = .ok (.idiv, 1) := by decide +kernel
theorem dX12_nextAt_39 : decode cX12_nextAt 39 = .ok (.iload_n 2, 1) := by decide +kernel
theorem dX12_nextAt_40 : decode cX12_nextAt 40 = .ok (.if_icmp .ne 40, 3) := by decide +kernel
theorem dX12_nextAt_43 : decode cX12_nextAt 43 = .ok (.aload_n 0, 1) := by decide +kernel
theorem dX12_nextAt_44 : decode cX12_nextAt 44 = .ok (.getfield 109, 3) := by decide +kernel
theorem dX12_nextAt_47 : decode cX12_nextAt 47 = .ok (.iload 5, 2) := by decide +kernel
theorem dX12_nextAt_49 : decode cX12_nextAt 49 = .ok (.iaload, 1) := by decide +kernel
theorem dX12_nextAt_50 : decode cX12_nextAt 50 = .ok (.iconst (-1), 1) := by decide +kernel
theorem dX12_nextAt_51 : decode cX12_nextAt 51 = .ok (.if_icmp .eq 29, 3) := by decide +kernel
theorem dX12_nextAt_54 : decode cX12_nextAt 54 = .ok (.aload_n 0, 1) := by decide +kernel
theorem dX12_nextAt_55 : decode cX12_nextAt 55 = .ok (.getfield 109, 3) := by decide +kernel
theorem dX12_nextAt_58 : decode cX12_nextAt 58 = .ok (.iload 5, 2) := by decide +kernel
theorem dX12_nextAt_60 : decode cX12_nextAt 60 = .ok (.iaload, 1) := by decide +kernel
theorem dX12_nextAt_61 : decode cX12_nextAt 61 = .ok (.iload_n 3, 1) := by decide +kernel
theorem dX12_nextAt_62 : decode cX12_nextAt 62 = .ok (.if_icmp .gt 18, 3) := by decide +kernel
theorem dX12_nextAt_65 : decode cX12_nextAt 65 = .ok (.aload_n 0, 1) := by decide +kernel
theorem dX12_nextAt_66 : decode cX12_nextAt 66 = .ok (.getfield 112, 3) := by decide +kernel
theorem dX12_nextAt_69 : decode cX12_nextAt 69 = .ok (.iload 5, 2) := by decide +kernel
theorem dX12_nextAt_71 : decode cX12_nextAt 71 = .ok (.iaload, 1) := by decide +kernel
theorem dX12_nextAt_72 : decode cX12_nextAt 72 = .ok (.iconst (-1), 1) := by decide +kernel
theorem dX12_nextAt_73 : decode cX12_nextAt 73 = .ok (.if_icmp .ne 7, 3) := by decide +kernel
theorem dX12_nextAt_76 : decode cX12_nextAt 76 = .ok (.iconst 1, 1) := by decide +kernel
theorem dX12_nextAt_77 : decode cX12_nextAt 77 = .ok (.goto 4, 3) := by decide +kernel
theorem dX12_nextAt_80 : decode cX12_nextAt 80 = .ok (.iconst 0, 1) := by decide +kernel
theorem dX12_nextAt_81 : decode cX12_nextAt 81 = .ok (.istore 6, 2) := by decide +kernel
theorem dX12_nextAt_83 : decode cX12_nextAt 83 = .ok (.iload 6, 2) := by decide +kernel
theorem dX12_nextAt_85 : decode cX12_nextAt 85 = .ok (.ifCond .eq 49, 3) := by decide +kernel
theorem dX12_nextAt_88 : decode cX12_nextAt 88 = .ok (.iload 4, 2) := by decide +kernel
theorem dX12_nextAt_90 : decode cX12_nextAt 90 = .ok (.iconst (-1), 1) := by decide +kernel
theorem dX12_nextAt_91 : decode cX12_nextAt 91 = .ok (.if_icmp .eq 39, 3) := by decide +kernel
theorem dX12_nextAt_94 : decode cX12_nextAt 94 = .ok (.aload_n 0, 1) := by decide +kernel
theorem dX12_nextAt_95 : decode cX12_nextAt 95 = .ok (.aload_n 0, 1) := by decide +kernel
theorem dX12_nextAt_96 : decode cX12_nextAt 96 = .ok (.getfield 28, 3) := by decide +kernel
theorem dX12_nextAt_99 : decode cX12_nextAt 99 = .ok (.iload_n 1, 1) := by decide +kernel
theorem dX12_nextAt_100 : decode cX12_nextAt 100 = .ok (.iaload, 1) := by decide +kernel
theorem dX12_nextAt_101 : decode cX12_nextAt 101 = .ok (.iload 5, 2) := by decide +kernel
theorem dX12_nextAt_103 : decode cX12_nextAt 103 = .ok (.invokevirtual 226, 3) := by decide +kernel
theorem dX12_nextAt_106 : decode cX12_nextAt 106 = .ok (.aload_n 0, 1) := by decide +kernel
theorem dX12_nextAt_107 : decode cX12_nextAt 107 = .ok (.aload_n 0, 1) := by decide +kernel
theorem dX12_nextAt_108 : decode cX12_nextAt 108 = .ok (.getfield 28, 3) := by decide +kernel
theorem dX12_nextAt_111 : decode cX12_nextAt 111 = .ok (.iload_n 1, 1) := by decide +kernel
theorem dX12_nextAt_112 : decode cX12_nextAt 112 = .ok (.iaload, 1) := by decide +kernel
theorem dX12_nextAt_113 : decode cX12_nextAt 113 = .ok (.iload 4, 2) := by decide +kernel
theorem dX12_nextAt_115 : decode cX12_nextAt 115 = .ok (.ifCond .ge 7, 3) := by decide +kernel
theorem dX12_nextAt_118 : decode cX12_nextAt 118 = .ok (.iconst 0, 1) := by decide +kernel
theorem dX12_nextAt_119 : decode cX12_nextAt 119 = .ok (.goto 5, 3) := by decide +kernel
theorem dX12_nextAt_122 : decode cX12_nextAt 122 = .ok (.iload 4, 2) := by decide +kernel
theorem dX12_nextAt_124 : decode cX12_nextAt 124 = .ok (.invokevirtual 226, 3) := by decide +kernel
theorem dX12_nextAt_127 : decode cX12_nextAt 127 = .ok (.if_icmp .ge 7, 3) := by decide +kernel
theorem dX12_nextAt_130 : decode cX12_nextAt 130 = .ok (.iload 5, 2) := by decide +kernel
theorem dX12_nextAt_132 : decode cX12_nextAt 132 = .ok (.istore 4, 2) := by decide +kernel
theorem dX12_nextAt_134 : decode cX12_nextAt 134 = .ok (.iinc 5 1, 3) := by decide +kernel
theorem dX12_nextAt_137 : decode cX12_nextAt 137 = .ok (.goto (-131), 3) := by decide +kernel
theorem dX12_nextAt_140 : decode cX12_nextAt 140 = .ok (.iload 4, 2) := by decide +kernel
theorem dX12_nextAt_142 : decode cX12_nextAt 142 = .ok (.ireturn, 1) := by decide +kernel
def lX12_nextAt_6 (u2 u3 u4 u5 : Int)  : Nat → ZS → Int → Int → Option (Int × ZS)
  | 0, _, _, _ => none
  | n1 + 1, s1, x6, x7 => (zg s1 12 u2 10).bind (fun v8 => (zal s1 100 v8 u3).bind (fun v9 => if v9 ≤ x7 then (some (x6, s1)) else ((zg s1 12 u2 40).bind (fun v11 => (zal s1 100 v11 x7).bind (fun v12 => zjn (fun (K81 : ZS → Int → Option (Int × ZS)) => zjn (fun (K80 : ZS → Option (Int × ZS)) => if v12 = 48 then (K80 s1) else ((zg s1 12 u2 40).bind (fun v14 => (zal s1 100 v14 x7).bind (fun v15 => if 24 = 0 then none else (if (wrap (v15.tdiv 24)) = u4 then ((zg s1 12 u2 41).bind (fun v17 => (zal s1 100 v17 x7).bind (fun v18 => if v18 = (-1) then (K80 s1) else ((zg s1 12 u2 41).bind (fun v20 => (zal s1 100 v20 x7).bind (fun v21 => if u5 < v21 then (K80 s1) else ((zg s1 12 u2 42).bind (fun v23 => (zal s1 100 v23 x7).bind (fun v24 => if v24 = (-1) then (K81 s1 1) else (K80 s1)))))))))) else (K80 s1)))))) (fun (s26 : ZS) => K81 s26 0)) (fun (s27 : ZS) (w28 : Int) => zjn (fun (K134 : ZS → Int → Option (Int × ZS)) => if w28 = 0 then (K134 s27 x6) else (zjn (fun (K130 : ZS → Option (Int × ZS)) => if x6 = (-1) then (K130 s27) else ((zg s27 12 u2 9).bind (fun v31 => (zal s27 100 v31 u3).bind (fun v32 => zb (zv s27 12 u2 (fX12_orderOf s27 u2 v32 x7)) (fun v33 s34 => (zg s34 12 u2 9).bind (fun v36 => (zal s34 100 v36 u3).bind (fun v37 => zjn (fun (K124 : ZS → Int → Option (Int × ZS)) => if 0 ≤ x6 then (K124 s34 x6) else (K124 s34 0)) (fun (s39 : ZS) (w40 : Int) => zb (zv s39 12 u2 (fX12_orderOf s39 u2 v37 w40)) (fun v41 s42 => if v41 ≤ v33 then (K134 s42 x6) else (K130 s42)))))))))) (fun (s45 : ZS) => K134 s45 x7))) (fun (s46 : ZS) (x47 : Int) => lX12_nextAt_6 u2 u3 u4 u5 n1 s46 x47 (wrap (x7 + 1)))))))))

def fX12_nextAt (s0 : ZS) (a0 : Int) (a1 : Int) (a2 : Int) (a3 : Int) : Option (Int × ZS) := lX12_nextAt_6 a0 a1 a2 a3 1000 s0 (-1) 0
set_option maxHeartbeats 4000000 in
set_option maxRecDepth 100000 in
theorem mX12_nextAt (E : ZE) (hE : zOkE E) (l : Launch) (s0 : ZS) (a0 : Int) (a1 : Int) (a2 : Int) (a3 : Int) : Ct E l yX12_nextAt cX12_nextAt 7 (some .int) 4 [(2, a0), (0, a1), (0, a2), (0, a3)] 1 s0 (fX12_nextAt s0 a0 a1 a2 a3) := by
  refine Ct.of (by decide) hE (Nat.le_of_ble_eq_true rfl) ?_
  intro X G hX hR hN hXE hXl hxn hk _
  subst hXE
  subst hXl
  have hX : G → ZOk X cX12_nextAt RX12 4 := hX
  clear hN
  show Zj X G 0 [(0, (2, a0)), (1, (0, a1)), (2, (0, a2)), (3, (0, a3))] [] s0 _
  unfold fX12_nextAt
  refine z_iconst (pc := 0) hX dX12_nextAt_0 ?_
  refine z_istore (lv' := [(4, (0, (-1))), (0, (2, a0)), (1, (0, a1)), (2, (0, a2)), (3, (0, a3))]) (pc := 1) hX dX12_nextAt_1 (zlt hxn rfl) rfl ?_
  refine z_iconst (pc := 3) hX dX12_nextAt_3 ?_
  refine z_istore (lv' := [(5, (0, 0)), (4, (0, (-1))), (0, (2, a0)), (1, (0, a1)), (2, (0, a2)), (3, (0, a3))]) (pc := 4) hX dX12_nextAt_4 (zlt hxn rfl) rfl ?_
  have hl6 : ∀ (u2 u3 u4 u5 : Int), ∀ (n1 : Nat) (s1 : ZS) (x6 x7 : Int), Zj X G 6 [(0, (2, u2)), (1, (0, u3)), (2, (0, u4)), (3, (0, u5)), (4, (0, x6)), (5, (0, x7))] [] s1 (lX12_nextAt_6 u2 u3 u4 u5 n1 s1 x6 x7) := by
    intro u2 u3 u4 u5 n1
    induction n1 with
    | zero => intro _ _ _; exact z_none
    | succ n1 ih1 =>
      intro s1 x6 x7
      rw [lX12_nextAt_6]
      refine z_iload (pc := 6) hX 5 dX12_nextAt_6 rfl ?_
      refine z_aload_n (pc := 8) hX 0 dX12_nextAt_8 rfl rfl ?_
      refine z_get (pc := 9) hX zc12 10 (by decide) wd1027 rfl rfl dX12_nextAt_9 (fun v8 => ?_)
      refine z_iload_n (pc := 12) hX 1 dX12_nextAt_12 rfl rfl ?_
      refine z_iald (pc := 13) hX dX12_nextAt_13 (fun v9 => ?_)
      refine z_icmp_ge (pc := 14) hX 140 dX12_nextAt_14 (by decide) (fun h10 => ?_) (fun h10 => ?_)
      · refine z_iload (pc := 140) hX 4 dX12_nextAt_140 rfl ?_
        exact z_iret (pc := 142) hX hR hk dX12_nextAt_142
      · refine z_aload_n (pc := 17) hX 0 dX12_nextAt_17 rfl rfl ?_
        refine z_get (pc := 18) hX zc12 40 (by decide) wd1057 rfl rfl dX12_nextAt_18 (fun v11 => ?_)
        refine z_iload (pc := 21) hX 5 dX12_nextAt_21 rfl ?_
        refine z_iald (pc := 23) hX dX12_nextAt_23 (fun v12 => ?_)
        refine z_bipush (pc := 24) hX dX12_nextAt_24 ?_
        refine z_jn (fun K81 eK81 => ?_)
        have hK81 : ∀ (s27 : ZS) (w28 : Int), Zj X G 81 [(0, (2, u2)), (1, (0, u3)), (2, (0, u4)), (3, (0, u5)), (4, (0, x6)), (5, (0, x7))] [(0, w28)] s27 (K81 s27 w28) := by
          intro s27 w28
          rw [eK81]
          refine z_istore (lv' := [(6, (0, w28)), (0, (2, u2)), (1, (0, u3)), (2, (0, u4)), (3, (0, u5)), (4, (0, x6)), (5, (0, x7))]) (pc := 81) hX dX12_nextAt_81 (zlt hxn rfl) rfl ?_
          refine z_iload (pc := 83) hX 0 dX12_nextAt_83 rfl ?_
          refine z_jn (fun K134 eK134 => ?_)
          have hK134 : ∀ (s46 : ZS) (x47 : Int), Zj X G 134 [(0, (2, u2)), (1, (0, u3)), (2, (0, u4)), (3, (0, u5)), (4, (0, x47)), (5, (0, x7))] [] s46 (K134 s46 x47) := by
            intro s46 x47
            rw [eK134]
            refine z_iinc (lv' := [(5, (0, (wrap (x7 + 1)))), (0, (2, u2)), (1, (0, u3)), (2, (0, u4)), (3, (0, u5)), (4, (0, x47))]) (pc := 134) hX 5 dX12_nextAt_134 rfl (zlt hxn rfl) rfl ?_
            refine z_goto (pc := 137) hX 6 dX12_nextAt_137 (by decide) ?_
            refine z_pick (lv' := [(0, (2, u2)), (1, (0, u3)), (2, (0, u4)), (3, (0, u5)), (4, (0, x47)), (5, (0, (wrap (x7 + 1))))]) [1, 2, 3, 4, 5, 0] rfl ?_
            exact ih1 _ _ _
          clear eK134
          refine z_if_eq (pc := 85) hX 134 dX12_nextAt_85 (by decide) (fun h29 => ?_) (fun h29 => ?_)
          · refine z_pick (lv' := [(0, (2, u2)), (1, (0, u3)), (2, (0, u4)), (3, (0, u5)), (4, (0, x6)), (5, (0, x7))]) [1, 2, 3, 4, 5, 6] rfl ?_
            exact hK134 _ _
          · refine z_iload (pc := 88) hX 5 dX12_nextAt_88 rfl ?_
            refine z_iconst (pc := 90) hX dX12_nextAt_90 ?_
            refine z_jn (fun K130 eK130 => ?_)
            have hK130 : ∀ (s45 : ZS), Zj X G 130 [(0, (2, u2)), (1, (0, u3)), (2, (0, u4)), (3, (0, u5)), (5, (0, x7))] [] s45 (K130 s45) := by
              intro s45
              rw [eK130]
              refine z_iload (pc := 130) hX 4 dX12_nextAt_130 rfl ?_
              refine z_istore (lv' := [(4, (0, x7)), (0, (2, u2)), (1, (0, u3)), (2, (0, u4)), (3, (0, u5)), (5, (0, x7))]) (pc := 132) hX dX12_nextAt_132 (zlt hxn rfl) rfl ?_
              refine z_pick (lv' := [(0, (2, u2)), (1, (0, u3)), (2, (0, u4)), (3, (0, u5)), (4, (0, x7)), (5, (0, x7))]) [1, 2, 3, 4, 0, 5] rfl ?_
              exact hK134 _ _
            clear eK130
            refine z_icmp_eq (pc := 91) hX 130 dX12_nextAt_91 (by decide) (fun h30 => ?_) (fun h30 => ?_)
            · refine z_pick (lv' := [(0, (2, u2)), (1, (0, u3)), (2, (0, u4)), (3, (0, u5)), (5, (0, x7))]) [1, 2, 3, 4, 6] rfl ?_
              exact hK130 _
            · refine z_aload_n (pc := 94) hX 1 dX12_nextAt_94 rfl rfl ?_
              refine z_aload_n (pc := 95) hX 1 dX12_nextAt_95 rfl rfl ?_
              refine z_get (pc := 96) hX zc12 9 (by decide) wd1026 rfl rfl dX12_nextAt_96 (fun v31 => ?_)
              refine z_iload_n (pc := 99) hX 2 dX12_nextAt_99 rfl rfl ?_
              refine z_iald (pc := 100) hX dX12_nextAt_100 (fun v32 => ?_)
              refine z_iload (pc := 101) hX 6 dX12_nextAt_101 rfl ?_
              refine z_callV (n := 2) (st := []) (pc := 103) hX zc12 rfl (fun _ => (mX12_orderOf _ hE _ _ _ _ _)) ⟨wd1296, wd67, wd1299, ⟨by decide, by decide, by decide⟩, by decide⟩ rfl wd1298 wd47 rfl rfl (by decide) (Nat.le_of_ble_eq_true rfl) dX12_nextAt_103 (fun v33 s34 r35 => ?_)
              show Zj X G 106 [(6, (0, w28)), (0, (2, u2)), (1, (0, u3)), (2, (0, u4)), (3, (0, u5)), (4, (0, x6)), (5, (0, x7))] [(0, v33)] _ _
              refine z_aload_n (pc := 106) hX 1 dX12_nextAt_106 rfl rfl ?_
              refine z_aload_n (pc := 107) hX 1 dX12_nextAt_107 rfl rfl ?_
              refine z_get (pc := 108) hX zc12 9 (by decide) wd1026 rfl rfl dX12_nextAt_108 (fun v36 => ?_)
              refine z_iload_n (pc := 111) hX 2 dX12_nextAt_111 rfl rfl ?_
              refine z_iald (pc := 112) hX dX12_nextAt_112 (fun v37 => ?_)
              refine z_iload (pc := 113) hX 5 dX12_nextAt_113 rfl ?_
              refine z_jn (fun K124 eK124 => ?_)
              have hK124 : ∀ (s39 : ZS) (w40 : Int), Zj X G 124 [(0, (2, u2)), (1, (0, u3)), (2, (0, u4)), (3, (0, u5)), (4, (0, x6)), (5, (0, x7))] [(0, w40), (0, v37), (2, u2), (0, v33)] s39 (K124 s39 w40) := by
                intro s39 w40
                rw [eK124]
                refine z_callV (n := 2) (st := [(0, v33)]) (pc := 124) hX zc12 rfl (fun _ => (mX12_orderOf _ hE _ _ _ _ _)) ⟨wd1296, wd67, wd1299, ⟨by decide, by decide, by decide⟩, by decide⟩ rfl wd1298 wd47 rfl rfl (by decide) (Nat.le_of_ble_eq_true rfl) dX12_nextAt_124 (fun v41 s42 r43 => ?_)
                show Zj X G 127 [(0, (2, u2)), (1, (0, u3)), (2, (0, u4)), (3, (0, u5)), (4, (0, x6)), (5, (0, x7))] [(0, v41), (0, v33)] _ _
                refine z_icmp_ge (pc := 127) hX 134 dX12_nextAt_127 (by decide) (fun h44 => ?_) (fun h44 => ?_)
                · exact hK134 _ _
                · refine z_pick (lv' := [(0, (2, u2)), (1, (0, u3)), (2, (0, u4)), (3, (0, u5)), (5, (0, x7))]) [0, 1, 2, 3, 5] rfl ?_
                  exact hK130 _
              clear eK124
              refine z_if_ge (pc := 115) hX 122 dX12_nextAt_115 (by decide) (fun h38 => ?_) (fun h38 => ?_)
              · refine z_iload (pc := 122) hX 5 dX12_nextAt_122 rfl ?_
                refine z_pick (lv' := [(0, (2, u2)), (1, (0, u3)), (2, (0, u4)), (3, (0, u5)), (4, (0, x6)), (5, (0, x7))]) [1, 2, 3, 4, 5, 6] rfl ?_
                exact hK124 _ _
              · refine z_iconst (pc := 118) hX dX12_nextAt_118 ?_
                refine z_goto (pc := 119) hX 124 dX12_nextAt_119 (by decide) ?_
                refine z_pick (lv' := [(0, (2, u2)), (1, (0, u3)), (2, (0, u4)), (3, (0, u5)), (4, (0, x6)), (5, (0, x7))]) [1, 2, 3, 4, 5, 6] rfl ?_
                exact hK124 _ _
        clear eK81
        refine z_jn (fun K80 eK80 => ?_)
        have hK80 : ∀ (s26 : ZS), Zj X G 80 [(0, (2, u2)), (1, (0, u3)), (2, (0, u4)), (3, (0, u5)), (4, (0, x6)), (5, (0, x7))] [] s26 (K80 s26) := by
          intro s26
          rw [eK80]
          refine z_iconst (pc := 80) hX dX12_nextAt_80 ?_
          exact hK81 _ _
        clear eK80
        refine z_icmp_eq (pc := 26) hX 80 dX12_nextAt_26 (by decide) (fun h13 => ?_) (fun h13 => ?_)
        · exact hK80 _
        · refine z_aload_n (pc := 29) hX 0 dX12_nextAt_29 rfl rfl ?_
          refine z_get (pc := 30) hX zc12 40 (by decide) wd1057 rfl rfl dX12_nextAt_30 (fun v14 => ?_)
          refine z_iload (pc := 33) hX 5 dX12_nextAt_33 rfl ?_
          refine z_iald (pc := 35) hX dX12_nextAt_35 (fun v15 => ?_)
          refine z_bipush (pc := 36) hX dX12_nextAt_36 ?_
          refine z_idiv (pc := 38) hX dX12_nextAt_38 (fun _ => ?_)
          refine z_iload_n (pc := 39) hX 2 dX12_nextAt_39 rfl rfl ?_
          refine z_icmp_ne (pc := 40) hX 80 dX12_nextAt_40 (by decide) (fun h16 => ?_) (fun h16 => ?_)
          · exact hK80 _
          · refine z_aload_n (pc := 43) hX 0 dX12_nextAt_43 rfl rfl ?_
            refine z_get (pc := 44) hX zc12 41 (by decide) wd1058 rfl rfl dX12_nextAt_44 (fun v17 => ?_)
            refine z_iload (pc := 47) hX 5 dX12_nextAt_47 rfl ?_
            refine z_iald (pc := 49) hX dX12_nextAt_49 (fun v18 => ?_)
            refine z_iconst (pc := 50) hX dX12_nextAt_50 ?_
            refine z_icmp_eq (pc := 51) hX 80 dX12_nextAt_51 (by decide) (fun h19 => ?_) (fun h19 => ?_)
            · exact hK80 _
            · refine z_aload_n (pc := 54) hX 0 dX12_nextAt_54 rfl rfl ?_
              refine z_get (pc := 55) hX zc12 41 (by decide) wd1058 rfl rfl dX12_nextAt_55 (fun v20 => ?_)
              refine z_iload (pc := 58) hX 5 dX12_nextAt_58 rfl ?_
              refine z_iald (pc := 60) hX dX12_nextAt_60 (fun v21 => ?_)
              refine z_iload_n (pc := 61) hX 3 dX12_nextAt_61 rfl rfl ?_
              refine z_icmp_gt (pc := 62) hX 80 dX12_nextAt_62 (by decide) (fun h22 => ?_) (fun h22 => ?_)
              · exact hK80 _
              · refine z_aload_n (pc := 65) hX 0 dX12_nextAt_65 rfl rfl ?_
                refine z_get (pc := 66) hX zc12 42 (by decide) wd1059 rfl rfl dX12_nextAt_66 (fun v23 => ?_)
                refine z_iload (pc := 69) hX 5 dX12_nextAt_69 rfl ?_
                refine z_iald (pc := 71) hX dX12_nextAt_71 (fun v24 => ?_)
                refine z_iconst (pc := 72) hX dX12_nextAt_72 ?_
                refine z_icmp_ne (pc := 73) hX 80 dX12_nextAt_73 (by decide) (fun h25 => ?_) (fun h25 => ?_)
                · exact hK80 _
                · refine z_iconst (pc := 76) hX dX12_nextAt_76 ?_
                  refine z_goto (pc := 77) hX 81 dX12_nextAt_77 (by decide) ?_
                  exact hK81 _ _
  refine z_pick (lv' := [(0, (2, a0)), (1, (0, a1)), (2, (0, a2)), (3, (0, a3)), (4, (0, (-1))), (5, (0, 0))]) [2, 3, 4, 5, 1, 0] rfl ?_
  refine hl6 _ _ _ _ 1000 _ _ _
