theorem dX11_sum_0 : decode cX11_sum 0 = .ok (.aload_n 0, 1) := by decide +kernel
theorem dX11_sum_1 : decode cX11_sum 1 = .ok (.iload_n 1, 1) := by decide +kernel
theorem dX11_sum_2 : decode cX11_sum 2 = .ok (.invokevirtual 177, 3) := by decide +kernel
theorem dX11_sum_5 : decode cX11_sum 5 = .ok (.astore_n 3, 1) := by decide +kernel
theorem dX11_sum_6 : decode cX11_sum 6 = .ok (.aload_n 3, 1) := by decide +kernel
theorem dX11_sum_7 : decode cX11_sum 7 = .ok (.ifnull 11, 3) := by decide +kernel
theorem dX11_sum_10 : decode cX11_sum 10 = .ok (.iload_n 2, 1) := by decide +kernel
theorem dX11_sum_11 : decode cX11_sum 11 = .ok (.iconst 3, 1) := by decide +kernel
theorem dX11_sum_12 : decode cX11_sum 12 = .ok (.invokestatic 102, 3) := by decide +kernel
theorem dX11_sum_15 : decode cX11_sum 15 = .ok (.ifCond .ne 7, 3) := by decide +kernel
theorem dX11_sum_18 : decode cX11_sum 18 = .ok (.ldc2_w 219, 3) := by decide +kernel
theorem dX11_sum_21 : decode cX11_sum 21 = .ok (.lreturn, 1) := by decide +kernel
theorem dX11_sum_22 : decode cX11_sum 22 = .ok (.aload_n 0, 1) := by decide +kernel
theorem dX11_sum_23 : decode cX11_sum 23 = .ok (.getfield 10, 3) := by decide +kernel
theorem dX11_sum_26 : decode cX11_sum 26 = .ok (.aload_n 3, 1) := by decide +kernel
theorem dX11_sum_27 : decode cX11_sum 27 = .ok (.invokevirtual 188, 3) := by decide +kernel
theorem dX11_sum_30 : decode cX11_sum 30 = .ok (.lconst 0, 1) := by decide +kernel
theorem dX11_sum_31 : decode cX11_sum 31 = .ok (.lstore 4, 2) := by decide +kernel
theorem dX11_sum_33 : decode cX11_sum 33 = .ok (.iconst 0, 1) := by decide +kernel
theorem dX11_sum_34 : decode cX11_sum 34 = .ok (.istore 6, 2) := by decide +kernel
theorem dX11_sum_36 : decode cX11_sum 36 = .ok (.iload 6, 2) := by decide +kernel
theorem dX11_sum_38 : decode cX11_sum 38 = .ok (.aload_n 3, 1) := by decide +kernel
theorem dX11_sum_39 : decode cX11_sum 39 = .ok (.getfield 170, 3) := by decide +kernel
theorem dX11_sum_42 : decode cX11_sum 42 = .ok (.if_icmp .ge 126, 3) := by decide +kernel
theorem dX11_sum_45 : decode cX11_sum 45 = .ok (.iload_n 2, 1) := by decide +kernel
theorem dX11_sum_46 : decode cX11_sum 46 = .ok (.tableswitch 101 0 2 #[26, 54, 82], 26) := by decide +kernel
theorem dX11_sum_72 : decode cX11_sum 72 = .ok (.lload 4, 2) := by decide +kernel
theorem dX11_sum_74 : decode cX11_sum 74 = .ok (.aload_n 0, 1) := by decide +kernel
theorem dX11_sum_75 : decode cX11_sum 75 = .ok (.getfield 10, 3) := by decide +kernel
theorem dX11_sum_78 : decode cX11_sum 78 = .ok (.aload_n 3, 1) := by decide +kernel
theorem dX11_sum_79 : decode cX11_sum 79 = .ok (.iload 6, 2) := by decide +kernel
theorem dX11_sum_81 : decode cX11_sum 81 = .ok (.aload_n 0, 1) := by decide +kernel
theorem dX11_sum_82 : decode cX11_sum 82 = .ok (.getfield 40, 3) := by decide +kernel
theorem dX11_sum_85 : decode cX11_sum 85 = .ok (.aload_n 0, 1) := by decide +kernel
theorem dX11_sum_86 : decode cX11_sum 86 = .ok (.getfield 47, 3) := by decide +kernel
theorem dX11_sum_89 : decode cX11_sum 89 = .ok (.aaload, 1) := by decide +kernel
theorem dX11_sum_90 : decode cX11_sum 90 = .ok (.invokevirtual 198, 3) := by decide +kernel
theorem dX11_sum_93 : decode cX11_sum 93 = .ok (.i2l, 1) := by decide +kernel
theorem dX11_sum_94 : decode cX11_sum 94 = .ok (.ladd, 1) := by decide +kernel
theorem dX11_sum_95 : decode cX11_sum 95 = .ok (.lstore 4, 2) := by decide +kernel
theorem dX11_sum_97 : decode cX11_sum 97 = .ok (.goto 65, 3) := by decide +kernel
theorem dX11_sum_100 : decode cX11_sum 100 = .ok (.lload 4, 2) := by decide +kernel
theorem dX11_sum_102 : decode cX11_sum 102 = .ok (.aload_n 0, 1) := by decide +kernel
theorem dX11_sum_103 : decode cX11_sum 103 = .ok (.getfield 10, 3) := by decide +kernel
theorem dX11_sum_106 : decode cX11_sum 106 = .ok (.aload_n 3, 1) := by decide +kernel
theorem dX11_sum_107 : decode cX11_sum 107 = .ok (.iload 6, 2) := by decide +kernel
theorem dX11_sum_109 : decode cX11_sum 109 = .ok (.aload_n 0, 1) := by decide +kernel
theorem dX11_sum_110 : decode cX11_sum 110 = .ok (.getfield 40, 3) := by decide +kernel
theorem dX11_sum_113 : decode cX11_sum 113 = .ok (.aload_n 0, 1) := by decide +kernel
theorem dX11_sum_114 : decode cX11_sum 114 = .ok (.getfield 47, 3) := by decide +kernel
theorem dX11_sum_117 : decode cX11_sum 117 = .ok (.aaload, 1) := by decide +kernel
theorem dX11_sum_118 : decode cX11_sum 118 = .ok (.invokevirtual 206, 3) := by decide +kernel
theorem dX11_sum_121 : decode cX11_sum 121 = .ok (.i2l, 1) := by decide +kernel
theorem dX11_sum_122 : decode cX11_sum 122 = .ok (.ladd, 1) := by decide +kernel
theorem dX11_sum_123 : decode cX11_sum 123 = .ok (.lstore 4, 2) := by decide +kernel
theorem dX11_sum_125 : decode cX11_sum 125 = .ok (.goto 37, 3) := by decide +kernel
theorem dX11_sum_128 : decode cX11_sum 128 = .ok (.lload 4, 2) := by decide +kernel
theorem dX11_sum_130 : decode cX11_sum 130 = .ok (.aload_n 0, 1) := by decide +kernel
theorem dX11_sum_131 : decode cX11_sum 131 = .ok (.getfield 10, 3) := by decide +kernel
theorem dX11_sum_134 : decode cX11_sum 134 = .ok (.aload_n 3, 1) := by decide +kernel
theorem dX11_sum_135 : decode cX11_sum 135 = .ok (.iload 6, 2) := by decide +kernel
theorem dX11_sum_137 : decode cX11_sum 137 = .ok (.invokevirtual 202, 3) := by decide +kernel
theorem dX11_sum_140 : decode cX11_sum 140 = .ok (.i2l, 1) := by decide +kernel
theorem dX11_sum_141 : decode cX11_sum 141 = .ok (.ladd, 1) := by decide +kernel
theorem dX11_sum_142 : decode cX11_sum 142 = .ok (.lstore 4, 2) := by decide +kernel
theorem dX11_sum_144 : decode cX11_sum 144 = .ok (.goto 18, 3) := by decide +kernel
theorem dX11_sum_147 : decode cX11_sum 147 = .ok (.lload 4, 2) := by decide +kernel
theorem dX11_sum_149 : decode cX11_sum 149 = .ok (.aload_n 0, 1) := by decide +kernel
theorem dX11_sum_150 : decode cX11_sum 150 = .ok (.getfield 10, 3) := by decide +kernel
theorem dX11_sum_153 : decode cX11_sum 153 = .ok (.iload 6, 2) := by decide +kernel
theorem dX11_sum_155 : decode cX11_sum 155 = .ok (.invokevirtual 221, 3) := by decide +kernel
theorem dX11_sum_158 : decode cX11_sum 158 = .ok (.i2l, 1) := by decide +kernel
theorem dX11_sum_159 : decode cX11_sum 159 = .ok (.ladd, 1) := by decide +kernel
theorem dX11_sum_160 : decode cX11_sum 160 = .ok (.lstore 4, 2) := by decide +kernel
theorem dX11_sum_162 : decode cX11_sum 162 = .ok (.iinc 6 1, 3) := by decide +kernel
theorem dX11_sum_165 : decode cX11_sum 165 = .ok (.goto (-129), 3) := by decide +kernel
theorem dX11_sum_168 : decode cX11_sum 168 = .ok (.lload 4, 2) := by decide +kernel
theorem dX11_sum_170 : decode cX11_sum 170 = .ok (.lreturn, 1) := by decide +kernel
def lX11_sum_36 (u14 u15 u16 : Int)  : Nat → ZS → Int → Int → Option (Int × ZS)
  | 0, _, _, _ => none
  | n1 + 1, s13, x17, x18 => (zgw s13 u16 0).bind (fun v19 => if v19 ≤ x18 then (some (x17, s13)) else (zjn (fun (K162 : ZS → Int → Option (Int × ZS)) => if u15 = 0 then ((zg s13 11 u14 0).bind (fun v22 => (zg s13 11 u14 5).bind (fun v23 => (zg s13 11 u14 7).bind (fun v24 => (zal s13 104 v23 v24).bind (fun v25 => zb (zv s13 2 v22 (fX2_costOf s13 v22 u16 x18 v25)) (fun v26 s27 => K162 s27 (wrapL (x17 + v26)))))))) else (if u15 = 1 then ((zg s13 11 u14 0).bind (fun v30 => (zg s13 11 u14 5).bind (fun v31 => (zg s13 11 u14 7).bind (fun v32 => (zal s13 104 v31 v32).bind (fun v33 => zb (zv s13 2 v30 (fX2_lostOf s13 v30 u16 x18 v33)) (fun v34 s35 => K162 s35 (wrapL (x17 + v34)))))))) else (if u15 = 2 then ((zg s13 11 u14 0).bind (fun v38 => zb (zv s13 2 v38 (fX2_paidOf s13 v38 u16 x18)) (fun v39 s40 => K162 s40 (wrapL (x17 + v39))))) else ((zg s13 11 u14 0).bind (fun v42 => zb (zv s13 2 v42 (fX2_waitOf s13 v42 x18)) (fun v43 s44 => K162 s44 (wrapL (x17 + v43)))))))) (fun (s46 : ZS) (x47 : Int) => lX11_sum_36 u14 u15 u16 n1 s46 x47 (wrap (x18 + 1)))))

def fX11_sum (s0 : ZS) (a0 : Int) (a1 : Int) (a2 : Int) : Option (Int × ZS) := zb (zv s0 11 a0 (fX11_wayAt s0 a0 a1)) (fun v1 s2 => if v1 < 0 then (some ((-4611686018427387904), s2)) else (zb (fX11_within s2 a2 3) (fun v5 s6 => if v5 = 0 then (some ((-4611686018427387904), s6)) else ((zg s6 11 a0 0).bind (fun v9 => zb (zv s6 2 v9 (fX2_follow s6 v9 v1)) (fun v10 s11 => lX11_sum_36 a0 a2 v1 1000 s11 0 0))))))
set_option maxHeartbeats 4000000 in
set_option maxRecDepth 100000 in
theorem mX11_sum (E : ZE) (hE : zOkE E) (l : Launch) (s0 : ZS) (a0 : Int) (a1 : Int) (a2 : Int) : Ct E l yX11_sum cX11_sum 7 (some .long) 10 [(2, a0), (0, a1), (0, a2)] 2 s0 (fX11_sum s0 a0 a1 a2) := by
  refine Ct.of (by decide) hE (Nat.le_of_ble_eq_true rfl) ?_
  intro X G hX hR hN hXE hXl hxn hk _
  subst hXE
  subst hXl
  have hX : G → ZOk X cX11_sum RX11 10 := hX
  clear hN
  show Zj X G 0 [(0, (2, a0)), (1, (0, a1)), (2, (0, a2))] [] s0 _
  unfold fX11_sum
  refine z_aload_n (pc := 0) hX 0 dX11_sum_0 rfl rfl ?_
  refine z_iload_n (pc := 1) hX 1 dX11_sum_1 rfl rfl ?_
  refine z_callV (n := 1) (st := []) (pc := 2) hX zc11 rfl (fun _ => (mX11_wayAt _ hE _ _ _ _)) ⟨wd681, wd61, wd684, ⟨by decide, by decide, by decide⟩, by decide⟩ rfl wd683 wd18 rfl rfl (by decide) (Nat.le_of_ble_eq_true rfl) dX11_sum_2 (fun v1 s2 r3 => ?_)
  show Zj X G 5 [(0, (2, a0)), (1, (0, a1)), (2, (0, a2))] [(2, v1)] _ _
  refine z_astore_n (lv' := [(3, (2, v1)), (0, (2, a0)), (1, (0, a1)), (2, (0, a2))]) (pc := 5) hX dX11_sum_5 rfl (zlt hxn rfl) rfl ?_
  refine z_aload_n (pc := 6) hX 0 dX11_sum_6 rfl rfl ?_
  refine z_ifnull (pc := 7) hX 18 dX11_sum_7 (by decide) (fun h4 => ?_) (fun h4 => ?_)
  · refine z_ldc2 (n := -4611686018427387904) (pc := 18) hX dX11_sum_18 wd846 (by decide) ?_
    exact z_lret (pc := 21) hX hR hk dX11_sum_21
  · refine z_iload_n (pc := 10) hX 3 dX11_sum_10 rfl rfl ?_
    refine z_iconst (pc := 11) hX dX11_sum_11 ?_
    refine z_callS (n := 2) (st := []) (pc := 12) hX (mX11_within _ hE _ _ _ _) ⟨wd329, wd61, wd331, ⟨by decide, by decide, by decide⟩, by decide⟩ wd330 rfl rfl (by decide) (Nat.le_of_ble_eq_true rfl) dX11_sum_12 (fun v5 s6 r7 => ?_)
    show Zj X G 15 [(3, (2, v1)), (0, (2, a0)), (1, (0, a1)), (2, (0, a2))] [(0, v5)] _ _
    refine z_if_ne (pc := 15) hX 22 dX11_sum_15 (by decide) (fun h8 => ?_) (fun h8 => ?_)
    · refine z_aload_n (pc := 22) hX 1 dX11_sum_22 rfl rfl ?_
      refine z_get (pc := 23) hX zc11 0 (by decide) wd270 rfl rfl dX11_sum_23 (fun v9 => ?_)
      refine z_aload_n (pc := 26) hX 0 dX11_sum_26 rfl rfl ?_
      refine z_callV (n := 1) (st := []) (pc := 27) hX zc2 rfl (fun _ => (mX2_follow _ hE _ _ _ _)) ⟨wd723, wd62, wd726, ⟨by decide, by decide, by decide⟩, by decide⟩ rfl wd724 wd725 rfl rfl (by decide) (Nat.le_of_ble_eq_true rfl) dX11_sum_27 (fun v10 s11 r12 => ?_)
      show Zj X G 30 [(3, (2, v1)), (0, (2, a0)), (1, (0, a1)), (2, (0, a2))] [] _ _
      refine z_lconst (pc := 30) hX dX11_sum_30 rfl ?_
      refine z_lstore (lv' := [(4, (1, 0)), (3, (2, v1)), (0, (2, a0)), (1, (0, a1)), (2, (0, a2))]) (pc := 31) hX dX11_sum_31 (zlt2 hxn rfl) rfl ?_
      refine z_iconst (pc := 33) hX dX11_sum_33 ?_
      refine z_istore (lv' := [(6, (0, 0)), (4, (1, 0)), (3, (2, v1)), (0, (2, a0)), (1, (0, a1)), (2, (0, a2))]) (pc := 34) hX dX11_sum_34 (zlt hxn rfl) rfl ?_
      have hl36 : ∀ (u14 u15 u16 : Int), ∀ (n1 : Nat) (s13 : ZS) (x17 x18 : Int), Zj X G 36 [(0, (2, u14)), (2, (0, u15)), (3, (2, u16)), (4, (1, x17)), (6, (0, x18))] [] s13 (lX11_sum_36 u14 u15 u16 n1 s13 x17 x18) := by
        intro u14 u15 u16 n1
        induction n1 with
        | zero => intro _ _ _; exact z_none
        | succ n1 ih1 =>
          intro s13 x17 x18
          rw [lX11_sum_36]
          refine z_iload (pc := 36) hX 4 dX11_sum_36 rfl ?_
          refine z_aload_n (pc := 38) hX 2 dX11_sum_38 rfl rfl ?_
          refine z_getw (pc := 39) hX zc10 zc9 zc3 zc0 zc1 zc7 0 (by decide) wd617 rfl rfl rfl rfl rfl rfl rfl rfl rfl rfl rfl rfl rfl dX11_sum_39 (fun v19 => ?_)
          refine z_icmp_ge (pc := 42) hX 168 dX11_sum_42 (by decide) (fun h20 => ?_) (fun h20 => ?_)
          · refine z_lload (pc := 168) hX 3 dX11_sum_168 rfl ?_
            exact z_lret (pc := 170) hX hR hk dX11_sum_170
          · refine z_iload_n (pc := 45) hX 1 dX11_sum_45 rfl rfl ?_
            refine z_jn (fun K162 eK162 => ?_)
            have hK162 : ∀ (s46 : ZS) (x47 : Int), Zj X G 162 [(0, (2, u14)), (2, (0, u15)), (3, (2, u16)), (4, (1, x47)), (6, (0, x18))] [] s46 (K162 s46 x47) := by
              intro s46 x47
              rw [eK162]
              refine z_iinc (lv' := [(6, (0, (wrap (x18 + 1)))), (0, (2, u14)), (2, (0, u15)), (3, (2, u16)), (4, (1, x47))]) (pc := 162) hX 4 dX11_sum_162 rfl (zlt hxn rfl) rfl ?_
              refine z_goto (pc := 165) hX 36 dX11_sum_165 (by decide) ?_
              refine z_pick (lv' := [(0, (2, u14)), (2, (0, u15)), (3, (2, u16)), (4, (1, x47)), (6, (0, (wrap (x18 + 1))))]) [1, 2, 3, 4, 0] rfl ?_
              exact ih1 _ _ _
            clear eK162
            by_cases h21 : u15 = 0
            · refine z_eq (if_pos h21) ?_
              refine z_tswIn (pc := 46) hX 72 dX11_sum_46 h21 (by decide) (by decide) rfl (by decide) ?_
              refine z_lload (pc := 72) hX 3 dX11_sum_72 rfl ?_
              refine z_aload_n (pc := 74) hX 0 dX11_sum_74 rfl rfl ?_
              refine z_get (pc := 75) hX zc11 0 (by decide) wd270 rfl rfl dX11_sum_75 (fun v22 => ?_)
              refine z_aload_n (pc := 78) hX 2 dX11_sum_78 rfl rfl ?_
              refine z_iload (pc := 79) hX 4 dX11_sum_79 rfl ?_
              refine z_aload_n (pc := 81) hX 0 dX11_sum_81 rfl rfl ?_
              refine z_get (pc := 82) hX zc11 5 (by decide) wd275 rfl rfl dX11_sum_82 (fun v23 => ?_)
              refine z_aload_n (pc := 85) hX 0 dX11_sum_85 rfl rfl ?_
              refine z_get (pc := 86) hX zc11 7 (by decide) wd277 rfl rfl dX11_sum_86 (fun v24 => ?_)
              refine z_aald (pc := 89) hX 4 104 (by decide) rfl rfl dX11_sum_89 (fun v25 => ?_)
              refine z_callV (n := 3) (st := [(1, x17)]) (pc := 90) hX zc2 rfl (fun _ => (mX2_costOf _ hE _ _ _ _ _ _)) ⟨wd772, wd62, wd775, ⟨by decide, by decide, by decide⟩, by decide⟩ rfl wd773 wd774 rfl rfl (by decide) (Nat.le_of_ble_eq_true rfl) dX11_sum_90 (fun v26 s27 r28 => ?_)
              show Zj X G 93 [(0, (2, u14)), (2, (0, u15)), (3, (2, u16)), (4, (1, x17)), (6, (0, x18))] [(0, v26), (1, x17)] _ _
              refine z_i2lR (pc := 93) hX dX11_sum_93 ?_
              refine z_ladd (pc := 94) hX dX11_sum_94 ?_
              refine z_lstore (lv' := [(4, (1, (wrapL (x17 + v26)))), (0, (2, u14)), (2, (0, u15)), (3, (2, u16)), (6, (0, x18))]) (pc := 95) hX dX11_sum_95 (zlt2 hxn rfl) rfl ?_
              refine z_goto (pc := 97) hX 162 dX11_sum_97 (by decide) ?_
              refine z_pick (lv' := [(0, (2, u14)), (2, (0, u15)), (3, (2, u16)), (4, (1, (wrapL (x17 + v26)))), (6, (0, x18))]) [1, 2, 3, 0, 4] rfl ?_
              exact hK162 _ _
            · refine z_eq (if_neg h21) ?_
              by_cases h29 : u15 = 1
              · refine z_eq (if_pos h29) ?_
                refine z_tswIn (pc := 46) hX 100 dX11_sum_46 h29 (by decide) (by decide) rfl (by decide) ?_
                refine z_lload (pc := 100) hX 3 dX11_sum_100 rfl ?_
                refine z_aload_n (pc := 102) hX 0 dX11_sum_102 rfl rfl ?_
                refine z_get (pc := 103) hX zc11 0 (by decide) wd270 rfl rfl dX11_sum_103 (fun v30 => ?_)
                refine z_aload_n (pc := 106) hX 2 dX11_sum_106 rfl rfl ?_
                refine z_iload (pc := 107) hX 4 dX11_sum_107 rfl ?_
                refine z_aload_n (pc := 109) hX 0 dX11_sum_109 rfl rfl ?_
                refine z_get (pc := 110) hX zc11 5 (by decide) wd275 rfl rfl dX11_sum_110 (fun v31 => ?_)
                refine z_aload_n (pc := 113) hX 0 dX11_sum_113 rfl rfl ?_
                refine z_get (pc := 114) hX zc11 7 (by decide) wd277 rfl rfl dX11_sum_114 (fun v32 => ?_)
                refine z_aald (pc := 117) hX 4 104 (by decide) rfl rfl dX11_sum_117 (fun v33 => ?_)
                refine z_callV (n := 3) (st := [(1, x17)]) (pc := 118) hX zc2 rfl (fun _ => (mX2_lostOf _ hE _ _ _ _ _ _)) ⟨wd825, wd62, wd828, ⟨by decide, by decide, by decide⟩, by decide⟩ rfl wd826 wd827 rfl rfl (by decide) (Nat.le_of_ble_eq_true rfl) dX11_sum_118 (fun v34 s35 r36 => ?_)
                show Zj X G 121 [(0, (2, u14)), (2, (0, u15)), (3, (2, u16)), (4, (1, x17)), (6, (0, x18))] [(0, v34), (1, x17)] _ _
                refine z_i2lR (pc := 121) hX dX11_sum_121 ?_
                refine z_ladd (pc := 122) hX dX11_sum_122 ?_
                refine z_lstore (lv' := [(4, (1, (wrapL (x17 + v34)))), (0, (2, u14)), (2, (0, u15)), (3, (2, u16)), (6, (0, x18))]) (pc := 123) hX dX11_sum_123 (zlt2 hxn rfl) rfl ?_
                refine z_goto (pc := 125) hX 162 dX11_sum_125 (by decide) ?_
                refine z_pick (lv' := [(0, (2, u14)), (2, (0, u15)), (3, (2, u16)), (4, (1, (wrapL (x17 + v34)))), (6, (0, x18))]) [1, 2, 3, 0, 4] rfl ?_
                exact hK162 _ _
              · refine z_eq (if_neg h29) ?_
                by_cases h37 : u15 = 2
                · refine z_eq (if_pos h37) ?_
                  refine z_tswIn (pc := 46) hX 128 dX11_sum_46 h37 (by decide) (by decide) rfl (by decide) ?_
                  refine z_lload (pc := 128) hX 3 dX11_sum_128 rfl ?_
                  refine z_aload_n (pc := 130) hX 0 dX11_sum_130 rfl rfl ?_
                  refine z_get (pc := 131) hX zc11 0 (by decide) wd270 rfl rfl dX11_sum_131 (fun v38 => ?_)
                  refine z_aload_n (pc := 134) hX 2 dX11_sum_134 rfl rfl ?_
                  refine z_iload (pc := 135) hX 4 dX11_sum_135 rfl ?_
                  refine z_callV (n := 2) (st := [(1, x17)]) (pc := 137) hX zc2 rfl (fun _ => (mX2_paidOf _ hE _ _ _ _ _)) ⟨wd821, wd62, wd824, ⟨by decide, by decide, by decide⟩, by decide⟩ rfl wd822 wd823 rfl rfl (by decide) (Nat.le_of_ble_eq_true rfl) dX11_sum_137 (fun v39 s40 r41 => ?_)
                  show Zj X G 140 [(0, (2, u14)), (2, (0, u15)), (3, (2, u16)), (4, (1, x17)), (6, (0, x18))] [(0, v39), (1, x17)] _ _
                  refine z_i2lR (pc := 140) hX dX11_sum_140 ?_
                  refine z_ladd (pc := 141) hX dX11_sum_141 ?_
                  refine z_lstore (lv' := [(4, (1, (wrapL (x17 + v39)))), (0, (2, u14)), (2, (0, u15)), (3, (2, u16)), (6, (0, x18))]) (pc := 142) hX dX11_sum_142 (zlt2 hxn rfl) rfl ?_
                  refine z_goto (pc := 144) hX 162 dX11_sum_144 (by decide) ?_
                  refine z_pick (lv' := [(0, (2, u14)), (2, (0, u15)), (3, (2, u16)), (4, (1, (wrapL (x17 + v39)))), (6, (0, x18))]) [1, 2, 3, 0, 4] rfl ?_
                  exact hK162 _ _
                · refine z_eq (if_neg h37) ?_
                  refine z_tswOut (pc := 46) hX 147 dX11_sum_46 (by omega) (by decide) ?_
                  refine z_lload (pc := 147) hX 3 dX11_sum_147 rfl ?_
                  refine z_aload_n (pc := 149) hX 0 dX11_sum_149 rfl rfl ?_
                  refine z_get (pc := 150) hX zc11 0 (by decide) wd270 rfl rfl dX11_sum_150 (fun v42 => ?_)
                  refine z_iload (pc := 153) hX 4 dX11_sum_153 rfl ?_
                  refine z_callV (n := 1) (st := [(1, x17)]) (pc := 155) hX zc2 rfl (fun _ => (mX2_waitOf _ hE _ _ _ _)) ⟨wd847, wd62, wd850, ⟨by decide, by decide, by decide⟩, by decide⟩ rfl wd848 wd849 rfl rfl (by decide) (Nat.le_of_ble_eq_true rfl) dX11_sum_155 (fun v43 s44 r45 => ?_)
                  show Zj X G 158 [(0, (2, u14)), (2, (0, u15)), (3, (2, u16)), (4, (1, x17)), (6, (0, x18))] [(0, v43), (1, x17)] _ _
                  refine z_i2lR (pc := 158) hX dX11_sum_158 ?_
                  refine z_ladd (pc := 159) hX dX11_sum_159 ?_
                  refine z_lstore (lv' := [(4, (1, (wrapL (x17 + v43)))), (0, (2, u14)), (2, (0, u15)), (3, (2, u16)), (6, (0, x18))]) (pc := 160) hX dX11_sum_160 (zlt2 hxn rfl) rfl ?_
                  refine z_pick (lv' := [(0, (2, u14)), (2, (0, u15)), (3, (2, u16)), (4, (1, (wrapL (x17 + v43)))), (6, (0, x18))]) [1, 2, 3, 0, 4] rfl ?_
                  exact hK162 _ _
      refine z_pick (lv' := [(0, (2, a0)), (2, (0, a2)), (3, (2, v1)), (4, (1, 0)), (6, (0, 0))]) [3, 5, 2, 1, 0] rfl ?_
      refine hl36 _ _ _ 1000 _ _ _
    · refine z_ldc2 (n := -4611686018427387904) (pc := 18) hX dX11_sum_18 wd846 (by decide) ?_
      exact z_lret (pc := 21) hX hR hk dX11_sum_21

theorem dX12_costAll_0 : decode cX12_costAll 0 = .ok (.lconst 0, 1) := by decide +kernel
theorem dX12_costAll_1 : decode cX12_costAll 1 = .ok (.lstore_n 2, 1) := by decide +kernel
theorem dX12_costAll_2 : decode cX12_costAll 2 = .ok (.iconst 0, 1) := by decide +kernel
theorem dX12_costAll_3 : decode cX12_costAll 3 = .ok (.istore 4, 2) := by decide +kernel
theorem dX12_costAll_5 : decode cX12_costAll 5 = .ok (.iload 4, 2) := by decide +kernel
theorem dX12_costAll_7 : decode cX12_costAll 7 = .ok (.aload_n 0, 1) := by decide +kernel
theorem dX12_costAll_8 : decode cX12_costAll 8 = .ok (.getfield 31, 3) := by decide +kernel
theorem dX12_costAll_11 : decode cX12_costAll 11 = .ok (.iload_n 1, 1) := by decide +kernel
theorem dX12_costAll_12 : decode cX12_costAll 12 = .ok (.iaload, 1) := by decide +kernel
theorem dX12_costAll_13 : decode cX12_costAll 13 = .ok (.if_icmp .ge 20, 3) := by decide +kernel
theorem dX12_costAll_16 : decode cX12_costAll 16 = .ok (.lload_n 2, 1) := by decide +kernel
theorem dX12_costAll_17 : decode cX12_costAll 17 = .ok (.aload_n 0, 1) := by decide +kernel
theorem dX12_costAll_18 : decode cX12_costAll 18 = .ok (.iload_n 1, 1) := by decide +kernel
theorem dX12_costAll_19 : decode cX12_costAll 19 = .ok (.iload 4, 2) := by decide +kernel
theorem dX12_costAll_21 : decode cX12_costAll 21 = .ok (.invokevirtual 248, 3) := by decide +kernel
theorem dX12_costAll_24 : decode cX12_costAll 24 = .ok (.i2l, 1) := by decide +kernel
theorem dX12_costAll_25 : decode cX12_costAll 25 = .ok (.ladd, 1) := by decide +kernel
theorem dX12_costAll_26 : decode cX12_costAll 26 = .ok (.lstore_n 2, 1) := by decide +kernel
theorem dX12_costAll_27 : decode cX12_costAll 27 = .ok (.iinc 4 1, 3) := by decide +kernel
theorem dX12_costAll_30 : decode cX12_costAll 30 = .ok (.goto (-25), 3) := by decide +kernel
theorem dX12_costAll_33 : decode cX12_costAll 33 = .ok (.lload_n 2, 1) := by decide +kernel
theorem dX12_costAll_34 : decode cX12_costAll 34 = .ok (.lreturn, 1) := by decide +kernel
def lX12_costAll_5 (u2 u3 : Int)  : Nat → ZS → Int → Int → Option (Int × ZS)
  | 0, _, _, _ => none
  | n1 + 1, s1, x4, x5 => (zg s1 12 u2 10).bind (fun v6 => (zal s1 100 v6 u3).bind (fun v7 => if v7 ≤ x5 then (some (x4, s1)) else (zb (zv s1 12 u2 (fX12_cost s1 u2 u3 x5)) (fun v9 s10 => lX12_costAll_5 u2 u3 n1 s10 (wrapL (x4 + v9)) (wrap (x5 + 1))))))

def fX12_costAll (s0 : ZS) (a0 : Int) (a1 : Int) : Option (Int × ZS) := lX12_costAll_5 a0 a1 1000 s0 0 0
set_option maxHeartbeats 4000000 in
set_option maxRecDepth 100000 in
theorem mX12_costAll (E : ZE) (hE : zOkE E) (l : Launch) (s0 : ZS) (a0 : Int) (a1 : Int) : Ct E l yX12_costAll cX12_costAll 5 (some .long) 8 [(2, a0), (0, a1)] 2 s0 (fX12_costAll s0 a0 a1) := by
  refine Ct.of (by decide) hE (Nat.le_of_ble_eq_true rfl) ?_
  intro X G hX hR hN hXE hXl hxn hk _
  subst hXE
  subst hXl
  have hX : G → ZOk X cX12_costAll RX12 8 := hX
  clear hN
  show Zj X G 0 [(0, (2, a0)), (1, (0, a1))] [] s0 _
  unfold fX12_costAll
  refine z_lconst (pc := 0) hX dX12_costAll_0 rfl ?_
  refine z_lstore_n (lv' := [(2, (1, 0)), (0, (2, a0)), (1, (0, a1))]) (pc := 1) hX dX12_costAll_1 rfl (zlt2 hxn rfl) rfl ?_
  refine z_iconst (pc := 2) hX dX12_costAll_2 ?_
  refine z_istore (lv' := [(4, (0, 0)), (2, (1, 0)), (0, (2, a0)), (1, (0, a1))]) (pc := 3) hX dX12_costAll_3 (zlt hxn rfl) rfl ?_
  have hl5 : ∀ (u2 u3 : Int), ∀ (n1 : Nat) (s1 : ZS) (x4 x5 : Int), Zj X G 5 [(0, (2, u2)), (1, (0, u3)), (2, (1, x4)), (4, (0, x5))] [] s1 (lX12_costAll_5 u2 u3 n1 s1 x4 x5) := by
    intro u2 u3 n1
    induction n1 with
    | zero => intro _ _ _; exact z_none
    | succ n1 ih1 =>
      intro s1 x4 x5
      rw [lX12_costAll_5]
      refine z_iload (pc := 5) hX 3 dX12_costAll_5 rfl ?_
      refine z_aload_n (pc := 7) hX 0 dX12_costAll_7 rfl rfl ?_
      refine z_get (pc := 8) hX zc12 10 (by decide) wd1027 rfl rfl dX12_costAll_8 (fun v6 => ?_)
      refine z_iload_n (pc := 11) hX 1 dX12_costAll_11 rfl rfl ?_
      refine z_iald (pc := 12) hX dX12_costAll_12 (fun v7 => ?_)
      refine z_icmp_ge (pc := 13) hX 33 dX12_costAll_13 (by decide) (fun h8 => ?_) (fun h8 => ?_)
      · refine z_lload_n (pc := 33) hX 2 dX12_costAll_33 rfl rfl ?_
        exact z_lret (pc := 34) hX hR hk dX12_costAll_34
      · refine z_lload_n (pc := 16) hX 2 dX12_costAll_16 rfl rfl ?_
        refine z_aload_n (pc := 17) hX 0 dX12_costAll_17 rfl rfl ?_
        refine z_iload_n (pc := 18) hX 1 dX12_costAll_18 rfl rfl ?_
        refine z_iload (pc := 19) hX 3 dX12_costAll_19 rfl ?_
        refine z_callV (n := 2) (st := [(1, x4)]) (pc := 21) hX zc12 rfl (fun _ => (mX12_cost _ hE _ _ _ _ _)) ⟨wd1300, wd67, wd1303, ⟨by decide, by decide, by decide⟩, by decide⟩ rfl wd1302 wd48 rfl rfl (by decide) (Nat.le_of_ble_eq_true rfl) dX12_costAll_21 (fun v9 s10 r11 => ?_)
        show Zj X G 24 [(0, (2, u2)), (1, (0, u3)), (2, (1, x4)), (4, (0, x5))] [(0, v9), (1, x4)] _ _
        refine z_i2lR (pc := 24) hX dX12_costAll_24 ?_
        refine z_ladd (pc := 25) hX dX12_costAll_25 ?_
        refine z_lstore_n (lv' := [(2, (1, (wrapL (x4 + v9)))), (0, (2, u2)), (1, (0, u3)), (4, (0, x5))]) (pc := 26) hX dX12_costAll_26 rfl (zlt2 hxn rfl) rfl ?_
        refine z_iinc (lv' := [(4, (0, (wrap (x5 + 1)))), (2, (1, (wrapL (x4 + v9)))), (0, (2, u2)), (1, (0, u3))]) (pc := 27) hX 3 dX12_costAll_27 rfl (zlt hxn rfl) rfl ?_
        refine z_goto (pc := 30) hX 5 dX12_costAll_30 (by decide) ?_
        refine z_pick (lv' := [(0, (2, u2)), (1, (0, u3)), (2, (1, (wrapL (x4 + v9)))), (4, (0, (wrap (x5 + 1))))]) [2, 3, 1, 0] rfl ?_
        exact ih1 _ _ _
  refine z_pick (lv' := [(0, (2, a0)), (1, (0, a1)), (2, (1, 0)), (4, (0, 0))]) [2, 3, 1, 0] rfl ?_
  refine hl5 _ _ 1000 _ _ _

theorem dX12_costNow_0 : decode cX12_costNow 0 = .ok (.aload_n 0, 1) := by decide +kernel
theorem dX12_costNow_1 : decode cX12_costNow 1 = .ok (.iload_n 1, 1) := by decide +kernel
theorem dX12_costNow_2 : decode cX12_costNow 2 = .ok (.invokevirtual 251, 3) := by decide +kernel
theorem dX12_costNow_5 : decode cX12_costNow 5 = .ok (.aload_n 0, 1) := by decide +kernel
theorem dX12_costNow_6 : decode cX12_costNow 6 = .ok (.iload_n 1, 1) := by decide +kernel
theorem dX12_costNow_7 : decode cX12_costNow 7 = .ok (.invokevirtual 254, 3) := by decide +kernel
theorem dX12_costNow_10 : decode cX12_costNow 10 = .ok (.aload_n 0, 1) := by decide +kernel
theorem dX12_costNow_11 : decode cX12_costNow 11 = .ok (.iload_n 1, 1) := by decide +kernel
theorem dX12_costNow_12 : decode cX12_costNow 12 = .ok (.invokevirtual 257, 3) := by decide +kernel
theorem dX12_costNow_15 : decode cX12_costNow 15 = .ok (.lreturn, 1) := by decide +kernel
def fX12_costNow (s0 : ZS) (a0 : Int) (a1 : Int) : Option (Int × ZS) := zb (zv s0 12 a0 (fX12_lays s0 a0 a1)) (fun v1 s2 => zb (zv s2 12 a0 (fX12_goes s2 a0 a1)) (fun v4 s5 => zb (zv s5 12 a0 (fX12_costAll s5 a0 a1)) (fun v7 s8 => some (v7, s8))))
set_option maxHeartbeats 4000000 in
set_option maxRecDepth 100000 in
theorem mX12_costNow (E : ZE) (hE : zOkE E) (l : Launch) (s0 : ZS) (a0 : Int) (a1 : Int) : Ct E l yX12_costNow cX12_costNow 2 (some .long) 10 [(2, a0), (0, a1)] 2 s0 (fX12_costNow s0 a0 a1) := by
  refine Ct.of (by decide) hE (Nat.le_of_ble_eq_true rfl) ?_
  intro X G hX hR hN hXE hXl hxn hk _
  subst hXE
  subst hXl
  have hX : G → ZOk X cX12_costNow RX12 10 := hX
  clear hN
  show Zj X G 0 [(0, (2, a0)), (1, (0, a1))] [] s0 _
  unfold fX12_costNow
  refine z_aload_n (pc := 0) hX 0 dX12_costNow_0 rfl rfl ?_
  refine z_iload_n (pc := 1) hX 1 dX12_costNow_1 rfl rfl ?_
  refine z_callV (n := 1) (st := []) (pc := 2) hX zc12 rfl (fun _ => (mX12_lays _ hE _ _ _ _)) ⟨wd1284, wd67, wd1287, ⟨by decide, by decide, by decide⟩, by decide⟩ rfl wd1286 wd44 rfl rfl (by decide) (Nat.le_of_ble_eq_true rfl) dX12_costNow_2 (fun v1 s2 r3 => ?_)
  show Zj X G 5 [(0, (2, a0)), (1, (0, a1))] [] _ _
  refine z_aload_n (pc := 5) hX 0 dX12_costNow_5 rfl rfl ?_
  refine z_iload_n (pc := 6) hX 1 dX12_costNow_6 rfl rfl ?_
  refine z_callV (n := 1) (st := []) (pc := 7) hX zc12 rfl (fun _ => (mX12_goes _ hE _ _ _ _)) ⟨wd1288, wd67, wd1291, ⟨by decide, by decide, by decide⟩, by decide⟩ rfl wd1290 wd45 rfl rfl (by decide) (Nat.le_of_ble_eq_true rfl) dX12_costNow_7 (fun v4 s5 r6 => ?_)
  show Zj X G 10 [(0, (2, a0)), (1, (0, a1))] [] _ _
  refine z_aload_n (pc := 10) hX 0 dX12_costNow_10 rfl rfl ?_
  refine z_iload_n (pc := 11) hX 1 dX12_costNow_11 rfl rfl ?_
  refine z_callV (n := 1) (st := []) (pc := 12) hX zc12 rfl (fun _ => (mX12_costAll _ hE _ _ _ _)) ⟨wd1343, wd67, wd1346, ⟨by decide, by decide, by decide⟩, by decide⟩ rfl wd1345 wd54 rfl rfl (by decide) (Nat.le_of_ble_eq_true rfl) dX12_costNow_12 (fun v7 s8 r9 => ?_)
  show Zj X G 15 [(0, (2, a0)), (1, (0, a1))] [(1, v7)] _ _
  exact z_lret (pc := 15) hX hR hk dX12_costNow_15

theorem dX12_sum_0 : decode cX12_sum 0 = .ok (.aload_n 0, 1) := by decide +kernel
theorem dX12_sum_1 : decode cX12_sum 1 = .ok (.iload_n 1, 1) := by decide +kernel
theorem dX12_sum_2 : decode cX12_sum 2 = .ok (.invokevirtual 217, 3) := by decide +kernel
theorem dX12_sum_5 : decode cX12_sum 5 = .ok (.ifCond .eq 12, 3) := by decide +kernel
theorem dX12_sum_8 : decode cX12_sum 8 = .ok (.iload_n 2, 1) := by decide +kernel
theorem dX12_sum_9 : decode cX12_sum 9 = .ok (.iconst 0, 1) := by decide +kernel
theorem dX12_sum_10 : decode cX12_sum 10 = .ok (.iconst 3, 1) := by decide +kernel
theorem dX12_sum_11 : decode cX12_sum 11 = .ok (.invokestatic 127, 3) := by decide +kernel
theorem dX12_sum_14 : decode cX12_sum 14 = .ok (.ifCond .ne 7, 3) := by decide +kernel
theorem dX12_sum_17 : decode cX12_sum 17 = .ok (.ldc2_w 264, 3) := by decide +kernel
theorem dX12_sum_20 : decode cX12_sum 20 = .ok (.lreturn, 1) := by decide +kernel
theorem dX12_sum_21 : decode cX12_sum 21 = .ok (.aload_n 0, 1) := by decide +kernel
theorem dX12_sum_22 : decode cX12_sum 22 = .ok (.iload_n 1, 1) := by decide +kernel
theorem dX12_sum_23 : decode cX12_sum 23 = .ok (.invokevirtual 266, 3) := by decide +kernel
theorem dX12_sum_26 : decode cX12_sum 26 = .ok (.lstore_n 3, 1) := by decide +kernel
theorem dX12_sum_27 : decode cX12_sum 27 = .ok (.lconst 0, 1) := by decide +kernel
theorem dX12_sum_28 : decode cX12_sum 28 = .ok (.lstore 5, 2) := by decide +kernel
theorem dX12_sum_30 : decode cX12_sum 30 = .ok (.iconst 0, 1) := by decide +kernel
theorem dX12_sum_31 : decode cX12_sum 31 = .ok (.istore 7, 2) := by decide +kernel
theorem dX12_sum_33 : decode cX12_sum 33 = .ok (.iload 7, 2) := by decide +kernel
theorem dX12_sum_35 : decode cX12_sum 35 = .ok (.aload_n 0, 1) := by decide +kernel
theorem dX12_sum_36 : decode cX12_sum 36 = .ok (.getfield 31, 3) := by decide +kernel
theorem dX12_sum_39 : decode cX12_sum 39 = .ok (.iload_n 1, 1) := by decide +kernel
theorem dX12_sum_40 : decode cX12_sum 40 = .ok (.iaload, 1) := by decide +kernel
theorem dX12_sum_41 : decode cX12_sum 41 = .ok (.if_icmp .ge 77, 3) := by decide +kernel
theorem dX12_sum_44 : decode cX12_sum 44 = .ok (.lload 5, 2) := by decide +kernel
theorem dX12_sum_46 : decode cX12_sum 46 = .ok (.iload_n 2, 1) := by decide +kernel
theorem dX12_sum_47 : decode cX12_sum 47 = .ok (.iconst 1, 1) := by decide +kernel
theorem dX12_sum_48 : decode cX12_sum 48 = .ok (.if_icmp .ne 14, 3) := by decide +kernel
theorem dX12_sum_51 : decode cX12_sum 51 = .ok (.aload_n 0, 1) := by decide +kernel
theorem dX12_sum_52 : decode cX12_sum 52 = .ok (.iload_n 1, 1) := by decide +kernel
theorem dX12_sum_53 : decode cX12_sum 53 = .ok (.iload 7, 2) := by decide +kernel
theorem dX12_sum_55 : decode cX12_sum 55 = .ok (.invokevirtual 261, 3) := by decide +kernel
theorem dX12_sum_58 : decode cX12_sum 58 = .ok (.i2l, 1) := by decide +kernel
theorem dX12_sum_59 : decode cX12_sum 59 = .ok (.goto 50, 3) := by decide +kernel
theorem dX12_sum_62 : decode cX12_sum 62 = .ok (.iload_n 2, 1) := by decide +kernel
theorem dX12_sum_63 : decode cX12_sum 63 = .ok (.iconst 2, 1) := by decide +kernel
theorem dX12_sum_64 : decode cX12_sum 64 = .ok (.if_icmp .ne 14, 3) := by decide +kernel
theorem dX12_sum_67 : decode cX12_sum 67 = .ok (.aload_n 0, 1) := by decide +kernel
theorem dX12_sum_68 : decode cX12_sum 68 = .ok (.iload_n 1, 1) := by decide +kernel
theorem dX12_sum_69 : decode cX12_sum 69 = .ok (.iload 7, 2) := by decide +kernel
theorem dX12_sum_71 : decode cX12_sum 71 = .ok (.invokevirtual 236, 3) := by decide +kernel
theorem dX12_sum_74 : decode cX12_sum 74 = .ok (.i2l, 1) := by decide +kernel
theorem dX12_sum_75 : decode cX12_sum 75 = .ok (.goto 34, 3) := by decide +kernel
theorem dX12_sum_78 : decode cX12_sum 78 = .ok (.aload_n 0, 1) := by decide +kernel
theorem dX12_sum_79 : decode cX12_sum 79 = .ok (.getfield 112, 3) := by decide +kernel
theorem dX12_sum_82 : decode cX12_sum 82 = .ok (.iload 7, 2) := by decide +kernel
theorem dX12_sum_84 : decode cX12_sum 84 = .ok (.iaload, 1) := by decide +kernel
theorem dX12_sum_85 : decode cX12_sum 85 = .ok (.iconst (-1), 1) := by decide +kernel
theorem dX12_sum_86 : decode cX12_sum 86 = .ok (.if_icmp .ne 7, 3) := by decide +kernel
theorem dX12_sum_89 : decode cX12_sum 89 = .ok (.lconst 0, 1) := by decide +kernel
theorem dX12_sum_90 : decode cX12_sum 90 = .ok (.goto 19, 3) := by decide +kernel
theorem dX12_sum_93 : decode cX12_sum 93 = .ok (.aload_n 0, 1) := by decide +kernel
theorem dX12_sum_94 : decode cX12_sum 94 = .ok (.getfield 112, 3) := by decide +kernel
theorem dX12_sum_97 : decode cX12_sum 97 = .ok (.iload 7, 2) := by decide +kernel
theorem dX12_sum_99 : decode cX12_sum 99 = .ok (.iaload, 1) := by decide +kernel
theorem dX12_sum_100 : decode cX12_sum 100 = .ok (.aload_n 0, 1) := by decide +kernel
theorem dX12_sum_101 : decode cX12_sum 101 = .ok (.getfield 109, 3) := by decide +kernel
theorem dX12_sum_104 : decode cX12_sum 104 = .ok (.iload 7, 2) := by decide +kernel
theorem dX12_sum_106 : decode cX12_sum 106 = .ok (.iaload, 1) := by decide +kernel
theorem dX12_sum_107 : decode cX12_sum 107 = .ok (.isub, 1) := by decide +kernel
theorem dX12_sum_108 : decode cX12_sum 108 = .ok (.i2l, 1) := by decide +kernel
theorem dX12_sum_109 : decode cX12_sum 109 = .ok (.ladd, 1) := by decide +kernel
theorem dX12_sum_110 : decode cX12_sum 110 = .ok (.lstore 5, 2) := by decide +kernel
theorem dX12_sum_112 : decode cX12_sum 112 = .ok (.iinc 7 1, 3) := by decide +kernel
theorem dX12_sum_115 : decode cX12_sum 115 = .ok (.goto (-82), 3) := by decide +kernel
theorem dX12_sum_118 : decode cX12_sum 118 = .ok (.iload_n 2, 1) := by decide +kernel
theorem dX12_sum_119 : decode cX12_sum 119 = .ok (.ifCond .ne 7, 3) := by decide +kernel
theorem dX12_sum_122 : decode cX12_sum 122 = .ok (.lload_n 3, 1) := by decide +kernel
theorem dX12_sum_123 : decode cX12_sum 123 = .ok (.goto 5, 3) := by decide +kernel
theorem dX12_sum_126 : decode cX12_sum 126 = .ok (.lload 5, 2) := by decide +kernel
theorem dX12_sum_128 : decode cX12_sum 128 = .ok (.lreturn, 1) := by decide +kernel
def lX12_sum_33 (u13 u14 u15 u16 : Int) (K118 : ZS → Int → Option (Int × ZS)) : Nat → ZS → Int → Int → Option (Int × ZS)
  | 0, _, _, _ => none
  | n1 + 1, s12, x17, x18 => (zg s12 12 u13 10).bind (fun v19 => (zal s12 100 v19 u14).bind (fun v20 => if v20 ≤ x18 then (K118 s12 x17) else (zjn (fun (K109 : ZS → Int → Option (Int × ZS)) => if u15 = 1 then (zb (zv s12 12 u13 (fX12_lost s12 u13 u14 x18)) (fun v34 s35 => K109 s35 v34)) else (if u15 = 2 then (zb (zv s12 12 u13 (fX12_paid s12 u13 u14 x18)) (fun v31 s32 => K109 s32 v31)) else ((zg s12 12 u13 42).bind (fun v24 => (zal s12 100 v24 x18).bind (fun v25 => if v25 = (-1) then (K109 s12 0) else ((zg s12 12 u13 42).bind (fun v27 => (zal s12 100 v27 x18).bind (fun v28 => (zg s12 12 u13 41).bind (fun v29 => (zal s12 100 v29 x18).bind (fun v30 => K109 s12 (wrap (v28 - v30)))))))))))) (fun (s37 : ZS) (w38 : Int) => lX12_sum_33 u13 u14 u15 u16 K118 n1 s37 (wrapL (x17 + w38)) (wrap (x18 + 1))))))

def fX12_sum (s0 : ZS) (a0 : Int) (a1 : Int) (a2 : Int) : Option (Int × ZS) := zb (zv s0 12 a0 (fX12_isWay s0 a0 a1)) (fun v1 s2 => if v1 = 0 then (some ((-4611686018427387904), s2)) else (zb (fX12_in s2 a2 0 3) (fun v5 s6 => if v5 = 0 then (some ((-4611686018427387904), s6)) else (zb (zv s6 12 a0 (fX12_costNow s6 a0 a1)) (fun v9 s10 => lX12_sum_33 a0 a1 a2 v9 (fun (s41 : ZS) (x42 : Int) => if a2 = 0 then (some (v9, s41)) else (some (x42, s41))) 1000 s10 0 0)))))
set_option maxHeartbeats 4000000 in
set_option maxRecDepth 100000 in
theorem mX12_sum (E : ZE) (hE : zOkE E) (l : Launch) (s0 : ZS) (a0 : Int) (a1 : Int) (a2 : Int) : Ct E l yX12_sum cX12_sum 8 (some .long) 12 [(2, a0), (0, a1), (0, a2)] 2 s0 (fX12_sum s0 a0 a1 a2) := by
  refine Ct.of (by decide) hE (Nat.le_of_ble_eq_true rfl) ?_
  intro X G hX hR hN hXE hXl hxn hk _
  subst hXE
  subst hXl
  have hX : G → ZOk X cX12_sum RX12 12 := hX
  clear hN
  show Zj X G 0 [(0, (2, a0)), (1, (0, a1)), (2, (0, a2))] [] s0 _
  unfold fX12_sum
  refine z_aload_n (pc := 0) hX 0 dX12_sum_0 rfl rfl ?_
  refine z_iload_n (pc := 1) hX 1 dX12_sum_1 rfl rfl ?_
  refine z_callV (n := 1) (st := []) (pc := 2) hX zc12 rfl (fun _ => (mX12_isWay _ hE _ _ _ _)) ⟨wd1268, wd67, wd1271, ⟨by decide, by decide, by decide⟩, by decide⟩ rfl wd1270 wd42 rfl rfl (by decide) (Nat.le_of_ble_eq_true rfl) dX12_sum_2 (fun v1 s2 r3 => ?_)
  show Zj X G 5 [(0, (2, a0)), (1, (0, a1)), (2, (0, a2))] [(0, v1)] _ _
  refine z_if_eq (pc := 5) hX 17 dX12_sum_5 (by decide) (fun h4 => ?_) (fun h4 => ?_)
  · refine z_ldc2 (n := -4611686018427387904) (pc := 17) hX dX12_sum_17 wd1338 (by decide) ?_
    exact z_lret (pc := 20) hX hR hk dX12_sum_20
  · refine z_iload_n (pc := 8) hX 2 dX12_sum_8 rfl rfl ?_
    refine z_iconst (pc := 9) hX dX12_sum_9 ?_
    refine z_iconst (pc := 10) hX dX12_sum_10 ?_
    refine z_callS (n := 3) (st := []) (pc := 11) hX (mX12_in _ hE _ _ _ _ _) ⟨wd1173, wd67, wd1175, ⟨by decide, by decide, by decide⟩, by decide⟩ wd1174 rfl rfl (by decide) (Nat.le_of_ble_eq_true rfl) dX12_sum_11 (fun v5 s6 r7 => ?_)
    show Zj X G 14 [(0, (2, a0)), (1, (0, a1)), (2, (0, a2))] [(0, v5)] _ _
    refine z_if_ne (pc := 14) hX 21 dX12_sum_14 (by decide) (fun h8 => ?_) (fun h8 => ?_)
    · refine z_aload_n (pc := 21) hX 0 dX12_sum_21 rfl rfl ?_
      refine z_iload_n (pc := 22) hX 1 dX12_sum_22 rfl rfl ?_
      refine z_callV (n := 1) (st := []) (pc := 23) hX zc12 rfl (fun _ => (mX12_costNow _ hE _ _ _ _)) ⟨wd1339, wd67, wd1342, ⟨by decide, by decide, by decide⟩, by decide⟩ rfl wd1341 wd53 rfl rfl (by decide) (Nat.le_of_ble_eq_true rfl) dX12_sum_23 (fun v9 s10 r11 => ?_)
      show Zj X G 26 [(0, (2, a0)), (1, (0, a1)), (2, (0, a2))] [(1, v9)] _ _
      refine z_lstore_n (lv' := [(3, (1, v9)), (0, (2, a0)), (1, (0, a1)), (2, (0, a2))]) (pc := 26) hX dX12_sum_26 rfl (zlt2 hxn rfl) rfl ?_
      refine z_lconst (pc := 27) hX dX12_sum_27 rfl ?_
      refine z_lstore (lv' := [(5, (1, 0)), (3, (1, v9)), (0, (2, a0)), (1, (0, a1)), (2, (0, a2))]) (pc := 28) hX dX12_sum_28 (zlt2 hxn rfl) rfl ?_
      refine z_iconst (pc := 30) hX dX12_sum_30 ?_
      refine z_istore (lv' := [(7, (0, 0)), (5, (1, 0)), (3, (1, v9)), (0, (2, a0)), (1, (0, a1)), (2, (0, a2))]) (pc := 31) hX dX12_sum_31 (zlt hxn rfl) rfl ?_
      have hl33 : ∀ (u13 u14 u15 u16 : Int), ∀ (K118 : ZS → Int → Option (Int × ZS)), (∀ (s39 : ZS) (x40 : Int), Zj X G 118 [(2, (0, u15)), (3, (1, u16)), (5, (1, x40))] [] s39 (K118 s39 x40)) → ∀ (n1 : Nat) (s12 : ZS) (x17 x18 : Int), Zj X G 33 [(0, (2, u13)), (1, (0, u14)), (2, (0, u15)), (3, (1, u16)), (5, (1, x17)), (7, (0, x18))] [] s12 (lX12_sum_33 u13 u14 u15 u16 K118 n1 s12 x17 x18) := by
        intro u13 u14 u15 u16 K118 hK118 n1
        induction n1 with
        | zero => intro _ _ _; exact z_none
        | succ n1 ih1 =>
          intro s12 x17 x18
          rw [lX12_sum_33]
          refine z_iload (pc := 33) hX 5 dX12_sum_33 rfl ?_
          refine z_aload_n (pc := 35) hX 0 dX12_sum_35 rfl rfl ?_
          refine z_get (pc := 36) hX zc12 10 (by decide) wd1027 rfl rfl dX12_sum_36 (fun v19 => ?_)
          refine z_iload_n (pc := 39) hX 1 dX12_sum_39 rfl rfl ?_
          refine z_iald (pc := 40) hX dX12_sum_40 (fun v20 => ?_)
          refine z_icmp_ge (pc := 41) hX 118 dX12_sum_41 (by decide) (fun h21 => ?_) (fun h21 => ?_)
          · refine z_pick (lv' := [(2, (0, u15)), (3, (1, u16)), (5, (1, x17))]) [2, 3, 4] rfl ?_
            exact hK118 _ _
          · refine z_lload (pc := 44) hX 4 dX12_sum_44 rfl ?_
            refine z_iload_n (pc := 46) hX 2 dX12_sum_46 rfl rfl ?_
            refine z_iconst (pc := 47) hX dX12_sum_47 ?_
            refine z_jn (fun K109 eK109 => ?_)
            have hK109 : ∀ (s37 : ZS) (w38 : Int), Zj X G 109 [(0, (2, u13)), (1, (0, u14)), (2, (0, u15)), (3, (1, u16)), (7, (0, x18))] [(1, w38), (1, x17)] s37 (K109 s37 w38) := by
              intro s37 w38
              rw [eK109]
              refine z_ladd (pc := 109) hX dX12_sum_109 ?_
              refine z_lstore (lv' := [(5, (1, (wrapL (x17 + w38)))), (0, (2, u13)), (1, (0, u14)), (2, (0, u15)), (3, (1, u16)), (7, (0, x18))]) (pc := 110) hX dX12_sum_110 (zlt2 hxn rfl) rfl ?_
              refine z_iinc (lv' := [(7, (0, (wrap (x18 + 1)))), (5, (1, (wrapL (x17 + w38)))), (0, (2, u13)), (1, (0, u14)), (2, (0, u15)), (3, (1, u16))]) (pc := 112) hX 5 dX12_sum_112 rfl (zlt hxn rfl) rfl ?_
              refine z_goto (pc := 115) hX 33 dX12_sum_115 (by decide) ?_
              refine z_pick (lv' := [(0, (2, u13)), (1, (0, u14)), (2, (0, u15)), (3, (1, u16)), (5, (1, (wrapL (x17 + w38)))), (7, (0, (wrap (x18 + 1))))]) [2, 3, 4, 5, 1, 0] rfl ?_
              exact ih1 _ _ _
            clear eK109
            refine z_icmp_ne (pc := 48) hX 62 dX12_sum_48 (by decide) (fun h22 => ?_) (fun h22 => ?_)
            · refine z_iload_n (pc := 62) hX 2 dX12_sum_62 rfl rfl ?_
              refine z_iconst (pc := 63) hX dX12_sum_63 ?_
              refine z_icmp_ne (pc := 64) hX 78 dX12_sum_64 (by decide) (fun h23 => ?_) (fun h23 => ?_)
              · refine z_aload_n (pc := 78) hX 0 dX12_sum_78 rfl rfl ?_
                refine z_get (pc := 79) hX zc12 42 (by decide) wd1059 rfl rfl dX12_sum_79 (fun v24 => ?_)
                refine z_iload (pc := 82) hX 5 dX12_sum_82 rfl ?_
                refine z_iald (pc := 84) hX dX12_sum_84 (fun v25 => ?_)
                refine z_iconst (pc := 85) hX dX12_sum_85 ?_
                refine z_icmp_ne (pc := 86) hX 93 dX12_sum_86 (by decide) (fun h26 => ?_) (fun h26 => ?_)
                · refine z_aload_n (pc := 93) hX 0 dX12_sum_93 rfl rfl ?_
                  refine z_get (pc := 94) hX zc12 42 (by decide) wd1059 rfl rfl dX12_sum_94 (fun v27 => ?_)
                  refine z_iload (pc := 97) hX 5 dX12_sum_97 rfl ?_
                  refine z_iald (pc := 99) hX dX12_sum_99 (fun v28 => ?_)
                  refine z_aload_n (pc := 100) hX 0 dX12_sum_100 rfl rfl ?_
                  refine z_get (pc := 101) hX zc12 41 (by decide) wd1058 rfl rfl dX12_sum_101 (fun v29 => ?_)
                  refine z_iload (pc := 104) hX 5 dX12_sum_104 rfl ?_
                  refine z_iald (pc := 106) hX dX12_sum_106 (fun v30 => ?_)
                  refine z_isub (pc := 107) hX dX12_sum_107 ?_
                  refine z_i2lR (pc := 108) hX dX12_sum_108 ?_
                  refine z_pick (lv' := [(0, (2, u13)), (1, (0, u14)), (2, (0, u15)), (3, (1, u16)), (7, (0, x18))]) [0, 1, 2, 3, 5] rfl ?_
                  exact hK109 _ _
                · refine z_lconst (pc := 89) hX dX12_sum_89 rfl ?_
                  refine z_goto (pc := 90) hX 109 dX12_sum_90 (by decide) ?_
                  refine z_pick (lv' := [(0, (2, u13)), (1, (0, u14)), (2, (0, u15)), (3, (1, u16)), (7, (0, x18))]) [0, 1, 2, 3, 5] rfl ?_
                  exact hK109 _ _
              · refine z_aload_n (pc := 67) hX 0 dX12_sum_67 rfl rfl ?_
                refine z_iload_n (pc := 68) hX 1 dX12_sum_68 rfl rfl ?_
                refine z_iload (pc := 69) hX 5 dX12_sum_69 rfl ?_
                refine z_callV (n := 2) (st := [(1, x17)]) (pc := 71) hX zc12 rfl (fun _ => (mX12_paid _ hE _ _ _ _ _)) ⟨wd1308, wd67, wd1311, ⟨by decide, by decide, by decide⟩, by decide⟩ rfl wd1310 wd50 rfl rfl (by decide) (Nat.le_of_ble_eq_true rfl) dX12_sum_71 (fun v31 s32 r33 => ?_)
                show Zj X G 74 [(0, (2, u13)), (1, (0, u14)), (2, (0, u15)), (3, (1, u16)), (5, (1, x17)), (7, (0, x18))] [(0, v31), (1, x17)] _ _
                refine z_i2lR (pc := 74) hX dX12_sum_74 ?_
                refine z_goto (pc := 75) hX 109 dX12_sum_75 (by decide) ?_
                refine z_pick (lv' := [(0, (2, u13)), (1, (0, u14)), (2, (0, u15)), (3, (1, u16)), (7, (0, x18))]) [0, 1, 2, 3, 5] rfl ?_
                exact hK109 _ _
            · refine z_aload_n (pc := 51) hX 0 dX12_sum_51 rfl rfl ?_
              refine z_iload_n (pc := 52) hX 1 dX12_sum_52 rfl rfl ?_
              refine z_iload (pc := 53) hX 5 dX12_sum_53 rfl ?_
              refine z_callV (n := 2) (st := [(1, x17)]) (pc := 55) hX zc12 rfl (fun _ => (mX12_lost _ hE _ _ _ _ _)) ⟨wd1322, wd67, wd1325, ⟨by decide, by decide, by decide⟩, by decide⟩ rfl wd1324 wd52 rfl rfl (by decide) (Nat.le_of_ble_eq_true rfl) dX12_sum_55 (fun v34 s35 r36 => ?_)
              show Zj X G 58 [(0, (2, u13)), (1, (0, u14)), (2, (0, u15)), (3, (1, u16)), (5, (1, x17)), (7, (0, x18))] [(0, v34), (1, x17)] _ _
              refine z_i2lR (pc := 58) hX dX12_sum_58 ?_
              refine z_goto (pc := 59) hX 109 dX12_sum_59 (by decide) ?_
              refine z_pick (lv' := [(0, (2, u13)), (1, (0, u14)), (2, (0, u15)), (3, (1, u16)), (7, (0, x18))]) [0, 1, 2, 3, 5] rfl ?_
              exact hK109 _ _
      refine z_pick (lv' := [(0, (2, a0)), (1, (0, a1)), (2, (0, a2)), (3, (1, v9)), (5, (1, 0)), (7, (0, 0))]) [3, 4, 5, 2, 1, 0] rfl ?_
      refine hl33 _ _ _ _ _ (fun s41 x42 => ?_) 1000 _ _ _
      refine z_iload_n (pc := 118) hX 0 dX12_sum_118 rfl rfl ?_
      refine z_if_ne (pc := 119) hX 126 dX12_sum_119 (by decide) (fun h43 => ?_) (fun h43 => ?_)
      · refine z_lload (pc := 126) hX 2 dX12_sum_126 rfl ?_
        exact z_lret (pc := 128) hX hR hk dX12_sum_128
      · refine z_lload_n (pc := 122) hX 1 dX12_sum_122 rfl rfl ?_
        refine z_goto (pc := 123) hX 128 dX12_sum_123 (by decide) ?_
        exact z_lret (pc := 128) hX hR hk dX12_sum_128
    · refine z_ldc2 (n := -4611686018427387904) (pc := 17) hX dX12_sum_17 wd1338 (by decide) ?_
      exact z_lret (pc := 20) hX hR hk dX12_sum_20
