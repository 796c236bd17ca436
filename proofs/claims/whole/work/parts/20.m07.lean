theorem dX4_wordAt_0 : decode cX4_wordAt 0 = .ok (.iload_n 1, 1) := by decide +kernel
theorem dX4_wordAt_1 : decode cX4_wordAt 1 = .ok (.istore_n 2, 1) := by decide +kernel
theorem dX4_wordAt_2 : decode cX4_wordAt 2 = .ok (.iload_n 2, 1) := by decide +kernel
theorem dX4_wordAt_3 : decode cX4_wordAt 3 = .ok (.aload_n 0, 1) := by decide +kernel
theorem dX4_wordAt_4 : decode cX4_wordAt 4 = .ok (.getfield 17, 3) := by decide +kernel
theorem dX4_wordAt_7 : decode cX4_wordAt 7 = .ok (.if_icmp .ge 22, 3) := by decide +kernel
theorem dX4_wordAt_10 : decode cX4_wordAt 10 = .ok (.aload_n 0, 1) := by decide +kernel
theorem dX4_wordAt_11 : decode cX4_wordAt 11 = .ok (.getfield 13, 3) := by decide +kernel
theorem dX4_wordAt_14 : decode cX4_wordAt 14 = .ok (.iload_n 2, 1) := by decide +kernel
theorem dX4_wordAt_15 : decode cX4_wordAt 15 = .ok (.iaload, 1) := by decide +kernel
theorem dX4_wordAt_16 : decode cX4_wordAt 16 = .ok (.invokestatic 96, 3) := by decide +kernel
theorem dX4_wordAt_19 : decode cX4_wordAt 19 = .ok (.iconst 1, 1) := by decide +kernel
theorem dX4_wordAt_20 : decode cX4_wordAt 20 = .ok (.if_icmp .ne 9, 3) := by decide +kernel
theorem dX4_wordAt_23 : decode cX4_wordAt 23 = .ok (.iinc 2 1, 3) := by decide +kernel
theorem dX4_wordAt_26 : decode cX4_wordAt 26 = .ok (.goto (-24), 3) := by decide +kernel
theorem dX4_wordAt_29 : decode cX4_wordAt 29 = .ok (.iconst 0, 1) := by decide +kernel
theorem dX4_wordAt_30 : decode cX4_wordAt 30 = .ok (.istore_n 3, 1) := by decide +kernel
theorem dX4_wordAt_31 : decode cX4_wordAt 31 = .ok (.iconst 0, 1) := by decide +kernel
theorem dX4_wordAt_32 : decode cX4_wordAt 32 = .ok (.istore 4, 2) := by decide +kernel
theorem dX4_wordAt_34 : decode cX4_wordAt 34 = .ok (.iconst 0, 1) := by decide +kernel
theorem dX4_wordAt_35 : decode cX4_wordAt 35 = .ok (.istore 5, 2) := by decide +kernel
theorem dX4_wordAt_37 : decode cX4_wordAt 37 = .ok (.iload 5, 2) := by decide +kernel
theorem dX4_wordAt_39 : decode cX4_wordAt 39 = .ok (.ldc 116, 2) := by decide +kernel
theorem dX4_wordAt_41 : decode cX4_wordAt 41 = .ok (.invokevirtual 118, 3) := by decide +kernel
theorem dX4_wordAt_44 : decode cX4_wordAt 44 = .ok (.if_icmp .gt 69, 3) := by decide +kernel
theorem dX4_wordAt_47 : decode cX4_wordAt 47 = .ok (.iload 5, 2) := by decide +kernel
theorem dX4_wordAt_49 : decode cX4_wordAt 49 = .ok (.ldc 116, 2) := by decide +kernel
theorem dX4_wordAt_51 : decode cX4_wordAt 51 = .ok (.invokevirtual 118, 3) := by decide +kernel
theorem dX4_wordAt_54 : decode cX4_wordAt 54 = .ok (.if_icmp .eq 15, 3) := by decide +kernel
theorem dX4_wordAt_57 : decode cX4_wordAt 57 = .ok (.ldc 116, 2) := by decide +kernel
theorem dX4_wordAt_59 : decode cX4_wordAt 59 = .ok (.iload 5, 2) := by decide +kernel
theorem dX4_wordAt_61 : decode cX4_wordAt 61 = .ok (.invokevirtual 122, 3) := by decide +kernel
theorem dX4_wordAt_64 : decode cX4_wordAt 64 = .ok (.bipush 32, 2) := by decide +kernel
theorem dX4_wordAt_66 : decode cX4_wordAt 66 = .ok (.if_icmp .ne 41, 3) := by decide +kernel
theorem dX4_wordAt_69 : decode cX4_wordAt 69 = .ok (.iload 5, 2) := by decide +kernel
theorem dX4_wordAt_71 : decode cX4_wordAt 71 = .ok (.iload 4, 2) := by decide +kernel
theorem dX4_wordAt_73 : decode cX4_wordAt 73 = .ok (.isub, 1) := by decide +kernel
theorem dX4_wordAt_74 : decode cX4_wordAt 74 = .ok (.iload_n 2, 1) := by decide +kernel
theorem dX4_wordAt_75 : decode cX4_wordAt 75 = .ok (.iload_n 1, 1) := by decide +kernel
theorem dX4_wordAt_76 : decode cX4_wordAt 76 = .ok (.isub, 1) := by decide +kernel
theorem dX4_wordAt_77 : decode cX4_wordAt 77 = .ok (.if_icmp .ne 21, 3) := by decide +kernel
theorem dX4_wordAt_80 : decode cX4_wordAt 80 = .ok (.aload_n 0, 1) := by decide +kernel
theorem dX4_wordAt_81 : decode cX4_wordAt 81 = .ok (.iload 4, 2) := by decide +kernel
theorem dX4_wordAt_83 : decode cX4_wordAt 83 = .ok (.iload 5, 2) := by decide +kernel
theorem dX4_wordAt_85 : decode cX4_wordAt 85 = .ok (.iload_n 1, 1) := by decide +kernel
theorem dX4_wordAt_86 : decode cX4_wordAt 86 = .ok (.invokevirtual 126, 3) := by decide +kernel
theorem dX4_wordAt_89 : decode cX4_wordAt 89 = .ok (.ifCond .eq 9, 3) := by decide +kernel
theorem dX4_wordAt_92 : decode cX4_wordAt 92 = .ok (.sipush 10000, 3) := by decide +kernel
theorem dX4_wordAt_95 : decode cX4_wordAt 95 = .ok (.iload_n 3, 1) := by decide +kernel
theorem dX4_wordAt_96 : decode cX4_wordAt 96 = .ok (.iadd, 1) := by decide +kernel
theorem dX4_wordAt_97 : decode cX4_wordAt 97 = .ok (.ireturn, 1) := by decide +kernel
theorem dX4_wordAt_98 : decode cX4_wordAt 98 = .ok (.iinc 3 1, 3) := by decide +kernel
theorem dX4_wordAt_101 : decode cX4_wordAt 101 = .ok (.iload 5, 2) := by decide +kernel
theorem dX4_wordAt_103 : decode cX4_wordAt 103 = .ok (.iconst 1, 1) := by decide +kernel
theorem dX4_wordAt_104 : decode cX4_wordAt 104 = .ok (.iadd, 1) := by decide +kernel
theorem dX4_wordAt_105 : decode cX4_wordAt 105 = .ok (.istore 4, 2) := by decide +kernel
theorem dX4_wordAt_107 : decode cX4_wordAt 107 = .ok (.iinc 5 1, 3) := by decide +kernel
theorem dX4_wordAt_110 : decode cX4_wordAt 110 = .ok (.goto (-73), 3) := by decide +kernel
theorem dX4_wordAt_113 : decode cX4_wordAt 113 = .ok (.sipush 30001, 3) := by decide +kernel
theorem dX4_wordAt_116 : decode cX4_wordAt 116 = .ok (.ireturn, 1) := by decide +kernel
def lX4_wordAt_2 (u2 u3 : Int) (K29 : ZS → Int → Option (Int × ZS)) : Nat → ZS → Int → Option (Int × ZS)
  | 0, _, _ => none
  | n1 + 1, s1, x4 => (zg s1 4 u2 1).bind (fun v5 => if v5 ≤ x4 then (K29 s1 x4) else ((zg s1 4 u2 0).bind (fun v7 => (zal s1 100 v7 x4).bind (fun v8 => zb (fX4_lookOf s1 v8) (fun v9 s10 => if v9 = 1 then (lX4_wordAt_2 u2 u3 K29 n1 s10 (wrap (x4 + 1))) else (K29 s10 x4))))))

def lX4_wordAt_37 (u18 u19 u20 : Int)  : Nat → ZS → Int → Int → Int → Option (Int × ZS)
  | 0, _, _, _, _ => none
  | n1 + 1, s17, x21, x22, x23 => zb (fJ0_length_8abf5 s17 0) (fun v24 s25 => if v24 < x23 then (some (30001, s25)) else (zb (fJ0_length_8abf5 s25 0) (fun v28 s29 => zjn (fun (K107 : ZS → Int → Int → Option (Int × ZS)) => zjn (fun (K69 : ZS → Option (Int × ZS)) => if x23 = v28 then (K69 s29) else (zb (fJ0_charAt_5068e s29 0 x23) (fun v32 s33 => if v32 = 32 then (K69 s33) else (K107 s33 x21 x22)))) (fun (s36 : ZS) => zjn (fun (K98 : ZS → Option (Int × ZS)) => if (wrap (x23 - x22)) = (wrap (u20 - u19)) then (zb (zv s36 4 u18 (fX4_isWord s36 u18 x22 x23 u19)) (fun v38 s39 => if v38 = 0 then (K98 s39) else (some ((wrap (10000 + x21)), s39)))) else (K98 s36)) (fun (s42 : ZS) => K107 s42 (wrap (x21 + 1)) (wrap (x23 + 1))))) (fun (s43 : ZS) (x44 x45 : Int) => lX4_wordAt_37 u18 u19 u20 n1 s43 x44 x45 (wrap (x23 + 1))))))

def fX4_wordAt (s0 : ZS) (a0 : Int) (a1 : Int) : Option (Int × ZS) := lX4_wordAt_2 a0 a1 (fun (s15 : ZS) (x16 : Int) => lX4_wordAt_37 a0 a1 x16 1000 s15 0 0 0) 1000 s0 a1
set_option maxHeartbeats 4000000 in
set_option maxRecDepth 100000 in
theorem mX4_wordAt (E : ZE) (hE : zOkE E) (l : Launch) (s0 : ZS) (a0 : Int) (a1 : Int) : Ct E l yX4_wordAt cX4_wordAt 6 (some .int) 12 [(2, a0), (0, a1)] 1 s0 (fX4_wordAt s0 a0 a1) := by
  refine Ct.of (by decide) hE (Nat.le_of_ble_eq_true rfl) ?_
  intro X G hX hR hN hXE hXl hxn hk _
  subst hXE
  subst hXl
  have hX : G → ZOk X cX4_wordAt RX4 12 := hX
  clear hN
  show Zj X G 0 [(0, (2, a0)), (1, (0, a1))] [] s0 _
  unfold fX4_wordAt
  refine z_iload_n (pc := 0) hX 1 dX4_wordAt_0 rfl rfl ?_
  refine z_istore_n (lv' := [(2, (0, a1)), (0, (2, a0)), (1, (0, a1))]) (pc := 1) hX dX4_wordAt_1 rfl (zlt hxn rfl) rfl ?_
  have hl2 : ∀ (u2 u3 : Int), ∀ (K29 : ZS → Int → Option (Int × ZS)), (∀ (s13 : ZS) (x14 : Int), Zj X G 29 [(0, (2, u2)), (1, (0, u3)), (2, (0, x14))] [] s13 (K29 s13 x14)) → ∀ (n1 : Nat) (s1 : ZS) (x4 : Int), Zj X G 2 [(0, (2, u2)), (1, (0, u3)), (2, (0, x4))] [] s1 (lX4_wordAt_2 u2 u3 K29 n1 s1 x4) := by
    intro u2 u3 K29 hK29 n1
    induction n1 with
    | zero => intro _ _; exact z_none
    | succ n1 ih1 =>
      intro s1 x4
      rw [lX4_wordAt_2]
      refine z_iload_n (pc := 2) hX 2 dX4_wordAt_2 rfl rfl ?_
      refine z_aload_n (pc := 3) hX 0 dX4_wordAt_3 rfl rfl ?_
      refine z_get (pc := 4) hX zc4 1 (by decide) wd199 rfl rfl dX4_wordAt_4 (fun v5 => ?_)
      refine z_icmp_ge (pc := 7) hX 29 dX4_wordAt_7 (by decide) (fun h6 => ?_) (fun h6 => ?_)
      · exact hK29 _ _
      · refine z_aload_n (pc := 10) hX 0 dX4_wordAt_10 rfl rfl ?_
        refine z_get (pc := 11) hX zc4 0 (by decide) wd198 rfl rfl dX4_wordAt_11 (fun v7 => ?_)
        refine z_iload_n (pc := 14) hX 2 dX4_wordAt_14 rfl rfl ?_
        refine z_iald (pc := 15) hX dX4_wordAt_15 (fun v8 => ?_)
        refine z_callS (n := 1) (st := []) (pc := 16) hX (mX4_lookOf _ hE _ _ _) ⟨wd383, wd64, wd385, ⟨by decide, by decide, by decide⟩, by decide⟩ wd384 rfl rfl (by decide) (Nat.le_of_ble_eq_true rfl) dX4_wordAt_16 (fun v9 s10 r11 => ?_)
        show Zj X G 19 [(0, (2, u2)), (1, (0, u3)), (2, (0, x4))] [(0, v9)] _ _
        refine z_iconst (pc := 19) hX dX4_wordAt_19 ?_
        refine z_icmp_ne (pc := 20) hX 29 dX4_wordAt_20 (by decide) (fun h12 => ?_) (fun h12 => ?_)
        · exact hK29 _ _
        · refine z_iinc (lv' := [(2, (0, (wrap (x4 + 1)))), (0, (2, u2)), (1, (0, u3))]) (pc := 23) hX 2 dX4_wordAt_23 rfl (zlt hxn rfl) rfl ?_
          refine z_goto (pc := 26) hX 2 dX4_wordAt_26 (by decide) ?_
          refine z_pick (lv' := [(0, (2, u2)), (1, (0, u3)), (2, (0, (wrap (x4 + 1))))]) [1, 2, 0] rfl ?_
          exact ih1 _ _
  refine z_pick (lv' := [(0, (2, a0)), (1, (0, a1)), (2, (0, a1))]) [1, 2, 0] rfl ?_
  refine hl2 _ _ _ (fun s15 x16 => ?_) 1000 _ _
  refine z_iconst (pc := 29) hX dX4_wordAt_29 ?_
  refine z_istore_n (lv' := [(3, (0, 0)), (0, (2, a0)), (1, (0, a1)), (2, (0, x16))]) (pc := 30) hX dX4_wordAt_30 rfl (zlt hxn rfl) rfl ?_
  refine z_iconst (pc := 31) hX dX4_wordAt_31 ?_
  refine z_istore (lv' := [(4, (0, 0)), (3, (0, 0)), (0, (2, a0)), (1, (0, a1)), (2, (0, x16))]) (pc := 32) hX dX4_wordAt_32 (zlt hxn rfl) rfl ?_
  refine z_iconst (pc := 34) hX dX4_wordAt_34 ?_
  refine z_istore (lv' := [(5, (0, 0)), (4, (0, 0)), (3, (0, 0)), (0, (2, a0)), (1, (0, a1)), (2, (0, x16))]) (pc := 35) hX dX4_wordAt_35 (zlt hxn rfl) rfl ?_
  have hl37 : ∀ (u18 u19 u20 : Int), ∀ (n1 : Nat) (s17 : ZS) (x21 x22 x23 : Int), Zj X G 37 [(0, (2, u18)), (1, (0, u19)), (2, (0, u20)), (3, (0, x21)), (4, (0, x22)), (5, (0, x23))] [] s17 (lX4_wordAt_37 u18 u19 u20 n1 s17 x21 x22 x23) := by
    intro u18 u19 u20 n1
    induction n1 with
    | zero => intro _ _ _ _; exact z_none
    | succ n1 ih1 =>
      intro s17 x21 x22 x23
      rw [lX4_wordAt_37]
      refine z_iload (pc := 37) hX 5 dX4_wordAt_37 rfl ?_
      refine z_ldcS (pc := 39) hX 0 (fun g => (zNe (hX := hX g)).2.2.2.2.1.1) dX4_wordAt_39 ?_
      refine z_callV3 (n := 0) (st := [(0, x23)]) (pc := 41) hX (by decide) rfl (mJ0_length_8abf5 _ hE _ _ _ (by decide)) ⟨wd391, wd68, wd394, ⟨by decide, by decide, by decide⟩, by decide⟩ rfl wd392 wd393 rfl rfl (by decide) (Nat.le_of_ble_eq_true rfl) dX4_wordAt_41 (fun v24 s25 r26 => ?_)
      show Zj X G 44 [(0, (2, u18)), (1, (0, u19)), (2, (0, u20)), (3, (0, x21)), (4, (0, x22)), (5, (0, x23))] [(0, v24), (0, x23)] _ _
      refine z_icmp_gt (pc := 44) hX 113 dX4_wordAt_44 (by decide) (fun h27 => ?_) (fun h27 => ?_)
      · refine z_sipush (pc := 113) hX dX4_wordAt_113 ?_
        exact z_iret (pc := 116) hX hR hk dX4_wordAt_116
      · refine z_iload (pc := 47) hX 5 dX4_wordAt_47 rfl ?_
        refine z_ldcS (pc := 49) hX 0 (fun g => (zNe (hX := hX g)).2.2.2.2.1.1) dX4_wordAt_49 ?_
        refine z_callV3 (n := 0) (st := [(0, x23)]) (pc := 51) hX (by decide) rfl (mJ0_length_8abf5 _ hE _ _ _ (by decide)) ⟨wd391, wd68, wd394, ⟨by decide, by decide, by decide⟩, by decide⟩ rfl wd392 wd393 rfl rfl (by decide) (Nat.le_of_ble_eq_true rfl) dX4_wordAt_51 (fun v28 s29 r30 => ?_)
        show Zj X G 54 [(0, (2, u18)), (1, (0, u19)), (2, (0, u20)), (3, (0, x21)), (4, (0, x22)), (5, (0, x23))] [(0, v28), (0, x23)] _ _
        refine z_jn (fun K107 eK107 => ?_)
        have hK107 : ∀ (s43 : ZS) (x44 x45 : Int), Zj X G 107 [(0, (2, u18)), (1, (0, u19)), (2, (0, u20)), (3, (0, x44)), (4, (0, x45)), (5, (0, x23))] [] s43 (K107 s43 x44 x45) := by
          intro s43 x44 x45
          rw [eK107]
          refine z_iinc (lv' := [(5, (0, (wrap (x23 + 1)))), (0, (2, u18)), (1, (0, u19)), (2, (0, u20)), (3, (0, x44)), (4, (0, x45))]) (pc := 107) hX 5 dX4_wordAt_107 rfl (zlt hxn rfl) rfl ?_
          refine z_goto (pc := 110) hX 37 dX4_wordAt_110 (by decide) ?_
          refine z_pick (lv' := [(0, (2, u18)), (1, (0, u19)), (2, (0, u20)), (3, (0, x44)), (4, (0, x45)), (5, (0, (wrap (x23 + 1))))]) [1, 2, 3, 4, 5, 0] rfl ?_
          exact ih1 _ _ _ _
        clear eK107
        refine z_jn (fun K69 eK69 => ?_)
        have hK69 : ∀ (s36 : ZS), Zj X G 69 [(0, (2, u18)), (1, (0, u19)), (2, (0, u20)), (3, (0, x21)), (4, (0, x22)), (5, (0, x23))] [] s36 (K69 s36) := by
          intro s36
          rw [eK69]
          refine z_iload (pc := 69) hX 5 dX4_wordAt_69 rfl ?_
          refine z_iload (pc := 71) hX 4 dX4_wordAt_71 rfl ?_
          refine z_isub (pc := 73) hX dX4_wordAt_73 ?_
          refine z_iload_n (pc := 74) hX 2 dX4_wordAt_74 rfl rfl ?_
          refine z_iload_n (pc := 75) hX 1 dX4_wordAt_75 rfl rfl ?_
          refine z_isub (pc := 76) hX dX4_wordAt_76 ?_
          refine z_jn (fun K98 eK98 => ?_)
          have hK98 : ∀ (s42 : ZS), Zj X G 98 [(0, (2, u18)), (1, (0, u19)), (2, (0, u20)), (3, (0, x21)), (5, (0, x23))] [] s42 (K98 s42) := by
            intro s42
            rw [eK98]
            refine z_iinc (lv' := [(3, (0, (wrap (x21 + 1)))), (0, (2, u18)), (1, (0, u19)), (2, (0, u20)), (5, (0, x23))]) (pc := 98) hX 3 dX4_wordAt_98 rfl (zlt hxn rfl) rfl ?_
            refine z_iload (pc := 101) hX 4 dX4_wordAt_101 rfl ?_
            refine z_iconst (pc := 103) hX dX4_wordAt_103 ?_
            refine z_iadd (pc := 104) hX dX4_wordAt_104 ?_
            refine z_istore (lv' := [(4, (0, (wrap (x23 + 1)))), (3, (0, (wrap (x21 + 1)))), (0, (2, u18)), (1, (0, u19)), (2, (0, u20)), (5, (0, x23))]) (pc := 105) hX dX4_wordAt_105 (zlt hxn rfl) rfl ?_
            refine z_pick (lv' := [(0, (2, u18)), (1, (0, u19)), (2, (0, u20)), (3, (0, (wrap (x21 + 1)))), (4, (0, (wrap (x23 + 1)))), (5, (0, x23))]) [2, 3, 4, 1, 0, 5] rfl ?_
            exact hK107 _ _ _
          clear eK98
          refine z_icmp_ne (pc := 77) hX 98 dX4_wordAt_77 (by decide) (fun h37 => ?_) (fun h37 => ?_)
          · refine z_pick (lv' := [(0, (2, u18)), (1, (0, u19)), (2, (0, u20)), (3, (0, x21)), (5, (0, x23))]) [0, 1, 2, 3, 5] rfl ?_
            exact hK98 _
          · refine z_aload_n (pc := 80) hX 0 dX4_wordAt_80 rfl rfl ?_
            refine z_iload (pc := 81) hX 4 dX4_wordAt_81 rfl ?_
            refine z_iload (pc := 83) hX 5 dX4_wordAt_83 rfl ?_
            refine z_iload_n (pc := 85) hX 1 dX4_wordAt_85 rfl rfl ?_
            refine z_callV (n := 3) (st := []) (pc := 86) hX zc4 rfl (fun _ => (mX4_isWord _ hE _ _ _ _ _ _)) ⟨wd439, wd64, wd442, ⟨by decide, by decide, by decide⟩, by decide⟩ rfl wd441 wd3 rfl rfl (by decide) (Nat.le_of_ble_eq_true rfl) dX4_wordAt_86 (fun v38 s39 r40 => ?_)
            show Zj X G 89 [(0, (2, u18)), (1, (0, u19)), (2, (0, u20)), (3, (0, x21)), (4, (0, x22)), (5, (0, x23))] [(0, v38)] _ _
            refine z_if_eq (pc := 89) hX 98 dX4_wordAt_89 (by decide) (fun h41 => ?_) (fun h41 => ?_)
            · refine z_pick (lv' := [(0, (2, u18)), (1, (0, u19)), (2, (0, u20)), (3, (0, x21)), (5, (0, x23))]) [0, 1, 2, 3, 5] rfl ?_
              exact hK98 _
            · refine z_sipush (pc := 92) hX dX4_wordAt_92 ?_
              refine z_iload_n (pc := 95) hX 3 dX4_wordAt_95 rfl rfl ?_
              refine z_iadd (pc := 96) hX dX4_wordAt_96 ?_
              exact z_iret (pc := 97) hX hR hk dX4_wordAt_97
        clear eK69
        refine z_icmp_eq (pc := 54) hX 69 dX4_wordAt_54 (by decide) (fun h31 => ?_) (fun h31 => ?_)
        · exact hK69 _
        · refine z_ldcS (pc := 57) hX 0 (fun g => (zNe (hX := hX g)).2.2.2.2.1.1) dX4_wordAt_57 ?_
          refine z_iload (pc := 59) hX 5 dX4_wordAt_59 rfl ?_
          refine z_callV3 (n := 1) (st := []) (pc := 61) hX (by decide) rfl (mJ0_charAt_5068e _ hE _ _ _ _ (by decide)) ⟨wd401, wd68, wd404, ⟨by decide, by decide, by decide⟩, by decide⟩ rfl wd402 wd403 rfl rfl (by decide) (Nat.le_of_ble_eq_true rfl) dX4_wordAt_61 (fun v32 s33 r34 => ?_)
          show Zj X G 64 [(0, (2, u18)), (1, (0, u19)), (2, (0, u20)), (3, (0, x21)), (4, (0, x22)), (5, (0, x23))] [(0, v32)] _ _
          refine z_bipush (pc := 64) hX dX4_wordAt_64 ?_
          refine z_icmp_ne (pc := 66) hX 107 dX4_wordAt_66 (by decide) (fun h35 => ?_) (fun h35 => ?_)
          · exact hK107 _ _ _
          · exact hK69 _
  refine z_pick (lv' := [(0, (2, a0)), (1, (0, a1)), (2, (0, x16)), (3, (0, 0)), (4, (0, 0)), (5, (0, 0))]) [3, 4, 5, 2, 1, 0] rfl ?_
  refine hl37 _ _ _ 1000 _ _ _ _

theorem dX4_numberAt_0 : decode cX4_numberAt 0 = .ok (.iconst 0, 1) := by decide +kernel
theorem dX4_numberAt_1 : decode cX4_numberAt 1 = .ok (.istore_n 2, 1) := by decide +kernel
theorem dX4_numberAt_2 : decode cX4_numberAt 2 = .ok (.iconst 0, 1) := by decide +kernel
theorem dX4_numberAt_3 : decode cX4_numberAt 3 = .ok (.istore_n 3, 1) := by decide +kernel
theorem dX4_numberAt_4 : decode cX4_numberAt 4 = .ok (.iload_n 1, 1) := by decide +kernel
theorem dX4_numberAt_5 : decode cX4_numberAt 5 = .ok (.istore 4, 2) := by decide +kernel
theorem dX4_numberAt_7 : decode cX4_numberAt 7 = .ok (.iload 4, 2) := by decide +kernel
theorem dX4_numberAt_9 : decode cX4_numberAt 9 = .ok (.aload_n 0, 1) := by decide +kernel
theorem dX4_numberAt_10 : decode cX4_numberAt 10 = .ok (.getfield 17, 3) := by decide +kernel
theorem dX4_numberAt_13 : decode cX4_numberAt 13 = .ok (.if_icmp .ge 42, 3) := by decide +kernel
theorem dX4_numberAt_16 : decode cX4_numberAt 16 = .ok (.aload_n 0, 1) := by decide +kernel
theorem dX4_numberAt_17 : decode cX4_numberAt 17 = .ok (.getfield 13, 3) := by decide +kernel
theorem dX4_numberAt_20 : decode cX4_numberAt 20 = .ok (.iload 4, 2) := by decide +kernel
theorem dX4_numberAt_22 : decode cX4_numberAt 22 = .ok (.iaload, 1) := by decide +kernel
theorem dX4_numberAt_23 : decode cX4_numberAt 23 = .ok (.invokestatic 96, 3) := by decide +kernel
theorem dX4_numberAt_26 : decode cX4_numberAt 26 = .ok (.iconst 2, 1) := by decide +kernel
theorem dX4_numberAt_27 : decode cX4_numberAt 27 = .ok (.if_icmp .ne 28, 3) := by decide +kernel
theorem dX4_numberAt_30 : decode cX4_numberAt 30 = .ok (.bipush 10, 2) := by decide +kernel
theorem dX4_numberAt_32 : decode cX4_numberAt 32 = .ok (.iload_n 2, 1) := by decide +kernel
theorem dX4_numberAt_33 : decode cX4_numberAt 33 = .ok (.imul, 1) := by decide +kernel
theorem dX4_numberAt_34 : decode cX4_numberAt 34 = .ok (.aload_n 0, 1) := by decide +kernel
theorem dX4_numberAt_35 : decode cX4_numberAt 35 = .ok (.getfield 13, 3) := by decide +kernel
theorem dX4_numberAt_38 : decode cX4_numberAt 38 = .ok (.iload 4, 2) := by decide +kernel
theorem dX4_numberAt_40 : decode cX4_numberAt 40 = .ok (.iaload, 1) := by decide +kernel
theorem dX4_numberAt_41 : decode cX4_numberAt 41 = .ok (.iadd, 1) := by decide +kernel
theorem dX4_numberAt_42 : decode cX4_numberAt 42 = .ok (.bipush 48, 2) := by decide +kernel
theorem dX4_numberAt_44 : decode cX4_numberAt 44 = .ok (.isub, 1) := by decide +kernel
theorem dX4_numberAt_45 : decode cX4_numberAt 45 = .ok (.istore_n 2, 1) := by decide +kernel
theorem dX4_numberAt_46 : decode cX4_numberAt 46 = .ok (.iinc 3 1, 3) := by decide +kernel
theorem dX4_numberAt_49 : decode cX4_numberAt 49 = .ok (.iinc 4 1, 3) := by decide +kernel
theorem dX4_numberAt_52 : decode cX4_numberAt 52 = .ok (.goto (-45), 3) := by decide +kernel
theorem dX4_numberAt_55 : decode cX4_numberAt 55 = .ok (.iload_n 3, 1) := by decide +kernel
theorem dX4_numberAt_56 : decode cX4_numberAt 56 = .ok (.iconst 4, 1) := by decide +kernel
theorem dX4_numberAt_57 : decode cX4_numberAt 57 = .ok (.if_icmp .gt 7, 3) := by decide +kernel
theorem dX4_numberAt_60 : decode cX4_numberAt 60 = .ok (.iload_n 2, 1) := by decide +kernel
theorem dX4_numberAt_61 : decode cX4_numberAt 61 = .ok (.goto 6, 3) := by decide +kernel
theorem dX4_numberAt_64 : decode cX4_numberAt 64 = .ok (.sipush 30001, 3) := by decide +kernel
theorem dX4_numberAt_67 : decode cX4_numberAt 67 = .ok (.ireturn, 1) := by decide +kernel
def lX4_numberAt_7 (u2 : Int) (K55 : ZS → Int → Int → Option (Int × ZS)) : Nat → ZS → Int → Int → Int → Option (Int × ZS)
  | 0, _, _, _, _ => none
  | n1 + 1, s1, x3, x4, x5 => (zg s1 4 u2 1).bind (fun v6 => if v6 ≤ x5 then (K55 s1 x3 x4) else ((zg s1 4 u2 0).bind (fun v8 => (zal s1 100 v8 x5).bind (fun v9 => zb (fX4_lookOf s1 v9) (fun v10 s11 => if v10 = 2 then ((zg s11 4 u2 0).bind (fun v14 => (zal s11 100 v14 x5).bind (fun v15 => lX4_numberAt_7 u2 K55 n1 s11 (wrap ((wrap ((wrap (10 * x3)) + v15)) - 48)) (wrap (x4 + 1)) (wrap (x5 + 1))))) else (K55 s11 x3 x4))))))

def fX4_numberAt (s0 : ZS) (a0 : Int) (a1 : Int) : Option (Int × ZS) := lX4_numberAt_7 a0 (fun (s19 : ZS) (x20 x21 : Int) => if 4 < x21 then (some (30001, s19)) else (some (x20, s19))) 1000 s0 0 0 a1
set_option maxHeartbeats 4000000 in
set_option maxRecDepth 100000 in
theorem mX4_numberAt (E : ZE) (hE : zOkE E) (l : Launch) (s0 : ZS) (a0 : Int) (a1 : Int) : Ct E l yX4_numberAt cX4_numberAt 5 (some .int) 4 [(2, a0), (0, a1)] 1 s0 (fX4_numberAt s0 a0 a1) := by
  refine Ct.of (by decide) hE (Nat.le_of_ble_eq_true rfl) ?_
  intro X G hX hR hN hXE hXl hxn hk _
  subst hXE
  subst hXl
  have hX : G → ZOk X cX4_numberAt RX4 4 := hX
  clear hN
  show Zj X G 0 [(0, (2, a0)), (1, (0, a1))] [] s0 _
  unfold fX4_numberAt
  refine z_iconst (pc := 0) hX dX4_numberAt_0 ?_
  refine z_istore_n (lv' := [(2, (0, 0)), (0, (2, a0)), (1, (0, a1))]) (pc := 1) hX dX4_numberAt_1 rfl (zlt hxn rfl) rfl ?_
  refine z_iconst (pc := 2) hX dX4_numberAt_2 ?_
  refine z_istore_n (lv' := [(3, (0, 0)), (2, (0, 0)), (0, (2, a0)), (1, (0, a1))]) (pc := 3) hX dX4_numberAt_3 rfl (zlt hxn rfl) rfl ?_
  refine z_iload_n (pc := 4) hX 3 dX4_numberAt_4 rfl rfl ?_
  refine z_istore (lv' := [(4, (0, a1)), (3, (0, 0)), (2, (0, 0)), (0, (2, a0)), (1, (0, a1))]) (pc := 5) hX dX4_numberAt_5 (zlt hxn rfl) rfl ?_
  have hl7 : ∀ (u2 : Int), ∀ (K55 : ZS → Int → Int → Option (Int × ZS)), (∀ (s16 : ZS) (x17 x18 : Int), Zj X G 55 [(2, (0, x17)), (3, (0, x18))] [] s16 (K55 s16 x17 x18)) → ∀ (n1 : Nat) (s1 : ZS) (x3 x4 x5 : Int), Zj X G 7 [(0, (2, u2)), (2, (0, x3)), (3, (0, x4)), (4, (0, x5))] [] s1 (lX4_numberAt_7 u2 K55 n1 s1 x3 x4 x5) := by
    intro u2 K55 hK55 n1
    induction n1 with
    | zero => intro _ _ _ _; exact z_none
    | succ n1 ih1 =>
      intro s1 x3 x4 x5
      rw [lX4_numberAt_7]
      refine z_iload (pc := 7) hX 3 dX4_numberAt_7 rfl ?_
      refine z_aload_n (pc := 9) hX 0 dX4_numberAt_9 rfl rfl ?_
      refine z_get (pc := 10) hX zc4 1 (by decide) wd199 rfl rfl dX4_numberAt_10 (fun v6 => ?_)
      refine z_icmp_ge (pc := 13) hX 55 dX4_numberAt_13 (by decide) (fun h7 => ?_) (fun h7 => ?_)
      · refine z_pick (lv' := [(2, (0, x3)), (3, (0, x4))]) [1, 2] rfl ?_
        exact hK55 _ _ _
      · refine z_aload_n (pc := 16) hX 0 dX4_numberAt_16 rfl rfl ?_
        refine z_get (pc := 17) hX zc4 0 (by decide) wd198 rfl rfl dX4_numberAt_17 (fun v8 => ?_)
        refine z_iload (pc := 20) hX 3 dX4_numberAt_20 rfl ?_
        refine z_iald (pc := 22) hX dX4_numberAt_22 (fun v9 => ?_)
        refine z_callS (n := 1) (st := []) (pc := 23) hX (mX4_lookOf _ hE _ _ _) ⟨wd383, wd64, wd385, ⟨by decide, by decide, by decide⟩, by decide⟩ wd384 rfl rfl (by decide) (Nat.le_of_ble_eq_true rfl) dX4_numberAt_23 (fun v10 s11 r12 => ?_)
        show Zj X G 26 [(0, (2, u2)), (2, (0, x3)), (3, (0, x4)), (4, (0, x5))] [(0, v10)] _ _
        refine z_iconst (pc := 26) hX dX4_numberAt_26 ?_
        refine z_icmp_ne (pc := 27) hX 55 dX4_numberAt_27 (by decide) (fun h13 => ?_) (fun h13 => ?_)
        · refine z_pick (lv' := [(2, (0, x3)), (3, (0, x4))]) [1, 2] rfl ?_
          exact hK55 _ _ _
        · refine z_bipush (pc := 30) hX dX4_numberAt_30 ?_
          refine z_iload_n (pc := 32) hX 1 dX4_numberAt_32 rfl rfl ?_
          refine z_imul (pc := 33) hX dX4_numberAt_33 ?_
          refine z_aload_n (pc := 34) hX 0 dX4_numberAt_34 rfl rfl ?_
          refine z_get (pc := 35) hX zc4 0 (by decide) wd198 rfl rfl dX4_numberAt_35 (fun v14 => ?_)
          refine z_iload (pc := 38) hX 3 dX4_numberAt_38 rfl ?_
          refine z_iald (pc := 40) hX dX4_numberAt_40 (fun v15 => ?_)
          refine z_iadd (pc := 41) hX dX4_numberAt_41 ?_
          refine z_bipush (pc := 42) hX dX4_numberAt_42 ?_
          refine z_isub (pc := 44) hX dX4_numberAt_44 ?_
          refine z_istore_n (lv' := [(2, (0, (wrap ((wrap ((wrap (10 * x3)) + v15)) - 48)))), (0, (2, u2)), (3, (0, x4)), (4, (0, x5))]) (pc := 45) hX dX4_numberAt_45 rfl (zlt hxn rfl) rfl ?_
          refine z_iinc (lv' := [(3, (0, (wrap (x4 + 1)))), (2, (0, (wrap ((wrap ((wrap (10 * x3)) + v15)) - 48)))), (0, (2, u2)), (4, (0, x5))]) (pc := 46) hX 2 dX4_numberAt_46 rfl (zlt hxn rfl) rfl ?_
          refine z_iinc (lv' := [(4, (0, (wrap (x5 + 1)))), (3, (0, (wrap (x4 + 1)))), (2, (0, (wrap ((wrap ((wrap (10 * x3)) + v15)) - 48)))), (0, (2, u2))]) (pc := 49) hX 3 dX4_numberAt_49 rfl (zlt hxn rfl) rfl ?_
          refine z_goto (pc := 52) hX 7 dX4_numberAt_52 (by decide) ?_
          refine z_pick (lv' := [(0, (2, u2)), (2, (0, (wrap ((wrap ((wrap (10 * x3)) + v15)) - 48)))), (3, (0, (wrap (x4 + 1)))), (4, (0, (wrap (x5 + 1))))]) [3, 2, 1, 0] rfl ?_
          exact ih1 _ _ _ _
  refine z_pick (lv' := [(0, (2, a0)), (2, (0, 0)), (3, (0, 0)), (4, (0, a1))]) [3, 2, 1, 0] rfl ?_
  refine hl7 _ _ (fun s19 x20 x21 => ?_) 1000 _ _ _ _
  refine z_iload_n (pc := 55) hX 1 dX4_numberAt_55 rfl rfl ?_
  refine z_iconst (pc := 56) hX dX4_numberAt_56 ?_
  refine z_icmp_gt (pc := 57) hX 64 dX4_numberAt_57 (by decide) (fun h22 => ?_) (fun h22 => ?_)
  · refine z_sipush (pc := 64) hX dX4_numberAt_64 ?_
    exact z_iret (pc := 67) hX hR hk dX4_numberAt_67
  · refine z_iload_n (pc := 60) hX 0 dX4_numberAt_60 rfl rfl ?_
    refine z_goto (pc := 61) hX 67 dX4_numberAt_61 (by decide) ?_
    exact z_iret (pc := 67) hX hR hk dX4_numberAt_67

theorem dJ1_canEncode_9a6ad_0 : decode cJ1_canEncode_9a6ad 0 = .ok (.iload_n 0, 1) := by decide +kernel
theorem dJ1_canEncode_9a6ad_1 : decode cJ1_canEncode_9a6ad 1 = .ok (.ifCond .lt 14, 3) := by decide +kernel
theorem dJ1_canEncode_9a6ad_4 : decode cJ1_canEncode_9a6ad 4 = .ok (.iload_n 0, 1) := by decide +kernel
theorem dJ1_canEncode_9a6ad_5 : decode cJ1_canEncode_9a6ad 5 = .ok (.sipush 255, 3) := by decide +kernel
theorem dJ1_canEncode_9a6ad_8 : decode cJ1_canEncode_9a6ad 8 = .ok (.if_icmp .gt 7, 3) := by decide +kernel
theorem dJ1_canEncode_9a6ad_11 : decode cJ1_canEncode_9a6ad 11 = .ok (.iconst 1, 1) := by decide +kernel
theorem dJ1_canEncode_9a6ad_12 : decode cJ1_canEncode_9a6ad 12 = .ok (.goto 4, 3) := by decide +kernel
theorem dJ1_canEncode_9a6ad_15 : decode cJ1_canEncode_9a6ad 15 = .ok (.iconst 0, 1) := by decide +kernel
theorem dJ1_canEncode_9a6ad_16 : decode cJ1_canEncode_9a6ad 16 = .ok (.ireturn, 1) := by decide +kernel
def fJ1_canEncode_9a6ad (s0 : ZS) (a0 : Int) : Option (Int × ZS) := if a0 < 0 then (some (0, s0)) else (if 255 < a0 then (some (0, s0)) else (some (1, s0)))
set_option maxHeartbeats 4000000 in
set_option maxRecDepth 100000 in
theorem mJ1_canEncode_9a6ad (E : ZE) (hE : zOkE E) (l : Launch) (s0 : ZS) (a0 : Int) : Ct E l yJ1_canEncode_9a6ad cJ1_canEncode_9a6ad 1 (some .boolean) 2 [(0, a0)] 4 s0 (fJ1_canEncode_9a6ad s0 a0) := by
  refine Ct.of (by decide) hE (Nat.le_of_ble_eq_true rfl) ?_
  intro X G hX hR hN hXE hXl hxn hk _
  subst hXE
  subst hXl
  have hX : G → ZOk X cJ1_canEncode_9a6ad RJ1 2 := hX
  clear hN
  show Zj X G 0 [(0, (0, a0))] [] s0 _
  unfold fJ1_canEncode_9a6ad
  refine z_iload_n (pc := 0) hX 0 dJ1_canEncode_9a6ad_0 rfl rfl ?_
  refine z_if_lt (pc := 1) hX 15 dJ1_canEncode_9a6ad_1 (by decide) (fun h1 => ?_) (fun h1 => ?_)
  · refine z_iconst (pc := 15) hX dJ1_canEncode_9a6ad_15 ?_
    exact z_zret (pc := 16) hX hR hk dJ1_canEncode_9a6ad_16 (Or.inl rfl)
  · refine z_iload_n (pc := 4) hX 0 dJ1_canEncode_9a6ad_4 rfl rfl ?_
    refine z_sipush (pc := 5) hX dJ1_canEncode_9a6ad_5 ?_
    refine z_icmp_gt (pc := 8) hX 15 dJ1_canEncode_9a6ad_8 (by decide) (fun h2 => ?_) (fun h2 => ?_)
    · refine z_iconst (pc := 15) hX dJ1_canEncode_9a6ad_15 ?_
      exact z_zret (pc := 16) hX hR hk dJ1_canEncode_9a6ad_16 (Or.inl rfl)
    · refine z_iconst (pc := 11) hX dJ1_canEncode_9a6ad_11 ?_
      refine z_goto (pc := 12) hX 16 dJ1_canEncode_9a6ad_12 (by decide) ?_
      exact z_zret (pc := 16) hX hR hk dJ1_canEncode_9a6ad_16 (Or.inr rfl)

theorem dJ1_indexOfChar_4cfef_0 : decode cJ1_indexOfChar_4cfef 0 = .ok (.iload_n 1, 1) := by decide +kernel
theorem dJ1_indexOfChar_4cfef_1 : decode cJ1_indexOfChar_4cfef 1 = .ok (.i2b, 1) := by decide +kernel
theorem dJ1_indexOfChar_4cfef_2 : decode cJ1_indexOfChar_4cfef 2 = .ok (.istore 4, 2) := by decide +kernel
theorem dJ1_indexOfChar_4cfef_4 : decode cJ1_indexOfChar_4cfef 4 = .ok (.iload_n 2, 1) := by decide +kernel
theorem dJ1_indexOfChar_4cfef_5 : decode cJ1_indexOfChar_4cfef 5 = .ok (.istore 5, 2) := by decide +kernel
theorem dJ1_indexOfChar_4cfef_7 : decode cJ1_indexOfChar_4cfef 7 = .ok (.iload 5, 2) := by decide +kernel
theorem dJ1_indexOfChar_4cfef_9 : decode cJ1_indexOfChar_4cfef 9 = .ok (.iload_n 3, 1) := by decide +kernel
theorem dJ1_indexOfChar_4cfef_10 : decode cJ1_indexOfChar_4cfef 10 = .ok (.if_icmp .ge 21, 3) := by decide +kernel
theorem dJ1_indexOfChar_4cfef_13 : decode cJ1_indexOfChar_4cfef 13 = .ok (.aload_n 0, 1) := by decide +kernel
theorem dJ1_indexOfChar_4cfef_14 : decode cJ1_indexOfChar_4cfef 14 = .ok (.iload 5, 2) := by decide +kernel
theorem dJ1_indexOfChar_4cfef_16 : decode cJ1_indexOfChar_4cfef 16 = .ok (.baload, 1) := by decide +kernel
theorem dJ1_indexOfChar_4cfef_17 : decode cJ1_indexOfChar_4cfef 17 = .ok (.iload 4, 2) := by decide +kernel
theorem dJ1_indexOfChar_4cfef_19 : decode cJ1_indexOfChar_4cfef 19 = .ok (.if_icmp .ne 6, 3) := by decide +kernel
theorem dJ1_indexOfChar_4cfef_22 : decode cJ1_indexOfChar_4cfef 22 = .ok (.iload 5, 2) := by decide +kernel
theorem dJ1_indexOfChar_4cfef_24 : decode cJ1_indexOfChar_4cfef 24 = .ok (.ireturn, 1) := by decide +kernel
theorem dJ1_indexOfChar_4cfef_25 : decode cJ1_indexOfChar_4cfef 25 = .ok (.iinc 5 1, 3) := by decide +kernel
theorem dJ1_indexOfChar_4cfef_28 : decode cJ1_indexOfChar_4cfef 28 = .ok (.goto (-21), 3) := by decide +kernel
theorem dJ1_indexOfChar_4cfef_31 : decode cJ1_indexOfChar_4cfef 31 = .ok (.iconst (-1), 1) := by decide +kernel
theorem dJ1_indexOfChar_4cfef_32 : decode cJ1_indexOfChar_4cfef 32 = .ok (.ireturn, 1) := by decide +kernel
def lJ1_indexOfChar_4cfef_7 (i : Nat) (u3 u4 : Int)  : Nat → ZS → Int → Option (Int × ZS)
  | 0, _, _ => none
  | n1 + 1, s1, x5 => if u3 ≤ x5 then (some ((-1), s1)) else (if 0 ≤ x5 ∧ x5 < (zLen.getD i 0 : Int) then (if (zbt i x5) = u4 then (some (x5, s1)) else (lJ1_indexOfChar_4cfef_7 i u3 u4 n1 s1 (wrap (x5 + 1)))) else none)

def fJ1_indexOfChar_4cfef (s0 : ZS) (i : Nat) (a1 : Int) (a2 : Int) (a3 : Int) : Option (Int × ZS) := lJ1_indexOfChar_4cfef_7 i a3 (iB a1) 1000 s0 a2
set_option maxHeartbeats 4000000 in
set_option maxRecDepth 100000 in
theorem mJ1_indexOfChar_4cfef (E : ZE) (hE : zOkE E) (l : Launch) (s0 : ZS) (i : Nat) (a1 : Int) (a2 : Int) (a3 : Int) (hi : i < 2) : Ct E l yJ1_indexOfChar_4cfef cJ1_indexOfChar_4cfef 6 (some .int) 2 [(3, (eV E i : Int)), (0, a1), (0, a2), (0, a3)] 1 s0 (fJ1_indexOfChar_4cfef s0 i a1 a2 a3) := by
  refine Ct.of (by decide) hE (Nat.le_of_ble_eq_true rfl) ?_
  intro X G hX hR hN hXE hXl hxn hk _
  subst hXE
  subst hXl
  have hX : G → ZOk X cJ1_indexOfChar_4cfef RJ1 2 := hX
  clear hN
  show Zj X G 0 [(0, (3, (eV (xE X) i : Int))), (1, (0, a1)), (2, (0, a2)), (3, (0, a3))] [] s0 _
  unfold fJ1_indexOfChar_4cfef
  refine z_iload_n (pc := 0) hX 1 dJ1_indexOfChar_4cfef_0 rfl rfl ?_
  refine z_i2b (pc := 1) hX dJ1_indexOfChar_4cfef_1 ?_
  refine z_istore (lv' := [(4, (0, (iB a1))), (0, (3, (eV (xE X) i : Int))), (1, (0, a1)), (2, (0, a2)), (3, (0, a3))]) (pc := 2) hX dJ1_indexOfChar_4cfef_2 (zlt hxn rfl) rfl ?_
  refine z_iload_n (pc := 4) hX 3 dJ1_indexOfChar_4cfef_4 rfl rfl ?_
  refine z_istore (lv' := [(5, (0, a2)), (4, (0, (iB a1))), (0, (3, (eV (xE X) i : Int))), (1, (0, a1)), (2, (0, a2)), (3, (0, a3))]) (pc := 5) hX dJ1_indexOfChar_4cfef_5 (zlt hxn rfl) rfl ?_
  have hl7 : ∀ (u3 u4 : Int), ∀ (n1 : Nat) (s1 : ZS) (x5 : Int), Zj X G 7 [(0, (3, (eV (xE X) i : Int))), (3, (0, u3)), (4, (0, u4)), (5, (0, x5))] [] s1 (lJ1_indexOfChar_4cfef_7 i u3 u4 n1 s1 x5) := by
    intro u3 u4 n1
    induction n1 with
    | zero => intro _ _; exact z_none
    | succ n1 ih1 =>
      intro s1 x5
      rw [lJ1_indexOfChar_4cfef_7]
      refine z_iload (pc := 7) hX 3 dJ1_indexOfChar_4cfef_7 rfl ?_
      refine z_iload_n (pc := 9) hX 1 dJ1_indexOfChar_4cfef_9 rfl rfl ?_
      refine z_icmp_ge (pc := 10) hX 31 dJ1_indexOfChar_4cfef_10 (by decide) (fun h6 => ?_) (fun h6 => ?_)
      · refine z_iconst (pc := 31) hX dJ1_indexOfChar_4cfef_31 ?_
        exact z_iret (pc := 32) hX hR hk dJ1_indexOfChar_4cfef_32
      · refine z_aload3_n (pc := 13) hX 0 dJ1_indexOfChar_4cfef_13 rfl rfl ?_
        refine z_iload (pc := 14) hX 3 dJ1_indexOfChar_4cfef_14 rfl ?_
        refine z_bald (pc := 16) hX hi dJ1_indexOfChar_4cfef_16 ?_
        refine z_iload (pc := 17) hX 2 dJ1_indexOfChar_4cfef_17 rfl ?_
        refine z_icmp_ne (pc := 19) hX 25 dJ1_indexOfChar_4cfef_19 (by decide) (fun h7 => ?_) (fun h7 => ?_)
        · refine z_iinc (lv' := [(5, (0, (wrap (x5 + 1)))), (0, (3, (eV (xE X) i : Int))), (3, (0, u3)), (4, (0, u4))]) (pc := 25) hX 3 dJ1_indexOfChar_4cfef_25 rfl (zlt hxn rfl) rfl ?_
          refine z_goto (pc := 28) hX 7 dJ1_indexOfChar_4cfef_28 (by decide) ?_
          refine z_pick (lv' := [(0, (3, (eV (xE X) i : Int))), (3, (0, u3)), (4, (0, u4)), (5, (0, (wrap (x5 + 1))))]) [1, 2, 3, 0] rfl ?_
          exact ih1 _ _
        · refine z_iload (pc := 22) hX 3 dJ1_indexOfChar_4cfef_22 rfl ?_
          exact z_iret (pc := 24) hX hR hk dJ1_indexOfChar_4cfef_24
  refine z_pick (lv' := [(0, (3, (eV (xE X) i : Int))), (3, (0, a3)), (4, (0, (iB a1))), (5, (0, a2))]) [2, 5, 1, 0] rfl ?_
  refine hl7 _ _ 1000 _ _

theorem dJ1_indexOf_4cfef_0 : decode cJ1_indexOf_4cfef 0 = .ok (.iload_n 1, 1) := by decide +kernel
theorem dJ1_indexOf_4cfef_1 : decode cJ1_indexOf_4cfef 1 = .ok (.invokestatic 88, 3) := by decide +kernel
theorem dJ1_indexOf_4cfef_4 : decode cJ1_indexOf_4cfef 4 = .ok (.ifCond .ne 5, 3) := by decide +kernel
theorem dJ1_indexOf_4cfef_7 : decode cJ1_indexOf_4cfef 7 = .ok (.iconst (-1), 1) := by decide +kernel
theorem dJ1_indexOf_4cfef_8 : decode cJ1_indexOf_4cfef 8 = .ok (.ireturn, 1) := by decide +kernel
theorem dJ1_indexOf_4cfef_9 : decode cJ1_indexOf_4cfef 9 = .ok (.iload_n 2, 1) := by decide +kernel
theorem dJ1_indexOf_4cfef_10 : decode cJ1_indexOf_4cfef 10 = .ok (.iconst 0, 1) := by decide +kernel
theorem dJ1_indexOf_4cfef_11 : decode cJ1_indexOf_4cfef 11 = .ok (.invokestatic 92, 3) := by decide +kernel
theorem dJ1_indexOf_4cfef_14 : decode cJ1_indexOf_4cfef 14 = .ok (.istore_n 2, 1) := by decide +kernel
theorem dJ1_indexOf_4cfef_15 : decode cJ1_indexOf_4cfef 15 = .ok (.iload_n 3, 1) := by decide +kernel
theorem dJ1_indexOf_4cfef_16 : decode cJ1_indexOf_4cfef 16 = .ok (.aload_n 0, 1) := by decide +kernel
theorem dJ1_indexOf_4cfef_17 : decode cJ1_indexOf_4cfef 17 = .ok (.arraylength, 1) := by decide +kernel
theorem dJ1_indexOf_4cfef_18 : decode cJ1_indexOf_4cfef 18 = .ok (.invokestatic 38, 3) := by decide +kernel
theorem dJ1_indexOf_4cfef_21 : decode cJ1_indexOf_4cfef 21 = .ok (.istore_n 3, 1) := by decide +kernel
theorem dJ1_indexOf_4cfef_22 : decode cJ1_indexOf_4cfef 22 = .ok (.iload_n 2, 1) := by decide +kernel
theorem dJ1_indexOf_4cfef_23 : decode cJ1_indexOf_4cfef 23 = .ok (.iload_n 3, 1) := by decide +kernel
theorem dJ1_indexOf_4cfef_24 : decode cJ1_indexOf_4cfef 24 = .ok (.if_icmp .lt 5, 3) := by decide +kernel
theorem dJ1_indexOf_4cfef_27 : decode cJ1_indexOf_4cfef 27 = .ok (.iconst (-1), 1) := by decide +kernel
theorem dJ1_indexOf_4cfef_28 : decode cJ1_indexOf_4cfef 28 = .ok (.ireturn, 1) := by decide +kernel
theorem dJ1_indexOf_4cfef_29 : decode cJ1_indexOf_4cfef 29 = .ok (.aload_n 0, 1) := by decide +kernel
theorem dJ1_indexOf_4cfef_30 : decode cJ1_indexOf_4cfef 30 = .ok (.iload_n 1, 1) := by decide +kernel
theorem dJ1_indexOf_4cfef_31 : decode cJ1_indexOf_4cfef 31 = .ok (.iload_n 2, 1) := by decide +kernel
theorem dJ1_indexOf_4cfef_32 : decode cJ1_indexOf_4cfef 32 = .ok (.iload_n 3, 1) := by decide +kernel
theorem dJ1_indexOf_4cfef_33 : decode cJ1_indexOf_4cfef 33 = .ok (.invokestatic 95, 3) := by decide +kernel
theorem dJ1_indexOf_4cfef_36 : decode cJ1_indexOf_4cfef 36 = .ok (.ireturn, 1) := by decide +kernel
def fJ1_indexOf_4cfef (s0 : ZS) (i : Nat) (a1 : Int) (a2 : Int) (a3 : Int) : Option (Int × ZS) := zb (fJ1_canEncode_9a6ad s0 a1) (fun v1 s2 => if v1 = 0 then (some ((-1), s2)) else (if (imax a2 0) < (imin a3 (zLen.getD i 0 : Int)) then (zb (fJ1_indexOfChar_4cfef s2 i a1 (imax a2 0) (imin a3 (zLen.getD i 0 : Int))) (fun v6 s7 => some (v6, s7))) else (some ((-1), s2))))
set_option maxHeartbeats 4000000 in
set_option maxRecDepth 100000 in
theorem mJ1_indexOf_4cfef (E : ZE) (hE : zOkE E) (l : Launch) (s0 : ZS) (i : Nat) (a1 : Int) (a2 : Int) (a3 : Int) (hi : i < 2) : Ct E l yJ1_indexOf_4cfef cJ1_indexOf_4cfef 4 (some .int) 4 [(3, (eV E i : Int)), (0, a1), (0, a2), (0, a3)] 1 s0 (fJ1_indexOf_4cfef s0 i a1 a2 a3) := by
  refine Ct.of (by decide) hE (Nat.le_of_ble_eq_true rfl) ?_
  intro X G hX hR hN hXE hXl hxn hk _
  subst hXE
  subst hXl
  have hX : G → ZOk X cJ1_indexOf_4cfef RJ1 4 := hX
  clear hN
  show Zj X G 0 [(0, (3, (eV (xE X) i : Int))), (1, (0, a1)), (2, (0, a2)), (3, (0, a3))] [] s0 _
  unfold fJ1_indexOf_4cfef
  refine z_iload_n (pc := 0) hX 1 dJ1_indexOf_4cfef_0 rfl rfl ?_
  refine z_callS (n := 1) (st := []) (pc := 1) hX (mJ1_canEncode_9a6ad _ hE _ _ _) ⟨wd464, wd69, wd466, ⟨by decide, by decide, by decide⟩, by decide⟩ wd465 rfl rfl (by decide) (Nat.le_of_ble_eq_true rfl) dJ1_indexOf_4cfef_1 (fun v1 s2 r3 => ?_)
  show Zj X G 4 [(0, (3, (eV (xE X) i : Int))), (1, (0, a1)), (2, (0, a2)), (3, (0, a3))] [(0, v1)] _ _
  refine z_if_ne (pc := 4) hX 9 dJ1_indexOf_4cfef_4 (by decide) (fun h4 => ?_) (fun h4 => ?_)
  · refine z_iload_n (pc := 9) hX 2 dJ1_indexOf_4cfef_9 rfl rfl ?_
    refine z_iconst (pc := 10) hX dJ1_indexOf_4cfef_10 ?_
    refine z_max (st := []) (pc := 11) hX (by decide) wd467 wd468 wd72 wd469 (Nat.le_of_ble_eq_true rfl) dJ1_indexOf_4cfef_11 ?_
    refine z_istore_n (lv' := [(2, (0, (imax a2 0))), (0, (3, (eV (xE X) i : Int))), (1, (0, a1)), (3, (0, a3))]) (pc := 14) hX dJ1_indexOf_4cfef_14 rfl (zlt hxn rfl) rfl ?_
    refine z_iload_n (pc := 15) hX 3 dJ1_indexOf_4cfef_15 rfl rfl ?_
    refine z_aload3_n (pc := 16) hX 1 dJ1_indexOf_4cfef_16 rfl rfl ?_
    refine z_blen (pc := 17) hX hi dJ1_indexOf_4cfef_17 ?_
    refine z_min (st := []) (pc := 18) hX (by decide) wd470 wd471 wd72 wd472 (Nat.le_of_ble_eq_true rfl) dJ1_indexOf_4cfef_18 ?_
    refine z_istore_n (lv' := [(3, (0, (imin a3 (zLen.getD i 0 : Int)))), (2, (0, (imax a2 0))), (0, (3, (eV (xE X) i : Int))), (1, (0, a1))]) (pc := 21) hX dJ1_indexOf_4cfef_21 rfl (zlt hxn rfl) rfl ?_
    refine z_iload_n (pc := 22) hX 1 dJ1_indexOf_4cfef_22 rfl rfl ?_
    refine z_iload_n (pc := 23) hX 0 dJ1_indexOf_4cfef_23 rfl rfl ?_
    refine z_icmp_lt (pc := 24) hX 29 dJ1_indexOf_4cfef_24 (by decide) (fun h5 => ?_) (fun h5 => ?_)
    · refine z_aload3_n (pc := 29) hX 2 dJ1_indexOf_4cfef_29 rfl rfl ?_
      refine z_iload_n (pc := 30) hX 3 dJ1_indexOf_4cfef_30 rfl rfl ?_
      refine z_iload_n (pc := 31) hX 1 dJ1_indexOf_4cfef_31 rfl rfl ?_
      refine z_iload_n (pc := 32) hX 0 dJ1_indexOf_4cfef_32 rfl rfl ?_
      refine z_callS (n := 4) (st := []) (pc := 33) hX (mJ1_indexOfChar_4cfef _ hE _ _ _ _ _ _ hi) ⟨wd473, wd69, wd475, ⟨by decide, by decide, by decide⟩, by decide⟩ wd474 rfl rfl (by decide) (Nat.le_of_ble_eq_true rfl) dJ1_indexOf_4cfef_33 (fun v6 s7 r8 => ?_)
      show Zj X G 36 [(3, (0, (imin a3 (zLen.getD i 0 : Int)))), (2, (0, (imax a2 0))), (0, (3, (eV (xE X) i : Int))), (1, (0, a1))] [(0, v6)] _ _
      exact z_iret (pc := 36) hX hR hk dJ1_indexOf_4cfef_36
    · refine z_iconst (pc := 27) hX dJ1_indexOf_4cfef_27 ?_
      exact z_iret (pc := 28) hX hR hk dJ1_indexOf_4cfef_28
  · refine z_iconst (pc := 7) hX dJ1_indexOf_4cfef_7 ?_
    exact z_iret (pc := 8) hX hR hk dJ1_indexOf_4cfef_8

theorem dJ0_indexOf_7cf53_0 : decode cJ0_indexOf_7cf53 0 = .ok (.aload_n 0, 1) := by decide +kernel
theorem dJ0_indexOf_7cf53_1 : decode cJ0_indexOf_7cf53 1 = .ok (.invokevirtual 492, 3) := by decide +kernel
theorem dJ0_indexOf_7cf53_4 : decode cJ0_indexOf_7cf53 4 = .ok (.ifCond .eq 19, 3) := by decide +kernel
theorem dJ0_indexOf_7cf53_7 : decode cJ0_indexOf_7cf53 7 = .ok (.aload_n 0, 1) := by decide +kernel
theorem dJ0_indexOf_7cf53_8 : decode cJ0_indexOf_7cf53 8 = .ok (.getfield 9, 3) := by decide +kernel
theorem dJ0_indexOf_7cf53_11 : decode cJ0_indexOf_7cf53 11 = .ok (.iload_n 1, 1) := by decide +kernel
theorem dJ0_indexOf_7cf53_12 : decode cJ0_indexOf_7cf53 12 = .ok (.iload_n 2, 1) := by decide +kernel
theorem dJ0_indexOf_7cf53_13 : decode cJ0_indexOf_7cf53 13 = .ok (.aload_n 0, 1) := by decide +kernel
theorem dJ0_indexOf_7cf53_14 : decode cJ0_indexOf_7cf53 14 = .ok (.invokevirtual 505, 3) := by decide +kernel
theorem dJ0_indexOf_7cf53_17 : decode cJ0_indexOf_7cf53 17 = .ok (.invokestatic 637, 3) := by decide +kernel
theorem dJ0_indexOf_7cf53_20 : decode cJ0_indexOf_7cf53 20 = .ok (.goto 16, 3) := by decide +kernel
theorem dJ0_indexOf_7cf53_23 : decode cJ0_indexOf_7cf53 23 = .ok (.aload_n 0, 1) := by decide +kernel
theorem dJ0_indexOf_7cf53_24 : decode cJ0_indexOf_7cf53 24 = .ok (.getfield 9, 3) := by decide +kernel
theorem dJ0_indexOf_7cf53_27 : decode cJ0_indexOf_7cf53 27 = .ok (.iload_n 1, 1) := by decide +kernel
theorem dJ0_indexOf_7cf53_28 : decode cJ0_indexOf_7cf53 28 = .ok (.iload_n 2, 1) := by decide +kernel
theorem dJ0_indexOf_7cf53_29 : decode cJ0_indexOf_7cf53 29 = .ok (.aload_n 0, 1) := by decide +kernel
theorem dJ0_indexOf_7cf53_30 : decode cJ0_indexOf_7cf53 30 = .ok (.invokevirtual 505, 3) := by decide +kernel
theorem dJ0_indexOf_7cf53_33 : decode cJ0_indexOf_7cf53 33 = .ok (.invokestatic 640, 3) := by decide +kernel
theorem dJ0_indexOf_7cf53_36 : decode cJ0_indexOf_7cf53 36 = .ok (.ireturn, 1) := by decide +kernel
def fJ0_indexOf_7cf53 (s0 : ZS) (i : Nat) (a1 : Int) (a2 : Int) : Option (Int × ZS) := zb (fJ0_isLatin1_aae02 s0 i) (fun v1 s2 => if v1 = 0 then (zb (fJ0_length_8abf5 s2 i) (fun v5 s6 => none)) else (zb (fJ0_length_8abf5 s2 i) (fun v11 s12 => zb (fJ1_indexOf_4cfef s12 i a1 a2 v11) (fun v14 s15 => some (v14, s15)))))
set_option maxHeartbeats 4000000 in
set_option maxRecDepth 100000 in
theorem mJ0_indexOf_7cf53 (E : ZE) (hE : zOkE E) (l : Launch) (s0 : ZS) (i : Nat) (a1 : Int) (a2 : Int) (hi : i < 2) : Ct E l yJ0_indexOf_7cf53 cJ0_indexOf_7cf53 3 (some .int) 6 [(3, (eS E i : Int)), (0, a1), (0, a2)] 1 s0 (fJ0_indexOf_7cf53 s0 i a1 a2) := by
  refine Ct.of (by decide) hE (Nat.le_of_ble_eq_true rfl) ?_
  intro X G hX hR hN hXE hXl hxn hk _
  subst hXE
  subst hXl
  have hX : G → ZOk X cJ0_indexOf_7cf53 RJ0 6 := hX
  clear hN
  show Zj X G 0 [(0, (3, (eS (xE X) i : Int))), (1, (0, a1)), (2, (0, a2))] [] s0 _
  unfold fJ0_indexOf_7cf53
  refine z_aload3_n (pc := 0) hX 0 dJ0_indexOf_7cf53_0 rfl rfl ?_
  refine z_callV3 (n := 0) (st := []) (pc := 1) hX hi rfl (mJ0_isLatin1_aae02 _ hE _ _ _ hi) ⟨wd405, wd68, wd408, ⟨by decide, by decide, by decide⟩, by decide⟩ rfl wd406 wd407 rfl rfl (by decide) (Nat.le_of_ble_eq_true rfl) dJ0_indexOf_7cf53_1 (fun v1 s2 r3 => ?_)
  show Zj X G 4 [(0, (3, (eS (xE X) i : Int))), (1, (0, a1)), (2, (0, a2))] [(0, v1)] _ _
  refine z_if_eq (pc := 4) hX 23 dJ0_indexOf_7cf53_4 (by decide) (fun h4 => ?_) (fun h4 => ?_)
  · refine z_aload3_n (pc := 23) hX 0 dJ0_indexOf_7cf53_23 rfl rfl ?_
    refine z_value (pc := 24) hX hi wd1453 dJ0_indexOf_7cf53_24 ?_
    refine z_iload_n (pc := 27) hX 1 dJ0_indexOf_7cf53_27 rfl rfl ?_
    refine z_iload_n (pc := 28) hX 2 dJ0_indexOf_7cf53_28 rfl rfl ?_
    refine z_aload3_n (pc := 29) hX 0 dJ0_indexOf_7cf53_29 rfl rfl ?_
    refine z_callV3 (n := 0) (st := [(0, a2), (0, a1), (3, (eV (xE X) i : Int))]) (pc := 30) hX hi rfl (mJ0_length_8abf5 _ hE _ _ _ hi) ⟨wd460, wd68, wd394, ⟨by decide, by decide, by decide⟩, by decide⟩ rfl wd392 wd393 rfl rfl (by decide) (Nat.le_of_ble_eq_true rfl) dJ0_indexOf_7cf53_30 (fun v5 s6 r7 => ?_)
    show Zj X G 33 [(0, (3, (eS (xE X) i : Int))), (1, (0, a1)), (2, (0, a2))] [(0, v5), (0, a2), (0, a1), (3, (eV (xE X) i : Int))] _ _
    exact z_none
  · refine z_aload3_n (pc := 7) hX 0 dJ0_indexOf_7cf53_7 rfl rfl ?_
    refine z_value (pc := 8) hX hi wd1453 dJ0_indexOf_7cf53_8 ?_
    refine z_iload_n (pc := 11) hX 1 dJ0_indexOf_7cf53_11 rfl rfl ?_
    refine z_iload_n (pc := 12) hX 2 dJ0_indexOf_7cf53_12 rfl rfl ?_
    refine z_aload3_n (pc := 13) hX 0 dJ0_indexOf_7cf53_13 rfl rfl ?_
    refine z_callV3 (n := 0) (st := [(0, a2), (0, a1), (3, (eV (xE X) i : Int))]) (pc := 14) hX hi rfl (mJ0_length_8abf5 _ hE _ _ _ hi) ⟨wd460, wd68, wd394, ⟨by decide, by decide, by decide⟩, by decide⟩ rfl wd392 wd393 rfl rfl (by decide) (Nat.le_of_ble_eq_true rfl) dJ0_indexOf_7cf53_14 (fun v11 s12 r13 => ?_)
    show Zj X G 17 [(0, (3, (eS (xE X) i : Int))), (1, (0, a1)), (2, (0, a2))] [(0, v11), (0, a2), (0, a1), (3, (eV (xE X) i : Int))] _ _
    refine z_callS (n := 4) (st := []) (pc := 17) hX (mJ1_indexOf_4cfef _ hE _ _ _ _ _ _ hi) ⟨wd461, wd69, wd463, ⟨by decide, by decide, by decide⟩, by decide⟩ wd462 rfl rfl (by decide) (Nat.le_of_ble_eq_true rfl) dJ0_indexOf_7cf53_17 (fun v14 s15 r16 => ?_)
    show Zj X G 20 [(0, (3, (eS (xE X) i : Int))), (1, (0, a1)), (2, (0, a2))] [(0, v14)] _ _
    refine z_goto (pc := 20) hX 36 dJ0_indexOf_7cf53_20 (by decide) ?_
    exact z_iret (pc := 36) hX hR hk dJ0_indexOf_7cf53_36

theorem dJ0_indexOf_0f7a4_0 : decode cJ0_indexOf_0f7a4 0 = .ok (.aload_n 0, 1) := by decide +kernel
theorem dJ0_indexOf_0f7a4_1 : decode cJ0_indexOf_0f7a4 1 = .ok (.iload_n 1, 1) := by decide +kernel
theorem dJ0_indexOf_0f7a4_2 : decode cJ0_indexOf_0f7a4 2 = .ok (.iconst 0, 1) := by decide +kernel
theorem dJ0_indexOf_0f7a4_3 : decode cJ0_indexOf_0f7a4 3 = .ok (.invokevirtual 633, 3) := by decide +kernel
theorem dJ0_indexOf_0f7a4_6 : decode cJ0_indexOf_0f7a4 6 = .ok (.ireturn, 1) := by decide +kernel
def fJ0_indexOf_0f7a4 (s0 : ZS) (i : Nat) (a1 : Int) : Option (Int × ZS) := zb (fJ0_indexOf_7cf53 s0 i a1 0) (fun v1 s2 => some (v1, s2))
set_option maxHeartbeats 4000000 in
set_option maxRecDepth 100000 in
theorem mJ0_indexOf_0f7a4 (E : ZE) (hE : zOkE E) (l : Launch) (s0 : ZS) (i : Nat) (a1 : Int) (hi : i < 2) : Ct E l yJ0_indexOf_0f7a4 cJ0_indexOf_0f7a4 2 (some .int) 8 [(3, (eS E i : Int)), (0, a1)] 1 s0 (fJ0_indexOf_0f7a4 s0 i a1) := by
  refine Ct.of (by decide) hE (Nat.le_of_ble_eq_true rfl) ?_
  intro X G hX hR hN hXE hXl hxn hk _
  subst hXE
  subst hXl
  have hX : G → ZOk X cJ0_indexOf_0f7a4 RJ0 8 := hX
  clear hN
  show Zj X G 0 [(0, (3, (eS (xE X) i : Int))), (1, (0, a1))] [] s0 _
  unfold fJ0_indexOf_0f7a4
  refine z_aload3_n (pc := 0) hX 0 dJ0_indexOf_0f7a4_0 rfl rfl ?_
  refine z_iload_n (pc := 1) hX 1 dJ0_indexOf_0f7a4_1 rfl rfl ?_
  refine z_iconst (pc := 2) hX dJ0_indexOf_0f7a4_2 ?_
  refine z_callV3 (n := 2) (st := []) (pc := 3) hX hi rfl (mJ0_indexOf_7cf53 _ hE _ _ _ _ _ hi) ⟨wd456, wd68, wd459, ⟨by decide, by decide, by decide⟩, by decide⟩ rfl wd457 wd458 rfl rfl (by decide) (Nat.le_of_ble_eq_true rfl) dJ0_indexOf_0f7a4_3 (fun v1 s2 r3 => ?_)
  show Zj X G 6 [(0, (3, (eS (xE X) i : Int))), (1, (0, a1))] [(0, v1)] _ _
  exact z_iret (pc := 6) hX hR hk dJ0_indexOf_0f7a4_6
