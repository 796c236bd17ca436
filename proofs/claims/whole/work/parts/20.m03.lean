theorem dX11_rate_0 : decode cX11_rate 0 = .ok (.iload_n 1, 1) := by decide +kernel
theorem dX11_rate_1 : decode cX11_rate 1 = .ok (.invokestatic 95, 3) := by decide +kernel
theorem dX11_rate_4 : decode cX11_rate 4 = .ok (.ifCond .eq 10, 3) := by decide +kernel
theorem dX11_rate_7 : decode cX11_rate 7 = .ok (.iload_n 2, 1) := by decide +kernel
theorem dX11_rate_8 : decode cX11_rate 8 = .ok (.invokestatic 99, 3) := by decide +kernel
theorem dX11_rate_11 : decode cX11_rate 11 = .ok (.ifCond .ne 5, 3) := by decide +kernel
theorem dX11_rate_14 : decode cX11_rate 14 = .ok (.iconst (-1), 1) := by decide +kernel
theorem dX11_rate_15 : decode cX11_rate 15 = .ok (.ireturn, 1) := by decide +kernel
theorem dX11_rate_16 : decode cX11_rate 16 = .ok (.iload_n 3, 1) := by decide +kernel
theorem dX11_rate_17 : decode cX11_rate 17 = .ok (.iload_n 2, 1) := by decide +kernel
theorem dX11_rate_18 : decode cX11_rate 18 = .ok (.if_icmp .le 19, 3) := by decide +kernel
theorem dX11_rate_21 : decode cX11_rate 21 = .ok (.iload_n 3, 1) := by decide +kernel
theorem dX11_rate_22 : decode cX11_rate 22 = .ok (.bipush 24, 2) := by decide +kernel
theorem dX11_rate_24 : decode cX11_rate 24 = .ok (.if_icmp .gt 13, 3) := by decide +kernel
theorem dX11_rate_27 : decode cX11_rate 27 = .ok (.iload 4, 2) := by decide +kernel
theorem dX11_rate_29 : decode cX11_rate 29 = .ok (.bipush 9, 2) := by decide +kernel
theorem dX11_rate_31 : decode cX11_rate 31 = .ok (.invokestatic 102, 3) := by decide +kernel
theorem dX11_rate_34 : decode cX11_rate 34 = .ok (.ifCond .ne 6, 3) := by decide +kernel
theorem dX11_rate_37 : decode cX11_rate 37 = .ok (.bipush (-2), 2) := by decide +kernel
theorem dX11_rate_39 : decode cX11_rate 39 = .ok (.ireturn, 1) := by decide +kernel
theorem dX11_rate_40 : decode cX11_rate 40 = .ok (.aload_n 0, 1) := by decide +kernel
theorem dX11_rate_41 : decode cX11_rate 41 = .ok (.getfield 20, 3) := by decide +kernel
theorem dX11_rate_44 : decode cX11_rate 44 = .ok (.getfield 106, 3) := by decide +kernel
theorem dX11_rate_47 : decode cX11_rate 47 = .ok (.iload_n 1, 1) := by decide +kernel
theorem dX11_rate_48 : decode cX11_rate 48 = .ok (.aaload, 1) := by decide +kernel
theorem dX11_rate_49 : decode cX11_rate 49 = .ok (.iload_n 2, 1) := by decide +kernel
theorem dX11_rate_50 : decode cX11_rate 50 = .ok (.iaload, 1) := by decide +kernel
theorem dX11_rate_51 : decode cX11_rate 51 = .ok (.istore 5, 2) := by decide +kernel
theorem dX11_rate_53 : decode cX11_rate 53 = .ok (.iload_n 2, 1) := by decide +kernel
theorem dX11_rate_54 : decode cX11_rate 54 = .ok (.istore 6, 2) := by decide +kernel
theorem dX11_rate_56 : decode cX11_rate 56 = .ok (.iload 6, 2) := by decide +kernel
theorem dX11_rate_58 : decode cX11_rate 58 = .ok (.iload_n 3, 1) := by decide +kernel
theorem dX11_rate_59 : decode cX11_rate 59 = .ok (.if_icmp .ge 23, 3) := by decide +kernel
theorem dX11_rate_62 : decode cX11_rate 62 = .ok (.aload_n 0, 1) := by decide +kernel
theorem dX11_rate_63 : decode cX11_rate 63 = .ok (.getfield 20, 3) := by decide +kernel
theorem dX11_rate_66 : decode cX11_rate 66 = .ok (.getfield 106, 3) := by decide +kernel
theorem dX11_rate_69 : decode cX11_rate 69 = .ok (.iload_n 1, 1) := by decide +kernel
theorem dX11_rate_70 : decode cX11_rate 70 = .ok (.aaload, 1) := by decide +kernel
theorem dX11_rate_71 : decode cX11_rate 71 = .ok (.iload 6, 2) := by decide +kernel
theorem dX11_rate_73 : decode cX11_rate 73 = .ok (.iload 4, 2) := by decide +kernel
theorem dX11_rate_75 : decode cX11_rate 75 = .ok (.iastore, 1) := by decide +kernel
theorem dX11_rate_76 : decode cX11_rate 76 = .ok (.iinc 6 1, 3) := by decide +kernel
theorem dX11_rate_79 : decode cX11_rate 79 = .ok (.goto (-23), 3) := by decide +kernel
theorem dX11_rate_82 : decode cX11_rate 82 = .ok (.iload 5, 2) := by decide +kernel
theorem dX11_rate_84 : decode cX11_rate 84 = .ok (.ireturn, 1) := by decide +kernel
def lX11_rate_56 (u20 u21 u22 u23 u24 : Int)  : Nat → ZS → Int → Option (Int × ZS)
  | 0, _, _ => none
  | n1 + 1, s19, x25 => if u22 ≤ x25 then (some (u24, s19)) else ((zg s19 11 u20 1).bind (fun v27 => (zg s19 5 v27 0).bind (fun v28 => (zal s19 102 v28 u21).bind (fun v29 => (zas s19 100 v29 x25 u23).bind (fun s30 => lX11_rate_56 u20 u21 u22 u23 u24 n1 s30 (wrap (x25 + 1)))))))

def fX11_rate (s0 : ZS) (a0 : Int) (a1 : Int) (a2 : Int) (a3 : Int) (a4 : Int) : Option (Int × ZS) := zb (fX11_isGate s0 a1) (fun v1 s2 => if v1 = 0 then (some ((-1), s2)) else (zb (fX11_isMinute s2 a2) (fun v5 s6 => if v5 = 0 then (some ((-1), s6)) else (if a3 ≤ a2 then (some ((-2), s6)) else (if 24 < a3 then (some ((-2), s6)) else (zb (fX11_within s6 a4 9) (fun v11 s12 => if v11 = 0 then (some ((-2), s12)) else ((zg s12 11 a0 1).bind (fun v15 => (zg s12 5 v15 0).bind (fun v16 => (zal s12 102 v16 a1).bind (fun v17 => (zal s12 100 v17 a2).bind (fun v18 => lX11_rate_56 a0 a1 a3 a4 v18 1000 s12 a2))))))))))))
set_option maxHeartbeats 4000000 in
set_option maxRecDepth 100000 in
theorem mX11_rate (E : ZE) (hE : zOkE E) (l : Launch) (s0 : ZS) (a0 : Int) (a1 : Int) (a2 : Int) (a3 : Int) (a4 : Int) : Ct E l yX11_rate cX11_rate 7 (some .int) 6 [(2, a0), (0, a1), (0, a2), (0, a3), (0, a4)] 1 s0 (fX11_rate s0 a0 a1 a2 a3 a4) := by
  refine Ct.of (by decide) hE (Nat.le_of_ble_eq_true rfl) ?_
  intro X G hX hR hN hXE hXl hxn hk _
  subst hXE
  subst hXl
  have hX : G → ZOk X cX11_rate RX11 6 := hX
  clear hN
  show Zj X G 0 [(0, (2, a0)), (1, (0, a1)), (2, (0, a2)), (3, (0, a3)), (4, (0, a4))] [] s0 _
  unfold fX11_rate
  refine z_iload_n (pc := 0) hX 1 dX11_rate_0 rfl rfl ?_
  refine z_callS (n := 1) (st := []) (pc := 1) hX (mX11_isGate _ hE _ _ _) ⟨wd326, wd61, wd328, ⟨by decide, by decide, by decide⟩, by decide⟩ wd327 rfl rfl (by decide) (Nat.le_of_ble_eq_true rfl) dX11_rate_1 (fun v1 s2 r3 => ?_)
  show Zj X G 4 [(0, (2, a0)), (1, (0, a1)), (2, (0, a2)), (3, (0, a3)), (4, (0, a4))] [(0, v1)] _ _
  refine z_if_eq (pc := 4) hX 14 dX11_rate_4 (by decide) (fun h4 => ?_) (fun h4 => ?_)
  · refine z_iconst (pc := 14) hX dX11_rate_14 ?_
    exact z_iret (pc := 15) hX hR hk dX11_rate_15
  · refine z_iload_n (pc := 7) hX 2 dX11_rate_7 rfl rfl ?_
    refine z_callS (n := 1) (st := []) (pc := 8) hX (mX11_isMinute _ hE _ _ _) ⟨wd332, wd61, wd334, ⟨by decide, by decide, by decide⟩, by decide⟩ wd333 rfl rfl (by decide) (Nat.le_of_ble_eq_true rfl) dX11_rate_8 (fun v5 s6 r7 => ?_)
    show Zj X G 11 [(0, (2, a0)), (1, (0, a1)), (2, (0, a2)), (3, (0, a3)), (4, (0, a4))] [(0, v5)] _ _
    refine z_if_ne (pc := 11) hX 16 dX11_rate_11 (by decide) (fun h8 => ?_) (fun h8 => ?_)
    · refine z_iload_n (pc := 16) hX 3 dX11_rate_16 rfl rfl ?_
      refine z_iload_n (pc := 17) hX 2 dX11_rate_17 rfl rfl ?_
      refine z_icmp_le (pc := 18) hX 37 dX11_rate_18 (by decide) (fun h9 => ?_) (fun h9 => ?_)
      · refine z_bipush (pc := 37) hX dX11_rate_37 ?_
        exact z_iret (pc := 39) hX hR hk dX11_rate_39
      · refine z_iload_n (pc := 21) hX 3 dX11_rate_21 rfl rfl ?_
        refine z_bipush (pc := 22) hX dX11_rate_22 ?_
        refine z_icmp_gt (pc := 24) hX 37 dX11_rate_24 (by decide) (fun h10 => ?_) (fun h10 => ?_)
        · refine z_bipush (pc := 37) hX dX11_rate_37 ?_
          exact z_iret (pc := 39) hX hR hk dX11_rate_39
        · refine z_iload (pc := 27) hX 4 dX11_rate_27 rfl ?_
          refine z_bipush (pc := 29) hX dX11_rate_29 ?_
          refine z_callS (n := 2) (st := []) (pc := 31) hX (mX11_within _ hE _ _ _ _) ⟨wd329, wd61, wd331, ⟨by decide, by decide, by decide⟩, by decide⟩ wd330 rfl rfl (by decide) (Nat.le_of_ble_eq_true rfl) dX11_rate_31 (fun v11 s12 r13 => ?_)
          show Zj X G 34 [(0, (2, a0)), (1, (0, a1)), (2, (0, a2)), (3, (0, a3)), (4, (0, a4))] [(0, v11)] _ _
          refine z_if_ne (pc := 34) hX 40 dX11_rate_34 (by decide) (fun h14 => ?_) (fun h14 => ?_)
          · refine z_aload_n (pc := 40) hX 0 dX11_rate_40 rfl rfl ?_
            refine z_get (pc := 41) hX zc11 1 (by decide) wd271 rfl rfl dX11_rate_41 (fun v15 => ?_)
            refine z_get (pc := 44) hX zc5 0 (by decide) wd106 rfl rfl dX11_rate_44 (fun v16 => ?_)
            refine z_iload_n (pc := 47) hX 1 dX11_rate_47 rfl rfl ?_
            refine z_aald (pc := 48) hX 2 102 (by decide) rfl rfl dX11_rate_48 (fun v17 => ?_)
            refine z_iload_n (pc := 49) hX 2 dX11_rate_49 rfl rfl ?_
            refine z_iald (pc := 50) hX dX11_rate_50 (fun v18 => ?_)
            refine z_istore (lv' := [(5, (0, v18)), (0, (2, a0)), (1, (0, a1)), (2, (0, a2)), (3, (0, a3)), (4, (0, a4))]) (pc := 51) hX dX11_rate_51 (zlt hxn rfl) rfl ?_
            refine z_iload_n (pc := 53) hX 3 dX11_rate_53 rfl rfl ?_
            refine z_istore (lv' := [(6, (0, a2)), (5, (0, v18)), (0, (2, a0)), (1, (0, a1)), (2, (0, a2)), (3, (0, a3)), (4, (0, a4))]) (pc := 54) hX dX11_rate_54 (zlt hxn rfl) rfl ?_
            have hl56 : ∀ (u20 u21 u22 u23 u24 : Int), ∀ (n1 : Nat) (s19 : ZS) (x25 : Int), Zj X G 56 [(0, (2, u20)), (1, (0, u21)), (3, (0, u22)), (4, (0, u23)), (5, (0, u24)), (6, (0, x25))] [] s19 (lX11_rate_56 u20 u21 u22 u23 u24 n1 s19 x25) := by
              intro u20 u21 u22 u23 u24 n1
              induction n1 with
              | zero => intro _ _; exact z_none
              | succ n1 ih1 =>
                intro s19 x25
                rw [lX11_rate_56]
                refine z_iload (pc := 56) hX 5 dX11_rate_56 rfl ?_
                refine z_iload_n (pc := 58) hX 2 dX11_rate_58 rfl rfl ?_
                refine z_icmp_ge (pc := 59) hX 82 dX11_rate_59 (by decide) (fun h26 => ?_) (fun h26 => ?_)
                · refine z_iload (pc := 82) hX 4 dX11_rate_82 rfl ?_
                  exact z_iret (pc := 84) hX hR hk dX11_rate_84
                · refine z_aload_n (pc := 62) hX 0 dX11_rate_62 rfl rfl ?_
                  refine z_get (pc := 63) hX zc11 1 (by decide) wd271 rfl rfl dX11_rate_63 (fun v27 => ?_)
                  refine z_get (pc := 66) hX zc5 0 (by decide) wd106 rfl rfl dX11_rate_66 (fun v28 => ?_)
                  refine z_iload_n (pc := 69) hX 1 dX11_rate_69 rfl rfl ?_
                  refine z_aald (pc := 70) hX 2 102 (by decide) rfl rfl dX11_rate_70 (fun v29 => ?_)
                  refine z_iload (pc := 71) hX 5 dX11_rate_71 rfl ?_
                  refine z_iload (pc := 73) hX 3 dX11_rate_73 rfl ?_
                  refine z_iastA (pc := 75) hX dX11_rate_75 (fun s30 => ?_)
                  refine z_iinc (lv' := [(6, (0, (wrap (x25 + 1)))), (0, (2, u20)), (1, (0, u21)), (3, (0, u22)), (4, (0, u23)), (5, (0, u24))]) (pc := 76) hX 5 dX11_rate_76 rfl (zlt hxn rfl) rfl ?_
                  refine z_goto (pc := 79) hX 56 dX11_rate_79 (by decide) ?_
                  refine z_pick (lv' := [(0, (2, u20)), (1, (0, u21)), (3, (0, u22)), (4, (0, u23)), (5, (0, u24)), (6, (0, (wrap (x25 + 1))))]) [1, 2, 3, 4, 5, 0] rfl ?_
                  exact ih1 _ _
            refine z_pick (lv' := [(0, (2, a0)), (1, (0, a1)), (3, (0, a3)), (4, (0, a4)), (5, (0, v18)), (6, (0, a2))]) [2, 3, 5, 6, 1, 0] rfl ?_
            refine hl56 _ _ _ _ _ 1000 _ _
          · refine z_bipush (pc := 37) hX dX11_rate_37 ?_
            exact z_iret (pc := 39) hX hR hk dX11_rate_39
    · refine z_iconst (pc := 14) hX dX11_rate_14 ?_
      exact z_iret (pc := 15) hX hR hk dX11_rate_15

theorem dX12_in_0 : decode cX12_in 0 = .ok (.iload_n 0, 1) := by decide +kernel
theorem dX12_in_1 : decode cX12_in 1 = .ok (.iload_n 1, 1) := by decide +kernel
theorem dX12_in_2 : decode cX12_in 2 = .ok (.if_icmp .lt 12, 3) := by decide +kernel
theorem dX12_in_5 : decode cX12_in 5 = .ok (.iload_n 0, 1) := by decide +kernel
theorem dX12_in_6 : decode cX12_in 6 = .ok (.iload_n 2, 1) := by decide +kernel
theorem dX12_in_7 : decode cX12_in 7 = .ok (.if_icmp .gt 7, 3) := by decide +kernel
theorem dX12_in_10 : decode cX12_in 10 = .ok (.iconst 1, 1) := by decide +kernel
theorem dX12_in_11 : decode cX12_in 11 = .ok (.goto 4, 3) := by decide +kernel
theorem dX12_in_14 : decode cX12_in 14 = .ok (.iconst 0, 1) := by decide +kernel
theorem dX12_in_15 : decode cX12_in 15 = .ok (.ireturn, 1) := by decide +kernel
def fX12_in (s0 : ZS) (a0 : Int) (a1 : Int) (a2 : Int) : Option (Int × ZS) := if a0 < a1 then (some (0, s0)) else (if a2 < a0 then (some (0, s0)) else (some (1, s0)))
set_option maxHeartbeats 4000000 in
set_option maxRecDepth 100000 in
theorem mX12_in (E : ZE) (hE : zOkE E) (l : Launch) (s0 : ZS) (a0 : Int) (a1 : Int) (a2 : Int) : Ct E l yX12_in cX12_in 3 (some .boolean) 2 [(0, a0), (0, a1), (0, a2)] 4 s0 (fX12_in s0 a0 a1 a2) := by
  refine Ct.of (by decide) hE (Nat.le_of_ble_eq_true rfl) ?_
  intro X G hX hR hN hXE hXl hxn hk _
  subst hXE
  subst hXl
  have hX : G → ZOk X cX12_in RX12 2 := hX
  clear hN
  show Zj X G 0 [(0, (0, a0)), (1, (0, a1)), (2, (0, a2))] [] s0 _
  unfold fX12_in
  refine z_iload_n (pc := 0) hX 0 dX12_in_0 rfl rfl ?_
  refine z_iload_n (pc := 1) hX 1 dX12_in_1 rfl rfl ?_
  refine z_icmp_lt (pc := 2) hX 14 dX12_in_2 (by decide) (fun h1 => ?_) (fun h1 => ?_)
  · refine z_iconst (pc := 14) hX dX12_in_14 ?_
    exact z_zret (pc := 15) hX hR hk dX12_in_15 (Or.inl rfl)
  · refine z_iload_n (pc := 5) hX 0 dX12_in_5 rfl rfl ?_
    refine z_iload_n (pc := 6) hX 2 dX12_in_6 rfl rfl ?_
    refine z_icmp_gt (pc := 7) hX 14 dX12_in_7 (by decide) (fun h2 => ?_) (fun h2 => ?_)
    · refine z_iconst (pc := 14) hX dX12_in_14 ?_
      exact z_zret (pc := 15) hX hR hk dX12_in_15 (Or.inl rfl)
    · refine z_iconst (pc := 10) hX dX12_in_10 ?_
      refine z_goto (pc := 11) hX 15 dX12_in_11 (by decide) ?_
      exact z_zret (pc := 15) hX hR hk dX12_in_15 (Or.inr rfl)

theorem dX12_isGate_0 : decode cX12_isGate 0 = .ok (.iload_n 0, 1) := by decide +kernel
theorem dX12_isGate_1 : decode cX12_isGate 1 = .ok (.iconst 0, 1) := by decide +kernel
theorem dX12_isGate_2 : decode cX12_isGate 2 = .ok (.iconst 1, 1) := by decide +kernel
theorem dX12_isGate_3 : decode cX12_isGate 3 = .ok (.invokestatic 127, 3) := by decide +kernel
theorem dX12_isGate_6 : decode cX12_isGate 6 = .ok (.ifCond .eq 17, 3) := by decide +kernel
theorem dX12_isGate_9 : decode cX12_isGate 9 = .ok (.iload_n 1, 1) := by decide +kernel
theorem dX12_isGate_10 : decode cX12_isGate 10 = .ok (.iconst 0, 1) := by decide +kernel
theorem dX12_isGate_11 : decode cX12_isGate 11 = .ok (.bipush 23, 2) := by decide +kernel
theorem dX12_isGate_13 : decode cX12_isGate 13 = .ok (.invokestatic 127, 3) := by decide +kernel
theorem dX12_isGate_16 : decode cX12_isGate 16 = .ok (.ifCond .eq 7, 3) := by decide +kernel
theorem dX12_isGate_19 : decode cX12_isGate 19 = .ok (.iconst 1, 1) := by decide +kernel
theorem dX12_isGate_20 : decode cX12_isGate 20 = .ok (.goto 4, 3) := by decide +kernel
theorem dX12_isGate_23 : decode cX12_isGate 23 = .ok (.iconst 0, 1) := by decide +kernel
theorem dX12_isGate_24 : decode cX12_isGate 24 = .ok (.ireturn, 1) := by decide +kernel
def fX12_isGate (s0 : ZS) (a0 : Int) (a1 : Int) : Option (Int × ZS) := zb (fX12_in s0 a0 0 1) (fun v1 s2 => if v1 = 0 then (some (0, s2)) else (zb (fX12_in s2 a1 0 23) (fun v5 s6 => if v5 = 0 then (some (0, s6)) else (some (1, s6)))))
set_option maxHeartbeats 4000000 in
set_option maxRecDepth 100000 in
theorem mX12_isGate (E : ZE) (hE : zOkE E) (l : Launch) (s0 : ZS) (a0 : Int) (a1 : Int) : Ct E l yX12_isGate cX12_isGate 2 (some .boolean) 4 [(0, a0), (0, a1)] 4 s0 (fX12_isGate s0 a0 a1) := by
  refine Ct.of (by decide) hE (Nat.le_of_ble_eq_true rfl) ?_
  intro X G hX hR hN hXE hXl hxn hk _
  subst hXE
  subst hXl
  have hX : G → ZOk X cX12_isGate RX12 4 := hX
  clear hN
  show Zj X G 0 [(0, (0, a0)), (1, (0, a1))] [] s0 _
  unfold fX12_isGate
  refine z_iload_n (pc := 0) hX 0 dX12_isGate_0 rfl rfl ?_
  refine z_iconst (pc := 1) hX dX12_isGate_1 ?_
  refine z_iconst (pc := 2) hX dX12_isGate_2 ?_
  refine z_callS (n := 3) (st := []) (pc := 3) hX (mX12_in _ hE _ _ _ _ _) ⟨wd1173, wd67, wd1175, ⟨by decide, by decide, by decide⟩, by decide⟩ wd1174 rfl rfl (by decide) (Nat.le_of_ble_eq_true rfl) dX12_isGate_3 (fun v1 s2 r3 => ?_)
  show Zj X G 6 [(0, (0, a0)), (1, (0, a1))] [(0, v1)] _ _
  refine z_if_eq (pc := 6) hX 23 dX12_isGate_6 (by decide) (fun h4 => ?_) (fun h4 => ?_)
  · refine z_iconst (pc := 23) hX dX12_isGate_23 ?_
    exact z_zret (pc := 24) hX hR hk dX12_isGate_24 (Or.inl rfl)
  · refine z_iload_n (pc := 9) hX 1 dX12_isGate_9 rfl rfl ?_
    refine z_iconst (pc := 10) hX dX12_isGate_10 ?_
    refine z_bipush (pc := 11) hX dX12_isGate_11 ?_
    refine z_callS (n := 3) (st := []) (pc := 13) hX (mX12_in _ hE _ _ _ _ _) ⟨wd1173, wd67, wd1175, ⟨by decide, by decide, by decide⟩, by decide⟩ wd1174 rfl rfl (by decide) (Nat.le_of_ble_eq_true rfl) dX12_isGate_13 (fun v5 s6 r7 => ?_)
    show Zj X G 16 [(0, (0, a0)), (1, (0, a1))] [(0, v5)] _ _
    refine z_if_eq (pc := 16) hX 23 dX12_isGate_16 (by decide) (fun h8 => ?_) (fun h8 => ?_)
    · refine z_iconst (pc := 23) hX dX12_isGate_23 ?_
      exact z_zret (pc := 24) hX hR hk dX12_isGate_24 (Or.inl rfl)
    · refine z_iconst (pc := 19) hX dX12_isGate_19 ?_
      refine z_goto (pc := 20) hX 24 dX12_isGate_20 (by decide) ?_
      exact z_zret (pc := 24) hX hR hk dX12_isGate_24 (Or.inr rfl)

theorem dX12_rate_0 : decode cX12_rate 0 = .ok (.iload_n 1, 1) := by decide +kernel
theorem dX12_rate_1 : decode cX12_rate 1 = .ok (.iload_n 2, 1) := by decide +kernel
theorem dX12_rate_2 : decode cX12_rate 2 = .ok (.invokestatic 131, 3) := by decide +kernel
theorem dX12_rate_5 : decode cX12_rate 5 = .ok (.ifCond .ne 5, 3) := by decide +kernel
theorem dX12_rate_8 : decode cX12_rate 8 = .ok (.iconst (-1), 1) := by decide +kernel
theorem dX12_rate_9 : decode cX12_rate 9 = .ok (.ireturn, 1) := by decide +kernel
theorem dX12_rate_10 : decode cX12_rate 10 = .ok (.iload_n 3, 1) := by decide +kernel
theorem dX12_rate_11 : decode cX12_rate 11 = .ok (.iload_n 2, 1) := by decide +kernel
theorem dX12_rate_12 : decode cX12_rate 12 = .ok (.iconst 1, 1) := by decide +kernel
theorem dX12_rate_13 : decode cX12_rate 13 = .ok (.iadd, 1) := by decide +kernel
theorem dX12_rate_14 : decode cX12_rate 14 = .ok (.bipush 24, 2) := by decide +kernel
theorem dX12_rate_16 : decode cX12_rate 16 = .ok (.invokestatic 127, 3) := by decide +kernel
theorem dX12_rate_19 : decode cX12_rate 19 = .ok (.ifCond .eq 14, 3) := by decide +kernel
theorem dX12_rate_22 : decode cX12_rate 22 = .ok (.iload 4, 2) := by decide +kernel
theorem dX12_rate_24 : decode cX12_rate 24 = .ok (.iconst 0, 1) := by decide +kernel
theorem dX12_rate_25 : decode cX12_rate 25 = .ok (.bipush 9, 2) := by decide +kernel
theorem dX12_rate_27 : decode cX12_rate 27 = .ok (.invokestatic 127, 3) := by decide +kernel
theorem dX12_rate_30 : decode cX12_rate 30 = .ok (.ifCond .ne 6, 3) := by decide +kernel
theorem dX12_rate_33 : decode cX12_rate 33 = .ok (.bipush (-2), 2) := by decide +kernel
theorem dX12_rate_35 : decode cX12_rate 35 = .ok (.ireturn, 1) := by decide +kernel
theorem dX12_rate_36 : decode cX12_rate 36 = .ok (.aload_n 0, 1) := by decide +kernel
theorem dX12_rate_37 : decode cX12_rate 37 = .ok (.getfield 7, 3) := by decide +kernel
theorem dX12_rate_40 : decode cX12_rate 40 = .ok (.bipush 24, 2) := by decide +kernel
theorem dX12_rate_42 : decode cX12_rate 42 = .ok (.iload_n 1, 1) := by decide +kernel
theorem dX12_rate_43 : decode cX12_rate 43 = .ok (.imul, 1) := by decide +kernel
theorem dX12_rate_44 : decode cX12_rate 44 = .ok (.iload_n 2, 1) := by decide +kernel
theorem dX12_rate_45 : decode cX12_rate 45 = .ok (.iadd, 1) := by decide +kernel
theorem dX12_rate_46 : decode cX12_rate 46 = .ok (.iaload, 1) := by decide +kernel
theorem dX12_rate_47 : decode cX12_rate 47 = .ok (.istore 5, 2) := by decide +kernel
theorem dX12_rate_49 : decode cX12_rate 49 = .ok (.iload_n 2, 1) := by decide +kernel
theorem dX12_rate_50 : decode cX12_rate 50 = .ok (.istore 6, 2) := by decide +kernel
theorem dX12_rate_52 : decode cX12_rate 52 = .ok (.iload 6, 2) := by decide +kernel
theorem dX12_rate_54 : decode cX12_rate 54 = .ok (.iload_n 3, 1) := by decide +kernel
theorem dX12_rate_55 : decode cX12_rate 55 = .ok (.if_icmp .ge 23, 3) := by decide +kernel
theorem dX12_rate_58 : decode cX12_rate 58 = .ok (.aload_n 0, 1) := by decide +kernel
theorem dX12_rate_59 : decode cX12_rate 59 = .ok (.getfield 7, 3) := by decide +kernel
theorem dX12_rate_62 : decode cX12_rate 62 = .ok (.bipush 24, 2) := by decide +kernel
theorem dX12_rate_64 : decode cX12_rate 64 = .ok (.iload_n 1, 1) := by decide +kernel
theorem dX12_rate_65 : decode cX12_rate 65 = .ok (.imul, 1) := by decide +kernel
theorem dX12_rate_66 : decode cX12_rate 66 = .ok (.iload 6, 2) := by decide +kernel
theorem dX12_rate_68 : decode cX12_rate 68 = .ok (.iadd, 1) := by decide +kernel
theorem dX12_rate_69 : decode cX12_rate 69 = .ok (.iload 4, 2) := by decide +kernel
theorem dX12_rate_71 : decode cX12_rate 71 = .ok (.iastore, 1) := by decide +kernel
theorem dX12_rate_72 : decode cX12_rate 72 = .ok (.iinc 6 1, 3) := by decide +kernel
theorem dX12_rate_75 : decode cX12_rate 75 = .ok (.goto (-23), 3) := by decide +kernel
theorem dX12_rate_78 : decode cX12_rate 78 = .ok (.iload 5, 2) := by decide +kernel
theorem dX12_rate_80 : decode cX12_rate 80 = .ok (.ireturn, 1) := by decide +kernel
def lX12_rate_52 (u16 u17 u18 u19 u20 : Int)  : Nat → ZS → Int → Option (Int × ZS)
  | 0, _, _ => none
  | n1 + 1, s15, x21 => if u18 ≤ x21 then (some (u20, s15)) else ((zg s15 12 u16 0).bind (fun v23 => (zas s15 100 v23 (wrap ((wrap (24 * u17)) + x21)) u19).bind (fun s24 => lX12_rate_52 u16 u17 u18 u19 u20 n1 s24 (wrap (x21 + 1)))))

def fX12_rate (s0 : ZS) (a0 : Int) (a1 : Int) (a2 : Int) (a3 : Int) (a4 : Int) : Option (Int × ZS) := zb (fX12_isGate s0 a1 a2) (fun v1 s2 => if v1 = 0 then (some ((-1), s2)) else (zb (fX12_in s2 a3 (wrap (a2 + 1)) 24) (fun v5 s6 => if v5 = 0 then (some ((-2), s6)) else (zb (fX12_in s6 a4 0 9) (fun v9 s10 => if v9 = 0 then (some ((-2), s10)) else ((zg s10 12 a0 0).bind (fun v13 => (zal s10 100 v13 (wrap ((wrap (24 * a1)) + a2))).bind (fun v14 => lX12_rate_52 a0 a1 a3 a4 v14 1000 s10 a2))))))))
set_option maxHeartbeats 4000000 in
set_option maxRecDepth 100000 in
theorem mX12_rate (E : ZE) (hE : zOkE E) (l : Launch) (s0 : ZS) (a0 : Int) (a1 : Int) (a2 : Int) (a3 : Int) (a4 : Int) : Ct E l yX12_rate cX12_rate 7 (some .int) 6 [(2, a0), (0, a1), (0, a2), (0, a3), (0, a4)] 1 s0 (fX12_rate s0 a0 a1 a2 a3 a4) := by
  refine Ct.of (by decide) hE (Nat.le_of_ble_eq_true rfl) ?_
  intro X G hX hR hN hXE hXl hxn hk _
  subst hXE
  subst hXl
  have hX : G → ZOk X cX12_rate RX12 6 := hX
  clear hN
  show Zj X G 0 [(0, (2, a0)), (1, (0, a1)), (2, (0, a2)), (3, (0, a3)), (4, (0, a4))] [] s0 _
  unfold fX12_rate
  refine z_iload_n (pc := 0) hX 1 dX12_rate_0 rfl rfl ?_
  refine z_iload_n (pc := 1) hX 2 dX12_rate_1 rfl rfl ?_
  refine z_callS (n := 2) (st := []) (pc := 2) hX (mX12_isGate _ hE _ _ _ _) ⟨wd1170, wd67, wd1172, ⟨by decide, by decide, by decide⟩, by decide⟩ wd1171 rfl rfl (by decide) (Nat.le_of_ble_eq_true rfl) dX12_rate_2 (fun v1 s2 r3 => ?_)
  show Zj X G 5 [(0, (2, a0)), (1, (0, a1)), (2, (0, a2)), (3, (0, a3)), (4, (0, a4))] [(0, v1)] _ _
  refine z_if_ne (pc := 5) hX 10 dX12_rate_5 (by decide) (fun h4 => ?_) (fun h4 => ?_)
  · refine z_iload_n (pc := 10) hX 3 dX12_rate_10 rfl rfl ?_
    refine z_iload_n (pc := 11) hX 2 dX12_rate_11 rfl rfl ?_
    refine z_iconst (pc := 12) hX dX12_rate_12 ?_
    refine z_iadd (pc := 13) hX dX12_rate_13 ?_
    refine z_bipush (pc := 14) hX dX12_rate_14 ?_
    refine z_callS (n := 3) (st := []) (pc := 16) hX (mX12_in _ hE _ _ _ _ _) ⟨wd1173, wd67, wd1175, ⟨by decide, by decide, by decide⟩, by decide⟩ wd1174 rfl rfl (by decide) (Nat.le_of_ble_eq_true rfl) dX12_rate_16 (fun v5 s6 r7 => ?_)
    show Zj X G 19 [(0, (2, a0)), (1, (0, a1)), (2, (0, a2)), (3, (0, a3)), (4, (0, a4))] [(0, v5)] _ _
    refine z_if_eq (pc := 19) hX 33 dX12_rate_19 (by decide) (fun h8 => ?_) (fun h8 => ?_)
    · refine z_bipush (pc := 33) hX dX12_rate_33 ?_
      exact z_iret (pc := 35) hX hR hk dX12_rate_35
    · refine z_iload (pc := 22) hX 4 dX12_rate_22 rfl ?_
      refine z_iconst (pc := 24) hX dX12_rate_24 ?_
      refine z_bipush (pc := 25) hX dX12_rate_25 ?_
      refine z_callS (n := 3) (st := []) (pc := 27) hX (mX12_in _ hE _ _ _ _ _) ⟨wd1173, wd67, wd1175, ⟨by decide, by decide, by decide⟩, by decide⟩ wd1174 rfl rfl (by decide) (Nat.le_of_ble_eq_true rfl) dX12_rate_27 (fun v9 s10 r11 => ?_)
      show Zj X G 30 [(0, (2, a0)), (1, (0, a1)), (2, (0, a2)), (3, (0, a3)), (4, (0, a4))] [(0, v9)] _ _
      refine z_if_ne (pc := 30) hX 36 dX12_rate_30 (by decide) (fun h12 => ?_) (fun h12 => ?_)
      · refine z_aload_n (pc := 36) hX 0 dX12_rate_36 rfl rfl ?_
        refine z_get (pc := 37) hX zc12 0 (by decide) wd1017 rfl rfl dX12_rate_37 (fun v13 => ?_)
        refine z_bipush (pc := 40) hX dX12_rate_40 ?_
        refine z_iload_n (pc := 42) hX 1 dX12_rate_42 rfl rfl ?_
        refine z_imul (pc := 43) hX dX12_rate_43 ?_
        refine z_iload_n (pc := 44) hX 2 dX12_rate_44 rfl rfl ?_
        refine z_iadd (pc := 45) hX dX12_rate_45 ?_
        refine z_iald (pc := 46) hX dX12_rate_46 (fun v14 => ?_)
        refine z_istore (lv' := [(5, (0, v14)), (0, (2, a0)), (1, (0, a1)), (2, (0, a2)), (3, (0, a3)), (4, (0, a4))]) (pc := 47) hX dX12_rate_47 (zlt hxn rfl) rfl ?_
        refine z_iload_n (pc := 49) hX 3 dX12_rate_49 rfl rfl ?_
        refine z_istore (lv' := [(6, (0, a2)), (5, (0, v14)), (0, (2, a0)), (1, (0, a1)), (2, (0, a2)), (3, (0, a3)), (4, (0, a4))]) (pc := 50) hX dX12_rate_50 (zlt hxn rfl) rfl ?_
        have hl52 : ∀ (u16 u17 u18 u19 u20 : Int), ∀ (n1 : Nat) (s15 : ZS) (x21 : Int), Zj X G 52 [(0, (2, u16)), (1, (0, u17)), (3, (0, u18)), (4, (0, u19)), (5, (0, u20)), (6, (0, x21))] [] s15 (lX12_rate_52 u16 u17 u18 u19 u20 n1 s15 x21) := by
          intro u16 u17 u18 u19 u20 n1
          induction n1 with
          | zero => intro _ _; exact z_none
          | succ n1 ih1 =>
            intro s15 x21
            rw [lX12_rate_52]
            refine z_iload (pc := 52) hX 5 dX12_rate_52 rfl ?_
            refine z_iload_n (pc := 54) hX 2 dX12_rate_54 rfl rfl ?_
            refine z_icmp_ge (pc := 55) hX 78 dX12_rate_55 (by decide) (fun h22 => ?_) (fun h22 => ?_)
            · refine z_iload (pc := 78) hX 4 dX12_rate_78 rfl ?_
              exact z_iret (pc := 80) hX hR hk dX12_rate_80
            · refine z_aload_n (pc := 58) hX 0 dX12_rate_58 rfl rfl ?_
              refine z_get (pc := 59) hX zc12 0 (by decide) wd1017 rfl rfl dX12_rate_59 (fun v23 => ?_)
              refine z_bipush (pc := 62) hX dX12_rate_62 ?_
              refine z_iload_n (pc := 64) hX 1 dX12_rate_64 rfl rfl ?_
              refine z_imul (pc := 65) hX dX12_rate_65 ?_
              refine z_iload (pc := 66) hX 5 dX12_rate_66 rfl ?_
              refine z_iadd (pc := 68) hX dX12_rate_68 ?_
              refine z_iload (pc := 69) hX 3 dX12_rate_69 rfl ?_
              refine z_iastA (pc := 71) hX dX12_rate_71 (fun s24 => ?_)
              refine z_iinc (lv' := [(6, (0, (wrap (x21 + 1)))), (0, (2, u16)), (1, (0, u17)), (3, (0, u18)), (4, (0, u19)), (5, (0, u20))]) (pc := 72) hX 5 dX12_rate_72 rfl (zlt hxn rfl) rfl ?_
              refine z_goto (pc := 75) hX 52 dX12_rate_75 (by decide) ?_
              refine z_pick (lv' := [(0, (2, u16)), (1, (0, u17)), (3, (0, u18)), (4, (0, u19)), (5, (0, u20)), (6, (0, (wrap (x21 + 1))))]) [1, 2, 3, 4, 5, 0] rfl ?_
              exact ih1 _ _
        refine z_pick (lv' := [(0, (2, a0)), (1, (0, a1)), (3, (0, a3)), (4, (0, a4)), (5, (0, v14)), (6, (0, a2))]) [2, 3, 5, 6, 1, 0] rfl ?_
        refine hl52 _ _ _ _ _ 1000 _ _
      · refine z_bipush (pc := 33) hX dX12_rate_33 ?_
        exact z_iret (pc := 35) hX hR hk dX12_rate_35
  · refine z_iconst (pc := 8) hX dX12_rate_8 ?_
    exact z_iret (pc := 9) hX hR hk dX12_rate_9

theorem dX11_toll_0 : decode cX11_toll 0 = .ok (.iload_n 1, 1) := by decide +kernel
theorem dX11_toll_1 : decode cX11_toll 1 = .ok (.invokestatic 95, 3) := by decide +kernel
theorem dX11_toll_4 : decode cX11_toll 4 = .ok (.ifCond .eq 10, 3) := by decide +kernel
theorem dX11_toll_7 : decode cX11_toll 7 = .ok (.iload_n 2, 1) := by decide +kernel
theorem dX11_toll_8 : decode cX11_toll 8 = .ok (.invokestatic 99, 3) := by decide +kernel
theorem dX11_toll_11 : decode cX11_toll 11 = .ok (.ifCond .ne 5, 3) := by decide +kernel
theorem dX11_toll_14 : decode cX11_toll 14 = .ok (.iconst (-1), 1) := by decide +kernel
theorem dX11_toll_15 : decode cX11_toll 15 = .ok (.ireturn, 1) := by decide +kernel
theorem dX11_toll_16 : decode cX11_toll 16 = .ok (.iload_n 3, 1) := by decide +kernel
theorem dX11_toll_17 : decode cX11_toll 17 = .ok (.bipush 99, 2) := by decide +kernel
theorem dX11_toll_19 : decode cX11_toll 19 = .ok (.invokestatic 102, 3) := by decide +kernel
theorem dX11_toll_22 : decode cX11_toll 22 = .ok (.ifCond .ne 6, 3) := by decide +kernel
theorem dX11_toll_25 : decode cX11_toll 25 = .ok (.bipush (-2), 2) := by decide +kernel
theorem dX11_toll_27 : decode cX11_toll 27 = .ok (.ireturn, 1) := by decide +kernel
theorem dX11_toll_28 : decode cX11_toll 28 = .ok (.aload_n 0, 1) := by decide +kernel
theorem dX11_toll_29 : decode cX11_toll 29 = .ok (.getfield 20, 3) := by decide +kernel
theorem dX11_toll_32 : decode cX11_toll 32 = .ok (.getfield 110, 3) := by decide +kernel
theorem dX11_toll_35 : decode cX11_toll 35 = .ok (.iload_n 1, 1) := by decide +kernel
theorem dX11_toll_36 : decode cX11_toll 36 = .ok (.aaload, 1) := by decide +kernel
theorem dX11_toll_37 : decode cX11_toll 37 = .ok (.iload_n 2, 1) := by decide +kernel
theorem dX11_toll_38 : decode cX11_toll 38 = .ok (.iaload, 1) := by decide +kernel
theorem dX11_toll_39 : decode cX11_toll 39 = .ok (.istore 4, 2) := by decide +kernel
theorem dX11_toll_41 : decode cX11_toll 41 = .ok (.aload_n 0, 1) := by decide +kernel
theorem dX11_toll_42 : decode cX11_toll 42 = .ok (.getfield 20, 3) := by decide +kernel
theorem dX11_toll_45 : decode cX11_toll 45 = .ok (.getfield 110, 3) := by decide +kernel
theorem dX11_toll_48 : decode cX11_toll 48 = .ok (.iload_n 1, 1) := by decide +kernel
theorem dX11_toll_49 : decode cX11_toll 49 = .ok (.aaload, 1) := by decide +kernel
theorem dX11_toll_50 : decode cX11_toll 50 = .ok (.iload_n 2, 1) := by decide +kernel
theorem dX11_toll_51 : decode cX11_toll 51 = .ok (.iload_n 3, 1) := by decide +kernel
theorem dX11_toll_52 : decode cX11_toll 52 = .ok (.iastore, 1) := by decide +kernel
theorem dX11_toll_53 : decode cX11_toll 53 = .ok (.iload 4, 2) := by decide +kernel
theorem dX11_toll_55 : decode cX11_toll 55 = .ok (.ireturn, 1) := by decide +kernel
def fX11_toll (s0 : ZS) (a0 : Int) (a1 : Int) (a2 : Int) (a3 : Int) : Option (Int × ZS) := zb (fX11_isGate s0 a1) (fun v1 s2 => if v1 = 0 then (some ((-1), s2)) else (zb (fX11_isMinute s2 a2) (fun v5 s6 => if v5 = 0 then (some ((-1), s6)) else (zb (fX11_within s6 a3 99) (fun v9 s10 => if v9 = 0 then (some ((-2), s10)) else ((zg s10 11 a0 1).bind (fun v13 => (zg s10 5 v13 1).bind (fun v14 => (zal s10 102 v14 a1).bind (fun v15 => (zal s10 100 v15 a2).bind (fun v16 => (zg s10 11 a0 1).bind (fun v17 => (zg s10 5 v17 1).bind (fun v18 => (zal s10 102 v18 a1).bind (fun v19 => (zas s10 100 v19 a2 a3).bind (fun s20 => some (v16, s20)))))))))))))))
set_option maxHeartbeats 4000000 in
set_option maxRecDepth 100000 in
theorem mX11_toll (E : ZE) (hE : zOkE E) (l : Launch) (s0 : ZS) (a0 : Int) (a1 : Int) (a2 : Int) (a3 : Int) : Ct E l yX11_toll cX11_toll 5 (some .int) 6 [(2, a0), (0, a1), (0, a2), (0, a3)] 1 s0 (fX11_toll s0 a0 a1 a2 a3) := by
  refine Ct.of (by decide) hE (Nat.le_of_ble_eq_true rfl) ?_
  intro X G hX hR hN hXE hXl hxn hk _
  subst hXE
  subst hXl
  have hX : G → ZOk X cX11_toll RX11 6 := hX
  clear hN
  show Zj X G 0 [(0, (2, a0)), (1, (0, a1)), (2, (0, a2)), (3, (0, a3))] [] s0 _
  unfold fX11_toll
  refine z_iload_n (pc := 0) hX 1 dX11_toll_0 rfl rfl ?_
  refine z_callS (n := 1) (st := []) (pc := 1) hX (mX11_isGate _ hE _ _ _) ⟨wd326, wd61, wd328, ⟨by decide, by decide, by decide⟩, by decide⟩ wd327 rfl rfl (by decide) (Nat.le_of_ble_eq_true rfl) dX11_toll_1 (fun v1 s2 r3 => ?_)
  show Zj X G 4 [(0, (2, a0)), (1, (0, a1)), (2, (0, a2)), (3, (0, a3))] [(0, v1)] _ _
  refine z_if_eq (pc := 4) hX 14 dX11_toll_4 (by decide) (fun h4 => ?_) (fun h4 => ?_)
  · refine z_iconst (pc := 14) hX dX11_toll_14 ?_
    exact z_iret (pc := 15) hX hR hk dX11_toll_15
  · refine z_iload_n (pc := 7) hX 2 dX11_toll_7 rfl rfl ?_
    refine z_callS (n := 1) (st := []) (pc := 8) hX (mX11_isMinute _ hE _ _ _) ⟨wd332, wd61, wd334, ⟨by decide, by decide, by decide⟩, by decide⟩ wd333 rfl rfl (by decide) (Nat.le_of_ble_eq_true rfl) dX11_toll_8 (fun v5 s6 r7 => ?_)
    show Zj X G 11 [(0, (2, a0)), (1, (0, a1)), (2, (0, a2)), (3, (0, a3))] [(0, v5)] _ _
    refine z_if_ne (pc := 11) hX 16 dX11_toll_11 (by decide) (fun h8 => ?_) (fun h8 => ?_)
    · refine z_iload_n (pc := 16) hX 3 dX11_toll_16 rfl rfl ?_
      refine z_bipush (pc := 17) hX dX11_toll_17 ?_
      refine z_callS (n := 2) (st := []) (pc := 19) hX (mX11_within _ hE _ _ _ _) ⟨wd329, wd61, wd331, ⟨by decide, by decide, by decide⟩, by decide⟩ wd330 rfl rfl (by decide) (Nat.le_of_ble_eq_true rfl) dX11_toll_19 (fun v9 s10 r11 => ?_)
      show Zj X G 22 [(0, (2, a0)), (1, (0, a1)), (2, (0, a2)), (3, (0, a3))] [(0, v9)] _ _
      refine z_if_ne (pc := 22) hX 28 dX11_toll_22 (by decide) (fun h12 => ?_) (fun h12 => ?_)
      · refine z_aload_n (pc := 28) hX 0 dX11_toll_28 rfl rfl ?_
        refine z_get (pc := 29) hX zc11 1 (by decide) wd271 rfl rfl dX11_toll_29 (fun v13 => ?_)
        refine z_get (pc := 32) hX zc5 1 (by decide) wd109 rfl rfl dX11_toll_32 (fun v14 => ?_)
        refine z_iload_n (pc := 35) hX 1 dX11_toll_35 rfl rfl ?_
        refine z_aald (pc := 36) hX 2 102 (by decide) rfl rfl dX11_toll_36 (fun v15 => ?_)
        refine z_iload_n (pc := 37) hX 2 dX11_toll_37 rfl rfl ?_
        refine z_iald (pc := 38) hX dX11_toll_38 (fun v16 => ?_)
        refine z_istore (lv' := [(4, (0, v16)), (0, (2, a0)), (1, (0, a1)), (2, (0, a2)), (3, (0, a3))]) (pc := 39) hX dX11_toll_39 (zlt hxn rfl) rfl ?_
        refine z_aload_n (pc := 41) hX 1 dX11_toll_41 rfl rfl ?_
        refine z_get (pc := 42) hX zc11 1 (by decide) wd271 rfl rfl dX11_toll_42 (fun v17 => ?_)
        refine z_get (pc := 45) hX zc5 1 (by decide) wd109 rfl rfl dX11_toll_45 (fun v18 => ?_)
        refine z_iload_n (pc := 48) hX 2 dX11_toll_48 rfl rfl ?_
        refine z_aald (pc := 49) hX 2 102 (by decide) rfl rfl dX11_toll_49 (fun v19 => ?_)
        refine z_iload_n (pc := 50) hX 3 dX11_toll_50 rfl rfl ?_
        refine z_iload_n (pc := 51) hX 4 dX11_toll_51 rfl rfl ?_
        refine z_iastA (pc := 52) hX dX11_toll_52 (fun s20 => ?_)
        refine z_iload (pc := 53) hX 0 dX11_toll_53 rfl ?_
        exact z_iret (pc := 55) hX hR hk dX11_toll_55
      · refine z_bipush (pc := 25) hX dX11_toll_25 ?_
        exact z_iret (pc := 27) hX hR hk dX11_toll_27
    · refine z_iconst (pc := 14) hX dX11_toll_14 ?_
      exact z_iret (pc := 15) hX hR hk dX11_toll_15

theorem dX12_toll_0 : decode cX12_toll 0 = .ok (.iload_n 1, 1) := by decide +kernel
theorem dX12_toll_1 : decode cX12_toll 1 = .ok (.iload_n 2, 1) := by decide +kernel
theorem dX12_toll_2 : decode cX12_toll 2 = .ok (.invokestatic 131, 3) := by decide +kernel
theorem dX12_toll_5 : decode cX12_toll 5 = .ok (.ifCond .ne 5, 3) := by decide +kernel
theorem dX12_toll_8 : decode cX12_toll 8 = .ok (.iconst (-1), 1) := by decide +kernel
theorem dX12_toll_9 : decode cX12_toll 9 = .ok (.ireturn, 1) := by decide +kernel
theorem dX12_toll_10 : decode cX12_toll 10 = .ok (.iload_n 3, 1) := by decide +kernel
theorem dX12_toll_11 : decode cX12_toll 11 = .ok (.iconst 0, 1) := by decide +kernel
theorem dX12_toll_12 : decode cX12_toll 12 = .ok (.bipush 99, 2) := by decide +kernel
theorem dX12_toll_14 : decode cX12_toll 14 = .ok (.invokestatic 127, 3) := by decide +kernel
theorem dX12_toll_17 : decode cX12_toll 17 = .ok (.ifCond .ne 6, 3) := by decide +kernel
theorem dX12_toll_20 : decode cX12_toll 20 = .ok (.bipush (-2), 2) := by decide +kernel
theorem dX12_toll_22 : decode cX12_toll 22 = .ok (.ireturn, 1) := by decide +kernel
theorem dX12_toll_23 : decode cX12_toll 23 = .ok (.aload_n 0, 1) := by decide +kernel
theorem dX12_toll_24 : decode cX12_toll 24 = .ok (.getfield 13, 3) := by decide +kernel
theorem dX12_toll_27 : decode cX12_toll 27 = .ok (.bipush 24, 2) := by decide +kernel
theorem dX12_toll_29 : decode cX12_toll 29 = .ok (.iload_n 1, 1) := by decide +kernel
theorem dX12_toll_30 : decode cX12_toll 30 = .ok (.imul, 1) := by decide +kernel
theorem dX12_toll_31 : decode cX12_toll 31 = .ok (.iload_n 2, 1) := by decide +kernel
theorem dX12_toll_32 : decode cX12_toll 32 = .ok (.iadd, 1) := by decide +kernel
theorem dX12_toll_33 : decode cX12_toll 33 = .ok (.iaload, 1) := by decide +kernel
theorem dX12_toll_34 : decode cX12_toll 34 = .ok (.istore 4, 2) := by decide +kernel
theorem dX12_toll_36 : decode cX12_toll 36 = .ok (.aload_n 0, 1) := by decide +kernel
theorem dX12_toll_37 : decode cX12_toll 37 = .ok (.getfield 13, 3) := by decide +kernel
theorem dX12_toll_40 : decode cX12_toll 40 = .ok (.bipush 24, 2) := by decide +kernel
theorem dX12_toll_42 : decode cX12_toll 42 = .ok (.iload_n 1, 1) := by decide +kernel
theorem dX12_toll_43 : decode cX12_toll 43 = .ok (.imul, 1) := by decide +kernel
theorem dX12_toll_44 : decode cX12_toll 44 = .ok (.iload_n 2, 1) := by decide +kernel
theorem dX12_toll_45 : decode cX12_toll 45 = .ok (.iadd, 1) := by decide +kernel
theorem dX12_toll_46 : decode cX12_toll 46 = .ok (.iload_n 3, 1) := by decide +kernel
theorem dX12_toll_47 : decode cX12_toll 47 = .ok (.iastore, 1) := by decide +kernel
theorem dX12_toll_48 : decode cX12_toll 48 = .ok (.iload 4, 2) := by decide +kernel
theorem dX12_toll_50 : decode cX12_toll 50 = .ok (.ireturn, 1) := by decide +kernel
def fX12_toll (s0 : ZS) (a0 : Int) (a1 : Int) (a2 : Int) (a3 : Int) : Option (Int × ZS) := zb (fX12_isGate s0 a1 a2) (fun v1 s2 => if v1 = 0 then (some ((-1), s2)) else (zb (fX12_in s2 a3 0 99) (fun v5 s6 => if v5 = 0 then (some ((-2), s6)) else ((zg s6 12 a0 1).bind (fun v9 => (zal s6 100 v9 (wrap ((wrap (24 * a1)) + a2))).bind (fun v10 => (zg s6 12 a0 1).bind (fun v11 => (zas s6 100 v11 (wrap ((wrap (24 * a1)) + a2)) a3).bind (fun s12 => some (v10, s12)))))))))
set_option maxHeartbeats 4000000 in
set_option maxRecDepth 100000 in
theorem mX12_toll (E : ZE) (hE : zOkE E) (l : Launch) (s0 : ZS) (a0 : Int) (a1 : Int) (a2 : Int) (a3 : Int) : Ct E l yX12_toll cX12_toll 5 (some .int) 6 [(2, a0), (0, a1), (0, a2), (0, a3)] 1 s0 (fX12_toll s0 a0 a1 a2 a3) := by
  refine Ct.of (by decide) hE (Nat.le_of_ble_eq_true rfl) ?_
  intro X G hX hR hN hXE hXl hxn hk _
  subst hXE
  subst hXl
  have hX : G → ZOk X cX12_toll RX12 6 := hX
  clear hN
  show Zj X G 0 [(0, (2, a0)), (1, (0, a1)), (2, (0, a2)), (3, (0, a3))] [] s0 _
  unfold fX12_toll
  refine z_iload_n (pc := 0) hX 1 dX12_toll_0 rfl rfl ?_
  refine z_iload_n (pc := 1) hX 2 dX12_toll_1 rfl rfl ?_
  refine z_callS (n := 2) (st := []) (pc := 2) hX (mX12_isGate _ hE _ _ _ _) ⟨wd1170, wd67, wd1172, ⟨by decide, by decide, by decide⟩, by decide⟩ wd1171 rfl rfl (by decide) (Nat.le_of_ble_eq_true rfl) dX12_toll_2 (fun v1 s2 r3 => ?_)
  show Zj X G 5 [(0, (2, a0)), (1, (0, a1)), (2, (0, a2)), (3, (0, a3))] [(0, v1)] _ _
  refine z_if_ne (pc := 5) hX 10 dX12_toll_5 (by decide) (fun h4 => ?_) (fun h4 => ?_)
  · refine z_iload_n (pc := 10) hX 3 dX12_toll_10 rfl rfl ?_
    refine z_iconst (pc := 11) hX dX12_toll_11 ?_
    refine z_bipush (pc := 12) hX dX12_toll_12 ?_
    refine z_callS (n := 3) (st := []) (pc := 14) hX (mX12_in _ hE _ _ _ _ _) ⟨wd1173, wd67, wd1175, ⟨by decide, by decide, by decide⟩, by decide⟩ wd1174 rfl rfl (by decide) (Nat.le_of_ble_eq_true rfl) dX12_toll_14 (fun v5 s6 r7 => ?_)
    show Zj X G 17 [(0, (2, a0)), (1, (0, a1)), (2, (0, a2)), (3, (0, a3))] [(0, v5)] _ _
    refine z_if_ne (pc := 17) hX 23 dX12_toll_17 (by decide) (fun h8 => ?_) (fun h8 => ?_)
    · refine z_aload_n (pc := 23) hX 0 dX12_toll_23 rfl rfl ?_
      refine z_get (pc := 24) hX zc12 1 (by decide) wd1018 rfl rfl dX12_toll_24 (fun v9 => ?_)
      refine z_bipush (pc := 27) hX dX12_toll_27 ?_
      refine z_iload_n (pc := 29) hX 1 dX12_toll_29 rfl rfl ?_
      refine z_imul (pc := 30) hX dX12_toll_30 ?_
      refine z_iload_n (pc := 31) hX 2 dX12_toll_31 rfl rfl ?_
      refine z_iadd (pc := 32) hX dX12_toll_32 ?_
      refine z_iald (pc := 33) hX dX12_toll_33 (fun v10 => ?_)
      refine z_istore (lv' := [(4, (0, v10)), (0, (2, a0)), (1, (0, a1)), (2, (0, a2)), (3, (0, a3))]) (pc := 34) hX dX12_toll_34 (zlt hxn rfl) rfl ?_
      refine z_aload_n (pc := 36) hX 1 dX12_toll_36 rfl rfl ?_
      refine z_get (pc := 37) hX zc12 1 (by decide) wd1018 rfl rfl dX12_toll_37 (fun v11 => ?_)
      refine z_bipush (pc := 40) hX dX12_toll_40 ?_
      refine z_iload_n (pc := 42) hX 2 dX12_toll_42 rfl rfl ?_
      refine z_imul (pc := 43) hX dX12_toll_43 ?_
      refine z_iload_n (pc := 44) hX 3 dX12_toll_44 rfl rfl ?_
      refine z_iadd (pc := 45) hX dX12_toll_45 ?_
      refine z_iload_n (pc := 46) hX 4 dX12_toll_46 rfl rfl ?_
      refine z_iastA (pc := 47) hX dX12_toll_47 (fun s12 => ?_)
      refine z_iload (pc := 48) hX 0 dX12_toll_48 rfl ?_
      exact z_iret (pc := 50) hX hR hk dX12_toll_50
    · refine z_bipush (pc := 20) hX dX12_toll_20 ?_
      exact z_iret (pc := 22) hX hR hk dX12_toll_22
  · refine z_iconst (pc := 8) hX dX12_toll_8 ?_
    exact z_iret (pc := 9) hX hR hk dX12_toll_9
