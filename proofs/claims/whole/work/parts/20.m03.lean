theorem dX12_rate_0 : decode cX12_rate 0 = .ok (.iload_n 1, 1) := by decide +kernel
theorem dX12_rate_1 : decode cX12_rate 1 = .ok (.iload_n 2, 1) := by decide +kernel
theorem dX12_rate_2 : decode cX12_rate 2 = .ok (.invokestatic 131, 3) := by decide +kernel
theorem dX12_rate_5 : decode cX12_rate 5 = .ok (.ifCond .ne 5, 3) := by decide +kernel
theorem dX12_rate_8 : decode cX12_rate 8 = .ok (.iconst (-1), 1) := by decide +kernel
theorem dX12_rate_9 : decode cX12_rate 9 = .ok (.ireturn, 1) := by decide +kernel
theorem dX12_rate_10 : decode cX12_rate 10 = .ok (.iload_n 3, 1) := by decide +kernel
theorem dX12_rate_11 : decode cX12_rate 11 = .ok (.iload_n 2, 1) := by decide +kernel
theorem dX12_rate_12 : decode cX12_rate 12 = .ok (.iconst 1, 1) := by decide +kernel
theorem dX12_rate_13 : decode cX12_rate 13 = .ok (.iadd, 1) := by decide +kernel
theorem dX12_rate_14 : decode cX12_rate 14 = .ok (.bipush 24, 2) := by decide +kernel
theorem dX12_rate_16 : decode cX12_rate 16 = .ok (.invokestatic 127, 3) := by decide +kernel
theorem dX12_rate_19 : decode cX12_rate 19 = .ok (.ifCond .eq 14, 3) := by decide +kernel
theorem dX12_rate_22 : decode cX12_rate 22 = .ok (.iload 4, 2) := by decide +kernel
theorem dX12_rate_24 : decode cX12_rate 24 = .ok (.iconst 0, 1) := by decide +kernel
theorem dX12_rate_25 : decode cX12_rate 25 = .ok (.bipush 9, 2) := by decide +kernel
theorem dX12_rate_27 : decode cX12_rate 27 = .ok (.invokestatic 127, 3) := by decide +kernel
theorem dX12_rate_30 : decode cX12_rate 30 = .ok (.ifCond .ne 6, 3) := by decide +kernel
theorem dX12_rate_33 : decode cX12_rate 33 = .ok (.bipush (-2), 2) := by decide +kernel
theorem dX12_rate_35 : decode cX12_rate 35 = .ok (.ireturn, 1) := by decide +kernel
theorem dX12_rate_36 : decode cX12_rate 36 = .ok (.aload_n 0, 1) := by decide +kernel
theorem dX12_rate_37 : decode cX12_rate 37 = .ok (.getfield 7, 3) := by decide +kernel
theorem dX12_rate_40 : decode cX12_rate 40 = .ok (.bipush 24, 2) := by decide +kernel
theorem dX12_rate_42 : decode cX12_rate 42 = .ok (.iload_n 1, 1) := by decide +kernel
theorem dX12_rate_43 : decode cX12_rate 43 = .ok (.imul, 1) := by decide +kernel
theorem dX12_rate_44 : decode cX12_rate 44 = .ok (.iload_n 2, 1) := by decide +kernel
theorem dX12_rate_45 : decode cX12_rate 45 = .ok (.iadd, 1) := by decide +kernel
theorem dX12_rate_46 : decode cX12_rate 46 = .ok (.iaload, 1) := by decide +kernel
theorem dX12_rate_47 : decode cX12_rate 47 = .ok (.istore 5, 2) := by decide +kernel
theorem dX12_rate_49 : decode cX12_rate 49 = .ok (.iload_n 2, 1) := by decide +kernel
theorem dX12_rate_50 : decode cX12_rate 50 = .ok (.istore 6, 2) := by decide +kernel
theorem dX12_rate_52 : decode cX12_rate 52 = .ok (.iload 6, 2) := by decide +kernel
theorem dX12_rate_54 : decode cX12_rate 54 = .ok (.iload_n 3, 1) := by decide +kernel
theorem dX12_rate_55 : decode cX12_rate 55 = .ok (.if_icmp .ge 23, 3) := by decide +kernel
theorem dX12_rate_58 : decode cX12_rate 58 = .ok (.aload_n 0, 1) := by decide +kernel
theorem dX12_rate_59 : decode cX12_rate 59 = .ok (.getfield 7, 3) := by decide +kernel
theorem dX12_rate_62 : decode cX12_rate 62 = .ok (.bipush 24, 2) := by decide +kernel
theorem dX12_rate_64 : decode cX12_rate 64 = .ok (.iload_n 1, 1) := by decide +kernel
theorem dX12_rate_65 : decode cX12_rate 65 = .ok (.imul, 1) := by decide +kernel
theorem dX12_rate_66 : decode cX12_rate 66 = .ok (.iload 6, 2) := by decide +kernel
theorem dX12_rate_68 : decode cX12_rate 68 = .ok (.iadd, 1) := by decide +kernel
theorem dX12_rate_69 : decode cX12_rate 69 = .ok (.iload 4, 2) := by decide +kernel
theorem dX12_rate_71 : decode cX12_rate 71 = .ok (.iastore, 1) := by decide +kernel
theorem dX12_rate_72 : decode cX12_rate 72 = .ok (.iinc 6 1, 3) := by decide +kernel
theorem dX12_rate_75 : decode cX12_rate 75 = .ok (.goto (-23), 3) := by decide +kernel
theorem dX12_rate_78 : decode cX12_rate 78 = .ok (.iload 5, 2) := by decide +kernel
theorem dX12_rate_80 : decode cX12_rate 80 = .ok (.ireturn, 1) := by decide +kernel
def lX12_rate_52 (u16 u17 u18 u19 u20 : Int)  : Nat → ZS → Int → Option (Int × ZS)
  | 0, _, _ => none
  | n1 + 1, s15, x21 => if u18 ≤ x21 then (some (u20, s15)) else ((zg s15 12 u16 0).bind (fun v23 => (zas s15 100 v23 (wrap ((wrap (24 * u17)) + x21)) u19).bind (fun s24 => lX12_rate_52 u16 u17 u18 u19 u20 n1 s24 (wrap (x21 + 1)))))

def fX12_rate (s0 : ZS) (a0 : Int) (a1 : Int) (a2 : Int) (a3 : Int) (a4 : Int) : Option (Int × ZS) := zb (fX12_isGate s0 a1 a2) (fun v1 s2 => if v1 = 0 then (some ((-1), s2)) else (zb (fX12_in s2 a3 (wrap (a2 + 1)) 24) (fun v5 s6 => if v5 = 0 then (some ((-2), s6)) else (zb (fX12_in s6 a4 0 9) (fun v9 s10 => if v9 = 0 then (some ((-2), s10)) else ((zg s10 12 a0 0).bind (fun v13 => (zal s10 100 v13 (wrap ((wrap (24 * a1)) + a2))).bind (fun v14 => lX12_rate_52 a0 a1 a3 a4 v14 1000 s10 a2))))))))
set_option maxHeartbeats 4000000 in
set_option maxRecDepth 100000 in
theorem mX12_rate (E : ZE) (hE : zOkE E) (l : Launch) (s0 : ZS) (a0 : Int) (a1 : Int) (a2 : Int) (a3 : Int) (a4 : Int) : Ct E l yX12_rate cX12_rate 7 (some .int) 6 [(2, a0), (0, a1), (0, a2), (0, a3), (0, a4)] 1 s0 (fX12_rate s0 a0 a1 a2 a3 a4) := by
  refine Ct.of (by decide) hE (Nat.le_of_ble_eq_true rfl) ?_
  intro X G hX hR hN hXE hXl hxn hk _
  subst hXE
  subst hXl
  have hX : G → ZOk X cX12_rate RX12 6 := hX
  clear hN
  show Zj X G 0 [(0, (2, a0)), (1, (0, a1)), (2, (0, a2)), (3, (0, a3)), (4, (0, a4))] [] s0 _
  unfold fX12_rate
  refine z_iload_n (pc := 0) hX 1 dX12_rate_0 rfl rfl ?_
  refine z_iload_n (pc := 1) hX 2 dX12_rate_1 rfl rfl ?_
  refine z_callS (n := 2) (st := []) (pc := 2) hX (mX12_isGate _ hE _ _ _ _) ⟨wd1170, wd67, wd1172, ⟨by decide, by decide, by decide⟩, by decide⟩ wd1171 rfl rfl (by decide) (Nat.le_of_ble_eq_true rfl) dX12_rate_2 (fun v1 s2 r3 => ?_)
  show Zj X G 5 [(0, (2, a0)), (1, (0, a1)), (2, (0, a2)), (3, (0, a3)), (4, (0, a4))] [(0, v1)] _ _
  refine z_if_ne (pc := 5) hX 10 dX12_rate_5 (by decide) (fun h4 => ?_) (fun h4 => ?_)
  · refine z_iload_n (pc := 10) hX 3 dX12_rate_10 rfl rfl ?_
    refine z_iload_n (pc := 11) hX 2 dX12_rate_11 rfl rfl ?_
    refine z_iconst (pc := 12) hX dX12_rate_12 ?_
    refine z_iadd (pc := 13) hX dX12_rate_13 ?_
    refine z_bipush (pc := 14) hX dX12_rate_14 ?_
    refine z_callS (n := 3) (st := []) (pc := 16) hX (mX12_in _ hE _ _ _ _ _) ⟨wd1173, wd67, wd1175, ⟨by decide, by decide, by decide⟩, by decide⟩ wd1174 rfl rfl (by decide) (Nat.le_of_ble_eq_true rfl) dX12_rate_16 (fun v5 s6 r7 => ?_)
    show Zj X G 19 [(0, (2, a0)), (1, (0, a1)), (2, (0, a2)), (3, (0, a3)), (4, (0, a4))] [(0, v5)] _ _
    refine z_if_eq (pc := 19) hX 33 dX12_rate_19 (by decide) (fun h8 => ?_) (fun h8 => ?_)
    · refine z_bipush (pc := 33) hX dX12_rate_33 ?_
      exact z_iret (pc := 35) hX hR hk dX12_rate_35
    · refine z_iload (pc := 22) hX 4 dX12_rate_22 rfl ?_
      refine z_iconst (pc := 24) hX dX12_rate_24 ?_
      refine z_bipush (pc := 25) hX dX12_rate_25 ?_
      refine z_callS (n := 3) (st := []) (pc := 27) hX (mX12_in _ hE _ _ _ _ _) ⟨wd1173, wd67, wd1175, ⟨by decide, by decide, by decide⟩, by decide⟩ wd1174 rfl rfl (by decide) (Nat.le_of_ble_eq_true rfl) dX12_rate_27 (fun v9 s10 r11 => ?_)
      show Zj X G 30 [(0, (2, a0)), (1, (0, a1)), (2, (0, a2)), (3, (0, a3)), (4, (0, a4))] [(0, v9)] _ _
      refine z_if_ne (pc := 30) hX 36 dX12_rate_30 (by decide) (fun h12 => ?_) (fun h12 => ?_)
      · refine z_aload_n (pc := 36) hX 0 dX12_rate_36 rfl rfl ?_
        refine z_get (pc := 37) hX zc12 0 (by decide) wd1017 rfl rfl dX12_rate_37 (fun v13 => ?_)
        refine z_bipush (pc := 40) hX dX12_rate_40 ?_
        refine z_iload_n (pc := 42) hX 1 dX12_rate_42 rfl rfl ?_
        refine z_imul (pc := 43) hX dX12_rate_43 ?_
        refine z_iload_n (pc := 44) hX 2 dX12_rate_44 rfl rfl ?_
        refine z_iadd (pc := 45) hX dX12_rate_45 ?_
        refine z_iald (pc := 46) hX dX12_rate_46 (fun v14 => ?_)
        refine z_istore (lv' := [(5, (0, v14)), (0, (2, a0)), (1, (0, a1)), (2, (0, a2)), (3, (0, a3)), (4, (0, a4))]) (pc := 47) hX dX12_rate_47 (zlt hxn rfl) rfl ?_
        refine z_iload_n (pc := 49) hX 3 dX12_rate_49 rfl rfl ?_
        refine z_istore (lv' := [(6, (0, a2)), (5, (0, v14)), (0, (2, a0)), (1, (0, a1)), (2, (0, a2)), (3, (0, a3)), (4, (0, a4))]) (pc := 50) hX dX12_rate_50 (zlt hxn rfl) rfl ?_
        have hl52 : ∀ (u16 u17 u18 u19 u20 : Int), ∀ (n1 : Nat) (s15 : ZS) (x21 : Int), Zj X G 52 [(0, (2, u16)), (1, (0, u17)), (3, (0, u18)), (4, (0, u19)), (5, (0, u20)), (6, (0, x21))] [] s15 (lX12_rate_52 u16 u17 u18 u19 u20 n1 s15 x21) := by
          intro u16 u17 u18 u19 u20 n1
          induction n1 with
          | zero => intro _ _; exact z_none
          | succ n1 ih1 =>
            intro s15 x21
            rw [lX12_rate_52]
            refine z_iload (pc := 52) hX 5 dX12_rate_52 rfl ?_
            refine z_iload_n (pc := 54) hX 2 dX12_rate_54 rfl rfl ?_
            refine z_icmp_ge (pc := 55) hX 78 dX12_rate_55 (by decide) (fun h22 => ?_) (fun h22 => ?_)
            · refine z_iload (pc := 78) hX 4 dX12_rate_78 rfl ?_
              exact z_iret (pc := 80) hX hR hk dX12_rate_80
            · refine z_aload_n (pc := 58) hX 0 dX12_rate_58 rfl rfl ?_
              refine z_get (pc := 59) hX zc12 0 (by decide) wd1017 rfl rfl dX12_rate_59 (fun v23 => ?_)
              refine z_bipush (pc := 62) hX dX12_rate_62 ?_
              refine z_iload_n (pc := 64) hX 1 dX12_rate_64 rfl rfl ?_
              refine z_imul (pc := 65) hX dX12_rate_65 ?_
              refine z_iload (pc := 66) hX 5 dX12_rate_66 rfl ?_
              refine z_iadd (pc := 68) hX dX12_rate_68 ?_
              refine z_iload (pc := 69) hX 3 dX12_rate_69 rfl ?_
              refine z_iastA (pc := 71) hX dX12_rate_71 (fun s24 => ?_)
              refine z_iinc (lv' := [(6, (0, (wrap (x21 + 1)))), (0, (2, u16)), (1, (0, u17)), (3, (0, u18)), (4, (0, u19)), (5, (0, u20))]) (pc := 72) hX 5 dX12_rate_72 rfl (zlt hxn rfl) rfl ?_
              refine z_goto (pc := 75) hX 52 dX12_rate_75 (by decide) ?_
              refine z_pick (lv' := [(0, (2, u16)), (1, (0, u17)), (3, (0, u18)), (4, (0, u19)), (5, (0, u20)), (6, (0, (wrap (x21 + 1))))]) [1, 2, 3, 4, 5, 0] rfl ?_
              exact ih1 _ _
        refine z_pick (lv' := [(0, (2, a0)), (1, (0, a1)), (3, (0, a3)), (4, (0, a4)), (5, (0, v14)), (6, (0, a2))]) [2, 3, 5, 6, 1, 0] rfl ?_
        refine hl52 _ _ _ _ _ 1000 _ _
      · refine z_bipush (pc := 33) hX dX12_rate_33 ?_
        exact z_iret (pc := 35) hX hR hk dX12_rate_35
  · refine z_iconst (pc := 8) hX dX12_rate_8 ?_
    exact z_iret (pc := 9) hX hR hk dX12_rate_9

theorem dX11_toll_0 : decode cX11_toll 0 = .ok (.iload_n 1, 1) := by decide +kernel
theorem dX11_toll_1 : decode cX11_toll 1 = .ok (.invokestatic 95, 3) := by decide +kernel
theorem dX11_toll_4 : decode cX11_toll 4 = .ok (.ifCond .eq 10, 3) := by decide +kernel
theorem dX11_toll_7 : decode cX11_toll 7 = .ok (.iload_n 2, 1) := by decide +kernel
theorem dX11_toll_8 : decode cX11_toll 8 = .ok (.invokestatic 99, 3) := by decide +kernel
theorem dX11_toll_11 : decode cX11_toll 11 = .ok (.ifCond .ne 5, 3) := by decide +kernel
theorem dX11_toll_14 : decode cX11_toll 14 = .ok (.iconst (-1), 1) := by decide +kernel
theorem dX11_toll_15 : decode cX11_toll 15 = .ok (.ireturn, 1) := by decide +kernel
theorem dX11_toll_16 : decode cX11_toll 16 = .ok (.iload_n 3, 1) := by decide +kernel
theorem dX11_toll_17 : decode cX11_toll 17 = .ok (.bipush 99, 2) := by decide +kernel
theorem dX11_toll_19 : decode cX11_toll 19 = .ok (.invokestatic 102, 3) := by decide +kernel
theorem dX11_toll_22 : decode cX11_toll 22 = .ok (.ifCond .ne 6, 3) := by decide +kernel
theorem dX11_toll_25 : decode cX11_toll 25 = .ok (.bipush (-2), 2) := by decide +kernel
theorem dX11_toll_27 : decode cX11_toll 27 = .ok (.ireturn, 1) := by decide +kernel
theorem dX11_toll_28 : decode cX11_toll 28 = .ok (.aload_n 0, 1) := by decide +kernel
theorem dX11_toll_29 : decode cX11_toll 29 = .ok (.getfield 20, 3) := by decide +kernel
theorem dX11_toll_32 : decode cX11_toll 32 = .ok (.getfield 110, 3) := by decide +kernel
theorem dX11_toll_35 : decode cX11_toll 35 = .ok (.iload_n 1, 1) := by decide +kernel
theorem dX11_toll_36 : decode cX11_toll 36 = .ok (.aaload, 1) := by decide +kernel
theorem dX11_toll_37 : decode cX11_toll 37 = .ok (.iload_n 2, 1) := by decide +kernel
theorem dX11_toll_38 : decode cX11_toll 38 = .ok (.iaload, 1) := by decide +kernel
theorem dX11_toll_39 : decode cX11_toll 39 = .ok (.istore 4, 2) := by decide +kernel
theorem dX11_toll_41 : decode cX11_toll 41 = .ok (.aload_n 0, 1) := by decide +kernel
theorem dX11_toll_42 : decode cX11_toll 42 = .ok (.getfield 20, 3) := by decide +kernel
theorem dX11_toll_45 : decode cX11_toll 45 = .ok (.getfield 110, 3) := by decide +kernel
theorem dX11_toll_48 : decode cX11_toll 48 = .ok (.iload_n 1, 1) := by decide +kernel
theorem dX11_toll_49 : decode cX11_toll 49 = .ok (.aaload, 1) := by decide +kernel
theorem dX11_toll_50 : decode cX11_toll 50 = .ok (.iload_n 2, 1) := by decide +kernel
theorem dX11_toll_51 : decode cX11_toll 51 = .ok (.iload_n 3, 1) := by decide +kernel
theorem dX11_toll_52 : decode cX11_toll 52 = .ok (.iastore, 1) := by decide +kernel
theorem dX11_toll_53 : decode cX11_toll 53 = .ok (.iload 4, 2) := by decide +kernel
theorem dX11_toll_55 : decode cX11_toll 55 = .ok (.ireturn, 1) := by decide +kernel
def fX11_toll (s0 : ZS) (a0 : Int) (a1 : Int) (a2 : Int) (a3 : Int) : Option (Int × ZS) := zb (fX11_isGate s0 a1) (fun v1 s2 => if v1 = 0 then (some ((-1), s2)) else (zb (fX11_isMinute s2 a2) (fun v5 s6 => if v5 = 0 then (some ((-1), s6)) else (zb (fX11_within s6 a3 99) (fun v9 s10 => if v9 = 0 then (some ((-2), s10)) else ((zg s10 11 a0 1).bind (fun v13 => (zg s10 5 v13 1).bind (fun v14 => (zal s10 102 v14 a1).bind (fun v15 => (zal s10 100 v15 a2).bind (fun v16 => (zg s10 11 a0 1).bind (fun v17 => (zg s10 5 v17 1).bind (fun v18 => (zal s10 102 v18 a1).bind (fun v19 => (zas s10 100 v19 a2 a3).bind (fun s20 => some (v16, s20)))))))))))))))
set_option maxHeartbeats 4000000 in
set_option maxRecDepth 100000 in
theorem mX11_toll (E : ZE) (hE : zOkE E) (l : Launch) (s0 : ZS) (a0 : Int) (a1 : Int) (a2 : Int) (a3 : Int) : Ct E l yX11_toll cX11_toll 5 (some .int) 6 [(2, a0), (0, a1), (0, a2), (0, a3)] 1 s0 (fX11_toll s0 a0 a1 a2 a3) := by
  refine Ct.of (by decide) hE (Nat.le_of_ble_eq_true rfl) ?_
  intro X G hX hR hN hXE hXl hxn hk _
  subst hXE
  subst hXl
  have hX : G → ZOk X cX11_toll RX11 6 := hX
  clear hN
  show Zj X G 0 [(0, (2, a0)), (1, (0, a1)), (2, (0, a2)), (3, (0, a3))] [] s0 _
  unfold fX11_toll
  refine z_iload_n (pc := 0) hX 1 dX11_toll_0 rfl rfl ?_
  refine z_callS (n := 1) (st := []) (pc := 1) hX (mX11_isGate _ hE _ _ _) ⟨wd326, wd61, wd328, ⟨by decide, by decide, by decide⟩, by decide⟩ wd327 rfl rfl (by decide) (Nat.le_of_ble_eq_true rfl) dX11_toll_1 (fun v1 s2 r3 => ?_)
  show Zj X G 4 [(0, (2, a0)), (1, (0, a1)), (2, (0, a2)), (3, (0, a3))] [(0, v1)] _ _
  refine z_if_eq (pc := 4) hX 14 dX11_toll_4 (by decide) (fun h4 => ?_) (fun h4 => ?_)
  · refine z_iconst (pc := 14) hX dX11_toll_14 ?_
    exact z_iret (pc := 15) hX hR hk dX11_toll_15
  · refine z_iload_n (pc := 7) hX 2 dX11_toll_7 rfl rfl ?_
    refine z_callS (n := 1) (st := []) (pc := 8) hX (mX11_isMinute _ hE _ _ _) ⟨wd332, wd61, wd334, ⟨by decide, by decide, by decide⟩, by decide⟩ wd333 rfl rfl (by decide) (Nat.le_of_ble_eq_true rfl) dX11_toll_8 (fun v5 s6 r7 => ?_)
    show Zj X G 11 [(0, (2, a0)), (1, (0, a1)), (2, (0, a2)), (3, (0, a3))] [(0, v5)] _ _
    refine z_if_ne (pc := 11) hX 16 dX11_toll_11 (by decide) (fun h8 => ?_) (fun h8 => ?_)
    · refine z_iload_n (pc := 16) hX 3 dX11_toll_16 rfl rfl ?_
      refine z_bipush (pc := 17) hX dX11_toll_17 ?_
      refine z_callS (n := 2) (st := []) (pc := 19) hX (mX11_within _ hE _ _ _ _) ⟨wd329, wd61, wd331, ⟨by decide, by decide, by decide⟩, by decide⟩ wd330 rfl rfl (by decide) (Nat.le_of_ble_eq_true rfl) dX11_toll_19 (fun v9 s10 r11 => ?_)
      show Zj X G 22 [(0, (2, a0)), (1, (0, a1)), (2, (0, a2)), (3, (0, a3))] [(0, v9)] _ _
      refine z_if_ne (pc := 22) hX 28 dX11_toll_22 (by decide) (fun h12 => ?_) (fun h12 => ?_)
      · refine z_aload_n (pc := 28) hX 0 dX11_toll_28 rfl rfl ?_
        refine z_get (pc := 29) hX zc11 1 (by decide) wd271 rfl rfl dX11_toll_29 (fun v13 => ?_)
        refine z_get (pc := 32) hX zc5 1 (by decide) wd109 rfl rfl dX11_toll_32 (fun v14 => ?_)
        refine z_iload_n (pc := 35) hX 1 dX11_toll_35 rfl rfl ?_
        refine z_aald (pc := 36) hX 2 102 (by decide) rfl rfl dX11_toll_36 (fun v15 => ?_)
        refine z_iload_n (pc := 37) hX 2 dX11_toll_37 rfl rfl ?_
        refine z_iald (pc := 38) hX dX11_toll_38 (fun v16 => ?_)
        refine z_istore (lv' := [(4, (0, v16)), (0, (2, a0)), (1, (0, a1)), (2, (0, a2)), (3, (0, a3))]) (pc := 39) hX dX11_toll_39 (zlt hxn rfl) rfl ?_
        refine z_aload_n (pc := 41) hX 1 dX11_toll_41 rfl rfl ?_
        refine z_get (pc := 42) hX zc11 1 (by decide) wd271 rfl rfl dX11_toll_42 (fun v17 => ?_)
        refine z_get (pc := 45) hX zc5 1 (by decide) wd109 rfl rfl dX11_toll_45 (fun v18 => ?_)
        refine z_iload_n (pc := 48) hX 2 dX11_toll_48 rfl rfl ?_
        refine z_aald (pc := 49) hX 2 102 (by decide) rfl rfl dX11_toll_49 (fun v19 => ?_)
        refine z_iload_n (pc := 50) hX 3 dX11_toll_50 rfl rfl ?_
        refine z_iload_n (pc := 51) hX 4 dX11_toll_51 rfl rfl ?_
        refine z_iastA (pc := 52) hX dX11_toll_52 (fun s20 => ?_)
        refine z_iload (pc := 53) hX 0 dX11_toll_53 rfl ?_
        exact z_iret (pc := 55) hX hR hk dX11_toll_55
      · refine z_bipush (pc := 25) hX dX11_toll_25 ?_
        exact z_iret (pc := 27) hX hR hk dX11_toll_27
    · refine z_iconst (pc := 14) hX dX11_toll_14 ?_
      exact z_iret (pc := 15) hX hR hk dX11_toll_15

theorem dX12_toll_0 : decode cX12_toll 0 = .ok (.iload_n 1, 1) := by decide +kernel
theorem dX12_toll_1 : decode cX12_toll 1 = .ok (.iload_n 2, 1) := by decide +kernel
theorem dX12_toll_2 : decode cX12_toll 2 = .ok (.invokestatic 131, 3) := by decide +kernel
theorem dX12_toll_5 : decode cX12_toll 5 = .ok (.ifCond .ne 5, 3) := by decide +kernel
theorem dX12_toll_8 : decode cX12_toll 8 = .ok (.iconst (-1), 1) := by decide +kernel
theorem dX12_toll_9 : decode cX12_toll 9 = .ok (.ireturn, 1) := by decide +kernel
theorem dX12_toll_10 : decode cX12_toll 10 = .ok (.iload_n 3, 1) := by decide +kernel
theorem dX12_toll_11 : decode cX12_toll 11 = .ok (.iconst 0, 1) := by decide +kernel
theorem dX12_toll_12 : decode cX12_toll 12 = .ok (.bipush 99, 2) := by decide +kernel
theorem dX12_toll_14 : decode cX12_toll 14 = .ok (.invokestatic 127, 3) := by decide +kernel
theorem dX12_toll_17 : decode cX12_toll 17 = .ok (.ifCond .ne 6, 3) := by decide +kernel
theorem dX12_toll_20 : decode cX12_toll 20 = .ok (.bipush (-2), 2) := by decide +kernel
theorem dX12_toll_22 : decode cX12_toll 22 = .ok (.ireturn, 1) := by decide +kernel
theorem dX12_toll_23 : decode cX12_toll 23 = .ok (.aload_n 0, 1) := by decide +kernel
theorem dX12_toll_24 : decode cX12_toll 24 = .ok (.getfield 13, 3) := by decide +kernel
theorem dX12_toll_27 : decode cX12_toll 27 = .ok (.bipush 24, 2) := by decide +kernel
theorem dX12_toll_29 : decode cX12_toll 29 = .ok (.iload_n 1, 1) := by decide +kernel
theorem dX12_toll_30 : decode cX12_toll 30 = .ok (.imul, 1) := by decide +kernel
theorem dX12_toll_31 : decode cX12_toll 31 = .ok (.iload_n 2, 1) := by decide +kernel
theorem dX12_toll_32 : decode cX12_toll 32 = .ok (.iadd, 1) := by decide +kernel
theorem dX12_toll_33 : decode cX12_toll 33 = .ok (.iaload, 1) := by decide +kernel
theorem dX12_toll_34 : decode cX12_toll 34 = .ok (.istore 4, 2) := by decide +kernel
theorem dX12_toll_36 : decode cX12_toll 36 = .ok (.aload_n 0, 1) := by decide +kernel
theorem dX12_toll_37 : decode cX12_toll 37 = .ok (.getfield 13, 3) := by decide +kernel
theorem dX12_toll_40 : decode cX12_toll 40 = .ok (.bipush 24, 2) := by decide +kernel
theorem dX12_toll_42 : decode cX12_toll 42 = .ok (.iload_n 1, 1) := by decide +kernel
theorem dX12_toll_43 : decode cX12_toll 43 = .ok (.imul, 1) := by decide +kernel
theorem dX12_toll_44 : decode cX12_toll 44 = .ok (.iload_n 2, 1) := by decide +kernel
theorem dX12_toll_45 : decode cX12_toll 45 = .ok (.iadd, 1) := by decide +kernel
theorem dX12_toll_46 : decode cX12_toll 46 = .ok (.iload_n 3, 1) := by decide +kernel
theorem dX12_toll_47 : decode cX12_toll 47 = .ok (.iastore, 1) := by decide +kernel
theorem dX12_toll_48 : decode cX12_toll 48 = .ok (.iload 4, 2) := by decide +kernel
theorem dX12_toll_50 : decode cX12_toll 50 = .ok (.ireturn, 1) := by decide +kernel
def fX12_toll (s0 : ZS) (a0 : Int) (a1 : Int) (a2 : Int) (a3 : Int) : Option (Int × ZS) := zb (fX12_isGate s0 a1 a2) (fun v1 s2 => if v1 = 0 then (some ((-1), s2)) else (zb (fX12_in s2 a3 0 99) (fun v5 s6 => if v5 = 0 then (some ((-2), s6)) else ((zg s6 12 a0 1).bind (fun v9 => (zal s6 100 v9 (wrap ((wrap (24 * a1)) + a2))).bind (fun v10 => (zg s6 12 a0 1).bind (fun v11 => (zas s6 100 v11 (wrap ((wrap (24 * a1)) + a2)) a3).bind (fun s12 => some (v10, s12)))))))))
set_option maxHeartbeats 4000000 in
set_option maxRecDepth 100000 in
theorem mX12_toll (E : ZE) (hE : zOkE E) (l : Launch) (s0 : ZS) (a0 : Int) (a1 : Int) (a2 : Int) (a3 : Int) : Ct E l yX12_toll cX12_toll 5 (some .int) 6 [(2, a0), (0, a1), (0, a2), (0, a3)] 1 s0 (fX12_toll s0 a0 a1 a2 a3) := by
  refine Ct.of (by decide) hE (Nat.le_of_ble_eq_true rfl) ?_
  intro X G hX hR hN hXE hXl hxn hk _
  subst hXE
  subst hXl
  have hX : G → ZOk X cX12_toll RX12 6 := hX
  clear hN
  show Zj X G 0 [(0, (2, a0)), (1, (0, a1)), (2, (0, a2)), (3, (0, a3))] [] s0 _
  unfold fX12_toll
  refine z_iload_n (pc := 0) hX 1 dX12_toll_0 rfl rfl ?_
  refine z_iload_n (pc := 1) hX 2 dX12_toll_1 rfl rfl ?_
  refine z_callS (n := 2) (st := []) (pc := 2) hX (mX12_isGate _ hE _ _ _ _) ⟨wd1170, wd67, wd1172, ⟨by decide, by decide, by decide⟩, by decide⟩ wd1171 rfl rfl (by decide) (Nat.le_of_ble_eq_true rfl) dX12_toll_2 (fun v1 s2 r3 => ?_)
  show Zj X G 5 [(0, (2, a0)), (1, (0, a1)), (2, (0, a2)), (3, (0, a3))] [(0, v1)] _ _
  refine z_if_ne (pc := 5) hX 10 dX12_toll_5 (by decide) (fun h4 => ?_) (fun h4 => ?_)
  · refine z_iload_n (pc := 10) hX 3 dX12_toll_10 rfl rfl ?_
    refine z_iconst (pc := 11) hX dX12_toll_11 ?_
    refine z_bipush (pc := 12) hX dX12_toll_12 ?_
    refine z_callS (n := 3) (st := []) (pc := 14) hX (mX12_in _ hE _ _ _ _ _) ⟨wd1173, wd67, wd1175, ⟨by decide, by decide, by decide⟩, by decide⟩ wd1174 rfl rfl (by decide) (Nat.le_of_ble_eq_true rfl) dX12_toll_14 (fun v5 s6 r7 => ?_)
    show Zj X G 17 [(0, (2, a0)), (1, (0, a1)), (2, (0, a2)), (3, (0, a3))] [(0, v5)] _ _
    refine z_if_ne (pc := 17) hX 23 dX12_toll_17 (by decide) (fun h8 => ?_) (fun h8 => ?_)
    · refine z_aload_n (pc := 23) hX 0 dX12_toll_23 rfl rfl ?_
      refine z_get (pc := 24) hX zc12 1 (by decide) wd1018 rfl rfl dX12_toll_24 (fun v9 => ?_)
      refine z_bipush (pc := 27) hX dX12_toll_27 ?_
      refine z_iload_n (pc := 29) hX 1 dX12_toll_29 rfl rfl ?_
      refine z_imul (pc := 30) hX dX12_toll_30 ?_
      refine z_iload_n (pc := 31) hX 2 dX12_toll_31 rfl rfl ?_
      refine z_iadd (pc := 32) hX dX12_toll_32 ?_
      refine z_iald (pc := 33) hX dX12_toll_33 (fun v10 => ?_)
      refine z_istore (lv' := [(4, (0, v10)), (0, (2, a0)), (1, (0, a1)), (2, (0, a2)), (3, (0, a3))]) (pc := 34) hX dX12_toll_34 (zlt hxn rfl) rfl ?_
      refine z_aload_n (pc := 36) hX 1 dX12_toll_36 rfl rfl ?_
      refine z_get (pc := 37) hX zc12 1 (by decide) wd1018 rfl rfl dX12_toll_37 (fun v11 => ?_)
      refine z_bipush (pc := 40) hX dX12_toll_40 ?_
      refine z_iload_n (pc := 42) hX 2 dX12_toll_42 rfl rfl ?_
      refine z_imul (pc := 43) hX dX12_toll_43 ?_
      refine z_iload_n (pc := 44) hX 3 dX12_toll_44 rfl rfl ?_
      refine z_iadd (pc := 45) hX dX12_toll_45 ?_
      refine z_iload_n (pc := 46) hX 4 dX12_toll_46 rfl rfl ?_
      refine z_iastA (pc := 47) hX dX12_toll_47 (fun s12 => ?_)
      refine z_iload (pc := 48) hX 0 dX12_toll_48 rfl ?_
      exact z_iret (pc := 50) hX hR hk dX12_toll_50
    · refine z_bipush (pc := 20) hX dX12_toll_20 ?_
      exact z_iret (pc := 22) hX hR hk dX12_toll_22
  · refine z_iconst (pc := 8) hX dX12_toll_8 ?_
    exact z_iret (pc := 9) hX hR hk dX12_toll_9

theorem dX11_sort_0 : decode cX11_sort 0 = .ok (.iload_n 1, 1) := by decide +kernel
theorem dX11_sort_1 : decode cX11_sort 1 = .ok (.invokestatic 99, 3) := by decide +kernel
theorem dX11_sort_4 : decode cX11_sort 4 = .ok (.ifCond .eq 13, 3) := by decide +kernel
theorem dX11_sort_7 : decode cX11_sort 7 = .ok (.iload_n 2, 1) := by decide +kernel
theorem dX11_sort_8 : decode cX11_sort 8 = .ok (.sipush 999, 3) := by decide +kernel
theorem dX11_sort_11 : decode cX11_sort 11 = .ok (.invokestatic 102, 3) := by decide +kernel
theorem dX11_sort_14 : decode cX11_sort 14 = .ok (.ifCond .ne 6, 3) := by decide +kernel
theorem dX11_sort_17 : decode cX11_sort 17 = .ok (.bipush (-2), 2) := by decide +kernel
theorem dX11_sort_19 : decode cX11_sort 19 = .ok (.ireturn, 1) := by decide +kernel
theorem dX11_sort_20 : decode cX11_sort 20 = .ok (.iload_n 3, 1) := by decide +kernel
theorem dX11_sort_21 : decode cX11_sort 21 = .ok (.bipush 9, 2) := by decide +kernel
theorem dX11_sort_23 : decode cX11_sort 23 = .ok (.invokestatic 102, 3) := by decide +kernel
theorem dX11_sort_26 : decode cX11_sort 26 = .ok (.ifCond .eq 13, 3) := by decide +kernel
theorem dX11_sort_29 : decode cX11_sort 29 = .ok (.iload 4, 2) := by decide +kernel
theorem dX11_sort_31 : decode cX11_sort 31 = .ok (.bipush 9, 2) := by decide +kernel
theorem dX11_sort_33 : decode cX11_sort 33 = .ok (.invokestatic 102, 3) := by decide +kernel
theorem dX11_sort_36 : decode cX11_sort 36 = .ok (.ifCond .ne 6, 3) := by decide +kernel
theorem dX11_sort_39 : decode cX11_sort 39 = .ok (.bipush (-2), 2) := by decide +kernel
theorem dX11_sort_41 : decode cX11_sort 41 = .ok (.ireturn, 1) := by decide +kernel
theorem dX11_sort_42 : decode cX11_sort 42 = .ok (.aload_n 0, 1) := by decide +kernel
theorem dX11_sort_43 : decode cX11_sort 43 = .ok (.getfield 20, 3) := by decide +kernel
theorem dX11_sort_46 : decode cX11_sort 46 = .ok (.getfield 113, 3) := by decide +kernel
theorem dX11_sort_49 : decode cX11_sort 49 = .ok (.iconst 4, 1) := by decide +kernel
theorem dX11_sort_50 : decode cX11_sort 50 = .ok (.if_icmp .lt 6, 3) := by decide +kernel
theorem dX11_sort_53 : decode cX11_sort 53 = .ok (.bipush (-4), 2) := by decide +kernel
theorem dX11_sort_55 : decode cX11_sort 55 = .ok (.ireturn, 1) := by decide +kernel
theorem dX11_sort_56 : decode cX11_sort 56 = .ok (.aload_n 0, 1) := by decide +kernel
theorem dX11_sort_57 : decode cX11_sort 57 = .ok (.getfield 20, 3) := by decide +kernel
theorem dX11_sort_60 : decode cX11_sort 60 = .ok (.getfield 113, 3) := by decide +kernel
theorem dX11_sort_63 : decode cX11_sort 63 = .ok (.istore 5, 2) := by decide +kernel
theorem dX11_sort_65 : decode cX11_sort 65 = .ok (.aload_n 0, 1) := by decide +kernel
theorem dX11_sort_66 : decode cX11_sort 66 = .ok (.getfield 20, 3) := by decide +kernel
theorem dX11_sort_69 : decode cX11_sort 69 = .ok (.getfield 116, 3) := by decide +kernel
theorem dX11_sort_72 : decode cX11_sort 72 = .ok (.iload 5, 2) := by decide +kernel
theorem dX11_sort_74 : decode cX11_sort 74 = .ok (.iload_n 1, 1) := by decide +kernel
theorem dX11_sort_75 : decode cX11_sort 75 = .ok (.iastore, 1) := by decide +kernel
theorem dX11_sort_76 : decode cX11_sort 76 = .ok (.aload_n 0, 1) := by decide +kernel
theorem dX11_sort_77 : decode cX11_sort 77 = .ok (.getfield 20, 3) := by decide +kernel
theorem dX11_sort_80 : decode cX11_sort 80 = .ok (.getfield 119, 3) := by decide +kernel
theorem dX11_sort_83 : decode cX11_sort 83 = .ok (.iload 5, 2) := by decide +kernel
theorem dX11_sort_85 : decode cX11_sort 85 = .ok (.iload_n 2, 1) := by decide +kernel
theorem dX11_sort_86 : decode cX11_sort 86 = .ok (.iastore, 1) := by decide +kernel
theorem dX11_sort_87 : decode cX11_sort 87 = .ok (.aload_n 0, 1) := by decide +kernel
theorem dX11_sort_88 : decode cX11_sort 88 = .ok (.getfield 20, 3) := by decide +kernel
theorem dX11_sort_91 : decode cX11_sort 91 = .ok (.getfield 122, 3) := by decide +kernel
theorem dX11_sort_94 : decode cX11_sort 94 = .ok (.iconst 0, 1) := by decide +kernel
theorem dX11_sort_95 : decode cX11_sort 95 = .ok (.aaload, 1) := by decide +kernel
theorem dX11_sort_96 : decode cX11_sort 96 = .ok (.iload 5, 2) := by decide +kernel
theorem dX11_sort_98 : decode cX11_sort 98 = .ok (.iload_n 3, 1) := by decide +kernel
theorem dX11_sort_99 : decode cX11_sort 99 = .ok (.iastore, 1) := by decide +kernel
theorem dX11_sort_100 : decode cX11_sort 100 = .ok (.aload_n 0, 1) := by decide +kernel
theorem dX11_sort_101 : decode cX11_sort 101 = .ok (.getfield 20, 3) := by decide +kernel
theorem dX11_sort_104 : decode cX11_sort 104 = .ok (.getfield 122, 3) := by decide +kernel
theorem dX11_sort_107 : decode cX11_sort 107 = .ok (.iconst 1, 1) := by decide +kernel
theorem dX11_sort_108 : decode cX11_sort 108 = .ok (.aaload, 1) := by decide +kernel
theorem dX11_sort_109 : decode cX11_sort 109 = .ok (.iload 5, 2) := by decide +kernel
theorem dX11_sort_111 : decode cX11_sort 111 = .ok (.iload 4, 2) := by decide +kernel
theorem dX11_sort_113 : decode cX11_sort 113 = .ok (.iastore, 1) := by decide +kernel
theorem dX11_sort_114 : decode cX11_sort 114 = .ok (.aload_n 0, 1) := by decide +kernel
theorem dX11_sort_115 : decode cX11_sort 115 = .ok (.getfield 20, 3) := by decide +kernel
theorem dX11_sort_118 : decode cX11_sort 118 = .ok (.iload 5, 2) := by decide +kernel
theorem dX11_sort_120 : decode cX11_sort 120 = .ok (.iconst 1, 1) := by decide +kernel
theorem dX11_sort_121 : decode cX11_sort 121 = .ok (.iadd, 1) := by decide +kernel
theorem dX11_sort_122 : decode cX11_sort 122 = .ok (.putfield 113, 3) := by decide +kernel
theorem dX11_sort_125 : decode cX11_sort 125 = .ok (.iload 5, 2) := by decide +kernel
theorem dX11_sort_127 : decode cX11_sort 127 = .ok (.ireturn, 1) := by decide +kernel
def fX11_sort (s0 : ZS) (a0 : Int) (a1 : Int) (a2 : Int) (a3 : Int) (a4 : Int) : Option (Int × ZS) := zb (fX11_isMinute s0 a1) (fun v1 s2 => if v1 = 0 then (some ((-2), s2)) else (zb (fX11_within s2 a2 999) (fun v5 s6 => if v5 = 0 then (some ((-2), s6)) else (zb (fX11_within s6 a3 9) (fun v9 s10 => if v9 = 0 then (some ((-2), s10)) else (zb (fX11_within s10 a4 9) (fun v13 s14 => if v13 = 0 then (some ((-2), s14)) else ((zg s14 11 a0 1).bind (fun v17 => (zg s14 5 v17 5).bind (fun v18 => if v18 < 4 then ((zg s14 11 a0 1).bind (fun v20 => (zg s14 5 v20 5).bind (fun v21 => (zg s14 11 a0 1).bind (fun v22 => (zg s14 5 v22 3).bind (fun v23 => (zas s14 100 v23 v21 a1).bind (fun s24 => (zg s24 11 a0 1).bind (fun v25 => (zg s24 5 v25 4).bind (fun v26 => (zas s24 100 v26 v21 a2).bind (fun s27 => (zg s27 11 a0 1).bind (fun v28 => (zg s27 5 v28 2).bind (fun v29 => (zal s27 102 v29 0).bind (fun v30 => (zas s27 100 v30 v21 a3).bind (fun s31 => (zg s31 11 a0 1).bind (fun v32 => (zg s31 5 v32 2).bind (fun v33 => (zal s31 102 v33 1).bind (fun v34 => (zas s31 100 v34 v21 a4).bind (fun s35 => (zg s35 11 a0 1).bind (fun v36 => (zp s35 5 v36 5 (wrap (v21 + 1))).bind (fun s37 => some (v21, s37)))))))))))))))))))) else (some ((-4), s14))))))))))))
set_option maxHeartbeats 4000000 in
set_option maxRecDepth 100000 in
theorem mX11_sort (E : ZE) (hE : zOkE E) (l : Launch) (s0 : ZS) (a0 : Int) (a1 : Int) (a2 : Int) (a3 : Int) (a4 : Int) : Ct E l yX11_sort cX11_sort 6 (some .int) 6 [(2, a0), (0, a1), (0, a2), (0, a3), (0, a4)] 1 s0 (fX11_sort s0 a0 a1 a2 a3 a4) := by
  refine Ct.of (by decide) hE (Nat.le_of_ble_eq_true rfl) ?_
  intro X G hX hR hN hXE hXl hxn hk _
  subst hXE
  subst hXl
  have hX : G → ZOk X cX11_sort RX11 6 := hX
  clear hN
  show Zj X G 0 [(0, (2, a0)), (1, (0, a1)), (2, (0, a2)), (3, (0, a3)), (4, (0, a4))] [] s0 _
  unfold fX11_sort
  refine z_iload_n (pc := 0) hX 1 dX11_sort_0 rfl rfl ?_
  refine z_callS (n := 1) (st := []) (pc := 1) hX (mX11_isMinute _ hE _ _ _) ⟨wd332, wd61, wd334, ⟨by decide, by decide, by decide⟩, by decide⟩ wd333 rfl rfl (by decide) (Nat.le_of_ble_eq_true rfl) dX11_sort_1 (fun v1 s2 r3 => ?_)
  show Zj X G 4 [(0, (2, a0)), (1, (0, a1)), (2, (0, a2)), (3, (0, a3)), (4, (0, a4))] [(0, v1)] _ _
  refine z_if_eq (pc := 4) hX 17 dX11_sort_4 (by decide) (fun h4 => ?_) (fun h4 => ?_)
  · refine z_bipush (pc := 17) hX dX11_sort_17 ?_
    exact z_iret (pc := 19) hX hR hk dX11_sort_19
  · refine z_iload_n (pc := 7) hX 2 dX11_sort_7 rfl rfl ?_
    refine z_sipush (pc := 8) hX dX11_sort_8 ?_
    refine z_callS (n := 2) (st := []) (pc := 11) hX (mX11_within _ hE _ _ _ _) ⟨wd329, wd61, wd331, ⟨by decide, by decide, by decide⟩, by decide⟩ wd330 rfl rfl (by decide) (Nat.le_of_ble_eq_true rfl) dX11_sort_11 (fun v5 s6 r7 => ?_)
    show Zj X G 14 [(0, (2, a0)), (1, (0, a1)), (2, (0, a2)), (3, (0, a3)), (4, (0, a4))] [(0, v5)] _ _
    refine z_if_ne (pc := 14) hX 20 dX11_sort_14 (by decide) (fun h8 => ?_) (fun h8 => ?_)
    · refine z_iload_n (pc := 20) hX 3 dX11_sort_20 rfl rfl ?_
      refine z_bipush (pc := 21) hX dX11_sort_21 ?_
      refine z_callS (n := 2) (st := []) (pc := 23) hX (mX11_within _ hE _ _ _ _) ⟨wd329, wd61, wd331, ⟨by decide, by decide, by decide⟩, by decide⟩ wd330 rfl rfl (by decide) (Nat.le_of_ble_eq_true rfl) dX11_sort_23 (fun v9 s10 r11 => ?_)
      show Zj X G 26 [(0, (2, a0)), (1, (0, a1)), (2, (0, a2)), (3, (0, a3)), (4, (0, a4))] [(0, v9)] _ _
      refine z_if_eq (pc := 26) hX 39 dX11_sort_26 (by decide) (fun h12 => ?_) (fun h12 => ?_)
      · refine z_bipush (pc := 39) hX dX11_sort_39 ?_
        exact z_iret (pc := 41) hX hR hk dX11_sort_41
      · refine z_iload (pc := 29) hX 4 dX11_sort_29 rfl ?_
        refine z_bipush (pc := 31) hX dX11_sort_31 ?_
        refine z_callS (n := 2) (st := []) (pc := 33) hX (mX11_within _ hE _ _ _ _) ⟨wd329, wd61, wd331, ⟨by decide, by decide, by decide⟩, by decide⟩ wd330 rfl rfl (by decide) (Nat.le_of_ble_eq_true rfl) dX11_sort_33 (fun v13 s14 r15 => ?_)
        show Zj X G 36 [(0, (2, a0)), (1, (0, a1)), (2, (0, a2)), (3, (0, a3)), (4, (0, a4))] [(0, v13)] _ _
        refine z_if_ne (pc := 36) hX 42 dX11_sort_36 (by decide) (fun h16 => ?_) (fun h16 => ?_)
        · refine z_aload_n (pc := 42) hX 0 dX11_sort_42 rfl rfl ?_
          refine z_get (pc := 43) hX zc11 1 (by decide) wd271 rfl rfl dX11_sort_43 (fun v17 => ?_)
          refine z_get (pc := 46) hX zc5 5 (by decide) wd121 rfl rfl dX11_sort_46 (fun v18 => ?_)
          refine z_iconst (pc := 49) hX dX11_sort_49 ?_
          refine z_icmp_lt (pc := 50) hX 56 dX11_sort_50 (by decide) (fun h19 => ?_) (fun h19 => ?_)
          · refine z_aload_n (pc := 56) hX 0 dX11_sort_56 rfl rfl ?_
            refine z_get (pc := 57) hX zc11 1 (by decide) wd271 rfl rfl dX11_sort_57 (fun v20 => ?_)
            refine z_get (pc := 60) hX zc5 5 (by decide) wd121 rfl rfl dX11_sort_60 (fun v21 => ?_)
            refine z_istore (lv' := [(5, (0, v21)), (0, (2, a0)), (1, (0, a1)), (2, (0, a2)), (3, (0, a3)), (4, (0, a4))]) (pc := 63) hX dX11_sort_63 (zlt hxn rfl) rfl ?_
            refine z_aload_n (pc := 65) hX 1 dX11_sort_65 rfl rfl ?_
            refine z_get (pc := 66) hX zc11 1 (by decide) wd271 rfl rfl dX11_sort_66 (fun v22 => ?_)
            refine z_get (pc := 69) hX zc5 3 (by decide) wd115 rfl rfl dX11_sort_69 (fun v23 => ?_)
            refine z_iload (pc := 72) hX 0 dX11_sort_72 rfl ?_
            refine z_iload_n (pc := 74) hX 2 dX11_sort_74 rfl rfl ?_
            refine z_iastA (pc := 75) hX dX11_sort_75 (fun s24 => ?_)
            refine z_aload_n (pc := 76) hX 1 dX11_sort_76 rfl rfl ?_
            refine z_get (pc := 77) hX zc11 1 (by decide) wd271 rfl rfl dX11_sort_77 (fun v25 => ?_)
            refine z_get (pc := 80) hX zc5 4 (by decide) wd118 rfl rfl dX11_sort_80 (fun v26 => ?_)
            refine z_iload (pc := 83) hX 0 dX11_sort_83 rfl ?_
            refine z_iload_n (pc := 85) hX 3 dX11_sort_85 rfl rfl ?_
            refine z_iastA (pc := 86) hX dX11_sort_86 (fun s27 => ?_)
            refine z_aload_n (pc := 87) hX 1 dX11_sort_87 rfl rfl ?_
            refine z_get (pc := 88) hX zc11 1 (by decide) wd271 rfl rfl dX11_sort_88 (fun v28 => ?_)
            refine z_get (pc := 91) hX zc5 2 (by decide) wd112 rfl rfl dX11_sort_91 (fun v29 => ?_)
            refine z_iconst (pc := 94) hX dX11_sort_94 ?_
            refine z_aald (pc := 95) hX 2 102 (by decide) rfl rfl dX11_sort_95 (fun v30 => ?_)
            refine z_iload (pc := 96) hX 0 dX11_sort_96 rfl ?_
            refine z_iload_n (pc := 98) hX 4 dX11_sort_98 rfl rfl ?_
            refine z_iastA (pc := 99) hX dX11_sort_99 (fun s31 => ?_)
            refine z_aload_n (pc := 100) hX 1 dX11_sort_100 rfl rfl ?_
            refine z_get (pc := 101) hX zc11 1 (by decide) wd271 rfl rfl dX11_sort_101 (fun v32 => ?_)
            refine z_get (pc := 104) hX zc5 2 (by decide) wd112 rfl rfl dX11_sort_104 (fun v33 => ?_)
            refine z_iconst (pc := 107) hX dX11_sort_107 ?_
            refine z_aald (pc := 108) hX 2 102 (by decide) rfl rfl dX11_sort_108 (fun v34 => ?_)
            refine z_iload (pc := 109) hX 0 dX11_sort_109 rfl ?_
            refine z_iload (pc := 111) hX 5 dX11_sort_111 rfl ?_
            refine z_iastA (pc := 113) hX dX11_sort_113 (fun s35 => ?_)
            refine z_aload_n (pc := 114) hX 1 dX11_sort_114 rfl rfl ?_
            refine z_get (pc := 115) hX zc11 1 (by decide) wd271 rfl rfl dX11_sort_115 (fun v36 => ?_)
            refine z_iload (pc := 118) hX 0 dX11_sort_118 rfl ?_
            refine z_iconst (pc := 120) hX dX11_sort_120 ?_
            refine z_iadd (pc := 121) hX dX11_sort_121 ?_
            refine z_putA (pc := 122) hX zc5 5 (by decide) wd121 (Or.inl rfl) rfl rfl (fun _ => rfl) (fun _ => rfl) dX11_sort_122 (fun s37 => ?_)
            refine z_iload (pc := 125) hX 0 dX11_sort_125 rfl ?_
            exact z_iret (pc := 127) hX hR hk dX11_sort_127
          · refine z_bipush (pc := 53) hX dX11_sort_53 ?_
            exact z_iret (pc := 55) hX hR hk dX11_sort_55
        · refine z_bipush (pc := 39) hX dX11_sort_39 ?_
          exact z_iret (pc := 41) hX hR hk dX11_sort_41
    · refine z_bipush (pc := 17) hX dX11_sort_17 ?_
      exact z_iret (pc := 19) hX hR hk dX11_sort_19
