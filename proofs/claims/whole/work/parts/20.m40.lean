theorem dX11_back_0 : decode cX11_back 0 = .ok (.aload_n 0, 1) := by decide +kernel
theorem dX11_back_1 : decode cX11_back 1 = .ok (.getfield 62, 3) := by decide +kernel
theorem dX11_back_4 : decode cX11_back 4 = .ok (.ifCond .ne 6, 3) := by decide +kernel
theorem dX11_back_7 : decode cX11_back 7 = .ok (.bipush (-3), 2) := by decide +kernel
theorem dX11_back_9 : decode cX11_back 9 = .ok (.ireturn, 1) := by decide +kernel
theorem dX11_back_10 : decode cX11_back 10 = .ok (.aload_n 0, 1) := by decide +kernel
theorem dX11_back_11 : decode cX11_back 11 = .ok (.getfield 20, 3) := by decide +kernel
theorem dX11_back_14 : decode cX11_back 14 = .ok (.aload_n 0, 1) := by decide +kernel
theorem dX11_back_15 : decode cX11_back 15 = .ok (.getfield 59, 3) := by decide +kernel
theorem dX11_back_18 : decode cX11_back 18 = .ok (.aload_n 0, 1) := by decide +kernel
theorem dX11_back_19 : decode cX11_back 19 = .ok (.getfield 66, 3) := by decide +kernel
theorem dX11_back_22 : decode cX11_back 22 = .ok (.invokevirtual 266, 3) := by decide +kernel
theorem dX11_back_25 : decode cX11_back 25 = .ok (.iconst 0, 1) := by decide +kernel
theorem dX11_back_26 : decode cX11_back 26 = .ok (.istore_n 1, 1) := by decide +kernel
theorem dX11_back_27 : decode cX11_back 27 = .ok (.iload_n 1, 1) := by decide +kernel
theorem dX11_back_28 : decode cX11_back 28 = .ok (.aload_n 0, 1) := by decide +kernel
theorem dX11_back_29 : decode cX11_back 29 = .ok (.getfield 69, 3) := by decide +kernel
theorem dX11_back_32 : decode cX11_back 32 = .ok (.if_icmp .ge 34, 3) := by decide +kernel
theorem dX11_back_35 : decode cX11_back 35 = .ok (.aload_n 0, 1) := by decide +kernel
theorem dX11_back_36 : decode cX11_back 36 = .ok (.getfield 23, 3) := by decide +kernel
theorem dX11_back_39 : decode cX11_back 39 = .ok (.iload_n 1, 1) := by decide +kernel
theorem dX11_back_40 : decode cX11_back 40 = .ok (.aaload, 1) := by decide +kernel
theorem dX11_back_41 : decode cX11_back 41 = .ok (.getfield 270, 3) := by decide +kernel
theorem dX11_back_44 : decode cX11_back 44 = .ok (.iconst 0, 1) := by decide +kernel
theorem dX11_back_45 : decode cX11_back 45 = .ok (.aload_n 0, 1) := by decide +kernel
theorem dX11_back_46 : decode cX11_back 46 = .ok (.getfield 23, 3) := by decide +kernel
theorem dX11_back_49 : decode cX11_back 49 = .ok (.iload_n 1, 1) := by decide +kernel
theorem dX11_back_50 : decode cX11_back 50 = .ok (.aaload, 1) := by decide +kernel
theorem dX11_back_51 : decode cX11_back 51 = .ok (.getfield 167, 3) := by decide +kernel
theorem dX11_back_54 : decode cX11_back 54 = .ok (.iconst 0, 1) := by decide +kernel
theorem dX11_back_55 : decode cX11_back 55 = .ok (.bipush 16, 2) := by decide +kernel
theorem dX11_back_57 : decode cX11_back 57 = .ok (.invokestatic 171, 3) := by decide +kernel
theorem dX11_back_60 : decode cX11_back 60 = .ok (.iinc 1 1, 3) := by decide +kernel
theorem dX11_back_63 : decode cX11_back 63 = .ok (.goto (-36), 3) := by decide +kernel
theorem dX11_back_66 : decode cX11_back 66 = .ok (.aload_n 0, 1) := by decide +kernel
theorem dX11_back_67 : decode cX11_back 67 = .ok (.aload_n 0, 1) := by decide +kernel
theorem dX11_back_68 : decode cX11_back 68 = .ok (.getfield 72, 3) := by decide +kernel
theorem dX11_back_71 : decode cX11_back 71 = .ok (.putfield 47, 3) := by decide +kernel
theorem dX11_back_74 : decode cX11_back 74 = .ok (.aload_n 0, 1) := by decide +kernel
theorem dX11_back_75 : decode cX11_back 75 = .ok (.getfield 27, 3) := by decide +kernel
theorem dX11_back_78 : decode cX11_back 78 = .ok (.ireturn, 1) := by decide +kernel
def lX11_back_27 (u10 : Int) (K66 : ZS → Option (Int × ZS)) : Nat → ZS → Int → Option (Int × ZS)
  | 0, _, _ => none
  | n1 + 1, s9, x11 => (zg s9 11 u10 12).bind (fun v12 => if v12 ≤ x11 then (K66 s9) else ((zg s9 11 u10 2).bind (fun v14 => (zal s9 103 v14 x11).bind (fun v15 => (zgw s9 v15 2).bind (fun v16 => (zg s9 11 u10 2).bind (fun v17 => (zal s9 103 v17 x11).bind (fun v18 => (zgw s9 v18 1).bind (fun v19 => (zcp s9 v16 0 v19 0 16).bind (fun s20 => lX11_back_27 u10 K66 n1 s20 (wrap (x11 + 1)))))))))))

def fX11_back (s0 : ZS) (a0 : Int) : Option (Int × ZS) := (zg s0 11 a0 10).bind (fun v1 => if v1 = 0 then (some ((-3), s0)) else ((zg s0 11 a0 1).bind (fun v3 => (zg s0 11 a0 9).bind (fun v4 => (zg s0 11 a0 11).bind (fun v5 => zb (zv s0 5 v3 (fX5_become s0 v3 v4 v5)) (fun v6 s7 => lX11_back_27 a0 (fun (s22 : ZS) => (zg s22 11 a0 13).bind (fun v23 => (zp s22 11 a0 7 v23).bind (fun s24 => (zg s24 11 a0 3).bind (fun v25 => some (v25, s24))))) 1000 s7 0))))))
set_option maxHeartbeats 4000000 in
set_option maxRecDepth 100000 in
theorem mX11_back (E : ZE) (hE : zOkE E) (l : Launch) (s0 : ZS) (a0 : Int) : Ct E l yX11_back cX11_back 2 (some .int) 4 [(2, a0)] 1 s0 (fX11_back s0 a0) := by
  refine Ct.of (by decide) hE (Nat.le_of_ble_eq_true rfl) ?_
  intro X G hX hR hN hXE hXl hxn hk _
  subst hXE
  subst hXl
  have hX : G → ZOk X cX11_back RX11 4 := hX
  clear hN
  show Zj X G 0 [(0, (2, a0))] [] s0 _
  unfold fX11_back
  refine z_aload_n (pc := 0) hX 0 dX11_back_0 rfl rfl ?_
  refine z_get (pc := 1) hX zc11 10 (by decide) wd280 rfl rfl dX11_back_1 (fun v1 => ?_)
  refine z_if_ne (pc := 4) hX 10 dX11_back_4 (by decide) (fun h2 => ?_) (fun h2 => ?_)
  · refine z_aload_n (pc := 10) hX 0 dX11_back_10 rfl rfl ?_
    refine z_get (pc := 11) hX zc11 1 (by decide) wd271 rfl rfl dX11_back_11 (fun v3 => ?_)
    refine z_aload_n (pc := 14) hX 0 dX11_back_14 rfl rfl ?_
    refine z_get (pc := 15) hX zc11 9 (by decide) wd279 rfl rfl dX11_back_15 (fun v4 => ?_)
    refine z_aload_n (pc := 18) hX 0 dX11_back_18 rfl rfl ?_
    refine z_get (pc := 19) hX zc11 11 (by decide) wd281 rfl rfl dX11_back_19 (fun v5 => ?_)
    refine z_callV (n := 2) (st := []) (pc := 22) hX zc5 rfl (fun _ => (mX5_become _ hE _ _ _ _ _)) ⟨wd949, wd63, wd952, ⟨by decide, by decide, by decide⟩, by decide⟩ rfl wd950 wd951 rfl rfl (by decide) (Nat.le_of_ble_eq_true rfl) dX11_back_22 (fun v6 s7 r8 => ?_)
    show Zj X G 25 [(0, (2, a0))] [] _ _
    refine z_iconst (pc := 25) hX dX11_back_25 ?_
    refine z_istore_n (lv' := [(1, (0, 0)), (0, (2, a0))]) (pc := 26) hX dX11_back_26 rfl (zlt hxn rfl) rfl ?_
    have hl27 : ∀ (u10 : Int), ∀ (K66 : ZS → Option (Int × ZS)), (∀ (s21 : ZS), Zj X G 66 [(0, (2, u10))] [] s21 (K66 s21)) → ∀ (n1 : Nat) (s9 : ZS) (x11 : Int), Zj X G 27 [(0, (2, u10)), (1, (0, x11))] [] s9 (lX11_back_27 u10 K66 n1 s9 x11) := by
      intro u10 K66 hK66 n1
      induction n1 with
      | zero => intro _ _; exact z_none
      | succ n1 ih1 =>
        intro s9 x11
        rw [lX11_back_27]
        refine z_iload_n (pc := 27) hX 1 dX11_back_27 rfl rfl ?_
        refine z_aload_n (pc := 28) hX 0 dX11_back_28 rfl rfl ?_
        refine z_get (pc := 29) hX zc11 12 (by decide) wd282 rfl rfl dX11_back_29 (fun v12 => ?_)
        refine z_icmp_ge (pc := 32) hX 66 dX11_back_32 (by decide) (fun h13 => ?_) (fun h13 => ?_)
        · refine z_pick (lv' := [(0, (2, u10))]) [0] rfl ?_
          exact hK66 _
        · refine z_aload_n (pc := 35) hX 0 dX11_back_35 rfl rfl ?_
          refine z_get (pc := 36) hX zc11 2 (by decide) wd272 rfl rfl dX11_back_36 (fun v14 => ?_)
          refine z_iload_n (pc := 39) hX 1 dX11_back_39 rfl rfl ?_
          refine z_aald (pc := 40) hX 3 103 (by decide) rfl rfl dX11_back_40 (fun v15 => ?_)
          refine z_getw (pc := 41) hX zc10 zc9 zc3 zc0 zc1 zc7 2 (by decide) wd622 rfl rfl rfl rfl rfl rfl rfl rfl rfl rfl rfl rfl rfl dX11_back_41 (fun v16 => ?_)
          refine z_iconst (pc := 44) hX dX11_back_44 ?_
          refine z_aload_n (pc := 45) hX 0 dX11_back_45 rfl rfl ?_
          refine z_get (pc := 46) hX zc11 2 (by decide) wd272 rfl rfl dX11_back_46 (fun v17 => ?_)
          refine z_iload_n (pc := 49) hX 1 dX11_back_49 rfl rfl ?_
          refine z_aald (pc := 50) hX 3 103 (by decide) rfl rfl dX11_back_50 (fun v18 => ?_)
          refine z_getw (pc := 51) hX zc10 zc9 zc3 zc0 zc1 zc7 1 (by decide) wd620 rfl rfl rfl rfl rfl rfl rfl rfl rfl rfl rfl rfl rfl dX11_back_51 (fun v19 => ?_)
          refine z_iconst (pc := 54) hX dX11_back_54 ?_
          refine z_bipush (pc := 55) hX dX11_back_55 ?_
          refine z_acopy (pc := 57) hX (by decide) dX11_back_57 wd676 wd573 wd572 wd75 (Nat.le_of_ble_eq_true rfl) (fun s20 => ?_)
          refine z_iinc (lv' := [(1, (0, (wrap (x11 + 1)))), (0, (2, u10))]) (pc := 60) hX 1 dX11_back_60 rfl (zlt hxn rfl) rfl ?_
          refine z_goto (pc := 63) hX 27 dX11_back_63 (by decide) ?_
          refine z_pick (lv' := [(0, (2, u10)), (1, (0, (wrap (x11 + 1))))]) [1, 0] rfl ?_
          exact ih1 _ _
    refine z_pick (lv' := [(0, (2, a0)), (1, (0, 0))]) [1, 0] rfl ?_
    refine hl27 _ _ (fun s22 => ?_) 1000 _ _
    refine z_aload_n (pc := 66) hX 0 dX11_back_66 rfl rfl ?_
    refine z_aload_n (pc := 67) hX 0 dX11_back_67 rfl rfl ?_
    refine z_get (pc := 68) hX zc11 13 (by decide) wd283 rfl rfl dX11_back_68 (fun v23 => ?_)
    refine z_putA (pc := 71) hX zc11 7 (by decide) wd277 (Or.inl rfl) rfl rfl (fun _ => rfl) (fun _ => rfl) dX11_back_71 (fun s24 => ?_)
    refine z_aload_n (pc := 74) hX 0 dX11_back_74 rfl rfl ?_
    refine z_get (pc := 75) hX zc11 3 (by decide) wd273 rfl rfl dX11_back_75 (fun v25 => ?_)
    exact z_iret (pc := 78) hX hR hk dX11_back_78
  · refine z_bipush (pc := 7) hX dX11_back_7 ?_
    exact z_iret (pc := 9) hX hR hk dX11_back_9

theorem dX12_back_0 : decode cX12_back 0 = .ok (.aload_n 0, 1) := by decide +kernel
theorem dX12_back_1 : decode cX12_back 1 = .ok (.getfield 300, 3) := by decide +kernel
theorem dX12_back_4 : decode cX12_back 4 = .ok (.ifCond .ne 6, 3) := by decide +kernel
theorem dX12_back_7 : decode cX12_back 7 = .ok (.bipush (-3), 2) := by decide +kernel
theorem dX12_back_9 : decode cX12_back 9 = .ok (.ireturn, 1) := by decide +kernel
theorem dX12_back_10 : decode cX12_back 10 = .ok (.aload_n 0, 1) := by decide +kernel
theorem dX12_back_11 : decode cX12_back 11 = .ok (.aload_n 0, 1) := by decide +kernel
theorem dX12_back_12 : decode cX12_back 12 = .ok (.getfield 310, 3) := by decide +kernel
theorem dX12_back_15 : decode cX12_back 15 = .ok (.putfield 207, 3) := by decide +kernel
theorem dX12_back_18 : decode cX12_back 18 = .ok (.iconst 0, 1) := by decide +kernel
theorem dX12_back_19 : decode cX12_back 19 = .ok (.istore_n 1, 1) := by decide +kernel
theorem dX12_back_20 : decode cX12_back 20 = .ok (.iload_n 1, 1) := by decide +kernel
theorem dX12_back_21 : decode cX12_back 21 = .ok (.bipush 48, 2) := by decide +kernel
theorem dX12_back_23 : decode cX12_back 23 = .ok (.if_icmp .ge 33, 3) := by decide +kernel
theorem dX12_back_26 : decode cX12_back 26 = .ok (.aload_n 0, 1) := by decide +kernel
theorem dX12_back_27 : decode cX12_back 27 = .ok (.getfield 7, 3) := by decide +kernel
theorem dX12_back_30 : decode cX12_back 30 = .ok (.iload_n 1, 1) := by decide +kernel
theorem dX12_back_31 : decode cX12_back 31 = .ok (.aload_n 0, 1) := by decide +kernel
theorem dX12_back_32 : decode cX12_back 32 = .ok (.getfield 50, 3) := by decide +kernel
theorem dX12_back_35 : decode cX12_back 35 = .ok (.iload_n 1, 1) := by decide +kernel
theorem dX12_back_36 : decode cX12_back 36 = .ok (.iaload, 1) := by decide +kernel
theorem dX12_back_37 : decode cX12_back 37 = .ok (.iastore, 1) := by decide +kernel
theorem dX12_back_38 : decode cX12_back 38 = .ok (.aload_n 0, 1) := by decide +kernel
theorem dX12_back_39 : decode cX12_back 39 = .ok (.getfield 13, 3) := by decide +kernel
theorem dX12_back_42 : decode cX12_back 42 = .ok (.iload_n 1, 1) := by decide +kernel
theorem dX12_back_43 : decode cX12_back 43 = .ok (.aload_n 0, 1) := by decide +kernel
theorem dX12_back_44 : decode cX12_back 44 = .ok (.getfield 53, 3) := by decide +kernel
theorem dX12_back_47 : decode cX12_back 47 = .ok (.iload_n 1, 1) := by decide +kernel
theorem dX12_back_48 : decode cX12_back 48 = .ok (.iaload, 1) := by decide +kernel
theorem dX12_back_49 : decode cX12_back 49 = .ok (.iastore, 1) := by decide +kernel
theorem dX12_back_50 : decode cX12_back 50 = .ok (.iinc 1 1, 3) := by decide +kernel
theorem dX12_back_53 : decode cX12_back 53 = .ok (.goto (-33), 3) := by decide +kernel
theorem dX12_back_56 : decode cX12_back 56 = .ok (.iconst 0, 1) := by decide +kernel
theorem dX12_back_57 : decode cX12_back 57 = .ok (.istore_n 1, 1) := by decide +kernel
theorem dX12_back_58 : decode cX12_back 58 = .ok (.iload_n 1, 1) := by decide +kernel
theorem dX12_back_59 : decode cX12_back 59 = .ok (.aload_n 0, 1) := by decide +kernel
theorem dX12_back_60 : decode cX12_back 60 = .ok (.getfield 304, 3) := by decide +kernel
theorem dX12_back_63 : decode cX12_back 63 = .ok (.if_icmp .ge 21, 3) := by decide +kernel
theorem dX12_back_66 : decode cX12_back 66 = .ok (.aload_n 0, 1) := by decide +kernel
theorem dX12_back_67 : decode cX12_back 67 = .ok (.getfield 16, 3) := by decide +kernel
theorem dX12_back_70 : decode cX12_back 70 = .ok (.iload_n 1, 1) := by decide +kernel
theorem dX12_back_71 : decode cX12_back 71 = .ok (.aload_n 0, 1) := by decide +kernel
theorem dX12_back_72 : decode cX12_back 72 = .ok (.getfield 56, 3) := by decide +kernel
theorem dX12_back_75 : decode cX12_back 75 = .ok (.iload_n 1, 1) := by decide +kernel
theorem dX12_back_76 : decode cX12_back 76 = .ok (.iaload, 1) := by decide +kernel
theorem dX12_back_77 : decode cX12_back 77 = .ok (.iastore, 1) := by decide +kernel
theorem dX12_back_78 : decode cX12_back 78 = .ok (.iinc 1 1, 3) := by decide +kernel
theorem dX12_back_81 : decode cX12_back 81 = .ok (.goto (-23), 3) := by decide +kernel
theorem dX12_back_84 : decode cX12_back 84 = .ok (.iconst 0, 1) := by decide +kernel
theorem dX12_back_85 : decode cX12_back 85 = .ok (.istore_n 1, 1) := by decide +kernel
theorem dX12_back_86 : decode cX12_back 86 = .ok (.iload_n 1, 1) := by decide +kernel
theorem dX12_back_87 : decode cX12_back 87 = .ok (.bipush 16, 2) := by decide +kernel
theorem dX12_back_89 : decode cX12_back 89 = .ok (.aload_n 0, 1) := by decide +kernel
theorem dX12_back_90 : decode cX12_back 90 = .ok (.getfield 307, 3) := by decide +kernel
theorem dX12_back_93 : decode cX12_back 93 = .ok (.imul, 1) := by decide +kernel
theorem dX12_back_94 : decode cX12_back 94 = .ok (.if_icmp .ge 21, 3) := by decide +kernel
theorem dX12_back_97 : decode cX12_back 97 = .ok (.aload_n 0, 1) := by decide +kernel
theorem dX12_back_98 : decode cX12_back 98 = .ok (.getfield 34, 3) := by decide +kernel
theorem dX12_back_101 : decode cX12_back 101 = .ok (.iload_n 1, 1) := by decide +kernel
theorem dX12_back_102 : decode cX12_back 102 = .ok (.aload_n 0, 1) := by decide +kernel
theorem dX12_back_103 : decode cX12_back 103 = .ok (.getfield 59, 3) := by decide +kernel
theorem dX12_back_106 : decode cX12_back 106 = .ok (.iload_n 1, 1) := by decide +kernel
theorem dX12_back_107 : decode cX12_back 107 = .ok (.iaload, 1) := by decide +kernel
theorem dX12_back_108 : decode cX12_back 108 = .ok (.iastore, 1) := by decide +kernel
theorem dX12_back_109 : decode cX12_back 109 = .ok (.iinc 1 1, 3) := by decide +kernel
theorem dX12_back_112 : decode cX12_back 112 = .ok (.goto (-26), 3) := by decide +kernel
theorem dX12_back_115 : decode cX12_back 115 = .ok (.aload_n 0, 1) := by decide +kernel
theorem dX12_back_116 : decode cX12_back 116 = .ok (.getfield 214, 3) := by decide +kernel
theorem dX12_back_119 : decode cX12_back 119 = .ok (.ireturn, 1) := by decide +kernel
def lX12_back_20 (u6 : Int) (K56 : ZS → Option (Int × ZS)) : Nat → ZS → Int → Option (Int × ZS)
  | 0, _, _ => none
  | n1 + 1, s5, x7 => if 48 ≤ x7 then (K56 s5) else ((zg s5 12 u6 0).bind (fun v9 => (zg s5 12 u6 22).bind (fun v10 => (zal s5 100 v10 x7).bind (fun v11 => (zas s5 100 v9 x7 v11).bind (fun s12 => (zg s12 12 u6 1).bind (fun v13 => (zg s12 12 u6 23).bind (fun v14 => (zal s12 100 v14 x7).bind (fun v15 => (zas s12 100 v13 x7 v15).bind (fun s16 => lX12_back_20 u6 K56 n1 s16 (wrap (x7 + 1)))))))))))

def lX12_back_58 (u20 : Int) (K84 : ZS → Option (Int × ZS)) : Nat → ZS → Int → Option (Int × ZS)
  | 0, _, _ => none
  | n1 + 1, s19, x21 => (zg s19 12 u20 19).bind (fun v22 => if v22 ≤ x21 then (K84 s19) else ((zg s19 12 u20 3).bind (fun v24 => (zg s19 12 u20 24).bind (fun v25 => (zal s19 100 v25 x21).bind (fun v26 => (zas s19 100 v24 x21 v26).bind (fun s27 => lX12_back_58 u20 K84 n1 s27 (wrap (x21 + 1))))))))

def lX12_back_86 (u31 : Int)  : Nat → ZS → Int → Option (Int × ZS)
  | 0, _, _ => none
  | n1 + 1, s30, x32 => (zg s30 12 u31 20).bind (fun v33 => if (wrap (16 * v33)) ≤ x32 then ((zg s30 12 u31 8).bind (fun v35 => some (v35, s30))) else ((zg s30 12 u31 11).bind (fun v36 => (zg s30 12 u31 25).bind (fun v37 => (zal s30 100 v37 x32).bind (fun v38 => (zas s30 100 v36 x32 v38).bind (fun s39 => lX12_back_86 u31 n1 s39 (wrap (x32 + 1))))))))

def fX12_back (s0 : ZS) (a0 : Int) : Option (Int × ZS) := (zg s0 12 a0 18).bind (fun v1 => if v1 = 0 then (some ((-3), s0)) else ((zg s0 12 a0 21).bind (fun v3 => (zp s0 12 a0 17 v3).bind (fun s4 => lX12_back_20 a0 (fun (s18 : ZS) => lX12_back_58 a0 (fun (s29 : ZS) => lX12_back_86 a0 1000 s29 0) 1000 s18 0) 1000 s4 0))))
set_option maxHeartbeats 4000000 in
set_option maxRecDepth 100000 in
theorem mX12_back (E : ZE) (hE : zOkE E) (l : Launch) (s0 : ZS) (a0 : Int) : Ct E l yX12_back cX12_back 2 (some .int) 2 [(2, a0)] 1 s0 (fX12_back s0 a0) := by
  refine Ct.of (by decide) hE (Nat.le_of_ble_eq_true rfl) ?_
  intro X G hX hR hN hXE hXl hxn hk _
  subst hXE
  subst hXl
  have hX : G → ZOk X cX12_back RX12 2 := hX
  clear hN
  show Zj X G 0 [(0, (2, a0))] [] s0 _
  unfold fX12_back
  refine z_aload_n (pc := 0) hX 0 dX12_back_0 rfl rfl ?_
  refine z_get (pc := 1) hX zc12 18 (by decide) wd1035 rfl rfl dX12_back_1 (fun v1 => ?_)
  refine z_if_ne (pc := 4) hX 10 dX12_back_4 (by decide) (fun h2 => ?_) (fun h2 => ?_)
  · refine z_aload_n (pc := 10) hX 0 dX12_back_10 rfl rfl ?_
    refine z_aload_n (pc := 11) hX 0 dX12_back_11 rfl rfl ?_
    refine z_get (pc := 12) hX zc12 21 (by decide) wd1038 rfl rfl dX12_back_12 (fun v3 => ?_)
    refine z_putA (pc := 15) hX zc12 17 (by decide) wd1034 (Or.inl rfl) rfl rfl (fun _ => rfl) (fun _ => rfl) dX12_back_15 (fun s4 => ?_)
    refine z_iconst (pc := 18) hX dX12_back_18 ?_
    refine z_istore_n (lv' := [(1, (0, 0)), (0, (2, a0))]) (pc := 19) hX dX12_back_19 rfl (zlt hxn rfl) rfl ?_
    have hl20 : ∀ (u6 : Int), ∀ (K56 : ZS → Option (Int × ZS)), (∀ (s17 : ZS), Zj X G 56 [(0, (2, u6))] [] s17 (K56 s17)) → ∀ (n1 : Nat) (s5 : ZS) (x7 : Int), Zj X G 20 [(0, (2, u6)), (1, (0, x7))] [] s5 (lX12_back_20 u6 K56 n1 s5 x7) := by
      intro u6 K56 hK56 n1
      induction n1 with
      | zero => intro _ _; exact z_none
      | succ n1 ih1 =>
        intro s5 x7
        rw [lX12_back_20]
        refine z_iload_n (pc := 20) hX 1 dX12_back_20 rfl rfl ?_
        refine z_bipush (pc := 21) hX dX12_back_21 ?_
        refine z_icmp_ge (pc := 23) hX 56 dX12_back_23 (by decide) (fun h8 => ?_) (fun h8 => ?_)
        · refine z_pick (lv' := [(0, (2, u6))]) [0] rfl ?_
          exact hK56 _
        · refine z_aload_n (pc := 26) hX 0 dX12_back_26 rfl rfl ?_
          refine z_get (pc := 27) hX zc12 0 (by decide) wd1017 rfl rfl dX12_back_27 (fun v9 => ?_)
          refine z_iload_n (pc := 30) hX 1 dX12_back_30 rfl rfl ?_
          refine z_aload_n (pc := 31) hX 0 dX12_back_31 rfl rfl ?_
          refine z_get (pc := 32) hX zc12 22 (by decide) wd1039 rfl rfl dX12_back_32 (fun v10 => ?_)
          refine z_iload_n (pc := 35) hX 1 dX12_back_35 rfl rfl ?_
          refine z_iald (pc := 36) hX dX12_back_36 (fun v11 => ?_)
          refine z_iastA (pc := 37) hX dX12_back_37 (fun s12 => ?_)
          refine z_aload_n (pc := 38) hX 0 dX12_back_38 rfl rfl ?_
          refine z_get (pc := 39) hX zc12 1 (by decide) wd1018 rfl rfl dX12_back_39 (fun v13 => ?_)
          refine z_iload_n (pc := 42) hX 1 dX12_back_42 rfl rfl ?_
          refine z_aload_n (pc := 43) hX 0 dX12_back_43 rfl rfl ?_
          refine z_get (pc := 44) hX zc12 23 (by decide) wd1040 rfl rfl dX12_back_44 (fun v14 => ?_)
          refine z_iload_n (pc := 47) hX 1 dX12_back_47 rfl rfl ?_
          refine z_iald (pc := 48) hX dX12_back_48 (fun v15 => ?_)
          refine z_iastA (pc := 49) hX dX12_back_49 (fun s16 => ?_)
          refine z_iinc (lv' := [(1, (0, (wrap (x7 + 1)))), (0, (2, u6))]) (pc := 50) hX 1 dX12_back_50 rfl (zlt hxn rfl) rfl ?_
          refine z_goto (pc := 53) hX 20 dX12_back_53 (by decide) ?_
          refine z_pick (lv' := [(0, (2, u6)), (1, (0, (wrap (x7 + 1))))]) [1, 0] rfl ?_
          exact ih1 _ _
    refine z_pick (lv' := [(0, (2, a0)), (1, (0, 0))]) [1, 0] rfl ?_
    refine hl20 _ _ (fun s18 => ?_) 1000 _ _
    refine z_iconst (pc := 56) hX dX12_back_56 ?_
    refine z_istore_n (lv' := [(1, (0, 0)), (0, (2, a0))]) (pc := 57) hX dX12_back_57 rfl (zlt hxn rfl) rfl ?_
    have hl58 : ∀ (u20 : Int), ∀ (K84 : ZS → Option (Int × ZS)), (∀ (s28 : ZS), Zj X G 84 [(0, (2, u20))] [] s28 (K84 s28)) → ∀ (n1 : Nat) (s19 : ZS) (x21 : Int), Zj X G 58 [(0, (2, u20)), (1, (0, x21))] [] s19 (lX12_back_58 u20 K84 n1 s19 x21) := by
      intro u20 K84 hK84 n1
      induction n1 with
      | zero => intro _ _; exact z_none
      | succ n1 ih1 =>
        intro s19 x21
        rw [lX12_back_58]
        refine z_iload_n (pc := 58) hX 1 dX12_back_58 rfl rfl ?_
        refine z_aload_n (pc := 59) hX 0 dX12_back_59 rfl rfl ?_
        refine z_get (pc := 60) hX zc12 19 (by decide) wd1036 rfl rfl dX12_back_60 (fun v22 => ?_)
        refine z_icmp_ge (pc := 63) hX 84 dX12_back_63 (by decide) (fun h23 => ?_) (fun h23 => ?_)
        · refine z_pick (lv' := [(0, (2, u20))]) [0] rfl ?_
          exact hK84 _
        · refine z_aload_n (pc := 66) hX 0 dX12_back_66 rfl rfl ?_
          refine z_get (pc := 67) hX zc12 3 (by decide) wd1020 rfl rfl dX12_back_67 (fun v24 => ?_)
          refine z_iload_n (pc := 70) hX 1 dX12_back_70 rfl rfl ?_
          refine z_aload_n (pc := 71) hX 0 dX12_back_71 rfl rfl ?_
          refine z_get (pc := 72) hX zc12 24 (by decide) wd1041 rfl rfl dX12_back_72 (fun v25 => ?_)
          refine z_iload_n (pc := 75) hX 1 dX12_back_75 rfl rfl ?_
          refine z_iald (pc := 76) hX dX12_back_76 (fun v26 => ?_)
          refine z_iastA (pc := 77) hX dX12_back_77 (fun s27 => ?_)
          refine z_iinc (lv' := [(1, (0, (wrap (x21 + 1)))), (0, (2, u20))]) (pc := 78) hX 1 dX12_back_78 rfl (zlt hxn rfl) rfl ?_
          refine z_goto (pc := 81) hX 58 dX12_back_81 (by decide) ?_
          refine z_pick (lv' := [(0, (2, u20)), (1, (0, (wrap (x21 + 1))))]) [1, 0] rfl ?_
          exact ih1 _ _
    refine z_pick (lv' := [(0, (2, a0)), (1, (0, 0))]) [1, 0] rfl ?_
    refine hl58 _ _ (fun s29 => ?_) 1000 _ _
    refine z_iconst (pc := 84) hX dX12_back_84 ?_
    refine z_istore_n (lv' := [(1, (0, 0)), (0, (2, a0))]) (pc := 85) hX dX12_back_85 rfl (zlt hxn rfl) rfl ?_
    have hl86 : ∀ (u31 : Int), ∀ (n1 : Nat) (s30 : ZS) (x32 : Int), Zj X G 86 [(0, (2, u31)), (1, (0, x32))] [] s30 (lX12_back_86 u31 n1 s30 x32) := by
      intro u31 n1
      induction n1 with
      | zero => intro _ _; exact z_none
      | succ n1 ih1 =>
        intro s30 x32
        rw [lX12_back_86]
        refine z_iload_n (pc := 86) hX 1 dX12_back_86 rfl rfl ?_
        refine z_bipush (pc := 87) hX dX12_back_87 ?_
        refine z_aload_n (pc := 89) hX 0 dX12_back_89 rfl rfl ?_
        refine z_get (pc := 90) hX zc12 20 (by decide) wd1037 rfl rfl dX12_back_90 (fun v33 => ?_)
        refine z_imul (pc := 93) hX dX12_back_93 ?_
        refine z_icmp_ge (pc := 94) hX 115 dX12_back_94 (by decide) (fun h34 => ?_) (fun h34 => ?_)
        · refine z_aload_n (pc := 115) hX 0 dX12_back_115 rfl rfl ?_
          refine z_get (pc := 116) hX zc12 8 (by decide) wd1025 rfl rfl dX12_back_116 (fun v35 => ?_)
          exact z_iret (pc := 119) hX hR hk dX12_back_119
        · refine z_aload_n (pc := 97) hX 0 dX12_back_97 rfl rfl ?_
          refine z_get (pc := 98) hX zc12 11 (by decide) wd1028 rfl rfl dX12_back_98 (fun v36 => ?_)
          refine z_iload_n (pc := 101) hX 1 dX12_back_101 rfl rfl ?_
          refine z_aload_n (pc := 102) hX 0 dX12_back_102 rfl rfl ?_
          refine z_get (pc := 103) hX zc12 25 (by decide) wd1042 rfl rfl dX12_back_103 (fun v37 => ?_)
          refine z_iload_n (pc := 106) hX 1 dX12_back_106 rfl rfl ?_
          refine z_iald (pc := 107) hX dX12_back_107 (fun v38 => ?_)
          refine z_iastA (pc := 108) hX dX12_back_108 (fun s39 => ?_)
          refine z_iinc (lv' := [(1, (0, (wrap (x32 + 1)))), (0, (2, u31))]) (pc := 109) hX 1 dX12_back_109 rfl (zlt hxn rfl) rfl ?_
          refine z_goto (pc := 112) hX 86 dX12_back_112 (by decide) ?_
          refine z_pick (lv' := [(0, (2, u31)), (1, (0, (wrap (x32 + 1))))]) [1, 0] rfl ?_
          exact ih1 _ _
    refine z_pick (lv' := [(0, (2, a0)), (1, (0, 0))]) [1, 0] rfl ?_
    refine hl86 _ 1000 _ _
  · refine z_bipush (pc := 7) hX dX12_back_7 ?_
    exact z_iret (pc := 9) hX hR hk dX12_back_9

theorem dX6_renew_0 : decode cX6_renew 0 = .ok (.aload_n 0, 1) := by decide +kernel
theorem dX6_renew_1 : decode cX6_renew 1 = .ok (.iload_n 1, 1) := by decide +kernel
theorem dX6_renew_2 : decode cX6_renew 2 = .ok (.putfield 15, 3) := by decide +kernel
theorem dX6_renew_5 : decode cX6_renew 5 = .ok (.aload_n 0, 1) := by decide +kernel
theorem dX6_renew_6 : decode cX6_renew 6 = .ok (.iload_n 2, 1) := by decide +kernel
theorem dX6_renew_7 : decode cX6_renew 7 = .ok (.putfield 19, 3) := by decide +kernel
theorem dX6_renew_10 : decode cX6_renew 10 = .ok (.iconst 0, 1) := by decide +kernel
theorem dX6_renew_11 : decode cX6_renew 11 = .ok (.istore_n 3, 1) := by decide +kernel
theorem dX6_renew_12 : decode cX6_renew 12 = .ok (.iload_n 3, 1) := by decide +kernel
theorem dX6_renew_13 : decode cX6_renew 13 = .ok (.bipush 40, 2) := by decide +kernel
theorem dX6_renew_15 : decode cX6_renew 15 = .ok (.if_icmp .ge 16, 3) := by decide +kernel
theorem dX6_renew_18 : decode cX6_renew 18 = .ok (.aload_n 0, 1) := by decide +kernel
theorem dX6_renew_19 : decode cX6_renew 19 = .ok (.getfield 9, 3) := by decide +kernel
theorem dX6_renew_22 : decode cX6_renew 22 = .ok (.iload_n 3, 1) := by decide +kernel
theorem dX6_renew_23 : decode cX6_renew 23 = .ok (.iconst 0, 1) := by decide +kernel
theorem dX6_renew_24 : decode cX6_renew 24 = .ok (.iastore, 1) := by decide +kernel
theorem dX6_renew_25 : decode cX6_renew 25 = .ok (.iinc 3 1, 3) := by decide +kernel
theorem dX6_renew_28 : decode cX6_renew 28 = .ok (.goto (-16), 3) := by decide +kernel
theorem dX6_renew_31 : decode cX6_renew 31 = .ok (.return_, 1) := by decide +kernel
def lX6_renew_12 (u4 : Int)  : Nat → ZS → Int → Option (Int × ZS)
  | 0, _, _ => none
  | n1 + 1, s3, x5 => if 40 ≤ x5 then (some (0, s3)) else ((zg s3 6 u4 0).bind (fun v7 => (zas s3 100 v7 x5 0).bind (fun s8 => lX6_renew_12 u4 n1 s8 (wrap (x5 + 1)))))

def fX6_renew (s0 : ZS) (a0 : Int) (a1 : Int) (a2 : Int) : Option (Int × ZS) := (zp s0 6 a0 1 a1).bind (fun s1 => (zp s1 6 a0 2 a2).bind (fun s2 => lX6_renew_12 a0 1000 s2 0))
set_option maxHeartbeats 4000000 in
set_option maxRecDepth 100000 in
theorem mX6_renew (E : ZE) (hE : zOkE E) (l : Launch) (s0 : ZS) (a0 : Int) (a1 : Int) (a2 : Int) : Ct E l yX6_renew cX6_renew 4 none 2 [(2, a0), (0, a1), (0, a2)] 0 s0 (fX6_renew s0 a0 a1 a2) := by
  refine Ct.of (by decide) hE (Nat.le_of_ble_eq_true rfl) ?_
  intro X G hX hR hN hXE hXl hxn hk _
  subst hXE
  subst hXl
  have hX : G → ZOk X cX6_renew RX6 2 := hX
  clear hN
  show Zj X G 0 [(0, (2, a0)), (1, (0, a1)), (2, (0, a2))] [] s0 _
  unfold fX6_renew
  refine z_aload_n (pc := 0) hX 0 dX6_renew_0 rfl rfl ?_
  refine z_iload_n (pc := 1) hX 1 dX6_renew_1 rfl rfl ?_
  refine z_putA (pc := 2) hX zc6 1 (by decide) wd259 (Or.inl rfl) rfl rfl (fun _ => rfl) (fun _ => rfl) dX6_renew_2 (fun s1 => ?_)
  refine z_aload_n (pc := 5) hX 0 dX6_renew_5 rfl rfl ?_
  refine z_iload_n (pc := 6) hX 2 dX6_renew_6 rfl rfl ?_
  refine z_putA (pc := 7) hX zc6 2 (by decide) wd261 (Or.inl rfl) rfl rfl (fun _ => rfl) (fun _ => rfl) dX6_renew_7 (fun s2 => ?_)
  refine z_iconst (pc := 10) hX dX6_renew_10 ?_
  refine z_istore_n (lv' := [(3, (0, 0)), (0, (2, a0)), (1, (0, a1)), (2, (0, a2))]) (pc := 11) hX dX6_renew_11 rfl (zlt hxn rfl) rfl ?_
  have hl12 : ∀ (u4 : Int), ∀ (n1 : Nat) (s3 : ZS) (x5 : Int), Zj X G 12 [(0, (2, u4)), (3, (0, x5))] [] s3 (lX6_renew_12 u4 n1 s3 x5) := by
    intro u4 n1
    induction n1 with
    | zero => intro _ _; exact z_none
    | succ n1 ih1 =>
      intro s3 x5
      rw [lX6_renew_12]
      refine z_iload_n (pc := 12) hX 1 dX6_renew_12 rfl rfl ?_
      refine z_bipush (pc := 13) hX dX6_renew_13 ?_
      refine z_icmp_ge (pc := 15) hX 31 dX6_renew_15 (by decide) (fun h6 => ?_) (fun h6 => ?_)
      · exact z_vret (pc := 31) hX hR hk dX6_renew_31
      · refine z_aload_n (pc := 18) hX 0 dX6_renew_18 rfl rfl ?_
        refine z_get (pc := 19) hX zc6 0 (by decide) wd257 rfl rfl dX6_renew_19 (fun v7 => ?_)
        refine z_iload_n (pc := 22) hX 1 dX6_renew_22 rfl rfl ?_
        refine z_iconst (pc := 23) hX dX6_renew_23 ?_
        refine z_iastA (pc := 24) hX dX6_renew_24 (fun s8 => ?_)
        refine z_iinc (lv' := [(3, (0, (wrap (x5 + 1)))), (0, (2, u4))]) (pc := 25) hX 1 dX6_renew_25 rfl (zlt hxn rfl) rfl ?_
        refine z_goto (pc := 28) hX 12 dX6_renew_28 (by decide) ?_
        refine z_pick (lv' := [(0, (2, u4)), (3, (0, (wrap (x5 + 1))))]) [1, 0] rfl ?_
        exact ih1 _ _
  refine z_pick (lv' := [(0, (2, a0)), (3, (0, 0))]) [1, 0] rfl ?_
  refine hl12 _ 1000 _ _

theorem dX11_sheet_0 : decode cX11_sheet 0 = .ok (.iload_n 1, 1) := by decide +kernel
theorem dX11_sheet_1 : decode cX11_sheet 1 = .ok (.invokestatic 148, 3) := by decide +kernel
theorem dX11_sheet_4 : decode cX11_sheet 4 = .ok (.ifCond .eq 13, 3) := by decide +kernel
theorem dX11_sheet_7 : decode cX11_sheet 7 = .ok (.iload_n 2, 1) := by decide +kernel
theorem dX11_sheet_8 : decode cX11_sheet 8 = .ok (.iconst (-1), 1) := by decide +kernel
theorem dX11_sheet_9 : decode cX11_sheet 9 = .ok (.if_icmp .lt 8, 3) := by decide +kernel
theorem dX11_sheet_12 : decode cX11_sheet 12 = .ok (.iload_n 2, 1) := by decide +kernel
theorem dX11_sheet_13 : decode cX11_sheet 13 = .ok (.iconst 2, 1) := by decide +kernel
theorem dX11_sheet_14 : decode cX11_sheet 14 = .ok (.if_icmp .le 6, 3) := by decide +kernel
theorem dX11_sheet_17 : decode cX11_sheet 17 = .ok (.bipush (-2), 2) := by decide +kernel
theorem dX11_sheet_19 : decode cX11_sheet 19 = .ok (.ireturn, 1) := by decide +kernel
theorem dX11_sheet_20 : decode cX11_sheet 20 = .ok (.iload_n 2, 1) := by decide +kernel
theorem dX11_sheet_21 : decode cX11_sheet 21 = .ok (.iconst (-1), 1) := by decide +kernel
theorem dX11_sheet_22 : decode cX11_sheet 22 = .ok (.if_icmp .eq 12, 3) := by decide +kernel
theorem dX11_sheet_25 : decode cX11_sheet 25 = .ok (.iload_n 3, 1) := by decide +kernel
theorem dX11_sheet_26 : decode cX11_sheet 26 = .ok (.bipush 40, 2) := by decide +kernel
theorem dX11_sheet_28 : decode cX11_sheet 28 = .ok (.if_icmp .le 6, 3) := by decide +kernel
theorem dX11_sheet_31 : decode cX11_sheet 31 = .ok (.bipush (-2), 2) := by decide +kernel
theorem dX11_sheet_33 : decode cX11_sheet 33 = .ok (.ireturn, 1) := by decide +kernel
theorem dX11_sheet_34 : decode cX11_sheet 34 = .ok (.iload_n 2, 1) := by decide +kernel
theorem dX11_sheet_35 : decode cX11_sheet 35 = .ok (.iconst (-1), 1) := by decide +kernel
theorem dX11_sheet_36 : decode cX11_sheet 36 = .ok (.if_icmp .eq 10, 3) := by decide +kernel
theorem dX11_sheet_39 : decode cX11_sheet 39 = .ok (.iload_n 3, 1) := by decide +kernel
theorem dX11_sheet_40 : decode cX11_sheet 40 = .ok (.ifCond .ge 6, 3) := by decide +kernel
theorem dX11_sheet_43 : decode cX11_sheet 43 = .ok (.bipush (-14), 2) := by decide +kernel
theorem dX11_sheet_45 : decode cX11_sheet 45 = .ok (.ireturn, 1) := by decide +kernel
theorem dX11_sheet_46 : decode cX11_sheet 46 = .ok (.aload_n 0, 1) := by decide +kernel
theorem dX11_sheet_47 : decode cX11_sheet 47 = .ok (.getfield 52, 3) := by decide +kernel
theorem dX11_sheet_50 : decode cX11_sheet 50 = .ok (.iload_n 1, 1) := by decide +kernel
theorem dX11_sheet_51 : decode cX11_sheet 51 = .ok (.aaload, 1) := by decide +kernel
theorem dX11_sheet_52 : decode cX11_sheet 52 = .ok (.iload_n 2, 1) := by decide +kernel
theorem dX11_sheet_53 : decode cX11_sheet 53 = .ok (.iload_n 2, 1) := by decide +kernel
theorem dX11_sheet_54 : decode cX11_sheet 54 = .ok (.iconst (-1), 1) := by decide +kernel
theorem dX11_sheet_55 : decode cX11_sheet 55 = .ok (.if_icmp .ne 7, 3) := by decide +kernel
theorem dX11_sheet_58 : decode cX11_sheet 58 = .ok (.iconst 0, 1) := by decide +kernel
theorem dX11_sheet_59 : decode cX11_sheet 59 = .ok (.goto 4, 3) := by decide +kernel
theorem dX11_sheet_62 : decode cX11_sheet 62 = .ok (.iload_n 3, 1) := by decide +kernel
theorem dX11_sheet_63 : decode cX11_sheet 63 = .ok (.invokevirtual 272, 3) := by decide +kernel
theorem dX11_sheet_66 : decode cX11_sheet 66 = .ok (.iconst 1, 1) := by decide +kernel
theorem dX11_sheet_67 : decode cX11_sheet 67 = .ok (.ireturn, 1) := by decide +kernel
def fX11_sheet (s0 : ZS) (a0 : Int) (a1 : Int) (a2 : Int) (a3 : Int) : Option (Int × ZS) := zb (fX11_isSheet s0 a1) (fun v1 s2 => if v1 = 0 then (some ((-2), s2)) else (if a2 < (-1) then (some ((-2), s2)) else (if a2 ≤ 2 then (zjn (fun (K34 : ZS → Option (Int × ZS)) => if a2 = (-1) then (K34 s2) else (if a3 ≤ 40 then (K34 s2) else (some ((-2), s2)))) (fun (s9 : ZS) => zjn (fun (K46 : ZS → Option (Int × ZS)) => if a2 = (-1) then (K46 s9) else (if 0 ≤ a3 then (K46 s9) else (some ((-14), s9)))) (fun (s12 : ZS) => (zg s12 11 a0 8).bind (fun v13 => (zal s12 105 v13 a1).bind (fun v14 => zjn (fun (K63 : ZS → Int → Option (Int × ZS)) => if a2 = (-1) then (K63 s12 0) else (K63 s12 a3)) (fun (s16 : ZS) (w17 : Int) => zb (zv s16 6 v14 (fX6_renew s16 v14 a2 w17)) (fun v18 s19 => some (1, s19)))))))) else (some ((-2), s2)))))
set_option maxHeartbeats 4000000 in
set_option maxRecDepth 100000 in
theorem mX11_sheet (E : ZE) (hE : zOkE E) (l : Launch) (s0 : ZS) (a0 : Int) (a1 : Int) (a2 : Int) (a3 : Int) : Ct E l yX11_sheet cX11_sheet 4 (some .int) 6 [(2, a0), (0, a1), (0, a2), (0, a3)] 1 s0 (fX11_sheet s0 a0 a1 a2 a3) := by
  refine Ct.of (by decide) hE (Nat.le_of_ble_eq_true rfl) ?_
  intro X G hX hR hN hXE hXl hxn hk _
  subst hXE
  subst hXl
  have hX : G → ZOk X cX11_sheet RX11 6 := hX
  clear hN
  show Zj X G 0 [(0, (2, a0)), (1, (0, a1)), (2, (0, a2)), (3, (0, a3))] [] s0 _
  unfold fX11_sheet
  refine z_iload_n (pc := 0) hX 1 dX11_sheet_0 rfl rfl ?_
  refine z_callS (n := 1) (st := []) (pc := 1) hX (mX11_isSheet _ hE _ _ _) ⟨wd593, wd61, wd595, ⟨by decide, by decide, by decide⟩, by decide⟩ wd594 rfl rfl (by decide) (Nat.le_of_ble_eq_true rfl) dX11_sheet_1 (fun v1 s2 r3 => ?_)
  show Zj X G 4 [(0, (2, a0)), (1, (0, a1)), (2, (0, a2)), (3, (0, a3))] [(0, v1)] _ _
  refine z_if_eq (pc := 4) hX 17 dX11_sheet_4 (by decide) (fun h4 => ?_) (fun h4 => ?_)
  · refine z_bipush (pc := 17) hX dX11_sheet_17 ?_
    exact z_iret (pc := 19) hX hR hk dX11_sheet_19
  · refine z_iload_n (pc := 7) hX 2 dX11_sheet_7 rfl rfl ?_
    refine z_iconst (pc := 8) hX dX11_sheet_8 ?_
    refine z_icmp_lt (pc := 9) hX 17 dX11_sheet_9 (by decide) (fun h5 => ?_) (fun h5 => ?_)
    · refine z_bipush (pc := 17) hX dX11_sheet_17 ?_
      exact z_iret (pc := 19) hX hR hk dX11_sheet_19
    · refine z_iload_n (pc := 12) hX 2 dX11_sheet_12 rfl rfl ?_
      refine z_iconst (pc := 13) hX dX11_sheet_13 ?_
      refine z_icmp_le (pc := 14) hX 20 dX11_sheet_14 (by decide) (fun h6 => ?_) (fun h6 => ?_)
      · refine z_iload_n (pc := 20) hX 2 dX11_sheet_20 rfl rfl ?_
        refine z_iconst (pc := 21) hX dX11_sheet_21 ?_
        refine z_jn (fun K34 eK34 => ?_)
        have hK34 : ∀ (s9 : ZS), Zj X G 34 [(0, (2, a0)), (1, (0, a1)), (2, (0, a2)), (3, (0, a3))] [] s9 (K34 s9) := by
          intro s9
          rw [eK34]
          refine z_iload_n (pc := 34) hX 2 dX11_sheet_34 rfl rfl ?_
          refine z_iconst (pc := 35) hX dX11_sheet_35 ?_
          refine z_jn (fun K46 eK46 => ?_)
          have hK46 : ∀ (s12 : ZS), Zj X G 46 [(0, (2, a0)), (1, (0, a1)), (2, (0, a2)), (3, (0, a3))] [] s12 (K46 s12) := by
            intro s12
            rw [eK46]
            refine z_aload_n (pc := 46) hX 0 dX11_sheet_46 rfl rfl ?_
            refine z_get (pc := 47) hX zc11 8 (by decide) wd278 rfl rfl dX11_sheet_47 (fun v13 => ?_)
            refine z_iload_n (pc := 50) hX 1 dX11_sheet_50 rfl rfl ?_
            refine z_aald (pc := 51) hX 5 105 (by decide) rfl rfl dX11_sheet_51 (fun v14 => ?_)
            refine z_iload_n (pc := 52) hX 2 dX11_sheet_52 rfl rfl ?_
            refine z_iload_n (pc := 53) hX 2 dX11_sheet_53 rfl rfl ?_
            refine z_iconst (pc := 54) hX dX11_sheet_54 ?_
            refine z_jn (fun K63 eK63 => ?_)
            have hK63 : ∀ (s16 : ZS) (w17 : Int), Zj X G 63 [] [(0, w17), (0, a2), (2, v14)] s16 (K63 s16 w17) := by
              intro s16 w17
              rw [eK63]
              refine z_callV (n := 2) (st := []) (pc := 63) hX zc6 rfl (fun _ => (mX6_renew _ hE _ _ _ _ _)) ⟨wd962, wd66, wd965, ⟨by decide, by decide, by decide⟩, by decide⟩ rfl wd963 wd964 rfl rfl (by decide) (Nat.le_of_ble_eq_true rfl) dX11_sheet_63 (fun v18 s19 r20 => ?_)
              show Zj X G 66 [] [] _ _
              refine z_iconst (pc := 66) hX dX11_sheet_66 ?_
              exact z_iret (pc := 67) hX hR hk dX11_sheet_67
            clear eK63
            refine z_icmp_ne (pc := 55) hX 62 dX11_sheet_55 (by decide) (fun h15 => ?_) (fun h15 => ?_)
            · refine z_iload_n (pc := 62) hX 3 dX11_sheet_62 rfl rfl ?_
              refine z_pick (lv' := []) [] rfl ?_
              exact hK63 _ _
            · refine z_iconst (pc := 58) hX dX11_sheet_58 ?_
              refine z_goto (pc := 59) hX 63 dX11_sheet_59 (by decide) ?_
              refine z_pick (lv' := []) [] rfl ?_
              exact hK63 _ _
          clear eK46
          refine z_icmp_eq (pc := 36) hX 46 dX11_sheet_36 (by decide) (fun h10 => ?_) (fun h10 => ?_)
          · exact hK46 _
          · refine z_iload_n (pc := 39) hX 3 dX11_sheet_39 rfl rfl ?_
            refine z_if_ge (pc := 40) hX 46 dX11_sheet_40 (by decide) (fun h11 => ?_) (fun h11 => ?_)
            · exact hK46 _
            · refine z_bipush (pc := 43) hX dX11_sheet_43 ?_
              exact z_iret (pc := 45) hX hR hk dX11_sheet_45
        clear eK34
        refine z_icmp_eq (pc := 22) hX 34 dX11_sheet_22 (by decide) (fun h7 => ?_) (fun h7 => ?_)
        · exact hK34 _
        · refine z_iload_n (pc := 25) hX 3 dX11_sheet_25 rfl rfl ?_
          refine z_bipush (pc := 26) hX dX11_sheet_26 ?_
          refine z_icmp_le (pc := 28) hX 34 dX11_sheet_28 (by decide) (fun h8 => ?_) (fun h8 => ?_)
          · exact hK34 _
          · refine z_bipush (pc := 31) hX dX11_sheet_31 ?_
            exact z_iret (pc := 33) hX hR hk dX11_sheet_33
      · refine z_bipush (pc := 17) hX dX11_sheet_17 ?_
        exact z_iret (pc := 19) hX hR hk dX11_sheet_19
