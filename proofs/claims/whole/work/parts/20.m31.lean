theorem dX12_judge_0 : decode cX12_judge 0 = .ok (.aload_n 0, 1) := by decide +kernel
theorem dX12_judge_1 : decode cX12_judge 1 = .ok (.iload_n 1, 1) := by decide +kernel
theorem dX12_judge_2 : decode cX12_judge 2 = .ok (.invokevirtual 217, 3) := by decide +kernel
theorem dX12_judge_5 : decode cX12_judge 5 = .ok (.ifCond .ne 6, 3) := by decide +kernel
theorem dX12_judge_8 : decode cX12_judge 8 = .ok (.bipush (-5), 2) := by decide +kernel
theorem dX12_judge_10 : decode cX12_judge 10 = .ok (.ireturn, 1) := by decide +kernel
theorem dX12_judge_11 : decode cX12_judge 11 = .ok (.iload_n 2, 1) := by decide +kernel
theorem dX12_judge_12 : decode cX12_judge 12 = .ok (.iconst 0, 1) := by decide +kernel
theorem dX12_judge_13 : decode cX12_judge 13 = .ok (.iconst 2, 1) := by decide +kernel
theorem dX12_judge_14 : decode cX12_judge 14 = .ok (.invokestatic 127, 3) := by decide +kernel
theorem dX12_judge_17 : decode cX12_judge 17 = .ok (.ifCond .ne 6, 3) := by decide +kernel
theorem dX12_judge_20 : decode cX12_judge 20 = .ok (.bipush (-7), 2) := by decide +kernel
theorem dX12_judge_22 : decode cX12_judge 22 = .ok (.ireturn, 1) := by decide +kernel
theorem dX12_judge_23 : decode cX12_judge 23 = .ok (.aload_n 0, 1) := by decide +kernel
theorem dX12_judge_24 : decode cX12_judge 24 = .ok (.iload_n 1, 1) := by decide +kernel
theorem dX12_judge_25 : decode cX12_judge 25 = .ok (.invokevirtual 251, 3) := by decide +kernel
theorem dX12_judge_28 : decode cX12_judge 28 = .ok (.aload_n 0, 1) := by decide +kernel
theorem dX12_judge_29 : decode cX12_judge 29 = .ok (.iload_n 1, 1) := by decide +kernel
theorem dX12_judge_30 : decode cX12_judge 30 = .ok (.invokevirtual 281, 3) := by decide +kernel
theorem dX12_judge_33 : decode cX12_judge 33 = .ok (.aload_n 0, 1) := by decide +kernel
theorem dX12_judge_34 : decode cX12_judge 34 = .ok (.getfield 269, 3) := by decide +kernel
theorem dX12_judge_37 : decode cX12_judge 37 = .ok (.iconst (-1), 1) := by decide +kernel
theorem dX12_judge_38 : decode cX12_judge 38 = .ok (.if_icmp .ne 7, 3) := by decide +kernel
theorem dX12_judge_41 : decode cX12_judge 41 = .ok (.iconst (-1), 1) := by decide +kernel
theorem dX12_judge_42 : decode cX12_judge 42 = .ok (.goto 30, 3) := by decide +kernel
theorem dX12_judge_45 : decode cX12_judge 45 = .ok (.iload_n 2, 1) := by decide +kernel
theorem dX12_judge_46 : decode cX12_judge 46 = .ok (.ifCond .ne 10, 3) := by decide +kernel
theorem dX12_judge_49 : decode cX12_judge 49 = .ok (.aload_n 0, 1) := by decide +kernel
theorem dX12_judge_50 : decode cX12_judge 50 = .ok (.getfield 269, 3) := by decide +kernel
theorem dX12_judge_53 : decode cX12_judge 53 = .ok (.goto 19, 3) := by decide +kernel
theorem dX12_judge_56 : decode cX12_judge 56 = .ok (.iload_n 2, 1) := by decide +kernel
theorem dX12_judge_57 : decode cX12_judge 57 = .ok (.iconst 1, 1) := by decide +kernel
theorem dX12_judge_58 : decode cX12_judge 58 = .ok (.if_icmp .ne 10, 3) := by decide +kernel
theorem dX12_judge_61 : decode cX12_judge 61 = .ok (.aload_n 0, 1) := by decide +kernel
theorem dX12_judge_62 : decode cX12_judge 62 = .ok (.getfield 275, 3) := by decide +kernel
theorem dX12_judge_65 : decode cX12_judge 65 = .ok (.goto 7, 3) := by decide +kernel
theorem dX12_judge_68 : decode cX12_judge 68 = .ok (.aload_n 0, 1) := by decide +kernel
theorem dX12_judge_69 : decode cX12_judge 69 = .ok (.getfield 278, 3) := by decide +kernel
theorem dX12_judge_72 : decode cX12_judge 72 = .ok (.ireturn, 1) := by decide +kernel
def fX12_judge (s0 : ZS) (a0 : Int) (a1 : Int) (a2 : Int) : Option (Int × ZS) := zb (zv s0 12 a0 (fX12_isWay s0 a0 a1)) (fun v1 s2 => if v1 = 0 then (some ((-5), s2)) else (zb (fX12_in s2 a2 0 2) (fun v5 s6 => if v5 = 0 then (some ((-7), s6)) else (zb (zv s6 12 a0 (fX12_lays s6 a0 a1)) (fun v9 s10 => zb (zv s10 12 a0 (fX12_looks s10 a0 a1)) (fun v12 s13 => (zg s13 12 a0 45).bind (fun v15 => if v15 = (-1) then (some ((-1), s13)) else (if a2 = 0 then ((zg s13 12 a0 45).bind (fun v21 => some (v21, s13))) else (if a2 = 1 then ((zg s13 12 a0 46).bind (fun v20 => some (v20, s13))) else ((zg s13 12 a0 47).bind (fun v19 => some (v19, s13))))))))))))
set_option maxHeartbeats 4000000 in
set_option maxRecDepth 100000 in
theorem mX12_judge (E : ZE) (hE : zOkE E) (l : Launch) (s0 : ZS) (a0 : Int) (a1 : Int) (a2 : Int) : Ct E l yX12_judge cX12_judge 3 (some .int) 12 [(2, a0), (0, a1), (0, a2)] 1 s0 (fX12_judge s0 a0 a1 a2) := by
  refine Ct.of (by decide) hE (Nat.le_of_ble_eq_true rfl) ?_
  intro X G hX hR hN hXE hXl hxn hk _
  subst hXE
  subst hXl
  have hX : G → ZOk X cX12_judge RX12 12 := hX
  clear hN
  show Zj X G 0 [(0, (2, a0)), (1, (0, a1)), (2, (0, a2))] [] s0 _
  unfold fX12_judge
  refine z_aload_n (pc := 0) hX 0 dX12_judge_0 rfl rfl ?_
  refine z_iload_n (pc := 1) hX 1 dX12_judge_1 rfl rfl ?_
  refine z_callV (n := 1) (st := []) (pc := 2) hX zc12 rfl (fun _ => (mX12_isWay _ hE _ _ _ _)) ⟨wd1268, wd67, wd1271, ⟨by decide, by decide, by decide⟩, by decide⟩ rfl wd1270 wd42 rfl rfl (by decide) (Nat.le_of_ble_eq_true rfl) dX12_judge_2 (fun v1 s2 r3 => ?_)
  show Zj X G 5 [(0, (2, a0)), (1, (0, a1)), (2, (0, a2))] [(0, v1)] _ _
  refine z_if_ne (pc := 5) hX 11 dX12_judge_5 (by decide) (fun h4 => ?_) (fun h4 => ?_)
  · refine z_iload_n (pc := 11) hX 2 dX12_judge_11 rfl rfl ?_
    refine z_iconst (pc := 12) hX dX12_judge_12 ?_
    refine z_iconst (pc := 13) hX dX12_judge_13 ?_
    refine z_callS (n := 3) (st := []) (pc := 14) hX (mX12_in _ hE _ _ _ _ _) ⟨wd1173, wd67, wd1175, ⟨by decide, by decide, by decide⟩, by decide⟩ wd1174 rfl rfl (by decide) (Nat.le_of_ble_eq_true rfl) dX12_judge_14 (fun v5 s6 r7 => ?_)
    show Zj X G 17 [(0, (2, a0)), (1, (0, a1)), (2, (0, a2))] [(0, v5)] _ _
    refine z_if_ne (pc := 17) hX 23 dX12_judge_17 (by decide) (fun h8 => ?_) (fun h8 => ?_)
    · refine z_aload_n (pc := 23) hX 0 dX12_judge_23 rfl rfl ?_
      refine z_iload_n (pc := 24) hX 1 dX12_judge_24 rfl rfl ?_
      refine z_callV (n := 1) (st := []) (pc := 25) hX zc12 rfl (fun _ => (mX12_lays _ hE _ _ _ _)) ⟨wd1284, wd67, wd1287, ⟨by decide, by decide, by decide⟩, by decide⟩ rfl wd1286 wd44 rfl rfl (by decide) (Nat.le_of_ble_eq_true rfl) dX12_judge_25 (fun v9 s10 r11 => ?_)
      show Zj X G 28 [(0, (2, a0)), (1, (0, a1)), (2, (0, a2))] [] _ _
      refine z_aload_n (pc := 28) hX 0 dX12_judge_28 rfl rfl ?_
      refine z_iload_n (pc := 29) hX 1 dX12_judge_29 rfl rfl ?_
      refine z_callV (n := 1) (st := []) (pc := 30) hX zc12 rfl (fun _ => (mX12_looks _ hE _ _ _ _)) ⟨wd1351, wd67, wd1354, ⟨by decide, by decide, by decide⟩, by decide⟩ rfl wd1353 wd55 rfl rfl (by decide) (Nat.le_of_ble_eq_true rfl) dX12_judge_30 (fun v12 s13 r14 => ?_)
      show Zj X G 33 [(0, (2, a0)), (1, (0, a1)), (2, (0, a2))] [] _ _
      refine z_aload_n (pc := 33) hX 0 dX12_judge_33 rfl rfl ?_
      refine z_get (pc := 34) hX zc12 45 (by decide) wd1062 rfl rfl dX12_judge_34 (fun v15 => ?_)
      refine z_iconst (pc := 37) hX dX12_judge_37 ?_
      refine z_icmp_ne (pc := 38) hX 45 dX12_judge_38 (by decide) (fun h16 => ?_) (fun h16 => ?_)
      · refine z_iload_n (pc := 45) hX 2 dX12_judge_45 rfl rfl ?_
        refine z_if_ne (pc := 46) hX 56 dX12_judge_46 (by decide) (fun h17 => ?_) (fun h17 => ?_)
        · refine z_iload_n (pc := 56) hX 2 dX12_judge_56 rfl rfl ?_
          refine z_iconst (pc := 57) hX dX12_judge_57 ?_
          refine z_icmp_ne (pc := 58) hX 68 dX12_judge_58 (by decide) (fun h18 => ?_) (fun h18 => ?_)
          · refine z_aload_n (pc := 68) hX 0 dX12_judge_68 rfl rfl ?_
            refine z_get (pc := 69) hX zc12 47 (by decide) wd1064 rfl rfl dX12_judge_69 (fun v19 => ?_)
            exact z_iret (pc := 72) hX hR hk dX12_judge_72
          · refine z_aload_n (pc := 61) hX 0 dX12_judge_61 rfl rfl ?_
            refine z_get (pc := 62) hX zc12 46 (by decide) wd1063 rfl rfl dX12_judge_62 (fun v20 => ?_)
            refine z_goto (pc := 65) hX 72 dX12_judge_65 (by decide) ?_
            exact z_iret (pc := 72) hX hR hk dX12_judge_72
        · refine z_aload_n (pc := 49) hX 0 dX12_judge_49 rfl rfl ?_
          refine z_get (pc := 50) hX zc12 45 (by decide) wd1062 rfl rfl dX12_judge_50 (fun v21 => ?_)
          refine z_goto (pc := 53) hX 72 dX12_judge_53 (by decide) ?_
          exact z_iret (pc := 72) hX hR hk dX12_judge_72
      · refine z_iconst (pc := 41) hX dX12_judge_41 ?_
        refine z_goto (pc := 42) hX 72 dX12_judge_42 (by decide) ?_
        exact z_iret (pc := 72) hX hR hk dX12_judge_72
    · refine z_bipush (pc := 20) hX dX12_judge_20 ?_
      exact z_iret (pc := 22) hX hR hk dX12_judge_22
  · refine z_bipush (pc := 8) hX dX12_judge_8 ?_
    exact z_iret (pc := 10) hX hR hk dX12_judge_10

theorem dX11_makesMove_0 : decode cX11_makesMove 0 = .ok (.aload_n 0, 1) := by decide +kernel
theorem dX11_makesMove_1 : decode cX11_makesMove 1 = .ok (.aload_n 1, 1) := by decide +kernel
theorem dX11_makesMove_2 : decode cX11_makesMove 2 = .ok (.invokevirtual 225, 3) := by decide +kernel
theorem dX11_makesMove_5 : decode cX11_makesMove 5 = .ok (.istore_n 2, 1) := by decide +kernel
theorem dX11_makesMove_6 : decode cX11_makesMove 6 = .ok (.iload_n 2, 1) := by decide +kernel
theorem dX11_makesMove_7 : decode cX11_makesMove 7 = .ok (.iconst (-1), 1) := by decide +kernel
theorem dX11_makesMove_8 : decode cX11_makesMove 8 = .ok (.if_icmp .ne 5, 3) := by decide +kernel
theorem dX11_makesMove_11 : decode cX11_makesMove 11 = .ok (.iconst 0, 1) := by decide +kernel
theorem dX11_makesMove_12 : decode cX11_makesMove 12 = .ok (.ireturn, 1) := by decide +kernel
theorem dX11_makesMove_13 : decode cX11_makesMove 13 = .ok (.aload_n 1, 1) := by decide +kernel
theorem dX11_makesMove_14 : decode cX11_makesMove 14 = .ok (.getfield 167, 3) := by decide +kernel
theorem dX11_makesMove_17 : decode cX11_makesMove 17 = .ok (.iload_n 2, 1) := by decide +kernel
theorem dX11_makesMove_18 : decode cX11_makesMove 18 = .ok (.aload_n 0, 1) := by decide +kernel
theorem dX11_makesMove_19 : decode cX11_makesMove 19 = .ok (.getfield 79, 3) := by decide +kernel
theorem dX11_makesMove_22 : decode cX11_makesMove 22 = .ok (.iastore, 1) := by decide +kernel
theorem dX11_makesMove_23 : decode cX11_makesMove 23 = .ok (.iconst 1, 1) := by decide +kernel
theorem dX11_makesMove_24 : decode cX11_makesMove 24 = .ok (.ireturn, 1) := by decide +kernel
def fX11_makesMove (s0 : ZS) (a0 : Int) (a1 : Int) : Option (Int × ZS) := zb (zv s0 11 a0 (fX11_findRestless s0 a0 a1)) (fun v1 s2 => if v1 = (-1) then (some (0, s2)) else ((zgw s2 a1 1).bind (fun v5 => (zg s2 11 a0 15).bind (fun v6 => (zas s2 100 v5 v1 v6).bind (fun s7 => some (1, s7))))))
set_option maxHeartbeats 4000000 in
set_option maxRecDepth 100000 in
theorem mX11_makesMove (E : ZE) (hE : zOkE E) (l : Launch) (s0 : ZS) (a0 : Int) (a1 : Int) : Ct E l yX11_makesMove cX11_makesMove 3 (some .boolean) 12 [(2, a0), (2, a1)] 4 s0 (fX11_makesMove s0 a0 a1) := by
  refine Ct.of (by decide) hE (Nat.le_of_ble_eq_true rfl) ?_
  intro X G hX hR hN hXE hXl hxn hk _
  subst hXE
  subst hXl
  have hX : G → ZOk X cX11_makesMove RX11 12 := hX
  clear hN
  show Zj X G 0 [(0, (2, a0)), (1, (2, a1))] [] s0 _
  unfold fX11_makesMove
  refine z_aload_n (pc := 0) hX 0 dX11_makesMove_0 rfl rfl ?_
  refine z_aload_n (pc := 1) hX 1 dX11_makesMove_1 rfl rfl ?_
  refine z_callV (n := 1) (st := []) (pc := 2) hX zc11 rfl (fun _ => (mX11_findRestless _ hE _ _ _ _)) ⟨wd855, wd61, wd858, ⟨by decide, by decide, by decide⟩, by decide⟩ rfl wd857 wd24 rfl rfl (by decide) (Nat.le_of_ble_eq_true rfl) dX11_makesMove_2 (fun v1 s2 r3 => ?_)
  show Zj X G 5 [(0, (2, a0)), (1, (2, a1))] [(0, v1)] _ _
  refine z_istore_n (lv' := [(2, (0, v1)), (0, (2, a0)), (1, (2, a1))]) (pc := 5) hX dX11_makesMove_5 rfl (zlt hxn rfl) rfl ?_
  refine z_iload_n (pc := 6) hX 0 dX11_makesMove_6 rfl rfl ?_
  refine z_iconst (pc := 7) hX dX11_makesMove_7 ?_
  refine z_icmp_ne (pc := 8) hX 13 dX11_makesMove_8 (by decide) (fun h4 => ?_) (fun h4 => ?_)
  · refine z_aload_n (pc := 13) hX 2 dX11_makesMove_13 rfl rfl ?_
    refine z_getw (pc := 14) hX zc10 zc9 zc3 zc0 zc1 zc7 1 (by decide) wd620 rfl rfl rfl rfl rfl rfl rfl rfl rfl rfl rfl rfl rfl dX11_makesMove_14 (fun v5 => ?_)
    refine z_iload_n (pc := 17) hX 0 dX11_makesMove_17 rfl rfl ?_
    refine z_aload_n (pc := 18) hX 1 dX11_makesMove_18 rfl rfl ?_
    refine z_get (pc := 19) hX zc11 15 (by decide) wd285 rfl rfl dX11_makesMove_19 (fun v6 => ?_)
    refine z_iastA (pc := 22) hX dX11_makesMove_22 (fun s7 => ?_)
    refine z_iconst (pc := 23) hX dX11_makesMove_23 ?_
    exact z_zret (pc := 24) hX hR hk dX11_makesMove_24 (Or.inr rfl)
  · refine z_iconst (pc := 11) hX dX11_makesMove_11 ?_
    exact z_zret (pc := 12) hX hR hk dX11_makesMove_12 (Or.inl rfl)

theorem dX11_rest_0 : decode cX11_rest 0 = .ok (.aload_n 0, 1) := by decide +kernel
theorem dX11_rest_1 : decode cX11_rest 1 = .ok (.iload_n 1, 1) := by decide +kernel
theorem dX11_rest_2 : decode cX11_rest 2 = .ok (.invokevirtual 177, 3) := by decide +kernel
theorem dX11_rest_5 : decode cX11_rest 5 = .ok (.astore_n 3, 1) := by decide +kernel
theorem dX11_rest_6 : decode cX11_rest 6 = .ok (.aload_n 3, 1) := by decide +kernel
theorem dX11_rest_7 : decode cX11_rest 7 = .ok (.ifnonnull 6, 3) := by decide +kernel
theorem dX11_rest_10 : decode cX11_rest 10 = .ok (.bipush (-5), 2) := by decide +kernel
theorem dX11_rest_12 : decode cX11_rest 12 = .ok (.ireturn, 1) := by decide +kernel
theorem dX11_rest_13 : decode cX11_rest 13 = .ok (.iload_n 2, 1) := by decide +kernel
theorem dX11_rest_14 : decode cX11_rest 14 = .ok (.bipush 8, 2) := by decide +kernel
theorem dX11_rest_16 : decode cX11_rest 16 = .ok (.invokestatic 102, 3) := by decide +kernel
theorem dX11_rest_19 : decode cX11_rest 19 = .ok (.ifCond .ne 6, 3) := by decide +kernel
theorem dX11_rest_22 : decode cX11_rest 22 = .ok (.bipush (-7), 2) := by decide +kernel
theorem dX11_rest_24 : decode cX11_rest 24 = .ok (.ireturn, 1) := by decide +kernel
theorem dX11_rest_25 : decode cX11_rest 25 = .ok (.iconst 0, 1) := by decide +kernel
theorem dX11_rest_26 : decode cX11_rest 26 = .ok (.istore 4, 2) := by decide +kernel
theorem dX11_rest_28 : decode cX11_rest 28 = .ok (.iload 4, 2) := by decide +kernel
theorem dX11_rest_30 : decode cX11_rest 30 = .ok (.iload_n 2, 1) := by decide +kernel
theorem dX11_rest_31 : decode cX11_rest 31 = .ok (.if_icmp .ge 17, 3) := by decide +kernel
theorem dX11_rest_34 : decode cX11_rest 34 = .ok (.aload_n 0, 1) := by decide +kernel
theorem dX11_rest_35 : decode cX11_rest 35 = .ok (.aload_n 3, 1) := by decide +kernel
theorem dX11_rest_36 : decode cX11_rest 36 = .ok (.invokevirtual 229, 3) := by decide +kernel
theorem dX11_rest_39 : decode cX11_rest 39 = .ok (.ifCond .eq 9, 3) := by decide +kernel
theorem dX11_rest_42 : decode cX11_rest 42 = .ok (.iinc 4 1, 3) := by decide +kernel
theorem dX11_rest_45 : decode cX11_rest 45 = .ok (.goto (-17), 3) := by decide +kernel
theorem dX11_rest_48 : decode cX11_rest 48 = .ok (.iload 4, 2) := by decide +kernel
theorem dX11_rest_50 : decode cX11_rest 50 = .ok (.ireturn, 1) := by decide +kernel
def lX11_rest_28 (u10 u11 u12 : Int)  : Nat → ZS → Int → Option (Int × ZS)
  | 0, _, _ => none
  | n1 + 1, s9, x13 => if u11 ≤ x13 then (some (x13, s9)) else (zb (zv s9 11 u10 (fX11_makesMove s9 u10 u12)) (fun v15 s16 => if v15 = 0 then (some (x13, s16)) else (lX11_rest_28 u10 u11 u12 n1 s16 (wrap (x13 + 1)))))

def fX11_rest (s0 : ZS) (a0 : Int) (a1 : Int) (a2 : Int) : Option (Int × ZS) := zb (zv s0 11 a0 (fX11_wayAt s0 a0 a1)) (fun v1 s2 => if v1 < 0 then (some ((-5), s2)) else (zb (fX11_within s2 a2 8) (fun v5 s6 => if v5 = 0 then (some ((-7), s6)) else (lX11_rest_28 a0 a2 v1 1000 s6 0))))
set_option maxHeartbeats 4000000 in
set_option maxRecDepth 100000 in
theorem mX11_rest (E : ZE) (hE : zOkE E) (l : Launch) (s0 : ZS) (a0 : Int) (a1 : Int) (a2 : Int) : Ct E l yX11_rest cX11_rest 5 (some .int) 14 [(2, a0), (0, a1), (0, a2)] 1 s0 (fX11_rest s0 a0 a1 a2) := by
  refine Ct.of (by decide) hE (Nat.le_of_ble_eq_true rfl) ?_
  intro X G hX hR hN hXE hXl hxn hk _
  subst hXE
  subst hXl
  have hX : G → ZOk X cX11_rest RX11 14 := hX
  clear hN
  show Zj X G 0 [(0, (2, a0)), (1, (0, a1)), (2, (0, a2))] [] s0 _
  unfold fX11_rest
  refine z_aload_n (pc := 0) hX 0 dX11_rest_0 rfl rfl ?_
  refine z_iload_n (pc := 1) hX 1 dX11_rest_1 rfl rfl ?_
  refine z_callV (n := 1) (st := []) (pc := 2) hX zc11 rfl (fun _ => (mX11_wayAt _ hE _ _ _ _)) ⟨wd681, wd61, wd684, ⟨by decide, by decide, by decide⟩, by decide⟩ rfl wd683 wd18 rfl rfl (by decide) (Nat.le_of_ble_eq_true rfl) dX11_rest_2 (fun v1 s2 r3 => ?_)
  show Zj X G 5 [(0, (2, a0)), (1, (0, a1)), (2, (0, a2))] [(2, v1)] _ _
  refine z_astore_n (lv' := [(3, (2, v1)), (0, (2, a0)), (1, (0, a1)), (2, (0, a2))]) (pc := 5) hX dX11_rest_5 rfl (zlt hxn rfl) rfl ?_
  refine z_aload_n (pc := 6) hX 0 dX11_rest_6 rfl rfl ?_
  refine z_ifnonnull (pc := 7) hX 13 dX11_rest_7 (by decide) (fun h4 => ?_) (fun h4 => ?_)
  · refine z_iload_n (pc := 13) hX 3 dX11_rest_13 rfl rfl ?_
    refine z_bipush (pc := 14) hX dX11_rest_14 ?_
    refine z_callS (n := 2) (st := []) (pc := 16) hX (mX11_within _ hE _ _ _ _) ⟨wd329, wd61, wd331, ⟨by decide, by decide, by decide⟩, by decide⟩ wd330 rfl rfl (by decide) (Nat.le_of_ble_eq_true rfl) dX11_rest_16 (fun v5 s6 r7 => ?_)
    show Zj X G 19 [(3, (2, v1)), (0, (2, a0)), (1, (0, a1)), (2, (0, a2))] [(0, v5)] _ _
    refine z_if_ne (pc := 19) hX 25 dX11_rest_19 (by decide) (fun h8 => ?_) (fun h8 => ?_)
    · refine z_iconst (pc := 25) hX dX11_rest_25 ?_
      refine z_istore (lv' := [(4, (0, 0)), (3, (2, v1)), (0, (2, a0)), (1, (0, a1)), (2, (0, a2))]) (pc := 26) hX dX11_rest_26 (zlt hxn rfl) rfl ?_
      have hl28 : ∀ (u10 u11 u12 : Int), ∀ (n1 : Nat) (s9 : ZS) (x13 : Int), Zj X G 28 [(0, (2, u10)), (2, (0, u11)), (3, (2, u12)), (4, (0, x13))] [] s9 (lX11_rest_28 u10 u11 u12 n1 s9 x13) := by
        intro u10 u11 u12 n1
        induction n1 with
        | zero => intro _ _; exact z_none
        | succ n1 ih1 =>
          intro s9 x13
          rw [lX11_rest_28]
          refine z_iload (pc := 28) hX 3 dX11_rest_28 rfl ?_
          refine z_iload_n (pc := 30) hX 1 dX11_rest_30 rfl rfl ?_
          refine z_icmp_ge (pc := 31) hX 48 dX11_rest_31 (by decide) (fun h14 => ?_) (fun h14 => ?_)
          · refine z_iload (pc := 48) hX 3 dX11_rest_48 rfl ?_
            exact z_iret (pc := 50) hX hR hk dX11_rest_50
          · refine z_aload_n (pc := 34) hX 0 dX11_rest_34 rfl rfl ?_
            refine z_aload_n (pc := 35) hX 2 dX11_rest_35 rfl rfl ?_
            refine z_callV (n := 1) (st := []) (pc := 36) hX zc11 rfl (fun _ => (mX11_makesMove _ hE _ _ _ _)) ⟨wd876, wd61, wd879, ⟨by decide, by decide, by decide⟩, by decide⟩ rfl wd878 wd27 rfl rfl (by decide) (Nat.le_of_ble_eq_true rfl) dX11_rest_36 (fun v15 s16 r17 => ?_)
            show Zj X G 39 [(0, (2, u10)), (2, (0, u11)), (3, (2, u12)), (4, (0, x13))] [(0, v15)] _ _
            refine z_if_eq (pc := 39) hX 48 dX11_rest_39 (by decide) (fun h18 => ?_) (fun h18 => ?_)
            · refine z_iload (pc := 48) hX 3 dX11_rest_48 rfl ?_
              exact z_iret (pc := 50) hX hR hk dX11_rest_50
            · refine z_iinc (lv' := [(4, (0, (wrap (x13 + 1)))), (0, (2, u10)), (2, (0, u11)), (3, (2, u12))]) (pc := 42) hX 3 dX11_rest_42 rfl (zlt hxn rfl) rfl ?_
              refine z_goto (pc := 45) hX 28 dX11_rest_45 (by decide) ?_
              refine z_pick (lv' := [(0, (2, u10)), (2, (0, u11)), (3, (2, u12)), (4, (0, (wrap (x13 + 1))))]) [1, 2, 3, 0] rfl ?_
              exact ih1 _ _
      refine z_pick (lv' := [(0, (2, a0)), (2, (0, a2)), (3, (2, v1)), (4, (0, 0))]) [2, 4, 1, 0] rfl ?_
      refine hl28 _ _ _ 1000 _ _
    · refine z_bipush (pc := 22) hX dX11_rest_22 ?_
      exact z_iret (pc := 24) hX hR hk dX11_rest_24
  · refine z_bipush (pc := 10) hX dX11_rest_10 ?_
    exact z_iret (pc := 12) hX hR hk dX11_rest_12

theorem dX12_moves_0 : decode cX12_moves 0 = .ok (.iconst 0, 1) := by decide +kernel
theorem dX12_moves_1 : decode cX12_moves 1 = .ok (.istore_n 3, 1) := by decide +kernel
theorem dX12_moves_2 : decode cX12_moves 2 = .ok (.iload_n 2, 1) := by decide +kernel
theorem dX12_moves_3 : decode cX12_moves 3 = .ok (.ifCond .le 7, 3) := by decide +kernel
theorem dX12_moves_6 : decode cX12_moves 6 = .ok (.iconst 1, 1) := by decide +kernel
theorem dX12_moves_7 : decode cX12_moves 7 = .ok (.goto 4, 3) := by decide +kernel
theorem dX12_moves_10 : decode cX12_moves 10 = .ok (.iconst 0, 1) := by decide +kernel
theorem dX12_moves_11 : decode cX12_moves 11 = .ok (.istore 4, 2) := by decide +kernel
theorem dX12_moves_13 : decode cX12_moves 13 = .ok (.iload 4, 2) := by decide +kernel
theorem dX12_moves_15 : decode cX12_moves 15 = .ok (.ifCond .eq 55, 3) := by decide +kernel
theorem dX12_moves_18 : decode cX12_moves 18 = .ok (.aload_n 0, 1) := by decide +kernel
theorem dX12_moves_19 : decode cX12_moves 19 = .ok (.iload_n 1, 1) := by decide +kernel
theorem dX12_moves_20 : decode cX12_moves 20 = .ok (.invokevirtual 281, 3) := by decide +kernel
theorem dX12_moves_23 : decode cX12_moves 23 = .ok (.aload_n 0, 1) := by decide +kernel
theorem dX12_moves_24 : decode cX12_moves 24 = .ok (.getfield 269, 3) := by decide +kernel
theorem dX12_moves_27 : decode cX12_moves 27 = .ok (.iconst (-1), 1) := by decide +kernel
theorem dX12_moves_28 : decode cX12_moves 28 = .ok (.if_icmp .eq 19, 3) := by decide +kernel
theorem dX12_moves_31 : decode cX12_moves 31 = .ok (.aload_n 0, 1) := by decide +kernel
theorem dX12_moves_32 : decode cX12_moves 32 = .ok (.getfield 106, 3) := by decide +kernel
theorem dX12_moves_35 : decode cX12_moves 35 = .ok (.aload_n 0, 1) := by decide +kernel
theorem dX12_moves_36 : decode cX12_moves 36 = .ok (.getfield 269, 3) := by decide +kernel
theorem dX12_moves_39 : decode cX12_moves 39 = .ok (.aload_n 0, 1) := by decide +kernel
theorem dX12_moves_40 : decode cX12_moves 40 = .ok (.getfield 275, 3) := by decide +kernel
theorem dX12_moves_43 : decode cX12_moves 43 = .ok (.iastore, 1) := by decide +kernel
theorem dX12_moves_44 : decode cX12_moves 44 = .ok (.iinc 3 1, 3) := by decide +kernel
theorem dX12_moves_47 : decode cX12_moves 47 = .ok (.aload_n 0, 1) := by decide +kernel
theorem dX12_moves_48 : decode cX12_moves 48 = .ok (.getfield 269, 3) := by decide +kernel
theorem dX12_moves_51 : decode cX12_moves 51 = .ok (.iconst (-1), 1) := by decide +kernel
theorem dX12_moves_52 : decode cX12_moves 52 = .ok (.if_icmp .eq 12, 3) := by decide +kernel
theorem dX12_moves_55 : decode cX12_moves 55 = .ok (.iload_n 3, 1) := by decide +kernel
theorem dX12_moves_56 : decode cX12_moves 56 = .ok (.iload_n 2, 1) := by decide +kernel
theorem dX12_moves_57 : decode cX12_moves 57 = .ok (.if_icmp .ge 7, 3) := by decide +kernel
theorem dX12_moves_60 : decode cX12_moves 60 = .ok (.iconst 1, 1) := by decide +kernel
theorem dX12_moves_61 : decode cX12_moves 61 = .ok (.goto 4, 3) := by decide +kernel
theorem dX12_moves_64 : decode cX12_moves 64 = .ok (.iconst 0, 1) := by decide +kernel
theorem dX12_moves_65 : decode cX12_moves 65 = .ok (.istore 4, 2) := by decide +kernel
theorem dX12_moves_67 : decode cX12_moves 67 = .ok (.goto (-54), 3) := by decide +kernel
theorem dX12_moves_70 : decode cX12_moves 70 = .ok (.iload_n 3, 1) := by decide +kernel
theorem dX12_moves_71 : decode cX12_moves 71 = .ok (.ireturn, 1) := by decide +kernel
def lX12_moves_13 (u5 u6 u7 : Int)  : Nat → ZS → Int → Int → Option (Int × ZS)
  | 0, _, _, _ => none
  | n1 + 1, s4, x8, x9 => if x9 = 0 then (some (x8, s4)) else (zb (zv s4 12 u5 (fX12_looks s4 u5 u6)) (fun v11 s12 => (zg s12 12 u5 45).bind (fun v14 => zjn (fun (K47 : ZS → Int → Option (Int × ZS)) => if v14 = (-1) then (K47 s12 x8) else ((zg s12 12 u5 40).bind (fun v16 => (zg s12 12 u5 45).bind (fun v17 => (zg s12 12 u5 46).bind (fun v18 => (zas s12 100 v16 v17 v18).bind (fun s19 => K47 s19 (wrap (x8 + 1)))))))) (fun (s20 : ZS) (x21 : Int) => (zg s20 12 u5 45).bind (fun v22 => zjn (fun (K65 : ZS → Int → Option (Int × ZS)) => zjn (fun (K64 : ZS → Option (Int × ZS)) => if v22 = (-1) then (K64 s20) else (if u7 ≤ x21 then (K64 s20) else (K65 s20 1))) (fun (s25 : ZS) => K65 s25 0)) (fun (s26 : ZS) (w27 : Int) => lX12_moves_13 u5 u6 u7 n1 s26 x21 w27))))))

def fX12_moves (s0 : ZS) (a0 : Int) (a1 : Int) (a2 : Int) : Option (Int × ZS) := zjn (fun (K11 : ZS → Int → Option (Int × ZS)) => if a2 ≤ 0 then (K11 s0 0) else (K11 s0 1)) (fun (s2 : ZS) (w3 : Int) => lX12_moves_13 a0 a1 a2 1000 s2 0 w3)
set_option maxHeartbeats 4000000 in
set_option maxRecDepth 100000 in
theorem mX12_moves (E : ZE) (hE : zOkE E) (l : Launch) (s0 : ZS) (a0 : Int) (a1 : Int) (a2 : Int) : Ct E l yX12_moves cX12_moves 5 (some .int) 12 [(2, a0), (0, a1), (0, a2)] 1 s0 (fX12_moves s0 a0 a1 a2) := by
  refine Ct.of (by decide) hE (Nat.le_of_ble_eq_true rfl) ?_
  intro X G hX hR hN hXE hXl hxn hk _
  subst hXE
  subst hXl
  have hX : G → ZOk X cX12_moves RX12 12 := hX
  clear hN
  show Zj X G 0 [(0, (2, a0)), (1, (0, a1)), (2, (0, a2))] [] s0 _
  unfold fX12_moves
  refine z_iconst (pc := 0) hX dX12_moves_0 ?_
  refine z_istore_n (lv' := [(3, (0, 0)), (0, (2, a0)), (1, (0, a1)), (2, (0, a2))]) (pc := 1) hX dX12_moves_1 rfl (zlt hxn rfl) rfl ?_
  refine z_iload_n (pc := 2) hX 3 dX12_moves_2 rfl rfl ?_
  refine z_jn (fun K11 eK11 => ?_)
  have hK11 : ∀ (s2 : ZS) (w3 : Int), Zj X G 11 [(0, (2, a0)), (1, (0, a1)), (2, (0, a2)), (3, (0, 0))] [(0, w3)] s2 (K11 s2 w3) := by
    intro s2 w3
    rw [eK11]
    refine z_istore (lv' := [(4, (0, w3)), (0, (2, a0)), (1, (0, a1)), (2, (0, a2)), (3, (0, 0))]) (pc := 11) hX dX12_moves_11 (zlt hxn rfl) rfl ?_
    have hl13 : ∀ (u5 u6 u7 : Int), ∀ (n1 : Nat) (s4 : ZS) (x8 x9 : Int), Zj X G 13 [(0, (2, u5)), (1, (0, u6)), (2, (0, u7)), (3, (0, x8)), (4, (0, x9))] [] s4 (lX12_moves_13 u5 u6 u7 n1 s4 x8 x9) := by
      intro u5 u6 u7 n1
      induction n1 with
      | zero => intro _ _ _; exact z_none
      | succ n1 ih1 =>
        intro s4 x8 x9
        rw [lX12_moves_13]
        refine z_iload (pc := 13) hX 4 dX12_moves_13 rfl ?_
        refine z_if_eq (pc := 15) hX 70 dX12_moves_15 (by decide) (fun h10 => ?_) (fun h10 => ?_)
        · refine z_iload_n (pc := 70) hX 3 dX12_moves_70 rfl rfl ?_
          exact z_iret (pc := 71) hX hR hk dX12_moves_71
        · refine z_aload_n (pc := 18) hX 0 dX12_moves_18 rfl rfl ?_
          refine z_iload_n (pc := 19) hX 1 dX12_moves_19 rfl rfl ?_
          refine z_callV (n := 1) (st := []) (pc := 20) hX zc12 rfl (fun _ => (mX12_looks _ hE _ _ _ _)) ⟨wd1351, wd67, wd1354, ⟨by decide, by decide, by decide⟩, by decide⟩ rfl wd1353 wd55 rfl rfl (by decide) (Nat.le_of_ble_eq_true rfl) dX12_moves_20 (fun v11 s12 r13 => ?_)
          show Zj X G 23 [(0, (2, u5)), (1, (0, u6)), (2, (0, u7)), (3, (0, x8)), (4, (0, x9))] [] _ _
          refine z_aload_n (pc := 23) hX 0 dX12_moves_23 rfl rfl ?_
          refine z_get (pc := 24) hX zc12 45 (by decide) wd1062 rfl rfl dX12_moves_24 (fun v14 => ?_)
          refine z_iconst (pc := 27) hX dX12_moves_27 ?_
          refine z_jn (fun K47 eK47 => ?_)
          have hK47 : ∀ (s20 : ZS) (x21 : Int), Zj X G 47 [(0, (2, u5)), (1, (0, u6)), (2, (0, u7)), (3, (0, x21))] [] s20 (K47 s20 x21) := by
            intro s20 x21
            rw [eK47]
            refine z_aload_n (pc := 47) hX 0 dX12_moves_47 rfl rfl ?_
            refine z_get (pc := 48) hX zc12 45 (by decide) wd1062 rfl rfl dX12_moves_48 (fun v22 => ?_)
            refine z_iconst (pc := 51) hX dX12_moves_51 ?_
            refine z_jn (fun K65 eK65 => ?_)
            have hK65 : ∀ (s26 : ZS) (w27 : Int), Zj X G 65 [(0, (2, u5)), (1, (0, u6)), (2, (0, u7)), (3, (0, x21))] [(0, w27)] s26 (K65 s26 w27) := by
              intro s26 w27
              rw [eK65]
              refine z_istore (lv' := [(4, (0, w27)), (0, (2, u5)), (1, (0, u6)), (2, (0, u7)), (3, (0, x21))]) (pc := 65) hX dX12_moves_65 (zlt hxn rfl) rfl ?_
              refine z_goto (pc := 67) hX 13 dX12_moves_67 (by decide) ?_
              refine z_pick (lv' := [(0, (2, u5)), (1, (0, u6)), (2, (0, u7)), (3, (0, x21)), (4, (0, w27))]) [1, 2, 3, 4, 0] rfl ?_
              exact ih1 _ _ _
            clear eK65
            refine z_jn (fun K64 eK64 => ?_)
            have hK64 : ∀ (s25 : ZS), Zj X G 64 [(0, (2, u5)), (1, (0, u6)), (2, (0, u7)), (3, (0, x21))] [] s25 (K64 s25) := by
              intro s25
              rw [eK64]
              refine z_iconst (pc := 64) hX dX12_moves_64 ?_
              exact hK65 _ _
            clear eK64
            refine z_icmp_eq (pc := 52) hX 64 dX12_moves_52 (by decide) (fun h23 => ?_) (fun h23 => ?_)
            · exact hK64 _
            · refine z_iload_n (pc := 55) hX 3 dX12_moves_55 rfl rfl ?_
              refine z_iload_n (pc := 56) hX 2 dX12_moves_56 rfl rfl ?_
              refine z_icmp_ge (pc := 57) hX 64 dX12_moves_57 (by decide) (fun h24 => ?_) (fun h24 => ?_)
              · exact hK64 _
              · refine z_iconst (pc := 60) hX dX12_moves_60 ?_
                refine z_goto (pc := 61) hX 65 dX12_moves_61 (by decide) ?_
                exact hK65 _ _
          clear eK47
          refine z_icmp_eq (pc := 28) hX 47 dX12_moves_28 (by decide) (fun h15 => ?_) (fun h15 => ?_)
          · refine z_pick (lv' := [(0, (2, u5)), (1, (0, u6)), (2, (0, u7)), (3, (0, x8))]) [0, 1, 2, 3] rfl ?_
            exact hK47 _ _
          · refine z_aload_n (pc := 31) hX 0 dX12_moves_31 rfl rfl ?_
            refine z_get (pc := 32) hX zc12 40 (by decide) wd1057 rfl rfl dX12_moves_32 (fun v16 => ?_)
            refine z_aload_n (pc := 35) hX 0 dX12_moves_35 rfl rfl ?_
            refine z_get (pc := 36) hX zc12 45 (by decide) wd1062 rfl rfl dX12_moves_36 (fun v17 => ?_)
            refine z_aload_n (pc := 39) hX 0 dX12_moves_39 rfl rfl ?_
            refine z_get (pc := 40) hX zc12 46 (by decide) wd1063 rfl rfl dX12_moves_40 (fun v18 => ?_)
            refine z_iastA (pc := 43) hX dX12_moves_43 (fun s19 => ?_)
            refine z_iinc (lv' := [(3, (0, (wrap (x8 + 1)))), (0, (2, u5)), (1, (0, u6)), (2, (0, u7)), (4, (0, x9))]) (pc := 44) hX 3 dX12_moves_44 rfl (zlt hxn rfl) rfl ?_
            refine z_pick (lv' := [(0, (2, u5)), (1, (0, u6)), (2, (0, u7)), (3, (0, (wrap (x8 + 1))))]) [1, 2, 3, 0] rfl ?_
            exact hK47 _ _
    refine z_pick (lv' := [(0, (2, a0)), (1, (0, a1)), (2, (0, a2)), (3, (0, 0)), (4, (0, w3))]) [1, 2, 3, 4, 0] rfl ?_
    refine hl13 _ _ _ 1000 _ _ _
  clear eK11
  refine z_if_le (pc := 3) hX 10 dX12_moves_3 (by decide) (fun h1 => ?_) (fun h1 => ?_)
  · refine z_iconst (pc := 10) hX dX12_moves_10 ?_
    refine z_pick (lv' := [(0, (2, a0)), (1, (0, a1)), (2, (0, a2)), (3, (0, 0))]) [1, 2, 3, 0] rfl ?_
    exact hK11 _ _
  · refine z_iconst (pc := 6) hX dX12_moves_6 ?_
    refine z_goto (pc := 7) hX 11 dX12_moves_7 (by decide) ?_
    refine z_pick (lv' := [(0, (2, a0)), (1, (0, a1)), (2, (0, a2)), (3, (0, 0))]) [1, 2, 3, 0] rfl ?_
    exact hK11 _ _

theorem dX12_rest_0 : decode cX12_rest 0 = .ok (.aload_n 0, 1) := by decide +kernel
theorem dX12_rest_1 : decode cX12_rest 1 = .ok (.iload_n 1, 1) := by decide +kernel
theorem dX12_rest_2 : decode cX12_rest 2 = .ok (.invokevirtual 217, 3) := by decide +kernel
theorem dX12_rest_5 : decode cX12_rest 5 = .ok (.ifCond .ne 6, 3) := by decide +kernel
theorem dX12_rest_8 : decode cX12_rest 8 = .ok (.bipush (-5), 2) := by decide +kernel
theorem dX12_rest_10 : decode cX12_rest 10 = .ok (.ireturn, 1) := by decide +kernel
theorem dX12_rest_11 : decode cX12_rest 11 = .ok (.iload_n 2, 1) := by decide +kernel
theorem dX12_rest_12 : decode cX12_rest 12 = .ok (.iconst 0, 1) := by decide +kernel
theorem dX12_rest_13 : decode cX12_rest 13 = .ok (.bipush 8, 2) := by decide +kernel
theorem dX12_rest_15 : decode cX12_rest 15 = .ok (.invokestatic 127, 3) := by decide +kernel
theorem dX12_rest_18 : decode cX12_rest 18 = .ok (.ifCond .ne 6, 3) := by decide +kernel
theorem dX12_rest_21 : decode cX12_rest 21 = .ok (.bipush (-7), 2) := by decide +kernel
theorem dX12_rest_23 : decode cX12_rest 23 = .ok (.ireturn, 1) := by decide +kernel
theorem dX12_rest_24 : decode cX12_rest 24 = .ok (.aload_n 0, 1) := by decide +kernel
theorem dX12_rest_25 : decode cX12_rest 25 = .ok (.iload_n 1, 1) := by decide +kernel
theorem dX12_rest_26 : decode cX12_rest 26 = .ok (.invokevirtual 251, 3) := by decide +kernel
theorem dX12_rest_29 : decode cX12_rest 29 = .ok (.aload_n 0, 1) := by decide +kernel
theorem dX12_rest_30 : decode cX12_rest 30 = .ok (.iload_n 1, 1) := by decide +kernel
theorem dX12_rest_31 : decode cX12_rest 31 = .ok (.iload_n 2, 1) := by decide +kernel
theorem dX12_rest_32 : decode cX12_rest 32 = .ok (.invokevirtual 284, 3) := by decide +kernel
theorem dX12_rest_35 : decode cX12_rest 35 = .ok (.istore_n 3, 1) := by decide +kernel
theorem dX12_rest_36 : decode cX12_rest 36 = .ok (.iconst 0, 1) := by decide +kernel
theorem dX12_rest_37 : decode cX12_rest 37 = .ok (.istore 4, 2) := by decide +kernel
theorem dX12_rest_39 : decode cX12_rest 39 = .ok (.iload 4, 2) := by decide +kernel
theorem dX12_rest_41 : decode cX12_rest 41 = .ok (.aload_n 0, 1) := by decide +kernel
theorem dX12_rest_42 : decode cX12_rest 42 = .ok (.getfield 31, 3) := by decide +kernel
theorem dX12_rest_45 : decode cX12_rest 45 = .ok (.iload_n 1, 1) := by decide +kernel
theorem dX12_rest_46 : decode cX12_rest 46 = .ok (.iaload, 1) := by decide +kernel
theorem dX12_rest_47 : decode cX12_rest 47 = .ok (.if_icmp .ge 28, 3) := by decide +kernel
theorem dX12_rest_50 : decode cX12_rest 50 = .ok (.aload_n 0, 1) := by decide +kernel
theorem dX12_rest_51 : decode cX12_rest 51 = .ok (.getfield 34, 3) := by decide +kernel
theorem dX12_rest_54 : decode cX12_rest 54 = .ok (.bipush 16, 2) := by decide +kernel
theorem dX12_rest_56 : decode cX12_rest 56 = .ok (.iload_n 1, 1) := by decide +kernel
theorem dX12_rest_57 : decode cX12_rest 57 = .ok (.imul, 1) := by decide +kernel
theorem dX12_rest_58 : decode cX12_rest 58 = .ok (.iload 4, 2) := by decide +kernel
theorem dX12_rest_60 : decode cX12_rest 60 = .ok (.iadd, 1) := by decide +kernel
theorem dX12_rest_61 : decode cX12_rest 61 = .ok (.aload_n 0, 1) := by decide +kernel
theorem dX12_rest_62 : decode cX12_rest 62 = .ok (.getfield 106, 3) := by decide +kernel
theorem dX12_rest_65 : decode cX12_rest 65 = .ok (.iload 4, 2) := by decide +kernel
theorem dX12_rest_67 : decode cX12_rest 67 = .ok (.iaload, 1) := by decide +kernel
theorem dX12_rest_68 : decode cX12_rest 68 = .ok (.iastore, 1) := by decide +kernel
theorem dX12_rest_69 : decode cX12_rest 69 = .ok (.iinc 4 1, 3) := by decide +kernel
theorem dX12_rest_72 : decode cX12_rest 72 = .ok (.goto (-33), 3) := by decide +kernel
theorem dX12_rest_75 : decode cX12_rest 75 = .ok (.iload_n 3, 1) := by decide +kernel
theorem dX12_rest_76 : decode cX12_rest 76 = .ok (.ireturn, 1) := by decide +kernel
def lX12_rest_39 (u16 u17 u18 : Int)  : Nat → ZS → Int → Option (Int × ZS)
  | 0, _, _ => none
  | n1 + 1, s15, x19 => (zg s15 12 u16 10).bind (fun v20 => (zal s15 100 v20 u17).bind (fun v21 => if v21 ≤ x19 then (some (u18, s15)) else ((zg s15 12 u16 11).bind (fun v23 => (zg s15 12 u16 40).bind (fun v24 => (zal s15 100 v24 x19).bind (fun v25 => (zas s15 100 v23 (wrap ((wrap (16 * u17)) + x19)) v25).bind (fun s26 => lX12_rest_39 u16 u17 u18 n1 s26 (wrap (x19 + 1)))))))))

def fX12_rest (s0 : ZS) (a0 : Int) (a1 : Int) (a2 : Int) : Option (Int × ZS) := zb (zv s0 12 a0 (fX12_isWay s0 a0 a1)) (fun v1 s2 => if v1 = 0 then (some ((-5), s2)) else (zb (fX12_in s2 a2 0 8) (fun v5 s6 => if v5 = 0 then (some ((-7), s6)) else (zb (zv s6 12 a0 (fX12_lays s6 a0 a1)) (fun v9 s10 => zb (zv s10 12 a0 (fX12_moves s10 a0 a1 a2)) (fun v12 s13 => lX12_rest_39 a0 a1 v12 1000 s13 0))))))
set_option maxHeartbeats 4000000 in
set_option maxRecDepth 100000 in
theorem mX12_rest (E : ZE) (hE : zOkE E) (l : Launch) (s0 : ZS) (a0 : Int) (a1 : Int) (a2 : Int) : Ct E l yX12_rest cX12_rest 5 (some .int) 14 [(2, a0), (0, a1), (0, a2)] 1 s0 (fX12_rest s0 a0 a1 a2) := by
  refine Ct.of (by decide) hE (Nat.le_of_ble_eq_true rfl) ?_
  intro X G hX hR hN hXE hXl hxn hk _
  subst hXE
  subst hXl
  have hX : G → ZOk X cX12_rest RX12 14 := hX
  clear hN
  show Zj X G 0 [(0, (2, a0)), (1, (0, a1)), (2, (0, a2))] [] s0 _
  unfold fX12_rest
  refine z_aload_n (pc := 0) hX 0 dX12_rest_0 rfl rfl ?_
  refine z_iload_n (pc := 1) hX 1 dX12_rest_1 rfl rfl ?_
  refine z_callV (n := 1) (st := []) (pc := 2) hX zc12 rfl (fun _ => (mX12_isWay _ hE _ _ _ _)) ⟨wd1268, wd67, wd1271, ⟨by decide, by decide, by decide⟩, by decide⟩ rfl wd1270 wd42 rfl rfl (by decide) (Nat.le_of_ble_eq_true rfl) dX12_rest_2 (fun v1 s2 r3 => ?_)
  show Zj X G 5 [(0, (2, a0)), (1, (0, a1)), (2, (0, a2))] [(0, v1)] _ _
  refine z_if_ne (pc := 5) hX 11 dX12_rest_5 (by decide) (fun h4 => ?_) (fun h4 => ?_)
  · refine z_iload_n (pc := 11) hX 2 dX12_rest_11 rfl rfl ?_
    refine z_iconst (pc := 12) hX dX12_rest_12 ?_
    refine z_bipush (pc := 13) hX dX12_rest_13 ?_
    refine z_callS (n := 3) (st := []) (pc := 15) hX (mX12_in _ hE _ _ _ _ _) ⟨wd1173, wd67, wd1175, ⟨by decide, by decide, by decide⟩, by decide⟩ wd1174 rfl rfl (by decide) (Nat.le_of_ble_eq_true rfl) dX12_rest_15 (fun v5 s6 r7 => ?_)
    show Zj X G 18 [(0, (2, a0)), (1, (0, a1)), (2, (0, a2))] [(0, v5)] _ _
    refine z_if_ne (pc := 18) hX 24 dX12_rest_18 (by decide) (fun h8 => ?_) (fun h8 => ?_)
    · refine z_aload_n (pc := 24) hX 0 dX12_rest_24 rfl rfl ?_
      refine z_iload_n (pc := 25) hX 1 dX12_rest_25 rfl rfl ?_
      refine z_callV (n := 1) (st := []) (pc := 26) hX zc12 rfl (fun _ => (mX12_lays _ hE _ _ _ _)) ⟨wd1284, wd67, wd1287, ⟨by decide, by decide, by decide⟩, by decide⟩ rfl wd1286 wd44 rfl rfl (by decide) (Nat.le_of_ble_eq_true rfl) dX12_rest_26 (fun v9 s10 r11 => ?_)
      show Zj X G 29 [(0, (2, a0)), (1, (0, a1)), (2, (0, a2))] [] _ _
      refine z_aload_n (pc := 29) hX 0 dX12_rest_29 rfl rfl ?_
      refine z_iload_n (pc := 30) hX 1 dX12_rest_30 rfl rfl ?_
      refine z_iload_n (pc := 31) hX 2 dX12_rest_31 rfl rfl ?_
      refine z_callV (n := 2) (st := []) (pc := 32) hX zc12 rfl (fun _ => (mX12_moves _ hE _ _ _ _ _)) ⟨wd1363, wd67, wd1366, ⟨by decide, by decide, by decide⟩, by decide⟩ rfl wd1365 wd57 rfl rfl (by decide) (Nat.le_of_ble_eq_true rfl) dX12_rest_32 (fun v12 s13 r14 => ?_)
      show Zj X G 35 [(0, (2, a0)), (1, (0, a1)), (2, (0, a2))] [(0, v12)] _ _
      refine z_istore_n (lv' := [(3, (0, v12)), (0, (2, a0)), (1, (0, a1)), (2, (0, a2))]) (pc := 35) hX dX12_rest_35 rfl (zlt hxn rfl) rfl ?_
      refine z_iconst (pc := 36) hX dX12_rest_36 ?_
      refine z_istore (lv' := [(4, (0, 0)), (3, (0, v12)), (0, (2, a0)), (1, (0, a1)), (2, (0, a2))]) (pc := 37) hX dX12_rest_37 (zlt hxn rfl) rfl ?_
      have hl39 : ∀ (u16 u17 u18 : Int), ∀ (n1 : Nat) (s15 : ZS) (x19 : Int), Zj X G 39 [(0, (2, u16)), (1, (0, u17)), (3, (0, u18)), (4, (0, x19))] [] s15 (lX12_rest_39 u16 u17 u18 n1 s15 x19) := by
        intro u16 u17 u18 n1
        induction n1 with
        | zero => intro _ _; exact z_none
        | succ n1 ih1 =>
          intro s15 x19
          rw [lX12_rest_39]
          refine z_iload (pc := 39) hX 3 dX12_rest_39 rfl ?_
          refine z_aload_n (pc := 41) hX 0 dX12_rest_41 rfl rfl ?_
          refine z_get (pc := 42) hX zc12 10 (by decide) wd1027 rfl rfl dX12_rest_42 (fun v20 => ?_)
          refine z_iload_n (pc := 45) hX 1 dX12_rest_45 rfl rfl ?_
          refine z_iald (pc := 46) hX dX12_rest_46 (fun v21 => ?_)
          refine z_icmp_ge (pc := 47) hX 75 dX12_rest_47 (by decide) (fun h22 => ?_) (fun h22 => ?_)
          · refine z_iload_n (pc := 75) hX 2 dX12_rest_75 rfl rfl ?_
            exact z_iret (pc := 76) hX hR hk dX12_rest_76
          · refine z_aload_n (pc := 50) hX 0 dX12_rest_50 rfl rfl ?_
            refine z_get (pc := 51) hX zc12 11 (by decide) wd1028 rfl rfl dX12_rest_51 (fun v23 => ?_)
            refine z_bipush (pc := 54) hX dX12_rest_54 ?_
            refine z_iload_n (pc := 56) hX 1 dX12_rest_56 rfl rfl ?_
            refine z_imul (pc := 57) hX dX12_rest_57 ?_
            refine z_iload (pc := 58) hX 3 dX12_rest_58 rfl ?_
            refine z_iadd (pc := 60) hX dX12_rest_60 ?_
            refine z_aload_n (pc := 61) hX 0 dX12_rest_61 rfl rfl ?_
            refine z_get (pc := 62) hX zc12 40 (by decide) wd1057 rfl rfl dX12_rest_62 (fun v24 => ?_)
            refine z_iload (pc := 65) hX 3 dX12_rest_65 rfl ?_
            refine z_iald (pc := 67) hX dX12_rest_67 (fun v25 => ?_)
            refine z_iastA (pc := 68) hX dX12_rest_68 (fun s26 => ?_)
            refine z_iinc (lv' := [(4, (0, (wrap (x19 + 1)))), (0, (2, u16)), (1, (0, u17)), (3, (0, u18))]) (pc := 69) hX 3 dX12_rest_69 rfl (zlt hxn rfl) rfl ?_
            refine z_goto (pc := 72) hX 39 dX12_rest_72 (by decide) ?_
            refine z_pick (lv' := [(0, (2, u16)), (1, (0, u17)), (3, (0, u18)), (4, (0, (wrap (x19 + 1))))]) [1, 2, 3, 0] rfl ?_
            exact ih1 _ _
      refine z_pick (lv' := [(0, (2, a0)), (1, (0, a1)), (3, (0, v12)), (4, (0, 0))]) [2, 3, 1, 0] rfl ?_
      refine hl39 _ _ _ 1000 _ _
    · refine z_bipush (pc := 21) hX dX12_rest_21 ?_
      exact z_iret (pc := 23) hX hR hk dX12_rest_23
  · refine z_bipush (pc := 8) hX dX12_rest_8 ?_
    exact z_iret (pc := 10) hX hR hk dX12_rest_10
