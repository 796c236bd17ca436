theorem dX11_count_0 : decode cX11_count 0 = .ok (.iload_n 1, 1) := by decide +kernel
theorem dX11_count_1 : decode cX11_count 1 = .ok (.tableswitch 78 0 5 #[39, 47, 55, 60, 65, 70], 39) := by decide +kernel
theorem dX11_count_40 : decode cX11_count 40 = .ok (.aload_n 0, 1) := by decide +kernel
theorem dX11_count_41 : decode cX11_count 41 = .ok (.getfield 20, 3) := by decide +kernel
theorem dX11_count_44 : decode cX11_count 44 = .ok (.getfield 113, 3) := by decide +kernel
theorem dX11_count_47 : decode cX11_count 47 = .ok (.ireturn, 1) := by decide +kernel
theorem dX11_count_48 : decode cX11_count 48 = .ok (.aload_n 0, 1) := by decide +kernel
theorem dX11_count_49 : decode cX11_count 49 = .ok (.getfield 20, 3) := by decide +kernel
theorem dX11_count_52 : decode cX11_count 52 = .ok (.getfield 128, 3) := by decide +kernel
theorem dX11_count_55 : decode cX11_count 55 = .ok (.ireturn, 1) := by decide +kernel
theorem dX11_count_56 : decode cX11_count 56 = .ok (.aload_n 0, 1) := by decide +kernel
theorem dX11_count_57 : decode cX11_count 57 = .ok (.getfield 27, 3) := by decide +kernel
theorem dX11_count_60 : decode cX11_count 60 = .ok (.ireturn, 1) := by decide +kernel
theorem dX11_count_61 : decode cX11_count 61 = .ok (.aload_n 0, 1) := by decide +kernel
theorem dX11_count_62 : decode cX11_count 62 = .ok (.getfield 44, 3) := by decide +kernel
theorem dX11_count_65 : decode cX11_count 65 = .ok (.ireturn, 1) := by decide +kernel
theorem dX11_count_66 : decode cX11_count 66 = .ok (.aload_n 0, 1) := by decide +kernel
theorem dX11_count_67 : decode cX11_count 67 = .ok (.getfield 47, 3) := by decide +kernel
theorem dX11_count_70 : decode cX11_count 70 = .ok (.ireturn, 1) := by decide +kernel
theorem dX11_count_71 : decode cX11_count 71 = .ok (.aload_n 0, 1) := by decide +kernel
theorem dX11_count_72 : decode cX11_count 72 = .ok (.getfield 34, 3) := by decide +kernel
theorem dX11_count_75 : decode cX11_count 75 = .ok (.getfield 138, 3) := by decide +kernel
theorem dX11_count_78 : decode cX11_count 78 = .ok (.ireturn, 1) := by decide +kernel
theorem dX11_count_79 : decode cX11_count 79 = .ok (.bipush (-2), 2) := by decide +kernel
theorem dX11_count_81 : decode cX11_count 81 = .ok (.ireturn, 1) := by decide +kernel
def fX11_count (s0 : ZS) (a0 : Int) (a1 : Int) : Option (Int × ZS) := if a1 = 0 then ((zg s0 11 a0 1).bind (fun v2 => (zg s0 5 v2 5).bind (fun v3 => some (v3, s0)))) else (if a1 = 1 then ((zg s0 11 a0 1).bind (fun v5 => (zg s0 5 v5 7).bind (fun v6 => some (v6, s0)))) else (if a1 = 2 then ((zg s0 11 a0 3).bind (fun v8 => some (v8, s0))) else (if a1 = 3 then ((zg s0 11 a0 6).bind (fun v10 => some (v10, s0))) else (if a1 = 4 then ((zg s0 11 a0 7).bind (fun v12 => some (v12, s0))) else (if a1 = 5 then ((zg s0 11 a0 4).bind (fun v14 => (zg s0 4 v14 1).bind (fun v15 => some (v15, s0)))) else (some ((-2), s0)))))))
set_option maxHeartbeats 4000000 in
set_option maxRecDepth 100000 in
theorem mX11_count (E : ZE) (hE : zOkE E) (l : Launch) (s0 : ZS) (a0 : Int) (a1 : Int) : Ct E l yX11_count cX11_count 2 (some .int) 2 [(2, a0), (0, a1)] 1 s0 (fX11_count s0 a0 a1) := by
  refine Ct.of (by decide) hE (Nat.le_of_ble_eq_true rfl) ?_
  intro X G hX hR hN hXE hXl hxn hk _
  subst hXE
  subst hXl
  have hX : G → ZOk X cX11_count RX11 2 := hX
  clear hN
  show Zj X G 0 [(0, (2, a0)), (1, (0, a1))] [] s0 _
  unfold fX11_count
  refine z_iload_n (pc := 0) hX 1 dX11_count_0 rfl rfl ?_
  by_cases h1 : a1 = 0
  · refine z_eq (if_pos h1) ?_
    refine z_tswIn (pc := 1) hX 40 dX11_count_1 h1 (by decide) (by decide) rfl (by decide) ?_
    refine z_aload_n (pc := 40) hX 0 dX11_count_40 rfl rfl ?_
    refine z_get (pc := 41) hX zc11 1 (by decide) wd271 rfl rfl dX11_count_41 (fun v2 => ?_)
    refine z_get (pc := 44) hX zc5 5 (by decide) wd121 rfl rfl dX11_count_44 (fun v3 => ?_)
    exact z_iret (pc := 47) hX hR hk dX11_count_47
  · refine z_eq (if_neg h1) ?_
    by_cases h4 : a1 = 1
    · refine z_eq (if_pos h4) ?_
      refine z_tswIn (pc := 1) hX 48 dX11_count_1 h4 (by decide) (by decide) rfl (by decide) ?_
      refine z_aload_n (pc := 48) hX 0 dX11_count_48 rfl rfl ?_
      refine z_get (pc := 49) hX zc11 1 (by decide) wd271 rfl rfl dX11_count_49 (fun v5 => ?_)
      refine z_get (pc := 52) hX zc5 7 (by decide) wd126 rfl rfl dX11_count_52 (fun v6 => ?_)
      exact z_iret (pc := 55) hX hR hk dX11_count_55
    · refine z_eq (if_neg h4) ?_
      by_cases h7 : a1 = 2
      · refine z_eq (if_pos h7) ?_
        refine z_tswIn (pc := 1) hX 56 dX11_count_1 h7 (by decide) (by decide) rfl (by decide) ?_
        refine z_aload_n (pc := 56) hX 0 dX11_count_56 rfl rfl ?_
        refine z_get (pc := 57) hX zc11 3 (by decide) wd273 rfl rfl dX11_count_57 (fun v8 => ?_)
        exact z_iret (pc := 60) hX hR hk dX11_count_60
      · refine z_eq (if_neg h7) ?_
        by_cases h9 : a1 = 3
        · refine z_eq (if_pos h9) ?_
          refine z_tswIn (pc := 1) hX 61 dX11_count_1 h9 (by decide) (by decide) rfl (by decide) ?_
          refine z_aload_n (pc := 61) hX 0 dX11_count_61 rfl rfl ?_
          refine z_get (pc := 62) hX zc11 6 (by decide) wd276 rfl rfl dX11_count_62 (fun v10 => ?_)
          exact z_iret (pc := 65) hX hR hk dX11_count_65
        · refine z_eq (if_neg h9) ?_
          by_cases h11 : a1 = 4
          · refine z_eq (if_pos h11) ?_
            refine z_tswIn (pc := 1) hX 66 dX11_count_1 h11 (by decide) (by decide) rfl (by decide) ?_
            refine z_aload_n (pc := 66) hX 0 dX11_count_66 rfl rfl ?_
            refine z_get (pc := 67) hX zc11 7 (by decide) wd277 rfl rfl dX11_count_67 (fun v12 => ?_)
            exact z_iret (pc := 70) hX hR hk dX11_count_70
          · refine z_eq (if_neg h11) ?_
            by_cases h13 : a1 = 5
            · refine z_eq (if_pos h13) ?_
              refine z_tswIn (pc := 1) hX 71 dX11_count_1 h13 (by decide) (by decide) rfl (by decide) ?_
              refine z_aload_n (pc := 71) hX 0 dX11_count_71 rfl rfl ?_
              refine z_get (pc := 72) hX zc11 4 (by decide) wd274 rfl rfl dX11_count_72 (fun v14 => ?_)
              refine z_get (pc := 75) hX zc4 1 (by decide) wd200 rfl rfl dX11_count_75 (fun v15 => ?_)
              exact z_iret (pc := 78) hX hR hk dX11_count_78
            · refine z_eq (if_neg h13) ?_
              refine z_tswOut (pc := 1) hX 79 dX11_count_1 (by omega) (by decide) ?_
              refine z_bipush (pc := 79) hX dX11_count_79 ?_
              exact z_iret (pc := 81) hX hR hk dX11_count_81

theorem dX12_count_0 : decode cX12_count 0 = .ok (.iload_n 1, 1) := by decide +kernel
theorem dX12_count_1 : decode cX12_count 1 = .ok (.tableswitch 69 0 5 #[39, 44, 49, 54, 59, 64], 39) := by decide +kernel
theorem dX12_count_40 : decode cX12_count 40 = .ok (.aload_n 0, 1) := by decide +kernel
theorem dX12_count_41 : decode cX12_count 41 = .ok (.getfield 135, 3) := by decide +kernel
theorem dX12_count_44 : decode cX12_count 44 = .ok (.ireturn, 1) := by decide +kernel
theorem dX12_count_45 : decode cX12_count 45 = .ok (.aload_n 0, 1) := by decide +kernel
theorem dX12_count_46 : decode cX12_count 46 = .ok (.getfield 142, 3) := by decide +kernel
theorem dX12_count_49 : decode cX12_count 49 = .ok (.ireturn, 1) := by decide +kernel
theorem dX12_count_50 : decode cX12_count 50 = .ok (.aload_n 0, 1) := by decide +kernel
theorem dX12_count_51 : decode cX12_count 51 = .ok (.getfield 214, 3) := by decide +kernel
theorem dX12_count_54 : decode cX12_count 54 = .ok (.ireturn, 1) := by decide +kernel
theorem dX12_count_55 : decode cX12_count 55 = .ok (.aload_n 0, 1) := by decide +kernel
theorem dX12_count_56 : decode cX12_count 56 = .ok (.getfield 46, 3) := by decide +kernel
theorem dX12_count_59 : decode cX12_count 59 = .ok (.ireturn, 1) := by decide +kernel
theorem dX12_count_60 : decode cX12_count 60 = .ok (.aload_n 0, 1) := by decide +kernel
theorem dX12_count_61 : decode cX12_count 61 = .ok (.getfield 207, 3) := by decide +kernel
theorem dX12_count_64 : decode cX12_count 64 = .ok (.ireturn, 1) := by decide +kernel
theorem dX12_count_65 : decode cX12_count 65 = .ok (.aload_n 0, 1) := by decide +kernel
theorem dX12_count_66 : decode cX12_count 66 = .ok (.getfield 145, 3) := by decide +kernel
theorem dX12_count_69 : decode cX12_count 69 = .ok (.ireturn, 1) := by decide +kernel
theorem dX12_count_70 : decode cX12_count 70 = .ok (.bipush (-2), 2) := by decide +kernel
theorem dX12_count_72 : decode cX12_count 72 = .ok (.ireturn, 1) := by decide +kernel
def fX12_count (s0 : ZS) (a0 : Int) (a1 : Int) : Option (Int × ZS) := if a1 = 0 then ((zg s0 12 a0 2).bind (fun v2 => some (v2, s0))) else (if a1 = 1 then ((zg s0 12 a0 6).bind (fun v4 => some (v4, s0))) else (if a1 = 2 then ((zg s0 12 a0 8).bind (fun v6 => some (v6, s0))) else (if a1 = 3 then ((zg s0 12 a0 16).bind (fun v8 => some (v8, s0))) else (if a1 = 4 then ((zg s0 12 a0 17).bind (fun v10 => some (v10, s0))) else (if a1 = 5 then ((zg s0 12 a0 13).bind (fun v12 => some (v12, s0))) else (some ((-2), s0)))))))
set_option maxHeartbeats 4000000 in
set_option maxRecDepth 100000 in
theorem mX12_count (E : ZE) (hE : zOkE E) (l : Launch) (s0 : ZS) (a0 : Int) (a1 : Int) : Ct E l yX12_count cX12_count 2 (some .int) 2 [(2, a0), (0, a1)] 1 s0 (fX12_count s0 a0 a1) := by
  refine Ct.of (by decide) hE (Nat.le_of_ble_eq_true rfl) ?_
  intro X G hX hR hN hXE hXl hxn hk _
  subst hXE
  subst hXl
  have hX : G → ZOk X cX12_count RX12 2 := hX
  clear hN
  show Zj X G 0 [(0, (2, a0)), (1, (0, a1))] [] s0 _
  unfold fX12_count
  refine z_iload_n (pc := 0) hX 1 dX12_count_0 rfl rfl ?_
  by_cases h1 : a1 = 0
  · refine z_eq (if_pos h1) ?_
    refine z_tswIn (pc := 1) hX 40 dX12_count_1 h1 (by decide) (by decide) rfl (by decide) ?_
    refine z_aload_n (pc := 40) hX 0 dX12_count_40 rfl rfl ?_
    refine z_get (pc := 41) hX zc12 2 (by decide) wd1019 rfl rfl dX12_count_41 (fun v2 => ?_)
    exact z_iret (pc := 44) hX hR hk dX12_count_44
  · refine z_eq (if_neg h1) ?_
    by_cases h3 : a1 = 1
    · refine z_eq (if_pos h3) ?_
      refine z_tswIn (pc := 1) hX 45 dX12_count_1 h3 (by decide) (by decide) rfl (by decide) ?_
      refine z_aload_n (pc := 45) hX 0 dX12_count_45 rfl rfl ?_
      refine z_get (pc := 46) hX zc12 6 (by decide) wd1023 rfl rfl dX12_count_46 (fun v4 => ?_)
      exact z_iret (pc := 49) hX hR hk dX12_count_49
    · refine z_eq (if_neg h3) ?_
      by_cases h5 : a1 = 2
      · refine z_eq (if_pos h5) ?_
        refine z_tswIn (pc := 1) hX 50 dX12_count_1 h5 (by decide) (by decide) rfl (by decide) ?_
        refine z_aload_n (pc := 50) hX 0 dX12_count_50 rfl rfl ?_
        refine z_get (pc := 51) hX zc12 8 (by decide) wd1025 rfl rfl dX12_count_51 (fun v6 => ?_)
        exact z_iret (pc := 54) hX hR hk dX12_count_54
      · refine z_eq (if_neg h5) ?_
        by_cases h7 : a1 = 3
        · refine z_eq (if_pos h7) ?_
          refine z_tswIn (pc := 1) hX 55 dX12_count_1 h7 (by decide) (by decide) rfl (by decide) ?_
          refine z_aload_n (pc := 55) hX 0 dX12_count_55 rfl rfl ?_
          refine z_get (pc := 56) hX zc12 16 (by decide) wd1033 rfl rfl dX12_count_56 (fun v8 => ?_)
          exact z_iret (pc := 59) hX hR hk dX12_count_59
        · refine z_eq (if_neg h7) ?_
          by_cases h9 : a1 = 4
          · refine z_eq (if_pos h9) ?_
            refine z_tswIn (pc := 1) hX 60 dX12_count_1 h9 (by decide) (by decide) rfl (by decide) ?_
            refine z_aload_n (pc := 60) hX 0 dX12_count_60 rfl rfl ?_
            refine z_get (pc := 61) hX zc12 17 (by decide) wd1034 rfl rfl dX12_count_61 (fun v10 => ?_)
            exact z_iret (pc := 64) hX hR hk dX12_count_64
          · refine z_eq (if_neg h9) ?_
            by_cases h11 : a1 = 5
            · refine z_eq (if_pos h11) ?_
              refine z_tswIn (pc := 1) hX 65 dX12_count_1 h11 (by decide) (by decide) rfl (by decide) ?_
              refine z_aload_n (pc := 65) hX 0 dX12_count_65 rfl rfl ?_
              refine z_get (pc := 66) hX zc12 13 (by decide) wd1030 rfl rfl dX12_count_66 (fun v12 => ?_)
              exact z_iret (pc := 69) hX hR hk dX12_count_69
            · refine z_eq (if_neg h11) ?_
              refine z_tswOut (pc := 1) hX 70 dX12_count_1 (by omega) (by decide) ?_
              refine z_bipush (pc := 70) hX dX12_count_70 ?_
              exact z_iret (pc := 72) hX hR hk dX12_count_72

theorem dX5_become_0 : decode cX5_become 0 = .ok (.iconst 0, 1) := by decide +kernel
theorem dX5_become_1 : decode cX5_become 1 = .ok (.istore_n 3, 1) := by decide +kernel
theorem dX5_become_2 : decode cX5_become 2 = .ok (.iload_n 3, 1) := by decide +kernel
theorem dX5_become_3 : decode cX5_become 3 = .ok (.iconst 2, 1) := by decide +kernel
theorem dX5_become_4 : decode cX5_become 4 = .ok (.if_icmp .ge 47, 3) := by decide +kernel
theorem dX5_become_7 : decode cX5_become 7 = .ok (.aload_n 1, 1) := by decide +kernel
theorem dX5_become_8 : decode cX5_become 8 = .ok (.getfield 11, 3) := by decide +kernel
theorem dX5_become_11 : decode cX5_become 11 = .ok (.iload_n 3, 1) := by decide +kernel
theorem dX5_become_12 : decode cX5_become 12 = .ok (.aaload, 1) := by decide +kernel
theorem dX5_become_13 : decode cX5_become 13 = .ok (.iconst 0, 1) := by decide +kernel
theorem dX5_become_14 : decode cX5_become 14 = .ok (.aload_n 0, 1) := by decide +kernel
theorem dX5_become_15 : decode cX5_become 15 = .ok (.getfield 11, 3) := by decide +kernel
theorem dX5_become_18 : decode cX5_become 18 = .ok (.iload_n 3, 1) := by decide +kernel
theorem dX5_become_19 : decode cX5_become 19 = .ok (.aaload, 1) := by decide +kernel
theorem dX5_become_20 : decode cX5_become 20 = .ok (.iconst 0, 1) := by decide +kernel
theorem dX5_become_21 : decode cX5_become 21 = .ok (.bipush 24, 2) := by decide +kernel
theorem dX5_become_23 : decode cX5_become 23 = .ok (.invokestatic 42, 3) := by decide +kernel
theorem dX5_become_26 : decode cX5_become 26 = .ok (.aload_n 1, 1) := by decide +kernel
theorem dX5_become_27 : decode cX5_become 27 = .ok (.getfield 16, 3) := by decide +kernel
theorem dX5_become_30 : decode cX5_become 30 = .ok (.iload_n 3, 1) := by decide +kernel
theorem dX5_become_31 : decode cX5_become 31 = .ok (.aaload, 1) := by decide +kernel
theorem dX5_become_32 : decode cX5_become 32 = .ok (.iconst 0, 1) := by decide +kernel
theorem dX5_become_33 : decode cX5_become 33 = .ok (.aload_n 0, 1) := by decide +kernel
theorem dX5_become_34 : decode cX5_become 34 = .ok (.getfield 16, 3) := by decide +kernel
theorem dX5_become_37 : decode cX5_become 37 = .ok (.iload_n 3, 1) := by decide +kernel
theorem dX5_become_38 : decode cX5_become 38 = .ok (.aaload, 1) := by decide +kernel
theorem dX5_become_39 : decode cX5_become 39 = .ok (.iconst 0, 1) := by decide +kernel
theorem dX5_become_40 : decode cX5_become 40 = .ok (.bipush 24, 2) := by decide +kernel
theorem dX5_become_42 : decode cX5_become 42 = .ok (.invokestatic 42, 3) := by decide +kernel
theorem dX5_become_45 : decode cX5_become 45 = .ok (.iinc 3 1, 3) := by decide +kernel
theorem dX5_become_48 : decode cX5_become 48 = .ok (.goto (-46), 3) := by decide +kernel
theorem dX5_become_51 : decode cX5_become 51 = .ok (.aload_n 1, 1) := by decide +kernel
theorem dX5_become_52 : decode cX5_become 52 = .ok (.getfield 22, 3) := by decide +kernel
theorem dX5_become_55 : decode cX5_become 55 = .ok (.iconst 0, 1) := by decide +kernel
theorem dX5_become_56 : decode cX5_become 56 = .ok (.aload_n 0, 1) := by decide +kernel
theorem dX5_become_57 : decode cX5_become 57 = .ok (.getfield 22, 3) := by decide +kernel
theorem dX5_become_60 : decode cX5_become 60 = .ok (.iconst 0, 1) := by decide +kernel
theorem dX5_become_61 : decode cX5_become 61 = .ok (.iload_n 2, 1) := by decide +kernel
theorem dX5_become_62 : decode cX5_become 62 = .ok (.invokestatic 42, 3) := by decide +kernel
theorem dX5_become_65 : decode cX5_become 65 = .ok (.return_, 1) := by decide +kernel
def lX5_become_2 (u2 u3 u4 : Int) (K51 : ZS → Option (Int × ZS)) : Nat → ZS → Int → Option (Int × ZS)
  | 0, _, _ => none
  | n1 + 1, s1, x5 => if 2 ≤ x5 then (K51 s1) else ((zg s1 5 u3 0).bind (fun v7 => (zal s1 102 v7 x5).bind (fun v8 => (zg s1 5 u2 0).bind (fun v9 => (zal s1 102 v9 x5).bind (fun v10 => (zcp s1 v8 0 v10 0 24).bind (fun s11 => (zg s11 5 u3 1).bind (fun v12 => (zal s11 102 v12 x5).bind (fun v13 => (zg s11 5 u2 1).bind (fun v14 => (zal s11 102 v14 x5).bind (fun v15 => (zcp s11 v13 0 v15 0 24).bind (fun s16 => lX5_become_2 u2 u3 u4 K51 n1 s16 (wrap (x5 + 1)))))))))))))

def fX5_become (s0 : ZS) (a0 : Int) (a1 : Int) (a2 : Int) : Option (Int × ZS) := lX5_become_2 a0 a1 a2 (fun (s18 : ZS) => (zg s18 5 a1 3).bind (fun v19 => (zg s18 5 a0 3).bind (fun v20 => (zcp s18 v19 0 v20 0 a2).bind (fun s21 => some (0, s21))))) 1000 s0 0
set_option maxHeartbeats 4000000 in
set_option maxRecDepth 100000 in
theorem mX5_become (E : ZE) (hE : zOkE E) (l : Launch) (s0 : ZS) (a0 : Int) (a1 : Int) (a2 : Int) : Ct E l yX5_become cX5_become 4 none 2 [(2, a0), (2, a1), (0, a2)] 0 s0 (fX5_become s0 a0 a1 a2) := by
  refine Ct.of (by decide) hE (Nat.le_of_ble_eq_true rfl) ?_
  intro X G hX hR hN hXE hXl hxn hk _
  subst hXE
  subst hXl
  have hX : G → ZOk X cX5_become RX5 2 := hX
  clear hN
  show Zj X G 0 [(0, (2, a0)), (1, (2, a1)), (2, (0, a2))] [] s0 _
  unfold fX5_become
  refine z_iconst (pc := 0) hX dX5_become_0 ?_
  refine z_istore_n (lv' := [(3, (0, 0)), (0, (2, a0)), (1, (2, a1)), (2, (0, a2))]) (pc := 1) hX dX5_become_1 rfl (zlt hxn rfl) rfl ?_
  have hl2 : ∀ (u2 u3 u4 : Int), ∀ (K51 : ZS → Option (Int × ZS)), (∀ (s17 : ZS), Zj X G 51 [(0, (2, u2)), (1, (2, u3)), (2, (0, u4))] [] s17 (K51 s17)) → ∀ (n1 : Nat) (s1 : ZS) (x5 : Int), Zj X G 2 [(0, (2, u2)), (1, (2, u3)), (2, (0, u4)), (3, (0, x5))] [] s1 (lX5_become_2 u2 u3 u4 K51 n1 s1 x5) := by
    intro u2 u3 u4 K51 hK51 n1
    induction n1 with
    | zero => intro _ _; exact z_none
    | succ n1 ih1 =>
      intro s1 x5
      rw [lX5_become_2]
      refine z_iload_n (pc := 2) hX 3 dX5_become_2 rfl rfl ?_
      refine z_iconst (pc := 3) hX dX5_become_3 ?_
      refine z_icmp_ge (pc := 4) hX 51 dX5_become_4 (by decide) (fun h6 => ?_) (fun h6 => ?_)
      · refine z_pick (lv' := [(0, (2, u2)), (1, (2, u3)), (2, (0, u4))]) [0, 1, 2] rfl ?_
        exact hK51 _
      · refine z_aload_n (pc := 7) hX 1 dX5_become_7 rfl rfl ?_
        refine z_get (pc := 8) hX zc5 0 (by decide) wd105 rfl rfl dX5_become_8 (fun v7 => ?_)
        refine z_iload_n (pc := 11) hX 3 dX5_become_11 rfl rfl ?_
        refine z_aald (pc := 12) hX 2 102 (by decide) rfl rfl dX5_become_12 (fun v8 => ?_)
        refine z_iconst (pc := 13) hX dX5_become_13 ?_
        refine z_aload_n (pc := 14) hX 0 dX5_become_14 rfl rfl ?_
        refine z_get (pc := 15) hX zc5 0 (by decide) wd105 rfl rfl dX5_become_15 (fun v9 => ?_)
        refine z_iload_n (pc := 18) hX 3 dX5_become_18 rfl rfl ?_
        refine z_aald (pc := 19) hX 2 102 (by decide) rfl rfl dX5_become_19 (fun v10 => ?_)
        refine z_iconst (pc := 20) hX dX5_become_20 ?_
        refine z_bipush (pc := 21) hX dX5_become_21 ?_
        refine z_acopy (pc := 23) hX (by decide) dX5_become_23 wd953 wd573 wd572 wd75 (Nat.le_of_ble_eq_true rfl) (fun s11 => ?_)
        refine z_aload_n (pc := 26) hX 1 dX5_become_26 rfl rfl ?_
        refine z_get (pc := 27) hX zc5 1 (by decide) wd108 rfl rfl dX5_become_27 (fun v12 => ?_)
        refine z_iload_n (pc := 30) hX 3 dX5_become_30 rfl rfl ?_
        refine z_aald (pc := 31) hX 2 102 (by decide) rfl rfl dX5_become_31 (fun v13 => ?_)
        refine z_iconst (pc := 32) hX dX5_become_32 ?_
        refine z_aload_n (pc := 33) hX 0 dX5_become_33 rfl rfl ?_
        refine z_get (pc := 34) hX zc5 1 (by decide) wd108 rfl rfl dX5_become_34 (fun v14 => ?_)
        refine z_iload_n (pc := 37) hX 3 dX5_become_37 rfl rfl ?_
        refine z_aald (pc := 38) hX 2 102 (by decide) rfl rfl dX5_become_38 (fun v15 => ?_)
        refine z_iconst (pc := 39) hX dX5_become_39 ?_
        refine z_bipush (pc := 40) hX dX5_become_40 ?_
        refine z_acopy (pc := 42) hX (by decide) dX5_become_42 wd953 wd573 wd572 wd75 (Nat.le_of_ble_eq_true rfl) (fun s16 => ?_)
        refine z_iinc (lv' := [(3, (0, (wrap (x5 + 1)))), (0, (2, u2)), (1, (2, u3)), (2, (0, u4))]) (pc := 45) hX 3 dX5_become_45 rfl (zlt hxn rfl) rfl ?_
        refine z_goto (pc := 48) hX 2 dX5_become_48 (by decide) ?_
        refine z_pick (lv' := [(0, (2, u2)), (1, (2, u3)), (2, (0, u4)), (3, (0, (wrap (x5 + 1))))]) [1, 2, 3, 0] rfl ?_
        exact ih1 _ _
  refine z_pick (lv' := [(0, (2, a0)), (1, (2, a1)), (2, (0, a2)), (3, (0, 0))]) [1, 2, 3, 0] rfl ?_
  refine hl2 _ _ _ _ (fun s18 => ?_) 1000 _ _
  refine z_aload_n (pc := 51) hX 1 dX5_become_51 rfl rfl ?_
  refine z_get (pc := 52) hX zc5 3 (by decide) wd114 rfl rfl dX5_become_52 (fun v19 => ?_)
  refine z_iconst (pc := 55) hX dX5_become_55 ?_
  refine z_aload_n (pc := 56) hX 0 dX5_become_56 rfl rfl ?_
  refine z_get (pc := 57) hX zc5 3 (by decide) wd114 rfl rfl dX5_become_57 (fun v20 => ?_)
  refine z_iconst (pc := 60) hX dX5_become_60 ?_
  refine z_iload_n (pc := 61) hX 2 dX5_become_61 rfl rfl ?_
  refine z_acopy (pc := 62) hX (by decide) dX5_become_62 wd953 wd573 wd572 wd75 (Nat.le_of_ble_eq_true rfl) (fun s21 => ?_)
  exact z_vret (pc := 65) hX hR hk dX5_become_65

theorem dX11_image_0 : decode cX11_image 0 = .ok (.aload_n 0, 1) := by decide +kernel
theorem dX11_image_1 : decode cX11_image 1 = .ok (.getfield 59, 3) := by decide +kernel
theorem dX11_image_4 : decode cX11_image 4 = .ok (.aload_n 0, 1) := by decide +kernel
theorem dX11_image_5 : decode cX11_image 5 = .ok (.getfield 20, 3) := by decide +kernel
theorem dX11_image_8 : decode cX11_image 8 = .ok (.aload_n 0, 1) := by decide +kernel
theorem dX11_image_9 : decode cX11_image 9 = .ok (.getfield 20, 3) := by decide +kernel
theorem dX11_image_12 : decode cX11_image 12 = .ok (.getfield 113, 3) := by decide +kernel
theorem dX11_image_15 : decode cX11_image 15 = .ok (.invokevirtual 266, 3) := by decide +kernel
theorem dX11_image_18 : decode cX11_image 18 = .ok (.iconst 0, 1) := by decide +kernel
theorem dX11_image_19 : decode cX11_image 19 = .ok (.istore_n 1, 1) := by decide +kernel
theorem dX11_image_20 : decode cX11_image 20 = .ok (.iload_n 1, 1) := by decide +kernel
theorem dX11_image_21 : decode cX11_image 21 = .ok (.aload_n 0, 1) := by decide +kernel
theorem dX11_image_22 : decode cX11_image 22 = .ok (.getfield 27, 3) := by decide +kernel
theorem dX11_image_25 : decode cX11_image 25 = .ok (.if_icmp .ge 34, 3) := by decide +kernel
theorem dX11_image_28 : decode cX11_image 28 = .ok (.aload_n 0, 1) := by decide +kernel
theorem dX11_image_29 : decode cX11_image 29 = .ok (.getfield 23, 3) := by decide +kernel
theorem dX11_image_32 : decode cX11_image 32 = .ok (.iload_n 1, 1) := by decide +kernel
theorem dX11_image_33 : decode cX11_image 33 = .ok (.aaload, 1) := by decide +kernel
theorem dX11_image_34 : decode cX11_image 34 = .ok (.getfield 167, 3) := by decide +kernel
theorem dX11_image_37 : decode cX11_image 37 = .ok (.iconst 0, 1) := by decide +kernel
theorem dX11_image_38 : decode cX11_image 38 = .ok (.aload_n 0, 1) := by decide +kernel
theorem dX11_image_39 : decode cX11_image 39 = .ok (.getfield 23, 3) := by decide +kernel
theorem dX11_image_42 : decode cX11_image 42 = .ok (.iload_n 1, 1) := by decide +kernel
theorem dX11_image_43 : decode cX11_image 43 = .ok (.aaload, 1) := by decide +kernel
theorem dX11_image_44 : decode cX11_image 44 = .ok (.getfield 270, 3) := by decide +kernel
theorem dX11_image_47 : decode cX11_image 47 = .ok (.iconst 0, 1) := by decide +kernel
theorem dX11_image_48 : decode cX11_image 48 = .ok (.bipush 16, 2) := by decide +kernel
theorem dX11_image_50 : decode cX11_image 50 = .ok (.invokestatic 171, 3) := by decide +kernel
theorem dX11_image_53 : decode cX11_image 53 = .ok (.iinc 1 1, 3) := by decide +kernel
theorem dX11_image_56 : decode cX11_image 56 = .ok (.goto (-36), 3) := by decide +kernel
theorem dX11_image_59 : decode cX11_image 59 = .ok (.aload_n 0, 1) := by decide +kernel
theorem dX11_image_60 : decode cX11_image 60 = .ok (.iconst 1, 1) := by decide +kernel
theorem dX11_image_61 : decode cX11_image 61 = .ok (.putfield 62, 3) := by decide +kernel
theorem dX11_image_64 : decode cX11_image 64 = .ok (.aload_n 0, 1) := by decide +kernel
theorem dX11_image_65 : decode cX11_image 65 = .ok (.aload_n 0, 1) := by decide +kernel
theorem dX11_image_66 : decode cX11_image 66 = .ok (.getfield 20, 3) := by decide +kernel
theorem dX11_image_69 : decode cX11_image 69 = .ok (.getfield 113, 3) := by decide +kernel
theorem dX11_image_72 : decode cX11_image 72 = .ok (.putfield 66, 3) := by decide +kernel
theorem dX11_image_75 : decode cX11_image 75 = .ok (.aload_n 0, 1) := by decide +kernel
theorem dX11_image_76 : decode cX11_image 76 = .ok (.aload_n 0, 1) := by decide +kernel
theorem dX11_image_77 : decode cX11_image 77 = .ok (.getfield 27, 3) := by decide +kernel
theorem dX11_image_80 : decode cX11_image 80 = .ok (.putfield 69, 3) := by decide +kernel
theorem dX11_image_83 : decode cX11_image 83 = .ok (.aload_n 0, 1) := by decide +kernel
theorem dX11_image_84 : decode cX11_image 84 = .ok (.aload_n 0, 1) := by decide +kernel
theorem dX11_image_85 : decode cX11_image 85 = .ok (.getfield 47, 3) := by decide +kernel
theorem dX11_image_88 : decode cX11_image 88 = .ok (.putfield 72, 3) := by decide +kernel
theorem dX11_image_91 : decode cX11_image 91 = .ok (.aload_n 0, 1) := by decide +kernel
theorem dX11_image_92 : decode cX11_image 92 = .ok (.getfield 27, 3) := by decide +kernel
theorem dX11_image_95 : decode cX11_image 95 = .ok (.ireturn, 1) := by decide +kernel
def lX11_image_20 (u9 : Int) (K59 : ZS → Option (Int × ZS)) : Nat → ZS → Int → Option (Int × ZS)
  | 0, _, _ => none
  | n1 + 1, s8, x10 => (zg s8 11 u9 3).bind (fun v11 => if v11 ≤ x10 then (K59 s8) else ((zg s8 11 u9 2).bind (fun v13 => (zal s8 103 v13 x10).bind (fun v14 => (zgw s8 v14 1).bind (fun v15 => (zg s8 11 u9 2).bind (fun v16 => (zal s8 103 v16 x10).bind (fun v17 => (zgw s8 v17 2).bind (fun v18 => (zcp s8 v15 0 v18 0 16).bind (fun s19 => lX11_image_20 u9 K59 n1 s19 (wrap (x10 + 1)))))))))))

def fX11_image (s0 : ZS) (a0 : Int) : Option (Int × ZS) := (zg s0 11 a0 9).bind (fun v1 => (zg s0 11 a0 1).bind (fun v2 => (zg s0 11 a0 1).bind (fun v3 => (zg s0 5 v3 5).bind (fun v4 => zb (zv s0 5 v1 (fX5_become s0 v1 v2 v4)) (fun v5 s6 => lX11_image_20 a0 (fun (s21 : ZS) => (zp s21 11 a0 10 1).bind (fun s22 => (zg s22 11 a0 1).bind (fun v23 => (zg s22 5 v23 5).bind (fun v24 => (zp s22 11 a0 11 v24).bind (fun s25 => (zg s25 11 a0 3).bind (fun v26 => (zp s25 11 a0 12 v26).bind (fun s27 => (zg s27 11 a0 7).bind (fun v28 => (zp s27 11 a0 13 v28).bind (fun s29 => (zg s29 11 a0 3).bind (fun v30 => some (v30, s29))))))))))) 1000 s6 0)))))
set_option maxHeartbeats 4000000 in
set_option maxRecDepth 100000 in
theorem mX11_image (E : ZE) (hE : zOkE E) (l : Launch) (s0 : ZS) (a0 : Int) : Ct E l yX11_image cX11_image 2 (some .int) 4 [(2, a0)] 1 s0 (fX11_image s0 a0) := by
  refine Ct.of (by decide) hE (Nat.le_of_ble_eq_true rfl) ?_
  intro X G hX hR hN hXE hXl hxn hk _
  subst hXE
  subst hXl
  have hX : G → ZOk X cX11_image RX11 4 := hX
  clear hN
  show Zj X G 0 [(0, (2, a0))] [] s0 _
  unfold fX11_image
  refine z_aload_n (pc := 0) hX 0 dX11_image_0 rfl rfl ?_
  refine z_get (pc := 1) hX zc11 9 (by decide) wd279 rfl rfl dX11_image_1 (fun v1 => ?_)
  refine z_aload_n (pc := 4) hX 0 dX11_image_4 rfl rfl ?_
  refine z_get (pc := 5) hX zc11 1 (by decide) wd271 rfl rfl dX11_image_5 (fun v2 => ?_)
  refine z_aload_n (pc := 8) hX 0 dX11_image_8 rfl rfl ?_
  refine z_get (pc := 9) hX zc11 1 (by decide) wd271 rfl rfl dX11_image_9 (fun v3 => ?_)
  refine z_get (pc := 12) hX zc5 5 (by decide) wd121 rfl rfl dX11_image_12 (fun v4 => ?_)
  refine z_callV (n := 2) (st := []) (pc := 15) hX zc5 rfl (fun _ => (mX5_become _ hE _ _ _ _ _)) ⟨wd949, wd63, wd952, ⟨by decide, by decide, by decide⟩, by decide⟩ rfl wd950 wd951 rfl rfl (by decide) (Nat.le_of_ble_eq_true rfl) dX11_image_15 (fun v5 s6 r7 => ?_)
  show Zj X G 18 [(0, (2, a0))] [] _ _
  refine z_iconst (pc := 18) hX dX11_image_18 ?_
  refine z_istore_n (lv' := [(1, (0, 0)), (0, (2, a0))]) (pc := 19) hX dX11_image_19 rfl (zlt hxn rfl) rfl ?_
  have hl20 : ∀ (u9 : Int), ∀ (K59 : ZS → Option (Int × ZS)), (∀ (s20 : ZS), Zj X G 59 [(0, (2, u9))] [] s20 (K59 s20)) → ∀ (n1 : Nat) (s8 : ZS) (x10 : Int), Zj X G 20 [(0, (2, u9)), (1, (0, x10))] [] s8 (lX11_image_20 u9 K59 n1 s8 x10) := by
    intro u9 K59 hK59 n1
    induction n1 with
    | zero => intro _ _; exact z_none
    | succ n1 ih1 =>
      intro s8 x10
      rw [lX11_image_20]
      refine z_iload_n (pc := 20) hX 1 dX11_image_20 rfl rfl ?_
      refine z_aload_n (pc := 21) hX 0 dX11_image_21 rfl rfl ?_
      refine z_get (pc := 22) hX zc11 3 (by decide) wd273 rfl rfl dX11_image_22 (fun v11 => ?_)
      refine z_icmp_ge (pc := 25) hX 59 dX11_image_25 (by decide) (fun h12 => ?_) (fun h12 => ?_)
      · refine z_pick (lv' := [(0, (2, u9))]) [0] rfl ?_
        exact hK59 _
      · refine z_aload_n (pc := 28) hX 0 dX11_image_28 rfl rfl ?_
        refine z_get (pc := 29) hX zc11 2 (by decide) wd272 rfl rfl dX11_image_29 (fun v13 => ?_)
        refine z_iload_n (pc := 32) hX 1 dX11_image_32 rfl rfl ?_
        refine z_aald (pc := 33) hX 3 103 (by decide) rfl rfl dX11_image_33 (fun v14 => ?_)
        refine z_getw (pc := 34) hX zc10 zc9 zc3 zc0 zc1 zc7 1 (by decide) wd620 rfl rfl rfl rfl rfl rfl rfl rfl rfl rfl rfl rfl rfl dX11_image_34 (fun v15 => ?_)
        refine z_iconst (pc := 37) hX dX11_image_37 ?_
        refine z_aload_n (pc := 38) hX 0 dX11_image_38 rfl rfl ?_
        refine z_get (pc := 39) hX zc11 2 (by decide) wd272 rfl rfl dX11_image_39 (fun v16 => ?_)
        refine z_iload_n (pc := 42) hX 1 dX11_image_42 rfl rfl ?_
        refine z_aald (pc := 43) hX 3 103 (by decide) rfl rfl dX11_image_43 (fun v17 => ?_)
        refine z_getw (pc := 44) hX zc10 zc9 zc3 zc0 zc1 zc7 2 (by decide) wd622 rfl rfl rfl rfl rfl rfl rfl rfl rfl rfl rfl rfl rfl dX11_image_44 (fun v18 => ?_)
        refine z_iconst (pc := 47) hX dX11_image_47 ?_
        refine z_bipush (pc := 48) hX dX11_image_48 ?_
        refine z_acopy (pc := 50) hX (by decide) dX11_image_50 wd676 wd573 wd572 wd75 (Nat.le_of_ble_eq_true rfl) (fun s19 => ?_)
        refine z_iinc (lv' := [(1, (0, (wrap (x10 + 1)))), (0, (2, u9))]) (pc := 53) hX 1 dX11_image_53 rfl (zlt hxn rfl) rfl ?_
        refine z_goto (pc := 56) hX 20 dX11_image_56 (by decide) ?_
        refine z_pick (lv' := [(0, (2, u9)), (1, (0, (wrap (x10 + 1))))]) [1, 0] rfl ?_
        exact ih1 _ _
  refine z_pick (lv' := [(0, (2, a0)), (1, (0, 0))]) [1, 0] rfl ?_
  refine hl20 _ _ (fun s21 => ?_) 1000 _ _
  refine z_aload_n (pc := 59) hX 0 dX11_image_59 rfl rfl ?_
  refine z_iconst (pc := 60) hX dX11_image_60 ?_
  refine z_putA (pc := 61) hX zc11 10 (by decide) wd280 (Or.inl rfl) rfl rfl (fun _ => rfl) (fun _ => rfl) dX11_image_61 (fun s22 => ?_)
  refine z_aload_n (pc := 64) hX 0 dX11_image_64 rfl rfl ?_
  refine z_aload_n (pc := 65) hX 0 dX11_image_65 rfl rfl ?_
  refine z_get (pc := 66) hX zc11 1 (by decide) wd271 rfl rfl dX11_image_66 (fun v23 => ?_)
  refine z_get (pc := 69) hX zc5 5 (by decide) wd121 rfl rfl dX11_image_69 (fun v24 => ?_)
  refine z_putA (pc := 72) hX zc11 11 (by decide) wd281 (Or.inl rfl) rfl rfl (fun _ => rfl) (fun _ => rfl) dX11_image_72 (fun s25 => ?_)
  refine z_aload_n (pc := 75) hX 0 dX11_image_75 rfl rfl ?_
  refine z_aload_n (pc := 76) hX 0 dX11_image_76 rfl rfl ?_
  refine z_get (pc := 77) hX zc11 3 (by decide) wd273 rfl rfl dX11_image_77 (fun v26 => ?_)
  refine z_putA (pc := 80) hX zc11 12 (by decide) wd282 (Or.inl rfl) rfl rfl (fun _ => rfl) (fun _ => rfl) dX11_image_80 (fun s27 => ?_)
  refine z_aload_n (pc := 83) hX 0 dX11_image_83 rfl rfl ?_
  refine z_aload_n (pc := 84) hX 0 dX11_image_84 rfl rfl ?_
  refine z_get (pc := 85) hX zc11 7 (by decide) wd277 rfl rfl dX11_image_85 (fun v28 => ?_)
  refine z_putA (pc := 88) hX zc11 13 (by decide) wd283 (Or.inl rfl) rfl rfl (fun _ => rfl) (fun _ => rfl) dX11_image_88 (fun s29 => ?_)
  refine z_aload_n (pc := 91) hX 0 dX11_image_91 rfl rfl ?_
  refine z_get (pc := 92) hX zc11 3 (by decide) wd273 rfl rfl dX11_image_92 (fun v30 => ?_)
  exact z_iret (pc := 95) hX hR hk dX11_image_95

theorem dX12_image_0 : decode cX12_image 0 = .ok (.aload_n 0, 1) := by decide +kernel
theorem dX12_image_1 : decode cX12_image 1 = .ok (.iconst 1, 1) := by decide +kernel
theorem dX12_image_2 : decode cX12_image 2 = .ok (.putfield 300, 3) := by decide +kernel
theorem dX12_image_5 : decode cX12_image 5 = .ok (.aload_n 0, 1) := by decide +kernel
theorem dX12_image_6 : decode cX12_image 6 = .ok (.aload_n 0, 1) := by decide +kernel
theorem dX12_image_7 : decode cX12_image 7 = .ok (.getfield 135, 3) := by decide +kernel
theorem dX12_image_10 : decode cX12_image 10 = .ok (.putfield 304, 3) := by decide +kernel
theorem dX12_image_13 : decode cX12_image 13 = .ok (.aload_n 0, 1) := by decide +kernel
theorem dX12_image_14 : decode cX12_image 14 = .ok (.aload_n 0, 1) := by decide +kernel
theorem dX12_image_15 : decode cX12_image 15 = .ok (.getfield 214, 3) := by decide +kernel
theorem dX12_image_18 : decode cX12_image 18 = .ok (.putfield 307, 3) := by decide +kernel
theorem dX12_image_21 : decode cX12_image 21 = .ok (.aload_n 0, 1) := by decide +kernel
theorem dX12_image_22 : decode cX12_image 22 = .ok (.aload_n 0, 1) := by decide +kernel
theorem dX12_image_23 : decode cX12_image 23 = .ok (.getfield 207, 3) := by decide +kernel
theorem dX12_image_26 : decode cX12_image 26 = .ok (.putfield 310, 3) := by decide +kernel
theorem dX12_image_29 : decode cX12_image 29 = .ok (.iconst 0, 1) := by decide +kernel
theorem dX12_image_30 : decode cX12_image 30 = .ok (.istore_n 1, 1) := by decide +kernel
theorem dX12_image_31 : decode cX12_image 31 = .ok (.iload_n 1, 1) := by decide +kernel
theorem dX12_image_32 : decode cX12_image 32 = .ok (.bipush 48, 2) := by decide +kernel
theorem dX12_image_34 : decode cX12_image 34 = .ok (.if_icmp .ge 33, 3) := by decide +kernel
theorem dX12_image_37 : decode cX12_image 37 = .ok (.aload_n 0, 1) := by decide +kernel
theorem dX12_image_38 : decode cX12_image 38 = .ok (.getfield 50, 3) := by decide +kernel
theorem dX12_image_41 : decode cX12_image 41 = .ok (.iload_n 1, 1) := by decide +kernel
theorem dX12_image_42 : decode cX12_image 42 = .ok (.aload_n 0, 1) := by decide +kernel
theorem dX12_image_43 : decode cX12_image 43 = .ok (.getfield 7, 3) := by decide +kernel
theorem dX12_image_46 : decode cX12_image 46 = .ok (.iload_n 1, 1) := by decide +kernel
theorem dX12_image_47 : decode cX12_image 47 = .ok (.iaload, 1) := by decide +kernel
theorem dX12_image_48 : decode cX12_image 48 = .ok (.iastore, 1) := by decide +kernel
theorem dX12_image_49 : decode cX12_image 49 = .ok (.aload_n 0, 1) := by decide +kernel
theorem dX12_image_50 : decode cX12_image 50 = .ok (.getfield 53, 3) := by decide +kernel
theorem dX12_image_53 : decode cX12_image 53 = .ok (.iload_n 1, 1) := by decide +kernel
theorem dX12_image_54 : decode cX12_image 54 = .ok (.aload_n 0, 1) := by decide +kernel
theorem dX12_image_55 : decode cX12_image 55 = .ok (.getfield 13, 3) := by decide +kernel
theorem dX12_image_58 : decode cX12_image 58 = .ok (.iload_n 1, 1) := by decide +kernel
theorem dX12_image_59 : decode cX12_image 59 = .ok (.iaload, 1) := by decide +kernel
theorem dX12_image_60 : decode cX12_image 60 = .ok (.iastore, 1) := by decide +kernel
theorem dX12_image_61 : decode cX12_image 61 = .ok (.iinc 1 1, 3) := by decide +kernel
theorem dX12_image_64 : decode cX12_image 64 = .ok (.goto (-33), 3) := by decide +kernel
theorem dX12_image_67 : decode cX12_image 67 = .ok (.iconst 0, 1) := by decide +kernel
theorem dX12_image_68 : decode cX12_image 68 = .ok (.istore_n 1, 1) := by decide +kernel
theorem dX12_image_69 : decode cX12_image 69 = .ok (.iload_n 1, 1) := by decide +kernel
theorem dX12_image_70 : decode cX12_image 70 = .ok (.iconst 4, 1) := by decide +kernel
theorem dX12_image_71 : decode cX12_image 71 = .ok (.if_icmp .ge 21, 3) := by decide +kernel
theorem dX12_image_74 : decode cX12_image 74 = .ok (.aload_n 0, 1) := by decide +kernel
theorem dX12_image_75 : decode cX12_image 75 = .ok (.getfield 56, 3) := by decide +kernel
theorem dX12_image_78 : decode cX12_image 78 = .ok (.iload_n 1, 1) := by decide +kernel
theorem dX12_image_79 : decode cX12_image 79 = .ok (.aload_n 0, 1) := by decide +kernel
theorem dX12_image_80 : decode cX12_image 80 = .ok (.getfield 16, 3) := by decide +kernel
theorem dX12_image_83 : decode cX12_image 83 = .ok (.iload_n 1, 1) := by decide +kernel
theorem dX12_image_84 : decode cX12_image 84 = .ok (.iaload, 1) := by decide +kernel
theorem dX12_image_85 : decode cX12_image 85 = .ok (.iastore, 1) := by decide +kernel
theorem dX12_image_86 : decode cX12_image 86 = .ok (.iinc 1 1, 3) := by decide +kernel
theorem dX12_image_89 : decode cX12_image 89 = .ok (.goto (-20), 3) := by decide +kernel
theorem dX12_image_92 : decode cX12_image 92 = .ok (.iconst 0, 1) := by decide +kernel
theorem dX12_image_93 : decode cX12_image 93 = .ok (.istore_n 1, 1) := by decide +kernel
theorem dX12_image_94 : decode cX12_image 94 = .ok (.iload_n 1, 1) := by decide +kernel
theorem dX12_image_95 : decode cX12_image 95 = .ok (.sipush 128, 3) := by decide +kernel
theorem dX12_image_98 : decode cX12_image 98 = .ok (.if_icmp .ge 21, 3) := by decide +kernel
theorem dX12_image_101 : decode cX12_image 101 = .ok (.aload_n 0, 1) := by decide +kernel
theorem dX12_image_102 : decode cX12_image 102 = .ok (.getfield 59, 3) := by decide +kernel
theorem dX12_image_105 : decode cX12_image 105 = .ok (.iload_n 1, 1) := by decide +kernel
theorem dX12_image_106 : decode cX12_image 106 = .ok (.aload_n 0, 1) := by decide +kernel
theorem dX12_image_107 : decode cX12_image 107 = .ok (.getfield 34, 3) := by decide +kernel
theorem dX12_image_110 : decode cX12_image 110 = .ok (.iload_n 1, 1) := by decide +kernel
theorem dX12_image_111 : decode cX12_image 111 = .ok (.iaload, 1) := by decide +kernel
theorem dX12_image_112 : decode cX12_image 112 = .ok (.iastore, 1) := by decide +kernel
theorem dX12_image_113 : decode cX12_image 113 = .ok (.iinc 1 1, 3) := by decide +kernel
theorem dX12_image_116 : decode cX12_image 116 = .ok (.goto (-22), 3) := by decide +kernel
theorem dX12_image_119 : decode cX12_image 119 = .ok (.aload_n 0, 1) := by decide +kernel
theorem dX12_image_120 : decode cX12_image 120 = .ok (.getfield 214, 3) := by decide +kernel
theorem dX12_image_123 : decode cX12_image 123 = .ok (.ireturn, 1) := by decide +kernel
def lX12_image_31 (u9 : Int) (K67 : ZS → Option (Int × ZS)) : Nat → ZS → Int → Option (Int × ZS)
  | 0, _, _ => none
  | n1 + 1, s8, x10 => if 48 ≤ x10 then (K67 s8) else ((zg s8 12 u9 22).bind (fun v12 => (zg s8 12 u9 0).bind (fun v13 => (zal s8 100 v13 x10).bind (fun v14 => (zas s8 100 v12 x10 v14).bind (fun s15 => (zg s15 12 u9 23).bind (fun v16 => (zg s15 12 u9 1).bind (fun v17 => (zal s15 100 v17 x10).bind (fun v18 => (zas s15 100 v16 x10 v18).bind (fun s19 => lX12_image_31 u9 K67 n1 s19 (wrap (x10 + 1)))))))))))

def lX12_image_69 (u23 : Int) (K92 : ZS → Option (Int × ZS)) : Nat → ZS → Int → Option (Int × ZS)
  | 0, _, _ => none
  | n1 + 1, s22, x24 => if 4 ≤ x24 then (K92 s22) else ((zg s22 12 u23 24).bind (fun v26 => (zg s22 12 u23 3).bind (fun v27 => (zal s22 100 v27 x24).bind (fun v28 => (zas s22 100 v26 x24 v28).bind (fun s29 => lX12_image_69 u23 K92 n1 s29 (wrap (x24 + 1)))))))

def lX12_image_94 (u33 : Int)  : Nat → ZS → Int → Option (Int × ZS)
  | 0, _, _ => none
  | n1 + 1, s32, x34 => if 128 ≤ x34 then ((zg s32 12 u33 8).bind (fun v36 => some (v36, s32))) else ((zg s32 12 u33 25).bind (fun v37 => (zg s32 12 u33 11).bind (fun v38 => (zal s32 100 v38 x34).bind (fun v39 => (zas s32 100 v37 x34 v39).bind (fun s40 => lX12_image_94 u33 n1 s40 (wrap (x34 + 1)))))))

def fX12_image (s0 : ZS) (a0 : Int) : Option (Int × ZS) := (zp s0 12 a0 18 1).bind (fun s1 => (zg s1 12 a0 2).bind (fun v2 => (zp s1 12 a0 19 v2).bind (fun s3 => (zg s3 12 a0 8).bind (fun v4 => (zp s3 12 a0 20 v4).bind (fun s5 => (zg s5 12 a0 17).bind (fun v6 => (zp s5 12 a0 21 v6).bind (fun s7 => lX12_image_31 a0 (fun (s21 : ZS) => lX12_image_69 a0 (fun (s31 : ZS) => lX12_image_94 a0 1000 s31 0) 1000 s21 0) 1000 s7 0)))))))
set_option maxHeartbeats 4000000 in
set_option maxRecDepth 100000 in
theorem mX12_image (E : ZE) (hE : zOkE E) (l : Launch) (s0 : ZS) (a0 : Int) : Ct E l yX12_image cX12_image 2 (some .int) 2 [(2, a0)] 1 s0 (fX12_image s0 a0) := by
  refine Ct.of (by decide) hE (Nat.le_of_ble_eq_true rfl) ?_
  intro X G hX hR hN hXE hXl hxn hk _
  subst hXE
  subst hXl
  have hX : G → ZOk X cX12_image RX12 2 := hX
  clear hN
  show Zj X G 0 [(0, (2, a0))] [] s0 _
  unfold fX12_image
  refine z_aload_n (pc := 0) hX 0 dX12_image_0 rfl rfl ?_
  refine z_iconst (pc := 1) hX dX12_image_1 ?_
  refine z_putA (pc := 2) hX zc12 18 (by decide) wd1035 (Or.inl rfl) rfl rfl (fun _ => rfl) (fun _ => rfl) dX12_image_2 (fun s1 => ?_)
  refine z_aload_n (pc := 5) hX 0 dX12_image_5 rfl rfl ?_
  refine z_aload_n (pc := 6) hX 0 dX12_image_6 rfl rfl ?_
  refine z_get (pc := 7) hX zc12 2 (by decide) wd1019 rfl rfl dX12_image_7 (fun v2 => ?_)
  refine z_putA (pc := 10) hX zc12 19 (by decide) wd1036 (Or.inl rfl) rfl rfl (fun _ => rfl) (fun _ => rfl) dX12_image_10 (fun s3 => ?_)
  refine z_aload_n (pc := 13) hX 0 dX12_image_13 rfl rfl ?_
  refine z_aload_n (pc := 14) hX 0 dX12_image_14 rfl rfl ?_
  refine z_get (pc := 15) hX zc12 8 (by decide) wd1025 rfl rfl dX12_image_15 (fun v4 => ?_)
  refine z_putA (pc := 18) hX zc12 20 (by decide) wd1037 (Or.inl rfl) rfl rfl (fun _ => rfl) (fun _ => rfl) dX12_image_18 (fun s5 => ?_)
  refine z_aload_n (pc := 21) hX 0 dX12_image_21 rfl rfl ?_
  refine z_aload_n (pc := 22) hX 0 dX12_image_22 rfl rfl ?_
  refine z_get (pc := 23) hX zc12 17 (by decide) wd1034 rfl rfl dX12_image_23 (fun v6 => ?_)
  refine z_putA (pc := 26) hX zc12 21 (by decide) wd1038 (Or.inl rfl) rfl rfl (fun _ => rfl) (fun _ => rfl) dX12_image_26 (fun s7 => ?_)
  refine z_iconst (pc := 29) hX dX12_image_29 ?_
  refine z_istore_n (lv' := [(1, (0, 0)), (0, (2, a0))]) (pc := 30) hX dX12_image_30 rfl (zlt hxn rfl) rfl ?_
  have hl31 : ∀ (u9 : Int), ∀ (K67 : ZS → Option (Int × ZS)), (∀ (s20 : ZS), Zj X G 67 [(0, (2, u9))] [] s20 (K67 s20)) → ∀ (n1 : Nat) (s8 : ZS) (x10 : Int), Zj X G 31 [(0, (2, u9)), (1, (0, x10))] [] s8 (lX12_image_31 u9 K67 n1 s8 x10) := by
    intro u9 K67 hK67 n1
    induction n1 with
    | zero => intro _ _; exact z_none
    | succ n1 ih1 =>
      intro s8 x10
      rw [lX12_image_31]
      refine z_iload_n (pc := 31) hX 1 dX12_image_31 rfl rfl ?_
      refine z_bipush (pc := 32) hX dX12_image_32 ?_
      refine z_icmp_ge (pc := 34) hX 67 dX12_image_34 (by decide) (fun h11 => ?_) (fun h11 => ?_)
      · refine z_pick (lv' := [(0, (2, u9))]) [0] rfl ?_
        exact hK67 _
      · refine z_aload_n (pc := 37) hX 0 dX12_image_37 rfl rfl ?_
        refine z_get (pc := 38) hX zc12 22 (by decide) wd1039 rfl rfl dX12_image_38 (fun v12 => ?_)
        refine z_iload_n (pc := 41) hX 1 dX12_image_41 rfl rfl ?_
        refine z_aload_n (pc := 42) hX 0 dX12_image_42 rfl rfl ?_
        refine z_get (pc := 43) hX zc12 0 (by decide) wd1017 rfl rfl dX12_image_43 (fun v13 => ?_)
        refine z_iload_n (pc := 46) hX 1 dX12_image_46 rfl rfl ?_
        refine z_iald (pc := 47) hX dX12_image_47 (fun v14 => ?_)
        refine z_iastA (pc := 48) hX dX12_image_48 (fun s15 => ?_)
        refine z_aload_n (pc := 49) hX 0 dX12_image_49 rfl rfl ?_
        refine z_get (pc := 50) hX zc12 23 (by decide) wd1040 rfl rfl dX12_image_50 (fun v16 => ?_)
        refine z_iload_n (pc := 53) hX 1 dX12_image_53 rfl rfl ?_
        refine z_aload_n (pc := 54) hX 0 dX12_image_54 rfl rfl ?_
        refine z_get (pc := 55) hX zc12 1 (by decide) wd1018 rfl rfl dX12_image_55 (fun v17 => ?_)
        refine z_iload_n (pc := 58) hX 1 dX12_image_58 rfl rfl ?_
        refine z_iald (pc := 59) hX dX12_image_59 (fun v18 => ?_)
        refine z_iastA (pc := 60) hX dX12_image_60 (fun s19 => ?_)
        refine z_iinc (lv' := [(1, (0, (wrap (x10 + 1)))), (0, (2, u9))]) (pc := 61) hX 1 dX12_image_61 rfl (zlt hxn rfl) rfl ?_
        refine z_goto (pc := 64) hX 31 dX12_image_64 (by decide) ?_
        refine z_pick (lv' := [(0, (2, u9)), (1, (0, (wrap (x10 + 1))))]) [1, 0] rfl ?_
        exact ih1 _ _
  refine z_pick (lv' := [(0, (2, a0)), (1, (0, 0))]) [1, 0] rfl ?_
  refine hl31 _ _ (fun s21 => ?_) 1000 _ _
  refine z_iconst (pc := 67) hX dX12_image_67 ?_
  refine z_istore_n (lv' := [(1, (0, 0)), (0, (2, a0))]) (pc := 68) hX dX12_image_68 rfl (zlt hxn rfl) rfl ?_
  have hl69 : ∀ (u23 : Int), ∀ (K92 : ZS → Option (Int × ZS)), (∀ (s30 : ZS), Zj X G 92 [(0, (2, u23))] [] s30 (K92 s30)) → ∀ (n1 : Nat) (s22 : ZS) (x24 : Int), Zj X G 69 [(0, (2, u23)), (1, (0, x24))] [] s22 (lX12_image_69 u23 K92 n1 s22 x24) := by
    intro u23 K92 hK92 n1
    induction n1 with
    | zero => intro _ _; exact z_none
    | succ n1 ih1 =>
      intro s22 x24
      rw [lX12_image_69]
      refine z_iload_n (pc := 69) hX 1 dX12_image_69 rfl rfl ?_
      refine z_iconst (pc := 70) hX dX12_image_70 ?_
      refine z_icmp_ge (pc := 71) hX 92 dX12_image_71 (by decide) (fun h25 => ?_) (fun h25 => ?_)
      · refine z_pick (lv' := [(0, (2, u23))]) [0] rfl ?_
        exact hK92 _
      · refine z_aload_n (pc := 74) hX 0 dX12_image_74 rfl rfl ?_
        refine z_get (pc := 75) hX zc12 24 (by decide) wd1041 rfl rfl dX12_image_75 (fun v26 => ?_)
        refine z_iload_n (pc := 78) hX 1 dX12_image_78 rfl rfl ?_
        refine z_aload_n (pc := 79) hX 0 dX12_image_79 rfl rfl ?_
        refine z_get (pc := 80) hX zc12 3 (by decide) wd1020 rfl rfl dX12_image_80 (fun v27 => ?_)
        refine z_iload_n (pc := 83) hX 1 dX12_image_83 rfl rfl ?_
        refine z_iald (pc := 84) hX dX12_image_84 (fun v28 => ?_)
        refine z_iastA (pc := 85) hX dX12_image_85 (fun s29 => ?_)
        refine z_iinc (lv' := [(1, (0, (wrap (x24 + 1)))), (0, (2, u23))]) (pc := 86) hX 1 dX12_image_86 rfl (zlt hxn rfl) rfl ?_
        refine z_goto (pc := 89) hX 69 dX12_image_89 (by decide) ?_
        refine z_pick (lv' := [(0, (2, u23)), (1, (0, (wrap (x24 + 1))))]) [1, 0] rfl ?_
        exact ih1 _ _
  refine z_pick (lv' := [(0, (2, a0)), (1, (0, 0))]) [1, 0] rfl ?_
  refine hl69 _ _ (fun s31 => ?_) 1000 _ _
  refine z_iconst (pc := 92) hX dX12_image_92 ?_
  refine z_istore_n (lv' := [(1, (0, 0)), (0, (2, a0))]) (pc := 93) hX dX12_image_93 rfl (zlt hxn rfl) rfl ?_
  have hl94 : ∀ (u33 : Int), ∀ (n1 : Nat) (s32 : ZS) (x34 : Int), Zj X G 94 [(0, (2, u33)), (1, (0, x34))] [] s32 (lX12_image_94 u33 n1 s32 x34) := by
    intro u33 n1
    induction n1 with
    | zero => intro _ _; exact z_none
    | succ n1 ih1 =>
      intro s32 x34
      rw [lX12_image_94]
      refine z_iload_n (pc := 94) hX 1 dX12_image_94 rfl rfl ?_
      refine z_sipush (pc := 95) hX dX12_image_95 ?_
      refine z_icmp_ge (pc := 98) hX 119 dX12_image_98 (by decide) (fun h35 => ?_) (fun h35 => ?_)
      · refine z_aload_n (pc := 119) hX 0 dX12_image_119 rfl rfl ?_
        refine z_get (pc := 120) hX zc12 8 (by decide) wd1025 rfl rfl dX12_image_120 (fun v36 => ?_)
        exact z_iret (pc := 123) hX hR hk dX12_image_123
      · refine z_aload_n (pc := 101) hX 0 dX12_image_101 rfl rfl ?_
        refine z_get (pc := 102) hX zc12 25 (by decide) wd1042 rfl rfl dX12_image_102 (fun v37 => ?_)
        refine z_iload_n (pc := 105) hX 1 dX12_image_105 rfl rfl ?_
        refine z_aload_n (pc := 106) hX 0 dX12_image_106 rfl rfl ?_
        refine z_get (pc := 107) hX zc12 11 (by decide) wd1028 rfl rfl dX12_image_107 (fun v38 => ?_)
        refine z_iload_n (pc := 110) hX 1 dX12_image_110 rfl rfl ?_
        refine z_iald (pc := 111) hX dX12_image_111 (fun v39 => ?_)
        refine z_iastA (pc := 112) hX dX12_image_112 (fun s40 => ?_)
        refine z_iinc (lv' := [(1, (0, (wrap (x34 + 1)))), (0, (2, u33))]) (pc := 113) hX 1 dX12_image_113 rfl (zlt hxn rfl) rfl ?_
        refine z_goto (pc := 116) hX 94 dX12_image_116 (by decide) ?_
        refine z_pick (lv' := [(0, (2, u33)), (1, (0, (wrap (x34 + 1))))]) [1, 0] rfl ?_
        exact ih1 _ _
  refine z_pick (lv' := [(0, (2, a0)), (1, (0, 0))]) [1, 0] rfl ?_
  refine hl94 _ 1000 _ _
