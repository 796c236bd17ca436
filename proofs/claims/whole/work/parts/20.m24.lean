theorem dX12_names_0 : decode cX12_names 0 = .ok (.aload_n 0, 1) := by decide +kernel
theorem dX12_names_1 : decode cX12_names 1 = .ok (.getfield 112, 3) := by decide +kernel
theorem dX12_names_4 : decode cX12_names 4 = .ok (.iload_n 2, 1) := by decide +kernel
theorem dX12_names_5 : decode cX12_names 5 = .ok (.iaload, 1) := by decide +kernel
theorem dX12_names_6 : decode cX12_names 6 = .ok (.aload_n 0, 1) := by decide +kernel
theorem dX12_names_7 : decode cX12_names 7 = .ok (.getfield 16, 3) := by decide +kernel
theorem dX12_names_10 : decode cX12_names 10 = .ok (.aload_n 0, 1) := by decide +kernel
theorem dX12_names_11 : decode cX12_names 11 = .ok (.getfield 25, 3) := by decide +kernel
theorem dX12_names_14 : decode cX12_names 14 = .ok (.iload_n 2, 1) := by decide +kernel
theorem dX12_names_15 : decode cX12_names 15 = .ok (.iaload, 1) := by decide +kernel
theorem dX12_names_16 : decode cX12_names 16 = .ok (.iaload, 1) := by decide +kernel
theorem dX12_names_17 : decode cX12_names 17 = .ok (.isub, 1) := by decide +kernel
theorem dX12_names_18 : decode cX12_names 18 = .ok (.istore_n 3, 1) := by decide +kernel
theorem dX12_names_19 : decode cX12_names 19 = .ok (.aload_n 0, 1) := by decide +kernel
theorem dX12_names_20 : decode cX12_names 20 = .ok (.getfield 103, 3) := by decide +kernel
theorem dX12_names_23 : decode cX12_names 23 = .ok (.iconst 0, 1) := by decide +kernel
theorem dX12_names_24 : decode cX12_names 24 = .ok (.aload_n 0, 1) := by decide +kernel
theorem dX12_names_25 : decode cX12_names 25 = .ok (.getfield 112, 3) := by decide +kernel
theorem dX12_names_28 : decode cX12_names 28 = .ok (.iload_n 2, 1) := by decide +kernel
theorem dX12_names_29 : decode cX12_names 29 = .ok (.iaload, 1) := by decide +kernel
theorem dX12_names_30 : decode cX12_names 30 = .ok (.aload_n 0, 1) := by decide +kernel
theorem dX12_names_31 : decode cX12_names 31 = .ok (.getfield 109, 3) := by decide +kernel
theorem dX12_names_34 : decode cX12_names 34 = .ok (.iload_n 2, 1) := by decide +kernel
theorem dX12_names_35 : decode cX12_names 35 = .ok (.iaload, 1) := by decide +kernel
theorem dX12_names_36 : decode cX12_names 36 = .ok (.isub, 1) := by decide +kernel
theorem dX12_names_37 : decode cX12_names 37 = .ok (.iastore, 1) := by decide +kernel
theorem dX12_names_38 : decode cX12_names 38 = .ok (.aload_n 0, 1) := by decide +kernel
theorem dX12_names_39 : decode cX12_names 39 = .ok (.getfield 103, 3) := by decide +kernel
theorem dX12_names_42 : decode cX12_names 42 = .ok (.iconst 1, 1) := by decide +kernel
theorem dX12_names_43 : decode cX12_names 43 = .ok (.iload_n 3, 1) := by decide +kernel
theorem dX12_names_44 : decode cX12_names 44 = .ok (.ifCond .ge 8, 3) := by decide +kernel
theorem dX12_names_47 : decode cX12_names 47 = .ok (.iload_n 3, 1) := by decide +kernel
theorem dX12_names_48 : decode cX12_names 48 = .ok (.ineg, 1) := by decide +kernel
theorem dX12_names_49 : decode cX12_names 49 = .ok (.goto 4, 3) := by decide +kernel
theorem dX12_names_52 : decode cX12_names 52 = .ok (.iconst 0, 1) := by decide +kernel
theorem dX12_names_53 : decode cX12_names 53 = .ok (.iastore, 1) := by decide +kernel
theorem dX12_names_54 : decode cX12_names 54 = .ok (.aload_n 0, 1) := by decide +kernel
theorem dX12_names_55 : decode cX12_names 55 = .ok (.getfield 103, 3) := by decide +kernel
theorem dX12_names_58 : decode cX12_names 58 = .ok (.iconst 2, 1) := by decide +kernel
theorem dX12_names_59 : decode cX12_names 59 = .ok (.iload_n 3, 1) := by decide +kernel
theorem dX12_names_60 : decode cX12_names 60 = .ok (.ifCond .le 7, 3) := by decide +kernel
theorem dX12_names_63 : decode cX12_names 63 = .ok (.iload_n 3, 1) := by decide +kernel
theorem dX12_names_64 : decode cX12_names 64 = .ok (.goto 4, 3) := by decide +kernel
theorem dX12_names_67 : decode cX12_names 67 = .ok (.iconst 0, 1) := by decide +kernel
theorem dX12_names_68 : decode cX12_names 68 = .ok (.iastore, 1) := by decide +kernel
theorem dX12_names_69 : decode cX12_names 69 = .ok (.aload_n 0, 1) := by decide +kernel
theorem dX12_names_70 : decode cX12_names 70 = .ok (.getfield 103, 3) := by decide +kernel
theorem dX12_names_73 : decode cX12_names 73 = .ok (.iconst 3, 1) := by decide +kernel
theorem dX12_names_74 : decode cX12_names 74 = .ok (.aload_n 0, 1) := by decide +kernel
theorem dX12_names_75 : decode cX12_names 75 = .ok (.getfield 112, 3) := by decide +kernel
theorem dX12_names_78 : decode cX12_names 78 = .ok (.iload_n 2, 1) := by decide +kernel
theorem dX12_names_79 : decode cX12_names 79 = .ok (.iaload, 1) := by decide +kernel
theorem dX12_names_80 : decode cX12_names 80 = .ok (.iastore, 1) := by decide +kernel
theorem dX12_names_81 : decode cX12_names 81 = .ok (.aload_n 0, 1) := by decide +kernel
theorem dX12_names_82 : decode cX12_names 82 = .ok (.getfield 103, 3) := by decide +kernel
theorem dX12_names_85 : decode cX12_names 85 = .ok (.iconst 4, 1) := by decide +kernel
theorem dX12_names_86 : decode cX12_names 86 = .ok (.aload_n 0, 1) := by decide +kernel
theorem dX12_names_87 : decode cX12_names 87 = .ok (.getfield 25, 3) := by decide +kernel
theorem dX12_names_90 : decode cX12_names 90 = .ok (.iload_n 2, 1) := by decide +kernel
theorem dX12_names_91 : decode cX12_names 91 = .ok (.iaload, 1) := by decide +kernel
theorem dX12_names_92 : decode cX12_names 92 = .ok (.iastore, 1) := by decide +kernel
theorem dX12_names_93 : decode cX12_names 93 = .ok (.aload_n 0, 1) := by decide +kernel
theorem dX12_names_94 : decode cX12_names 94 = .ok (.getfield 103, 3) := by decide +kernel
theorem dX12_names_97 : decode cX12_names 97 = .ok (.iconst 5, 1) := by decide +kernel
theorem dX12_names_98 : decode cX12_names 98 = .ok (.aload_n 0, 1) := by decide +kernel
theorem dX12_names_99 : decode cX12_names 99 = .ok (.iload_n 1, 1) := by decide +kernel
theorem dX12_names_100 : decode cX12_names 100 = .ok (.iload_n 2, 1) := by decide +kernel
theorem dX12_names_101 : decode cX12_names 101 = .ok (.invokevirtual 236, 3) := by decide +kernel
theorem dX12_names_104 : decode cX12_names 104 = .ok (.iastore, 1) := by decide +kernel
theorem dX12_names_105 : decode cX12_names 105 = .ok (.return_, 1) := by decide +kernel
def fX12_names (s0 : ZS) (a0 : Int) (a1 : Int) (a2 : Int) : Option (Int × ZS) := (zg s0 12 a0 42).bind (fun v1 => (zal s0 100 v1 a2).bind (fun v2 => (zg s0 12 a0 3).bind (fun v3 => (zg s0 12 a0 7).bind (fun v4 => (zal s0 100 v4 a2).bind (fun v5 => (zal s0 100 v3 v5).bind (fun v6 => (zg s0 12 a0 39).bind (fun v7 => (zg s0 12 a0 42).bind (fun v8 => (zal s0 100 v8 a2).bind (fun v9 => (zg s0 12 a0 41).bind (fun v10 => (zal s0 100 v10 a2).bind (fun v11 => (zas s0 100 v7 0 (wrap (v9 - v11))).bind (fun s12 => (zg s12 12 a0 39).bind (fun v13 => zjn (fun (K53 : ZS → Int → Option (Int × ZS)) => if 0 ≤ (wrap (v2 - v6)) then (K53 s12 0) else (K53 s12 (wrap (-(wrap (v2 - v6)))))) (fun (s15 : ZS) (w16 : Int) => (zas s15 100 v13 1 w16).bind (fun s17 => (zg s17 12 a0 39).bind (fun v18 => zjn (fun (K68 : ZS → Int → Option (Int × ZS)) => if (wrap (v2 - v6)) ≤ 0 then (K68 s17 0) else (K68 s17 (wrap (v2 - v6)))) (fun (s20 : ZS) (w21 : Int) => (zas s20 100 v18 2 w21).bind (fun s22 => (zg s22 12 a0 39).bind (fun v23 => (zg s22 12 a0 42).bind (fun v24 => (zal s22 100 v24 a2).bind (fun v25 => (zas s22 100 v23 3 v25).bind (fun s26 => (zg s26 12 a0 39).bind (fun v27 => (zg s26 12 a0 7).bind (fun v28 => (zal s26 100 v28 a2).bind (fun v29 => (zas s26 100 v27 4 v29).bind (fun s30 => (zg s30 12 a0 39).bind (fun v31 => zb (zv s30 12 a0 (fX12_paid s30 a0 a1 a2)) (fun v32 s33 => (zas s33 100 v31 5 v32).bind (fun s35 => some (0, s35))))))))))))))))))))))))))))))
set_option maxHeartbeats 4000000 in
set_option maxRecDepth 100000 in
theorem mX12_names (E : ZE) (hE : zOkE E) (l : Launch) (s0 : ZS) (a0 : Int) (a1 : Int) (a2 : Int) : Ct E l yX12_names cX12_names 4 none 4 [(2, a0), (0, a1), (0, a2)] 0 s0 (fX12_names s0 a0 a1 a2) := by
  refine Ct.of (by decide) hE (Nat.le_of_ble_eq_true rfl) ?_
  intro X G hX hR hN hXE hXl hxn hk _
  subst hXE
  subst hXl
  have hX : G → ZOk X cX12_names RX12 4 := hX
  clear hN
  show Zj X G 0 [(0, (2, a0)), (1, (0, a1)), (2, (0, a2))] [] s0 _
  unfold fX12_names
  refine z_aload_n (pc := 0) hX 0 dX12_names_0 rfl rfl ?_
  refine z_get (pc := 1) hX zc12 42 (by decide) wd1059 rfl rfl dX12_names_1 (fun v1 => ?_)
  refine z_iload_n (pc := 4) hX 2 dX12_names_4 rfl rfl ?_
  refine z_iald (pc := 5) hX dX12_names_5 (fun v2 => ?_)
  refine z_aload_n (pc := 6) hX 0 dX12_names_6 rfl rfl ?_
  refine z_get (pc := 7) hX zc12 3 (by decide) wd1020 rfl rfl dX12_names_7 (fun v3 => ?_)
  refine z_aload_n (pc := 10) hX 0 dX12_names_10 rfl rfl ?_
  refine z_get (pc := 11) hX zc12 7 (by decide) wd1024 rfl rfl dX12_names_11 (fun v4 => ?_)
  refine z_iload_n (pc := 14) hX 2 dX12_names_14 rfl rfl ?_
  refine z_iald (pc := 15) hX dX12_names_15 (fun v5 => ?_)
  refine z_iald (pc := 16) hX dX12_names_16 (fun v6 => ?_)
  refine z_isub (pc := 17) hX dX12_names_17 ?_
  refine z_istore_n (lv' := [(3, (0, (wrap (v2 - v6)))), (0, (2, a0)), (1, (0, a1)), (2, (0, a2))]) (pc := 18) hX dX12_names_18 rfl (zlt hxn rfl) rfl ?_
  refine z_aload_n (pc := 19) hX 1 dX12_names_19 rfl rfl ?_
  refine z_get (pc := 20) hX zc12 39 (by decide) wd1056 rfl rfl dX12_names_20 (fun v7 => ?_)
  refine z_iconst (pc := 23) hX dX12_names_23 ?_
  refine z_aload_n (pc := 24) hX 1 dX12_names_24 rfl rfl ?_
  refine z_get (pc := 25) hX zc12 42 (by decide) wd1059 rfl rfl dX12_names_25 (fun v8 => ?_)
  refine z_iload_n (pc := 28) hX 3 dX12_names_28 rfl rfl ?_
  refine z_iald (pc := 29) hX dX12_names_29 (fun v9 => ?_)
  refine z_aload_n (pc := 30) hX 1 dX12_names_30 rfl rfl ?_
  refine z_get (pc := 31) hX zc12 41 (by decide) wd1058 rfl rfl dX12_names_31 (fun v10 => ?_)
  refine z_iload_n (pc := 34) hX 3 dX12_names_34 rfl rfl ?_
  refine z_iald (pc := 35) hX dX12_names_35 (fun v11 => ?_)
  refine z_isub (pc := 36) hX dX12_names_36 ?_
  refine z_iastA (pc := 37) hX dX12_names_37 (fun s12 => ?_)
  refine z_aload_n (pc := 38) hX 1 dX12_names_38 rfl rfl ?_
  refine z_get (pc := 39) hX zc12 39 (by decide) wd1056 rfl rfl dX12_names_39 (fun v13 => ?_)
  refine z_iconst (pc := 42) hX dX12_names_42 ?_
  refine z_iload_n (pc := 43) hX 0 dX12_names_43 rfl rfl ?_
  refine z_jn (fun K53 eK53 => ?_)
  have hK53 : ∀ (s15 : ZS) (w16 : Int), Zj X G 53 [(0, (2, a0)), (1, (0, a1)), (2, (0, a2)), (3, (0, (wrap (v2 - v6))))] [(0, w16), (0, 1), (2, v13)] s15 (K53 s15 w16) := by
    intro s15 w16
    rw [eK53]
    refine z_iastA (pc := 53) hX dX12_names_53 (fun s17 => ?_)
    refine z_aload_n (pc := 54) hX 0 dX12_names_54 rfl rfl ?_
    refine z_get (pc := 55) hX zc12 39 (by decide) wd1056 rfl rfl dX12_names_55 (fun v18 => ?_)
    refine z_iconst (pc := 58) hX dX12_names_58 ?_
    refine z_iload_n (pc := 59) hX 3 dX12_names_59 rfl rfl ?_
    refine z_jn (fun K68 eK68 => ?_)
    have hK68 : ∀ (s20 : ZS) (w21 : Int), Zj X G 68 [(0, (2, a0)), (1, (0, a1)), (2, (0, a2))] [(0, w21), (0, 2), (2, v18)] s20 (K68 s20 w21) := by
      intro s20 w21
      rw [eK68]
      refine z_iastA (pc := 68) hX dX12_names_68 (fun s22 => ?_)
      refine z_aload_n (pc := 69) hX 0 dX12_names_69 rfl rfl ?_
      refine z_get (pc := 70) hX zc12 39 (by decide) wd1056 rfl rfl dX12_names_70 (fun v23 => ?_)
      refine z_iconst (pc := 73) hX dX12_names_73 ?_
      refine z_aload_n (pc := 74) hX 0 dX12_names_74 rfl rfl ?_
      refine z_get (pc := 75) hX zc12 42 (by decide) wd1059 rfl rfl dX12_names_75 (fun v24 => ?_)
      refine z_iload_n (pc := 78) hX 2 dX12_names_78 rfl rfl ?_
      refine z_iald (pc := 79) hX dX12_names_79 (fun v25 => ?_)
      refine z_iastA (pc := 80) hX dX12_names_80 (fun s26 => ?_)
      refine z_aload_n (pc := 81) hX 0 dX12_names_81 rfl rfl ?_
      refine z_get (pc := 82) hX zc12 39 (by decide) wd1056 rfl rfl dX12_names_82 (fun v27 => ?_)
      refine z_iconst (pc := 85) hX dX12_names_85 ?_
      refine z_aload_n (pc := 86) hX 0 dX12_names_86 rfl rfl ?_
      refine z_get (pc := 87) hX zc12 7 (by decide) wd1024 rfl rfl dX12_names_87 (fun v28 => ?_)
      refine z_iload_n (pc := 90) hX 2 dX12_names_90 rfl rfl ?_
      refine z_iald (pc := 91) hX dX12_names_91 (fun v29 => ?_)
      refine z_iastA (pc := 92) hX dX12_names_92 (fun s30 => ?_)
      refine z_aload_n (pc := 93) hX 0 dX12_names_93 rfl rfl ?_
      refine z_get (pc := 94) hX zc12 39 (by decide) wd1056 rfl rfl dX12_names_94 (fun v31 => ?_)
      refine z_iconst (pc := 97) hX dX12_names_97 ?_
      refine z_aload_n (pc := 98) hX 0 dX12_names_98 rfl rfl ?_
      refine z_iload_n (pc := 99) hX 1 dX12_names_99 rfl rfl ?_
      refine z_iload_n (pc := 100) hX 2 dX12_names_100 rfl rfl ?_
      refine z_callV (n := 2) (st := [(0, 5), (2, v31)]) (pc := 101) hX zc12 rfl (fun _ => (mX12_paid _ hE _ _ _ _ _)) ⟨wd1308, wd67, wd1311, ⟨by decide, by decide, by decide⟩, by decide⟩ rfl wd1310 wd50 rfl rfl (by decide) (Nat.le_of_ble_eq_true rfl) dX12_names_101 (fun v32 s33 r34 => ?_)
      show Zj X G 104 [(0, (2, a0)), (1, (0, a1)), (2, (0, a2))] [(0, v32), (0, 5), (2, v31)] _ _
      refine z_iastA (pc := 104) hX dX12_names_104 (fun s35 => ?_)
      exact z_vret (pc := 105) hX hR hk dX12_names_105
    clear eK68
    refine z_if_le (pc := 60) hX 67 dX12_names_60 (by decide) (fun h19 => ?_) (fun h19 => ?_)
    · refine z_iconst (pc := 67) hX dX12_names_67 ?_
      refine z_pick (lv' := [(0, (2, a0)), (1, (0, a1)), (2, (0, a2))]) [0, 1, 2] rfl ?_
      exact hK68 _ _
    · refine z_iload_n (pc := 63) hX 3 dX12_names_63 rfl rfl ?_
      refine z_goto (pc := 64) hX 68 dX12_names_64 (by decide) ?_
      refine z_pick (lv' := [(0, (2, a0)), (1, (0, a1)), (2, (0, a2))]) [0, 1, 2] rfl ?_
      exact hK68 _ _
  clear eK53
  refine z_if_ge (pc := 44) hX 52 dX12_names_44 (by decide) (fun h14 => ?_) (fun h14 => ?_)
  · refine z_iconst (pc := 52) hX dX12_names_52 ?_
    refine z_pick (lv' := [(0, (2, a0)), (1, (0, a1)), (2, (0, a2)), (3, (0, (wrap (v2 - v6))))]) [1, 2, 3, 0] rfl ?_
    exact hK53 _ _
  · refine z_iload_n (pc := 47) hX 0 dX12_names_47 rfl rfl ?_
    refine z_ineg (pc := 48) hX dX12_names_48 ?_
    refine z_goto (pc := 49) hX 53 dX12_names_49 (by decide) ?_
    refine z_pick (lv' := [(0, (2, a0)), (1, (0, a1)), (2, (0, a2)), (3, (0, (wrap (v2 - v6))))]) [1, 2, 3, 0] rfl ?_
    exact hK53 _ _

theorem dX12_two_0 : decode cX12_two 0 = .ok (.iload_n 0, 1) := by decide +kernel
theorem dX12_two_1 : decode cX12_two 1 = .ok (.tableswitch 101 11 17 #[43, 57, 101, 71, 82, 93, 97], 43) := by decide +kernel
theorem dX12_two_44 : decode cX12_two 44 = .ok (.iload_n 1, 1) := by decide +kernel
theorem dX12_two_45 : decode cX12_two 45 = .ok (.ifCond .ne 7, 3) := by decide +kernel
theorem dX12_two_48 : decode cX12_two 48 = .ok (.iload_n 2, 1) := by decide +kernel
theorem dX12_two_49 : decode cX12_two 49 = .ok (.ifCond .eq 7, 3) := by decide +kernel
theorem dX12_two_52 : decode cX12_two 52 = .ok (.iconst 1, 1) := by decide +kernel
theorem dX12_two_53 : decode cX12_two 53 = .ok (.goto 4, 3) := by decide +kernel
theorem dX12_two_56 : decode cX12_two 56 = .ok (.iconst 0, 1) := by decide +kernel
theorem dX12_two_57 : decode cX12_two 57 = .ok (.ireturn, 1) := by decide +kernel
theorem dX12_two_58 : decode cX12_two 58 = .ok (.iload_n 1, 1) := by decide +kernel
theorem dX12_two_59 : decode cX12_two 59 = .ok (.ifCond .eq 11, 3) := by decide +kernel
theorem dX12_two_62 : decode cX12_two 62 = .ok (.iload_n 2, 1) := by decide +kernel
theorem dX12_two_63 : decode cX12_two 63 = .ok (.ifCond .eq 7, 3) := by decide +kernel
theorem dX12_two_66 : decode cX12_two 66 = .ok (.iconst 1, 1) := by decide +kernel
theorem dX12_two_67 : decode cX12_two 67 = .ok (.goto 4, 3) := by decide +kernel
theorem dX12_two_70 : decode cX12_two 70 = .ok (.iconst 0, 1) := by decide +kernel
theorem dX12_two_71 : decode cX12_two 71 = .ok (.ireturn, 1) := by decide +kernel
theorem dX12_two_72 : decode cX12_two 72 = .ok (.iload_n 1, 1) := by decide +kernel
theorem dX12_two_73 : decode cX12_two 73 = .ok (.iload_n 2, 1) := by decide +kernel
theorem dX12_two_74 : decode cX12_two 74 = .ok (.if_icmp .ge 7, 3) := by decide +kernel
theorem dX12_two_77 : decode cX12_two 77 = .ok (.iconst 1, 1) := by decide +kernel
theorem dX12_two_78 : decode cX12_two 78 = .ok (.goto 4, 3) := by decide +kernel
theorem dX12_two_81 : decode cX12_two 81 = .ok (.iconst 0, 1) := by decide +kernel
theorem dX12_two_82 : decode cX12_two 82 = .ok (.ireturn, 1) := by decide +kernel
theorem dX12_two_83 : decode cX12_two 83 = .ok (.iload_n 1, 1) := by decide +kernel
theorem dX12_two_84 : decode cX12_two 84 = .ok (.iload_n 2, 1) := by decide +kernel
theorem dX12_two_85 : decode cX12_two 85 = .ok (.if_icmp .ne 7, 3) := by decide +kernel
theorem dX12_two_88 : decode cX12_two 88 = .ok (.iconst 1, 1) := by decide +kernel
theorem dX12_two_89 : decode cX12_two 89 = .ok (.goto 4, 3) := by decide +kernel
theorem dX12_two_92 : decode cX12_two 92 = .ok (.iconst 0, 1) := by decide +kernel
theorem dX12_two_93 : decode cX12_two 93 = .ok (.ireturn, 1) := by decide +kernel
theorem dX12_two_94 : decode cX12_two 94 = .ok (.iload_n 1, 1) := by decide +kernel
theorem dX12_two_95 : decode cX12_two 95 = .ok (.iload_n 2, 1) := by decide +kernel
theorem dX12_two_96 : decode cX12_two 96 = .ok (.iadd, 1) := by decide +kernel
theorem dX12_two_97 : decode cX12_two 97 = .ok (.ireturn, 1) := by decide +kernel
theorem dX12_two_98 : decode cX12_two 98 = .ok (.iload_n 1, 1) := by decide +kernel
theorem dX12_two_99 : decode cX12_two 99 = .ok (.iload_n 2, 1) := by decide +kernel
theorem dX12_two_100 : decode cX12_two 100 = .ok (.isub, 1) := by decide +kernel
theorem dX12_two_101 : decode cX12_two 101 = .ok (.ireturn, 1) := by decide +kernel
theorem dX12_two_102 : decode cX12_two 102 = .ok (.iload_n 1, 1) := by decide +kernel
theorem dX12_two_103 : decode cX12_two 103 = .ok (.iload_n 2, 1) := by decide +kernel
theorem dX12_two_104 : decode cX12_two 104 = .ok (.imul, 1) := by decide +kernel
theorem dX12_two_105 : decode cX12_two 105 = .ok (.ireturn, 1) := by decide +kernel
def fX12_two (s0 : ZS) (a0 : Int) (a1 : Int) (a2 : Int) : Option (Int × ZS) := if a0 = 11 then (zjn (fun (K52 : ZS → Option (Int × ZS)) => if a1 = 0 then (if a2 = 0 then (some (0, s0)) else (K52 s0)) else (K52 s0)) (fun (s4 : ZS) => some (1, s4))) else (if a0 = 12 then (if a1 = 0 then (some (0, s0)) else (if a2 = 0 then (some (0, s0)) else (some (1, s0)))) else (if a0 = 13 then (some ((wrap (a1 * a2)), s0)) else (if a0 = 14 then (if a2 ≤ a1 then (some (0, s0)) else (some (1, s0))) else (if a0 = 15 then (if a1 = a2 then (some (1, s0)) else (some (0, s0))) else (if a0 = 16 then (some ((wrap (a1 + a2)), s0)) else (if a0 = 17 then (some ((wrap (a1 - a2)), s0)) else (some ((wrap (a1 * a2)), s0))))))))
set_option maxHeartbeats 4000000 in
set_option maxRecDepth 100000 in
theorem mX12_two (E : ZE) (hE : zOkE E) (l : Launch) (s0 : ZS) (a0 : Int) (a1 : Int) (a2 : Int) : Ct E l yX12_two cX12_two 3 (some .int) 2 [(0, a0), (0, a1), (0, a2)] 1 s0 (fX12_two s0 a0 a1 a2) := by
  refine Ct.of (by decide) hE (Nat.le_of_ble_eq_true rfl) ?_
  intro X G hX hR hN hXE hXl hxn hk _
  subst hXE
  subst hXl
  have hX : G → ZOk X cX12_two RX12 2 := hX
  clear hN
  show Zj X G 0 [(0, (0, a0)), (1, (0, a1)), (2, (0, a2))] [] s0 _
  unfold fX12_two
  refine z_iload_n (pc := 0) hX 0 dX12_two_0 rfl rfl ?_
  by_cases h1 : a0 = 11
  · refine z_eq (if_pos h1) ?_
    refine z_tswIn (pc := 1) hX 44 dX12_two_1 h1 (by decide) (by decide) rfl (by decide) ?_
    refine z_iload_n (pc := 44) hX 1 dX12_two_44 rfl rfl ?_
    refine z_jn (fun K52 eK52 => ?_)
    have hK52 : ∀ (s4 : ZS), Zj X G 52 [] [] s4 (K52 s4) := by
      intro s4
      rw [eK52]
      refine z_iconst (pc := 52) hX dX12_two_52 ?_
      refine z_goto (pc := 53) hX 57 dX12_two_53 (by decide) ?_
      exact z_iret (pc := 57) hX hR hk dX12_two_57
    clear eK52
    refine z_if_ne (pc := 45) hX 52 dX12_two_45 (by decide) (fun h2 => ?_) (fun h2 => ?_)
    · refine z_pick (lv' := []) [] rfl ?_
      exact hK52 _
    · refine z_iload_n (pc := 48) hX 2 dX12_two_48 rfl rfl ?_
      refine z_if_eq (pc := 49) hX 56 dX12_two_49 (by decide) (fun h3 => ?_) (fun h3 => ?_)
      · refine z_iconst (pc := 56) hX dX12_two_56 ?_
        exact z_iret (pc := 57) hX hR hk dX12_two_57
      · refine z_pick (lv' := []) [] rfl ?_
        exact hK52 _
  · refine z_eq (if_neg h1) ?_
    by_cases h5 : a0 = 12
    · refine z_eq (if_pos h5) ?_
      refine z_tswIn (pc := 1) hX 58 dX12_two_1 h5 (by decide) (by decide) rfl (by decide) ?_
      refine z_iload_n (pc := 58) hX 1 dX12_two_58 rfl rfl ?_
      refine z_if_eq (pc := 59) hX 70 dX12_two_59 (by decide) (fun h6 => ?_) (fun h6 => ?_)
      · refine z_iconst (pc := 70) hX dX12_two_70 ?_
        exact z_iret (pc := 71) hX hR hk dX12_two_71
      · refine z_iload_n (pc := 62) hX 2 dX12_two_62 rfl rfl ?_
        refine z_if_eq (pc := 63) hX 70 dX12_two_63 (by decide) (fun h7 => ?_) (fun h7 => ?_)
        · refine z_iconst (pc := 70) hX dX12_two_70 ?_
          exact z_iret (pc := 71) hX hR hk dX12_two_71
        · refine z_iconst (pc := 66) hX dX12_two_66 ?_
          refine z_goto (pc := 67) hX 71 dX12_two_67 (by decide) ?_
          exact z_iret (pc := 71) hX hR hk dX12_two_71
    · refine z_eq (if_neg h5) ?_
      by_cases h8 : a0 = 13
      · refine z_eq (if_pos h8) ?_
        refine z_tswIn (pc := 1) hX 102 dX12_two_1 h8 (by decide) (by decide) rfl (by decide) ?_
        refine z_iload_n (pc := 102) hX 1 dX12_two_102 rfl rfl ?_
        refine z_iload_n (pc := 103) hX 2 dX12_two_103 rfl rfl ?_
        refine z_imul (pc := 104) hX dX12_two_104 ?_
        exact z_iret (pc := 105) hX hR hk dX12_two_105
      · refine z_eq (if_neg h8) ?_
        by_cases h9 : a0 = 14
        · refine z_eq (if_pos h9) ?_
          refine z_tswIn (pc := 1) hX 72 dX12_two_1 h9 (by decide) (by decide) rfl (by decide) ?_
          refine z_iload_n (pc := 72) hX 1 dX12_two_72 rfl rfl ?_
          refine z_iload_n (pc := 73) hX 2 dX12_two_73 rfl rfl ?_
          refine z_icmp_ge (pc := 74) hX 81 dX12_two_74 (by decide) (fun h10 => ?_) (fun h10 => ?_)
          · refine z_iconst (pc := 81) hX dX12_two_81 ?_
            exact z_iret (pc := 82) hX hR hk dX12_two_82
          · refine z_iconst (pc := 77) hX dX12_two_77 ?_
            refine z_goto (pc := 78) hX 82 dX12_two_78 (by decide) ?_
            exact z_iret (pc := 82) hX hR hk dX12_two_82
        · refine z_eq (if_neg h9) ?_
          by_cases h11 : a0 = 15
          · refine z_eq (if_pos h11) ?_
            refine z_tswIn (pc := 1) hX 83 dX12_two_1 h11 (by decide) (by decide) rfl (by decide) ?_
            refine z_iload_n (pc := 83) hX 1 dX12_two_83 rfl rfl ?_
            refine z_iload_n (pc := 84) hX 2 dX12_two_84 rfl rfl ?_
            refine z_icmp_ne (pc := 85) hX 92 dX12_two_85 (by decide) (fun h12 => ?_) (fun h12 => ?_)
            · refine z_iconst (pc := 92) hX dX12_two_92 ?_
              exact z_iret (pc := 93) hX hR hk dX12_two_93
            · refine z_iconst (pc := 88) hX dX12_two_88 ?_
              refine z_goto (pc := 89) hX 93 dX12_two_89 (by decide) ?_
              exact z_iret (pc := 93) hX hR hk dX12_two_93
          · refine z_eq (if_neg h11) ?_
            by_cases h13 : a0 = 16
            · refine z_eq (if_pos h13) ?_
              refine z_tswIn (pc := 1) hX 94 dX12_two_1 h13 (by decide) (by decide) rfl (by decide) ?_
              refine z_iload_n (pc := 94) hX 1 dX12_two_94 rfl rfl ?_
              refine z_iload_n (pc := 95) hX 2 dX12_two_95 rfl rfl ?_
              refine z_iadd (pc := 96) hX dX12_two_96 ?_
              exact z_iret (pc := 97) hX hR hk dX12_two_97
            · refine z_eq (if_neg h13) ?_
              by_cases h14 : a0 = 17
              · refine z_eq (if_pos h14) ?_
                refine z_tswIn (pc := 1) hX 98 dX12_two_1 h14 (by decide) (by decide) rfl (by decide) ?_
                refine z_iload_n (pc := 98) hX 1 dX12_two_98 rfl rfl ?_
                refine z_iload_n (pc := 99) hX 2 dX12_two_99 rfl rfl ?_
                refine z_isub (pc := 100) hX dX12_two_100 ?_
                exact z_iret (pc := 101) hX hR hk dX12_two_101
              · refine z_eq (if_neg h14) ?_
                refine z_tswOut (pc := 1) hX 102 dX12_two_1 (by omega) (by decide) ?_
                refine z_iload_n (pc := 102) hX 1 dX12_two_102 rfl rfl ?_
                refine z_iload_n (pc := 103) hX 2 dX12_two_103 rfl rfl ?_
                refine z_imul (pc := 104) hX dX12_two_104 ?_
                exact z_iret (pc := 105) hX hR hk dX12_two_105
