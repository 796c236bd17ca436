theorem dX2_letPass_0 : decode cX2_letPass 0 = .ok (.iload_n 3, 1) := by decide +kernel
theorem dX2_letPass_1 : decode cX2_letPass 1 = .ok (.istore 4, 2) := by decide +kernel
theorem dX2_letPass_3 : decode cX2_letPass 3 = .ok (.iconst 0, 1) := by decide +kernel
theorem dX2_letPass_4 : decode cX2_letPass 4 = .ok (.istore 5, 2) := by decide +kernel
theorem dX2_letPass_6 : decode cX2_letPass 6 = .ok (.iload 5, 2) := by decide +kernel
theorem dX2_letPass_8 : decode cX2_letPass 8 = .ok (.aload_n 0, 1) := by decide +kernel
theorem dX2_letPass_9 : decode cX2_letPass 9 = .ok (.getfield 12, 3) := by decide +kernel
theorem dX2_letPass_12 : decode cX2_letPass 12 = .ok (.getfield 62, 3) := by decide +kernel
theorem dX2_letPass_15 : decode cX2_letPass 15 = .ok (.iload_n 1, 1) := by decide +kernel
theorem dX2_letPass_16 : decode cX2_letPass 16 = .ok (.aaload, 1) := by decide +kernel
theorem dX2_letPass_17 : decode cX2_letPass 17 = .ok (.iload_n 2, 1) := by decide +kernel
theorem dX2_letPass_18 : decode cX2_letPass 18 = .ok (.iaload, 1) := by decide +kernel
theorem dX2_letPass_19 : decode cX2_letPass 19 = .ok (.if_icmp .ge 72, 3) := by decide +kernel
theorem dX2_letPass_22 : decode cX2_letPass 22 = .ok (.iload 4, 2) := by decide +kernel
theorem dX2_letPass_24 : decode cX2_letPass 24 = .ok (.ifCond .eq 67, 3) := by decide +kernel
theorem dX2_letPass_27 : decode cX2_letPass 27 = .ok (.aload_n 0, 1) := by decide +kernel
theorem dX2_letPass_28 : decode cX2_letPass 28 = .ok (.getfield 34, 3) := by decide +kernel
theorem dX2_letPass_31 : decode cX2_letPass 31 = .ok (.iload_n 1, 1) := by decide +kernel
theorem dX2_letPass_32 : decode cX2_letPass 32 = .ok (.aaload, 1) := by decide +kernel
theorem dX2_letPass_33 : decode cX2_letPass 33 = .ok (.iload 4, 2) := by decide +kernel
theorem dX2_letPass_35 : decode cX2_letPass 35 = .ok (.iload 4, 2) := by decide +kernel
theorem dX2_letPass_37 : decode cX2_letPass 37 = .ok (.ineg, 1) := by decide +kernel
theorem dX2_letPass_38 : decode cX2_letPass 38 = .ok (.iand, 1) := by decide +kernel
theorem dX2_letPass_39 : decode cX2_letPass 39 = .ok (.iconst 1, 1) := by decide +kernel
theorem dX2_letPass_40 : decode cX2_letPass 40 = .ok (.isub, 1) := by decide +kernel
theorem dX2_letPass_41 : decode cX2_letPass 41 = .ok (.invokestatic 65, 3) := by decide +kernel
theorem dX2_letPass_44 : decode cX2_letPass 44 = .ok (.iaload, 1) := by decide +kernel
theorem dX2_letPass_45 : decode cX2_letPass 45 = .ok (.istore 6, 2) := by decide +kernel
theorem dX2_letPass_47 : decode cX2_letPass 47 = .ok (.iload 4, 2) := by decide +kernel
theorem dX2_letPass_49 : decode cX2_letPass 49 = .ok (.iload 4, 2) := by decide +kernel
theorem dX2_letPass_51 : decode cX2_letPass 51 = .ok (.iconst 1, 1) := by decide +kernel
theorem dX2_letPass_52 : decode cX2_letPass 52 = .ok (.isub, 1) := by decide +kernel
theorem dX2_letPass_53 : decode cX2_letPass 53 = .ok (.iand, 1) := by decide +kernel
theorem dX2_letPass_54 : decode cX2_letPass 54 = .ok (.istore 4, 2) := by decide +kernel
theorem dX2_letPass_56 : decode cX2_letPass 56 = .ok (.aload_n 0, 1) := by decide +kernel
theorem dX2_letPass_57 : decode cX2_letPass 57 = .ok (.getfield 22, 3) := by decide +kernel
theorem dX2_letPass_60 : decode cX2_letPass 60 = .ok (.iload 6, 2) := by decide +kernel
theorem dX2_letPass_62 : decode cX2_letPass 62 = .ok (.iload_n 2, 1) := by decide +kernel
theorem dX2_letPass_63 : decode cX2_letPass 63 = .ok (.iastore, 1) := by decide +kernel
theorem dX2_letPass_64 : decode cX2_letPass 64 = .ok (.aload_n 0, 1) := by decide +kernel
theorem dX2_letPass_65 : decode cX2_letPass 65 = .ok (.getfield 25, 3) := by decide +kernel
theorem dX2_letPass_68 : decode cX2_letPass 68 = .ok (.aload_n 0, 1) := by decide +kernel
theorem dX2_letPass_69 : decode cX2_letPass 69 = .ok (.getfield 28, 3) := by decide +kernel
theorem dX2_letPass_72 : decode cX2_letPass 72 = .ok (.iload 6, 2) := by decide +kernel
theorem dX2_letPass_74 : decode cX2_letPass 74 = .ok (.iastore, 1) := by decide +kernel
theorem dX2_letPass_75 : decode cX2_letPass 75 = .ok (.aload_n 0, 1) := by decide +kernel
theorem dX2_letPass_76 : decode cX2_letPass 76 = .ok (.dup, 1) := by decide +kernel
theorem dX2_letPass_77 : decode cX2_letPass 77 = .ok (.getfield 28, 3) := by decide +kernel
theorem dX2_letPass_80 : decode cX2_letPass 80 = .ok (.iconst 1, 1) := by decide +kernel
theorem dX2_letPass_81 : decode cX2_letPass 81 = .ok (.iadd, 1) := by decide +kernel
theorem dX2_letPass_82 : decode cX2_letPass 82 = .ok (.putfield 28, 3) := by decide +kernel
theorem dX2_letPass_85 : decode cX2_letPass 85 = .ok (.iinc 5 1, 3) := by decide +kernel
theorem dX2_letPass_88 : decode cX2_letPass 88 = .ok (.goto (-82), 3) := by decide +kernel
theorem dX2_letPass_91 : decode cX2_letPass 91 = .ok (.iload 4, 2) := by decide +kernel
theorem dX2_letPass_93 : decode cX2_letPass 93 = .ok (.ireturn, 1) := by decide +kernel
def lX2_letPass_6 (u2 u3 u4 : Int)  : Nat → ZS → Int → Int → Option (Int × ZS)
  | 0, _, _, _ => none
  | n1 + 1, s1, x5, x6 => (zg s1 2 u2 0).bind (fun v7 => (zg s1 5 v7 0).bind (fun v8 => (zal s1 102 v8 u3).bind (fun v9 => (zal s1 100 v9 u4).bind (fun v10 => if v10 ≤ x6 then (some (x5, s1)) else (if x5 = 0 then (some (x5, s1)) else ((zg s1 2 u2 5).bind (fun v13 => (zal s1 102 v13 u3).bind (fun v14 => zb (fJ6_bitCount_0f7a4 s1 (wrap ((iAnd x5 (wrap (-x5))) - 1))) (fun v15 s16 => (zal s16 100 v14 v15).bind (fun v18 => (zg s16 2 u2 2).bind (fun v19 => (zas s16 100 v19 v18 u4).bind (fun s20 => (zg s20 2 u2 3).bind (fun v21 => (zg s20 2 u2 4).bind (fun v22 => (zas s20 100 v21 v22 v18).bind (fun s23 => (zg s23 2 u2 4).bind (fun v24 => (zp s23 2 u2 4 (wrap (v24 + 1))).bind (fun s25 => lX2_letPass_6 u2 u3 u4 n1 s25 (iAnd x5 (wrap (x5 - 1))) (wrap (x6 + 1)))))))))))))))))))

def fX2_letPass (s0 : ZS) (a0 : Int) (a1 : Int) (a2 : Int) (a3 : Int) : Option (Int × ZS) := lX2_letPass_6 a0 a1 a2 1000 s0 a3 0
set_option maxHeartbeats 4000000 in
set_option maxRecDepth 100000 in
theorem mX2_letPass (E : ZE) (hE : zOkE E) (l : Launch) (s0 : ZS) (a0 : Int) (a1 : Int) (a2 : Int) (a3 : Int) : Ct E l yX2_letPass cX2_letPass 7 (some .int) 4 [(2, a0), (0, a1), (0, a2), (0, a3)] 1 s0 (fX2_letPass s0 a0 a1 a2 a3) := by
  refine Ct.of (by decide) hE (Nat.le_of_ble_eq_true rfl) ?_
  intro X G hX hR hN hXE hXl hxn hk _
  subst hXE
  subst hXl
  have hX : G → ZOk X cX2_letPass RX2 4 := hX
  clear hN
  show Zj X G 0 [(0, (2, a0)), (1, (0, a1)), (2, (0, a2)), (3, (0, a3))] [] s0 _
  unfold fX2_letPass
  refine z_iload_n (pc := 0) hX 3 dX2_letPass_0 rfl rfl ?_
  refine z_istore (lv' := [(4, (0, a3)), (0, (2, a0)), (1, (0, a1)), (2, (0, a2)), (3, (0, a3))]) (pc := 1) hX dX2_letPass_1 (zlt hxn rfl) rfl ?_
  refine z_iconst (pc := 3) hX dX2_letPass_3 ?_
  refine z_istore (lv' := [(5, (0, 0)), (4, (0, a3)), (0, (2, a0)), (1, (0, a1)), (2, (0, a2)), (3, (0, a3))]) (pc := 4) hX dX2_letPass_4 (zlt hxn rfl) rfl ?_
  have hl6 : ∀ (u2 u3 u4 : Int), ∀ (n1 : Nat) (s1 : ZS) (x5 x6 : Int), Zj X G 6 [(0, (2, u2)), (1, (0, u3)), (2, (0, u4)), (4, (0, x5)), (5, (0, x6))] [] s1 (lX2_letPass_6 u2 u3 u4 n1 s1 x5 x6) := by
    intro u2 u3 u4 n1
    induction n1 with
    | zero => intro _ _ _; exact z_none
    | succ n1 ih1 =>
      intro s1 x5 x6
      rw [lX2_letPass_6]
      refine z_iload (pc := 6) hX 4 dX2_letPass_6 rfl ?_
      refine z_aload_n (pc := 8) hX 0 dX2_letPass_8 rfl rfl ?_
      refine z_get (pc := 9) hX zc2 0 (by decide) wd151 rfl rfl dX2_letPass_9 (fun v7 => ?_)
      refine z_get (pc := 12) hX zc5 0 (by decide) wd107 rfl rfl dX2_letPass_12 (fun v8 => ?_)
      refine z_iload_n (pc := 15) hX 1 dX2_letPass_15 rfl rfl ?_
      refine z_aald (pc := 16) hX 2 102 (by decide) rfl rfl dX2_letPass_16 (fun v9 => ?_)
      refine z_iload_n (pc := 17) hX 2 dX2_letPass_17 rfl rfl ?_
      refine z_iald (pc := 18) hX dX2_letPass_18 (fun v10 => ?_)
      refine z_icmp_ge (pc := 19) hX 91 dX2_letPass_19 (by decide) (fun h11 => ?_) (fun h11 => ?_)
      · refine z_iload (pc := 91) hX 3 dX2_letPass_91 rfl ?_
        exact z_iret (pc := 93) hX hR hk dX2_letPass_93
      · refine z_iload (pc := 22) hX 3 dX2_letPass_22 rfl ?_
        refine z_if_eq (pc := 24) hX 91 dX2_letPass_24 (by decide) (fun h12 => ?_) (fun h12 => ?_)
        · refine z_iload (pc := 91) hX 3 dX2_letPass_91 rfl ?_
          exact z_iret (pc := 93) hX hR hk dX2_letPass_93
        · refine z_aload_n (pc := 27) hX 0 dX2_letPass_27 rfl rfl ?_
          refine z_get (pc := 28) hX zc2 5 (by decide) wd161 rfl rfl dX2_letPass_28 (fun v13 => ?_)
          refine z_iload_n (pc := 31) hX 1 dX2_letPass_31 rfl rfl ?_
          refine z_aald (pc := 32) hX 2 102 (by decide) rfl rfl dX2_letPass_32 (fun v14 => ?_)
          refine z_iload (pc := 33) hX 3 dX2_letPass_33 rfl ?_
          refine z_iload (pc := 35) hX 3 dX2_letPass_35 rfl ?_
          refine z_ineg (pc := 37) hX dX2_letPass_37 ?_
          refine z_iand (pc := 38) hX dX2_letPass_38 ?_
          refine z_iconst (pc := 39) hX dX2_letPass_39 ?_
          refine z_isub (pc := 40) hX dX2_letPass_40 ?_
          refine z_callS (n := 1) (st := [(2, v14)]) (pc := 41) hX (mJ6_bitCount_0f7a4 _ hE _ _ _) ⟨wd766, wd82, wd768, ⟨by decide, by decide, by decide⟩, by decide⟩ wd767 rfl rfl (by decide) (Nat.le_of_ble_eq_true rfl) dX2_letPass_41 (fun v15 s16 r17 => ?_)
          show Zj X G 44 [(0, (2, u2)), (1, (0, u3)), (2, (0, u4)), (4, (0, x5)), (5, (0, x6))] [(0, v15), (2, v14)] _ _
          refine z_iald (pc := 44) hX dX2_letPass_44 (fun v18 => ?_)
          refine z_istore (lv' := [(6, (0, v18)), (0, (2, u2)), (1, (0, u3)), (2, (0, u4)), (4, (0, x5)), (5, (0, x6))]) (pc := 45) hX dX2_letPass_45 (zlt hxn rfl) rfl ?_
          refine z_iload (pc := 47) hX 4 dX2_letPass_47 rfl ?_
          refine z_iload (pc := 49) hX 4 dX2_letPass_49 rfl ?_
          refine z_iconst (pc := 51) hX dX2_letPass_51 ?_
          refine z_isub (pc := 52) hX dX2_letPass_52 ?_
          refine z_iand (pc := 53) hX dX2_letPass_53 ?_
          refine z_istore (lv' := [(4, (0, (iAnd x5 (wrap (x5 - 1))))), (6, (0, v18)), (0, (2, u2)), (1, (0, u3)), (2, (0, u4)), (5, (0, x6))]) (pc := 54) hX dX2_letPass_54 (zlt hxn rfl) rfl ?_
          refine z_aload_n (pc := 56) hX 2 dX2_letPass_56 rfl rfl ?_
          refine z_get (pc := 57) hX zc2 2 (by decide) wd155 rfl rfl dX2_letPass_57 (fun v19 => ?_)
          refine z_iload (pc := 60) hX 1 dX2_letPass_60 rfl ?_
          refine z_iload_n (pc := 62) hX 4 dX2_letPass_62 rfl rfl ?_
          refine z_iastA (pc := 63) hX dX2_letPass_63 (fun s20 => ?_)
          refine z_aload_n (pc := 64) hX 2 dX2_letPass_64 rfl rfl ?_
          refine z_get (pc := 65) hX zc2 3 (by decide) wd157 rfl rfl dX2_letPass_65 (fun v21 => ?_)
          refine z_aload_n (pc := 68) hX 2 dX2_letPass_68 rfl rfl ?_
          refine z_get (pc := 69) hX zc2 4 (by decide) wd159 rfl rfl dX2_letPass_69 (fun v22 => ?_)
          refine z_iload (pc := 72) hX 1 dX2_letPass_72 rfl ?_
          refine z_iastA (pc := 74) hX dX2_letPass_74 (fun s23 => ?_)
          refine z_aload_n (pc := 75) hX 2 dX2_letPass_75 rfl rfl ?_
          refine z_dup (pc := 76) hX zn2 dX2_letPass_76 ?_
          refine z_get (pc := 77) hX zc2 4 (by decide) wd159 rfl rfl dX2_letPass_77 (fun v24 => ?_)
          refine z_iconst (pc := 80) hX dX2_letPass_80 ?_
          refine z_iadd (pc := 81) hX dX2_letPass_81 ?_
          refine z_putA (pc := 82) hX zc2 4 (by decide) wd159 (Or.inl rfl) rfl rfl (fun _ => rfl) (fun _ => rfl) dX2_letPass_82 (fun s25 => ?_)
          refine z_iinc (lv' := [(5, (0, (wrap (x6 + 1)))), (4, (0, (iAnd x5 (wrap (x5 - 1))))), (6, (0, v18)), (0, (2, u2)), (1, (0, u3)), (2, (0, u4))]) (pc := 85) hX 5 dX2_letPass_85 rfl (zlt hxn rfl) rfl ?_
          refine z_goto (pc := 88) hX 6 dX2_letPass_88 (by decide) ?_
          refine z_pick (lv' := [(0, (2, u2)), (1, (0, u3)), (2, (0, u4)), (4, (0, (iAnd x5 (wrap (x5 - 1))))), (5, (0, (wrap (x6 + 1))))]) [3, 4, 5, 1, 0] rfl ?_
          exact ih1 _ _ _
  refine z_pick (lv' := [(0, (2, a0)), (1, (0, a1)), (2, (0, a2)), (4, (0, a3)), (5, (0, 0))]) [2, 3, 4, 1, 0] rfl ?_
  refine hl6 _ _ _ 1000 _ _ _

theorem dX2_follow_0 : decode cX2_follow 0 = .ok (.aload_n 0, 1) := by decide +kernel
theorem dX2_follow_1 : decode cX2_follow 1 = .ok (.aload_n 1, 1) := by decide +kernel
theorem dX2_follow_2 : decode cX2_follow 2 = .ok (.iconst (-1), 1) := by decide +kernel
theorem dX2_follow_3 : decode cX2_follow 3 = .ok (.invokevirtual 54, 3) := by decide +kernel
theorem dX2_follow_6 : decode cX2_follow 6 = .ok (.aload_n 0, 1) := by decide +kernel
theorem dX2_follow_7 : decode cX2_follow 7 = .ok (.iconst 0, 1) := by decide +kernel
theorem dX2_follow_8 : decode cX2_follow 8 = .ok (.putfield 28, 3) := by decide +kernel
theorem dX2_follow_11 : decode cX2_follow 11 = .ok (.iconst 0, 1) := by decide +kernel
theorem dX2_follow_12 : decode cX2_follow 12 = .ok (.istore_n 2, 1) := by decide +kernel
theorem dX2_follow_13 : decode cX2_follow 13 = .ok (.iload_n 2, 1) := by decide +kernel
theorem dX2_follow_14 : decode cX2_follow 14 = .ok (.bipush 16, 2) := by decide +kernel
theorem dX2_follow_16 : decode cX2_follow 16 = .ok (.if_icmp .ge 16, 3) := by decide +kernel
theorem dX2_follow_19 : decode cX2_follow 19 = .ok (.aload_n 0, 1) := by decide +kernel
theorem dX2_follow_20 : decode cX2_follow 20 = .ok (.getfield 22, 3) := by decide +kernel
theorem dX2_follow_23 : decode cX2_follow 23 = .ok (.iload_n 2, 1) := by decide +kernel
theorem dX2_follow_24 : decode cX2_follow 24 = .ok (.iconst (-1), 1) := by decide +kernel
theorem dX2_follow_25 : decode cX2_follow 25 = .ok (.iastore, 1) := by decide +kernel
theorem dX2_follow_26 : decode cX2_follow 26 = .ok (.iinc 2 1, 3) := by decide +kernel
theorem dX2_follow_29 : decode cX2_follow 29 = .ok (.goto (-16), 3) := by decide +kernel
theorem dX2_follow_32 : decode cX2_follow 32 = .ok (.iconst 0, 1) := by decide +kernel
theorem dX2_follow_33 : decode cX2_follow 33 = .ok (.istore_n 2, 1) := by decide +kernel
theorem dX2_follow_34 : decode cX2_follow 34 = .ok (.iconst 0, 1) := by decide +kernel
theorem dX2_follow_35 : decode cX2_follow 35 = .ok (.istore_n 3, 1) := by decide +kernel
theorem dX2_follow_36 : decode cX2_follow 36 = .ok (.iconst 0, 1) := by decide +kernel
theorem dX2_follow_37 : decode cX2_follow 37 = .ok (.istore 4, 2) := by decide +kernel
theorem dX2_follow_39 : decode cX2_follow 39 = .ok (.iload 4, 2) := by decide +kernel
theorem dX2_follow_41 : decode cX2_follow 41 = .ok (.bipush 24, 2) := by decide +kernel
theorem dX2_follow_43 : decode cX2_follow 43 = .ok (.if_icmp .ge 47, 3) := by decide +kernel
theorem dX2_follow_46 : decode cX2_follow 46 = .ok (.aload_n 0, 1) := by decide +kernel
theorem dX2_follow_47 : decode cX2_follow 47 = .ok (.iconst 0, 1) := by decide +kernel
theorem dX2_follow_48 : decode cX2_follow 48 = .ok (.iload 4, 2) := by decide +kernel
theorem dX2_follow_50 : decode cX2_follow 50 = .ok (.iload_n 2, 1) := by decide +kernel
theorem dX2_follow_51 : decode cX2_follow 51 = .ok (.aload_n 0, 1) := by decide +kernel
theorem dX2_follow_52 : decode cX2_follow 52 = .ok (.getfield 43, 3) := by decide +kernel
theorem dX2_follow_55 : decode cX2_follow 55 = .ok (.iconst 0, 1) := by decide +kernel
theorem dX2_follow_56 : decode cX2_follow 56 = .ok (.aaload, 1) := by decide +kernel
theorem dX2_follow_57 : decode cX2_follow 57 = .ok (.iload 4, 2) := by decide +kernel
theorem dX2_follow_59 : decode cX2_follow 59 = .ok (.iaload, 1) := by decide +kernel
theorem dX2_follow_60 : decode cX2_follow 60 = .ok (.ior, 1) := by decide +kernel
theorem dX2_follow_61 : decode cX2_follow 61 = .ok (.invokevirtual 58, 3) := by decide +kernel
theorem dX2_follow_64 : decode cX2_follow 64 = .ok (.istore_n 2, 1) := by decide +kernel
theorem dX2_follow_65 : decode cX2_follow 65 = .ok (.aload_n 0, 1) := by decide +kernel
theorem dX2_follow_66 : decode cX2_follow 66 = .ok (.iconst 1, 1) := by decide +kernel
theorem dX2_follow_67 : decode cX2_follow 67 = .ok (.iload 4, 2) := by decide +kernel
theorem dX2_follow_69 : decode cX2_follow 69 = .ok (.iload_n 3, 1) := by decide +kernel
theorem dX2_follow_70 : decode cX2_follow 70 = .ok (.aload_n 0, 1) := by decide +kernel
theorem dX2_follow_71 : decode cX2_follow 71 = .ok (.getfield 43, 3) := by decide +kernel
theorem dX2_follow_74 : decode cX2_follow 74 = .ok (.iconst 1, 1) := by decide +kernel
theorem dX2_follow_75 : decode cX2_follow 75 = .ok (.aaload, 1) := by decide +kernel
theorem dX2_follow_76 : decode cX2_follow 76 = .ok (.iload 4, 2) := by decide +kernel
theorem dX2_follow_78 : decode cX2_follow 78 = .ok (.iaload, 1) := by decide +kernel
theorem dX2_follow_79 : decode cX2_follow 79 = .ok (.ior, 1) := by decide +kernel
theorem dX2_follow_80 : decode cX2_follow 80 = .ok (.invokevirtual 58, 3) := by decide +kernel
theorem dX2_follow_83 : decode cX2_follow 83 = .ok (.istore_n 3, 1) := by decide +kernel
theorem dX2_follow_84 : decode cX2_follow 84 = .ok (.iinc 4 1, 3) := by decide +kernel
theorem dX2_follow_87 : decode cX2_follow 87 = .ok (.goto (-48), 3) := by decide +kernel
theorem dX2_follow_90 : decode cX2_follow 90 = .ok (.return_, 1) := by decide +kernel
def lX2_follow_13 (u6 : Int) (K32 : ZS → Option (Int × ZS)) : Nat → ZS → Int → Option (Int × ZS)
  | 0, _, _ => none
  | n1 + 1, s5, x7 => if 16 ≤ x7 then (K32 s5) else ((zg s5 2 u6 2).bind (fun v9 => (zas s5 100 v9 x7 (-1)).bind (fun s10 => lX2_follow_13 u6 K32 n1 s10 (wrap (x7 + 1)))))

def lX2_follow_39 (u14 : Int)  : Nat → ZS → Int → Int → Int → Option (Int × ZS)
  | 0, _, _, _, _ => none
  | n1 + 1, s13, x15, x16, x17 => if 24 ≤ x17 then (some (0, s13)) else ((zg s13 2 u14 8).bind (fun v19 => (zal s13 102 v19 0).bind (fun v20 => (zal s13 100 v20 x17).bind (fun v21 => zb (zv s13 2 u14 (fX2_letPass s13 u14 0 x17 (iOr x15 v21))) (fun v22 s23 => (zg s23 2 u14 8).bind (fun v25 => (zal s23 102 v25 1).bind (fun v26 => (zal s23 100 v26 x17).bind (fun v27 => zb (zv s23 2 u14 (fX2_letPass s23 u14 1 x17 (iOr x16 v27))) (fun v28 s29 => lX2_follow_39 u14 n1 s29 v22 v28 (wrap (x17 + 1)))))))))))

def fX2_follow (s0 : ZS) (a0 : Int) (a1 : Int) : Option (Int × ZS) := zb (zv s0 2 a0 (fX2_gather s0 a0 a1 (-1))) (fun v1 s2 => (zp s2 2 a0 4 0).bind (fun s4 => lX2_follow_13 a0 (fun (s12 : ZS) => lX2_follow_39 a0 1000 s12 0 0 0) 1000 s4 0))
set_option maxHeartbeats 4000000 in
set_option maxRecDepth 100000 in
theorem mX2_follow (E : ZE) (hE : zOkE E) (l : Launch) (s0 : ZS) (a0 : Int) (a1 : Int) : Ct E l yX2_follow cX2_follow 5 none 8 [(2, a0), (2, a1)] 0 s0 (fX2_follow s0 a0 a1) := by
  refine Ct.of (by decide) hE (Nat.le_of_ble_eq_true rfl) ?_
  intro X G hX hR hN hXE hXl hxn hk _
  subst hXE
  subst hXl
  have hX : G → ZOk X cX2_follow RX2 8 := hX
  clear hN
  show Zj X G 0 [(0, (2, a0)), (1, (2, a1))] [] s0 _
  unfold fX2_follow
  refine z_aload_n (pc := 0) hX 0 dX2_follow_0 rfl rfl ?_
  refine z_aload_n (pc := 1) hX 1 dX2_follow_1 rfl rfl ?_
  refine z_iconst (pc := 2) hX dX2_follow_2 ?_
  refine z_callV (n := 2) (st := []) (pc := 3) hX zc2 rfl (fun _ => (mX2_gather _ hE _ _ _ _ _)) ⟨wd727, wd62, wd730, ⟨by decide, by decide, by decide⟩, by decide⟩ rfl wd728 wd729 rfl rfl (by decide) (Nat.le_of_ble_eq_true rfl) dX2_follow_3 (fun v1 s2 r3 => ?_)
  show Zj X G 6 [(0, (2, a0)), (1, (2, a1))] [] _ _
  refine z_aload_n (pc := 6) hX 0 dX2_follow_6 rfl rfl ?_
  refine z_iconst (pc := 7) hX dX2_follow_7 ?_
  refine z_putA (pc := 8) hX zc2 4 (by decide) wd159 (Or.inl rfl) rfl rfl (fun _ => rfl) (fun _ => rfl) dX2_follow_8 (fun s4 => ?_)
  refine z_iconst (pc := 11) hX dX2_follow_11 ?_
  refine z_istore_n (lv' := [(2, (0, 0)), (0, (2, a0)), (1, (2, a1))]) (pc := 12) hX dX2_follow_12 rfl (zlt hxn rfl) rfl ?_
  have hl13 : ∀ (u6 : Int), ∀ (K32 : ZS → Option (Int × ZS)), (∀ (s11 : ZS), Zj X G 32 [(0, (2, u6))] [] s11 (K32 s11)) → ∀ (n1 : Nat) (s5 : ZS) (x7 : Int), Zj X G 13 [(0, (2, u6)), (2, (0, x7))] [] s5 (lX2_follow_13 u6 K32 n1 s5 x7) := by
    intro u6 K32 hK32 n1
    induction n1 with
    | zero => intro _ _; exact z_none
    | succ n1 ih1 =>
      intro s5 x7
      rw [lX2_follow_13]
      refine z_iload_n (pc := 13) hX 1 dX2_follow_13 rfl rfl ?_
      refine z_bipush (pc := 14) hX dX2_follow_14 ?_
      refine z_icmp_ge (pc := 16) hX 32 dX2_follow_16 (by decide) (fun h8 => ?_) (fun h8 => ?_)
      · refine z_pick (lv' := [(0, (2, u6))]) [0] rfl ?_
        exact hK32 _
      · refine z_aload_n (pc := 19) hX 0 dX2_follow_19 rfl rfl ?_
        refine z_get (pc := 20) hX zc2 2 (by decide) wd155 rfl rfl dX2_follow_20 (fun v9 => ?_)
        refine z_iload_n (pc := 23) hX 1 dX2_follow_23 rfl rfl ?_
        refine z_iconst (pc := 24) hX dX2_follow_24 ?_
        refine z_iastA (pc := 25) hX dX2_follow_25 (fun s10 => ?_)
        refine z_iinc (lv' := [(2, (0, (wrap (x7 + 1)))), (0, (2, u6))]) (pc := 26) hX 1 dX2_follow_26 rfl (zlt hxn rfl) rfl ?_
        refine z_goto (pc := 29) hX 13 dX2_follow_29 (by decide) ?_
        refine z_pick (lv' := [(0, (2, u6)), (2, (0, (wrap (x7 + 1))))]) [1, 0] rfl ?_
        exact ih1 _ _
  refine z_pick (lv' := [(0, (2, a0)), (2, (0, 0))]) [1, 0] rfl ?_
  refine hl13 _ _ (fun s12 => ?_) 1000 _ _
  refine z_iconst (pc := 32) hX dX2_follow_32 ?_
  refine z_istore_n (lv' := [(2, (0, 0)), (0, (2, a0))]) (pc := 33) hX dX2_follow_33 rfl (zlt hxn rfl) rfl ?_
  refine z_iconst (pc := 34) hX dX2_follow_34 ?_
  refine z_istore_n (lv' := [(3, (0, 0)), (2, (0, 0)), (0, (2, a0))]) (pc := 35) hX dX2_follow_35 rfl (zlt hxn rfl) rfl ?_
  refine z_iconst (pc := 36) hX dX2_follow_36 ?_
  refine z_istore (lv' := [(4, (0, 0)), (3, (0, 0)), (2, (0, 0)), (0, (2, a0))]) (pc := 37) hX dX2_follow_37 (zlt hxn rfl) rfl ?_
  have hl39 : ∀ (u14 : Int), ∀ (n1 : Nat) (s13 : ZS) (x15 x16 x17 : Int), Zj X G 39 [(0, (2, u14)), (2, (0, x15)), (3, (0, x16)), (4, (0, x17))] [] s13 (lX2_follow_39 u14 n1 s13 x15 x16 x17) := by
    intro u14 n1
    induction n1 with
    | zero => intro _ _ _ _; exact z_none
    | succ n1 ih1 =>
      intro s13 x15 x16 x17
      rw [lX2_follow_39]
      refine z_iload (pc := 39) hX 3 dX2_follow_39 rfl ?_
      refine z_bipush (pc := 41) hX dX2_follow_41 ?_
      refine z_icmp_ge (pc := 43) hX 90 dX2_follow_43 (by decide) (fun h18 => ?_) (fun h18 => ?_)
      · exact z_vret (pc := 90) hX hR hk dX2_follow_90
      · refine z_aload_n (pc := 46) hX 0 dX2_follow_46 rfl rfl ?_
        refine z_iconst (pc := 47) hX dX2_follow_47 ?_
        refine z_iload (pc := 48) hX 3 dX2_follow_48 rfl ?_
        refine z_iload_n (pc := 50) hX 1 dX2_follow_50 rfl rfl ?_
        refine z_aload_n (pc := 51) hX 0 dX2_follow_51 rfl rfl ?_
        refine z_get (pc := 52) hX zc2 8 (by decide) wd164 rfl rfl dX2_follow_52 (fun v19 => ?_)
        refine z_iconst (pc := 55) hX dX2_follow_55 ?_
        refine z_aald (pc := 56) hX 2 102 (by decide) rfl rfl dX2_follow_56 (fun v20 => ?_)
        refine z_iload (pc := 57) hX 3 dX2_follow_57 rfl ?_
        refine z_iald (pc := 59) hX dX2_follow_59 (fun v21 => ?_)
        refine z_ior (pc := 60) hX dX2_follow_60 ?_
        refine z_callV (n := 3) (st := []) (pc := 61) hX zc2 rfl (fun _ => (mX2_letPass _ hE _ _ _ _ _ _)) ⟨wd762, wd62, wd765, ⟨by decide, by decide, by decide⟩, by decide⟩ rfl wd764 wd21 rfl rfl (by decide) (Nat.le_of_ble_eq_true rfl) dX2_follow_61 (fun v22 s23 r24 => ?_)
        show Zj X G 64 [(0, (2, u14)), (2, (0, x15)), (3, (0, x16)), (4, (0, x17))] [(0, v22)] _ _
        refine z_istore_n (lv' := [(2, (0, v22)), (0, (2, u14)), (3, (0, x16)), (4, (0, x17))]) (pc := 64) hX dX2_follow_64 rfl (zlt hxn rfl) rfl ?_
        refine z_aload_n (pc := 65) hX 1 dX2_follow_65 rfl rfl ?_
        refine z_iconst (pc := 66) hX dX2_follow_66 ?_
        refine z_iload (pc := 67) hX 3 dX2_follow_67 rfl ?_
        refine z_iload_n (pc := 69) hX 2 dX2_follow_69 rfl rfl ?_
        refine z_aload_n (pc := 70) hX 1 dX2_follow_70 rfl rfl ?_
        refine z_get (pc := 71) hX zc2 8 (by decide) wd164 rfl rfl dX2_follow_71 (fun v25 => ?_)
        refine z_iconst (pc := 74) hX dX2_follow_74 ?_
        refine z_aald (pc := 75) hX 2 102 (by decide) rfl rfl dX2_follow_75 (fun v26 => ?_)
        refine z_iload (pc := 76) hX 3 dX2_follow_76 rfl ?_
        refine z_iald (pc := 78) hX dX2_follow_78 (fun v27 => ?_)
        refine z_ior (pc := 79) hX dX2_follow_79 ?_
        refine z_callV (n := 3) (st := []) (pc := 80) hX zc2 rfl (fun _ => (mX2_letPass _ hE _ _ _ _ _ _)) ⟨wd762, wd62, wd765, ⟨by decide, by decide, by decide⟩, by decide⟩ rfl wd764 wd21 rfl rfl (by decide) (Nat.le_of_ble_eq_true rfl) dX2_follow_80 (fun v28 s29 r30 => ?_)
        show Zj X G 83 [(2, (0, v22)), (0, (2, u14)), (3, (0, x16)), (4, (0, x17))] [(0, v28)] _ _
        refine z_istore_n (lv' := [(3, (0, v28)), (2, (0, v22)), (0, (2, u14)), (4, (0, x17))]) (pc := 83) hX dX2_follow_83 rfl (zlt hxn rfl) rfl ?_
        refine z_iinc (lv' := [(4, (0, (wrap (x17 + 1)))), (3, (0, v28)), (2, (0, v22)), (0, (2, u14))]) (pc := 84) hX 3 dX2_follow_84 rfl (zlt hxn rfl) rfl ?_
        refine z_goto (pc := 87) hX 39 dX2_follow_87 (by decide) ?_
        refine z_pick (lv' := [(0, (2, u14)), (2, (0, v22)), (3, (0, v28)), (4, (0, (wrap (x17 + 1))))]) [3, 2, 1, 0] rfl ?_
        exact ih1 _ _ _ _
  refine z_pick (lv' := [(0, (2, a0)), (2, (0, 0)), (3, (0, 0)), (4, (0, 0))]) [3, 2, 1, 0] rfl ?_
  refine hl39 _ 1000 _ _ _ _

theorem dX10_paid_0 : decode cX10_paid 0 = .ok (.iconst 0, 1) := by decide +kernel
theorem dX10_paid_1 : decode cX10_paid 1 = .ok (.ireturn, 1) := by decide +kernel
def fX10_paid (s0 : ZS) (a0 : Int) (a1 : Int) : Option (Int × ZS) := some (0, s0)
set_option maxHeartbeats 4000000 in
set_option maxRecDepth 100000 in
theorem mX10_paid (E : ZE) (hE : zOkE E) (l : Launch) (s0 : ZS) (a0 : Int) (a1 : Int) : Ct E l yX10_paid cX10_paid 2 (some .int) 2 [(2, a0), (0, a1)] 1 s0 (fX10_paid s0 a0 a1) := by
  refine Ct.of (by decide) hE (Nat.le_of_ble_eq_true rfl) ?_
  intro X G hX hR hN hXE hXl hxn hk _
  subst hXE
  subst hXl
  have hX : G → ZOk X cX10_paid RX10 2 := hX
  clear hN
  show Zj X G 0 [(0, (2, a0)), (1, (0, a1))] [] s0 _
  unfold fX10_paid
  refine z_iconst (pc := 0) hX dX10_paid_0 ?_
  exact z_iret (pc := 1) hX hR hk dX10_paid_1

theorem dX9_paid_0 : decode cX9_paid 0 = .ok (.iload_n 1, 1) := by decide +kernel
theorem dX9_paid_1 : decode cX9_paid 1 = .ok (.ireturn, 1) := by decide +kernel
def fX9_paid (s0 : ZS) (a0 : Int) (a1 : Int) : Option (Int × ZS) := some (a1, s0)
set_option maxHeartbeats 4000000 in
set_option maxRecDepth 100000 in
theorem mX9_paid (E : ZE) (hE : zOkE E) (l : Launch) (s0 : ZS) (a0 : Int) (a1 : Int) : Ct E l yX9_paid cX9_paid 2 (some .int) 2 [(2, a0), (0, a1)] 1 s0 (fX9_paid s0 a0 a1) := by
  refine Ct.of (by decide) hE (Nat.le_of_ble_eq_true rfl) ?_
  intro X G hX hR hN hXE hXl hxn hk _
  subst hXE
  subst hXl
  have hX : G → ZOk X cX9_paid RX9 2 := hX
  clear hN
  show Zj X G 0 [(0, (2, a0)), (1, (0, a1))] [] s0 _
  unfold fX9_paid
  refine z_iload_n (pc := 0) hX 1 dX9_paid_0 rfl rfl ?_
  exact z_iret (pc := 1) hX hR hk dX9_paid_1

theorem dX7_paid_0 : decode cX7_paid 0 = .ok (.aload_n 0, 1) := by decide +kernel
theorem dX7_paid_1 : decode cX7_paid 1 = .ok (.iload_n 1, 1) := by decide +kernel
theorem dX7_paid_2 : decode cX7_paid 2 = .ok (.invokespecial 11, 3) := by decide +kernel
theorem dX7_paid_5 : decode cX7_paid 5 = .ok (.iconst 2, 1) := by decide +kernel
theorem dX7_paid_6 : decode cX7_paid 6 = .ok (.idiv, 1) := by decide +kernel
theorem dX7_paid_7 : decode cX7_paid 7 = .ok (.ireturn, 1) := by decide +kernel
def fX7_paid (s0 : ZS) (a0 : Int) (a1 : Int) : Option (Int × ZS) := zb (zv s0 7 a0 (fX9_paid s0 a0 a1)) (fun v1 s2 => if 2 = 0 then none else (some ((wrap (v1.tdiv 2)), s2)))
set_option maxHeartbeats 4000000 in
set_option maxRecDepth 100000 in
theorem mX7_paid (E : ZE) (hE : zOkE E) (l : Launch) (s0 : ZS) (a0 : Int) (a1 : Int) : Ct E l yX7_paid cX7_paid 2 (some .int) 4 [(2, a0), (0, a1)] 1 s0 (fX7_paid s0 a0 a1) := by
  refine Ct.of (by decide) hE (Nat.le_of_ble_eq_true rfl) ?_
  intro X G hX hR hN hXE hXl hxn hk _
  subst hXE
  subst hXl
  have hX : G → ZOk X cX7_paid RX7 4 := hX
  clear hN
  show Zj X G 0 [(0, (2, a0)), (1, (0, a1))] [] s0 _
  unfold fX7_paid
  refine z_aload_n (pc := 0) hX 0 dX7_paid_0 rfl rfl ?_
  refine z_iload_n (pc := 1) hX 1 dX7_paid_1 rfl rfl ?_
  refine z_callSU (n := 1) (st := []) (pc := 2) hX zc7 rfl (fun _ => (mX9_paid _ hE _ _ _ _)) ⟨wd790, wd77, wd792, ⟨by decide, by decide, by decide⟩, by decide⟩ wd1445 wd669 (by decide) wd791 rfl rfl (by decide) (Nat.le_of_ble_eq_true rfl) dX7_paid_2 (fun v1 s2 r3 => ?_)
  show Zj X G 5 [(0, (2, a0)), (1, (0, a1))] [(0, v1)] _ _
  refine z_iconst (pc := 5) hX dX7_paid_5 ?_
  refine z_idiv (pc := 6) hX dX7_paid_6 (fun _ => ?_)
  exact z_iret (pc := 7) hX hR hk dX7_paid_7

theorem dX2_learn_0 : decode cX2_learn 0 = .ok (.aload_n 0, 1) := by decide +kernel
theorem dX2_learn_1 : decode cX2_learn 1 = .ok (.getfield 12, 3) := by decide +kernel
theorem dX2_learn_4 : decode cX2_learn 4 = .ok (.getfield 83, 3) := by decide +kernel
theorem dX2_learn_7 : decode cX2_learn 7 = .ok (.iload_n 1, 1) := by decide +kernel
theorem dX2_learn_8 : decode cX2_learn 8 = .ok (.iaload, 1) := by decide +kernel
theorem dX2_learn_9 : decode cX2_learn 9 = .ok (.istore 5, 2) := by decide +kernel
theorem dX2_learn_11 : decode cX2_learn 11 = .ok (.iconst 0, 1) := by decide +kernel
theorem dX2_learn_12 : decode cX2_learn 12 = .ok (.bipush 23, 2) := by decide +kernel
theorem dX2_learn_14 : decode cX2_learn 14 = .ok (.aload_n 0, 1) := by decide +kernel
theorem dX2_learn_15 : decode cX2_learn 15 = .ok (.getfield 12, 3) := by decide +kernel
theorem dX2_learn_18 : decode cX2_learn 18 = .ok (.getfield 135, 3) := by decide +kernel
theorem dX2_learn_21 : decode cX2_learn 21 = .ok (.iload 5, 2) := by decide +kernel
theorem dX2_learn_23 : decode cX2_learn 23 = .ok (.iaload, 1) := by decide +kernel
theorem dX2_learn_24 : decode cX2_learn 24 = .ok (.aload_n 0, 1) := by decide +kernel
theorem dX2_learn_25 : decode cX2_learn 25 = .ok (.getfield 12, 3) := by decide +kernel
theorem dX2_learn_28 : decode cX2_learn 28 = .ok (.getfield 138, 3) := by decide +kernel
theorem dX2_learn_31 : decode cX2_learn 31 = .ok (.iadd, 1) := by decide +kernel
theorem dX2_learn_32 : decode cX2_learn 32 = .ok (.invokestatic 141, 3) := by decide +kernel
theorem dX2_learn_35 : decode cX2_learn 35 = .ok (.invokestatic 146, 3) := by decide +kernel
theorem dX2_learn_38 : decode cX2_learn 38 = .ok (.istore 6, 2) := by decide +kernel
theorem dX2_learn_40 : decode cX2_learn 40 = .ok (.aload_n 0, 1) := by decide +kernel
theorem dX2_learn_41 : decode cX2_learn 41 = .ok (.getfield 48, 3) := by decide +kernel
theorem dX2_learn_44 : decode cX2_learn 44 = .ok (.iconst 0, 1) := by decide +kernel
theorem dX2_learn_45 : decode cX2_learn 45 = .ok (.iload_n 3, 1) := by decide +kernel
theorem dX2_learn_46 : decode cX2_learn 46 = .ok (.iload_n 2, 1) := by decide +kernel
theorem dX2_learn_47 : decode cX2_learn 47 = .ok (.isub, 1) := by decide +kernel
theorem dX2_learn_48 : decode cX2_learn 48 = .ok (.iastore, 1) := by decide +kernel
theorem dX2_learn_49 : decode cX2_learn 49 = .ok (.aload_n 0, 1) := by decide +kernel
theorem dX2_learn_50 : decode cX2_learn 50 = .ok (.getfield 48, 3) := by decide +kernel
theorem dX2_learn_53 : decode cX2_learn 53 = .ok (.iconst 1, 1) := by decide +kernel
theorem dX2_learn_54 : decode cX2_learn 54 = .ok (.iconst 0, 1) := by decide +kernel
theorem dX2_learn_55 : decode cX2_learn 55 = .ok (.iload 6, 2) := by decide +kernel
theorem dX2_learn_57 : decode cX2_learn 57 = .ok (.iload_n 3, 1) := by decide +kernel
theorem dX2_learn_58 : decode cX2_learn 58 = .ok (.isub, 1) := by decide +kernel
theorem dX2_learn_59 : decode cX2_learn 59 = .ok (.invokestatic 146, 3) := by decide +kernel
theorem dX2_learn_62 : decode cX2_learn 62 = .ok (.iastore, 1) := by decide +kernel
theorem dX2_learn_63 : decode cX2_learn 63 = .ok (.aload_n 0, 1) := by decide +kernel
theorem dX2_learn_64 : decode cX2_learn 64 = .ok (.getfield 48, 3) := by decide +kernel
theorem dX2_learn_67 : decode cX2_learn 67 = .ok (.iconst 2, 1) := by decide +kernel
theorem dX2_learn_68 : decode cX2_learn 68 = .ok (.iconst 0, 1) := by decide +kernel
theorem dX2_learn_69 : decode cX2_learn 69 = .ok (.iload_n 3, 1) := by decide +kernel
theorem dX2_learn_70 : decode cX2_learn 70 = .ok (.iload 6, 2) := by decide +kernel
theorem dX2_learn_72 : decode cX2_learn 72 = .ok (.isub, 1) := by decide +kernel
theorem dX2_learn_73 : decode cX2_learn 73 = .ok (.invokestatic 146, 3) := by decide +kernel
theorem dX2_learn_76 : decode cX2_learn 76 = .ok (.iastore, 1) := by decide +kernel
theorem dX2_learn_77 : decode cX2_learn 77 = .ok (.aload_n 0, 1) := by decide +kernel
theorem dX2_learn_78 : decode cX2_learn 78 = .ok (.getfield 48, 3) := by decide +kernel
theorem dX2_learn_81 : decode cX2_learn 81 = .ok (.iconst 3, 1) := by decide +kernel
theorem dX2_learn_82 : decode cX2_learn 82 = .ok (.iload_n 3, 1) := by decide +kernel
theorem dX2_learn_83 : decode cX2_learn 83 = .ok (.iastore, 1) := by decide +kernel
theorem dX2_learn_84 : decode cX2_learn 84 = .ok (.aload_n 0, 1) := by decide +kernel
theorem dX2_learn_85 : decode cX2_learn 85 = .ok (.getfield 48, 3) := by decide +kernel
theorem dX2_learn_88 : decode cX2_learn 88 = .ok (.iconst 4, 1) := by decide +kernel
theorem dX2_learn_89 : decode cX2_learn 89 = .ok (.iload 5, 2) := by decide +kernel
theorem dX2_learn_91 : decode cX2_learn 91 = .ok (.iastore, 1) := by decide +kernel
theorem dX2_learn_92 : decode cX2_learn 92 = .ok (.aload_n 0, 1) := by decide +kernel
theorem dX2_learn_93 : decode cX2_learn 93 = .ok (.getfield 48, 3) := by decide +kernel
theorem dX2_learn_96 : decode cX2_learn 96 = .ok (.iconst 5, 1) := by decide +kernel
theorem dX2_learn_97 : decode cX2_learn 97 = .ok (.iload 4, 2) := by decide +kernel
theorem dX2_learn_99 : decode cX2_learn 99 = .ok (.iastore, 1) := by decide +kernel
theorem dX2_learn_100 : decode cX2_learn 100 = .ok (.return_, 1) := by decide +kernel
def fX2_learn (s0 : ZS) (a0 : Int) (a1 : Int) (a2 : Int) (a3 : Int) (a4 : Int) : Option (Int × ZS) := (zg s0 2 a0 0).bind (fun v1 => (zg s0 5 v1 6).bind (fun v2 => (zal s0 100 v2 a1).bind (fun v3 => (zg s0 2 a0 0).bind (fun v4 => (zg s0 5 v4 3).bind (fun v5 => (zal s0 100 v5 v3).bind (fun v6 => (zg s0 2 a0 0).bind (fun v7 => (zg s0 5 v7 8).bind (fun v8 => (zg s0 2 a0 9).bind (fun v9 => (zas s0 100 v9 0 (wrap (a3 - a2))).bind (fun s10 => (zg s10 2 a0 9).bind (fun v11 => (zas s10 100 v11 1 (imax 0 (wrap ((imax 0 (imin 23 (wrap (v6 + v8)))) - a3)))).bind (fun s12 => (zg s12 2 a0 9).bind (fun v13 => (zas s12 100 v13 2 (imax 0 (wrap (a3 - (imax 0 (imin 23 (wrap (v6 + v8)))))))).bind (fun s14 => (zg s14 2 a0 9).bind (fun v15 => (zas s14 100 v15 3 a3).bind (fun s16 => (zg s16 2 a0 9).bind (fun v17 => (zas s16 100 v17 4 v3).bind (fun s18 => (zg s18 2 a0 9).bind (fun v19 => (zas s18 100 v19 5 a4).bind (fun s20 => some (0, s20)))))))))))))))))))))
set_option maxHeartbeats 4000000 in
set_option maxRecDepth 100000 in
theorem mX2_learn (E : ZE) (hE : zOkE E) (l : Launch) (s0 : ZS) (a0 : Int) (a1 : Int) (a2 : Int) (a3 : Int) (a4 : Int) : Ct E l yX2_learn cX2_learn 7 none 2 [(2, a0), (0, a1), (0, a2), (0, a3), (0, a4)] 0 s0 (fX2_learn s0 a0 a1 a2 a3 a4) := by
  refine Ct.of (by decide) hE (Nat.le_of_ble_eq_true rfl) ?_
  intro X G hX hR hN hXE hXl hxn hk _
  subst hXE
  subst hXl
  have hX : G → ZOk X cX2_learn RX2 2 := hX
  clear hN
  show Zj X G 0 [(0, (2, a0)), (1, (0, a1)), (2, (0, a2)), (3, (0, a3)), (4, (0, a4))] [] s0 _
  unfold fX2_learn
  refine z_aload_n (pc := 0) hX 0 dX2_learn_0 rfl rfl ?_
  refine z_get (pc := 1) hX zc2 0 (by decide) wd151 rfl rfl dX2_learn_1 (fun v1 => ?_)
  refine z_get (pc := 4) hX zc5 6 (by decide) wd123 rfl rfl dX2_learn_4 (fun v2 => ?_)
  refine z_iload_n (pc := 7) hX 1 dX2_learn_7 rfl rfl ?_
  refine z_iald (pc := 8) hX dX2_learn_8 (fun v3 => ?_)
  refine z_istore (lv' := [(5, (0, v3)), (0, (2, a0)), (1, (0, a1)), (2, (0, a2)), (3, (0, a3)), (4, (0, a4))]) (pc := 9) hX dX2_learn_9 (zlt hxn rfl) rfl ?_
  refine z_iconst (pc := 11) hX dX2_learn_11 ?_
  refine z_bipush (pc := 12) hX dX2_learn_12 ?_
  refine z_aload_n (pc := 14) hX 1 dX2_learn_14 rfl rfl ?_
  refine z_get (pc := 15) hX zc2 0 (by decide) wd151 rfl rfl dX2_learn_15 (fun v4 => ?_)
  refine z_get (pc := 18) hX zc5 3 (by decide) wd116 rfl rfl dX2_learn_18 (fun v5 => ?_)
  refine z_iload (pc := 21) hX 0 dX2_learn_21 rfl ?_
  refine z_iald (pc := 23) hX dX2_learn_23 (fun v6 => ?_)
  refine z_aload_n (pc := 24) hX 1 dX2_learn_24 rfl rfl ?_
  refine z_get (pc := 25) hX zc2 0 (by decide) wd151 rfl rfl dX2_learn_25 (fun v7 => ?_)
  refine z_get (pc := 28) hX zc5 8 (by decide) wd128 rfl rfl dX2_learn_28 (fun v8 => ?_)
  refine z_iadd (pc := 31) hX dX2_learn_31 ?_
  refine z_min (st := [(0, 0)]) (pc := 32) hX (by decide) wd799 wd471 wd72 wd472 (Nat.le_of_ble_eq_true rfl) dX2_learn_32 ?_
  refine z_max (st := []) (pc := 35) hX (by decide) wd800 wd468 wd72 wd469 (Nat.le_of_ble_eq_true rfl) dX2_learn_35 ?_
  refine z_istore (lv' := [(6, (0, (imax 0 (imin 23 (wrap (v6 + v8)))))), (5, (0, v3)), (0, (2, a0)), (1, (0, a1)), (2, (0, a2)), (3, (0, a3)), (4, (0, a4))]) (pc := 38) hX dX2_learn_38 (zlt hxn rfl) rfl ?_
  refine z_aload_n (pc := 40) hX 2 dX2_learn_40 rfl rfl ?_
  refine z_get (pc := 41) hX zc2 9 (by decide) wd165 rfl rfl dX2_learn_41 (fun v9 => ?_)
  refine z_iconst (pc := 44) hX dX2_learn_44 ?_
  refine z_iload_n (pc := 45) hX 5 dX2_learn_45 rfl rfl ?_
  refine z_iload_n (pc := 46) hX 4 dX2_learn_46 rfl rfl ?_
  refine z_isub (pc := 47) hX dX2_learn_47 ?_
  refine z_iastA (pc := 48) hX dX2_learn_48 (fun s10 => ?_)
  refine z_aload_n (pc := 49) hX 2 dX2_learn_49 rfl rfl ?_
  refine z_get (pc := 50) hX zc2 9 (by decide) wd165 rfl rfl dX2_learn_50 (fun v11 => ?_)
  refine z_iconst (pc := 53) hX dX2_learn_53 ?_
  refine z_iconst (pc := 54) hX dX2_learn_54 ?_
  refine z_iload (pc := 55) hX 0 dX2_learn_55 rfl ?_
  refine z_iload_n (pc := 57) hX 5 dX2_learn_57 rfl rfl ?_
  refine z_isub (pc := 58) hX dX2_learn_58 ?_
  refine z_max (st := [(0, 1), (2, v11)]) (pc := 59) hX (by decide) wd800 wd468 wd72 wd469 (Nat.le_of_ble_eq_true rfl) dX2_learn_59 ?_
  refine z_iastA (pc := 62) hX dX2_learn_62 (fun s12 => ?_)
  refine z_aload_n (pc := 63) hX 2 dX2_learn_63 rfl rfl ?_
  refine z_get (pc := 64) hX zc2 9 (by decide) wd165 rfl rfl dX2_learn_64 (fun v13 => ?_)
  refine z_iconst (pc := 67) hX dX2_learn_67 ?_
  refine z_iconst (pc := 68) hX dX2_learn_68 ?_
  refine z_iload_n (pc := 69) hX 5 dX2_learn_69 rfl rfl ?_
  refine z_iload (pc := 70) hX 0 dX2_learn_70 rfl ?_
  refine z_isub (pc := 72) hX dX2_learn_72 ?_
  refine z_max (st := [(0, 2), (2, v13)]) (pc := 73) hX (by decide) wd800 wd468 wd72 wd469 (Nat.le_of_ble_eq_true rfl) dX2_learn_73 ?_
  refine z_iastA (pc := 76) hX dX2_learn_76 (fun s14 => ?_)
  refine z_aload_n (pc := 77) hX 2 dX2_learn_77 rfl rfl ?_
  refine z_get (pc := 78) hX zc2 9 (by decide) wd165 rfl rfl dX2_learn_78 (fun v15 => ?_)
  refine z_iconst (pc := 81) hX dX2_learn_81 ?_
  refine z_iload_n (pc := 82) hX 5 dX2_learn_82 rfl rfl ?_
  refine z_iastA (pc := 83) hX dX2_learn_83 (fun s16 => ?_)
  refine z_aload_n (pc := 84) hX 2 dX2_learn_84 rfl rfl ?_
  refine z_get (pc := 85) hX zc2 9 (by decide) wd165 rfl rfl dX2_learn_85 (fun v17 => ?_)
  refine z_iconst (pc := 88) hX dX2_learn_88 ?_
  refine z_iload (pc := 89) hX 1 dX2_learn_89 rfl ?_
  refine z_iastA (pc := 91) hX dX2_learn_91 (fun s18 => ?_)
  refine z_aload_n (pc := 92) hX 2 dX2_learn_92 rfl rfl ?_
  refine z_get (pc := 93) hX zc2 9 (by decide) wd165 rfl rfl dX2_learn_93 (fun v19 => ?_)
  refine z_iconst (pc := 96) hX dX2_learn_96 ?_
  refine z_iload (pc := 97) hX 6 dX2_learn_97 rfl ?_
  refine z_iastA (pc := 99) hX dX2_learn_99 (fun s20 => ?_)
  exact z_vret (pc := 100) hX hR hk dX2_learn_100

theorem dX8_joined_0 : decode cX8_joined 0 = .ok (.iload_n 0, 1) := by decide +kernel
theorem dX8_joined_1 : decode cX8_joined 1 = .ok (.tableswitch 87 10006 10011 #[39, 43, 47, 51, 62, 73], 39) := by decide +kernel
theorem dX8_joined_40 : decode cX8_joined 40 = .ok (.iload_n 1, 1) := by decide +kernel
theorem dX8_joined_41 : decode cX8_joined 41 = .ok (.iload_n 2, 1) := by decide +kernel
theorem dX8_joined_42 : decode cX8_joined 42 = .ok (.iadd, 1) := by decide +kernel
theorem dX8_joined_43 : decode cX8_joined 43 = .ok (.ireturn, 1) := by decide +kernel
theorem dX8_joined_44 : decode cX8_joined 44 = .ok (.iload_n 1, 1) := by decide +kernel
theorem dX8_joined_45 : decode cX8_joined 45 = .ok (.iload_n 2, 1) := by decide +kernel
theorem dX8_joined_46 : decode cX8_joined 46 = .ok (.isub, 1) := by decide +kernel
theorem dX8_joined_47 : decode cX8_joined 47 = .ok (.ireturn, 1) := by decide +kernel
theorem dX8_joined_48 : decode cX8_joined 48 = .ok (.iload_n 1, 1) := by decide +kernel
theorem dX8_joined_49 : decode cX8_joined 49 = .ok (.iload_n 2, 1) := by decide +kernel
theorem dX8_joined_50 : decode cX8_joined 50 = .ok (.imul, 1) := by decide +kernel
theorem dX8_joined_51 : decode cX8_joined 51 = .ok (.ireturn, 1) := by decide +kernel
theorem dX8_joined_52 : decode cX8_joined 52 = .ok (.iload_n 1, 1) := by decide +kernel
theorem dX8_joined_53 : decode cX8_joined 53 = .ok (.iload_n 2, 1) := by decide +kernel
theorem dX8_joined_54 : decode cX8_joined 54 = .ok (.if_icmp .ge 7, 3) := by decide +kernel
theorem dX8_joined_57 : decode cX8_joined 57 = .ok (.iconst 1, 1) := by decide +kernel
theorem dX8_joined_58 : decode cX8_joined 58 = .ok (.goto 4, 3) := by decide +kernel
theorem dX8_joined_61 : decode cX8_joined 61 = .ok (.iconst 0, 1) := by decide +kernel
theorem dX8_joined_62 : decode cX8_joined 62 = .ok (.ireturn, 1) := by decide +kernel
theorem dX8_joined_63 : decode cX8_joined 63 = .ok (.iload_n 1, 1) := by decide +kernel
theorem dX8_joined_64 : decode cX8_joined 64 = .ok (.iload_n 2, 1) := by decide +kernel
theorem dX8_joined_65 : decode cX8_joined 65 = .ok (.if_icmp .ne 7, 3) := by decide +kernel
theorem dX8_joined_68 : decode cX8_joined 68 = .ok (.iconst 1, 1) := by decide +kernel
theorem dX8_joined_69 : decode cX8_joined 69 = .ok (.goto 4, 3) := by decide +kernel
theorem dX8_joined_72 : decode cX8_joined 72 = .ok (.iconst 0, 1) := by decide +kernel
theorem dX8_joined_73 : decode cX8_joined 73 = .ok (.ireturn, 1) := by decide +kernel
theorem dX8_joined_74 : decode cX8_joined 74 = .ok (.iload_n 1, 1) := by decide +kernel
theorem dX8_joined_75 : decode cX8_joined 75 = .ok (.ifCond .eq 11, 3) := by decide +kernel
theorem dX8_joined_78 : decode cX8_joined 78 = .ok (.iload_n 2, 1) := by decide +kernel
theorem dX8_joined_79 : decode cX8_joined 79 = .ok (.ifCond .eq 7, 3) := by decide +kernel
theorem dX8_joined_82 : decode cX8_joined 82 = .ok (.iconst 1, 1) := by decide +kernel
theorem dX8_joined_83 : decode cX8_joined 83 = .ok (.goto 4, 3) := by decide +kernel
theorem dX8_joined_86 : decode cX8_joined 86 = .ok (.iconst 0, 1) := by decide +kernel
theorem dX8_joined_87 : decode cX8_joined 87 = .ok (.ireturn, 1) := by decide +kernel
theorem dX8_joined_88 : decode cX8_joined 88 = .ok (.iload_n 1, 1) := by decide +kernel
theorem dX8_joined_89 : decode cX8_joined 89 = .ok (.ifCond .ne 7, 3) := by decide +kernel
theorem dX8_joined_92 : decode cX8_joined 92 = .ok (.iload_n 2, 1) := by decide +kernel
theorem dX8_joined_93 : decode cX8_joined 93 = .ok (.ifCond .eq 7, 3) := by decide +kernel
theorem dX8_joined_96 : decode cX8_joined 96 = .ok (.iconst 1, 1) := by decide +kernel
theorem dX8_joined_97 : decode cX8_joined 97 = .ok (.goto 4, 3) := by decide +kernel
theorem dX8_joined_100 : decode cX8_joined 100 = .ok (.iconst 0, 1) := by decide +kernel
theorem dX8_joined_101 : decode cX8_joined 101 = .ok (.ireturn, 1) := by decide +kernel
def fX8_joined (s0 : ZS) (a0 : Int) (a1 : Int) (a2 : Int) : Option (Int × ZS) := if a0 = 10006 then (some ((wrap (a1 + a2)), s0)) else (if a0 = 10007 then (some ((wrap (a1 - a2)), s0)) else (if a0 = 10008 then (some ((wrap (a1 * a2)), s0)) else (if a0 = 10009 then (if a2 ≤ a1 then (some (0, s0)) else (some (1, s0))) else (if a0 = 10010 then (if a1 = a2 then (some (1, s0)) else (some (0, s0))) else (if a0 = 10011 then (if a1 = 0 then (some (0, s0)) else (if a2 = 0 then (some (0, s0)) else (some (1, s0)))) else (zjn (fun (K96 : ZS → Option (Int × ZS)) => if a1 = 0 then (if a2 = 0 then (some (0, s0)) else (K96 s0)) else (K96 s0)) (fun (s13 : ZS) => some (1, s13))))))))
set_option maxHeartbeats 4000000 in
set_option maxRecDepth 100000 in
theorem mX8_joined (E : ZE) (hE : zOkE E) (l : Launch) (s0 : ZS) (a0 : Int) (a1 : Int) (a2 : Int) : Ct E l yX8_joined cX8_joined 3 (some .int) 2 [(0, a0), (0, a1), (0, a2)] 1 s0 (fX8_joined s0 a0 a1 a2) := by
  refine Ct.of (by decide) hE (Nat.le_of_ble_eq_true rfl) ?_
  intro X G hX hR hN hXE hXl hxn hk _
  subst hXE
  subst hXl
  have hX : G → ZOk X cX8_joined RX8 2 := hX
  clear hN
  show Zj X G 0 [(0, (0, a0)), (1, (0, a1)), (2, (0, a2))] [] s0 _
  unfold fX8_joined
  refine z_iload_n (pc := 0) hX 0 dX8_joined_0 rfl rfl ?_
  by_cases h1 : a0 = 10006
  · refine z_eq (if_pos h1) ?_
    refine z_tswIn (pc := 1) hX 40 dX8_joined_1 h1 (by decide) (by decide) rfl (by decide) ?_
    refine z_iload_n (pc := 40) hX 1 dX8_joined_40 rfl rfl ?_
    refine z_iload_n (pc := 41) hX 2 dX8_joined_41 rfl rfl ?_
    refine z_iadd (pc := 42) hX dX8_joined_42 ?_
    exact z_iret (pc := 43) hX hR hk dX8_joined_43
  · refine z_eq (if_neg h1) ?_
    by_cases h2 : a0 = 10007
    · refine z_eq (if_pos h2) ?_
      refine z_tswIn (pc := 1) hX 44 dX8_joined_1 h2 (by decide) (by decide) rfl (by decide) ?_
      refine z_iload_n (pc := 44) hX 1 dX8_joined_44 rfl rfl ?_
      refine z_iload_n (pc := 45) hX 2 dX8_joined_45 rfl rfl ?_
      refine z_isub (pc := 46) hX dX8_joined_46 ?_
      exact z_iret (pc := 47) hX hR hk dX8_joined_47
    · refine z_eq (if_neg h2) ?_
      by_cases h3 : a0 = 10008
      · refine z_eq (if_pos h3) ?_
        refine z_tswIn (pc := 1) hX 48 dX8_joined_1 h3 (by decide) (by decide) rfl (by decide) ?_
        refine z_iload_n (pc := 48) hX 1 dX8_joined_48 rfl rfl ?_
        refine z_iload_n (pc := 49) hX 2 dX8_joined_49 rfl rfl ?_
        refine z_imul (pc := 50) hX dX8_joined_50 ?_
        exact z_iret (pc := 51) hX hR hk dX8_joined_51
      · refine z_eq (if_neg h3) ?_
        by_cases h4 : a0 = 10009
        · refine z_eq (if_pos h4) ?_
          refine z_tswIn (pc := 1) hX 52 dX8_joined_1 h4 (by decide) (by decide) rfl (by decide) ?_
          refine z_iload_n (pc := 52) hX 1 dX8_joined_52 rfl rfl ?_
          refine z_iload_n (pc := 53) hX 2 dX8_joined_53 rfl rfl ?_
          refine z_icmp_ge (pc := 54) hX 61 dX8_joined_54 (by decide) (fun h5 => ?_) (fun h5 => ?_)
          · refine z_iconst (pc := 61) hX dX8_joined_61 ?_
            exact z_iret (pc := 62) hX hR hk dX8_joined_62
          · refine z_iconst (pc := 57) hX dX8_joined_57 ?_
            refine z_goto (pc := 58) hX 62 dX8_joined_58 (by decide) ?_
            exact z_iret (pc := 62) hX hR hk dX8_joined_62
        · refine z_eq (if_neg h4) ?_
          by_cases h6 : a0 = 10010
          · refine z_eq (if_pos h6) ?_
            refine z_tswIn (pc := 1) hX 63 dX8_joined_1 h6 (by decide) (by decide) rfl (by decide) ?_
            refine z_iload_n (pc := 63) hX 1 dX8_joined_63 rfl rfl ?_
            refine z_iload_n (pc := 64) hX 2 dX8_joined_64 rfl rfl ?_
            refine z_icmp_ne (pc := 65) hX 72 dX8_joined_65 (by decide) (fun h7 => ?_) (fun h7 => ?_)
            · refine z_iconst (pc := 72) hX dX8_joined_72 ?_
              exact z_iret (pc := 73) hX hR hk dX8_joined_73
            · refine z_iconst (pc := 68) hX dX8_joined_68 ?_
              refine z_goto (pc := 69) hX 73 dX8_joined_69 (by decide) ?_
              exact z_iret (pc := 73) hX hR hk dX8_joined_73
          · refine z_eq (if_neg h6) ?_
            by_cases h8 : a0 = 10011
            · refine z_eq (if_pos h8) ?_
              refine z_tswIn (pc := 1) hX 74 dX8_joined_1 h8 (by decide) (by decide) rfl (by decide) ?_
              refine z_iload_n (pc := 74) hX 1 dX8_joined_74 rfl rfl ?_
              refine z_if_eq (pc := 75) hX 86 dX8_joined_75 (by decide) (fun h9 => ?_) (fun h9 => ?_)
              · refine z_iconst (pc := 86) hX dX8_joined_86 ?_
                exact z_iret (pc := 87) hX hR hk dX8_joined_87
              · refine z_iload_n (pc := 78) hX 2 dX8_joined_78 rfl rfl ?_
                refine z_if_eq (pc := 79) hX 86 dX8_joined_79 (by decide) (fun h10 => ?_) (fun h10 => ?_)
                · refine z_iconst (pc := 86) hX dX8_joined_86 ?_
                  exact z_iret (pc := 87) hX hR hk dX8_joined_87
                · refine z_iconst (pc := 82) hX dX8_joined_82 ?_
                  refine z_goto (pc := 83) hX 87 dX8_joined_83 (by decide) ?_
                  exact z_iret (pc := 87) hX hR hk dX8_joined_87
            · refine z_eq (if_neg h8) ?_
              refine z_tswOut (pc := 1) hX 88 dX8_joined_1 (by omega) (by decide) ?_
              refine z_iload_n (pc := 88) hX 1 dX8_joined_88 rfl rfl ?_
              refine z_jn (fun K96 eK96 => ?_)
              have hK96 : ∀ (s13 : ZS), Zj X G 96 [] [] s13 (K96 s13) := by
                intro s13
                rw [eK96]
                refine z_iconst (pc := 96) hX dX8_joined_96 ?_
                refine z_goto (pc := 97) hX 101 dX8_joined_97 (by decide) ?_
                exact z_iret (pc := 101) hX hR hk dX8_joined_101
              clear eK96
              refine z_if_ne (pc := 89) hX 96 dX8_joined_89 (by decide) (fun h11 => ?_) (fun h11 => ?_)
              · refine z_pick (lv' := []) [] rfl ?_
                exact hK96 _
              · refine z_iload_n (pc := 92) hX 2 dX8_joined_92 rfl rfl ?_
                refine z_if_eq (pc := 93) hX 100 dX8_joined_93 (by decide) (fun h12 => ?_) (fun h12 => ?_)
                · refine z_iconst (pc := 100) hX dX8_joined_100 ?_
                  exact z_iret (pc := 101) hX hR hk dX8_joined_101
                · refine z_pick (lv' := []) [] rfl ?_
                  exact hK96 _
