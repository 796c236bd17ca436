theorem dX5_init_0 : decode cX5_init 0 = .ok (.aload_n 0, 1) := by decide +kernel
theorem dX5_init_1 : decode cX5_init 1 = .ok (.invokespecial 3, 3) := by decide +kernel
theorem dX5_init_4 : decode cX5_init 4 = .ok (.aload_n 0, 1) := by decide +kernel
theorem dX5_init_5 : decode cX5_init 5 = .ok (.iconst 2, 1) := by decide +kernel
theorem dX5_init_6 : decode cX5_init 6 = .ok (.bipush 24, 2) := by decide +kernel
theorem dX5_init_8 : decode cX5_init 8 = .ok (.multianewarray 9 2, 4) := by decide +kernel
theorem dX5_init_12 : decode cX5_init 12 = .ok (.putfield 11, 3) := by decide +kernel
theorem dX5_init_15 : decode cX5_init 15 = .ok (.aload_n 0, 1) := by decide +kernel
theorem dX5_init_16 : decode cX5_init 16 = .ok (.iconst 2, 1) := by decide +kernel
theorem dX5_init_17 : decode cX5_init 17 = .ok (.bipush 24, 2) := by decide +kernel
theorem dX5_init_19 : decode cX5_init 19 = .ok (.multianewarray 9 2, 4) := by decide +kernel
theorem dX5_init_23 : decode cX5_init 23 = .ok (.putfield 16, 3) := by decide +kernel
theorem dX5_init_26 : decode cX5_init 26 = .ok (.aload_n 0, 1) := by decide +kernel
theorem dX5_init_27 : decode cX5_init 27 = .ok (.iconst 2, 1) := by decide +kernel
theorem dX5_init_28 : decode cX5_init 28 = .ok (.iconst 4, 1) := by decide +kernel
theorem dX5_init_29 : decode cX5_init 29 = .ok (.multianewarray 9 2, 4) := by decide +kernel
theorem dX5_init_33 : decode cX5_init 33 = .ok (.putfield 19, 3) := by decide +kernel
theorem dX5_init_36 : decode cX5_init 36 = .ok (.aload_n 0, 1) := by decide +kernel
theorem dX5_init_37 : decode cX5_init 37 = .ok (.iconst 4, 1) := by decide +kernel
theorem dX5_init_38 : decode cX5_init 38 = .ok (.newarray .int, 2) := by decide +kernel
theorem dX5_init_40 : decode cX5_init 40 = .ok (.putfield 22, 3) := by decide +kernel
theorem dX5_init_43 : decode cX5_init 43 = .ok (.aload_n 0, 1) := by decide +kernel
theorem dX5_init_44 : decode cX5_init 44 = .ok (.iconst 4, 1) := by decide +kernel
theorem dX5_init_45 : decode cX5_init 45 = .ok (.newarray .int, 2) := by decide +kernel
theorem dX5_init_47 : decode cX5_init 47 = .ok (.putfield 26, 3) := by decide +kernel
theorem dX5_init_50 : decode cX5_init 50 = .ok (.aload_n 0, 1) := by decide +kernel
theorem dX5_init_51 : decode cX5_init 51 = .ok (.iconst 0, 1) := by decide +kernel
theorem dX5_init_52 : decode cX5_init 52 = .ok (.putfield 29, 3) := by decide +kernel
theorem dX5_init_55 : decode cX5_init 55 = .ok (.aload_n 0, 1) := by decide +kernel
theorem dX5_init_56 : decode cX5_init 56 = .ok (.bipush 16, 2) := by decide +kernel
theorem dX5_init_58 : decode cX5_init 58 = .ok (.newarray .int, 2) := by decide +kernel
theorem dX5_init_60 : decode cX5_init 60 = .ok (.putfield 33, 3) := by decide +kernel
theorem dX5_init_63 : decode cX5_init 63 = .ok (.aload_n 0, 1) := by decide +kernel
theorem dX5_init_64 : decode cX5_init 64 = .ok (.iconst 0, 1) := by decide +kernel
theorem dX5_init_65 : decode cX5_init 65 = .ok (.putfield 36, 3) := by decide +kernel
theorem dX5_init_68 : decode cX5_init 68 = .ok (.aload_n 0, 1) := by decide +kernel
theorem dX5_init_69 : decode cX5_init 69 = .ok (.iconst 0, 1) := by decide +kernel
theorem dX5_init_70 : decode cX5_init 70 = .ok (.putfield 39, 3) := by decide +kernel
theorem dX5_init_73 : decode cX5_init 73 = .ok (.iconst 0, 1) := by decide +kernel
theorem dX5_init_74 : decode cX5_init 74 = .ok (.istore_n 1, 1) := by decide +kernel
theorem dX5_init_75 : decode cX5_init 75 = .ok (.iload_n 1, 1) := by decide +kernel
theorem dX5_init_76 : decode cX5_init 76 = .ok (.bipush 24, 2) := by decide +kernel
theorem dX5_init_78 : decode cX5_init 78 = .ok (.if_icmp .ge 27, 3) := by decide +kernel
theorem dX5_init_81 : decode cX5_init 81 = .ok (.aload_n 0, 1) := by decide +kernel
theorem dX5_init_82 : decode cX5_init 82 = .ok (.getfield 11, 3) := by decide +kernel
theorem dX5_init_85 : decode cX5_init 85 = .ok (.iconst 0, 1) := by decide +kernel
theorem dX5_init_86 : decode cX5_init 86 = .ok (.aaload, 1) := by decide +kernel
theorem dX5_init_87 : decode cX5_init 87 = .ok (.iload_n 1, 1) := by decide +kernel
theorem dX5_init_88 : decode cX5_init 88 = .ok (.iconst 1, 1) := by decide +kernel
theorem dX5_init_89 : decode cX5_init 89 = .ok (.iastore, 1) := by decide +kernel
theorem dX5_init_90 : decode cX5_init 90 = .ok (.aload_n 0, 1) := by decide +kernel
theorem dX5_init_91 : decode cX5_init 91 = .ok (.getfield 11, 3) := by decide +kernel
theorem dX5_init_94 : decode cX5_init 94 = .ok (.iconst 1, 1) := by decide +kernel
theorem dX5_init_95 : decode cX5_init 95 = .ok (.aaload, 1) := by decide +kernel
theorem dX5_init_96 : decode cX5_init 96 = .ok (.iload_n 1, 1) := by decide +kernel
theorem dX5_init_97 : decode cX5_init 97 = .ok (.iconst 1, 1) := by decide +kernel
theorem dX5_init_98 : decode cX5_init 98 = .ok (.iastore, 1) := by decide +kernel
theorem dX5_init_99 : decode cX5_init 99 = .ok (.iinc 1 1, 3) := by decide +kernel
theorem dX5_init_102 : decode cX5_init 102 = .ok (.goto (-27), 3) := by decide +kernel
theorem dX5_init_105 : decode cX5_init 105 = .ok (.return_, 1) := by decide +kernel
def lX5_init_75 (u14 : Int)  : Nat → ZS → Int → Option (Int × ZS)
  | 0, _, _ => none
  | n1 + 1, s13, x15 => if 24 ≤ x15 then (some (0, s13)) else ((zg s13 5 u14 0).bind (fun v17 => (zal s13 102 v17 0).bind (fun v18 => (zas s13 100 v18 x15 1).bind (fun s19 => (zg s19 5 u14 0).bind (fun v20 => (zal s19 102 v20 1).bind (fun v21 => (zas s19 100 v21 x15 1).bind (fun s22 => lX5_init_75 u14 n1 s22 (wrap (x15 + 1)))))))))

def fX5_init (s0 : ZS) (a0 : Int) : Option (Int × ZS) := if a0 < 0 then none else ((zp (zmul s0 24) 5 a0 0 (sN s0 : Int)).bind (fun s1 => (zp (zmul s1 24) 5 a0 1 (sN s1 : Int)).bind (fun s2 => (zp (zmul s2 4) 5 a0 2 (sN s2 : Int)).bind (fun s3 => (zna s3 100 4).bind (fun s4 => (zp s4 5 a0 3 (sN s3 : Int)).bind (fun s5 => (zna s5 100 4).bind (fun s6 => (zp s6 5 a0 4 (sN s5 : Int)).bind (fun s7 => (zp s7 5 a0 5 0).bind (fun s8 => (zna s8 100 16).bind (fun s9 => (zp s9 5 a0 6 (sN s8 : Int)).bind (fun s10 => (zp s10 5 a0 7 0).bind (fun s11 => (zp s11 5 a0 8 0).bind (fun s12 => lX5_init_75 a0 1000 s12 0)))))))))))))
set_option maxHeartbeats 4000000 in
set_option maxRecDepth 100000 in
theorem mX5_init (E : ZE) (hE : zOkE E) (l : Launch) (s0 : ZS) (a0 : Int) : Ct E l yX5_init cX5_init 2 none 2 [(2, a0)] 0 s0 (fX5_init s0 a0) := by
  refine Ct.of (by decide) hE (Nat.le_of_ble_eq_true rfl) ?_
  intro X G hX hR hN hXE hXl hxn hk _
  subst hXE
  subst hXl
  have hX : G → ZOk X cX5_init RX5 2 := hX
  have hN : G → (xM X).name = "<init>" := hN
  show Zj X G 0 [(0, (2, a0))] [] s0 _
  unfold fX5_init
  refine z_aload_n (pc := 0) hX 0 dX5_init_0 rfl rfl ?_
  refine z_objInit (pc := 1) hX (by decide) wd102 wd89 wd90 (Nat.le_of_ble_eq_true rfl) dX5_init_1 ?_
  refine z_aload_n (pc := 4) hX 0 dX5_init_4 rfl rfl ?_
  refine z_iconst (pc := 5) hX dX5_init_5 ?_
  refine z_bipush (pc := 6) hX dX5_init_6 ?_
  refine z_multi (pc := 8) hX dX5_init_8 wd103 wd149 ⟨by decide, by decide⟩ ?_
  refine z_putA (pc := 12) hX zc5 0 (by decide) wd105 (Or.inr ⟨hN, rfl⟩) rfl rfl (fun _ => rfl) (fun r => zfit_arr _ r _) dX5_init_12 (fun s1 => ?_)
  refine z_aload_n (pc := 15) hX 0 dX5_init_15 rfl rfl ?_
  refine z_iconst (pc := 16) hX dX5_init_16 ?_
  refine z_bipush (pc := 17) hX dX5_init_17 ?_
  refine z_multi (pc := 19) hX dX5_init_19 wd103 wd149 ⟨by decide, by decide⟩ ?_
  refine z_putA (pc := 23) hX zc5 1 (by decide) wd108 (Or.inr ⟨hN, rfl⟩) rfl rfl (fun _ => rfl) (fun r => zfit_arr _ r _) dX5_init_23 (fun s2 => ?_)
  refine z_aload_n (pc := 26) hX 0 dX5_init_26 rfl rfl ?_
  refine z_iconst (pc := 27) hX dX5_init_27 ?_
  refine z_iconst (pc := 28) hX dX5_init_28 ?_
  refine z_multi (pc := 29) hX dX5_init_29 wd103 wd149 ⟨by decide, by decide⟩ ?_
  refine z_putA (pc := 33) hX zc5 2 (by decide) wd111 (Or.inr ⟨hN, rfl⟩) rfl rfl (fun _ => rfl) (fun r => zfit_arr _ r _) dX5_init_33 (fun s3 => ?_)
  refine z_aload_n (pc := 36) hX 0 dX5_init_36 rfl rfl ?_
  refine z_iconst (pc := 37) hX dX5_init_37 ?_
  refine z_newIA (pc := 38) hX dX5_init_38 wd149 (fun s4 => ?_)
  refine z_putA (pc := 40) hX zc5 3 (by decide) wd114 (Or.inr ⟨hN, rfl⟩) rfl rfl (fun _ => rfl) (fun r => zfit_arr _ r _) dX5_init_40 (fun s5 => ?_)
  refine z_aload_n (pc := 43) hX 0 dX5_init_43 rfl rfl ?_
  refine z_iconst (pc := 44) hX dX5_init_44 ?_
  refine z_newIA (pc := 45) hX dX5_init_45 wd149 (fun s6 => ?_)
  refine z_putA (pc := 47) hX zc5 4 (by decide) wd117 (Or.inr ⟨hN, rfl⟩) rfl rfl (fun _ => rfl) (fun r => zfit_arr _ r _) dX5_init_47 (fun s7 => ?_)
  refine z_aload_n (pc := 50) hX 0 dX5_init_50 rfl rfl ?_
  refine z_iconst (pc := 51) hX dX5_init_51 ?_
  refine z_putA (pc := 52) hX zc5 5 (by decide) wd120 (Or.inr ⟨hN, rfl⟩) rfl rfl (fun _ => rfl) (fun _ => rfl) dX5_init_52 (fun s8 => ?_)
  refine z_aload_n (pc := 55) hX 0 dX5_init_55 rfl rfl ?_
  refine z_bipush (pc := 56) hX dX5_init_56 ?_
  refine z_newIA (pc := 58) hX dX5_init_58 wd149 (fun s9 => ?_)
  refine z_putA (pc := 60) hX zc5 6 (by decide) wd122 (Or.inr ⟨hN, rfl⟩) rfl rfl (fun _ => rfl) (fun r => zfit_arr _ r _) dX5_init_60 (fun s10 => ?_)
  refine z_aload_n (pc := 63) hX 0 dX5_init_63 rfl rfl ?_
  refine z_iconst (pc := 64) hX dX5_init_64 ?_
  refine z_putA (pc := 65) hX zc5 7 (by decide) wd125 (Or.inr ⟨hN, rfl⟩) rfl rfl (fun _ => rfl) (fun _ => rfl) dX5_init_65 (fun s11 => ?_)
  refine z_aload_n (pc := 68) hX 0 dX5_init_68 rfl rfl ?_
  refine z_iconst (pc := 69) hX dX5_init_69 ?_
  refine z_putA (pc := 70) hX zc5 8 (by decide) wd127 (Or.inr ⟨hN, rfl⟩) rfl rfl (fun _ => rfl) (fun _ => rfl) dX5_init_70 (fun s12 => ?_)
  refine z_iconst (pc := 73) hX dX5_init_73 ?_
  refine z_istore_n (lv' := [(1, (0, 0)), (0, (2, a0))]) (pc := 74) hX dX5_init_74 rfl (zlt hxn rfl) rfl ?_
  have hl75 : ∀ (u14 : Int), ∀ (n1 : Nat) (s13 : ZS) (x15 : Int), Zj X G 75 [(0, (2, u14)), (1, (0, x15))] [] s13 (lX5_init_75 u14 n1 s13 x15) := by
    intro u14 n1
    induction n1 with
    | zero => intro _ _; exact z_none
    | succ n1 ih1 =>
      intro s13 x15
      rw [lX5_init_75]
      refine z_iload_n (pc := 75) hX 1 dX5_init_75 rfl rfl ?_
      refine z_bipush (pc := 76) hX dX5_init_76 ?_
      refine z_icmp_ge (pc := 78) hX 105 dX5_init_78 (by decide) (fun h16 => ?_) (fun h16 => ?_)
      · exact z_vret (pc := 105) hX hR hk dX5_init_105
      · refine z_aload_n (pc := 81) hX 0 dX5_init_81 rfl rfl ?_
        refine z_get (pc := 82) hX zc5 0 (by decide) wd105 rfl rfl dX5_init_82 (fun v17 => ?_)
        refine z_iconst (pc := 85) hX dX5_init_85 ?_
        refine z_aald (pc := 86) hX 2 102 (by decide) rfl rfl dX5_init_86 (fun v18 => ?_)
        refine z_iload_n (pc := 87) hX 1 dX5_init_87 rfl rfl ?_
        refine z_iconst (pc := 88) hX dX5_init_88 ?_
        refine z_iastA (pc := 89) hX dX5_init_89 (fun s19 => ?_)
        refine z_aload_n (pc := 90) hX 0 dX5_init_90 rfl rfl ?_
        refine z_get (pc := 91) hX zc5 0 (by decide) wd105 rfl rfl dX5_init_91 (fun v20 => ?_)
        refine z_iconst (pc := 94) hX dX5_init_94 ?_
        refine z_aald (pc := 95) hX 2 102 (by decide) rfl rfl dX5_init_95 (fun v21 => ?_)
        refine z_iload_n (pc := 96) hX 1 dX5_init_96 rfl rfl ?_
        refine z_iconst (pc := 97) hX dX5_init_97 ?_
        refine z_iastA (pc := 98) hX dX5_init_98 (fun s22 => ?_)
        refine z_iinc (lv' := [(1, (0, (wrap (x15 + 1)))), (0, (2, u14))]) (pc := 99) hX 1 dX5_init_99 rfl (zlt hxn rfl) rfl ?_
        refine z_goto (pc := 102) hX 75 dX5_init_102 (by decide) ?_
        refine z_pick (lv' := [(0, (2, u14)), (1, (0, (wrap (x15 + 1))))]) [1, 0] rfl ?_
        exact ih1 _ _
  refine z_pick (lv' := [(0, (2, a0)), (1, (0, 0))]) [1, 0] rfl ?_
  refine hl75 _ 1000 _ _

theorem dX2_init_0 : decode cX2_init 0 = .ok (.aload_n 0, 1) := by decide +kernel
theorem dX2_init_1 : decode cX2_init 1 = .ok (.invokespecial 3, 3) := by decide +kernel
theorem dX2_init_4 : decode cX2_init 4 = .ok (.aload_n 0, 1) := by decide +kernel
theorem dX2_init_5 : decode cX2_init 5 = .ok (.new 9, 3) := by decide +kernel
theorem dX2_init_8 : decode cX2_init 8 = .ok (.dup, 1) := by decide +kernel
theorem dX2_init_9 : decode cX2_init 9 = .ok (.invokespecial 11, 3) := by decide +kernel
theorem dX2_init_12 : decode cX2_init 12 = .ok (.putfield 12, 3) := by decide +kernel
theorem dX2_init_15 : decode cX2_init 15 = .ok (.aload_n 0, 1) := by decide +kernel
theorem dX2_init_16 : decode cX2_init 16 = .ok (.bipush 16, 2) := by decide +kernel
theorem dX2_init_18 : decode cX2_init 18 = .ok (.newarray .int, 2) := by decide +kernel
theorem dX2_init_20 : decode cX2_init 20 = .ok (.putfield 18, 3) := by decide +kernel
theorem dX2_init_23 : decode cX2_init 23 = .ok (.aload_n 0, 1) := by decide +kernel
theorem dX2_init_24 : decode cX2_init 24 = .ok (.bipush 16, 2) := by decide +kernel
theorem dX2_init_26 : decode cX2_init 26 = .ok (.newarray .int, 2) := by decide +kernel
theorem dX2_init_28 : decode cX2_init 28 = .ok (.putfield 22, 3) := by decide +kernel
theorem dX2_init_31 : decode cX2_init 31 = .ok (.aload_n 0, 1) := by decide +kernel
theorem dX2_init_32 : decode cX2_init 32 = .ok (.bipush 16, 2) := by decide +kernel
theorem dX2_init_34 : decode cX2_init 34 = .ok (.newarray .int, 2) := by decide +kernel
theorem dX2_init_36 : decode cX2_init 36 = .ok (.putfield 25, 3) := by decide +kernel
theorem dX2_init_39 : decode cX2_init 39 = .ok (.aload_n 0, 1) := by decide +kernel
theorem dX2_init_40 : decode cX2_init 40 = .ok (.iconst 0, 1) := by decide +kernel
theorem dX2_init_41 : decode cX2_init 41 = .ok (.putfield 28, 3) := by decide +kernel
theorem dX2_init_44 : decode cX2_init 44 = .ok (.aload_n 0, 1) := by decide +kernel
theorem dX2_init_45 : decode cX2_init 45 = .ok (.iconst 2, 1) := by decide +kernel
theorem dX2_init_46 : decode cX2_init 46 = .ok (.bipush 16, 2) := by decide +kernel
theorem dX2_init_48 : decode cX2_init 48 = .ok (.multianewarray 32 2, 4) := by decide +kernel
theorem dX2_init_52 : decode cX2_init 52 = .ok (.putfield 34, 3) := by decide +kernel
theorem dX2_init_55 : decode cX2_init 55 = .ok (.aload_n 0, 1) := by decide +kernel
theorem dX2_init_56 : decode cX2_init 56 = .ok (.iconst 2, 1) := by decide +kernel
theorem dX2_init_57 : decode cX2_init 57 = .ok (.bipush 16, 2) := by decide +kernel
theorem dX2_init_59 : decode cX2_init 59 = .ok (.multianewarray 32 2, 4) := by decide +kernel
theorem dX2_init_63 : decode cX2_init 63 = .ok (.putfield 37, 3) := by decide +kernel
theorem dX2_init_66 : decode cX2_init 66 = .ok (.aload_n 0, 1) := by decide +kernel
theorem dX2_init_67 : decode cX2_init 67 = .ok (.iconst 2, 1) := by decide +kernel
theorem dX2_init_68 : decode cX2_init 68 = .ok (.newarray .int, 2) := by decide +kernel
theorem dX2_init_70 : decode cX2_init 70 = .ok (.putfield 40, 3) := by decide +kernel
theorem dX2_init_73 : decode cX2_init 73 = .ok (.aload_n 0, 1) := by decide +kernel
theorem dX2_init_74 : decode cX2_init 74 = .ok (.iconst 2, 1) := by decide +kernel
theorem dX2_init_75 : decode cX2_init 75 = .ok (.bipush 24, 2) := by decide +kernel
theorem dX2_init_77 : decode cX2_init 77 = .ok (.multianewarray 32 2, 4) := by decide +kernel
theorem dX2_init_81 : decode cX2_init 81 = .ok (.putfield 43, 3) := by decide +kernel
theorem dX2_init_84 : decode cX2_init 84 = .ok (.aload_n 0, 1) := by decide +kernel
theorem dX2_init_85 : decode cX2_init 85 = .ok (.bipush 6, 2) := by decide +kernel
theorem dX2_init_87 : decode cX2_init 87 = .ok (.newarray .int, 2) := by decide +kernel
theorem dX2_init_89 : decode cX2_init 89 = .ok (.putfield 48, 3) := by decide +kernel
theorem dX2_init_92 : decode cX2_init 92 = .ok (.aload_n 0, 1) := by decide +kernel
theorem dX2_init_93 : decode cX2_init 93 = .ok (.bipush 64, 2) := by decide +kernel
theorem dX2_init_95 : decode cX2_init 95 = .ok (.newarray .int, 2) := by decide +kernel
theorem dX2_init_97 : decode cX2_init 97 = .ok (.putfield 51, 3) := by decide +kernel
theorem dX2_init_100 : decode cX2_init 100 = .ok (.return_, 1) := by decide +kernel
def fX2_init (s0 : ZS) (a0 : Int) : Option (Int × ZS) := if a0 < 0 then none else (if (sN s0 : Int) < 0 then none else (zb (fX5_init (znew s0 5 9) (sN s0 : Int)) (fun v1 s2 => (zp s2 2 a0 0 (sN s0 : Int)).bind (fun s4 => (zna s4 100 16).bind (fun s5 => (zp s5 2 a0 1 (sN s4 : Int)).bind (fun s6 => (zna s6 100 16).bind (fun s7 => (zp s7 2 a0 2 (sN s6 : Int)).bind (fun s8 => (zna s8 100 16).bind (fun s9 => (zp s9 2 a0 3 (sN s8 : Int)).bind (fun s10 => (zp s10 2 a0 4 0).bind (fun s11 => (zp (zmul s11 16) 2 a0 5 (sN s11 : Int)).bind (fun s12 => (zp (zmul s12 16) 2 a0 6 (sN s12 : Int)).bind (fun s13 => (zna s13 100 2).bind (fun s14 => (zp s14 2 a0 7 (sN s13 : Int)).bind (fun s15 => (zp (zmul s15 24) 2 a0 8 (sN s15 : Int)).bind (fun s16 => (zna s16 100 6).bind (fun s17 => (zp s17 2 a0 9 (sN s16 : Int)).bind (fun s18 => (zna s18 100 64).bind (fun s19 => (zp s19 2 a0 10 (sN s18 : Int)).bind (fun s20 => some (0, s20)))))))))))))))))))))
set_option maxHeartbeats 4000000 in
set_option maxRecDepth 100000 in
theorem mX2_init (E : ZE) (hE : zOkE E) (l : Launch) (s0 : ZS) (a0 : Int) : Ct E l yX2_init cX2_init 1 none 4 [(2, a0)] 0 s0 (fX2_init s0 a0) := by
  refine Ct.of (by decide) hE (Nat.le_of_ble_eq_true rfl) ?_
  intro X G hX hR hN hXE hXl hxn hk _
  subst hXE
  subst hXl
  have hX : G → ZOk X cX2_init RX2 4 := hX
  have hN : G → (xM X).name = "<init>" := hN
  show Zj X G 0 [(0, (2, a0))] [] s0 _
  unfold fX2_init
  refine z_aload_n (pc := 0) hX 0 dX2_init_0 rfl rfl ?_
  refine z_objInit (pc := 1) hX (by decide) wd96 wd89 wd90 (Nat.le_of_ble_eq_true rfl) dX2_init_1 ?_
  refine z_aload_n (pc := 4) hX 0 dX2_init_4 rfl rfl ?_
  refine z_new (pc := 5) hX zc5 (by decide) wd97 wd98 wd63 dX2_init_5 ?_
  refine z_dup (pc := 8) hX zn2 dX2_init_8 ?_
  refine z_callI (n := 0) (st := [(2, (sN s0 : Int)), (2, a0)]) (pc := 9) hX rfl (mX5_init _ hE _ _ _) ⟨wd99, wd63, wd101, ⟨by decide, by decide, by decide⟩, by decide⟩ rfl wd100 rfl rfl (by decide) (Nat.le_of_ble_eq_true rfl) dX2_init_9 (fun v1 s2 r3 => ?_)
  show Zj X G 12 [(0, (2, a0))] [(2, (sN s0 : Int)), (2, a0)] _ _
  refine z_putA (pc := 12) hX zc2 0 (by decide) wd151 (Or.inr ⟨hN, rfl⟩) rfl rfl (fun _ => rfl) (fun r => zfit_obj _ r _) dX2_init_12 (fun s4 => ?_)
  refine z_aload_n (pc := 15) hX 0 dX2_init_15 rfl rfl ?_
  refine z_bipush (pc := 16) hX dX2_init_16 ?_
  refine z_newIA (pc := 18) hX dX2_init_18 wd149 (fun s5 => ?_)
  refine z_putA (pc := 20) hX zc2 1 (by decide) wd153 (Or.inr ⟨hN, rfl⟩) rfl rfl (fun _ => rfl) (fun r => zfit_arr _ r _) dX2_init_20 (fun s6 => ?_)
  refine z_aload_n (pc := 23) hX 0 dX2_init_23 rfl rfl ?_
  refine z_bipush (pc := 24) hX dX2_init_24 ?_
  refine z_newIA (pc := 26) hX dX2_init_26 wd149 (fun s7 => ?_)
  refine z_putA (pc := 28) hX zc2 2 (by decide) wd155 (Or.inr ⟨hN, rfl⟩) rfl rfl (fun _ => rfl) (fun r => zfit_arr _ r _) dX2_init_28 (fun s8 => ?_)
  refine z_aload_n (pc := 31) hX 0 dX2_init_31 rfl rfl ?_
  refine z_bipush (pc := 32) hX dX2_init_32 ?_
  refine z_newIA (pc := 34) hX dX2_init_34 wd149 (fun s9 => ?_)
  refine z_putA (pc := 36) hX zc2 3 (by decide) wd157 (Or.inr ⟨hN, rfl⟩) rfl rfl (fun _ => rfl) (fun r => zfit_arr _ r _) dX2_init_36 (fun s10 => ?_)
  refine z_aload_n (pc := 39) hX 0 dX2_init_39 rfl rfl ?_
  refine z_iconst (pc := 40) hX dX2_init_40 ?_
  refine z_putA (pc := 41) hX zc2 4 (by decide) wd159 (Or.inr ⟨hN, rfl⟩) rfl rfl (fun _ => rfl) (fun _ => rfl) dX2_init_41 (fun s11 => ?_)
  refine z_aload_n (pc := 44) hX 0 dX2_init_44 rfl rfl ?_
  refine z_iconst (pc := 45) hX dX2_init_45 ?_
  refine z_bipush (pc := 46) hX dX2_init_46 ?_
  refine z_multi (pc := 48) hX dX2_init_48 wd150 wd149 ⟨by decide, by decide⟩ ?_
  refine z_putA (pc := 52) hX zc2 5 (by decide) wd161 (Or.inr ⟨hN, rfl⟩) rfl rfl (fun _ => rfl) (fun r => zfit_arr _ r _) dX2_init_52 (fun s12 => ?_)
  refine z_aload_n (pc := 55) hX 0 dX2_init_55 rfl rfl ?_
  refine z_iconst (pc := 56) hX dX2_init_56 ?_
  refine z_bipush (pc := 57) hX dX2_init_57 ?_
  refine z_multi (pc := 59) hX dX2_init_59 wd150 wd149 ⟨by decide, by decide⟩ ?_
  refine z_putA (pc := 63) hX zc2 6 (by decide) wd162 (Or.inr ⟨hN, rfl⟩) rfl rfl (fun _ => rfl) (fun r => zfit_arr _ r _) dX2_init_63 (fun s13 => ?_)
  refine z_aload_n (pc := 66) hX 0 dX2_init_66 rfl rfl ?_
  refine z_iconst (pc := 67) hX dX2_init_67 ?_
  refine z_newIA (pc := 68) hX dX2_init_68 wd149 (fun s14 => ?_)
  refine z_putA (pc := 70) hX zc2 7 (by decide) wd163 (Or.inr ⟨hN, rfl⟩) rfl rfl (fun _ => rfl) (fun r => zfit_arr _ r _) dX2_init_70 (fun s15 => ?_)
  refine z_aload_n (pc := 73) hX 0 dX2_init_73 rfl rfl ?_
  refine z_iconst (pc := 74) hX dX2_init_74 ?_
  refine z_bipush (pc := 75) hX dX2_init_75 ?_
  refine z_multi (pc := 77) hX dX2_init_77 wd150 wd149 ⟨by decide, by decide⟩ ?_
  refine z_putA (pc := 81) hX zc2 8 (by decide) wd164 (Or.inr ⟨hN, rfl⟩) rfl rfl (fun _ => rfl) (fun r => zfit_arr _ r _) dX2_init_81 (fun s16 => ?_)
  refine z_aload_n (pc := 84) hX 0 dX2_init_84 rfl rfl ?_
  refine z_bipush (pc := 85) hX dX2_init_85 ?_
  refine z_newIA (pc := 87) hX dX2_init_87 wd149 (fun s17 => ?_)
  refine z_putA (pc := 89) hX zc2 9 (by decide) wd165 (Or.inr ⟨hN, rfl⟩) rfl rfl (fun _ => rfl) (fun r => zfit_arr _ r _) dX2_init_89 (fun s18 => ?_)
  refine z_aload_n (pc := 92) hX 0 dX2_init_92 rfl rfl ?_
  refine z_bipush (pc := 93) hX dX2_init_93 ?_
  refine z_newIA (pc := 95) hX dX2_init_95 wd149 (fun s19 => ?_)
  refine z_putA (pc := 97) hX zc2 10 (by decide) wd166 (Or.inr ⟨hN, rfl⟩) rfl rfl (fun _ => rfl) (fun r => zfit_arr _ r _) dX2_init_97 (fun s20 => ?_)
  exact z_vret (pc := 100) hX hR hk dX2_init_100

theorem dX4_init_0 : decode cX4_init 0 = .ok (.aload_n 0, 1) := by decide +kernel
theorem dX4_init_1 : decode cX4_init 1 = .ok (.invokespecial 7, 3) := by decide +kernel
theorem dX4_init_4 : decode cX4_init 4 = .ok (.aload_n 0, 1) := by decide +kernel
theorem dX4_init_5 : decode cX4_init 5 = .ok (.sipush 160, 3) := by decide +kernel
theorem dX4_init_8 : decode cX4_init 8 = .ok (.newarray .int, 2) := by decide +kernel
theorem dX4_init_10 : decode cX4_init 10 = .ok (.putfield 13, 3) := by decide +kernel
theorem dX4_init_13 : decode cX4_init 13 = .ok (.aload_n 0, 1) := by decide +kernel
theorem dX4_init_14 : decode cX4_init 14 = .ok (.iconst 0, 1) := by decide +kernel
theorem dX4_init_15 : decode cX4_init 15 = .ok (.putfield 17, 3) := by decide +kernel
theorem dX4_init_18 : decode cX4_init 18 = .ok (.aload_n 0, 1) := by decide +kernel
theorem dX4_init_19 : decode cX4_init 19 = .ok (.iconst (-1), 1) := by decide +kernel
theorem dX4_init_20 : decode cX4_init 20 = .ok (.putfield 21, 3) := by decide +kernel
theorem dX4_init_23 : decode cX4_init 23 = .ok (.aload_n 0, 1) := by decide +kernel
theorem dX4_init_24 : decode cX4_init 24 = .ok (.sipush 161, 3) := by decide +kernel
theorem dX4_init_27 : decode cX4_init 27 = .ok (.newarray .int, 2) := by decide +kernel
theorem dX4_init_29 : decode cX4_init 29 = .ok (.putfield 24, 3) := by decide +kernel
theorem dX4_init_32 : decode cX4_init 32 = .ok (.aload_n 0, 1) := by decide +kernel
theorem dX4_init_33 : decode cX4_init 33 = .ok (.sipush 161, 3) := by decide +kernel
theorem dX4_init_36 : decode cX4_init 36 = .ok (.newarray .int, 2) := by decide +kernel
theorem dX4_init_38 : decode cX4_init 38 = .ok (.putfield 27, 3) := by decide +kernel
theorem dX4_init_41 : decode cX4_init 41 = .ok (.aload_n 0, 1) := by decide +kernel
theorem dX4_init_42 : decode cX4_init 42 = .ok (.iconst 0, 1) := by decide +kernel
theorem dX4_init_43 : decode cX4_init 43 = .ok (.putfield 30, 3) := by decide +kernel
theorem dX4_init_46 : decode cX4_init 46 = .ok (.aload_n 0, 1) := by decide +kernel
theorem dX4_init_47 : decode cX4_init 47 = .ok (.iconst 0, 1) := by decide +kernel
theorem dX4_init_48 : decode cX4_init 48 = .ok (.putfield 33, 3) := by decide +kernel
theorem dX4_init_51 : decode cX4_init 51 = .ok (.aload_n 0, 1) := by decide +kernel
theorem dX4_init_52 : decode cX4_init 52 = .ok (.sipush 160, 3) := by decide +kernel
theorem dX4_init_55 : decode cX4_init 55 = .ok (.newarray .int, 2) := by decide +kernel
theorem dX4_init_57 : decode cX4_init 57 = .ok (.putfield 36, 3) := by decide +kernel
theorem dX4_init_60 : decode cX4_init 60 = .ok (.aload_n 0, 1) := by decide +kernel
theorem dX4_init_61 : decode cX4_init 61 = .ok (.iconst 0, 1) := by decide +kernel
theorem dX4_init_62 : decode cX4_init 62 = .ok (.putfield 39, 3) := by decide +kernel
theorem dX4_init_65 : decode cX4_init 65 = .ok (.return_, 1) := by decide +kernel
def fX4_init (s0 : ZS) (a0 : Int) : Option (Int × ZS) := if a0 < 0 then none else ((zna s0 100 160).bind (fun s1 => (zp s1 4 a0 0 (sN s0 : Int)).bind (fun s2 => (zp s2 4 a0 1 0).bind (fun s3 => (zp s3 4 a0 2 (-1)).bind (fun s4 => (zna s4 100 161).bind (fun s5 => (zp s5 4 a0 3 (sN s4 : Int)).bind (fun s6 => (zna s6 100 161).bind (fun s7 => (zp s7 4 a0 4 (sN s6 : Int)).bind (fun s8 => (zp s8 4 a0 5 0).bind (fun s9 => (zp s9 4 a0 6 0).bind (fun s10 => (zna s10 100 160).bind (fun s11 => (zp s11 4 a0 7 (sN s10 : Int)).bind (fun s12 => (zp s12 4 a0 8 0).bind (fun s13 => some (0, s13)))))))))))))))
set_option maxHeartbeats 4000000 in
set_option maxRecDepth 100000 in
theorem mX4_init (E : ZE) (hE : zOkE E) (l : Launch) (s0 : ZS) (a0 : Int) : Ct E l yX4_init cX4_init 1 none 2 [(2, a0)] 0 s0 (fX4_init s0 a0) := by
  refine Ct.of (by decide) hE (Nat.le_of_ble_eq_true rfl) ?_
  intro X G hX hR hN hXE hXl hxn hk _
  subst hXE
  subst hXl
  have hX : G → ZOk X cX4_init RX4 2 := hX
  have hN : G → (xM X).name = "<init>" := hN
  show Zj X G 0 [(0, (2, a0))] [] s0 _
  unfold fX4_init
  refine z_aload_n (pc := 0) hX 0 dX4_init_0 rfl rfl ?_
  refine z_objInit (pc := 1) hX (by decide) wd197 wd89 wd90 (Nat.le_of_ble_eq_true rfl) dX4_init_1 ?_
  refine z_aload_n (pc := 4) hX 0 dX4_init_4 rfl rfl ?_
  refine z_sipush (pc := 5) hX dX4_init_5 ?_
  refine z_newIA (pc := 8) hX dX4_init_8 wd149 (fun s1 => ?_)
  refine z_putA (pc := 10) hX zc4 0 (by decide) wd198 (Or.inr ⟨hN, rfl⟩) rfl rfl (fun _ => rfl) (fun r => zfit_arr _ r _) dX4_init_10 (fun s2 => ?_)
  refine z_aload_n (pc := 13) hX 0 dX4_init_13 rfl rfl ?_
  refine z_iconst (pc := 14) hX dX4_init_14 ?_
  refine z_putA (pc := 15) hX zc4 1 (by decide) wd199 (Or.inr ⟨hN, rfl⟩) rfl rfl (fun _ => rfl) (fun _ => rfl) dX4_init_15 (fun s3 => ?_)
  refine z_aload_n (pc := 18) hX 0 dX4_init_18 rfl rfl ?_
  refine z_iconst (pc := 19) hX dX4_init_19 ?_
  refine z_putA (pc := 20) hX zc4 2 (by decide) wd201 (Or.inr ⟨hN, rfl⟩) rfl rfl (fun _ => rfl) (fun _ => rfl) dX4_init_20 (fun s4 => ?_)
  refine z_aload_n (pc := 23) hX 0 dX4_init_23 rfl rfl ?_
  refine z_sipush (pc := 24) hX dX4_init_24 ?_
  refine z_newIA (pc := 27) hX dX4_init_27 wd149 (fun s5 => ?_)
  refine z_putA (pc := 29) hX zc4 3 (by decide) wd203 (Or.inr ⟨hN, rfl⟩) rfl rfl (fun _ => rfl) (fun r => zfit_arr _ r _) dX4_init_29 (fun s6 => ?_)
  refine z_aload_n (pc := 32) hX 0 dX4_init_32 rfl rfl ?_
  refine z_sipush (pc := 33) hX dX4_init_33 ?_
  refine z_newIA (pc := 36) hX dX4_init_36 wd149 (fun s7 => ?_)
  refine z_putA (pc := 38) hX zc4 4 (by decide) wd204 (Or.inr ⟨hN, rfl⟩) rfl rfl (fun _ => rfl) (fun r => zfit_arr _ r _) dX4_init_38 (fun s8 => ?_)
  refine z_aload_n (pc := 41) hX 0 dX4_init_41 rfl rfl ?_
  refine z_iconst (pc := 42) hX dX4_init_42 ?_
  refine z_putA (pc := 43) hX zc4 5 (by decide) wd205 (Or.inr ⟨hN, rfl⟩) rfl rfl (fun _ => rfl) (fun _ => rfl) dX4_init_43 (fun s9 => ?_)
  refine z_aload_n (pc := 46) hX 0 dX4_init_46 rfl rfl ?_
  refine z_iconst (pc := 47) hX dX4_init_47 ?_
  refine z_putA (pc := 48) hX zc4 6 (by decide) wd206 (Or.inr ⟨hN, rfl⟩) rfl rfl (fun _ => rfl) (fun _ => rfl) dX4_init_48 (fun s10 => ?_)
  refine z_aload_n (pc := 51) hX 0 dX4_init_51 rfl rfl ?_
  refine z_sipush (pc := 52) hX dX4_init_52 ?_
  refine z_newIA (pc := 55) hX dX4_init_55 wd149 (fun s11 => ?_)
  refine z_putA (pc := 57) hX zc4 7 (by decide) wd207 (Or.inr ⟨hN, rfl⟩) rfl rfl (fun _ => rfl) (fun r => zfit_arr _ r _) dX4_init_57 (fun s12 => ?_)
  refine z_aload_n (pc := 60) hX 0 dX4_init_60 rfl rfl ?_
  refine z_iconst (pc := 61) hX dX4_init_61 ?_
  refine z_putA (pc := 62) hX zc4 8 (by decide) wd208 (Or.inr ⟨hN, rfl⟩) rfl rfl (fun _ => rfl) (fun _ => rfl) dX4_init_62 (fun s13 => ?_)
  exact z_vret (pc := 65) hX hR hk dX4_init_65

theorem dX8_init_0 : decode cX8_init 0 = .ok (.aload_n 0, 1) := by decide +kernel
theorem dX8_init_1 : decode cX8_init 1 = .ok (.invokespecial 3, 3) := by decide +kernel
theorem dX8_init_4 : decode cX8_init 4 = .ok (.aload_n 0, 1) := by decide +kernel
theorem dX8_init_5 : decode cX8_init 5 = .ok (.aload_n 1, 1) := by decide +kernel
theorem dX8_init_6 : decode cX8_init 6 = .ok (.putfield 9, 3) := by decide +kernel
theorem dX8_init_9 : decode cX8_init 9 = .ok (.aload_n 0, 1) := by decide +kernel
theorem dX8_init_10 : decode cX8_init 10 = .ok (.aload_n 2, 1) := by decide +kernel
theorem dX8_init_11 : decode cX8_init 11 = .ok (.putfield 13, 3) := by decide +kernel
theorem dX8_init_14 : decode cX8_init 14 = .ok (.return_, 1) := by decide +kernel
def fX8_init (s0 : ZS) (a0 : Int) (a1 : Int) (a2 : Int) : Option (Int × ZS) := if a0 < 0 then none else ((zp s0 8 a0 0 a1).bind (fun s1 => (zp s1 8 a0 1 a2).bind (fun s2 => some (0, s2))))
set_option maxHeartbeats 4000000 in
set_option maxRecDepth 100000 in
theorem mX8_init (E : ZE) (hE : zOkE E) (l : Launch) (s0 : ZS) (a0 : Int) (a1 : Int) (a2 : Int) : Ct E l yX8_init cX8_init 3 none 2 [(2, a0), (2, a1), (2, a2)] 0 s0 (fX8_init s0 a0 a1 a2) := by
  refine Ct.of (by decide) hE (Nat.le_of_ble_eq_true rfl) ?_
  intro X G hX hR hN hXE hXl hxn hk _
  subst hXE
  subst hXl
  have hX : G → ZOk X cX8_init RX8 2 := hX
  have hN : G → (xM X).name = "<init>" := hN
  show Zj X G 0 [(0, (2, a0)), (1, (2, a1)), (2, (2, a2))] [] s0 _
  unfold fX8_init
  refine z_aload_n (pc := 0) hX 0 dX8_init_0 rfl rfl ?_
  refine z_objInit (pc := 1) hX (by decide) wd242 wd89 wd90 (Nat.le_of_ble_eq_true rfl) dX8_init_1 ?_
  refine z_aload_n (pc := 4) hX 0 dX8_init_4 rfl rfl ?_
  refine z_aload_n (pc := 5) hX 1 dX8_init_5 rfl rfl ?_
  refine z_putA (pc := 6) hX zc8 0 (by decide) wd243 (Or.inr ⟨hN, rfl⟩) rfl rfl (fun _ => rfl) (fun r => zfit_arr _ r _) dX8_init_6 (fun s1 => ?_)
  refine z_aload_n (pc := 9) hX 0 dX8_init_9 rfl rfl ?_
  refine z_aload_n (pc := 10) hX 2 dX8_init_10 rfl rfl ?_
  refine z_putA (pc := 11) hX zc8 1 (by decide) wd245 (Or.inr ⟨hN, rfl⟩) rfl rfl (fun _ => rfl) (fun r => zfit_arr _ r _) dX8_init_11 (fun s2 => ?_)
  exact z_vret (pc := 14) hX hR hk dX8_init_14

theorem dX6_init_0 : decode cX6_init 0 = .ok (.aload_n 0, 1) := by decide +kernel
theorem dX6_init_1 : decode cX6_init 1 = .ok (.invokespecial 3, 3) := by decide +kernel
theorem dX6_init_4 : decode cX6_init 4 = .ok (.aload_n 0, 1) := by decide +kernel
theorem dX6_init_5 : decode cX6_init 5 = .ok (.bipush 40, 2) := by decide +kernel
theorem dX6_init_7 : decode cX6_init 7 = .ok (.newarray .int, 2) := by decide +kernel
theorem dX6_init_9 : decode cX6_init 9 = .ok (.putfield 9, 3) := by decide +kernel
theorem dX6_init_12 : decode cX6_init 12 = .ok (.aload_n 0, 1) := by decide +kernel
theorem dX6_init_13 : decode cX6_init 13 = .ok (.iconst (-1), 1) := by decide +kernel
theorem dX6_init_14 : decode cX6_init 14 = .ok (.putfield 15, 3) := by decide +kernel
theorem dX6_init_17 : decode cX6_init 17 = .ok (.aload_n 0, 1) := by decide +kernel
theorem dX6_init_18 : decode cX6_init 18 = .ok (.iconst 0, 1) := by decide +kernel
theorem dX6_init_19 : decode cX6_init 19 = .ok (.putfield 19, 3) := by decide +kernel
theorem dX6_init_22 : decode cX6_init 22 = .ok (.return_, 1) := by decide +kernel
def fX6_init (s0 : ZS) (a0 : Int) : Option (Int × ZS) := if a0 < 0 then none else ((zna s0 100 40).bind (fun s1 => (zp s1 6 a0 0 (sN s0 : Int)).bind (fun s2 => (zp s2 6 a0 1 (-1)).bind (fun s3 => (zp s3 6 a0 2 0).bind (fun s4 => some (0, s4))))))
set_option maxHeartbeats 4000000 in
set_option maxRecDepth 100000 in
theorem mX6_init (E : ZE) (hE : zOkE E) (l : Launch) (s0 : ZS) (a0 : Int) : Ct E l yX6_init cX6_init 1 none 2 [(2, a0)] 0 s0 (fX6_init s0 a0) := by
  refine Ct.of (by decide) hE (Nat.le_of_ble_eq_true rfl) ?_
  intro X G hX hR hN hXE hXl hxn hk _
  subst hXE
  subst hXl
  have hX : G → ZOk X cX6_init RX6 2 := hX
  have hN : G → (xM X).name = "<init>" := hN
  show Zj X G 0 [(0, (2, a0))] [] s0 _
  unfold fX6_init
  refine z_aload_n (pc := 0) hX 0 dX6_init_0 rfl rfl ?_
  refine z_objInit (pc := 1) hX (by decide) wd256 wd89 wd90 (Nat.le_of_ble_eq_true rfl) dX6_init_1 ?_
  refine z_aload_n (pc := 4) hX 0 dX6_init_4 rfl rfl ?_
  refine z_bipush (pc := 5) hX dX6_init_5 ?_
  refine z_newIA (pc := 7) hX dX6_init_7 wd149 (fun s1 => ?_)
  refine z_putA (pc := 9) hX zc6 0 (by decide) wd257 (Or.inr ⟨hN, rfl⟩) rfl rfl (fun _ => rfl) (fun r => zfit_arr _ r _) dX6_init_9 (fun s2 => ?_)
  refine z_aload_n (pc := 12) hX 0 dX6_init_12 rfl rfl ?_
  refine z_iconst (pc := 13) hX dX6_init_13 ?_
  refine z_putA (pc := 14) hX zc6 1 (by decide) wd259 (Or.inr ⟨hN, rfl⟩) rfl rfl (fun _ => rfl) (fun _ => rfl) dX6_init_14 (fun s3 => ?_)
  refine z_aload_n (pc := 17) hX 0 dX6_init_17 rfl rfl ?_
  refine z_iconst (pc := 18) hX dX6_init_18 ?_
  refine z_putA (pc := 19) hX zc6 2 (by decide) wd261 (Or.inr ⟨hN, rfl⟩) rfl rfl (fun _ => rfl) (fun _ => rfl) dX6_init_19 (fun s4 => ?_)
  exact z_vret (pc := 22) hX hR hk dX6_init_22
