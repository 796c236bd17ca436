theorem dX11_init_0 : decode cX11_init 0 = .ok (.aload_n 0, 1) := by decide +kernel
theorem dX11_init_1 : decode cX11_init 1 = .ok (.invokespecial 1, 3) := by decide +kernel
theorem dX11_init_4 : decode cX11_init 4 = .ok (.aload_n 0, 1) := by decide +kernel
theorem dX11_init_5 : decode cX11_init 5 = .ok (.new 7, 3) := by decide +kernel
theorem dX11_init_8 : decode cX11_init 8 = .ok (.dup, 1) := by decide +kernel
theorem dX11_init_9 : decode cX11_init 9 = .ok (.invokespecial 9, 3) := by decide +kernel
theorem dX11_init_12 : decode cX11_init 12 = .ok (.putfield 10, 3) := by decide +kernel
theorem dX11_init_15 : decode cX11_init 15 = .ok (.aload_n 0, 1) := by decide +kernel
theorem dX11_init_16 : decode cX11_init 16 = .ok (.aload_n 0, 1) := by decide +kernel
theorem dX11_init_17 : decode cX11_init 17 = .ok (.getfield 10, 3) := by decide +kernel
theorem dX11_init_20 : decode cX11_init 20 = .ok (.getfield 16, 3) := by decide +kernel
theorem dX11_init_23 : decode cX11_init 23 = .ok (.putfield 20, 3) := by decide +kernel
theorem dX11_init_26 : decode cX11_init 26 = .ok (.aload_n 0, 1) := by decide +kernel
theorem dX11_init_27 : decode cX11_init 27 = .ok (.bipush 8, 2) := by decide +kernel
theorem dX11_init_29 : decode cX11_init 29 = .ok (.anewarray 21, 3) := by decide +kernel
theorem dX11_init_32 : decode cX11_init 32 = .ok (.putfield 23, 3) := by decide +kernel
theorem dX11_init_35 : decode cX11_init 35 = .ok (.aload_n 0, 1) := by decide +kernel
theorem dX11_init_36 : decode cX11_init 36 = .ok (.iconst 0, 1) := by decide +kernel
theorem dX11_init_37 : decode cX11_init 37 = .ok (.putfield 27, 3) := by decide +kernel
theorem dX11_init_40 : decode cX11_init 40 = .ok (.aload_n 0, 1) := by decide +kernel
theorem dX11_init_41 : decode cX11_init 41 = .ok (.new 31, 3) := by decide +kernel
theorem dX11_init_44 : decode cX11_init 44 = .ok (.dup, 1) := by decide +kernel
theorem dX11_init_45 : decode cX11_init 45 = .ok (.invokespecial 33, 3) := by decide +kernel
theorem dX11_init_48 : decode cX11_init 48 = .ok (.putfield 34, 3) := by decide +kernel
theorem dX11_init_51 : decode cX11_init 51 = .ok (.aload_n 0, 1) := by decide +kernel
theorem dX11_init_52 : decode cX11_init 52 = .ok (.bipush 6, 2) := by decide +kernel
theorem dX11_init_54 : decode cX11_init 54 = .ok (.anewarray 38, 3) := by decide +kernel
theorem dX11_init_57 : decode cX11_init 57 = .ok (.putfield 40, 3) := by decide +kernel
theorem dX11_init_60 : decode cX11_init 60 = .ok (.aload_n 0, 1) := by decide +kernel
theorem dX11_init_61 : decode cX11_init 61 = .ok (.iconst 1, 1) := by decide +kernel
theorem dX11_init_62 : decode cX11_init 62 = .ok (.putfield 44, 3) := by decide +kernel
theorem dX11_init_65 : decode cX11_init 65 = .ok (.aload_n 0, 1) := by decide +kernel
theorem dX11_init_66 : decode cX11_init 66 = .ok (.iconst 0, 1) := by decide +kernel
theorem dX11_init_67 : decode cX11_init 67 = .ok (.putfield 47, 3) := by decide +kernel
theorem dX11_init_70 : decode cX11_init 70 = .ok (.aload_n 0, 1) := by decide +kernel
theorem dX11_init_71 : decode cX11_init 71 = .ok (.iconst 4, 1) := by decide +kernel
theorem dX11_init_72 : decode cX11_init 72 = .ok (.anewarray 50, 3) := by decide +kernel
theorem dX11_init_75 : decode cX11_init 75 = .ok (.putfield 52, 3) := by decide +kernel
theorem dX11_init_78 : decode cX11_init 78 = .ok (.aload_n 0, 1) := by decide +kernel
theorem dX11_init_79 : decode cX11_init 79 = .ok (.new 56, 3) := by decide +kernel
theorem dX11_init_82 : decode cX11_init 82 = .ok (.dup, 1) := by decide +kernel
theorem dX11_init_83 : decode cX11_init 83 = .ok (.invokespecial 58, 3) := by decide +kernel
theorem dX11_init_86 : decode cX11_init 86 = .ok (.putfield 59, 3) := by decide +kernel
theorem dX11_init_89 : decode cX11_init 89 = .ok (.aload_n 0, 1) := by decide +kernel
theorem dX11_init_90 : decode cX11_init 90 = .ok (.iconst 0, 1) := by decide +kernel
theorem dX11_init_91 : decode cX11_init 91 = .ok (.putfield 62, 3) := by decide +kernel
theorem dX11_init_94 : decode cX11_init 94 = .ok (.aload_n 0, 1) := by decide +kernel
theorem dX11_init_95 : decode cX11_init 95 = .ok (.iconst 0, 1) := by decide +kernel
theorem dX11_init_96 : decode cX11_init 96 = .ok (.putfield 66, 3) := by decide +kernel
theorem dX11_init_99 : decode cX11_init 99 = .ok (.aload_n 0, 1) := by decide +kernel
theorem dX11_init_100 : decode cX11_init 100 = .ok (.iconst 0, 1) := by decide +kernel
theorem dX11_init_101 : decode cX11_init 101 = .ok (.putfield 69, 3) := by decide +kernel
theorem dX11_init_104 : decode cX11_init 104 = .ok (.aload_n 0, 1) := by decide +kernel
theorem dX11_init_105 : decode cX11_init 105 = .ok (.iconst 0, 1) := by decide +kernel
theorem dX11_init_106 : decode cX11_init 106 = .ok (.putfield 72, 3) := by decide +kernel
theorem dX11_init_109 : decode cX11_init 109 = .ok (.aload_n 0, 1) := by decide +kernel
theorem dX11_init_110 : decode cX11_init 110 = .ok (.bipush 16, 2) := by decide +kernel
theorem dX11_init_112 : decode cX11_init 112 = .ok (.newarray .int, 2) := by decide +kernel
theorem dX11_init_114 : decode cX11_init 114 = .ok (.putfield 75, 3) := by decide +kernel
theorem dX11_init_117 : decode cX11_init 117 = .ok (.aload_n 0, 1) := by decide +kernel
theorem dX11_init_118 : decode cX11_init 118 = .ok (.iconst (-1), 1) := by decide +kernel
theorem dX11_init_119 : decode cX11_init 119 = .ok (.putfield 79, 3) := by decide +kernel
theorem dX11_init_122 : decode cX11_init 122 = .ok (.aload_n 0, 1) := by decide +kernel
theorem dX11_init_123 : decode cX11_init 123 = .ok (.iconst 0, 1) := by decide +kernel
theorem dX11_init_124 : decode cX11_init 124 = .ok (.putfield 82, 3) := by decide +kernel
theorem dX11_init_127 : decode cX11_init 127 = .ok (.aload_n 0, 1) := by decide +kernel
theorem dX11_init_128 : decode cX11_init 128 = .ok (.getfield 40, 3) := by decide +kernel
theorem dX11_init_131 : decode cX11_init 131 = .ok (.iconst 0, 1) := by decide +kernel
theorem dX11_init_132 : decode cX11_init 132 = .ok (.new 38, 3) := by decide +kernel
theorem dX11_init_135 : decode cX11_init 135 = .ok (.dup, 1) := by decide +kernel
theorem dX11_init_136 : decode cX11_init 136 = .ok (.getstatic 85, 3) := by decide +kernel
theorem dX11_init_139 : decode cX11_init 139 = .ok (.getstatic 88, 3) := by decide +kernel
theorem dX11_init_142 : decode cX11_init 142 = .ok (.invokespecial 91, 3) := by decide +kernel
theorem dX11_init_145 : decode cX11_init 145 = .ok (.aastore, 1) := by decide +kernel
theorem dX11_init_146 : decode cX11_init 146 = .ok (.iconst 0, 1) := by decide +kernel
theorem dX11_init_147 : decode cX11_init 147 = .ok (.istore_n 1, 1) := by decide +kernel
theorem dX11_init_148 : decode cX11_init 148 = .ok (.iload_n 1, 1) := by decide +kernel
theorem dX11_init_149 : decode cX11_init 149 = .ok (.iconst 4, 1) := by decide +kernel
theorem dX11_init_150 : decode cX11_init 150 = .ok (.if_icmp .ge 22, 3) := by decide +kernel
theorem dX11_init_153 : decode cX11_init 153 = .ok (.aload_n 0, 1) := by decide +kernel
theorem dX11_init_154 : decode cX11_init 154 = .ok (.getfield 52, 3) := by decide +kernel
theorem dX11_init_157 : decode cX11_init 157 = .ok (.iload_n 1, 1) := by decide +kernel
theorem dX11_init_158 : decode cX11_init 158 = .ok (.new 50, 3) := by decide +kernel
theorem dX11_init_161 : decode cX11_init 161 = .ok (.dup, 1) := by decide +kernel
theorem dX11_init_162 : decode cX11_init 162 = .ok (.invokespecial 94, 3) := by decide +kernel
theorem dX11_init_165 : decode cX11_init 165 = .ok (.aastore, 1) := by decide +kernel
theorem dX11_init_166 : decode cX11_init 166 = .ok (.iinc 1 1, 3) := by decide +kernel
theorem dX11_init_169 : decode cX11_init 169 = .ok (.goto (-21), 3) := by decide +kernel
theorem dX11_init_172 : decode cX11_init 172 = .ok (.return_, 1) := by decide +kernel
def lX11_init_148 (u39 : Int)  : Nat → ZS → Int → Option (Int × ZS)
  | 0, _, _ => none
  | n1 + 1, s38, x40 => if 4 ≤ x40 then (some (0, s38)) else ((zg s38 11 u39 8).bind (fun v42 => if (sN s38 : Int) < 0 then none else (zb (fX6_init (znew s38 6 3) (sN s38 : Int)) (fun v43 s44 => (zar s44 105 v42 x40 okS (sN s38 : Int)).bind (fun s46 => lX11_init_148 u39 n1 s46 (wrap (x40 + 1)))))))

def fX11_init (s0 : ZS) (a0 : Int) : Option (Int × ZS) := if a0 < 0 then none else (if (sN s0 : Int) < 0 then none else (zb (fX2_init (znew s0 2 11) (sN s0 : Int)) (fun v1 s2 => (zp s2 11 a0 0 (sN s0 : Int)).bind (fun s4 => (zg s4 11 a0 0).bind (fun v5 => (zg s4 2 v5 0).bind (fun v6 => (zp s4 11 a0 1 v6).bind (fun s7 => (zna s7 103 8).bind (fun s8 => (zp s8 11 a0 2 (sN s7 : Int)).bind (fun s9 => (zp s9 11 a0 3 0).bind (fun s10 => if (sN s10 : Int) < 0 then none else (zb (fX4_init (znew s10 4 9) (sN s10 : Int)) (fun v11 s12 => (zp s12 11 a0 4 (sN s10 : Int)).bind (fun s14 => (zna s14 104 6).bind (fun s15 => (zp s15 11 a0 5 (sN s14 : Int)).bind (fun s16 => (zp s16 11 a0 6 1).bind (fun s17 => (zp s17 11 a0 7 0).bind (fun s18 => (zna s18 105 4).bind (fun s19 => (zp s19 11 a0 8 (sN s18 : Int)).bind (fun s20 => if (sN s20 : Int) < 0 then none else (zb (fX5_init (znew s20 5 9) (sN s20 : Int)) (fun v21 s22 => (zp s22 11 a0 9 (sN s20 : Int)).bind (fun s24 => (zp s24 11 a0 10 0).bind (fun s25 => (zp s25 11 a0 11 0).bind (fun s26 => (zp s26 11 a0 12 0).bind (fun s27 => (zp s27 11 a0 13 0).bind (fun s28 => (zna s28 100 16).bind (fun s29 => (zp s29 11 a0 14 (sN s28 : Int)).bind (fun s30 => (zp s30 11 a0 15 (-1)).bind (fun s31 => (zp s31 11 a0 16 0).bind (fun s32 => (zg s32 11 a0 5).bind (fun v33 => if (sN s32 : Int) < 0 then none else (zb (fX8_init (znew s32 8 2) (sN s32 : Int) 0 1) (fun v34 s35 => (zar s35 104 v33 0 okT (sN s32 : Int)).bind (fun s37 => lX11_init_148 a0 1000 s37 0))))))))))))))))))))))))))))))))))
set_option maxHeartbeats 4000000 in
set_option maxRecDepth 100000 in
theorem mX11_init (E : ZE) (hE : zOkE E) (l : Launch) (s0 : ZS) (a0 : Int) : Ct E l yX11_init cX11_init 2 none 6 [(2, a0)] 0 s0 (fX11_init s0 a0) := by
  refine Ct.of (by decide) hE (Nat.le_of_ble_eq_true rfl) ?_
  intro X G hX hR hN hXE hXl hxn hk _
  subst hXE
  subst hXl
  have hX : G → ZOk X cX11_init RX11 6 := hX
  have hN : G → (xM X).name = "<init>" := hN
  show Zj X G 0 [(0, (2, a0))] [] s0 _
  unfold fX11_init
  refine z_aload_n (pc := 0) hX 0 dX11_init_0 rfl rfl ?_
  refine z_objInit (pc := 1) hX (by decide) wd88 wd89 wd90 (Nat.le_of_ble_eq_true rfl) dX11_init_1 ?_
  refine z_aload_n (pc := 4) hX 0 dX11_init_4 rfl rfl ?_
  refine z_new (pc := 5) hX zc2 (by decide) wd91 wd92 wd62 dX11_init_5 ?_
  refine z_dup (pc := 8) hX zn2 dX11_init_8 ?_
  refine z_callIN (n := 0) (st := [(2, (sN s0 : Int)), (2, a0)]) (pc := 9) hX rfl (mX2_init _ hE _ _ _) (fun g => (zNe (hX := hX g)).2.2.2.1.1) wd62 wd95 ⟨by decide, by decide, by decide⟩ (by decide) rfl wd94 rfl rfl (by decide) (Nat.le_of_ble_eq_true rfl) dX11_init_9 (fun v1 s2 r3 => ?_)
  show Zj X G 12 [(0, (2, a0))] [(2, (sN s0 : Int)), (2, a0)] _ _
  refine z_putA (pc := 12) hX zc11 0 (by decide) wd270 (Or.inr ⟨hN, rfl⟩) rfl rfl (fun _ => rfl) (fun r => zfit_obj _ r _) dX11_init_12 (fun s4 => ?_)
  refine z_aload_n (pc := 15) hX 0 dX11_init_15 rfl rfl ?_
  refine z_aload_n (pc := 16) hX 0 dX11_init_16 rfl rfl ?_
  refine z_get (pc := 17) hX zc11 0 (by decide) wd270 rfl rfl dX11_init_17 (fun v5 => ?_)
  refine z_get (pc := 20) hX zc2 0 (by decide) wd152 rfl rfl dX11_init_20 (fun v6 => ?_)
  refine z_putA (pc := 23) hX zc11 1 (by decide) wd271 (Or.inr ⟨hN, rfl⟩) rfl rfl (fun _ => rfl) (fun r => zfit_obj _ r _) dX11_init_23 (fun s7 => ?_)
  refine z_aload_n (pc := 26) hX 0 dX11_init_26 rfl rfl ?_
  refine z_bipush (pc := 27) hX dX11_init_27 ?_
  refine z_newAA (pc := 29) hX 3 103 (by decide) (by decide) rfl rfl dX11_init_29 wd190 (fun g => (zNe (hX := hX g)).1.2.1) (fun s8 => ?_)
  refine z_putA (pc := 32) hX zc11 2 (by decide) wd272 (Or.inr ⟨hN, rfl⟩) rfl rfl (fun _ => rfl) (fun r => zfit_arr _ r _) dX11_init_32 (fun s9 => ?_)
  refine z_aload_n (pc := 35) hX 0 dX11_init_35 rfl rfl ?_
  refine z_iconst (pc := 36) hX dX11_init_36 ?_
  refine z_putA (pc := 37) hX zc11 3 (by decide) wd273 (Or.inr ⟨hN, rfl⟩) rfl rfl (fun _ => rfl) (fun _ => rfl) dX11_init_37 (fun s10 => ?_)
  refine z_aload_n (pc := 40) hX 0 dX11_init_40 rfl rfl ?_
  refine z_new (pc := 41) hX zc4 (by decide) wd192 wd193 wd64 dX11_init_41 ?_
  refine z_dup (pc := 44) hX zn2 dX11_init_44 ?_
  refine z_callIN (n := 0) (st := [(2, (sN s10 : Int)), (2, a0)]) (pc := 45) hX rfl (mX4_init _ hE _ _ _) (fun g => (zNe (hX := hX g)).2.2.2.1.2.1) wd64 wd196 ⟨by decide, by decide, by decide⟩ (by decide) rfl wd195 rfl rfl (by decide) (Nat.le_of_ble_eq_true rfl) dX11_init_45 (fun v11 s12 r13 => ?_)
  show Zj X G 48 [(0, (2, a0))] [(2, (sN s10 : Int)), (2, a0)] _ _
  refine z_putA (pc := 48) hX zc11 4 (by decide) wd274 (Or.inr ⟨hN, rfl⟩) rfl rfl (fun _ => rfl) (fun r => zfit_obj _ r _) dX11_init_48 (fun s14 => ?_)
  refine z_aload_n (pc := 51) hX 0 dX11_init_51 rfl rfl ?_
  refine z_bipush (pc := 52) hX dX11_init_52 ?_
  refine z_newAA (pc := 54) hX 4 104 (by decide) (by decide) rfl rfl dX11_init_54 wd228 (fun g => (zNe (hX := hX g)).1.2.2.1) (fun s15 => ?_)
  refine z_putA (pc := 57) hX zc11 5 (by decide) wd275 (Or.inr ⟨hN, rfl⟩) rfl rfl (fun _ => rfl) (fun r => zfit_arr _ r _) dX11_init_57 (fun s16 => ?_)
  refine z_aload_n (pc := 60) hX 0 dX11_init_60 rfl rfl ?_
  refine z_iconst (pc := 61) hX dX11_init_61 ?_
  refine z_putA (pc := 62) hX zc11 6 (by decide) wd276 (Or.inr ⟨hN, rfl⟩) rfl rfl (fun _ => rfl) (fun _ => rfl) dX11_init_62 (fun s17 => ?_)
  refine z_aload_n (pc := 65) hX 0 dX11_init_65 rfl rfl ?_
  refine z_iconst (pc := 66) hX dX11_init_66 ?_
  refine z_putA (pc := 67) hX zc11 7 (by decide) wd277 (Or.inr ⟨hN, rfl⟩) rfl rfl (fun _ => rfl) (fun _ => rfl) dX11_init_67 (fun s18 => ?_)
  refine z_aload_n (pc := 70) hX 0 dX11_init_70 rfl rfl ?_
  refine z_iconst (pc := 71) hX dX11_init_71 ?_
  refine z_newAA (pc := 72) hX 5 105 (by decide) (by decide) rfl rfl dX11_init_72 wd230 (fun g => (zNe (hX := hX g)).1.2.2.2) (fun s19 => ?_)
  refine z_putA (pc := 75) hX zc11 8 (by decide) wd278 (Or.inr ⟨hN, rfl⟩) rfl rfl (fun _ => rfl) (fun r => zfit_arr _ r _) dX11_init_75 (fun s20 => ?_)
  refine z_aload_n (pc := 78) hX 0 dX11_init_78 rfl rfl ?_
  refine z_new (pc := 79) hX zc5 (by decide) wd232 wd98 wd63 dX11_init_79 ?_
  refine z_dup (pc := 82) hX zn2 dX11_init_82 ?_
  refine z_callI (n := 0) (st := [(2, (sN s20 : Int)), (2, a0)]) (pc := 83) hX rfl (mX5_init _ hE _ _ _) ⟨wd233, wd63, wd101, ⟨by decide, by decide, by decide⟩, by decide⟩ rfl wd100 rfl rfl (by decide) (Nat.le_of_ble_eq_true rfl) dX11_init_83 (fun v21 s22 r23 => ?_)
  show Zj X G 86 [(0, (2, a0))] [(2, (sN s20 : Int)), (2, a0)] _ _
  refine z_putA (pc := 86) hX zc11 9 (by decide) wd279 (Or.inr ⟨hN, rfl⟩) rfl rfl (fun _ => rfl) (fun r => zfit_obj _ r _) dX11_init_86 (fun s24 => ?_)
  refine z_aload_n (pc := 89) hX 0 dX11_init_89 rfl rfl ?_
  refine z_iconst (pc := 90) hX dX11_init_90 ?_
  refine z_putA (pc := 91) hX zc11 10 (by decide) wd280 (Or.inr ⟨hN, rfl⟩) rfl rfl (fun _ => rfl) (fun _ => rfl) dX11_init_91 (fun s25 => ?_)
  refine z_aload_n (pc := 94) hX 0 dX11_init_94 rfl rfl ?_
  refine z_iconst (pc := 95) hX dX11_init_95 ?_
  refine z_putA (pc := 96) hX zc11 11 (by decide) wd281 (Or.inr ⟨hN, rfl⟩) rfl rfl (fun _ => rfl) (fun _ => rfl) dX11_init_96 (fun s26 => ?_)
  refine z_aload_n (pc := 99) hX 0 dX11_init_99 rfl rfl ?_
  refine z_iconst (pc := 100) hX dX11_init_100 ?_
  refine z_putA (pc := 101) hX zc11 12 (by decide) wd282 (Or.inr ⟨hN, rfl⟩) rfl rfl (fun _ => rfl) (fun _ => rfl) dX11_init_101 (fun s27 => ?_)
  refine z_aload_n (pc := 104) hX 0 dX11_init_104 rfl rfl ?_
  refine z_iconst (pc := 105) hX dX11_init_105 ?_
  refine z_putA (pc := 106) hX zc11 13 (by decide) wd283 (Or.inr ⟨hN, rfl⟩) rfl rfl (fun _ => rfl) (fun _ => rfl) dX11_init_106 (fun s28 => ?_)
  refine z_aload_n (pc := 109) hX 0 dX11_init_109 rfl rfl ?_
  refine z_bipush (pc := 110) hX dX11_init_110 ?_
  refine z_newIA (pc := 112) hX dX11_init_112 wd149 (fun s29 => ?_)
  refine z_putA (pc := 114) hX zc11 14 (by decide) wd284 (Or.inr ⟨hN, rfl⟩) rfl rfl (fun _ => rfl) (fun r => zfit_arr _ r _) dX11_init_114 (fun s30 => ?_)
  refine z_aload_n (pc := 117) hX 0 dX11_init_117 rfl rfl ?_
  refine z_iconst (pc := 118) hX dX11_init_118 ?_
  refine z_putA (pc := 119) hX zc11 15 (by decide) wd285 (Or.inr ⟨hN, rfl⟩) rfl rfl (fun _ => rfl) (fun _ => rfl) dX11_init_119 (fun s31 => ?_)
  refine z_aload_n (pc := 122) hX 0 dX11_init_122 rfl rfl ?_
  refine z_iconst (pc := 123) hX dX11_init_123 ?_
  refine z_putA (pc := 124) hX zc11 16 (by decide) wd286 (Or.inr ⟨hN, rfl⟩) rfl rfl (fun _ => rfl) (fun _ => rfl) dX11_init_124 (fun s32 => ?_)
  refine z_aload_n (pc := 127) hX 0 dX11_init_127 rfl rfl ?_
  refine z_get (pc := 128) hX zc11 5 (by decide) wd275 rfl rfl dX11_init_128 (fun v33 => ?_)
  refine z_iconst (pc := 131) hX dX11_init_131 ?_
  refine z_new (pc := 132) hX zc8 (by decide) wd228 wd234 wd65 dX11_init_132 ?_
  refine z_dup (pc := 135) hX zn2 dX11_init_135 ?_
  refine z_cost (pc := 136) hX wd235 dX11_init_136 ?_
  refine z_lost (pc := 139) hX wd237 dX11_init_139 ?_
  refine z_callI (n := 2) (st := [(2, (sN s32 : Int)), (0, 0), (2, v33)]) (pc := 142) hX rfl (mX8_init _ hE _ _ _ _ _) ⟨wd239, wd65, wd241, ⟨by decide, by decide, by decide⟩, by decide⟩ rfl wd240 rfl rfl (by decide) (Nat.le_of_ble_eq_true rfl) dX11_init_142 (fun v34 s35 r36 => ?_)
  show Zj X G 145 [(0, (2, a0))] [(2, (sN s32 : Int)), (0, 0), (2, v33)] _ _
  refine z_aastA (pc := 145) hX 4 104 "GateRoad$Text" (by decide) rfl rfl okT okT_ok dX11_init_145 (fun s37 => ?_)
  refine z_iconst (pc := 146) hX dX11_init_146 ?_
  refine z_istore_n (lv' := [(1, (0, 0)), (0, (2, a0))]) (pc := 147) hX dX11_init_147 rfl (zlt hxn rfl) rfl ?_
  have hl148 : ∀ (u39 : Int), ∀ (n1 : Nat) (s38 : ZS) (x40 : Int), Zj X G 148 [(0, (2, u39)), (1, (0, x40))] [] s38 (lX11_init_148 u39 n1 s38 x40) := by
    intro u39 n1
    induction n1 with
    | zero => intro _ _; exact z_none
    | succ n1 ih1 =>
      intro s38 x40
      rw [lX11_init_148]
      refine z_iload_n (pc := 148) hX 1 dX11_init_148 rfl rfl ?_
      refine z_iconst (pc := 149) hX dX11_init_149 ?_
      refine z_icmp_ge (pc := 150) hX 172 dX11_init_150 (by decide) (fun h41 => ?_) (fun h41 => ?_)
      · exact z_vret (pc := 172) hX hR hk dX11_init_172
      · refine z_aload_n (pc := 153) hX 0 dX11_init_153 rfl rfl ?_
        refine z_get (pc := 154) hX zc11 8 (by decide) wd278 rfl rfl dX11_init_154 (fun v42 => ?_)
        refine z_iload_n (pc := 157) hX 1 dX11_init_157 rfl rfl ?_
        refine z_new (pc := 158) hX zc6 (by decide) wd230 wd252 wd66 dX11_init_158 ?_
        refine z_dup (pc := 161) hX zn2 dX11_init_161 ?_
        refine z_callIN (n := 0) (st := [(2, (sN s38 : Int)), (0, x40), (2, v42)]) (pc := 162) hX rfl (mX6_init _ hE _ _ _) (fun g => (zNe (hX := hX g)).2.2.2.1.2.2) wd66 wd255 ⟨by decide, by decide, by decide⟩ (by decide) rfl wd254 rfl rfl (by decide) (Nat.le_of_ble_eq_true rfl) dX11_init_162 (fun v43 s44 r45 => ?_)
        show Zj X G 165 [(0, (2, u39)), (1, (0, x40))] [(2, (sN s38 : Int)), (0, x40), (2, v42)] _ _
        refine z_aastA (pc := 165) hX 5 105 "GateRoad$Sheet" (by decide) rfl rfl okS okS_ok dX11_init_165 (fun s46 => ?_)
        refine z_iinc (lv' := [(1, (0, (wrap (x40 + 1)))), (0, (2, u39))]) (pc := 166) hX 1 dX11_init_166 rfl (zlt hxn rfl) rfl ?_
        refine z_goto (pc := 169) hX 148 dX11_init_169 (by decide) ?_
        refine z_pick (lv' := [(0, (2, u39)), (1, (0, (wrap (x40 + 1))))]) [1, 0] rfl ?_
        exact ih1 _ _
  refine z_pick (lv' := [(0, (2, a0)), (1, (0, 0))]) [1, 0] rfl ?_
  refine hl148 _ 1000 _ _

theorem dX12_first_0 : decode cX12_first 0 = .ok (.aload_n 0, 1) := by decide +kernel
theorem dX12_first_1 : decode cX12_first 1 = .ok (.getfield 40, 3) := by decide +kernel
theorem dX12_first_4 : decode cX12_first 4 = .ok (.iload_n 1, 1) := by decide +kernel
theorem dX12_first_5 : decode cX12_first 5 = .ok (.iload_n 2, 1) := by decide +kernel
theorem dX12_first_6 : decode cX12_first 6 = .ok (.iastore, 1) := by decide +kernel
theorem dX12_first_7 : decode cX12_first 7 = .ok (.aload_n 0, 1) := by decide +kernel
theorem dX12_first_8 : decode cX12_first 8 = .ok (.getfield 40, 3) := by decide +kernel
theorem dX12_first_11 : decode cX12_first 11 = .ok (.iload_n 1, 1) := by decide +kernel
theorem dX12_first_12 : decode cX12_first 12 = .ok (.iconst 1, 1) := by decide +kernel
theorem dX12_first_13 : decode cX12_first 13 = .ok (.iadd, 1) := by decide +kernel
theorem dX12_first_14 : decode cX12_first 14 = .ok (.iload_n 3, 1) := by decide +kernel
theorem dX12_first_15 : decode cX12_first 15 = .ok (.iastore, 1) := by decide +kernel
theorem dX12_first_16 : decode cX12_first 16 = .ok (.aload_n 0, 1) := by decide +kernel
theorem dX12_first_17 : decode cX12_first 17 = .ok (.getfield 40, 3) := by decide +kernel
theorem dX12_first_20 : decode cX12_first 20 = .ok (.iload_n 1, 1) := by decide +kernel
theorem dX12_first_21 : decode cX12_first 21 = .ok (.iconst 2, 1) := by decide +kernel
theorem dX12_first_22 : decode cX12_first 22 = .ok (.iadd, 1) := by decide +kernel
theorem dX12_first_23 : decode cX12_first 23 = .ok (.iload 4, 2) := by decide +kernel
theorem dX12_first_25 : decode cX12_first 25 = .ok (.iastore, 1) := by decide +kernel
theorem dX12_first_26 : decode cX12_first 26 = .ok (.aload_n 0, 1) := by decide +kernel
theorem dX12_first_27 : decode cX12_first 27 = .ok (.getfield 40, 3) := by decide +kernel
theorem dX12_first_30 : decode cX12_first 30 = .ok (.iload_n 1, 1) := by decide +kernel
theorem dX12_first_31 : decode cX12_first 31 = .ok (.iconst 3, 1) := by decide +kernel
theorem dX12_first_32 : decode cX12_first 32 = .ok (.iadd, 1) := by decide +kernel
theorem dX12_first_33 : decode cX12_first 33 = .ok (.iload 5, 2) := by decide +kernel
theorem dX12_first_35 : decode cX12_first 35 = .ok (.iastore, 1) := by decide +kernel
theorem dX12_first_36 : decode cX12_first 36 = .ok (.return_, 1) := by decide +kernel
def fX12_first (s0 : ZS) (a0 : Int) (a1 : Int) (a2 : Int) (a3 : Int) (a4 : Int) (a5 : Int) : Option (Int × ZS) := (zg s0 12 a0 14).bind (fun v1 => (zas s0 100 v1 a1 a2).bind (fun s2 => (zg s2 12 a0 14).bind (fun v3 => (zas s2 100 v3 (wrap (a1 + 1)) a3).bind (fun s4 => (zg s4 12 a0 14).bind (fun v5 => (zas s4 100 v5 (wrap (a1 + 2)) a4).bind (fun s6 => (zg s6 12 a0 14).bind (fun v7 => (zas s6 100 v7 (wrap (a1 + 3)) a5).bind (fun s8 => some (0, s8)))))))))
set_option maxHeartbeats 4000000 in
set_option maxRecDepth 100000 in
theorem mX12_first (E : ZE) (hE : zOkE E) (l : Launch) (s0 : ZS) (a0 : Int) (a1 : Int) (a2 : Int) (a3 : Int) (a4 : Int) (a5 : Int) : Ct E l yX12_first cX12_first 6 none 2 [(2, a0), (0, a1), (0, a2), (0, a3), (0, a4), (0, a5)] 0 s0 (fX12_first s0 a0 a1 a2 a3 a4 a5) := by
  refine Ct.of (by decide) hE (Nat.le_of_ble_eq_true rfl) ?_
  intro X G hX hR hN hXE hXl hxn hk _
  subst hXE
  subst hXl
  have hX : G → ZOk X cX12_first RX12 2 := hX
  clear hN
  show Zj X G 0 [(0, (2, a0)), (1, (0, a1)), (2, (0, a2)), (3, (0, a3)), (4, (0, a4)), (5, (0, a5))] [] s0 _
  unfold fX12_first
  refine z_aload_n (pc := 0) hX 0 dX12_first_0 rfl rfl ?_
  refine z_get (pc := 1) hX zc12 14 (by decide) wd1031 rfl rfl dX12_first_1 (fun v1 => ?_)
  refine z_iload_n (pc := 4) hX 1 dX12_first_4 rfl rfl ?_
  refine z_iload_n (pc := 5) hX 2 dX12_first_5 rfl rfl ?_
  refine z_iastA (pc := 6) hX dX12_first_6 (fun s2 => ?_)
  refine z_aload_n (pc := 7) hX 0 dX12_first_7 rfl rfl ?_
  refine z_get (pc := 8) hX zc12 14 (by decide) wd1031 rfl rfl dX12_first_8 (fun v3 => ?_)
  refine z_iload_n (pc := 11) hX 1 dX12_first_11 rfl rfl ?_
  refine z_iconst (pc := 12) hX dX12_first_12 ?_
  refine z_iadd (pc := 13) hX dX12_first_13 ?_
  refine z_iload_n (pc := 14) hX 3 dX12_first_14 rfl rfl ?_
  refine z_iastA (pc := 15) hX dX12_first_15 (fun s4 => ?_)
  refine z_aload_n (pc := 16) hX 0 dX12_first_16 rfl rfl ?_
  refine z_get (pc := 17) hX zc12 14 (by decide) wd1031 rfl rfl dX12_first_17 (fun v5 => ?_)
  refine z_iload_n (pc := 20) hX 1 dX12_first_20 rfl rfl ?_
  refine z_iconst (pc := 21) hX dX12_first_21 ?_
  refine z_iadd (pc := 22) hX dX12_first_22 ?_
  refine z_iload (pc := 23) hX 4 dX12_first_23 rfl ?_
  refine z_iastA (pc := 25) hX dX12_first_25 (fun s6 => ?_)
  refine z_aload_n (pc := 26) hX 0 dX12_first_26 rfl rfl ?_
  refine z_get (pc := 27) hX zc12 14 (by decide) wd1031 rfl rfl dX12_first_27 (fun v7 => ?_)
  refine z_iload_n (pc := 30) hX 1 dX12_first_30 rfl rfl ?_
  refine z_iconst (pc := 31) hX dX12_first_31 ?_
  refine z_iadd (pc := 32) hX dX12_first_32 ?_
  refine z_iload (pc := 33) hX 5 dX12_first_33 rfl ?_
  refine z_iastA (pc := 35) hX dX12_first_35 (fun s8 => ?_)
  exact z_vret (pc := 36) hX hR hk dX12_first_36

theorem dX12_init_0 : decode cX12_init 0 = .ok (.aload_n 0, 1) := by decide +kernel
theorem dX12_init_1 : decode cX12_init 1 = .ok (.invokespecial 1, 3) := by decide +kernel
theorem dX12_init_4 : decode cX12_init 4 = .ok (.aload_n 0, 1) := by decide +kernel
theorem dX12_init_5 : decode cX12_init 5 = .ok (.bipush 48, 2) := by decide +kernel
theorem dX12_init_7 : decode cX12_init 7 = .ok (.newarray .int, 2) := by decide +kernel
theorem dX12_init_9 : decode cX12_init 9 = .ok (.putfield 7, 3) := by decide +kernel
theorem dX12_init_12 : decode cX12_init 12 = .ok (.aload_n 0, 1) := by decide +kernel
theorem dX12_init_13 : decode cX12_init 13 = .ok (.bipush 48, 2) := by decide +kernel
theorem dX12_init_15 : decode cX12_init 15 = .ok (.newarray .int, 2) := by decide +kernel
theorem dX12_init_17 : decode cX12_init 17 = .ok (.putfield 13, 3) := by decide +kernel
theorem dX12_init_20 : decode cX12_init 20 = .ok (.aload_n 0, 1) := by decide +kernel
theorem dX12_init_21 : decode cX12_init 21 = .ok (.iconst 4, 1) := by decide +kernel
theorem dX12_init_22 : decode cX12_init 22 = .ok (.newarray .int, 2) := by decide +kernel
theorem dX12_init_24 : decode cX12_init 24 = .ok (.putfield 16, 3) := by decide +kernel
theorem dX12_init_27 : decode cX12_init 27 = .ok (.aload_n 0, 1) := by decide +kernel
theorem dX12_init_28 : decode cX12_init 28 = .ok (.iconst 4, 1) := by decide +kernel
theorem dX12_init_29 : decode cX12_init 29 = .ok (.newarray .int, 2) := by decide +kernel
theorem dX12_init_31 : decode cX12_init 31 = .ok (.putfield 19, 3) := by decide +kernel
theorem dX12_init_34 : decode cX12_init 34 = .ok (.aload_n 0, 1) := by decide +kernel
theorem dX12_init_35 : decode cX12_init 35 = .ok (.bipush 8, 2) := by decide +kernel
theorem dX12_init_37 : decode cX12_init 37 = .ok (.newarray .int, 2) := by decide +kernel
theorem dX12_init_39 : decode cX12_init 39 = .ok (.putfield 22, 3) := by decide +kernel
theorem dX12_init_42 : decode cX12_init 42 = .ok (.aload_n 0, 1) := by decide +kernel
theorem dX12_init_43 : decode cX12_init 43 = .ok (.bipush 16, 2) := by decide +kernel
theorem dX12_init_45 : decode cX12_init 45 = .ok (.newarray .int, 2) := by decide +kernel
theorem dX12_init_47 : decode cX12_init 47 = .ok (.putfield 25, 3) := by decide +kernel
theorem dX12_init_50 : decode cX12_init 50 = .ok (.aload_n 0, 1) := by decide +kernel
theorem dX12_init_51 : decode cX12_init 51 = .ok (.bipush 8, 2) := by decide +kernel
theorem dX12_init_53 : decode cX12_init 53 = .ok (.newarray .int, 2) := by decide +kernel
theorem dX12_init_55 : decode cX12_init 55 = .ok (.putfield 28, 3) := by decide +kernel
theorem dX12_init_58 : decode cX12_init 58 = .ok (.aload_n 0, 1) := by decide +kernel
theorem dX12_init_59 : decode cX12_init 59 = .ok (.bipush 8, 2) := by decide +kernel
theorem dX12_init_61 : decode cX12_init 61 = .ok (.newarray .int, 2) := by decide +kernel
theorem dX12_init_63 : decode cX12_init 63 = .ok (.putfield 31, 3) := by decide +kernel
theorem dX12_init_66 : decode cX12_init 66 = .ok (.aload_n 0, 1) := by decide +kernel
theorem dX12_init_67 : decode cX12_init 67 = .ok (.sipush 128, 3) := by decide +kernel
theorem dX12_init_70 : decode cX12_init 70 = .ok (.newarray .int, 2) := by decide +kernel
theorem dX12_init_72 : decode cX12_init 72 = .ok (.putfield 34, 3) := by decide +kernel
theorem dX12_init_75 : decode cX12_init 75 = .ok (.aload_n 0, 1) := by decide +kernel
theorem dX12_init_76 : decode cX12_init 76 = .ok (.sipush 160, 3) := by decide +kernel
theorem dX12_init_79 : decode cX12_init 79 = .ok (.newarray .int, 2) := by decide +kernel
theorem dX12_init_81 : decode cX12_init 81 = .ok (.putfield 37, 3) := by decide +kernel
theorem dX12_init_84 : decode cX12_init 84 = .ok (.aload_n 0, 1) := by decide +kernel
theorem dX12_init_85 : decode cX12_init 85 = .ok (.sipush 1200, 3) := by decide +kernel
theorem dX12_init_88 : decode cX12_init 88 = .ok (.newarray .int, 2) := by decide +kernel
theorem dX12_init_90 : decode cX12_init 90 = .ok (.putfield 40, 3) := by decide +kernel
theorem dX12_init_93 : decode cX12_init 93 = .ok (.aload_n 0, 1) := by decide +kernel
theorem dX12_init_94 : decode cX12_init 94 = .ok (.bipush 24, 2) := by decide +kernel
theorem dX12_init_96 : decode cX12_init 96 = .ok (.newarray .int, 2) := by decide +kernel
theorem dX12_init_98 : decode cX12_init 98 = .ok (.putfield 43, 3) := by decide +kernel
theorem dX12_init_101 : decode cX12_init 101 = .ok (.aload_n 0, 1) := by decide +kernel
theorem dX12_init_102 : decode cX12_init 102 = .ok (.iconst 1, 1) := by decide +kernel
theorem dX12_init_103 : decode cX12_init 103 = .ok (.putfield 46, 3) := by decide +kernel
theorem dX12_init_106 : decode cX12_init 106 = .ok (.aload_n 0, 1) := by decide +kernel
theorem dX12_init_107 : decode cX12_init 107 = .ok (.bipush 48, 2) := by decide +kernel
theorem dX12_init_109 : decode cX12_init 109 = .ok (.newarray .int, 2) := by decide +kernel
theorem dX12_init_111 : decode cX12_init 111 = .ok (.putfield 50, 3) := by decide +kernel
theorem dX12_init_114 : decode cX12_init 114 = .ok (.aload_n 0, 1) := by decide +kernel
theorem dX12_init_115 : decode cX12_init 115 = .ok (.bipush 48, 2) := by decide +kernel
theorem dX12_init_117 : decode cX12_init 117 = .ok (.newarray .int, 2) := by decide +kernel
theorem dX12_init_119 : decode cX12_init 119 = .ok (.putfield 53, 3) := by decide +kernel
theorem dX12_init_122 : decode cX12_init 122 = .ok (.aload_n 0, 1) := by decide +kernel
theorem dX12_init_123 : decode cX12_init 123 = .ok (.iconst 4, 1) := by decide +kernel
theorem dX12_init_124 : decode cX12_init 124 = .ok (.newarray .int, 2) := by decide +kernel
theorem dX12_init_126 : decode cX12_init 126 = .ok (.putfield 56, 3) := by decide +kernel
theorem dX12_init_129 : decode cX12_init 129 = .ok (.aload_n 0, 1) := by decide +kernel
theorem dX12_init_130 : decode cX12_init 130 = .ok (.sipush 128, 3) := by decide +kernel
theorem dX12_init_133 : decode cX12_init 133 = .ok (.newarray .int, 2) := by decide +kernel
theorem dX12_init_135 : decode cX12_init 135 = .ok (.putfield 59, 3) := by decide +kernel
theorem dX12_init_138 : decode cX12_init 138 = .ok (.aload_n 0, 1) := by decide +kernel
theorem dX12_init_139 : decode cX12_init 139 = .ok (.iconst 4, 1) := by decide +kernel
theorem dX12_init_140 : decode cX12_init 140 = .ok (.newarray .int, 2) := by decide +kernel
theorem dX12_init_142 : decode cX12_init 142 = .ok (.dup, 1) := by decide +kernel
theorem dX12_init_143 : decode cX12_init 143 = .ok (.iconst 0, 1) := by decide +kernel
theorem dX12_init_144 : decode cX12_init 144 = .ok (.iconst (-1), 1) := by decide +kernel
theorem dX12_init_145 : decode cX12_init 145 = .ok (.iastore, 1) := by decide +kernel
theorem dX12_init_146 : decode cX12_init 146 = .ok (.dup, 1) := by decide +kernel
theorem dX12_init_147 : decode cX12_init 147 = .ok (.iconst 1, 1) := by decide +kernel
theorem dX12_init_148 : decode cX12_init 148 = .ok (.iconst (-1), 1) := by decide +kernel
theorem dX12_init_149 : decode cX12_init 149 = .ok (.iastore, 1) := by decide +kernel
theorem dX12_init_150 : decode cX12_init 150 = .ok (.dup, 1) := by decide +kernel
theorem dX12_init_151 : decode cX12_init 151 = .ok (.iconst 2, 1) := by decide +kernel
theorem dX12_init_152 : decode cX12_init 152 = .ok (.iconst (-1), 1) := by decide +kernel
theorem dX12_init_153 : decode cX12_init 153 = .ok (.iastore, 1) := by decide +kernel
theorem dX12_init_154 : decode cX12_init 154 = .ok (.dup, 1) := by decide +kernel
theorem dX12_init_155 : decode cX12_init 155 = .ok (.iconst 3, 1) := by decide +kernel
theorem dX12_init_156 : decode cX12_init 156 = .ok (.iconst (-1), 1) := by decide +kernel
theorem dX12_init_157 : decode cX12_init 157 = .ok (.iastore, 1) := by decide +kernel
theorem dX12_init_158 : decode cX12_init 158 = .ok (.putfield 62, 3) := by decide +kernel
theorem dX12_init_161 : decode cX12_init 161 = .ok (.aload_n 0, 1) := by decide +kernel
theorem dX12_init_162 : decode cX12_init 162 = .ok (.iconst 4, 1) := by decide +kernel
theorem dX12_init_163 : decode cX12_init 163 = .ok (.newarray .int, 2) := by decide +kernel
theorem dX12_init_165 : decode cX12_init 165 = .ok (.putfield 65, 3) := by decide +kernel
theorem dX12_init_168 : decode cX12_init 168 = .ok (.aload_n 0, 1) := by decide +kernel
theorem dX12_init_169 : decode cX12_init 169 = .ok (.sipush 160, 3) := by decide +kernel
theorem dX12_init_172 : decode cX12_init 172 = .ok (.newarray .int, 2) := by decide +kernel
theorem dX12_init_174 : decode cX12_init 174 = .ok (.putfield 68, 3) := by decide +kernel
theorem dX12_init_177 : decode cX12_init 177 = .ok (.aload_n 0, 1) := by decide +kernel
theorem dX12_init_178 : decode cX12_init 178 = .ok (.bipush 11, 2) := by decide +kernel
theorem dX12_init_180 : decode cX12_init 180 = .ok (.newarray .long, 2) := by decide +kernel

theorem dX12_init_182 : decode cX12_init 182 = .ok (.dup, 1) := by decide +kernel
theorem dX12_init_183 : decode cX12_init 183 = .ok (.iconst 0, 1) := by decide +kernel
theorem dX12_init_184 : decode cX12_init 184 = .ok (.ldc2_w 71, 3) := by decide +kernel
theorem dX12_init_187 : decode cX12_init 187 = .ok (.lastore, 1) := by decide +kernel
theorem dX12_init_188 : decode cX12_init 188 = .ok (.dup, 1) := by decide +kernel
theorem dX12_init_189 : decode cX12_init 189 = .ok (.iconst 1, 1) := by decide +kernel
theorem dX12_init_190 : decode cX12_init 190 = .ok (.ldc2_w 73, 3) := by decide +kernel
theorem dX12_init_193 : decode cX12_init 193 = .ok (.lastore, 1) := by decide +kernel
theorem dX12_init_194 : decode cX12_init 194 = .ok (.dup, 1) := by decide +kernel
theorem dX12_init_195 : decode cX12_init 195 = .ok (.iconst 2, 1) := by decide +kernel
theorem dX12_init_196 : decode cX12_init 196 = .ok (.ldc2_w 75, 3) := by decide +kernel
theorem dX12_init_199 : decode cX12_init 199 = .ok (.lastore, 1) := by decide +kernel
theorem dX12_init_200 : decode cX12_init 200 = .ok (.dup, 1) := by decide +kernel
theorem dX12_init_201 : decode cX12_init 201 = .ok (.iconst 3, 1) := by decide +kernel
theorem dX12_init_202 : decode cX12_init 202 = .ok (.ldc2_w 77, 3) := by decide +kernel
theorem dX12_init_205 : decode cX12_init 205 = .ok (.lastore, 1) := by decide +kernel
theorem dX12_init_206 : decode cX12_init 206 = .ok (.dup, 1) := by decide +kernel
theorem dX12_init_207 : decode cX12_init 207 = .ok (.iconst 4, 1) := by decide +kernel
theorem dX12_init_208 : decode cX12_init 208 = .ok (.ldc2_w 79, 3) := by decide +kernel
theorem dX12_init_211 : decode cX12_init 211 = .ok (.lastore, 1) := by decide +kernel
theorem dX12_init_212 : decode cX12_init 212 = .ok (.dup, 1) := by decide +kernel
theorem dX12_init_213 : decode cX12_init 213 = .ok (.iconst 5, 1) := by decide +kernel
theorem dX12_init_214 : decode cX12_init 214 = .ok (.ldc2_w 81, 3) := by decide +kernel
theorem dX12_init_217 : decode cX12_init 217 = .ok (.lastore, 1) := by decide +kernel
theorem dX12_init_218 : decode cX12_init 218 = .ok (.dup, 1) := by decide +kernel
theorem dX12_init_219 : decode cX12_init 219 = .ok (.bipush 6, 2) := by decide +kernel
theorem dX12_init_221 : decode cX12_init 221 = .ok (.ldc2_w 83, 3) := by decide +kernel
theorem dX12_init_224 : decode cX12_init 224 = .ok (.lastore, 1) := by decide +kernel
theorem dX12_init_225 : decode cX12_init 225 = .ok (.dup, 1) := by decide +kernel
theorem dX12_init_226 : decode cX12_init 226 = .ok (.bipush 7, 2) := by decide +kernel
theorem dX12_init_228 : decode cX12_init 228 = .ok (.ldc2_w 85, 3) := by decide +kernel
theorem dX12_init_231 : decode cX12_init 231 = .ok (.lastore, 1) := by decide +kernel
theorem dX12_init_232 : decode cX12_init 232 = .ok (.dup, 1) := by decide +kernel
theorem dX12_init_233 : decode cX12_init 233 = .ok (.bipush 8, 2) := by decide +kernel
theorem dX12_init_235 : decode cX12_init 235 = .ok (.ldc2_w 87, 3) := by decide +kernel
theorem dX12_init_238 : decode cX12_init 238 = .ok (.lastore, 1) := by decide +kernel
theorem dX12_init_239 : decode cX12_init 239 = .ok (.dup, 1) := by decide +kernel
theorem dX12_init_240 : decode cX12_init 240 = .ok (.bipush 9, 2) := by decide +kernel
theorem dX12_init_242 : decode cX12_init 242 = .ok (.ldc2_w 89, 3) := by decide +kernel
theorem dX12_init_245 : decode cX12_init 245 = .ok (.lastore, 1) := by decide +kernel
theorem dX12_init_246 : decode cX12_init 246 = .ok (.dup, 1) := by decide +kernel
theorem dX12_init_247 : decode cX12_init 247 = .ok (.bipush 10, 2) := by decide +kernel
theorem dX12_init_249 : decode cX12_init 249 = .ok (.ldc2_w 91, 3) := by decide +kernel
theorem dX12_init_252 : decode cX12_init 252 = .ok (.lastore, 1) := by decide +kernel
theorem dX12_init_253 : decode cX12_init 253 = .ok (.putfield 93, 3) := by decide +kernel
theorem dX12_init_256 : decode cX12_init 256 = .ok (.aload_n 0, 1) := by decide +kernel
theorem dX12_init_257 : decode cX12_init 257 = .ok (.sipush 200, 3) := by decide +kernel
theorem dX12_init_260 : decode cX12_init 260 = .ok (.newarray .int, 2) := by decide +kernel
theorem dX12_init_262 : decode cX12_init 262 = .ok (.putfield 97, 3) := by decide +kernel
theorem dX12_init_265 : decode cX12_init 265 = .ok (.aload_n 0, 1) := by decide +kernel
theorem dX12_init_266 : decode cX12_init 266 = .ok (.sipush 200, 3) := by decide +kernel
theorem dX12_init_269 : decode cX12_init 269 = .ok (.newarray .int, 2) := by decide +kernel
theorem dX12_init_271 : decode cX12_init 271 = .ok (.putfield 100, 3) := by decide +kernel
theorem dX12_init_274 : decode cX12_init 274 = .ok (.aload_n 0, 1) := by decide +kernel
theorem dX12_init_275 : decode cX12_init 275 = .ok (.bipush 6, 2) := by decide +kernel
theorem dX12_init_277 : decode cX12_init 277 = .ok (.newarray .int, 2) := by decide +kernel
theorem dX12_init_279 : decode cX12_init 279 = .ok (.putfield 103, 3) := by decide +kernel
theorem dX12_init_282 : decode cX12_init 282 = .ok (.aload_n 0, 1) := by decide +kernel
theorem dX12_init_283 : decode cX12_init 283 = .ok (.bipush 16, 2) := by decide +kernel
theorem dX12_init_285 : decode cX12_init 285 = .ok (.newarray .int, 2) := by decide +kernel
theorem dX12_init_287 : decode cX12_init 287 = .ok (.putfield 106, 3) := by decide +kernel
theorem dX12_init_290 : decode cX12_init 290 = .ok (.aload_n 0, 1) := by decide +kernel
theorem dX12_init_291 : decode cX12_init 291 = .ok (.bipush 16, 2) := by decide +kernel
theorem dX12_init_293 : decode cX12_init 293 = .ok (.newarray .int, 2) := by decide +kernel
theorem dX12_init_295 : decode cX12_init 295 = .ok (.putfield 109, 3) := by decide +kernel
theorem dX12_init_298 : decode cX12_init 298 = .ok (.aload_n 0, 1) := by decide +kernel
theorem dX12_init_299 : decode cX12_init 299 = .ok (.bipush 16, 2) := by decide +kernel
theorem dX12_init_301 : decode cX12_init 301 = .ok (.newarray .int, 2) := by decide +kernel
theorem dX12_init_303 : decode cX12_init 303 = .ok (.putfield 112, 3) := by decide +kernel
theorem dX12_init_306 : decode cX12_init 306 = .ok (.aload_n 0, 1) := by decide +kernel
theorem dX12_init_307 : decode cX12_init 307 = .ok (.bipush 16, 2) := by decide +kernel
theorem dX12_init_309 : decode cX12_init 309 = .ok (.newarray .int, 2) := by decide +kernel
theorem dX12_init_311 : decode cX12_init 311 = .ok (.putfield 115, 3) := by decide +kernel
theorem dX12_init_314 : decode cX12_init 314 = .ok (.aload_n 0, 1) := by decide +kernel
theorem dX12_init_315 : decode cX12_init 315 = .ok (.iconst 4, 1) := by decide +kernel
theorem dX12_init_316 : decode cX12_init 316 = .ok (.newarray .int, 2) := by decide +kernel
theorem dX12_init_318 : decode cX12_init 318 = .ok (.putfield 118, 3) := by decide +kernel
theorem dX12_init_321 : decode cX12_init 321 = .ok (.iconst 0, 1) := by decide +kernel
theorem dX12_init_322 : decode cX12_init 322 = .ok (.istore_n 1, 1) := by decide +kernel
theorem dX12_init_323 : decode cX12_init 323 = .ok (.iload_n 1, 1) := by decide +kernel
theorem dX12_init_324 : decode cX12_init 324 = .ok (.bipush 48, 2) := by decide +kernel
theorem dX12_init_326 : decode cX12_init 326 = .ok (.if_icmp .ge 16, 3) := by decide +kernel
theorem dX12_init_329 : decode cX12_init 329 = .ok (.aload_n 0, 1) := by decide +kernel
theorem dX12_init_330 : decode cX12_init 330 = .ok (.getfield 7, 3) := by decide +kernel
theorem dX12_init_333 : decode cX12_init 333 = .ok (.iload_n 1, 1) := by decide +kernel
theorem dX12_init_334 : decode cX12_init 334 = .ok (.iconst 1, 1) := by decide +kernel
theorem dX12_init_335 : decode cX12_init 335 = .ok (.iastore, 1) := by decide +kernel
theorem dX12_init_336 : decode cX12_init 336 = .ok (.iinc 1 1, 3) := by decide +kernel
theorem dX12_init_339 : decode cX12_init 339 = .ok (.goto (-16), 3) := by decide +kernel
theorem dX12_init_342 : decode cX12_init 342 = .ok (.aload_n 0, 1) := by decide +kernel
theorem dX12_init_343 : decode cX12_init 343 = .ok (.iconst 0, 1) := by decide +kernel
theorem dX12_init_344 : decode cX12_init 344 = .ok (.iconst 0, 1) := by decide +kernel
theorem dX12_init_345 : decode cX12_init 345 = .ok (.ldc 121, 2) := by decide +kernel
theorem dX12_init_347 : decode cX12_init 347 = .ok (.bipush 18, 2) := by decide +kernel
theorem dX12_init_349 : decode cX12_init 349 = .ok (.iconst 1, 1) := by decide +kernel
theorem dX12_init_350 : decode cX12_init 350 = .ok (.invokevirtual 122, 3) := by decide +kernel
theorem dX12_init_353 : decode cX12_init 353 = .ok (.aload_n 0, 1) := by decide +kernel
theorem dX12_init_354 : decode cX12_init 354 = .ok (.iconst 4, 1) := by decide +kernel
theorem dX12_init_355 : decode cX12_init 355 = .ok (.bipush 16, 2) := by decide +kernel
theorem dX12_init_357 : decode cX12_init 357 = .ok (.iconst 2, 1) := by decide +kernel

theorem dX12_init_358 : decode cX12_init 358 = .ok (.ldc 126, 2) := by decide +kernel
theorem dX12_init_360 : decode cX12_init 360 = .ok (.bipush 18, 2) := by decide +kernel
theorem dX12_init_362 : decode cX12_init 362 = .ok (.invokevirtual 122, 3) := by decide +kernel
theorem dX12_init_365 : decode cX12_init 365 = .ok (.aload_n 0, 1) := by decide +kernel
theorem dX12_init_366 : decode cX12_init 366 = .ok (.bipush 8, 2) := by decide +kernel
theorem dX12_init_368 : decode cX12_init 368 = .ok (.bipush 16, 2) := by decide +kernel
theorem dX12_init_370 : decode cX12_init 370 = .ok (.iconst 5, 1) := by decide +kernel
theorem dX12_init_371 : decode cX12_init 371 = .ok (.bipush 16, 2) := by decide +kernel
theorem dX12_init_373 : decode cX12_init 373 = .ok (.iconst 0, 1) := by decide +kernel
theorem dX12_init_374 : decode cX12_init 374 = .ok (.invokevirtual 122, 3) := by decide +kernel
theorem dX12_init_377 : decode cX12_init 377 = .ok (.aload_n 0, 1) := by decide +kernel
theorem dX12_init_378 : decode cX12_init 378 = .ok (.getfield 43, 3) := by decide +kernel
theorem dX12_init_381 : decode cX12_init 381 = .ok (.iconst 1, 1) := by decide +kernel
theorem dX12_init_382 : decode cX12_init 382 = .ok (.bipush 11, 2) := by decide +kernel
theorem dX12_init_384 : decode cX12_init 384 = .ok (.iastore, 1) := by decide +kernel
theorem dX12_init_385 : decode cX12_init 385 = .ok (.aload_n 0, 1) := by decide +kernel
theorem dX12_init_386 : decode cX12_init 386 = .ok (.getfield 43, 3) := by decide +kernel
theorem dX12_init_389 : decode cX12_init 389 = .ok (.iconst 2, 1) := by decide +kernel
theorem dX12_init_390 : decode cX12_init 390 = .ok (.bipush 12, 2) := by decide +kernel
theorem dX12_init_392 : decode cX12_init 392 = .ok (.iastore, 1) := by decide +kernel
theorem dX12_init_393 : decode cX12_init 393 = .ok (.return_, 1) := by decide +kernel
