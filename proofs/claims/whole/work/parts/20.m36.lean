theorem dX11_waitedByToll_0 : decode cX11_waitedByToll 0 = .ok (.aload_n 0, 1) := by decide +kernel
theorem dX11_waitedByToll_1 : decode cX11_waitedByToll 1 = .ok (.getfield 20, 3) := by decide +kernel
theorem dX11_waitedByToll_4 : decode cX11_waitedByToll 4 = .ok (.getfield 110, 3) := by decide +kernel
theorem dX11_waitedByToll_7 : decode cX11_waitedByToll 7 = .ok (.iload_n 2, 1) := by decide +kernel
theorem dX11_waitedByToll_8 : decode cX11_waitedByToll 8 = .ok (.aaload, 1) := by decide +kernel
theorem dX11_waitedByToll_9 : decode cX11_waitedByToll 9 = .ok (.iload_n 3, 1) := by decide +kernel
theorem dX11_waitedByToll_10 : decode cX11_waitedByToll 10 = .ok (.iaload, 1) := by decide +kernel
theorem dX11_waitedByToll_11 : decode cX11_waitedByToll 11 = .ok (.istore 6, 2) := by decide +kernel
theorem dX11_waitedByToll_13 : decode cX11_waitedByToll 13 = .ok (.aload_n 1, 1) := by decide +kernel
theorem dX11_waitedByToll_14 : decode cX11_waitedByToll 14 = .ok (.getfield 167, 3) := by decide +kernel
theorem dX11_waitedByToll_17 : decode cX11_waitedByToll 17 = .ok (.iconst 0, 1) := by decide +kernel
theorem dX11_waitedByToll_18 : decode cX11_waitedByToll 18 = .ok (.aload_n 0, 1) := by decide +kernel
theorem dX11_waitedByToll_19 : decode cX11_waitedByToll 19 = .ok (.getfield 75, 3) := by decide +kernel
theorem dX11_waitedByToll_22 : decode cX11_waitedByToll 22 = .ok (.iconst 0, 1) := by decide +kernel
theorem dX11_waitedByToll_23 : decode cX11_waitedByToll 23 = .ok (.bipush 16, 2) := by decide +kernel
theorem dX11_waitedByToll_25 : decode cX11_waitedByToll 25 = .ok (.invokestatic 171, 3) := by decide +kernel
theorem dX11_waitedByToll_28 : decode cX11_waitedByToll 28 = .ok (.aload_n 0, 1) := by decide +kernel
theorem dX11_waitedByToll_29 : decode cX11_waitedByToll 29 = .ok (.getfield 20, 3) := by decide +kernel
theorem dX11_waitedByToll_32 : decode cX11_waitedByToll 32 = .ok (.getfield 110, 3) := by decide +kernel
theorem dX11_waitedByToll_35 : decode cX11_waitedByToll 35 = .ok (.iload_n 2, 1) := by decide +kernel
theorem dX11_waitedByToll_36 : decode cX11_waitedByToll 36 = .ok (.aaload, 1) := by decide +kernel
theorem dX11_waitedByToll_37 : decode cX11_waitedByToll 37 = .ok (.iload_n 3, 1) := by decide +kernel
theorem dX11_waitedByToll_38 : decode cX11_waitedByToll 38 = .ok (.iload 4, 2) := by decide +kernel
theorem dX11_waitedByToll_40 : decode cX11_waitedByToll 40 = .ok (.iastore, 1) := by decide +kernel
theorem dX11_waitedByToll_41 : decode cX11_waitedByToll 41 = .ok (.iload 5, 2) := by decide +kernel
theorem dX11_waitedByToll_43 : decode cX11_waitedByToll 43 = .ok (.ifCond .le 9, 3) := by decide +kernel
theorem dX11_waitedByToll_46 : decode cX11_waitedByToll 46 = .ok (.aload_n 0, 1) := by decide +kernel
theorem dX11_waitedByToll_47 : decode cX11_waitedByToll 47 = .ok (.aload_n 1, 1) := by decide +kernel
theorem dX11_waitedByToll_48 : decode cX11_waitedByToll 48 = .ok (.invokevirtual 229, 3) := by decide +kernel
theorem dX11_waitedByToll_51 : decode cX11_waitedByToll 51 = .ok (.pop, 1) := by decide +kernel
theorem dX11_waitedByToll_52 : decode cX11_waitedByToll 52 = .ok (.aload_n 0, 1) := by decide +kernel
theorem dX11_waitedByToll_53 : decode cX11_waitedByToll 53 = .ok (.getfield 10, 3) := by decide +kernel
theorem dX11_waitedByToll_56 : decode cX11_waitedByToll 56 = .ok (.aload_n 1, 1) := by decide +kernel
theorem dX11_waitedByToll_57 : decode cX11_waitedByToll 57 = .ok (.invokevirtual 188, 3) := by decide +kernel
theorem dX11_waitedByToll_60 : decode cX11_waitedByToll 60 = .ok (.iconst 0, 1) := by decide +kernel
theorem dX11_waitedByToll_61 : decode cX11_waitedByToll 61 = .ok (.istore 7, 2) := by decide +kernel
theorem dX11_waitedByToll_63 : decode cX11_waitedByToll 63 = .ok (.iconst 0, 1) := by decide +kernel
theorem dX11_waitedByToll_64 : decode cX11_waitedByToll 64 = .ok (.istore 8, 2) := by decide +kernel
theorem dX11_waitedByToll_66 : decode cX11_waitedByToll 66 = .ok (.iload 8, 2) := by decide +kernel
theorem dX11_waitedByToll_68 : decode cX11_waitedByToll 68 = .ok (.aload_n 1, 1) := by decide +kernel
theorem dX11_waitedByToll_69 : decode cX11_waitedByToll 69 = .ok (.getfield 170, 3) := by decide +kernel
theorem dX11_waitedByToll_72 : decode cX11_waitedByToll 72 = .ok (.if_icmp .ge 68, 3) := by decide +kernel
theorem dX11_waitedByToll_75 : decode cX11_waitedByToll 75 = .ok (.aload_n 0, 1) := by decide +kernel
theorem dX11_waitedByToll_76 : decode cX11_waitedByToll 76 = .ok (.getfield 10, 3) := by decide +kernel
theorem dX11_waitedByToll_79 : decode cX11_waitedByToll 79 = .ok (.getfield 192, 3) := by decide +kernel
theorem dX11_waitedByToll_82 : decode cX11_waitedByToll 82 = .ok (.iload 8, 2) := by decide +kernel
theorem dX11_waitedByToll_84 : decode cX11_waitedByToll 84 = .ok (.iaload, 1) := by decide +kernel
theorem dX11_waitedByToll_85 : decode cX11_waitedByToll 85 = .ok (.iconst (-1), 1) := by decide +kernel
theorem dX11_waitedByToll_86 : decode cX11_waitedByToll 86 = .ok (.if_icmp .eq 21, 3) := by decide +kernel
theorem dX11_waitedByToll_89 : decode cX11_waitedByToll 89 = .ok (.aload_n 0, 1) := by decide +kernel
theorem dX11_waitedByToll_90 : decode cX11_waitedByToll 90 = .ok (.getfield 10, 3) := by decide +kernel
theorem dX11_waitedByToll_93 : decode cX11_waitedByToll 93 = .ok (.getfield 195, 3) := by decide +kernel
theorem dX11_waitedByToll_96 : decode cX11_waitedByToll 96 = .ok (.iload 8, 2) := by decide +kernel
theorem dX11_waitedByToll_98 : decode cX11_waitedByToll 98 = .ok (.iaload, 1) := by decide +kernel
theorem dX11_waitedByToll_99 : decode cX11_waitedByToll 99 = .ok (.iconst (-1), 1) := by decide +kernel
theorem dX11_waitedByToll_100 : decode cX11_waitedByToll 100 = .ok (.if_icmp .ne 7, 3) := by decide +kernel
theorem dX11_waitedByToll_103 : decode cX11_waitedByToll 103 = .ok (.iconst 1, 1) := by decide +kernel
theorem dX11_waitedByToll_104 : decode cX11_waitedByToll 104 = .ok (.goto 4, 3) := by decide +kernel
theorem dX11_waitedByToll_107 : decode cX11_waitedByToll 107 = .ok (.iconst 0, 1) := by decide +kernel
theorem dX11_waitedByToll_108 : decode cX11_waitedByToll 108 = .ok (.istore 9, 2) := by decide +kernel
theorem dX11_waitedByToll_110 : decode cX11_waitedByToll 110 = .ok (.iload 7, 2) := by decide +kernel
theorem dX11_waitedByToll_112 : decode cX11_waitedByToll 112 = .ok (.iload 9, 2) := by decide +kernel
theorem dX11_waitedByToll_114 : decode cX11_waitedByToll 114 = .ok (.ifCond .eq 8, 3) := by decide +kernel
theorem dX11_waitedByToll_117 : decode cX11_waitedByToll 117 = .ok (.bipush 24, 2) := by decide +kernel
theorem dX11_waitedByToll_119 : decode cX11_waitedByToll 119 = .ok (.goto 12, 3) := by decide +kernel
theorem dX11_waitedByToll_122 : decode cX11_waitedByToll 122 = .ok (.aload_n 0, 1) := by decide +kernel
theorem dX11_waitedByToll_123 : decode cX11_waitedByToll 123 = .ok (.getfield 10, 3) := by decide +kernel
theorem dX11_waitedByToll_126 : decode cX11_waitedByToll 126 = .ok (.iload 8, 2) := by decide +kernel
theorem dX11_waitedByToll_128 : decode cX11_waitedByToll 128 = .ok (.invokevirtual 221, 3) := by decide +kernel
theorem dX11_waitedByToll_131 : decode cX11_waitedByToll 131 = .ok (.iadd, 1) := by decide +kernel
theorem dX11_waitedByToll_132 : decode cX11_waitedByToll 132 = .ok (.istore 7, 2) := by decide +kernel
theorem dX11_waitedByToll_134 : decode cX11_waitedByToll 134 = .ok (.iinc 8 1, 3) := by decide +kernel
theorem dX11_waitedByToll_137 : decode cX11_waitedByToll 137 = .ok (.goto (-71), 3) := by decide +kernel
theorem dX11_waitedByToll_140 : decode cX11_waitedByToll 140 = .ok (.aload_n 0, 1) := by decide +kernel
theorem dX11_waitedByToll_141 : decode cX11_waitedByToll 141 = .ok (.getfield 20, 3) := by decide +kernel
theorem dX11_waitedByToll_144 : decode cX11_waitedByToll 144 = .ok (.getfield 110, 3) := by decide +kernel
theorem dX11_waitedByToll_147 : decode cX11_waitedByToll 147 = .ok (.iload_n 2, 1) := by decide +kernel
theorem dX11_waitedByToll_148 : decode cX11_waitedByToll 148 = .ok (.aaload, 1) := by decide +kernel
theorem dX11_waitedByToll_149 : decode cX11_waitedByToll 149 = .ok (.iload_n 3, 1) := by decide +kernel
theorem dX11_waitedByToll_150 : decode cX11_waitedByToll 150 = .ok (.iload 6, 2) := by decide +kernel
theorem dX11_waitedByToll_152 : decode cX11_waitedByToll 152 = .ok (.iastore, 1) := by decide +kernel
theorem dX11_waitedByToll_153 : decode cX11_waitedByToll 153 = .ok (.aload_n 0, 1) := by decide +kernel
theorem dX11_waitedByToll_154 : decode cX11_waitedByToll 154 = .ok (.getfield 75, 3) := by decide +kernel
theorem dX11_waitedByToll_157 : decode cX11_waitedByToll 157 = .ok (.iconst 0, 1) := by decide +kernel
theorem dX11_waitedByToll_158 : decode cX11_waitedByToll 158 = .ok (.aload_n 1, 1) := by decide +kernel
theorem dX11_waitedByToll_159 : decode cX11_waitedByToll 159 = .ok (.getfield 167, 3) := by decide +kernel
theorem dX11_waitedByToll_162 : decode cX11_waitedByToll 162 = .ok (.iconst 0, 1) := by decide +kernel
theorem dX11_waitedByToll_163 : decode cX11_waitedByToll 163 = .ok (.bipush 16, 2) := by decide +kernel
theorem dX11_waitedByToll_165 : decode cX11_waitedByToll 165 = .ok (.invokestatic 171, 3) := by decide +kernel
theorem dX11_waitedByToll_168 : decode cX11_waitedByToll 168 = .ok (.iload 7, 2) := by decide +kernel
theorem dX11_waitedByToll_170 : decode cX11_waitedByToll 170 = .ok (.ireturn, 1) := by decide +kernel
def lX11_waitedByToll_66 (u22 u23 u24 u25 u26 : Int) (K140 : ZS → Int → Option (Int × ZS)) : Nat → ZS → Int → Int → Option (Int × ZS)
  | 0, _, _, _ => none
  | n1 + 1, s21, x27, x28 => (zgw s21 u23 0).bind (fun v29 => if v29 ≤ x28 then (K140 s21 x27) else ((zg s21 11 u22 0).bind (fun v31 => (zg s21 2 v31 1).bind (fun v32 => (zal s21 100 v32 x28).bind (fun v33 => zjn (fun (K108 : ZS → Int → Option (Int × ZS)) => zjn (fun (K107 : ZS → Option (Int × ZS)) => if v33 = (-1) then (K107 s21) else ((zg s21 11 u22 0).bind (fun v35 => (zg s21 2 v35 2).bind (fun v36 => (zal s21 100 v36 x28).bind (fun v37 => if v37 = (-1) then (K108 s21 1) else (K107 s21)))))) (fun (s39 : ZS) => K108 s39 0)) (fun (s40 : ZS) (w41 : Int) => zjn (fun (K131 : ZS → Int → Option (Int × ZS)) => if w41 = 0 then ((zg s40 11 u22 0).bind (fun v43 => zb (zv s40 2 v43 (fX2_waitOf s40 v43 x28)) (fun v44 s45 => K131 s45 v44))) else (K131 s40 24)) (fun (s47 : ZS) (w48 : Int) => lX11_waitedByToll_66 u22 u23 u24 u25 u26 K140 n1 s47 (wrap (x27 + w48)) (wrap (x28 + 1)))))))))

def fX11_waitedByToll (s0 : ZS) (a0 : Int) (a1 : Int) (a2 : Int) (a3 : Int) (a4 : Int) (a5 : Int) : Option (Int × ZS) := (zg s0 11 a0 1).bind (fun v1 => (zg s0 5 v1 1).bind (fun v2 => (zal s0 102 v2 a2).bind (fun v3 => (zal s0 100 v3 a3).bind (fun v4 => (zgw s0 a1 1).bind (fun v5 => (zg s0 11 a0 14).bind (fun v6 => (zcp s0 v5 0 v6 0 16).bind (fun s7 => (zg s7 11 a0 1).bind (fun v8 => (zg s7 5 v8 1).bind (fun v9 => (zal s7 102 v9 a2).bind (fun v10 => (zas s7 100 v10 a3 a4).bind (fun s11 => zjn (fun (K52 : ZS → Option (Int × ZS)) => if a5 ≤ 0 then (K52 s11) else (zb (zv s11 11 a0 (fX11_makesMove s11 a0 a1)) (fun v13 s14 => K52 s14))) (fun (s16 : ZS) => (zg s16 11 a0 0).bind (fun v17 => zb (zv s16 2 v17 (fX2_follow s16 v17 a1)) (fun v18 s19 => lX11_waitedByToll_66 a0 a1 a2 a3 v4 (fun (s51 : ZS) (x52 : Int) => (zg s51 11 a0 1).bind (fun v53 => (zg s51 5 v53 1).bind (fun v54 => (zal s51 102 v54 a2).bind (fun v55 => (zas s51 100 v55 a3 v4).bind (fun s56 => (zg s56 11 a0 14).bind (fun v57 => (zgw s56 a1 1).bind (fun v58 => (zcp s56 v57 0 v58 0 16).bind (fun s59 => some (x52, s59))))))))) 1000 s19 0 0))))))))))))))
set_option maxHeartbeats 4000000 in
set_option maxRecDepth 100000 in
theorem mX11_waitedByToll (E : ZE) (hE : zOkE E) (l : Launch) (s0 : ZS) (a0 : Int) (a1 : Int) (a2 : Int) (a3 : Int) (a4 : Int) (a5 : Int) : Ct E l yX11_waitedByToll cX11_waitedByToll 10 (some .int) 14 [(2, a0), (2, a1), (0, a2), (0, a3), (0, a4), (0, a5)] 1 s0 (fX11_waitedByToll s0 a0 a1 a2 a3 a4 a5) := by
  refine Ct.of (by decide) hE (Nat.le_of_ble_eq_true rfl) ?_
  intro X G hX hR hN hXE hXl hxn hk _
  subst hXE
  subst hXl
  have hX : G → ZOk X cX11_waitedByToll RX11 14 := hX
  clear hN
  show Zj X G 0 [(0, (2, a0)), (1, (2, a1)), (2, (0, a2)), (3, (0, a3)), (4, (0, a4)), (5, (0, a5))] [] s0 _
  unfold fX11_waitedByToll
  refine z_aload_n (pc := 0) hX 0 dX11_waitedByToll_0 rfl rfl ?_
  refine z_get (pc := 1) hX zc11 1 (by decide) wd271 rfl rfl dX11_waitedByToll_1 (fun v1 => ?_)
  refine z_get (pc := 4) hX zc5 1 (by decide) wd109 rfl rfl dX11_waitedByToll_4 (fun v2 => ?_)
  refine z_iload_n (pc := 7) hX 2 dX11_waitedByToll_7 rfl rfl ?_
  refine z_aald (pc := 8) hX 2 102 (by decide) rfl rfl dX11_waitedByToll_8 (fun v3 => ?_)
  refine z_iload_n (pc := 9) hX 3 dX11_waitedByToll_9 rfl rfl ?_
  refine z_iald (pc := 10) hX dX11_waitedByToll_10 (fun v4 => ?_)
  refine z_istore (lv' := [(6, (0, v4)), (0, (2, a0)), (1, (2, a1)), (2, (0, a2)), (3, (0, a3)), (4, (0, a4)), (5, (0, a5))]) (pc := 11) hX dX11_waitedByToll_11 (zlt hxn rfl) rfl ?_
  refine z_aload_n (pc := 13) hX 2 dX11_waitedByToll_13 rfl rfl ?_
  refine z_getw (pc := 14) hX zc10 zc9 zc3 zc0 zc1 zc7 1 (by decide) wd620 rfl rfl rfl rfl rfl rfl rfl rfl rfl rfl rfl rfl rfl dX11_waitedByToll_14 (fun v5 => ?_)
  refine z_iconst (pc := 17) hX dX11_waitedByToll_17 ?_
  refine z_aload_n (pc := 18) hX 1 dX11_waitedByToll_18 rfl rfl ?_
  refine z_get (pc := 19) hX zc11 14 (by decide) wd284 rfl rfl dX11_waitedByToll_19 (fun v6 => ?_)
  refine z_iconst (pc := 22) hX dX11_waitedByToll_22 ?_
  refine z_bipush (pc := 23) hX dX11_waitedByToll_23 ?_
  refine z_acopy (pc := 25) hX (by decide) dX11_waitedByToll_25 wd676 wd573 wd572 wd75 (Nat.le_of_ble_eq_true rfl) (fun s7 => ?_)
  refine z_aload_n (pc := 28) hX 1 dX11_waitedByToll_28 rfl rfl ?_
  refine z_get (pc := 29) hX zc11 1 (by decide) wd271 rfl rfl dX11_waitedByToll_29 (fun v8 => ?_)
  refine z_get (pc := 32) hX zc5 1 (by decide) wd109 rfl rfl dX11_waitedByToll_32 (fun v9 => ?_)
  refine z_iload_n (pc := 35) hX 3 dX11_waitedByToll_35 rfl rfl ?_
  refine z_aald (pc := 36) hX 2 102 (by decide) rfl rfl dX11_waitedByToll_36 (fun v10 => ?_)
  refine z_iload_n (pc := 37) hX 4 dX11_waitedByToll_37 rfl rfl ?_
  refine z_iload (pc := 38) hX 5 dX11_waitedByToll_38 rfl ?_
  refine z_iastA (pc := 40) hX dX11_waitedByToll_40 (fun s11 => ?_)
  refine z_iload (pc := 41) hX 6 dX11_waitedByToll_41 rfl ?_
  refine z_jn (fun K52 eK52 => ?_)
  have hK52 : ∀ (s16 : ZS), Zj X G 52 [(0, (2, a0)), (1, (2, a1)), (2, (0, a2)), (3, (0, a3)), (6, (0, v4))] [] s16 (K52 s16) := by
    intro s16
    rw [eK52]
    refine z_aload_n (pc := 52) hX 0 dX11_waitedByToll_52 rfl rfl ?_
    refine z_get (pc := 53) hX zc11 0 (by decide) wd270 rfl rfl dX11_waitedByToll_53 (fun v17 => ?_)
    refine z_aload_n (pc := 56) hX 1 dX11_waitedByToll_56 rfl rfl ?_
    refine z_callV (n := 1) (st := []) (pc := 57) hX zc2 rfl (fun _ => (mX2_follow _ hE _ _ _ _)) ⟨wd723, wd62, wd726, ⟨by decide, by decide, by decide⟩, by decide⟩ rfl wd724 wd725 rfl rfl (by decide) (Nat.le_of_ble_eq_true rfl) dX11_waitedByToll_57 (fun v18 s19 r20 => ?_)
    show Zj X G 60 [(0, (2, a0)), (1, (2, a1)), (2, (0, a2)), (3, (0, a3)), (6, (0, v4))] [] _ _
    refine z_iconst (pc := 60) hX dX11_waitedByToll_60 ?_
    refine z_istore (lv' := [(7, (0, 0)), (0, (2, a0)), (1, (2, a1)), (2, (0, a2)), (3, (0, a3)), (6, (0, v4))]) (pc := 61) hX dX11_waitedByToll_61 (zlt hxn rfl) rfl ?_
    refine z_iconst (pc := 63) hX dX11_waitedByToll_63 ?_
    refine z_istore (lv' := [(8, (0, 0)), (7, (0, 0)), (0, (2, a0)), (1, (2, a1)), (2, (0, a2)), (3, (0, a3)), (6, (0, v4))]) (pc := 64) hX dX11_waitedByToll_64 (zlt hxn rfl) rfl ?_
    have hl66 : ∀ (u22 u23 u24 u25 u26 : Int), ∀ (K140 : ZS → Int → Option (Int × ZS)), (∀ (s49 : ZS) (x50 : Int), Zj X G 140 [(0, (2, u22)), (1, (2, u23)), (2, (0, u24)), (3, (0, u25)), (6, (0, u26)), (7, (0, x50))] [] s49 (K140 s49 x50)) → ∀ (n1 : Nat) (s21 : ZS) (x27 x28 : Int), Zj X G 66 [(0, (2, u22)), (1, (2, u23)), (2, (0, u24)), (3, (0, u25)), (6, (0, u26)), (7, (0, x27)), (8, (0, x28))] [] s21 (lX11_waitedByToll_66 u22 u23 u24 u25 u26 K140 n1 s21 x27 x28) := by
      intro u22 u23 u24 u25 u26 K140 hK140 n1
      induction n1 with
      | zero => intro _ _ _; exact z_none
      | succ n1 ih1 =>
        intro s21 x27 x28
        rw [lX11_waitedByToll_66]
        refine z_iload (pc := 66) hX 6 dX11_waitedByToll_66 rfl ?_
        refine z_aload_n (pc := 68) hX 1 dX11_waitedByToll_68 rfl rfl ?_
        refine z_getw (pc := 69) hX zc10 zc9 zc3 zc0 zc1 zc7 0 (by decide) wd617 rfl rfl rfl rfl rfl rfl rfl rfl rfl rfl rfl rfl rfl dX11_waitedByToll_69 (fun v29 => ?_)
        refine z_icmp_ge (pc := 72) hX 140 dX11_waitedByToll_72 (by decide) (fun h30 => ?_) (fun h30 => ?_)
        · refine z_pick (lv' := [(0, (2, u22)), (1, (2, u23)), (2, (0, u24)), (3, (0, u25)), (6, (0, u26)), (7, (0, x27))]) [0, 1, 2, 3, 4, 5] rfl ?_
          exact hK140 _ _
        · refine z_aload_n (pc := 75) hX 0 dX11_waitedByToll_75 rfl rfl ?_
          refine z_get (pc := 76) hX zc11 0 (by decide) wd270 rfl rfl dX11_waitedByToll_76 (fun v31 => ?_)
          refine z_get (pc := 79) hX zc2 1 (by decide) wd154 rfl rfl dX11_waitedByToll_79 (fun v32 => ?_)
          refine z_iload (pc := 82) hX 6 dX11_waitedByToll_82 rfl ?_
          refine z_iald (pc := 84) hX dX11_waitedByToll_84 (fun v33 => ?_)
          refine z_iconst (pc := 85) hX dX11_waitedByToll_85 ?_
          refine z_jn (fun K108 eK108 => ?_)
          have hK108 : ∀ (s40 : ZS) (w41 : Int), Zj X G 108 [(0, (2, u22)), (1, (2, u23)), (2, (0, u24)), (3, (0, u25)), (6, (0, u26)), (7, (0, x27)), (8, (0, x28))] [(0, w41)] s40 (K108 s40 w41) := by
            intro s40 w41
            rw [eK108]
            refine z_istore (lv' := [(9, (0, w41)), (0, (2, u22)), (1, (2, u23)), (2, (0, u24)), (3, (0, u25)), (6, (0, u26)), (7, (0, x27)), (8, (0, x28))]) (pc := 108) hX dX11_waitedByToll_108 (zlt hxn rfl) rfl ?_
            refine z_iload (pc := 110) hX 6 dX11_waitedByToll_110 rfl ?_
            refine z_iload (pc := 112) hX 0 dX11_waitedByToll_112 rfl ?_
            refine z_jn (fun K131 eK131 => ?_)
            have hK131 : ∀ (s47 : ZS) (w48 : Int), Zj X G 131 [(0, (2, u22)), (1, (2, u23)), (2, (0, u24)), (3, (0, u25)), (6, (0, u26)), (8, (0, x28))] [(0, w48), (0, x27)] s47 (K131 s47 w48) := by
              intro s47 w48
              rw [eK131]
              refine z_iadd (pc := 131) hX dX11_waitedByToll_131 ?_
              refine z_istore (lv' := [(7, (0, (wrap (x27 + w48)))), (0, (2, u22)), (1, (2, u23)), (2, (0, u24)), (3, (0, u25)), (6, (0, u26)), (8, (0, x28))]) (pc := 132) hX dX11_waitedByToll_132 (zlt hxn rfl) rfl ?_
              refine z_iinc (lv' := [(8, (0, (wrap (x28 + 1)))), (7, (0, (wrap (x27 + w48)))), (0, (2, u22)), (1, (2, u23)), (2, (0, u24)), (3, (0, u25)), (6, (0, u26))]) (pc := 134) hX 6 dX11_waitedByToll_134 rfl (zlt hxn rfl) rfl ?_
              refine z_goto (pc := 137) hX 66 dX11_waitedByToll_137 (by decide) ?_
              refine z_pick (lv' := [(0, (2, u22)), (1, (2, u23)), (2, (0, u24)), (3, (0, u25)), (6, (0, u26)), (7, (0, (wrap (x27 + w48)))), (8, (0, (wrap (x28 + 1))))]) [2, 3, 4, 5, 6, 1, 0] rfl ?_
              exact ih1 _ _ _
            clear eK131
            refine z_if_eq (pc := 114) hX 122 dX11_waitedByToll_114 (by decide) (fun h42 => ?_) (fun h42 => ?_)
            · refine z_aload_n (pc := 122) hX 1 dX11_waitedByToll_122 rfl rfl ?_
              refine z_get (pc := 123) hX zc11 0 (by decide) wd270 rfl rfl dX11_waitedByToll_123 (fun v43 => ?_)
              refine z_iload (pc := 126) hX 7 dX11_waitedByToll_126 rfl ?_
              refine z_callV (n := 1) (st := [(0, x27)]) (pc := 128) hX zc2 rfl (fun _ => (mX2_waitOf _ hE _ _ _ _)) ⟨wd847, wd62, wd850, ⟨by decide, by decide, by decide⟩, by decide⟩ rfl wd848 wd849 rfl rfl (by decide) (Nat.le_of_ble_eq_true rfl) dX11_waitedByToll_128 (fun v44 s45 r46 => ?_)
              show Zj X G 131 [(9, (0, w41)), (0, (2, u22)), (1, (2, u23)), (2, (0, u24)), (3, (0, u25)), (6, (0, u26)), (7, (0, x27)), (8, (0, x28))] [(0, v44), (0, x27)] _ _
              refine z_pick (lv' := [(0, (2, u22)), (1, (2, u23)), (2, (0, u24)), (3, (0, u25)), (6, (0, u26)), (8, (0, x28))]) [1, 2, 3, 4, 5, 7] rfl ?_
              exact hK131 _ _
            · refine z_bipush (pc := 117) hX dX11_waitedByToll_117 ?_
              refine z_goto (pc := 119) hX 131 dX11_waitedByToll_119 (by decide) ?_
              refine z_pick (lv' := [(0, (2, u22)), (1, (2, u23)), (2, (0, u24)), (3, (0, u25)), (6, (0, u26)), (8, (0, x28))]) [1, 2, 3, 4, 5, 7] rfl ?_
              exact hK131 _ _
          clear eK108
          refine z_jn (fun K107 eK107 => ?_)
          have hK107 : ∀ (s39 : ZS), Zj X G 107 [(0, (2, u22)), (1, (2, u23)), (2, (0, u24)), (3, (0, u25)), (6, (0, u26)), (7, (0, x27)), (8, (0, x28))] [] s39 (K107 s39) := by
            intro s39
            rw [eK107]
            refine z_iconst (pc := 107) hX dX11_waitedByToll_107 ?_
            exact hK108 _ _
          clear eK107
          refine z_icmp_eq (pc := 86) hX 107 dX11_waitedByToll_86 (by decide) (fun h34 => ?_) (fun h34 => ?_)
          · exact hK107 _
          · refine z_aload_n (pc := 89) hX 0 dX11_waitedByToll_89 rfl rfl ?_
            refine z_get (pc := 90) hX zc11 0 (by decide) wd270 rfl rfl dX11_waitedByToll_90 (fun v35 => ?_)
            refine z_get (pc := 93) hX zc2 2 (by decide) wd156 rfl rfl dX11_waitedByToll_93 (fun v36 => ?_)
            refine z_iload (pc := 96) hX 6 dX11_waitedByToll_96 rfl ?_
            refine z_iald (pc := 98) hX dX11_waitedByToll_98 (fun v37 => ?_)
            refine z_iconst (pc := 99) hX dX11_waitedByToll_99 ?_
            refine z_icmp_ne (pc := 100) hX 107 dX11_waitedByToll_100 (by decide) (fun h38 => ?_) (fun h38 => ?_)
            · exact hK107 _
            · refine z_iconst (pc := 103) hX dX11_waitedByToll_103 ?_
              refine z_goto (pc := 104) hX 108 dX11_waitedByToll_104 (by decide) ?_
              exact hK108 _ _
    refine z_pick (lv' := [(0, (2, a0)), (1, (2, a1)), (2, (0, a2)), (3, (0, a3)), (6, (0, v4)), (7, (0, 0)), (8, (0, 0))]) [2, 3, 4, 5, 6, 1, 0] rfl ?_
    refine hl66 _ _ _ _ _ _ (fun s51 x52 => ?_) 1000 _ _ _
    refine z_aload_n (pc := 140) hX 0 dX11_waitedByToll_140 rfl rfl ?_
    refine z_get (pc := 141) hX zc11 1 (by decide) wd271 rfl rfl dX11_waitedByToll_141 (fun v53 => ?_)
    refine z_get (pc := 144) hX zc5 1 (by decide) wd109 rfl rfl dX11_waitedByToll_144 (fun v54 => ?_)
    refine z_iload_n (pc := 147) hX 2 dX11_waitedByToll_147 rfl rfl ?_
    refine z_aald (pc := 148) hX 2 102 (by decide) rfl rfl dX11_waitedByToll_148 (fun v55 => ?_)
    refine z_iload_n (pc := 149) hX 3 dX11_waitedByToll_149 rfl rfl ?_
    refine z_iload (pc := 150) hX 4 dX11_waitedByToll_150 rfl ?_
    refine z_iastA (pc := 152) hX dX11_waitedByToll_152 (fun s56 => ?_)
    refine z_aload_n (pc := 153) hX 0 dX11_waitedByToll_153 rfl rfl ?_
    refine z_get (pc := 154) hX zc11 14 (by decide) wd284 rfl rfl dX11_waitedByToll_154 (fun v57 => ?_)
    refine z_iconst (pc := 157) hX dX11_waitedByToll_157 ?_
    refine z_aload_n (pc := 158) hX 1 dX11_waitedByToll_158 rfl rfl ?_
    refine z_getw (pc := 159) hX zc10 zc9 zc3 zc0 zc1 zc7 1 (by decide) wd620 rfl rfl rfl rfl rfl rfl rfl rfl rfl rfl rfl rfl rfl dX11_waitedByToll_159 (fun v58 => ?_)
    refine z_iconst (pc := 162) hX dX11_waitedByToll_162 ?_
    refine z_bipush (pc := 163) hX dX11_waitedByToll_163 ?_
    refine z_acopy (pc := 165) hX (by decide) dX11_waitedByToll_165 wd676 wd573 wd572 wd75 (Nat.le_of_ble_eq_true rfl) (fun s59 => ?_)
    refine z_iload (pc := 168) hX 5 dX11_waitedByToll_168 rfl ?_
    exact z_iret (pc := 170) hX hR hk dX11_waitedByToll_170
  clear eK52
  refine z_if_le (pc := 43) hX 52 dX11_waitedByToll_43 (by decide) (fun h12 => ?_) (fun h12 => ?_)
  · refine z_pick (lv' := [(0, (2, a0)), (1, (2, a1)), (2, (0, a2)), (3, (0, a3)), (6, (0, v4))]) [1, 2, 3, 4, 0] rfl ?_
    exact hK52 _
  · refine z_aload_n (pc := 46) hX 1 dX11_waitedByToll_46 rfl rfl ?_
    refine z_aload_n (pc := 47) hX 2 dX11_waitedByToll_47 rfl rfl ?_
    refine z_callV (n := 1) (st := []) (pc := 48) hX zc11 rfl (fun _ => (mX11_makesMove _ hE _ _ _ _)) ⟨wd876, wd61, wd879, ⟨by decide, by decide, by decide⟩, by decide⟩ rfl wd878 wd27 rfl rfl (by decide) (Nat.le_of_ble_eq_true rfl) dX11_waitedByToll_48 (fun v13 s14 r15 => ?_)
    show Zj X G 51 [(6, (0, v4)), (0, (2, a0)), (1, (2, a1)), (2, (0, a2)), (3, (0, a3)), (4, (0, a4)), (5, (0, a5))] [(0, v13)] _ _
    refine z_pop (pc := 51) hX zn0 dX11_waitedByToll_51 ?_
    refine z_pick (lv' := [(0, (2, a0)), (1, (2, a1)), (2, (0, a2)), (3, (0, a3)), (6, (0, v4))]) [1, 2, 3, 4, 0] rfl ?_
    exact hK52 _

theorem dX11_finest_0 : decode cX11_finest 0 = .ok (.aload_n 0, 1) := by decide +kernel
theorem dX11_finest_1 : decode cX11_finest 1 = .ok (.iload_n 1, 1) := by decide +kernel
theorem dX11_finest_2 : decode cX11_finest 2 = .ok (.invokevirtual 177, 3) := by decide +kernel
theorem dX11_finest_5 : decode cX11_finest 5 = .ok (.astore 5, 2) := by decide +kernel
theorem dX11_finest_7 : decode cX11_finest 7 = .ok (.aload 5, 2) := by decide +kernel
theorem dX11_finest_9 : decode cX11_finest 9 = .ok (.ifnull 17, 3) := by decide +kernel
theorem dX11_finest_12 : decode cX11_finest 12 = .ok (.iload_n 2, 1) := by decide +kernel
theorem dX11_finest_13 : decode cX11_finest 13 = .ok (.invokestatic 95, 3) := by decide +kernel
theorem dX11_finest_16 : decode cX11_finest 16 = .ok (.ifCond .eq 10, 3) := by decide +kernel
theorem dX11_finest_19 : decode cX11_finest 19 = .ok (.iload_n 3, 1) := by decide +kernel
theorem dX11_finest_20 : decode cX11_finest 20 = .ok (.invokestatic 99, 3) := by decide +kernel
theorem dX11_finest_23 : decode cX11_finest 23 = .ok (.ifCond .ne 6, 3) := by decide +kernel
theorem dX11_finest_26 : decode cX11_finest 26 = .ok (.bipush (-5), 2) := by decide +kernel
theorem dX11_finest_28 : decode cX11_finest 28 = .ok (.ireturn, 1) := by decide +kernel
theorem dX11_finest_29 : decode cX11_finest 29 = .ok (.iload 4, 2) := by decide +kernel
theorem dX11_finest_31 : decode cX11_finest 31 = .ok (.iconst 1, 1) := by decide +kernel
theorem dX11_finest_32 : decode cX11_finest 32 = .ok (.invokestatic 102, 3) := by decide +kernel
theorem dX11_finest_35 : decode cX11_finest 35 = .ok (.ifCond .ne 6, 3) := by decide +kernel
theorem dX11_finest_38 : decode cX11_finest 38 = .ok (.bipush (-7), 2) := by decide +kernel
theorem dX11_finest_40 : decode cX11_finest 40 = .ok (.ireturn, 1) := by decide +kernel
theorem dX11_finest_41 : decode cX11_finest 41 = .ok (.iconst 0, 1) := by decide +kernel
theorem dX11_finest_42 : decode cX11_finest 42 = .ok (.istore 6, 2) := by decide +kernel
theorem dX11_finest_44 : decode cX11_finest 44 = .ok (.aload_n 0, 1) := by decide +kernel
theorem dX11_finest_45 : decode cX11_finest 45 = .ok (.aload 5, 2) := by decide +kernel
theorem dX11_finest_47 : decode cX11_finest 47 = .ok (.iload_n 2, 1) := by decide +kernel
theorem dX11_finest_48 : decode cX11_finest 48 = .ok (.iload_n 3, 1) := by decide +kernel
theorem dX11_finest_49 : decode cX11_finest 49 = .ok (.iconst 0, 1) := by decide +kernel
theorem dX11_finest_50 : decode cX11_finest 50 = .ok (.iload 4, 2) := by decide +kernel
theorem dX11_finest_52 : decode cX11_finest 52 = .ok (.invokevirtual 258, 3) := by decide +kernel
theorem dX11_finest_55 : decode cX11_finest 55 = .ok (.istore 7, 2) := by decide +kernel
theorem dX11_finest_57 : decode cX11_finest 57 = .ok (.iconst 1, 1) := by decide +kernel
theorem dX11_finest_58 : decode cX11_finest 58 = .ok (.istore 8, 2) := by decide +kernel
theorem dX11_finest_60 : decode cX11_finest 60 = .ok (.iload 8, 2) := by decide +kernel
theorem dX11_finest_62 : decode cX11_finest 62 = .ok (.bipush 7, 2) := by decide +kernel
theorem dX11_finest_64 : decode cX11_finest 64 = .ok (.if_icmp .gt 38, 3) := by decide +kernel
theorem dX11_finest_67 : decode cX11_finest 67 = .ok (.aload_n 0, 1) := by decide +kernel
theorem dX11_finest_68 : decode cX11_finest 68 = .ok (.aload 5, 2) := by decide +kernel
theorem dX11_finest_70 : decode cX11_finest 70 = .ok (.iload_n 2, 1) := by decide +kernel
theorem dX11_finest_71 : decode cX11_finest 71 = .ok (.iload_n 3, 1) := by decide +kernel
theorem dX11_finest_72 : decode cX11_finest 72 = .ok (.iload 8, 2) := by decide +kernel
theorem dX11_finest_74 : decode cX11_finest 74 = .ok (.iload 4, 2) := by decide +kernel
theorem dX11_finest_76 : decode cX11_finest 76 = .ok (.invokevirtual 258, 3) := by decide +kernel
theorem dX11_finest_79 : decode cX11_finest 79 = .ok (.istore 9, 2) := by decide +kernel
theorem dX11_finest_81 : decode cX11_finest 81 = .ok (.iload 9, 2) := by decide +kernel
theorem dX11_finest_83 : decode cX11_finest 83 = .ok (.iload 7, 2) := by decide +kernel
theorem dX11_finest_85 : decode cX11_finest 85 = .ok (.if_icmp .ge 11, 3) := by decide +kernel
theorem dX11_finest_88 : decode cX11_finest 88 = .ok (.iload 9, 2) := by decide +kernel
theorem dX11_finest_90 : decode cX11_finest 90 = .ok (.istore 7, 2) := by decide +kernel
theorem dX11_finest_92 : decode cX11_finest 92 = .ok (.iload 8, 2) := by decide +kernel
theorem dX11_finest_94 : decode cX11_finest 94 = .ok (.istore 6, 2) := by decide +kernel
theorem dX11_finest_96 : decode cX11_finest 96 = .ok (.iinc 8 1, 3) := by decide +kernel
theorem dX11_finest_99 : decode cX11_finest 99 = .ok (.goto (-39), 3) := by decide +kernel
theorem dX11_finest_102 : decode cX11_finest 102 = .ok (.iload 6, 2) := by decide +kernel
theorem dX11_finest_104 : decode cX11_finest 104 = .ok (.ireturn, 1) := by decide +kernel
def lX11_finest_60 (u21 u22 u23 u24 u25 : Int)  : Nat → ZS → Int → Int → Int → Option (Int × ZS)
  | 0, _, _, _, _ => none
  | n1 + 1, s20, x26, x27, x28 => if 7 < x28 then (some (x26, s20)) else (zb (zv s20 11 u21 (fX11_waitedByToll s20 u21 u25 u22 u23 x28 u24)) (fun v30 s31 => zjn (fun (K96 : ZS → Int → Int → Option (Int × ZS)) => if x27 ≤ v30 then (K96 s31 x26 x27) else (K96 s31 x28 v30)) (fun (s34 : ZS) (x35 x36 : Int) => lX11_finest_60 u21 u22 u23 u24 u25 n1 s34 x35 x36 (wrap (x28 + 1)))))

def fX11_finest (s0 : ZS) (a0 : Int) (a1 : Int) (a2 : Int) (a3 : Int) (a4 : Int) : Option (Int × ZS) := zb (zv s0 11 a0 (fX11_wayAt s0 a0 a1)) (fun v1 s2 => if v1 < 0 then (some ((-5), s2)) else (zb (fX11_isGate s2 a2) (fun v5 s6 => if v5 = 0 then (some ((-5), s6)) else (zb (fX11_isMinute s6 a3) (fun v9 s10 => if v9 = 0 then (some ((-5), s10)) else (zb (fX11_within s10 a4 1) (fun v13 s14 => if v13 = 0 then (some ((-7), s14)) else (zb (zv s14 11 a0 (fX11_waitedByToll s14 a0 v1 a2 a3 0 a4)) (fun v17 s18 => lX11_finest_60 a0 a2 a3 a4 v1 1000 s18 0 v17 1)))))))))
set_option maxHeartbeats 4000000 in
set_option maxRecDepth 100000 in
theorem mX11_finest (E : ZE) (hE : zOkE E) (l : Launch) (s0 : ZS) (a0 : Int) (a1 : Int) (a2 : Int) (a3 : Int) (a4 : Int) : Ct E l yX11_finest cX11_finest 10 (some .int) 16 [(2, a0), (0, a1), (0, a2), (0, a3), (0, a4)] 1 s0 (fX11_finest s0 a0 a1 a2 a3 a4) := by
  refine Ct.of (by decide) hE (Nat.le_of_ble_eq_true rfl) ?_
  intro X G hX hR hN hXE hXl hxn hk _
  subst hXE
  subst hXl
  have hX : G → ZOk X cX11_finest RX11 16 := hX
  clear hN
  show Zj X G 0 [(0, (2, a0)), (1, (0, a1)), (2, (0, a2)), (3, (0, a3)), (4, (0, a4))] [] s0 _
  unfold fX11_finest
  refine z_aload_n (pc := 0) hX 0 dX11_finest_0 rfl rfl ?_
  refine z_iload_n (pc := 1) hX 1 dX11_finest_1 rfl rfl ?_
  refine z_callV (n := 1) (st := []) (pc := 2) hX zc11 rfl (fun _ => (mX11_wayAt _ hE _ _ _ _)) ⟨wd681, wd61, wd684, ⟨by decide, by decide, by decide⟩, by decide⟩ rfl wd683 wd18 rfl rfl (by decide) (Nat.le_of_ble_eq_true rfl) dX11_finest_2 (fun v1 s2 r3 => ?_)
  show Zj X G 5 [(0, (2, a0)), (1, (0, a1)), (2, (0, a2)), (3, (0, a3)), (4, (0, a4))] [(2, v1)] _ _
  refine z_astore (lv' := [(5, (2, v1)), (0, (2, a0)), (1, (0, a1)), (2, (0, a2)), (3, (0, a3)), (4, (0, a4))]) (pc := 5) hX dX11_finest_5 (zlt hxn rfl) rfl ?_
  refine z_aload (pc := 7) hX 0 dX11_finest_7 rfl ?_
  refine z_ifnull (pc := 9) hX 26 dX11_finest_9 (by decide) (fun h4 => ?_) (fun h4 => ?_)
  · refine z_bipush (pc := 26) hX dX11_finest_26 ?_
    exact z_iret (pc := 28) hX hR hk dX11_finest_28
  · refine z_iload_n (pc := 12) hX 3 dX11_finest_12 rfl rfl ?_
    refine z_callS (n := 1) (st := []) (pc := 13) hX (mX11_isGate _ hE _ _ _) ⟨wd326, wd61, wd328, ⟨by decide, by decide, by decide⟩, by decide⟩ wd327 rfl rfl (by decide) (Nat.le_of_ble_eq_true rfl) dX11_finest_13 (fun v5 s6 r7 => ?_)
    show Zj X G 16 [(5, (2, v1)), (0, (2, a0)), (1, (0, a1)), (2, (0, a2)), (3, (0, a3)), (4, (0, a4))] [(0, v5)] _ _
    refine z_if_eq (pc := 16) hX 26 dX11_finest_16 (by decide) (fun h8 => ?_) (fun h8 => ?_)
    · refine z_bipush (pc := 26) hX dX11_finest_26 ?_
      exact z_iret (pc := 28) hX hR hk dX11_finest_28
    · refine z_iload_n (pc := 19) hX 4 dX11_finest_19 rfl rfl ?_
      refine z_callS (n := 1) (st := []) (pc := 20) hX (mX11_isMinute _ hE _ _ _) ⟨wd332, wd61, wd334, ⟨by decide, by decide, by decide⟩, by decide⟩ wd333 rfl rfl (by decide) (Nat.le_of_ble_eq_true rfl) dX11_finest_20 (fun v9 s10 r11 => ?_)
      show Zj X G 23 [(5, (2, v1)), (0, (2, a0)), (1, (0, a1)), (2, (0, a2)), (3, (0, a3)), (4, (0, a4))] [(0, v9)] _ _
      refine z_if_ne (pc := 23) hX 29 dX11_finest_23 (by decide) (fun h12 => ?_) (fun h12 => ?_)
      · refine z_iload (pc := 29) hX 5 dX11_finest_29 rfl ?_
        refine z_iconst (pc := 31) hX dX11_finest_31 ?_
        refine z_callS (n := 2) (st := []) (pc := 32) hX (mX11_within _ hE _ _ _ _) ⟨wd329, wd61, wd331, ⟨by decide, by decide, by decide⟩, by decide⟩ wd330 rfl rfl (by decide) (Nat.le_of_ble_eq_true rfl) dX11_finest_32 (fun v13 s14 r15 => ?_)
        show Zj X G 35 [(5, (2, v1)), (0, (2, a0)), (1, (0, a1)), (2, (0, a2)), (3, (0, a3)), (4, (0, a4))] [(0, v13)] _ _
        refine z_if_ne (pc := 35) hX 41 dX11_finest_35 (by decide) (fun h16 => ?_) (fun h16 => ?_)
        · refine z_iconst (pc := 41) hX dX11_finest_41 ?_
          refine z_istore (lv' := [(6, (0, 0)), (5, (2, v1)), (0, (2, a0)), (1, (0, a1)), (2, (0, a2)), (3, (0, a3)), (4, (0, a4))]) (pc := 42) hX dX11_finest_42 (zlt hxn rfl) rfl ?_
          refine z_aload_n (pc := 44) hX 2 dX11_finest_44 rfl rfl ?_
          refine z_aload (pc := 45) hX 1 dX11_finest_45 rfl ?_
          refine z_iload_n (pc := 47) hX 4 dX11_finest_47 rfl rfl ?_
          refine z_iload_n (pc := 48) hX 5 dX11_finest_48 rfl rfl ?_
          refine z_iconst (pc := 49) hX dX11_finest_49 ?_
          refine z_iload (pc := 50) hX 6 dX11_finest_50 rfl ?_
          refine z_callV (n := 5) (st := []) (pc := 52) hX zc11 rfl (fun _ => (mX11_waitedByToll _ hE _ _ _ _ _ _ _ _)) ⟨wd923, wd61, wd926, ⟨by decide, by decide, by decide⟩, by decide⟩ rfl wd925 wd30 rfl rfl (by decide) (Nat.le_of_ble_eq_true rfl) dX11_finest_52 (fun v17 s18 r19 => ?_)
          show Zj X G 55 [(6, (0, 0)), (5, (2, v1)), (0, (2, a0)), (1, (0, a1)), (2, (0, a2)), (3, (0, a3)), (4, (0, a4))] [(0, v17)] _ _
          refine z_istore (lv' := [(7, (0, v17)), (6, (0, 0)), (5, (2, v1)), (0, (2, a0)), (1, (0, a1)), (2, (0, a2)), (3, (0, a3)), (4, (0, a4))]) (pc := 55) hX dX11_finest_55 (zlt hxn rfl) rfl ?_
          refine z_iconst (pc := 57) hX dX11_finest_57 ?_
          refine z_istore (lv' := [(8, (0, 1)), (7, (0, v17)), (6, (0, 0)), (5, (2, v1)), (0, (2, a0)), (1, (0, a1)), (2, (0, a2)), (3, (0, a3)), (4, (0, a4))]) (pc := 58) hX dX11_finest_58 (zlt hxn rfl) rfl ?_
          have hl60 : ∀ (u21 u22 u23 u24 u25 : Int), ∀ (n1 : Nat) (s20 : ZS) (x26 x27 x28 : Int), Zj X G 60 [(0, (2, u21)), (2, (0, u22)), (3, (0, u23)), (4, (0, u24)), (5, (2, u25)), (6, (0, x26)), (7, (0, x27)), (8, (0, x28))] [] s20 (lX11_finest_60 u21 u22 u23 u24 u25 n1 s20 x26 x27 x28) := by
            intro u21 u22 u23 u24 u25 n1
            induction n1 with
            | zero => intro _ _ _ _; exact z_none
            | succ n1 ih1 =>
              intro s20 x26 x27 x28
              rw [lX11_finest_60]
              refine z_iload (pc := 60) hX 7 dX11_finest_60 rfl ?_
              refine z_bipush (pc := 62) hX dX11_finest_62 ?_
              refine z_icmp_gt (pc := 64) hX 102 dX11_finest_64 (by decide) (fun h29 => ?_) (fun h29 => ?_)
              · refine z_iload (pc := 102) hX 5 dX11_finest_102 rfl ?_
                exact z_iret (pc := 104) hX hR hk dX11_finest_104
              · refine z_aload_n (pc := 67) hX 0 dX11_finest_67 rfl rfl ?_
                refine z_aload (pc := 68) hX 4 dX11_finest_68 rfl ?_
                refine z_iload_n (pc := 70) hX 1 dX11_finest_70 rfl rfl ?_
                refine z_iload_n (pc := 71) hX 2 dX11_finest_71 rfl rfl ?_
                refine z_iload (pc := 72) hX 7 dX11_finest_72 rfl ?_
                refine z_iload (pc := 74) hX 3 dX11_finest_74 rfl ?_
                refine z_callV (n := 5) (st := []) (pc := 76) hX zc11 rfl (fun _ => (mX11_waitedByToll _ hE _ _ _ _ _ _ _ _)) ⟨wd923, wd61, wd926, ⟨by decide, by decide, by decide⟩, by decide⟩ rfl wd925 wd30 rfl rfl (by decide) (Nat.le_of_ble_eq_true rfl) dX11_finest_76 (fun v30 s31 r32 => ?_)
                show Zj X G 79 [(0, (2, u21)), (2, (0, u22)), (3, (0, u23)), (4, (0, u24)), (5, (2, u25)), (6, (0, x26)), (7, (0, x27)), (8, (0, x28))] [(0, v30)] _ _
                refine z_istore (lv' := [(9, (0, v30)), (0, (2, u21)), (2, (0, u22)), (3, (0, u23)), (4, (0, u24)), (5, (2, u25)), (6, (0, x26)), (7, (0, x27)), (8, (0, x28))]) (pc := 79) hX dX11_finest_79 (zlt hxn rfl) rfl ?_
                refine z_iload (pc := 81) hX 0 dX11_finest_81 rfl ?_
                refine z_iload (pc := 83) hX 7 dX11_finest_83 rfl ?_
                refine z_jn (fun K96 eK96 => ?_)
                have hK96 : ∀ (s34 : ZS) (x35 x36 : Int), Zj X G 96 [(0, (2, u21)), (2, (0, u22)), (3, (0, u23)), (4, (0, u24)), (5, (2, u25)), (6, (0, x35)), (7, (0, x36)), (8, (0, x28))] [] s34 (K96 s34 x35 x36) := by
                  intro s34 x35 x36
                  rw [eK96]
                  refine z_iinc (lv' := [(8, (0, (wrap (x28 + 1)))), (0, (2, u21)), (2, (0, u22)), (3, (0, u23)), (4, (0, u24)), (5, (2, u25)), (6, (0, x35)), (7, (0, x36))]) (pc := 96) hX 7 dX11_finest_96 rfl (zlt hxn rfl) rfl ?_
                  refine z_goto (pc := 99) hX 60 dX11_finest_99 (by decide) ?_
                  refine z_pick (lv' := [(0, (2, u21)), (2, (0, u22)), (3, (0, u23)), (4, (0, u24)), (5, (2, u25)), (6, (0, x35)), (7, (0, x36)), (8, (0, (wrap (x28 + 1))))]) [1, 2, 3, 4, 5, 6, 7, 0] rfl ?_
                  exact ih1 _ _ _ _
                clear eK96
                refine z_icmp_ge (pc := 85) hX 96 dX11_finest_85 (by decide) (fun h33 => ?_) (fun h33 => ?_)
                · refine z_pick (lv' := [(0, (2, u21)), (2, (0, u22)), (3, (0, u23)), (4, (0, u24)), (5, (2, u25)), (6, (0, x26)), (7, (0, x27)), (8, (0, x28))]) [1, 2, 3, 4, 5, 6, 7, 8] rfl ?_
                  exact hK96 _ _ _
                · refine z_iload (pc := 88) hX 0 dX11_finest_88 rfl ?_
                  refine z_istore (lv' := [(7, (0, v30)), (9, (0, v30)), (0, (2, u21)), (2, (0, u22)), (3, (0, u23)), (4, (0, u24)), (5, (2, u25)), (6, (0, x26)), (8, (0, x28))]) (pc := 90) hX dX11_finest_90 (zlt hxn rfl) rfl ?_
                  refine z_iload (pc := 92) hX 8 dX11_finest_92 rfl ?_
                  refine z_istore (lv' := [(6, (0, x28)), (7, (0, v30)), (9, (0, v30)), (0, (2, u21)), (2, (0, u22)), (3, (0, u23)), (4, (0, u24)), (5, (2, u25)), (8, (0, x28))]) (pc := 94) hX dX11_finest_94 (zlt hxn rfl) rfl ?_
                  refine z_pick (lv' := [(0, (2, u21)), (2, (0, u22)), (3, (0, u23)), (4, (0, u24)), (5, (2, u25)), (6, (0, x28)), (7, (0, v30)), (8, (0, x28))]) [3, 4, 5, 6, 7, 0, 1, 8] rfl ?_
                  exact hK96 _ _ _
          refine z_pick (lv' := [(0, (2, a0)), (2, (0, a2)), (3, (0, a3)), (4, (0, a4)), (5, (2, v1)), (6, (0, 0)), (7, (0, v17)), (8, (0, 1))]) [4, 6, 7, 8, 3, 2, 1, 0] rfl ?_
          refine hl60 _ _ _ _ _ 1000 _ _ _ _
        · refine z_bipush (pc := 38) hX dX11_finest_38 ?_
          exact z_iret (pc := 40) hX hR hk dX11_finest_40
      · refine z_bipush (pc := 26) hX dX11_finest_26 ?_
        exact z_iret (pc := 28) hX hR hk dX11_finest_28
