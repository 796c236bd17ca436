theorem dX11_findRestless_0 : decode cX11_findRestless 0 = .ok (.aload_n 0, 1) := by decide +kernel
theorem dX11_findRestless_1 : decode cX11_findRestless 1 = .ok (.getfield 40, 3) := by decide +kernel
theorem dX11_findRestless_4 : decode cX11_findRestless 4 = .ok (.aload_n 0, 1) := by decide +kernel
theorem dX11_findRestless_5 : decode cX11_findRestless 5 = .ok (.getfield 47, 3) := by decide +kernel
theorem dX11_findRestless_8 : decode cX11_findRestless 8 = .ok (.aaload, 1) := by decide +kernel
theorem dX11_findRestless_9 : decode cX11_findRestless 9 = .ok (.astore_n 2, 1) := by decide +kernel
theorem dX11_findRestless_10 : decode cX11_findRestless 10 = .ok (.iconst 0, 1) := by decide +kernel
theorem dX11_findRestless_11 : decode cX11_findRestless 11 = .ok (.istore_n 3, 1) := by decide +kernel
theorem dX11_findRestless_12 : decode cX11_findRestless 12 = .ok (.iload_n 3, 1) := by decide +kernel
theorem dX11_findRestless_13 : decode cX11_findRestless 13 = .ok (.aload_n 1, 1) := by decide +kernel
theorem dX11_findRestless_14 : decode cX11_findRestless 14 = .ok (.getfield 170, 3) := by decide +kernel
theorem dX11_findRestless_17 : decode cX11_findRestless 17 = .ok (.if_icmp .ge 105, 3) := by decide +kernel
theorem dX11_findRestless_20 : decode cX11_findRestless 20 = .ok (.aload_n 0, 1) := by decide +kernel
theorem dX11_findRestless_21 : decode cX11_findRestless 21 = .ok (.getfield 10, 3) := by decide +kernel
theorem dX11_findRestless_24 : decode cX11_findRestless 24 = .ok (.aload_n 1, 1) := by decide +kernel
theorem dX11_findRestless_25 : decode cX11_findRestless 25 = .ok (.iload_n 3, 1) := by decide +kernel
theorem dX11_findRestless_26 : decode cX11_findRestless 26 = .ok (.invokevirtual 233, 3) := by decide +kernel
theorem dX11_findRestless_29 : decode cX11_findRestless 29 = .ok (.aload_n 0, 1) := by decide +kernel
theorem dX11_findRestless_30 : decode cX11_findRestless 30 = .ok (.getfield 10, 3) := by decide +kernel
theorem dX11_findRestless_33 : decode cX11_findRestless 33 = .ok (.aload_n 1, 1) := by decide +kernel
theorem dX11_findRestless_34 : decode cX11_findRestless 34 = .ok (.iload_n 3, 1) := by decide +kernel
theorem dX11_findRestless_35 : decode cX11_findRestless 35 = .ok (.aload_n 1, 1) := by decide +kernel
theorem dX11_findRestless_36 : decode cX11_findRestless 36 = .ok (.getfield 167, 3) := by decide +kernel
theorem dX11_findRestless_39 : decode cX11_findRestless 39 = .ok (.iload_n 3, 1) := by decide +kernel
theorem dX11_findRestless_40 : decode cX11_findRestless 40 = .ok (.iaload, 1) := by decide +kernel
theorem dX11_findRestless_41 : decode cX11_findRestless 41 = .ok (.aload_n 2, 1) := by decide +kernel
theorem dX11_findRestless_42 : decode cX11_findRestless 42 = .ok (.invokevirtual 237, 3) := by decide +kernel
theorem dX11_findRestless_45 : decode cX11_findRestless 45 = .ok (.istore 4, 2) := by decide +kernel
theorem dX11_findRestless_47 : decode cX11_findRestless 47 = .ok (.iload 4, 2) := by decide +kernel
theorem dX11_findRestless_49 : decode cX11_findRestless 49 = .ok (.istore 5, 2) := by decide +kernel
theorem dX11_findRestless_51 : decode cX11_findRestless 51 = .ok (.iconst 0, 1) := by decide +kernel
theorem dX11_findRestless_52 : decode cX11_findRestless 52 = .ok (.istore 6, 2) := by decide +kernel
theorem dX11_findRestless_54 : decode cX11_findRestless 54 = .ok (.iload 6, 2) := by decide +kernel
theorem dX11_findRestless_56 : decode cX11_findRestless 56 = .ok (.bipush 48, 2) := by decide +kernel
theorem dX11_findRestless_58 : decode cX11_findRestless 58 = .ok (.if_icmp .gt 40, 3) := by decide +kernel
theorem dX11_findRestless_61 : decode cX11_findRestless 61 = .ok (.aload_n 0, 1) := by decide +kernel
theorem dX11_findRestless_62 : decode cX11_findRestless 62 = .ok (.getfield 10, 3) := by decide +kernel
theorem dX11_findRestless_65 : decode cX11_findRestless 65 = .ok (.aload_n 1, 1) := by decide +kernel
theorem dX11_findRestless_66 : decode cX11_findRestless 66 = .ok (.iload_n 3, 1) := by decide +kernel
theorem dX11_findRestless_67 : decode cX11_findRestless 67 = .ok (.iload 6, 2) := by decide +kernel
theorem dX11_findRestless_69 : decode cX11_findRestless 69 = .ok (.aload_n 2, 1) := by decide +kernel
theorem dX11_findRestless_70 : decode cX11_findRestless 70 = .ok (.invokevirtual 237, 3) := by decide +kernel
theorem dX11_findRestless_73 : decode cX11_findRestless 73 = .ok (.istore 7, 2) := by decide +kernel
theorem dX11_findRestless_75 : decode cX11_findRestless 75 = .ok (.iload 7, 2) := by decide +kernel
theorem dX11_findRestless_77 : decode cX11_findRestless 77 = .ok (.iload 5, 2) := by decide +kernel
theorem dX11_findRestless_79 : decode cX11_findRestless 79 = .ok (.if_icmp .ge 13, 3) := by decide +kernel
theorem dX11_findRestless_82 : decode cX11_findRestless 82 = .ok (.iload 7, 2) := by decide +kernel
theorem dX11_findRestless_84 : decode cX11_findRestless 84 = .ok (.istore 5, 2) := by decide +kernel
theorem dX11_findRestless_86 : decode cX11_findRestless 86 = .ok (.aload_n 0, 1) := by decide +kernel
theorem dX11_findRestless_87 : decode cX11_findRestless 87 = .ok (.iload 6, 2) := by decide +kernel
theorem dX11_findRestless_89 : decode cX11_findRestless 89 = .ok (.putfield 79, 3) := by decide +kernel
theorem dX11_findRestless_92 : decode cX11_findRestless 92 = .ok (.iinc 6 1, 3) := by decide +kernel
theorem dX11_findRestless_95 : decode cX11_findRestless 95 = .ok (.goto (-41), 3) := by decide +kernel
theorem dX11_findRestless_98 : decode cX11_findRestless 98 = .ok (.iload 5, 2) := by decide +kernel
theorem dX11_findRestless_100 : decode cX11_findRestless 100 = .ok (.iload 4, 2) := by decide +kernel
theorem dX11_findRestless_102 : decode cX11_findRestless 102 = .ok (.if_icmp .ge 14, 3) := by decide +kernel
theorem dX11_findRestless_105 : decode cX11_findRestless 105 = .ok (.aload_n 0, 1) := by decide +kernel
theorem dX11_findRestless_106 : decode cX11_findRestless 106 = .ok (.iload 4, 2) := by decide +kernel
theorem dX11_findRestless_108 : decode cX11_findRestless 108 = .ok (.iload 5, 2) := by decide +kernel
theorem dX11_findRestless_110 : decode cX11_findRestless 110 = .ok (.isub, 1) := by decide +kernel
theorem dX11_findRestless_111 : decode cX11_findRestless 111 = .ok (.putfield 82, 3) := by decide +kernel
theorem dX11_findRestless_114 : decode cX11_findRestless 114 = .ok (.iload_n 3, 1) := by decide +kernel
theorem dX11_findRestless_115 : decode cX11_findRestless 115 = .ok (.ireturn, 1) := by decide +kernel
theorem dX11_findRestless_116 : decode cX11_findRestless 116 = .ok (.iinc 3 1, 3) := by decide +kernel
theorem dX11_findRestless_119 : decode cX11_findRestless 119 = .ok (.goto (-107), 3) := by decide +kernel
theorem dX11_findRestless_122 : decode cX11_findRestless 122 = .ok (.iconst (-1), 1) := by decide +kernel
theorem dX11_findRestless_123 : decode cX11_findRestless 123 = .ok (.ireturn, 1) := by decide +kernel
def lX11_findRestless_54 (u22 u23 u24 u25 u26 : Int) (K98 : ZS → Int → Option (Int × ZS)) : Nat → ZS → Int → Int → Option (Int × ZS)
  | 0, _, _, _ => none
  | n2 + 1, s21, x27, x28 => if 48 < x28 then (K98 s21 x27) else ((zg s21 11 u22 0).bind (fun v30 => zb (zv s21 2 v30 (fX2_costIf s21 v30 u23 u25 x28 u24)) (fun v31 s32 => zjn (fun (K92 : ZS → Int → Option (Int × ZS)) => if x27 ≤ v31 then (K92 s32 x27) else ((zp s32 11 u22 15 x28).bind (fun s35 => K92 s35 v31))) (fun (s36 : ZS) (x37 : Int) => lX11_findRestless_54 u22 u23 u24 u25 u26 K98 n2 s36 x37 (wrap (x28 + 1))))))

def lX11_findRestless_12 (u5 u6 u7 : Int) (K105 : ZS → Int → Int → Int → Option (Int × ZS)) : Nat → ZS → Int → Option (Int × ZS)
  | 0, _, _ => none
  | n1 + 1, s4, x8 => (zgw s4 u6 0).bind (fun v9 => if v9 ≤ x8 then (some ((-1), s4)) else ((zg s4 11 u5 0).bind (fun v11 => zb (zv s4 2 v11 (fX2_gather s4 v11 u6 x8)) (fun v12 s13 => (zg s13 11 u5 0).bind (fun v15 => (zgw s13 u6 1).bind (fun v16 => (zal s13 100 v16 x8).bind (fun v17 => zb (zv s13 2 v15 (fX2_costIf s13 v15 u6 x8 v17 u7)) (fun v18 s19 => lX11_findRestless_54 u5 u6 u7 x8 v18 (fun (s40 : ZS) (x41 : Int) => if v18 ≤ x41 then (lX11_findRestless_12 u5 u6 u7 K105 n1 s40 (wrap (x8 + 1))) else (K105 s40 x8 v18 x41)) 1000 s19 v18 0))))))))

def fX11_findRestless (s0 : ZS) (a0 : Int) (a1 : Int) : Option (Int × ZS) := (zg s0 11 a0 5).bind (fun v1 => (zg s0 11 a0 7).bind (fun v2 => (zal s0 104 v1 v2).bind (fun v3 => lX11_findRestless_12 a0 a1 v3 (fun (s47 : ZS) (x48 x49 x50 : Int) => (zp s47 11 a0 16 (wrap (x49 - x50))).bind (fun s51 => some (x48, s51))) 1000 s0 0)))
set_option maxHeartbeats 4000000 in
set_option maxRecDepth 100000 in
theorem mX11_findRestless (E : ZE) (hE : zOkE E) (l : Launch) (s0 : ZS) (a0 : Int) (a1 : Int) : Ct E l yX11_findRestless cX11_findRestless 8 (some .int) 10 [(2, a0), (2, a1)] 1 s0 (fX11_findRestless s0 a0 a1) := by
  refine Ct.of (by decide) hE (Nat.le_of_ble_eq_true rfl) ?_
  intro X G hX hR hN hXE hXl hxn hk _
  subst hXE
  subst hXl
  have hX : G → ZOk X cX11_findRestless RX11 10 := hX
  clear hN
  show Zj X G 0 [(0, (2, a0)), (1, (2, a1))] [] s0 _
  unfold fX11_findRestless
  refine z_aload_n (pc := 0) hX 0 dX11_findRestless_0 rfl rfl ?_
  refine z_get (pc := 1) hX zc11 5 (by decide) wd275 rfl rfl dX11_findRestless_1 (fun v1 => ?_)
  refine z_aload_n (pc := 4) hX 0 dX11_findRestless_4 rfl rfl ?_
  refine z_get (pc := 5) hX zc11 7 (by decide) wd277 rfl rfl dX11_findRestless_5 (fun v2 => ?_)
  refine z_aald (pc := 8) hX 4 104 (by decide) rfl rfl dX11_findRestless_8 (fun v3 => ?_)
  refine z_astore_n (lv' := [(2, (2, v3)), (0, (2, a0)), (1, (2, a1))]) (pc := 9) hX dX11_findRestless_9 rfl (zlt hxn rfl) rfl ?_
  refine z_iconst (pc := 10) hX dX11_findRestless_10 ?_
  refine z_istore_n (lv' := [(3, (0, 0)), (2, (2, v3)), (0, (2, a0)), (1, (2, a1))]) (pc := 11) hX dX11_findRestless_11 rfl (zlt hxn rfl) rfl ?_
  have hl12 : ∀ (u5 u6 u7 : Int), ∀ (K105 : ZS → Int → Int → Int → Option (Int × ZS)), (∀ (s43 : ZS) (x44 x45 x46 : Int), Zj X G 105 [(0, (2, u5)), (3, (0, x44)), (4, (0, x45)), (5, (0, x46))] [] s43 (K105 s43 x44 x45 x46)) → ∀ (n1 : Nat) (s4 : ZS) (x8 : Int), Zj X G 12 [(0, (2, u5)), (1, (2, u6)), (2, (2, u7)), (3, (0, x8))] [] s4 (lX11_findRestless_12 u5 u6 u7 K105 n1 s4 x8) := by
    intro u5 u6 u7 K105 hK105 n1
    induction n1 with
    | zero => intro _ _; exact z_none
    | succ n1 ih1 =>
      intro s4 x8
      rw [lX11_findRestless_12]
      refine z_iload_n (pc := 12) hX 3 dX11_findRestless_12 rfl rfl ?_
      refine z_aload_n (pc := 13) hX 1 dX11_findRestless_13 rfl rfl ?_
      refine z_getw (pc := 14) hX zc10 zc9 zc3 zc0 zc1 zc7 0 (by decide) wd617 rfl rfl rfl rfl rfl rfl rfl rfl rfl rfl rfl rfl rfl dX11_findRestless_14 (fun v9 => ?_)
      refine z_icmp_ge (pc := 17) hX 122 dX11_findRestless_17 (by decide) (fun h10 => ?_) (fun h10 => ?_)
      · refine z_iconst (pc := 122) hX dX11_findRestless_122 ?_
        exact z_iret (pc := 123) hX hR hk dX11_findRestless_123
      · refine z_aload_n (pc := 20) hX 0 dX11_findRestless_20 rfl rfl ?_
        refine z_get (pc := 21) hX zc11 0 (by decide) wd270 rfl rfl dX11_findRestless_21 (fun v11 => ?_)
        refine z_aload_n (pc := 24) hX 1 dX11_findRestless_24 rfl rfl ?_
        refine z_iload_n (pc := 25) hX 3 dX11_findRestless_25 rfl rfl ?_
        refine z_callV (n := 2) (st := []) (pc := 26) hX zc2 rfl (fun _ => (mX2_gather _ hE _ _ _ _ _)) ⟨wd859, wd62, wd730, ⟨by decide, by decide, by decide⟩, by decide⟩ rfl wd728 wd729 rfl rfl (by decide) (Nat.le_of_ble_eq_true rfl) dX11_findRestless_26 (fun v12 s13 r14 => ?_)
        show Zj X G 29 [(0, (2, u5)), (1, (2, u6)), (2, (2, u7)), (3, (0, x8))] [] _ _
        refine z_aload_n (pc := 29) hX 0 dX11_findRestless_29 rfl rfl ?_
        refine z_get (pc := 30) hX zc11 0 (by decide) wd270 rfl rfl dX11_findRestless_30 (fun v15 => ?_)
        refine z_aload_n (pc := 33) hX 1 dX11_findRestless_33 rfl rfl ?_
        refine z_iload_n (pc := 34) hX 3 dX11_findRestless_34 rfl rfl ?_
        refine z_aload_n (pc := 35) hX 1 dX11_findRestless_35 rfl rfl ?_
        refine z_getw (pc := 36) hX zc10 zc9 zc3 zc0 zc1 zc7 1 (by decide) wd620 rfl rfl rfl rfl rfl rfl rfl rfl rfl rfl rfl rfl rfl dX11_findRestless_36 (fun v16 => ?_)
        refine z_iload_n (pc := 39) hX 3 dX11_findRestless_39 rfl rfl ?_
        refine z_iald (pc := 40) hX dX11_findRestless_40 (fun v17 => ?_)
        refine z_aload_n (pc := 41) hX 2 dX11_findRestless_41 rfl rfl ?_
        refine z_callV (n := 4) (st := []) (pc := 42) hX zc2 rfl (fun _ => (mX2_costIf _ hE _ _ _ _ _ _ _)) ⟨wd860, wd62, wd863, ⟨by decide, by decide, by decide⟩, by decide⟩ rfl wd861 wd862 rfl rfl (by decide) (Nat.le_of_ble_eq_true rfl) dX11_findRestless_42 (fun v18 s19 r20 => ?_)
        show Zj X G 45 [(0, (2, u5)), (1, (2, u6)), (2, (2, u7)), (3, (0, x8))] [(0, v18)] _ _
        refine z_istore (lv' := [(4, (0, v18)), (0, (2, u5)), (1, (2, u6)), (2, (2, u7)), (3, (0, x8))]) (pc := 45) hX dX11_findRestless_45 (zlt hxn rfl) rfl ?_
        refine z_iload (pc := 47) hX 0 dX11_findRestless_47 rfl ?_
        refine z_istore (lv' := [(5, (0, v18)), (4, (0, v18)), (0, (2, u5)), (1, (2, u6)), (2, (2, u7)), (3, (0, x8))]) (pc := 49) hX dX11_findRestless_49 (zlt hxn rfl) rfl ?_
        refine z_iconst (pc := 51) hX dX11_findRestless_51 ?_
        refine z_istore (lv' := [(6, (0, 0)), (5, (0, v18)), (4, (0, v18)), (0, (2, u5)), (1, (2, u6)), (2, (2, u7)), (3, (0, x8))]) (pc := 52) hX dX11_findRestless_52 (zlt hxn rfl) rfl ?_
        have hl54 : ∀ (u22 u23 u24 u25 u26 : Int), ∀ (K98 : ZS → Int → Option (Int × ZS)), (∀ (s38 : ZS) (x39 : Int), Zj X G 98 [(0, (2, u22)), (1, (2, u23)), (2, (2, u24)), (3, (0, u25)), (4, (0, u26)), (5, (0, x39))] [] s38 (K98 s38 x39)) → ∀ (n2 : Nat) (s21 : ZS) (x27 x28 : Int), Zj X G 54 [(0, (2, u22)), (1, (2, u23)), (2, (2, u24)), (3, (0, u25)), (4, (0, u26)), (5, (0, x27)), (6, (0, x28))] [] s21 (lX11_findRestless_54 u22 u23 u24 u25 u26 K98 n2 s21 x27 x28) := by
          intro u22 u23 u24 u25 u26 K98 hK98 n2
          induction n2 with
          | zero => intro _ _ _; exact z_none
          | succ n2 ih2 =>
            intro s21 x27 x28
            rw [lX11_findRestless_54]
            refine z_iload (pc := 54) hX 6 dX11_findRestless_54 rfl ?_
            refine z_bipush (pc := 56) hX dX11_findRestless_56 ?_
            refine z_icmp_gt (pc := 58) hX 98 dX11_findRestless_58 (by decide) (fun h29 => ?_) (fun h29 => ?_)
            · refine z_pick (lv' := [(0, (2, u22)), (1, (2, u23)), (2, (2, u24)), (3, (0, u25)), (4, (0, u26)), (5, (0, x27))]) [0, 1, 2, 3, 4, 5] rfl ?_
              exact hK98 _ _
            · refine z_aload_n (pc := 61) hX 0 dX11_findRestless_61 rfl rfl ?_
              refine z_get (pc := 62) hX zc11 0 (by decide) wd270 rfl rfl dX11_findRestless_62 (fun v30 => ?_)
              refine z_aload_n (pc := 65) hX 1 dX11_findRestless_65 rfl rfl ?_
              refine z_iload_n (pc := 66) hX 3 dX11_findRestless_66 rfl rfl ?_
              refine z_iload (pc := 67) hX 6 dX11_findRestless_67 rfl ?_
              refine z_aload_n (pc := 69) hX 2 dX11_findRestless_69 rfl rfl ?_
              refine z_callV (n := 4) (st := []) (pc := 70) hX zc2 rfl (fun _ => (mX2_costIf _ hE _ _ _ _ _ _ _)) ⟨wd860, wd62, wd863, ⟨by decide, by decide, by decide⟩, by decide⟩ rfl wd861 wd862 rfl rfl (by decide) (Nat.le_of_ble_eq_true rfl) dX11_findRestless_70 (fun v31 s32 r33 => ?_)
              show Zj X G 73 [(0, (2, u22)), (1, (2, u23)), (2, (2, u24)), (3, (0, u25)), (4, (0, u26)), (5, (0, x27)), (6, (0, x28))] [(0, v31)] _ _
              refine z_istore (lv' := [(7, (0, v31)), (0, (2, u22)), (1, (2, u23)), (2, (2, u24)), (3, (0, u25)), (4, (0, u26)), (5, (0, x27)), (6, (0, x28))]) (pc := 73) hX dX11_findRestless_73 (zlt hxn rfl) rfl ?_
              refine z_iload (pc := 75) hX 0 dX11_findRestless_75 rfl ?_
              refine z_iload (pc := 77) hX 6 dX11_findRestless_77 rfl ?_
              refine z_jn (fun K92 eK92 => ?_)
              have hK92 : ∀ (s36 : ZS) (x37 : Int), Zj X G 92 [(0, (2, u22)), (1, (2, u23)), (2, (2, u24)), (3, (0, u25)), (4, (0, u26)), (5, (0, x37)), (6, (0, x28))] [] s36 (K92 s36 x37) := by
                intro s36 x37
                rw [eK92]
                refine z_iinc (lv' := [(6, (0, (wrap (x28 + 1)))), (0, (2, u22)), (1, (2, u23)), (2, (2, u24)), (3, (0, u25)), (4, (0, u26)), (5, (0, x37))]) (pc := 92) hX 6 dX11_findRestless_92 rfl (zlt hxn rfl) rfl ?_
                refine z_goto (pc := 95) hX 54 dX11_findRestless_95 (by decide) ?_
                refine z_pick (lv' := [(0, (2, u22)), (1, (2, u23)), (2, (2, u24)), (3, (0, u25)), (4, (0, u26)), (5, (0, x37)), (6, (0, (wrap (x28 + 1))))]) [1, 2, 3, 4, 5, 6, 0] rfl ?_
                exact ih2 _ _ _
              clear eK92
              refine z_icmp_ge (pc := 79) hX 92 dX11_findRestless_79 (by decide) (fun h34 => ?_) (fun h34 => ?_)
              · refine z_pick (lv' := [(0, (2, u22)), (1, (2, u23)), (2, (2, u24)), (3, (0, u25)), (4, (0, u26)), (5, (0, x27)), (6, (0, x28))]) [1, 2, 3, 4, 5, 6, 7] rfl ?_
                exact hK92 _ _
              · refine z_iload (pc := 82) hX 0 dX11_findRestless_82 rfl ?_
                refine z_istore (lv' := [(5, (0, v31)), (7, (0, v31)), (0, (2, u22)), (1, (2, u23)), (2, (2, u24)), (3, (0, u25)), (4, (0, u26)), (6, (0, x28))]) (pc := 84) hX dX11_findRestless_84 (zlt hxn rfl) rfl ?_
                refine z_aload_n (pc := 86) hX 2 dX11_findRestless_86 rfl rfl ?_
                refine z_iload (pc := 87) hX 7 dX11_findRestless_87 rfl ?_
                refine z_putA (pc := 89) hX zc11 15 (by decide) wd285 (Or.inl rfl) rfl rfl (fun _ => rfl) (fun _ => rfl) dX11_findRestless_89 (fun s35 => ?_)
                refine z_pick (lv' := [(0, (2, u22)), (1, (2, u23)), (2, (2, u24)), (3, (0, u25)), (4, (0, u26)), (5, (0, v31)), (6, (0, x28))]) [2, 3, 4, 5, 6, 0, 7] rfl ?_
                exact hK92 _ _
        refine z_pick (lv' := [(0, (2, u5)), (1, (2, u6)), (2, (2, u7)), (3, (0, x8)), (4, (0, v18)), (5, (0, v18)), (6, (0, 0))]) [3, 4, 5, 6, 2, 1, 0] rfl ?_
        refine hl54 _ _ _ _ _ _ (fun s40 x41 => ?_) 1000 _ _ _
        refine z_iload (pc := 98) hX 5 dX11_findRestless_98 rfl ?_
        refine z_iload (pc := 100) hX 4 dX11_findRestless_100 rfl ?_
        refine z_icmp_ge (pc := 102) hX 116 dX11_findRestless_102 (by decide) (fun h42 => ?_) (fun h42 => ?_)
        · refine z_iinc (lv' := [(3, (0, (wrap (x8 + 1)))), (0, (2, u5)), (1, (2, u6)), (2, (2, u7)), (4, (0, v18)), (5, (0, x41))]) (pc := 116) hX 3 dX11_findRestless_116 rfl (zlt hxn rfl) rfl ?_
          refine z_goto (pc := 119) hX 12 dX11_findRestless_119 (by decide) ?_
          refine z_pick (lv' := [(0, (2, u5)), (1, (2, u6)), (2, (2, u7)), (3, (0, (wrap (x8 + 1))))]) [1, 2, 3, 0] rfl ?_
          exact ih1 _ _
        · refine z_pick (lv' := [(0, (2, u5)), (3, (0, x8)), (4, (0, v18)), (5, (0, x41))]) [0, 3, 4, 5] rfl ?_
          exact hK105 _ _ _ _
  refine z_pick (lv' := [(0, (2, a0)), (1, (2, a1)), (2, (2, v3)), (3, (0, 0))]) [2, 3, 1, 0] rfl ?_
  refine hl12 _ _ _ _ (fun s47 x48 x49 x50 => ?_) 1000 _ _
  refine z_aload_n (pc := 105) hX 0 dX11_findRestless_105 rfl rfl ?_
  refine z_iload (pc := 106) hX 2 dX11_findRestless_106 rfl ?_
  refine z_iload (pc := 108) hX 3 dX11_findRestless_108 rfl ?_
  refine z_isub (pc := 110) hX dX11_findRestless_110 ?_
  refine z_putA (pc := 111) hX zc11 16 (by decide) wd286 (Or.inl rfl) rfl rfl (fun _ => rfl) (fun _ => rfl) dX11_findRestless_111 (fun s51 => ?_)
  refine z_iload_n (pc := 114) hX 1 dX11_findRestless_114 rfl rfl ?_
  exact z_iret (pc := 115) hX hR hk dX11_findRestless_115

theorem dX11_judge_0 : decode cX11_judge 0 = .ok (.aload_n 0, 1) := by decide +kernel
theorem dX11_judge_1 : decode cX11_judge 1 = .ok (.iload_n 1, 1) := by decide +kernel
theorem dX11_judge_2 : decode cX11_judge 2 = .ok (.invokevirtual 177, 3) := by decide +kernel
theorem dX11_judge_5 : decode cX11_judge 5 = .ok (.astore_n 3, 1) := by decide +kernel
theorem dX11_judge_6 : decode cX11_judge 6 = .ok (.aload_n 3, 1) := by decide +kernel
theorem dX11_judge_7 : decode cX11_judge 7 = .ok (.ifnonnull 6, 3) := by decide +kernel
theorem dX11_judge_10 : decode cX11_judge 10 = .ok (.bipush (-5), 2) := by decide +kernel
theorem dX11_judge_12 : decode cX11_judge 12 = .ok (.ireturn, 1) := by decide +kernel
theorem dX11_judge_13 : decode cX11_judge 13 = .ok (.iload_n 2, 1) := by decide +kernel
theorem dX11_judge_14 : decode cX11_judge 14 = .ok (.iconst 2, 1) := by decide +kernel
theorem dX11_judge_15 : decode cX11_judge 15 = .ok (.invokestatic 102, 3) := by decide +kernel
theorem dX11_judge_18 : decode cX11_judge 18 = .ok (.ifCond .ne 6, 3) := by decide +kernel
theorem dX11_judge_21 : decode cX11_judge 21 = .ok (.bipush (-7), 2) := by decide +kernel
theorem dX11_judge_23 : decode cX11_judge 23 = .ok (.ireturn, 1) := by decide +kernel
theorem dX11_judge_24 : decode cX11_judge 24 = .ok (.aload_n 0, 1) := by decide +kernel
theorem dX11_judge_25 : decode cX11_judge 25 = .ok (.aload_n 3, 1) := by decide +kernel
theorem dX11_judge_26 : decode cX11_judge 26 = .ok (.invokevirtual 225, 3) := by decide +kernel
theorem dX11_judge_29 : decode cX11_judge 29 = .ok (.istore 4, 2) := by decide +kernel
theorem dX11_judge_31 : decode cX11_judge 31 = .ok (.iload 4, 2) := by decide +kernel
theorem dX11_judge_33 : decode cX11_judge 33 = .ok (.iconst (-1), 1) := by decide +kernel
theorem dX11_judge_34 : decode cX11_judge 34 = .ok (.if_icmp .ne 5, 3) := by decide +kernel
theorem dX11_judge_37 : decode cX11_judge 37 = .ok (.iconst (-1), 1) := by decide +kernel
theorem dX11_judge_38 : decode cX11_judge 38 = .ok (.ireturn, 1) := by decide +kernel
theorem dX11_judge_39 : decode cX11_judge 39 = .ok (.iload_n 2, 1) := by decide +kernel
theorem dX11_judge_40 : decode cX11_judge 40 = .ok (.lookupswitch 36 #[(0, 28), (1, 31)], 28) := by decide +kernel
theorem dX11_judge_68 : decode cX11_judge 68 = .ok (.iload 4, 2) := by decide +kernel
theorem dX11_judge_70 : decode cX11_judge 70 = .ok (.ireturn, 1) := by decide +kernel
theorem dX11_judge_71 : decode cX11_judge 71 = .ok (.aload_n 0, 1) := by decide +kernel
theorem dX11_judge_72 : decode cX11_judge 72 = .ok (.getfield 79, 3) := by decide +kernel
theorem dX11_judge_75 : decode cX11_judge 75 = .ok (.ireturn, 1) := by decide +kernel
theorem dX11_judge_76 : decode cX11_judge 76 = .ok (.aload_n 0, 1) := by decide +kernel
theorem dX11_judge_77 : decode cX11_judge 77 = .ok (.getfield 82, 3) := by decide +kernel
theorem dX11_judge_80 : decode cX11_judge 80 = .ok (.ireturn, 1) := by decide +kernel
def fX11_judge (s0 : ZS) (a0 : Int) (a1 : Int) (a2 : Int) : Option (Int × ZS) := zb (zv s0 11 a0 (fX11_wayAt s0 a0 a1)) (fun v1 s2 => if v1 < 0 then (some ((-5), s2)) else (zb (fX11_within s2 a2 2) (fun v5 s6 => if v5 = 0 then (some ((-7), s6)) else (zb (zv s6 11 a0 (fX11_findRestless s6 a0 v1)) (fun v9 s10 => if v9 = (-1) then (some ((-1), s10)) else (if a2 = 0 then (some (v9, s10)) else (if a2 = 1 then ((zg s10 11 a0 15).bind (fun v15 => some (v15, s10))) else ((zg s10 11 a0 16).bind (fun v16 => some (v16, s10))))))))))
set_option maxHeartbeats 4000000 in
set_option maxRecDepth 100000 in
theorem mX11_judge (E : ZE) (hE : zOkE E) (l : Launch) (s0 : ZS) (a0 : Int) (a1 : Int) (a2 : Int) : Ct E l yX11_judge cX11_judge 5 (some .int) 12 [(2, a0), (0, a1), (0, a2)] 1 s0 (fX11_judge s0 a0 a1 a2) := by
  refine Ct.of (by decide) hE (Nat.le_of_ble_eq_true rfl) ?_
  intro X G hX hR hN hXE hXl hxn hk _
  subst hXE
  subst hXl
  have hX : G → ZOk X cX11_judge RX11 12 := hX
  clear hN
  show Zj X G 0 [(0, (2, a0)), (1, (0, a1)), (2, (0, a2))] [] s0 _
  unfold fX11_judge
  refine z_aload_n (pc := 0) hX 0 dX11_judge_0 rfl rfl ?_
  refine z_iload_n (pc := 1) hX 1 dX11_judge_1 rfl rfl ?_
  refine z_callV (n := 1) (st := []) (pc := 2) hX zc11 rfl (fun _ => (mX11_wayAt _ hE _ _ _ _)) ⟨wd681, wd61, wd684, ⟨by decide, by decide, by decide⟩, by decide⟩ rfl wd683 wd18 rfl rfl (by decide) (Nat.le_of_ble_eq_true rfl) dX11_judge_2 (fun v1 s2 r3 => ?_)
  show Zj X G 5 [(0, (2, a0)), (1, (0, a1)), (2, (0, a2))] [(2, v1)] _ _
  refine z_astore_n (lv' := [(3, (2, v1)), (0, (2, a0)), (1, (0, a1)), (2, (0, a2))]) (pc := 5) hX dX11_judge_5 rfl (zlt hxn rfl) rfl ?_
  refine z_aload_n (pc := 6) hX 0 dX11_judge_6 rfl rfl ?_
  refine z_ifnonnull (pc := 7) hX 13 dX11_judge_7 (by decide) (fun h4 => ?_) (fun h4 => ?_)
  · refine z_iload_n (pc := 13) hX 3 dX11_judge_13 rfl rfl ?_
    refine z_iconst (pc := 14) hX dX11_judge_14 ?_
    refine z_callS (n := 2) (st := []) (pc := 15) hX (mX11_within _ hE _ _ _ _) ⟨wd329, wd61, wd331, ⟨by decide, by decide, by decide⟩, by decide⟩ wd330 rfl rfl (by decide) (Nat.le_of_ble_eq_true rfl) dX11_judge_15 (fun v5 s6 r7 => ?_)
    show Zj X G 18 [(3, (2, v1)), (0, (2, a0)), (1, (0, a1)), (2, (0, a2))] [(0, v5)] _ _
    refine z_if_ne (pc := 18) hX 24 dX11_judge_18 (by decide) (fun h8 => ?_) (fun h8 => ?_)
    · refine z_aload_n (pc := 24) hX 1 dX11_judge_24 rfl rfl ?_
      refine z_aload_n (pc := 25) hX 0 dX11_judge_25 rfl rfl ?_
      refine z_callV (n := 1) (st := []) (pc := 26) hX zc11 rfl (fun _ => (mX11_findRestless _ hE _ _ _ _)) ⟨wd855, wd61, wd858, ⟨by decide, by decide, by decide⟩, by decide⟩ rfl wd857 wd24 rfl rfl (by decide) (Nat.le_of_ble_eq_true rfl) dX11_judge_26 (fun v9 s10 r11 => ?_)
      show Zj X G 29 [(3, (2, v1)), (0, (2, a0)), (1, (0, a1)), (2, (0, a2))] [(0, v9)] _ _
      refine z_istore (lv' := [(4, (0, v9)), (3, (2, v1)), (0, (2, a0)), (1, (0, a1)), (2, (0, a2))]) (pc := 29) hX dX11_judge_29 (zlt hxn rfl) rfl ?_
      refine z_iload (pc := 31) hX 0 dX11_judge_31 rfl ?_
      refine z_iconst (pc := 33) hX dX11_judge_33 ?_
      refine z_icmp_ne (pc := 34) hX 39 dX11_judge_34 (by decide) (fun h12 => ?_) (fun h12 => ?_)
      · refine z_iload_n (pc := 39) hX 4 dX11_judge_39 rfl rfl ?_
        by_cases h13 : a2 = 0
        · refine z_eq (if_pos h13) ?_
          refine z_lsw (off := 28) (pc := 40) hX 68 dX11_judge_40 (by decide) (by rw [h13]; first | done | rfl) (by decide) ?_
          refine z_iload (pc := 68) hX 0 dX11_judge_68 rfl ?_
          exact z_iret (pc := 70) hX hR hk dX11_judge_70
        · refine z_eq (if_neg h13) ?_
          by_cases h14 : a2 = 1
          · refine z_eq (if_pos h14) ?_
            refine z_lsw (off := 31) (pc := 40) hX 71 dX11_judge_40 (by decide) (by rw [h14]; first | done | rfl) (by decide) ?_
            refine z_aload_n (pc := 71) hX 2 dX11_judge_71 rfl rfl ?_
            refine z_get (pc := 72) hX zc11 15 (by decide) wd285 rfl rfl dX11_judge_72 (fun v15 => ?_)
            exact z_iret (pc := 75) hX hR hk dX11_judge_75
          · refine z_eq (if_neg h14) ?_
            refine z_lsw (off := 36) (pc := 40) hX 76 dX11_judge_40 (by decide) (by simp [Op.lookupswitch.offset, (show ¬ (0 : Int) = a2 from fun e => h13 e.symm), (show ¬ (1 : Int) = a2 from fun e => h14 e.symm)]) (by decide) ?_
            refine z_aload_n (pc := 76) hX 2 dX11_judge_76 rfl rfl ?_
            refine z_get (pc := 77) hX zc11 16 (by decide) wd286 rfl rfl dX11_judge_77 (fun v16 => ?_)
            exact z_iret (pc := 80) hX hR hk dX11_judge_80
      · refine z_iconst (pc := 37) hX dX11_judge_37 ?_
        exact z_iret (pc := 38) hX hR hk dX11_judge_38
    · refine z_bipush (pc := 21) hX dX11_judge_21 ?_
      exact z_iret (pc := 23) hX hR hk dX11_judge_23
  · refine z_bipush (pc := 10) hX dX11_judge_10 ?_
    exact z_iret (pc := 12) hX hR hk dX11_judge_12

theorem dX12_costBy_0 : decode cX12_costBy 0 = .ok (.aload_n 0, 1) := by decide +kernel
theorem dX12_costBy_1 : decode cX12_costBy 1 = .ok (.getfield 106, 3) := by decide +kernel
theorem dX12_costBy_4 : decode cX12_costBy 4 = .ok (.iload_n 2, 1) := by decide +kernel
theorem dX12_costBy_5 : decode cX12_costBy 5 = .ok (.iaload, 1) := by decide +kernel
theorem dX12_costBy_6 : decode cX12_costBy 6 = .ok (.istore 4, 2) := by decide +kernel
theorem dX12_costBy_8 : decode cX12_costBy 8 = .ok (.aload_n 0, 1) := by decide +kernel
theorem dX12_costBy_9 : decode cX12_costBy 9 = .ok (.getfield 106, 3) := by decide +kernel
theorem dX12_costBy_12 : decode cX12_costBy 12 = .ok (.iload_n 2, 1) := by decide +kernel
theorem dX12_costBy_13 : decode cX12_costBy 13 = .ok (.iload_n 3, 1) := by decide +kernel
theorem dX12_costBy_14 : decode cX12_costBy 14 = .ok (.iastore, 1) := by decide +kernel
theorem dX12_costBy_15 : decode cX12_costBy 15 = .ok (.aload_n 0, 1) := by decide +kernel
theorem dX12_costBy_16 : decode cX12_costBy 16 = .ok (.iload_n 1, 1) := by decide +kernel
theorem dX12_costBy_17 : decode cX12_costBy 17 = .ok (.invokevirtual 254, 3) := by decide +kernel
theorem dX12_costBy_20 : decode cX12_costBy 20 = .ok (.aload_n 0, 1) := by decide +kernel
theorem dX12_costBy_21 : decode cX12_costBy 21 = .ok (.iload_n 1, 1) := by decide +kernel
theorem dX12_costBy_22 : decode cX12_costBy 22 = .ok (.iload_n 2, 1) := by decide +kernel
theorem dX12_costBy_23 : decode cX12_costBy 23 = .ok (.invokevirtual 248, 3) := by decide +kernel
theorem dX12_costBy_26 : decode cX12_costBy 26 = .ok (.istore 5, 2) := by decide +kernel
theorem dX12_costBy_28 : decode cX12_costBy 28 = .ok (.aload_n 0, 1) := by decide +kernel
theorem dX12_costBy_29 : decode cX12_costBy 29 = .ok (.getfield 106, 3) := by decide +kernel
theorem dX12_costBy_32 : decode cX12_costBy 32 = .ok (.iload_n 2, 1) := by decide +kernel
theorem dX12_costBy_33 : decode cX12_costBy 33 = .ok (.iload 4, 2) := by decide +kernel
theorem dX12_costBy_35 : decode cX12_costBy 35 = .ok (.iastore, 1) := by decide +kernel
theorem dX12_costBy_36 : decode cX12_costBy 36 = .ok (.iload 5, 2) := by decide +kernel
theorem dX12_costBy_38 : decode cX12_costBy 38 = .ok (.ireturn, 1) := by decide +kernel
def fX12_costBy (s0 : ZS) (a0 : Int) (a1 : Int) (a2 : Int) (a3 : Int) : Option (Int × ZS) := (zg s0 12 a0 40).bind (fun v1 => (zal s0 100 v1 a2).bind (fun v2 => (zg s0 12 a0 40).bind (fun v3 => (zas s0 100 v3 a2 a3).bind (fun s4 => zb (zv s4 12 a0 (fX12_goes s4 a0 a1)) (fun v5 s6 => zb (zv s6 12 a0 (fX12_cost s6 a0 a1 a2)) (fun v8 s9 => (zg s9 12 a0 40).bind (fun v11 => (zas s9 100 v11 a2 v2).bind (fun s12 => some (v8, s12)))))))))
set_option maxHeartbeats 4000000 in
set_option maxRecDepth 100000 in
theorem mX12_costBy (E : ZE) (hE : zOkE E) (l : Launch) (s0 : ZS) (a0 : Int) (a1 : Int) (a2 : Int) (a3 : Int) : Ct E l yX12_costBy cX12_costBy 6 (some .int) 8 [(2, a0), (0, a1), (0, a2), (0, a3)] 1 s0 (fX12_costBy s0 a0 a1 a2 a3) := by
  refine Ct.of (by decide) hE (Nat.le_of_ble_eq_true rfl) ?_
  intro X G hX hR hN hXE hXl hxn hk _
  subst hXE
  subst hXl
  have hX : G → ZOk X cX12_costBy RX12 8 := hX
  clear hN
  show Zj X G 0 [(0, (2, a0)), (1, (0, a1)), (2, (0, a2)), (3, (0, a3))] [] s0 _
  unfold fX12_costBy
  refine z_aload_n (pc := 0) hX 0 dX12_costBy_0 rfl rfl ?_
  refine z_get (pc := 1) hX zc12 40 (by decide) wd1057 rfl rfl dX12_costBy_1 (fun v1 => ?_)
  refine z_iload_n (pc := 4) hX 2 dX12_costBy_4 rfl rfl ?_
  refine z_iald (pc := 5) hX dX12_costBy_5 (fun v2 => ?_)
  refine z_istore (lv' := [(4, (0, v2)), (0, (2, a0)), (1, (0, a1)), (2, (0, a2)), (3, (0, a3))]) (pc := 6) hX dX12_costBy_6 (zlt hxn rfl) rfl ?_
  refine z_aload_n (pc := 8) hX 1 dX12_costBy_8 rfl rfl ?_
  refine z_get (pc := 9) hX zc12 40 (by decide) wd1057 rfl rfl dX12_costBy_9 (fun v3 => ?_)
  refine z_iload_n (pc := 12) hX 3 dX12_costBy_12 rfl rfl ?_
  refine z_iload_n (pc := 13) hX 4 dX12_costBy_13 rfl rfl ?_
  refine z_iastA (pc := 14) hX dX12_costBy_14 (fun s4 => ?_)
  refine z_aload_n (pc := 15) hX 1 dX12_costBy_15 rfl rfl ?_
  refine z_iload_n (pc := 16) hX 2 dX12_costBy_16 rfl rfl ?_
  refine z_callV (n := 1) (st := []) (pc := 17) hX zc12 rfl (fun _ => (mX12_goes _ hE _ _ _ _)) ⟨wd1288, wd67, wd1291, ⟨by decide, by decide, by decide⟩, by decide⟩ rfl wd1290 wd45 rfl rfl (by decide) (Nat.le_of_ble_eq_true rfl) dX12_costBy_17 (fun v5 s6 r7 => ?_)
  show Zj X G 20 [(4, (0, v2)), (0, (2, a0)), (1, (0, a1)), (2, (0, a2)), (3, (0, a3))] [] _ _
  refine z_aload_n (pc := 20) hX 1 dX12_costBy_20 rfl rfl ?_
  refine z_iload_n (pc := 21) hX 2 dX12_costBy_21 rfl rfl ?_
  refine z_iload_n (pc := 22) hX 3 dX12_costBy_22 rfl rfl ?_
  refine z_callV (n := 2) (st := []) (pc := 23) hX zc12 rfl (fun _ => (mX12_cost _ hE _ _ _ _ _)) ⟨wd1300, wd67, wd1303, ⟨by decide, by decide, by decide⟩, by decide⟩ rfl wd1302 wd48 rfl rfl (by decide) (Nat.le_of_ble_eq_true rfl) dX12_costBy_23 (fun v8 s9 r10 => ?_)
  show Zj X G 26 [(4, (0, v2)), (0, (2, a0)), (1, (0, a1)), (2, (0, a2)), (3, (0, a3))] [(0, v8)] _ _
  refine z_istore (lv' := [(5, (0, v8)), (4, (0, v2)), (0, (2, a0)), (1, (0, a1)), (2, (0, a2)), (3, (0, a3))]) (pc := 26) hX dX12_costBy_26 (zlt hxn rfl) rfl ?_
  refine z_aload_n (pc := 28) hX 2 dX12_costBy_28 rfl rfl ?_
  refine z_get (pc := 29) hX zc12 40 (by decide) wd1057 rfl rfl dX12_costBy_29 (fun v11 => ?_)
  refine z_iload_n (pc := 32) hX 4 dX12_costBy_32 rfl rfl ?_
  refine z_iload (pc := 33) hX 1 dX12_costBy_33 rfl ?_
  refine z_iastA (pc := 35) hX dX12_costBy_35 (fun s12 => ?_)
  refine z_iload (pc := 36) hX 0 dX12_costBy_36 rfl ?_
  exact z_iret (pc := 38) hX hR hk dX12_costBy_38

theorem dX12_looks_0 : decode cX12_looks 0 = .ok (.aload_n 0, 1) := by decide +kernel
theorem dX12_looks_1 : decode cX12_looks 1 = .ok (.iconst (-1), 1) := by decide +kernel
theorem dX12_looks_2 : decode cX12_looks 2 = .ok (.putfield 269, 3) := by decide +kernel
theorem dX12_looks_5 : decode cX12_looks 5 = .ok (.iconst 0, 1) := by decide +kernel
theorem dX12_looks_6 : decode cX12_looks 6 = .ok (.istore_n 2, 1) := by decide +kernel
theorem dX12_looks_7 : decode cX12_looks 7 = .ok (.iload_n 2, 1) := by decide +kernel
theorem dX12_looks_8 : decode cX12_looks 8 = .ok (.aload_n 0, 1) := by decide +kernel
theorem dX12_looks_9 : decode cX12_looks 9 = .ok (.getfield 31, 3) := by decide +kernel
theorem dX12_looks_12 : decode cX12_looks 12 = .ok (.iload_n 1, 1) := by decide +kernel
theorem dX12_looks_13 : decode cX12_looks 13 = .ok (.iaload, 1) := by decide +kernel
theorem dX12_looks_14 : decode cX12_looks 14 = .ok (.if_icmp .ge 95, 3) := by decide +kernel
theorem dX12_looks_17 : decode cX12_looks 17 = .ok (.aload_n 0, 1) := by decide +kernel
theorem dX12_looks_18 : decode cX12_looks 18 = .ok (.getfield 269, 3) := by decide +kernel
theorem dX12_looks_21 : decode cX12_looks 21 = .ok (.iconst (-1), 1) := by decide +kernel
theorem dX12_looks_22 : decode cX12_looks 22 = .ok (.if_icmp .ne 87, 3) := by decide +kernel
theorem dX12_looks_25 : decode cX12_looks 25 = .ok (.aload_n 0, 1) := by decide +kernel
theorem dX12_looks_26 : decode cX12_looks 26 = .ok (.iload_n 1, 1) := by decide +kernel
theorem dX12_looks_27 : decode cX12_looks 27 = .ok (.iload_n 2, 1) := by decide +kernel
theorem dX12_looks_28 : decode cX12_looks 28 = .ok (.aload_n 0, 1) := by decide +kernel
theorem dX12_looks_29 : decode cX12_looks 29 = .ok (.getfield 106, 3) := by decide +kernel
theorem dX12_looks_32 : decode cX12_looks 32 = .ok (.iload_n 2, 1) := by decide +kernel
theorem dX12_looks_33 : decode cX12_looks 33 = .ok (.iaload, 1) := by decide +kernel
theorem dX12_looks_34 : decode cX12_looks 34 = .ok (.invokevirtual 272, 3) := by decide +kernel
theorem dX12_looks_37 : decode cX12_looks 37 = .ok (.istore_n 3, 1) := by decide +kernel
theorem dX12_looks_38 : decode cX12_looks 38 = .ok (.iload_n 3, 1) := by decide +kernel
theorem dX12_looks_39 : decode cX12_looks 39 = .ok (.istore 4, 2) := by decide +kernel
theorem dX12_looks_41 : decode cX12_looks 41 = .ok (.iconst 0, 1) := by decide +kernel
theorem dX12_looks_42 : decode cX12_looks 42 = .ok (.istore 5, 2) := by decide +kernel
theorem dX12_looks_44 : decode cX12_looks 44 = .ok (.iload 5, 2) := by decide +kernel
theorem dX12_looks_46 : decode cX12_looks 46 = .ok (.bipush 48, 2) := by decide +kernel
theorem dX12_looks_48 : decode cX12_looks 48 = .ok (.if_icmp .gt 36, 3) := by decide +kernel
theorem dX12_looks_51 : decode cX12_looks 51 = .ok (.aload_n 0, 1) := by decide +kernel
theorem dX12_looks_52 : decode cX12_looks 52 = .ok (.iload_n 1, 1) := by decide +kernel
theorem dX12_looks_53 : decode cX12_looks 53 = .ok (.iload_n 2, 1) := by decide +kernel
theorem dX12_looks_54 : decode cX12_looks 54 = .ok (.iload 5, 2) := by decide +kernel
theorem dX12_looks_56 : decode cX12_looks 56 = .ok (.invokevirtual 272, 3) := by decide +kernel
theorem dX12_looks_59 : decode cX12_looks 59 = .ok (.istore 6, 2) := by decide +kernel
theorem dX12_looks_61 : decode cX12_looks 61 = .ok (.iload 6, 2) := by decide +kernel
theorem dX12_looks_63 : decode cX12_looks 63 = .ok (.iload 4, 2) := by decide +kernel
theorem dX12_looks_65 : decode cX12_looks 65 = .ok (.if_icmp .ge 13, 3) := by decide +kernel
theorem dX12_looks_68 : decode cX12_looks 68 = .ok (.iload 6, 2) := by decide +kernel
theorem dX12_looks_70 : decode cX12_looks 70 = .ok (.istore 4, 2) := by decide +kernel
theorem dX12_looks_72 : decode cX12_looks 72 = .ok (.aload_n 0, 1) := by decide +kernel
theorem dX12_looks_73 : decode cX12_looks 73 = .ok (.iload 5, 2) := by decide +kernel
theorem dX12_looks_75 : decode cX12_looks 75 = .ok (.putfield 275, 3) := by decide +kernel
theorem dX12_looks_78 : decode cX12_looks 78 = .ok (.iinc 5 1, 3) := by decide +kernel
theorem dX12_looks_81 : decode cX12_looks 81 = .ok (.goto (-37), 3) := by decide +kernel
theorem dX12_looks_84 : decode cX12_looks 84 = .ok (.iload 4, 2) := by decide +kernel
theorem dX12_looks_86 : decode cX12_looks 86 = .ok (.iload_n 3, 1) := by decide +kernel
theorem dX12_looks_87 : decode cX12_looks 87 = .ok (.if_icmp .ge 16, 3) := by decide +kernel
theorem dX12_looks_90 : decode cX12_looks 90 = .ok (.aload_n 0, 1) := by decide +kernel
theorem dX12_looks_91 : decode cX12_looks 91 = .ok (.iload_n 2, 1) := by decide +kernel
theorem dX12_looks_92 : decode cX12_looks 92 = .ok (.putfield 269, 3) := by decide +kernel
theorem dX12_looks_95 : decode cX12_looks 95 = .ok (.aload_n 0, 1) := by decide +kernel
theorem dX12_looks_96 : decode cX12_looks 96 = .ok (.iload_n 3, 1) := by decide +kernel
theorem dX12_looks_97 : decode cX12_looks 97 = .ok (.iload 4, 2) := by decide +kernel
theorem dX12_looks_99 : decode cX12_looks 99 = .ok (.isub, 1) := by decide +kernel
theorem dX12_looks_100 : decode cX12_looks 100 = .ok (.putfield 278, 3) := by decide +kernel
theorem dX12_looks_103 : decode cX12_looks 103 = .ok (.iinc 2 1, 3) := by decide +kernel
theorem dX12_looks_106 : decode cX12_looks 106 = .ok (.goto (-99), 3) := by decide +kernel
theorem dX12_looks_109 : decode cX12_looks 109 = .ok (.return_, 1) := by decide +kernel
def lX12_looks_44 (u17 u18 u19 u20 : Int) (K84 : ZS → Int → Option (Int × ZS)) : Nat → ZS → Int → Int → Option (Int × ZS)
  | 0, _, _, _ => none
  | n2 + 1, s16, x21, x22 => if 48 < x22 then (K84 s16 x21) else (zb (zv s16 12 u17 (fX12_costBy s16 u17 u18 u19 x22)) (fun v24 s25 => zjn (fun (K78 : ZS → Int → Option (Int × ZS)) => if x21 ≤ v24 then (K78 s25 x21) else ((zp s25 12 u17 46 x22).bind (fun s28 => K78 s28 v24))) (fun (s29 : ZS) (x30 : Int) => lX12_looks_44 u17 u18 u19 u20 K84 n2 s29 x30 (wrap (x22 + 1)))))

def lX12_looks_7 (u3 u4 : Int)  : Nat → ZS → Int → Option (Int × ZS)
  | 0, _, _ => none
  | n1 + 1, s2, x5 => (zg s2 12 u3 10).bind (fun v6 => (zal s2 100 v6 u4).bind (fun v7 => if v7 ≤ x5 then (some (0, s2)) else ((zg s2 12 u3 45).bind (fun v9 => if v9 = (-1) then ((zg s2 12 u3 40).bind (fun v11 => (zal s2 100 v11 x5).bind (fun v12 => zb (zv s2 12 u3 (fX12_costBy s2 u3 u4 x5 v12)) (fun v13 s14 => lX12_looks_44 u3 u4 x5 v13 (fun (s33 : ZS) (x34 : Int) => zjn (fun (K103 : ZS → Option (Int × ZS)) => if v13 ≤ x34 then (K103 s33) else ((zp s33 12 u3 45 x5).bind (fun s36 => (zp s36 12 u3 47 (wrap (v13 - x34))).bind (fun s37 => K103 s37)))) (fun (s38 : ZS) => lX12_looks_7 u3 u4 n1 s38 (wrap (x5 + 1)))) 1000 s14 v13 0)))) else (some (0, s2))))))

def fX12_looks (s0 : ZS) (a0 : Int) (a1 : Int) : Option (Int × ZS) := (zp s0 12 a0 45 (-1)).bind (fun s1 => lX12_looks_7 a0 a1 1000 s1 0)
set_option maxHeartbeats 4000000 in
set_option maxRecDepth 100000 in
theorem mX12_looks (E : ZE) (hE : zOkE E) (l : Launch) (s0 : ZS) (a0 : Int) (a1 : Int) : Ct E l yX12_looks cX12_looks 7 none 10 [(2, a0), (0, a1)] 0 s0 (fX12_looks s0 a0 a1) := by
  refine Ct.of (by decide) hE (Nat.le_of_ble_eq_true rfl) ?_
  intro X G hX hR hN hXE hXl hxn hk _
  subst hXE
  subst hXl
  have hX : G → ZOk X cX12_looks RX12 10 := hX
  clear hN
  show Zj X G 0 [(0, (2, a0)), (1, (0, a1))] [] s0 _
  unfold fX12_looks
  refine z_aload_n (pc := 0) hX 0 dX12_looks_0 rfl rfl ?_
  refine z_iconst (pc := 1) hX dX12_looks_1 ?_
  refine z_putA (pc := 2) hX zc12 45 (by decide) wd1062 (Or.inl rfl) rfl rfl (fun _ => rfl) (fun _ => rfl) dX12_looks_2 (fun s1 => ?_)
  refine z_iconst (pc := 5) hX dX12_looks_5 ?_
  refine z_istore_n (lv' := [(2, (0, 0)), (0, (2, a0)), (1, (0, a1))]) (pc := 6) hX dX12_looks_6 rfl (zlt hxn rfl) rfl ?_
  have hl7 : ∀ (u3 u4 : Int), ∀ (n1 : Nat) (s2 : ZS) (x5 : Int), Zj X G 7 [(0, (2, u3)), (1, (0, u4)), (2, (0, x5))] [] s2 (lX12_looks_7 u3 u4 n1 s2 x5) := by
    intro u3 u4 n1
    induction n1 with
    | zero => intro _ _; exact z_none
    | succ n1 ih1 =>
      intro s2 x5
      rw [lX12_looks_7]
      refine z_iload_n (pc := 7) hX 2 dX12_looks_7 rfl rfl ?_
      refine z_aload_n (pc := 8) hX 0 dX12_looks_8 rfl rfl ?_
      refine z_get (pc := 9) hX zc12 10 (by decide) wd1027 rfl rfl dX12_looks_9 (fun v6 => ?_)
      refine z_iload_n (pc := 12) hX 1 dX12_looks_12 rfl rfl ?_
      refine z_iald (pc := 13) hX dX12_looks_13 (fun v7 => ?_)
      refine z_icmp_ge (pc := 14) hX 109 dX12_looks_14 (by decide) (fun h8 => ?_) (fun h8 => ?_)
      · exact z_vret (pc := 109) hX hR hk dX12_looks_109
      · refine z_aload_n (pc := 17) hX 0 dX12_looks_17 rfl rfl ?_
        refine z_get (pc := 18) hX zc12 45 (by decide) wd1062 rfl rfl dX12_looks_18 (fun v9 => ?_)
        refine z_iconst (pc := 21) hX dX12_looks_21 ?_
        refine z_icmp_ne (pc := 22) hX 109 dX12_looks_22 (by decide) (fun h10 => ?_) (fun h10 => ?_)
        · exact z_vret (pc := 109) hX hR hk dX12_looks_109
        · refine z_aload_n (pc := 25) hX 0 dX12_looks_25 rfl rfl ?_
          refine z_iload_n (pc := 26) hX 1 dX12_looks_26 rfl rfl ?_
          refine z_iload_n (pc := 27) hX 2 dX12_looks_27 rfl rfl ?_
          refine z_aload_n (pc := 28) hX 0 dX12_looks_28 rfl rfl ?_
          refine z_get (pc := 29) hX zc12 40 (by decide) wd1057 rfl rfl dX12_looks_29 (fun v11 => ?_)
          refine z_iload_n (pc := 32) hX 2 dX12_looks_32 rfl rfl ?_
          refine z_iald (pc := 33) hX dX12_looks_33 (fun v12 => ?_)
          refine z_callV (n := 3) (st := []) (pc := 34) hX zc12 rfl (fun _ => (mX12_costBy _ hE _ _ _ _ _ _)) ⟨wd1355, wd67, wd1358, ⟨by decide, by decide, by decide⟩, by decide⟩ rfl wd1357 wd56 rfl rfl (by decide) (Nat.le_of_ble_eq_true rfl) dX12_looks_34 (fun v13 s14 r15 => ?_)
          show Zj X G 37 [(0, (2, u3)), (1, (0, u4)), (2, (0, x5))] [(0, v13)] _ _
          refine z_istore_n (lv' := [(3, (0, v13)), (0, (2, u3)), (1, (0, u4)), (2, (0, x5))]) (pc := 37) hX dX12_looks_37 rfl (zlt hxn rfl) rfl ?_
          refine z_iload_n (pc := 38) hX 0 dX12_looks_38 rfl rfl ?_
          refine z_istore (lv' := [(4, (0, v13)), (3, (0, v13)), (0, (2, u3)), (1, (0, u4)), (2, (0, x5))]) (pc := 39) hX dX12_looks_39 (zlt hxn rfl) rfl ?_
          refine z_iconst (pc := 41) hX dX12_looks_41 ?_
          refine z_istore (lv' := [(5, (0, 0)), (4, (0, v13)), (3, (0, v13)), (0, (2, u3)), (1, (0, u4)), (2, (0, x5))]) (pc := 42) hX dX12_looks_42 (zlt hxn rfl) rfl ?_
          have hl44 : ∀ (u17 u18 u19 u20 : Int), ∀ (K84 : ZS → Int → Option (Int × ZS)), (∀ (s31 : ZS) (x32 : Int), Zj X G 84 [(0, (2, u17)), (1, (0, u18)), (2, (0, u19)), (3, (0, u20)), (4, (0, x32))] [] s31 (K84 s31 x32)) → ∀ (n2 : Nat) (s16 : ZS) (x21 x22 : Int), Zj X G 44 [(0, (2, u17)), (1, (0, u18)), (2, (0, u19)), (3, (0, u20)), (4, (0, x21)), (5, (0, x22))] [] s16 (lX12_looks_44 u17 u18 u19 u20 K84 n2 s16 x21 x22) := by
            intro u17 u18 u19 u20 K84 hK84 n2
            induction n2 with
            | zero => intro _ _ _; exact z_none
            | succ n2 ih2 =>
              intro s16 x21 x22
              rw [lX12_looks_44]
              refine z_iload (pc := 44) hX 5 dX12_looks_44 rfl ?_
              refine z_bipush (pc := 46) hX dX12_looks_46 ?_
              refine z_icmp_gt (pc := 48) hX 84 dX12_looks_48 (by decide) (fun h23 => ?_) (fun h23 => ?_)
              · refine z_pick (lv' := [(0, (2, u17)), (1, (0, u18)), (2, (0, u19)), (3, (0, u20)), (4, (0, x21))]) [0, 1, 2, 3, 4] rfl ?_
                exact hK84 _ _
              · refine z_aload_n (pc := 51) hX 0 dX12_looks_51 rfl rfl ?_
                refine z_iload_n (pc := 52) hX 1 dX12_looks_52 rfl rfl ?_
                refine z_iload_n (pc := 53) hX 2 dX12_looks_53 rfl rfl ?_
                refine z_iload (pc := 54) hX 5 dX12_looks_54 rfl ?_
                refine z_callV (n := 3) (st := []) (pc := 56) hX zc12 rfl (fun _ => (mX12_costBy _ hE _ _ _ _ _ _)) ⟨wd1355, wd67, wd1358, ⟨by decide, by decide, by decide⟩, by decide⟩ rfl wd1357 wd56 rfl rfl (by decide) (Nat.le_of_ble_eq_true rfl) dX12_looks_56 (fun v24 s25 r26 => ?_)
                show Zj X G 59 [(0, (2, u17)), (1, (0, u18)), (2, (0, u19)), (3, (0, u20)), (4, (0, x21)), (5, (0, x22))] [(0, v24)] _ _
                refine z_istore (lv' := [(6, (0, v24)), (0, (2, u17)), (1, (0, u18)), (2, (0, u19)), (3, (0, u20)), (4, (0, x21)), (5, (0, x22))]) (pc := 59) hX dX12_looks_59 (zlt hxn rfl) rfl ?_
                refine z_iload (pc := 61) hX 0 dX12_looks_61 rfl ?_
                refine z_iload (pc := 63) hX 5 dX12_looks_63 rfl ?_
                refine z_jn (fun K78 eK78 => ?_)
                have hK78 : ∀ (s29 : ZS) (x30 : Int), Zj X G 78 [(0, (2, u17)), (1, (0, u18)), (2, (0, u19)), (3, (0, u20)), (4, (0, x30)), (5, (0, x22))] [] s29 (K78 s29 x30) := by
                  intro s29 x30
                  rw [eK78]
                  refine z_iinc (lv' := [(5, (0, (wrap (x22 + 1)))), (0, (2, u17)), (1, (0, u18)), (2, (0, u19)), (3, (0, u20)), (4, (0, x30))]) (pc := 78) hX 5 dX12_looks_78 rfl (zlt hxn rfl) rfl ?_
                  refine z_goto (pc := 81) hX 44 dX12_looks_81 (by decide) ?_
                  refine z_pick (lv' := [(0, (2, u17)), (1, (0, u18)), (2, (0, u19)), (3, (0, u20)), (4, (0, x30)), (5, (0, (wrap (x22 + 1))))]) [1, 2, 3, 4, 5, 0] rfl ?_
                  exact ih2 _ _ _
                clear eK78
                refine z_icmp_ge (pc := 65) hX 78 dX12_looks_65 (by decide) (fun h27 => ?_) (fun h27 => ?_)
                · refine z_pick (lv' := [(0, (2, u17)), (1, (0, u18)), (2, (0, u19)), (3, (0, u20)), (4, (0, x21)), (5, (0, x22))]) [1, 2, 3, 4, 5, 6] rfl ?_
                  exact hK78 _ _
                · refine z_iload (pc := 68) hX 0 dX12_looks_68 rfl ?_
                  refine z_istore (lv' := [(4, (0, v24)), (6, (0, v24)), (0, (2, u17)), (1, (0, u18)), (2, (0, u19)), (3, (0, u20)), (5, (0, x22))]) (pc := 70) hX dX12_looks_70 (zlt hxn rfl) rfl ?_
                  refine z_aload_n (pc := 72) hX 2 dX12_looks_72 rfl rfl ?_
                  refine z_iload (pc := 73) hX 6 dX12_looks_73 rfl ?_
                  refine z_putA (pc := 75) hX zc12 46 (by decide) wd1063 (Or.inl rfl) rfl rfl (fun _ => rfl) (fun _ => rfl) dX12_looks_75 (fun s28 => ?_)
                  refine z_pick (lv' := [(0, (2, u17)), (1, (0, u18)), (2, (0, u19)), (3, (0, u20)), (4, (0, v24)), (5, (0, x22))]) [2, 3, 4, 5, 0, 6] rfl ?_
                  exact hK78 _ _
          refine z_pick (lv' := [(0, (2, u3)), (1, (0, u4)), (2, (0, x5)), (3, (0, v13)), (4, (0, v13)), (5, (0, 0))]) [3, 4, 5, 2, 1, 0] rfl ?_
          refine hl44 _ _ _ _ _ (fun s33 x34 => ?_) 1000 _ _ _
          refine z_iload (pc := 84) hX 4 dX12_looks_84 rfl ?_
          refine z_iload_n (pc := 86) hX 3 dX12_looks_86 rfl rfl ?_
          refine z_jn (fun K103 eK103 => ?_)
          have hK103 : ∀ (s38 : ZS), Zj X G 103 [(0, (2, u3)), (1, (0, u4)), (2, (0, x5))] [] s38 (K103 s38) := by
            intro s38
            rw [eK103]
            refine z_iinc (lv' := [(2, (0, (wrap (x5 + 1)))), (0, (2, u3)), (1, (0, u4))]) (pc := 103) hX 2 dX12_looks_103 rfl (zlt hxn rfl) rfl ?_
            refine z_goto (pc := 106) hX 7 dX12_looks_106 (by decide) ?_
            refine z_pick (lv' := [(0, (2, u3)), (1, (0, u4)), (2, (0, (wrap (x5 + 1))))]) [1, 2, 0] rfl ?_
            exact ih1 _ _
          clear eK103
          refine z_icmp_ge (pc := 87) hX 103 dX12_looks_87 (by decide) (fun h35 => ?_) (fun h35 => ?_)
          · refine z_pick (lv' := [(0, (2, u3)), (1, (0, u4)), (2, (0, x5))]) [0, 1, 2] rfl ?_
            exact hK103 _
          · refine z_aload_n (pc := 90) hX 0 dX12_looks_90 rfl rfl ?_
            refine z_iload_n (pc := 91) hX 2 dX12_looks_91 rfl rfl ?_
            refine z_putA (pc := 92) hX zc12 45 (by decide) wd1062 (Or.inl rfl) rfl rfl (fun _ => rfl) (fun _ => rfl) dX12_looks_92 (fun s36 => ?_)
            refine z_aload_n (pc := 95) hX 0 dX12_looks_95 rfl rfl ?_
            refine z_iload_n (pc := 96) hX 3 dX12_looks_96 rfl rfl ?_
            refine z_iload (pc := 97) hX 4 dX12_looks_97 rfl ?_
            refine z_isub (pc := 99) hX dX12_looks_99 ?_
            refine z_putA (pc := 100) hX zc12 47 (by decide) wd1064 (Or.inl rfl) rfl rfl (fun _ => rfl) (fun _ => rfl) dX12_looks_100 (fun s37 => ?_)
            refine z_pick (lv' := [(0, (2, u3)), (1, (0, u4)), (2, (0, x5))]) [0, 1, 2] rfl ?_
            exact hK103 _
  refine z_pick (lv' := [(0, (2, a0)), (1, (0, a1)), (2, (0, 0))]) [1, 2, 0] rfl ?_
  refine hl7 _ _ 1000 _ _
