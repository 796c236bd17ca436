theorem dX4_scan_0 : decode cX4_scan 0 = .ok (.aload_n 0, 1) := by decide +kernel
theorem dX4_scan_1 : decode cX4_scan 1 = .ok (.iconst 0, 1) := by decide +kernel
theorem dX4_scan_2 : decode cX4_scan 2 = .ok (.putfield 30, 3) := by decide +kernel
theorem dX4_scan_5 : decode cX4_scan 5 = .ok (.iconst 0, 1) := by decide +kernel
theorem dX4_scan_6 : decode cX4_scan 6 = .ok (.istore_n 1, 1) := by decide +kernel
theorem dX4_scan_7 : decode cX4_scan 7 = .ok (.iload_n 1, 1) := by decide +kernel
theorem dX4_scan_8 : decode cX4_scan 8 = .ok (.aload_n 0, 1) := by decide +kernel
theorem dX4_scan_9 : decode cX4_scan 9 = .ok (.getfield 17, 3) := by decide +kernel
theorem dX4_scan_12 : decode cX4_scan 12 = .ok (.if_icmp .ge 117, 3) := by decide +kernel
theorem dX4_scan_15 : decode cX4_scan 15 = .ok (.aload_n 0, 1) := by decide +kernel
theorem dX4_scan_16 : decode cX4_scan 16 = .ok (.getfield 13, 3) := by decide +kernel
theorem dX4_scan_19 : decode cX4_scan 19 = .ok (.iload_n 1, 1) := by decide +kernel
theorem dX4_scan_20 : decode cX4_scan 20 = .ok (.iaload, 1) := by decide +kernel
theorem dX4_scan_21 : decode cX4_scan 21 = .ok (.invokestatic 96, 3) := by decide +kernel
theorem dX4_scan_24 : decode cX4_scan 24 = .ok (.istore_n 2, 1) := by decide +kernel
theorem dX4_scan_25 : decode cX4_scan 25 = .ok (.iload_n 1, 1) := by decide +kernel
theorem dX4_scan_26 : decode cX4_scan 26 = .ok (.ifCond .le 27, 3) := by decide +kernel
theorem dX4_scan_29 : decode cX4_scan 29 = .ok (.iload_n 2, 1) := by decide +kernel
theorem dX4_scan_30 : decode cX4_scan 30 = .ok (.iconst 3, 1) := by decide +kernel
theorem dX4_scan_31 : decode cX4_scan 31 = .ok (.if_icmp .eq 22, 3) := by decide +kernel
theorem dX4_scan_34 : decode cX4_scan 34 = .ok (.iload_n 2, 1) := by decide +kernel
theorem dX4_scan_35 : decode cX4_scan 35 = .ok (.aload_n 0, 1) := by decide +kernel
theorem dX4_scan_36 : decode cX4_scan 36 = .ok (.getfield 13, 3) := by decide +kernel
theorem dX4_scan_39 : decode cX4_scan 39 = .ok (.iload_n 1, 1) := by decide +kernel
theorem dX4_scan_40 : decode cX4_scan 40 = .ok (.iconst 1, 1) := by decide +kernel
theorem dX4_scan_41 : decode cX4_scan 41 = .ok (.isub, 1) := by decide +kernel
theorem dX4_scan_42 : decode cX4_scan 42 = .ok (.iaload, 1) := by decide +kernel
theorem dX4_scan_43 : decode cX4_scan 43 = .ok (.invokestatic 96, 3) := by decide +kernel
theorem dX4_scan_46 : decode cX4_scan 46 = .ok (.if_icmp .ne 7, 3) := by decide +kernel
theorem dX4_scan_49 : decode cX4_scan 49 = .ok (.iconst 1, 1) := by decide +kernel
theorem dX4_scan_50 : decode cX4_scan 50 = .ok (.goto 4, 3) := by decide +kernel
theorem dX4_scan_53 : decode cX4_scan 53 = .ok (.iconst 0, 1) := by decide +kernel
theorem dX4_scan_54 : decode cX4_scan 54 = .ok (.istore_n 3, 1) := by decide +kernel
theorem dX4_scan_55 : decode cX4_scan 55 = .ok (.iload_n 2, 1) := by decide +kernel
theorem dX4_scan_56 : decode cX4_scan 56 = .ok (.ifCond .eq 67, 3) := by decide +kernel
theorem dX4_scan_59 : decode cX4_scan 59 = .ok (.iload_n 3, 1) := by decide +kernel
theorem dX4_scan_60 : decode cX4_scan 60 = .ok (.ifCond .ne 63, 3) := by decide +kernel
theorem dX4_scan_63 : decode cX4_scan 63 = .ok (.aload_n 0, 1) := by decide +kernel
theorem dX4_scan_64 : decode cX4_scan 64 = .ok (.getfield 27, 3) := by decide +kernel
theorem dX4_scan_67 : decode cX4_scan 67 = .ok (.aload_n 0, 1) := by decide +kernel
theorem dX4_scan_68 : decode cX4_scan 68 = .ok (.getfield 30, 3) := by decide +kernel
theorem dX4_scan_71 : decode cX4_scan 71 = .ok (.iload_n 1, 1) := by decide +kernel
theorem dX4_scan_72 : decode cX4_scan 72 = .ok (.iastore, 1) := by decide +kernel
theorem dX4_scan_73 : decode cX4_scan 73 = .ok (.aload_n 0, 1) := by decide +kernel
theorem dX4_scan_74 : decode cX4_scan 74 = .ok (.getfield 24, 3) := by decide +kernel
theorem dX4_scan_77 : decode cX4_scan 77 = .ok (.aload_n 0, 1) := by decide +kernel
theorem dX4_scan_78 : decode cX4_scan 78 = .ok (.getfield 30, 3) := by decide +kernel
theorem dX4_scan_81 : decode cX4_scan 81 = .ok (.iload_n 2, 1) := by decide +kernel
theorem dX4_scan_82 : decode cX4_scan 82 = .ok (.iconst 1, 1) := by decide +kernel
theorem dX4_scan_83 : decode cX4_scan 83 = .ok (.if_icmp .ne 11, 3) := by decide +kernel
theorem dX4_scan_86 : decode cX4_scan 86 = .ok (.aload_n 0, 1) := by decide +kernel
theorem dX4_scan_87 : decode cX4_scan 87 = .ok (.iload_n 1, 1) := by decide +kernel
theorem dX4_scan_88 : decode cX4_scan 88 = .ok (.invokevirtual 100, 3) := by decide +kernel
theorem dX4_scan_91 : decode cX4_scan 91 = .ok (.goto 21, 3) := by decide +kernel
theorem dX4_scan_94 : decode cX4_scan 94 = .ok (.iload_n 2, 1) := by decide +kernel
theorem dX4_scan_95 : decode cX4_scan 95 = .ok (.iconst 2, 1) := by decide +kernel
theorem dX4_scan_96 : decode cX4_scan 96 = .ok (.if_icmp .ne 11, 3) := by decide +kernel
theorem dX4_scan_99 : decode cX4_scan 99 = .ok (.aload_n 0, 1) := by decide +kernel
theorem dX4_scan_100 : decode cX4_scan 100 = .ok (.iload_n 1, 1) := by decide +kernel
theorem dX4_scan_101 : decode cX4_scan 101 = .ok (.invokevirtual 103, 3) := by decide +kernel
theorem dX4_scan_104 : decode cX4_scan 104 = .ok (.goto 8, 3) := by decide +kernel
theorem dX4_scan_107 : decode cX4_scan 107 = .ok (.aload_n 0, 1) := by decide +kernel
theorem dX4_scan_108 : decode cX4_scan 108 = .ok (.iload_n 1, 1) := by decide +kernel
theorem dX4_scan_109 : decode cX4_scan 109 = .ok (.invokevirtual 106, 3) := by decide +kernel
theorem dX4_scan_112 : decode cX4_scan 112 = .ok (.iastore, 1) := by decide +kernel
theorem dX4_scan_113 : decode cX4_scan 113 = .ok (.aload_n 0, 1) := by decide +kernel
theorem dX4_scan_114 : decode cX4_scan 114 = .ok (.dup, 1) := by decide +kernel
theorem dX4_scan_115 : decode cX4_scan 115 = .ok (.getfield 30, 3) := by decide +kernel
theorem dX4_scan_118 : decode cX4_scan 118 = .ok (.iconst 1, 1) := by decide +kernel
theorem dX4_scan_119 : decode cX4_scan 119 = .ok (.iadd, 1) := by decide +kernel
theorem dX4_scan_120 : decode cX4_scan 120 = .ok (.putfield 30, 3) := by decide +kernel
theorem dX4_scan_123 : decode cX4_scan 123 = .ok (.iinc 1 1, 3) := by decide +kernel
theorem dX4_scan_126 : decode cX4_scan 126 = .ok (.goto (-119), 3) := by decide +kernel
theorem dX4_scan_129 : decode cX4_scan 129 = .ok (.aload_n 0, 1) := by decide +kernel
theorem dX4_scan_130 : decode cX4_scan 130 = .ok (.getfield 27, 3) := by decide +kernel
theorem dX4_scan_133 : decode cX4_scan 133 = .ok (.aload_n 0, 1) := by decide +kernel
theorem dX4_scan_134 : decode cX4_scan 134 = .ok (.getfield 30, 3) := by decide +kernel
theorem dX4_scan_137 : decode cX4_scan 137 = .ok (.aload_n 0, 1) := by decide +kernel
theorem dX4_scan_138 : decode cX4_scan 138 = .ok (.getfield 17, 3) := by decide +kernel
theorem dX4_scan_141 : decode cX4_scan 141 = .ok (.iastore, 1) := by decide +kernel
theorem dX4_scan_142 : decode cX4_scan 142 = .ok (.aload_n 0, 1) := by decide +kernel
theorem dX4_scan_143 : decode cX4_scan 143 = .ok (.getfield 24, 3) := by decide +kernel
theorem dX4_scan_146 : decode cX4_scan 146 = .ok (.aload_n 0, 1) := by decide +kernel
theorem dX4_scan_147 : decode cX4_scan 147 = .ok (.getfield 30, 3) := by decide +kernel
theorem dX4_scan_150 : decode cX4_scan 150 = .ok (.sipush 30000, 3) := by decide +kernel
theorem dX4_scan_153 : decode cX4_scan 153 = .ok (.iastore, 1) := by decide +kernel
theorem dX4_scan_154 : decode cX4_scan 154 = .ok (.return_, 1) := by decide +kernel
def lX4_scan_7 (u3 : Int) (K129 : ZS → Option (Int × ZS)) : Nat → ZS → Int → Option (Int × ZS)
  | 0, _, _ => none
  | n1 + 1, s2, x4 => (zg s2 4 u3 1).bind (fun v5 => if v5 ≤ x4 then (K129 s2) else ((zg s2 4 u3 0).bind (fun v7 => (zal s2 100 v7 x4).bind (fun v8 => zb (fX4_lookOf s2 v8) (fun v9 s10 => zjn (fun (K54 : ZS → Int → Option (Int × ZS)) => zjn (fun (K53 : ZS → Option (Int × ZS)) => if x4 ≤ 0 then (K53 s10) else (if v9 = 3 then (K53 s10) else ((zg s10 4 u3 0).bind (fun v14 => (zal s10 100 v14 (wrap (x4 - 1))).bind (fun v15 => zb (fX4_lookOf s10 v15) (fun v16 s17 => if v9 = v16 then (K54 s17 1) else (K53 s17))))))) (fun (s20 : ZS) => K54 s20 0)) (fun (s21 : ZS) (w22 : Int) => zjn (fun (K123 : ZS → Option (Int × ZS)) => if v9 = 0 then (K123 s21) else (if w22 = 0 then ((zg s21 4 u3 4).bind (fun v25 => (zg s21 4 u3 5).bind (fun v26 => (zas s21 100 v25 v26 x4).bind (fun s27 => (zg s27 4 u3 3).bind (fun v28 => (zg s27 4 u3 5).bind (fun v29 => zjn (fun (K112 : ZS → Int → Option (Int × ZS)) => if v9 = 1 then (zb (zv s27 4 u3 (fX4_wordAt s27 u3 x4)) (fun v38 s39 => K112 s39 v38)) else (if v9 = 2 then (zb (zv s27 4 u3 (fX4_numberAt s27 u3 x4)) (fun v35 s36 => K112 s36 v35)) else (zb (zv s27 4 u3 (fX4_signAt s27 u3 x4)) (fun v32 s33 => K112 s33 v32)))) (fun (s41 : ZS) (w42 : Int) => (zas s41 100 v28 v29 w42).bind (fun s43 => (zg s43 4 u3 5).bind (fun v44 => (zp s43 4 u3 5 (wrap (v44 + 1))).bind (fun s45 => K123 s45)))))))))) else (K123 s21))) (fun (s46 : ZS) => lX4_scan_7 u3 K129 n1 s46 (wrap (x4 + 1)))))))))

def fX4_scan (s0 : ZS) (a0 : Int) : Option (Int × ZS) := (zp s0 4 a0 5 0).bind (fun s1 => lX4_scan_7 a0 (fun (s48 : ZS) => (zg s48 4 a0 4).bind (fun v49 => (zg s48 4 a0 5).bind (fun v50 => (zg s48 4 a0 1).bind (fun v51 => (zas s48 100 v49 v50 v51).bind (fun s52 => (zg s52 4 a0 3).bind (fun v53 => (zg s52 4 a0 5).bind (fun v54 => (zas s52 100 v53 v54 30000).bind (fun s55 => some (0, s55))))))))) 1000 s1 0)
set_option maxHeartbeats 4000000 in
set_option maxRecDepth 100000 in
theorem mX4_scan (E : ZE) (hE : zOkE E) (l : Launch) (s0 : ZS) (a0 : Int) : Ct E l yX4_scan cX4_scan 4 none 14 [(2, a0)] 0 s0 (fX4_scan s0 a0) := by
  refine Ct.of (by decide) hE (Nat.le_of_ble_eq_true rfl) ?_
  intro X G hX hR hN hXE hXl hxn hk _
  subst hXE
  subst hXl
  have hX : G → ZOk X cX4_scan RX4 14 := hX
  clear hN
  show Zj X G 0 [(0, (2, a0))] [] s0 _
  unfold fX4_scan
  refine z_aload_n (pc := 0) hX 0 dX4_scan_0 rfl rfl ?_
  refine z_iconst (pc := 1) hX dX4_scan_1 ?_
  refine z_putA (pc := 2) hX zc4 5 (by decide) wd205 (Or.inl rfl) rfl rfl (fun _ => rfl) (fun _ => rfl) dX4_scan_2 (fun s1 => ?_)
  refine z_iconst (pc := 5) hX dX4_scan_5 ?_
  refine z_istore_n (lv' := [(1, (0, 0)), (0, (2, a0))]) (pc := 6) hX dX4_scan_6 rfl (zlt hxn rfl) rfl ?_
  have hl7 : ∀ (u3 : Int), ∀ (K129 : ZS → Option (Int × ZS)), (∀ (s47 : ZS), Zj X G 129 [(0, (2, u3))] [] s47 (K129 s47)) → ∀ (n1 : Nat) (s2 : ZS) (x4 : Int), Zj X G 7 [(0, (2, u3)), (1, (0, x4))] [] s2 (lX4_scan_7 u3 K129 n1 s2 x4) := by
    intro u3 K129 hK129 n1
    induction n1 with
    | zero => intro _ _; exact z_none
    | succ n1 ih1 =>
      intro s2 x4
      rw [lX4_scan_7]
      refine z_iload_n (pc := 7) hX 1 dX4_scan_7 rfl rfl ?_
      refine z_aload_n (pc := 8) hX 0 dX4_scan_8 rfl rfl ?_
      refine z_get (pc := 9) hX zc4 1 (by decide) wd199 rfl rfl dX4_scan_9 (fun v5 => ?_)
      refine z_icmp_ge (pc := 12) hX 129 dX4_scan_12 (by decide) (fun h6 => ?_) (fun h6 => ?_)
      · refine z_pick (lv' := [(0, (2, u3))]) [0] rfl ?_
        exact hK129 _
      · refine z_aload_n (pc := 15) hX 0 dX4_scan_15 rfl rfl ?_
        refine z_get (pc := 16) hX zc4 0 (by decide) wd198 rfl rfl dX4_scan_16 (fun v7 => ?_)
        refine z_iload_n (pc := 19) hX 1 dX4_scan_19 rfl rfl ?_
        refine z_iald (pc := 20) hX dX4_scan_20 (fun v8 => ?_)
        refine z_callS (n := 1) (st := []) (pc := 21) hX (mX4_lookOf _ hE _ _ _) ⟨wd383, wd64, wd385, ⟨by decide, by decide, by decide⟩, by decide⟩ wd384 rfl rfl (by decide) (Nat.le_of_ble_eq_true rfl) dX4_scan_21 (fun v9 s10 r11 => ?_)
        show Zj X G 24 [(0, (2, u3)), (1, (0, x4))] [(0, v9)] _ _
        refine z_istore_n (lv' := [(2, (0, v9)), (0, (2, u3)), (1, (0, x4))]) (pc := 24) hX dX4_scan_24 rfl (zlt hxn rfl) rfl ?_
        refine z_iload_n (pc := 25) hX 2 dX4_scan_25 rfl rfl ?_
        refine z_jn (fun K54 eK54 => ?_)
        have hK54 : ∀ (s21 : ZS) (w22 : Int), Zj X G 54 [(0, (2, u3)), (1, (0, x4)), (2, (0, v9))] [(0, w22)] s21 (K54 s21 w22) := by
          intro s21 w22
          rw [eK54]
          refine z_istore_n (lv' := [(3, (0, w22)), (0, (2, u3)), (1, (0, x4)), (2, (0, v9))]) (pc := 54) hX dX4_scan_54 rfl (zlt hxn rfl) rfl ?_
          refine z_iload_n (pc := 55) hX 3 dX4_scan_55 rfl rfl ?_
          refine z_jn (fun K123 eK123 => ?_)
          have hK123 : ∀ (s46 : ZS), Zj X G 123 [(0, (2, u3)), (1, (0, x4))] [] s46 (K123 s46) := by
            intro s46
            rw [eK123]
            refine z_iinc (lv' := [(1, (0, (wrap (x4 + 1)))), (0, (2, u3))]) (pc := 123) hX 1 dX4_scan_123 rfl (zlt hxn rfl) rfl ?_
            refine z_goto (pc := 126) hX 7 dX4_scan_126 (by decide) ?_
            refine z_pick (lv' := [(0, (2, u3)), (1, (0, (wrap (x4 + 1))))]) [1, 0] rfl ?_
            exact ih1 _ _
          clear eK123
          refine z_if_eq (pc := 56) hX 123 dX4_scan_56 (by decide) (fun h23 => ?_) (fun h23 => ?_)
          · refine z_pick (lv' := [(0, (2, u3)), (1, (0, x4))]) [1, 2] rfl ?_
            exact hK123 _
          · refine z_iload_n (pc := 59) hX 0 dX4_scan_59 rfl rfl ?_
            refine z_if_ne (pc := 60) hX 123 dX4_scan_60 (by decide) (fun h24 => ?_) (fun h24 => ?_)
            · refine z_pick (lv' := [(0, (2, u3)), (1, (0, x4))]) [1, 2] rfl ?_
              exact hK123 _
            · refine z_aload_n (pc := 63) hX 1 dX4_scan_63 rfl rfl ?_
              refine z_get (pc := 64) hX zc4 4 (by decide) wd204 rfl rfl dX4_scan_64 (fun v25 => ?_)
              refine z_aload_n (pc := 67) hX 1 dX4_scan_67 rfl rfl ?_
              refine z_get (pc := 68) hX zc4 5 (by decide) wd205 rfl rfl dX4_scan_68 (fun v26 => ?_)
              refine z_iload_n (pc := 71) hX 2 dX4_scan_71 rfl rfl ?_
              refine z_iastA (pc := 72) hX dX4_scan_72 (fun s27 => ?_)
              refine z_aload_n (pc := 73) hX 1 dX4_scan_73 rfl rfl ?_
              refine z_get (pc := 74) hX zc4 3 (by decide) wd203 rfl rfl dX4_scan_74 (fun v28 => ?_)
              refine z_aload_n (pc := 77) hX 1 dX4_scan_77 rfl rfl ?_
              refine z_get (pc := 78) hX zc4 5 (by decide) wd205 rfl rfl dX4_scan_78 (fun v29 => ?_)
              refine z_iload_n (pc := 81) hX 3 dX4_scan_81 rfl rfl ?_
              refine z_iconst (pc := 82) hX dX4_scan_82 ?_
              refine z_jn (fun K112 eK112 => ?_)
              have hK112 : ∀ (s41 : ZS) (w42 : Int), Zj X G 112 [(0, (2, u3)), (1, (0, x4))] [(0, w42), (0, v29), (2, v28)] s41 (K112 s41 w42) := by
                intro s41 w42
                rw [eK112]
                refine z_iastA (pc := 112) hX dX4_scan_112 (fun s43 => ?_)
                refine z_aload_n (pc := 113) hX 0 dX4_scan_113 rfl rfl ?_
                refine z_dup (pc := 114) hX zn2 dX4_scan_114 ?_
                refine z_get (pc := 115) hX zc4 5 (by decide) wd205 rfl rfl dX4_scan_115 (fun v44 => ?_)
                refine z_iconst (pc := 118) hX dX4_scan_118 ?_
                refine z_iadd (pc := 119) hX dX4_scan_119 ?_
                refine z_putA (pc := 120) hX zc4 5 (by decide) wd205 (Or.inl rfl) rfl rfl (fun _ => rfl) (fun _ => rfl) dX4_scan_120 (fun s45 => ?_)
                exact hK123 _
              clear eK112
              refine z_icmp_ne (pc := 83) hX 94 dX4_scan_83 (by decide) (fun h30 => ?_) (fun h30 => ?_)
              · refine z_iload_n (pc := 94) hX 3 dX4_scan_94 rfl rfl ?_
                refine z_iconst (pc := 95) hX dX4_scan_95 ?_
                refine z_icmp_ne (pc := 96) hX 107 dX4_scan_96 (by decide) (fun h31 => ?_) (fun h31 => ?_)
                · refine z_aload_n (pc := 107) hX 1 dX4_scan_107 rfl rfl ?_
                  refine z_iload_n (pc := 108) hX 2 dX4_scan_108 rfl rfl ?_
                  refine z_callV (n := 1) (st := [(0, v29), (2, v28)]) (pc := 109) hX zc4 rfl (fun _ => (mX4_signAt _ hE _ _ _ _)) ⟨wd447, wd64, wd450, ⟨by decide, by decide, by decide⟩, by decide⟩ rfl wd449 wd5 rfl rfl (by decide) (Nat.le_of_ble_eq_true rfl) dX4_scan_109 (fun v32 s33 r34 => ?_)
                  show Zj X G 112 [(3, (0, w22)), (0, (2, u3)), (1, (0, x4)), (2, (0, v9))] [(0, v32), (0, v29), (2, v28)] _ _
                  refine z_pick (lv' := [(0, (2, u3)), (1, (0, x4))]) [1, 2] rfl ?_
                  exact hK112 _ _
                · refine z_aload_n (pc := 99) hX 1 dX4_scan_99 rfl rfl ?_
                  refine z_iload_n (pc := 100) hX 2 dX4_scan_100 rfl rfl ?_
                  refine z_callV (n := 1) (st := [(0, v29), (2, v28)]) (pc := 101) hX zc4 rfl (fun _ => (mX4_numberAt _ hE _ _ _ _)) ⟨wd443, wd64, wd446, ⟨by decide, by decide, by decide⟩, by decide⟩ rfl wd445 wd4 rfl rfl (by decide) (Nat.le_of_ble_eq_true rfl) dX4_scan_101 (fun v35 s36 r37 => ?_)
                  show Zj X G 104 [(3, (0, w22)), (0, (2, u3)), (1, (0, x4)), (2, (0, v9))] [(0, v35), (0, v29), (2, v28)] _ _
                  refine z_goto (pc := 104) hX 112 dX4_scan_104 (by decide) ?_
                  refine z_pick (lv' := [(0, (2, u3)), (1, (0, x4))]) [1, 2] rfl ?_
                  exact hK112 _ _
              · refine z_aload_n (pc := 86) hX 1 dX4_scan_86 rfl rfl ?_
                refine z_iload_n (pc := 87) hX 2 dX4_scan_87 rfl rfl ?_
                refine z_callV (n := 1) (st := [(0, v29), (2, v28)]) (pc := 88) hX zc4 rfl (fun _ => (mX4_wordAt _ hE _ _ _ _)) ⟨wd386, wd64, wd389, ⟨by decide, by decide, by decide⟩, by decide⟩ rfl wd388 wd2 rfl rfl (by decide) (Nat.le_of_ble_eq_true rfl) dX4_scan_88 (fun v38 s39 r40 => ?_)
                show Zj X G 91 [(3, (0, w22)), (0, (2, u3)), (1, (0, x4)), (2, (0, v9))] [(0, v38), (0, v29), (2, v28)] _ _
                refine z_goto (pc := 91) hX 112 dX4_scan_91 (by decide) ?_
                refine z_pick (lv' := [(0, (2, u3)), (1, (0, x4))]) [1, 2] rfl ?_
                exact hK112 _ _
        clear eK54
        refine z_jn (fun K53 eK53 => ?_)
        have hK53 : ∀ (s20 : ZS), Zj X G 53 [(0, (2, u3)), (1, (0, x4)), (2, (0, v9))] [] s20 (K53 s20) := by
          intro s20
          rw [eK53]
          refine z_iconst (pc := 53) hX dX4_scan_53 ?_
          exact hK54 _ _
        clear eK53
        refine z_if_le (pc := 26) hX 53 dX4_scan_26 (by decide) (fun h12 => ?_) (fun h12 => ?_)
        · refine z_pick (lv' := [(0, (2, u3)), (1, (0, x4)), (2, (0, v9))]) [1, 2, 0] rfl ?_
          exact hK53 _
        · refine z_iload_n (pc := 29) hX 0 dX4_scan_29 rfl rfl ?_
          refine z_iconst (pc := 30) hX dX4_scan_30 ?_
          refine z_icmp_eq (pc := 31) hX 53 dX4_scan_31 (by decide) (fun h13 => ?_) (fun h13 => ?_)
          · refine z_pick (lv' := [(0, (2, u3)), (1, (0, x4)), (2, (0, v9))]) [1, 2, 0] rfl ?_
            exact hK53 _
          · refine z_iload_n (pc := 34) hX 0 dX4_scan_34 rfl rfl ?_
            refine z_aload_n (pc := 35) hX 1 dX4_scan_35 rfl rfl ?_
            refine z_get (pc := 36) hX zc4 0 (by decide) wd198 rfl rfl dX4_scan_36 (fun v14 => ?_)
            refine z_iload_n (pc := 39) hX 2 dX4_scan_39 rfl rfl ?_
            refine z_iconst (pc := 40) hX dX4_scan_40 ?_
            refine z_isub (pc := 41) hX dX4_scan_41 ?_
            refine z_iald (pc := 42) hX dX4_scan_42 (fun v15 => ?_)
            refine z_callS (n := 1) (st := [(0, v9)]) (pc := 43) hX (mX4_lookOf _ hE _ _ _) ⟨wd383, wd64, wd385, ⟨by decide, by decide, by decide⟩, by decide⟩ wd384 rfl rfl (by decide) (Nat.le_of_ble_eq_true rfl) dX4_scan_43 (fun v16 s17 r18 => ?_)
            show Zj X G 46 [(2, (0, v9)), (0, (2, u3)), (1, (0, x4))] [(0, v16), (0, v9)] _ _
            refine z_icmp_ne (pc := 46) hX 53 dX4_scan_46 (by decide) (fun h19 => ?_) (fun h19 => ?_)
            · refine z_pick (lv' := [(0, (2, u3)), (1, (0, x4)), (2, (0, v9))]) [1, 2, 0] rfl ?_
              exact hK53 _
            · refine z_iconst (pc := 49) hX dX4_scan_49 ?_
              refine z_goto (pc := 50) hX 54 dX4_scan_50 (by decide) ?_
              refine z_pick (lv' := [(0, (2, u3)), (1, (0, x4)), (2, (0, v9))]) [1, 2, 0] rfl ?_
              exact hK54 _ _
  refine z_pick (lv' := [(0, (2, a0)), (1, (0, 0))]) [1, 0] rfl ?_
  refine hl7 _ _ (fun s48 => ?_) 1000 _ _
  refine z_aload_n (pc := 129) hX 0 dX4_scan_129 rfl rfl ?_
  refine z_get (pc := 130) hX zc4 4 (by decide) wd204 rfl rfl dX4_scan_130 (fun v49 => ?_)
  refine z_aload_n (pc := 133) hX 0 dX4_scan_133 rfl rfl ?_
  refine z_get (pc := 134) hX zc4 5 (by decide) wd205 rfl rfl dX4_scan_134 (fun v50 => ?_)
  refine z_aload_n (pc := 137) hX 0 dX4_scan_137 rfl rfl ?_
  refine z_get (pc := 138) hX zc4 1 (by decide) wd199 rfl rfl dX4_scan_138 (fun v51 => ?_)
  refine z_iastA (pc := 141) hX dX4_scan_141 (fun s52 => ?_)
  refine z_aload_n (pc := 142) hX 0 dX4_scan_142 rfl rfl ?_
  refine z_get (pc := 143) hX zc4 3 (by decide) wd203 rfl rfl dX4_scan_143 (fun v53 => ?_)
  refine z_aload_n (pc := 146) hX 0 dX4_scan_146 rfl rfl ?_
  refine z_get (pc := 147) hX zc4 5 (by decide) wd205 rfl rfl dX4_scan_147 (fun v54 => ?_)
  refine z_sipush (pc := 150) hX dX4_scan_150 ?_
  refine z_iastA (pc := 153) hX dX4_scan_153 (fun s55 => ?_)
  exact z_vret (pc := 154) hX hR hk dX4_scan_154

theorem dX4_advance_0 : decode cX4_advance 0 = .ok (.aload_n 0, 1) := by decide +kernel
theorem dX4_advance_1 : decode cX4_advance 1 = .ok (.getfield 33, 3) := by decide +kernel
theorem dX4_advance_4 : decode cX4_advance 4 = .ok (.aload_n 0, 1) := by decide +kernel
theorem dX4_advance_5 : decode cX4_advance 5 = .ok (.getfield 30, 3) := by decide +kernel
theorem dX4_advance_8 : decode cX4_advance 8 = .ok (.if_icmp .ge 13, 3) := by decide +kernel
theorem dX4_advance_11 : decode cX4_advance 11 = .ok (.aload_n 0, 1) := by decide +kernel
theorem dX4_advance_12 : decode cX4_advance 12 = .ok (.dup, 1) := by decide +kernel
theorem dX4_advance_13 : decode cX4_advance 13 = .ok (.getfield 33, 3) := by decide +kernel
theorem dX4_advance_16 : decode cX4_advance 16 = .ok (.iconst 1, 1) := by decide +kernel
theorem dX4_advance_17 : decode cX4_advance 17 = .ok (.iadd, 1) := by decide +kernel
theorem dX4_advance_18 : decode cX4_advance 18 = .ok (.putfield 33, 3) := by decide +kernel
theorem dX4_advance_21 : decode cX4_advance 21 = .ok (.return_, 1) := by decide +kernel
def fX4_advance (s0 : ZS) (a0 : Int) : Option (Int × ZS) := (zg s0 4 a0 6).bind (fun v1 => (zg s0 4 a0 5).bind (fun v2 => if v2 ≤ v1 then (some (0, s0)) else ((zg s0 4 a0 6).bind (fun v4 => (zp s0 4 a0 6 (wrap (v4 + 1))).bind (fun s5 => some (0, s5))))))
set_option maxHeartbeats 4000000 in
set_option maxRecDepth 100000 in
theorem mX4_advance (E : ZE) (hE : zOkE E) (l : Launch) (s0 : ZS) (a0 : Int) : Ct E l yX4_advance cX4_advance 1 none 2 [(2, a0)] 0 s0 (fX4_advance s0 a0) := by
  refine Ct.of (by decide) hE (Nat.le_of_ble_eq_true rfl) ?_
  intro X G hX hR hN hXE hXl hxn hk _
  subst hXE
  subst hXl
  have hX : G → ZOk X cX4_advance RX4 2 := hX
  clear hN
  show Zj X G 0 [(0, (2, a0))] [] s0 _
  unfold fX4_advance
  refine z_aload_n (pc := 0) hX 0 dX4_advance_0 rfl rfl ?_
  refine z_get (pc := 1) hX zc4 6 (by decide) wd206 rfl rfl dX4_advance_1 (fun v1 => ?_)
  refine z_aload_n (pc := 4) hX 0 dX4_advance_4 rfl rfl ?_
  refine z_get (pc := 5) hX zc4 5 (by decide) wd205 rfl rfl dX4_advance_5 (fun v2 => ?_)
  refine z_icmp_ge (pc := 8) hX 21 dX4_advance_8 (by decide) (fun h3 => ?_) (fun h3 => ?_)
  · exact z_vret (pc := 21) hX hR hk dX4_advance_21
  · refine z_aload_n (pc := 11) hX 0 dX4_advance_11 rfl rfl ?_
    refine z_dup (pc := 12) hX zn2 dX4_advance_12 ?_
    refine z_get (pc := 13) hX zc4 6 (by decide) wd206 rfl rfl dX4_advance_13 (fun v4 => ?_)
    refine z_iconst (pc := 16) hX dX4_advance_16 ?_
    refine z_iadd (pc := 17) hX dX4_advance_17 ?_
    refine z_putA (pc := 18) hX zc4 6 (by decide) wd206 (Or.inl rfl) rfl rfl (fun _ => rfl) (fun _ => rfl) dX4_advance_18 (fun s5 => ?_)
    exact z_vret (pc := 21) hX hR hk dX4_advance_21

theorem dX4_fail_0 : decode cX4_fail 0 = .ok (.aload_n 0, 1) := by decide +kernel
theorem dX4_fail_1 : decode cX4_fail 1 = .ok (.getfield 21, 3) := by decide +kernel
theorem dX4_fail_4 : decode cX4_fail 4 = .ok (.iconst (-1), 1) := by decide +kernel
theorem dX4_fail_5 : decode cX4_fail 5 = .ok (.if_icmp .ne 16, 3) := by decide +kernel
theorem dX4_fail_8 : decode cX4_fail 8 = .ok (.aload_n 0, 1) := by decide +kernel
theorem dX4_fail_9 : decode cX4_fail 9 = .ok (.aload_n 0, 1) := by decide +kernel
theorem dX4_fail_10 : decode cX4_fail 10 = .ok (.getfield 27, 3) := by decide +kernel
theorem dX4_fail_13 : decode cX4_fail 13 = .ok (.aload_n 0, 1) := by decide +kernel
theorem dX4_fail_14 : decode cX4_fail 14 = .ok (.getfield 33, 3) := by decide +kernel
theorem dX4_fail_17 : decode cX4_fail 17 = .ok (.iaload, 1) := by decide +kernel
theorem dX4_fail_18 : decode cX4_fail 18 = .ok (.putfield 21, 3) := by decide +kernel
theorem dX4_fail_21 : decode cX4_fail 21 = .ok (.aload_n 0, 1) := by decide +kernel
theorem dX4_fail_22 : decode cX4_fail 22 = .ok (.aload_n 0, 1) := by decide +kernel
theorem dX4_fail_23 : decode cX4_fail 23 = .ok (.getfield 30, 3) := by decide +kernel
theorem dX4_fail_26 : decode cX4_fail 26 = .ok (.putfield 33, 3) := by decide +kernel
theorem dX4_fail_29 : decode cX4_fail 29 = .ok (.return_, 1) := by decide +kernel
def fX4_fail (s0 : ZS) (a0 : Int) : Option (Int × ZS) := (zg s0 4 a0 2).bind (fun v1 => if v1 = (-1) then ((zg s0 4 a0 4).bind (fun v5 => (zg s0 4 a0 6).bind (fun v6 => (zal s0 100 v5 v6).bind (fun v7 => (zp s0 4 a0 2 v7).bind (fun s8 => (zg s8 4 a0 5).bind (fun v9 => (zp s8 4 a0 6 v9).bind (fun s10 => some (0, s10)))))))) else ((zg s0 4 a0 5).bind (fun v3 => (zp s0 4 a0 6 v3).bind (fun s4 => some (0, s4)))))
set_option maxHeartbeats 4000000 in
set_option maxRecDepth 100000 in
theorem mX4_fail (E : ZE) (hE : zOkE E) (l : Launch) (s0 : ZS) (a0 : Int) : Ct E l yX4_fail cX4_fail 1 none 2 [(2, a0)] 0 s0 (fX4_fail s0 a0) := by
  refine Ct.of (by decide) hE (Nat.le_of_ble_eq_true rfl) ?_
  intro X G hX hR hN hXE hXl hxn hk _
  subst hXE
  subst hXl
  have hX : G → ZOk X cX4_fail RX4 2 := hX
  clear hN
  show Zj X G 0 [(0, (2, a0))] [] s0 _
  unfold fX4_fail
  refine z_aload_n (pc := 0) hX 0 dX4_fail_0 rfl rfl ?_
  refine z_get (pc := 1) hX zc4 2 (by decide) wd201 rfl rfl dX4_fail_1 (fun v1 => ?_)
  refine z_iconst (pc := 4) hX dX4_fail_4 ?_
  refine z_icmp_ne (pc := 5) hX 21 dX4_fail_5 (by decide) (fun h2 => ?_) (fun h2 => ?_)
  · refine z_aload_n (pc := 21) hX 0 dX4_fail_21 rfl rfl ?_
    refine z_aload_n (pc := 22) hX 0 dX4_fail_22 rfl rfl ?_
    refine z_get (pc := 23) hX zc4 5 (by decide) wd205 rfl rfl dX4_fail_23 (fun v3 => ?_)
    refine z_putA (pc := 26) hX zc4 6 (by decide) wd206 (Or.inl rfl) rfl rfl (fun _ => rfl) (fun _ => rfl) dX4_fail_26 (fun s4 => ?_)
    exact z_vret (pc := 29) hX hR hk dX4_fail_29
  · refine z_aload_n (pc := 8) hX 0 dX4_fail_8 rfl rfl ?_
    refine z_aload_n (pc := 9) hX 0 dX4_fail_9 rfl rfl ?_
    refine z_get (pc := 10) hX zc4 4 (by decide) wd204 rfl rfl dX4_fail_10 (fun v5 => ?_)
    refine z_aload_n (pc := 13) hX 0 dX4_fail_13 rfl rfl ?_
    refine z_get (pc := 14) hX zc4 6 (by decide) wd206 rfl rfl dX4_fail_14 (fun v6 => ?_)
    refine z_iald (pc := 17) hX dX4_fail_17 (fun v7 => ?_)
    refine z_putA (pc := 18) hX zc4 2 (by decide) wd201 (Or.inl rfl) rfl rfl (fun _ => rfl) (fun _ => rfl) dX4_fail_18 (fun s8 => ?_)
    refine z_aload_n (pc := 21) hX 0 dX4_fail_21 rfl rfl ?_
    refine z_aload_n (pc := 22) hX 0 dX4_fail_22 rfl rfl ?_
    refine z_get (pc := 23) hX zc4 5 (by decide) wd205 rfl rfl dX4_fail_23 (fun v9 => ?_)
    refine z_putA (pc := 26) hX zc4 6 (by decide) wd206 (Or.inl rfl) rfl rfl (fun _ => rfl) (fun _ => rfl) dX4_fail_26 (fun s10 => ?_)
    exact z_vret (pc := 29) hX hR hk dX4_fail_29

theorem dX4_expect_0 : decode cX4_expect 0 = .ok (.aload_n 0, 1) := by decide +kernel
theorem dX4_expect_1 : decode cX4_expect 1 = .ok (.getfield 24, 3) := by decide +kernel
theorem dX4_expect_4 : decode cX4_expect 4 = .ok (.aload_n 0, 1) := by decide +kernel
theorem dX4_expect_5 : decode cX4_expect 5 = .ok (.getfield 33, 3) := by decide +kernel
theorem dX4_expect_8 : decode cX4_expect 8 = .ok (.iaload, 1) := by decide +kernel
theorem dX4_expect_9 : decode cX4_expect 9 = .ok (.iload_n 1, 1) := by decide +kernel
theorem dX4_expect_10 : decode cX4_expect 10 = .ok (.if_icmp .ne 10, 3) := by decide +kernel
theorem dX4_expect_13 : decode cX4_expect 13 = .ok (.aload_n 0, 1) := by decide +kernel
theorem dX4_expect_14 : decode cX4_expect 14 = .ok (.invokevirtual 74, 3) := by decide +kernel
theorem dX4_expect_17 : decode cX4_expect 17 = .ok (.goto 7, 3) := by decide +kernel
theorem dX4_expect_20 : decode cX4_expect 20 = .ok (.aload_n 0, 1) := by decide +kernel
theorem dX4_expect_21 : decode cX4_expect 21 = .ok (.invokevirtual 49, 3) := by decide +kernel
theorem dX4_expect_24 : decode cX4_expect 24 = .ok (.return_, 1) := by decide +kernel
def fX4_expect (s0 : ZS) (a0 : Int) (a1 : Int) : Option (Int × ZS) := (zg s0 4 a0 3).bind (fun v1 => (zg s0 4 a0 6).bind (fun v2 => (zal s0 100 v1 v2).bind (fun v3 => if v3 = a1 then (zb (zv s0 4 a0 (fX4_advance s0 a0)) (fun v8 s9 => some (0, s9))) else (zb (zv s0 4 a0 (fX4_fail s0 a0)) (fun v5 s6 => some (0, s6))))))
set_option maxHeartbeats 4000000 in
set_option maxRecDepth 100000 in
theorem mX4_expect (E : ZE) (hE : zOkE E) (l : Launch) (s0 : ZS) (a0 : Int) (a1 : Int) : Ct E l yX4_expect cX4_expect 2 none 4 [(2, a0), (0, a1)] 0 s0 (fX4_expect s0 a0 a1) := by
  refine Ct.of (by decide) hE (Nat.le_of_ble_eq_true rfl) ?_
  intro X G hX hR hN hXE hXl hxn hk _
  subst hXE
  subst hXl
  have hX : G → ZOk X cX4_expect RX4 4 := hX
  clear hN
  show Zj X G 0 [(0, (2, a0)), (1, (0, a1))] [] s0 _
  unfold fX4_expect
  refine z_aload_n (pc := 0) hX 0 dX4_expect_0 rfl rfl ?_
  refine z_get (pc := 1) hX zc4 3 (by decide) wd203 rfl rfl dX4_expect_1 (fun v1 => ?_)
  refine z_aload_n (pc := 4) hX 0 dX4_expect_4 rfl rfl ?_
  refine z_get (pc := 5) hX zc4 6 (by decide) wd206 rfl rfl dX4_expect_5 (fun v2 => ?_)
  refine z_iald (pc := 8) hX dX4_expect_8 (fun v3 => ?_)
  refine z_iload_n (pc := 9) hX 1 dX4_expect_9 rfl rfl ?_
  refine z_icmp_ne (pc := 10) hX 20 dX4_expect_10 (by decide) (fun h4 => ?_) (fun h4 => ?_)
  · refine z_aload_n (pc := 20) hX 0 dX4_expect_20 rfl rfl ?_
    refine z_callV (n := 0) (st := []) (pc := 21) hX zc4 rfl (fun _ => (mX4_fail _ hE _ _ _)) ⟨wd523, wd64, wd526, ⟨by decide, by decide, by decide⟩, by decide⟩ rfl wd525 wd9 rfl rfl (by decide) (Nat.le_of_ble_eq_true rfl) dX4_expect_21 (fun v5 s6 r7 => ?_)
    show Zj X G 24 [(0, (2, a0)), (1, (0, a1))] [] _ _
    exact z_vret (pc := 24) hX hR hk dX4_expect_24
  · refine z_aload_n (pc := 13) hX 0 dX4_expect_13 rfl rfl ?_
    refine z_callV (n := 0) (st := []) (pc := 14) hX zc4 rfl (fun _ => (mX4_advance _ hE _ _ _)) ⟨wd519, wd64, wd522, ⟨by decide, by decide, by decide⟩, by decide⟩ rfl wd521 wd8 rfl rfl (by decide) (Nat.le_of_ble_eq_true rfl) dX4_expect_14 (fun v8 s9 r10 => ?_)
    show Zj X G 17 [(0, (2, a0)), (1, (0, a1))] [] _ _
    refine z_goto (pc := 17) hX 24 dX4_expect_17 (by decide) ?_
    exact z_vret (pc := 24) hX hR hk dX4_expect_24

theorem dX4_mayOpen_0 : decode cX4_mayOpen 0 = .ok (.iload_n 1, 1) := by decide +kernel
theorem dX4_mayOpen_1 : decode cX4_mayOpen 1 = .ok (.iconst 5, 1) := by decide +kernel
theorem dX4_mayOpen_2 : decode cX4_mayOpen 2 = .ok (.if_icmp .lt 9, 3) := by decide +kernel
theorem dX4_mayOpen_5 : decode cX4_mayOpen 5 = .ok (.aload_n 0, 1) := by decide +kernel
theorem dX4_mayOpen_6 : decode cX4_mayOpen 6 = .ok (.invokevirtual 49, 3) := by decide +kernel
theorem dX4_mayOpen_9 : decode cX4_mayOpen 9 = .ok (.iconst 0, 1) := by decide +kernel
theorem dX4_mayOpen_10 : decode cX4_mayOpen 10 = .ok (.ireturn, 1) := by decide +kernel
theorem dX4_mayOpen_11 : decode cX4_mayOpen 11 = .ok (.aload_n 0, 1) := by decide +kernel
theorem dX4_mayOpen_12 : decode cX4_mayOpen 12 = .ok (.invokevirtual 74, 3) := by decide +kernel
theorem dX4_mayOpen_15 : decode cX4_mayOpen 15 = .ok (.iconst 1, 1) := by decide +kernel
theorem dX4_mayOpen_16 : decode cX4_mayOpen 16 = .ok (.ireturn, 1) := by decide +kernel
def fX4_mayOpen (s0 : ZS) (a0 : Int) (a1 : Int) : Option (Int × ZS) := if a1 < 5 then (zb (zv s0 4 a0 (fX4_advance s0 a0)) (fun v2 s3 => some (1, s3))) else (zb (zv s0 4 a0 (fX4_fail s0 a0)) (fun v5 s6 => some (0, s6)))
set_option maxHeartbeats 4000000 in
set_option maxRecDepth 100000 in
theorem mX4_mayOpen (E : ZE) (hE : zOkE E) (l : Launch) (s0 : ZS) (a0 : Int) (a1 : Int) : Ct E l yX4_mayOpen cX4_mayOpen 2 (some .boolean) 4 [(2, a0), (0, a1)] 4 s0 (fX4_mayOpen s0 a0 a1) := by
  refine Ct.of (by decide) hE (Nat.le_of_ble_eq_true rfl) ?_
  intro X G hX hR hN hXE hXl hxn hk _
  subst hXE
  subst hXl
  have hX : G → ZOk X cX4_mayOpen RX4 4 := hX
  clear hN
  show Zj X G 0 [(0, (2, a0)), (1, (0, a1))] [] s0 _
  unfold fX4_mayOpen
  refine z_iload_n (pc := 0) hX 1 dX4_mayOpen_0 rfl rfl ?_
  refine z_iconst (pc := 1) hX dX4_mayOpen_1 ?_
  refine z_icmp_lt (pc := 2) hX 11 dX4_mayOpen_2 (by decide) (fun h1 => ?_) (fun h1 => ?_)
  · refine z_aload_n (pc := 11) hX 0 dX4_mayOpen_11 rfl rfl ?_
    refine z_callV (n := 0) (st := []) (pc := 12) hX zc4 rfl (fun _ => (mX4_advance _ hE _ _ _)) ⟨wd519, wd64, wd522, ⟨by decide, by decide, by decide⟩, by decide⟩ rfl wd521 wd8 rfl rfl (by decide) (Nat.le_of_ble_eq_true rfl) dX4_mayOpen_12 (fun v2 s3 r4 => ?_)
    show Zj X G 15 [(0, (2, a0)), (1, (0, a1))] [] _ _
    refine z_iconst (pc := 15) hX dX4_mayOpen_15 ?_
    exact z_zret (pc := 16) hX hR hk dX4_mayOpen_16 (Or.inr rfl)
  · refine z_aload_n (pc := 5) hX 0 dX4_mayOpen_5 rfl rfl ?_
    refine z_callV (n := 0) (st := []) (pc := 6) hX zc4 rfl (fun _ => (mX4_fail _ hE _ _ _)) ⟨wd523, wd64, wd526, ⟨by decide, by decide, by decide⟩, by decide⟩ rfl wd525 wd9 rfl rfl (by decide) (Nat.le_of_ble_eq_true rfl) dX4_mayOpen_6 (fun v5 s6 r7 => ?_)
    show Zj X G 9 [(0, (2, a0)), (1, (0, a1))] [] _ _
    refine z_iconst (pc := 9) hX dX4_mayOpen_9 ?_
    exact z_zret (pc := 10) hX hR hk dX4_mayOpen_10 (Or.inl rfl)

theorem dX4_emit_0 : decode cX4_emit 0 = .ok (.aload_n 0, 1) := by decide +kernel
theorem dX4_emit_1 : decode cX4_emit 1 = .ok (.getfield 39, 3) := by decide +kernel
theorem dX4_emit_4 : decode cX4_emit 4 = .ok (.sipush 160, 3) := by decide +kernel
theorem dX4_emit_7 : decode cX4_emit 7 = .ok (.if_icmp .ge 23, 3) := by decide +kernel
theorem dX4_emit_10 : decode cX4_emit 10 = .ok (.aload_n 0, 1) := by decide +kernel
theorem dX4_emit_11 : decode cX4_emit 11 = .ok (.getfield 36, 3) := by decide +kernel
theorem dX4_emit_14 : decode cX4_emit 14 = .ok (.aload_n 0, 1) := by decide +kernel
theorem dX4_emit_15 : decode cX4_emit 15 = .ok (.getfield 39, 3) := by decide +kernel
theorem dX4_emit_18 : decode cX4_emit 18 = .ok (.iload_n 1, 1) := by decide +kernel
theorem dX4_emit_19 : decode cX4_emit 19 = .ok (.iastore, 1) := by decide +kernel
theorem dX4_emit_20 : decode cX4_emit 20 = .ok (.aload_n 0, 1) := by decide +kernel
theorem dX4_emit_21 : decode cX4_emit 21 = .ok (.dup, 1) := by decide +kernel
theorem dX4_emit_22 : decode cX4_emit 22 = .ok (.getfield 39, 3) := by decide +kernel
theorem dX4_emit_25 : decode cX4_emit 25 = .ok (.iconst 1, 1) := by decide +kernel
theorem dX4_emit_26 : decode cX4_emit 26 = .ok (.iadd, 1) := by decide +kernel
theorem dX4_emit_27 : decode cX4_emit 27 = .ok (.putfield 39, 3) := by decide +kernel
theorem dX4_emit_30 : decode cX4_emit 30 = .ok (.return_, 1) := by decide +kernel
def fX4_emit (s0 : ZS) (a0 : Int) (a1 : Int) : Option (Int × ZS) := (zg s0 4 a0 8).bind (fun v1 => if 160 ≤ v1 then (some (0, s0)) else ((zg s0 4 a0 7).bind (fun v3 => (zg s0 4 a0 8).bind (fun v4 => (zas s0 100 v3 v4 a1).bind (fun s5 => (zg s5 4 a0 8).bind (fun v6 => (zp s5 4 a0 8 (wrap (v6 + 1))).bind (fun s7 => some (0, s7))))))))
set_option maxHeartbeats 4000000 in
set_option maxRecDepth 100000 in
theorem mX4_emit (E : ZE) (hE : zOkE E) (l : Launch) (s0 : ZS) (a0 : Int) (a1 : Int) : Ct E l yX4_emit cX4_emit 2 none 2 [(2, a0), (0, a1)] 0 s0 (fX4_emit s0 a0 a1) := by
  refine Ct.of (by decide) hE (Nat.le_of_ble_eq_true rfl) ?_
  intro X G hX hR hN hXE hXl hxn hk _
  subst hXE
  subst hXl
  have hX : G → ZOk X cX4_emit RX4 2 := hX
  clear hN
  show Zj X G 0 [(0, (2, a0)), (1, (0, a1))] [] s0 _
  unfold fX4_emit
  refine z_aload_n (pc := 0) hX 0 dX4_emit_0 rfl rfl ?_
  refine z_get (pc := 1) hX zc4 8 (by decide) wd208 rfl rfl dX4_emit_1 (fun v1 => ?_)
  refine z_sipush (pc := 4) hX dX4_emit_4 ?_
  refine z_icmp_ge (pc := 7) hX 30 dX4_emit_7 (by decide) (fun h2 => ?_) (fun h2 => ?_)
  · exact z_vret (pc := 30) hX hR hk dX4_emit_30
  · refine z_aload_n (pc := 10) hX 0 dX4_emit_10 rfl rfl ?_
    refine z_get (pc := 11) hX zc4 7 (by decide) wd207 rfl rfl dX4_emit_11 (fun v3 => ?_)
    refine z_aload_n (pc := 14) hX 0 dX4_emit_14 rfl rfl ?_
    refine z_get (pc := 15) hX zc4 8 (by decide) wd208 rfl rfl dX4_emit_15 (fun v4 => ?_)
    refine z_iload_n (pc := 18) hX 1 dX4_emit_18 rfl rfl ?_
    refine z_iastA (pc := 19) hX dX4_emit_19 (fun s5 => ?_)
    refine z_aload_n (pc := 20) hX 0 dX4_emit_20 rfl rfl ?_
    refine z_dup (pc := 21) hX zn2 dX4_emit_21 ?_
    refine z_get (pc := 22) hX zc4 8 (by decide) wd208 rfl rfl dX4_emit_22 (fun v6 => ?_)
    refine z_iconst (pc := 25) hX dX4_emit_25 ?_
    refine z_iadd (pc := 26) hX dX4_emit_26 ?_
    refine z_putA (pc := 27) hX zc4 8 (by decide) wd208 (Or.inl rfl) rfl rfl (fun _ => rfl) (fun _ => rfl) dX4_emit_27 (fun s7 => ?_)
    exact z_vret (pc := 30) hX hR hk dX4_emit_30
