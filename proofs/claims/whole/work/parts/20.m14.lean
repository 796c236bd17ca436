theorem dX12_text_0 : decode cX12_text 0 = .ok (.aload_n 0, 1) := by decide +kernel
theorem dX12_text_1 : decode cX12_text 1 = .ok (.getfield 46, 3) := by decide +kernel
theorem dX12_text_4 : decode cX12_text 4 = .ok (.bipush 6, 2) := by decide +kernel
theorem dX12_text_6 : decode cX12_text 6 = .ok (.if_icmp .ne 6, 3) := by decide +kernel
theorem dX12_text_9 : decode cX12_text 9 = .ok (.bipush (-4), 2) := by decide +kernel
theorem dX12_text_11 : decode cX12_text 11 = .ok (.ireturn, 1) := by decide +kernel
theorem dX12_text_12 : decode cX12_text 12 = .ok (.aload_n 0, 1) := by decide +kernel
theorem dX12_text_13 : decode cX12_text 13 = .ok (.iconst 0, 1) := by decide +kernel
theorem dX12_text_14 : decode cX12_text 14 = .ok (.putfield 150, 3) := by decide +kernel
theorem dX12_text_17 : decode cX12_text 17 = .ok (.aload_n 0, 1) := by decide +kernel
theorem dX12_text_18 : decode cX12_text 18 = .ok (.iconst 0, 1) := by decide +kernel
theorem dX12_text_19 : decode cX12_text 19 = .ok (.putfield 166, 3) := by decide +kernel
theorem dX12_text_22 : decode cX12_text 22 = .ok (.iconst 1, 1) := by decide +kernel
theorem dX12_text_23 : decode cX12_text 23 = .ok (.istore_n 1, 1) := by decide +kernel
theorem dX12_text_24 : decode cX12_text 24 = .ok (.iconst 0, 1) := by decide +kernel
theorem dX12_text_25 : decode cX12_text 25 = .ok (.istore_n 2, 1) := by decide +kernel
theorem dX12_text_26 : decode cX12_text 26 = .ok (.iload_n 2, 1) := by decide +kernel
theorem dX12_text_27 : decode cX12_text 27 = .ok (.iconst 2, 1) := by decide +kernel
theorem dX12_text_28 : decode cX12_text 28 = .ok (.if_icmp .ge 73, 3) := by decide +kernel
theorem dX12_text_31 : decode cX12_text 31 = .ok (.iload_n 1, 1) := by decide +kernel
theorem dX12_text_32 : decode cX12_text 32 = .ok (.ifCond .eq 69, 3) := by decide +kernel
theorem dX12_text_35 : decode cX12_text 35 = .ok (.aload_n 0, 1) := by decide +kernel
theorem dX12_text_36 : decode cX12_text 36 = .ok (.invokevirtual 189, 3) := by decide +kernel
theorem dX12_text_39 : decode cX12_text 39 = .ok (.aload_n 0, 1) := by decide +kernel
theorem dX12_text_40 : decode cX12_text 40 = .ok (.getfield 156, 3) := by decide +kernel
theorem dX12_text_43 : decode cX12_text 43 = .ok (.iconst 3, 1) := by decide +kernel
theorem dX12_text_44 : decode cX12_text 44 = .ok (.if_icmp .ne 15, 3) := by decide +kernel
theorem dX12_text_47 : decode cX12_text 47 = .ok (.aload_n 0, 1) := by decide +kernel
theorem dX12_text_48 : decode cX12_text 48 = .ok (.getfield 159, 3) := by decide +kernel
theorem dX12_text_51 : decode cX12_text 51 = .ok (.iload_n 2, 1) := by decide +kernel
theorem dX12_text_52 : decode cX12_text 52 = .ok (.if_icmp .ne 7, 3) := by decide +kernel
theorem dX12_text_55 : decode cX12_text 55 = .ok (.iconst 1, 1) := by decide +kernel
theorem dX12_text_56 : decode cX12_text 56 = .ok (.goto 4, 3) := by decide +kernel
theorem dX12_text_59 : decode cX12_text 59 = .ok (.iconst 0, 1) := by decide +kernel
theorem dX12_text_60 : decode cX12_text 60 = .ok (.istore_n 1, 1) := by decide +kernel
theorem dX12_text_61 : decode cX12_text 61 = .ok (.aload_n 0, 1) := by decide +kernel
theorem dX12_text_62 : decode cX12_text 62 = .ok (.getfield 43, 3) := by decide +kernel
theorem dX12_text_65 : decode cX12_text 65 = .ok (.iconst 4, 1) := by decide +kernel
theorem dX12_text_66 : decode cX12_text 66 = .ok (.aload_n 0, 1) := by decide +kernel
theorem dX12_text_67 : decode cX12_text 67 = .ok (.getfield 46, 3) := by decide +kernel
theorem dX12_text_70 : decode cX12_text 70 = .ok (.imul, 1) := by decide +kernel
theorem dX12_text_71 : decode cX12_text 71 = .ok (.iload_n 2, 1) := by decide +kernel
theorem dX12_text_72 : decode cX12_text 72 = .ok (.iadd, 1) := by decide +kernel
theorem dX12_text_73 : decode cX12_text 73 = .ok (.aload_n 0, 1) := by decide +kernel
theorem dX12_text_74 : decode cX12_text 74 = .ok (.getfield 166, 3) := by decide +kernel
theorem dX12_text_77 : decode cX12_text 77 = .ok (.iastore, 1) := by decide +kernel
theorem dX12_text_78 : decode cX12_text 78 = .ok (.iload_n 1, 1) := by decide +kernel
theorem dX12_text_79 : decode cX12_text 79 = .ok (.ifCond .eq 14, 3) := by decide +kernel
theorem dX12_text_82 : decode cX12_text 82 = .ok (.aload_n 0, 1) := by decide +kernel
theorem dX12_text_83 : decode cX12_text 83 = .ok (.invokevirtual 203, 3) := by decide +kernel
theorem dX12_text_86 : decode cX12_text 86 = .ok (.ifCond .eq 7, 3) := by decide +kernel
theorem dX12_text_89 : decode cX12_text 89 = .ok (.iconst 1, 1) := by decide +kernel
theorem dX12_text_90 : decode cX12_text 90 = .ok (.goto 4, 3) := by decide +kernel
theorem dX12_text_93 : decode cX12_text 93 = .ok (.iconst 0, 1) := by decide +kernel
theorem dX12_text_94 : decode cX12_text 94 = .ok (.istore_n 1, 1) := by decide +kernel
theorem dX12_text_95 : decode cX12_text 95 = .ok (.iinc 2 1, 3) := by decide +kernel
theorem dX12_text_98 : decode cX12_text 98 = .ok (.goto (-72), 3) := by decide +kernel
theorem dX12_text_101 : decode cX12_text 101 = .ok (.iload_n 1, 1) := by decide +kernel
theorem dX12_text_102 : decode cX12_text 102 = .ok (.ifCond .eq 20, 3) := by decide +kernel
theorem dX12_text_105 : decode cX12_text 105 = .ok (.aload_n 0, 1) := by decide +kernel
theorem dX12_text_106 : decode cX12_text 106 = .ok (.invokevirtual 189, 3) := by decide +kernel
theorem dX12_text_109 : decode cX12_text 109 = .ok (.aload_n 0, 1) := by decide +kernel
theorem dX12_text_110 : decode cX12_text 110 = .ok (.getfield 156, 3) := by decide +kernel
theorem dX12_text_113 : decode cX12_text 113 = .ok (.ifCond .ne 7, 3) := by decide +kernel
theorem dX12_text_116 : decode cX12_text 116 = .ok (.iconst 1, 1) := by decide +kernel
theorem dX12_text_117 : decode cX12_text 117 = .ok (.goto 4, 3) := by decide +kernel
theorem dX12_text_120 : decode cX12_text 120 = .ok (.iconst 0, 1) := by decide +kernel
theorem dX12_text_121 : decode cX12_text 121 = .ok (.istore_n 1, 1) := by decide +kernel
theorem dX12_text_122 : decode cX12_text 122 = .ok (.aload_n 0, 1) := by decide +kernel
theorem dX12_text_123 : decode cX12_text 123 = .ok (.getfield 43, 3) := by decide +kernel
theorem dX12_text_126 : decode cX12_text 126 = .ok (.iconst 4, 1) := by decide +kernel
theorem dX12_text_127 : decode cX12_text 127 = .ok (.aload_n 0, 1) := by decide +kernel
theorem dX12_text_128 : decode cX12_text 128 = .ok (.getfield 46, 3) := by decide +kernel
theorem dX12_text_131 : decode cX12_text 131 = .ok (.imul, 1) := by decide +kernel
theorem dX12_text_132 : decode cX12_text 132 = .ok (.iconst 2, 1) := by decide +kernel
theorem dX12_text_133 : decode cX12_text 133 = .ok (.iadd, 1) := by decide +kernel
theorem dX12_text_134 : decode cX12_text 134 = .ok (.aload_n 0, 1) := by decide +kernel
theorem dX12_text_135 : decode cX12_text 135 = .ok (.getfield 166, 3) := by decide +kernel
theorem dX12_text_138 : decode cX12_text 138 = .ok (.iastore, 1) := by decide +kernel
theorem dX12_text_139 : decode cX12_text 139 = .ok (.aload_n 0, 1) := by decide +kernel
theorem dX12_text_140 : decode cX12_text 140 = .ok (.iconst 0, 1) := by decide +kernel
theorem dX12_text_141 : decode cX12_text 141 = .ok (.putfield 145, 3) := by decide +kernel
theorem dX12_text_144 : decode cX12_text 144 = .ok (.iload_n 1, 1) := by decide +kernel
theorem dX12_text_145 : decode cX12_text 145 = .ok (.ifCond .ne 11, 3) := by decide +kernel
theorem dX12_text_148 : decode cX12_text 148 = .ok (.bipush (-100), 2) := by decide +kernel
theorem dX12_text_150 : decode cX12_text 150 = .ok (.aload_n 0, 1) := by decide +kernel
theorem dX12_text_151 : decode cX12_text 151 = .ok (.getfield 153, 3) := by decide +kernel
theorem dX12_text_154 : decode cX12_text 154 = .ok (.isub, 1) := by decide +kernel
theorem dX12_text_155 : decode cX12_text 155 = .ok (.ireturn, 1) := by decide +kernel
theorem dX12_text_156 : decode cX12_text 156 = .ok (.aload_n 0, 1) := by decide +kernel
theorem dX12_text_157 : decode cX12_text 157 = .ok (.dup, 1) := by decide +kernel
theorem dX12_text_158 : decode cX12_text 158 = .ok (.getfield 46, 3) := by decide +kernel
theorem dX12_text_161 : decode cX12_text 161 = .ok (.iconst 1, 1) := by decide +kernel
theorem dX12_text_162 : decode cX12_text 162 = .ok (.iadd, 1) := by decide +kernel
theorem dX12_text_163 : decode cX12_text 163 = .ok (.putfield 46, 3) := by decide +kernel
theorem dX12_text_166 : decode cX12_text 166 = .ok (.aload_n 0, 1) := by decide +kernel
theorem dX12_text_167 : decode cX12_text 167 = .ok (.getfield 46, 3) := by decide +kernel
theorem dX12_text_170 : decode cX12_text 170 = .ok (.iconst 1, 1) := by decide +kernel
theorem dX12_text_171 : decode cX12_text 171 = .ok (.isub, 1) := by decide +kernel
theorem dX12_text_172 : decode cX12_text 172 = .ok (.ireturn, 1) := by decide +kernel
def lX12_text_26 (u6 : Int) (K101 : ZS → Int → Option (Int × ZS)) : Nat → ZS → Int → Int → Option (Int × ZS)
  | 0, _, _, _ => none
  | n1 + 1, s5, x7, x8 => if 2 ≤ x8 then (K101 s5 x7) else (if x7 = 0 then (K101 s5 x7) else (zb (zv s5 12 u6 (fX12_next s5 u6)) (fun v11 s12 => (zg s12 12 u6 31).bind (fun v14 => zjn (fun (K60 : ZS → Int → Option (Int × ZS)) => zjn (fun (K59 : ZS → Option (Int × ZS)) => if v14 = 3 then ((zg s12 12 u6 32).bind (fun v16 => if v16 = x8 then (K60 s12 1) else (K59 s12))) else (K59 s12)) (fun (s18 : ZS) => K60 s18 0)) (fun (s19 : ZS) (w20 : Int) => (zg s19 12 u6 15).bind (fun v21 => (zg s19 12 u6 16).bind (fun v22 => (zg s19 12 u6 37).bind (fun v23 => (zas s19 100 v21 (wrap ((wrap (4 * v22)) + x8)) v23).bind (fun s24 => zjn (fun (K94 : ZS → Int → Option (Int × ZS)) => zjn (fun (K93 : ZS → Option (Int × ZS)) => if w20 = 0 then (K93 s24) else (zb (zv s24 12 u6 (fX12_eRead s24 u6)) (fun v26 s27 => if v26 = 0 then (K93 s27) else (K94 s27 1)))) (fun (s30 : ZS) => K94 s30 0)) (fun (s31 : ZS) (w32 : Int) => lX12_text_26 u6 K101 n1 s31 w32 (wrap (x8 + 1))))))))))))

def fX12_text (s0 : ZS) (a0 : Int) : Option (Int × ZS) := (zg s0 12 a0 16).bind (fun v1 => if v1 = 6 then (some ((-4), s0)) else ((zp s0 12 a0 29 0).bind (fun s3 => (zp s3 12 a0 37 0).bind (fun s4 => lX12_text_26 a0 (fun (s35 : ZS) (x36 : Int) => zjn (fun (K122 : ZS → Int → Option (Int × ZS)) => if x36 = 0 then (K122 s35 x36) else (zb (zv s35 12 a0 (fX12_next s35 a0)) (fun v38 s39 => (zg s39 12 a0 31).bind (fun v41 => zjn (fun (K121 : ZS → Int → Option (Int × ZS)) => if v41 = 0 then (K121 s39 1) else (K121 s39 0)) (fun (s43 : ZS) (w44 : Int) => K122 s43 w44))))) (fun (s45 : ZS) (x46 : Int) => (zg s45 12 a0 15).bind (fun v47 => (zg s45 12 a0 16).bind (fun v48 => (zg s45 12 a0 37).bind (fun v49 => (zas s45 100 v47 (wrap ((wrap (4 * v48)) + 2)) v49).bind (fun s50 => (zp s50 12 a0 13 0).bind (fun s51 => if x46 = 0 then ((zg s51 12 a0 30).bind (fun v56 => some ((wrap ((-100) - v56)), s51))) else ((zg s51 12 a0 16).bind (fun v53 => (zp s51 12 a0 16 (wrap (v53 + 1))).bind (fun s54 => (zg s54 12 a0 16).bind (fun v55 => some ((wrap (v55 - 1)), s54)))))))))))) 1000 s4 1 0))))
set_option maxHeartbeats 4000000 in
set_option maxRecDepth 100000 in
theorem mX12_text (E : ZE) (hE : zOkE E) (l : Launch) (s0 : ZS) (a0 : Int) : Ct E l yX12_text cX12_text 3 (some .int) 10 [(2, a0)] 1 s0 (fX12_text s0 a0) := by
  refine Ct.of (by decide) hE (Nat.le_of_ble_eq_true rfl) ?_
  intro X G hX hR hN hXE hXl hxn hk _
  subst hXE
  subst hXl
  have hX : G → ZOk X cX12_text RX12 10 := hX
  clear hN
  show Zj X G 0 [(0, (2, a0))] [] s0 _
  unfold fX12_text
  refine z_aload_n (pc := 0) hX 0 dX12_text_0 rfl rfl ?_
  refine z_get (pc := 1) hX zc12 16 (by decide) wd1033 rfl rfl dX12_text_1 (fun v1 => ?_)
  refine z_bipush (pc := 4) hX dX12_text_4 ?_
  refine z_icmp_ne (pc := 6) hX 12 dX12_text_6 (by decide) (fun h2 => ?_) (fun h2 => ?_)
  · refine z_aload_n (pc := 12) hX 0 dX12_text_12 rfl rfl ?_
    refine z_iconst (pc := 13) hX dX12_text_13 ?_
    refine z_putA (pc := 14) hX zc12 29 (by decide) wd1046 (Or.inl rfl) rfl rfl (fun _ => rfl) (fun _ => rfl) dX12_text_14 (fun s3 => ?_)
    refine z_aload_n (pc := 17) hX 0 dX12_text_17 rfl rfl ?_
    refine z_iconst (pc := 18) hX dX12_text_18 ?_
    refine z_putA (pc := 19) hX zc12 37 (by decide) wd1054 (Or.inl rfl) rfl rfl (fun _ => rfl) (fun _ => rfl) dX12_text_19 (fun s4 => ?_)
    refine z_iconst (pc := 22) hX dX12_text_22 ?_
    refine z_istore_n (lv' := [(1, (0, 1)), (0, (2, a0))]) (pc := 23) hX dX12_text_23 rfl (zlt hxn rfl) rfl ?_
    refine z_iconst (pc := 24) hX dX12_text_24 ?_
    refine z_istore_n (lv' := [(2, (0, 0)), (1, (0, 1)), (0, (2, a0))]) (pc := 25) hX dX12_text_25 rfl (zlt hxn rfl) rfl ?_
    have hl26 : ∀ (u6 : Int), ∀ (K101 : ZS → Int → Option (Int × ZS)), (∀ (s33 : ZS) (x34 : Int), Zj X G 101 [(0, (2, u6)), (1, (0, x34))] [] s33 (K101 s33 x34)) → ∀ (n1 : Nat) (s5 : ZS) (x7 x8 : Int), Zj X G 26 [(0, (2, u6)), (1, (0, x7)), (2, (0, x8))] [] s5 (lX12_text_26 u6 K101 n1 s5 x7 x8) := by
      intro u6 K101 hK101 n1
      induction n1 with
      | zero => intro _ _ _; exact z_none
      | succ n1 ih1 =>
        intro s5 x7 x8
        rw [lX12_text_26]
        refine z_iload_n (pc := 26) hX 2 dX12_text_26 rfl rfl ?_
        refine z_iconst (pc := 27) hX dX12_text_27 ?_
        refine z_icmp_ge (pc := 28) hX 101 dX12_text_28 (by decide) (fun h9 => ?_) (fun h9 => ?_)
        · refine z_pick (lv' := [(0, (2, u6)), (1, (0, x7))]) [0, 1] rfl ?_
          exact hK101 _ _
        · refine z_iload_n (pc := 31) hX 1 dX12_text_31 rfl rfl ?_
          refine z_if_eq (pc := 32) hX 101 dX12_text_32 (by decide) (fun h10 => ?_) (fun h10 => ?_)
          · refine z_pick (lv' := [(0, (2, u6)), (1, (0, x7))]) [0, 1] rfl ?_
            exact hK101 _ _
          · refine z_aload_n (pc := 35) hX 0 dX12_text_35 rfl rfl ?_
            refine z_callV (n := 0) (st := []) (pc := 36) hX zc12 rfl (fun _ => (mX12_next _ hE _ _ _)) ⟨wd1213, wd67, wd1216, ⟨by decide, by decide, by decide⟩, by decide⟩ rfl wd1215 wd33 rfl rfl (by decide) (Nat.le_of_ble_eq_true rfl) dX12_text_36 (fun v11 s12 r13 => ?_)
            show Zj X G 39 [(0, (2, u6)), (1, (0, x7)), (2, (0, x8))] [] _ _
            refine z_aload_n (pc := 39) hX 0 dX12_text_39 rfl rfl ?_
            refine z_get (pc := 40) hX zc12 31 (by decide) wd1048 rfl rfl dX12_text_40 (fun v14 => ?_)
            refine z_iconst (pc := 43) hX dX12_text_43 ?_
            refine z_jn (fun K60 eK60 => ?_)
            have hK60 : ∀ (s19 : ZS) (w20 : Int), Zj X G 60 [(0, (2, u6)), (2, (0, x8))] [(0, w20)] s19 (K60 s19 w20) := by
              intro s19 w20
              rw [eK60]
              refine z_istore_n (lv' := [(1, (0, w20)), (0, (2, u6)), (2, (0, x8))]) (pc := 60) hX dX12_text_60 rfl (zlt hxn rfl) rfl ?_
              refine z_aload_n (pc := 61) hX 1 dX12_text_61 rfl rfl ?_
              refine z_get (pc := 62) hX zc12 15 (by decide) wd1032 rfl rfl dX12_text_62 (fun v21 => ?_)
              refine z_iconst (pc := 65) hX dX12_text_65 ?_
              refine z_aload_n (pc := 66) hX 1 dX12_text_66 rfl rfl ?_
              refine z_get (pc := 67) hX zc12 16 (by decide) wd1033 rfl rfl dX12_text_67 (fun v22 => ?_)
              refine z_imul (pc := 70) hX dX12_text_70 ?_
              refine z_iload_n (pc := 71) hX 2 dX12_text_71 rfl rfl ?_
              refine z_iadd (pc := 72) hX dX12_text_72 ?_
              refine z_aload_n (pc := 73) hX 1 dX12_text_73 rfl rfl ?_
              refine z_get (pc := 74) hX zc12 37 (by decide) wd1054 rfl rfl dX12_text_74 (fun v23 => ?_)
              refine z_iastA (pc := 77) hX dX12_text_77 (fun s24 => ?_)
              refine z_iload_n (pc := 78) hX 0 dX12_text_78 rfl rfl ?_
              refine z_jn (fun K94 eK94 => ?_)
              have hK94 : ∀ (s31 : ZS) (w32 : Int), Zj X G 94 [(0, (2, u6)), (2, (0, x8))] [(0, w32)] s31 (K94 s31 w32) := by
                intro s31 w32
                rw [eK94]
                refine z_istore_n (lv' := [(1, (0, w32)), (0, (2, u6)), (2, (0, x8))]) (pc := 94) hX dX12_text_94 rfl (zlt hxn rfl) rfl ?_
                refine z_iinc (lv' := [(2, (0, (wrap (x8 + 1)))), (1, (0, w32)), (0, (2, u6))]) (pc := 95) hX 2 dX12_text_95 rfl (zlt hxn rfl) rfl ?_
                refine z_goto (pc := 98) hX 26 dX12_text_98 (by decide) ?_
                refine z_pick (lv' := [(0, (2, u6)), (1, (0, w32)), (2, (0, (wrap (x8 + 1))))]) [2, 1, 0] rfl ?_
                exact ih1 _ _ _
              clear eK94
              refine z_jn (fun K93 eK93 => ?_)
              have hK93 : ∀ (s30 : ZS), Zj X G 93 [(0, (2, u6)), (2, (0, x8))] [] s30 (K93 s30) := by
                intro s30
                rw [eK93]
                refine z_iconst (pc := 93) hX dX12_text_93 ?_
                exact hK94 _ _
              clear eK93
              refine z_if_eq (pc := 79) hX 93 dX12_text_79 (by decide) (fun h25 => ?_) (fun h25 => ?_)
              · refine z_pick (lv' := [(0, (2, u6)), (2, (0, x8))]) [1, 2] rfl ?_
                exact hK93 _
              · refine z_aload_n (pc := 82) hX 1 dX12_text_82 rfl rfl ?_
                refine z_callV (n := 0) (st := []) (pc := 83) hX zc12 rfl (fun _ => (mX12_eRead _ hE _ _ _)) ⟨wd1221, wd67, wd1224, ⟨by decide, by decide, by decide⟩, by decide⟩ rfl wd1223 wd35 rfl rfl (by decide) (Nat.le_of_ble_eq_true rfl) dX12_text_83 (fun v26 s27 r28 => ?_)
                show Zj X G 86 [(1, (0, w20)), (0, (2, u6)), (2, (0, x8))] [(0, v26)] _ _
                refine z_if_eq (pc := 86) hX 93 dX12_text_86 (by decide) (fun h29 => ?_) (fun h29 => ?_)
                · refine z_pick (lv' := [(0, (2, u6)), (2, (0, x8))]) [1, 2] rfl ?_
                  exact hK93 _
                · refine z_iconst (pc := 89) hX dX12_text_89 ?_
                  refine z_goto (pc := 90) hX 94 dX12_text_90 (by decide) ?_
                  refine z_pick (lv' := [(0, (2, u6)), (2, (0, x8))]) [1, 2] rfl ?_
                  exact hK94 _ _
            clear eK60
            refine z_jn (fun K59 eK59 => ?_)
            have hK59 : ∀ (s18 : ZS), Zj X G 59 [(0, (2, u6)), (2, (0, x8))] [] s18 (K59 s18) := by
              intro s18
              rw [eK59]
              refine z_iconst (pc := 59) hX dX12_text_59 ?_
              exact hK60 _ _
            clear eK59
            refine z_icmp_ne (pc := 44) hX 59 dX12_text_44 (by decide) (fun h15 => ?_) (fun h15 => ?_)
            · refine z_pick (lv' := [(0, (2, u6)), (2, (0, x8))]) [0, 2] rfl ?_
              exact hK59 _
            · refine z_aload_n (pc := 47) hX 0 dX12_text_47 rfl rfl ?_
              refine z_get (pc := 48) hX zc12 32 (by decide) wd1049 rfl rfl dX12_text_48 (fun v16 => ?_)
              refine z_iload_n (pc := 51) hX 2 dX12_text_51 rfl rfl ?_
              refine z_icmp_ne (pc := 52) hX 59 dX12_text_52 (by decide) (fun h17 => ?_) (fun h17 => ?_)
              · refine z_pick (lv' := [(0, (2, u6)), (2, (0, x8))]) [0, 2] rfl ?_
                exact hK59 _
              · refine z_iconst (pc := 55) hX dX12_text_55 ?_
                refine z_goto (pc := 56) hX 60 dX12_text_56 (by decide) ?_
                refine z_pick (lv' := [(0, (2, u6)), (2, (0, x8))]) [0, 2] rfl ?_
                exact hK60 _ _
    refine z_pick (lv' := [(0, (2, a0)), (1, (0, 1)), (2, (0, 0))]) [2, 1, 0] rfl ?_
    refine hl26 _ _ (fun s35 x36 => ?_) 1000 _ _ _
    refine z_iload_n (pc := 101) hX 1 dX12_text_101 rfl rfl ?_
    refine z_jn (fun K122 eK122 => ?_)
    have hK122 : ∀ (s45 : ZS) (x46 : Int), Zj X G 122 [(0, (2, a0)), (1, (0, x46))] [] s45 (K122 s45 x46) := by
      intro s45 x46
      rw [eK122]
      refine z_aload_n (pc := 122) hX 0 dX12_text_122 rfl rfl ?_
      refine z_get (pc := 123) hX zc12 15 (by decide) wd1032 rfl rfl dX12_text_123 (fun v47 => ?_)
      refine z_iconst (pc := 126) hX dX12_text_126 ?_
      refine z_aload_n (pc := 127) hX 0 dX12_text_127 rfl rfl ?_
      refine z_get (pc := 128) hX zc12 16 (by decide) wd1033 rfl rfl dX12_text_128 (fun v48 => ?_)
      refine z_imul (pc := 131) hX dX12_text_131 ?_
      refine z_iconst (pc := 132) hX dX12_text_132 ?_
      refine z_iadd (pc := 133) hX dX12_text_133 ?_
      refine z_aload_n (pc := 134) hX 0 dX12_text_134 rfl rfl ?_
      refine z_get (pc := 135) hX zc12 37 (by decide) wd1054 rfl rfl dX12_text_135 (fun v49 => ?_)
      refine z_iastA (pc := 138) hX dX12_text_138 (fun s50 => ?_)
      refine z_aload_n (pc := 139) hX 0 dX12_text_139 rfl rfl ?_
      refine z_iconst (pc := 140) hX dX12_text_140 ?_
      refine z_putA (pc := 141) hX zc12 13 (by decide) wd1030 (Or.inl rfl) rfl rfl (fun _ => rfl) (fun _ => rfl) dX12_text_141 (fun s51 => ?_)
      refine z_iload_n (pc := 144) hX 1 dX12_text_144 rfl rfl ?_
      refine z_if_ne (pc := 145) hX 156 dX12_text_145 (by decide) (fun h52 => ?_) (fun h52 => ?_)
      · refine z_aload_n (pc := 156) hX 0 dX12_text_156 rfl rfl ?_
        refine z_dup (pc := 157) hX zn2 dX12_text_157 ?_
        refine z_get (pc := 158) hX zc12 16 (by decide) wd1033 rfl rfl dX12_text_158 (fun v53 => ?_)
        refine z_iconst (pc := 161) hX dX12_text_161 ?_
        refine z_iadd (pc := 162) hX dX12_text_162 ?_
        refine z_putA (pc := 163) hX zc12 16 (by decide) wd1033 (Or.inl rfl) rfl rfl (fun _ => rfl) (fun _ => rfl) dX12_text_163 (fun s54 => ?_)
        refine z_aload_n (pc := 166) hX 0 dX12_text_166 rfl rfl ?_
        refine z_get (pc := 167) hX zc12 16 (by decide) wd1033 rfl rfl dX12_text_167 (fun v55 => ?_)
        refine z_iconst (pc := 170) hX dX12_text_170 ?_
        refine z_isub (pc := 171) hX dX12_text_171 ?_
        exact z_iret (pc := 172) hX hR hk dX12_text_172
      · refine z_bipush (pc := 148) hX dX12_text_148 ?_
        refine z_aload_n (pc := 150) hX 0 dX12_text_150 rfl rfl ?_
        refine z_get (pc := 151) hX zc12 30 (by decide) wd1047 rfl rfl dX12_text_151 (fun v56 => ?_)
        refine z_isub (pc := 154) hX dX12_text_154 ?_
        exact z_iret (pc := 155) hX hR hk dX12_text_155
    clear eK122
    refine z_if_eq (pc := 102) hX 122 dX12_text_102 (by decide) (fun h37 => ?_) (fun h37 => ?_)
    · exact hK122 _ _
    · refine z_aload_n (pc := 105) hX 0 dX12_text_105 rfl rfl ?_
      refine z_callV (n := 0) (st := []) (pc := 106) hX zc12 rfl (fun _ => (mX12_next _ hE _ _ _)) ⟨wd1213, wd67, wd1216, ⟨by decide, by decide, by decide⟩, by decide⟩ rfl wd1215 wd33 rfl rfl (by decide) (Nat.le_of_ble_eq_true rfl) dX12_text_106 (fun v38 s39 r40 => ?_)
      show Zj X G 109 [(0, (2, a0)), (1, (0, x36))] [] _ _
      refine z_aload_n (pc := 109) hX 0 dX12_text_109 rfl rfl ?_
      refine z_get (pc := 110) hX zc12 31 (by decide) wd1048 rfl rfl dX12_text_110 (fun v41 => ?_)
      refine z_jn (fun K121 eK121 => ?_)
      have hK121 : ∀ (s43 : ZS) (w44 : Int), Zj X G 121 [(0, (2, a0))] [(0, w44)] s43 (K121 s43 w44) := by
        intro s43 w44
        rw [eK121]
        refine z_istore_n (lv' := [(1, (0, w44)), (0, (2, a0))]) (pc := 121) hX dX12_text_121 rfl (zlt hxn rfl) rfl ?_
        refine z_pick (lv' := [(0, (2, a0)), (1, (0, w44))]) [1, 0] rfl ?_
        exact hK122 _ _
      clear eK121
      refine z_if_ne (pc := 113) hX 120 dX12_text_113 (by decide) (fun h42 => ?_) (fun h42 => ?_)
      · refine z_iconst (pc := 120) hX dX12_text_120 ?_
        refine z_pick (lv' := [(0, (2, a0))]) [0] rfl ?_
        exact hK121 _ _
      · refine z_iconst (pc := 116) hX dX12_text_116 ?_
        refine z_goto (pc := 117) hX 121 dX12_text_117 (by decide) ?_
        refine z_pick (lv' := [(0, (2, a0))]) [0] rfl ?_
        exact hK121 _ _
  · refine z_bipush (pc := 9) hX dX12_text_9 ?_
    exact z_iret (pc := 11) hX hR hk dX12_text_11

theorem dX11_force_0 : decode cX11_force 0 = .ok (.iload_n 1, 1) := by decide +kernel
theorem dX11_force_1 : decode cX11_force 1 = .ok (.ifCond .lt 11, 3) := by decide +kernel
theorem dX11_force_4 : decode cX11_force 4 = .ok (.iload_n 1, 1) := by decide +kernel
theorem dX11_force_5 : decode cX11_force 5 = .ok (.aload_n 0, 1) := by decide +kernel
theorem dX11_force_6 : decode cX11_force 6 = .ok (.getfield 44, 3) := by decide +kernel
theorem dX11_force_9 : decode cX11_force 9 = .ok (.if_icmp .lt 6, 3) := by decide +kernel
theorem dX11_force_12 : decode cX11_force 12 = .ok (.bipush (-2), 2) := by decide +kernel
theorem dX11_force_14 : decode cX11_force 14 = .ok (.ireturn, 1) := by decide +kernel
theorem dX11_force_15 : decode cX11_force 15 = .ok (.aload_n 0, 1) := by decide +kernel
theorem dX11_force_16 : decode cX11_force 16 = .ok (.getfield 47, 3) := by decide +kernel
theorem dX11_force_19 : decode cX11_force 19 = .ok (.istore_n 2, 1) := by decide +kernel
theorem dX11_force_20 : decode cX11_force 20 = .ok (.aload_n 0, 1) := by decide +kernel
theorem dX11_force_21 : decode cX11_force 21 = .ok (.iload_n 1, 1) := by decide +kernel
theorem dX11_force_22 : decode cX11_force 22 = .ok (.putfield 47, 3) := by decide +kernel
theorem dX11_force_25 : decode cX11_force 25 = .ok (.iload_n 2, 1) := by decide +kernel
theorem dX11_force_26 : decode cX11_force 26 = .ok (.ireturn, 1) := by decide +kernel
def fX11_force (s0 : ZS) (a0 : Int) (a1 : Int) : Option (Int × ZS) := if a1 < 0 then (some ((-2), s0)) else ((zg s0 11 a0 6).bind (fun v2 => if a1 < v2 then ((zg s0 11 a0 7).bind (fun v4 => (zp s0 11 a0 7 a1).bind (fun s5 => some (v4, s5)))) else (some ((-2), s0))))
set_option maxHeartbeats 4000000 in
set_option maxRecDepth 100000 in
theorem mX11_force (E : ZE) (hE : zOkE E) (l : Launch) (s0 : ZS) (a0 : Int) (a1 : Int) : Ct E l yX11_force cX11_force 3 (some .int) 2 [(2, a0), (0, a1)] 1 s0 (fX11_force s0 a0 a1) := by
  refine Ct.of (by decide) hE (Nat.le_of_ble_eq_true rfl) ?_
  intro X G hX hR hN hXE hXl hxn hk _
  subst hXE
  subst hXl
  have hX : G → ZOk X cX11_force RX11 2 := hX
  clear hN
  show Zj X G 0 [(0, (2, a0)), (1, (0, a1))] [] s0 _
  unfold fX11_force
  refine z_iload_n (pc := 0) hX 1 dX11_force_0 rfl rfl ?_
  refine z_if_lt (pc := 1) hX 12 dX11_force_1 (by decide) (fun h1 => ?_) (fun h1 => ?_)
  · refine z_bipush (pc := 12) hX dX11_force_12 ?_
    exact z_iret (pc := 14) hX hR hk dX11_force_14
  · refine z_iload_n (pc := 4) hX 1 dX11_force_4 rfl rfl ?_
    refine z_aload_n (pc := 5) hX 0 dX11_force_5 rfl rfl ?_
    refine z_get (pc := 6) hX zc11 6 (by decide) wd276 rfl rfl dX11_force_6 (fun v2 => ?_)
    refine z_icmp_lt (pc := 9) hX 15 dX11_force_9 (by decide) (fun h3 => ?_) (fun h3 => ?_)
    · refine z_aload_n (pc := 15) hX 0 dX11_force_15 rfl rfl ?_
      refine z_get (pc := 16) hX zc11 7 (by decide) wd277 rfl rfl dX11_force_16 (fun v4 => ?_)
      refine z_istore_n (lv' := [(2, (0, v4)), (0, (2, a0)), (1, (0, a1))]) (pc := 19) hX dX11_force_19 rfl (zlt hxn rfl) rfl ?_
      refine z_aload_n (pc := 20) hX 1 dX11_force_20 rfl rfl ?_
      refine z_iload_n (pc := 21) hX 2 dX11_force_21 rfl rfl ?_
      refine z_putA (pc := 22) hX zc11 7 (by decide) wd277 (Or.inl rfl) rfl rfl (fun _ => rfl) (fun _ => rfl) dX11_force_22 (fun s5 => ?_)
      refine z_iload_n (pc := 25) hX 0 dX11_force_25 rfl rfl ?_
      exact z_iret (pc := 26) hX hR hk dX11_force_26
    · refine z_bipush (pc := 12) hX dX11_force_12 ?_
      exact z_iret (pc := 14) hX hR hk dX11_force_14

theorem dX12_force_0 : decode cX12_force 0 = .ok (.iload_n 1, 1) := by decide +kernel
theorem dX12_force_1 : decode cX12_force 1 = .ok (.iconst 0, 1) := by decide +kernel
theorem dX12_force_2 : decode cX12_force 2 = .ok (.aload_n 0, 1) := by decide +kernel
theorem dX12_force_3 : decode cX12_force 3 = .ok (.getfield 46, 3) := by decide +kernel
theorem dX12_force_6 : decode cX12_force 6 = .ok (.iconst 1, 1) := by decide +kernel
theorem dX12_force_7 : decode cX12_force 7 = .ok (.isub, 1) := by decide +kernel
theorem dX12_force_8 : decode cX12_force 8 = .ok (.invokestatic 127, 3) := by decide +kernel
theorem dX12_force_11 : decode cX12_force 11 = .ok (.ifCond .ne 6, 3) := by decide +kernel
theorem dX12_force_14 : decode cX12_force 14 = .ok (.bipush (-2), 2) := by decide +kernel
theorem dX12_force_16 : decode cX12_force 16 = .ok (.ireturn, 1) := by decide +kernel
theorem dX12_force_17 : decode cX12_force 17 = .ok (.aload_n 0, 1) := by decide +kernel
theorem dX12_force_18 : decode cX12_force 18 = .ok (.getfield 207, 3) := by decide +kernel
theorem dX12_force_21 : decode cX12_force 21 = .ok (.istore_n 2, 1) := by decide +kernel
theorem dX12_force_22 : decode cX12_force 22 = .ok (.aload_n 0, 1) := by decide +kernel
theorem dX12_force_23 : decode cX12_force 23 = .ok (.iload_n 1, 1) := by decide +kernel
theorem dX12_force_24 : decode cX12_force 24 = .ok (.putfield 207, 3) := by decide +kernel
theorem dX12_force_27 : decode cX12_force 27 = .ok (.iload_n 2, 1) := by decide +kernel
theorem dX12_force_28 : decode cX12_force 28 = .ok (.ireturn, 1) := by decide +kernel
def fX12_force (s0 : ZS) (a0 : Int) (a1 : Int) : Option (Int × ZS) := (zg s0 12 a0 16).bind (fun v1 => zb (fX12_in s0 a1 0 (wrap (v1 - 1))) (fun v2 s3 => if v2 = 0 then (some ((-2), s3)) else ((zg s3 12 a0 17).bind (fun v6 => (zp s3 12 a0 17 a1).bind (fun s7 => some (v6, s7))))))
set_option maxHeartbeats 4000000 in
set_option maxRecDepth 100000 in
theorem mX12_force (E : ZE) (hE : zOkE E) (l : Launch) (s0 : ZS) (a0 : Int) (a1 : Int) : Ct E l yX12_force cX12_force 3 (some .int) 4 [(2, a0), (0, a1)] 1 s0 (fX12_force s0 a0 a1) := by
  refine Ct.of (by decide) hE (Nat.le_of_ble_eq_true rfl) ?_
  intro X G hX hR hN hXE hXl hxn hk _
  subst hXE
  subst hXl
  have hX : G → ZOk X cX12_force RX12 4 := hX
  clear hN
  show Zj X G 0 [(0, (2, a0)), (1, (0, a1))] [] s0 _
  unfold fX12_force
  refine z_iload_n (pc := 0) hX 1 dX12_force_0 rfl rfl ?_
  refine z_iconst (pc := 1) hX dX12_force_1 ?_
  refine z_aload_n (pc := 2) hX 0 dX12_force_2 rfl rfl ?_
  refine z_get (pc := 3) hX zc12 16 (by decide) wd1033 rfl rfl dX12_force_3 (fun v1 => ?_)
  refine z_iconst (pc := 6) hX dX12_force_6 ?_
  refine z_isub (pc := 7) hX dX12_force_7 ?_
  refine z_callS (n := 3) (st := []) (pc := 8) hX (mX12_in _ hE _ _ _ _ _) ⟨wd1173, wd67, wd1175, ⟨by decide, by decide, by decide⟩, by decide⟩ wd1174 rfl rfl (by decide) (Nat.le_of_ble_eq_true rfl) dX12_force_8 (fun v2 s3 r4 => ?_)
  show Zj X G 11 [(0, (2, a0)), (1, (0, a1))] [(0, v2)] _ _
  refine z_if_ne (pc := 11) hX 17 dX12_force_11 (by decide) (fun h5 => ?_) (fun h5 => ?_)
  · refine z_aload_n (pc := 17) hX 0 dX12_force_17 rfl rfl ?_
    refine z_get (pc := 18) hX zc12 17 (by decide) wd1034 rfl rfl dX12_force_18 (fun v6 => ?_)
    refine z_istore_n (lv' := [(2, (0, v6)), (0, (2, a0)), (1, (0, a1))]) (pc := 21) hX dX12_force_21 rfl (zlt hxn rfl) rfl ?_
    refine z_aload_n (pc := 22) hX 1 dX12_force_22 rfl rfl ?_
    refine z_iload_n (pc := 23) hX 2 dX12_force_23 rfl rfl ?_
    refine z_putA (pc := 24) hX zc12 17 (by decide) wd1034 (Or.inl rfl) rfl rfl (fun _ => rfl) (fun _ => rfl) dX12_force_24 (fun s7 => ?_)
    refine z_iload_n (pc := 27) hX 0 dX12_force_27 rfl rfl ?_
    exact z_iret (pc := 28) hX hR hk dX12_force_28
  · refine z_bipush (pc := 14) hX dX12_force_14 ?_
    exact z_iret (pc := 16) hX hR hk dX12_force_16

theorem dX11_isSheet_0 : decode cX11_isSheet 0 = .ok (.iload_n 0, 1) := by decide +kernel
theorem dX11_isSheet_1 : decode cX11_isSheet 1 = .ok (.iconst 3, 1) := by decide +kernel
theorem dX11_isSheet_2 : decode cX11_isSheet 2 = .ok (.invokestatic 102, 3) := by decide +kernel
theorem dX11_isSheet_5 : decode cX11_isSheet 5 = .ok (.ireturn, 1) := by decide +kernel
def fX11_isSheet (s0 : ZS) (a0 : Int) : Option (Int × ZS) := zb (fX11_within s0 a0 3) (fun v1 s2 => some (v1, s2))
set_option maxHeartbeats 4000000 in
set_option maxRecDepth 100000 in
theorem mX11_isSheet (E : ZE) (hE : zOkE E) (l : Launch) (s0 : ZS) (a0 : Int) : Ct E l yX11_isSheet cX11_isSheet 1 (some .boolean) 4 [(0, a0)] 4 s0 (fX11_isSheet s0 a0) := by
  refine Ct.of (by decide) hE (Nat.le_of_ble_eq_true rfl) ?_
  intro X G hX hR hN hXE hXl hxn hk _
  subst hXE
  subst hXl
  have hX : G → ZOk X cX11_isSheet RX11 4 := hX
  clear hN
  show Zj X G 0 [(0, (0, a0))] [] s0 _
  unfold fX11_isSheet
  refine z_iload_n (pc := 0) hX 0 dX11_isSheet_0 rfl rfl ?_
  refine z_iconst (pc := 1) hX dX11_isSheet_1 ?_
  refine z_callS (n := 2) (st := []) (pc := 2) hX (mX11_within _ hE _ _ _ _) ⟨wd329, wd61, wd331, ⟨by decide, by decide, by decide⟩, by decide⟩ wd330 rfl rfl (by decide) (Nat.le_of_ble_eq_true rfl) dX11_isSheet_2 (fun v1 s2 r3 => ?_)
  show Zj X G 5 [(0, (0, a0))] [(0, v1)] _ _
  exact z_zret (pc := 5) hX hR hk dX11_isSheet_5 r3

theorem dX6_isMissing_0 : decode cX6_isMissing 0 = .ok (.aload_n 0, 1) := by decide +kernel
theorem dX6_isMissing_1 : decode cX6_isMissing 1 = .ok (.getfield 15, 3) := by decide +kernel
theorem dX6_isMissing_4 : decode cX6_isMissing 4 = .ok (.iconst (-1), 1) := by decide +kernel
theorem dX6_isMissing_5 : decode cX6_isMissing 5 = .ok (.if_icmp .ne 7, 3) := by decide +kernel
theorem dX6_isMissing_8 : decode cX6_isMissing 8 = .ok (.iconst 1, 1) := by decide +kernel
theorem dX6_isMissing_9 : decode cX6_isMissing 9 = .ok (.goto 4, 3) := by decide +kernel
theorem dX6_isMissing_12 : decode cX6_isMissing 12 = .ok (.iconst 0, 1) := by decide +kernel
theorem dX6_isMissing_13 : decode cX6_isMissing 13 = .ok (.ireturn, 1) := by decide +kernel
def fX6_isMissing (s0 : ZS) (a0 : Int) : Option (Int × ZS) := (zg s0 6 a0 1).bind (fun v1 => if v1 = (-1) then (some (1, s0)) else (some (0, s0)))
set_option maxHeartbeats 4000000 in
set_option maxRecDepth 100000 in
theorem mX6_isMissing (E : ZE) (hE : zOkE E) (l : Launch) (s0 : ZS) (a0 : Int) : Ct E l yX6_isMissing cX6_isMissing 1 (some .boolean) 2 [(2, a0)] 4 s0 (fX6_isMissing s0 a0) := by
  refine Ct.of (by decide) hE (Nat.le_of_ble_eq_true rfl) ?_
  intro X G hX hR hN hXE hXl hxn hk _
  subst hXE
  subst hXl
  have hX : G → ZOk X cX6_isMissing RX6 2 := hX
  clear hN
  show Zj X G 0 [(0, (2, a0))] [] s0 _
  unfold fX6_isMissing
  refine z_aload_n (pc := 0) hX 0 dX6_isMissing_0 rfl rfl ?_
  refine z_get (pc := 1) hX zc6 1 (by decide) wd259 rfl rfl dX6_isMissing_1 (fun v1 => ?_)
  refine z_iconst (pc := 4) hX dX6_isMissing_4 ?_
  refine z_icmp_ne (pc := 5) hX 12 dX6_isMissing_5 (by decide) (fun h2 => ?_) (fun h2 => ?_)
  · refine z_iconst (pc := 12) hX dX6_isMissing_12 ?_
    exact z_zret (pc := 13) hX hR hk dX6_isMissing_13 (Or.inl rfl)
  · refine z_iconst (pc := 8) hX dX6_isMissing_8 ?_
    refine z_goto (pc := 9) hX 13 dX6_isMissing_9 (by decide) ?_
    exact z_zret (pc := 13) hX hR hk dX6_isMissing_13 (Or.inr rfl)

theorem dX11_holdsChoices_0 : decode cX11_holdsChoices 0 = .ok (.iconst 0, 1) := by decide +kernel
theorem dX11_holdsChoices_1 : decode cX11_holdsChoices 1 = .ok (.istore_n 1, 1) := by decide +kernel
theorem dX11_holdsChoices_2 : decode cX11_holdsChoices 2 = .ok (.iload_n 1, 1) := by decide +kernel
theorem dX11_holdsChoices_3 : decode cX11_holdsChoices 3 = .ok (.aload_n 0, 1) := by decide +kernel
theorem dX11_holdsChoices_4 : decode cX11_holdsChoices 4 = .ok (.getfield 155, 3) := by decide +kernel
theorem dX11_holdsChoices_7 : decode cX11_holdsChoices 7 = .ok (.if_icmp .ge 25, 3) := by decide +kernel
theorem dX11_holdsChoices_10 : decode cX11_holdsChoices 10 = .ok (.aload_n 0, 1) := by decide +kernel
theorem dX11_holdsChoices_11 : decode cX11_holdsChoices 11 = .ok (.getfield 164, 3) := by decide +kernel
theorem dX11_holdsChoices_14 : decode cX11_holdsChoices 14 = .ok (.iload_n 1, 1) := by decide +kernel
theorem dX11_holdsChoices_15 : decode cX11_holdsChoices 15 = .ok (.iaload, 1) := by decide +kernel
theorem dX11_holdsChoices_16 : decode cX11_holdsChoices 16 = .ok (.bipush 48, 2) := by decide +kernel
theorem dX11_holdsChoices_18 : decode cX11_holdsChoices 18 = .ok (.invokestatic 102, 3) := by decide +kernel
theorem dX11_holdsChoices_21 : decode cX11_holdsChoices 21 = .ok (.ifCond .ne 5, 3) := by decide +kernel
theorem dX11_holdsChoices_24 : decode cX11_holdsChoices 24 = .ok (.iconst 0, 1) := by decide +kernel
theorem dX11_holdsChoices_25 : decode cX11_holdsChoices 25 = .ok (.ireturn, 1) := by decide +kernel
theorem dX11_holdsChoices_26 : decode cX11_holdsChoices 26 = .ok (.iinc 1 1, 3) := by decide +kernel
theorem dX11_holdsChoices_29 : decode cX11_holdsChoices 29 = .ok (.goto (-27), 3) := by decide +kernel
theorem dX11_holdsChoices_32 : decode cX11_holdsChoices 32 = .ok (.iconst 1, 1) := by decide +kernel
theorem dX11_holdsChoices_33 : decode cX11_holdsChoices 33 = .ok (.ireturn, 1) := by decide +kernel
def lX11_holdsChoices_2 (u2 : Int)  : Nat → ZS → Int → Option (Int × ZS)
  | 0, _, _ => none
  | n1 + 1, s1, x3 => (zg s1 6 u2 2).bind (fun v4 => if v4 ≤ x3 then (some (1, s1)) else ((zg s1 6 u2 0).bind (fun v6 => (zal s1 100 v6 x3).bind (fun v7 => zb (fX11_within s1 v7 48) (fun v8 s9 => if v8 = 0 then (some (0, s9)) else (lX11_holdsChoices_2 u2 n1 s9 (wrap (x3 + 1))))))))

def fX11_holdsChoices (s0 : ZS) (a0 : Int) : Option (Int × ZS) := lX11_holdsChoices_2 a0 1000 s0 0
set_option maxHeartbeats 4000000 in
set_option maxRecDepth 100000 in
theorem mX11_holdsChoices (E : ZE) (hE : zOkE E) (l : Launch) (s0 : ZS) (a0 : Int) : Ct E l yX11_holdsChoices cX11_holdsChoices 2 (some .boolean) 4 [(2, a0)] 4 s0 (fX11_holdsChoices s0 a0) := by
  refine Ct.of (by decide) hE (Nat.le_of_ble_eq_true rfl) ?_
  intro X G hX hR hN hXE hXl hxn hk _
  subst hXE
  subst hXl
  have hX : G → ZOk X cX11_holdsChoices RX11 4 := hX
  clear hN
  show Zj X G 0 [(0, (2, a0))] [] s0 _
  unfold fX11_holdsChoices
  refine z_iconst (pc := 0) hX dX11_holdsChoices_0 ?_
  refine z_istore_n (lv' := [(1, (0, 0)), (0, (2, a0))]) (pc := 1) hX dX11_holdsChoices_1 rfl (zlt hxn rfl) rfl ?_
  have hl2 : ∀ (u2 : Int), ∀ (n1 : Nat) (s1 : ZS) (x3 : Int), Zj X G 2 [(0, (2, u2)), (1, (0, x3))] [] s1 (lX11_holdsChoices_2 u2 n1 s1 x3) := by
    intro u2 n1
    induction n1 with
    | zero => intro _ _; exact z_none
    | succ n1 ih1 =>
      intro s1 x3
      rw [lX11_holdsChoices_2]
      refine z_iload_n (pc := 2) hX 1 dX11_holdsChoices_2 rfl rfl ?_
      refine z_aload_n (pc := 3) hX 0 dX11_holdsChoices_3 rfl rfl ?_
      refine z_get (pc := 4) hX zc6 2 (by decide) wd262 rfl rfl dX11_holdsChoices_4 (fun v4 => ?_)
      refine z_icmp_ge (pc := 7) hX 32 dX11_holdsChoices_7 (by decide) (fun h5 => ?_) (fun h5 => ?_)
      · refine z_iconst (pc := 32) hX dX11_holdsChoices_32 ?_
        exact z_zret (pc := 33) hX hR hk dX11_holdsChoices_33 (Or.inr rfl)
      · refine z_aload_n (pc := 10) hX 0 dX11_holdsChoices_10 rfl rfl ?_
        refine z_get (pc := 11) hX zc6 0 (by decide) wd258 rfl rfl dX11_holdsChoices_11 (fun v6 => ?_)
        refine z_iload_n (pc := 14) hX 1 dX11_holdsChoices_14 rfl rfl ?_
        refine z_iald (pc := 15) hX dX11_holdsChoices_15 (fun v7 => ?_)
        refine z_bipush (pc := 16) hX dX11_holdsChoices_16 ?_
        refine z_callS (n := 2) (st := []) (pc := 18) hX (mX11_within _ hE _ _ _ _) ⟨wd329, wd61, wd331, ⟨by decide, by decide, by decide⟩, by decide⟩ wd330 rfl rfl (by decide) (Nat.le_of_ble_eq_true rfl) dX11_holdsChoices_18 (fun v8 s9 r10 => ?_)
        show Zj X G 21 [(0, (2, u2)), (1, (0, x3))] [(0, v8)] _ _
        refine z_if_ne (pc := 21) hX 26 dX11_holdsChoices_21 (by decide) (fun h11 => ?_) (fun h11 => ?_)
        · refine z_iinc (lv' := [(1, (0, (wrap (x3 + 1)))), (0, (2, u2))]) (pc := 26) hX 1 dX11_holdsChoices_26 rfl (zlt hxn rfl) rfl ?_
          refine z_goto (pc := 29) hX 2 dX11_holdsChoices_29 (by decide) ?_
          refine z_pick (lv' := [(0, (2, u2)), (1, (0, (wrap (x3 + 1))))]) [1, 0] rfl ?_
          exact ih1 _ _
        · refine z_iconst (pc := 24) hX dX11_holdsChoices_24 ?_
          exact z_zret (pc := 25) hX hR hk dX11_holdsChoices_25 (Or.inl rfl)
  refine z_pick (lv' := [(0, (2, a0)), (1, (0, 0))]) [1, 0] rfl ?_
  refine hl2 _ 1000 _ _

theorem dX10_init_0 : decode cX10_init 0 = .ok (.aload_n 0, 1) := by decide +kernel
theorem dX10_init_1 : decode cX10_init 1 = .ok (.invokespecial 3, 3) := by decide +kernel
theorem dX10_init_4 : decode cX10_init 4 = .ok (.aload_n 0, 1) := by decide +kernel
theorem dX10_init_5 : decode cX10_init 5 = .ok (.bipush 16, 2) := by decide +kernel
theorem dX10_init_7 : decode cX10_init 7 = .ok (.newarray .int, 2) := by decide +kernel
theorem dX10_init_9 : decode cX10_init 9 = .ok (.putfield 9, 3) := by decide +kernel
theorem dX10_init_12 : decode cX10_init 12 = .ok (.aload_n 0, 1) := by decide +kernel
theorem dX10_init_13 : decode cX10_init 13 = .ok (.bipush 16, 2) := by decide +kernel
theorem dX10_init_15 : decode cX10_init 15 = .ok (.newarray .int, 2) := by decide +kernel
theorem dX10_init_17 : decode cX10_init 17 = .ok (.putfield 15, 3) := by decide +kernel
theorem dX10_init_20 : decode cX10_init 20 = .ok (.aload_n 0, 1) := by decide +kernel
theorem dX10_init_21 : decode cX10_init 21 = .ok (.iload_n 1, 1) := by decide +kernel
theorem dX10_init_22 : decode cX10_init 22 = .ok (.putfield 18, 3) := by decide +kernel
theorem dX10_init_25 : decode cX10_init 25 = .ok (.return_, 1) := by decide +kernel
def fX10_init (s0 : ZS) (a0 : Int) (a1 : Int) : Option (Int × ZS) := if a0 < 0 then none else ((zna s0 100 16).bind (fun s1 => (zpw s1 a0 1 (sN s0 : Int)).bind (fun s2 => (zna s2 100 16).bind (fun s3 => (zpw s3 a0 2 (sN s2 : Int)).bind (fun s4 => (zpw s4 a0 0 a1).bind (fun s5 => some (0, s5)))))))
set_option maxHeartbeats 4000000 in
set_option maxRecDepth 100000 in
theorem mX10_init (E : ZE) (hE : zOkE E) (l : Launch) (s0 : ZS) (a0 : Int) (a1 : Int) : Ct E l yX10_init cX10_init 2 none 2 [(2, a0), (0, a1)] 0 s0 (fX10_init s0 a0 a1) := by
  refine Ct.of (by decide) hE (Nat.le_of_ble_eq_true rfl) ?_
  intro X G hX hR hN hXE hXl hxn hk _
  subst hXE
  subst hXl
  have hX : G → ZOk X cX10_init RX10 2 := hX
  have hN : G → (xM X).name = "<init>" := hN
  show Zj X G 0 [(0, (2, a0)), (1, (0, a1))] [] s0 _
  unfold fX10_init
  refine z_aload_n (pc := 0) hX 0 dX10_init_0 rfl rfl ?_
  refine z_objInit (pc := 1) hX (by decide) wd614 wd89 wd90 (Nat.le_of_ble_eq_true rfl) dX10_init_1 ?_
  refine z_aload_n (pc := 4) hX 0 dX10_init_4 rfl rfl ?_
  refine z_bipush (pc := 5) hX dX10_init_5 ?_
  refine z_newIA (pc := 7) hX dX10_init_7 wd149 (fun s1 => ?_)
  refine z_putwA (pc := 9) hX zc10 zc9 zc3 zc0 zc1 zc7 1 (by decide) wd618 rfl rfl rfl rfl rfl rfl hN rfl rfl rfl rfl rfl rfl rfl rfl (fun _ => rfl) (fun r => zfit_arr _ r _) dX10_init_9 (fun s2 => ?_)
  refine z_aload_n (pc := 12) hX 0 dX10_init_12 rfl rfl ?_
  refine z_bipush (pc := 13) hX dX10_init_13 ?_
  refine z_newIA (pc := 15) hX dX10_init_15 wd149 (fun s3 => ?_)
  refine z_putwA (pc := 17) hX zc10 zc9 zc3 zc0 zc1 zc7 2 (by decide) wd621 rfl rfl rfl rfl rfl rfl hN rfl rfl rfl rfl rfl rfl rfl rfl (fun _ => rfl) (fun r => zfit_arr _ r _) dX10_init_17 (fun s4 => ?_)
  refine z_aload_n (pc := 20) hX 0 dX10_init_20 rfl rfl ?_
  refine z_iload_n (pc := 21) hX 1 dX10_init_21 rfl rfl ?_
  refine z_putwA (pc := 22) hX zc10 zc9 zc3 zc0 zc1 zc7 0 (by decide) wd615 rfl rfl rfl rfl rfl rfl hN rfl rfl rfl rfl rfl rfl rfl rfl (fun _ => rfl) (fun _ => rfl) dX10_init_22 (fun s5 => ?_)
  exact z_vret (pc := 25) hX hR hk dX10_init_25

theorem dX9_init_0 : decode cX9_init 0 = .ok (.aload_n 0, 1) := by decide +kernel
theorem dX9_init_1 : decode cX9_init 1 = .ok (.iload_n 1, 1) := by decide +kernel
theorem dX9_init_2 : decode cX9_init 2 = .ok (.invokespecial 1, 3) := by decide +kernel
theorem dX9_init_5 : decode cX9_init 5 = .ok (.return_, 1) := by decide +kernel
def fX9_init (s0 : ZS) (a0 : Int) (a1 : Int) : Option (Int × ZS) := if a0 < 0 then none else (zb (fX10_init s0 a0 a1) (fun v1 s2 => some (0, s2)))
set_option maxHeartbeats 4000000 in
set_option maxRecDepth 100000 in
theorem mX9_init (E : ZE) (hE : zOkE E) (l : Launch) (s0 : ZS) (a0 : Int) (a1 : Int) : Ct E l yX9_init cX9_init 2 none 4 [(2, a0), (0, a1)] 0 s0 (fX9_init s0 a0 a1) := by
  refine Ct.of (by decide) hE (Nat.le_of_ble_eq_true rfl) ?_
  intro X G hX hR hN hXE hXl hxn hk _
  subst hXE
  subst hXl
  have hX : G → ZOk X cX9_init RX9 4 := hX
  have hN : G → (xM X).name = "<init>" := hN
  show Zj X G 0 [(0, (2, a0)), (1, (0, a1))] [] s0 _
  unfold fX9_init
  refine z_aload_n (pc := 0) hX 0 dX9_init_0 rfl rfl ?_
  refine z_iload_n (pc := 1) hX 1 dX9_init_1 rfl rfl ?_
  refine z_callI (n := 1) (st := []) (pc := 2) hX rfl (mX10_init _ hE _ _ _ _) ⟨wd611, wd76, wd613, ⟨by decide, by decide, by decide⟩, by decide⟩ rfl wd612 rfl rfl (by decide) (Nat.le_of_ble_eq_true rfl) dX9_init_2 (fun v1 s2 r3 => ?_)
  show Zj X G 5 [(0, (2, a0)), (1, (0, a1))] [] _ _
  exact z_vret (pc := 5) hX hR hk dX9_init_5

theorem dX3_init_0 : decode cX3_init 0 = .ok (.aload_n 0, 1) := by decide +kernel
theorem dX3_init_1 : decode cX3_init 1 = .ok (.iload_n 1, 1) := by decide +kernel
theorem dX3_init_2 : decode cX3_init 2 = .ok (.invokespecial 1, 3) := by decide +kernel
theorem dX3_init_5 : decode cX3_init 5 = .ok (.return_, 1) := by decide +kernel
def fX3_init (s0 : ZS) (a0 : Int) (a1 : Int) : Option (Int × ZS) := if a0 < 0 then none else (zb (fX10_init s0 a0 a1) (fun v1 s2 => some (0, s2)))
set_option maxHeartbeats 4000000 in
set_option maxRecDepth 100000 in
theorem mX3_init (E : ZE) (hE : zOkE E) (l : Launch) (s0 : ZS) (a0 : Int) (a1 : Int) : Ct E l yX3_init cX3_init 2 none 4 [(2, a0), (0, a1)] 0 s0 (fX3_init s0 a0 a1) := by
  refine Ct.of (by decide) hE (Nat.le_of_ble_eq_true rfl) ?_
  intro X G hX hR hN hXE hXl hxn hk _
  subst hXE
  subst hXl
  have hX : G → ZOk X cX3_init RX3 4 := hX
  have hN : G → (xM X).name = "<init>" := hN
  show Zj X G 0 [(0, (2, a0)), (1, (0, a1))] [] s0 _
  unfold fX3_init
  refine z_aload_n (pc := 0) hX 0 dX3_init_0 rfl rfl ?_
  refine z_iload_n (pc := 1) hX 1 dX3_init_1 rfl rfl ?_
  refine z_callI (n := 1) (st := []) (pc := 2) hX rfl (mX10_init _ hE _ _ _ _) ⟨wd635, wd76, wd613, ⟨by decide, by decide, by decide⟩, by decide⟩ rfl wd612 rfl rfl (by decide) (Nat.le_of_ble_eq_true rfl) dX3_init_2 (fun v1 s2 r3 => ?_)
  show Zj X G 5 [(0, (2, a0)), (1, (0, a1))] [] _ _
  exact z_vret (pc := 5) hX hR hk dX3_init_5

theorem dX0_init_0 : decode cX0_init 0 = .ok (.aload_n 0, 1) := by decide +kernel
theorem dX0_init_1 : decode cX0_init 1 = .ok (.iload_n 1, 1) := by decide +kernel
theorem dX0_init_2 : decode cX0_init 2 = .ok (.invokespecial 1, 3) := by decide +kernel
theorem dX0_init_5 : decode cX0_init 5 = .ok (.return_, 1) := by decide +kernel
def fX0_init (s0 : ZS) (a0 : Int) (a1 : Int) : Option (Int × ZS) := if a0 < 0 then none else (zb (fX3_init s0 a0 a1) (fun v1 s2 => some (0, s2)))
set_option maxHeartbeats 4000000 in
set_option maxRecDepth 100000 in
theorem mX0_init (E : ZE) (hE : zOkE E) (l : Launch) (s0 : ZS) (a0 : Int) (a1 : Int) : Ct E l yX0_init cX0_init 2 none 6 [(2, a0), (0, a1)] 0 s0 (fX0_init s0 a0 a1) := by
  refine Ct.of (by decide) hE (Nat.le_of_ble_eq_true rfl) ?_
  intro X G hX hR hN hXE hXl hxn hk _
  subst hXE
  subst hXl
  have hX : G → ZOk X cX0_init RX0 6 := hX
  have hN : G → (xM X).name = "<init>" := hN
  show Zj X G 0 [(0, (2, a0)), (1, (0, a1))] [] s0 _
  unfold fX0_init
  refine z_aload_n (pc := 0) hX 0 dX0_init_0 rfl rfl ?_
  refine z_iload_n (pc := 1) hX 1 dX0_init_1 rfl rfl ?_
  refine z_callI (n := 1) (st := []) (pc := 2) hX rfl (mX3_init _ hE _ _ _ _) ⟨wd645, wd78, wd634, ⟨by decide, by decide, by decide⟩, by decide⟩ rfl wd633 rfl rfl (by decide) (Nat.le_of_ble_eq_true rfl) dX0_init_2 (fun v1 s2 r3 => ?_)
  show Zj X G 5 [(0, (2, a0)), (1, (0, a1))] [] _ _
  exact z_vret (pc := 5) hX hR hk dX0_init_5

theorem dX1_init_0 : decode cX1_init 0 = .ok (.aload_n 0, 1) := by decide +kernel
theorem dX1_init_1 : decode cX1_init 1 = .ok (.iload_n 1, 1) := by decide +kernel
theorem dX1_init_2 : decode cX1_init 2 = .ok (.invokespecial 1, 3) := by decide +kernel
theorem dX1_init_5 : decode cX1_init 5 = .ok (.return_, 1) := by decide +kernel
def fX1_init (s0 : ZS) (a0 : Int) (a1 : Int) : Option (Int × ZS) := if a0 < 0 then none else (zb (fX10_init s0 a0 a1) (fun v1 s2 => some (0, s2)))
set_option maxHeartbeats 4000000 in
set_option maxRecDepth 100000 in
theorem mX1_init (E : ZE) (hE : zOkE E) (l : Launch) (s0 : ZS) (a0 : Int) (a1 : Int) : Ct E l yX1_init cX1_init 2 none 4 [(2, a0), (0, a1)] 0 s0 (fX1_init s0 a0 a1) := by
  refine Ct.of (by decide) hE (Nat.le_of_ble_eq_true rfl) ?_
  intro X G hX hR hN hXE hXl hxn hk _
  subst hXE
  subst hXl
  have hX : G → ZOk X cX1_init RX1 4 := hX
  have hN : G → (xM X).name = "<init>" := hN
  show Zj X G 0 [(0, (2, a0)), (1, (0, a1))] [] s0 _
  unfold fX1_init
  refine z_aload_n (pc := 0) hX 0 dX1_init_0 rfl rfl ?_
  refine z_iload_n (pc := 1) hX 1 dX1_init_1 rfl rfl ?_
  refine z_callI (n := 1) (st := []) (pc := 2) hX rfl (mX10_init _ hE _ _ _ _) ⟨wd655, wd76, wd613, ⟨by decide, by decide, by decide⟩, by decide⟩ rfl wd612 rfl rfl (by decide) (Nat.le_of_ble_eq_true rfl) dX1_init_2 (fun v1 s2 r3 => ?_)
  show Zj X G 5 [(0, (2, a0)), (1, (0, a1))] [] _ _
  exact z_vret (pc := 5) hX hR hk dX1_init_5

theorem dX7_init_0 : decode cX7_init 0 = .ok (.aload_n 0, 1) := by decide +kernel
theorem dX7_init_1 : decode cX7_init 1 = .ok (.iload_n 1, 1) := by decide +kernel
theorem dX7_init_2 : decode cX7_init 2 = .ok (.invokespecial 1, 3) := by decide +kernel
theorem dX7_init_5 : decode cX7_init 5 = .ok (.return_, 1) := by decide +kernel
def fX7_init (s0 : ZS) (a0 : Int) (a1 : Int) : Option (Int × ZS) := if a0 < 0 then none else (zb (fX9_init s0 a0 a1) (fun v1 s2 => some (0, s2)))
set_option maxHeartbeats 4000000 in
set_option maxRecDepth 100000 in
theorem mX7_init (E : ZE) (hE : zOkE E) (l : Launch) (s0 : ZS) (a0 : Int) (a1 : Int) : Ct E l yX7_init cX7_init 2 none 6 [(2, a0), (0, a1)] 0 s0 (fX7_init s0 a0 a1) := by
  refine Ct.of (by decide) hE (Nat.le_of_ble_eq_true rfl) ?_
  intro X G hX hR hN hXE hXl hxn hk _
  subst hXE
  subst hXl
  have hX : G → ZOk X cX7_init RX7 6 := hX
  have hN : G → (xM X).name = "<init>" := hN
  show Zj X G 0 [(0, (2, a0)), (1, (0, a1))] [] s0 _
  unfold fX7_init
  refine z_aload_n (pc := 0) hX 0 dX7_init_0 rfl rfl ?_
  refine z_iload_n (pc := 1) hX 1 dX7_init_1 rfl rfl ?_
  refine z_callI (n := 1) (st := []) (pc := 2) hX rfl (mX9_init _ hE _ _ _ _) ⟨wd665, wd77, wd610, ⟨by decide, by decide, by decide⟩, by decide⟩ rfl wd609 rfl rfl (by decide) (Nat.le_of_ble_eq_true rfl) dX7_init_2 (fun v1 s2 r3 => ?_)
  show Zj X G 5 [(0, (2, a0)), (1, (0, a1))] [] _ _
  exact z_vret (pc := 5) hX hR hk dX7_init_5
