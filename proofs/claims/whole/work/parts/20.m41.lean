theorem dX12_sheet_0 : decode cX12_sheet 0 = .ok (.iload_n 1, 1) := by decide +kernel
theorem dX12_sheet_1 : decode cX12_sheet 1 = .ok (.iconst 0, 1) := by decide +kernel
theorem dX12_sheet_2 : decode cX12_sheet 2 = .ok (.iconst 3, 1) := by decide +kernel
theorem dX12_sheet_3 : decode cX12_sheet 3 = .ok (.invokestatic 127, 3) := by decide +kernel
theorem dX12_sheet_6 : decode cX12_sheet 6 = .ok (.ifCond .eq 23, 3) := by decide +kernel
theorem dX12_sheet_9 : decode cX12_sheet 9 = .ok (.iload_n 2, 1) := by decide +kernel
theorem dX12_sheet_10 : decode cX12_sheet 10 = .ok (.iconst (-1), 1) := by decide +kernel
theorem dX12_sheet_11 : decode cX12_sheet 11 = .ok (.iconst 2, 1) := by decide +kernel
theorem dX12_sheet_12 : decode cX12_sheet 12 = .ok (.invokestatic 127, 3) := by decide +kernel
theorem dX12_sheet_15 : decode cX12_sheet 15 = .ok (.ifCond .eq 14, 3) := by decide +kernel
theorem dX12_sheet_18 : decode cX12_sheet 18 = .ok (.iload_n 2, 1) := by decide +kernel
theorem dX12_sheet_19 : decode cX12_sheet 19 = .ok (.iconst (-1), 1) := by decide +kernel
theorem dX12_sheet_20 : decode cX12_sheet 20 = .ok (.if_icmp .eq 12, 3) := by decide +kernel
theorem dX12_sheet_23 : decode cX12_sheet 23 = .ok (.iload_n 3, 1) := by decide +kernel
theorem dX12_sheet_24 : decode cX12_sheet 24 = .ok (.bipush 40, 2) := by decide +kernel
theorem dX12_sheet_26 : decode cX12_sheet 26 = .ok (.if_icmp .le 6, 3) := by decide +kernel
theorem dX12_sheet_29 : decode cX12_sheet 29 = .ok (.bipush (-2), 2) := by decide +kernel
theorem dX12_sheet_31 : decode cX12_sheet 31 = .ok (.ireturn, 1) := by decide +kernel
theorem dX12_sheet_32 : decode cX12_sheet 32 = .ok (.iload_n 2, 1) := by decide +kernel
theorem dX12_sheet_33 : decode cX12_sheet 33 = .ok (.iconst (-1), 1) := by decide +kernel
theorem dX12_sheet_34 : decode cX12_sheet 34 = .ok (.if_icmp .eq 10, 3) := by decide +kernel
theorem dX12_sheet_37 : decode cX12_sheet 37 = .ok (.iload_n 3, 1) := by decide +kernel
theorem dX12_sheet_38 : decode cX12_sheet 38 = .ok (.ifCond .ge 6, 3) := by decide +kernel
theorem dX12_sheet_41 : decode cX12_sheet 41 = .ok (.bipush (-14), 2) := by decide +kernel
theorem dX12_sheet_43 : decode cX12_sheet 43 = .ok (.ireturn, 1) := by decide +kernel
theorem dX12_sheet_44 : decode cX12_sheet 44 = .ok (.aload_n 0, 1) := by decide +kernel
theorem dX12_sheet_45 : decode cX12_sheet 45 = .ok (.getfield 62, 3) := by decide +kernel
theorem dX12_sheet_48 : decode cX12_sheet 48 = .ok (.iload_n 1, 1) := by decide +kernel
theorem dX12_sheet_49 : decode cX12_sheet 49 = .ok (.iload_n 2, 1) := by decide +kernel
theorem dX12_sheet_50 : decode cX12_sheet 50 = .ok (.iastore, 1) := by decide +kernel
theorem dX12_sheet_51 : decode cX12_sheet 51 = .ok (.aload_n 0, 1) := by decide +kernel
theorem dX12_sheet_52 : decode cX12_sheet 52 = .ok (.getfield 65, 3) := by decide +kernel
theorem dX12_sheet_55 : decode cX12_sheet 55 = .ok (.iload_n 1, 1) := by decide +kernel
theorem dX12_sheet_56 : decode cX12_sheet 56 = .ok (.iload_n 2, 1) := by decide +kernel
theorem dX12_sheet_57 : decode cX12_sheet 57 = .ok (.iconst (-1), 1) := by decide +kernel
theorem dX12_sheet_58 : decode cX12_sheet 58 = .ok (.if_icmp .ne 7, 3) := by decide +kernel
theorem dX12_sheet_61 : decode cX12_sheet 61 = .ok (.iconst 0, 1) := by decide +kernel
theorem dX12_sheet_62 : decode cX12_sheet 62 = .ok (.goto 4, 3) := by decide +kernel
theorem dX12_sheet_65 : decode cX12_sheet 65 = .ok (.iload_n 3, 1) := by decide +kernel
theorem dX12_sheet_66 : decode cX12_sheet 66 = .ok (.iastore, 1) := by decide +kernel
theorem dX12_sheet_67 : decode cX12_sheet 67 = .ok (.iconst 0, 1) := by decide +kernel
theorem dX12_sheet_68 : decode cX12_sheet 68 = .ok (.istore 4, 2) := by decide +kernel
theorem dX12_sheet_70 : decode cX12_sheet 70 = .ok (.iload 4, 2) := by decide +kernel
theorem dX12_sheet_72 : decode cX12_sheet 72 = .ok (.bipush 40, 2) := by decide +kernel
theorem dX12_sheet_74 : decode cX12_sheet 74 = .ok (.if_icmp .ge 22, 3) := by decide +kernel
theorem dX12_sheet_77 : decode cX12_sheet 77 = .ok (.aload_n 0, 1) := by decide +kernel
theorem dX12_sheet_78 : decode cX12_sheet 78 = .ok (.getfield 68, 3) := by decide +kernel
theorem dX12_sheet_81 : decode cX12_sheet 81 = .ok (.bipush 40, 2) := by decide +kernel
theorem dX12_sheet_83 : decode cX12_sheet 83 = .ok (.iload_n 1, 1) := by decide +kernel
theorem dX12_sheet_84 : decode cX12_sheet 84 = .ok (.imul, 1) := by decide +kernel
theorem dX12_sheet_85 : decode cX12_sheet 85 = .ok (.iload 4, 2) := by decide +kernel
theorem dX12_sheet_87 : decode cX12_sheet 87 = .ok (.iadd, 1) := by decide +kernel
theorem dX12_sheet_88 : decode cX12_sheet 88 = .ok (.iconst 0, 1) := by decide +kernel
theorem dX12_sheet_89 : decode cX12_sheet 89 = .ok (.iastore, 1) := by decide +kernel
theorem dX12_sheet_90 : decode cX12_sheet 90 = .ok (.iinc 4 1, 3) := by decide +kernel
theorem dX12_sheet_93 : decode cX12_sheet 93 = .ok (.goto (-23), 3) := by decide +kernel
theorem dX12_sheet_96 : decode cX12_sheet 96 = .ok (.iconst 1, 1) := by decide +kernel
theorem dX12_sheet_97 : decode cX12_sheet 97 = .ok (.ireturn, 1) := by decide +kernel
def lX12_sheet_70 (u23 u24 : Int)  : Nat → ZS → Int → Option (Int × ZS)
  | 0, _, _ => none
  | n1 + 1, s22, x25 => if 40 ≤ x25 then (some (1, s22)) else ((zg s22 12 u23 28).bind (fun v27 => (zas s22 100 v27 (wrap ((wrap (40 * u24)) + x25)) 0).bind (fun s28 => lX12_sheet_70 u23 u24 n1 s28 (wrap (x25 + 1)))))

def fX12_sheet (s0 : ZS) (a0 : Int) (a1 : Int) (a2 : Int) (a3 : Int) : Option (Int × ZS) := zb (fX12_in s0 a1 0 3) (fun v1 s2 => if v1 = 0 then (some ((-2), s2)) else (zb (fX12_in s2 a2 (-1) 2) (fun v5 s6 => if v5 = 0 then (some ((-2), s6)) else (zjn (fun (K32 : ZS → Option (Int × ZS)) => if a2 = (-1) then (K32 s6) else (if a3 ≤ 40 then (K32 s6) else (some ((-2), s6)))) (fun (s11 : ZS) => zjn (fun (K44 : ZS → Option (Int × ZS)) => if a2 = (-1) then (K44 s11) else (if 0 ≤ a3 then (K44 s11) else (some ((-14), s11)))) (fun (s14 : ZS) => (zg s14 12 a0 26).bind (fun v15 => (zas s14 100 v15 a1 a2).bind (fun s16 => (zg s16 12 a0 27).bind (fun v17 => zjn (fun (K66 : ZS → Int → Option (Int × ZS)) => if a2 = (-1) then (K66 s16 0) else (K66 s16 a3)) (fun (s19 : ZS) (w20 : Int) => (zas s19 100 v17 a1 w20).bind (fun s21 => lX12_sheet_70 a0 a1 1000 s21 0)))))))))))
set_option maxHeartbeats 4000000 in
set_option maxRecDepth 100000 in
theorem mX12_sheet (E : ZE) (hE : zOkE E) (l : Launch) (s0 : ZS) (a0 : Int) (a1 : Int) (a2 : Int) (a3 : Int) : Ct E l yX12_sheet cX12_sheet 5 (some .int) 4 [(2, a0), (0, a1), (0, a2), (0, a3)] 1 s0 (fX12_sheet s0 a0 a1 a2 a3) := by
  refine Ct.of (by decide) hE (Nat.le_of_ble_eq_true rfl) ?_
  intro X G hX hR hN hXE hXl hxn hk _
  subst hXE
  subst hXl
  have hX : G → ZOk X cX12_sheet RX12 4 := hX
  clear hN
  show Zj X G 0 [(0, (2, a0)), (1, (0, a1)), (2, (0, a2)), (3, (0, a3))] [] s0 _
  unfold fX12_sheet
  refine z_iload_n (pc := 0) hX 1 dX12_sheet_0 rfl rfl ?_
  refine z_iconst (pc := 1) hX dX12_sheet_1 ?_
  refine z_iconst (pc := 2) hX dX12_sheet_2 ?_
  refine z_callS (n := 3) (st := []) (pc := 3) hX (mX12_in _ hE _ _ _ _ _) ⟨wd1173, wd67, wd1175, ⟨by decide, by decide, by decide⟩, by decide⟩ wd1174 rfl rfl (by decide) (Nat.le_of_ble_eq_true rfl) dX12_sheet_3 (fun v1 s2 r3 => ?_)
  show Zj X G 6 [(0, (2, a0)), (1, (0, a1)), (2, (0, a2)), (3, (0, a3))] [(0, v1)] _ _
  refine z_if_eq (pc := 6) hX 29 dX12_sheet_6 (by decide) (fun h4 => ?_) (fun h4 => ?_)
  · refine z_bipush (pc := 29) hX dX12_sheet_29 ?_
    exact z_iret (pc := 31) hX hR hk dX12_sheet_31
  · refine z_iload_n (pc := 9) hX 2 dX12_sheet_9 rfl rfl ?_
    refine z_iconst (pc := 10) hX dX12_sheet_10 ?_
    refine z_iconst (pc := 11) hX dX12_sheet_11 ?_
    refine z_callS (n := 3) (st := []) (pc := 12) hX (mX12_in _ hE _ _ _ _ _) ⟨wd1173, wd67, wd1175, ⟨by decide, by decide, by decide⟩, by decide⟩ wd1174 rfl rfl (by decide) (Nat.le_of_ble_eq_true rfl) dX12_sheet_12 (fun v5 s6 r7 => ?_)
    show Zj X G 15 [(0, (2, a0)), (1, (0, a1)), (2, (0, a2)), (3, (0, a3))] [(0, v5)] _ _
    refine z_if_eq (pc := 15) hX 29 dX12_sheet_15 (by decide) (fun h8 => ?_) (fun h8 => ?_)
    · refine z_bipush (pc := 29) hX dX12_sheet_29 ?_
      exact z_iret (pc := 31) hX hR hk dX12_sheet_31
    · refine z_iload_n (pc := 18) hX 2 dX12_sheet_18 rfl rfl ?_
      refine z_iconst (pc := 19) hX dX12_sheet_19 ?_
      refine z_jn (fun K32 eK32 => ?_)
      have hK32 : ∀ (s11 : ZS), Zj X G 32 [(0, (2, a0)), (1, (0, a1)), (2, (0, a2)), (3, (0, a3))] [] s11 (K32 s11) := by
        intro s11
        rw [eK32]
        refine z_iload_n (pc := 32) hX 2 dX12_sheet_32 rfl rfl ?_
        refine z_iconst (pc := 33) hX dX12_sheet_33 ?_
        refine z_jn (fun K44 eK44 => ?_)
        have hK44 : ∀ (s14 : ZS), Zj X G 44 [(0, (2, a0)), (1, (0, a1)), (2, (0, a2)), (3, (0, a3))] [] s14 (K44 s14) := by
          intro s14
          rw [eK44]
          refine z_aload_n (pc := 44) hX 0 dX12_sheet_44 rfl rfl ?_
          refine z_get (pc := 45) hX zc12 26 (by decide) wd1043 rfl rfl dX12_sheet_45 (fun v15 => ?_)
          refine z_iload_n (pc := 48) hX 1 dX12_sheet_48 rfl rfl ?_
          refine z_iload_n (pc := 49) hX 2 dX12_sheet_49 rfl rfl ?_
          refine z_iastA (pc := 50) hX dX12_sheet_50 (fun s16 => ?_)
          refine z_aload_n (pc := 51) hX 0 dX12_sheet_51 rfl rfl ?_
          refine z_get (pc := 52) hX zc12 27 (by decide) wd1044 rfl rfl dX12_sheet_52 (fun v17 => ?_)
          refine z_iload_n (pc := 55) hX 1 dX12_sheet_55 rfl rfl ?_
          refine z_iload_n (pc := 56) hX 2 dX12_sheet_56 rfl rfl ?_
          refine z_iconst (pc := 57) hX dX12_sheet_57 ?_
          refine z_jn (fun K66 eK66 => ?_)
          have hK66 : ∀ (s19 : ZS) (w20 : Int), Zj X G 66 [(0, (2, a0)), (1, (0, a1))] [(0, w20), (0, a1), (2, v17)] s19 (K66 s19 w20) := by
            intro s19 w20
            rw [eK66]
            refine z_iastA (pc := 66) hX dX12_sheet_66 (fun s21 => ?_)
            refine z_iconst (pc := 67) hX dX12_sheet_67 ?_
            refine z_istore (lv' := [(4, (0, 0)), (0, (2, a0)), (1, (0, a1))]) (pc := 68) hX dX12_sheet_68 (zlt hxn rfl) rfl ?_
            have hl70 : ∀ (u23 u24 : Int), ∀ (n1 : Nat) (s22 : ZS) (x25 : Int), Zj X G 70 [(0, (2, u23)), (1, (0, u24)), (4, (0, x25))] [] s22 (lX12_sheet_70 u23 u24 n1 s22 x25) := by
              intro u23 u24 n1
              induction n1 with
              | zero => intro _ _; exact z_none
              | succ n1 ih1 =>
                intro s22 x25
                rw [lX12_sheet_70]
                refine z_iload (pc := 70) hX 2 dX12_sheet_70 rfl ?_
                refine z_bipush (pc := 72) hX dX12_sheet_72 ?_
                refine z_icmp_ge (pc := 74) hX 96 dX12_sheet_74 (by decide) (fun h26 => ?_) (fun h26 => ?_)
                · refine z_iconst (pc := 96) hX dX12_sheet_96 ?_
                  exact z_iret (pc := 97) hX hR hk dX12_sheet_97
                · refine z_aload_n (pc := 77) hX 0 dX12_sheet_77 rfl rfl ?_
                  refine z_get (pc := 78) hX zc12 28 (by decide) wd1045 rfl rfl dX12_sheet_78 (fun v27 => ?_)
                  refine z_bipush (pc := 81) hX dX12_sheet_81 ?_
                  refine z_iload_n (pc := 83) hX 1 dX12_sheet_83 rfl rfl ?_
                  refine z_imul (pc := 84) hX dX12_sheet_84 ?_
                  refine z_iload (pc := 85) hX 2 dX12_sheet_85 rfl ?_
                  refine z_iadd (pc := 87) hX dX12_sheet_87 ?_
                  refine z_iconst (pc := 88) hX dX12_sheet_88 ?_
                  refine z_iastA (pc := 89) hX dX12_sheet_89 (fun s28 => ?_)
                  refine z_iinc (lv' := [(4, (0, (wrap (x25 + 1)))), (0, (2, u23)), (1, (0, u24))]) (pc := 90) hX 2 dX12_sheet_90 rfl (zlt hxn rfl) rfl ?_
                  refine z_goto (pc := 93) hX 70 dX12_sheet_93 (by decide) ?_
                  refine z_pick (lv' := [(0, (2, u23)), (1, (0, u24)), (4, (0, (wrap (x25 + 1))))]) [1, 2, 0] rfl ?_
                  exact ih1 _ _
            refine z_pick (lv' := [(0, (2, a0)), (1, (0, a1)), (4, (0, 0))]) [1, 2, 0] rfl ?_
            refine hl70 _ _ 1000 _ _
          clear eK66
          refine z_icmp_ne (pc := 58) hX 65 dX12_sheet_58 (by decide) (fun h18 => ?_) (fun h18 => ?_)
          · refine z_iload_n (pc := 65) hX 3 dX12_sheet_65 rfl rfl ?_
            refine z_pick (lv' := [(0, (2, a0)), (1, (0, a1))]) [0, 1] rfl ?_
            exact hK66 _ _
          · refine z_iconst (pc := 61) hX dX12_sheet_61 ?_
            refine z_goto (pc := 62) hX 66 dX12_sheet_62 (by decide) ?_
            refine z_pick (lv' := [(0, (2, a0)), (1, (0, a1))]) [0, 1] rfl ?_
            exact hK66 _ _
        clear eK44
        refine z_icmp_eq (pc := 34) hX 44 dX12_sheet_34 (by decide) (fun h12 => ?_) (fun h12 => ?_)
        · exact hK44 _
        · refine z_iload_n (pc := 37) hX 3 dX12_sheet_37 rfl rfl ?_
          refine z_if_ge (pc := 38) hX 44 dX12_sheet_38 (by decide) (fun h13 => ?_) (fun h13 => ?_)
          · exact hK44 _
          · refine z_bipush (pc := 41) hX dX12_sheet_41 ?_
            exact z_iret (pc := 43) hX hR hk dX12_sheet_43
      clear eK32
      refine z_icmp_eq (pc := 20) hX 32 dX12_sheet_20 (by decide) (fun h9 => ?_) (fun h9 => ?_)
      · exact hK32 _
      · refine z_iload_n (pc := 23) hX 3 dX12_sheet_23 rfl rfl ?_
        refine z_bipush (pc := 24) hX dX12_sheet_24 ?_
        refine z_icmp_le (pc := 26) hX 32 dX12_sheet_26 (by decide) (fun h10 => ?_) (fun h10 => ?_)
        · exact hK32 _
        · refine z_bipush (pc := 29) hX dX12_sheet_29 ?_
          exact z_iret (pc := 31) hX hR hk dX12_sheet_31

theorem dX6_fitted_0 : decode cX6_fitted 0 = .ok (.aload_n 0, 1) := by decide +kernel
theorem dX6_fitted_1 : decode cX6_fitted 1 = .ok (.getfield 15, 3) := by decide +kernel
theorem dX6_fitted_4 : decode cX6_fitted 4 = .ok (.lookupswitch 34 #[(0, 28), (1, 31)], 28) := by decide +kernel
theorem dX6_fitted_32 : decode cX6_fitted 32 = .ok (.iload_n 1, 1) := by decide +kernel
theorem dX6_fitted_33 : decode cX6_fitted 33 = .ok (.i2b, 1) := by decide +kernel
theorem dX6_fitted_34 : decode cX6_fitted 34 = .ok (.ireturn, 1) := by decide +kernel
theorem dX6_fitted_35 : decode cX6_fitted 35 = .ok (.iload_n 1, 1) := by decide +kernel
theorem dX6_fitted_36 : decode cX6_fitted 36 = .ok (.i2s, 1) := by decide +kernel
theorem dX6_fitted_37 : decode cX6_fitted 37 = .ok (.ireturn, 1) := by decide +kernel
theorem dX6_fitted_38 : decode cX6_fitted 38 = .ok (.iload_n 1, 1) := by decide +kernel
theorem dX6_fitted_39 : decode cX6_fitted 39 = .ok (.ireturn, 1) := by decide +kernel
def fX6_fitted (s0 : ZS) (a0 : Int) (a1 : Int) : Option (Int × ZS) := (zg s0 6 a0 1).bind (fun v1 => if v1 = 0 then (some ((iB a1), s0)) else (if v1 = 1 then (some ((iS a1), s0)) else (some (a1, s0))))
set_option maxHeartbeats 4000000 in
set_option maxRecDepth 100000 in
theorem mX6_fitted (E : ZE) (hE : zOkE E) (l : Launch) (s0 : ZS) (a0 : Int) (a1 : Int) : Ct E l yX6_fitted cX6_fitted 2 (some .int) 2 [(2, a0), (0, a1)] 1 s0 (fX6_fitted s0 a0 a1) := by
  refine Ct.of (by decide) hE (Nat.le_of_ble_eq_true rfl) ?_
  intro X G hX hR hN hXE hXl hxn hk _
  subst hXE
  subst hXl
  have hX : G → ZOk X cX6_fitted RX6 2 := hX
  clear hN
  show Zj X G 0 [(0, (2, a0)), (1, (0, a1))] [] s0 _
  unfold fX6_fitted
  refine z_aload_n (pc := 0) hX 0 dX6_fitted_0 rfl rfl ?_
  refine z_get (pc := 1) hX zc6 1 (by decide) wd259 rfl rfl dX6_fitted_1 (fun v1 => ?_)
  by_cases h2 : v1 = 0
  · refine z_eq (if_pos h2) ?_
    refine z_lsw (off := 28) (pc := 4) hX 32 dX6_fitted_4 (by decide) (by rw [h2]; first | done | rfl) (by decide) ?_
    refine z_iload_n (pc := 32) hX 1 dX6_fitted_32 rfl rfl ?_
    refine z_i2b (pc := 33) hX dX6_fitted_33 ?_
    exact z_iret (pc := 34) hX hR hk dX6_fitted_34
  · refine z_eq (if_neg h2) ?_
    by_cases h3 : v1 = 1
    · refine z_eq (if_pos h3) ?_
      refine z_lsw (off := 31) (pc := 4) hX 35 dX6_fitted_4 (by decide) (by rw [h3]; first | done | rfl) (by decide) ?_
      refine z_iload_n (pc := 35) hX 1 dX6_fitted_35 rfl rfl ?_
      refine z_i2s (pc := 36) hX dX6_fitted_36 ?_
      exact z_iret (pc := 37) hX hR hk dX6_fitted_37
    · refine z_eq (if_neg h3) ?_
      refine z_lsw (off := 34) (pc := 4) hX 38 dX6_fitted_4 (by decide) (by simp [Op.lookupswitch.offset, (show ¬ (0 : Int) = v1 from fun e => h2 e.symm), (show ¬ (1 : Int) = v1 from fun e => h3 e.symm)]) (by decide) ?_
      refine z_iload_n (pc := 38) hX 1 dX6_fitted_38 rfl rfl ?_
      exact z_iret (pc := 39) hX hR hk dX6_fitted_39

theorem dX11_cell_0 : decode cX11_cell 0 = .ok (.iload_n 1, 1) := by decide +kernel
theorem dX11_cell_1 : decode cX11_cell 1 = .ok (.invokestatic 148, 3) := by decide +kernel
theorem dX11_cell_4 : decode cX11_cell 4 = .ok (.ifCond .ne 6, 3) := by decide +kernel
theorem dX11_cell_7 : decode cX11_cell 7 = .ok (.bipush (-2), 2) := by decide +kernel
theorem dX11_cell_9 : decode cX11_cell 9 = .ok (.ireturn, 1) := by decide +kernel
theorem dX11_cell_10 : decode cX11_cell 10 = .ok (.aload_n 0, 1) := by decide +kernel
theorem dX11_cell_11 : decode cX11_cell 11 = .ok (.getfield 52, 3) := by decide +kernel
theorem dX11_cell_14 : decode cX11_cell 14 = .ok (.iload_n 1, 1) := by decide +kernel
theorem dX11_cell_15 : decode cX11_cell 15 = .ok (.aaload, 1) := by decide +kernel
theorem dX11_cell_16 : decode cX11_cell 16 = .ok (.astore 4, 2) := by decide +kernel
theorem dX11_cell_18 : decode cX11_cell 18 = .ok (.aload 4, 2) := by decide +kernel
theorem dX11_cell_20 : decode cX11_cell 20 = .ok (.invokevirtual 151, 3) := by decide +kernel
theorem dX11_cell_23 : decode cX11_cell 23 = .ok (.ifCond .eq 6, 3) := by decide +kernel
theorem dX11_cell_26 : decode cX11_cell 26 = .ok (.bipush (-11), 2) := by decide +kernel
theorem dX11_cell_28 : decode cX11_cell 28 = .ok (.ireturn, 1) := by decide +kernel
theorem dX11_cell_29 : decode cX11_cell 29 = .ok (.iload_n 2, 1) := by decide +kernel
theorem dX11_cell_30 : decode cX11_cell 30 = .ok (.ifCond .lt 12, 3) := by decide +kernel
theorem dX11_cell_33 : decode cX11_cell 33 = .ok (.iload_n 2, 1) := by decide +kernel
theorem dX11_cell_34 : decode cX11_cell 34 = .ok (.aload 4, 2) := by decide +kernel
theorem dX11_cell_36 : decode cX11_cell 36 = .ok (.getfield 155, 3) := by decide +kernel
theorem dX11_cell_39 : decode cX11_cell 39 = .ok (.if_icmp .lt 6, 3) := by decide +kernel
theorem dX11_cell_42 : decode cX11_cell 42 = .ok (.bipush (-12), 2) := by decide +kernel
theorem dX11_cell_44 : decode cX11_cell 44 = .ok (.ireturn, 1) := by decide +kernel
theorem dX11_cell_45 : decode cX11_cell 45 = .ok (.aload 4, 2) := by decide +kernel
theorem dX11_cell_47 : decode cX11_cell 47 = .ok (.getfield 164, 3) := by decide +kernel
theorem dX11_cell_50 : decode cX11_cell 50 = .ok (.iload_n 2, 1) := by decide +kernel
theorem dX11_cell_51 : decode cX11_cell 51 = .ok (.aload 4, 2) := by decide +kernel
theorem dX11_cell_53 : decode cX11_cell 53 = .ok (.iload_n 3, 1) := by decide +kernel
theorem dX11_cell_54 : decode cX11_cell 54 = .ok (.invokevirtual 275, 3) := by decide +kernel
theorem dX11_cell_57 : decode cX11_cell 57 = .ok (.iastore, 1) := by decide +kernel
theorem dX11_cell_58 : decode cX11_cell 58 = .ok (.iconst 1, 1) := by decide +kernel
theorem dX11_cell_59 : decode cX11_cell 59 = .ok (.ireturn, 1) := by decide +kernel
def fX11_cell (s0 : ZS) (a0 : Int) (a1 : Int) (a2 : Int) (a3 : Int) : Option (Int × ZS) := zb (fX11_isSheet s0 a1) (fun v1 s2 => if v1 = 0 then (some ((-2), s2)) else ((zg s2 11 a0 8).bind (fun v5 => (zal s2 105 v5 a1).bind (fun v6 => zb (zv s2 6 v6 (fX6_isMissing s2 v6)) (fun v7 s8 => if v7 = 0 then (if a2 < 0 then (some ((-12), s8)) else ((zg s8 6 v6 2).bind (fun v12 => if a2 < v12 then ((zg s8 6 v6 0).bind (fun v14 => zb (zv s8 6 v6 (fX6_fitted s8 v6 a3)) (fun v15 s16 => (zas s16 100 v14 a2 v15).bind (fun s18 => some (1, s18))))) else (some ((-12), s8))))) else (some ((-11), s8)))))))
set_option maxHeartbeats 4000000 in
set_option maxRecDepth 100000 in
theorem mX11_cell (E : ZE) (hE : zOkE E) (l : Launch) (s0 : ZS) (a0 : Int) (a1 : Int) (a2 : Int) (a3 : Int) : Ct E l yX11_cell cX11_cell 5 (some .int) 6 [(2, a0), (0, a1), (0, a2), (0, a3)] 1 s0 (fX11_cell s0 a0 a1 a2 a3) := by
  refine Ct.of (by decide) hE (Nat.le_of_ble_eq_true rfl) ?_
  intro X G hX hR hN hXE hXl hxn hk _
  subst hXE
  subst hXl
  have hX : G → ZOk X cX11_cell RX11 6 := hX
  clear hN
  show Zj X G 0 [(0, (2, a0)), (1, (0, a1)), (2, (0, a2)), (3, (0, a3))] [] s0 _
  unfold fX11_cell
  refine z_iload_n (pc := 0) hX 1 dX11_cell_0 rfl rfl ?_
  refine z_callS (n := 1) (st := []) (pc := 1) hX (mX11_isSheet _ hE _ _ _) ⟨wd593, wd61, wd595, ⟨by decide, by decide, by decide⟩, by decide⟩ wd594 rfl rfl (by decide) (Nat.le_of_ble_eq_true rfl) dX11_cell_1 (fun v1 s2 r3 => ?_)
  show Zj X G 4 [(0, (2, a0)), (1, (0, a1)), (2, (0, a2)), (3, (0, a3))] [(0, v1)] _ _
  refine z_if_ne (pc := 4) hX 10 dX11_cell_4 (by decide) (fun h4 => ?_) (fun h4 => ?_)
  · refine z_aload_n (pc := 10) hX 0 dX11_cell_10 rfl rfl ?_
    refine z_get (pc := 11) hX zc11 8 (by decide) wd278 rfl rfl dX11_cell_11 (fun v5 => ?_)
    refine z_iload_n (pc := 14) hX 1 dX11_cell_14 rfl rfl ?_
    refine z_aald (pc := 15) hX 5 105 (by decide) rfl rfl dX11_cell_15 (fun v6 => ?_)
    refine z_astore (lv' := [(4, (2, v6)), (0, (2, a0)), (1, (0, a1)), (2, (0, a2)), (3, (0, a3))]) (pc := 16) hX dX11_cell_16 (zlt hxn rfl) rfl ?_
    refine z_aload (pc := 18) hX 0 dX11_cell_18 rfl ?_
    refine z_callV (n := 0) (st := []) (pc := 20) hX zc6 rfl (fun _ => (mX6_isMissing _ hE _ _ _)) ⟨wd596, wd66, wd599, ⟨by decide, by decide, by decide⟩, by decide⟩ rfl wd597 wd598 rfl rfl (by decide) (Nat.le_of_ble_eq_true rfl) dX11_cell_20 (fun v7 s8 r9 => ?_)
    show Zj X G 23 [(4, (2, v6)), (0, (2, a0)), (1, (0, a1)), (2, (0, a2)), (3, (0, a3))] [(0, v7)] _ _
    refine z_if_eq (pc := 23) hX 29 dX11_cell_23 (by decide) (fun h10 => ?_) (fun h10 => ?_)
    · refine z_iload_n (pc := 29) hX 3 dX11_cell_29 rfl rfl ?_
      refine z_if_lt (pc := 30) hX 42 dX11_cell_30 (by decide) (fun h11 => ?_) (fun h11 => ?_)
      · refine z_bipush (pc := 42) hX dX11_cell_42 ?_
        exact z_iret (pc := 44) hX hR hk dX11_cell_44
      · refine z_iload_n (pc := 33) hX 3 dX11_cell_33 rfl rfl ?_
        refine z_aload (pc := 34) hX 0 dX11_cell_34 rfl ?_
        refine z_get (pc := 36) hX zc6 2 (by decide) wd262 rfl rfl dX11_cell_36 (fun v12 => ?_)
        refine z_icmp_lt (pc := 39) hX 45 dX11_cell_39 (by decide) (fun h13 => ?_) (fun h13 => ?_)
        · refine z_aload (pc := 45) hX 0 dX11_cell_45 rfl ?_
          refine z_get (pc := 47) hX zc6 0 (by decide) wd258 rfl rfl dX11_cell_47 (fun v14 => ?_)
          refine z_iload_n (pc := 50) hX 3 dX11_cell_50 rfl rfl ?_
          refine z_aload (pc := 51) hX 0 dX11_cell_51 rfl ?_
          refine z_iload_n (pc := 53) hX 4 dX11_cell_53 rfl rfl ?_
          refine z_callV (n := 1) (st := [(0, a2), (2, v14)]) (pc := 54) hX zc6 rfl (fun _ => (mX6_fitted _ hE _ _ _ _)) ⟨wd970, wd66, wd973, ⟨by decide, by decide, by decide⟩, by decide⟩ rfl wd971 wd972 rfl rfl (by decide) (Nat.le_of_ble_eq_true rfl) dX11_cell_54 (fun v15 s16 r17 => ?_)
          show Zj X G 57 [(4, (2, v6)), (0, (2, a0)), (1, (0, a1)), (2, (0, a2)), (3, (0, a3))] [(0, v15), (0, a2), (2, v14)] _ _
          refine z_iastA (pc := 57) hX dX11_cell_57 (fun s18 => ?_)
          refine z_iconst (pc := 58) hX dX11_cell_58 ?_
          exact z_iret (pc := 59) hX hR hk dX11_cell_59
        · refine z_bipush (pc := 42) hX dX11_cell_42 ?_
          exact z_iret (pc := 44) hX hR hk dX11_cell_44
    · refine z_bipush (pc := 26) hX dX11_cell_26 ?_
      exact z_iret (pc := 28) hX hR hk dX11_cell_28
  · refine z_bipush (pc := 7) hX dX11_cell_7 ?_
    exact z_iret (pc := 9) hX hR hk dX11_cell_9

theorem dX12_cell_0 : decode cX12_cell 0 = .ok (.iload_n 1, 1) := by decide +kernel
theorem dX12_cell_1 : decode cX12_cell 1 = .ok (.iconst 0, 1) := by decide +kernel
theorem dX12_cell_2 : decode cX12_cell 2 = .ok (.iconst 3, 1) := by decide +kernel
theorem dX12_cell_3 : decode cX12_cell 3 = .ok (.invokestatic 127, 3) := by decide +kernel
theorem dX12_cell_6 : decode cX12_cell 6 = .ok (.ifCond .ne 6, 3) := by decide +kernel
theorem dX12_cell_9 : decode cX12_cell 9 = .ok (.bipush (-2), 2) := by decide +kernel
theorem dX12_cell_11 : decode cX12_cell 11 = .ok (.ireturn, 1) := by decide +kernel
theorem dX12_cell_12 : decode cX12_cell 12 = .ok (.aload_n 0, 1) := by decide +kernel
theorem dX12_cell_13 : decode cX12_cell 13 = .ok (.getfield 62, 3) := by decide +kernel
theorem dX12_cell_16 : decode cX12_cell 16 = .ok (.iload_n 1, 1) := by decide +kernel
theorem dX12_cell_17 : decode cX12_cell 17 = .ok (.iaload, 1) := by decide +kernel
theorem dX12_cell_18 : decode cX12_cell 18 = .ok (.iconst (-1), 1) := by decide +kernel
theorem dX12_cell_19 : decode cX12_cell 19 = .ok (.if_icmp .ne 6, 3) := by decide +kernel
theorem dX12_cell_22 : decode cX12_cell 22 = .ok (.bipush (-11), 2) := by decide +kernel
theorem dX12_cell_24 : decode cX12_cell 24 = .ok (.ireturn, 1) := by decide +kernel
theorem dX12_cell_25 : decode cX12_cell 25 = .ok (.iload_n 2, 1) := by decide +kernel
theorem dX12_cell_26 : decode cX12_cell 26 = .ok (.iconst 0, 1) := by decide +kernel
theorem dX12_cell_27 : decode cX12_cell 27 = .ok (.aload_n 0, 1) := by decide +kernel
theorem dX12_cell_28 : decode cX12_cell 28 = .ok (.getfield 65, 3) := by decide +kernel
theorem dX12_cell_31 : decode cX12_cell 31 = .ok (.iload_n 1, 1) := by decide +kernel
theorem dX12_cell_32 : decode cX12_cell 32 = .ok (.iaload, 1) := by decide +kernel
theorem dX12_cell_33 : decode cX12_cell 33 = .ok (.iconst 1, 1) := by decide +kernel
theorem dX12_cell_34 : decode cX12_cell 34 = .ok (.isub, 1) := by decide +kernel
theorem dX12_cell_35 : decode cX12_cell 35 = .ok (.invokestatic 127, 3) := by decide +kernel
theorem dX12_cell_38 : decode cX12_cell 38 = .ok (.ifCond .ne 6, 3) := by decide +kernel
theorem dX12_cell_41 : decode cX12_cell 41 = .ok (.bipush (-12), 2) := by decide +kernel
theorem dX12_cell_43 : decode cX12_cell 43 = .ok (.ireturn, 1) := by decide +kernel
theorem dX12_cell_44 : decode cX12_cell 44 = .ok (.aload_n 0, 1) := by decide +kernel
theorem dX12_cell_45 : decode cX12_cell 45 = .ok (.getfield 68, 3) := by decide +kernel
theorem dX12_cell_48 : decode cX12_cell 48 = .ok (.bipush 40, 2) := by decide +kernel
theorem dX12_cell_50 : decode cX12_cell 50 = .ok (.iload_n 1, 1) := by decide +kernel
theorem dX12_cell_51 : decode cX12_cell 51 = .ok (.imul, 1) := by decide +kernel
theorem dX12_cell_52 : decode cX12_cell 52 = .ok (.iload_n 2, 1) := by decide +kernel
theorem dX12_cell_53 : decode cX12_cell 53 = .ok (.iadd, 1) := by decide +kernel
theorem dX12_cell_54 : decode cX12_cell 54 = .ok (.aload_n 0, 1) := by decide +kernel
theorem dX12_cell_55 : decode cX12_cell 55 = .ok (.getfield 62, 3) := by decide +kernel
theorem dX12_cell_58 : decode cX12_cell 58 = .ok (.iload_n 1, 1) := by decide +kernel
theorem dX12_cell_59 : decode cX12_cell 59 = .ok (.iaload, 1) := by decide +kernel
theorem dX12_cell_60 : decode cX12_cell 60 = .ok (.ifCond .ne 8, 3) := by decide +kernel
theorem dX12_cell_63 : decode cX12_cell 63 = .ok (.iload_n 3, 1) := by decide +kernel
theorem dX12_cell_64 : decode cX12_cell 64 = .ok (.i2b, 1) := by decide +kernel
theorem dX12_cell_65 : decode cX12_cell 65 = .ok (.goto 19, 3) := by decide +kernel
theorem dX12_cell_68 : decode cX12_cell 68 = .ok (.aload_n 0, 1) := by decide +kernel
theorem dX12_cell_69 : decode cX12_cell 69 = .ok (.getfield 62, 3) := by decide +kernel
theorem dX12_cell_72 : decode cX12_cell 72 = .ok (.iload_n 1, 1) := by decide +kernel
theorem dX12_cell_73 : decode cX12_cell 73 = .ok (.iaload, 1) := by decide +kernel
theorem dX12_cell_74 : decode cX12_cell 74 = .ok (.iconst 1, 1) := by decide +kernel
theorem dX12_cell_75 : decode cX12_cell 75 = .ok (.if_icmp .ne 8, 3) := by decide +kernel
theorem dX12_cell_78 : decode cX12_cell 78 = .ok (.iload_n 3, 1) := by decide +kernel
theorem dX12_cell_79 : decode cX12_cell 79 = .ok (.i2s, 1) := by decide +kernel
theorem dX12_cell_80 : decode cX12_cell 80 = .ok (.goto 4, 3) := by decide +kernel
theorem dX12_cell_83 : decode cX12_cell 83 = .ok (.iload_n 3, 1) := by decide +kernel
theorem dX12_cell_84 : decode cX12_cell 84 = .ok (.iastore, 1) := by decide +kernel
theorem dX12_cell_85 : decode cX12_cell 85 = .ok (.iconst 1, 1) := by decide +kernel
theorem dX12_cell_86 : decode cX12_cell 86 = .ok (.ireturn, 1) := by decide +kernel
def fX12_cell (s0 : ZS) (a0 : Int) (a1 : Int) (a2 : Int) (a3 : Int) : Option (Int × ZS) := zb (fX12_in s0 a1 0 3) (fun v1 s2 => if v1 = 0 then (some ((-2), s2)) else ((zg s2 12 a0 26).bind (fun v5 => (zal s2 100 v5 a1).bind (fun v6 => if v6 = (-1) then (some ((-11), s2)) else ((zg s2 12 a0 27).bind (fun v8 => (zal s2 100 v8 a1).bind (fun v9 => zb (fX12_in s2 a2 0 (wrap (v9 - 1))) (fun v10 s11 => if v10 = 0 then (some ((-12), s11)) else ((zg s11 12 a0 28).bind (fun v14 => (zg s11 12 a0 26).bind (fun v15 => (zal s11 100 v15 a1).bind (fun v16 => if v16 = 0 then ((zas s11 100 v14 (wrap ((wrap (40 * a1)) + a2)) (iB a3)).bind (fun s23 => some (1, s23))) else ((zg s11 12 a0 26).bind (fun v18 => (zal s11 100 v18 a1).bind (fun v19 => if v19 = 1 then ((zas s11 100 v14 (wrap ((wrap (40 * a1)) + a2)) (iS a3)).bind (fun s22 => some (1, s22))) else ((zas s11 100 v14 (wrap ((wrap (40 * a1)) + a2)) a3).bind (fun s21 => some (1, s21))))))))))))))))))
set_option maxHeartbeats 4000000 in
set_option maxRecDepth 100000 in
theorem mX12_cell (E : ZE) (hE : zOkE E) (l : Launch) (s0 : ZS) (a0 : Int) (a1 : Int) (a2 : Int) (a3 : Int) : Ct E l yX12_cell cX12_cell 4 (some .int) 4 [(2, a0), (0, a1), (0, a2), (0, a3)] 1 s0 (fX12_cell s0 a0 a1 a2 a3) := by
  refine Ct.of (by decide) hE (Nat.le_of_ble_eq_true rfl) ?_
  intro X G hX hR hN hXE hXl hxn hk _
  subst hXE
  subst hXl
  have hX : G → ZOk X cX12_cell RX12 4 := hX
  clear hN
  show Zj X G 0 [(0, (2, a0)), (1, (0, a1)), (2, (0, a2)), (3, (0, a3))] [] s0 _
  unfold fX12_cell
  refine z_iload_n (pc := 0) hX 1 dX12_cell_0 rfl rfl ?_
  refine z_iconst (pc := 1) hX dX12_cell_1 ?_
  refine z_iconst (pc := 2) hX dX12_cell_2 ?_
  refine z_callS (n := 3) (st := []) (pc := 3) hX (mX12_in _ hE _ _ _ _ _) ⟨wd1173, wd67, wd1175, ⟨by decide, by decide, by decide⟩, by decide⟩ wd1174 rfl rfl (by decide) (Nat.le_of_ble_eq_true rfl) dX12_cell_3 (fun v1 s2 r3 => ?_)
  show Zj X G 6 [(0, (2, a0)), (1, (0, a1)), (2, (0, a2)), (3, (0, a3))] [(0, v1)] _ _
  refine z_if_ne (pc := 6) hX 12 dX12_cell_6 (by decide) (fun h4 => ?_) (fun h4 => ?_)
  · refine z_aload_n (pc := 12) hX 0 dX12_cell_12 rfl rfl ?_
    refine z_get (pc := 13) hX zc12 26 (by decide) wd1043 rfl rfl dX12_cell_13 (fun v5 => ?_)
    refine z_iload_n (pc := 16) hX 1 dX12_cell_16 rfl rfl ?_
    refine z_iald (pc := 17) hX dX12_cell_17 (fun v6 => ?_)
    refine z_iconst (pc := 18) hX dX12_cell_18 ?_
    refine z_icmp_ne (pc := 19) hX 25 dX12_cell_19 (by decide) (fun h7 => ?_) (fun h7 => ?_)
    · refine z_iload_n (pc := 25) hX 2 dX12_cell_25 rfl rfl ?_
      refine z_iconst (pc := 26) hX dX12_cell_26 ?_
      refine z_aload_n (pc := 27) hX 0 dX12_cell_27 rfl rfl ?_
      refine z_get (pc := 28) hX zc12 27 (by decide) wd1044 rfl rfl dX12_cell_28 (fun v8 => ?_)
      refine z_iload_n (pc := 31) hX 1 dX12_cell_31 rfl rfl ?_
      refine z_iald (pc := 32) hX dX12_cell_32 (fun v9 => ?_)
      refine z_iconst (pc := 33) hX dX12_cell_33 ?_
      refine z_isub (pc := 34) hX dX12_cell_34 ?_
      refine z_callS (n := 3) (st := []) (pc := 35) hX (mX12_in _ hE _ _ _ _ _) ⟨wd1173, wd67, wd1175, ⟨by decide, by decide, by decide⟩, by decide⟩ wd1174 rfl rfl (by decide) (Nat.le_of_ble_eq_true rfl) dX12_cell_35 (fun v10 s11 r12 => ?_)
      show Zj X G 38 [(0, (2, a0)), (1, (0, a1)), (2, (0, a2)), (3, (0, a3))] [(0, v10)] _ _
      refine z_if_ne (pc := 38) hX 44 dX12_cell_38 (by decide) (fun h13 => ?_) (fun h13 => ?_)
      · refine z_aload_n (pc := 44) hX 0 dX12_cell_44 rfl rfl ?_
        refine z_get (pc := 45) hX zc12 28 (by decide) wd1045 rfl rfl dX12_cell_45 (fun v14 => ?_)
        refine z_bipush (pc := 48) hX dX12_cell_48 ?_
        refine z_iload_n (pc := 50) hX 1 dX12_cell_50 rfl rfl ?_
        refine z_imul (pc := 51) hX dX12_cell_51 ?_
        refine z_iload_n (pc := 52) hX 2 dX12_cell_52 rfl rfl ?_
        refine z_iadd (pc := 53) hX dX12_cell_53 ?_
        refine z_aload_n (pc := 54) hX 0 dX12_cell_54 rfl rfl ?_
        refine z_get (pc := 55) hX zc12 26 (by decide) wd1043 rfl rfl dX12_cell_55 (fun v15 => ?_)
        refine z_iload_n (pc := 58) hX 1 dX12_cell_58 rfl rfl ?_
        refine z_iald (pc := 59) hX dX12_cell_59 (fun v16 => ?_)
        refine z_if_ne (pc := 60) hX 68 dX12_cell_60 (by decide) (fun h17 => ?_) (fun h17 => ?_)
        · refine z_aload_n (pc := 68) hX 0 dX12_cell_68 rfl rfl ?_
          refine z_get (pc := 69) hX zc12 26 (by decide) wd1043 rfl rfl dX12_cell_69 (fun v18 => ?_)
          refine z_iload_n (pc := 72) hX 1 dX12_cell_72 rfl rfl ?_
          refine z_iald (pc := 73) hX dX12_cell_73 (fun v19 => ?_)
          refine z_iconst (pc := 74) hX dX12_cell_74 ?_
          refine z_icmp_ne (pc := 75) hX 83 dX12_cell_75 (by decide) (fun h20 => ?_) (fun h20 => ?_)
          · refine z_iload_n (pc := 83) hX 3 dX12_cell_83 rfl rfl ?_
            refine z_iastA (pc := 84) hX dX12_cell_84 (fun s21 => ?_)
            refine z_iconst (pc := 85) hX dX12_cell_85 ?_
            exact z_iret (pc := 86) hX hR hk dX12_cell_86
          · refine z_iload_n (pc := 78) hX 3 dX12_cell_78 rfl rfl ?_
            refine z_i2s (pc := 79) hX dX12_cell_79 ?_
            refine z_goto (pc := 80) hX 84 dX12_cell_80 (by decide) ?_
            refine z_iastA (pc := 84) hX dX12_cell_84 (fun s22 => ?_)
            refine z_iconst (pc := 85) hX dX12_cell_85 ?_
            exact z_iret (pc := 86) hX hR hk dX12_cell_86
        · refine z_iload_n (pc := 63) hX 3 dX12_cell_63 rfl rfl ?_
          refine z_i2b (pc := 64) hX dX12_cell_64 ?_
          refine z_goto (pc := 65) hX 84 dX12_cell_65 (by decide) ?_
          refine z_iastA (pc := 84) hX dX12_cell_84 (fun s23 => ?_)
          refine z_iconst (pc := 85) hX dX12_cell_85 ?_
          exact z_iret (pc := 86) hX hR hk dX12_cell_86
      · refine z_bipush (pc := 41) hX dX12_cell_41 ?_
        exact z_iret (pc := 43) hX hR hk dX12_cell_43
    · refine z_bipush (pc := 22) hX dX12_cell_22 ?_
      exact z_iret (pc := 24) hX hR hk dX12_cell_24
  · refine z_bipush (pc := 9) hX dX12_cell_9 ?_
    exact z_iret (pc := 11) hX hR hk dX12_cell_11

theorem dX6_reaches_0 : decode cX6_reaches 0 = .ok (.iload_n 1, 1) := by decide +kernel
theorem dX6_reaches_1 : decode cX6_reaches 1 = .ok (.ifCond .lt 21, 3) := by decide +kernel
theorem dX6_reaches_4 : decode cX6_reaches 4 = .ok (.iload_n 2, 1) := by decide +kernel
theorem dX6_reaches_5 : decode cX6_reaches 5 = .ok (.ifCond .lt 17, 3) := by decide +kernel
theorem dX6_reaches_8 : decode cX6_reaches 8 = .ok (.iload_n 1, 1) := by decide +kernel
theorem dX6_reaches_9 : decode cX6_reaches 9 = .ok (.aload_n 0, 1) := by decide +kernel
theorem dX6_reaches_10 : decode cX6_reaches 10 = .ok (.getfield 19, 3) := by decide +kernel
theorem dX6_reaches_13 : decode cX6_reaches 13 = .ok (.iload_n 2, 1) := by decide +kernel
theorem dX6_reaches_14 : decode cX6_reaches 14 = .ok (.isub, 1) := by decide +kernel
theorem dX6_reaches_15 : decode cX6_reaches 15 = .ok (.if_icmp .gt 7, 3) := by decide +kernel
theorem dX6_reaches_18 : decode cX6_reaches 18 = .ok (.iconst 1, 1) := by decide +kernel
theorem dX6_reaches_19 : decode cX6_reaches 19 = .ok (.goto 4, 3) := by decide +kernel
theorem dX6_reaches_22 : decode cX6_reaches 22 = .ok (.iconst 0, 1) := by decide +kernel
theorem dX6_reaches_23 : decode cX6_reaches 23 = .ok (.ireturn, 1) := by decide +kernel
def fX6_reaches (s0 : ZS) (a0 : Int) (a1 : Int) (a2 : Int) : Option (Int × ZS) := if a1 < 0 then (some (0, s0)) else (if a2 < 0 then (some (0, s0)) else ((zg s0 6 a0 2).bind (fun v3 => if (wrap (v3 - a2)) < a1 then (some (0, s0)) else (some (1, s0)))))
set_option maxHeartbeats 4000000 in
set_option maxRecDepth 100000 in
theorem mX6_reaches (E : ZE) (hE : zOkE E) (l : Launch) (s0 : ZS) (a0 : Int) (a1 : Int) (a2 : Int) : Ct E l yX6_reaches cX6_reaches 3 (some .boolean) 2 [(2, a0), (0, a1), (0, a2)] 4 s0 (fX6_reaches s0 a0 a1 a2) := by
  refine Ct.of (by decide) hE (Nat.le_of_ble_eq_true rfl) ?_
  intro X G hX hR hN hXE hXl hxn hk _
  subst hXE
  subst hXl
  have hX : G → ZOk X cX6_reaches RX6 2 := hX
  clear hN
  show Zj X G 0 [(0, (2, a0)), (1, (0, a1)), (2, (0, a2))] [] s0 _
  unfold fX6_reaches
  refine z_iload_n (pc := 0) hX 1 dX6_reaches_0 rfl rfl ?_
  refine z_if_lt (pc := 1) hX 22 dX6_reaches_1 (by decide) (fun h1 => ?_) (fun h1 => ?_)
  · refine z_iconst (pc := 22) hX dX6_reaches_22 ?_
    exact z_zret (pc := 23) hX hR hk dX6_reaches_23 (Or.inl rfl)
  · refine z_iload_n (pc := 4) hX 2 dX6_reaches_4 rfl rfl ?_
    refine z_if_lt (pc := 5) hX 22 dX6_reaches_5 (by decide) (fun h2 => ?_) (fun h2 => ?_)
    · refine z_iconst (pc := 22) hX dX6_reaches_22 ?_
      exact z_zret (pc := 23) hX hR hk dX6_reaches_23 (Or.inl rfl)
    · refine z_iload_n (pc := 8) hX 1 dX6_reaches_8 rfl rfl ?_
      refine z_aload_n (pc := 9) hX 0 dX6_reaches_9 rfl rfl ?_
      refine z_get (pc := 10) hX zc6 2 (by decide) wd261 rfl rfl dX6_reaches_10 (fun v3 => ?_)
      refine z_iload_n (pc := 13) hX 2 dX6_reaches_13 rfl rfl ?_
      refine z_isub (pc := 14) hX dX6_reaches_14 ?_
      refine z_icmp_gt (pc := 15) hX 22 dX6_reaches_15 (by decide) (fun h4 => ?_) (fun h4 => ?_)
      · refine z_iconst (pc := 22) hX dX6_reaches_22 ?_
        exact z_zret (pc := 23) hX hR hk dX6_reaches_23 (Or.inl rfl)
      · refine z_iconst (pc := 18) hX dX6_reaches_18 ?_
        refine z_goto (pc := 19) hX 23 dX6_reaches_19 (by decide) ?_
        exact z_zret (pc := 23) hX hR hk dX6_reaches_23 (Or.inr rfl)
