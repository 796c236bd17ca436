theorem dX12_rank_0 : decode cX12_rank 0 = .ok (.iload_n 0, 1) := by decide +kernel
theorem dX12_rank_1 : decode cX12_rank 1 = .ok (.ifCond .ne 7, 3) := by decide +kernel
theorem dX12_rank_4 : decode cX12_rank 4 = .ok (.iconst 0, 1) := by decide +kernel
theorem dX12_rank_5 : decode cX12_rank 5 = .ok (.goto 66, 3) := by decide +kernel
theorem dX12_rank_8 : decode cX12_rank 8 = .ok (.iload_n 0, 1) := by decide +kernel
theorem dX12_rank_9 : decode cX12_rank 9 = .ok (.bipush 11, 2) := by decide +kernel
theorem dX12_rank_11 : decode cX12_rank 11 = .ok (.if_icmp .ne 7, 3) := by decide +kernel
theorem dX12_rank_14 : decode cX12_rank 14 = .ok (.iconst 1, 1) := by decide +kernel
theorem dX12_rank_15 : decode cX12_rank 15 = .ok (.goto 56, 3) := by decide +kernel
theorem dX12_rank_18 : decode cX12_rank 18 = .ok (.iload_n 0, 1) := by decide +kernel
theorem dX12_rank_19 : decode cX12_rank 19 = .ok (.bipush 12, 2) := by decide +kernel
theorem dX12_rank_21 : decode cX12_rank 21 = .ok (.if_icmp .ne 7, 3) := by decide +kernel
theorem dX12_rank_24 : decode cX12_rank 24 = .ok (.iconst 2, 1) := by decide +kernel
theorem dX12_rank_25 : decode cX12_rank 25 = .ok (.goto 46, 3) := by decide +kernel
theorem dX12_rank_28 : decode cX12_rank 28 = .ok (.iload_n 0, 1) := by decide +kernel
theorem dX12_rank_29 : decode cX12_rank 29 = .ok (.bipush 13, 2) := by decide +kernel
theorem dX12_rank_31 : decode cX12_rank 31 = .ok (.if_icmp .ne 7, 3) := by decide +kernel
theorem dX12_rank_34 : decode cX12_rank 34 = .ok (.iconst 3, 1) := by decide +kernel
theorem dX12_rank_35 : decode cX12_rank 35 = .ok (.goto 36, 3) := by decide +kernel
theorem dX12_rank_38 : decode cX12_rank 38 = .ok (.iload_n 0, 1) := by decide +kernel
theorem dX12_rank_39 : decode cX12_rank 39 = .ok (.bipush 15, 2) := by decide +kernel
theorem dX12_rank_41 : decode cX12_rank 41 = .ok (.if_icmp .gt 7, 3) := by decide +kernel
theorem dX12_rank_44 : decode cX12_rank 44 = .ok (.iconst 4, 1) := by decide +kernel
theorem dX12_rank_45 : decode cX12_rank 45 = .ok (.goto 26, 3) := by decide +kernel
theorem dX12_rank_48 : decode cX12_rank 48 = .ok (.iload_n 0, 1) := by decide +kernel
theorem dX12_rank_49 : decode cX12_rank 49 = .ok (.bipush 17, 2) := by decide +kernel
theorem dX12_rank_51 : decode cX12_rank 51 = .ok (.if_icmp .gt 7, 3) := by decide +kernel
theorem dX12_rank_54 : decode cX12_rank 54 = .ok (.iconst 5, 1) := by decide +kernel
theorem dX12_rank_55 : decode cX12_rank 55 = .ok (.goto 16, 3) := by decide +kernel
theorem dX12_rank_58 : decode cX12_rank 58 = .ok (.iload_n 0, 1) := by decide +kernel
theorem dX12_rank_59 : decode cX12_rank 59 = .ok (.bipush 18, 2) := by decide +kernel
theorem dX12_rank_61 : decode cX12_rank 61 = .ok (.if_icmp .ne 8, 3) := by decide +kernel
theorem dX12_rank_64 : decode cX12_rank 64 = .ok (.bipush 6, 2) := by decide +kernel
theorem dX12_rank_66 : decode cX12_rank 66 = .ok (.goto 5, 3) := by decide +kernel
theorem dX12_rank_69 : decode cX12_rank 69 = .ok (.bipush 7, 2) := by decide +kernel
theorem dX12_rank_71 : decode cX12_rank 71 = .ok (.ireturn, 1) := by decide +kernel
def fX12_rank (s0 : ZS) (a0 : Int) : Option (Int × ZS) := if a0 = 0 then (some (0, s0)) else (if a0 = 11 then (some (1, s0)) else (if a0 = 12 then (some (2, s0)) else (if a0 = 13 then (some (3, s0)) else (if 15 < a0 then (if 17 < a0 then (if a0 = 18 then (some (6, s0)) else (some (7, s0))) else (some (5, s0))) else (some (4, s0))))))
set_option maxHeartbeats 4000000 in
set_option maxRecDepth 100000 in
theorem mX12_rank (E : ZE) (hE : zOkE E) (l : Launch) (s0 : ZS) (a0 : Int) : Ct E l yX12_rank cX12_rank 1 (some .int) 2 [(0, a0)] 1 s0 (fX12_rank s0 a0) := by
  refine Ct.of (by decide) hE (Nat.le_of_ble_eq_true rfl) ?_
  intro X G hX hR hN hXE hXl hxn hk _
  subst hXE
  subst hXl
  have hX : G → ZOk X cX12_rank RX12 2 := hX
  clear hN
  show Zj X G 0 [(0, (0, a0))] [] s0 _
  unfold fX12_rank
  refine z_iload_n (pc := 0) hX 0 dX12_rank_0 rfl rfl ?_
  refine z_if_ne (pc := 1) hX 8 dX12_rank_1 (by decide) (fun h1 => ?_) (fun h1 => ?_)
  · refine z_iload_n (pc := 8) hX 0 dX12_rank_8 rfl rfl ?_
    refine z_bipush (pc := 9) hX dX12_rank_9 ?_
    refine z_icmp_ne (pc := 11) hX 18 dX12_rank_11 (by decide) (fun h2 => ?_) (fun h2 => ?_)
    · refine z_iload_n (pc := 18) hX 0 dX12_rank_18 rfl rfl ?_
      refine z_bipush (pc := 19) hX dX12_rank_19 ?_
      refine z_icmp_ne (pc := 21) hX 28 dX12_rank_21 (by decide) (fun h3 => ?_) (fun h3 => ?_)
      · refine z_iload_n (pc := 28) hX 0 dX12_rank_28 rfl rfl ?_
        refine z_bipush (pc := 29) hX dX12_rank_29 ?_
        refine z_icmp_ne (pc := 31) hX 38 dX12_rank_31 (by decide) (fun h4 => ?_) (fun h4 => ?_)
        · refine z_iload_n (pc := 38) hX 0 dX12_rank_38 rfl rfl ?_
          refine z_bipush (pc := 39) hX dX12_rank_39 ?_
          refine z_icmp_gt (pc := 41) hX 48 dX12_rank_41 (by decide) (fun h5 => ?_) (fun h5 => ?_)
          · refine z_iload_n (pc := 48) hX 0 dX12_rank_48 rfl rfl ?_
            refine z_bipush (pc := 49) hX dX12_rank_49 ?_
            refine z_icmp_gt (pc := 51) hX 58 dX12_rank_51 (by decide) (fun h6 => ?_) (fun h6 => ?_)
            · refine z_iload_n (pc := 58) hX 0 dX12_rank_58 rfl rfl ?_
              refine z_bipush (pc := 59) hX dX12_rank_59 ?_
              refine z_icmp_ne (pc := 61) hX 69 dX12_rank_61 (by decide) (fun h7 => ?_) (fun h7 => ?_)
              · refine z_bipush (pc := 69) hX dX12_rank_69 ?_
                exact z_iret (pc := 71) hX hR hk dX12_rank_71
              · refine z_bipush (pc := 64) hX dX12_rank_64 ?_
                refine z_goto (pc := 66) hX 71 dX12_rank_66 (by decide) ?_
                exact z_iret (pc := 71) hX hR hk dX12_rank_71
            · refine z_iconst (pc := 54) hX dX12_rank_54 ?_
              refine z_goto (pc := 55) hX 71 dX12_rank_55 (by decide) ?_
              exact z_iret (pc := 71) hX hR hk dX12_rank_71
          · refine z_iconst (pc := 44) hX dX12_rank_44 ?_
            refine z_goto (pc := 45) hX 71 dX12_rank_45 (by decide) ?_
            exact z_iret (pc := 71) hX hR hk dX12_rank_71
        · refine z_iconst (pc := 34) hX dX12_rank_34 ?_
          refine z_goto (pc := 35) hX 71 dX12_rank_35 (by decide) ?_
          exact z_iret (pc := 71) hX hR hk dX12_rank_71
      · refine z_iconst (pc := 24) hX dX12_rank_24 ?_
        refine z_goto (pc := 25) hX 71 dX12_rank_25 (by decide) ?_
        exact z_iret (pc := 71) hX hR hk dX12_rank_71
    · refine z_iconst (pc := 14) hX dX12_rank_14 ?_
      refine z_goto (pc := 15) hX 71 dX12_rank_15 (by decide) ?_
      exact z_iret (pc := 71) hX hR hk dX12_rank_71
  · refine z_iconst (pc := 4) hX dX12_rank_4 ?_
    refine z_goto (pc := 5) hX 71 dX12_rank_5 (by decide) ?_
    exact z_iret (pc := 71) hX hR hk dX12_rank_71

theorem dX12_unwinds_0 : decode cX12_unwinds 0 = .ok (.aload_n 0, 1) := by decide +kernel
theorem dX12_unwinds_1 : decode cX12_unwinds 1 = .ok (.getfield 169, 3) := by decide +kernel
theorem dX12_unwinds_4 : decode cX12_unwinds 4 = .ok (.ifCond .le 75, 3) := by decide +kernel
theorem dX12_unwinds_7 : decode cX12_unwinds 7 = .ok (.aload_n 0, 1) := by decide +kernel
theorem dX12_unwinds_8 : decode cX12_unwinds 8 = .ok (.getfield 97, 3) := by decide +kernel
theorem dX12_unwinds_11 : decode cX12_unwinds 11 = .ok (.aload_n 0, 1) := by decide +kernel
theorem dX12_unwinds_12 : decode cX12_unwinds 12 = .ok (.getfield 169, 3) := by decide +kernel
theorem dX12_unwinds_15 : decode cX12_unwinds 15 = .ok (.iconst 1, 1) := by decide +kernel
theorem dX12_unwinds_16 : decode cX12_unwinds 16 = .ok (.isub, 1) := by decide +kernel
theorem dX12_unwinds_17 : decode cX12_unwinds 17 = .ok (.iaload, 1) := by decide +kernel
theorem dX12_unwinds_18 : decode cX12_unwinds 18 = .ok (.invokestatic 172, 3) := by decide +kernel
theorem dX12_unwinds_21 : decode cX12_unwinds 21 = .ok (.iload_n 1, 1) := by decide +kernel
theorem dX12_unwinds_22 : decode cX12_unwinds 22 = .ok (.if_icmp .lt 57, 3) := by decide +kernel
theorem dX12_unwinds_25 : decode cX12_unwinds 25 = .ok (.aload_n 0, 1) := by decide +kernel
theorem dX12_unwinds_26 : decode cX12_unwinds 26 = .ok (.dup, 1) := by decide +kernel
theorem dX12_unwinds_27 : decode cX12_unwinds 27 = .ok (.getfield 169, 3) := by decide +kernel
theorem dX12_unwinds_30 : decode cX12_unwinds 30 = .ok (.iconst 1, 1) := by decide +kernel
theorem dX12_unwinds_31 : decode cX12_unwinds 31 = .ok (.isub, 1) := by decide +kernel
theorem dX12_unwinds_32 : decode cX12_unwinds 32 = .ok (.putfield 169, 3) := by decide +kernel
theorem dX12_unwinds_35 : decode cX12_unwinds 35 = .ok (.aload_n 0, 1) := by decide +kernel
theorem dX12_unwinds_36 : decode cX12_unwinds 36 = .ok (.getfield 97, 3) := by decide +kernel
theorem dX12_unwinds_39 : decode cX12_unwinds 39 = .ok (.aload_n 0, 1) := by decide +kernel
theorem dX12_unwinds_40 : decode cX12_unwinds 40 = .ok (.getfield 169, 3) := by decide +kernel
theorem dX12_unwinds_43 : decode cX12_unwinds 43 = .ok (.iaload, 1) := by decide +kernel
theorem dX12_unwinds_44 : decode cX12_unwinds 44 = .ok (.istore_n 2, 1) := by decide +kernel
theorem dX12_unwinds_45 : decode cX12_unwinds 45 = .ok (.aload_n 0, 1) := by decide +kernel
theorem dX12_unwinds_46 : decode cX12_unwinds 46 = .ok (.dup, 1) := by decide +kernel
theorem dX12_unwinds_47 : decode cX12_unwinds 47 = .ok (.getfield 176, 3) := by decide +kernel
theorem dX12_unwinds_50 : decode cX12_unwinds 50 = .ok (.iload_n 2, 1) := by decide +kernel
theorem dX12_unwinds_51 : decode cX12_unwinds 51 = .ok (.bipush 13, 2) := by decide +kernel
theorem dX12_unwinds_53 : decode cX12_unwinds 53 = .ok (.if_icmp .eq 9, 3) := by decide +kernel
theorem dX12_unwinds_56 : decode cX12_unwinds 56 = .ok (.iload_n 2, 1) := by decide +kernel
theorem dX12_unwinds_57 : decode cX12_unwinds 57 = .ok (.bipush 19, 2) := by decide +kernel
theorem dX12_unwinds_59 : decode cX12_unwinds 59 = .ok (.if_icmp .ne 7, 3) := by decide +kernel
theorem dX12_unwinds_62 : decode cX12_unwinds 62 = .ok (.iconst 1, 1) := by decide +kernel
theorem dX12_unwinds_63 : decode cX12_unwinds 63 = .ok (.goto 4, 3) := by decide +kernel
theorem dX12_unwinds_66 : decode cX12_unwinds 66 = .ok (.iconst 0, 1) := by decide +kernel
theorem dX12_unwinds_67 : decode cX12_unwinds 67 = .ok (.isub, 1) := by decide +kernel
theorem dX12_unwinds_68 : decode cX12_unwinds 68 = .ok (.putfield 176, 3) := by decide +kernel
theorem dX12_unwinds_71 : decode cX12_unwinds 71 = .ok (.aload_n 0, 1) := by decide +kernel
theorem dX12_unwinds_72 : decode cX12_unwinds 72 = .ok (.iload_n 2, 1) := by decide +kernel
theorem dX12_unwinds_73 : decode cX12_unwinds 73 = .ok (.invokevirtual 179, 3) := by decide +kernel
theorem dX12_unwinds_76 : decode cX12_unwinds 76 = .ok (.goto (-76), 3) := by decide +kernel
theorem dX12_unwinds_79 : decode cX12_unwinds 79 = .ok (.return_, 1) := by decide +kernel
def lX12_unwinds_0 (u2 u3 : Int)  : Nat → ZS → Option (Int × ZS)
  | 0, _ => none
  | n1 + 1, s1 => (zg s1 12 u2 35).bind (fun v4 => if v4 ≤ 0 then (some (0, s1)) else ((zg s1 12 u2 34).bind (fun v6 => (zg s1 12 u2 35).bind (fun v7 => (zal s1 100 v6 (wrap (v7 - 1))).bind (fun v8 => zb (fX12_rank s1 v8) (fun v9 s10 => if v9 < u3 then (some (0, s10)) else ((zg s10 12 u2 35).bind (fun v13 => (zp s10 12 u2 35 (wrap (v13 - 1))).bind (fun s14 => (zg s14 12 u2 34).bind (fun v15 => (zg s14 12 u2 35).bind (fun v16 => (zal s14 100 v15 v16).bind (fun v17 => (zg s14 12 u2 36).bind (fun v18 => zjn (fun (K67 : ZS → Int → Option (Int × ZS)) => zjn (fun (K62 : ZS → Option (Int × ZS)) => if v17 = 13 then (K62 s14) else (if v17 = 19 then (K62 s14) else (K67 s14 0))) (fun (s21 : ZS) => K67 s21 1)) (fun (s22 : ZS) (w23 : Int) => (zp s22 12 u2 36 (wrap (v18 - w23))).bind (fun s24 => zb (zv s24 12 u2 (fX12_puts s24 u2 v17)) (fun v25 s26 => lX12_unwinds_0 u2 u3 n1 s26))))))))))))))))

def fX12_unwinds (s0 : ZS) (a0 : Int) (a1 : Int) : Option (Int × ZS) := lX12_unwinds_0 a0 a1 1000 s0
set_option maxHeartbeats 4000000 in
set_option maxRecDepth 100000 in
theorem mX12_unwinds (E : ZE) (hE : zOkE E) (l : Launch) (s0 : ZS) (a0 : Int) (a1 : Int) : Ct E l yX12_unwinds cX12_unwinds 3 none 4 [(2, a0), (0, a1)] 0 s0 (fX12_unwinds s0 a0 a1) := by
  refine Ct.of (by decide) hE (Nat.le_of_ble_eq_true rfl) ?_
  intro X G hX hR hN hXE hXl hxn hk _
  subst hXE
  subst hXl
  have hX : G → ZOk X cX12_unwinds RX12 4 := hX
  clear hN
  show Zj X G 0 [(0, (2, a0)), (1, (0, a1))] [] s0 _
  unfold fX12_unwinds
  have hl0 : ∀ (u2 u3 : Int), ∀ (n1 : Nat) (s1 : ZS), Zj X G 0 [(0, (2, u2)), (1, (0, u3))] [] s1 (lX12_unwinds_0 u2 u3 n1 s1) := by
    intro u2 u3 n1
    induction n1 with
    | zero => intro _; exact z_none
    | succ n1 ih1 =>
      intro s1
      rw [lX12_unwinds_0]
      refine z_aload_n (pc := 0) hX 0 dX12_unwinds_0 rfl rfl ?_
      refine z_get (pc := 1) hX zc12 35 (by decide) wd1052 rfl rfl dX12_unwinds_1 (fun v4 => ?_)
      refine z_if_le (pc := 4) hX 79 dX12_unwinds_4 (by decide) (fun h5 => ?_) (fun h5 => ?_)
      · exact z_vret (pc := 79) hX hR hk dX12_unwinds_79
      · refine z_aload_n (pc := 7) hX 0 dX12_unwinds_7 rfl rfl ?_
        refine z_get (pc := 8) hX zc12 34 (by decide) wd1051 rfl rfl dX12_unwinds_8 (fun v6 => ?_)
        refine z_aload_n (pc := 11) hX 0 dX12_unwinds_11 rfl rfl ?_
        refine z_get (pc := 12) hX zc12 35 (by decide) wd1052 rfl rfl dX12_unwinds_12 (fun v7 => ?_)
        refine z_iconst (pc := 15) hX dX12_unwinds_15 ?_
        refine z_isub (pc := 16) hX dX12_unwinds_16 ?_
        refine z_iald (pc := 17) hX dX12_unwinds_17 (fun v8 => ?_)
        refine z_callS (n := 1) (st := []) (pc := 18) hX (mX12_rank _ hE _ _ _) ⟨wd1234, wd67, wd1236, ⟨by decide, by decide, by decide⟩, by decide⟩ wd1235 rfl rfl (by decide) (Nat.le_of_ble_eq_true rfl) dX12_unwinds_18 (fun v9 s10 r11 => ?_)
        show Zj X G 21 [(0, (2, u2)), (1, (0, u3))] [(0, v9)] _ _
        refine z_iload_n (pc := 21) hX 1 dX12_unwinds_21 rfl rfl ?_
        refine z_icmp_lt (pc := 22) hX 79 dX12_unwinds_22 (by decide) (fun h12 => ?_) (fun h12 => ?_)
        · exact z_vret (pc := 79) hX hR hk dX12_unwinds_79
        · refine z_aload_n (pc := 25) hX 0 dX12_unwinds_25 rfl rfl ?_
          refine z_dup (pc := 26) hX zn2 dX12_unwinds_26 ?_
          refine z_get (pc := 27) hX zc12 35 (by decide) wd1052 rfl rfl dX12_unwinds_27 (fun v13 => ?_)
          refine z_iconst (pc := 30) hX dX12_unwinds_30 ?_
          refine z_isub (pc := 31) hX dX12_unwinds_31 ?_
          refine z_putA (pc := 32) hX zc12 35 (by decide) wd1052 (Or.inl rfl) rfl rfl (fun _ => rfl) (fun _ => rfl) dX12_unwinds_32 (fun s14 => ?_)
          refine z_aload_n (pc := 35) hX 0 dX12_unwinds_35 rfl rfl ?_
          refine z_get (pc := 36) hX zc12 34 (by decide) wd1051 rfl rfl dX12_unwinds_36 (fun v15 => ?_)
          refine z_aload_n (pc := 39) hX 0 dX12_unwinds_39 rfl rfl ?_
          refine z_get (pc := 40) hX zc12 35 (by decide) wd1052 rfl rfl dX12_unwinds_40 (fun v16 => ?_)
          refine z_iald (pc := 43) hX dX12_unwinds_43 (fun v17 => ?_)
          refine z_istore_n (lv' := [(2, (0, v17)), (0, (2, u2)), (1, (0, u3))]) (pc := 44) hX dX12_unwinds_44 rfl (zlt hxn rfl) rfl ?_
          refine z_aload_n (pc := 45) hX 1 dX12_unwinds_45 rfl rfl ?_
          refine z_dup (pc := 46) hX zn2 dX12_unwinds_46 ?_
          refine z_get (pc := 47) hX zc12 36 (by decide) wd1053 rfl rfl dX12_unwinds_47 (fun v18 => ?_)
          refine z_iload_n (pc := 50) hX 0 dX12_unwinds_50 rfl rfl ?_
          refine z_bipush (pc := 51) hX dX12_unwinds_51 ?_
          refine z_jn (fun K67 eK67 => ?_)
          have hK67 : ∀ (s22 : ZS) (w23 : Int), Zj X G 67 [(0, (2, u2)), (1, (0, u3)), (2, (0, v17))] [(0, w23), (0, v18), (2, u2)] s22 (K67 s22 w23) := by
            intro s22 w23
            rw [eK67]
            refine z_isub (pc := 67) hX dX12_unwinds_67 ?_
            refine z_putA (pc := 68) hX zc12 36 (by decide) wd1053 (Or.inl rfl) rfl rfl (fun _ => rfl) (fun _ => rfl) dX12_unwinds_68 (fun s24 => ?_)
            refine z_aload_n (pc := 71) hX 0 dX12_unwinds_71 rfl rfl ?_
            refine z_iload_n (pc := 72) hX 2 dX12_unwinds_72 rfl rfl ?_
            refine z_callV (n := 1) (st := []) (pc := 73) hX zc12 rfl (fun _ => (mX12_puts _ hE _ _ _ _)) ⟨wd1226, wd67, wd1229, ⟨by decide, by decide, by decide⟩, by decide⟩ rfl wd1228 wd36 rfl rfl (by decide) (Nat.le_of_ble_eq_true rfl) dX12_unwinds_73 (fun v25 s26 r27 => ?_)
            show Zj X G 76 [(0, (2, u2)), (1, (0, u3)), (2, (0, v17))] [] _ _
            refine z_goto (pc := 76) hX 0 dX12_unwinds_76 (by decide) ?_
            refine z_pick (lv' := [(0, (2, u2)), (1, (0, u3))]) [0, 1] rfl ?_
            exact ih1 _
          clear eK67
          refine z_jn (fun K62 eK62 => ?_)
          have hK62 : ∀ (s21 : ZS), Zj X G 62 [(0, (2, u2)), (1, (0, u3)), (2, (0, v17))] [(0, v18), (2, u2)] s21 (K62 s21) := by
            intro s21
            rw [eK62]
            refine z_iconst (pc := 62) hX dX12_unwinds_62 ?_
            refine z_goto (pc := 63) hX 67 dX12_unwinds_63 (by decide) ?_
            exact hK67 _ _
          clear eK62
          refine z_icmp_eq (pc := 53) hX 62 dX12_unwinds_53 (by decide) (fun h19 => ?_) (fun h19 => ?_)
          · refine z_pick (lv' := [(0, (2, u2)), (1, (0, u3)), (2, (0, v17))]) [1, 2, 0] rfl ?_
            exact hK62 _
          · refine z_iload_n (pc := 56) hX 0 dX12_unwinds_56 rfl rfl ?_
            refine z_bipush (pc := 57) hX dX12_unwinds_57 ?_
            refine z_icmp_ne (pc := 59) hX 66 dX12_unwinds_59 (by decide) (fun h20 => ?_) (fun h20 => ?_)
            · refine z_iconst (pc := 66) hX dX12_unwinds_66 ?_
              refine z_pick (lv' := [(0, (2, u2)), (1, (0, u3)), (2, (0, v17))]) [1, 2, 0] rfl ?_
              exact hK67 _ _
            · refine z_pick (lv' := [(0, (2, u2)), (1, (0, u3)), (2, (0, v17))]) [1, 2, 0] rfl ?_
              exact hK62 _
  refine hl0 _ _ 1000 _

theorem dX12_holds_0 : decode cX12_holds 0 = .ok (.aload_n 0, 1) := by decide +kernel
theorem dX12_holds_1 : decode cX12_holds 1 = .ok (.getfield 97, 3) := by decide +kernel
theorem dX12_holds_4 : decode cX12_holds 4 = .ok (.aload_n 0, 1) := by decide +kernel
theorem dX12_holds_5 : decode cX12_holds 5 = .ok (.getfield 169, 3) := by decide +kernel
theorem dX12_holds_8 : decode cX12_holds 8 = .ok (.iload_n 1, 1) := by decide +kernel
theorem dX12_holds_9 : decode cX12_holds 9 = .ok (.iastore, 1) := by decide +kernel
theorem dX12_holds_10 : decode cX12_holds 10 = .ok (.aload_n 0, 1) := by decide +kernel
theorem dX12_holds_11 : decode cX12_holds 11 = .ok (.dup, 1) := by decide +kernel
theorem dX12_holds_12 : decode cX12_holds 12 = .ok (.getfield 169, 3) := by decide +kernel
theorem dX12_holds_15 : decode cX12_holds 15 = .ok (.iconst 1, 1) := by decide +kernel
theorem dX12_holds_16 : decode cX12_holds 16 = .ok (.iadd, 1) := by decide +kernel
theorem dX12_holds_17 : decode cX12_holds 17 = .ok (.putfield 169, 3) := by decide +kernel
theorem dX12_holds_20 : decode cX12_holds 20 = .ok (.return_, 1) := by decide +kernel
def fX12_holds (s0 : ZS) (a0 : Int) (a1 : Int) : Option (Int × ZS) := (zg s0 12 a0 34).bind (fun v1 => (zg s0 12 a0 35).bind (fun v2 => (zas s0 100 v1 v2 a1).bind (fun s3 => (zg s3 12 a0 35).bind (fun v4 => (zp s3 12 a0 35 (wrap (v4 + 1))).bind (fun s5 => some (0, s5))))))
set_option maxHeartbeats 4000000 in
set_option maxRecDepth 100000 in
theorem mX12_holds (E : ZE) (hE : zOkE E) (l : Launch) (s0 : ZS) (a0 : Int) (a1 : Int) : Ct E l yX12_holds cX12_holds 2 none 2 [(2, a0), (0, a1)] 0 s0 (fX12_holds s0 a0 a1) := by
  refine Ct.of (by decide) hE (Nat.le_of_ble_eq_true rfl) ?_
  intro X G hX hR hN hXE hXl hxn hk _
  subst hXE
  subst hXl
  have hX : G → ZOk X cX12_holds RX12 2 := hX
  clear hN
  show Zj X G 0 [(0, (2, a0)), (1, (0, a1))] [] s0 _
  unfold fX12_holds
  refine z_aload_n (pc := 0) hX 0 dX12_holds_0 rfl rfl ?_
  refine z_get (pc := 1) hX zc12 34 (by decide) wd1051 rfl rfl dX12_holds_1 (fun v1 => ?_)
  refine z_aload_n (pc := 4) hX 0 dX12_holds_4 rfl rfl ?_
  refine z_get (pc := 5) hX zc12 35 (by decide) wd1052 rfl rfl dX12_holds_5 (fun v2 => ?_)
  refine z_iload_n (pc := 8) hX 1 dX12_holds_8 rfl rfl ?_
  refine z_iastA (pc := 9) hX dX12_holds_9 (fun s3 => ?_)
  refine z_aload_n (pc := 10) hX 0 dX12_holds_10 rfl rfl ?_
  refine z_dup (pc := 11) hX zn2 dX12_holds_11 ?_
  refine z_get (pc := 12) hX zc12 35 (by decide) wd1052 rfl rfl dX12_holds_12 (fun v4 => ?_)
  refine z_iconst (pc := 15) hX dX12_holds_15 ?_
  refine z_iadd (pc := 16) hX dX12_holds_16 ?_
  refine z_putA (pc := 17) hX zc12 35 (by decide) wd1052 (Or.inl rfl) rfl rfl (fun _ => rfl) (fun _ => rfl) dX12_holds_17 (fun s5 => ?_)
  exact z_vret (pc := 20) hX hR hk dX12_holds_20

theorem dX12_opensOne_0 : decode cX12_opensOne 0 = .ok (.aload_n 0, 1) := by decide +kernel
theorem dX12_opensOne_1 : decode cX12_opensOne 1 = .ok (.getfield 176, 3) := by decide +kernel
theorem dX12_opensOne_4 : decode cX12_opensOne 4 = .ok (.iconst 5, 1) := by decide +kernel
theorem dX12_opensOne_5 : decode cX12_opensOne 5 = .ok (.if_icmp .ne 5, 3) := by decide +kernel
theorem dX12_opensOne_8 : decode cX12_opensOne 8 = .ok (.iconst 0, 1) := by decide +kernel
theorem dX12_opensOne_9 : decode cX12_opensOne 9 = .ok (.ireturn, 1) := by decide +kernel
theorem dX12_opensOne_10 : decode cX12_opensOne 10 = .ok (.aload_n 0, 1) := by decide +kernel
theorem dX12_opensOne_11 : decode cX12_opensOne 11 = .ok (.dup, 1) := by decide +kernel
theorem dX12_opensOne_12 : decode cX12_opensOne 12 = .ok (.getfield 176, 3) := by decide +kernel
theorem dX12_opensOne_15 : decode cX12_opensOne 15 = .ok (.iconst 1, 1) := by decide +kernel
theorem dX12_opensOne_16 : decode cX12_opensOne 16 = .ok (.iadd, 1) := by decide +kernel
theorem dX12_opensOne_17 : decode cX12_opensOne 17 = .ok (.putfield 176, 3) := by decide +kernel
theorem dX12_opensOne_20 : decode cX12_opensOne 20 = .ok (.aload_n 0, 1) := by decide +kernel
theorem dX12_opensOne_21 : decode cX12_opensOne 21 = .ok (.iload_n 1, 1) := by decide +kernel
theorem dX12_opensOne_22 : decode cX12_opensOne 22 = .ok (.invokevirtual 183, 3) := by decide +kernel
theorem dX12_opensOne_25 : decode cX12_opensOne 25 = .ok (.iconst 1, 1) := by decide +kernel
theorem dX12_opensOne_26 : decode cX12_opensOne 26 = .ok (.ireturn, 1) := by decide +kernel
def fX12_opensOne (s0 : ZS) (a0 : Int) (a1 : Int) : Option (Int × ZS) := (zg s0 12 a0 36).bind (fun v1 => if v1 = 5 then (some (0, s0)) else ((zg s0 12 a0 36).bind (fun v3 => (zp s0 12 a0 36 (wrap (v3 + 1))).bind (fun s4 => zb (zv s4 12 a0 (fX12_holds s4 a0 a1)) (fun v5 s6 => some (1, s6))))))
set_option maxHeartbeats 4000000 in
set_option maxRecDepth 100000 in
theorem mX12_opensOne (E : ZE) (hE : zOkE E) (l : Launch) (s0 : ZS) (a0 : Int) (a1 : Int) : Ct E l yX12_opensOne cX12_opensOne 2 (some .boolean) 4 [(2, a0), (0, a1)] 4 s0 (fX12_opensOne s0 a0 a1) := by
  refine Ct.of (by decide) hE (Nat.le_of_ble_eq_true rfl) ?_
  intro X G hX hR hN hXE hXl hxn hk _
  subst hXE
  subst hXl
  have hX : G → ZOk X cX12_opensOne RX12 4 := hX
  clear hN
  show Zj X G 0 [(0, (2, a0)), (1, (0, a1))] [] s0 _
  unfold fX12_opensOne
  refine z_aload_n (pc := 0) hX 0 dX12_opensOne_0 rfl rfl ?_
  refine z_get (pc := 1) hX zc12 36 (by decide) wd1053 rfl rfl dX12_opensOne_1 (fun v1 => ?_)
  refine z_iconst (pc := 4) hX dX12_opensOne_4 ?_
  refine z_icmp_ne (pc := 5) hX 10 dX12_opensOne_5 (by decide) (fun h2 => ?_) (fun h2 => ?_)
  · refine z_aload_n (pc := 10) hX 0 dX12_opensOne_10 rfl rfl ?_
    refine z_dup (pc := 11) hX zn2 dX12_opensOne_11 ?_
    refine z_get (pc := 12) hX zc12 36 (by decide) wd1053 rfl rfl dX12_opensOne_12 (fun v3 => ?_)
    refine z_iconst (pc := 15) hX dX12_opensOne_15 ?_
    refine z_iadd (pc := 16) hX dX12_opensOne_16 ?_
    refine z_putA (pc := 17) hX zc12 36 (by decide) wd1053 (Or.inl rfl) rfl rfl (fun _ => rfl) (fun _ => rfl) dX12_opensOne_17 (fun s4 => ?_)
    refine z_aload_n (pc := 20) hX 0 dX12_opensOne_20 rfl rfl ?_
    refine z_iload_n (pc := 21) hX 1 dX12_opensOne_21 rfl rfl ?_
    refine z_callV (n := 1) (st := []) (pc := 22) hX zc12 rfl (fun _ => (mX12_holds _ hE _ _ _ _)) ⟨wd1241, wd67, wd1244, ⟨by decide, by decide, by decide⟩, by decide⟩ rfl wd1243 wd39 rfl rfl (by decide) (Nat.le_of_ble_eq_true rfl) dX12_opensOne_22 (fun v5 s6 r7 => ?_)
    show Zj X G 25 [(0, (2, a0)), (1, (0, a1))] [] _ _
    refine z_iconst (pc := 25) hX dX12_opensOne_25 ?_
    exact z_zret (pc := 26) hX hR hk dX12_opensOne_26 (Or.inr rfl)
  · refine z_iconst (pc := 8) hX dX12_opensOne_8 ?_
    exact z_zret (pc := 9) hX hR hk dX12_opensOne_9 (Or.inl rfl)

theorem dX12_signOf_0 : decode cX12_signOf 0 = .ok (.aload_n 0, 1) := by decide +kernel
theorem dX12_signOf_1 : decode cX12_signOf 1 = .ok (.getfield 156, 3) := by decide +kernel
theorem dX12_signOf_4 : decode cX12_signOf 4 = .ok (.iconst 4, 1) := by decide +kernel
theorem dX12_signOf_5 : decode cX12_signOf 5 = .ok (.if_icmp .ne 8, 3) := by decide +kernel
theorem dX12_signOf_8 : decode cX12_signOf 8 = .ok (.bipush 11, 2) := by decide +kernel
theorem dX12_signOf_10 : decode cX12_signOf 10 = .ok (.goto 87, 3) := by decide +kernel
theorem dX12_signOf_13 : decode cX12_signOf 13 = .ok (.aload_n 0, 1) := by decide +kernel
theorem dX12_signOf_14 : decode cX12_signOf 14 = .ok (.getfield 156, 3) := by decide +kernel
theorem dX12_signOf_17 : decode cX12_signOf 17 = .ok (.iconst 5, 1) := by decide +kernel
theorem dX12_signOf_18 : decode cX12_signOf 18 = .ok (.if_icmp .ne 8, 3) := by decide +kernel
theorem dX12_signOf_21 : decode cX12_signOf 21 = .ok (.bipush 12, 2) := by decide +kernel
theorem dX12_signOf_23 : decode cX12_signOf 23 = .ok (.goto 74, 3) := by decide +kernel
theorem dX12_signOf_26 : decode cX12_signOf 26 = .ok (.aload_n 0, 1) := by decide +kernel
theorem dX12_signOf_27 : decode cX12_signOf 27 = .ok (.getfield 156, 3) := by decide +kernel
theorem dX12_signOf_30 : decode cX12_signOf 30 = .ok (.bipush 60, 2) := by decide +kernel
theorem dX12_signOf_32 : decode cX12_signOf 32 = .ok (.if_icmp .ne 8, 3) := by decide +kernel
theorem dX12_signOf_35 : decode cX12_signOf 35 = .ok (.bipush 14, 2) := by decide +kernel
theorem dX12_signOf_37 : decode cX12_signOf 37 = .ok (.goto 60, 3) := by decide +kernel
theorem dX12_signOf_40 : decode cX12_signOf 40 = .ok (.aload_n 0, 1) := by decide +kernel
theorem dX12_signOf_41 : decode cX12_signOf 41 = .ok (.getfield 156, 3) := by decide +kernel
theorem dX12_signOf_44 : decode cX12_signOf 44 = .ok (.bipush 61, 2) := by decide +kernel
theorem dX12_signOf_46 : decode cX12_signOf 46 = .ok (.if_icmp .ne 8, 3) := by decide +kernel
theorem dX12_signOf_49 : decode cX12_signOf 49 = .ok (.bipush 15, 2) := by decide +kernel
theorem dX12_signOf_51 : decode cX12_signOf 51 = .ok (.goto 46, 3) := by decide +kernel
theorem dX12_signOf_54 : decode cX12_signOf 54 = .ok (.aload_n 0, 1) := by decide +kernel
theorem dX12_signOf_55 : decode cX12_signOf 55 = .ok (.getfield 156, 3) := by decide +kernel
theorem dX12_signOf_58 : decode cX12_signOf 58 = .ok (.bipush 43, 2) := by decide +kernel
theorem dX12_signOf_60 : decode cX12_signOf 60 = .ok (.if_icmp .ne 8, 3) := by decide +kernel
theorem dX12_signOf_63 : decode cX12_signOf 63 = .ok (.bipush 16, 2) := by decide +kernel
theorem dX12_signOf_65 : decode cX12_signOf 65 = .ok (.goto 32, 3) := by decide +kernel
theorem dX12_signOf_68 : decode cX12_signOf 68 = .ok (.aload_n 0, 1) := by decide +kernel
theorem dX12_signOf_69 : decode cX12_signOf 69 = .ok (.getfield 156, 3) := by decide +kernel
theorem dX12_signOf_72 : decode cX12_signOf 72 = .ok (.bipush 45, 2) := by decide +kernel
theorem dX12_signOf_74 : decode cX12_signOf 74 = .ok (.if_icmp .ne 8, 3) := by decide +kernel
theorem dX12_signOf_77 : decode cX12_signOf 77 = .ok (.bipush 17, 2) := by decide +kernel
theorem dX12_signOf_79 : decode cX12_signOf 79 = .ok (.goto 18, 3) := by decide +kernel
theorem dX12_signOf_82 : decode cX12_signOf 82 = .ok (.aload_n 0, 1) := by decide +kernel
theorem dX12_signOf_83 : decode cX12_signOf 83 = .ok (.getfield 156, 3) := by decide +kernel
theorem dX12_signOf_86 : decode cX12_signOf 86 = .ok (.bipush 42, 2) := by decide +kernel
theorem dX12_signOf_88 : decode cX12_signOf 88 = .ok (.if_icmp .ne 8, 3) := by decide +kernel
theorem dX12_signOf_91 : decode cX12_signOf 91 = .ok (.bipush 18, 2) := by decide +kernel
theorem dX12_signOf_93 : decode cX12_signOf 93 = .ok (.goto 4, 3) := by decide +kernel
theorem dX12_signOf_96 : decode cX12_signOf 96 = .ok (.iconst (-1), 1) := by decide +kernel
theorem dX12_signOf_97 : decode cX12_signOf 97 = .ok (.ireturn, 1) := by decide +kernel
def fX12_signOf (s0 : ZS) (a0 : Int) : Option (Int × ZS) := (zg s0 12 a0 31).bind (fun v1 => if v1 = 4 then (some (11, s0)) else ((zg s0 12 a0 31).bind (fun v3 => if v3 = 5 then (some (12, s0)) else ((zg s0 12 a0 31).bind (fun v5 => if v5 = 60 then (some (14, s0)) else ((zg s0 12 a0 31).bind (fun v7 => if v7 = 61 then (some (15, s0)) else ((zg s0 12 a0 31).bind (fun v9 => if v9 = 43 then (some (16, s0)) else ((zg s0 12 a0 31).bind (fun v11 => if v11 = 45 then (some (17, s0)) else ((zg s0 12 a0 31).bind (fun v13 => if v13 = 42 then (some (18, s0)) else (some ((-1), s0)))))))))))))))
set_option maxHeartbeats 4000000 in
set_option maxRecDepth 100000 in
theorem mX12_signOf (E : ZE) (hE : zOkE E) (l : Launch) (s0 : ZS) (a0 : Int) : Ct E l yX12_signOf cX12_signOf 1 (some .int) 2 [(2, a0)] 1 s0 (fX12_signOf s0 a0) := by
  refine Ct.of (by decide) hE (Nat.le_of_ble_eq_true rfl) ?_
  intro X G hX hR hN hXE hXl hxn hk _
  subst hXE
  subst hXl
  have hX : G → ZOk X cX12_signOf RX12 2 := hX
  clear hN
  show Zj X G 0 [(0, (2, a0))] [] s0 _
  unfold fX12_signOf
  refine z_aload_n (pc := 0) hX 0 dX12_signOf_0 rfl rfl ?_
  refine z_get (pc := 1) hX zc12 31 (by decide) wd1048 rfl rfl dX12_signOf_1 (fun v1 => ?_)
  refine z_iconst (pc := 4) hX dX12_signOf_4 ?_
  refine z_icmp_ne (pc := 5) hX 13 dX12_signOf_5 (by decide) (fun h2 => ?_) (fun h2 => ?_)
  · refine z_aload_n (pc := 13) hX 0 dX12_signOf_13 rfl rfl ?_
    refine z_get (pc := 14) hX zc12 31 (by decide) wd1048 rfl rfl dX12_signOf_14 (fun v3 => ?_)
    refine z_iconst (pc := 17) hX dX12_signOf_17 ?_
    refine z_icmp_ne (pc := 18) hX 26 dX12_signOf_18 (by decide) (fun h4 => ?_) (fun h4 => ?_)
    · refine z_aload_n (pc := 26) hX 0 dX12_signOf_26 rfl rfl ?_
      refine z_get (pc := 27) hX zc12 31 (by decide) wd1048 rfl rfl dX12_signOf_27 (fun v5 => ?_)
      refine z_bipush (pc := 30) hX dX12_signOf_30 ?_
      refine z_icmp_ne (pc := 32) hX 40 dX12_signOf_32 (by decide) (fun h6 => ?_) (fun h6 => ?_)
      · refine z_aload_n (pc := 40) hX 0 dX12_signOf_40 rfl rfl ?_
        refine z_get (pc := 41) hX zc12 31 (by decide) wd1048 rfl rfl dX12_signOf_41 (fun v7 => ?_)
        refine z_bipush (pc := 44) hX dX12_signOf_44 ?_
        refine z_icmp_ne (pc := 46) hX 54 dX12_signOf_46 (by decide) (fun h8 => ?_) (fun h8 => ?_)
        · refine z_aload_n (pc := 54) hX 0 dX12_signOf_54 rfl rfl ?_
          refine z_get (pc := 55) hX zc12 31 (by decide) wd1048 rfl rfl dX12_signOf_55 (fun v9 => ?_)
          refine z_bipush (pc := 58) hX dX12_signOf_58 ?_
          refine z_icmp_ne (pc := 60) hX 68 dX12_signOf_60 (by decide) (fun h10 => ?_) (fun h10 => ?_)
          · refine z_aload_n (pc := 68) hX 0 dX12_signOf_68 rfl rfl ?_
            refine z_get (pc := 69) hX zc12 31 (by decide) wd1048 rfl rfl dX12_signOf_69 (fun v11 => ?_)
            refine z_bipush (pc := 72) hX dX12_signOf_72 ?_
            refine z_icmp_ne (pc := 74) hX 82 dX12_signOf_74 (by decide) (fun h12 => ?_) (fun h12 => ?_)
            · refine z_aload_n (pc := 82) hX 0 dX12_signOf_82 rfl rfl ?_
              refine z_get (pc := 83) hX zc12 31 (by decide) wd1048 rfl rfl dX12_signOf_83 (fun v13 => ?_)
              refine z_bipush (pc := 86) hX dX12_signOf_86 ?_
              refine z_icmp_ne (pc := 88) hX 96 dX12_signOf_88 (by decide) (fun h14 => ?_) (fun h14 => ?_)
              · refine z_iconst (pc := 96) hX dX12_signOf_96 ?_
                exact z_iret (pc := 97) hX hR hk dX12_signOf_97
              · refine z_bipush (pc := 91) hX dX12_signOf_91 ?_
                refine z_goto (pc := 93) hX 97 dX12_signOf_93 (by decide) ?_
                exact z_iret (pc := 97) hX hR hk dX12_signOf_97
            · refine z_bipush (pc := 77) hX dX12_signOf_77 ?_
              refine z_goto (pc := 79) hX 97 dX12_signOf_79 (by decide) ?_
              exact z_iret (pc := 97) hX hR hk dX12_signOf_97
          · refine z_bipush (pc := 63) hX dX12_signOf_63 ?_
            refine z_goto (pc := 65) hX 97 dX12_signOf_65 (by decide) ?_
            exact z_iret (pc := 97) hX hR hk dX12_signOf_97
        · refine z_bipush (pc := 49) hX dX12_signOf_49 ?_
          refine z_goto (pc := 51) hX 97 dX12_signOf_51 (by decide) ?_
          exact z_iret (pc := 97) hX hR hk dX12_signOf_97
      · refine z_bipush (pc := 35) hX dX12_signOf_35 ?_
        refine z_goto (pc := 37) hX 97 dX12_signOf_37 (by decide) ?_
        exact z_iret (pc := 97) hX hR hk dX12_signOf_97
    · refine z_bipush (pc := 21) hX dX12_signOf_21 ?_
      refine z_goto (pc := 23) hX 97 dX12_signOf_23 (by decide) ?_
      exact z_iret (pc := 97) hX hR hk dX12_signOf_97
  · refine z_bipush (pc := 8) hX dX12_signOf_8 ?_
    refine z_goto (pc := 10) hX 97 dX12_signOf_10 (by decide) ?_
    exact z_iret (pc := 97) hX hR hk dX12_signOf_97

theorem dX12_between_0 : decode cX12_between 0 = .ok (.aload_n 0, 1) := by decide +kernel
theorem dX12_between_1 : decode cX12_between 1 = .ok (.iload_n 1, 1) := by decide +kernel
theorem dX12_between_2 : decode cX12_between 2 = .ok (.invokestatic 172, 3) := by decide +kernel
theorem dX12_between_5 : decode cX12_between 5 = .ok (.iconst 4, 1) := by decide +kernel
theorem dX12_between_6 : decode cX12_between 6 = .ok (.if_icmp .ne 7, 3) := by decide +kernel
theorem dX12_between_9 : decode cX12_between 9 = .ok (.iconst 5, 1) := by decide +kernel
theorem dX12_between_10 : decode cX12_between 10 = .ok (.goto 7, 3) := by decide +kernel
theorem dX12_between_13 : decode cX12_between 13 = .ok (.iload_n 1, 1) := by decide +kernel
theorem dX12_between_14 : decode cX12_between 14 = .ok (.invokestatic 172, 3) := by decide +kernel
theorem dX12_between_17 : decode cX12_between 17 = .ok (.invokevirtual 186, 3) := by decide +kernel
theorem dX12_between_20 : decode cX12_between 20 = .ok (.iload_n 1, 1) := by decide +kernel
theorem dX12_between_21 : decode cX12_between 21 = .ok (.invokestatic 172, 3) := by decide +kernel
theorem dX12_between_24 : decode cX12_between 24 = .ok (.iconst 4, 1) := by decide +kernel
theorem dX12_between_25 : decode cX12_between 25 = .ok (.if_icmp .ne 30, 3) := by decide +kernel
theorem dX12_between_28 : decode cX12_between 28 = .ok (.aload_n 0, 1) := by decide +kernel
theorem dX12_between_29 : decode cX12_between 29 = .ok (.getfield 169, 3) := by decide +kernel
theorem dX12_between_32 : decode cX12_between 32 = .ok (.ifCond .le 23, 3) := by decide +kernel
theorem dX12_between_35 : decode cX12_between 35 = .ok (.aload_n 0, 1) := by decide +kernel
theorem dX12_between_36 : decode cX12_between 36 = .ok (.getfield 97, 3) := by decide +kernel
theorem dX12_between_39 : decode cX12_between 39 = .ok (.aload_n 0, 1) := by decide +kernel
theorem dX12_between_40 : decode cX12_between 40 = .ok (.getfield 169, 3) := by decide +kernel
theorem dX12_between_43 : decode cX12_between 43 = .ok (.iconst 1, 1) := by decide +kernel
theorem dX12_between_44 : decode cX12_between 44 = .ok (.isub, 1) := by decide +kernel
theorem dX12_between_45 : decode cX12_between 45 = .ok (.iaload, 1) := by decide +kernel
theorem dX12_between_46 : decode cX12_between 46 = .ok (.invokestatic 172, 3) := by decide +kernel
theorem dX12_between_49 : decode cX12_between 49 = .ok (.iconst 4, 1) := by decide +kernel
theorem dX12_between_50 : decode cX12_between 50 = .ok (.if_icmp .ne 5, 3) := by decide +kernel
theorem dX12_between_53 : decode cX12_between 53 = .ok (.iconst 0, 1) := by decide +kernel
theorem dX12_between_54 : decode cX12_between 54 = .ok (.ireturn, 1) := by decide +kernel
theorem dX12_between_55 : decode cX12_between 55 = .ok (.aload_n 0, 1) := by decide +kernel
theorem dX12_between_56 : decode cX12_between 56 = .ok (.iload_n 1, 1) := by decide +kernel
theorem dX12_between_57 : decode cX12_between 57 = .ok (.invokevirtual 183, 3) := by decide +kernel
theorem dX12_between_60 : decode cX12_between 60 = .ok (.iconst 1, 1) := by decide +kernel
theorem dX12_between_61 : decode cX12_between 61 = .ok (.ireturn, 1) := by decide +kernel
def fX12_between (s0 : ZS) (a0 : Int) (a1 : Int) : Option (Int × ZS) := zb (fX12_rank s0 a1) (fun v1 s2 => zjn (fun (K17 : ZS → Int → Option (Int × ZS)) => if v1 = 4 then (K17 s2 5) else (zb (fX12_rank s2 a1) (fun v5 s6 => K17 s6 v5))) (fun (s8 : ZS) (w9 : Int) => zb (zv s8 12 a0 (fX12_unwinds s8 a0 w9)) (fun v10 s11 => zb (fX12_rank s11 a1) (fun v13 s14 => zjn (fun (K55 : ZS → Option (Int × ZS)) => if v13 = 4 then ((zg s14 12 a0 35).bind (fun v17 => if v17 ≤ 0 then (K55 s14) else ((zg s14 12 a0 34).bind (fun v19 => (zg s14 12 a0 35).bind (fun v20 => (zal s14 100 v19 (wrap (v20 - 1))).bind (fun v21 => zb (fX12_rank s14 v21) (fun v22 s23 => if v22 = 4 then (some (0, s23)) else (K55 s23)))))))) else (K55 s14)) (fun (s26 : ZS) => zb (zv s26 12 a0 (fX12_holds s26 a0 a1)) (fun v27 s28 => some (1, s28)))))))
set_option maxHeartbeats 4000000 in
set_option maxRecDepth 100000 in
theorem mX12_between (E : ZE) (hE : zOkE E) (l : Launch) (s0 : ZS) (a0 : Int) (a1 : Int) : Ct E l yX12_between cX12_between 2 (some .boolean) 6 [(2, a0), (0, a1)] 4 s0 (fX12_between s0 a0 a1) := by
  refine Ct.of (by decide) hE (Nat.le_of_ble_eq_true rfl) ?_
  intro X G hX hR hN hXE hXl hxn hk _
  subst hXE
  subst hXl
  have hX : G → ZOk X cX12_between RX12 6 := hX
  clear hN
  show Zj X G 0 [(0, (2, a0)), (1, (0, a1))] [] s0 _
  unfold fX12_between
  refine z_aload_n (pc := 0) hX 0 dX12_between_0 rfl rfl ?_
  refine z_iload_n (pc := 1) hX 1 dX12_between_1 rfl rfl ?_
  refine z_callS (n := 1) (st := [(2, a0)]) (pc := 2) hX (mX12_rank _ hE _ _ _) ⟨wd1234, wd67, wd1236, ⟨by decide, by decide, by decide⟩, by decide⟩ wd1235 rfl rfl (by decide) (Nat.le_of_ble_eq_true rfl) dX12_between_2 (fun v1 s2 r3 => ?_)
  show Zj X G 5 [(0, (2, a0)), (1, (0, a1))] [(0, v1), (2, a0)] _ _
  refine z_iconst (pc := 5) hX dX12_between_5 ?_
  refine z_jn (fun K17 eK17 => ?_)
  have hK17 : ∀ (s8 : ZS) (w9 : Int), Zj X G 17 [(0, (2, a0)), (1, (0, a1))] [(0, w9), (2, a0)] s8 (K17 s8 w9) := by
    intro s8 w9
    rw [eK17]
    refine z_callV (n := 1) (st := []) (pc := 17) hX zc12 rfl (fun _ => (mX12_unwinds _ hE _ _ _ _)) ⟨wd1230, wd67, wd1233, ⟨by decide, by decide, by decide⟩, by decide⟩ rfl wd1232 wd37 rfl rfl (by decide) (Nat.le_of_ble_eq_true rfl) dX12_between_17 (fun v10 s11 r12 => ?_)
    show Zj X G 20 [(0, (2, a0)), (1, (0, a1))] [] _ _
    refine z_iload_n (pc := 20) hX 1 dX12_between_20 rfl rfl ?_
    refine z_callS (n := 1) (st := []) (pc := 21) hX (mX12_rank _ hE _ _ _) ⟨wd1234, wd67, wd1236, ⟨by decide, by decide, by decide⟩, by decide⟩ wd1235 rfl rfl (by decide) (Nat.le_of_ble_eq_true rfl) dX12_between_21 (fun v13 s14 r15 => ?_)
    show Zj X G 24 [(0, (2, a0)), (1, (0, a1))] [(0, v13)] _ _
    refine z_iconst (pc := 24) hX dX12_between_24 ?_
    refine z_jn (fun K55 eK55 => ?_)
    have hK55 : ∀ (s26 : ZS), Zj X G 55 [(0, (2, a0)), (1, (0, a1))] [] s26 (K55 s26) := by
      intro s26
      rw [eK55]
      refine z_aload_n (pc := 55) hX 0 dX12_between_55 rfl rfl ?_
      refine z_iload_n (pc := 56) hX 1 dX12_between_56 rfl rfl ?_
      refine z_callV (n := 1) (st := []) (pc := 57) hX zc12 rfl (fun _ => (mX12_holds _ hE _ _ _ _)) ⟨wd1241, wd67, wd1244, ⟨by decide, by decide, by decide⟩, by decide⟩ rfl wd1243 wd39 rfl rfl (by decide) (Nat.le_of_ble_eq_true rfl) dX12_between_57 (fun v27 s28 r29 => ?_)
      show Zj X G 60 [(0, (2, a0)), (1, (0, a1))] [] _ _
      refine z_iconst (pc := 60) hX dX12_between_60 ?_
      exact z_zret (pc := 61) hX hR hk dX12_between_61 (Or.inr rfl)
    clear eK55
    refine z_icmp_ne (pc := 25) hX 55 dX12_between_25 (by decide) (fun h16 => ?_) (fun h16 => ?_)
    · exact hK55 _
    · refine z_aload_n (pc := 28) hX 0 dX12_between_28 rfl rfl ?_
      refine z_get (pc := 29) hX zc12 35 (by decide) wd1052 rfl rfl dX12_between_29 (fun v17 => ?_)
      refine z_if_le (pc := 32) hX 55 dX12_between_32 (by decide) (fun h18 => ?_) (fun h18 => ?_)
      · exact hK55 _
      · refine z_aload_n (pc := 35) hX 0 dX12_between_35 rfl rfl ?_
        refine z_get (pc := 36) hX zc12 34 (by decide) wd1051 rfl rfl dX12_between_36 (fun v19 => ?_)
        refine z_aload_n (pc := 39) hX 0 dX12_between_39 rfl rfl ?_
        refine z_get (pc := 40) hX zc12 35 (by decide) wd1052 rfl rfl dX12_between_40 (fun v20 => ?_)
        refine z_iconst (pc := 43) hX dX12_between_43 ?_
        refine z_isub (pc := 44) hX dX12_between_44 ?_
        refine z_iald (pc := 45) hX dX12_between_45 (fun v21 => ?_)
        refine z_callS (n := 1) (st := []) (pc := 46) hX (mX12_rank _ hE _ _ _) ⟨wd1234, wd67, wd1236, ⟨by decide, by decide, by decide⟩, by decide⟩ wd1235 rfl rfl (by decide) (Nat.le_of_ble_eq_true rfl) dX12_between_46 (fun v22 s23 r24 => ?_)
        show Zj X G 49 [(0, (2, a0)), (1, (0, a1))] [(0, v22)] _ _
        refine z_iconst (pc := 49) hX dX12_between_49 ?_
        refine z_icmp_ne (pc := 50) hX 55 dX12_between_50 (by decide) (fun h25 => ?_) (fun h25 => ?_)
        · exact hK55 _
        · refine z_iconst (pc := 53) hX dX12_between_53 ?_
          exact z_zret (pc := 54) hX hR hk dX12_between_54 (Or.inl rfl)
  clear eK17
  refine z_icmp_ne (pc := 6) hX 13 dX12_between_6 (by decide) (fun h4 => ?_) (fun h4 => ?_)
  · refine z_iload_n (pc := 13) hX 1 dX12_between_13 rfl rfl ?_
    refine z_callS (n := 1) (st := [(2, a0)]) (pc := 14) hX (mX12_rank _ hE _ _ _) ⟨wd1234, wd67, wd1236, ⟨by decide, by decide, by decide⟩, by decide⟩ wd1235 rfl rfl (by decide) (Nat.le_of_ble_eq_true rfl) dX12_between_14 (fun v5 s6 r7 => ?_)
    show Zj X G 17 [(0, (2, a0)), (1, (0, a1))] [(0, v5), (2, a0)] _ _
    exact hK17 _ _
  · refine z_iconst (pc := 9) hX dX12_between_9 ?_
    refine z_goto (pc := 10) hX 17 dX12_between_10 (by decide) ?_
    exact hK17 _ _
