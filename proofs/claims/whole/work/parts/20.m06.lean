theorem dX4_append_0 : decode cX4_append 0 = .ok (.iload_n 3, 1) := by decide +kernel
theorem dX4_append_1 : decode cX4_append 1 = .ok (.sipush 160, 3) := by decide +kernel
theorem dX4_append_4 : decode cX4_append 4 = .ok (.aload_n 0, 1) := by decide +kernel
theorem dX4_append_5 : decode cX4_append 5 = .ok (.getfield 17, 3) := by decide +kernel
theorem dX4_append_8 : decode cX4_append 8 = .ok (.isub, 1) := by decide +kernel
theorem dX4_append_9 : decode cX4_append 9 = .ok (.if_icmp .le 5, 3) := by decide +kernel
theorem dX4_append_12 : decode cX4_append 12 = .ok (.iconst 0, 1) := by decide +kernel
theorem dX4_append_13 : decode cX4_append 13 = .ok (.ireturn, 1) := by decide +kernel
theorem dX4_append_14 : decode cX4_append 14 = .ok (.iload_n 3, 1) := by decide +kernel
theorem dX4_append_15 : decode cX4_append 15 = .ok (.iconst 1, 1) := by decide +kernel
theorem dX4_append_16 : decode cX4_append 16 = .ok (.isub, 1) := by decide +kernel
theorem dX4_append_17 : decode cX4_append 17 = .ok (.istore 4, 2) := by decide +kernel
theorem dX4_append_19 : decode cX4_append 19 = .ok (.iload 4, 2) := by decide +kernel
theorem dX4_append_21 : decode cX4_append 21 = .ok (.ifCond .lt 40, 3) := by decide +kernel
theorem dX4_append_24 : decode cX4_append 24 = .ok (.aload_n 0, 1) := by decide +kernel
theorem dX4_append_25 : decode cX4_append 25 = .ok (.getfield 13, 3) := by decide +kernel
theorem dX4_append_28 : decode cX4_append 28 = .ok (.aload_n 0, 1) := by decide +kernel
theorem dX4_append_29 : decode cX4_append 29 = .ok (.getfield 17, 3) := by decide +kernel
theorem dX4_append_32 : decode cX4_append 32 = .ok (.lload_n 1, 1) := by decide +kernel
theorem dX4_append_33 : decode cX4_append 33 = .ok (.bipush 8, 2) := by decide +kernel
theorem dX4_append_35 : decode cX4_append 35 = .ok (.iload 4, 2) := by decide +kernel
theorem dX4_append_37 : decode cX4_append 37 = .ok (.imul, 1) := by decide +kernel
theorem dX4_append_38 : decode cX4_append 38 = .ok (.lshr, 1) := by decide +kernel
theorem dX4_append_39 : decode cX4_append 39 = .ok (.l2i, 1) := by decide +kernel
theorem dX4_append_40 : decode cX4_append 40 = .ok (.sipush 255, 3) := by decide +kernel
theorem dX4_append_43 : decode cX4_append 43 = .ok (.iand, 1) := by decide +kernel
theorem dX4_append_44 : decode cX4_append 44 = .ok (.iastore, 1) := by decide +kernel
theorem dX4_append_45 : decode cX4_append 45 = .ok (.aload_n 0, 1) := by decide +kernel
theorem dX4_append_46 : decode cX4_append 46 = .ok (.dup, 1) := by decide +kernel
theorem dX4_append_47 : decode cX4_append 47 = .ok (.getfield 17, 3) := by decide +kernel
theorem dX4_append_50 : decode cX4_append 50 = .ok (.iconst 1, 1) := by decide +kernel
theorem dX4_append_51 : decode cX4_append 51 = .ok (.iadd, 1) := by decide +kernel
theorem dX4_append_52 : decode cX4_append 52 = .ok (.putfield 17, 3) := by decide +kernel
theorem dX4_append_55 : decode cX4_append 55 = .ok (.iinc 4 (-1), 3) := by decide +kernel
theorem dX4_append_58 : decode cX4_append 58 = .ok (.goto (-39), 3) := by decide +kernel
theorem dX4_append_61 : decode cX4_append 61 = .ok (.iconst 1, 1) := by decide +kernel
theorem dX4_append_62 : decode cX4_append 62 = .ok (.ireturn, 1) := by decide +kernel
def lX4_append_19 (u4 u5 : Int)  : Nat → ZS → Int → Option (Int × ZS)
  | 0, _, _ => none
  | n1 + 1, s3, x6 => if x6 < 0 then (some (1, s3)) else ((zg s3 4 u4 0).bind (fun v8 => (zg s3 4 u4 1).bind (fun v9 => (zas s3 100 v8 v9 (iAnd (wrap (lShr u5 (wrap (8 * x6)))) 255)).bind (fun s10 => (zg s10 4 u4 1).bind (fun v11 => (zp s10 4 u4 1 (wrap (v11 + 1))).bind (fun s12 => lX4_append_19 u4 u5 n1 s12 (wrap (x6 + (-1)))))))))

def fX4_append (s0 : ZS) (a0 : Int) (a1 : Int) (a3 : Int) : Option (Int × ZS) := (zg s0 4 a0 1).bind (fun v1 => if a3 ≤ (wrap (160 - v1)) then (lX4_append_19 a0 a1 1000 s0 (wrap (a3 - 1))) else (some (0, s0)))
set_option maxHeartbeats 4000000 in
set_option maxRecDepth 100000 in
theorem mX4_append (E : ZE) (hE : zOkE E) (l : Launch) (s0 : ZS) (a0 : Int) (a1 : Int) (a3 : Int) : Ct E l yX4_append cX4_append 5 (some .boolean) 2 [(2, a0), (1, a1), (0, a3)] 4 s0 (fX4_append s0 a0 a1 a3) := by
  refine Ct.of (by decide) hE (Nat.le_of_ble_eq_true rfl) ?_
  intro X G hX hR hN hXE hXl hxn hk _
  subst hXE
  subst hXl
  have hX : G → ZOk X cX4_append RX4 2 := hX
  clear hN
  show Zj X G 0 [(0, (2, a0)), (1, (1, a1)), (3, (0, a3))] [] s0 _
  unfold fX4_append
  refine z_iload_n (pc := 0) hX 2 dX4_append_0 rfl rfl ?_
  refine z_sipush (pc := 1) hX dX4_append_1 ?_
  refine z_aload_n (pc := 4) hX 0 dX4_append_4 rfl rfl ?_
  refine z_get (pc := 5) hX zc4 1 (by decide) wd199 rfl rfl dX4_append_5 (fun v1 => ?_)
  refine z_isub (pc := 8) hX dX4_append_8 ?_
  refine z_icmp_le (pc := 9) hX 14 dX4_append_9 (by decide) (fun h2 => ?_) (fun h2 => ?_)
  · refine z_iload_n (pc := 14) hX 2 dX4_append_14 rfl rfl ?_
    refine z_iconst (pc := 15) hX dX4_append_15 ?_
    refine z_isub (pc := 16) hX dX4_append_16 ?_
    refine z_istore (lv' := [(4, (0, (wrap (a3 - 1)))), (0, (2, a0)), (1, (1, a1)), (3, (0, a3))]) (pc := 17) hX dX4_append_17 (zlt hxn rfl) rfl ?_
    have hl19 : ∀ (u4 u5 : Int), ∀ (n1 : Nat) (s3 : ZS) (x6 : Int), Zj X G 19 [(0, (2, u4)), (1, (1, u5)), (4, (0, x6))] [] s3 (lX4_append_19 u4 u5 n1 s3 x6) := by
      intro u4 u5 n1
      induction n1 with
      | zero => intro _ _; exact z_none
      | succ n1 ih1 =>
        intro s3 x6
        rw [lX4_append_19]
        refine z_iload (pc := 19) hX 2 dX4_append_19 rfl ?_
        refine z_if_lt (pc := 21) hX 61 dX4_append_21 (by decide) (fun h7 => ?_) (fun h7 => ?_)
        · refine z_iconst (pc := 61) hX dX4_append_61 ?_
          exact z_zret (pc := 62) hX hR hk dX4_append_62 (Or.inr rfl)
        · refine z_aload_n (pc := 24) hX 0 dX4_append_24 rfl rfl ?_
          refine z_get (pc := 25) hX zc4 0 (by decide) wd198 rfl rfl dX4_append_25 (fun v8 => ?_)
          refine z_aload_n (pc := 28) hX 0 dX4_append_28 rfl rfl ?_
          refine z_get (pc := 29) hX zc4 1 (by decide) wd199 rfl rfl dX4_append_29 (fun v9 => ?_)
          refine z_lload_n (pc := 32) hX 1 dX4_append_32 rfl rfl ?_
          refine z_bipush (pc := 33) hX dX4_append_33 ?_
          refine z_iload (pc := 35) hX 2 dX4_append_35 rfl ?_
          refine z_imul (pc := 37) hX dX4_append_37 ?_
          refine z_lshr (pc := 38) hX dX4_append_38 ?_
          refine z_l2iR (pc := 39) hX dX4_append_39 ?_
          refine z_sipush (pc := 40) hX dX4_append_40 ?_
          refine z_iand (pc := 43) hX dX4_append_43 ?_
          refine z_iastA (pc := 44) hX dX4_append_44 (fun s10 => ?_)
          refine z_aload_n (pc := 45) hX 0 dX4_append_45 rfl rfl ?_
          refine z_dup (pc := 46) hX zn2 dX4_append_46 ?_
          refine z_get (pc := 47) hX zc4 1 (by decide) wd199 rfl rfl dX4_append_47 (fun v11 => ?_)
          refine z_iconst (pc := 50) hX dX4_append_50 ?_
          refine z_iadd (pc := 51) hX dX4_append_51 ?_
          refine z_putA (pc := 52) hX zc4 1 (by decide) wd199 (Or.inl rfl) rfl rfl (fun _ => rfl) (fun _ => rfl) dX4_append_52 (fun s12 => ?_)
          refine z_iinc (lv' := [(4, (0, (wrap (x6 + (-1))))), (0, (2, u4)), (1, (1, u5))]) (pc := 55) hX 2 dX4_append_55 rfl (zlt hxn rfl) rfl ?_
          refine z_goto (pc := 58) hX 19 dX4_append_58 (by decide) ?_
          refine z_pick (lv' := [(0, (2, u4)), (1, (1, u5)), (4, (0, (wrap (x6 + (-1)))))]) [1, 2, 0] rfl ?_
          exact ih1 _ _
    refine z_pick (lv' := [(0, (2, a0)), (1, (1, a1)), (4, (0, (wrap (a3 - 1))))]) [1, 2, 0] rfl ?_
    refine hl19 _ _ 1000 _ _
  · refine z_iconst (pc := 12) hX dX4_append_12 ?_
    exact z_zret (pc := 13) hX hR hk dX4_append_13 (Or.inl rfl)

theorem dX11_feed_0 : decode cX11_feed 0 = .ok (.iload_n 3, 1) := by decide +kernel
theorem dX11_feed_1 : decode cX11_feed 1 = .ok (.iconst 1, 1) := by decide +kernel
theorem dX11_feed_2 : decode cX11_feed 2 = .ok (.if_icmp .lt 9, 3) := by decide +kernel
theorem dX11_feed_5 : decode cX11_feed 5 = .ok (.iload_n 3, 1) := by decide +kernel
theorem dX11_feed_6 : decode cX11_feed 6 = .ok (.bipush 8, 2) := by decide +kernel
theorem dX11_feed_8 : decode cX11_feed 8 = .ok (.if_icmp .le 6, 3) := by decide +kernel
theorem dX11_feed_11 : decode cX11_feed 11 = .ok (.bipush (-2), 2) := by decide +kernel
theorem dX11_feed_13 : decode cX11_feed 13 = .ok (.ireturn, 1) := by decide +kernel
theorem dX11_feed_14 : decode cX11_feed 14 = .ok (.aload_n 0, 1) := by decide +kernel
theorem dX11_feed_15 : decode cX11_feed 15 = .ok (.getfield 34, 3) := by decide +kernel
theorem dX11_feed_18 : decode cX11_feed 18 = .ok (.lload_n 1, 1) := by decide +kernel
theorem dX11_feed_19 : decode cX11_feed 19 = .ok (.iload_n 3, 1) := by decide +kernel
theorem dX11_feed_20 : decode cX11_feed 20 = .ok (.invokevirtual 134, 3) := by decide +kernel
theorem dX11_feed_23 : decode cX11_feed 23 = .ok (.ifCond .eq 13, 3) := by decide +kernel
theorem dX11_feed_26 : decode cX11_feed 26 = .ok (.aload_n 0, 1) := by decide +kernel
theorem dX11_feed_27 : decode cX11_feed 27 = .ok (.getfield 34, 3) := by decide +kernel
theorem dX11_feed_30 : decode cX11_feed 30 = .ok (.getfield 138, 3) := by decide +kernel
theorem dX11_feed_33 : decode cX11_feed 33 = .ok (.goto 5, 3) := by decide +kernel
theorem dX11_feed_36 : decode cX11_feed 36 = .ok (.bipush (-4), 2) := by decide +kernel
theorem dX11_feed_38 : decode cX11_feed 38 = .ok (.ireturn, 1) := by decide +kernel
def fX11_feed (s0 : ZS) (a0 : Int) (a1 : Int) (a3 : Int) : Option (Int × ZS) := if a3 < 1 then (some ((-2), s0)) else (if a3 ≤ 8 then ((zg s0 11 a0 4).bind (fun v3 => zb (zv s0 4 v3 (fX4_append s0 v3 a1 a3)) (fun v4 s5 => if v4 = 0 then (some ((-4), s5)) else ((zg s5 11 a0 4).bind (fun v8 => (zg s5 4 v8 1).bind (fun v9 => some (v9, s5))))))) else (some ((-2), s0)))
set_option maxHeartbeats 4000000 in
set_option maxRecDepth 100000 in
theorem mX11_feed (E : ZE) (hE : zOkE E) (l : Launch) (s0 : ZS) (a0 : Int) (a1 : Int) (a3 : Int) : Ct E l yX11_feed cX11_feed 4 (some .int) 4 [(2, a0), (1, a1), (0, a3)] 1 s0 (fX11_feed s0 a0 a1 a3) := by
  refine Ct.of (by decide) hE (Nat.le_of_ble_eq_true rfl) ?_
  intro X G hX hR hN hXE hXl hxn hk _
  subst hXE
  subst hXl
  have hX : G → ZOk X cX11_feed RX11 4 := hX
  clear hN
  show Zj X G 0 [(0, (2, a0)), (1, (1, a1)), (3, (0, a3))] [] s0 _
  unfold fX11_feed
  refine z_iload_n (pc := 0) hX 2 dX11_feed_0 rfl rfl ?_
  refine z_iconst (pc := 1) hX dX11_feed_1 ?_
  refine z_icmp_lt (pc := 2) hX 11 dX11_feed_2 (by decide) (fun h1 => ?_) (fun h1 => ?_)
  · refine z_bipush (pc := 11) hX dX11_feed_11 ?_
    exact z_iret (pc := 13) hX hR hk dX11_feed_13
  · refine z_iload_n (pc := 5) hX 2 dX11_feed_5 rfl rfl ?_
    refine z_bipush (pc := 6) hX dX11_feed_6 ?_
    refine z_icmp_le (pc := 8) hX 14 dX11_feed_8 (by decide) (fun h2 => ?_) (fun h2 => ?_)
    · refine z_aload_n (pc := 14) hX 0 dX11_feed_14 rfl rfl ?_
      refine z_get (pc := 15) hX zc11 4 (by decide) wd274 rfl rfl dX11_feed_15 (fun v3 => ?_)
      refine z_lload_n (pc := 18) hX 1 dX11_feed_18 rfl rfl ?_
      refine z_iload_n (pc := 19) hX 2 dX11_feed_19 rfl rfl ?_
      refine z_callV (n := 2) (st := []) (pc := 20) hX zc4 rfl (fun _ => (mX4_append _ hE _ _ _ _ _)) ⟨wd367, wd64, wd370, ⟨by decide, by decide, by decide⟩, by decide⟩ rfl wd368 wd369 rfl rfl (by decide) (Nat.le_of_ble_eq_true rfl) dX11_feed_20 (fun v4 s5 r6 => ?_)
      show Zj X G 23 [(0, (2, a0)), (1, (1, a1)), (3, (0, a3))] [(0, v4)] _ _
      refine z_if_eq (pc := 23) hX 36 dX11_feed_23 (by decide) (fun h7 => ?_) (fun h7 => ?_)
      · refine z_bipush (pc := 36) hX dX11_feed_36 ?_
        exact z_iret (pc := 38) hX hR hk dX11_feed_38
      · refine z_aload_n (pc := 26) hX 0 dX11_feed_26 rfl rfl ?_
        refine z_get (pc := 27) hX zc11 4 (by decide) wd274 rfl rfl dX11_feed_27 (fun v8 => ?_)
        refine z_get (pc := 30) hX zc4 1 (by decide) wd200 rfl rfl dX11_feed_30 (fun v9 => ?_)
        refine z_goto (pc := 33) hX 38 dX11_feed_33 (by decide) ?_
        exact z_iret (pc := 38) hX hR hk dX11_feed_38
    · refine z_bipush (pc := 11) hX dX11_feed_11 ?_
      exact z_iret (pc := 13) hX hR hk dX11_feed_13

theorem dX12_feed_0 : decode cX12_feed 0 = .ok (.iload_n 3, 1) := by decide +kernel
theorem dX12_feed_1 : decode cX12_feed 1 = .ok (.iconst 1, 1) := by decide +kernel
theorem dX12_feed_2 : decode cX12_feed 2 = .ok (.bipush 8, 2) := by decide +kernel
theorem dX12_feed_4 : decode cX12_feed 4 = .ok (.invokestatic 127, 3) := by decide +kernel
theorem dX12_feed_7 : decode cX12_feed 7 = .ok (.ifCond .ne 6, 3) := by decide +kernel
theorem dX12_feed_10 : decode cX12_feed 10 = .ok (.bipush (-2), 2) := by decide +kernel
theorem dX12_feed_12 : decode cX12_feed 12 = .ok (.ireturn, 1) := by decide +kernel
theorem dX12_feed_13 : decode cX12_feed 13 = .ok (.aload_n 0, 1) := by decide +kernel
theorem dX12_feed_14 : decode cX12_feed 14 = .ok (.getfield 145, 3) := by decide +kernel
theorem dX12_feed_17 : decode cX12_feed 17 = .ok (.iload_n 3, 1) := by decide +kernel
theorem dX12_feed_18 : decode cX12_feed 18 = .ok (.iadd, 1) := by decide +kernel
theorem dX12_feed_19 : decode cX12_feed 19 = .ok (.sipush 160, 3) := by decide +kernel
theorem dX12_feed_22 : decode cX12_feed 22 = .ok (.if_icmp .le 6, 3) := by decide +kernel
theorem dX12_feed_25 : decode cX12_feed 25 = .ok (.bipush (-4), 2) := by decide +kernel
theorem dX12_feed_27 : decode cX12_feed 27 = .ok (.ireturn, 1) := by decide +kernel
theorem dX12_feed_28 : decode cX12_feed 28 = .ok (.iload_n 3, 1) := by decide +kernel
theorem dX12_feed_29 : decode cX12_feed 29 = .ok (.iconst 1, 1) := by decide +kernel
theorem dX12_feed_30 : decode cX12_feed 30 = .ok (.isub, 1) := by decide +kernel
theorem dX12_feed_31 : decode cX12_feed 31 = .ok (.istore 4, 2) := by decide +kernel
theorem dX12_feed_33 : decode cX12_feed 33 = .ok (.iload 4, 2) := by decide +kernel
theorem dX12_feed_35 : decode cX12_feed 35 = .ok (.ifCond .lt 40, 3) := by decide +kernel
theorem dX12_feed_38 : decode cX12_feed 38 = .ok (.aload_n 0, 1) := by decide +kernel
theorem dX12_feed_39 : decode cX12_feed 39 = .ok (.getfield 37, 3) := by decide +kernel
theorem dX12_feed_42 : decode cX12_feed 42 = .ok (.aload_n 0, 1) := by decide +kernel
theorem dX12_feed_43 : decode cX12_feed 43 = .ok (.getfield 145, 3) := by decide +kernel
theorem dX12_feed_46 : decode cX12_feed 46 = .ok (.lload_n 1, 1) := by decide +kernel
theorem dX12_feed_47 : decode cX12_feed 47 = .ok (.bipush 8, 2) := by decide +kernel
theorem dX12_feed_49 : decode cX12_feed 49 = .ok (.iload 4, 2) := by decide +kernel
theorem dX12_feed_51 : decode cX12_feed 51 = .ok (.imul, 1) := by decide +kernel
theorem dX12_feed_52 : decode cX12_feed 52 = .ok (.lshr, 1) := by decide +kernel
theorem dX12_feed_53 : decode cX12_feed 53 = .ok (.ldc2_w 148, 3) := by decide +kernel
theorem dX12_feed_56 : decode cX12_feed 56 = .ok (.land, 1) := by decide +kernel
theorem dX12_feed_57 : decode cX12_feed 57 = .ok (.l2i, 1) := by decide +kernel
theorem dX12_feed_58 : decode cX12_feed 58 = .ok (.iastore, 1) := by decide +kernel
theorem dX12_feed_59 : decode cX12_feed 59 = .ok (.aload_n 0, 1) := by decide +kernel
theorem dX12_feed_60 : decode cX12_feed 60 = .ok (.dup, 1) := by decide +kernel
theorem dX12_feed_61 : decode cX12_feed 61 = .ok (.getfield 145, 3) := by decide +kernel
theorem dX12_feed_64 : decode cX12_feed 64 = .ok (.iconst 1, 1) := by decide +kernel
theorem dX12_feed_65 : decode cX12_feed 65 = .ok (.iadd, 1) := by decide +kernel
theorem dX12_feed_66 : decode cX12_feed 66 = .ok (.putfield 145, 3) := by decide +kernel
theorem dX12_feed_69 : decode cX12_feed 69 = .ok (.iinc 4 (-1), 3) := by decide +kernel
theorem dX12_feed_72 : decode cX12_feed 72 = .ok (.goto (-39), 3) := by decide +kernel
theorem dX12_feed_75 : decode cX12_feed 75 = .ok (.aload_n 0, 1) := by decide +kernel
theorem dX12_feed_76 : decode cX12_feed 76 = .ok (.getfield 145, 3) := by decide +kernel
theorem dX12_feed_79 : decode cX12_feed 79 = .ok (.ireturn, 1) := by decide +kernel
def lX12_feed_33 (u8 u9 : Int)  : Nat → ZS → Int → Option (Int × ZS)
  | 0, _, _ => none
  | n1 + 1, s7, x10 => if x10 < 0 then ((zg s7 12 u8 13).bind (fun v12 => some (v12, s7))) else ((zg s7 12 u8 12).bind (fun v13 => (zg s7 12 u8 13).bind (fun v14 => (zas s7 100 v13 v14 (wrap (lAnd (lShr u9 (wrap (8 * x10))) 255))).bind (fun s15 => (zg s15 12 u8 13).bind (fun v16 => (zp s15 12 u8 13 (wrap (v16 + 1))).bind (fun s17 => lX12_feed_33 u8 u9 n1 s17 (wrap (x10 + (-1)))))))))

def fX12_feed (s0 : ZS) (a0 : Int) (a1 : Int) (a3 : Int) : Option (Int × ZS) := zb (fX12_in s0 a3 1 8) (fun v1 s2 => if v1 = 0 then (some ((-2), s2)) else ((zg s2 12 a0 13).bind (fun v5 => if (wrap (v5 + a3)) ≤ 160 then (lX12_feed_33 a0 a1 1000 s2 (wrap (a3 - 1))) else (some ((-4), s2)))))
set_option maxHeartbeats 4000000 in
set_option maxRecDepth 100000 in
theorem mX12_feed (E : ZE) (hE : zOkE E) (l : Launch) (s0 : ZS) (a0 : Int) (a1 : Int) (a3 : Int) : Ct E l yX12_feed cX12_feed 5 (some .int) 4 [(2, a0), (1, a1), (0, a3)] 1 s0 (fX12_feed s0 a0 a1 a3) := by
  refine Ct.of (by decide) hE (Nat.le_of_ble_eq_true rfl) ?_
  intro X G hX hR hN hXE hXl hxn hk _
  subst hXE
  subst hXl
  have hX : G → ZOk X cX12_feed RX12 4 := hX
  clear hN
  show Zj X G 0 [(0, (2, a0)), (1, (1, a1)), (3, (0, a3))] [] s0 _
  unfold fX12_feed
  refine z_iload_n (pc := 0) hX 2 dX12_feed_0 rfl rfl ?_
  refine z_iconst (pc := 1) hX dX12_feed_1 ?_
  refine z_bipush (pc := 2) hX dX12_feed_2 ?_
  refine z_callS (n := 3) (st := []) (pc := 4) hX (mX12_in _ hE _ _ _ _ _) ⟨wd1173, wd67, wd1175, ⟨by decide, by decide, by decide⟩, by decide⟩ wd1174 rfl rfl (by decide) (Nat.le_of_ble_eq_true rfl) dX12_feed_4 (fun v1 s2 r3 => ?_)
  show Zj X G 7 [(0, (2, a0)), (1, (1, a1)), (3, (0, a3))] [(0, v1)] _ _
  refine z_if_ne (pc := 7) hX 13 dX12_feed_7 (by decide) (fun h4 => ?_) (fun h4 => ?_)
  · refine z_aload_n (pc := 13) hX 0 dX12_feed_13 rfl rfl ?_
    refine z_get (pc := 14) hX zc12 13 (by decide) wd1030 rfl rfl dX12_feed_14 (fun v5 => ?_)
    refine z_iload_n (pc := 17) hX 2 dX12_feed_17 rfl rfl ?_
    refine z_iadd (pc := 18) hX dX12_feed_18 ?_
    refine z_sipush (pc := 19) hX dX12_feed_19 ?_
    refine z_icmp_le (pc := 22) hX 28 dX12_feed_22 (by decide) (fun h6 => ?_) (fun h6 => ?_)
    · refine z_iload_n (pc := 28) hX 2 dX12_feed_28 rfl rfl ?_
      refine z_iconst (pc := 29) hX dX12_feed_29 ?_
      refine z_isub (pc := 30) hX dX12_feed_30 ?_
      refine z_istore (lv' := [(4, (0, (wrap (a3 - 1)))), (0, (2, a0)), (1, (1, a1)), (3, (0, a3))]) (pc := 31) hX dX12_feed_31 (zlt hxn rfl) rfl ?_
      have hl33 : ∀ (u8 u9 : Int), ∀ (n1 : Nat) (s7 : ZS) (x10 : Int), Zj X G 33 [(0, (2, u8)), (1, (1, u9)), (4, (0, x10))] [] s7 (lX12_feed_33 u8 u9 n1 s7 x10) := by
        intro u8 u9 n1
        induction n1 with
        | zero => intro _ _; exact z_none
        | succ n1 ih1 =>
          intro s7 x10
          rw [lX12_feed_33]
          refine z_iload (pc := 33) hX 2 dX12_feed_33 rfl ?_
          refine z_if_lt (pc := 35) hX 75 dX12_feed_35 (by decide) (fun h11 => ?_) (fun h11 => ?_)
          · refine z_aload_n (pc := 75) hX 0 dX12_feed_75 rfl rfl ?_
            refine z_get (pc := 76) hX zc12 13 (by decide) wd1030 rfl rfl dX12_feed_76 (fun v12 => ?_)
            exact z_iret (pc := 79) hX hR hk dX12_feed_79
          · refine z_aload_n (pc := 38) hX 0 dX12_feed_38 rfl rfl ?_
            refine z_get (pc := 39) hX zc12 12 (by decide) wd1029 rfl rfl dX12_feed_39 (fun v13 => ?_)
            refine z_aload_n (pc := 42) hX 0 dX12_feed_42 rfl rfl ?_
            refine z_get (pc := 43) hX zc12 13 (by decide) wd1030 rfl rfl dX12_feed_43 (fun v14 => ?_)
            refine z_lload_n (pc := 46) hX 1 dX12_feed_46 rfl rfl ?_
            refine z_bipush (pc := 47) hX dX12_feed_47 ?_
            refine z_iload (pc := 49) hX 2 dX12_feed_49 rfl ?_
            refine z_imul (pc := 51) hX dX12_feed_51 ?_
            refine z_lshr (pc := 52) hX dX12_feed_52 ?_
            refine z_ldc2 (n := 255) (pc := 53) hX dX12_feed_53 wd1208 (by decide) ?_
            refine z_land (pc := 56) hX dX12_feed_56 ?_
            refine z_l2iR (pc := 57) hX dX12_feed_57 ?_
            refine z_iastA (pc := 58) hX dX12_feed_58 (fun s15 => ?_)
            refine z_aload_n (pc := 59) hX 0 dX12_feed_59 rfl rfl ?_
            refine z_dup (pc := 60) hX zn2 dX12_feed_60 ?_
            refine z_get (pc := 61) hX zc12 13 (by decide) wd1030 rfl rfl dX12_feed_61 (fun v16 => ?_)
            refine z_iconst (pc := 64) hX dX12_feed_64 ?_
            refine z_iadd (pc := 65) hX dX12_feed_65 ?_
            refine z_putA (pc := 66) hX zc12 13 (by decide) wd1030 (Or.inl rfl) rfl rfl (fun _ => rfl) (fun _ => rfl) dX12_feed_66 (fun s17 => ?_)
            refine z_iinc (lv' := [(4, (0, (wrap (x10 + (-1))))), (0, (2, u8)), (1, (1, u9))]) (pc := 69) hX 2 dX12_feed_69 rfl (zlt hxn rfl) rfl ?_
            refine z_goto (pc := 72) hX 33 dX12_feed_72 (by decide) ?_
            refine z_pick (lv' := [(0, (2, u8)), (1, (1, u9)), (4, (0, (wrap (x10 + (-1)))))]) [1, 2, 0] rfl ?_
            exact ih1 _ _
      refine z_pick (lv' := [(0, (2, a0)), (1, (1, a1)), (4, (0, (wrap (a3 - 1))))]) [1, 2, 0] rfl ?_
      refine hl33 _ _ 1000 _ _
    · refine z_bipush (pc := 25) hX dX12_feed_25 ?_
      exact z_iret (pc := 27) hX hR hk dX12_feed_27
  · refine z_bipush (pc := 10) hX dX12_feed_10 ?_
    exact z_iret (pc := 12) hX hR hk dX12_feed_12

theorem dX4_lookOf_0 : decode cX4_lookOf 0 = .ok (.iload_n 0, 1) := by decide +kernel
theorem dX4_lookOf_1 : decode cX4_lookOf 1 = .ok (.bipush 32, 2) := by decide +kernel
theorem dX4_lookOf_3 : decode cX4_lookOf 3 = .ok (.if_icmp .eq 9, 3) := by decide +kernel
theorem dX4_lookOf_6 : decode cX4_lookOf 6 = .ok (.iload_n 0, 1) := by decide +kernel
theorem dX4_lookOf_7 : decode cX4_lookOf 7 = .ok (.bipush 10, 2) := by decide +kernel
theorem dX4_lookOf_9 : decode cX4_lookOf 9 = .ok (.if_icmp .ne 5, 3) := by decide +kernel
theorem dX4_lookOf_12 : decode cX4_lookOf 12 = .ok (.iconst 0, 1) := by decide +kernel
theorem dX4_lookOf_13 : decode cX4_lookOf 13 = .ok (.ireturn, 1) := by decide +kernel
theorem dX4_lookOf_14 : decode cX4_lookOf 14 = .ok (.iload_n 0, 1) := by decide +kernel
theorem dX4_lookOf_15 : decode cX4_lookOf 15 = .ok (.bipush 97, 2) := by decide +kernel
theorem dX4_lookOf_17 : decode cX4_lookOf 17 = .ok (.if_icmp .lt 11, 3) := by decide +kernel
theorem dX4_lookOf_20 : decode cX4_lookOf 20 = .ok (.iload_n 0, 1) := by decide +kernel
theorem dX4_lookOf_21 : decode cX4_lookOf 21 = .ok (.bipush 122, 2) := by decide +kernel
theorem dX4_lookOf_23 : decode cX4_lookOf 23 = .ok (.if_icmp .gt 5, 3) := by decide +kernel
theorem dX4_lookOf_26 : decode cX4_lookOf 26 = .ok (.iconst 1, 1) := by decide +kernel
theorem dX4_lookOf_27 : decode cX4_lookOf 27 = .ok (.ireturn, 1) := by decide +kernel
theorem dX4_lookOf_28 : decode cX4_lookOf 28 = .ok (.iload_n 0, 1) := by decide +kernel
theorem dX4_lookOf_29 : decode cX4_lookOf 29 = .ok (.bipush 48, 2) := by decide +kernel
theorem dX4_lookOf_31 : decode cX4_lookOf 31 = .ok (.if_icmp .lt 13, 3) := by decide +kernel
theorem dX4_lookOf_34 : decode cX4_lookOf 34 = .ok (.iload_n 0, 1) := by decide +kernel
theorem dX4_lookOf_35 : decode cX4_lookOf 35 = .ok (.bipush 57, 2) := by decide +kernel
theorem dX4_lookOf_37 : decode cX4_lookOf 37 = .ok (.if_icmp .gt 7, 3) := by decide +kernel
theorem dX4_lookOf_40 : decode cX4_lookOf 40 = .ok (.iconst 2, 1) := by decide +kernel
theorem dX4_lookOf_41 : decode cX4_lookOf 41 = .ok (.goto 4, 3) := by decide +kernel
theorem dX4_lookOf_44 : decode cX4_lookOf 44 = .ok (.iconst 3, 1) := by decide +kernel
theorem dX4_lookOf_45 : decode cX4_lookOf 45 = .ok (.ireturn, 1) := by decide +kernel
def fX4_lookOf (s0 : ZS) (a0 : Int) : Option (Int × ZS) := if a0 = 32 then (some (0, s0)) else (if a0 = 10 then (some (0, s0)) else (zjn (fun (K28 : ZS → Option (Int × ZS)) => if a0 < 97 then (K28 s0) else (if 122 < a0 then (K28 s0) else (some (1, s0)))) (fun (s5 : ZS) => if a0 < 48 then (some (3, s5)) else (if 57 < a0 then (some (3, s5)) else (some (2, s5))))))
set_option maxHeartbeats 4000000 in
set_option maxRecDepth 100000 in
theorem mX4_lookOf (E : ZE) (hE : zOkE E) (l : Launch) (s0 : ZS) (a0 : Int) : Ct E l yX4_lookOf cX4_lookOf 1 (some .int) 2 [(0, a0)] 1 s0 (fX4_lookOf s0 a0) := by
  refine Ct.of (by decide) hE (Nat.le_of_ble_eq_true rfl) ?_
  intro X G hX hR hN hXE hXl hxn hk _
  subst hXE
  subst hXl
  have hX : G → ZOk X cX4_lookOf RX4 2 := hX
  clear hN
  show Zj X G 0 [(0, (0, a0))] [] s0 _
  unfold fX4_lookOf
  refine z_iload_n (pc := 0) hX 0 dX4_lookOf_0 rfl rfl ?_
  refine z_bipush (pc := 1) hX dX4_lookOf_1 ?_
  refine z_icmp_eq (pc := 3) hX 12 dX4_lookOf_3 (by decide) (fun h1 => ?_) (fun h1 => ?_)
  · refine z_iconst (pc := 12) hX dX4_lookOf_12 ?_
    exact z_iret (pc := 13) hX hR hk dX4_lookOf_13
  · refine z_iload_n (pc := 6) hX 0 dX4_lookOf_6 rfl rfl ?_
    refine z_bipush (pc := 7) hX dX4_lookOf_7 ?_
    refine z_icmp_ne (pc := 9) hX 14 dX4_lookOf_9 (by decide) (fun h2 => ?_) (fun h2 => ?_)
    · refine z_iload_n (pc := 14) hX 0 dX4_lookOf_14 rfl rfl ?_
      refine z_bipush (pc := 15) hX dX4_lookOf_15 ?_
      refine z_jn (fun K28 eK28 => ?_)
      have hK28 : ∀ (s5 : ZS), Zj X G 28 [(0, (0, a0))] [] s5 (K28 s5) := by
        intro s5
        rw [eK28]
        refine z_iload_n (pc := 28) hX 0 dX4_lookOf_28 rfl rfl ?_
        refine z_bipush (pc := 29) hX dX4_lookOf_29 ?_
        refine z_icmp_lt (pc := 31) hX 44 dX4_lookOf_31 (by decide) (fun h6 => ?_) (fun h6 => ?_)
        · refine z_iconst (pc := 44) hX dX4_lookOf_44 ?_
          exact z_iret (pc := 45) hX hR hk dX4_lookOf_45
        · refine z_iload_n (pc := 34) hX 0 dX4_lookOf_34 rfl rfl ?_
          refine z_bipush (pc := 35) hX dX4_lookOf_35 ?_
          refine z_icmp_gt (pc := 37) hX 44 dX4_lookOf_37 (by decide) (fun h7 => ?_) (fun h7 => ?_)
          · refine z_iconst (pc := 44) hX dX4_lookOf_44 ?_
            exact z_iret (pc := 45) hX hR hk dX4_lookOf_45
          · refine z_iconst (pc := 40) hX dX4_lookOf_40 ?_
            refine z_goto (pc := 41) hX 45 dX4_lookOf_41 (by decide) ?_
            exact z_iret (pc := 45) hX hR hk dX4_lookOf_45
      clear eK28
      refine z_icmp_lt (pc := 17) hX 28 dX4_lookOf_17 (by decide) (fun h3 => ?_) (fun h3 => ?_)
      · exact hK28 _
      · refine z_iload_n (pc := 20) hX 0 dX4_lookOf_20 rfl rfl ?_
        refine z_bipush (pc := 21) hX dX4_lookOf_21 ?_
        refine z_icmp_gt (pc := 23) hX 28 dX4_lookOf_23 (by decide) (fun h4 => ?_) (fun h4 => ?_)
        · exact hK28 _
        · refine z_iconst (pc := 26) hX dX4_lookOf_26 ?_
          exact z_iret (pc := 27) hX hR hk dX4_lookOf_27
    · refine z_iconst (pc := 12) hX dX4_lookOf_12 ?_
      exact z_iret (pc := 13) hX hR hk dX4_lookOf_13

theorem dJ0_coder_7d493_0 : decode cJ0_coder_7d493 0 = .ok (.getstatic 38, 3) := by decide +kernel
theorem dJ0_coder_7d493_3 : decode cJ0_coder_7d493 3 = .ok (.ifCond .eq 10, 3) := by decide +kernel
theorem dJ0_coder_7d493_6 : decode cJ0_coder_7d493 6 = .ok (.aload_n 0, 1) := by decide +kernel
theorem dJ0_coder_7d493_7 : decode cJ0_coder_7d493 7 = .ok (.getfield 15, 3) := by decide +kernel
theorem dJ0_coder_7d493_10 : decode cJ0_coder_7d493 10 = .ok (.goto 4, 3) := by decide +kernel
theorem dJ0_coder_7d493_14 : decode cJ0_coder_7d493 14 = .ok (.ireturn, 1) := by decide +kernel
def fJ0_coder_7d493 (s0 : ZS) (i : Nat) : Option (Int × ZS) := some (0, s0)
set_option maxHeartbeats 4000000 in
set_option maxRecDepth 100000 in
theorem mJ0_coder_7d493 (E : ZE) (hE : zOkE E) (l : Launch) (s0 : ZS) (i : Nat) (hi : i < 2) : Ct E l yJ0_coder_7d493 cJ0_coder_7d493 1 (some .byte) 2 [(3, (eS E i : Int))] 1 s0 (fJ0_coder_7d493 s0 i) := by
  refine Ct.of (by decide) hE (Nat.le_of_ble_eq_true rfl) ?_
  intro X G hX hR hN hXE hXl hxn hk _
  subst hXE
  subst hXl
  have hX : G → ZOk X cJ0_coder_7d493 RJ0 2 := hX
  clear hN
  show Zj X G 0 [(0, (3, (eS (xE X) i : Int)))] [] s0 _
  unfold fJ0_coder_7d493
  refine z_compact (pc := 0) hX wd399 dJ0_coder_7d493_0 ?_
  refine z_eq (if_neg (show ¬ (1 : Int) = 0 by decide)).symm (z_if_eq (O1 := none) (pc := 3) hX 13 dJ0_coder_7d493_3 (by decide) (fun h1 => absurd h1 (by decide)) (fun h1 => ?_))
  refine z_aload3_n (pc := 6) hX 0 dJ0_coder_7d493_6 rfl rfl ?_
  refine z_coder (pc := 7) hX hi wd1454 dJ0_coder_7d493_7 ?_
  refine z_goto (pc := 10) hX 14 dJ0_coder_7d493_10 (by decide) ?_
  exact z_bret (pc := 14) hX hR hk dJ0_coder_7d493_14 (by decide)

theorem dJ0_length_8abf5_0 : decode cJ0_length_8abf5 0 = .ok (.aload_n 0, 1) := by decide +kernel
theorem dJ0_length_8abf5_1 : decode cJ0_length_8abf5 1 = .ok (.getfield 9, 3) := by decide +kernel
theorem dJ0_length_8abf5_4 : decode cJ0_length_8abf5 4 = .ok (.arraylength, 1) := by decide +kernel
theorem dJ0_length_8abf5_5 : decode cJ0_length_8abf5 5 = .ok (.aload_n 0, 1) := by decide +kernel
theorem dJ0_length_8abf5_6 : decode cJ0_length_8abf5 6 = .ok (.invokevirtual 335, 3) := by decide +kernel
theorem dJ0_length_8abf5_9 : decode cJ0_length_8abf5 9 = .ok (.ishr, 1) := by decide +kernel
theorem dJ0_length_8abf5_10 : decode cJ0_length_8abf5 10 = .ok (.ireturn, 1) := by decide +kernel
def fJ0_length_8abf5 (s0 : ZS) (i : Nat) : Option (Int × ZS) := zb (fJ0_coder_7d493 s0 i) (fun v1 s2 => some ((iShr (zLen.getD i 0 : Int) v1), s2))
set_option maxHeartbeats 4000000 in
set_option maxRecDepth 100000 in
theorem mJ0_length_8abf5 (E : ZE) (hE : zOkE E) (l : Launch) (s0 : ZS) (i : Nat) (hi : i < 2) : Ct E l yJ0_length_8abf5 cJ0_length_8abf5 1 (some .int) 4 [(3, (eS E i : Int))] 1 s0 (fJ0_length_8abf5 s0 i) := by
  refine Ct.of (by decide) hE (Nat.le_of_ble_eq_true rfl) ?_
  intro X G hX hR hN hXE hXl hxn hk _
  subst hXE
  subst hXl
  have hX : G → ZOk X cJ0_length_8abf5 RJ0 4 := hX
  clear hN
  show Zj X G 0 [(0, (3, (eS (xE X) i : Int)))] [] s0 _
  unfold fJ0_length_8abf5
  refine z_aload3_n (pc := 0) hX 0 dJ0_length_8abf5_0 rfl rfl ?_
  refine z_value (pc := 1) hX hi wd1453 dJ0_length_8abf5_1 ?_
  refine z_blen (pc := 4) hX hi dJ0_length_8abf5_4 ?_
  refine z_aload3_n (pc := 5) hX 0 dJ0_length_8abf5_5 rfl rfl ?_
  refine z_callV3 (n := 0) (st := [(0, (zLen.getD i 0 : Int))]) (pc := 6) hX hi rfl (mJ0_coder_7d493 _ hE _ _ _ hi) ⟨wd395, wd68, wd398, ⟨by decide, by decide, by decide⟩, by decide⟩ rfl wd396 wd397 rfl rfl (by decide) (Nat.le_of_ble_eq_true rfl) dJ0_length_8abf5_6 (fun v1 s2 r3 => ?_)
  show Zj X G 9 [(0, (3, (eS (xE X) i : Int)))] [(0, v1), (0, (zLen.getD i 0 : Int))] _ _
  refine z_ishr (pc := 9) hX dJ0_length_8abf5_9 ?_
  exact z_iret (pc := 10) hX hR hk dJ0_length_8abf5_10

theorem dJ0_isLatin1_aae02_0 : decode cJ0_isLatin1_aae02 0 = .ok (.getstatic 38, 3) := by decide +kernel
theorem dJ0_isLatin1_aae02_3 : decode cJ0_isLatin1_aae02 3 = .ok (.ifCond .eq 14, 3) := by decide +kernel
theorem dJ0_isLatin1_aae02_6 : decode cJ0_isLatin1_aae02 6 = .ok (.aload_n 0, 1) := by decide +kernel
theorem dJ0_isLatin1_aae02_7 : decode cJ0_isLatin1_aae02 7 = .ok (.getfield 15, 3) := by decide +kernel
theorem dJ0_isLatin1_aae02_10 : decode cJ0_isLatin1_aae02 10 = .ok (.ifCond .ne 7, 3) := by decide +kernel
theorem dJ0_isLatin1_aae02_13 : decode cJ0_isLatin1_aae02 13 = .ok (.iconst 1, 1) := by decide +kernel
theorem dJ0_isLatin1_aae02_14 : decode cJ0_isLatin1_aae02 14 = .ok (.goto 4, 3) := by decide +kernel
theorem dJ0_isLatin1_aae02_18 : decode cJ0_isLatin1_aae02 18 = .ok (.ireturn, 1) := by decide +kernel
def fJ0_isLatin1_aae02 (s0 : ZS) (i : Nat) : Option (Int × ZS) := some (1, s0)
set_option maxHeartbeats 4000000 in
set_option maxRecDepth 100000 in
theorem mJ0_isLatin1_aae02 (E : ZE) (hE : zOkE E) (l : Launch) (s0 : ZS) (i : Nat) (hi : i < 2) : Ct E l yJ0_isLatin1_aae02 cJ0_isLatin1_aae02 1 (some .boolean) 2 [(3, (eS E i : Int))] 4 s0 (fJ0_isLatin1_aae02 s0 i) := by
  refine Ct.of (by decide) hE (Nat.le_of_ble_eq_true rfl) ?_
  intro X G hX hR hN hXE hXl hxn hk _
  subst hXE
  subst hXl
  have hX : G → ZOk X cJ0_isLatin1_aae02 RJ0 2 := hX
  clear hN
  show Zj X G 0 [(0, (3, (eS (xE X) i : Int)))] [] s0 _
  unfold fJ0_isLatin1_aae02
  refine z_compact (pc := 0) hX wd399 dJ0_isLatin1_aae02_0 ?_
  refine z_eq (if_neg (show ¬ (1 : Int) = 0 by decide)).symm (z_if_eq (O1 := none) (pc := 3) hX 17 dJ0_isLatin1_aae02_3 (by decide) (fun h1 => absurd h1 (by decide)) (fun h1 => ?_))
  refine z_aload3_n (pc := 6) hX 0 dJ0_isLatin1_aae02_6 rfl rfl ?_
  refine z_coder (pc := 7) hX hi wd1454 dJ0_isLatin1_aae02_7 ?_
  refine z_eq (if_pos (show (0 : Int) = 0 by decide)).symm (z_if_ne (O1 := none) (pc := 10) hX 17 dJ0_isLatin1_aae02_10 (by decide) (fun h2 => absurd h2 (by decide)) (fun h2 => ?_))
  refine z_iconst (pc := 13) hX dJ0_isLatin1_aae02_13 ?_
  refine z_goto (pc := 14) hX 18 dJ0_isLatin1_aae02_14 (by decide) ?_
  exact z_zret (pc := 18) hX hR hk dJ0_isLatin1_aae02_18 (Or.inr rfl)

theorem dJ3_checkIndex_8e157_0 : decode cJ3_checkIndex_8e157 0 = .ok (.iload_n 0, 1) := by decide +kernel
theorem dJ3_checkIndex_8e157_1 : decode cJ3_checkIndex_8e157 1 = .ok (.ifCond .lt 8, 3) := by decide +kernel
theorem dJ3_checkIndex_8e157_4 : decode cJ3_checkIndex_8e157 4 = .ok (.iload_n 0, 1) := by decide +kernel
theorem dJ3_checkIndex_8e157_5 : decode cJ3_checkIndex_8e157 5 = .ok (.iload_n 1, 1) := by decide +kernel
theorem dJ3_checkIndex_8e157_6 : decode cJ3_checkIndex_8e157 6 = .ok (.if_icmp .lt 10, 3) := by decide +kernel
theorem dJ3_checkIndex_8e157_9 : decode cJ3_checkIndex_8e157 9 = .ok (.aload_n 2, 1) := by decide +kernel
theorem dJ3_checkIndex_8e157_10 : decode cJ3_checkIndex_8e157 10 = .ok (.iload_n 0, 1) := by decide +kernel
theorem dJ3_checkIndex_8e157_11 : decode cJ3_checkIndex_8e157 11 = .ok (.iload_n 1, 1) := by decide +kernel
theorem dJ3_checkIndex_8e157_12 : decode cJ3_checkIndex_8e157 12 = .ok (.invokestatic 95, 3) := by decide +kernel
theorem dJ3_checkIndex_8e157_16 : decode cJ3_checkIndex_8e157 16 = .ok (.iload_n 0, 1) := by decide +kernel
theorem dJ3_checkIndex_8e157_17 : decode cJ3_checkIndex_8e157 17 = .ok (.ireturn, 1) := by decide +kernel
def fJ3_checkIndex_8e157 (s0 : ZS) (a0 : Int) (a1 : Int) : Option (Int × ZS) := zjn (fun (K9 : ZS → Option (Int × ZS)) => if a0 < 0 then (K9 s0) else (if a0 < a1 then (some (a0, s0)) else (K9 s0))) (fun (s3 : ZS) => none)
set_option maxHeartbeats 4000000 in
set_option maxRecDepth 100000 in
theorem mJ3_checkIndex_8e157 (E : ZE) (hE : zOkE E) (l : Launch) (s0 : ZS) (a0 : Int) (a1 : Int) : Ct E l yJ3_checkIndex_8e157 cJ3_checkIndex_8e157 3 (some .int) 2 [(0, a0), (0, a1), eF E] 1 s0 (fJ3_checkIndex_8e157 s0 a0 a1) := by
  refine Ct.of (by decide) hE (zslF hE [(0, a0), (0, a1)] (Nat.le_of_ble_eq_true rfl)) ?_
  intro X G hX hR hN hXE hXl hxn hk _
  subst hXE
  subst hXl
  have hX : G → ZOk X cJ3_checkIndex_8e157 RJ3 2 := hX
  clear hN
  show Zj X G 0 [(0, (0, a0)), (1, (0, a1)), (2, (eF (xE X)))] [] s0 _
  unfold fJ3_checkIndex_8e157
  refine z_iload_n (pc := 0) hX 0 dJ3_checkIndex_8e157_0 rfl rfl ?_
  refine z_jn (fun K9 eK9 => ?_)
  have hK9 : ∀ (s3 : ZS), Zj X G 9 [(0, (0, a0)), (1, (0, a1)), (2, (eF (xE X)))] [] s3 (K9 s3) := by
    intro s3
    rw [eK9]
    refine z_aloadF_n (pc := 9) hX hE 2 dJ3_checkIndex_8e157_9 rfl rfl ?_
    refine z_iload_n (pc := 10) hX 0 dJ3_checkIndex_8e157_10 rfl rfl ?_
    refine z_iload_n (pc := 11) hX 1 dJ3_checkIndex_8e157_11 rfl rfl ?_
    exact z_none
  clear eK9
  refine z_if_lt (pc := 1) hX 9 dJ3_checkIndex_8e157_1 (by decide) (fun h1 => ?_) (fun h1 => ?_)
  · exact hK9 _
  · refine z_iload_n (pc := 4) hX 0 dJ3_checkIndex_8e157_4 rfl rfl ?_
    refine z_iload_n (pc := 5) hX 1 dJ3_checkIndex_8e157_5 rfl rfl ?_
    refine z_icmp_lt (pc := 6) hX 16 dJ3_checkIndex_8e157_6 (by decide) (fun h2 => ?_) (fun h2 => ?_)
    · refine z_iload_n (pc := 16) hX 0 dJ3_checkIndex_8e157_16 rfl rfl ?_
      exact z_iret (pc := 17) hX hR hk dJ3_checkIndex_8e157_17
    · exact hK9 _

theorem dJ0_checkIndex_df160_0 : decode cJ0_checkIndex_df160 0 = .ok (.iload_n 0, 1) := by decide +kernel
theorem dJ0_checkIndex_df160_1 : decode cJ0_checkIndex_df160 1 = .ok (.iload_n 1, 1) := by decide +kernel
theorem dJ0_checkIndex_df160_2 : decode cJ0_checkIndex_df160 2 = .ok (.getstatic 1053, 3) := by decide +kernel
theorem dJ0_checkIndex_df160_5 : decode cJ0_checkIndex_df160 5 = .ok (.invokestatic 1059, 3) := by decide +kernel
theorem dJ0_checkIndex_df160_8 : decode cJ0_checkIndex_df160 8 = .ok (.pop, 1) := by decide +kernel
theorem dJ0_checkIndex_df160_9 : decode cJ0_checkIndex_df160 9 = .ok (.return_, 1) := by decide +kernel
def fJ0_checkIndex_df160 (s0 : ZS) (a0 : Int) (a1 : Int) : Option (Int × ZS) := zb (fJ3_checkIndex_8e157 s0 a0 a1) (fun v1 s2 => some (0, s2))
set_option maxHeartbeats 4000000 in
set_option maxRecDepth 100000 in
theorem mJ0_checkIndex_df160 (E : ZE) (hE : zOkE E) (l : Launch) (s0 : ZS) (a0 : Int) (a1 : Int) : Ct E l yJ0_checkIndex_df160 cJ0_checkIndex_df160 2 none 4 [(0, a0), (0, a1)] 0 s0 (fJ0_checkIndex_df160 s0 a0 a1) := by
  refine Ct.of (by decide) hE (Nat.le_of_ble_eq_true rfl) ?_
  intro X G hX hR hN hXE hXl hxn hk _
  subst hXE
  subst hXl
  have hX : G → ZOk X cJ0_checkIndex_df160 RJ0 4 := hX
  clear hN
  show Zj X G 0 [(0, (0, a0)), (1, (0, a1))] [] s0 _
  unfold fJ0_checkIndex_df160
  refine z_iload_n (pc := 0) hX 0 dJ0_checkIndex_df160_0 rfl rfl ?_
  refine z_iload_n (pc := 1) hX 1 dJ0_checkIndex_df160_1 rfl rfl ?_
  refine z_fmt (pc := 2) hX hE wd415 dJ0_checkIndex_df160_2 ?_
  refine z_callS (n := 3) (st := []) (pc := 5) hX (mJ3_checkIndex_8e157 _ hE _ _ _ _) ⟨wd417, wd70, wd419, ⟨by decide, by decide, by decide⟩, by decide⟩ wd418 rfl rfl (by decide) (Nat.le_of_ble_eq_true rfl) dJ0_checkIndex_df160_5 (fun v1 s2 r3 => ?_)
  show Zj X G 8 [(0, (0, a0)), (1, (0, a1))] [(0, v1)] _ _
  refine z_pop (pc := 8) hX zn0 dJ0_checkIndex_df160_8 ?_
  exact z_vret (pc := 9) hX hR hk dJ0_checkIndex_df160_9

theorem dJ1_charAt_3b067_0 : decode cJ1_charAt_3b067 0 = .ok (.iload_n 1, 1) := by decide +kernel
theorem dJ1_charAt_3b067_1 : decode cJ1_charAt_3b067 1 = .ok (.aload_n 0, 1) := by decide +kernel
theorem dJ1_charAt_3b067_2 : decode cJ1_charAt_3b067 2 = .ok (.arraylength, 1) := by decide +kernel
theorem dJ1_charAt_3b067_3 : decode cJ1_charAt_3b067 3 = .ok (.invokestatic 9, 3) := by decide +kernel
theorem dJ1_charAt_3b067_6 : decode cJ1_charAt_3b067 6 = .ok (.aload_n 0, 1) := by decide +kernel
theorem dJ1_charAt_3b067_7 : decode cJ1_charAt_3b067 7 = .ok (.iload_n 1, 1) := by decide +kernel
theorem dJ1_charAt_3b067_8 : decode cJ1_charAt_3b067 8 = .ok (.baload, 1) := by decide +kernel
theorem dJ1_charAt_3b067_9 : decode cJ1_charAt_3b067 9 = .ok (.sipush 255, 3) := by decide +kernel
theorem dJ1_charAt_3b067_12 : decode cJ1_charAt_3b067 12 = .ok (.iand, 1) := by decide +kernel
theorem dJ1_charAt_3b067_13 : decode cJ1_charAt_3b067 13 = .ok (.i2c, 1) := by decide +kernel
theorem dJ1_charAt_3b067_14 : decode cJ1_charAt_3b067 14 = .ok (.ireturn, 1) := by decide +kernel
def fJ1_charAt_3b067 (s0 : ZS) (i : Nat) (a1 : Int) : Option (Int × ZS) := zb (fJ0_checkIndex_df160 s0 a1 (zLen.getD i 0 : Int)) (fun v1 s2 => if 0 ≤ a1 ∧ a1 < (zLen.getD i 0 : Int) then (some ((iC (iAnd (zbt i a1) 255)), s2)) else none)
set_option maxHeartbeats 4000000 in
set_option maxRecDepth 100000 in
theorem mJ1_charAt_3b067 (E : ZE) (hE : zOkE E) (l : Launch) (s0 : ZS) (i : Nat) (a1 : Int) (hi : i < 2) : Ct E l yJ1_charAt_3b067 cJ1_charAt_3b067 2 (some .char) 6 [(3, (eV E i : Int)), (0, a1)] 5 s0 (fJ1_charAt_3b067 s0 i a1) := by
  refine Ct.of (by decide) hE (Nat.le_of_ble_eq_true rfl) ?_
  intro X G hX hR hN hXE hXl hxn hk _
  subst hXE
  subst hXl
  have hX : G → ZOk X cJ1_charAt_3b067 RJ1 6 := hX
  clear hN
  show Zj X G 0 [(0, (3, (eV (xE X) i : Int))), (1, (0, a1))] [] s0 _
  unfold fJ1_charAt_3b067
  refine z_iload_n (pc := 0) hX 1 dJ1_charAt_3b067_0 rfl rfl ?_
  refine z_aload3_n (pc := 1) hX 0 dJ1_charAt_3b067_1 rfl rfl ?_
  refine z_blen (pc := 2) hX hi dJ1_charAt_3b067_2 ?_
  refine z_callS (n := 2) (st := []) (pc := 3) hX (mJ0_checkIndex_df160 _ hE _ _ _ _) ⟨wd412, wd68, wd414, ⟨by decide, by decide, by decide⟩, by decide⟩ wd413 rfl rfl (by decide) (Nat.le_of_ble_eq_true rfl) dJ1_charAt_3b067_3 (fun v1 s2 r3 => ?_)
  show Zj X G 6 [(0, (3, (eV (xE X) i : Int))), (1, (0, a1))] [] _ _
  refine z_aload3_n (pc := 6) hX 0 dJ1_charAt_3b067_6 rfl rfl ?_
  refine z_iload_n (pc := 7) hX 1 dJ1_charAt_3b067_7 rfl rfl ?_
  refine z_bald (pc := 8) hX hi dJ1_charAt_3b067_8 ?_
  refine z_sipush (pc := 9) hX dJ1_charAt_3b067_9 ?_
  refine z_iand (pc := 12) hX dJ1_charAt_3b067_12 ?_
  refine z_i2c (pc := 13) hX dJ1_charAt_3b067_13 ?_
  exact z_cret (pc := 14) hX hR hk dJ1_charAt_3b067_14 (iC_in _)

theorem dJ0_charAt_5068e_0 : decode cJ0_charAt_5068e 0 = .ok (.aload_n 0, 1) := by decide +kernel
theorem dJ0_charAt_5068e_1 : decode cJ0_charAt_5068e 1 = .ok (.invokevirtual 492, 3) := by decide +kernel
theorem dJ0_charAt_5068e_4 : decode cJ0_charAt_5068e 4 = .ok (.ifCond .eq 12, 3) := by decide +kernel
theorem dJ0_charAt_5068e_7 : decode cJ0_charAt_5068e 7 = .ok (.aload_n 0, 1) := by decide +kernel
theorem dJ0_charAt_5068e_8 : decode cJ0_charAt_5068e 8 = .ok (.getfield 9, 3) := by decide +kernel
theorem dJ0_charAt_5068e_11 : decode cJ0_charAt_5068e 11 = .ok (.iload_n 1, 1) := by decide +kernel
theorem dJ0_charAt_5068e_12 : decode cJ0_charAt_5068e 12 = .ok (.invokestatic 495, 3) := by decide +kernel
theorem dJ0_charAt_5068e_15 : decode cJ0_charAt_5068e 15 = .ok (.ireturn, 1) := by decide +kernel
theorem dJ0_charAt_5068e_16 : decode cJ0_charAt_5068e 16 = .ok (.aload_n 0, 1) := by decide +kernel
theorem dJ0_charAt_5068e_17 : decode cJ0_charAt_5068e 17 = .ok (.getfield 9, 3) := by decide +kernel
theorem dJ0_charAt_5068e_20 : decode cJ0_charAt_5068e 20 = .ok (.iload_n 1, 1) := by decide +kernel
theorem dJ0_charAt_5068e_21 : decode cJ0_charAt_5068e 21 = .ok (.invokestatic 498, 3) := by decide +kernel
def fJ0_charAt_5068e (s0 : ZS) (i : Nat) (a1 : Int) : Option (Int × ZS) := zb (fJ0_isLatin1_aae02 s0 i) (fun v1 s2 => if v1 = 0 then (none) else (zb (fJ1_charAt_3b067 s2 i a1) (fun v8 s9 => some (v8, s9))))
set_option maxHeartbeats 4000000 in
set_option maxRecDepth 100000 in
theorem mJ0_charAt_5068e (E : ZE) (hE : zOkE E) (l : Launch) (s0 : ZS) (i : Nat) (a1 : Int) (hi : i < 2) : Ct E l yJ0_charAt_5068e cJ0_charAt_5068e 2 (some .char) 8 [(3, (eS E i : Int)), (0, a1)] 5 s0 (fJ0_charAt_5068e s0 i a1) := by
  refine Ct.of (by decide) hE (Nat.le_of_ble_eq_true rfl) ?_
  intro X G hX hR hN hXE hXl hxn hk _
  subst hXE
  subst hXl
  have hX : G → ZOk X cJ0_charAt_5068e RJ0 8 := hX
  clear hN
  show Zj X G 0 [(0, (3, (eS (xE X) i : Int))), (1, (0, a1))] [] s0 _
  unfold fJ0_charAt_5068e
  refine z_aload3_n (pc := 0) hX 0 dJ0_charAt_5068e_0 rfl rfl ?_
  refine z_callV3 (n := 0) (st := []) (pc := 1) hX hi rfl (mJ0_isLatin1_aae02 _ hE _ _ _ hi) ⟨wd405, wd68, wd408, ⟨by decide, by decide, by decide⟩, by decide⟩ rfl wd406 wd407 rfl rfl (by decide) (Nat.le_of_ble_eq_true rfl) dJ0_charAt_5068e_1 (fun v1 s2 r3 => ?_)
  show Zj X G 4 [(0, (3, (eS (xE X) i : Int))), (1, (0, a1))] [(0, v1)] _ _
  refine z_if_eq (pc := 4) hX 16 dJ0_charAt_5068e_4 (by decide) (fun h4 => ?_) (fun h4 => ?_)
  · refine z_aload3_n (pc := 16) hX 0 dJ0_charAt_5068e_16 rfl rfl ?_
    refine z_value (pc := 17) hX hi wd1453 dJ0_charAt_5068e_17 ?_
    refine z_iload_n (pc := 20) hX 1 dJ0_charAt_5068e_20 rfl rfl ?_
    exact z_none
  · refine z_aload3_n (pc := 7) hX 0 dJ0_charAt_5068e_7 rfl rfl ?_
    refine z_value (pc := 8) hX hi wd1453 dJ0_charAt_5068e_8 ?_
    refine z_iload_n (pc := 11) hX 1 dJ0_charAt_5068e_11 rfl rfl ?_
    refine z_callS (n := 2) (st := []) (pc := 12) hX (mJ1_charAt_3b067 _ hE _ _ _ _ hi) ⟨wd409, wd69, wd411, ⟨by decide, by decide, by decide⟩, by decide⟩ wd410 rfl rfl (by decide) (Nat.le_of_ble_eq_true rfl) dJ0_charAt_5068e_12 (fun v8 s9 r10 => ?_)
    show Zj X G 15 [(0, (3, (eS (xE X) i : Int))), (1, (0, a1))] [(0, v8)] _ _
    exact z_cret (pc := 15) hX hR hk dJ0_charAt_5068e_15 (r10)

theorem dX4_isWord_0 : decode cX4_isWord 0 = .ok (.iload_n 1, 1) := by decide +kernel
theorem dX4_isWord_1 : decode cX4_isWord 1 = .ok (.istore 4, 2) := by decide +kernel
theorem dX4_isWord_3 : decode cX4_isWord 3 = .ok (.iload 4, 2) := by decide +kernel
theorem dX4_isWord_5 : decode cX4_isWord 5 = .ok (.iload_n 2, 1) := by decide +kernel
theorem dX4_isWord_6 : decode cX4_isWord 6 = .ok (.if_icmp .ge 32, 3) := by decide +kernel
theorem dX4_isWord_9 : decode cX4_isWord 9 = .ok (.ldc 116, 2) := by decide +kernel
theorem dX4_isWord_11 : decode cX4_isWord 11 = .ok (.iload 4, 2) := by decide +kernel
theorem dX4_isWord_13 : decode cX4_isWord 13 = .ok (.invokevirtual 122, 3) := by decide +kernel
theorem dX4_isWord_16 : decode cX4_isWord 16 = .ok (.aload_n 0, 1) := by decide +kernel
theorem dX4_isWord_17 : decode cX4_isWord 17 = .ok (.getfield 13, 3) := by decide +kernel
theorem dX4_isWord_20 : decode cX4_isWord 20 = .ok (.iload_n 3, 1) := by decide +kernel
theorem dX4_isWord_21 : decode cX4_isWord 21 = .ok (.iload 4, 2) := by decide +kernel
theorem dX4_isWord_23 : decode cX4_isWord 23 = .ok (.iadd, 1) := by decide +kernel
theorem dX4_isWord_24 : decode cX4_isWord 24 = .ok (.iload_n 1, 1) := by decide +kernel
theorem dX4_isWord_25 : decode cX4_isWord 25 = .ok (.isub, 1) := by decide +kernel
theorem dX4_isWord_26 : decode cX4_isWord 26 = .ok (.iaload, 1) := by decide +kernel
theorem dX4_isWord_27 : decode cX4_isWord 27 = .ok (.if_icmp .eq 5, 3) := by decide +kernel
theorem dX4_isWord_30 : decode cX4_isWord 30 = .ok (.iconst 0, 1) := by decide +kernel
theorem dX4_isWord_31 : decode cX4_isWord 31 = .ok (.ireturn, 1) := by decide +kernel
theorem dX4_isWord_32 : decode cX4_isWord 32 = .ok (.iinc 4 1, 3) := by decide +kernel
theorem dX4_isWord_35 : decode cX4_isWord 35 = .ok (.goto (-32), 3) := by decide +kernel
theorem dX4_isWord_38 : decode cX4_isWord 38 = .ok (.iconst 1, 1) := by decide +kernel
theorem dX4_isWord_39 : decode cX4_isWord 39 = .ok (.ireturn, 1) := by decide +kernel
def lX4_isWord_3 (u2 u3 u4 u5 : Int)  : Nat → ZS → Int → Option (Int × ZS)
  | 0, _, _ => none
  | n1 + 1, s1, x6 => if u4 ≤ x6 then (some (1, s1)) else (zb (fJ0_charAt_5068e s1 0 x6) (fun v8 s9 => (zg s9 4 u2 0).bind (fun v11 => (zal s9 100 v11 (wrap ((wrap (u5 + x6)) - u3))).bind (fun v12 => if v8 = v12 then (lX4_isWord_3 u2 u3 u4 u5 n1 s9 (wrap (x6 + 1))) else (some (0, s9))))))

def fX4_isWord (s0 : ZS) (a0 : Int) (a1 : Int) (a2 : Int) (a3 : Int) : Option (Int × ZS) := lX4_isWord_3 a0 a1 a2 a3 1000 s0 a1
set_option maxHeartbeats 4000000 in
set_option maxRecDepth 100000 in
theorem mX4_isWord (E : ZE) (hE : zOkE E) (l : Launch) (s0 : ZS) (a0 : Int) (a1 : Int) (a2 : Int) (a3 : Int) : Ct E l yX4_isWord cX4_isWord 5 (some .boolean) 10 [(2, a0), (0, a1), (0, a2), (0, a3)] 4 s0 (fX4_isWord s0 a0 a1 a2 a3) := by
  refine Ct.of (by decide) hE (Nat.le_of_ble_eq_true rfl) ?_
  intro X G hX hR hN hXE hXl hxn hk _
  subst hXE
  subst hXl
  have hX : G → ZOk X cX4_isWord RX4 10 := hX
  clear hN
  show Zj X G 0 [(0, (2, a0)), (1, (0, a1)), (2, (0, a2)), (3, (0, a3))] [] s0 _
  unfold fX4_isWord
  refine z_iload_n (pc := 0) hX 1 dX4_isWord_0 rfl rfl ?_
  refine z_istore (lv' := [(4, (0, a1)), (0, (2, a0)), (1, (0, a1)), (2, (0, a2)), (3, (0, a3))]) (pc := 1) hX dX4_isWord_1 (zlt hxn rfl) rfl ?_
  have hl3 : ∀ (u2 u3 u4 u5 : Int), ∀ (n1 : Nat) (s1 : ZS) (x6 : Int), Zj X G 3 [(0, (2, u2)), (1, (0, u3)), (2, (0, u4)), (3, (0, u5)), (4, (0, x6))] [] s1 (lX4_isWord_3 u2 u3 u4 u5 n1 s1 x6) := by
    intro u2 u3 u4 u5 n1
    induction n1 with
    | zero => intro _ _; exact z_none
    | succ n1 ih1 =>
      intro s1 x6
      rw [lX4_isWord_3]
      refine z_iload (pc := 3) hX 4 dX4_isWord_3 rfl ?_
      refine z_iload_n (pc := 5) hX 2 dX4_isWord_5 rfl rfl ?_
      refine z_icmp_ge (pc := 6) hX 38 dX4_isWord_6 (by decide) (fun h7 => ?_) (fun h7 => ?_)
      · refine z_iconst (pc := 38) hX dX4_isWord_38 ?_
        exact z_zret (pc := 39) hX hR hk dX4_isWord_39 (Or.inr rfl)
      · refine z_ldcS (pc := 9) hX 0 (fun g => (zNe (hX := hX g)).2.2.2.2.1.1) dX4_isWord_9 ?_
        refine z_iload (pc := 11) hX 4 dX4_isWord_11 rfl ?_
        refine z_callV3 (n := 1) (st := []) (pc := 13) hX (by decide) rfl (mJ0_charAt_5068e _ hE _ _ _ _ (by decide)) ⟨wd401, wd68, wd404, ⟨by decide, by decide, by decide⟩, by decide⟩ rfl wd402 wd403 rfl rfl (by decide) (Nat.le_of_ble_eq_true rfl) dX4_isWord_13 (fun v8 s9 r10 => ?_)
        show Zj X G 16 [(0, (2, u2)), (1, (0, u3)), (2, (0, u4)), (3, (0, u5)), (4, (0, x6))] [(0, v8)] _ _
        refine z_aload_n (pc := 16) hX 0 dX4_isWord_16 rfl rfl ?_
        refine z_get (pc := 17) hX zc4 0 (by decide) wd198 rfl rfl dX4_isWord_17 (fun v11 => ?_)
        refine z_iload_n (pc := 20) hX 3 dX4_isWord_20 rfl rfl ?_
        refine z_iload (pc := 21) hX 4 dX4_isWord_21 rfl ?_
        refine z_iadd (pc := 23) hX dX4_isWord_23 ?_
        refine z_iload_n (pc := 24) hX 1 dX4_isWord_24 rfl rfl ?_
        refine z_isub (pc := 25) hX dX4_isWord_25 ?_
        refine z_iald (pc := 26) hX dX4_isWord_26 (fun v12 => ?_)
        refine z_icmp_eq (pc := 27) hX 32 dX4_isWord_27 (by decide) (fun h13 => ?_) (fun h13 => ?_)
        · refine z_iinc (lv' := [(4, (0, (wrap (x6 + 1)))), (0, (2, u2)), (1, (0, u3)), (2, (0, u4)), (3, (0, u5))]) (pc := 32) hX 4 dX4_isWord_32 rfl (zlt hxn rfl) rfl ?_
          refine z_goto (pc := 35) hX 3 dX4_isWord_35 (by decide) ?_
          refine z_pick (lv' := [(0, (2, u2)), (1, (0, u3)), (2, (0, u4)), (3, (0, u5)), (4, (0, (wrap (x6 + 1))))]) [1, 2, 3, 4, 0] rfl ?_
          exact ih1 _ _
        · refine z_iconst (pc := 30) hX dX4_isWord_30 ?_
          exact z_zret (pc := 31) hX hR hk dX4_isWord_31 (Or.inl rfl)
  refine z_pick (lv' := [(0, (2, a0)), (1, (0, a1)), (2, (0, a2)), (3, (0, a3)), (4, (0, a1))]) [1, 2, 3, 4, 0] rfl ?_
  refine hl3 _ _ _ _ 1000 _ _
