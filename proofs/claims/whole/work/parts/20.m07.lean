theorem dX4_numberAt_0 : decode cX4_numberAt 0 = .ok (.iconst 0, 1) := by decide +kernel
theorem dX4_numberAt_1 : decode cX4_numberAt 1 = .ok (.istore_n 2, 1) := by decide +kernel
theorem dX4_numberAt_2 : decode cX4_numberAt 2 = .ok (.iconst 0, 1) := by decide +kernel
theorem dX4_numberAt_3 : decode cX4_numberAt 3 = .ok (.istore_n 3, 1) := by decide +kernel
theorem dX4_numberAt_4 : decode cX4_numberAt 4 = .ok (.iload_n 1, 1) := by decide +kernel
theorem dX4_numberAt_5 : decode cX4_numberAt 5 = .ok (.istore 4, 2) := by decide +kernel
theorem dX4_numberAt_7 : decode cX4_numberAt 7 = .ok (.iload 4, 2) := by decide +kernel
theorem dX4_numberAt_9 : decode cX4_numberAt 9 = .ok (.aload_n 0, 1) := by decide +kernel
theorem dX4_numberAt_10 : decode cX4_numberAt 10 = .ok (.getfield 17, 3) := by decide +kernel
theorem dX4_numberAt_13 : decode cX4_numberAt 13 = .ok (.if_icmp .ge 42, 3) := by decide +kernel
theorem dX4_numberAt_16 : decode cX4_numberAt 16 = .ok (.aload_n 0, 1) := by decide +kernel
theorem dX4_numberAt_17 : decode cX4_numberAt 17 = .ok (.getfield 13, 3) := by decide +kernel
theorem dX4_numberAt_20 : decode cX4_numberAt 20 = .ok (.iload 4, 2) := by decide +kernel
theorem dX4_numberAt_22 : decode cX4_numberAt 22 = .ok (.iaload, 1) := by decide +kernel
theorem dX4_numberAt_23 : decode cX4_numberAt 23 = .ok (.invokestatic 96, 3) := by decide +kernel
theorem dX4_numberAt_26 : decode cX4_numberAt 26 = .ok (.iconst 2, 1) := by decide +kernel
theorem dX4_numberAt_27 : decode cX4_numberAt 27 = .ok (.if_icmp .ne 28, 3) := by decide +kernel
theorem dX4_numberAt_30 : decode cX4_numberAt 30 = .ok (.bipush 10, 2) := by decide +kernel
theorem dX4_numberAt_32 : decode cX4_numberAt 32 = .ok (.iload_n 2, 1) := by decide +kernel
theorem dX4_numberAt_33 : decode cX4_numberAt 33 = .ok (.imul, 1) := by decide +kernel
theorem dX4_numberAt_34 : decode cX4_numberAt 34 = .ok (.aload_n 0, 1) := by decide +kernel
theorem dX4_numberAt_35 : decode cX4_numberAt 35 = .ok (.getfield 13, 3) := by decide +kernel
theorem dX4_numberAt_38 : decode cX4_numberAt 38 = .ok (.iload 4, 2) := by decide +kernel
theorem dX4_numberAt_40 : decode cX4_numberAt 40 = .ok (.iaload, 1) := by decide +kernel
theorem dX4_numberAt_41 : decode cX4_numberAt 41 = .ok (.iadd, 1) := by decide +kernel
theorem dX4_numberAt_42 : decode cX4_numberAt 42 = .ok (.bipush 48, 2) := by decide +kernel
theorem dX4_numberAt_44 : decode cX4_numberAt 44 = .ok (.isub, 1) := by decide +kernel
theorem dX4_numberAt_45 : decode cX4_numberAt 45 = .ok (.istore_n 2, 1) := by decide +kernel
theorem dX4_numberAt_46 : decode cX4_numberAt 46 = .ok (.iinc 3 1, 3) := by decide +kernel
theorem dX4_numberAt_49 : decode cX4_numberAt 49 = .ok (.iinc 4 1, 3) := by decide +kernel
theorem dX4_numberAt_52 : decode cX4_numberAt 52 = .ok (.goto (-45), 3) := by decide +kernel
theorem dX4_numberAt_55 : decode cX4_numberAt 55 = .ok (.iload_n 3, 1) := by decide +kernel
theorem dX4_numberAt_56 : decode cX4_numberAt 56 = .ok (.iconst 4, 1) := by decide +kernel
theorem dX4_numberAt_57 : decode cX4_numberAt 57 = .ok (.if_icmp .gt 7, 3) := by decide +kernel
theorem dX4_numberAt_60 : decode cX4_numberAt 60 = .ok (.iload_n 2, 1) := by decide +kernel
theorem dX4_numberAt_61 : decode cX4_numberAt 61 = .ok (.goto 6, 3) := by decide +kernel
theorem dX4_numberAt_64 : decode cX4_numberAt 64 = .ok (.sipush 30001, 3) := by decide +kernel
theorem dX4_numberAt_67 : decode cX4_numberAt 67 = .ok (.ireturn, 1) := by decide +kernel
def lX4_numberAt_7 (u2 : Int) (K55 : ZS → Int → Int → Option (Int × ZS)) : Nat → ZS → Int → Int → Int → Option (Int × ZS)
  | 0, _, _, _, _ => none
  | n1 + 1, s1, x3, x4, x5 => (zg s1 4 u2 1).bind (fun v6 => if v6 ≤ x5 then (K55 s1 x3 x4) else ((zg s1 4 u2 0).bind (fun v8 => (zal s1 100 v8 x5).bind (fun v9 => zb (fX4_lookOf s1 v9) (fun v10 s11 => if v10 = 2 then ((zg s11 4 u2 0).bind (fun v14 => (zal s11 100 v14 x5).bind (fun v15 => lX4_numberAt_7 u2 K55 n1 s11 (wrap ((wrap ((wrap (10 * x3)) + v15)) - 48)) (wrap (x4 + 1)) (wrap (x5 + 1))))) else (K55 s11 x3 x4))))))

def fX4_numberAt (s0 : ZS) (a0 : Int) (a1 : Int) : Option (Int × ZS) := lX4_numberAt_7 a0 (fun (s19 : ZS) (x20 x21 : Int) => if 4 < x21 then (some (30001, s19)) else (some (x20, s19))) 1000 s0 0 0 a1
set_option maxHeartbeats 4000000 in
set_option maxRecDepth 100000 in
theorem mX4_numberAt (E : ZE) (hE : zOkE E) (l : Launch) (s0 : ZS) (a0 : Int) (a1 : Int) : Ct E l yX4_numberAt cX4_numberAt 5 (some .int) 4 [(2, a0), (0, a1)] 1 s0 (fX4_numberAt s0 a0 a1) := by
  refine Ct.of (by decide) hE (Nat.le_of_ble_eq_true rfl) ?_
  intro X G hX hR hN hXE hXl hxn hk _
  subst hXE
  subst hXl
  have hX : G → ZOk X cX4_numberAt RX4 4 := hX
  clear hN
  show Zj X G 0 [(0, (2, a0)), (1, (0, a1))] [] s0 _
  unfold fX4_numberAt
  refine z_iconst (pc := 0) hX dX4_numberAt_0 ?_
  refine z_istore_n (lv' := [(2, (0, 0)), (0, (2, a0)), (1, (0, a1))]) (pc := 1) hX dX4_numberAt_1 rfl (zlt hxn rfl) rfl ?_
  refine z_iconst (pc := 2) hX dX4_numberAt_2 ?_
  refine z_istore_n (lv' := [(3, (0, 0)), (2, (0, 0)), (0, (2, a0)), (1, (0, a1))]) (pc := 3) hX dX4_numberAt_3 rfl (zlt hxn rfl) rfl ?_
  refine z_iload_n (pc := 4) hX 3 dX4_numberAt_4 rfl rfl ?_
  refine z_istore (lv' := [(4, (0, a1)), (3, (0, 0)), (2, (0, 0)), (0, (2, a0)), (1, (0, a1))]) (pc := 5) hX dX4_numberAt_5 (zlt hxn rfl) rfl ?_
  have hl7 : ∀ (u2 : Int), ∀ (K55 : ZS → Int → Int → Option (Int × ZS)), (∀ (s16 : ZS) (x17 x18 : Int), Zj X G 55 [(2, (0, x17)), (3, (0, x18))] [] s16 (K55 s16 x17 x18)) → ∀ (n1 : Nat) (s1 : ZS) (x3 x4 x5 : Int), Zj X G 7 [(0, (2, u2)), (2, (0, x3)), (3, (0, x4)), (4, (0, x5))] [] s1 (lX4_numberAt_7 u2 K55 n1 s1 x3 x4 x5) := by
    intro u2 K55 hK55 n1
    induction n1 with
    | zero => intro _ _ _ _; exact z_none
    | succ n1 ih1 =>
      intro s1 x3 x4 x5
      rw [lX4_numberAt_7]
      refine z_iload (pc := 7) hX 3 dX4_numberAt_7 rfl ?_
      refine z_aload_n (pc := 9) hX 0 dX4_numberAt_9 rfl rfl ?_
      refine z_get (pc := 10) hX zc4 1 (by decide) wd199 rfl rfl dX4_numberAt_10 (fun v6 => ?_)
      refine z_icmp_ge (pc := 13) hX 55 dX4_numberAt_13 (by decide) (fun h7 => ?_) (fun h7 => ?_)
      · refine z_pick (lv' := [(2, (0, x3)), (3, (0, x4))]) [1, 2] rfl ?_
        exact hK55 _ _ _
      · refine z_aload_n (pc := 16) hX 0 dX4_numberAt_16 rfl rfl ?_
        refine z_get (pc := 17) hX zc4 0 (by decide) wd198 rfl rfl dX4_numberAt_17 (fun v8 => ?_)
        refine z_iload (pc := 20) hX 3 dX4_numberAt_20 rfl ?_
        refine z_iald (pc := 22) hX dX4_numberAt_22 (fun v9 => ?_)
        refine z_callS (n := 1) (st := []) (pc := 23) hX (mX4_lookOf _ hE _ _ _) ⟨wd383, wd64, wd385, ⟨by decide, by decide, by decide⟩, by decide⟩ wd384 rfl rfl (by decide) (Nat.le_of_ble_eq_true rfl) dX4_numberAt_23 (fun v10 s11 r12 => ?_)
        show Zj X G 26 [(0, (2, u2)), (2, (0, x3)), (3, (0, x4)), (4, (0, x5))] [(0, v10)] _ _
        refine z_iconst (pc := 26) hX dX4_numberAt_26 ?_
        refine z_icmp_ne (pc := 27) hX 55 dX4_numberAt_27 (by decide) (fun h13 => ?_) (fun h13 => ?_)
        · refine z_pick (lv' := [(2, (0, x3)), (3, (0, x4))]) [1, 2] rfl ?_
          exact hK55 _ _ _
        · refine z_bipush (pc := 30) hX dX4_numberAt_30 ?_
          refine z_iload_n (pc := 32) hX 1 dX4_numberAt_32 rfl rfl ?_
          refine z_imul (pc := 33) hX dX4_numberAt_33 ?_
          refine z_aload_n (pc := 34) hX 0 dX4_numberAt_34 rfl rfl ?_
          refine z_get (pc := 35) hX zc4 0 (by decide) wd198 rfl rfl dX4_numberAt_35 (fun v14 => ?_)
          refine z_iload (pc := 38) hX 3 dX4_numberAt_38 rfl ?_
          refine z_iald (pc := 40) hX dX4_numberAt_40 (fun v15 => ?_)
          refine z_iadd (pc := 41) hX dX4_numberAt_41 ?_
          refine z_bipush (pc := 42) hX dX4_numberAt_42 ?_
          refine z_isub (pc := 44) hX dX4_numberAt_44 ?_
          refine z_istore_n (lv' := [(2, (0, (wrap ((wrap ((wrap (10 * x3)) + v15)) - 48)))), (0, (2, u2)), (3, (0, x4)), (4, (0, x5))]) (pc := 45) hX dX4_numberAt_45 rfl (zlt hxn rfl) rfl ?_
          refine z_iinc (lv' := [(3, (0, (wrap (x4 + 1)))), (2, (0, (wrap ((wrap ((wrap (10 * x3)) + v15)) - 48)))), (0, (2, u2)), (4, (0, x5))]) (pc := 46) hX 2 dX4_numberAt_46 rfl (zlt hxn rfl) rfl ?_
          refine z_iinc (lv' := [(4, (0, (wrap (x5 + 1)))), (3, (0, (wrap (x4 + 1)))), (2, (0, (wrap ((wrap ((wrap (10 * x3)) + v15)) - 48)))), (0, (2, u2))]) (pc := 49) hX 3 dX4_numberAt_49 rfl (zlt hxn rfl) rfl ?_
          refine z_goto (pc := 52) hX 7 dX4_numberAt_52 (by decide) ?_
          refine z_pick (lv' := [(0, (2, u2)), (2, (0, (wrap ((wrap ((wrap (10 * x3)) + v15)) - 48)))), (3, (0, (wrap (x4 + 1)))), (4, (0, (wrap (x5 + 1))))]) [3, 2, 1, 0] rfl ?_
          exact ih1 _ _ _ _
  refine z_pick (lv' := [(0, (2, a0)), (2, (0, 0)), (3, (0, 0)), (4, (0, a1))]) [3, 2, 1, 0] rfl ?_
  refine hl7 _ _ (fun s19 x20 x21 => ?_) 1000 _ _ _ _
  refine z_iload_n (pc := 55) hX 1 dX4_numberAt_55 rfl rfl ?_
  refine z_iconst (pc := 56) hX dX4_numberAt_56 ?_
  refine z_icmp_gt (pc := 57) hX 64 dX4_numberAt_57 (by decide) (fun h22 => ?_) (fun h22 => ?_)
  · refine z_sipush (pc := 64) hX dX4_numberAt_64 ?_
    exact z_iret (pc := 67) hX hR hk dX4_numberAt_67
  · refine z_iload_n (pc := 60) hX 0 dX4_numberAt_60 rfl rfl ?_
    refine z_goto (pc := 61) hX 67 dX4_numberAt_61 (by decide) ?_
    exact z_iret (pc := 67) hX hR hk dX4_numberAt_67

theorem dJ1_canEncode_9a6ad_0 : decode cJ1_canEncode_9a6ad 0 = .ok (.iload_n 0, 1) := by decide +kernel
theorem dJ1_canEncode_9a6ad_1 : decode cJ1_canEncode_9a6ad 1 = .ok (.ifCond .lt 14, 3) := by decide +kernel
theorem dJ1_canEncode_9a6ad_4 : decode cJ1_canEncode_9a6ad 4 = .ok (.iload_n 0, 1) := by decide +kernel
theorem dJ1_canEncode_9a6ad_5 : decode cJ1_canEncode_9a6ad 5 = .ok (.sipush 255, 3) := by decide +kernel
theorem dJ1_canEncode_9a6ad_8 : decode cJ1_canEncode_9a6ad 8 = .ok (.if_icmp .gt 7, 3) := by decide +kernel
theorem dJ1_canEncode_9a6ad_11 : decode cJ1_canEncode_9a6ad 11 = .ok (.iconst 1, 1) := by decide +kernel
theorem dJ1_canEncode_9a6ad_12 : decode cJ1_canEncode_9a6ad 12 = .ok (.goto 4, 3) := by decide +kernel
theorem dJ1_canEncode_9a6ad_15 : decode cJ1_canEncode_9a6ad 15 = .ok (.iconst 0, 1) := by decide +kernel
theorem dJ1_canEncode_9a6ad_16 : decode cJ1_canEncode_9a6ad 16 = .ok (.ireturn, 1) := by decide +kernel
def fJ1_canEncode_9a6ad (s0 : ZS) (a0 : Int) : Option (Int × ZS) := if a0 < 0 then (some (0, s0)) else (if 255 < a0 then (some (0, s0)) else (some (1, s0)))
set_option maxHeartbeats 4000000 in
set_option maxRecDepth 100000 in
theorem mJ1_canEncode_9a6ad (E : ZE) (hE : zOkE E) (l : Launch) (s0 : ZS) (a0 : Int) : Ct E l yJ1_canEncode_9a6ad cJ1_canEncode_9a6ad 1 (some .boolean) 2 [(0, a0)] 4 s0 (fJ1_canEncode_9a6ad s0 a0) := by
  refine Ct.of (by decide) hE (Nat.le_of_ble_eq_true rfl) ?_
  intro X G hX hR hN hXE hXl hxn hk _
  subst hXE
  subst hXl
  have hX : G → ZOk X cJ1_canEncode_9a6ad RJ1 2 := hX
  clear hN
  show Zj X G 0 [(0, (0, a0))] [] s0 _
  unfold fJ1_canEncode_9a6ad
  refine z_iload_n (pc := 0) hX 0 dJ1_canEncode_9a6ad_0 rfl rfl ?_
  refine z_if_lt (pc := 1) hX 15 dJ1_canEncode_9a6ad_1 (by decide) (fun h1 => ?_) (fun h1 => ?_)
  · refine z_iconst (pc := 15) hX dJ1_canEncode_9a6ad_15 ?_
    exact z_zret (pc := 16) hX hR hk dJ1_canEncode_9a6ad_16 (Or.inl rfl)
  · refine z_iload_n (pc := 4) hX 0 dJ1_canEncode_9a6ad_4 rfl rfl ?_
    refine z_sipush (pc := 5) hX dJ1_canEncode_9a6ad_5 ?_
    refine z_icmp_gt (pc := 8) hX 15 dJ1_canEncode_9a6ad_8 (by decide) (fun h2 => ?_) (fun h2 => ?_)
    · refine z_iconst (pc := 15) hX dJ1_canEncode_9a6ad_15 ?_
      exact z_zret (pc := 16) hX hR hk dJ1_canEncode_9a6ad_16 (Or.inl rfl)
    · refine z_iconst (pc := 11) hX dJ1_canEncode_9a6ad_11 ?_
      refine z_goto (pc := 12) hX 16 dJ1_canEncode_9a6ad_12 (by decide) ?_
      exact z_zret (pc := 16) hX hR hk dJ1_canEncode_9a6ad_16 (Or.inr rfl)

theorem dJ1_indexOfChar_4cfef_0 : decode cJ1_indexOfChar_4cfef 0 = .ok (.iload_n 1, 1) := by decide +kernel
theorem dJ1_indexOfChar_4cfef_1 : decode cJ1_indexOfChar_4cfef 1 = .ok (.i2b, 1) := by decide +kernel
theorem dJ1_indexOfChar_4cfef_2 : decode cJ1_indexOfChar_4cfef 2 = .ok (.istore 4, 2) := by decide +kernel
theorem dJ1_indexOfChar_4cfef_4 : decode cJ1_indexOfChar_4cfef 4 = .ok (.iload_n 2, 1) := by decide +kernel
theorem dJ1_indexOfChar_4cfef_5 : decode cJ1_indexOfChar_4cfef 5 = .ok (.istore 5, 2) := by decide +kernel
theorem dJ1_indexOfChar_4cfef_7 : decode cJ1_indexOfChar_4cfef 7 = .ok (.iload 5, 2) := by decide +kernel
theorem dJ1_indexOfChar_4cfef_9 : decode cJ1_indexOfChar_4cfef 9 = .ok (.iload_n 3, 1) := by decide +kernel
theorem dJ1_indexOfChar_4cfef_10 : decode cJ1_indexOfChar_4cfef 10 = .ok (.if_icmp .ge 21, 3) := by decide +kernel
theorem dJ1_indexOfChar_4cfef_13 : decode cJ1_indexOfChar_4cfef 13 = .ok (.aload_n 0, 1) := by decide +kernel
theorem dJ1_indexOfChar_4cfef_14 : decode cJ1_indexOfChar_4cfef 14 = .ok (.iload 5, 2) := by decide +kernel
theorem dJ1_indexOfChar_4cfef_16 : decode cJ1_indexOfChar_4cfef 16 = .ok (.baload, 1) := by decide +kernel
theorem dJ1_indexOfChar_4cfef_17 : decode cJ1_indexOfChar_4cfef 17 = .ok (.iload 4, 2) := by decide +kernel
theorem dJ1_indexOfChar_4cfef_19 : decode cJ1_indexOfChar_4cfef 19 = .ok (.if_icmp .ne 6, 3) := by decide +kernel
theorem dJ1_indexOfChar_4cfef_22 : decode cJ1_indexOfChar_4cfef 22 = .ok (.iload 5, 2) := by decide +kernel
theorem dJ1_indexOfChar_4cfef_24 : decode cJ1_indexOfChar_4cfef 24 = .ok (.ireturn, 1) := by decide +kernel
theorem dJ1_indexOfChar_4cfef_25 : decode cJ1_indexOfChar_4cfef 25 = .ok (.iinc 5 1, 3) := by decide +kernel
theorem dJ1_indexOfChar_4cfef_28 : decode cJ1_indexOfChar_4cfef 28 = .ok (.goto (-21), 3) := by decide +kernel
theorem dJ1_indexOfChar_4cfef_31 : decode cJ1_indexOfChar_4cfef 31 = .ok (.iconst (-1), 1) := by decide +kernel
theorem dJ1_indexOfChar_4cfef_32 : decode cJ1_indexOfChar_4cfef 32 = .ok (.ireturn, 1) := by decide +kernel
def lJ1_indexOfChar_4cfef_7 (i : Nat) (u3 u4 : Int)  : Nat → ZS → Int → Option (Int × ZS)
  | 0, _, _ => none
  | n1 + 1, s1, x5 => if u3 ≤ x5 then (some ((-1), s1)) else (if 0 ≤ x5 ∧ x5 < (zLen.getD i 0 : Int) then (if (zbt i x5) = u4 then (some (x5, s1)) else (lJ1_indexOfChar_4cfef_7 i u3 u4 n1 s1 (wrap (x5 + 1)))) else none)

def fJ1_indexOfChar_4cfef (s0 : ZS) (i : Nat) (a1 : Int) (a2 : Int) (a3 : Int) : Option (Int × ZS) := lJ1_indexOfChar_4cfef_7 i a3 (iB a1) 1000 s0 a2
set_option maxHeartbeats 4000000 in
set_option maxRecDepth 100000 in
theorem mJ1_indexOfChar_4cfef (E : ZE) (hE : zOkE E) (l : Launch) (s0 : ZS) (i : Nat) (a1 : Int) (a2 : Int) (a3 : Int) (hi : i < 2) : Ct E l yJ1_indexOfChar_4cfef cJ1_indexOfChar_4cfef 6 (some .int) 2 [(3, (eV E i : Int)), (0, a1), (0, a2), (0, a3)] 1 s0 (fJ1_indexOfChar_4cfef s0 i a1 a2 a3) := by
  refine Ct.of (by decide) hE (Nat.le_of_ble_eq_true rfl) ?_
  intro X G hX hR hN hXE hXl hxn hk _
  subst hXE
  subst hXl
  have hX : G → ZOk X cJ1_indexOfChar_4cfef RJ1 2 := hX
  clear hN
  show Zj X G 0 [(0, (3, (eV (xE X) i : Int))), (1, (0, a1)), (2, (0, a2)), (3, (0, a3))] [] s0 _
  unfold fJ1_indexOfChar_4cfef
  refine z_iload_n (pc := 0) hX 1 dJ1_indexOfChar_4cfef_0 rfl rfl ?_
  refine z_i2b (pc := 1) hX dJ1_indexOfChar_4cfef_1 ?_
  refine z_istore (lv' := [(4, (0, (iB a1))), (0, (3, (eV (xE X) i : Int))), (1, (0, a1)), (2, (0, a2)), (3, (0, a3))]) (pc := 2) hX dJ1_indexOfChar_4cfef_2 (zlt hxn rfl) rfl ?_
  refine z_iload_n (pc := 4) hX 3 dJ1_indexOfChar_4cfef_4 rfl rfl ?_
  refine z_istore (lv' := [(5, (0, a2)), (4, (0, (iB a1))), (0, (3, (eV (xE X) i : Int))), (1, (0, a1)), (2, (0, a2)), (3, (0, a3))]) (pc := 5) hX dJ1_indexOfChar_4cfef_5 (zlt hxn rfl) rfl ?_
  have hl7 : ∀ (u3 u4 : Int), ∀ (n1 : Nat) (s1 : ZS) (x5 : Int), Zj X G 7 [(0, (3, (eV (xE X) i : Int))), (3, (0, u3)), (4, (0, u4)), (5, (0, x5))] [] s1 (lJ1_indexOfChar_4cfef_7 i u3 u4 n1 s1 x5) := by
    intro u3 u4 n1
    induction n1 with
    | zero => intro _ _; exact z_none
    | succ n1 ih1 =>
      intro s1 x5
      rw [lJ1_indexOfChar_4cfef_7]
      refine z_iload (pc := 7) hX 3 dJ1_indexOfChar_4cfef_7 rfl ?_
      refine z_iload_n (pc := 9) hX 1 dJ1_indexOfChar_4cfef_9 rfl rfl ?_
      refine z_icmp_ge (pc := 10) hX 31 dJ1_indexOfChar_4cfef_10 (by decide) (fun h6 => ?_) (fun h6 => ?_)
      · refine z_iconst (pc := 31) hX dJ1_indexOfChar_4cfef_31 ?_
        exact z_iret (pc := 32) hX hR hk dJ1_indexOfChar_4cfef_32
      · refine z_aload3_n (pc := 13) hX 0 dJ1_indexOfChar_4cfef_13 rfl rfl ?_
        refine z_iload (pc := 14) hX 3 dJ1_indexOfChar_4cfef_14 rfl ?_
        refine z_bald (pc := 16) hX hi dJ1_indexOfChar_4cfef_16 ?_
        refine z_iload (pc := 17) hX 2 dJ1_indexOfChar_4cfef_17 rfl ?_
        refine z_icmp_ne (pc := 19) hX 25 dJ1_indexOfChar_4cfef_19 (by decide) (fun h7 => ?_) (fun h7 => ?_)
        · refine z_iinc (lv' := [(5, (0, (wrap (x5 + 1)))), (0, (3, (eV (xE X) i : Int))), (3, (0, u3)), (4, (0, u4))]) (pc := 25) hX 3 dJ1_indexOfChar_4cfef_25 rfl (zlt hxn rfl) rfl ?_
          refine z_goto (pc := 28) hX 7 dJ1_indexOfChar_4cfef_28 (by decide) ?_
          refine z_pick (lv' := [(0, (3, (eV (xE X) i : Int))), (3, (0, u3)), (4, (0, u4)), (5, (0, (wrap (x5 + 1))))]) [1, 2, 3, 0] rfl ?_
          exact ih1 _ _
        · refine z_iload (pc := 22) hX 3 dJ1_indexOfChar_4cfef_22 rfl ?_
          exact z_iret (pc := 24) hX hR hk dJ1_indexOfChar_4cfef_24
  refine z_pick (lv' := [(0, (3, (eV (xE X) i : Int))), (3, (0, a3)), (4, (0, (iB a1))), (5, (0, a2))]) [2, 5, 1, 0] rfl ?_
  refine hl7 _ _ 1000 _ _

theorem dJ1_indexOf_4cfef_0 : decode cJ1_indexOf_4cfef 0 = .ok (.iload_n 1, 1) := by decide +kernel
theorem dJ1_indexOf_4cfef_1 : decode cJ1_indexOf_4cfef 1 = .ok (.invokestatic 88, 3) := by decide +kernel
theorem dJ1_indexOf_4cfef_4 : decode cJ1_indexOf_4cfef 4 = .ok (.ifCond .ne 5, 3) := by decide +kernel
theorem dJ1_indexOf_4cfef_7 : decode cJ1_indexOf_4cfef 7 = .ok (.iconst (-1), 1) := by decide +kernel
theorem dJ1_indexOf_4cfef_8 : decode cJ1_indexOf_4cfef 8 = .ok (.ireturn, 1) := by decide +kernel
theorem dJ1_indexOf_4cfef_9 : decode cJ1_indexOf_4cfef 9 = .ok (.iload_n 2, 1) := by decide +kernel
theorem dJ1_indexOf_4cfef_10 : decode cJ1_indexOf_4cfef 10 = .ok (.iconst 0, 1) := by decide +kernel
theorem dJ1_indexOf_4cfef_11 : decode cJ1_indexOf_4cfef 11 = .ok (.invokestatic 92, 3) := by decide +kernel
theorem dJ1_indexOf_4cfef_14 : decode cJ1_indexOf_4cfef 14 = .ok (.istore_n 2, 1) := by decide +kernel
theorem dJ1_indexOf_4cfef_15 : decode cJ1_indexOf_4cfef 15 = .ok (.iload_n 3, 1) := by decide +kernel
theorem dJ1_indexOf_4cfef_16 : decode cJ1_indexOf_4cfef 16 = .ok (.aload_n 0, 1) := by decide +kernel
theorem dJ1_indexOf_4cfef_17 : decode cJ1_indexOf_4cfef 17 = .ok (.arraylength, 1) := by decide +kernel
theorem dJ1_indexOf_4cfef_18 : decode cJ1_indexOf_4cfef 18 = .ok (.invokestatic 38, 3) := by decide +kernel
theorem dJ1_indexOf_4cfef_21 : decode cJ1_indexOf_4cfef 21 = .ok (.istore_n 3, 1) := by decide +kernel
theorem dJ1_indexOf_4cfef_22 : decode cJ1_indexOf_4cfef 22 = .ok (.iload_n 2, 1) := by decide +kernel
theorem dJ1_indexOf_4cfef_23 : decode cJ1_indexOf_4cfef 23 = .ok (.iload_n 3, 1) := by decide +kernel
theorem dJ1_indexOf_4cfef_24 : decode cJ1_indexOf_4cfef 24 = .ok (.if_icmp .lt 5, 3) := by decide +kernel
theorem dJ1_indexOf_4cfef_27 : decode cJ1_indexOf_4cfef 27 = .ok (.iconst (-1), 1) := by decide +kernel
theorem dJ1_indexOf_4cfef_28 : decode cJ1_indexOf_4cfef 28 = .ok (.ireturn, 1) := by decide +kernel
theorem dJ1_indexOf_4cfef_29 : decode cJ1_indexOf_4cfef 29 = .ok (.aload_n 0, 1) := by decide +kernel
theorem dJ1_indexOf_4cfef_30 : decode cJ1_indexOf_4cfef 30 = .ok (.iload_n 1, 1) := by decide +kernel
theorem dJ1_indexOf_4cfef_31 : decode cJ1_indexOf_4cfef 31 = .ok (.iload_n 2, 1) := by decide +kernel
theorem dJ1_indexOf_4cfef_32 : decode cJ1_indexOf_4cfef 32 = .ok (.iload_n 3, 1) := by decide +kernel
theorem dJ1_indexOf_4cfef_33 : decode cJ1_indexOf_4cfef 33 = .ok (.invokestatic 95, 3) := by decide +kernel
theorem dJ1_indexOf_4cfef_36 : decode cJ1_indexOf_4cfef 36 = .ok (.ireturn, 1) := by decide +kernel
def fJ1_indexOf_4cfef (s0 : ZS) (i : Nat) (a1 : Int) (a2 : Int) (a3 : Int) : Option (Int × ZS) := zb (fJ1_canEncode_9a6ad s0 a1) (fun v1 s2 => if v1 = 0 then (some ((-1), s2)) else (if (imax a2 0) < (imin a3 (zLen.getD i 0 : Int)) then (zb (fJ1_indexOfChar_4cfef s2 i a1 (imax a2 0) (imin a3 (zLen.getD i 0 : Int))) (fun v6 s7 => some (v6, s7))) else (some ((-1), s2))))
set_option maxHeartbeats 4000000 in
set_option maxRecDepth 100000 in
theorem mJ1_indexOf_4cfef (E : ZE) (hE : zOkE E) (l : Launch) (s0 : ZS) (i : Nat) (a1 : Int) (a2 : Int) (a3 : Int) (hi : i < 2) : Ct E l yJ1_indexOf_4cfef cJ1_indexOf_4cfef 4 (some .int) 4 [(3, (eV E i : Int)), (0, a1), (0, a2), (0, a3)] 1 s0 (fJ1_indexOf_4cfef s0 i a1 a2 a3) := by
  refine Ct.of (by decide) hE (Nat.le_of_ble_eq_true rfl) ?_
  intro X G hX hR hN hXE hXl hxn hk _
  subst hXE
  subst hXl
  have hX : G → ZOk X cJ1_indexOf_4cfef RJ1 4 := hX
  clear hN
  show Zj X G 0 [(0, (3, (eV (xE X) i : Int))), (1, (0, a1)), (2, (0, a2)), (3, (0, a3))] [] s0 _
  unfold fJ1_indexOf_4cfef
  refine z_iload_n (pc := 0) hX 1 dJ1_indexOf_4cfef_0 rfl rfl ?_
  refine z_callS (n := 1) (st := []) (pc := 1) hX (mJ1_canEncode_9a6ad _ hE _ _ _) ⟨wd464, wd69, wd466, ⟨by decide, by decide, by decide⟩, by decide⟩ wd465 rfl rfl (by decide) (Nat.le_of_ble_eq_true rfl) dJ1_indexOf_4cfef_1 (fun v1 s2 r3 => ?_)
  show Zj X G 4 [(0, (3, (eV (xE X) i : Int))), (1, (0, a1)), (2, (0, a2)), (3, (0, a3))] [(0, v1)] _ _
  refine z_if_ne (pc := 4) hX 9 dJ1_indexOf_4cfef_4 (by decide) (fun h4 => ?_) (fun h4 => ?_)
  · refine z_iload_n (pc := 9) hX 2 dJ1_indexOf_4cfef_9 rfl rfl ?_
    refine z_iconst (pc := 10) hX dJ1_indexOf_4cfef_10 ?_
    refine z_max (st := []) (pc := 11) hX (by decide) wd467 wd468 wd72 wd469 (Nat.le_of_ble_eq_true rfl) dJ1_indexOf_4cfef_11 ?_
    refine z_istore_n (lv' := [(2, (0, (imax a2 0))), (0, (3, (eV (xE X) i : Int))), (1, (0, a1)), (3, (0, a3))]) (pc := 14) hX dJ1_indexOf_4cfef_14 rfl (zlt hxn rfl) rfl ?_
    refine z_iload_n (pc := 15) hX 3 dJ1_indexOf_4cfef_15 rfl rfl ?_
    refine z_aload3_n (pc := 16) hX 1 dJ1_indexOf_4cfef_16 rfl rfl ?_
    refine z_blen (pc := 17) hX hi dJ1_indexOf_4cfef_17 ?_
    refine z_min (st := []) (pc := 18) hX (by decide) wd470 wd471 wd72 wd472 (Nat.le_of_ble_eq_true rfl) dJ1_indexOf_4cfef_18 ?_
    refine z_istore_n (lv' := [(3, (0, (imin a3 (zLen.getD i 0 : Int)))), (2, (0, (imax a2 0))), (0, (3, (eV (xE X) i : Int))), (1, (0, a1))]) (pc := 21) hX dJ1_indexOf_4cfef_21 rfl (zlt hxn rfl) rfl ?_
    refine z_iload_n (pc := 22) hX 1 dJ1_indexOf_4cfef_22 rfl rfl ?_
    refine z_iload_n (pc := 23) hX 0 dJ1_indexOf_4cfef_23 rfl rfl ?_
    refine z_icmp_lt (pc := 24) hX 29 dJ1_indexOf_4cfef_24 (by decide) (fun h5 => ?_) (fun h5 => ?_)
    · refine z_aload3_n (pc := 29) hX 2 dJ1_indexOf_4cfef_29 rfl rfl ?_
      refine z_iload_n (pc := 30) hX 3 dJ1_indexOf_4cfef_30 rfl rfl ?_
      refine z_iload_n (pc := 31) hX 1 dJ1_indexOf_4cfef_31 rfl rfl ?_
      refine z_iload_n (pc := 32) hX 0 dJ1_indexOf_4cfef_32 rfl rfl ?_
      refine z_callS (n := 4) (st := []) (pc := 33) hX (mJ1_indexOfChar_4cfef _ hE _ _ _ _ _ _ hi) ⟨wd473, wd69, wd475, ⟨by decide, by decide, by decide⟩, by decide⟩ wd474 rfl rfl (by decide) (Nat.le_of_ble_eq_true rfl) dJ1_indexOf_4cfef_33 (fun v6 s7 r8 => ?_)
      show Zj X G 36 [(3, (0, (imin a3 (zLen.getD i 0 : Int)))), (2, (0, (imax a2 0))), (0, (3, (eV (xE X) i : Int))), (1, (0, a1))] [(0, v6)] _ _
      exact z_iret (pc := 36) hX hR hk dJ1_indexOf_4cfef_36
    · refine z_iconst (pc := 27) hX dJ1_indexOf_4cfef_27 ?_
      exact z_iret (pc := 28) hX hR hk dJ1_indexOf_4cfef_28
  · refine z_iconst (pc := 7) hX dJ1_indexOf_4cfef_7 ?_
    exact z_iret (pc := 8) hX hR hk dJ1_indexOf_4cfef_8

theorem dJ0_indexOf_7cf53_0 : decode cJ0_indexOf_7cf53 0 = .ok (.aload_n 0, 1) := by decide +kernel
theorem dJ0_indexOf_7cf53_1 : decode cJ0_indexOf_7cf53 1 = .ok (.invokevirtual 492, 3) := by decide +kernel
theorem dJ0_indexOf_7cf53_4 : decode cJ0_indexOf_7cf53 4 = .ok (.ifCond .eq 19, 3) := by decide +kernel
theorem dJ0_indexOf_7cf53_7 : decode cJ0_indexOf_7cf53 7 = .ok (.aload_n 0, 1) := by decide +kernel
theorem dJ0_indexOf_7cf53_8 : decode cJ0_indexOf_7cf53 8 = .ok (.getfield 9, 3) := by decide +kernel
theorem dJ0_indexOf_7cf53_11 : decode cJ0_indexOf_7cf53 11 = .ok (.iload_n 1, 1) := by decide +kernel
theorem dJ0_indexOf_7cf53_12 : decode cJ0_indexOf_7cf53 12 = .ok (.iload_n 2, 1) := by decide +kernel
theorem dJ0_indexOf_7cf53_13 : decode cJ0_indexOf_7cf53 13 = .ok (.aload_n 0, 1) := by decide +kernel
theorem dJ0_indexOf_7cf53_14 : decode cJ0_indexOf_7cf53 14 = .ok (.invokevirtual 505, 3) := by decide +kernel
theorem dJ0_indexOf_7cf53_17 : decode cJ0_indexOf_7cf53 17 = .ok (.invokestatic 637, 3) := by decide +kernel
theorem dJ0_indexOf_7cf53_20 : decode cJ0_indexOf_7cf53 20 = .ok (.goto 16, 3) := by decide +kernel
theorem dJ0_indexOf_7cf53_23 : decode cJ0_indexOf_7cf53 23 = .ok (.aload_n 0, 1) := by decide +kernel
theorem dJ0_indexOf_7cf53_24 : decode cJ0_indexOf_7cf53 24 = .ok (.getfield 9, 3) := by decide +kernel
theorem dJ0_indexOf_7cf53_27 : decode cJ0_indexOf_7cf53 27 = .ok (.iload_n 1, 1) := by decide +kernel
theorem dJ0_indexOf_7cf53_28 : decode cJ0_indexOf_7cf53 28 = .ok (.iload_n 2, 1) := by decide +kernel
theorem dJ0_indexOf_7cf53_29 : decode cJ0_indexOf_7cf53 29 = .ok (.aload_n 0, 1) := by decide +kernel
theorem dJ0_indexOf_7cf53_30 : decode cJ0_indexOf_7cf53 30 = .ok (.invokevirtual 505, 3) := by decide +kernel
theorem dJ0_indexOf_7cf53_33 : decode cJ0_indexOf_7cf53 33 = .ok (.invokestatic 640, 3) := by decide +kernel
theorem dJ0_indexOf_7cf53_36 : decode cJ0_indexOf_7cf53 36 = .ok (.ireturn, 1) := by decide +kernel
def fJ0_indexOf_7cf53 (s0 : ZS) (i : Nat) (a1 : Int) (a2 : Int) : Option (Int × ZS) := zb (fJ0_isLatin1_aae02 s0 i) (fun v1 s2 => if v1 = 0 then (zb (fJ0_length_8abf5 s2 i) (fun v5 s6 => none)) else (zb (fJ0_length_8abf5 s2 i) (fun v11 s12 => zb (fJ1_indexOf_4cfef s12 i a1 a2 v11) (fun v14 s15 => some (v14, s15)))))
set_option maxHeartbeats 4000000 in
set_option maxRecDepth 100000 in
theorem mJ0_indexOf_7cf53 (E : ZE) (hE : zOkE E) (l : Launch) (s0 : ZS) (i : Nat) (a1 : Int) (a2 : Int) (hi : i < 2) : Ct E l yJ0_indexOf_7cf53 cJ0_indexOf_7cf53 3 (some .int) 6 [(3, (eS E i : Int)), (0, a1), (0, a2)] 1 s0 (fJ0_indexOf_7cf53 s0 i a1 a2) := by
  refine Ct.of (by decide) hE (Nat.le_of_ble_eq_true rfl) ?_
  intro X G hX hR hN hXE hXl hxn hk _
  subst hXE
  subst hXl
  have hX : G → ZOk X cJ0_indexOf_7cf53 RJ0 6 := hX
  clear hN
  show Zj X G 0 [(0, (3, (eS (xE X) i : Int))), (1, (0, a1)), (2, (0, a2))] [] s0 _
  unfold fJ0_indexOf_7cf53
  refine z_aload3_n (pc := 0) hX 0 dJ0_indexOf_7cf53_0 rfl rfl ?_
  refine z_callV3 (n := 0) (st := []) (pc := 1) hX hi rfl (mJ0_isLatin1_aae02 _ hE _ _ _ hi) ⟨wd405, wd68, wd408, ⟨by decide, by decide, by decide⟩, by decide⟩ rfl wd406 wd407 rfl rfl (by decide) (Nat.le_of_ble_eq_true rfl) dJ0_indexOf_7cf53_1 (fun v1 s2 r3 => ?_)
  show Zj X G 4 [(0, (3, (eS (xE X) i : Int))), (1, (0, a1)), (2, (0, a2))] [(0, v1)] _ _
  refine z_if_eq (pc := 4) hX 23 dJ0_indexOf_7cf53_4 (by decide) (fun h4 => ?_) (fun h4 => ?_)
  · refine z_aload3_n (pc := 23) hX 0 dJ0_indexOf_7cf53_23 rfl rfl ?_
    refine z_value (pc := 24) hX hi wd1453 dJ0_indexOf_7cf53_24 ?_
    refine z_iload_n (pc := 27) hX 1 dJ0_indexOf_7cf53_27 rfl rfl ?_
    refine z_iload_n (pc := 28) hX 2 dJ0_indexOf_7cf53_28 rfl rfl ?_
    refine z_aload3_n (pc := 29) hX 0 dJ0_indexOf_7cf53_29 rfl rfl ?_
    refine z_callV3 (n := 0) (st := [(0, a2), (0, a1), (3, (eV (xE X) i : Int))]) (pc := 30) hX hi rfl (mJ0_length_8abf5 _ hE _ _ _ hi) ⟨wd460, wd68, wd394, ⟨by decide, by decide, by decide⟩, by decide⟩ rfl wd392 wd393 rfl rfl (by decide) (Nat.le_of_ble_eq_true rfl) dJ0_indexOf_7cf53_30 (fun v5 s6 r7 => ?_)
    show Zj X G 33 [(0, (3, (eS (xE X) i : Int))), (1, (0, a1)), (2, (0, a2))] [(0, v5), (0, a2), (0, a1), (3, (eV (xE X) i : Int))] _ _
    exact z_none
  · refine z_aload3_n (pc := 7) hX 0 dJ0_indexOf_7cf53_7 rfl rfl ?_
    refine z_value (pc := 8) hX hi wd1453 dJ0_indexOf_7cf53_8 ?_
    refine z_iload_n (pc := 11) hX 1 dJ0_indexOf_7cf53_11 rfl rfl ?_
    refine z_iload_n (pc := 12) hX 2 dJ0_indexOf_7cf53_12 rfl rfl ?_
    refine z_aload3_n (pc := 13) hX 0 dJ0_indexOf_7cf53_13 rfl rfl ?_
    refine z_callV3 (n := 0) (st := [(0, a2), (0, a1), (3, (eV (xE X) i : Int))]) (pc := 14) hX hi rfl (mJ0_length_8abf5 _ hE _ _ _ hi) ⟨wd460, wd68, wd394, ⟨by decide, by decide, by decide⟩, by decide⟩ rfl wd392 wd393 rfl rfl (by decide) (Nat.le_of_ble_eq_true rfl) dJ0_indexOf_7cf53_14 (fun v11 s12 r13 => ?_)
    show Zj X G 17 [(0, (3, (eS (xE X) i : Int))), (1, (0, a1)), (2, (0, a2))] [(0, v11), (0, a2), (0, a1), (3, (eV (xE X) i : Int))] _ _
    refine z_callS (n := 4) (st := []) (pc := 17) hX (mJ1_indexOf_4cfef _ hE _ _ _ _ _ _ hi) ⟨wd461, wd69, wd463, ⟨by decide, by decide, by decide⟩, by decide⟩ wd462 rfl rfl (by decide) (Nat.le_of_ble_eq_true rfl) dJ0_indexOf_7cf53_17 (fun v14 s15 r16 => ?_)
    show Zj X G 20 [(0, (3, (eS (xE X) i : Int))), (1, (0, a1)), (2, (0, a2))] [(0, v14)] _ _
    refine z_goto (pc := 20) hX 36 dJ0_indexOf_7cf53_20 (by decide) ?_
    exact z_iret (pc := 36) hX hR hk dJ0_indexOf_7cf53_36

theorem dJ0_indexOf_0f7a4_0 : decode cJ0_indexOf_0f7a4 0 = .ok (.aload_n 0, 1) := by decide +kernel
theorem dJ0_indexOf_0f7a4_1 : decode cJ0_indexOf_0f7a4 1 = .ok (.iload_n 1, 1) := by decide +kernel
theorem dJ0_indexOf_0f7a4_2 : decode cJ0_indexOf_0f7a4 2 = .ok (.iconst 0, 1) := by decide +kernel
theorem dJ0_indexOf_0f7a4_3 : decode cJ0_indexOf_0f7a4 3 = .ok (.invokevirtual 633, 3) := by decide +kernel
theorem dJ0_indexOf_0f7a4_6 : decode cJ0_indexOf_0f7a4 6 = .ok (.ireturn, 1) := by decide +kernel
def fJ0_indexOf_0f7a4 (s0 : ZS) (i : Nat) (a1 : Int) : Option (Int × ZS) := zb (fJ0_indexOf_7cf53 s0 i a1 0) (fun v1 s2 => some (v1, s2))
set_option maxHeartbeats 4000000 in
set_option maxRecDepth 100000 in
theorem mJ0_indexOf_0f7a4 (E : ZE) (hE : zOkE E) (l : Launch) (s0 : ZS) (i : Nat) (a1 : Int) (hi : i < 2) : Ct E l yJ0_indexOf_0f7a4 cJ0_indexOf_0f7a4 2 (some .int) 8 [(3, (eS E i : Int)), (0, a1)] 1 s0 (fJ0_indexOf_0f7a4 s0 i a1) := by
  refine Ct.of (by decide) hE (Nat.le_of_ble_eq_true rfl) ?_
  intro X G hX hR hN hXE hXl hxn hk _
  subst hXE
  subst hXl
  have hX : G → ZOk X cJ0_indexOf_0f7a4 RJ0 8 := hX
  clear hN
  show Zj X G 0 [(0, (3, (eS (xE X) i : Int))), (1, (0, a1))] [] s0 _
  unfold fJ0_indexOf_0f7a4
  refine z_aload3_n (pc := 0) hX 0 dJ0_indexOf_0f7a4_0 rfl rfl ?_
  refine z_iload_n (pc := 1) hX 1 dJ0_indexOf_0f7a4_1 rfl rfl ?_
  refine z_iconst (pc := 2) hX dJ0_indexOf_0f7a4_2 ?_
  refine z_callV3 (n := 2) (st := []) (pc := 3) hX hi rfl (mJ0_indexOf_7cf53 _ hE _ _ _ _ _ hi) ⟨wd456, wd68, wd459, ⟨by decide, by decide, by decide⟩, by decide⟩ rfl wd457 wd458 rfl rfl (by decide) (Nat.le_of_ble_eq_true rfl) dJ0_indexOf_0f7a4_3 (fun v1 s2 r3 => ?_)
  show Zj X G 6 [(0, (3, (eS (xE X) i : Int))), (1, (0, a1))] [(0, v1)] _ _
  exact z_iret (pc := 6) hX hR hk dJ0_indexOf_0f7a4_6

theorem dX4_signAt_0 : decode cX4_signAt 0 = .ok (.ldc 109, 2) := by decide +kernel
theorem dX4_signAt_2 : decode cX4_signAt 2 = .ok (.aload_n 0, 1) := by decide +kernel
theorem dX4_signAt_3 : decode cX4_signAt 3 = .ok (.getfield 13, 3) := by decide +kernel
theorem dX4_signAt_6 : decode cX4_signAt 6 = .ok (.iload_n 1, 1) := by decide +kernel
theorem dX4_signAt_7 : decode cX4_signAt 7 = .ok (.iaload, 1) := by decide +kernel
theorem dX4_signAt_8 : decode cX4_signAt 8 = .ok (.i2c, 1) := by decide +kernel
theorem dX4_signAt_9 : decode cX4_signAt 9 = .ok (.invokevirtual 111, 3) := by decide +kernel
theorem dX4_signAt_12 : decode cX4_signAt 12 = .ok (.ifCond .lt 16, 3) := by decide +kernel
theorem dX4_signAt_15 : decode cX4_signAt 15 = .ok (.sipush 20000, 3) := by decide +kernel
theorem dX4_signAt_18 : decode cX4_signAt 18 = .ok (.aload_n 0, 1) := by decide +kernel
theorem dX4_signAt_19 : decode cX4_signAt 19 = .ok (.getfield 13, 3) := by decide +kernel
theorem dX4_signAt_22 : decode cX4_signAt 22 = .ok (.iload_n 1, 1) := by decide +kernel
theorem dX4_signAt_23 : decode cX4_signAt 23 = .ok (.iaload, 1) := by decide +kernel
theorem dX4_signAt_24 : decode cX4_signAt 24 = .ok (.iadd, 1) := by decide +kernel
theorem dX4_signAt_25 : decode cX4_signAt 25 = .ok (.goto 6, 3) := by decide +kernel
theorem dX4_signAt_28 : decode cX4_signAt 28 = .ok (.sipush 30001, 3) := by decide +kernel
theorem dX4_signAt_31 : decode cX4_signAt 31 = .ok (.ireturn, 1) := by decide +kernel
def fX4_signAt (s0 : ZS) (a0 : Int) (a1 : Int) : Option (Int × ZS) := (zg s0 4 a0 0).bind (fun v1 => (zal s0 100 v1 a1).bind (fun v2 => zb (fJ0_indexOf_0f7a4 s0 1 (iC v2)) (fun v3 s4 => if v3 < 0 then (some (30001, s4)) else ((zg s4 4 a0 0).bind (fun v7 => (zal s4 100 v7 a1).bind (fun v8 => some ((wrap (20000 + v8)), s4)))))))
set_option maxHeartbeats 4000000 in
set_option maxRecDepth 100000 in
theorem mX4_signAt (E : ZE) (hE : zOkE E) (l : Launch) (s0 : ZS) (a0 : Int) (a1 : Int) : Ct E l yX4_signAt cX4_signAt 2 (some .int) 10 [(2, a0), (0, a1)] 1 s0 (fX4_signAt s0 a0 a1) := by
  refine Ct.of (by decide) hE (Nat.le_of_ble_eq_true rfl) ?_
  intro X G hX hR hN hXE hXl hxn hk _
  subst hXE
  subst hXl
  have hX : G → ZOk X cX4_signAt RX4 10 := hX
  clear hN
  show Zj X G 0 [(0, (2, a0)), (1, (0, a1))] [] s0 _
  unfold fX4_signAt
  refine z_ldcS (pc := 0) hX 1 (fun g => (zNe (hX := hX g)).2.2.2.2.1.2) dX4_signAt_0 ?_
  refine z_aload_n (pc := 2) hX 0 dX4_signAt_2 rfl rfl ?_
  refine z_get (pc := 3) hX zc4 0 (by decide) wd198 rfl rfl dX4_signAt_3 (fun v1 => ?_)
  refine z_iload_n (pc := 6) hX 1 dX4_signAt_6 rfl rfl ?_
  refine z_iald (pc := 7) hX dX4_signAt_7 (fun v2 => ?_)
  refine z_i2c (pc := 8) hX dX4_signAt_8 ?_
  refine z_callV3 (n := 1) (st := []) (pc := 9) hX (by decide) rfl (mJ0_indexOf_0f7a4 _ hE _ _ _ _ (by decide)) ⟨wd452, wd68, wd455, ⟨by decide, by decide, by decide⟩, by decide⟩ rfl wd453 wd454 rfl rfl (by decide) (Nat.le_of_ble_eq_true rfl) dX4_signAt_9 (fun v3 s4 r5 => ?_)
  show Zj X G 12 [(0, (2, a0)), (1, (0, a1))] [(0, v3)] _ _
  refine z_if_lt (pc := 12) hX 28 dX4_signAt_12 (by decide) (fun h6 => ?_) (fun h6 => ?_)
  · refine z_sipush (pc := 28) hX dX4_signAt_28 ?_
    exact z_iret (pc := 31) hX hR hk dX4_signAt_31
  · refine z_sipush (pc := 15) hX dX4_signAt_15 ?_
    refine z_aload_n (pc := 18) hX 0 dX4_signAt_18 rfl rfl ?_
    refine z_get (pc := 19) hX zc4 0 (by decide) wd198 rfl rfl dX4_signAt_19 (fun v7 => ?_)
    refine z_iload_n (pc := 22) hX 1 dX4_signAt_22 rfl rfl ?_
    refine z_iald (pc := 23) hX dX4_signAt_23 (fun v8 => ?_)
    refine z_iadd (pc := 24) hX dX4_signAt_24 ?_
    refine z_goto (pc := 25) hX 31 dX4_signAt_25 (by decide) ?_
    exact z_iret (pc := 31) hX hR hk dX4_signAt_31
