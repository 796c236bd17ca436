theorem dX4_readOr_0 : decode cX4_readOr 0 = .ok (.aload_n 0, 1) := by decide +kernel
theorem dX4_readOr_1 : decode cX4_readOr 1 = .ok (.iload_n 1, 1) := by decide +kernel
theorem dX4_readOr_2 : decode cX4_readOr 2 = .ok (.invokevirtual 71, 3) := by decide +kernel
theorem dX4_readOr_5 : decode cX4_readOr 5 = .ok (.iconst 0, 1) := by decide +kernel
theorem dX4_readOr_6 : decode cX4_readOr 6 = .ok (.istore_n 2, 1) := by decide +kernel
theorem dX4_readOr_7 : decode cX4_readOr 7 = .ok (.iload_n 2, 1) := by decide +kernel
theorem dX4_readOr_8 : decode cX4_readOr 8 = .ok (.sipush 160, 3) := by decide +kernel
theorem dX4_readOr_11 : decode cX4_readOr 11 = .ok (.if_icmp .ge 40, 3) := by decide +kernel
theorem dX4_readOr_14 : decode cX4_readOr 14 = .ok (.aload_n 0, 1) := by decide +kernel
theorem dX4_readOr_15 : decode cX4_readOr 15 = .ok (.getfield 24, 3) := by decide +kernel
theorem dX4_readOr_18 : decode cX4_readOr 18 = .ok (.aload_n 0, 1) := by decide +kernel
theorem dX4_readOr_19 : decode cX4_readOr 19 = .ok (.getfield 33, 3) := by decide +kernel
theorem dX4_readOr_22 : decode cX4_readOr 22 = .ok (.iaload, 1) := by decide +kernel
theorem dX4_readOr_23 : decode cX4_readOr 23 = .ok (.sipush 10009, 3) := by decide +kernel
theorem dX4_readOr_26 : decode cX4_readOr 26 = .ok (.if_icmp .ne 25, 3) := by decide +kernel
theorem dX4_readOr_29 : decode cX4_readOr 29 = .ok (.aload_n 0, 1) := by decide +kernel
theorem dX4_readOr_30 : decode cX4_readOr 30 = .ok (.invokevirtual 74, 3) := by decide +kernel
theorem dX4_readOr_33 : decode cX4_readOr 33 = .ok (.aload_n 0, 1) := by decide +kernel
theorem dX4_readOr_34 : decode cX4_readOr 34 = .ok (.iload_n 1, 1) := by decide +kernel
theorem dX4_readOr_35 : decode cX4_readOr 35 = .ok (.invokevirtual 71, 3) := by decide +kernel
theorem dX4_readOr_38 : decode cX4_readOr 38 = .ok (.aload_n 0, 1) := by decide +kernel
theorem dX4_readOr_39 : decode cX4_readOr 39 = .ok (.sipush 10012, 3) := by decide +kernel
theorem dX4_readOr_42 : decode cX4_readOr 42 = .ok (.invokevirtual 77, 3) := by decide +kernel
theorem dX4_readOr_45 : decode cX4_readOr 45 = .ok (.iinc 2 1, 3) := by decide +kernel
theorem dX4_readOr_48 : decode cX4_readOr 48 = .ok (.goto (-41), 3) := by decide +kernel
theorem dX4_readOr_51 : decode cX4_readOr 51 = .ok (.return_, 1) := by decide +kernel
def lX4_readOr_7 (rf : Nat → ZS → Int → Int → Option (Int × ZS)) (u5 u6 : Int)  : Nat → ZS → Int → Option (Int × ZS)
  | 0, _, _ => none
  | n1 + 1, s4, x7 => if 160 ≤ x7 then (some (0, s4)) else ((zg s4 4 u5 3).bind (fun v9 => (zg s4 4 u5 6).bind (fun v10 => (zal s4 100 v9 v10).bind (fun v11 => if v11 = 10009 then (zb (zv s4 4 u5 (fX4_advance s4 u5)) (fun v13 s14 => zb (zv s14 4 u5 (rf 1 s14 u5 u6)) (fun v16 s17 => zb (zv s17 4 u5 (fX4_emit s17 u5 10012)) (fun v19 s20 => lX4_readOr_7 rf u5 u6 n1 s20 (wrap (x7 + 1)))))) else (some (0, s4))))))

theorem dX4_readAnd_0 : decode cX4_readAnd 0 = .ok (.aload_n 0, 1) := by decide +kernel
theorem dX4_readAnd_1 : decode cX4_readAnd 1 = .ok (.iload_n 1, 1) := by decide +kernel
theorem dX4_readAnd_2 : decode cX4_readAnd 2 = .ok (.invokevirtual 80, 3) := by decide +kernel
theorem dX4_readAnd_5 : decode cX4_readAnd 5 = .ok (.iconst 0, 1) := by decide +kernel
theorem dX4_readAnd_6 : decode cX4_readAnd 6 = .ok (.istore_n 2, 1) := by decide +kernel
theorem dX4_readAnd_7 : decode cX4_readAnd 7 = .ok (.iload_n 2, 1) := by decide +kernel
theorem dX4_readAnd_8 : decode cX4_readAnd 8 = .ok (.sipush 160, 3) := by decide +kernel
theorem dX4_readAnd_11 : decode cX4_readAnd 11 = .ok (.if_icmp .ge 40, 3) := by decide +kernel
theorem dX4_readAnd_14 : decode cX4_readAnd 14 = .ok (.aload_n 0, 1) := by decide +kernel
theorem dX4_readAnd_15 : decode cX4_readAnd 15 = .ok (.getfield 24, 3) := by decide +kernel
theorem dX4_readAnd_18 : decode cX4_readAnd 18 = .ok (.aload_n 0, 1) := by decide +kernel
theorem dX4_readAnd_19 : decode cX4_readAnd 19 = .ok (.getfield 33, 3) := by decide +kernel
theorem dX4_readAnd_22 : decode cX4_readAnd 22 = .ok (.iaload, 1) := by decide +kernel
theorem dX4_readAnd_23 : decode cX4_readAnd 23 = .ok (.sipush 10008, 3) := by decide +kernel
theorem dX4_readAnd_26 : decode cX4_readAnd 26 = .ok (.if_icmp .ne 25, 3) := by decide +kernel
theorem dX4_readAnd_29 : decode cX4_readAnd 29 = .ok (.aload_n 0, 1) := by decide +kernel
theorem dX4_readAnd_30 : decode cX4_readAnd 30 = .ok (.invokevirtual 74, 3) := by decide +kernel
theorem dX4_readAnd_33 : decode cX4_readAnd 33 = .ok (.aload_n 0, 1) := by decide +kernel
theorem dX4_readAnd_34 : decode cX4_readAnd 34 = .ok (.iload_n 1, 1) := by decide +kernel
theorem dX4_readAnd_35 : decode cX4_readAnd 35 = .ok (.invokevirtual 80, 3) := by decide +kernel
theorem dX4_readAnd_38 : decode cX4_readAnd 38 = .ok (.aload_n 0, 1) := by decide +kernel
theorem dX4_readAnd_39 : decode cX4_readAnd 39 = .ok (.sipush 10011, 3) := by decide +kernel
theorem dX4_readAnd_42 : decode cX4_readAnd 42 = .ok (.invokevirtual 77, 3) := by decide +kernel
theorem dX4_readAnd_45 : decode cX4_readAnd 45 = .ok (.iinc 2 1, 3) := by decide +kernel
theorem dX4_readAnd_48 : decode cX4_readAnd 48 = .ok (.goto (-41), 3) := by decide +kernel
theorem dX4_readAnd_51 : decode cX4_readAnd 51 = .ok (.return_, 1) := by decide +kernel
def lX4_readAnd_7 (rf : Nat → ZS → Int → Int → Option (Int × ZS)) (u5 u6 : Int)  : Nat → ZS → Int → Option (Int × ZS)
  | 0, _, _ => none
  | n1 + 1, s4, x7 => if 160 ≤ x7 then (some (0, s4)) else ((zg s4 4 u5 3).bind (fun v9 => (zg s4 4 u5 6).bind (fun v10 => (zal s4 100 v9 v10).bind (fun v11 => if v11 = 10008 then (zb (zv s4 4 u5 (fX4_advance s4 u5)) (fun v13 s14 => zb (zv s14 4 u5 (rf 2 s14 u5 u6)) (fun v16 s17 => zb (zv s17 4 u5 (fX4_emit s17 u5 10011)) (fun v19 s20 => lX4_readAnd_7 rf u5 u6 n1 s20 (wrap (x7 + 1)))))) else (some (0, s4))))))

theorem dX4_readNot_0 : decode cX4_readNot 0 = .ok (.aload_n 0, 1) := by decide +kernel
theorem dX4_readNot_1 : decode cX4_readNot 1 = .ok (.getfield 24, 3) := by decide +kernel
theorem dX4_readNot_4 : decode cX4_readNot 4 = .ok (.aload_n 0, 1) := by decide +kernel
theorem dX4_readNot_5 : decode cX4_readNot 5 = .ok (.getfield 33, 3) := by decide +kernel
theorem dX4_readNot_8 : decode cX4_readNot 8 = .ok (.iaload, 1) := by decide +kernel
theorem dX4_readNot_9 : decode cX4_readNot 9 = .ok (.sipush 10010, 3) := by decide +kernel
theorem dX4_readNot_12 : decode cX4_readNot 12 = .ok (.if_icmp .ne 26, 3) := by decide +kernel
theorem dX4_readNot_15 : decode cX4_readNot 15 = .ok (.aload_n 0, 1) := by decide +kernel
theorem dX4_readNot_16 : decode cX4_readNot 16 = .ok (.iload_n 1, 1) := by decide +kernel
theorem dX4_readNot_17 : decode cX4_readNot 17 = .ok (.invokevirtual 83, 3) := by decide +kernel
theorem dX4_readNot_20 : decode cX4_readNot 20 = .ok (.ifCond .eq 17, 3) := by decide +kernel
theorem dX4_readNot_23 : decode cX4_readNot 23 = .ok (.aload_n 0, 1) := by decide +kernel
theorem dX4_readNot_24 : decode cX4_readNot 24 = .ok (.iload_n 1, 1) := by decide +kernel
theorem dX4_readNot_25 : decode cX4_readNot 25 = .ok (.iconst 1, 1) := by decide +kernel
theorem dX4_readNot_26 : decode cX4_readNot 26 = .ok (.iadd, 1) := by decide +kernel
theorem dX4_readNot_27 : decode cX4_readNot 27 = .ok (.invokevirtual 80, 3) := by decide +kernel
theorem dX4_readNot_30 : decode cX4_readNot 30 = .ok (.aload_n 0, 1) := by decide +kernel
theorem dX4_readNot_31 : decode cX4_readNot 31 = .ok (.sipush 10013, 3) := by decide +kernel
theorem dX4_readNot_34 : decode cX4_readNot 34 = .ok (.invokevirtual 77, 3) := by decide +kernel
theorem dX4_readNot_37 : decode cX4_readNot 37 = .ok (.return_, 1) := by decide +kernel
theorem dX4_readNot_38 : decode cX4_readNot 38 = .ok (.aload_n 0, 1) := by decide +kernel
theorem dX4_readNot_39 : decode cX4_readNot 39 = .ok (.iload_n 1, 1) := by decide +kernel
theorem dX4_readNot_40 : decode cX4_readNot 40 = .ok (.invokevirtual 87, 3) := by decide +kernel
theorem dX4_readNot_43 : decode cX4_readNot 43 = .ok (.aload_n 0, 1) := by decide +kernel
theorem dX4_readNot_44 : decode cX4_readNot 44 = .ok (.getfield 24, 3) := by decide +kernel
theorem dX4_readNot_47 : decode cX4_readNot 47 = .ok (.aload_n 0, 1) := by decide +kernel
theorem dX4_readNot_48 : decode cX4_readNot 48 = .ok (.getfield 33, 3) := by decide +kernel
theorem dX4_readNot_51 : decode cX4_readNot 51 = .ok (.iaload, 1) := by decide +kernel
theorem dX4_readNot_52 : decode cX4_readNot 52 = .ok (.sipush 20060, 3) := by decide +kernel
theorem dX4_readNot_55 : decode cX4_readNot 55 = .ok (.if_icmp .ne 22, 3) := by decide +kernel
theorem dX4_readNot_58 : decode cX4_readNot 58 = .ok (.aload_n 0, 1) := by decide +kernel
theorem dX4_readNot_59 : decode cX4_readNot 59 = .ok (.invokevirtual 74, 3) := by decide +kernel
theorem dX4_readNot_62 : decode cX4_readNot 62 = .ok (.aload_n 0, 1) := by decide +kernel
theorem dX4_readNot_63 : decode cX4_readNot 63 = .ok (.iload_n 1, 1) := by decide +kernel
theorem dX4_readNot_64 : decode cX4_readNot 64 = .ok (.invokevirtual 87, 3) := by decide +kernel
theorem dX4_readNot_67 : decode cX4_readNot 67 = .ok (.aload_n 0, 1) := by decide +kernel
theorem dX4_readNot_68 : decode cX4_readNot 68 = .ok (.sipush 10009, 3) := by decide +kernel
theorem dX4_readNot_71 : decode cX4_readNot 71 = .ok (.invokevirtual 77, 3) := by decide +kernel
theorem dX4_readNot_74 : decode cX4_readNot 74 = .ok (.goto 34, 3) := by decide +kernel
theorem dX4_readNot_77 : decode cX4_readNot 77 = .ok (.aload_n 0, 1) := by decide +kernel
theorem dX4_readNot_78 : decode cX4_readNot 78 = .ok (.getfield 24, 3) := by decide +kernel
theorem dX4_readNot_81 : decode cX4_readNot 81 = .ok (.aload_n 0, 1) := by decide +kernel
theorem dX4_readNot_82 : decode cX4_readNot 82 = .ok (.getfield 33, 3) := by decide +kernel
theorem dX4_readNot_85 : decode cX4_readNot 85 = .ok (.iaload, 1) := by decide +kernel
theorem dX4_readNot_86 : decode cX4_readNot 86 = .ok (.sipush 20061, 3) := by decide +kernel
theorem dX4_readNot_89 : decode cX4_readNot 89 = .ok (.if_icmp .ne 19, 3) := by decide +kernel
theorem dX4_readNot_92 : decode cX4_readNot 92 = .ok (.aload_n 0, 1) := by decide +kernel
theorem dX4_readNot_93 : decode cX4_readNot 93 = .ok (.invokevirtual 74, 3) := by decide +kernel
theorem dX4_readNot_96 : decode cX4_readNot 96 = .ok (.aload_n 0, 1) := by decide +kernel
theorem dX4_readNot_97 : decode cX4_readNot 97 = .ok (.iload_n 1, 1) := by decide +kernel
theorem dX4_readNot_98 : decode cX4_readNot 98 = .ok (.invokevirtual 87, 3) := by decide +kernel
theorem dX4_readNot_101 : decode cX4_readNot 101 = .ok (.aload_n 0, 1) := by decide +kernel
theorem dX4_readNot_102 : decode cX4_readNot 102 = .ok (.sipush 10010, 3) := by decide +kernel
theorem dX4_readNot_105 : decode cX4_readNot 105 = .ok (.invokevirtual 77, 3) := by decide +kernel
theorem dX4_readNot_108 : decode cX4_readNot 108 = .ok (.return_, 1) := by decide +kernel
theorem dX4_readSum_0 : decode cX4_readSum 0 = .ok (.aload_n 0, 1) := by decide +kernel
theorem dX4_readSum_1 : decode cX4_readSum 1 = .ok (.iload_n 1, 1) := by decide +kernel
theorem dX4_readSum_2 : decode cX4_readSum 2 = .ok (.invokevirtual 90, 3) := by decide +kernel
theorem dX4_readSum_5 : decode cX4_readSum 5 = .ok (.iconst 0, 1) := by decide +kernel
theorem dX4_readSum_6 : decode cX4_readSum 6 = .ok (.istore_n 2, 1) := by decide +kernel
theorem dX4_readSum_7 : decode cX4_readSum 7 = .ok (.iload_n 2, 1) := by decide +kernel
theorem dX4_readSum_8 : decode cX4_readSum 8 = .ok (.sipush 160, 3) := by decide +kernel
theorem dX4_readSum_11 : decode cX4_readSum 11 = .ok (.if_icmp .ge 78, 3) := by decide +kernel
theorem dX4_readSum_14 : decode cX4_readSum 14 = .ok (.aload_n 0, 1) := by decide +kernel
theorem dX4_readSum_15 : decode cX4_readSum 15 = .ok (.getfield 24, 3) := by decide +kernel
theorem dX4_readSum_18 : decode cX4_readSum 18 = .ok (.aload_n 0, 1) := by decide +kernel
theorem dX4_readSum_19 : decode cX4_readSum 19 = .ok (.getfield 33, 3) := by decide +kernel
theorem dX4_readSum_22 : decode cX4_readSum 22 = .ok (.iaload, 1) := by decide +kernel
theorem dX4_readSum_23 : decode cX4_readSum 23 = .ok (.sipush 20043, 3) := by decide +kernel
theorem dX4_readSum_26 : decode cX4_readSum 26 = .ok (.if_icmp .eq 18, 3) := by decide +kernel
theorem dX4_readSum_29 : decode cX4_readSum 29 = .ok (.aload_n 0, 1) := by decide +kernel
theorem dX4_readSum_30 : decode cX4_readSum 30 = .ok (.getfield 24, 3) := by decide +kernel
theorem dX4_readSum_33 : decode cX4_readSum 33 = .ok (.aload_n 0, 1) := by decide +kernel
theorem dX4_readSum_34 : decode cX4_readSum 34 = .ok (.getfield 33, 3) := by decide +kernel
theorem dX4_readSum_37 : decode cX4_readSum 37 = .ok (.iaload, 1) := by decide +kernel
theorem dX4_readSum_38 : decode cX4_readSum 38 = .ok (.sipush 20045, 3) := by decide +kernel
theorem dX4_readSum_41 : decode cX4_readSum 41 = .ok (.if_icmp .ne 48, 3) := by decide +kernel
theorem dX4_readSum_44 : decode cX4_readSum 44 = .ok (.aload_n 0, 1) := by decide +kernel
theorem dX4_readSum_45 : decode cX4_readSum 45 = .ok (.getfield 24, 3) := by decide +kernel
theorem dX4_readSum_48 : decode cX4_readSum 48 = .ok (.aload_n 0, 1) := by decide +kernel
theorem dX4_readSum_49 : decode cX4_readSum 49 = .ok (.getfield 33, 3) := by decide +kernel
theorem dX4_readSum_52 : decode cX4_readSum 52 = .ok (.iaload, 1) := by decide +kernel
theorem dX4_readSum_53 : decode cX4_readSum 53 = .ok (.sipush 20043, 3) := by decide +kernel
theorem dX4_readSum_56 : decode cX4_readSum 56 = .ok (.if_icmp .ne 9, 3) := by decide +kernel
theorem dX4_readSum_59 : decode cX4_readSum 59 = .ok (.sipush 10006, 3) := by decide +kernel
theorem dX4_readSum_62 : decode cX4_readSum 62 = .ok (.goto 6, 3) := by decide +kernel
theorem dX4_readSum_65 : decode cX4_readSum 65 = .ok (.sipush 10007, 3) := by decide +kernel
theorem dX4_readSum_68 : decode cX4_readSum 68 = .ok (.istore_n 3, 1) := by decide +kernel
theorem dX4_readSum_69 : decode cX4_readSum 69 = .ok (.aload_n 0, 1) := by decide +kernel
theorem dX4_readSum_70 : decode cX4_readSum 70 = .ok (.invokevirtual 74, 3) := by decide +kernel
theorem dX4_readSum_73 : decode cX4_readSum 73 = .ok (.aload_n 0, 1) := by decide +kernel
theorem dX4_readSum_74 : decode cX4_readSum 74 = .ok (.iload_n 1, 1) := by decide +kernel
theorem dX4_readSum_75 : decode cX4_readSum 75 = .ok (.invokevirtual 90, 3) := by decide +kernel
theorem dX4_readSum_78 : decode cX4_readSum 78 = .ok (.aload_n 0, 1) := by decide +kernel
theorem dX4_readSum_79 : decode cX4_readSum 79 = .ok (.iload_n 3, 1) := by decide +kernel
theorem dX4_readSum_80 : decode cX4_readSum 80 = .ok (.invokevirtual 77, 3) := by decide +kernel
theorem dX4_readSum_83 : decode cX4_readSum 83 = .ok (.iinc 2 1, 3) := by decide +kernel
theorem dX4_readSum_86 : decode cX4_readSum 86 = .ok (.goto (-79), 3) := by decide +kernel
theorem dX4_readSum_89 : decode cX4_readSum 89 = .ok (.return_, 1) := by decide +kernel
def lX4_readSum_7 (rf : Nat → ZS → Int → Int → Option (Int × ZS)) (u5 u6 : Int)  : Nat → ZS → Int → Option (Int × ZS)
  | 0, _, _ => none
  | n1 + 1, s4, x7 => if 160 ≤ x7 then (some (0, s4)) else ((zg s4 4 u5 3).bind (fun v9 => (zg s4 4 u5 6).bind (fun v10 => (zal s4 100 v9 v10).bind (fun v11 => zjn (fun (K44 : ZS → Option (Int × ZS)) => if v11 = 20043 then (K44 s4) else ((zg s4 4 u5 3).bind (fun v13 => (zg s4 4 u5 6).bind (fun v14 => (zal s4 100 v13 v14).bind (fun v15 => if v15 = 20045 then (K44 s4) else (some (0, s4))))))) (fun (s17 : ZS) => (zg s17 4 u5 3).bind (fun v18 => (zg s17 4 u5 6).bind (fun v19 => (zal s17 100 v18 v19).bind (fun v20 => zjn (fun (K68 : ZS → Int → Option (Int × ZS)) => if v20 = 20043 then (K68 s17 10006) else (K68 s17 10007)) (fun (s22 : ZS) (w23 : Int) => zb (zv s22 4 u5 (fX4_advance s22 u5)) (fun v24 s25 => zb (zv s25 4 u5 (rf 4 s25 u5 u6)) (fun v27 s28 => zb (zv s28 4 u5 (fX4_emit s28 u5 w23)) (fun v30 s31 => lX4_readSum_7 rf u5 u6 n1 s31 (wrap (x7 + 1))))))))))))))

theorem dX4_readTerm_0 : decode cX4_readTerm 0 = .ok (.aload_n 0, 1) := by decide +kernel
theorem dX4_readTerm_1 : decode cX4_readTerm 1 = .ok (.iload_n 1, 1) := by decide +kernel
theorem dX4_readTerm_2 : decode cX4_readTerm 2 = .ok (.invokevirtual 93, 3) := by decide +kernel
theorem dX4_readTerm_5 : decode cX4_readTerm 5 = .ok (.iconst 0, 1) := by decide +kernel
theorem dX4_readTerm_6 : decode cX4_readTerm 6 = .ok (.istore_n 2, 1) := by decide +kernel
theorem dX4_readTerm_7 : decode cX4_readTerm 7 = .ok (.iload_n 2, 1) := by decide +kernel
theorem dX4_readTerm_8 : decode cX4_readTerm 8 = .ok (.sipush 160, 3) := by decide +kernel
theorem dX4_readTerm_11 : decode cX4_readTerm 11 = .ok (.if_icmp .ge 40, 3) := by decide +kernel
theorem dX4_readTerm_14 : decode cX4_readTerm 14 = .ok (.aload_n 0, 1) := by decide +kernel
theorem dX4_readTerm_15 : decode cX4_readTerm 15 = .ok (.getfield 24, 3) := by decide +kernel
theorem dX4_readTerm_18 : decode cX4_readTerm 18 = .ok (.aload_n 0, 1) := by decide +kernel
theorem dX4_readTerm_19 : decode cX4_readTerm 19 = .ok (.getfield 33, 3) := by decide +kernel
theorem dX4_readTerm_22 : decode cX4_readTerm 22 = .ok (.iaload, 1) := by decide +kernel
theorem dX4_readTerm_23 : decode cX4_readTerm 23 = .ok (.sipush 20042, 3) := by decide +kernel
theorem dX4_readTerm_26 : decode cX4_readTerm 26 = .ok (.if_icmp .ne 25, 3) := by decide +kernel
theorem dX4_readTerm_29 : decode cX4_readTerm 29 = .ok (.aload_n 0, 1) := by decide +kernel
theorem dX4_readTerm_30 : decode cX4_readTerm 30 = .ok (.invokevirtual 74, 3) := by decide +kernel
theorem dX4_readTerm_33 : decode cX4_readTerm 33 = .ok (.aload_n 0, 1) := by decide +kernel
theorem dX4_readTerm_34 : decode cX4_readTerm 34 = .ok (.iload_n 1, 1) := by decide +kernel
theorem dX4_readTerm_35 : decode cX4_readTerm 35 = .ok (.invokevirtual 93, 3) := by decide +kernel
theorem dX4_readTerm_38 : decode cX4_readTerm 38 = .ok (.aload_n 0, 1) := by decide +kernel
theorem dX4_readTerm_39 : decode cX4_readTerm 39 = .ok (.sipush 10008, 3) := by decide +kernel
theorem dX4_readTerm_42 : decode cX4_readTerm 42 = .ok (.invokevirtual 77, 3) := by decide +kernel
theorem dX4_readTerm_45 : decode cX4_readTerm 45 = .ok (.iinc 2 1, 3) := by decide +kernel
theorem dX4_readTerm_48 : decode cX4_readTerm 48 = .ok (.goto (-41), 3) := by decide +kernel
theorem dX4_readTerm_51 : decode cX4_readTerm 51 = .ok (.return_, 1) := by decide +kernel
def lX4_readTerm_7 (rf : Nat → ZS → Int → Int → Option (Int × ZS)) (u5 u6 : Int)  : Nat → ZS → Int → Option (Int × ZS)
  | 0, _, _ => none
  | n1 + 1, s4, x7 => if 160 ≤ x7 then (some (0, s4)) else ((zg s4 4 u5 3).bind (fun v9 => (zg s4 4 u5 6).bind (fun v10 => (zal s4 100 v9 v10).bind (fun v11 => if v11 = 20042 then (zb (zv s4 4 u5 (fX4_advance s4 u5)) (fun v13 s14 => zb (zv s14 4 u5 (rf 5 s14 u5 u6)) (fun v16 s17 => zb (zv s17 4 u5 (fX4_emit s17 u5 10008)) (fun v19 s20 => lX4_readTerm_7 rf u5 u6 n1 s20 (wrap (x7 + 1)))))) else (some (0, s4))))))

theorem dX4_readOne_0 : decode cX4_readOne 0 = .ok (.aload_n 0, 1) := by decide +kernel
theorem dX4_readOne_1 : decode cX4_readOne 1 = .ok (.getfield 24, 3) := by decide +kernel
theorem dX4_readOne_4 : decode cX4_readOne 4 = .ok (.aload_n 0, 1) := by decide +kernel
theorem dX4_readOne_5 : decode cX4_readOne 5 = .ok (.getfield 33, 3) := by decide +kernel
theorem dX4_readOne_8 : decode cX4_readOne 8 = .ok (.iaload, 1) := by decide +kernel
theorem dX4_readOne_9 : decode cX4_readOne 9 = .ok (.istore_n 2, 1) := by decide +kernel
theorem dX4_readOne_10 : decode cX4_readOne 10 = .ok (.iload_n 2, 1) := by decide +kernel
theorem dX4_readOne_11 : decode cX4_readOne 11 = .ok (.sipush 10006, 3) := by decide +kernel
theorem dX4_readOne_14 : decode cX4_readOne 14 = .ok (.if_icmp .ge 15, 3) := by decide +kernel
theorem dX4_readOne_17 : decode cX4_readOne 17 = .ok (.aload_n 0, 1) := by decide +kernel
theorem dX4_readOne_18 : decode cX4_readOne 18 = .ok (.iload_n 2, 1) := by decide +kernel
theorem dX4_readOne_19 : decode cX4_readOne 19 = .ok (.invokevirtual 77, 3) := by decide +kernel
theorem dX4_readOne_22 : decode cX4_readOne 22 = .ok (.aload_n 0, 1) := by decide +kernel
theorem dX4_readOne_23 : decode cX4_readOne 23 = .ok (.invokevirtual 74, 3) := by decide +kernel
theorem dX4_readOne_26 : decode cX4_readOne 26 = .ok (.goto 71, 3) := by decide +kernel
theorem dX4_readOne_29 : decode cX4_readOne 29 = .ok (.iload_n 2, 1) := by decide +kernel
theorem dX4_readOne_30 : decode cX4_readOne 30 = .ok (.sipush 20045, 3) := by decide +kernel
theorem dX4_readOne_33 : decode cX4_readOne 33 = .ok (.if_icmp .ne 28, 3) := by decide +kernel
theorem dX4_readOne_36 : decode cX4_readOne 36 = .ok (.aload_n 0, 1) := by decide +kernel
theorem dX4_readOne_37 : decode cX4_readOne 37 = .ok (.iload_n 1, 1) := by decide +kernel
theorem dX4_readOne_38 : decode cX4_readOne 38 = .ok (.invokevirtual 83, 3) := by decide +kernel
theorem dX4_readOne_41 : decode cX4_readOne 41 = .ok (.ifCond .eq 56, 3) := by decide +kernel
theorem dX4_readOne_44 : decode cX4_readOne 44 = .ok (.aload_n 0, 1) := by decide +kernel
theorem dX4_readOne_45 : decode cX4_readOne 45 = .ok (.iload_n 1, 1) := by decide +kernel
theorem dX4_readOne_46 : decode cX4_readOne 46 = .ok (.iconst 1, 1) := by decide +kernel
theorem dX4_readOne_47 : decode cX4_readOne 47 = .ok (.iadd, 1) := by decide +kernel
theorem dX4_readOne_48 : decode cX4_readOne 48 = .ok (.invokevirtual 93, 3) := by decide +kernel
theorem dX4_readOne_51 : decode cX4_readOne 51 = .ok (.aload_n 0, 1) := by decide +kernel
theorem dX4_readOne_52 : decode cX4_readOne 52 = .ok (.sipush 10014, 3) := by decide +kernel
theorem dX4_readOne_55 : decode cX4_readOne 55 = .ok (.invokevirtual 77, 3) := by decide +kernel
theorem dX4_readOne_58 : decode cX4_readOne 58 = .ok (.goto 39, 3) := by decide +kernel
theorem dX4_readOne_61 : decode cX4_readOne 61 = .ok (.iload_n 2, 1) := by decide +kernel
theorem dX4_readOne_62 : decode cX4_readOne 62 = .ok (.sipush 20040, 3) := by decide +kernel
theorem dX4_readOne_65 : decode cX4_readOne 65 = .ok (.if_icmp .ne 28, 3) := by decide +kernel
theorem dX4_readOne_68 : decode cX4_readOne 68 = .ok (.aload_n 0, 1) := by decide +kernel
theorem dX4_readOne_69 : decode cX4_readOne 69 = .ok (.iload_n 1, 1) := by decide +kernel
theorem dX4_readOne_70 : decode cX4_readOne 70 = .ok (.invokevirtual 83, 3) := by decide +kernel
theorem dX4_readOne_73 : decode cX4_readOne 73 = .ok (.ifCond .eq 24, 3) := by decide +kernel
theorem dX4_readOne_76 : decode cX4_readOne 76 = .ok (.aload_n 0, 1) := by decide +kernel
theorem dX4_readOne_77 : decode cX4_readOne 77 = .ok (.iload_n 1, 1) := by decide +kernel
theorem dX4_readOne_78 : decode cX4_readOne 78 = .ok (.iconst 1, 1) := by decide +kernel
theorem dX4_readOne_79 : decode cX4_readOne 79 = .ok (.iadd, 1) := by decide +kernel
theorem dX4_readOne_80 : decode cX4_readOne 80 = .ok (.invokevirtual 68, 3) := by decide +kernel
theorem dX4_readOne_83 : decode cX4_readOne 83 = .ok (.aload_n 0, 1) := by decide +kernel
theorem dX4_readOne_84 : decode cX4_readOne 84 = .ok (.sipush 20041, 3) := by decide +kernel
theorem dX4_readOne_87 : decode cX4_readOne 87 = .ok (.invokevirtual 65, 3) := by decide +kernel
theorem dX4_readOne_90 : decode cX4_readOne 90 = .ok (.goto 7, 3) := by decide +kernel
theorem dX4_readOne_93 : decode cX4_readOne 93 = .ok (.aload_n 0, 1) := by decide +kernel
theorem dX4_readOne_94 : decode cX4_readOne 94 = .ok (.invokevirtual 49, 3) := by decide +kernel
theorem dX4_readOne_97 : decode cX4_readOne 97 = .ok (.return_, 1) := by decide +kernel
def sX4_readOr (rf : Nat → ZS → Int → Int → Option (Int × ZS)) (s0 : ZS) (a0 a1 : Int) : Option (Int × ZS) := zb (zv s0 4 a0 (rf 1 s0 a0 a1)) (fun v1 s2 => lX4_readOr_7 rf a0 a1 1000 s2 0)
def sX4_readAnd (rf : Nat → ZS → Int → Int → Option (Int × ZS)) (s0 : ZS) (a0 a1 : Int) : Option (Int × ZS) := zb (zv s0 4 a0 (rf 2 s0 a0 a1)) (fun v1 s2 => lX4_readAnd_7 rf a0 a1 1000 s2 0)
def sX4_readNot (rf : Nat → ZS → Int → Int → Option (Int × ZS)) (s0 : ZS) (a0 a1 : Int) : Option (Int × ZS) := (zg s0 4 a0 3).bind (fun v1 => (zg s0 4 a0 6).bind (fun v2 => (zal s0 100 v1 v2).bind (fun v3 => if v3 = 10010 then (zb (zv s0 4 a0 (fX4_mayOpen s0 a0 a1)) (fun v34 s35 => if v34 = 0 then (some (0, s35)) else (zb (zv s35 4 a0 (rf 2 s35 a0 (wrap (a1 + 1)))) (fun v38 s39 => zb (zv s39 4 a0 (fX4_emit s39 a0 10013)) (fun v41 s42 => some (0, s42)))))) else (zb (zv s0 4 a0 (rf 3 s0 a0 a1)) (fun v5 s6 => (zg s6 4 a0 3).bind (fun v8 => (zg s6 4 a0 6).bind (fun v9 => (zal s6 100 v8 v9).bind (fun v10 => if v10 = 20060 then (zb (zv s6 4 a0 (fX4_advance s6 a0)) (fun v25 s26 => zb (zv s26 4 a0 (rf 3 s26 a0 a1)) (fun v28 s29 => zb (zv s29 4 a0 (fX4_emit s29 a0 10009)) (fun v31 s32 => some (0, s32))))) else ((zg s6 4 a0 3).bind (fun v12 => (zg s6 4 a0 6).bind (fun v13 => (zal s6 100 v12 v13).bind (fun v14 => if v14 = 20061 then (zb (zv s6 4 a0 (fX4_advance s6 a0)) (fun v16 s17 => zb (zv s17 4 a0 (rf 3 s17 a0 a1)) (fun v19 s20 => zb (zv s20 4 a0 (fX4_emit s20 a0 10010)) (fun v22 s23 => some (0, s23))))) else (some (0, s6))))))))))))))
def sX4_readSum (rf : Nat → ZS → Int → Int → Option (Int × ZS)) (s0 : ZS) (a0 a1 : Int) : Option (Int × ZS) := zb (zv s0 4 a0 (rf 4 s0 a0 a1)) (fun v1 s2 => lX4_readSum_7 rf a0 a1 1000 s2 0)
def sX4_readTerm (rf : Nat → ZS → Int → Int → Option (Int × ZS)) (s0 : ZS) (a0 a1 : Int) : Option (Int × ZS) := zb (zv s0 4 a0 (rf 5 s0 a0 a1)) (fun v1 s2 => lX4_readTerm_7 rf a0 a1 1000 s2 0)
def sX4_readOne (rf : Nat → ZS → Int → Int → Option (Int × ZS)) (s0 : ZS) (a0 a1 : Int) : Option (Int × ZS) := (zg s0 4 a0 3).bind (fun v1 => (zg s0 4 a0 6).bind (fun v2 => (zal s0 100 v1 v2).bind (fun v3 => if 10006 ≤ v3 then (if v3 = 20045 then (zb (zv s0 4 a0 (fX4_mayOpen s0 a0 a1)) (fun v20 s21 => if v20 = 0 then (some (0, s21)) else (zb (zv s21 4 a0 (rf 5 s21 a0 (wrap (a1 + 1)))) (fun v24 s25 => zb (zv s25 4 a0 (fX4_emit s25 a0 10014)) (fun v27 s28 => some (0, s28)))))) else (if v3 = 20040 then (zb (zv s0 4 a0 (fX4_mayOpen s0 a0 a1)) (fun v10 s11 => if v10 = 0 then (some (0, s11)) else (zb (zv s11 4 a0 (rf 0 s11 a0 (wrap (a1 + 1)))) (fun v14 s15 => zb (zv s15 4 a0 (fX4_expect s15 a0 20041)) (fun v17 s18 => some (0, s18)))))) else (zb (zv s0 4 a0 (fX4_fail s0 a0)) (fun v7 s8 => some (0, s8))))) else (zb (zv s0 4 a0 (fX4_emit s0 a0 v3)) (fun v30 s31 => zb (zv s31 4 a0 (fX4_advance s31 a0)) (fun v33 s34 => some (0, s34)))))))
def sX4_rec (rf : Nat → ZS → Int → Int → Option (Int × ZS)) (t : Nat) (s0 : ZS) (a0 a1 : Int) : Option (Int × ZS) := if t = 0 then sX4_readOr rf s0 a0 a1 else if t = 1 then sX4_readAnd rf s0 a0 a1 else if t = 2 then sX4_readNot rf s0 a0 a1 else if t = 3 then sX4_readSum rf s0 a0 a1 else if t = 4 then sX4_readTerm rf s0 a0 a1 else if t = 5 then sX4_readOne rf s0 a0 a1 else none
def fX4_rec : Nat → Nat → ZS → Int → Int → Option (Int × ZS)
  | 0, _, _, _, _ => none
  | d0 + 1, t, s0, a0, a1 => sX4_rec (fX4_rec d0) t s0 a0 a1
def zRecP (E : ZE) (l : Launch) (d0 : Nat) (rf : Nat → ZS → Int → Int → Option (Int × ZS)) : Prop := (∀ (s0 : ZS) (a0 a1 : Int), Ct E l yX4_readOr cX4_readOr 3 none (d0 + 6) [(2, a0), (0, a1)] 0 s0 (rf 0 s0 a0 a1)) ∧ (∀ (s0 : ZS) (a0 a1 : Int), Ct E l yX4_readAnd cX4_readAnd 3 none (d0 + 6) [(2, a0), (0, a1)] 0 s0 (rf 1 s0 a0 a1)) ∧ (∀ (s0 : ZS) (a0 a1 : Int), Ct E l yX4_readNot cX4_readNot 2 none (d0 + 6) [(2, a0), (0, a1)] 0 s0 (rf 2 s0 a0 a1)) ∧ (∀ (s0 : ZS) (a0 a1 : Int), Ct E l yX4_readSum cX4_readSum 4 none (d0 + 6) [(2, a0), (0, a1)] 0 s0 (rf 3 s0 a0 a1)) ∧ (∀ (s0 : ZS) (a0 a1 : Int), Ct E l yX4_readTerm cX4_readTerm 3 none (d0 + 6) [(2, a0), (0, a1)] 0 s0 (rf 4 s0 a0 a1)) ∧ (∀ (s0 : ZS) (a0 a1 : Int), Ct E l yX4_readOne cX4_readOne 3 none (d0 + 6) [(2, a0), (0, a1)] 0 s0 (rf 5 s0 a0 a1))
set_option maxHeartbeats 4000000 in
set_option maxRecDepth 100000 in
theorem mrec_0 (E : ZE) (hE : zOkE E) (l : Launch) (d0 : Nat) (rf : Nat → ZS → Int → Int → Option (Int × ZS)) (ihd : zRecP E l d0 rf) (s0 : ZS) (a0 a1 : Int) : Ct E l yX4_readOr cX4_readOr 3 none (d0 + 1 + 6) [(2, a0), (0, a1)] 0 s0 (sX4_readOr rf s0 a0 a1) := by
  refine Ct.of (by decide) hE (Nat.le_of_ble_eq_true rfl) ?_
  intro X G hX hR hN hXE hXl hxn hk _
  subst hXE
  subst hXl
  have hX : G → ZOk X cX4_readOr RX4 (d0 + 1 + 6) := hX
  clear hN
  show Zj X G 0 [(0, (2, a0)), (1, (0, a1))] [] s0 _
  unfold sX4_readOr
  refine z_aload_n (pc := 0) hX 0 dX4_readOr_0 rfl rfl ?_
  refine z_iload_n (pc := 1) hX 1 dX4_readOr_1 rfl rfl ?_
  refine z_callV (n := 1) (st := []) (pc := 2) hX zc4 rfl (fun _ => (ihd.2.1 _ _ _)) ⟨wd531, wd64, wd534, ⟨by decide, by decide, by decide⟩, by decide⟩ rfl wd533 wd11 rfl rfl (by omega) (Nat.le_of_ble_eq_true rfl) dX4_readOr_2 (fun v1 s2 r3 => ?_)
  show Zj X G 5 [(0, (2, a0)), (1, (0, a1))] [] _ _
  refine z_iconst (pc := 5) hX dX4_readOr_5 ?_
  refine z_istore_n (lv' := [(2, (0, 0)), (0, (2, a0)), (1, (0, a1))]) (pc := 6) hX dX4_readOr_6 rfl (zlt hxn rfl) rfl ?_
  have hl7 : ∀ (u5 u6 : Int), ∀ (n1 : Nat) (s4 : ZS) (x7 : Int), Zj X G 7 [(0, (2, u5)), (1, (0, u6)), (2, (0, x7))] [] s4 (lX4_readOr_7 rf u5 u6 n1 s4 x7) := by
    intro u5 u6 n1
    induction n1 with
    | zero => intro _ _; exact z_none
    | succ n1 ih1 =>
      intro s4 x7
      rw [lX4_readOr_7]
      refine z_iload_n (pc := 7) hX 2 dX4_readOr_7 rfl rfl ?_
      refine z_sipush (pc := 8) hX dX4_readOr_8 ?_
      refine z_icmp_ge (pc := 11) hX 51 dX4_readOr_11 (by decide) (fun h8 => ?_) (fun h8 => ?_)
      · exact z_vret (pc := 51) hX hR hk dX4_readOr_51
      · refine z_aload_n (pc := 14) hX 0 dX4_readOr_14 rfl rfl ?_
        refine z_get (pc := 15) hX zc4 3 (by decide) wd203 rfl rfl dX4_readOr_15 (fun v9 => ?_)
        refine z_aload_n (pc := 18) hX 0 dX4_readOr_18 rfl rfl ?_
        refine z_get (pc := 19) hX zc4 6 (by decide) wd206 rfl rfl dX4_readOr_19 (fun v10 => ?_)
        refine z_iald (pc := 22) hX dX4_readOr_22 (fun v11 => ?_)
        refine z_sipush (pc := 23) hX dX4_readOr_23 ?_
        refine z_icmp_ne (pc := 26) hX 51 dX4_readOr_26 (by decide) (fun h12 => ?_) (fun h12 => ?_)
        · exact z_vret (pc := 51) hX hR hk dX4_readOr_51
        · refine z_aload_n (pc := 29) hX 0 dX4_readOr_29 rfl rfl ?_
          refine z_callV (n := 0) (st := []) (pc := 30) hX zc4 rfl (fun _ => (mX4_advance _ hE _ _ _)) ⟨wd519, wd64, wd522, ⟨by decide, by decide, by decide⟩, by decide⟩ rfl wd521 wd8 rfl rfl (by omega) (Nat.le_of_ble_eq_true rfl) dX4_readOr_30 (fun v13 s14 r15 => ?_)
          show Zj X G 33 [(0, (2, u5)), (1, (0, u6)), (2, (0, x7))] [] _ _
          refine z_aload_n (pc := 33) hX 0 dX4_readOr_33 rfl rfl ?_
          refine z_iload_n (pc := 34) hX 1 dX4_readOr_34 rfl rfl ?_
          refine z_callV (n := 1) (st := []) (pc := 35) hX zc4 rfl (fun _ => (ihd.2.1 _ _ _)) ⟨wd531, wd64, wd534, ⟨by decide, by decide, by decide⟩, by decide⟩ rfl wd533 wd11 rfl rfl (by omega) (Nat.le_of_ble_eq_true rfl) dX4_readOr_35 (fun v16 s17 r18 => ?_)
          show Zj X G 38 [(0, (2, u5)), (1, (0, u6)), (2, (0, x7))] [] _ _
          refine z_aload_n (pc := 38) hX 0 dX4_readOr_38 rfl rfl ?_
          refine z_sipush (pc := 39) hX dX4_readOr_39 ?_
          refine z_callV (n := 1) (st := []) (pc := 42) hX zc4 rfl (fun _ => (mX4_emit _ hE _ _ _ _)) ⟨wd543, wd64, wd546, ⟨by decide, by decide, by decide⟩, by decide⟩ rfl wd545 wd14 rfl rfl (by omega) (Nat.le_of_ble_eq_true rfl) dX4_readOr_42 (fun v19 s20 r21 => ?_)
          show Zj X G 45 [(0, (2, u5)), (1, (0, u6)), (2, (0, x7))] [] _ _
          refine z_iinc (lv' := [(2, (0, (wrap (x7 + 1)))), (0, (2, u5)), (1, (0, u6))]) (pc := 45) hX 2 dX4_readOr_45 rfl (zlt hxn rfl) rfl ?_
          refine z_goto (pc := 48) hX 7 dX4_readOr_48 (by decide) ?_
          refine z_pick (lv' := [(0, (2, u5)), (1, (0, u6)), (2, (0, (wrap (x7 + 1))))]) [1, 2, 0] rfl ?_
          exact ih1 _ _
  refine z_pick (lv' := [(0, (2, a0)), (1, (0, a1)), (2, (0, 0))]) [1, 2, 0] rfl ?_
  refine hl7 _ _ 1000 _ _
set_option maxHeartbeats 4000000 in
set_option maxRecDepth 100000 in
theorem mrec_1 (E : ZE) (hE : zOkE E) (l : Launch) (d0 : Nat) (rf : Nat → ZS → Int → Int → Option (Int × ZS)) (ihd : zRecP E l d0 rf) (s0 : ZS) (a0 a1 : Int) : Ct E l yX4_readAnd cX4_readAnd 3 none (d0 + 1 + 6) [(2, a0), (0, a1)] 0 s0 (sX4_readAnd rf s0 a0 a1) := by
  refine Ct.of (by decide) hE (Nat.le_of_ble_eq_true rfl) ?_
  intro X G hX hR hN hXE hXl hxn hk _
  subst hXE
  subst hXl
  have hX : G → ZOk X cX4_readAnd RX4 (d0 + 1 + 6) := hX
  clear hN
  show Zj X G 0 [(0, (2, a0)), (1, (0, a1))] [] s0 _
  unfold sX4_readAnd
  refine z_aload_n (pc := 0) hX 0 dX4_readAnd_0 rfl rfl ?_
  refine z_iload_n (pc := 1) hX 1 dX4_readAnd_1 rfl rfl ?_
  refine z_callV (n := 1) (st := []) (pc := 2) hX zc4 rfl (fun _ => (ihd.2.2.1 _ _ _)) ⟨wd535, wd64, wd538, ⟨by decide, by decide, by decide⟩, by decide⟩ rfl wd537 wd12 rfl rfl (by omega) (Nat.le_of_ble_eq_true rfl) dX4_readAnd_2 (fun v1 s2 r3 => ?_)
  show Zj X G 5 [(0, (2, a0)), (1, (0, a1))] [] _ _
  refine z_iconst (pc := 5) hX dX4_readAnd_5 ?_
  refine z_istore_n (lv' := [(2, (0, 0)), (0, (2, a0)), (1, (0, a1))]) (pc := 6) hX dX4_readAnd_6 rfl (zlt hxn rfl) rfl ?_
  have hl7 : ∀ (u5 u6 : Int), ∀ (n1 : Nat) (s4 : ZS) (x7 : Int), Zj X G 7 [(0, (2, u5)), (1, (0, u6)), (2, (0, x7))] [] s4 (lX4_readAnd_7 rf u5 u6 n1 s4 x7) := by
    intro u5 u6 n1
    induction n1 with
    | zero => intro _ _; exact z_none
    | succ n1 ih1 =>
      intro s4 x7
      rw [lX4_readAnd_7]
      refine z_iload_n (pc := 7) hX 2 dX4_readAnd_7 rfl rfl ?_
      refine z_sipush (pc := 8) hX dX4_readAnd_8 ?_
      refine z_icmp_ge (pc := 11) hX 51 dX4_readAnd_11 (by decide) (fun h8 => ?_) (fun h8 => ?_)
      · exact z_vret (pc := 51) hX hR hk dX4_readAnd_51
      · refine z_aload_n (pc := 14) hX 0 dX4_readAnd_14 rfl rfl ?_
        refine z_get (pc := 15) hX zc4 3 (by decide) wd203 rfl rfl dX4_readAnd_15 (fun v9 => ?_)
        refine z_aload_n (pc := 18) hX 0 dX4_readAnd_18 rfl rfl ?_
        refine z_get (pc := 19) hX zc4 6 (by decide) wd206 rfl rfl dX4_readAnd_19 (fun v10 => ?_)
        refine z_iald (pc := 22) hX dX4_readAnd_22 (fun v11 => ?_)
        refine z_sipush (pc := 23) hX dX4_readAnd_23 ?_
        refine z_icmp_ne (pc := 26) hX 51 dX4_readAnd_26 (by decide) (fun h12 => ?_) (fun h12 => ?_)
        · exact z_vret (pc := 51) hX hR hk dX4_readAnd_51
        · refine z_aload_n (pc := 29) hX 0 dX4_readAnd_29 rfl rfl ?_
          refine z_callV (n := 0) (st := []) (pc := 30) hX zc4 rfl (fun _ => (mX4_advance _ hE _ _ _)) ⟨wd519, wd64, wd522, ⟨by decide, by decide, by decide⟩, by decide⟩ rfl wd521 wd8 rfl rfl (by omega) (Nat.le_of_ble_eq_true rfl) dX4_readAnd_30 (fun v13 s14 r15 => ?_)
          show Zj X G 33 [(0, (2, u5)), (1, (0, u6)), (2, (0, x7))] [] _ _
          refine z_aload_n (pc := 33) hX 0 dX4_readAnd_33 rfl rfl ?_
          refine z_iload_n (pc := 34) hX 1 dX4_readAnd_34 rfl rfl ?_
          refine z_callV (n := 1) (st := []) (pc := 35) hX zc4 rfl (fun _ => (ihd.2.2.1 _ _ _)) ⟨wd535, wd64, wd538, ⟨by decide, by decide, by decide⟩, by decide⟩ rfl wd537 wd12 rfl rfl (by omega) (Nat.le_of_ble_eq_true rfl) dX4_readAnd_35 (fun v16 s17 r18 => ?_)
          show Zj X G 38 [(0, (2, u5)), (1, (0, u6)), (2, (0, x7))] [] _ _
          refine z_aload_n (pc := 38) hX 0 dX4_readAnd_38 rfl rfl ?_
          refine z_sipush (pc := 39) hX dX4_readAnd_39 ?_
          refine z_callV (n := 1) (st := []) (pc := 42) hX zc4 rfl (fun _ => (mX4_emit _ hE _ _ _ _)) ⟨wd543, wd64, wd546, ⟨by decide, by decide, by decide⟩, by decide⟩ rfl wd545 wd14 rfl rfl (by omega) (Nat.le_of_ble_eq_true rfl) dX4_readAnd_42 (fun v19 s20 r21 => ?_)
          show Zj X G 45 [(0, (2, u5)), (1, (0, u6)), (2, (0, x7))] [] _ _
          refine z_iinc (lv' := [(2, (0, (wrap (x7 + 1)))), (0, (2, u5)), (1, (0, u6))]) (pc := 45) hX 2 dX4_readAnd_45 rfl (zlt hxn rfl) rfl ?_
          refine z_goto (pc := 48) hX 7 dX4_readAnd_48 (by decide) ?_
          refine z_pick (lv' := [(0, (2, u5)), (1, (0, u6)), (2, (0, (wrap (x7 + 1))))]) [1, 2, 0] rfl ?_
          exact ih1 _ _
  refine z_pick (lv' := [(0, (2, a0)), (1, (0, a1)), (2, (0, 0))]) [1, 2, 0] rfl ?_
  refine hl7 _ _ 1000 _ _
set_option maxHeartbeats 4000000 in
set_option maxRecDepth 100000 in
theorem mrec_2 (E : ZE) (hE : zOkE E) (l : Launch) (d0 : Nat) (rf : Nat → ZS → Int → Int → Option (Int × ZS)) (ihd : zRecP E l d0 rf) (s0 : ZS) (a0 a1 : Int) : Ct E l yX4_readNot cX4_readNot 2 none (d0 + 1 + 6) [(2, a0), (0, a1)] 0 s0 (sX4_readNot rf s0 a0 a1) := by
  refine Ct.of (by decide) hE (Nat.le_of_ble_eq_true rfl) ?_
  intro X G hX hR hN hXE hXl hxn hk _
  subst hXE
  subst hXl
  have hX : G → ZOk X cX4_readNot RX4 (d0 + 1 + 6) := hX
  clear hN
  show Zj X G 0 [(0, (2, a0)), (1, (0, a1))] [] s0 _
  unfold sX4_readNot
  refine z_aload_n (pc := 0) hX 0 dX4_readNot_0 rfl rfl ?_
  refine z_get (pc := 1) hX zc4 3 (by decide) wd203 rfl rfl dX4_readNot_1 (fun v1 => ?_)
  refine z_aload_n (pc := 4) hX 0 dX4_readNot_4 rfl rfl ?_
  refine z_get (pc := 5) hX zc4 6 (by decide) wd206 rfl rfl dX4_readNot_5 (fun v2 => ?_)
  refine z_iald (pc := 8) hX dX4_readNot_8 (fun v3 => ?_)
  refine z_sipush (pc := 9) hX dX4_readNot_9 ?_
  refine z_icmp_ne (pc := 12) hX 38 dX4_readNot_12 (by decide) (fun h4 => ?_) (fun h4 => ?_)
  · refine z_aload_n (pc := 38) hX 0 dX4_readNot_38 rfl rfl ?_
    refine z_iload_n (pc := 39) hX 1 dX4_readNot_39 rfl rfl ?_
    refine z_callV (n := 1) (st := []) (pc := 40) hX zc4 rfl (fun _ => (ihd.2.2.2.1 _ _ _)) ⟨wd547, wd64, wd550, ⟨by decide, by decide, by decide⟩, by decide⟩ rfl wd549 wd15 rfl rfl (by omega) (Nat.le_of_ble_eq_true rfl) dX4_readNot_40 (fun v5 s6 r7 => ?_)
    show Zj X G 43 [(0, (2, a0)), (1, (0, a1))] [] _ _
    refine z_aload_n (pc := 43) hX 0 dX4_readNot_43 rfl rfl ?_
    refine z_get (pc := 44) hX zc4 3 (by decide) wd203 rfl rfl dX4_readNot_44 (fun v8 => ?_)
    refine z_aload_n (pc := 47) hX 0 dX4_readNot_47 rfl rfl ?_
    refine z_get (pc := 48) hX zc4 6 (by decide) wd206 rfl rfl dX4_readNot_48 (fun v9 => ?_)
    refine z_iald (pc := 51) hX dX4_readNot_51 (fun v10 => ?_)
    refine z_sipush (pc := 52) hX dX4_readNot_52 ?_
    refine z_icmp_ne (pc := 55) hX 77 dX4_readNot_55 (by decide) (fun h11 => ?_) (fun h11 => ?_)
    · refine z_aload_n (pc := 77) hX 0 dX4_readNot_77 rfl rfl ?_
      refine z_get (pc := 78) hX zc4 3 (by decide) wd203 rfl rfl dX4_readNot_78 (fun v12 => ?_)
      refine z_aload_n (pc := 81) hX 0 dX4_readNot_81 rfl rfl ?_
      refine z_get (pc := 82) hX zc4 6 (by decide) wd206 rfl rfl dX4_readNot_82 (fun v13 => ?_)
      refine z_iald (pc := 85) hX dX4_readNot_85 (fun v14 => ?_)
      refine z_sipush (pc := 86) hX dX4_readNot_86 ?_
      refine z_icmp_ne (pc := 89) hX 108 dX4_readNot_89 (by decide) (fun h15 => ?_) (fun h15 => ?_)
      · exact z_vret (pc := 108) hX hR hk dX4_readNot_108
      · refine z_aload_n (pc := 92) hX 0 dX4_readNot_92 rfl rfl ?_
        refine z_callV (n := 0) (st := []) (pc := 93) hX zc4 rfl (fun _ => (mX4_advance _ hE _ _ _)) ⟨wd519, wd64, wd522, ⟨by decide, by decide, by decide⟩, by decide⟩ rfl wd521 wd8 rfl rfl (by omega) (Nat.le_of_ble_eq_true rfl) dX4_readNot_93 (fun v16 s17 r18 => ?_)
        show Zj X G 96 [(0, (2, a0)), (1, (0, a1))] [] _ _
        refine z_aload_n (pc := 96) hX 0 dX4_readNot_96 rfl rfl ?_
        refine z_iload_n (pc := 97) hX 1 dX4_readNot_97 rfl rfl ?_
        refine z_callV (n := 1) (st := []) (pc := 98) hX zc4 rfl (fun _ => (ihd.2.2.2.1 _ _ _)) ⟨wd547, wd64, wd550, ⟨by decide, by decide, by decide⟩, by decide⟩ rfl wd549 wd15 rfl rfl (by omega) (Nat.le_of_ble_eq_true rfl) dX4_readNot_98 (fun v19 s20 r21 => ?_)
        show Zj X G 101 [(0, (2, a0)), (1, (0, a1))] [] _ _
        refine z_aload_n (pc := 101) hX 0 dX4_readNot_101 rfl rfl ?_
        refine z_sipush (pc := 102) hX dX4_readNot_102 ?_
        refine z_callV (n := 1) (st := []) (pc := 105) hX zc4 rfl (fun _ => (mX4_emit _ hE _ _ _ _)) ⟨wd543, wd64, wd546, ⟨by decide, by decide, by decide⟩, by decide⟩ rfl wd545 wd14 rfl rfl (by omega) (Nat.le_of_ble_eq_true rfl) dX4_readNot_105 (fun v22 s23 r24 => ?_)
        show Zj X G 108 [(0, (2, a0)), (1, (0, a1))] [] _ _
        exact z_vret (pc := 108) hX hR hk dX4_readNot_108
    · refine z_aload_n (pc := 58) hX 0 dX4_readNot_58 rfl rfl ?_
      refine z_callV (n := 0) (st := []) (pc := 59) hX zc4 rfl (fun _ => (mX4_advance _ hE _ _ _)) ⟨wd519, wd64, wd522, ⟨by decide, by decide, by decide⟩, by decide⟩ rfl wd521 wd8 rfl rfl (by omega) (Nat.le_of_ble_eq_true rfl) dX4_readNot_59 (fun v25 s26 r27 => ?_)
      show Zj X G 62 [(0, (2, a0)), (1, (0, a1))] [] _ _
      refine z_aload_n (pc := 62) hX 0 dX4_readNot_62 rfl rfl ?_
      refine z_iload_n (pc := 63) hX 1 dX4_readNot_63 rfl rfl ?_
      refine z_callV (n := 1) (st := []) (pc := 64) hX zc4 rfl (fun _ => (ihd.2.2.2.1 _ _ _)) ⟨wd547, wd64, wd550, ⟨by decide, by decide, by decide⟩, by decide⟩ rfl wd549 wd15 rfl rfl (by omega) (Nat.le_of_ble_eq_true rfl) dX4_readNot_64 (fun v28 s29 r30 => ?_)
      show Zj X G 67 [(0, (2, a0)), (1, (0, a1))] [] _ _
      refine z_aload_n (pc := 67) hX 0 dX4_readNot_67 rfl rfl ?_
      refine z_sipush (pc := 68) hX dX4_readNot_68 ?_
      refine z_callV (n := 1) (st := []) (pc := 71) hX zc4 rfl (fun _ => (mX4_emit _ hE _ _ _ _)) ⟨wd543, wd64, wd546, ⟨by decide, by decide, by decide⟩, by decide⟩ rfl wd545 wd14 rfl rfl (by omega) (Nat.le_of_ble_eq_true rfl) dX4_readNot_71 (fun v31 s32 r33 => ?_)
      show Zj X G 74 [(0, (2, a0)), (1, (0, a1))] [] _ _
      refine z_goto (pc := 74) hX 108 dX4_readNot_74 (by decide) ?_
      exact z_vret (pc := 108) hX hR hk dX4_readNot_108
  · refine z_aload_n (pc := 15) hX 0 dX4_readNot_15 rfl rfl ?_
    refine z_iload_n (pc := 16) hX 1 dX4_readNot_16 rfl rfl ?_
    refine z_callV (n := 1) (st := []) (pc := 17) hX zc4 rfl (fun _ => (mX4_mayOpen _ hE _ _ _ _)) ⟨wd539, wd64, wd542, ⟨by decide, by decide, by decide⟩, by decide⟩ rfl wd541 wd13 rfl rfl (by omega) (Nat.le_of_ble_eq_true rfl) dX4_readNot_17 (fun v34 s35 r36 => ?_)
    show Zj X G 20 [(0, (2, a0)), (1, (0, a1))] [(0, v34)] _ _
    refine z_if_eq (pc := 20) hX 37 dX4_readNot_20 (by decide) (fun h37 => ?_) (fun h37 => ?_)
    · exact z_vret (pc := 37) hX hR hk dX4_readNot_37
    · refine z_aload_n (pc := 23) hX 0 dX4_readNot_23 rfl rfl ?_
      refine z_iload_n (pc := 24) hX 1 dX4_readNot_24 rfl rfl ?_
      refine z_iconst (pc := 25) hX dX4_readNot_25 ?_
      refine z_iadd (pc := 26) hX dX4_readNot_26 ?_
      refine z_callV (n := 1) (st := []) (pc := 27) hX zc4 rfl (fun _ => (ihd.2.2.1 _ _ _)) ⟨wd535, wd64, wd538, ⟨by decide, by decide, by decide⟩, by decide⟩ rfl wd537 wd12 rfl rfl (by omega) (Nat.le_of_ble_eq_true rfl) dX4_readNot_27 (fun v38 s39 r40 => ?_)
      show Zj X G 30 [(0, (2, a0)), (1, (0, a1))] [] _ _
      refine z_aload_n (pc := 30) hX 0 dX4_readNot_30 rfl rfl ?_
      refine z_sipush (pc := 31) hX dX4_readNot_31 ?_
      refine z_callV (n := 1) (st := []) (pc := 34) hX zc4 rfl (fun _ => (mX4_emit _ hE _ _ _ _)) ⟨wd543, wd64, wd546, ⟨by decide, by decide, by decide⟩, by decide⟩ rfl wd545 wd14 rfl rfl (by omega) (Nat.le_of_ble_eq_true rfl) dX4_readNot_34 (fun v41 s42 r43 => ?_)
      show Zj X G 37 [(0, (2, a0)), (1, (0, a1))] [] _ _
      exact z_vret (pc := 37) hX hR hk dX4_readNot_37
set_option maxHeartbeats 4000000 in
set_option maxRecDepth 100000 in
theorem mrec_3 (E : ZE) (hE : zOkE E) (l : Launch) (d0 : Nat) (rf : Nat → ZS → Int → Int → Option (Int × ZS)) (ihd : zRecP E l d0 rf) (s0 : ZS) (a0 a1 : Int) : Ct E l yX4_readSum cX4_readSum 4 none (d0 + 1 + 6) [(2, a0), (0, a1)] 0 s0 (sX4_readSum rf s0 a0 a1) := by
  refine Ct.of (by decide) hE (Nat.le_of_ble_eq_true rfl) ?_
  intro X G hX hR hN hXE hXl hxn hk _
  subst hXE
  subst hXl
  have hX : G → ZOk X cX4_readSum RX4 (d0 + 1 + 6) := hX
  clear hN
  show Zj X G 0 [(0, (2, a0)), (1, (0, a1))] [] s0 _
  unfold sX4_readSum
  refine z_aload_n (pc := 0) hX 0 dX4_readSum_0 rfl rfl ?_
  refine z_iload_n (pc := 1) hX 1 dX4_readSum_1 rfl rfl ?_
  refine z_callV (n := 1) (st := []) (pc := 2) hX zc4 rfl (fun _ => (ihd.2.2.2.2.1 _ _ _)) ⟨wd551, wd64, wd554, ⟨by decide, by decide, by decide⟩, by decide⟩ rfl wd553 wd16 rfl rfl (by omega) (Nat.le_of_ble_eq_true rfl) dX4_readSum_2 (fun v1 s2 r3 => ?_)
  show Zj X G 5 [(0, (2, a0)), (1, (0, a1))] [] _ _
  refine z_iconst (pc := 5) hX dX4_readSum_5 ?_
  refine z_istore_n (lv' := [(2, (0, 0)), (0, (2, a0)), (1, (0, a1))]) (pc := 6) hX dX4_readSum_6 rfl (zlt hxn rfl) rfl ?_
  have hl7 : ∀ (u5 u6 : Int), ∀ (n1 : Nat) (s4 : ZS) (x7 : Int), Zj X G 7 [(0, (2, u5)), (1, (0, u6)), (2, (0, x7))] [] s4 (lX4_readSum_7 rf u5 u6 n1 s4 x7) := by
    intro u5 u6 n1
    induction n1 with
    | zero => intro _ _; exact z_none
    | succ n1 ih1 =>
      intro s4 x7
      rw [lX4_readSum_7]
      refine z_iload_n (pc := 7) hX 2 dX4_readSum_7 rfl rfl ?_
      refine z_sipush (pc := 8) hX dX4_readSum_8 ?_
      refine z_icmp_ge (pc := 11) hX 89 dX4_readSum_11 (by decide) (fun h8 => ?_) (fun h8 => ?_)
      · exact z_vret (pc := 89) hX hR hk dX4_readSum_89
      · refine z_aload_n (pc := 14) hX 0 dX4_readSum_14 rfl rfl ?_
        refine z_get (pc := 15) hX zc4 3 (by decide) wd203 rfl rfl dX4_readSum_15 (fun v9 => ?_)
        refine z_aload_n (pc := 18) hX 0 dX4_readSum_18 rfl rfl ?_
        refine z_get (pc := 19) hX zc4 6 (by decide) wd206 rfl rfl dX4_readSum_19 (fun v10 => ?_)
        refine z_iald (pc := 22) hX dX4_readSum_22 (fun v11 => ?_)
        refine z_sipush (pc := 23) hX dX4_readSum_23 ?_
        refine z_jn (fun K44 eK44 => ?_)
        have hK44 : ∀ (s17 : ZS), Zj X G 44 [(0, (2, u5)), (1, (0, u6)), (2, (0, x7))] [] s17 (K44 s17) := by
          intro s17
          rw [eK44]
          refine z_aload_n (pc := 44) hX 0 dX4_readSum_44 rfl rfl ?_
          refine z_get (pc := 45) hX zc4 3 (by decide) wd203 rfl rfl dX4_readSum_45 (fun v18 => ?_)
          refine z_aload_n (pc := 48) hX 0 dX4_readSum_48 rfl rfl ?_
          refine z_get (pc := 49) hX zc4 6 (by decide) wd206 rfl rfl dX4_readSum_49 (fun v19 => ?_)
          refine z_iald (pc := 52) hX dX4_readSum_52 (fun v20 => ?_)
          refine z_sipush (pc := 53) hX dX4_readSum_53 ?_
          refine z_jn (fun K68 eK68 => ?_)
          have hK68 : ∀ (s22 : ZS) (w23 : Int), Zj X G 68 [(0, (2, u5)), (1, (0, u6)), (2, (0, x7))] [(0, w23)] s22 (K68 s22 w23) := by
            intro s22 w23
            rw [eK68]
            refine z_istore_n (lv' := [(3, (0, w23)), (0, (2, u5)), (1, (0, u6)), (2, (0, x7))]) (pc := 68) hX dX4_readSum_68 rfl (zlt hxn rfl) rfl ?_
            refine z_aload_n (pc := 69) hX 1 dX4_readSum_69 rfl rfl ?_
            refine z_callV (n := 0) (st := []) (pc := 70) hX zc4 rfl (fun _ => (mX4_advance _ hE _ _ _)) ⟨wd519, wd64, wd522, ⟨by decide, by decide, by decide⟩, by decide⟩ rfl wd521 wd8 rfl rfl (by omega) (Nat.le_of_ble_eq_true rfl) dX4_readSum_70 (fun v24 s25 r26 => ?_)
            show Zj X G 73 [(3, (0, w23)), (0, (2, u5)), (1, (0, u6)), (2, (0, x7))] [] _ _
            refine z_aload_n (pc := 73) hX 1 dX4_readSum_73 rfl rfl ?_
            refine z_iload_n (pc := 74) hX 2 dX4_readSum_74 rfl rfl ?_
            refine z_callV (n := 1) (st := []) (pc := 75) hX zc4 rfl (fun _ => (ihd.2.2.2.2.1 _ _ _)) ⟨wd551, wd64, wd554, ⟨by decide, by decide, by decide⟩, by decide⟩ rfl wd553 wd16 rfl rfl (by omega) (Nat.le_of_ble_eq_true rfl) dX4_readSum_75 (fun v27 s28 r29 => ?_)
            show Zj X G 78 [(3, (0, w23)), (0, (2, u5)), (1, (0, u6)), (2, (0, x7))] [] _ _
            refine z_aload_n (pc := 78) hX 1 dX4_readSum_78 rfl rfl ?_
            refine z_iload_n (pc := 79) hX 0 dX4_readSum_79 rfl rfl ?_
            refine z_callV (n := 1) (st := []) (pc := 80) hX zc4 rfl (fun _ => (mX4_emit _ hE _ _ _ _)) ⟨wd543, wd64, wd546, ⟨by decide, by decide, by decide⟩, by decide⟩ rfl wd545 wd14 rfl rfl (by omega) (Nat.le_of_ble_eq_true rfl) dX4_readSum_80 (fun v30 s31 r32 => ?_)
            show Zj X G 83 [(3, (0, w23)), (0, (2, u5)), (1, (0, u6)), (2, (0, x7))] [] _ _
            refine z_iinc (lv' := [(2, (0, (wrap (x7 + 1)))), (3, (0, w23)), (0, (2, u5)), (1, (0, u6))]) (pc := 83) hX 3 dX4_readSum_83 rfl (zlt hxn rfl) rfl ?_
            refine z_goto (pc := 86) hX 7 dX4_readSum_86 (by decide) ?_
            refine z_pick (lv' := [(0, (2, u5)), (1, (0, u6)), (2, (0, (wrap (x7 + 1))))]) [2, 3, 0] rfl ?_
            exact ih1 _ _
          clear eK68
          refine z_icmp_ne (pc := 56) hX 65 dX4_readSum_56 (by decide) (fun h21 => ?_) (fun h21 => ?_)
          · refine z_sipush (pc := 65) hX dX4_readSum_65 ?_
            exact hK68 _ _
          · refine z_sipush (pc := 59) hX dX4_readSum_59 ?_
            refine z_goto (pc := 62) hX 68 dX4_readSum_62 (by decide) ?_
            exact hK68 _ _
        clear eK44
        refine z_icmp_eq (pc := 26) hX 44 dX4_readSum_26 (by decide) (fun h12 => ?_) (fun h12 => ?_)
        · exact hK44 _
        · refine z_aload_n (pc := 29) hX 0 dX4_readSum_29 rfl rfl ?_
          refine z_get (pc := 30) hX zc4 3 (by decide) wd203 rfl rfl dX4_readSum_30 (fun v13 => ?_)
          refine z_aload_n (pc := 33) hX 0 dX4_readSum_33 rfl rfl ?_
          refine z_get (pc := 34) hX zc4 6 (by decide) wd206 rfl rfl dX4_readSum_34 (fun v14 => ?_)
          refine z_iald (pc := 37) hX dX4_readSum_37 (fun v15 => ?_)
          refine z_sipush (pc := 38) hX dX4_readSum_38 ?_
          refine z_icmp_ne (pc := 41) hX 89 dX4_readSum_41 (by decide) (fun h16 => ?_) (fun h16 => ?_)
          · exact z_vret (pc := 89) hX hR hk dX4_readSum_89
          · exact hK44 _
  refine z_pick (lv' := [(0, (2, a0)), (1, (0, a1)), (2, (0, 0))]) [1, 2, 0] rfl ?_
  refine hl7 _ _ 1000 _ _
set_option maxHeartbeats 4000000 in
set_option maxRecDepth 100000 in
theorem mrec_4 (E : ZE) (hE : zOkE E) (l : Launch) (d0 : Nat) (rf : Nat → ZS → Int → Int → Option (Int × ZS)) (ihd : zRecP E l d0 rf) (s0 : ZS) (a0 a1 : Int) : Ct E l yX4_readTerm cX4_readTerm 3 none (d0 + 1 + 6) [(2, a0), (0, a1)] 0 s0 (sX4_readTerm rf s0 a0 a1) := by
  refine Ct.of (by decide) hE (Nat.le_of_ble_eq_true rfl) ?_
  intro X G hX hR hN hXE hXl hxn hk _
  subst hXE
  subst hXl
  have hX : G → ZOk X cX4_readTerm RX4 (d0 + 1 + 6) := hX
  clear hN
  show Zj X G 0 [(0, (2, a0)), (1, (0, a1))] [] s0 _
  unfold sX4_readTerm
  refine z_aload_n (pc := 0) hX 0 dX4_readTerm_0 rfl rfl ?_
  refine z_iload_n (pc := 1) hX 1 dX4_readTerm_1 rfl rfl ?_
  refine z_callV (n := 1) (st := []) (pc := 2) hX zc4 rfl (fun _ => (ihd.2.2.2.2.2 _ _ _)) ⟨wd555, wd64, wd558, ⟨by decide, by decide, by decide⟩, by decide⟩ rfl wd557 wd17 rfl rfl (by omega) (Nat.le_of_ble_eq_true rfl) dX4_readTerm_2 (fun v1 s2 r3 => ?_)
  show Zj X G 5 [(0, (2, a0)), (1, (0, a1))] [] _ _
  refine z_iconst (pc := 5) hX dX4_readTerm_5 ?_
  refine z_istore_n (lv' := [(2, (0, 0)), (0, (2, a0)), (1, (0, a1))]) (pc := 6) hX dX4_readTerm_6 rfl (zlt hxn rfl) rfl ?_
  have hl7 : ∀ (u5 u6 : Int), ∀ (n1 : Nat) (s4 : ZS) (x7 : Int), Zj X G 7 [(0, (2, u5)), (1, (0, u6)), (2, (0, x7))] [] s4 (lX4_readTerm_7 rf u5 u6 n1 s4 x7) := by
    intro u5 u6 n1
    induction n1 with
    | zero => intro _ _; exact z_none
    | succ n1 ih1 =>
      intro s4 x7
      rw [lX4_readTerm_7]
      refine z_iload_n (pc := 7) hX 2 dX4_readTerm_7 rfl rfl ?_
      refine z_sipush (pc := 8) hX dX4_readTerm_8 ?_
      refine z_icmp_ge (pc := 11) hX 51 dX4_readTerm_11 (by decide) (fun h8 => ?_) (fun h8 => ?_)
      · exact z_vret (pc := 51) hX hR hk dX4_readTerm_51
      · refine z_aload_n (pc := 14) hX 0 dX4_readTerm_14 rfl rfl ?_
        refine z_get (pc := 15) hX zc4 3 (by decide) wd203 rfl rfl dX4_readTerm_15 (fun v9 => ?_)
        refine z_aload_n (pc := 18) hX 0 dX4_readTerm_18 rfl rfl ?_
        refine z_get (pc := 19) hX zc4 6 (by decide) wd206 rfl rfl dX4_readTerm_19 (fun v10 => ?_)
        refine z_iald (pc := 22) hX dX4_readTerm_22 (fun v11 => ?_)
        refine z_sipush (pc := 23) hX dX4_readTerm_23 ?_
        refine z_icmp_ne (pc := 26) hX 51 dX4_readTerm_26 (by decide) (fun h12 => ?_) (fun h12 => ?_)
        · exact z_vret (pc := 51) hX hR hk dX4_readTerm_51
        · refine z_aload_n (pc := 29) hX 0 dX4_readTerm_29 rfl rfl ?_
          refine z_callV (n := 0) (st := []) (pc := 30) hX zc4 rfl (fun _ => (mX4_advance _ hE _ _ _)) ⟨wd519, wd64, wd522, ⟨by decide, by decide, by decide⟩, by decide⟩ rfl wd521 wd8 rfl rfl (by omega) (Nat.le_of_ble_eq_true rfl) dX4_readTerm_30 (fun v13 s14 r15 => ?_)
          show Zj X G 33 [(0, (2, u5)), (1, (0, u6)), (2, (0, x7))] [] _ _
          refine z_aload_n (pc := 33) hX 0 dX4_readTerm_33 rfl rfl ?_
          refine z_iload_n (pc := 34) hX 1 dX4_readTerm_34 rfl rfl ?_
          refine z_callV (n := 1) (st := []) (pc := 35) hX zc4 rfl (fun _ => (ihd.2.2.2.2.2 _ _ _)) ⟨wd555, wd64, wd558, ⟨by decide, by decide, by decide⟩, by decide⟩ rfl wd557 wd17 rfl rfl (by omega) (Nat.le_of_ble_eq_true rfl) dX4_readTerm_35 (fun v16 s17 r18 => ?_)
          show Zj X G 38 [(0, (2, u5)), (1, (0, u6)), (2, (0, x7))] [] _ _
          refine z_aload_n (pc := 38) hX 0 dX4_readTerm_38 rfl rfl ?_
          refine z_sipush (pc := 39) hX dX4_readTerm_39 ?_
          refine z_callV (n := 1) (st := []) (pc := 42) hX zc4 rfl (fun _ => (mX4_emit _ hE _ _ _ _)) ⟨wd543, wd64, wd546, ⟨by decide, by decide, by decide⟩, by decide⟩ rfl wd545 wd14 rfl rfl (by omega) (Nat.le_of_ble_eq_true rfl) dX4_readTerm_42 (fun v19 s20 r21 => ?_)
          show Zj X G 45 [(0, (2, u5)), (1, (0, u6)), (2, (0, x7))] [] _ _
          refine z_iinc (lv' := [(2, (0, (wrap (x7 + 1)))), (0, (2, u5)), (1, (0, u6))]) (pc := 45) hX 2 dX4_readTerm_45 rfl (zlt hxn rfl) rfl ?_
          refine z_goto (pc := 48) hX 7 dX4_readTerm_48 (by decide) ?_
          refine z_pick (lv' := [(0, (2, u5)), (1, (0, u6)), (2, (0, (wrap (x7 + 1))))]) [1, 2, 0] rfl ?_
          exact ih1 _ _
  refine z_pick (lv' := [(0, (2, a0)), (1, (0, a1)), (2, (0, 0))]) [1, 2, 0] rfl ?_
  refine hl7 _ _ 1000 _ _
set_option maxHeartbeats 4000000 in
set_option maxRecDepth 100000 in
theorem mrec_5 (E : ZE) (hE : zOkE E) (l : Launch) (d0 : Nat) (rf : Nat → ZS → Int → Int → Option (Int × ZS)) (ihd : zRecP E l d0 rf) (s0 : ZS) (a0 a1 : Int) : Ct E l yX4_readOne cX4_readOne 3 none (d0 + 1 + 6) [(2, a0), (0, a1)] 0 s0 (sX4_readOne rf s0 a0 a1) := by
  refine Ct.of (by decide) hE (Nat.le_of_ble_eq_true rfl) ?_
  intro X G hX hR hN hXE hXl hxn hk _
  subst hXE
  subst hXl
  have hX : G → ZOk X cX4_readOne RX4 (d0 + 1 + 6) := hX
  clear hN
  show Zj X G 0 [(0, (2, a0)), (1, (0, a1))] [] s0 _
  unfold sX4_readOne
  refine z_aload_n (pc := 0) hX 0 dX4_readOne_0 rfl rfl ?_
  refine z_get (pc := 1) hX zc4 3 (by decide) wd203 rfl rfl dX4_readOne_1 (fun v1 => ?_)
  refine z_aload_n (pc := 4) hX 0 dX4_readOne_4 rfl rfl ?_
  refine z_get (pc := 5) hX zc4 6 (by decide) wd206 rfl rfl dX4_readOne_5 (fun v2 => ?_)
  refine z_iald (pc := 8) hX dX4_readOne_8 (fun v3 => ?_)
  refine z_istore_n (lv' := [(2, (0, v3)), (0, (2, a0)), (1, (0, a1))]) (pc := 9) hX dX4_readOne_9 rfl (zlt hxn rfl) rfl ?_
  refine z_iload_n (pc := 10) hX 0 dX4_readOne_10 rfl rfl ?_
  refine z_sipush (pc := 11) hX dX4_readOne_11 ?_
  refine z_icmp_ge (pc := 14) hX 29 dX4_readOne_14 (by decide) (fun h4 => ?_) (fun h4 => ?_)
  · refine z_iload_n (pc := 29) hX 0 dX4_readOne_29 rfl rfl ?_
    refine z_sipush (pc := 30) hX dX4_readOne_30 ?_
    refine z_icmp_ne (pc := 33) hX 61 dX4_readOne_33 (by decide) (fun h5 => ?_) (fun h5 => ?_)
    · refine z_iload_n (pc := 61) hX 0 dX4_readOne_61 rfl rfl ?_
      refine z_sipush (pc := 62) hX dX4_readOne_62 ?_
      refine z_icmp_ne (pc := 65) hX 93 dX4_readOne_65 (by decide) (fun h6 => ?_) (fun h6 => ?_)
      · refine z_aload_n (pc := 93) hX 1 dX4_readOne_93 rfl rfl ?_
        refine z_callV (n := 0) (st := []) (pc := 94) hX zc4 rfl (fun _ => (mX4_fail _ hE _ _ _)) ⟨wd523, wd64, wd526, ⟨by decide, by decide, by decide⟩, by decide⟩ rfl wd525 wd9 rfl rfl (by omega) (Nat.le_of_ble_eq_true rfl) dX4_readOne_94 (fun v7 s8 r9 => ?_)
        show Zj X G 97 [(2, (0, v3)), (0, (2, a0)), (1, (0, a1))] [] _ _
        exact z_vret (pc := 97) hX hR hk dX4_readOne_97
      · refine z_aload_n (pc := 68) hX 1 dX4_readOne_68 rfl rfl ?_
        refine z_iload_n (pc := 69) hX 2 dX4_readOne_69 rfl rfl ?_
        refine z_callV (n := 1) (st := []) (pc := 70) hX zc4 rfl (fun _ => (mX4_mayOpen _ hE _ _ _ _)) ⟨wd539, wd64, wd542, ⟨by decide, by decide, by decide⟩, by decide⟩ rfl wd541 wd13 rfl rfl (by omega) (Nat.le_of_ble_eq_true rfl) dX4_readOne_70 (fun v10 s11 r12 => ?_)
        show Zj X G 73 [(2, (0, v3)), (0, (2, a0)), (1, (0, a1))] [(0, v10)] _ _
        refine z_if_eq (pc := 73) hX 97 dX4_readOne_73 (by decide) (fun h13 => ?_) (fun h13 => ?_)
        · exact z_vret (pc := 97) hX hR hk dX4_readOne_97
        · refine z_aload_n (pc := 76) hX 1 dX4_readOne_76 rfl rfl ?_
          refine z_iload_n (pc := 77) hX 2 dX4_readOne_77 rfl rfl ?_
          refine z_iconst (pc := 78) hX dX4_readOne_78 ?_
          refine z_iadd (pc := 79) hX dX4_readOne_79 ?_
          refine z_callV (n := 1) (st := []) (pc := 80) hX zc4 rfl (fun _ => (ihd.1 _ _ _)) ⟨wd527, wd64, wd530, ⟨by decide, by decide, by decide⟩, by decide⟩ rfl wd529 wd10 rfl rfl (by omega) (Nat.le_of_ble_eq_true rfl) dX4_readOne_80 (fun v14 s15 r16 => ?_)
          show Zj X G 83 [(2, (0, v3)), (0, (2, a0)), (1, (0, a1))] [] _ _
          refine z_aload_n (pc := 83) hX 1 dX4_readOne_83 rfl rfl ?_
          refine z_sipush (pc := 84) hX dX4_readOne_84 ?_
          refine z_callV (n := 1) (st := []) (pc := 87) hX zc4 rfl (fun _ => (mX4_expect _ hE _ _ _ _)) ⟨wd515, wd64, wd518, ⟨by decide, by decide, by decide⟩, by decide⟩ rfl wd517 wd7 rfl rfl (by omega) (Nat.le_of_ble_eq_true rfl) dX4_readOne_87 (fun v17 s18 r19 => ?_)
          show Zj X G 90 [(2, (0, v3)), (0, (2, a0)), (1, (0, a1))] [] _ _
          refine z_goto (pc := 90) hX 97 dX4_readOne_90 (by decide) ?_
          exact z_vret (pc := 97) hX hR hk dX4_readOne_97
    · refine z_aload_n (pc := 36) hX 1 dX4_readOne_36 rfl rfl ?_
      refine z_iload_n (pc := 37) hX 2 dX4_readOne_37 rfl rfl ?_
      refine z_callV (n := 1) (st := []) (pc := 38) hX zc4 rfl (fun _ => (mX4_mayOpen _ hE _ _ _ _)) ⟨wd539, wd64, wd542, ⟨by decide, by decide, by decide⟩, by decide⟩ rfl wd541 wd13 rfl rfl (by omega) (Nat.le_of_ble_eq_true rfl) dX4_readOne_38 (fun v20 s21 r22 => ?_)
      show Zj X G 41 [(2, (0, v3)), (0, (2, a0)), (1, (0, a1))] [(0, v20)] _ _
      refine z_if_eq (pc := 41) hX 97 dX4_readOne_41 (by decide) (fun h23 => ?_) (fun h23 => ?_)
      · exact z_vret (pc := 97) hX hR hk dX4_readOne_97
      · refine z_aload_n (pc := 44) hX 1 dX4_readOne_44 rfl rfl ?_
        refine z_iload_n (pc := 45) hX 2 dX4_readOne_45 rfl rfl ?_
        refine z_iconst (pc := 46) hX dX4_readOne_46 ?_
        refine z_iadd (pc := 47) hX dX4_readOne_47 ?_
        refine z_callV (n := 1) (st := []) (pc := 48) hX zc4 rfl (fun _ => (ihd.2.2.2.2.2 _ _ _)) ⟨wd555, wd64, wd558, ⟨by decide, by decide, by decide⟩, by decide⟩ rfl wd557 wd17 rfl rfl (by omega) (Nat.le_of_ble_eq_true rfl) dX4_readOne_48 (fun v24 s25 r26 => ?_)
        show Zj X G 51 [(2, (0, v3)), (0, (2, a0)), (1, (0, a1))] [] _ _
        refine z_aload_n (pc := 51) hX 1 dX4_readOne_51 rfl rfl ?_
        refine z_sipush (pc := 52) hX dX4_readOne_52 ?_
        refine z_callV (n := 1) (st := []) (pc := 55) hX zc4 rfl (fun _ => (mX4_emit _ hE _ _ _ _)) ⟨wd543, wd64, wd546, ⟨by decide, by decide, by decide⟩, by decide⟩ rfl wd545 wd14 rfl rfl (by omega) (Nat.le_of_ble_eq_true rfl) dX4_readOne_55 (fun v27 s28 r29 => ?_)
        show Zj X G 58 [(2, (0, v3)), (0, (2, a0)), (1, (0, a1))] [] _ _
        refine z_goto (pc := 58) hX 97 dX4_readOne_58 (by decide) ?_
        exact z_vret (pc := 97) hX hR hk dX4_readOne_97
  · refine z_aload_n (pc := 17) hX 1 dX4_readOne_17 rfl rfl ?_
    refine z_iload_n (pc := 18) hX 0 dX4_readOne_18 rfl rfl ?_
    refine z_callV (n := 1) (st := []) (pc := 19) hX zc4 rfl (fun _ => (mX4_emit _ hE _ _ _ _)) ⟨wd543, wd64, wd546, ⟨by decide, by decide, by decide⟩, by decide⟩ rfl wd545 wd14 rfl rfl (by omega) (Nat.le_of_ble_eq_true rfl) dX4_readOne_19 (fun v30 s31 r32 => ?_)
    show Zj X G 22 [(2, (0, v3)), (0, (2, a0)), (1, (0, a1))] [] _ _
    refine z_aload_n (pc := 22) hX 1 dX4_readOne_22 rfl rfl ?_
    refine z_callV (n := 0) (st := []) (pc := 23) hX zc4 rfl (fun _ => (mX4_advance _ hE _ _ _)) ⟨wd519, wd64, wd522, ⟨by decide, by decide, by decide⟩, by decide⟩ rfl wd521 wd8 rfl rfl (by omega) (Nat.le_of_ble_eq_true rfl) dX4_readOne_23 (fun v33 s34 r35 => ?_)
    show Zj X G 26 [(2, (0, v3)), (0, (2, a0)), (1, (0, a1))] [] _ _
    refine z_goto (pc := 26) hX 97 dX4_readOne_26 (by decide) ?_
    exact z_vret (pc := 97) hX hR hk dX4_readOne_97
theorem mrec (E : ZE) (hE : zOkE E) (l : Launch) : ∀ d0 : Nat, zRecP E l d0 (fX4_rec d0)
  | 0 => ⟨fun _ _ _ => Ct.none, fun _ _ _ => Ct.none, fun _ _ _ => Ct.none, fun _ _ _ => Ct.none, fun _ _ _ => Ct.none, fun _ _ _ => Ct.none⟩
  | d0 + 1 => ⟨mrec_0 E hE l d0 _ (mrec E hE l d0), mrec_1 E hE l d0 _ (mrec E hE l d0), mrec_2 E hE l d0 _ (mrec E hE l d0), mrec_3 E hE l d0 _ (mrec E hE l d0), mrec_4 E hE l d0 _ (mrec E hE l d0), mrec_5 E hE l d0 _ (mrec E hE l d0)⟩
def fX4_readOr (s0 : ZS) (a0 a1 : Int) : Option (Int × ZS) := fX4_rec 60 0 s0 a0 a1
theorem mX4_readOr (E : ZE) (hE : zOkE E) (l : Launch) (s0 : ZS) (a0 a1 : Int) : Ct E l yX4_readOr cX4_readOr 3 none 66 [(2, a0), (0, a1)] 0 s0 (fX4_readOr s0 a0 a1) := (mrec E hE l 60).1 s0 a0 a1
def fX4_readAnd (s0 : ZS) (a0 a1 : Int) : Option (Int × ZS) := fX4_rec 60 1 s0 a0 a1
theorem mX4_readAnd (E : ZE) (hE : zOkE E) (l : Launch) (s0 : ZS) (a0 a1 : Int) : Ct E l yX4_readAnd cX4_readAnd 3 none 66 [(2, a0), (0, a1)] 0 s0 (fX4_readAnd s0 a0 a1) := (mrec E hE l 60).2.1 s0 a0 a1
def fX4_readNot (s0 : ZS) (a0 a1 : Int) : Option (Int × ZS) := fX4_rec 60 2 s0 a0 a1
theorem mX4_readNot (E : ZE) (hE : zOkE E) (l : Launch) (s0 : ZS) (a0 a1 : Int) : Ct E l yX4_readNot cX4_readNot 2 none 66 [(2, a0), (0, a1)] 0 s0 (fX4_readNot s0 a0 a1) := (mrec E hE l 60).2.2.1 s0 a0 a1
def fX4_readSum (s0 : ZS) (a0 a1 : Int) : Option (Int × ZS) := fX4_rec 60 3 s0 a0 a1
theorem mX4_readSum (E : ZE) (hE : zOkE E) (l : Launch) (s0 : ZS) (a0 a1 : Int) : Ct E l yX4_readSum cX4_readSum 4 none 66 [(2, a0), (0, a1)] 0 s0 (fX4_readSum s0 a0 a1) := (mrec E hE l 60).2.2.2.1 s0 a0 a1
def fX4_readTerm (s0 : ZS) (a0 a1 : Int) : Option (Int × ZS) := fX4_rec 60 4 s0 a0 a1
theorem mX4_readTerm (E : ZE) (hE : zOkE E) (l : Launch) (s0 : ZS) (a0 a1 : Int) : Ct E l yX4_readTerm cX4_readTerm 3 none 66 [(2, a0), (0, a1)] 0 s0 (fX4_readTerm s0 a0 a1) := (mrec E hE l 60).2.2.2.2.1 s0 a0 a1
def fX4_readOne (s0 : ZS) (a0 a1 : Int) : Option (Int × ZS) := fX4_rec 60 5 s0 a0 a1
theorem mX4_readOne (E : ZE) (hE : zOkE E) (l : Launch) (s0 : ZS) (a0 a1 : Int) : Ct E l yX4_readOne cX4_readOne 3 none 66 [(2, a0), (0, a1)] 0 s0 (fX4_readOne s0 a0 a1) := (mrec E hE l 60).2.2.2.2.2 s0 a0 a1
