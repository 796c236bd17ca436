/-! the toll that makes the least waiting -/
def wt2 (n k : Int) (ch so : Int → Int) (ln rt : Int → Int → Int) (c : Int) : Int := if cmO ln so ch c = -1 then 0 else if pasA n k ch so ln rt c = -1 then 24 else pasA n k ch so ln rt c - cmO ln so ch c
def sumI (f : Int → Int) : Nat → Int
  | 0 => 0
  | n + 1 => wrap (sumI f n + f (n : Int))
theorem pas_no {n k : Int} {ch so : Int → Int} {ln rt : Int → Int → Int} {c : Int} (h : cmO ln so ch c = -1) : pasA n k ch so ln rt c = -1 := by
  rcases pasA_in (n := n) (k := k) (rt := rt) (Or.inl h) with e | ⟨-, -, c, -⟩
  · exact e
  · omega
theorem l_wt66 {W n k u1 u2 u3 : Int} {ch so : Int → Int} {ln rt : Int → Int → Int} {K : ZS → Int → Option (Int × ZS)} {P : Int → ZS → Prop} {s : ZS} (hV : LV s W n k ch so ln rt) (hW : Flw s n k ch so ln rt) (hK : Rt (K s (sumI (wt2 n k ch so ln rt) n.toNat)) P) :
    ∀ (N c : Nat), (c : Int) ≤ n → n - (c : Int) < (N : Int) → Rt (lX11_waitedByToll_66 3 W u1 u2 u3 K N s (sumI (wt2 n k ch so ln rt) c) (c : Int)) P
  | 0, c, h1, h2 => by omega
  | N + 1, c, h1, h2 => by
    have hV0 := hV
    obtain ⟨hF, ⟨w1, w2⟩, ⟨k0, k5, kk⟩, ⟨n1, n2, n3⟩, -⟩ := hV
    have hw : wkn s W := wk_w kk k0 k5
    replace n1 := hd n1
    rw [lX11_waitedByToll_66]
    repeat (first
    | with_reducible refine rt_b ?_
    | with_reducible refine rt_jn ?_
    | ((with_reducible refine rt_pos ?_ ?_); (· first | omega | ((try simp (disch := omega) only [wr, true_and, and_true, sM_ne, sM_eq, sM_neR, sM_eqR, sK_upM, sK_upR, sL_upM, sL_upR, sN_upM, sN_upR, sT_upM, sT_upR, sN_upM, Int.reduceAdd, Int.reduceMul, Int.reduceSub, Int.reduceNeg, Int.zero_add, Int.add_zero, hF.c, n1 ()]) <;> omega)))
    | ((with_reducible refine rt_neg ?_ ?_); (· first | omega | ((try simp (disch := omega) only [wr, true_and, and_true, sM_ne, sM_eq, sM_neR, sM_eqR, sK_upM, sK_upR, sL_upM, sL_upR, sN_upM, sN_upR, sT_upM, sT_upR, sN_upM, Int.reduceAdd, Int.reduceMul, Int.reduceSub, Int.reduceNeg, Int.zero_add, Int.add_zero, hF.c, n1 ()]) <;> omega)))
    | ((with_reducible refine rt_v ?_ ?_); · simp (disch := omega) only [true_and, and_true, sM_ne, sM_eq, sM_neR, sM_eqR, sK_upM, sK_upR, sL_upM, sL_upR, sN_upM, sN_upR, sT_upM, sT_upR, sN_upM, Int.reduceAdd, Int.reduceMul, Int.reduceSub, Int.reduceNeg, Int.zero_add, Int.add_zero, hF.c, n1 ()])
    | ((with_reducible apply rt_gx); (· simp (disch := omega) only [true_and, and_true, sM_ne, sM_eq, sM_neR, sM_eqR, sK_upM, sK_upR, sL_upM, sL_upR, sN_upM, sN_upR, sT_upM, sT_upR, sN_upM, Int.reduceAdd, Int.reduceMul, Int.reduceSub, Int.reduceNeg, Int.zero_add, Int.add_zero, hF.c, n1 ()]); (· (try simp (disch := omega) only [wr, true_and, and_true, sM_ne, sM_eq, sM_neR, sM_eqR, sK_upM, sK_upR, sL_upM, sL_upR, sN_upM, sN_upR, sT_upM, sT_upR, sN_upM, Int.reduceAdd, Int.reduceMul, Int.reduceSub, Int.reduceNeg, Int.zero_add, Int.add_zero, hF.c, n1 ()]); exact rfl))
    | ((with_reducible apply rt_alx); (· simp (disch := omega) only [true_and, and_true, sM_ne, sM_eq, sM_neR, sM_eqR, sK_upM, sK_upR, sL_upM, sL_upR, sN_upM, sN_upR, sT_upM, sT_upR, sN_upM, Int.reduceAdd, Int.reduceMul, Int.reduceSub, Int.reduceNeg, Int.zero_add, Int.add_zero, hF.c, n1 ()]); (· first | omega | ((try simp (disch := omega) only [wr, true_and, and_true, sM_ne, sM_eq, sM_neR, sM_eqR, sK_upM, sK_upR, sL_upM, sL_upR, sN_upM, sN_upR, sT_upM, sT_upR, sN_upM, Int.reduceAdd, Int.reduceMul, Int.reduceSub, Int.reduceNeg, Int.zero_add, Int.add_zero, hF.c, n1 ()]) <;> omega)); (· (try simp (disch := omega) only [wr, true_and, and_true, sM_ne, sM_eq, sM_neR, sM_eqR, sK_upM, sK_upR, sL_upM, sL_upR, sN_upM, sN_upR, sT_upM, sT_upR, sN_upM, Int.reduceAdd, Int.reduceMul, Int.reduceSub, Int.reduceNeg, Int.zero_add, Int.add_zero, hF.c, n1 ()]); exact rfl))
    | ((with_reducible refine rt_as ?_ ?_ ?_); (· simp (disch := omega) only [true_and, and_true, sM_ne, sM_eq, sM_neR, sM_eqR, sK_upM, sK_upR, sL_upM, sL_upR, sN_upM, sN_upR, sT_upM, sT_upR, sN_upM, Int.reduceAdd, Int.reduceMul, Int.reduceSub, Int.reduceNeg, Int.zero_add, Int.add_zero, hF.c, n1 ()]); (· first | omega | ((try simp (disch := omega) only [wr, true_and, and_true, sM_ne, sM_eq, sM_neR, sM_eqR, sK_upM, sK_upR, sL_upM, sL_upR, sN_upM, sN_upR, sT_upM, sT_upR, sN_upM, Int.reduceAdd, Int.reduceMul, Int.reduceSub, Int.reduceNeg, Int.zero_add, Int.add_zero, hF.c, n1 ()]) <;> omega)))
    | ((with_reducible refine rt_p ?_ ?_ ?_); (· simp (disch := omega) only [true_and, and_true, sM_ne, sM_eq, sM_neR, sM_eqR, sK_upM, sK_upR, sL_upM, sL_upR, sN_upM, sN_upR, sT_upM, sT_upR, sN_upM, Int.reduceAdd, Int.reduceMul, Int.reduceSub, Int.reduceNeg, Int.zero_add, Int.add_zero, hF.c, n1 ()]); (· omega))
    | with_reducible refine rt_ret ?_
    | ((with_reducible apply rt_gwx); (· assumption); (· (try simp (disch := omega) only [wr, true_and, and_true, sM_ne, sM_eq, sM_neR, sM_eqR, sK_upM, sK_upR, sL_upM, sL_upR, sN_upM, sN_upR, sT_upM, sT_upR, sN_upM, Int.reduceAdd, Int.reduceMul, Int.reduceSub, Int.reduceNeg, Int.zero_add, Int.add_zero, hF.c, n1 ()]); exact rfl)))
    by_cases he : n ≤ (c : Int)
    · refine rt_pos he ?_
      rw [show n.toNat = c by omega] at hK
      exact hK
    · refine rt_neg he ?_
      have hcm := hV0.cm (c := (c : Int)) (by omega) (by omega)
      have hps := pasA_in (n := n) (k := k) (rt := rt) hcm
      have hno := pas_no (n := n) (k := k) (ch := ch) (so := so) (ln := ln) (rt := rt) (c := (c : Int))
      have e18 := hd (hW.1 (c : Int) (by omega) (by omega))
      have e19 := hd (hW.2.1 (c : Int) (by omega) (by omega))
      have hwo := f_waitOf hV0 hW (c := (c : Int)) (by omega) (by omega)
      have hs := hd (show sumI (wt2 n k ch so ln rt) (c + 1) = wrap (sumI (wt2 n k ch so ln rt) c + (if cmO ln so ch (c : Int) = -1 then 0 else if pasA n k ch so ln rt (c : Int) = -1 then 24 else pasA n k ch so ln rt (c : Int) - cmO ln so ch (c : Int))) from rfl)
      have next : ∀ v : Int, v = sumI (wt2 n k ch so ln rt) (c + 1) → Rt (lX11_waitedByToll_66 3 W u1 u2 u3 K N s v (wrap ((c : Int) + 1))) P := by
        intro v hv
        rw [hv, wr1 c (by omega)]
        exact l_wt66 hV0 hW hK N (c + 1) (by omega) (by omega)
      generalize sumI (wt2 n k ch so ln rt) c = A at *
      generalize pasA n k ch so ln rt (c : Int) = ps at *
      generalize cmO ln so ch (c : Int) = cm at *
      have wait : ps = -1 ∧ cm = -1 ∨ ps ≠ -1 ∧ cm ≠ -1 → Rt (zb (zv s 2 4 (fX2_waitOf s 4 (c : Int))) (fun v44 s45 => lX11_waitedByToll_66 3 W u1 u2 u3 K N s45 (wrap (A + v44)) (wrap ((c : Int) + 1)))) P := by
        intro hh
        refine rt_b (rt_v (by simp (disch := omega) only [true_and, and_true, sM_ne, sM_eq, sM_neR, sM_eqR, sK_upM, sK_upR, sL_upM, sL_upR, sN_upM, sN_upR, sT_upM, sT_upR, sN_upM, Int.reduceAdd, Int.reduceMul, Int.reduceSub, Int.reduceNeg, Int.zero_add, Int.add_zero, hF.c]) (rt_e hwo (next _ ?_)))
        rw [hs ()]
        rcases hh with ⟨h1, h2⟩ | ⟨h1, h2⟩
        · rw [if_pos h1, if_pos h2]
        · rw [if_neg h1, if_neg h2, if_neg h1]
      by_cases c1 : cm = -1
      · have c2 := hno c1
        refine rt_gx (x := 4) (by simp (disch := omega) only [true_and, and_true, sM_ne, sM_eq, sM_neR, sM_eqR, sK_upM, sK_upR, sL_upM, sL_upR, sN_upM, sN_upR, sT_upM, sT_upR, sN_upM, Int.reduceAdd, Int.reduceMul, Int.reduceSub, Int.reduceNeg, Int.zero_add, Int.add_zero, hF.c]) (by simp (disch := omega) only [true_and, and_true, sM_ne, sM_eq, sM_neR, sM_eqR, sK_upM, sK_upR, sL_upM, sL_upR, sN_upM, sN_upR, sT_upM, sT_upR, sN_upM, Int.reduceAdd, Int.reduceMul, Int.reduceSub, Int.reduceNeg, Int.zero_add, Int.add_zero, hF.c]) ?_
        refine rt_gx (x := 18) (by simp (disch := omega) only [true_and, and_true, sM_ne, sM_eq, sM_neR, sM_eqR, sK_upM, sK_upR, sL_upM, sL_upR, sN_upM, sN_upR, sT_upM, sT_upR, sN_upM, Int.reduceAdd, Int.reduceMul, Int.reduceSub, Int.reduceNeg, Int.zero_add, Int.add_zero, hF.c]) (by simp (disch := omega) only [true_and, and_true, sM_ne, sM_eq, sM_neR, sM_eqR, sK_upM, sK_upR, sL_upM, sL_upR, sN_upM, sN_upR, sT_upM, sT_upR, sN_upM, Int.reduceAdd, Int.reduceMul, Int.reduceSub, Int.reduceNeg, Int.zero_add, Int.add_zero, hF.c]) ?_
        refine rt_alx (x := cm) (by simp (disch := omega) only [true_and, and_true, sM_ne, sM_eq, sM_neR, sM_eqR, sK_upM, sK_upR, sL_upM, sL_upR, sN_upM, sN_upR, sT_upM, sT_upR, sN_upM, Int.reduceAdd, Int.reduceMul, Int.reduceSub, Int.reduceNeg, Int.zero_add, Int.add_zero, hF.c]) (by simp (disch := omega) only [true_and, and_true, sM_ne, sM_eq, sM_neR, sM_eqR, sK_upM, sK_upR, sL_upM, sL_upR, sN_upM, sN_upR, sT_upM, sT_upR, sN_upM, Int.reduceAdd, Int.reduceMul, Int.reduceSub, Int.reduceNeg, Int.zero_add, Int.add_zero, hF.c]; omega) (e18 ()) ?_
        refine rt_jn (rt_jn (rt_jn (rt_pos c1 (rt_jn (rt_pos rfl ?_)))))
        refine rt_gx (x := 4) (by simp (disch := omega) only [true_and, and_true, sM_ne, sM_eq, sM_neR, sM_eqR, sK_upM, sK_upR, sL_upM, sL_upR, sN_upM, sN_upR, sT_upM, sT_upR, sN_upM, Int.reduceAdd, Int.reduceMul, Int.reduceSub, Int.reduceNeg, Int.zero_add, Int.add_zero, hF.c]) (by simp (disch := omega) only [true_and, and_true, sM_ne, sM_eq, sM_neR, sM_eqR, sK_upM, sK_upR, sL_upM, sL_upR, sN_upM, sN_upR, sT_upM, sT_upR, sN_upM, Int.reduceAdd, Int.reduceMul, Int.reduceSub, Int.reduceNeg, Int.zero_add, Int.add_zero, hF.c]) ?_
        exact wait (Or.inl ⟨c2, c1⟩)
      · by_cases c2 : ps = -1
        · refine rt_gx (x := 4) (by simp (disch := omega) only [true_and, and_true, sM_ne, sM_eq, sM_neR, sM_eqR, sK_upM, sK_upR, sL_upM, sL_upR, sN_upM, sN_upR, sT_upM, sT_upR, sN_upM, Int.reduceAdd, Int.reduceMul, Int.reduceSub, Int.reduceNeg, Int.zero_add, Int.add_zero, hF.c]) (by simp (disch := omega) only [true_and, and_true, sM_ne, sM_eq, sM_neR, sM_eqR, sK_upM, sK_upR, sL_upM, sL_upR, sN_upM, sN_upR, sT_upM, sT_upR, sN_upM, Int.reduceAdd, Int.reduceMul, Int.reduceSub, Int.reduceNeg, Int.zero_add, Int.add_zero, hF.c]) ?_
          refine rt_gx (x := 18) (by simp (disch := omega) only [true_and, and_true, sM_ne, sM_eq, sM_neR, sM_eqR, sK_upM, sK_upR, sL_upM, sL_upR, sN_upM, sN_upR, sT_upM, sT_upR, sN_upM, Int.reduceAdd, Int.reduceMul, Int.reduceSub, Int.reduceNeg, Int.zero_add, Int.add_zero, hF.c]) (by simp (disch := omega) only [true_and, and_true, sM_ne, sM_eq, sM_neR, sM_eqR, sK_upM, sK_upR, sL_upM, sL_upR, sN_upM, sN_upR, sT_upM, sT_upR, sN_upM, Int.reduceAdd, Int.reduceMul, Int.reduceSub, Int.reduceNeg, Int.zero_add, Int.add_zero, hF.c]) ?_
          refine rt_alx (x := cm) (by simp (disch := omega) only [true_and, and_true, sM_ne, sM_eq, sM_neR, sM_eqR, sK_upM, sK_upR, sL_upM, sL_upR, sN_upM, sN_upR, sT_upM, sT_upR, sN_upM, Int.reduceAdd, Int.reduceMul, Int.reduceSub, Int.reduceNeg, Int.zero_add, Int.add_zero, hF.c]) (by simp (disch := omega) only [true_and, and_true, sM_ne, sM_eq, sM_neR, sM_eqR, sK_upM, sK_upR, sL_upM, sL_upR, sN_upM, sN_upR, sT_upM, sT_upR, sN_upM, Int.reduceAdd, Int.reduceMul, Int.reduceSub, Int.reduceNeg, Int.zero_add, Int.add_zero, hF.c]; omega) (e18 ()) ?_
          refine rt_jn (rt_jn (rt_neg c1 ?_))
          refine rt_gx (x := 4) (by simp (disch := omega) only [true_and, and_true, sM_ne, sM_eq, sM_neR, sM_eqR, sK_upM, sK_upR, sL_upM, sL_upR, sN_upM, sN_upR, sT_upM, sT_upR, sN_upM, Int.reduceAdd, Int.reduceMul, Int.reduceSub, Int.reduceNeg, Int.zero_add, Int.add_zero, hF.c]) (by simp (disch := omega) only [true_and, and_true, sM_ne, sM_eq, sM_neR, sM_eqR, sK_upM, sK_upR, sL_upM, sL_upR, sN_upM, sN_upR, sT_upM, sT_upR, sN_upM, Int.reduceAdd, Int.reduceMul, Int.reduceSub, Int.reduceNeg, Int.zero_add, Int.add_zero, hF.c]) ?_
          refine rt_gx (x := 19) (by simp (disch := omega) only [true_and, and_true, sM_ne, sM_eq, sM_neR, sM_eqR, sK_upM, sK_upR, sL_upM, sL_upR, sN_upM, sN_upR, sT_upM, sT_upR, sN_upM, Int.reduceAdd, Int.reduceMul, Int.reduceSub, Int.reduceNeg, Int.zero_add, Int.add_zero, hF.c]) (by simp (disch := omega) only [true_and, and_true, sM_ne, sM_eq, sM_neR, sM_eqR, sK_upM, sK_upR, sL_upM, sL_upR, sN_upM, sN_upR, sT_upM, sT_upR, sN_upM, Int.reduceAdd, Int.reduceMul, Int.reduceSub, Int.reduceNeg, Int.zero_add, Int.add_zero, hF.c]) ?_
          refine rt_alx (x := ps) (by simp (disch := omega) only [true_and, and_true, sM_ne, sM_eq, sM_neR, sM_eqR, sK_upM, sK_upR, sL_upM, sL_upR, sN_upM, sN_upR, sT_upM, sT_upR, sN_upM, Int.reduceAdd, Int.reduceMul, Int.reduceSub, Int.reduceNeg, Int.zero_add, Int.add_zero, hF.c]) (by simp (disch := omega) only [true_and, and_true, sM_ne, sM_eq, sM_neR, sM_eqR, sK_upM, sK_upR, sL_upM, sL_upR, sN_upM, sN_upR, sT_upM, sT_upR, sN_upM, Int.reduceAdd, Int.reduceMul, Int.reduceSub, Int.reduceNeg, Int.zero_add, Int.add_zero, hF.c]; omega) (e19 ()) ?_
          refine rt_pos c2 (rt_jn (rt_neg (by decide) ?_))
          exact next _ (by rw [hs (), if_neg c1, if_pos c2])
        · refine rt_gx (x := 4) (by simp (disch := omega) only [true_and, and_true, sM_ne, sM_eq, sM_neR, sM_eqR, sK_upM, sK_upR, sL_upM, sL_upR, sN_upM, sN_upR, sT_upM, sT_upR, sN_upM, Int.reduceAdd, Int.reduceMul, Int.reduceSub, Int.reduceNeg, Int.zero_add, Int.add_zero, hF.c]) (by simp (disch := omega) only [true_and, and_true, sM_ne, sM_eq, sM_neR, sM_eqR, sK_upM, sK_upR, sL_upM, sL_upR, sN_upM, sN_upR, sT_upM, sT_upR, sN_upM, Int.reduceAdd, Int.reduceMul, Int.reduceSub, Int.reduceNeg, Int.zero_add, Int.add_zero, hF.c]) ?_
          refine rt_gx (x := 18) (by simp (disch := omega) only [true_and, and_true, sM_ne, sM_eq, sM_neR, sM_eqR, sK_upM, sK_upR, sL_upM, sL_upR, sN_upM, sN_upR, sT_upM, sT_upR, sN_upM, Int.reduceAdd, Int.reduceMul, Int.reduceSub, Int.reduceNeg, Int.zero_add, Int.add_zero, hF.c]) (by simp (disch := omega) only [true_and, and_true, sM_ne, sM_eq, sM_neR, sM_eqR, sK_upM, sK_upR, sL_upM, sL_upR, sN_upM, sN_upR, sT_upM, sT_upR, sN_upM, Int.reduceAdd, Int.reduceMul, Int.reduceSub, Int.reduceNeg, Int.zero_add, Int.add_zero, hF.c]) ?_
          refine rt_alx (x := cm) (by simp (disch := omega) only [true_and, and_true, sM_ne, sM_eq, sM_neR, sM_eqR, sK_upM, sK_upR, sL_upM, sL_upR, sN_upM, sN_upR, sT_upM, sT_upR, sN_upM, Int.reduceAdd, Int.reduceMul, Int.reduceSub, Int.reduceNeg, Int.zero_add, Int.add_zero, hF.c]) (by simp (disch := omega) only [true_and, and_true, sM_ne, sM_eq, sM_neR, sM_eqR, sK_upM, sK_upR, sL_upM, sL_upR, sN_upM, sN_upR, sT_upM, sT_upR, sN_upM, Int.reduceAdd, Int.reduceMul, Int.reduceSub, Int.reduceNeg, Int.zero_add, Int.add_zero, hF.c]; omega) (e18 ()) ?_
          refine rt_jn (rt_jn (rt_neg c1 ?_))
          refine rt_gx (x := 4) (by simp (disch := omega) only [true_and, and_true, sM_ne, sM_eq, sM_neR, sM_eqR, sK_upM, sK_upR, sL_upM, sL_upR, sN_upM, sN_upR, sT_upM, sT_upR, sN_upM, Int.reduceAdd, Int.reduceMul, Int.reduceSub, Int.reduceNeg, Int.zero_add, Int.add_zero, hF.c]) (by simp (disch := omega) only [true_and, and_true, sM_ne, sM_eq, sM_neR, sM_eqR, sK_upM, sK_upR, sL_upM, sL_upR, sN_upM, sN_upR, sT_upM, sT_upR, sN_upM, Int.reduceAdd, Int.reduceMul, Int.reduceSub, Int.reduceNeg, Int.zero_add, Int.add_zero, hF.c]) ?_
          refine rt_gx (x := 19) (by simp (disch := omega) only [true_and, and_true, sM_ne, sM_eq, sM_neR, sM_eqR, sK_upM, sK_upR, sL_upM, sL_upR, sN_upM, sN_upR, sT_upM, sT_upR, sN_upM, Int.reduceAdd, Int.reduceMul, Int.reduceSub, Int.reduceNeg, Int.zero_add, Int.add_zero, hF.c]) (by simp (disch := omega) only [true_and, and_true, sM_ne, sM_eq, sM_neR, sM_eqR, sK_upM, sK_upR, sL_upM, sL_upR, sN_upM, sN_upR, sT_upM, sT_upR, sN_upM, Int.reduceAdd, Int.reduceMul, Int.reduceSub, Int.reduceNeg, Int.zero_add, Int.add_zero, hF.c]) ?_
          refine rt_alx (x := ps) (by simp (disch := omega) only [true_and, and_true, sM_ne, sM_eq, sM_neR, sM_eqR, sK_upM, sK_upR, sL_upM, sL_upR, sN_upM, sN_upR, sT_upM, sT_upR, sN_upM, Int.reduceAdd, Int.reduceMul, Int.reduceSub, Int.reduceNeg, Int.zero_add, Int.add_zero, hF.c]) (by simp (disch := omega) only [true_and, and_true, sM_ne, sM_eq, sM_neR, sM_eqR, sK_upM, sK_upR, sL_upM, sL_upR, sN_upM, sN_upR, sT_upM, sT_upR, sN_upM, Int.reduceAdd, Int.reduceMul, Int.reduceSub, Int.reduceNeg, Int.zero_add, Int.add_zero, hF.c]; omega) (e19 ()) ?_
          refine rt_neg c2 (rt_jn (rt_pos rfl ?_))
          refine rt_gx (x := 4) (by simp (disch := omega) only [true_and, and_true, sM_ne, sM_eq, sM_neR, sM_eqR, sK_upM, sK_upR, sL_upM, sL_upR, sN_upM, sN_upR, sT_upM, sT_upR, sN_upM, Int.reduceAdd, Int.reduceMul, Int.reduceSub, Int.reduceNeg, Int.zero_add, Int.add_zero, hF.c]) (by simp (disch := omega) only [true_and, and_true, sM_ne, sM_eq, sM_neR, sM_eqR, sK_upM, sK_upR, sL_upM, sL_upR, sN_upM, sN_upR, sT_upM, sT_upR, sN_upM, Int.reduceAdd, Int.reduceMul, Int.reduceSub, Int.reduceNeg, Int.zero_add, Int.add_zero, hF.c]) ?_
          exact wait (Or.inr ⟨c2, c1⟩)
theorem l_wt9 {w n k : Int} {ch so : Int → Int} {ln rt : Int → Int → Int} {s : ZS} (hV : MV s w n k ch so ln rt) (hG : Gos s n k ch so ln rt) :
    ∀ (N c : Nat), (c : Int) ≤ n → n - (c : Int) < (N : Int) → Rt (lX12_waited_9 64 w N s (sumI (wt2 n k ch so ln rt) c) (c : Int)) (fun v τ => v = sumI (wt2 n k ch so ln rt) n.toNat ∧ τ = s)
  | 0, c, h1, h2 => by omega
  | N + 1, c, h1, h2 => by
    have hV0 := hV
    obtain ⟨hF, w1, ⟨k0, k5, kk⟩, ⟨n1, n2, n3⟩, -⟩ := hV
    replace n1 := hd n1
    rw [lX12_waited_9]
    repeat (first
    | with_reducible refine rt_b ?_
    | with_reducible refine rt_jn ?_
    | ((with_reducible refine rt_pos ?_ ?_); (· first | omega | ((try simp (disch := omega) only [wr, true_and, and_true, sM_ne, sM_eq, sM_neR, sM_eqR, sK_upM, sK_upR, sL_upM, sL_upR, sN_upM, sN_upR, sT_upM, sT_upR, sN_upM, Int.reduceAdd, Int.reduceMul, Int.reduceSub, Int.reduceNeg, Int.zero_add, Int.add_zero, hF.c, n1 ()]) <;> omega)))
    | ((with_reducible refine rt_neg ?_ ?_); (· first | omega | ((try simp (disch := omega) only [wr, true_and, and_true, sM_ne, sM_eq, sM_neR, sM_eqR, sK_upM, sK_upR, sL_upM, sL_upR, sN_upM, sN_upR, sT_upM, sT_upR, sN_upM, Int.reduceAdd, Int.reduceMul, Int.reduceSub, Int.reduceNeg, Int.zero_add, Int.add_zero, hF.c, n1 ()]) <;> omega)))
    | ((with_reducible refine rt_v ?_ ?_); · simp (disch := omega) only [true_and, and_true, sM_ne, sM_eq, sM_neR, sM_eqR, sK_upM, sK_upR, sL_upM, sL_upR, sN_upM, sN_upR, sT_upM, sT_upR, sN_upM, Int.reduceAdd, Int.reduceMul, Int.reduceSub, Int.reduceNeg, Int.zero_add, Int.add_zero, hF.c, n1 ()])
    | ((with_reducible apply rt_gx); (· simp (disch := omega) only [true_and, and_true, sM_ne, sM_eq, sM_neR, sM_eqR, sK_upM, sK_upR, sL_upM, sL_upR, sN_upM, sN_upR, sT_upM, sT_upR, sN_upM, Int.reduceAdd, Int.reduceMul, Int.reduceSub, Int.reduceNeg, Int.zero_add, Int.add_zero, hF.c, n1 ()]); (· (try simp (disch := omega) only [wr, true_and, and_true, sM_ne, sM_eq, sM_neR, sM_eqR, sK_upM, sK_upR, sL_upM, sL_upR, sN_upM, sN_upR, sT_upM, sT_upR, sN_upM, Int.reduceAdd, Int.reduceMul, Int.reduceSub, Int.reduceNeg, Int.zero_add, Int.add_zero, hF.c, n1 ()]); exact rfl))
    | ((with_reducible apply rt_alx); (· simp (disch := omega) only [true_and, and_true, sM_ne, sM_eq, sM_neR, sM_eqR, sK_upM, sK_upR, sL_upM, sL_upR, sN_upM, sN_upR, sT_upM, sT_upR, sN_upM, Int.reduceAdd, Int.reduceMul, Int.reduceSub, Int.reduceNeg, Int.zero_add, Int.add_zero, hF.c, n1 ()]); (· first | omega | ((try simp (disch := omega) only [wr, true_and, and_true, sM_ne, sM_eq, sM_neR, sM_eqR, sK_upM, sK_upR, sL_upM, sL_upR, sN_upM, sN_upR, sT_upM, sT_upR, sN_upM, Int.reduceAdd, Int.reduceMul, Int.reduceSub, Int.reduceNeg, Int.zero_add, Int.add_zero, hF.c, n1 ()]) <;> omega)); (· (try simp (disch := omega) only [wr, true_and, and_true, sM_ne, sM_eq, sM_neR, sM_eqR, sK_upM, sK_upR, sL_upM, sL_upR, sN_upM, sN_upR, sT_upM, sT_upR, sN_upM, Int.reduceAdd, Int.reduceMul, Int.reduceSub, Int.reduceNeg, Int.zero_add, Int.add_zero, hF.c, n1 ()]); exact rfl))
    | ((with_reducible refine rt_as ?_ ?_ ?_); (· simp (disch := omega) only [true_and, and_true, sM_ne, sM_eq, sM_neR, sM_eqR, sK_upM, sK_upR, sL_upM, sL_upR, sN_upM, sN_upR, sT_upM, sT_upR, sN_upM, Int.reduceAdd, Int.reduceMul, Int.reduceSub, Int.reduceNeg, Int.zero_add, Int.add_zero, hF.c, n1 ()]); (· first | omega | ((try simp (disch := omega) only [wr, true_and, and_true, sM_ne, sM_eq, sM_neR, sM_eqR, sK_upM, sK_upR, sL_upM, sL_upR, sN_upM, sN_upR, sT_upM, sT_upR, sN_upM, Int.reduceAdd, Int.reduceMul, Int.reduceSub, Int.reduceNeg, Int.zero_add, Int.add_zero, hF.c, n1 ()]) <;> omega)))
    | ((with_reducible refine rt_p ?_ ?_ ?_); (· simp (disch := omega) only [true_and, and_true, sM_ne, sM_eq, sM_neR, sM_eqR, sK_upM, sK_upR, sL_upM, sL_upR, sN_upM, sN_upR, sT_upM, sT_upR, sN_upM, Int.reduceAdd, Int.reduceMul, Int.reduceSub, Int.reduceNeg, Int.zero_add, Int.add_zero, hF.c, n1 ()]); (· omega))
    | with_reducible refine rt_ret ?_
    | ((with_reducible apply rt_gwx); (· assumption); (· (try simp (disch := omega) only [wr, true_and, and_true, sM_ne, sM_eq, sM_neR, sM_eqR, sK_upM, sK_upR, sL_upM, sL_upR, sN_upM, sN_upR, sT_upM, sT_upR, sN_upM, Int.reduceAdd, Int.reduceMul, Int.reduceSub, Int.reduceNeg, Int.zero_add, Int.add_zero, hF.c, n1 ()]); exact rfl)))
    by_cases he : n ≤ (c : Int)
    · refine rt_pos he (rt_ret ⟨?_, rfl⟩)
      rw [show n.toNat = c by omega]
    · refine rt_neg he ?_
      have hcm := hV0.cm (c := (c : Int)) (by omega) (by omega)
      have hps := pasA_in (n := n) (k := k) (rt := rt) hcm
      have e18 := hd (hG.1 (c : Int) (by omega) (by omega))
      have e19 := hd (hG.2.1 (c : Int) (by omega) (by omega))
      have hs := hd (show sumI (wt2 n k ch so ln rt) (c + 1) = wrap (sumI (wt2 n k ch so ln rt) c + (if cmO ln so ch (c : Int) = -1 then 0 else if pasA n k ch so ln rt (c : Int) = -1 then 24 else pasA n k ch so ln rt (c : Int) - cmO ln so ch (c : Int))) from rfl)
      have next : ∀ v : Int, v = sumI (wt2 n k ch so ln rt) (c + 1) → Rt (lX12_waited_9 64 w N s v (wrap ((c : Int) + 1))) (fun v τ => v = sumI (wt2 n k ch so ln rt) n.toNat ∧ τ = s) := by
        intro v hv
        rw [hv, wr1 c (by omega)]
        exact l_wt9 hV0 hG N (c + 1) (by omega) (by omega)
      generalize sumI (wt2 n k ch so ln rt) c = A at *
      generalize pasA n k ch so ln rt (c : Int) = ps at *
      generalize cmO ln so ch (c : Int) = cm at *
      refine rt_gx (x := 89) (by simp (disch := omega) only [true_and, and_true, sM_ne, sM_eq, sM_neR, sM_eqR, sK_upM, sK_upR, sL_upM, sL_upR, sN_upM, sN_upR, sT_upM, sT_upR, sN_upM, Int.reduceAdd, Int.reduceMul, Int.reduceSub, Int.reduceNeg, Int.zero_add, Int.add_zero, hF.c]) (by simp (disch := omega) only [true_and, and_true, sM_ne, sM_eq, sM_neR, sM_eqR, sK_upM, sK_upR, sL_upM, sL_upR, sN_upM, sN_upR, sT_upM, sT_upR, sN_upM, Int.reduceAdd, Int.reduceMul, Int.reduceSub, Int.reduceNeg, Int.zero_add, Int.add_zero, hF.c]) ?_
      refine rt_alx (x := cm) (by simp (disch := omega) only [true_and, and_true, sM_ne, sM_eq, sM_neR, sM_eqR, sK_upM, sK_upR, sL_upM, sL_upR, sN_upM, sN_upR, sT_upM, sT_upR, sN_upM, Int.reduceAdd, Int.reduceMul, Int.reduceSub, Int.reduceNeg, Int.zero_add, Int.add_zero, hF.c]) (by simp (disch := omega) only [true_and, and_true, sM_ne, sM_eq, sM_neR, sM_eqR, sK_upM, sK_upR, sL_upM, sL_upR, sN_upM, sN_upR, sT_upM, sT_upR, sN_upM, Int.reduceAdd, Int.reduceMul, Int.reduceSub, Int.reduceNeg, Int.zero_add, Int.add_zero, hF.c]; omega) (e18 ()) ?_
      by_cases c1 : cm = -1
      · refine rt_jn (rt_pos c1 ?_)
        exact next _ (by rw [hs (), if_pos c1])
      · refine rt_jn (rt_neg c1 ?_)
        refine rt_gx (x := 90) (by simp (disch := omega) only [true_and, and_true, sM_ne, sM_eq, sM_neR, sM_eqR, sK_upM, sK_upR, sL_upM, sL_upR, sN_upM, sN_upR, sT_upM, sT_upR, sN_upM, Int.reduceAdd, Int.reduceMul, Int.reduceSub, Int.reduceNeg, Int.zero_add, Int.add_zero, hF.c]) (by simp (disch := omega) only [true_and, and_true, sM_ne, sM_eq, sM_neR, sM_eqR, sK_upM, sK_upR, sL_upM, sL_upR, sN_upM, sN_upR, sT_upM, sT_upR, sN_upM, Int.reduceAdd, Int.reduceMul, Int.reduceSub, Int.reduceNeg, Int.zero_add, Int.add_zero, hF.c]) ?_
        refine rt_alx (x := ps) (by simp (disch := omega) only [true_and, and_true, sM_ne, sM_eq, sM_neR, sM_eqR, sK_upM, sK_upR, sL_upM, sL_upR, sN_upM, sN_upR, sT_upM, sT_upR, sN_upM, Int.reduceAdd, Int.reduceMul, Int.reduceSub, Int.reduceNeg, Int.zero_add, Int.add_zero, hF.c]) (by simp (disch := omega) only [true_and, and_true, sM_ne, sM_eq, sM_neR, sM_eqR, sK_upM, sK_upR, sL_upM, sL_upR, sN_upM, sN_upR, sT_upM, sT_upR, sN_upM, Int.reduceAdd, Int.reduceMul, Int.reduceSub, Int.reduceNeg, Int.zero_add, Int.add_zero, hF.c]; omega) (e19 ()) ?_
        by_cases c2 : ps = -1
        · refine rt_pos c2 ?_
          exact next _ (by rw [hs (), if_neg c1, if_pos c2])
        · refine rt_neg c2 ?_
          refine rt_gx (x := 90) (by simp (disch := omega) only [true_and, and_true, sM_ne, sM_eq, sM_neR, sM_eqR, sK_upM, sK_upR, sL_upM, sL_upR, sN_upM, sN_upR, sT_upM, sT_upR, sN_upM, Int.reduceAdd, Int.reduceMul, Int.reduceSub, Int.reduceNeg, Int.zero_add, Int.add_zero, hF.c]) (by simp (disch := omega) only [true_and, and_true, sM_ne, sM_eq, sM_neR, sM_eqR, sK_upM, sK_upR, sL_upM, sL_upR, sN_upM, sN_upR, sT_upM, sT_upR, sN_upM, Int.reduceAdd, Int.reduceMul, Int.reduceSub, Int.reduceNeg, Int.zero_add, Int.add_zero, hF.c]) ?_
          refine rt_alx (x := ps) (by simp (disch := omega) only [true_and, and_true, sM_ne, sM_eq, sM_neR, sM_eqR, sK_upM, sK_upR, sL_upM, sL_upR, sN_upM, sN_upR, sT_upM, sT_upR, sN_upM, Int.reduceAdd, Int.reduceMul, Int.reduceSub, Int.reduceNeg, Int.zero_add, Int.add_zero, hF.c]) (by simp (disch := omega) only [true_and, and_true, sM_ne, sM_eq, sM_neR, sM_eqR, sK_upM, sK_upR, sL_upM, sL_upR, sN_upM, sN_upR, sT_upM, sT_upR, sN_upM, Int.reduceAdd, Int.reduceMul, Int.reduceSub, Int.reduceNeg, Int.zero_add, Int.add_zero, hF.c]; omega) (e19 ()) ?_
          refine rt_gx (x := 89) (by simp (disch := omega) only [true_and, and_true, sM_ne, sM_eq, sM_neR, sM_eqR, sK_upM, sK_upR, sL_upM, sL_upR, sN_upM, sN_upR, sT_upM, sT_upR, sN_upM, Int.reduceAdd, Int.reduceMul, Int.reduceSub, Int.reduceNeg, Int.zero_add, Int.add_zero, hF.c]) (by simp (disch := omega) only [true_and, and_true, sM_ne, sM_eq, sM_neR, sM_eqR, sK_upM, sK_upR, sL_upM, sL_upR, sN_upM, sN_upR, sT_upM, sT_upR, sN_upM, Int.reduceAdd, Int.reduceMul, Int.reduceSub, Int.reduceNeg, Int.zero_add, Int.add_zero, hF.c]) ?_
          refine rt_alx (x := cm) (by simp (disch := omega) only [true_and, and_true, sM_ne, sM_eq, sM_neR, sM_eqR, sK_upM, sK_upR, sL_upM, sL_upR, sN_upM, sN_upR, sT_upM, sT_upR, sN_upM, Int.reduceAdd, Int.reduceMul, Int.reduceSub, Int.reduceNeg, Int.zero_add, Int.add_zero, hF.c]) (by simp (disch := omega) only [true_and, and_true, sM_ne, sM_eq, sM_neR, sM_eqR, sK_upM, sK_upR, sL_upM, sL_upR, sN_upM, sN_upR, sT_upM, sT_upR, sN_upM, Int.reduceAdd, Int.reduceMul, Int.reduceSub, Int.reduceNeg, Int.zero_add, Int.add_zero, hF.c]; omega) (e18 ()) ?_
          refine next _ ?_
          rw [hs (), if_neg c1, if_neg c2, wr (x := ps - cm) (by omega) (by omega)]
def mvA (n k : Int) (ch so : Int → Int) (ln rt tl : Int → Int → Int) (st wi : Int → Int) (cs : List Int) (a : Int) : Int → Int := if a ≤ 0 then ch else mvF n k ch so ln rt tl st wi cs
theorem f_wbt {σ : ZS} {W n k T : Int} {ch so : Int → Int} {ln rt tl : Int → Int → Int} {st wi : Int → Int} {cs ls : List Int} (hV : LV σ W n k ch so ln rt) (hC : CV σ T tl st wi cs ls) (hT : TV σ T) (hs : Sep σ W T) {g t u a : Int} (g0 : 0 ≤ g) (g1 : g < 2) (t0 : 0 ≤ t) (t1 : t < 24) (u0 : 0 ≤ u) (u1 : u ≤ 99) : Rt (fX11_waitedByToll σ 3 W g t u a) (fun v τ => v = sumI (wt2 n k (mvA n k ch so ln rt (upd2 tl g t u) st wi cs a) so ln rt) n.toNat ∧ Ch (fun b i => lnS b i ∨ b = 54) σ τ) := by
  have hV0 := hV
  obtain ⟨hF, ⟨wg, w2⟩, ⟨k0, k5, kk⟩, ⟨n1, n2, n3⟩, p1, ⟨q1, q2⟩, a1, -⟩ := hV
  have h9 := hF.2.2.2
  have hwk : wkn σ W := wk_w kk k0 k5
  have tlh := hd (hC.1 g t g0 g1 t0 t1).1
  replace p1 := hd p1
  replace q1 := hd q1
  replace q2 := hd q2
  clear n1
  unfold fX11_waitedByToll
  repeat (first
    | with_reducible refine rt_b ?_
    | with_reducible refine rt_jn ?_
    | ((with_reducible refine rt_pos ?_ ?_); (· first | omega | ((try simp (disch := omega) only [wr, true_and, and_true, sM_ne, sM_eq, sM_neR, sM_eqR, sK_upM, sK_upR, sL_upM, sL_upR, sN_upM, sN_upR, sT_upM, sT_upR, sN_upM, Int.reduceAdd, Int.reduceMul, Int.reduceSub, Int.reduceNeg, Int.zero_add, Int.add_zero, hF.c, tlh (), p1 ()]) <;> omega)))
    | ((with_reducible refine rt_neg ?_ ?_); (· first | omega | ((try simp (disch := omega) only [wr, true_and, and_true, sM_ne, sM_eq, sM_neR, sM_eqR, sK_upM, sK_upR, sL_upM, sL_upR, sN_upM, sN_upR, sT_upM, sT_upR, sN_upM, Int.reduceAdd, Int.reduceMul, Int.reduceSub, Int.reduceNeg, Int.zero_add, Int.add_zero, hF.c, tlh (), p1 ()]) <;> omega)))
    | ((with_reducible refine rt_v ?_ ?_); · simp (disch := omega) only [true_and, and_true, sM_ne, sM_eq, sM_neR, sM_eqR, sK_upM, sK_upR, sL_upM, sL_upR, sN_upM, sN_upR, sT_upM, sT_upR, sN_upM, Int.reduceAdd, Int.reduceMul, Int.reduceSub, Int.reduceNeg, Int.zero_add, Int.add_zero, hF.c, tlh (), p1 ()])
    | ((with_reducible apply rt_gx); (· simp (disch := omega) only [true_and, and_true, sM_ne, sM_eq, sM_neR, sM_eqR, sK_upM, sK_upR, sL_upM, sL_upR, sN_upM, sN_upR, sT_upM, sT_upR, sN_upM, Int.reduceAdd, Int.reduceMul, Int.reduceSub, Int.reduceNeg, Int.zero_add, Int.add_zero, hF.c, tlh (), p1 ()]); (· (try simp (disch := omega) only [wr, true_and, and_true, sM_ne, sM_eq, sM_neR, sM_eqR, sK_upM, sK_upR, sL_upM, sL_upR, sN_upM, sN_upR, sT_upM, sT_upR, sN_upM, Int.reduceAdd, Int.reduceMul, Int.reduceSub, Int.reduceNeg, Int.zero_add, Int.add_zero, hF.c, tlh (), p1 ()]); exact rfl))
    | ((with_reducible apply rt_alx); (· simp (disch := omega) only [true_and, and_true, sM_ne, sM_eq, sM_neR, sM_eqR, sK_upM, sK_upR, sL_upM, sL_upR, sN_upM, sN_upR, sT_upM, sT_upR, sN_upM, Int.reduceAdd, Int.reduceMul, Int.reduceSub, Int.reduceNeg, Int.zero_add, Int.add_zero, hF.c, tlh (), p1 ()]); (· first | omega | ((try simp (disch := omega) only [wr, true_and, and_true, sM_ne, sM_eq, sM_neR, sM_eqR, sK_upM, sK_upR, sL_upM, sL_upR, sN_upM, sN_upR, sT_upM, sT_upR, sN_upM, Int.reduceAdd, Int.reduceMul, Int.reduceSub, Int.reduceNeg, Int.zero_add, Int.add_zero, hF.c, tlh (), p1 ()]) <;> omega)); (· (try simp (disch := omega) only [wr, true_and, and_true, sM_ne, sM_eq, sM_neR, sM_eqR, sK_upM, sK_upR, sL_upM, sL_upR, sN_upM, sN_upR, sT_upM, sT_upR, sN_upM, Int.reduceAdd, Int.reduceMul, Int.reduceSub, Int.reduceNeg, Int.zero_add, Int.add_zero, hF.c, tlh (), p1 ()]); exact rfl))
    | ((with_reducible refine rt_as ?_ ?_ ?_); (· simp (disch := omega) only [true_and, and_true, sM_ne, sM_eq, sM_neR, sM_eqR, sK_upM, sK_upR, sL_upM, sL_upR, sN_upM, sN_upR, sT_upM, sT_upR, sN_upM, Int.reduceAdd, Int.reduceMul, Int.reduceSub, Int.reduceNeg, Int.zero_add, Int.add_zero, hF.c, tlh (), p1 ()]); (· first | omega | ((try simp (disch := omega) only [wr, true_and, and_true, sM_ne, sM_eq, sM_neR, sM_eqR, sK_upM, sK_upR, sL_upM, sL_upR, sN_upM, sN_upR, sT_upM, sT_upR, sN_upM, Int.reduceAdd, Int.reduceMul, Int.reduceSub, Int.reduceNeg, Int.zero_add, Int.add_zero, hF.c, tlh (), p1 ()]) <;> omega)))
    | ((with_reducible refine rt_p ?_ ?_ ?_); (· simp (disch := omega) only [true_and, and_true, sM_ne, sM_eq, sM_neR, sM_eqR, sK_upM, sK_upR, sL_upM, sL_upR, sN_upM, sN_upR, sT_upM, sT_upR, sN_upM, Int.reduceAdd, Int.reduceMul, Int.reduceSub, Int.reduceNeg, Int.zero_add, Int.add_zero, hF.c, tlh (), p1 ()]); (· omega))
    | with_reducible refine rt_ret ?_
    | ((with_reducible apply rt_gwx); (· assumption); (· (try simp (disch := omega) only [wr, true_and, and_true, sM_ne, sM_eq, sM_neR, sM_eqR, sK_upM, sK_upR, sL_upM, sL_upR, sN_upM, sN_upR, sT_upM, sT_upR, sN_upM, Int.reduceAdd, Int.reduceMul, Int.reduceSub, Int.reduceNeg, Int.zero_add, Int.add_zero, hF.c, tlh (), p1 ()]); exact rfl)))
  refine rt_cp (q1 ()) (by simp (disch := omega) only [true_and, and_true, sM_ne, sM_eq, sM_neR, sM_eqR, sK_upM, sK_upR, sL_upM, sL_upR, sN_upM, sN_upR, sT_upM, sT_upR, sN_upM, Int.reduceAdd, Int.reduceMul, Int.reduceSub, Int.reduceNeg, Int.zero_add, Int.add_zero, hF.c]) (by rw [q2 ()]; simp (disch := omega) only [true_and, and_true, sM_ne, sM_eq, sM_neR, sM_eqR, sK_upM, sK_upR, sL_upM, sL_upR, sN_upM, sN_upR, sT_upM, sT_upR, sN_upM, Int.reduceAdd, Int.reduceMul, Int.reduceSub, Int.reduceNeg, Int.zero_add, Int.add_zero, hF.c]; omega) ?_
  have hc1 : Ch (fun b _ => b = 54) σ (upR σ 54 (fun k => if 0 ≤ k ∧ k < 0 + 16 then sM σ (W + 1) (0 + (k - 0)) else sM σ 54 k)) := Ch.rf.upR (fun _ => rfl)
  have h54 : ∀ i : Int, 0 ≤ i → i < 16 → sM (upR σ 54 (fun k => if 0 ≤ k ∧ k < 0 + 16 then sM σ (W + 1) (0 + (k - 0)) else sM σ 54 k)) 54 i = sM σ (W + 1) i := by
    intro i i0 i1
    rw [sM_eqR rfl, if_pos (by omega)]
    congr 1
    omega
  generalize upR σ 54 (fun k => if 0 ≤ k ∧ k < 0 + 16 then sM σ (W + 1) (0 + (k - 0)) else sM σ 54 k) = σ1 at hc1 h54 ⊢
  have hV1 := hV0.chs (ch' := ch) hc1 (fun a i q => Or.inr (Or.inr q)) (fun i i0 i1 => by rw [hc1.M (by omega) (by omega)]; exact a1 i i0 i1)
  obtain ⟨hC1, hT1, hs1⟩ := keepC hV0 hC hT hs hc1 (fun a i q => Or.inr (Or.inr q))
  have hF1 := hV1.1
  have h91 := hF1.2.2.2
  repeat (first
    | with_reducible refine rt_b ?_
    | with_reducible refine rt_jn ?_
    | ((with_reducible refine rt_pos ?_ ?_); (· first | omega | ((try simp (disch := omega) only [wr, true_and, and_true, sM_ne, sM_eq, sM_neR, sM_eqR, sK_upM, sK_upR, sL_upM, sL_upR, sN_upM, sN_upR, sT_upM, sT_upR, sN_upM, Int.reduceAdd, Int.reduceMul, Int.reduceSub, Int.reduceNeg, Int.zero_add, Int.add_zero, hF1.c]) <;> omega)))
    | ((with_reducible refine rt_neg ?_ ?_); (· first | omega | ((try simp (disch := omega) only [wr, true_and, and_true, sM_ne, sM_eq, sM_neR, sM_eqR, sK_upM, sK_upR, sL_upM, sL_upR, sN_upM, sN_upR, sT_upM, sT_upR, sN_upM, Int.reduceAdd, Int.reduceMul, Int.reduceSub, Int.reduceNeg, Int.zero_add, Int.add_zero, hF1.c]) <;> omega)))
    | ((with_reducible refine rt_v ?_ ?_); · simp (disch := omega) only [true_and, and_true, sM_ne, sM_eq, sM_neR, sM_eqR, sK_upM, sK_upR, sL_upM, sL_upR, sN_upM, sN_upR, sT_upM, sT_upR, sN_upM, Int.reduceAdd, Int.reduceMul, Int.reduceSub, Int.reduceNeg, Int.zero_add, Int.add_zero, hF1.c])
    | ((with_reducible apply rt_gx); (· simp (disch := omega) only [true_and, and_true, sM_ne, sM_eq, sM_neR, sM_eqR, sK_upM, sK_upR, sL_upM, sL_upR, sN_upM, sN_upR, sT_upM, sT_upR, sN_upM, Int.reduceAdd, Int.reduceMul, Int.reduceSub, Int.reduceNeg, Int.zero_add, Int.add_zero, hF1.c]); (· (try simp (disch := omega) only [wr, true_and, and_true, sM_ne, sM_eq, sM_neR, sM_eqR, sK_upM, sK_upR, sL_upM, sL_upR, sN_upM, sN_upR, sT_upM, sT_upR, sN_upM, Int.reduceAdd, Int.reduceMul, Int.reduceSub, Int.reduceNeg, Int.zero_add, Int.add_zero, hF1.c]); exact rfl))
    | ((with_reducible apply rt_alx); (· simp (disch := omega) only [true_and, and_true, sM_ne, sM_eq, sM_neR, sM_eqR, sK_upM, sK_upR, sL_upM, sL_upR, sN_upM, sN_upR, sT_upM, sT_upR, sN_upM, Int.reduceAdd, Int.reduceMul, Int.reduceSub, Int.reduceNeg, Int.zero_add, Int.add_zero, hF1.c]); (· first | omega | ((try simp (disch := omega) only [wr, true_and, and_true, sM_ne, sM_eq, sM_neR, sM_eqR, sK_upM, sK_upR, sL_upM, sL_upR, sN_upM, sN_upR, sT_upM, sT_upR, sN_upM, Int.reduceAdd, Int.reduceMul, Int.reduceSub, Int.reduceNeg, Int.zero_add, Int.add_zero, hF1.c]) <;> omega)); (· (try simp (disch := omega) only [wr, true_and, and_true, sM_ne, sM_eq, sM_neR, sM_eqR, sK_upM, sK_upR, sL_upM, sL_upR, sN_upM, sN_upR, sT_upM, sT_upR, sN_upM, Int.reduceAdd, Int.reduceMul, Int.reduceSub, Int.reduceNeg, Int.zero_add, Int.add_zero, hF1.c]); exact rfl))
    | ((with_reducible refine rt_as ?_ ?_ ?_); (· simp (disch := omega) only [true_and, and_true, sM_ne, sM_eq, sM_neR, sM_eqR, sK_upM, sK_upR, sL_upM, sL_upR, sN_upM, sN_upR, sT_upM, sT_upR, sN_upM, Int.reduceAdd, Int.reduceMul, Int.reduceSub, Int.reduceNeg, Int.zero_add, Int.add_zero, hF1.c]); (· first | omega | ((try simp (disch := omega) only [wr, true_and, and_true, sM_ne, sM_eq, sM_neR, sM_eqR, sK_upM, sK_upR, sL_upM, sL_upR, sN_upM, sN_upR, sT_upM, sT_upR, sN_upM, Int.reduceAdd, Int.reduceMul, Int.reduceSub, Int.reduceNeg, Int.zero_add, Int.add_zero, hF1.c]) <;> omega)))
    | ((with_reducible refine rt_p ?_ ?_ ?_); (· simp (disch := omega) only [true_and, and_true, sM_ne, sM_eq, sM_neR, sM_eqR, sK_upM, sK_upR, sL_upM, sL_upR, sN_upM, sN_upR, sT_upM, sT_upR, sN_upM, Int.reduceAdd, Int.reduceMul, Int.reduceSub, Int.reduceNeg, Int.zero_add, Int.add_zero, hF1.c]); (· omega))
    | with_reducible refine rt_ret ?_
    | ((with_reducible apply rt_gwx); (· assumption); (· (try simp (disch := omega) only [wr, true_and, and_true, sM_ne, sM_eq, sM_neR, sM_eqR, sK_upM, sK_upR, sL_upM, sL_upR, sN_upM, sN_upR, sT_upM, sT_upR, sN_upM, Int.reduceAdd, Int.reduceMul, Int.reduceSub, Int.reduceNeg, Int.zero_add, Int.add_zero, hF1.c]); exact rfl)))
  have hc2 : Ch (fun b i => b = 10 + g ∧ i = t) σ1 (upM σ1 (10 + g) t u) := Ch.rf.up ⟨rfl, rfl⟩
  have hSS : ∀ b i, (b = 10 + g ∧ i = t) → alS W b i := fun b i q => by unfold alS; omega
  have hV2 := hV1.alt (ch' := ch) (rt' := rt) hc2 hSS (fun y y0 y1 => by rw [sM_ne (by omega)]; exact hV1.2.2.2.2.2.2.1 y y0 y1) (fun g' t' a0 a1 b0 b1 => by rw [sM_ne (by omega)]; exact hV1.2.2.2.2.2.2.2.2.2 g' t' a0 a1 b0 b1)
  obtain ⟨hC2, hs2⟩ := hC1.alt (tl' := upd2 tl g t u) (wi' := wi) hF1 wg hs1 hc2 hSS (fun g' t' a0 a1 b0 b1 => by
    by_cases e : g' = g ∧ t' = t
    · obtain ⟨rfl, rfl⟩ := e
      rw [sM_eq ⟨rfl, rfl⟩, upd2_eq]
      exact ⟨rfl, u0, u1⟩
    · rw [sM_ne (by omega), upd2_ne e]
      exact hC1.1 g' t' a0 a1 b0 b1) (fun s s0 s1 => by rw [sM_ne (by omega), sM_ne (by omega)]; exact hC1.2.2.1 s s0 s1)
  have hT2 := hT1.alt hF1 wg hc2 hSS
  generalize upM σ1 (10 + g) t u = σ2 at hc2 hV2 hC2 hs2 hT2 ⊢
  have rest : ∀ (σ3 : ZS) (ch3 : Int → Int), Ch (mvS W n) σ2 σ3 → LV σ3 W n k ch3 so ln rt → Rt ((zg σ3 11 3 0).bind (fun v17 => zb (zv σ3 2 v17 (fX2_follow σ3 v17 W)) (fun v18 s19 => lX11_waitedByToll_66 3 W g t (tl g t) (fun (s51 : ZS) (x52 : Int) => (zg s51 11 3 1).bind (fun v53 => (zg s51 5 v53 1).bind (fun v54 => (zal s51 102 v54 g).bind (fun v55 => (zas s51 100 v55 t (tl g t)).bind (fun s56 => (zg s56 11 3 14).bind (fun v57 => (zgw s56 W 1).bind (fun v58 => (zcp s56 v57 0 v58 0 16).bind (fun s59 => some (x52, s59))))))))) 1000 s19 0 0))) (fun v τ => v = sumI (wt2 n k ch3 so ln rt) n.toNat ∧ Ch (fun b i => lnS b i ∨ b = 54) σ τ) := by
    intro σ3 ch3 hc3 hV3
    have hF3 := hV3.1
    repeat (first
    | with_reducible refine rt_b ?_
    | with_reducible refine rt_jn ?_
    | ((with_reducible refine rt_pos ?_ ?_); (· first | omega | ((try simp (disch := omega) only [wr, true_and, and_true, sM_ne, sM_eq, sM_neR, sM_eqR, sK_upM, sK_upR, sL_upM, sL_upR, sN_upM, sN_upR, sT_upM, sT_upR, sN_upM, Int.reduceAdd, Int.reduceMul, Int.reduceSub, Int.reduceNeg, Int.zero_add, Int.add_zero, hF3.c]) <;> omega)))
    | ((with_reducible refine rt_neg ?_ ?_); (· first | omega | ((try simp (disch := omega) only [wr, true_and, and_true, sM_ne, sM_eq, sM_neR, sM_eqR, sK_upM, sK_upR, sL_upM, sL_upR, sN_upM, sN_upR, sT_upM, sT_upR, sN_upM, Int.reduceAdd, Int.reduceMul, Int.reduceSub, Int.reduceNeg, Int.zero_add, Int.add_zero, hF3.c]) <;> omega)))
    | ((with_reducible refine rt_v ?_ ?_); · simp (disch := omega) only [true_and, and_true, sM_ne, sM_eq, sM_neR, sM_eqR, sK_upM, sK_upR, sL_upM, sL_upR, sN_upM, sN_upR, sT_upM, sT_upR, sN_upM, Int.reduceAdd, Int.reduceMul, Int.reduceSub, Int.reduceNeg, Int.zero_add, Int.add_zero, hF3.c])
    | ((with_reducible apply rt_gx); (· simp (disch := omega) only [true_and, and_true, sM_ne, sM_eq, sM_neR, sM_eqR, sK_upM, sK_upR, sL_upM, sL_upR, sN_upM, sN_upR, sT_upM, sT_upR, sN_upM, Int.reduceAdd, Int.reduceMul, Int.reduceSub, Int.reduceNeg, Int.zero_add, Int.add_zero, hF3.c]); (· (try simp (disch := omega) only [wr, true_and, and_true, sM_ne, sM_eq, sM_neR, sM_eqR, sK_upM, sK_upR, sL_upM, sL_upR, sN_upM, sN_upR, sT_upM, sT_upR, sN_upM, Int.reduceAdd, Int.reduceMul, Int.reduceSub, Int.reduceNeg, Int.zero_add, Int.add_zero, hF3.c]); exact rfl))
    | ((with_reducible apply rt_alx); (· simp (disch := omega) only [true_and, and_true, sM_ne, sM_eq, sM_neR, sM_eqR, sK_upM, sK_upR, sL_upM, sL_upR, sN_upM, sN_upR, sT_upM, sT_upR, sN_upM, Int.reduceAdd, Int.reduceMul, Int.reduceSub, Int.reduceNeg, Int.zero_add, Int.add_zero, hF3.c]); (· first | omega | ((try simp (disch := omega) only [wr, true_and, and_true, sM_ne, sM_eq, sM_neR, sM_eqR, sK_upM, sK_upR, sL_upM, sL_upR, sN_upM, sN_upR, sT_upM, sT_upR, sN_upM, Int.reduceAdd, Int.reduceMul, Int.reduceSub, Int.reduceNeg, Int.zero_add, Int.add_zero, hF3.c]) <;> omega)); (· (try simp (disch := omega) only [wr, true_and, and_true, sM_ne, sM_eq, sM_neR, sM_eqR, sK_upM, sK_upR, sL_upM, sL_upR, sN_upM, sN_upR, sT_upM, sT_upR, sN_upM, Int.reduceAdd, Int.reduceMul, Int.reduceSub, Int.reduceNeg, Int.zero_add, Int.add_zero, hF3.c]); exact rfl))
    | ((with_reducible refine rt_as ?_ ?_ ?_); (· simp (disch := omega) only [true_and, and_true, sM_ne, sM_eq, sM_neR, sM_eqR, sK_upM, sK_upR, sL_upM, sL_upR, sN_upM, sN_upR, sT_upM, sT_upR, sN_upM, Int.reduceAdd, Int.reduceMul, Int.reduceSub, Int.reduceNeg, Int.zero_add, Int.add_zero, hF3.c]); (· first | omega | ((try simp (disch := omega) only [wr, true_and, and_true, sM_ne, sM_eq, sM_neR, sM_eqR, sK_upM, sK_upR, sL_upM, sL_upR, sN_upM, sN_upR, sT_upM, sT_upR, sN_upM, Int.reduceAdd, Int.reduceMul, Int.reduceSub, Int.reduceNeg, Int.zero_add, Int.add_zero, hF3.c]) <;> omega)))
    | ((with_reducible refine rt_p ?_ ?_ ?_); (· simp (disch := omega) only [true_and, and_true, sM_ne, sM_eq, sM_neR, sM_eqR, sK_upM, sK_upR, sL_upM, sL_upR, sN_upM, sN_upR, sT_upM, sT_upR, sN_upM, Int.reduceAdd, Int.reduceMul, Int.reduceSub, Int.reduceNeg, Int.zero_add, Int.add_zero, hF3.c]); (· omega))
    | with_reducible refine rt_ret ?_
    | ((with_reducible apply rt_gwx); (· assumption); (· (try simp (disch := omega) only [wr, true_and, and_true, sM_ne, sM_eq, sM_neR, sM_eqR, sK_upM, sK_upR, sL_upM, sL_upR, sN_upM, sN_upR, sT_upM, sT_upR, sN_upM, Int.reduceAdd, Int.reduceMul, Int.reduceSub, Int.reduceNeg, Int.zero_add, Int.add_zero, hF3.c]); exact rfl)))
    refine Rt.mono (f_follow hV3) ?_
    rintro v4 σ4 ⟨hc4, hW4⟩
    have hV4 := hV3.ch hc4
    refine l_wt66 hV4 hW4 ?_ 1000 0 (by omega) (by omega)
    have hV40 := hV4
    obtain ⟨hF4, ⟨-, w24⟩, ⟨-, -, kk4⟩, -, p14, ⟨q14, q24⟩, -⟩ := hV4
    have hwk4 : wkn σ4 W := wk_w kk4 k0 k5
    replace p14 := hd p14
    replace q14 := hd q14
    replace q24 := hd q24
    have h94 := hF4.2.2.2
    refine rt_gx (x := 5) (by simp (disch := omega) only [true_and, and_true, sM_ne, sM_eq, sM_neR, sM_eqR, sK_upM, sK_upR, sL_upM, sL_upR, sN_upM, sN_upR, sT_upM, sT_upR, sN_upM, Int.reduceAdd, Int.reduceMul, Int.reduceSub, Int.reduceNeg, Int.zero_add, Int.add_zero, hF4.c]) (by simp (disch := omega) only [true_and, and_true, sM_ne, sM_eq, sM_neR, sM_eqR, sK_upM, sK_upR, sL_upM, sL_upR, sN_upM, sN_upR, sT_upM, sT_upR, sN_upM, Int.reduceAdd, Int.reduceMul, Int.reduceSub, Int.reduceNeg, Int.zero_add, Int.add_zero, hF4.c]) ?_
    refine rt_gx (x := 9) (by simp (disch := omega) only [true_and, and_true, sM_ne, sM_eq, sM_neR, sM_eqR, sK_upM, sK_upR, sL_upM, sL_upR, sN_upM, sN_upR, sT_upM, sT_upR, sN_upM, Int.reduceAdd, Int.reduceMul, Int.reduceSub, Int.reduceNeg, Int.zero_add, Int.add_zero, hF4.c]) (by simp (disch := omega) only [true_and, and_true, sM_ne, sM_eq, sM_neR, sM_eqR, sK_upM, sK_upR, sL_upM, sL_upR, sN_upM, sN_upR, sT_upM, sT_upR, sN_upM, Int.reduceAdd, Int.reduceMul, Int.reduceSub, Int.reduceNeg, Int.zero_add, Int.add_zero, hF4.c]) ?_
    refine rt_alx (x := 10 + g) (by simp (disch := omega) only [true_and, and_true, sM_ne, sM_eq, sM_neR, sM_eqR, sK_upM, sK_upR, sL_upM, sL_upR, sN_upM, sN_upR, sT_upM, sT_upR, sN_upM, Int.reduceAdd, Int.reduceMul, Int.reduceSub, Int.reduceNeg, Int.zero_add, Int.add_zero, hF4.c]) (by simp (disch := omega) only [true_and, and_true, sM_ne, sM_eq, sM_neR, sM_eqR, sK_upM, sK_upR, sL_upM, sL_upR, sN_upM, sN_upR, sT_upM, sT_upR, sN_upM, Int.reduceAdd, Int.reduceMul, Int.reduceSub, Int.reduceNeg, Int.zero_add, Int.add_zero, hF4.c]; omega) (by simp (disch := omega) only [true_and, and_true, sM_ne, sM_eq, sM_neR, sM_eqR, sK_upM, sK_upR, sL_upM, sL_upR, sN_upM, sN_upR, sT_upM, sT_upR, sN_upM, Int.reduceAdd, Int.reduceMul, Int.reduceSub, Int.reduceNeg, Int.zero_add, Int.add_zero, hF4.c]) ?_
    refine rt_as (by simp (disch := omega) only [true_and, and_true, sM_ne, sM_eq, sM_neR, sM_eqR, sK_upM, sK_upR, sL_upM, sL_upR, sN_upM, sN_upR, sT_upM, sT_upR, sN_upM, Int.reduceAdd, Int.reduceMul, Int.reduceSub, Int.reduceNeg, Int.zero_add, Int.add_zero, hF4.c]) (by simp (disch := omega) only [true_and, and_true, sM_ne, sM_eq, sM_neR, sM_eqR, sK_upM, sK_upR, sL_upM, sL_upR, sN_upM, sN_upR, sT_upM, sT_upR, sN_upM, Int.reduceAdd, Int.reduceMul, Int.reduceSub, Int.reduceNeg, Int.zero_add, Int.add_zero, hF4.c]; omega) ?_
    refine rt_gx (x := 54) (by simp (disch := omega) only [true_and, and_true, sM_ne, sM_eq, sM_neR, sM_eqR, sK_upM, sK_upR, sL_upM, sL_upR, sN_upM, sN_upR, sT_upM, sT_upR, sN_upM, Int.reduceAdd, Int.reduceMul, Int.reduceSub, Int.reduceNeg, Int.zero_add, Int.add_zero, hF4.c]) (by simp (disch := omega) only [true_and, and_true, sM_ne, sM_eq, sM_neR, sM_eqR, sK_upM, sK_upR, sL_upM, sL_upR, sN_upM, sN_upR, sT_upM, sT_upR, sN_upM, Int.reduceAdd, Int.reduceMul, Int.reduceSub, Int.reduceNeg, Int.zero_add, Int.add_zero, hF4.c]) ?_
    refine rt_gwx (x := W + 1) (wkn_up hwk4) (by rw [sM_ne (by omega)]; exact p14 ()) ?_
    refine rt_cp (by simp (disch := omega) only [true_and, and_true, sM_ne, sM_eq, sM_neR, sM_eqR, sK_upM, sK_upR, sL_upM, sL_upR, sN_upM, sN_upR, sT_upM, sT_upR, sN_upM, Int.reduceAdd, Int.reduceMul, Int.reduceSub, Int.reduceNeg, Int.zero_add, Int.add_zero, hF4.c]) (by rw [sK_upM]; exact q14 ()) (by rw [sL_upM, sL_upM, q24 ()]; simp (disch := omega) only [true_and, and_true, sM_ne, sM_eq, sM_neR, sM_eqR, sK_upM, sK_upR, sL_upM, sL_upR, sN_upM, sN_upR, sT_upM, sT_upR, sN_upM, Int.reduceAdd, Int.reduceMul, Int.reduceSub, Int.reduceNeg, Int.zero_add, Int.add_zero, hF4.c]; omega) (rt_ret ⟨rfl, ?_⟩)
    have hc24 : Ch (fun b i => mvS W n b i ∨ b = 54 ∨ b = W + 1 ∨ (b = 10 + g ∧ i = t)) σ σ4 := ((hc1.mono (fun b i q => Or.inr (Or.inl q))).tr (hc2.mono (fun b i q => Or.inr (Or.inr (Or.inr q))))).tr ((hc3.mono (fun b i q => Or.inl q)).tr (hc4.mono (fun b i q => Or.inl (Or.inl q))))
    have hc14 : Ch (fun b i => mvS W n b i ∨ (b = 10 + g ∧ i = t)) σ1 σ4 := ((hc2.mono (fun b i q => Or.inr q)).tr (hc3.mono (fun b i q => Or.inl q))).tr (hc4.mono (fun b i q => Or.inl (Or.inl q)))
    have hn1 := hc1.2.1
    have hfin := (hc24.up (i := t) (v := tl g t) (Or.inr (Or.inr (Or.inr ⟨rfl, rfl⟩)))).upR (f := (fun k => if 0 ≤ k ∧ k < 0 + 16 then sM (upM σ4 (10 + g) t (tl g t)) 54 (0 + (k - 0)) else sM (upM σ4 (10 + g) t (tl g t)) (W + 1) k)) (a := W + 1) (fun _ => Or.inr (Or.inr (Or.inl rfl)))
    obtain ⟨⟨d1, d2, d3, d4⟩, d5⟩ := hfin
    refine ⟨⟨fun b i hb hn => ?_, d2, d3, d4⟩, d5⟩
    by_cases e1 : b = W + 1
    · subst e1
      rw [sM_eqR rfl]
      by_cases q : 0 ≤ i ∧ i < 0 + 16
      · rw [if_pos q, sM_ne (by omega), hc14.M (by omega) (by unfold mvS lnS; omega), h54 _ (by omega) (by omega)]
        congr 1
        omega
      · rw [if_neg q, sM_ne (by omega), hc14.M (by omega) (by unfold mvS lnS; omega), hc1.M (by omega) (by omega)]
    · by_cases e2 : b = 10 + g ∧ i = t
      · obtain ⟨rfl, rfl⟩ := e2
        rw [sM_neR (by omega), sM_eq ⟨rfl, rfl⟩, tlh ()]
      · exact d1 b i hb (fun q => by
          rcases q with (q | q) | q | q | q
          · exact hn (Or.inl q)
          · exact e1 q.1
          · exact hn (Or.inr q)
          · exact e1 q
          · exact e2 q)
  unfold mvA
  by_cases ha : a ≤ 0
  · refine rt_pos ha ?_
    rw [if_pos ha]
    exact rest σ2 ch Ch.rf hV2
  · have hF2 := hV2.1
    refine rt_neg ha ?_
    rw [if_neg ha]
    refine rt_b (rt_v (by simp (disch := omega) only [true_and, and_true, sM_ne, sM_eq, sM_neR, sM_eqR, sK_upM, sK_upR, sL_upM, sL_upR, sN_upM, sN_upR, sT_upM, sT_upR, sN_upM, Int.reduceAdd, Int.reduceMul, Int.reduceSub, Int.reduceNeg, Int.zero_add, Int.add_zero, hF2.c]) ?_)
    refine Rt.mono (f_makesMove hV2 hC2 hT2 hs2) ?_
    rintro v3 σ3 ⟨-, hc3, hV3⟩
    exact rest σ3 _ hc3 hV3
theorem l_fi60 {σ : ZS} {W n k T g t a : Int} {ch so : Int → Int} {ln rt tl : Int → Int → Int} {st wi : Int → Int} {cs ls : List Int} {f : Nat → Int} (g0 : 0 ≤ g) (g1 : g < 2) (t0 : 0 ≤ t) (t1 : t < 24) (hf : ∀ j : Nat, f j = sumI (wt2 n k (mvA n k ch so ln rt (upd2 tl g t (j : Int)) st wi cs a) so ln rt) n.toNat) :
    ∀ (N j : Nat) (s : ZS), LV s W n k ch so ln rt → CV s T tl st wi cs ls → TV s T → Sep s W T → Ch (fun b i => lnS b i ∨ b = 54) σ s → j ≤ 7 → 7 - j < N → Rt (lX11_finest_60 3 g t a W N s (bsF f j).1 (bsF f j).2 ((j + 1 : Nat) : Int)) (fun v τ => v = (bsF f 7).1 ∧ Ch (fun b i => lnS b i ∨ b = 54) σ τ)
  | 0, j, s, _, _, _, _, _, h1, h2 => by omega
  | N + 1, j, s, hV, hC, hT, hs, hc, h1, h2 => by
    have hF := hV.1
    have h9 := hF.2.2.2
    have hW := hV.2.1.1
    rw [lX11_finest_60]
    by_cases he : 7 < ((j + 1 : Nat) : Int)
    · refine rt_pos he (rt_ret ⟨?_, hc⟩)
      rw [show j = 7 by omega]
    · refine rt_neg he (rt_b (rt_v (by simp (disch := omega) only [true_and, and_true, sM_ne, sM_eq, sM_neR, sM_eqR, sK_upM, sK_upR, sL_upM, sL_upR, sN_upM, sN_upR, sT_upM, sT_upR, sN_upM, Int.reduceAdd, Int.reduceMul, Int.reduceSub, Int.reduceNeg, Int.zero_add, Int.add_zero, hF.c]) ?_))
      refine Rt.mono (f_wbt hV hC hT hs (a := a) g0 g1 t0 t1 (u := ((j + 1 : Nat) : Int)) (by omega) (by omega)) ?_
      rintro v τ ⟨e, hcτ⟩
      have hSx : ∀ b i, (lnS b i ∨ b = 54) → lnS b i ∨ b = W + 1 ∨ b = 54 := fun b i q => by rcases q with q | q; exact Or.inl q; exact Or.inr (Or.inr q)
      have hVτ := hV.chs (ch' := ch) hcτ hSx (fun i i0 i1 => by rw [hcτ.M (by have := hV.2.1.2; omega) (by unfold lnS; omega)]; exact hV.2.2.2.2.2.2.1 i i0 i1)
      obtain ⟨hCτ, hTτ, hsτ⟩ := keepC hV hC hT hs hcτ hSx
      have ef : v = f (j + 1) := by rw [hf, e]
      have hb : bsF f (j + 1) = if (bsF f j).2 ≤ f (j + 1) then bsF f j else (((j + 1 : Nat) : Int), f (j + 1)) := rfl
      have next := l_fi60 (a := a) g0 g1 t0 t1 hf N (j + 1) τ hVτ hCτ hTτ hsτ (hc.tr hcτ) (by omega) (by omega)
      by_cases hle : (bsF f j).2 ≤ v
      · refine rt_jn (rt_pos hle ?_)
        show Rt (lX11_finest_60 3 g t a W N τ (bsF f j).1 (bsF f j).2 (wrap (((j + 1 : Nat) : Int) + 1))) _
        rw [wr1 (j + 1) (by omega)]
        rw [hb, if_pos (by rw [← ef]; exact hle)] at next
        exact next
      · refine rt_jn (rt_neg hle ?_)
        show Rt (lX11_finest_60 3 g t a W N τ ((j + 1 : Nat) : Int) v (wrap (((j + 1 : Nat) : Int) + 1))) _
        rw [wr1 (j + 1) (by omega), ef]
        rw [hb, if_neg (by rw [← ef]; exact hle)] at next
        exact next
theorem mvN1 {n k : Int} {ch so : Int → Int} {ln rt tl : Int → Int → Int} {st wi : Int → Int} {cs : List Int} {a : Int} (ha : a = 0 ∨ a = 1) : (mvN n k so ln rt tl st wi cs a.toNat ch).2 = mvA n k ch so ln rt tl st wi cs a := by
  rcases ha with rfl | rfl
  · rfl
  · show (mvN n k so ln rt tl st wi cs 1 ch).2 = mvF n k ch so ln rt tl st wi cs
    unfold mvN
    by_cases q : rsV n k ch so ln rt tl st wi cs = -1
    · rw [if_pos q]
      unfold mvF
      rw [if_pos q]
    · rw [if_neg q]
      rfl
theorem l_fi54 {σ : ZS} (h : Rel σ) {w g t a v0 : Int} (w0 : 0 ≤ w) (w1 : w < sM σ 64 8) {K : ZS → Int → Option (Int × ZS)} {P : Int → ZS → Prop} {f : Nat → Int} (g0 : 0 ≤ g) (g1 : g < 2) (t0 : 0 ≤ t) (t1 : t < 24) (ha : a = 0 ∨ a = 1) (hf : ∀ j : Nat, f j = sumI (wt2 (sM σ 72 w) (sM σ 71 w) (mvA (sM σ 72 w) (sM σ 71 w) (vch σ w) (vso σ) (vln σ) (vrt σ) (upd2 (vtl σ) g t (j : Int)) (vst σ) (vwi σ) (vtx σ 0) a) (vso σ) (vln σ) (vrt σ)) (sM σ 72 w).toNat)
    (hK : ∀ τ : ZS, Ch (fun b i => scr b i ∨ (b = 66 ∧ i = 24 * g + t)) σ τ → Rt (K τ (bsF f 7).1) P) :
    ∀ (N j : Nat) (s : ZS) (b1 b2 : Int), Ch (fun b i => scr b i ∨ (b = 66 ∧ i = 24 * g + t)) σ s → j ≤ 8 → 8 - j < N → (∀ i : Nat, j = i + 1 → (b1, b2) = bsF f i) → Rt (lX12_finest_54 64 w g t a v0 K N s b1 b2 (j : Int)) P
  | 0, j, s, b1, b2, _, h1, h2, _ => by omega
  | N + 1, j, s, b1, b2, hc, h1, h2, hb => by
    have hR : ∀ b i, (scr b i ∨ (b = 66 ∧ i = 24 * g + t)) → alR b i := fun b i q => by
      rcases q with q | q
      · exact Or.inl q
      · unfold alR; omega
    have hF := hc.Fx h.F (fun b i q => alR_NF b i (hR b i q))
    have hFσ := h.F
    have h9 := hFσ.2.2.2
    have h9s := hF.2.2.2
    rw [lX12_finest_54]
    by_cases he : 8 ≤ (j : Int)
    · refine rt_pos he ?_
      have := hK s hc
      have e := hb 7 (by omega)
      rw [← e] at this
      exact this
    · refine rt_neg he ?_
      have er := hd (show wrap (wrap (24 * g) + t) = 24 * g + t by rw [wr (x := 24 * g) (by omega) (by omega), wr (by omega) (by omega)])
      repeat (first
    | with_reducible refine rt_b ?_
    | with_reducible refine rt_jn ?_
    | ((with_reducible refine rt_pos ?_ ?_); (· first | omega | ((try simp (disch := omega) only [wr, true_and, and_true, sM_ne, sM_eq, sM_neR, sM_eqR, sK_upM, sK_upR, sL_upM, sL_upR, sN_upM, sN_upR, sT_upM, sT_upR, sN_upM, Int.reduceAdd, Int.reduceMul, Int.reduceSub, Int.reduceNeg, Int.zero_add, Int.add_zero, hF.c, er ()]) <;> omega)))
    | ((with_reducible refine rt_neg ?_ ?_); (· first | omega | ((try simp (disch := omega) only [wr, true_and, and_true, sM_ne, sM_eq, sM_neR, sM_eqR, sK_upM, sK_upR, sL_upM, sL_upR, sN_upM, sN_upR, sT_upM, sT_upR, sN_upM, Int.reduceAdd, Int.reduceMul, Int.reduceSub, Int.reduceNeg, Int.zero_add, Int.add_zero, hF.c, er ()]) <;> omega)))
    | ((with_reducible refine rt_v ?_ ?_); · simp (disch := omega) only [true_and, and_true, sM_ne, sM_eq, sM_neR, sM_eqR, sK_upM, sK_upR, sL_upM, sL_upR, sN_upM, sN_upR, sT_upM, sT_upR, sN_upM, Int.reduceAdd, Int.reduceMul, Int.reduceSub, Int.reduceNeg, Int.zero_add, Int.add_zero, hF.c, er ()])
    | ((with_reducible apply rt_gx); (· simp (disch := omega) only [true_and, and_true, sM_ne, sM_eq, sM_neR, sM_eqR, sK_upM, sK_upR, sL_upM, sL_upR, sN_upM, sN_upR, sT_upM, sT_upR, sN_upM, Int.reduceAdd, Int.reduceMul, Int.reduceSub, Int.reduceNeg, Int.zero_add, Int.add_zero, hF.c, er ()]); (· (try simp (disch := omega) only [wr, true_and, and_true, sM_ne, sM_eq, sM_neR, sM_eqR, sK_upM, sK_upR, sL_upM, sL_upR, sN_upM, sN_upR, sT_upM, sT_upR, sN_upM, Int.reduceAdd, Int.reduceMul, Int.reduceSub, Int.reduceNeg, Int.zero_add, Int.add_zero, hF.c, er ()]); exact rfl))
    | ((with_reducible apply rt_alx); (· simp (disch := omega) only [true_and, and_true, sM_ne, sM_eq, sM_neR, sM_eqR, sK_upM, sK_upR, sL_upM, sL_upR, sN_upM, sN_upR, sT_upM, sT_upR, sN_upM, Int.reduceAdd, Int.reduceMul, Int.reduceSub, Int.reduceNeg, Int.zero_add, Int.add_zero, hF.c, er ()]); (· first | omega | ((try simp (disch := omega) only [wr, true_and, and_true, sM_ne, sM_eq, sM_neR, sM_eqR, sK_upM, sK_upR, sL_upM, sL_upR, sN_upM, sN_upR, sT_upM, sT_upR, sN_upM, Int.reduceAdd, Int.reduceMul, Int.reduceSub, Int.reduceNeg, Int.zero_add, Int.add_zero, hF.c, er ()]) <;> omega)); (· (try simp (disch := omega) only [wr, true_and, and_true, sM_ne, sM_eq, sM_neR, sM_eqR, sK_upM, sK_upR, sL_upM, sL_upR, sN_upM, sN_upR, sT_upM, sT_upR, sN_upM, Int.reduceAdd, Int.reduceMul, Int.reduceSub, Int.reduceNeg, Int.zero_add, Int.add_zero, hF.c, er ()]); exact rfl))
    | ((with_reducible refine rt_as ?_ ?_ ?_); (· simp (disch := omega) only [true_and, and_true, sM_ne, sM_eq, sM_neR, sM_eqR, sK_upM, sK_upR, sL_upM, sL_upR, sN_upM, sN_upR, sT_upM, sT_upR, sN_upM, Int.reduceAdd, Int.reduceMul, Int.reduceSub, Int.reduceNeg, Int.zero_add, Int.add_zero, hF.c, er ()]); (· first | omega | ((try simp (disch := omega) only [wr, true_and, and_true, sM_ne, sM_eq, sM_neR, sM_eqR, sK_upM, sK_upR, sL_upM, sL_upR, sN_upM, sN_upR, sT_upM, sT_upR, sN_upM, Int.reduceAdd, Int.reduceMul, Int.reduceSub, Int.reduceNeg, Int.zero_add, Int.add_zero, hF.c, er ()]) <;> omega)))
    | ((with_reducible refine rt_p ?_ ?_ ?_); (· simp (disch := omega) only [true_and, and_true, sM_ne, sM_eq, sM_neR, sM_eqR, sK_upM, sK_upR, sL_upM, sL_upR, sN_upM, sN_upR, sT_upM, sT_upR, sN_upM, Int.reduceAdd, Int.reduceMul, Int.reduceSub, Int.reduceNeg, Int.zero_add, Int.add_zero, hF.c, er ()]); (· omega))
    | with_reducible refine rt_ret ?_
    | ((with_reducible apply rt_gwx); (· assumption); (· (try simp (disch := omega) only [wr, true_and, and_true, sM_ne, sM_eq, sM_neR, sM_eqR, sK_upM, sK_upR, sL_upM, sL_upR, sN_upM, sN_upR, sT_upM, sT_upR, sN_upM, Int.reduceAdd, Int.reduceMul, Int.reduceSub, Int.reduceNeg, Int.zero_add, Int.add_zero, hF.c, er ()]); exact rfl)))
      simp only [er ()]
      have hc1 : Ch (fun b i => scr b i ∨ (b = 66 ∧ i = 24 * g + t)) σ (upM s 66 (24 * g + t) (j : Int)) := hc.up (Or.inr ⟨rfl, rfl⟩)
      refine Rt.mono (r_lays2 (rt := vrt σ) (tl := upd2 (vtl σ) g t (j : Int)) (wi := vwi σ) h hc1 hR w0 w1 (fun g' t' a0 a1 b0 b1 => ?_) (fun g' t' a0 a1 b0 b1 => ?_) (fun s' s0 s1 => ?_)) ?_
      · rw [hc1.M (by omega) (by unfold scr; omega)]; exact h.rt0 g' t' a0 a1 b0 b1
      · by_cases e : g' = g ∧ t' = t
        · obtain ⟨rfl, rfl⟩ := e
          rw [sM_eq ⟨rfl, rfl⟩, upd2_eq]
          exact ⟨rfl, by omega, by omega⟩
        · rw [upd2_ne e, hc1.M (by omega) (by unfold scr; omega)]
          exact h.tl0 g' t' a0 a1 b0 b1
      · rw [hc1.M (by omega) (by unfold scr; omega)]; exact h.wi0 s' s0 s1
      · rintro v1 τ ⟨hcτ, hVτ, hCτ⟩
        have hFτ := hVτ.1
        refine rt_b (rt_v (by simp (disch := omega) only [true_and, and_true, sM_ne, sM_eq, sM_neR, sM_eqR, sK_upM, sK_upR, sL_upM, sL_upR, sN_upM, sN_upR, sT_upM, sT_upR, sN_upM, Int.reduceAdd, Int.reduceMul, Int.reduceSub, Int.reduceNeg, Int.zero_add, Int.add_zero, hFτ.c]) ?_)
        refine Rt.mono (f_moves (a2 := a) (by omega) hVτ hCτ) ?_
        rintro v2 ρ ⟨-, hcρ, hVρ, -⟩
        rw [mvN1 ha] at hVρ
        have hFρ := hVρ.1
        refine rt_b (rt_v (by simp (disch := omega) only [true_and, and_true, sM_ne, sM_eq, sM_neR, sM_eqR, sK_upM, sK_upR, sL_upM, sL_upR, sN_upM, sN_upR, sT_upM, sT_upR, sN_upM, Int.reduceAdd, Int.reduceMul, Int.reduceSub, Int.reduceNeg, Int.zero_add, Int.add_zero, hFρ.c]) ?_)
        unfold fX12_waited
        refine rt_b (rt_v (by simp (disch := omega) only [true_and, and_true, sM_ne, sM_eq, sM_neR, sM_eqR, sK_upM, sK_upR, sL_upM, sL_upR, sN_upM, sN_upR, sT_upM, sT_upR, sN_upM, Int.reduceAdd, Int.reduceMul, Int.reduceSub, Int.reduceNeg, Int.zero_add, Int.add_zero, hFρ.c]) ?_)
        refine Rt.mono (f_goes hVρ) ?_
        rintro v3 θ ⟨hcθ, hG⟩
        have hVθ := hVρ.ch hcθ
        have hn := hVθ.2.2.2.1.2
        refine Rt.mono (l_wt9 hVθ hG 1000 0 (by omega) (by omega)) ?_
        rintro v4 π ⟨e4, rfl⟩
        have hcall : Ch (fun b i => scr b i ∨ (b = 66 ∧ i = 24 * g + t)) σ π := hc1.tr (((hcτ.mono (fun b i q => Or.inl (by unfold scr; omega))).tr (hcρ.mono (fun b i q => Or.inl (mdW_scr b i q)))).tr (hcθ.mono (fun b i q => Or.inl (mdS_scr b i q))))
        have ef : v4 = f j := by rw [hf, e4]
        have next : ∀ c1 c2 : Int, (c1, c2) = bsF f j → Rt (lX12_finest_54 64 w g t a v0 K N π c1 c2 (wrap ((j : Int) + 1))) P := by
          intro c1 c2 hcc
          rw [wr1 j (by omega)]
          exact l_fi54 h w0 w1 g0 g1 t0 t1 ha hf hK N (j + 1) π c1 c2 hcall (by omega) (by omega) (fun i hi => by rw [hcc]; congr 1; omega)
        by_cases hj : j = 0
        · subst hj
          refine rt_jn (rt_jn (rt_pos rfl ?_))
          exact next _ _ (by rw [ef]; rfl)
        · obtain ⟨i, rfl⟩ : ∃ i, j = i + 1 := ⟨j - 1, by omega⟩
          have e := hb i rfl
          have hbb : bsF f (i + 1) = if (bsF f i).2 ≤ f (i + 1) then bsF f i else (((i + 1 : Nat) : Int), f (i + 1)) := rfl
          rw [← e] at hbb
          refine rt_jn (rt_jn (rt_neg (by omega) ?_))
          by_cases hle : b2 ≤ v4
          · refine rt_pos hle ?_
            refine next _ _ ?_
            rw [hbb, if_pos (show b2 ≤ f (i + 1) by rw [← ef]; exact hle)]
          · refine rt_neg hle ?_
            refine next _ _ ?_
            rw [hbb, if_neg (show ¬ b2 ≤ f (i + 1) by rw [← ef]; exact hle), ef]
theorem q_finest {σ : ZS} (h : Rel σ) (w g t a : Int) : Rt (fX11_finest σ 3 w g t a) (fun v τ => Rt (fX12_finest τ 64 w g t a) (fun z ρ => Fin σ v z ρ)) := by
  have hF := h.F
  have h9 := hF.2.2.2
  unfold fX11_finest
  by_cases hw : 0 ≤ w ∧ w < sM σ 64 8
  · obtain ⟨w0, w1⟩ := hw
    have hn := h.wn w0 w1
    have hV := h.lv w0 w1
    have hC := h.cv
    have hT := h.tv
    have hs := h.sep w0 w1
    refine rt_b (rt_v (by simp (disch := omega) only [true_and, and_true, sM_ne, sM_eq, sM_neR, sM_eqR, sK_upM, sK_upR, sL_upM, sL_upR, sN_upM, sN_upR, sT_upM, sT_upR, sN_upM, Int.reduceAdd, Int.reduceMul, Int.reduceSub, Int.reduceNeg, Int.zero_add, Int.add_zero, hF.c]) (rt_e (f_wayAt1 h w0 w1) ?_))
    refine rt_neg (by omega) (rt_b (rt_e (f_isGate σ g) ?_))
    have bad : ∀ y : Int, (¬ ((0 ≤ g ∧ g < 2) ∧ (0 ≤ t ∧ t < 24)) ∧ y = -5) ∨ (((0 ≤ g ∧ g < 2) ∧ (0 ≤ t ∧ t < 24)) ∧ ¬ (0 ≤ a ∧ a ≤ 1) ∧ y = -7) → Rt (fX12_finest σ 64 w g t a) (fun z ρ => Fin σ y z ρ) := by
      intro y hb
      unfold fX12_finest
      refine rt_b (rt_v (by simp (disch := omega) only [true_and, and_true, sM_ne, sM_eq, sM_neR, sM_eqR, sK_upM, sK_upR, sL_upM, sL_upR, sN_upM, sN_upR, sT_upM, sT_upR, sN_upM, Int.reduceAdd, Int.reduceMul, Int.reduceSub, Int.reduceNeg, Int.zero_add, Int.add_zero, hF.c]) (rt_e (f_isWay h w) ?_))
      rw [if_pos (show 0 ≤ w ∧ w < sM σ 64 8 from ⟨w0, w1⟩)]
      refine rt_neg (by omega) (rt_b (rt_e (f_isGateM σ g t) ?_))
      rcases hb with ⟨h1, rfl⟩ | ⟨h1, h2, rfl⟩
      · rw [if_neg h1]
        exact rt_pos rfl (rt_ret (fin0 h rfl))
      · rw [if_pos h1]
        refine rt_neg (by omega) (rt_b (rt_e (f_in σ a 0 1) ?_))
        rw [if_neg h2]
        exact rt_pos rfl (rt_ret (fin0 h rfl))
    by_cases hg : 0 ≤ g ∧ g < 2
    · rw [if_pos hg]
      refine rt_neg (by omega) (rt_b (rt_e (f_isMinute σ t) ?_))
      by_cases ht : 0 ≤ t ∧ t < 24
      · rw [if_pos ht]
        refine rt_neg (by omega) (rt_b (rt_e (f_within σ a 1) ?_))
        by_cases ha : 0 ≤ a ∧ a ≤ 1
        · rw [if_pos ha]
          refine rt_neg (by omega) (rt_b (rt_v (by simp (disch := omega) only [true_and, and_true, sM_ne, sM_eq, sM_neR, sM_eqR, sK_upM, sK_upR, sL_upM, sL_upR, sN_upM, sN_upR, sT_upM, sT_upR, sN_upM, Int.reduceAdd, Int.reduceMul, Int.reduceSub, Int.reduceNeg, Int.zero_add, Int.add_zero, hF.c]) ?_))
          obtain ⟨f, hf⟩ : ∃ f : Nat → Int, ∀ j : Nat, f j = sumI (wt2 (sM σ 72 w) (sM σ 71 w) (mvA (sM σ 72 w) (sM σ 71 w) (vch σ w) (vso σ) (vln σ) (vrt σ) (upd2 (vtl σ) g t (j : Int)) (vst σ) (vwi σ) (vtx σ 0) a) (vso σ) (vln σ) (vrt σ)) (sM σ 72 w).toNat := ⟨fun j => sumI (wt2 (sM σ 72 w) (sM σ 71 w) (mvA (sM σ 72 w) (sM σ 71 w) (vch σ w) (vso σ) (vln σ) (vrt σ) (upd2 (vtl σ) g t (j : Int)) (vst σ) (vwi σ) (vtx σ 0) a) (vso σ) (vln σ) (vrt σ)) (sM σ 72 w).toNat, fun j => rfl⟩
          refine Rt.mono (f_wbt hV hC hT hs (a := a) hg.1 hg.2 ht.1 ht.2 (u := 0) (by omega) (by omega)) ?_
          rintro v1 τ ⟨e1, hcτ⟩
          have hSx : ∀ b i, (lnS b i ∨ b = 54) → lnS b i ∨ b = sM σ 33 w + 1 ∨ b = 54 := fun b i q => by rcases q with q | q; exact Or.inl q; exact Or.inr (Or.inr q)
          have hVτ := hV.chs (ch' := vch σ w) hcτ hSx (fun i i0 i1 => by rw [hcτ.M (by omega) (by unfold lnS; omega)]; exact hV.2.2.2.2.2.2.1 i i0 i1)
          obtain ⟨hCτ, hTτ, hsτ⟩ := keepC hV hC hT hs hcτ hSx
          have e10 : v1 = f 0 := by rw [hf, e1]; rfl
          rw [e10]
          refine Rt.mono (l_fi60 (σ := σ) (a := a) hg.1 hg.2 ht.1 ht.2 hf 1000 0 τ hVτ hCτ hTτ hsτ hcτ (by omega) (by omega)) ?_
          rintro v2 π ⟨e2, hcπ⟩
          have hsπ : Ch scr σ π := hcπ.mono (fun b i q => by rcases q with q | q; exact lnS_scr b i q; unfold scr; omega)
          have hRπ := h.off hsπ.1
          have hFπ := hRπ.F
          have h8 : sM π 64 8 = sM σ 64 8 := hsπ.M (by omega) (by unfold scr; omega)
          have er := hd (show wrap (wrap (24 * g) + t) = 24 * g + t by rw [wr (x := 24 * g) (by omega) (by omega), wr (by omega) (by omega)])
          have ev := hd (show sM π 66 (24 * g + t) = vtl σ g t from hsπ.M (by omega) (by unfold scr; omega))
          unfold fX12_finest
          refine rt_b (rt_v (by simp (disch := omega) only [true_and, and_true, sM_ne, sM_eq, sM_neR, sM_eqR, sK_upM, sK_upR, sL_upM, sL_upR, sN_upM, sN_upR, sT_upM, sT_upR, sN_upM, Int.reduceAdd, Int.reduceMul, Int.reduceSub, Int.reduceNeg, Int.zero_add, Int.add_zero, hFπ.c]) (rt_e (f_isWay hRπ w) ?_))
          rw [h8, if_pos (show 0 ≤ w ∧ w < sM σ 64 8 from ⟨w0, w1⟩)]
          clear h8
          refine rt_neg (by omega) (rt_b (rt_e (f_isGateM π g t) ?_))
          rw [if_pos (show (0 ≤ g ∧ g < 2) ∧ (0 ≤ t ∧ t < 24) from ⟨hg, ht⟩)]
          refine rt_neg (by omega) (rt_b (rt_e (f_in π a 0 1) ?_))
          rw [if_pos ha]
          refine rt_neg (by omega) ?_
          refine rt_gx (x := 66) (by simp (disch := omega) only [true_and, and_true, sM_ne, sM_eq, sM_neR, sM_eqR, sK_upM, sK_upR, sL_upM, sL_upR, sN_upM, sN_upR, sT_upM, sT_upR, sN_upM, Int.reduceAdd, Int.reduceMul, Int.reduceSub, Int.reduceNeg, Int.zero_add, Int.add_zero, hFπ.c]) (by simp (disch := omega) only [true_and, and_true, sM_ne, sM_eq, sM_neR, sM_eqR, sK_upM, sK_upR, sL_upM, sL_upR, sN_upM, sN_upR, sT_upM, sT_upR, sN_upM, Int.reduceAdd, Int.reduceMul, Int.reduceSub, Int.reduceNeg, Int.zero_add, Int.add_zero, hFπ.c]) ?_
          refine rt_alx (x := vtl σ g t) (by simp (disch := omega) only [true_and, and_true, sM_ne, sM_eq, sM_neR, sM_eqR, sK_upM, sK_upR, sL_upM, sL_upR, sN_upM, sN_upR, sT_upM, sT_upR, sN_upM, Int.reduceAdd, Int.reduceMul, Int.reduceSub, Int.reduceNeg, Int.zero_add, Int.add_zero, hFπ.c]) (by rw [er ()]; simp (disch := omega) only [true_and, and_true, sM_ne, sM_eq, sM_neR, sM_eqR, sK_upM, sK_upR, sL_upM, sL_upR, sN_upM, sN_upR, sT_upM, sT_upR, sN_upM, Int.reduceAdd, Int.reduceMul, Int.reduceSub, Int.reduceNeg, Int.zero_add, Int.add_zero, hFπ.c]; omega) (by rw [er ()]; exact ev ()) ?_
          refine l_fi54 h w0 w1 hg.1 hg.2 ht.1 ht.2 (by omega) hf (fun θ hcθ => ?_) 1000 0 π 0 0 (hsπ.mono (fun b i q => Or.inl q)) (by omega) (by omega) (fun i hi => by omega)
          have hFθ := hcθ.Fx hF (fun b i q => by
            rcases q with q | q
            · exact scr_NF b i q
            · exact NF_i (by omega))
          refine rt_gx (x := 66) (by simp (disch := omega) only [true_and, and_true, sM_ne, sM_eq, sM_neR, sM_eqR, sK_upM, sK_upR, sL_upM, sL_upR, sN_upM, sN_upR, sT_upM, sT_upR, sN_upM, Int.reduceAdd, Int.reduceMul, Int.reduceSub, Int.reduceNeg, Int.zero_add, Int.add_zero, hFθ.c]) (by simp (disch := omega) only [true_and, and_true, sM_ne, sM_eq, sM_neR, sM_eqR, sK_upM, sK_upR, sL_upM, sL_upR, sN_upM, sN_upR, sT_upM, sT_upR, sN_upM, Int.reduceAdd, Int.reduceMul, Int.reduceSub, Int.reduceNeg, Int.zero_add, Int.add_zero, hFθ.c]) ?_
          refine rt_as (by simp (disch := omega) only [true_and, and_true, sM_ne, sM_eq, sM_neR, sM_eqR, sK_upM, sK_upR, sL_upM, sL_upR, sN_upM, sN_upR, sT_upM, sT_upR, sN_upM, Int.reduceAdd, Int.reduceMul, Int.reduceSub, Int.reduceNeg, Int.zero_add, Int.add_zero, hFθ.c]) (by rw [er ()]; simp (disch := omega) only [true_and, and_true, sM_ne, sM_eq, sM_neR, sM_eqR, sK_upM, sK_upR, sL_upM, sL_upR, sN_upM, sN_upR, sT_upM, sT_upR, sN_upM, Int.reduceAdd, Int.reduceMul, Int.reduceSub, Int.reduceNeg, Int.zero_add, Int.add_zero, hFθ.c]; omega) (rt_ret ?_)
          rw [er ()]
          refine finC h e2 (Ch.back (S := fun b i => scr b i ∨ (b = 66 ∧ i = 24 * g + t)) (hcθ.up (Or.inr ⟨rfl, rfl⟩)) (fun b i q => ?_))
          rcases q with q | ⟨rfl, rfl⟩
          · exact Or.inl q
          · right
            rw [sM_eq ⟨rfl, rfl⟩]
            rfl
        · rw [if_neg ha]
          exact rt_pos rfl (rt_ret (bad _ (Or.inr ⟨⟨hg, ht⟩, ha, rfl⟩)))
      · rw [if_neg ht]
        exact rt_pos rfl (rt_ret (bad _ (Or.inl ⟨fun q => ht q.2, rfl⟩)))
    · rw [if_neg hg]
      exact rt_pos rfl (rt_ret (bad _ (Or.inl ⟨fun q => hg q.1, rfl⟩)))
  · refine rt_b (rt_v (by simp (disch := omega) only [true_and, and_true, sM_ne, sM_eq, sM_neR, sM_eqR, sK_upM, sK_upR, sL_upM, sL_upR, sN_upM, sN_upR, sT_upM, sT_upR, sN_upM, Int.reduceAdd, Int.reduceMul, Int.reduceSub, Int.reduceNeg, Int.zero_add, Int.add_zero, hF.c]) (rt_e (f_wayAt0 h hw) ?_))
    refine rt_pos (by omega) (rt_ret ?_)
    unfold fX12_finest
    refine rt_b (rt_v (by simp (disch := omega) only [true_and, and_true, sM_ne, sM_eq, sM_neR, sM_eqR, sK_upM, sK_upR, sL_upM, sL_upR, sN_upM, sN_upR, sT_upM, sT_upR, sN_upM, Int.reduceAdd, Int.reduceMul, Int.reduceSub, Int.reduceNeg, Int.zero_add, Int.add_zero, hF.c]) (rt_e (f_isWay h w) ?_))
    rw [if_neg hw]
    exact rt_pos rfl (rt_ret (fin0 h rfl))
