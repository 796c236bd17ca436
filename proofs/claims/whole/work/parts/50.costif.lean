/-! what a cart's cost were by another choice: the class -/
theorem lx_pre {key : Int → Int} {R : List Int} {c : Int} (h : R.Pairwise (lx key)) (hc : c ∉ R) : ∀ j : Nat, j < R.length → lxB key (R.getD j 0) c = decide (j < (R.filter (fun x => lxB key x c)).length) := by
  intro j hj
  have e := (part_srt h hc).1
  generalize ha : R.filter (fun x => lxB key x c) = a at *
  generalize hb : R.filter (fun x => !lxB key x c) = b at *
  by_cases hl : j < a.length
  · have hm : R.getD j 0 ∈ a := by
      rw [e, List.getD_eq_getElem?_getD, List.getElem?_append_left hl, List.getElem?_eq_getElem hl]
      exact List.getElem_mem hl
    rw [← ha] at hm
    rw [(List.mem_filter.mp hm).2, decide_eq_true hl]
  · have hl2 : j - a.length < b.length := by
      have := congrArg List.length e
      rw [List.length_append] at this
      omega
    have hm : R.getD j 0 ∈ b := by
      rw [e, List.getD_eq_getElem?_getD, List.getElem?_append_right (by omega), List.getElem?_eq_getElem hl2]
      exact List.getElem_mem hl2
    rw [← hb] at hm
    have := (List.mem_filter.mp hm).2
    rw [decide_eq_false hl]
    simpa using this
theorem l_ahead {key key' : Int → Int} {g c o : Int} {R : List Int} (g0 : 0 ≤ g) (g1 : g < 2) (hR : R.length ≤ 16) (hkk : ∀ x ∈ R, key x = key' x) (ho : key' c = o) {s : ZS} (hF : FxD s) (hL : Lst s g key R) :
    ∀ (N r : Nat), r ≤ R.length → R.length - r < N → Rt (lX2_aheadOf_6 4 g c o N s (((R.take r).filter (fun x => lxB key' x c)).length : Int) (r : Int)) (fun v τ => v = ((2 ^ (R.filter (fun x => lxB key' x c)).length - 1 : Nat) : Int) ∧ τ = s)
  | 0, r, h1, h2 => by omega
  | N + 1, r, h1, h2 => by
    have e27 := hd hL.2
    rw [lX2_aheadOf_6]
    repeat (first
    | with_reducible refine rt_b ?_
    | with_reducible refine rt_jn ?_
    | ((with_reducible refine rt_pos ?_ ?_); (· first | omega | ((try simp (disch := omega) only [wr, true_and, and_true, sM_ne, sM_eq, sM_neR, sM_eqR, sK_upM, sK_upR, sL_upM, sL_upR, sN_upM, sN_upR, sT_upM, sT_upR, sN_upM, Int.reduceAdd, Int.reduceMul, Int.reduceSub, Int.reduceNeg, Int.zero_add, Int.add_zero, hF.c, e27 ()]) <;> omega)))
    | ((with_reducible refine rt_neg ?_ ?_); (· first | omega | ((try simp (disch := omega) only [wr, true_and, and_true, sM_ne, sM_eq, sM_neR, sM_eqR, sK_upM, sK_upR, sL_upM, sL_upR, sN_upM, sN_upR, sT_upM, sT_upR, sN_upM, Int.reduceAdd, Int.reduceMul, Int.reduceSub, Int.reduceNeg, Int.zero_add, Int.add_zero, hF.c, e27 ()]) <;> omega)))
    | ((with_reducible refine rt_v ?_ ?_); · simp (disch := omega) only [true_and, and_true, sM_ne, sM_eq, sM_neR, sM_eqR, sK_upM, sK_upR, sL_upM, sL_upR, sN_upM, sN_upR, sT_upM, sT_upR, sN_upM, Int.reduceAdd, Int.reduceMul, Int.reduceSub, Int.reduceNeg, Int.zero_add, Int.add_zero, hF.c, e27 ()])
    | ((with_reducible apply rt_gx); (· simp (disch := omega) only [true_and, and_true, sM_ne, sM_eq, sM_neR, sM_eqR, sK_upM, sK_upR, sL_upM, sL_upR, sN_upM, sN_upR, sT_upM, sT_upR, sN_upM, Int.reduceAdd, Int.reduceMul, Int.reduceSub, Int.reduceNeg, Int.zero_add, Int.add_zero, hF.c, e27 ()]); (· (try simp (disch := omega) only [wr, true_and, and_true, sM_ne, sM_eq, sM_neR, sM_eqR, sK_upM, sK_upR, sL_upM, sL_upR, sN_upM, sN_upR, sT_upM, sT_upR, sN_upM, Int.reduceAdd, Int.reduceMul, Int.reduceSub, Int.reduceNeg, Int.zero_add, Int.add_zero, hF.c, e27 ()]); exact rfl))
    | ((with_reducible apply rt_alx); (· simp (disch := omega) only [true_and, and_true, sM_ne, sM_eq, sM_neR, sM_eqR, sK_upM, sK_upR, sL_upM, sL_upR, sN_upM, sN_upR, sT_upM, sT_upR, sN_upM, Int.reduceAdd, Int.reduceMul, Int.reduceSub, Int.reduceNeg, Int.zero_add, Int.add_zero, hF.c, e27 ()]); (· first | omega | ((try simp (disch := omega) only [wr, true_and, and_true, sM_ne, sM_eq, sM_neR, sM_eqR, sK_upM, sK_upR, sL_upM, sL_upR, sN_upM, sN_upR, sT_upM, sT_upR, sN_upM, Int.reduceAdd, Int.reduceMul, Int.reduceSub, Int.reduceNeg, Int.zero_add, Int.add_zero, hF.c, e27 ()]) <;> omega)); (· (try simp (disch := omega) only [wr, true_and, and_true, sM_ne, sM_eq, sM_neR, sM_eqR, sK_upM, sK_upR, sL_upM, sL_upR, sN_upM, sN_upR, sT_upM, sT_upR, sN_upM, Int.reduceAdd, Int.reduceMul, Int.reduceSub, Int.reduceNeg, Int.zero_add, Int.add_zero, hF.c, e27 ()]); exact rfl))
    | ((with_reducible refine rt_as ?_ ?_ ?_); (· simp (disch := omega) only [true_and, and_true, sM_ne, sM_eq, sM_neR, sM_eqR, sK_upM, sK_upR, sL_upM, sL_upR, sN_upM, sN_upR, sT_upM, sT_upR, sN_upM, Int.reduceAdd, Int.reduceMul, Int.reduceSub, Int.reduceNeg, Int.zero_add, Int.add_zero, hF.c, e27 ()]); (· first | omega | ((try simp (disch := omega) only [wr, true_and, and_true, sM_ne, sM_eq, sM_neR, sM_eqR, sK_upM, sK_upR, sL_upM, sL_upR, sN_upM, sN_upR, sT_upM, sT_upR, sN_upM, Int.reduceAdd, Int.reduceMul, Int.reduceSub, Int.reduceNeg, Int.zero_add, Int.add_zero, hF.c, e27 ()]) <;> omega)))
    | ((with_reducible refine rt_p ?_ ?_ ?_); (· simp (disch := omega) only [true_and, and_true, sM_ne, sM_eq, sM_neR, sM_eqR, sK_upM, sK_upR, sL_upM, sL_upR, sN_upM, sN_upR, sT_upM, sT_upR, sN_upM, Int.reduceAdd, Int.reduceMul, Int.reduceSub, Int.reduceNeg, Int.zero_add, Int.add_zero, hF.c, e27 ()]); (· omega))
    | with_reducible refine rt_ret ?_
    | ((with_reducible apply rt_gwx); (· assumption); (· (try simp (disch := omega) only [wr, true_and, and_true, sM_ne, sM_eq, sM_neR, sM_eqR, sK_upM, sK_upR, sL_upM, sL_upR, sN_upM, sN_upR, sT_upM, sT_upR, sN_upM, Int.reduceAdd, Int.reduceMul, Int.reduceSub, Int.reduceNeg, Int.zero_add, Int.add_zero, hF.c, e27 ()]); exact rfl)))
    have hle : ∀ q : Nat, ((R.take q).filter (fun x => lxB key' x c)).length ≤ 16 := fun q => by
      have a1 := List.length_filter_le (fun x => lxB key' x c) (R.take q)
      have a2 := List.length_take_le q R
      have a3 : (R.take q).length ≤ R.length := by rw [List.length_take]; omega
      omega
    by_cases he : (R.length : Int) ≤ (r : Int)
    · refine rt_pos he (rt_ret ⟨?_, rfl⟩)
      have hq := hle r
      rw [List.take_of_length_le (by omega)] at hq ⊢
      rw [iShl_one _ (by omega)]
      have p1 : 1 ≤ 2 ^ (R.filter (fun x => lxB key' x c)).length := Nat.one_le_two_pow
      have p2 : 2 ^ (R.filter (fun x => lxB key' x c)).length ≤ 2 ^ 16 := Nat.pow_le_pow_right (by decide) hq
      have p3 : (2 : Nat) ^ 16 = 65536 := by decide
      rw [wr (by omega) (by omega)]
      omega
    · refine rt_neg he ?_
      have hr : r < R.length := by omega
      have hmem : R.getD r 0 ∈ R := by rw [List.getD_eq_getElem?_getD, List.getElem?_eq_getElem hr]; exact List.getElem_mem hr
      have e22 := hd (hL.1 r hr).1
      have e25 := hd ((hL.1 r hr).2.trans (hkk _ hmem))
      have hts := take_s R r hr
      have hq := hle r
      have next : ∀ v : Int, v = (((R.take (r + 1)).filter (fun x => lxB key' x c)).length : Int) → Rt (lX2_aheadOf_6 4 g c o N s v (wrap ((r : Int) + 1))) (fun v τ => v = ((2 ^ (R.filter (fun x => lxB key' x c)).length - 1 : Nat) : Int) ∧ τ = s) := by
        intro v hv
        rw [hv, wr1 r (by omega)]
        exact l_ahead g0 g1 hR hkk ho hF hL N (r + 1) (by omega) (by omega)
      have yes : lxB key' (R.getD r 0) c = true → wrap ((((R.take r).filter (fun x => lxB key' x c)).length : Int) + 1) = (((R.take (r + 1)).filter (fun x => lxB key' x c)).length : Int) := by
        intro q
        rw [wr1 _ (by omega), hts, List.filter_append, List.length_append, List.filter_cons, if_pos q]
        rfl
      have no : ¬ lxB key' (R.getD r 0) c = true → (((R.take r).filter (fun x => lxB key' x c)).length : Int) = (((R.take (r + 1)).filter (fun x => lxB key' x c)).length : Int) := by
        intro q
        rw [hts, List.filter_append, List.length_append, List.filter_cons, if_neg q]
        rfl
      have hlx : lxB key' (R.getD r 0) c = true ↔ key' (R.getD r 0) < o ∨ (key' (R.getD r 0) = o ∧ R.getD r 0 < c) := by
        rw [lxB_iff]; unfold lx; rw [ho]
      replace hts := hd hts
      generalize ((R.take r).filter (fun x => lxB key' x c)).length = C at *
      generalize R.getD r 0 = d at *
      clear hle
      by_cases c1 : key' d < o
      · repeat (first
    | with_reducible refine rt_b ?_
    | with_reducible refine rt_jn ?_
    | ((with_reducible refine rt_pos ?_ ?_); (· first | omega | ((try simp (disch := omega) only [wr, true_and, and_true, sM_ne, sM_eq, sM_neR, sM_eqR, sK_upM, sK_upR, sL_upM, sL_upR, sN_upM, sN_upR, sT_upM, sT_upR, sN_upM, Int.reduceAdd, Int.reduceMul, Int.reduceSub, Int.reduceNeg, Int.zero_add, Int.add_zero, hF.c, e27 (), e22 (), e25 ()]) <;> omega)))
    | ((with_reducible refine rt_neg ?_ ?_); (· first | omega | ((try simp (disch := omega) only [wr, true_and, and_true, sM_ne, sM_eq, sM_neR, sM_eqR, sK_upM, sK_upR, sL_upM, sL_upR, sN_upM, sN_upR, sT_upM, sT_upR, sN_upM, Int.reduceAdd, Int.reduceMul, Int.reduceSub, Int.reduceNeg, Int.zero_add, Int.add_zero, hF.c, e27 (), e22 (), e25 ()]) <;> omega)))
    | ((with_reducible refine rt_v ?_ ?_); · simp (disch := omega) only [true_and, and_true, sM_ne, sM_eq, sM_neR, sM_eqR, sK_upM, sK_upR, sL_upM, sL_upR, sN_upM, sN_upR, sT_upM, sT_upR, sN_upM, Int.reduceAdd, Int.reduceMul, Int.reduceSub, Int.reduceNeg, Int.zero_add, Int.add_zero, hF.c, e27 (), e22 (), e25 ()])
    | ((with_reducible apply rt_gx); (· simp (disch := omega) only [true_and, and_true, sM_ne, sM_eq, sM_neR, sM_eqR, sK_upM, sK_upR, sL_upM, sL_upR, sN_upM, sN_upR, sT_upM, sT_upR, sN_upM, Int.reduceAdd, Int.reduceMul, Int.reduceSub, Int.reduceNeg, Int.zero_add, Int.add_zero, hF.c, e27 (), e22 (), e25 ()]); (· (try simp (disch := omega) only [wr, true_and, and_true, sM_ne, sM_eq, sM_neR, sM_eqR, sK_upM, sK_upR, sL_upM, sL_upR, sN_upM, sN_upR, sT_upM, sT_upR, sN_upM, Int.reduceAdd, Int.reduceMul, Int.reduceSub, Int.reduceNeg, Int.zero_add, Int.add_zero, hF.c, e27 (), e22 (), e25 ()]); exact rfl))
    | ((with_reducible apply rt_alx); (· simp (disch := omega) only [true_and, and_true, sM_ne, sM_eq, sM_neR, sM_eqR, sK_upM, sK_upR, sL_upM, sL_upR, sN_upM, sN_upR, sT_upM, sT_upR, sN_upM, Int.reduceAdd, Int.reduceMul, Int.reduceSub, Int.reduceNeg, Int.zero_add, Int.add_zero, hF.c, e27 (), e22 (), e25 ()]); (· first | omega | ((try simp (disch := omega) only [wr, true_and, and_true, sM_ne, sM_eq, sM_neR, sM_eqR, sK_upM, sK_upR, sL_upM, sL_upR, sN_upM, sN_upR, sT_upM, sT_upR, sN_upM, Int.reduceAdd, Int.reduceMul, Int.reduceSub, Int.reduceNeg, Int.zero_add, Int.add_zero, hF.c, e27 (), e22 (), e25 ()]) <;> omega)); (· (try simp (disch := omega) only [wr, true_and, and_true, sM_ne, sM_eq, sM_neR, sM_eqR, sK_upM, sK_upR, sL_upM, sL_upR, sN_upM, sN_upR, sT_upM, sT_upR, sN_upM, Int.reduceAdd, Int.reduceMul, Int.reduceSub, Int.reduceNeg, Int.zero_add, Int.add_zero, hF.c, e27 (), e22 (), e25 ()]); exact rfl))
    | ((with_reducible refine rt_as ?_ ?_ ?_); (· simp (disch := omega) only [true_and, and_true, sM_ne, sM_eq, sM_neR, sM_eqR, sK_upM, sK_upR, sL_upM, sL_upR, sN_upM, sN_upR, sT_upM, sT_upR, sN_upM, Int.reduceAdd, Int.reduceMul, Int.reduceSub, Int.reduceNeg, Int.zero_add, Int.add_zero, hF.c, e27 (), e22 (), e25 ()]); (· first | omega | ((try simp (disch := omega) only [wr, true_and, and_true, sM_ne, sM_eq, sM_neR, sM_eqR, sK_upM, sK_upR, sL_upM, sL_upR, sN_upM, sN_upR, sT_upM, sT_upR, sN_upM, Int.reduceAdd, Int.reduceMul, Int.reduceSub, Int.reduceNeg, Int.zero_add, Int.add_zero, hF.c, e27 (), e22 (), e25 ()]) <;> omega)))
    | ((with_reducible refine rt_p ?_ ?_ ?_); (· simp (disch := omega) only [true_and, and_true, sM_ne, sM_eq, sM_neR, sM_eqR, sK_upM, sK_upR, sL_upM, sL_upR, sN_upM, sN_upR, sT_upM, sT_upR, sN_upM, Int.reduceAdd, Int.reduceMul, Int.reduceSub, Int.reduceNeg, Int.zero_add, Int.add_zero, hF.c, e27 (), e22 (), e25 ()]); (· omega))
    | with_reducible refine rt_ret ?_
    | ((with_reducible apply rt_gwx); (· assumption); (· (try simp (disch := omega) only [wr, true_and, and_true, sM_ne, sM_eq, sM_neR, sM_eqR, sK_upM, sK_upR, sL_upM, sL_upR, sN_upM, sN_upR, sT_upM, sT_upR, sN_upM, Int.reduceAdd, Int.reduceMul, Int.reduceSub, Int.reduceNeg, Int.zero_add, Int.add_zero, hF.c, e27 (), e22 (), e25 ()]); exact rfl)))
        exact next _ (yes (hlx.mpr (Or.inl c1)))
      · by_cases c2 : key' d = o
        · by_cases c3 : c ≤ d
          · repeat (first
    | with_reducible refine rt_b ?_
    | with_reducible refine rt_jn ?_
    | ((with_reducible refine rt_pos ?_ ?_); (· first | omega | ((try simp (disch := omega) only [wr, true_and, and_true, sM_ne, sM_eq, sM_neR, sM_eqR, sK_upM, sK_upR, sL_upM, sL_upR, sN_upM, sN_upR, sT_upM, sT_upR, sN_upM, Int.reduceAdd, Int.reduceMul, Int.reduceSub, Int.reduceNeg, Int.zero_add, Int.add_zero, hF.c, e27 (), e22 (), e25 ()]) <;> omega)))
    | ((with_reducible refine rt_neg ?_ ?_); (· first | omega | ((try simp (disch := omega) only [wr, true_and, and_true, sM_ne, sM_eq, sM_neR, sM_eqR, sK_upM, sK_upR, sL_upM, sL_upR, sN_upM, sN_upR, sT_upM, sT_upR, sN_upM, Int.reduceAdd, Int.reduceMul, Int.reduceSub, Int.reduceNeg, Int.zero_add, Int.add_zero, hF.c, e27 (), e22 (), e25 ()]) <;> omega)))
    | ((with_reducible refine rt_v ?_ ?_); · simp (disch := omega) only [true_and, and_true, sM_ne, sM_eq, sM_neR, sM_eqR, sK_upM, sK_upR, sL_upM, sL_upR, sN_upM, sN_upR, sT_upM, sT_upR, sN_upM, Int.reduceAdd, Int.reduceMul, Int.reduceSub, Int.reduceNeg, Int.zero_add, Int.add_zero, hF.c, e27 (), e22 (), e25 ()])
    | ((with_reducible apply rt_gx); (· simp (disch := omega) only [true_and, and_true, sM_ne, sM_eq, sM_neR, sM_eqR, sK_upM, sK_upR, sL_upM, sL_upR, sN_upM, sN_upR, sT_upM, sT_upR, sN_upM, Int.reduceAdd, Int.reduceMul, Int.reduceSub, Int.reduceNeg, Int.zero_add, Int.add_zero, hF.c, e27 (), e22 (), e25 ()]); (· (try simp (disch := omega) only [wr, true_and, and_true, sM_ne, sM_eq, sM_neR, sM_eqR, sK_upM, sK_upR, sL_upM, sL_upR, sN_upM, sN_upR, sT_upM, sT_upR, sN_upM, Int.reduceAdd, Int.reduceMul, Int.reduceSub, Int.reduceNeg, Int.zero_add, Int.add_zero, hF.c, e27 (), e22 (), e25 ()]); exact rfl))
    | ((with_reducible apply rt_alx); (· simp (disch := omega) only [true_and, and_true, sM_ne, sM_eq, sM_neR, sM_eqR, sK_upM, sK_upR, sL_upM, sL_upR, sN_upM, sN_upR, sT_upM, sT_upR, sN_upM, Int.reduceAdd, Int.reduceMul, Int.reduceSub, Int.reduceNeg, Int.zero_add, Int.add_zero, hF.c, e27 (), e22 (), e25 ()]); (· first | omega | ((try simp (disch := omega) only [wr, true_and, and_true, sM_ne, sM_eq, sM_neR, sM_eqR, sK_upM, sK_upR, sL_upM, sL_upR, sN_upM, sN_upR, sT_upM, sT_upR, sN_upM, Int.reduceAdd, Int.reduceMul, Int.reduceSub, Int.reduceNeg, Int.zero_add, Int.add_zero, hF.c, e27 (), e22 (), e25 ()]) <;> omega)); (· (try simp (disch := omega) only [wr, true_and, and_true, sM_ne, sM_eq, sM_neR, sM_eqR, sK_upM, sK_upR, sL_upM, sL_upR, sN_upM, sN_upR, sT_upM, sT_upR, sN_upM, Int.reduceAdd, Int.reduceMul, Int.reduceSub, Int.reduceNeg, Int.zero_add, Int.add_zero, hF.c, e27 (), e22 (), e25 ()]); exact rfl))
    | ((with_reducible refine rt_as ?_ ?_ ?_); (· simp (disch := omega) only [true_and, and_true, sM_ne, sM_eq, sM_neR, sM_eqR, sK_upM, sK_upR, sL_upM, sL_upR, sN_upM, sN_upR, sT_upM, sT_upR, sN_upM, Int.reduceAdd, Int.reduceMul, Int.reduceSub, Int.reduceNeg, Int.zero_add, Int.add_zero, hF.c, e27 (), e22 (), e25 ()]); (· first | omega | ((try simp (disch := omega) only [wr, true_and, and_true, sM_ne, sM_eq, sM_neR, sM_eqR, sK_upM, sK_upR, sL_upM, sL_upR, sN_upM, sN_upR, sT_upM, sT_upR, sN_upM, Int.reduceAdd, Int.reduceMul, Int.reduceSub, Int.reduceNeg, Int.zero_add, Int.add_zero, hF.c, e27 (), e22 (), e25 ()]) <;> omega)))
    | ((with_reducible refine rt_p ?_ ?_ ?_); (· simp (disch := omega) only [true_and, and_true, sM_ne, sM_eq, sM_neR, sM_eqR, sK_upM, sK_upR, sL_upM, sL_upR, sN_upM, sN_upR, sT_upM, sT_upR, sN_upM, Int.reduceAdd, Int.reduceMul, Int.reduceSub, Int.reduceNeg, Int.zero_add, Int.add_zero, hF.c, e27 (), e22 (), e25 ()]); (· omega))
    | with_reducible refine rt_ret ?_
    | ((with_reducible apply rt_gwx); (· assumption); (· (try simp (disch := omega) only [wr, true_and, and_true, sM_ne, sM_eq, sM_neR, sM_eqR, sK_upM, sK_upR, sL_upM, sL_upR, sN_upM, sN_upR, sT_upM, sT_upR, sN_upM, Int.reduceAdd, Int.reduceMul, Int.reduceSub, Int.reduceNeg, Int.zero_add, Int.add_zero, hF.c, e27 (), e22 (), e25 ()]); exact rfl)))
            exact next _ (no (fun q => by rcases hlx.mp q with q | q <;> omega))
          · repeat (first
    | with_reducible refine rt_b ?_
    | with_reducible refine rt_jn ?_
    | ((with_reducible refine rt_pos ?_ ?_); (· first | omega | ((try simp (disch := omega) only [wr, true_and, and_true, sM_ne, sM_eq, sM_neR, sM_eqR, sK_upM, sK_upR, sL_upM, sL_upR, sN_upM, sN_upR, sT_upM, sT_upR, sN_upM, Int.reduceAdd, Int.reduceMul, Int.reduceSub, Int.reduceNeg, Int.zero_add, Int.add_zero, hF.c, e27 (), e22 (), e25 ()]) <;> omega)))
    | ((with_reducible refine rt_neg ?_ ?_); (· first | omega | ((try simp (disch := omega) only [wr, true_and, and_true, sM_ne, sM_eq, sM_neR, sM_eqR, sK_upM, sK_upR, sL_upM, sL_upR, sN_upM, sN_upR, sT_upM, sT_upR, sN_upM, Int.reduceAdd, Int.reduceMul, Int.reduceSub, Int.reduceNeg, Int.zero_add, Int.add_zero, hF.c, e27 (), e22 (), e25 ()]) <;> omega)))
    | ((with_reducible refine rt_v ?_ ?_); · simp (disch := omega) only [true_and, and_true, sM_ne, sM_eq, sM_neR, sM_eqR, sK_upM, sK_upR, sL_upM, sL_upR, sN_upM, sN_upR, sT_upM, sT_upR, sN_upM, Int.reduceAdd, Int.reduceMul, Int.reduceSub, Int.reduceNeg, Int.zero_add, Int.add_zero, hF.c, e27 (), e22 (), e25 ()])
    | ((with_reducible apply rt_gx); (· simp (disch := omega) only [true_and, and_true, sM_ne, sM_eq, sM_neR, sM_eqR, sK_upM, sK_upR, sL_upM, sL_upR, sN_upM, sN_upR, sT_upM, sT_upR, sN_upM, Int.reduceAdd, Int.reduceMul, Int.reduceSub, Int.reduceNeg, Int.zero_add, Int.add_zero, hF.c, e27 (), e22 (), e25 ()]); (· (try simp (disch := omega) only [wr, true_and, and_true, sM_ne, sM_eq, sM_neR, sM_eqR, sK_upM, sK_upR, sL_upM, sL_upR, sN_upM, sN_upR, sT_upM, sT_upR, sN_upM, Int.reduceAdd, Int.reduceMul, Int.reduceSub, Int.reduceNeg, Int.zero_add, Int.add_zero, hF.c, e27 (), e22 (), e25 ()]); exact rfl))
    | ((with_reducible apply rt_alx); (· simp (disch := omega) only [true_and, and_true, sM_ne, sM_eq, sM_neR, sM_eqR, sK_upM, sK_upR, sL_upM, sL_upR, sN_upM, sN_upR, sT_upM, sT_upR, sN_upM, Int.reduceAdd, Int.reduceMul, Int.reduceSub, Int.reduceNeg, Int.zero_add, Int.add_zero, hF.c, e27 (), e22 (), e25 ()]); (· first | omega | ((try simp (disch := omega) only [wr, true_and, and_true, sM_ne, sM_eq, sM_neR, sM_eqR, sK_upM, sK_upR, sL_upM, sL_upR, sN_upM, sN_upR, sT_upM, sT_upR, sN_upM, Int.reduceAdd, Int.reduceMul, Int.reduceSub, Int.reduceNeg, Int.zero_add, Int.add_zero, hF.c, e27 (), e22 (), e25 ()]) <;> omega)); (· (try simp (disch := omega) only [wr, true_and, and_true, sM_ne, sM_eq, sM_neR, sM_eqR, sK_upM, sK_upR, sL_upM, sL_upR, sN_upM, sN_upR, sT_upM, sT_upR, sN_upM, Int.reduceAdd, Int.reduceMul, Int.reduceSub, Int.reduceNeg, Int.zero_add, Int.add_zero, hF.c, e27 (), e22 (), e25 ()]); exact rfl))
    | ((with_reducible refine rt_as ?_ ?_ ?_); (· simp (disch := omega) only [true_and, and_true, sM_ne, sM_eq, sM_neR, sM_eqR, sK_upM, sK_upR, sL_upM, sL_upR, sN_upM, sN_upR, sT_upM, sT_upR, sN_upM, Int.reduceAdd, Int.reduceMul, Int.reduceSub, Int.reduceNeg, Int.zero_add, Int.add_zero, hF.c, e27 (), e22 (), e25 ()]); (· first | omega | ((try simp (disch := omega) only [wr, true_and, and_true, sM_ne, sM_eq, sM_neR, sM_eqR, sK_upM, sK_upR, sL_upM, sL_upR, sN_upM, sN_upR, sT_upM, sT_upR, sN_upM, Int.reduceAdd, Int.reduceMul, Int.reduceSub, Int.reduceNeg, Int.zero_add, Int.add_zero, hF.c, e27 (), e22 (), e25 ()]) <;> omega)))
    | ((with_reducible refine rt_p ?_ ?_ ?_); (· simp (disch := omega) only [true_and, and_true, sM_ne, sM_eq, sM_neR, sM_eqR, sK_upM, sK_upR, sL_upM, sL_upR, sN_upM, sN_upR, sT_upM, sT_upR, sN_upM, Int.reduceAdd, Int.reduceMul, Int.reduceSub, Int.reduceNeg, Int.zero_add, Int.add_zero, hF.c, e27 (), e22 (), e25 ()]); (· omega))
    | with_reducible refine rt_ret ?_
    | ((with_reducible apply rt_gwx); (· assumption); (· (try simp (disch := omega) only [wr, true_and, and_true, sM_ne, sM_eq, sM_neR, sM_eqR, sK_upM, sK_upR, sL_upM, sL_upR, sN_upM, sN_upR, sT_upM, sT_upR, sN_upM, Int.reduceAdd, Int.reduceMul, Int.reduceSub, Int.reduceNeg, Int.zero_add, Int.add_zero, hF.c, e27 (), e22 (), e25 ()]); exact rfl)))
            exact next _ (yes (hlx.mpr (Or.inr ⟨c2, by omega⟩)))
        · repeat (first
    | with_reducible refine rt_b ?_
    | with_reducible refine rt_jn ?_
    | ((with_reducible refine rt_pos ?_ ?_); (· first | omega | ((try simp (disch := omega) only [wr, true_and, and_true, sM_ne, sM_eq, sM_neR, sM_eqR, sK_upM, sK_upR, sL_upM, sL_upR, sN_upM, sN_upR, sT_upM, sT_upR, sN_upM, Int.reduceAdd, Int.reduceMul, Int.reduceSub, Int.reduceNeg, Int.zero_add, Int.add_zero, hF.c, e27 (), e22 (), e25 ()]) <;> omega)))
    | ((with_reducible refine rt_neg ?_ ?_); (· first | omega | ((try simp (disch := omega) only [wr, true_and, and_true, sM_ne, sM_eq, sM_neR, sM_eqR, sK_upM, sK_upR, sL_upM, sL_upR, sN_upM, sN_upR, sT_upM, sT_upR, sN_upM, Int.reduceAdd, Int.reduceMul, Int.reduceSub, Int.reduceNeg, Int.zero_add, Int.add_zero, hF.c, e27 (), e22 (), e25 ()]) <;> omega)))
    | ((with_reducible refine rt_v ?_ ?_); · simp (disch := omega) only [true_and, and_true, sM_ne, sM_eq, sM_neR, sM_eqR, sK_upM, sK_upR, sL_upM, sL_upR, sN_upM, sN_upR, sT_upM, sT_upR, sN_upM, Int.reduceAdd, Int.reduceMul, Int.reduceSub, Int.reduceNeg, Int.zero_add, Int.add_zero, hF.c, e27 (), e22 (), e25 ()])
    | ((with_reducible apply rt_gx); (· simp (disch := omega) only [true_and, and_true, sM_ne, sM_eq, sM_neR, sM_eqR, sK_upM, sK_upR, sL_upM, sL_upR, sN_upM, sN_upR, sT_upM, sT_upR, sN_upM, Int.reduceAdd, Int.reduceMul, Int.reduceSub, Int.reduceNeg, Int.zero_add, Int.add_zero, hF.c, e27 (), e22 (), e25 ()]); (· (try simp (disch := omega) only [wr, true_and, and_true, sM_ne, sM_eq, sM_neR, sM_eqR, sK_upM, sK_upR, sL_upM, sL_upR, sN_upM, sN_upR, sT_upM, sT_upR, sN_upM, Int.reduceAdd, Int.reduceMul, Int.reduceSub, Int.reduceNeg, Int.zero_add, Int.add_zero, hF.c, e27 (), e22 (), e25 ()]); exact rfl))
    | ((with_reducible apply rt_alx); (· simp (disch := omega) only [true_and, and_true, sM_ne, sM_eq, sM_neR, sM_eqR, sK_upM, sK_upR, sL_upM, sL_upR, sN_upM, sN_upR, sT_upM, sT_upR, sN_upM, Int.reduceAdd, Int.reduceMul, Int.reduceSub, Int.reduceNeg, Int.zero_add, Int.add_zero, hF.c, e27 (), e22 (), e25 ()]); (· first | omega | ((try simp (disch := omega) only [wr, true_and, and_true, sM_ne, sM_eq, sM_neR, sM_eqR, sK_upM, sK_upR, sL_upM, sL_upR, sN_upM, sN_upR, sT_upM, sT_upR, sN_upM, Int.reduceAdd, Int.reduceMul, Int.reduceSub, Int.reduceNeg, Int.zero_add, Int.add_zero, hF.c, e27 (), e22 (), e25 ()]) <;> omega)); (· (try simp (disch := omega) only [wr, true_and, and_true, sM_ne, sM_eq, sM_neR, sM_eqR, sK_upM, sK_upR, sL_upM, sL_upR, sN_upM, sN_upR, sT_upM, sT_upR, sN_upM, Int.reduceAdd, Int.reduceMul, Int.reduceSub, Int.reduceNeg, Int.zero_add, Int.add_zero, hF.c, e27 (), e22 (), e25 ()]); exact rfl))
    | ((with_reducible refine rt_as ?_ ?_ ?_); (· simp (disch := omega) only [true_and, and_true, sM_ne, sM_eq, sM_neR, sM_eqR, sK_upM, sK_upR, sL_upM, sL_upR, sN_upM, sN_upR, sT_upM, sT_upR, sN_upM, Int.reduceAdd, Int.reduceMul, Int.reduceSub, Int.reduceNeg, Int.zero_add, Int.add_zero, hF.c, e27 (), e22 (), e25 ()]); (· first | omega | ((try simp (disch := omega) only [wr, true_and, and_true, sM_ne, sM_eq, sM_neR, sM_eqR, sK_upM, sK_upR, sL_upM, sL_upR, sN_upM, sN_upR, sT_upM, sT_upR, sN_upM, Int.reduceAdd, Int.reduceMul, Int.reduceSub, Int.reduceNeg, Int.zero_add, Int.add_zero, hF.c, e27 (), e22 (), e25 ()]) <;> omega)))
    | ((with_reducible refine rt_p ?_ ?_ ?_); (· simp (disch := omega) only [true_and, and_true, sM_ne, sM_eq, sM_neR, sM_eqR, sK_upM, sK_upR, sL_upM, sL_upR, sN_upM, sN_upR, sT_upM, sT_upR, sN_upM, Int.reduceAdd, Int.reduceMul, Int.reduceSub, Int.reduceNeg, Int.zero_add, Int.add_zero, hF.c, e27 (), e22 (), e25 ()]); (· omega))
    | with_reducible refine rt_ret ?_
    | ((with_reducible apply rt_gwx); (· assumption); (· (try simp (disch := omega) only [wr, true_and, and_true, sM_ne, sM_eq, sM_neR, sM_eqR, sK_upM, sK_upR, sL_upM, sL_upR, sN_upM, sN_upR, sT_upM, sT_upR, sN_upM, Int.reduceAdd, Int.reduceMul, Int.reduceSub, Int.reduceNeg, Int.zero_add, Int.add_zero, hF.c, e27 (), e22 (), e25 ()]); exact rfl)))
          exact next _ (no (fun q => by rcases hlx.mp q with q | q <;> omega))
theorem l_drop65 {u1 u2 u3 u4 u5 : Int} {rho : Nat} {K : ZS → Int → Option (Int × ZS)} {P : Int → ZS → Prop} {s : ZS} {B : List Nat} (hr : rho ≤ 9) (hK : ∀ m : Nat, m < 65536 → bitsL m = B.drop rho → Rt (K s (m : Int)) P) :
    ∀ (N i m : Nat), i ≤ rho → rho - i < N → m < 65536 → bitsL m = B.drop i → Rt (lX2_minuteAmongOthers_65 u1 u2 u3 u4 u5 (rho : Int) K N s (m : Int) (i : Int)) P
  | 0, i, m, h1, h2, _, _ => by omega
  | N + 1, i, m, h1, h2, hm, hb => by
    rw [lX2_minuteAmongOthers_65]
    by_cases he : (rho : Int) ≤ (i : Int)
    · refine rt_pos he (hK m hm ?_)
      rw [hb, show rho = i by omega]
    · refine rt_neg he ?_
      rw [iAnd_pred hm, wr1 i (by omega)]
      refine l_drop65 hr hK N (i + 1) _ (by omega) (by omega) (and_pred_lt hm) ?_
      by_cases hz : m = 0
      · subst hz
        rw [bitsL_nil] at hb
        have : (0 &&& (0 - 1) : Nat) = 0 := by decide
        rw [this, bitsL_nil, ← List.drop_drop, ← hb]
        rfl
      · rw [bitsL_cons hm hz] at hb
        have := congrArg List.tail hb
        rw [List.tail_cons, List.tail_drop] at this
        exact this
theorem fst_stay {f : Nat → Bool} {t T : Nat} (h : fstT f t ≠ -1) (hT : t ≤ T) : fstT f T = fstT f t := by
  induction T with
  | zero =>
    have : t = 0 := by omega
    rw [this]
  | succ T ih =>
    by_cases e : t = T + 1
    · rw [e]
    · have := ih (by omega)
      rw [fstT, if_neg (fun q => h (by rw [← this]; exact q.1)), this]
theorem l_minute {W n k w : Int} {ch so : Int → Int} {ln rt : Int → Int → Int} {key' : Int → Int} {g c m : Int} (g0 : 0 ≤ g) (g1 : g < 2) (m0 : 0 ≤ m) {s : ZS} (hV : LV s W n k ch so ln rt) (hcm : Cmr s g (cmO ln so ch) (Rg n k w ch so ln g) (Rg n k w ch so ln g).length) (hs : (Rg n k w ch so ln g).Pairwise (lx key')) (hc : c ∉ Rg n k w ch so ln g) :
    ∀ (N t f : Nat), t ≤ 24 → 24 - t < N → f < 65536 → TB f (Rg n k w ch so ln g) (fun x => decide (x ∈ lft (Rg n k w ch so ln g) (cmO ln so ch) (rtN rt g) t)) → fstT (canT key' (Rg n k w ch so ln g) (cmO ln so ch) (rtN rt g) c m) t = -1 → Rt (lX2_minuteAmongOthers_6 4 g m ((2 ^ ((Rg n k w ch so ln g).filter (fun x => lxB key' x c)).length - 1 : Nat) : Int) N s (f : Int) (t : Int)) (fun v τ => v = fstT (canT key' (Rg n k w ch so ln g) (cmO ln so ch) (rtN rt g) c m) 24 ∧ τ = s)
  | 0, t, f, _, h, _, _, _ => by omega
  | N + 1, t, f, ht, hN, hf, hT, hfst => by
    have hF := hV.1
    have hn16 := hV.2.2.2.1.2.2
    rw [lX2_minuteAmongOthers_6]
    by_cases he : (24 : Int) ≤ (t : Int)
    · have : t = 24 := by omega
      subst this
      exact rt_pos he (rt_ret ⟨hfst.symm, rfl⟩)
    · refine rt_neg he ?_
      obtain ⟨m1, x1, x2, x3⟩ := hcm t (by omega)
      obtain ⟨ra, r0, r9⟩ := hV.2.2.2.2.2.2.2.2.2 g (t : Int) g0 g1 (by omega) (by omega)
      have hrN := hd (show rt g (t : Int) = ((rtN rt g t : Nat) : Int) by unfold rtN; omega)
      have hr9 : rtN rt g t ≤ 9 := by unfold rtN; omega
      replace ra := hd (ra.trans (hrN ()))
      replace x1 := hd x1
      have hRl := Rg_len (n := n) (k := k) (w := w) (ch := ch) (so := so) (ln := ln) (g := g) hn16
      have hA := hT.or (m' := m1) (q := fun x => decide (cmO ln so ch x = (t : Int))) x3
      have hM : mpR (Rg n k w ch so ln g) (f ||| m1) = arr (Rg n k w ch so ln g) (cmO ln so ch) (rtN rt g) t := hA.list hRl
      have hor : f ||| m1 < 65536 := Nat.or_lt_two_pow (n := 16) hf x2
      have hpl : ((Rg n k w ch so ln g).filter (fun x => lxB key' x c)).length ≤ 16 := Nat.le_trans (List.length_filter_le _ _) hRl
      have hpw : 2 ^ ((Rg n k w ch so ln g).filter (fun x => lxB key' x c)).length - 1 < 65536 := by
        have p2 : 2 ^ ((Rg n k w ch so ln g).filter (fun x => lxB key' x c)).length ≤ 2 ^ 16 := Nat.pow_le_pow_right (by decide) hpl
        have p3 : (2 : Nat) ^ 16 = 65536 := by decide
        omega
      have hB : TB ((f ||| m1) &&& (2 ^ ((Rg n k w ch so ln g).filter (fun x => lxB key' x c)).length - 1)) (Rg n k w ch so ln g) (fun x => (decide (x ∈ lft (Rg n k w ch so ln g) (cmO ln so ch) (rtN rt g) t) || decide (cmO ln so ch x = (t : Int))) && lxB key' x c) := by
        intro j hj
        rw [Nat.testBit_and, hA j hj, Nat.testBit_two_pow_sub_one]
        by_cases hl : j < (Rg n k w ch so ln g).length
        · simp only [lx_pre hs hc j hl, decide_eq_true hl, Bool.true_and]
        · rw [decide_eq_false hl]
          simp only [Bool.false_and]
      have hcnt : (bitsL ((f ||| m1) &&& (2 ^ ((Rg n k w ch so ln g).filter (fun x => lxB key' x c)).length - 1))).length = ahN key' (Rg n k w ch so ln g) (cmO ln so ch) (rtN rt g) c t := by
        have := congrArg List.length (hB.list hRl)
        unfold mpR at this
        rw [List.length_map] at this
        rw [this]
        unfold ahN arr arrL
        rw [List.filter_filter]
        congr 1
        apply List.filter_congr
        intro x _
        exact Bool.and_comm _ _
      have hand : (f ||| m1) &&& (2 ^ ((Rg n k w ch so ln g).filter (fun x => lxB key' x c)).length - 1) < 65536 := Nat.lt_of_le_of_lt Nat.and_le_left hor
      have eor := hd (iOr_n hf x2)
      have eand := hd (iAnd_n (a := f ||| m1) (b := 2 ^ ((Rg n k w ch so ln g).filter (fun x => lxB key' x c)).length - 1) (by omega) (by omega))
      have hstep := hd (show fstT (canT key' (Rg n k w ch so ln g) (cmO ln so ch) (rtN rt g) c m) (t + 1) = if fstT (canT key' (Rg n k w ch so ln g) (cmO ln so ch) (rtN rt g) c m) t = -1 ∧ canT key' (Rg n k w ch so ln g) (cmO ln so ch) (rtN rt g) c m t = true then (t : Int) else fstT (canT key' (Rg n k w ch so ln g) (cmO ln so ch) (rtN rt g) c m) t from rfl)
      have hcan : canT key' (Rg n k w ch so ln g) (cmO ln so ch) (rtN rt g) c m t = true ↔ m ≤ (t : Int) ∧ ahN key' (Rg n k w ch so ln g) (cmO ln so ch) (rtN rt g) c t < rtN rt g t := by
        unfold canT
        rw [Bool.and_eq_true, decide_eq_true_eq, decide_eq_true_eq]
      have goon : ¬ canT key' (Rg n k w ch so ln g) (cmO ln so ch) (rtN rt g) c m t = true → Rt (lX2_minuteAmongOthers_65 4 g m ((2 ^ ((Rg n k w ch so ln g).filter (fun x => lxB key' x c)).length - 1 : Nat) : Int) (t : Int) ((rtN rt g t : Nat) : Int) (fun (s34 : ZS) (x35 : Int) => lX2_minuteAmongOthers_6 4 g m ((2 ^ ((Rg n k w ch so ln g).filter (fun x => lxB key' x c)).length - 1 : Nat) : Int) N s34 x35 (wrap ((t : Int) + 1))) 1000 s ((f ||| m1 : Nat) : Int) 0) (fun v τ => v = fstT (canT key' (Rg n k w ch so ln g) (cmO ln so ch) (rtN rt g) c m) 24 ∧ τ = s) := by
        intro hno
        refine l_drop65 (B := bitsL (f ||| m1)) hr9 (fun m' hm' hbm => ?_) 1000 0 (f ||| m1) (by omega) (by omega) hor rfl
        rw [wr1 t (by omega)]
        refine l_minute g0 g1 m0 hV hcm hs hc N (t + 1) m' (by omega) (by omega) hm' ?_ ?_
        · refine TB.of Rg_nd ?_ (fun j hj => hA.bnd j (by rw [hbm] at hj; exact List.mem_of_mem_drop hj))
          unfold mpR
          rw [hbm, List.map_drop]
          show (mpR _ _).drop _ = _
          rw [hM, lft_succ]
        · rw [hstep (), if_neg (fun q => hno q.2)]
          exact hfst
      have hx29 := hd (show sM s (29 + g) (t : Int) = (m1 : Int) from x1 ())
      clear hstep
      generalize hCT : canT key' (Rg n k w ch so ln g) (cmO ln so ch) (rtN rt g) c m = CT at *
      by_cases hmt : m ≤ (t : Int)
      · by_cases hah : ahN key' (Rg n k w ch so ln g) (cmO ln so ch) (rtN rt g) c t < rtN rt g t
        · repeat (first
    | with_reducible refine rt_b ?_
    | with_reducible refine rt_jn ?_
    | ((with_reducible refine rt_pos ?_ ?_); (· first | omega | ((try simp (disch := omega) only [wr, true_and, and_true, sM_ne, sM_eq, sM_neR, sM_eqR, sK_upM, sK_upR, sL_upM, sL_upR, sN_upM, sN_upR, sT_upM, sT_upR, sN_upM, Int.reduceAdd, Int.reduceMul, Int.reduceSub, Int.reduceNeg, Int.zero_add, Int.add_zero, hF.c, hx29 (), ra ()]) <;> omega)))
    | ((with_reducible refine rt_neg ?_ ?_); (· first | omega | ((try simp (disch := omega) only [wr, true_and, and_true, sM_ne, sM_eq, sM_neR, sM_eqR, sK_upM, sK_upR, sL_upM, sL_upR, sN_upM, sN_upR, sT_upM, sT_upR, sN_upM, Int.reduceAdd, Int.reduceMul, Int.reduceSub, Int.reduceNeg, Int.zero_add, Int.add_zero, hF.c, hx29 (), ra ()]) <;> omega)))
    | ((with_reducible refine rt_v ?_ ?_); · simp (disch := omega) only [true_and, and_true, sM_ne, sM_eq, sM_neR, sM_eqR, sK_upM, sK_upR, sL_upM, sL_upR, sN_upM, sN_upR, sT_upM, sT_upR, sN_upM, Int.reduceAdd, Int.reduceMul, Int.reduceSub, Int.reduceNeg, Int.zero_add, Int.add_zero, hF.c, hx29 (), ra ()])
    | ((with_reducible apply rt_gx); (· simp (disch := omega) only [true_and, and_true, sM_ne, sM_eq, sM_neR, sM_eqR, sK_upM, sK_upR, sL_upM, sL_upR, sN_upM, sN_upR, sT_upM, sT_upR, sN_upM, Int.reduceAdd, Int.reduceMul, Int.reduceSub, Int.reduceNeg, Int.zero_add, Int.add_zero, hF.c, hx29 (), ra ()]); (· (try simp (disch := omega) only [wr, true_and, and_true, sM_ne, sM_eq, sM_neR, sM_eqR, sK_upM, sK_upR, sL_upM, sL_upR, sN_upM, sN_upR, sT_upM, sT_upR, sN_upM, Int.reduceAdd, Int.reduceMul, Int.reduceSub, Int.reduceNeg, Int.zero_add, Int.add_zero, hF.c, hx29 (), ra ()]); exact rfl))
    | ((with_reducible apply rt_alx); (· simp (disch := omega) only [true_and, and_true, sM_ne, sM_eq, sM_neR, sM_eqR, sK_upM, sK_upR, sL_upM, sL_upR, sN_upM, sN_upR, sT_upM, sT_upR, sN_upM, Int.reduceAdd, Int.reduceMul, Int.reduceSub, Int.reduceNeg, Int.zero_add, Int.add_zero, hF.c, hx29 (), ra ()]); (· first | omega | ((try simp (disch := omega) only [wr, true_and, and_true, sM_ne, sM_eq, sM_neR, sM_eqR, sK_upM, sK_upR, sL_upM, sL_upR, sN_upM, sN_upR, sT_upM, sT_upR, sN_upM, Int.reduceAdd, Int.reduceMul, Int.reduceSub, Int.reduceNeg, Int.zero_add, Int.add_zero, hF.c, hx29 (), ra ()]) <;> omega)); (· (try simp (disch := omega) only [wr, true_and, and_true, sM_ne, sM_eq, sM_neR, sM_eqR, sK_upM, sK_upR, sL_upM, sL_upR, sN_upM, sN_upR, sT_upM, sT_upR, sN_upM, Int.reduceAdd, Int.reduceMul, Int.reduceSub, Int.reduceNeg, Int.zero_add, Int.add_zero, hF.c, hx29 (), ra ()]); exact rfl))
    | ((with_reducible refine rt_as ?_ ?_ ?_); (· simp (disch := omega) only [true_and, and_true, sM_ne, sM_eq, sM_neR, sM_eqR, sK_upM, sK_upR, sL_upM, sL_upR, sN_upM, sN_upR, sT_upM, sT_upR, sN_upM, Int.reduceAdd, Int.reduceMul, Int.reduceSub, Int.reduceNeg, Int.zero_add, Int.add_zero, hF.c, hx29 (), ra ()]); (· first | omega | ((try simp (disch := omega) only [wr, true_and, and_true, sM_ne, sM_eq, sM_neR, sM_eqR, sK_upM, sK_upR, sL_upM, sL_upR, sN_upM, sN_upR, sT_upM, sT_upR, sN_upM, Int.reduceAdd, Int.reduceMul, Int.reduceSub, Int.reduceNeg, Int.zero_add, Int.add_zero, hF.c, hx29 (), ra ()]) <;> omega)))
    | ((with_reducible refine rt_p ?_ ?_ ?_); (· simp (disch := omega) only [true_and, and_true, sM_ne, sM_eq, sM_neR, sM_eqR, sK_upM, sK_upR, sL_upM, sL_upR, sN_upM, sN_upR, sT_upM, sT_upR, sN_upM, Int.reduceAdd, Int.reduceMul, Int.reduceSub, Int.reduceNeg, Int.zero_add, Int.add_zero, hF.c, hx29 (), ra ()]); (· omega))
    | with_reducible refine rt_ret ?_
    | ((with_reducible apply rt_gwx); (· assumption); (· (try simp (disch := omega) only [wr, true_and, and_true, sM_ne, sM_eq, sM_neR, sM_eqR, sK_upM, sK_upR, sL_upM, sL_upR, sN_upM, sN_upR, sT_upM, sT_upR, sN_upM, Int.reduceAdd, Int.reduceMul, Int.reduceSub, Int.reduceNeg, Int.zero_add, Int.add_zero, hF.c, hx29 (), ra ()]); exact rfl)))
          rw [eor (), eand ()]
          refine rt_e (f_bitCount s hand) ?_
          rw [hcnt]
          refine rt_neg (by omega) (rt_ret ⟨?_, rfl⟩)
          have h2 : fstT CT (t + 1) = (t : Int) := by rw [fstT, if_pos ⟨hfst, hcan.mpr ⟨hmt, hah⟩⟩]
          rw [fst_stay (t := t + 1) (by rw [h2]; omega) (by omega), h2]
        · repeat (first
    | with_reducible refine rt_b ?_
    | with_reducible refine rt_jn ?_
    | ((with_reducible refine rt_pos ?_ ?_); (· first | omega | ((try simp (disch := omega) only [wr, true_and, and_true, sM_ne, sM_eq, sM_neR, sM_eqR, sK_upM, sK_upR, sL_upM, sL_upR, sN_upM, sN_upR, sT_upM, sT_upR, sN_upM, Int.reduceAdd, Int.reduceMul, Int.reduceSub, Int.reduceNeg, Int.zero_add, Int.add_zero, hF.c, hx29 (), ra ()]) <;> omega)))
    | ((with_reducible refine rt_neg ?_ ?_); (· first | omega | ((try simp (disch := omega) only [wr, true_and, and_true, sM_ne, sM_eq, sM_neR, sM_eqR, sK_upM, sK_upR, sL_upM, sL_upR, sN_upM, sN_upR, sT_upM, sT_upR, sN_upM, Int.reduceAdd, Int.reduceMul, Int.reduceSub, Int.reduceNeg, Int.zero_add, Int.add_zero, hF.c, hx29 (), ra ()]) <;> omega)))
    | ((with_reducible refine rt_v ?_ ?_); · simp (disch := omega) only [true_and, and_true, sM_ne, sM_eq, sM_neR, sM_eqR, sK_upM, sK_upR, sL_upM, sL_upR, sN_upM, sN_upR, sT_upM, sT_upR, sN_upM, Int.reduceAdd, Int.reduceMul, Int.reduceSub, Int.reduceNeg, Int.zero_add, Int.add_zero, hF.c, hx29 (), ra ()])
    | ((with_reducible apply rt_gx); (· simp (disch := omega) only [true_and, and_true, sM_ne, sM_eq, sM_neR, sM_eqR, sK_upM, sK_upR, sL_upM, sL_upR, sN_upM, sN_upR, sT_upM, sT_upR, sN_upM, Int.reduceAdd, Int.reduceMul, Int.reduceSub, Int.reduceNeg, Int.zero_add, Int.add_zero, hF.c, hx29 (), ra ()]); (· (try simp (disch := omega) only [wr, true_and, and_true, sM_ne, sM_eq, sM_neR, sM_eqR, sK_upM, sK_upR, sL_upM, sL_upR, sN_upM, sN_upR, sT_upM, sT_upR, sN_upM, Int.reduceAdd, Int.reduceMul, Int.reduceSub, Int.reduceNeg, Int.zero_add, Int.add_zero, hF.c, hx29 (), ra ()]); exact rfl))
    | ((with_reducible apply rt_alx); (· simp (disch := omega) only [true_and, and_true, sM_ne, sM_eq, sM_neR, sM_eqR, sK_upM, sK_upR, sL_upM, sL_upR, sN_upM, sN_upR, sT_upM, sT_upR, sN_upM, Int.reduceAdd, Int.reduceMul, Int.reduceSub, Int.reduceNeg, Int.zero_add, Int.add_zero, hF.c, hx29 (), ra ()]); (· first | omega | ((try simp (disch := omega) only [wr, true_and, and_true, sM_ne, sM_eq, sM_neR, sM_eqR, sK_upM, sK_upR, sL_upM, sL_upR, sN_upM, sN_upR, sT_upM, sT_upR, sN_upM, Int.reduceAdd, Int.reduceMul, Int.reduceSub, Int.reduceNeg, Int.zero_add, Int.add_zero, hF.c, hx29 (), ra ()]) <;> omega)); (· (try simp (disch := omega) only [wr, true_and, and_true, sM_ne, sM_eq, sM_neR, sM_eqR, sK_upM, sK_upR, sL_upM, sL_upR, sN_upM, sN_upR, sT_upM, sT_upR, sN_upM, Int.reduceAdd, Int.reduceMul, Int.reduceSub, Int.reduceNeg, Int.zero_add, Int.add_zero, hF.c, hx29 (), ra ()]); exact rfl))
    | ((with_reducible refine rt_as ?_ ?_ ?_); (· simp (disch := omega) only [true_and, and_true, sM_ne, sM_eq, sM_neR, sM_eqR, sK_upM, sK_upR, sL_upM, sL_upR, sN_upM, sN_upR, sT_upM, sT_upR, sN_upM, Int.reduceAdd, Int.reduceMul, Int.reduceSub, Int.reduceNeg, Int.zero_add, Int.add_zero, hF.c, hx29 (), ra ()]); (· first | omega | ((try simp (disch := omega) only [wr, true_and, and_true, sM_ne, sM_eq, sM_neR, sM_eqR, sK_upM, sK_upR, sL_upM, sL_upR, sN_upM, sN_upR, sT_upM, sT_upR, sN_upM, Int.reduceAdd, Int.reduceMul, Int.reduceSub, Int.reduceNeg, Int.zero_add, Int.add_zero, hF.c, hx29 (), ra ()]) <;> omega)))
    | ((with_reducible refine rt_p ?_ ?_ ?_); (· simp (disch := omega) only [true_and, and_true, sM_ne, sM_eq, sM_neR, sM_eqR, sK_upM, sK_upR, sL_upM, sL_upR, sN_upM, sN_upR, sT_upM, sT_upR, sN_upM, Int.reduceAdd, Int.reduceMul, Int.reduceSub, Int.reduceNeg, Int.zero_add, Int.add_zero, hF.c, hx29 (), ra ()]); (· omega))
    | with_reducible refine rt_ret ?_
    | ((with_reducible apply rt_gwx); (· assumption); (· (try simp (disch := omega) only [wr, true_and, and_true, sM_ne, sM_eq, sM_neR, sM_eqR, sK_upM, sK_upR, sL_upM, sL_upR, sN_upM, sN_upR, sT_upM, sT_upR, sN_upM, Int.reduceAdd, Int.reduceMul, Int.reduceSub, Int.reduceNeg, Int.zero_add, Int.add_zero, hF.c, hx29 (), ra ()]); exact rfl)))
          rw [eor (), eand ()]
          refine rt_e (f_bitCount s hand) ?_
          rw [hcnt]
          refine rt_pos (by omega) ?_
          exact goon (fun q => hah (hcan.mp q).2)
      · repeat (first
    | with_reducible refine rt_b ?_
    | with_reducible refine rt_jn ?_
    | ((with_reducible refine rt_pos ?_ ?_); (· first | omega | ((try simp (disch := omega) only [wr, true_and, and_true, sM_ne, sM_eq, sM_neR, sM_eqR, sK_upM, sK_upR, sL_upM, sL_upR, sN_upM, sN_upR, sT_upM, sT_upR, sN_upM, Int.reduceAdd, Int.reduceMul, Int.reduceSub, Int.reduceNeg, Int.zero_add, Int.add_zero, hF.c, hx29 (), ra ()]) <;> omega)))
    | ((with_reducible refine rt_neg ?_ ?_); (· first | omega | ((try simp (disch := omega) only [wr, true_and, and_true, sM_ne, sM_eq, sM_neR, sM_eqR, sK_upM, sK_upR, sL_upM, sL_upR, sN_upM, sN_upR, sT_upM, sT_upR, sN_upM, Int.reduceAdd, Int.reduceMul, Int.reduceSub, Int.reduceNeg, Int.zero_add, Int.add_zero, hF.c, hx29 (), ra ()]) <;> omega)))
    | ((with_reducible refine rt_v ?_ ?_); · simp (disch := omega) only [true_and, and_true, sM_ne, sM_eq, sM_neR, sM_eqR, sK_upM, sK_upR, sL_upM, sL_upR, sN_upM, sN_upR, sT_upM, sT_upR, sN_upM, Int.reduceAdd, Int.reduceMul, Int.reduceSub, Int.reduceNeg, Int.zero_add, Int.add_zero, hF.c, hx29 (), ra ()])
    | ((with_reducible apply rt_gx); (· simp (disch := omega) only [true_and, and_true, sM_ne, sM_eq, sM_neR, sM_eqR, sK_upM, sK_upR, sL_upM, sL_upR, sN_upM, sN_upR, sT_upM, sT_upR, sN_upM, Int.reduceAdd, Int.reduceMul, Int.reduceSub, Int.reduceNeg, Int.zero_add, Int.add_zero, hF.c, hx29 (), ra ()]); (· (try simp (disch := omega) only [wr, true_and, and_true, sM_ne, sM_eq, sM_neR, sM_eqR, sK_upM, sK_upR, sL_upM, sL_upR, sN_upM, sN_upR, sT_upM, sT_upR, sN_upM, Int.reduceAdd, Int.reduceMul, Int.reduceSub, Int.reduceNeg, Int.zero_add, Int.add_zero, hF.c, hx29 (), ra ()]); exact rfl))
    | ((with_reducible apply rt_alx); (· simp (disch := omega) only [true_and, and_true, sM_ne, sM_eq, sM_neR, sM_eqR, sK_upM, sK_upR, sL_upM, sL_upR, sN_upM, sN_upR, sT_upM, sT_upR, sN_upM, Int.reduceAdd, Int.reduceMul, Int.reduceSub, Int.reduceNeg, Int.zero_add, Int.add_zero, hF.c, hx29 (), ra ()]); (· first | omega | ((try simp (disch := omega) only [wr, true_and, and_true, sM_ne, sM_eq, sM_neR, sM_eqR, sK_upM, sK_upR, sL_upM, sL_upR, sN_upM, sN_upR, sT_upM, sT_upR, sN_upM, Int.reduceAdd, Int.reduceMul, Int.reduceSub, Int.reduceNeg, Int.zero_add, Int.add_zero, hF.c, hx29 (), ra ()]) <;> omega)); (· (try simp (disch := omega) only [wr, true_and, and_true, sM_ne, sM_eq, sM_neR, sM_eqR, sK_upM, sK_upR, sL_upM, sL_upR, sN_upM, sN_upR, sT_upM, sT_upR, sN_upM, Int.reduceAdd, Int.reduceMul, Int.reduceSub, Int.reduceNeg, Int.zero_add, Int.add_zero, hF.c, hx29 (), ra ()]); exact rfl))
    | ((with_reducible refine rt_as ?_ ?_ ?_); (· simp (disch := omega) only [true_and, and_true, sM_ne, sM_eq, sM_neR, sM_eqR, sK_upM, sK_upR, sL_upM, sL_upR, sN_upM, sN_upR, sT_upM, sT_upR, sN_upM, Int.reduceAdd, Int.reduceMul, Int.reduceSub, Int.reduceNeg, Int.zero_add, Int.add_zero, hF.c, hx29 (), ra ()]); (· first | omega | ((try simp (disch := omega) only [wr, true_and, and_true, sM_ne, sM_eq, sM_neR, sM_eqR, sK_upM, sK_upR, sL_upM, sL_upR, sN_upM, sN_upR, sT_upM, sT_upR, sN_upM, Int.reduceAdd, Int.reduceMul, Int.reduceSub, Int.reduceNeg, Int.zero_add, Int.add_zero, hF.c, hx29 (), ra ()]) <;> omega)))
    | ((with_reducible refine rt_p ?_ ?_ ?_); (· simp (disch := omega) only [true_and, and_true, sM_ne, sM_eq, sM_neR, sM_eqR, sK_upM, sK_upR, sL_upM, sL_upR, sN_upM, sN_upR, sT_upM, sT_upR, sN_upM, Int.reduceAdd, Int.reduceMul, Int.reduceSub, Int.reduceNeg, Int.zero_add, Int.add_zero, hF.c, hx29 (), ra ()]); (· omega))
    | with_reducible refine rt_ret ?_
    | ((with_reducible apply rt_gwx); (· assumption); (· (try simp (disch := omega) only [wr, true_and, and_true, sM_ne, sM_eq, sM_neR, sM_eqR, sK_upM, sK_upR, sL_upM, sL_upR, sN_upM, sN_upR, sT_upM, sT_upR, sN_upM, Int.reduceAdd, Int.reduceMul, Int.reduceSub, Int.reduceNeg, Int.zero_add, Int.add_zero, hF.c, hx29 (), ra ()]); exact rfl)))
        rw [eor ()]
        exact goon (fun q => hmt (hcan.mp q).1)
