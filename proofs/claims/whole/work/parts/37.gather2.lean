/-! the class's line: all who come, and by minutes -/
theorem hd {p : Prop} (h : p) : Unit → p := fun _ => h
theorem wr1 (c : Nat) (h : c < 1000000) : wrap ((c : Int) + 1) = ((c + 1 : Nat) : Int) := by rw [wr (by omega) (by omega)]; omega
theorem camO_in {ln : Int → Int → Int} {s x : Int} (x0 : 0 ≤ x) (s0 : 0 ≤ s) (s1 : s < 4) (hl : ∀ g s : Int, 0 ≤ g → g < 2 → 0 ≤ s → s < 4 → 0 ≤ ln g s ∧ ln g s ≤ 9) : camO ln s x = -1 ∨ (0 ≤ camO ln s x ∧ camO ln s x < 24 ∧ x < 48) := by
  unfold camO
  by_cases h : x < 48
  · have q := hl (x / 24) s (by omega) (by omega) s0 s1
    rw [if_pos h]
    by_cases h2 : x % 24 + ln (x / 24) s < 24
    · rw [if_pos h2]; right; omega
    · rw [if_neg h2]; left; rfl
  · rw [if_neg h]; left; rfl
theorem LV.cm {σ : ZS} {W n k : Int} {ch so : Int → Int} {ln rt : Int → Int → Int} (h : LV σ W n k ch so ln rt) {c : Int} (c0 : 0 ≤ c) (c1 : c < n) : cmO ln so ch c = -1 ∨ (0 ≤ cmO ln so ch c ∧ cmO ln so ch c < 24 ∧ ch c < 48) := by
  obtain ⟨hF, ⟨w1, w2⟩, ⟨k0, k5, kk⟩, ⟨n1, n2, n3⟩, p1, ⟨q1, q2⟩, a1, a2, a3, a4⟩ := h
  exact camO_in (a1 c c0 c1).2.1 (a2 c c0 c1).2.1 (a2 c c0 c1).2.2 (fun g s g0 g1 s0 s1 => (a3 g s g0 g1 s0 s1).2)
theorem f_order {σ : ZS} {W c m s k : Int} (kk : sK σ W = wk k) (k0 : 0 ≤ k) (k5 : k ≤ 5) (c0 : 0 ≤ c) (c1 : c < 16) (m0 : 0 ≤ m) (m1 : m < 24) (s0 : 0 ≤ s) (s1 : s < 4) : zw σ W (fX10_order σ W c m s) (fX10_order σ W c m s) (fX3_order σ W c m s) (fX0_order σ W c m s) (fX1_order σ W c m s) (fX7_order σ W c m s) = some (ordO k c m s, σ) := by
  rw [zw_wk kk k0 k5]
  refine rt_is ?_
  unfold ordO fX7_order fX1_order fX0_order fX10_order fX3_order
  rcases (by omega : k = 0 ∨ k = 1 ∨ k = 2 ∨ k = 3 ∨ k = 4 ∨ k = 5) with rfl | rfl | rfl | rfl | rfl | rfl
  · repeat (first
    | with_reducible refine rt_b ?_
    | with_reducible refine rt_jn ?_
    | ((with_reducible refine rt_pos ?_ ?_); (· omega))
    | ((with_reducible refine rt_neg ?_ ?_); (· omega))
    | ((with_reducible refine rt_v ?_ ?_); · simp (disch := omega) only [true_and, and_true, sM_ne, sM_eq, sM_neR, sM_eqR, sK_upM, sK_upR, sL_upM, sL_upR, sN_upM, sN_upR, sT_upM, sT_upR, sN_upM, Int.reduceAdd, Int.reduceMul, Int.reduceSub, Int.reduceNeg, Int.zero_add, Int.add_zero])
    | ((with_reducible refine rt_g ?_ ?_); (· simp (disch := omega) only [true_and, and_true, sM_ne, sM_eq, sM_neR, sM_eqR, sK_upM, sK_upR, sL_upM, sL_upR, sN_upM, sN_upR, sT_upM, sT_upR, sN_upM, Int.reduceAdd, Int.reduceMul, Int.reduceSub, Int.reduceNeg, Int.zero_add, Int.add_zero]); (try simp (disch := omega) only [true_and, and_true, sM_ne, sM_eq, sM_neR, sM_eqR, sK_upM, sK_upR, sL_upM, sL_upR, sN_upM, sN_upR, sT_upM, sT_upR, sN_upM, Int.reduceAdd, Int.reduceMul, Int.reduceSub, Int.reduceNeg, Int.zero_add, Int.add_zero]))
    | ((with_reducible refine rt_al ?_ ?_ ?_); (· simp (disch := omega) only [true_and, and_true, sM_ne, sM_eq, sM_neR, sM_eqR, sK_upM, sK_upR, sL_upM, sL_upR, sN_upM, sN_upR, sT_upM, sT_upR, sN_upM, Int.reduceAdd, Int.reduceMul, Int.reduceSub, Int.reduceNeg, Int.zero_add, Int.add_zero]); (· first | omega | ((try simp (disch := omega) only [wr, true_and, and_true, sM_ne, sM_eq, sM_neR, sM_eqR, sK_upM, sK_upR, sL_upM, sL_upR, sN_upM, sN_upR, sT_upM, sT_upR, sN_upM, Int.reduceAdd, Int.reduceMul, Int.reduceSub, Int.reduceNeg, Int.zero_add, Int.add_zero]) <;> omega)); (try simp (disch := omega) only [true_and, and_true, sM_ne, sM_eq, sM_neR, sM_eqR, sK_upM, sK_upR, sL_upM, sL_upR, sN_upM, sN_upR, sT_upM, sT_upR, sN_upM, Int.reduceAdd, Int.reduceMul, Int.reduceSub, Int.reduceNeg, Int.zero_add, Int.add_zero]))
    | ((with_reducible refine rt_as ?_ ?_ ?_); (· simp (disch := omega) only [true_and, and_true, sM_ne, sM_eq, sM_neR, sM_eqR, sK_upM, sK_upR, sL_upM, sL_upR, sN_upM, sN_upR, sT_upM, sT_upR, sN_upM, Int.reduceAdd, Int.reduceMul, Int.reduceSub, Int.reduceNeg, Int.zero_add, Int.add_zero]); (· first | omega | ((try simp (disch := omega) only [wr, true_and, and_true, sM_ne, sM_eq, sM_neR, sM_eqR, sK_upM, sK_upR, sL_upM, sL_upR, sN_upM, sN_upR, sT_upM, sT_upR, sN_upM, Int.reduceAdd, Int.reduceMul, Int.reduceSub, Int.reduceNeg, Int.zero_add, Int.add_zero]) <;> omega)))
    | ((with_reducible refine rt_p ?_ ?_ ?_); (· simp (disch := omega) only [true_and, and_true, sM_ne, sM_eq, sM_neR, sM_eqR, sK_upM, sK_upR, sL_upM, sL_upR, sN_upM, sN_upR, sT_upM, sT_upR, sN_upM, Int.reduceAdd, Int.reduceMul, Int.reduceSub, Int.reduceNeg, Int.zero_add, Int.add_zero]); (· omega))
    | with_reducible refine rt_ret ?_
    | ((with_reducible refine rt_gw ?_ ?_); (· assumption); (try simp (disch := omega) only [true_and, and_true, sM_ne, sM_eq, sM_neR, sM_eqR, sK_upM, sK_upR, sL_upM, sL_upR, sN_upM, sN_upR, sT_upM, sT_upR, sN_upM, Int.reduceAdd, Int.reduceMul, Int.reduceSub, Int.reduceNeg, Int.zero_add, Int.add_zero])))
    exact ⟨by simp, rfl⟩
  · repeat (first
    | with_reducible refine rt_b ?_
    | with_reducible refine rt_jn ?_
    | ((with_reducible refine rt_pos ?_ ?_); (· omega))
    | ((with_reducible refine rt_neg ?_ ?_); (· omega))
    | ((with_reducible refine rt_v ?_ ?_); · simp (disch := omega) only [true_and, and_true, sM_ne, sM_eq, sM_neR, sM_eqR, sK_upM, sK_upR, sL_upM, sL_upR, sN_upM, sN_upR, sT_upM, sT_upR, sN_upM, Int.reduceAdd, Int.reduceMul, Int.reduceSub, Int.reduceNeg, Int.zero_add, Int.add_zero])
    | ((with_reducible refine rt_g ?_ ?_); (· simp (disch := omega) only [true_and, and_true, sM_ne, sM_eq, sM_neR, sM_eqR, sK_upM, sK_upR, sL_upM, sL_upR, sN_upM, sN_upR, sT_upM, sT_upR, sN_upM, Int.reduceAdd, Int.reduceMul, Int.reduceSub, Int.reduceNeg, Int.zero_add, Int.add_zero]); (try simp (disch := omega) only [true_and, and_true, sM_ne, sM_eq, sM_neR, sM_eqR, sK_upM, sK_upR, sL_upM, sL_upR, sN_upM, sN_upR, sT_upM, sT_upR, sN_upM, Int.reduceAdd, Int.reduceMul, Int.reduceSub, Int.reduceNeg, Int.zero_add, Int.add_zero]))
    | ((with_reducible refine rt_al ?_ ?_ ?_); (· simp (disch := omega) only [true_and, and_true, sM_ne, sM_eq, sM_neR, sM_eqR, sK_upM, sK_upR, sL_upM, sL_upR, sN_upM, sN_upR, sT_upM, sT_upR, sN_upM, Int.reduceAdd, Int.reduceMul, Int.reduceSub, Int.reduceNeg, Int.zero_add, Int.add_zero]); (· first | omega | ((try simp (disch := omega) only [wr, true_and, and_true, sM_ne, sM_eq, sM_neR, sM_eqR, sK_upM, sK_upR, sL_upM, sL_upR, sN_upM, sN_upR, sT_upM, sT_upR, sN_upM, Int.reduceAdd, Int.reduceMul, Int.reduceSub, Int.reduceNeg, Int.zero_add, Int.add_zero]) <;> omega)); (try simp (disch := omega) only [true_and, and_true, sM_ne, sM_eq, sM_neR, sM_eqR, sK_upM, sK_upR, sL_upM, sL_upR, sN_upM, sN_upR, sT_upM, sT_upR, sN_upM, Int.reduceAdd, Int.reduceMul, Int.reduceSub, Int.reduceNeg, Int.zero_add, Int.add_zero]))
    | ((with_reducible refine rt_as ?_ ?_ ?_); (· simp (disch := omega) only [true_and, and_true, sM_ne, sM_eq, sM_neR, sM_eqR, sK_upM, sK_upR, sL_upM, sL_upR, sN_upM, sN_upR, sT_upM, sT_upR, sN_upM, Int.reduceAdd, Int.reduceMul, Int.reduceSub, Int.reduceNeg, Int.zero_add, Int.add_zero]); (· first | omega | ((try simp (disch := omega) only [wr, true_and, and_true, sM_ne, sM_eq, sM_neR, sM_eqR, sK_upM, sK_upR, sL_upM, sL_upR, sN_upM, sN_upR, sT_upM, sT_upR, sN_upM, Int.reduceAdd, Int.reduceMul, Int.reduceSub, Int.reduceNeg, Int.zero_add, Int.add_zero]) <;> omega)))
    | ((with_reducible refine rt_p ?_ ?_ ?_); (· simp (disch := omega) only [true_and, and_true, sM_ne, sM_eq, sM_neR, sM_eqR, sK_upM, sK_upR, sL_upM, sL_upR, sN_upM, sN_upR, sT_upM, sT_upR, sN_upM, Int.reduceAdd, Int.reduceMul, Int.reduceSub, Int.reduceNeg, Int.zero_add, Int.add_zero]); (· omega))
    | with_reducible refine rt_ret ?_
    | ((with_reducible refine rt_gw ?_ ?_); (· assumption); (try simp (disch := omega) only [true_and, and_true, sM_ne, sM_eq, sM_neR, sM_eqR, sK_upM, sK_upR, sL_upM, sL_upR, sN_upM, sN_upR, sT_upM, sT_upR, sN_upM, Int.reduceAdd, Int.reduceMul, Int.reduceSub, Int.reduceNeg, Int.zero_add, Int.add_zero])))
    exact ⟨by simp, rfl⟩
  · repeat (first
    | with_reducible refine rt_b ?_
    | with_reducible refine rt_jn ?_
    | ((with_reducible refine rt_pos ?_ ?_); (· omega))
    | ((with_reducible refine rt_neg ?_ ?_); (· omega))
    | ((with_reducible refine rt_v ?_ ?_); · simp (disch := omega) only [true_and, and_true, sM_ne, sM_eq, sM_neR, sM_eqR, sK_upM, sK_upR, sL_upM, sL_upR, sN_upM, sN_upR, sT_upM, sT_upR, sN_upM, Int.reduceAdd, Int.reduceMul, Int.reduceSub, Int.reduceNeg, Int.zero_add, Int.add_zero])
    | ((with_reducible refine rt_g ?_ ?_); (· simp (disch := omega) only [true_and, and_true, sM_ne, sM_eq, sM_neR, sM_eqR, sK_upM, sK_upR, sL_upM, sL_upR, sN_upM, sN_upR, sT_upM, sT_upR, sN_upM, Int.reduceAdd, Int.reduceMul, Int.reduceSub, Int.reduceNeg, Int.zero_add, Int.add_zero]); (try simp (disch := omega) only [true_and, and_true, sM_ne, sM_eq, sM_neR, sM_eqR, sK_upM, sK_upR, sL_upM, sL_upR, sN_upM, sN_upR, sT_upM, sT_upR, sN_upM, Int.reduceAdd, Int.reduceMul, Int.reduceSub, Int.reduceNeg, Int.zero_add, Int.add_zero]))
    | ((with_reducible refine rt_al ?_ ?_ ?_); (· simp (disch := omega) only [true_and, and_true, sM_ne, sM_eq, sM_neR, sM_eqR, sK_upM, sK_upR, sL_upM, sL_upR, sN_upM, sN_upR, sT_upM, sT_upR, sN_upM, Int.reduceAdd, Int.reduceMul, Int.reduceSub, Int.reduceNeg, Int.zero_add, Int.add_zero]); (· first | omega | ((try simp (disch := omega) only [wr, true_and, and_true, sM_ne, sM_eq, sM_neR, sM_eqR, sK_upM, sK_upR, sL_upM, sL_upR, sN_upM, sN_upR, sT_upM, sT_upR, sN_upM, Int.reduceAdd, Int.reduceMul, Int.reduceSub, Int.reduceNeg, Int.zero_add, Int.add_zero]) <;> omega)); (try simp (disch := omega) only [true_and, and_true, sM_ne, sM_eq, sM_neR, sM_eqR, sK_upM, sK_upR, sL_upM, sL_upR, sN_upM, sN_upR, sT_upM, sT_upR, sN_upM, Int.reduceAdd, Int.reduceMul, Int.reduceSub, Int.reduceNeg, Int.zero_add, Int.add_zero]))
    | ((with_reducible refine rt_as ?_ ?_ ?_); (· simp (disch := omega) only [true_and, and_true, sM_ne, sM_eq, sM_neR, sM_eqR, sK_upM, sK_upR, sL_upM, sL_upR, sN_upM, sN_upR, sT_upM, sT_upR, sN_upM, Int.reduceAdd, Int.reduceMul, Int.reduceSub, Int.reduceNeg, Int.zero_add, Int.add_zero]); (· first | omega | ((try simp (disch := omega) only [wr, true_and, and_true, sM_ne, sM_eq, sM_neR, sM_eqR, sK_upM, sK_upR, sL_upM, sL_upR, sN_upM, sN_upR, sT_upM, sT_upR, sN_upM, Int.reduceAdd, Int.reduceMul, Int.reduceSub, Int.reduceNeg, Int.zero_add, Int.add_zero]) <;> omega)))
    | ((with_reducible refine rt_p ?_ ?_ ?_); (· simp (disch := omega) only [true_and, and_true, sM_ne, sM_eq, sM_neR, sM_eqR, sK_upM, sK_upR, sL_upM, sL_upR, sN_upM, sN_upR, sT_upM, sT_upR, sN_upM, Int.reduceAdd, Int.reduceMul, Int.reduceSub, Int.reduceNeg, Int.zero_add, Int.add_zero]); (· omega))
    | with_reducible refine rt_ret ?_
    | ((with_reducible refine rt_gw ?_ ?_); (· assumption); (try simp (disch := omega) only [true_and, and_true, sM_ne, sM_eq, sM_neR, sM_eqR, sK_upM, sK_upR, sL_upM, sL_upR, sN_upM, sN_upR, sT_upM, sT_upR, sN_upM, Int.reduceAdd, Int.reduceMul, Int.reduceSub, Int.reduceNeg, Int.zero_add, Int.add_zero])))
    exact ⟨by simp, rfl⟩
  · have e : sK σ W = 0 := by rw [kk]; rfl
    repeat (first
    | with_reducible refine rt_b ?_
    | with_reducible refine rt_jn ?_
    | ((with_reducible refine rt_pos ?_ ?_); (· omega))
    | ((with_reducible refine rt_neg ?_ ?_); (· omega))
    | ((with_reducible refine rt_v ?_ ?_); · simp (disch := omega) only [true_and, and_true, sM_ne, sM_eq, sM_neR, sM_eqR, sK_upM, sK_upR, sL_upM, sL_upR, sN_upM, sN_upR, sT_upM, sT_upR, sN_upM, Int.reduceAdd, Int.reduceMul, Int.reduceSub, Int.reduceNeg, Int.zero_add, Int.add_zero, e])
    | ((with_reducible refine rt_g ?_ ?_); (· simp (disch := omega) only [true_and, and_true, sM_ne, sM_eq, sM_neR, sM_eqR, sK_upM, sK_upR, sL_upM, sL_upR, sN_upM, sN_upR, sT_upM, sT_upR, sN_upM, Int.reduceAdd, Int.reduceMul, Int.reduceSub, Int.reduceNeg, Int.zero_add, Int.add_zero, e]); (try simp (disch := omega) only [true_and, and_true, sM_ne, sM_eq, sM_neR, sM_eqR, sK_upM, sK_upR, sL_upM, sL_upR, sN_upM, sN_upR, sT_upM, sT_upR, sN_upM, Int.reduceAdd, Int.reduceMul, Int.reduceSub, Int.reduceNeg, Int.zero_add, Int.add_zero, e]))
    | ((with_reducible refine rt_al ?_ ?_ ?_); (· simp (disch := omega) only [true_and, and_true, sM_ne, sM_eq, sM_neR, sM_eqR, sK_upM, sK_upR, sL_upM, sL_upR, sN_upM, sN_upR, sT_upM, sT_upR, sN_upM, Int.reduceAdd, Int.reduceMul, Int.reduceSub, Int.reduceNeg, Int.zero_add, Int.add_zero, e]); (· first | omega | ((try simp (disch := omega) only [wr, true_and, and_true, sM_ne, sM_eq, sM_neR, sM_eqR, sK_upM, sK_upR, sL_upM, sL_upR, sN_upM, sN_upR, sT_upM, sT_upR, sN_upM, Int.reduceAdd, Int.reduceMul, Int.reduceSub, Int.reduceNeg, Int.zero_add, Int.add_zero, e]) <;> omega)); (try simp (disch := omega) only [true_and, and_true, sM_ne, sM_eq, sM_neR, sM_eqR, sK_upM, sK_upR, sL_upM, sL_upR, sN_upM, sN_upR, sT_upM, sT_upR, sN_upM, Int.reduceAdd, Int.reduceMul, Int.reduceSub, Int.reduceNeg, Int.zero_add, Int.add_zero, e]))
    | ((with_reducible refine rt_as ?_ ?_ ?_); (· simp (disch := omega) only [true_and, and_true, sM_ne, sM_eq, sM_neR, sM_eqR, sK_upM, sK_upR, sL_upM, sL_upR, sN_upM, sN_upR, sT_upM, sT_upR, sN_upM, Int.reduceAdd, Int.reduceMul, Int.reduceSub, Int.reduceNeg, Int.zero_add, Int.add_zero, e]); (· first | omega | ((try simp (disch := omega) only [wr, true_and, and_true, sM_ne, sM_eq, sM_neR, sM_eqR, sK_upM, sK_upR, sL_upM, sL_upR, sN_upM, sN_upR, sT_upM, sT_upR, sN_upM, Int.reduceAdd, Int.reduceMul, Int.reduceSub, Int.reduceNeg, Int.zero_add, Int.add_zero, e]) <;> omega)))
    | ((with_reducible refine rt_p ?_ ?_ ?_); (· simp (disch := omega) only [true_and, and_true, sM_ne, sM_eq, sM_neR, sM_eqR, sK_upM, sK_upR, sL_upM, sL_upR, sN_upM, sN_upR, sT_upM, sT_upR, sN_upM, Int.reduceAdd, Int.reduceMul, Int.reduceSub, Int.reduceNeg, Int.zero_add, Int.add_zero, e]); (· omega))
    | with_reducible refine rt_ret ?_
    | ((with_reducible refine rt_gw ?_ ?_); (· assumption); (try simp (disch := omega) only [true_and, and_true, sM_ne, sM_eq, sM_neR, sM_eqR, sK_upM, sK_upR, sL_upM, sL_upR, sN_upM, sN_upR, sT_upM, sT_upR, sN_upM, Int.reduceAdd, Int.reduceMul, Int.reduceSub, Int.reduceNeg, Int.zero_add, Int.add_zero, e])))
    refine ⟨?_, rfl⟩
    rw [wr (x := 5 * c) (by omega) (by omega), wr (by omega) (by omega), tmod_n (by omega)]
    simp
  · have e : sK σ W = 1 := by rw [kk]; rfl
    repeat (first
    | with_reducible refine rt_b ?_
    | with_reducible refine rt_jn ?_
    | ((with_reducible refine rt_pos ?_ ?_); (· omega))
    | ((with_reducible refine rt_neg ?_ ?_); (· omega))
    | ((with_reducible refine rt_v ?_ ?_); · simp (disch := omega) only [true_and, and_true, sM_ne, sM_eq, sM_neR, sM_eqR, sK_upM, sK_upR, sL_upM, sL_upR, sN_upM, sN_upR, sT_upM, sT_upR, sN_upM, Int.reduceAdd, Int.reduceMul, Int.reduceSub, Int.reduceNeg, Int.zero_add, Int.add_zero, e])
    | ((with_reducible refine rt_g ?_ ?_); (· simp (disch := omega) only [true_and, and_true, sM_ne, sM_eq, sM_neR, sM_eqR, sK_upM, sK_upR, sL_upM, sL_upR, sN_upM, sN_upR, sT_upM, sT_upR, sN_upM, Int.reduceAdd, Int.reduceMul, Int.reduceSub, Int.reduceNeg, Int.zero_add, Int.add_zero, e]); (try simp (disch := omega) only [true_and, and_true, sM_ne, sM_eq, sM_neR, sM_eqR, sK_upM, sK_upR, sL_upM, sL_upR, sN_upM, sN_upR, sT_upM, sT_upR, sN_upM, Int.reduceAdd, Int.reduceMul, Int.reduceSub, Int.reduceNeg, Int.zero_add, Int.add_zero, e]))
    | ((with_reducible refine rt_al ?_ ?_ ?_); (· simp (disch := omega) only [true_and, and_true, sM_ne, sM_eq, sM_neR, sM_eqR, sK_upM, sK_upR, sL_upM, sL_upR, sN_upM, sN_upR, sT_upM, sT_upR, sN_upM, Int.reduceAdd, Int.reduceMul, Int.reduceSub, Int.reduceNeg, Int.zero_add, Int.add_zero, e]); (· first | omega | ((try simp (disch := omega) only [wr, true_and, and_true, sM_ne, sM_eq, sM_neR, sM_eqR, sK_upM, sK_upR, sL_upM, sL_upR, sN_upM, sN_upR, sT_upM, sT_upR, sN_upM, Int.reduceAdd, Int.reduceMul, Int.reduceSub, Int.reduceNeg, Int.zero_add, Int.add_zero, e]) <;> omega)); (try simp (disch := omega) only [true_and, and_true, sM_ne, sM_eq, sM_neR, sM_eqR, sK_upM, sK_upR, sL_upM, sL_upR, sN_upM, sN_upR, sT_upM, sT_upR, sN_upM, Int.reduceAdd, Int.reduceMul, Int.reduceSub, Int.reduceNeg, Int.zero_add, Int.add_zero, e]))
    | ((with_reducible refine rt_as ?_ ?_ ?_); (· simp (disch := omega) only [true_and, and_true, sM_ne, sM_eq, sM_neR, sM_eqR, sK_upM, sK_upR, sL_upM, sL_upR, sN_upM, sN_upR, sT_upM, sT_upR, sN_upM, Int.reduceAdd, Int.reduceMul, Int.reduceSub, Int.reduceNeg, Int.zero_add, Int.add_zero, e]); (· first | omega | ((try simp (disch := omega) only [wr, true_and, and_true, sM_ne, sM_eq, sM_neR, sM_eqR, sK_upM, sK_upR, sL_upM, sL_upR, sN_upM, sN_upR, sT_upM, sT_upR, sN_upM, Int.reduceAdd, Int.reduceMul, Int.reduceSub, Int.reduceNeg, Int.zero_add, Int.add_zero, e]) <;> omega)))
    | ((with_reducible refine rt_p ?_ ?_ ?_); (· simp (disch := omega) only [true_and, and_true, sM_ne, sM_eq, sM_neR, sM_eqR, sK_upM, sK_upR, sL_upM, sL_upR, sN_upM, sN_upR, sT_upM, sT_upR, sN_upM, Int.reduceAdd, Int.reduceMul, Int.reduceSub, Int.reduceNeg, Int.zero_add, Int.add_zero, e]); (· omega))
    | with_reducible refine rt_ret ?_
    | ((with_reducible refine rt_gw ?_ ?_); (· assumption); (try simp (disch := omega) only [true_and, and_true, sM_ne, sM_eq, sM_neR, sM_eqR, sK_upM, sK_upR, sL_upM, sL_upR, sN_upM, sN_upR, sT_upM, sT_upR, sN_upM, Int.reduceAdd, Int.reduceMul, Int.reduceSub, Int.reduceNeg, Int.zero_add, Int.add_zero, e])))
    refine ⟨?_, rfl⟩
    rw [wr (by omega) (by omega)]
    simp
  · have e : sK σ W = 7 := by rw [kk]; rfl
    repeat (first
    | with_reducible refine rt_b ?_
    | with_reducible refine rt_jn ?_
    | ((with_reducible refine rt_pos ?_ ?_); (· omega))
    | ((with_reducible refine rt_neg ?_ ?_); (· omega))
    | ((with_reducible refine rt_v ?_ ?_); · simp (disch := omega) only [true_and, and_true, sM_ne, sM_eq, sM_neR, sM_eqR, sK_upM, sK_upR, sL_upM, sL_upR, sN_upM, sN_upR, sT_upM, sT_upR, sN_upM, Int.reduceAdd, Int.reduceMul, Int.reduceSub, Int.reduceNeg, Int.zero_add, Int.add_zero, e])
    | ((with_reducible refine rt_g ?_ ?_); (· simp (disch := omega) only [true_and, and_true, sM_ne, sM_eq, sM_neR, sM_eqR, sK_upM, sK_upR, sL_upM, sL_upR, sN_upM, sN_upR, sT_upM, sT_upR, sN_upM, Int.reduceAdd, Int.reduceMul, Int.reduceSub, Int.reduceNeg, Int.zero_add, Int.add_zero, e]); (try simp (disch := omega) only [true_and, and_true, sM_ne, sM_eq, sM_neR, sM_eqR, sK_upM, sK_upR, sL_upM, sL_upR, sN_upM, sN_upR, sT_upM, sT_upR, sN_upM, Int.reduceAdd, Int.reduceMul, Int.reduceSub, Int.reduceNeg, Int.zero_add, Int.add_zero, e]))
    | ((with_reducible refine rt_al ?_ ?_ ?_); (· simp (disch := omega) only [true_and, and_true, sM_ne, sM_eq, sM_neR, sM_eqR, sK_upM, sK_upR, sL_upM, sL_upR, sN_upM, sN_upR, sT_upM, sT_upR, sN_upM, Int.reduceAdd, Int.reduceMul, Int.reduceSub, Int.reduceNeg, Int.zero_add, Int.add_zero, e]); (· first | omega | ((try simp (disch := omega) only [wr, true_and, and_true, sM_ne, sM_eq, sM_neR, sM_eqR, sK_upM, sK_upR, sL_upM, sL_upR, sN_upM, sN_upR, sT_upM, sT_upR, sN_upM, Int.reduceAdd, Int.reduceMul, Int.reduceSub, Int.reduceNeg, Int.zero_add, Int.add_zero, e]) <;> omega)); (try simp (disch := omega) only [true_and, and_true, sM_ne, sM_eq, sM_neR, sM_eqR, sK_upM, sK_upR, sL_upM, sL_upR, sN_upM, sN_upR, sT_upM, sT_upR, sN_upM, Int.reduceAdd, Int.reduceMul, Int.reduceSub, Int.reduceNeg, Int.zero_add, Int.add_zero, e]))
    | ((with_reducible refine rt_as ?_ ?_ ?_); (· simp (disch := omega) only [true_and, and_true, sM_ne, sM_eq, sM_neR, sM_eqR, sK_upM, sK_upR, sL_upM, sL_upR, sN_upM, sN_upR, sT_upM, sT_upR, sN_upM, Int.reduceAdd, Int.reduceMul, Int.reduceSub, Int.reduceNeg, Int.zero_add, Int.add_zero, e]); (· first | omega | ((try simp (disch := omega) only [wr, true_and, and_true, sM_ne, sM_eq, sM_neR, sM_eqR, sK_upM, sK_upR, sL_upM, sL_upR, sN_upM, sN_upR, sT_upM, sT_upR, sN_upM, Int.reduceAdd, Int.reduceMul, Int.reduceSub, Int.reduceNeg, Int.zero_add, Int.add_zero, e]) <;> omega)))
    | ((with_reducible refine rt_p ?_ ?_ ?_); (· simp (disch := omega) only [true_and, and_true, sM_ne, sM_eq, sM_neR, sM_eqR, sK_upM, sK_upR, sL_upM, sL_upR, sN_upM, sN_upR, sT_upM, sT_upR, sN_upM, Int.reduceAdd, Int.reduceMul, Int.reduceSub, Int.reduceNeg, Int.zero_add, Int.add_zero, e]); (· omega))
    | with_reducible refine rt_ret ?_
    | ((with_reducible refine rt_gw ?_ ?_); (· assumption); (try simp (disch := omega) only [true_and, and_true, sM_ne, sM_eq, sM_neR, sM_eqR, sK_upM, sK_upR, sL_upM, sL_upR, sN_upM, sN_upR, sT_upM, sT_upR, sN_upM, Int.reduceAdd, Int.reduceMul, Int.reduceSub, Int.reduceNeg, Int.zero_add, Int.add_zero, e])))
    refine ⟨?_, rfl⟩
    rw [wr (x := 3 * s) (by omega) (by omega), wr (by omega) (by omega)]
    simp
def gaS (a i : Int) : Prop := a = 18 ∨ (22 ≤ a ∧ a ≤ 23) ∨ (25 ≤ a ∧ a ≤ 27)
theorem gaS_ln : ∀ a i, gaS a i → lnS a i := by
  intro a i h
  unfold gaS at h
  unfold lnS
  omega
theorem Lst.ch {S : Int → Int → Prop} {σ τ : ZS} (hF : FxD σ) {g : Int} {key : Int → Int} {l : List Int} (g0 : 0 ≤ g) (g1 : g < 2) (c : Ch S σ τ) (h1 : ∀ i, ¬ S (22 + g) i) (h2 : ∀ i, ¬ S (25 + g) i) (h3 : ¬ S 27 g) (h : Lst σ g key l) : Lst τ g key l := by
  have hn := hF.2.2.2
  refine ⟨fun j hj => ?_, ?_⟩
  · rw [c.M (by omega) (h1 _), c.M (by omega) (h2 _)]; exact h.1 j hj
  · rw [c.M (by omega) h3]; exact h.2
theorem l_gather16 {σ : ZS} {W n k w : Int} {ch so : Int → Int} {ln rt : Int → Int → Int} {K : ZS → Option (Int × ZS)} {P : Int → ZS → Prop}
    (hK : ∀ τ : ZS, LV τ W n k ch so ln rt → Ch gaS σ τ → (∀ j : Int, 0 ≤ j → j < n → sM τ 18 j = cmO ln so ch j) → (∀ g : Int, 0 ≤ g → g < 2 → Lst τ g (keyO k (cmO ln so ch) so) (rk (keyO k (cmO ln so ch) so) (pG ch (cmO ln so ch) w g) n.toNat)) → Rt (K τ) P) :
    ∀ (N c : Nat) (s : ZS), LV s W n k ch so ln rt → (c : Int) ≤ n → n - (c : Int) < (N : Int) → Ch gaS σ s → (∀ j : Int, 0 ≤ j → j < (c : Int) → sM s 18 j = cmO ln so ch j) → (∀ g : Int, 0 ≤ g → g < 2 → Lst s g (keyO k (cmO ln so ch) so) (rk (keyO k (cmO ln so ch) so) (pG ch (cmO ln so ch) w g) c)) → Rt (lX2_gather_16 4 W w K N s (c : Int)) P
  | 0, c, s, _, h1, h2, _, _, _ => by omega
  | N + 1, c, s, hV, h1, h2, hc, h18, hg => by
    have hV0 := hV
    obtain ⟨hF, ⟨w1, w2⟩, ⟨k0, k5, kk⟩, ⟨n1, n2, n3⟩, p1, ⟨q1, q2⟩, a1, a2, a3, a4⟩ := hV
    have hw : wkn s W := wk_w kk k0 k5
    replace n1 := hd n1
    replace p1 := hd p1
    replace q1 := hd q1
    replace q2 := hd q2
    rw [lX2_gather_16]
    repeat (first
    | with_reducible refine rt_b ?_
    | with_reducible refine rt_jn ?_
    | ((with_reducible refine rt_pos ?_ ?_); (· omega))
    | ((with_reducible refine rt_neg ?_ ?_); (· omega))
    | ((with_reducible refine rt_v ?_ ?_); · simp (disch := omega) only [true_and, and_true, sM_ne, sM_eq, sM_neR, sM_eqR, sK_upM, sK_upR, sL_upM, sL_upR, sN_upM, sN_upR, sT_upM, sT_upR, sN_upM, Int.reduceAdd, Int.reduceMul, Int.reduceSub, Int.reduceNeg, Int.zero_add, Int.add_zero, hF.c, n1 (), p1 ()])
    | ((with_reducible refine rt_g ?_ ?_); (· simp (disch := omega) only [true_and, and_true, sM_ne, sM_eq, sM_neR, sM_eqR, sK_upM, sK_upR, sL_upM, sL_upR, sN_upM, sN_upR, sT_upM, sT_upR, sN_upM, Int.reduceAdd, Int.reduceMul, Int.reduceSub, Int.reduceNeg, Int.zero_add, Int.add_zero, hF.c, n1 (), p1 ()]); (try simp (disch := omega) only [true_and, and_true, sM_ne, sM_eq, sM_neR, sM_eqR, sK_upM, sK_upR, sL_upM, sL_upR, sN_upM, sN_upR, sT_upM, sT_upR, sN_upM, Int.reduceAdd, Int.reduceMul, Int.reduceSub, Int.reduceNeg, Int.zero_add, Int.add_zero, hF.c, n1 (), p1 ()]))
    | ((with_reducible refine rt_al ?_ ?_ ?_); (· simp (disch := omega) only [true_and, and_true, sM_ne, sM_eq, sM_neR, sM_eqR, sK_upM, sK_upR, sL_upM, sL_upR, sN_upM, sN_upR, sT_upM, sT_upR, sN_upM, Int.reduceAdd, Int.reduceMul, Int.reduceSub, Int.reduceNeg, Int.zero_add, Int.add_zero, hF.c, n1 (), p1 ()]); (· first | omega | ((try simp (disch := omega) only [wr, true_and, and_true, sM_ne, sM_eq, sM_neR, sM_eqR, sK_upM, sK_upR, sL_upM, sL_upR, sN_upM, sN_upR, sT_upM, sT_upR, sN_upM, Int.reduceAdd, Int.reduceMul, Int.reduceSub, Int.reduceNeg, Int.zero_add, Int.add_zero, hF.c, n1 (), p1 ()]) <;> omega)); (try simp (disch := omega) only [true_and, and_true, sM_ne, sM_eq, sM_neR, sM_eqR, sK_upM, sK_upR, sL_upM, sL_upR, sN_upM, sN_upR, sT_upM, sT_upR, sN_upM, Int.reduceAdd, Int.reduceMul, Int.reduceSub, Int.reduceNeg, Int.zero_add, Int.add_zero, hF.c, n1 (), p1 ()]))
    | ((with_reducible refine rt_as ?_ ?_ ?_); (· simp (disch := omega) only [true_and, and_true, sM_ne, sM_eq, sM_neR, sM_eqR, sK_upM, sK_upR, sL_upM, sL_upR, sN_upM, sN_upR, sT_upM, sT_upR, sN_upM, Int.reduceAdd, Int.reduceMul, Int.reduceSub, Int.reduceNeg, Int.zero_add, Int.add_zero, hF.c, n1 (), p1 ()]); (· first | omega | ((try simp (disch := omega) only [wr, true_and, and_true, sM_ne, sM_eq, sM_neR, sM_eqR, sK_upM, sK_upR, sL_upM, sL_upR, sN_upM, sN_upR, sT_upM, sT_upR, sN_upM, Int.reduceAdd, Int.reduceMul, Int.reduceSub, Int.reduceNeg, Int.zero_add, Int.add_zero, hF.c, n1 (), p1 ()]) <;> omega)))
    | ((with_reducible refine rt_p ?_ ?_ ?_); (· simp (disch := omega) only [true_and, and_true, sM_ne, sM_eq, sM_neR, sM_eqR, sK_upM, sK_upR, sL_upM, sL_upR, sN_upM, sN_upR, sT_upM, sT_upR, sN_upM, Int.reduceAdd, Int.reduceMul, Int.reduceSub, Int.reduceNeg, Int.zero_add, Int.add_zero, hF.c, n1 (), p1 ()]); (· omega))
    | with_reducible refine rt_ret ?_
    | ((with_reducible refine rt_gw ?_ ?_); (· assumption); (try simp (disch := omega) only [true_and, and_true, sM_ne, sM_eq, sM_neR, sM_eqR, sK_upM, sK_upR, sL_upM, sL_upR, sN_upM, sN_upR, sT_upM, sT_upR, sN_upM, Int.reduceAdd, Int.reduceMul, Int.reduceSub, Int.reduceNeg, Int.zero_add, Int.add_zero, hF.c, n1 (), p1 ()])))
    by_cases he : n ≤ (c : Int)
    · refine rt_pos he (hK s hV0 hc (fun j j0 j1 => h18 j j0 (by omega)) (fun g g0 g1 => ?_))
      have : n.toNat = c := by omega
      rw [this]; exact hg g g0 g1
    · refine rt_neg he ?_
      obtain ⟨c1, c2, c3⟩ := a1 (c : Int) (by omega) (by omega)
      obtain ⟨s1, s2, s3⟩ := a2 (c : Int) (by omega) (by omega)
      replace c1 := hd c1
      replace s1 := hd s1
      have next : ∀ s' : ZS, LV s' W n k ch so ln rt → Ch gaS σ s' → (∀ j : Int, 0 ≤ j → j < ((c + 1 : Nat) : Int) → sM s' 18 j = cmO ln so ch j) → (∀ g : Int, 0 ≤ g → g < 2 → Lst s' g (keyO k (cmO ln so ch) so) (rk (keyO k (cmO ln so ch) so) (pG ch (cmO ln so ch) w g) (c + 1))) → Rt (lX2_gather_16 4 W w K N s' (wrap ((c : Int) + 1))) P := by
        intro s' b1 b2 b3 b4
        rw [wr1 c (by omega)]
        exact l_gather16 hK N (c + 1) s' b1 (by omega) (by omega) b2 b3 b4
      repeat (first
    | with_reducible refine rt_b ?_
    | with_reducible refine rt_jn ?_
    | ((with_reducible refine rt_pos ?_ ?_); (· omega))
    | ((with_reducible refine rt_neg ?_ ?_); (· omega))
    | ((with_reducible refine rt_v ?_ ?_); · simp (disch := omega) only [true_and, and_true, sM_ne, sM_eq, sM_neR, sM_eqR, sK_upM, sK_upR, sL_upM, sL_upR, sN_upM, sN_upR, sT_upM, sT_upR, sN_upM, Int.reduceAdd, Int.reduceMul, Int.reduceSub, Int.reduceNeg, Int.zero_add, Int.add_zero, hF.c, n1 (), p1 (), c1 (), q1 (), q2 ()])
    | ((with_reducible refine rt_g ?_ ?_); (· simp (disch := omega) only [true_and, and_true, sM_ne, sM_eq, sM_neR, sM_eqR, sK_upM, sK_upR, sL_upM, sL_upR, sN_upM, sN_upR, sT_upM, sT_upR, sN_upM, Int.reduceAdd, Int.reduceMul, Int.reduceSub, Int.reduceNeg, Int.zero_add, Int.add_zero, hF.c, n1 (), p1 (), c1 (), q1 (), q2 ()]); (try simp (disch := omega) only [true_and, and_true, sM_ne, sM_eq, sM_neR, sM_eqR, sK_upM, sK_upR, sL_upM, sL_upR, sN_upM, sN_upR, sT_upM, sT_upR, sN_upM, Int.reduceAdd, Int.reduceMul, Int.reduceSub, Int.reduceNeg, Int.zero_add, Int.add_zero, hF.c, n1 (), p1 (), c1 (), q1 (), q2 ()]))
    | ((with_reducible refine rt_al ?_ ?_ ?_); (· simp (disch := omega) only [true_and, and_true, sM_ne, sM_eq, sM_neR, sM_eqR, sK_upM, sK_upR, sL_upM, sL_upR, sN_upM, sN_upR, sT_upM, sT_upR, sN_upM, Int.reduceAdd, Int.reduceMul, Int.reduceSub, Int.reduceNeg, Int.zero_add, Int.add_zero, hF.c, n1 (), p1 (), c1 (), q1 (), q2 ()]); (· first | omega | ((try simp (disch := omega) only [wr, true_and, and_true, sM_ne, sM_eq, sM_neR, sM_eqR, sK_upM, sK_upR, sL_upM, sL_upR, sN_upM, sN_upR, sT_upM, sT_upR, sN_upM, Int.reduceAdd, Int.reduceMul, Int.reduceSub, Int.reduceNeg, Int.zero_add, Int.add_zero, hF.c, n1 (), p1 (), c1 (), q1 (), q2 ()]) <;> omega)); (try simp (disch := omega) only [true_and, and_true, sM_ne, sM_eq, sM_neR, sM_eqR, sK_upM, sK_upR, sL_upM, sL_upR, sN_upM, sN_upR, sT_upM, sT_upR, sN_upM, Int.reduceAdd, Int.reduceMul, Int.reduceSub, Int.reduceNeg, Int.zero_add, Int.add_zero, hF.c, n1 (), p1 (), c1 (), q1 (), q2 ()]))
    | ((with_reducible refine rt_as ?_ ?_ ?_); (· simp (disch := omega) only [true_and, and_true, sM_ne, sM_eq, sM_neR, sM_eqR, sK_upM, sK_upR, sL_upM, sL_upR, sN_upM, sN_upR, sT_upM, sT_upR, sN_upM, Int.reduceAdd, Int.reduceMul, Int.reduceSub, Int.reduceNeg, Int.zero_add, Int.add_zero, hF.c, n1 (), p1 (), c1 (), q1 (), q2 ()]); (· first | omega | ((try simp (disch := omega) only [wr, true_and, and_true, sM_ne, sM_eq, sM_neR, sM_eqR, sK_upM, sK_upR, sL_upM, sL_upR, sN_upM, sN_upR, sT_upM, sT_upR, sN_upM, Int.reduceAdd, Int.reduceMul, Int.reduceSub, Int.reduceNeg, Int.zero_add, Int.add_zero, hF.c, n1 (), p1 (), c1 (), q1 (), q2 ()]) <;> omega)))
    | ((with_reducible refine rt_p ?_ ?_ ?_); (· simp (disch := omega) only [true_and, and_true, sM_ne, sM_eq, sM_neR, sM_eqR, sK_upM, sK_upR, sL_upM, sL_upR, sN_upM, sN_upR, sT_upM, sT_upR, sN_upM, Int.reduceAdd, Int.reduceMul, Int.reduceSub, Int.reduceNeg, Int.zero_add, Int.add_zero, hF.c, n1 (), p1 (), c1 (), q1 (), q2 ()]); (· omega))
    | with_reducible refine rt_ret ?_
    | ((with_reducible refine rt_gw ?_ ?_); (· assumption); (try simp (disch := omega) only [true_and, and_true, sM_ne, sM_eq, sM_neR, sM_eqR, sK_upM, sK_upR, sL_upM, sL_upR, sN_upM, sN_upR, sT_upM, sT_upR, sN_upM, Int.reduceAdd, Int.reduceMul, Int.reduceSub, Int.reduceNeg, Int.zero_add, Int.add_zero, hF.c, n1 (), p1 (), c1 (), q1 (), q2 ()])))
      refine rt_e (f_cameBy hF (by omega) (by omega) c2 c3 (s1 ()) s2 s3 a3) ?_
      repeat (first
    | with_reducible refine rt_b ?_
    | with_reducible refine rt_jn ?_
    | ((with_reducible refine rt_pos ?_ ?_); (· omega))
    | ((with_reducible refine rt_neg ?_ ?_); (· omega))
    | ((with_reducible refine rt_v ?_ ?_); · simp (disch := omega) only [true_and, and_true, sM_ne, sM_eq, sM_neR, sM_eqR, sK_upM, sK_upR, sL_upM, sL_upR, sN_upM, sN_upR, sT_upM, sT_upR, sN_upM, Int.reduceAdd, Int.reduceMul, Int.reduceSub, Int.reduceNeg, Int.zero_add, Int.add_zero, hF.c, n1 (), p1 (), c1 (), q1 (), q2 ()])
    | ((with_reducible refine rt_g ?_ ?_); (· simp (disch := omega) only [true_and, and_true, sM_ne, sM_eq, sM_neR, sM_eqR, sK_upM, sK_upR, sL_upM, sL_upR, sN_upM, sN_upR, sT_upM, sT_upR, sN_upM, Int.reduceAdd, Int.reduceMul, Int.reduceSub, Int.reduceNeg, Int.zero_add, Int.add_zero, hF.c, n1 (), p1 (), c1 (), q1 (), q2 ()]); (try simp (disch := omega) only [true_and, and_true, sM_ne, sM_eq, sM_neR, sM_eqR, sK_upM, sK_upR, sL_upM, sL_upR, sN_upM, sN_upR, sT_upM, sT_upR, sN_upM, Int.reduceAdd, Int.reduceMul, Int.reduceSub, Int.reduceNeg, Int.zero_add, Int.add_zero, hF.c, n1 (), p1 (), c1 (), q1 (), q2 ()]))
    | ((with_reducible refine rt_al ?_ ?_ ?_); (· simp (disch := omega) only [true_and, and_true, sM_ne, sM_eq, sM_neR, sM_eqR, sK_upM, sK_upR, sL_upM, sL_upR, sN_upM, sN_upR, sT_upM, sT_upR, sN_upM, Int.reduceAdd, Int.reduceMul, Int.reduceSub, Int.reduceNeg, Int.zero_add, Int.add_zero, hF.c, n1 (), p1 (), c1 (), q1 (), q2 ()]); (· first | omega | ((try simp (disch := omega) only [wr, true_and, and_true, sM_ne, sM_eq, sM_neR, sM_eqR, sK_upM, sK_upR, sL_upM, sL_upR, sN_upM, sN_upR, sT_upM, sT_upR, sN_upM, Int.reduceAdd, Int.reduceMul, Int.reduceSub, Int.reduceNeg, Int.zero_add, Int.add_zero, hF.c, n1 (), p1 (), c1 (), q1 (), q2 ()]) <;> omega)); (try simp (disch := omega) only [true_and, and_true, sM_ne, sM_eq, sM_neR, sM_eqR, sK_upM, sK_upR, sL_upM, sL_upR, sN_upM, sN_upR, sT_upM, sT_upR, sN_upM, Int.reduceAdd, Int.reduceMul, Int.reduceSub, Int.reduceNeg, Int.zero_add, Int.add_zero, hF.c, n1 (), p1 (), c1 (), q1 (), q2 ()]))
    | ((with_reducible refine rt_as ?_ ?_ ?_); (· simp (disch := omega) only [true_and, and_true, sM_ne, sM_eq, sM_neR, sM_eqR, sK_upM, sK_upR, sL_upM, sL_upR, sN_upM, sN_upR, sT_upM, sT_upR, sN_upM, Int.reduceAdd, Int.reduceMul, Int.reduceSub, Int.reduceNeg, Int.zero_add, Int.add_zero, hF.c, n1 (), p1 (), c1 (), q1 (), q2 ()]); (· first | omega | ((try simp (disch := omega) only [wr, true_and, and_true, sM_ne, sM_eq, sM_neR, sM_eqR, sK_upM, sK_upR, sL_upM, sL_upR, sN_upM, sN_upR, sT_upM, sT_upR, sN_upM, Int.reduceAdd, Int.reduceMul, Int.reduceSub, Int.reduceNeg, Int.zero_add, Int.add_zero, hF.c, n1 (), p1 (), c1 (), q1 (), q2 ()]) <;> omega)))
    | ((with_reducible refine rt_p ?_ ?_ ?_); (· simp (disch := omega) only [true_and, and_true, sM_ne, sM_eq, sM_neR, sM_eqR, sK_upM, sK_upR, sL_upM, sL_upR, sN_upM, sN_upR, sT_upM, sT_upR, sN_upM, Int.reduceAdd, Int.reduceMul, Int.reduceSub, Int.reduceNeg, Int.zero_add, Int.add_zero, hF.c, n1 (), p1 (), c1 (), q1 (), q2 ()]); (· omega))
    | with_reducible refine rt_ret ?_
    | ((with_reducible refine rt_gw ?_ ?_); (· assumption); (try simp (disch := omega) only [true_and, and_true, sM_ne, sM_eq, sM_neR, sM_eqR, sK_upM, sK_upR, sL_upM, sL_upR, sN_upM, sN_upR, sT_upM, sT_upR, sN_upM, Int.reduceAdd, Int.reduceMul, Int.reduceSub, Int.reduceNeg, Int.zero_add, Int.add_zero, hF.c, n1 (), p1 (), c1 (), q1 (), q2 ()])))
      have hm : camO ln (so (c : Int)) (ch (c : Int)) = cmO ln so ch (c : Int) := rfl
      rw [hm]
      have hC1 : Ch gaS s (upM s 18 (c : Int) (cmO ln so ch (c : Int))) := Ch.rf.up (Or.inl rfl)
      have hV1 := hV0.ch (hC1.mono gaS_ln)
      have h18' : ∀ j : Int, 0 ≤ j → j < ((c + 1 : Nat) : Int) → sM (upM s 18 (c : Int) (cmO ln so ch (c : Int))) 18 j = cmO ln so ch j := by
        intro j j0 j1
        by_cases e : j = (c : Int)
        · subst e; rw [sM_eq ⟨rfl, rfl⟩]
        · rw [sM_ne (Or.inr e)]; exact h18 j j0 (by omega)
      have hL1 : ∀ g : Int, 0 ≤ g → g < 2 → Lst (upM s 18 (c : Int) (cmO ln so ch (c : Int))) g (keyO k (cmO ln so ch) so) (rk (keyO k (cmO ln so ch) so) (pG ch (cmO ln so ch) w g) c) := by
        intro g g0 g1
        refine (hg g g0 g1).ch hF (S := fun a _ => a = 18) g0 g1 (Ch.rf.up rfl) (fun i => by omega) (fun i => by omega) (by omega)
      have hout : (∀ g, pG ch (cmO ln so ch) w g (c : Int) = false) → Rt (lX2_gather_16 4 W w K N (upM s 18 (c : Int) (cmO ln so ch (c : Int))) (wrap ((c : Int) + 1))) P := by
        intro hp
        refine next _ hV1 (hc.tr hC1) h18' (fun g g0 g1 => ?_)
        have : rk (keyO k (cmO ln so ch) so) (pG ch (cmO ln so ch) w g) (c + 1) = rk (keyO k (cmO ln so ch) so) (pG ch (cmO ln so ch) w g) c := by
          rw [rk, if_neg (by rw [hp g]; decide)]
        rw [this]
        exact hL1 g g0 g1
      generalize hs1 : upM s 18 (c : Int) (cmO ln so ch (c : Int)) = s1' at *
      have hV1' := hV1
      obtain ⟨hF1, -, ⟨-, -, kk1⟩, ⟨n11, -, -⟩, p11, ⟨q11, q12⟩, a11, a12, a13, a14⟩ := hV1
      replace n11 := hd n11
      replace p11 := hd p11
      replace q11 := hd q11
      replace q12 := hd q12
      have hw1 : wkn s1' W := wk_w kk1 k0 k5
      by_cases hcw : (c : Int) = w
      · refine rt_pos hcw (hout (fun g => ?_))
        unfold pG
        simp [hcw]
      · refine rt_neg hcw ?_
        have e18 := hd (h18' (c : Int) (by omega) (by omega))
        repeat (first
    | with_reducible refine rt_b ?_
    | with_reducible refine rt_jn ?_
    | ((with_reducible refine rt_pos ?_ ?_); (· omega))
    | ((with_reducible refine rt_neg ?_ ?_); (· omega))
    | ((with_reducible refine rt_v ?_ ?_); · simp (disch := omega) only [true_and, and_true, sM_ne, sM_eq, sM_neR, sM_eqR, sK_upM, sK_upR, sL_upM, sL_upR, sN_upM, sN_upR, sT_upM, sT_upR, sN_upM, Int.reduceAdd, Int.reduceMul, Int.reduceSub, Int.reduceNeg, Int.zero_add, Int.add_zero, hF1.c, e18 ()])
    | ((with_reducible refine rt_g ?_ ?_); (· simp (disch := omega) only [true_and, and_true, sM_ne, sM_eq, sM_neR, sM_eqR, sK_upM, sK_upR, sL_upM, sL_upR, sN_upM, sN_upR, sT_upM, sT_upR, sN_upM, Int.reduceAdd, Int.reduceMul, Int.reduceSub, Int.reduceNeg, Int.zero_add, Int.add_zero, hF1.c, e18 ()]); (try simp (disch := omega) only [true_and, and_true, sM_ne, sM_eq, sM_neR, sM_eqR, sK_upM, sK_upR, sL_upM, sL_upR, sN_upM, sN_upR, sT_upM, sT_upR, sN_upM, Int.reduceAdd, Int.reduceMul, Int.reduceSub, Int.reduceNeg, Int.zero_add, Int.add_zero, hF1.c, e18 ()]))
    | ((with_reducible refine rt_al ?_ ?_ ?_); (· simp (disch := omega) only [true_and, and_true, sM_ne, sM_eq, sM_neR, sM_eqR, sK_upM, sK_upR, sL_upM, sL_upR, sN_upM, sN_upR, sT_upM, sT_upR, sN_upM, Int.reduceAdd, Int.reduceMul, Int.reduceSub, Int.reduceNeg, Int.zero_add, Int.add_zero, hF1.c, e18 ()]); (· first | omega | ((try simp (disch := omega) only [wr, true_and, and_true, sM_ne, sM_eq, sM_neR, sM_eqR, sK_upM, sK_upR, sL_upM, sL_upR, sN_upM, sN_upR, sT_upM, sT_upR, sN_upM, Int.reduceAdd, Int.reduceMul, Int.reduceSub, Int.reduceNeg, Int.zero_add, Int.add_zero, hF1.c, e18 ()]) <;> omega)); (try simp (disch := omega) only [true_and, and_true, sM_ne, sM_eq, sM_neR, sM_eqR, sK_upM, sK_upR, sL_upM, sL_upR, sN_upM, sN_upR, sT_upM, sT_upR, sN_upM, Int.reduceAdd, Int.reduceMul, Int.reduceSub, Int.reduceNeg, Int.zero_add, Int.add_zero, hF1.c, e18 ()]))
    | ((with_reducible refine rt_as ?_ ?_ ?_); (· simp (disch := omega) only [true_and, and_true, sM_ne, sM_eq, sM_neR, sM_eqR, sK_upM, sK_upR, sL_upM, sL_upR, sN_upM, sN_upR, sT_upM, sT_upR, sN_upM, Int.reduceAdd, Int.reduceMul, Int.reduceSub, Int.reduceNeg, Int.zero_add, Int.add_zero, hF1.c, e18 ()]); (· first | omega | ((try simp (disch := omega) only [wr, true_and, and_true, sM_ne, sM_eq, sM_neR, sM_eqR, sK_upM, sK_upR, sL_upM, sL_upR, sN_upM, sN_upR, sT_upM, sT_upR, sN_upM, Int.reduceAdd, Int.reduceMul, Int.reduceSub, Int.reduceNeg, Int.zero_add, Int.add_zero, hF1.c, e18 ()]) <;> omega)))
    | ((with_reducible refine rt_p ?_ ?_ ?_); (· simp (disch := omega) only [true_and, and_true, sM_ne, sM_eq, sM_neR, sM_eqR, sK_upM, sK_upR, sL_upM, sL_upR, sN_upM, sN_upR, sT_upM, sT_upR, sN_upM, Int.reduceAdd, Int.reduceMul, Int.reduceSub, Int.reduceNeg, Int.zero_add, Int.add_zero, hF1.c, e18 ()]); (· omega))
    | with_reducible refine rt_ret ?_
    | ((with_reducible refine rt_gw ?_ ?_); (· assumption); (try simp (disch := omega) only [true_and, and_true, sM_ne, sM_eq, sM_neR, sM_eqR, sK_upM, sK_upR, sL_upM, sL_upR, sN_upM, sN_upR, sT_upM, sT_upR, sN_upM, Int.reduceAdd, Int.reduceMul, Int.reduceSub, Int.reduceNeg, Int.zero_add, Int.add_zero, hF1.c, e18 ()])))
        by_cases hm1 : cmO ln so ch (c : Int) = -1
        · refine rt_pos hm1 (hout (fun g => ?_))
          unfold pG
          simp [hm1]
        · refine rt_neg hm1 ?_
          have c11 := hd (a11 (c : Int) (by omega) (by omega)).1
          have s11 := hd (a12 (c : Int) (by omega) (by omega)).1
          repeat (first
    | with_reducible refine rt_b ?_
    | with_reducible refine rt_jn ?_
    | ((with_reducible refine rt_pos ?_ ?_); (· omega))
    | ((with_reducible refine rt_neg ?_ ?_); (· omega))
    | ((with_reducible refine rt_v ?_ ?_); · simp (disch := omega) only [true_and, and_true, sM_ne, sM_eq, sM_neR, sM_eqR, sK_upM, sK_upR, sL_upM, sL_upR, sN_upM, sN_upR, sT_upM, sT_upR, sN_upM, Int.reduceAdd, Int.reduceMul, Int.reduceSub, Int.reduceNeg, Int.zero_add, Int.add_zero, hF1.c, e18 (), p11 (), c11 (), q11 (), q12 (), s11 ()])
    | ((with_reducible refine rt_g ?_ ?_); (· simp (disch := omega) only [true_and, and_true, sM_ne, sM_eq, sM_neR, sM_eqR, sK_upM, sK_upR, sL_upM, sL_upR, sN_upM, sN_upR, sT_upM, sT_upR, sN_upM, Int.reduceAdd, Int.reduceMul, Int.reduceSub, Int.reduceNeg, Int.zero_add, Int.add_zero, hF1.c, e18 (), p11 (), c11 (), q11 (), q12 (), s11 ()]); (try simp (disch := omega) only [true_and, and_true, sM_ne, sM_eq, sM_neR, sM_eqR, sK_upM, sK_upR, sL_upM, sL_upR, sN_upM, sN_upR, sT_upM, sT_upR, sN_upM, Int.reduceAdd, Int.reduceMul, Int.reduceSub, Int.reduceNeg, Int.zero_add, Int.add_zero, hF1.c, e18 (), p11 (), c11 (), q11 (), q12 (), s11 ()]))
    | ((with_reducible refine rt_al ?_ ?_ ?_); (· simp (disch := omega) only [true_and, and_true, sM_ne, sM_eq, sM_neR, sM_eqR, sK_upM, sK_upR, sL_upM, sL_upR, sN_upM, sN_upR, sT_upM, sT_upR, sN_upM, Int.reduceAdd, Int.reduceMul, Int.reduceSub, Int.reduceNeg, Int.zero_add, Int.add_zero, hF1.c, e18 (), p11 (), c11 (), q11 (), q12 (), s11 ()]); (· first | omega | ((try simp (disch := omega) only [wr, true_and, and_true, sM_ne, sM_eq, sM_neR, sM_eqR, sK_upM, sK_upR, sL_upM, sL_upR, sN_upM, sN_upR, sT_upM, sT_upR, sN_upM, Int.reduceAdd, Int.reduceMul, Int.reduceSub, Int.reduceNeg, Int.zero_add, Int.add_zero, hF1.c, e18 (), p11 (), c11 (), q11 (), q12 (), s11 ()]) <;> omega)); (try simp (disch := omega) only [true_and, and_true, sM_ne, sM_eq, sM_neR, sM_eqR, sK_upM, sK_upR, sL_upM, sL_upR, sN_upM, sN_upR, sT_upM, sT_upR, sN_upM, Int.reduceAdd, Int.reduceMul, Int.reduceSub, Int.reduceNeg, Int.zero_add, Int.add_zero, hF1.c, e18 (), p11 (), c11 (), q11 (), q12 (), s11 ()]))
    | ((with_reducible refine rt_as ?_ ?_ ?_); (· simp (disch := omega) only [true_and, and_true, sM_ne, sM_eq, sM_neR, sM_eqR, sK_upM, sK_upR, sL_upM, sL_upR, sN_upM, sN_upR, sT_upM, sT_upR, sN_upM, Int.reduceAdd, Int.reduceMul, Int.reduceSub, Int.reduceNeg, Int.zero_add, Int.add_zero, hF1.c, e18 (), p11 (), c11 (), q11 (), q12 (), s11 ()]); (· first | omega | ((try simp (disch := omega) only [wr, true_and, and_true, sM_ne, sM_eq, sM_neR, sM_eqR, sK_upM, sK_upR, sL_upM, sL_upR, sN_upM, sN_upR, sT_upM, sT_upR, sN_upM, Int.reduceAdd, Int.reduceMul, Int.reduceSub, Int.reduceNeg, Int.zero_add, Int.add_zero, hF1.c, e18 (), p11 (), c11 (), q11 (), q12 (), s11 ()]) <;> omega)))
    | ((with_reducible refine rt_p ?_ ?_ ?_); (· simp (disch := omega) only [true_and, and_true, sM_ne, sM_eq, sM_neR, sM_eqR, sK_upM, sK_upR, sL_upM, sL_upR, sN_upM, sN_upR, sT_upM, sT_upR, sN_upM, Int.reduceAdd, Int.reduceMul, Int.reduceSub, Int.reduceNeg, Int.zero_add, Int.add_zero, hF1.c, e18 (), p11 (), c11 (), q11 (), q12 (), s11 ()]); (· omega))
    | with_reducible refine rt_ret ?_
    | ((with_reducible refine rt_gw ?_ ?_); (· assumption); (try simp (disch := omega) only [true_and, and_true, sM_ne, sM_eq, sM_neR, sM_eqR, sK_upM, sK_upR, sL_upM, sL_upR, sN_upM, sN_upR, sT_upM, sT_upR, sN_upM, Int.reduceAdd, Int.reduceMul, Int.reduceSub, Int.reduceNeg, Int.zero_add, Int.add_zero, hF1.c, e18 (), p11 (), c11 (), q11 (), q12 (), s11 ()])))
          have hcm := hV0.cm (c := (c : Int)) (by omega) (by omega)
          refine rt_e (f_order kk1 k0 k5 (by omega) (by omega) (by omega) (by omega) s2 s3) ?_
          have et := hd (show wrap ((ch (c : Int)).tdiv 24) = ch (c : Int) / 24 by rw [tdiv_n c2, wr (by omega) (by omega)])
          have ek : ordO k (c : Int) (cmO ln so ch (c : Int)) (so (c : Int)) = keyO k (cmO ln so ch) so (c : Int) := rfl
          rw [ek, et ()]
          repeat (first
    | with_reducible refine rt_b ?_
    | with_reducible refine rt_jn ?_
    | ((with_reducible refine rt_pos ?_ ?_); (· omega))
    | ((with_reducible refine rt_neg ?_ ?_); (· omega))
    | ((with_reducible refine rt_v ?_ ?_); · simp (disch := omega) only [true_and, and_true, sM_ne, sM_eq, sM_neR, sM_eqR, sK_upM, sK_upR, sL_upM, sL_upR, sN_upM, sN_upR, sT_upM, sT_upR, sN_upM, Int.reduceAdd, Int.reduceMul, Int.reduceSub, Int.reduceNeg, Int.zero_add, Int.add_zero, hF1.c])
    | ((with_reducible refine rt_g ?_ ?_); (· simp (disch := omega) only [true_and, and_true, sM_ne, sM_eq, sM_neR, sM_eqR, sK_upM, sK_upR, sL_upM, sL_upR, sN_upM, sN_upR, sT_upM, sT_upR, sN_upM, Int.reduceAdd, Int.reduceMul, Int.reduceSub, Int.reduceNeg, Int.zero_add, Int.add_zero, hF1.c]); (try simp (disch := omega) only [true_and, and_true, sM_ne, sM_eq, sM_neR, sM_eqR, sK_upM, sK_upR, sL_upM, sL_upR, sN_upM, sN_upR, sT_upM, sT_upR, sN_upM, Int.reduceAdd, Int.reduceMul, Int.reduceSub, Int.reduceNeg, Int.zero_add, Int.add_zero, hF1.c]))
    | ((with_reducible refine rt_al ?_ ?_ ?_); (· simp (disch := omega) only [true_and, and_true, sM_ne, sM_eq, sM_neR, sM_eqR, sK_upM, sK_upR, sL_upM, sL_upR, sN_upM, sN_upR, sT_upM, sT_upR, sN_upM, Int.reduceAdd, Int.reduceMul, Int.reduceSub, Int.reduceNeg, Int.zero_add, Int.add_zero, hF1.c]); (· first | omega | ((try simp (disch := omega) only [wr, true_and, and_true, sM_ne, sM_eq, sM_neR, sM_eqR, sK_upM, sK_upR, sL_upM, sL_upR, sN_upM, sN_upR, sT_upM, sT_upR, sN_upM, Int.reduceAdd, Int.reduceMul, Int.reduceSub, Int.reduceNeg, Int.zero_add, Int.add_zero, hF1.c]) <;> omega)); (try simp (disch := omega) only [true_and, and_true, sM_ne, sM_eq, sM_neR, sM_eqR, sK_upM, sK_upR, sL_upM, sL_upR, sN_upM, sN_upR, sT_upM, sT_upR, sN_upM, Int.reduceAdd, Int.reduceMul, Int.reduceSub, Int.reduceNeg, Int.zero_add, Int.add_zero, hF1.c]))
    | ((with_reducible refine rt_as ?_ ?_ ?_); (· simp (disch := omega) only [true_and, and_true, sM_ne, sM_eq, sM_neR, sM_eqR, sK_upM, sK_upR, sL_upM, sL_upR, sN_upM, sN_upR, sT_upM, sT_upR, sN_upM, Int.reduceAdd, Int.reduceMul, Int.reduceSub, Int.reduceNeg, Int.zero_add, Int.add_zero, hF1.c]); (· first | omega | ((try simp (disch := omega) only [wr, true_and, and_true, sM_ne, sM_eq, sM_neR, sM_eqR, sK_upM, sK_upR, sL_upM, sL_upR, sN_upM, sN_upR, sT_upM, sT_upR, sN_upM, Int.reduceAdd, Int.reduceMul, Int.reduceSub, Int.reduceNeg, Int.zero_add, Int.add_zero, hF1.c]) <;> omega)))
    | ((with_reducible refine rt_p ?_ ?_ ?_); (· simp (disch := omega) only [true_and, and_true, sM_ne, sM_eq, sM_neR, sM_eqR, sK_upM, sK_upR, sL_upM, sL_upR, sN_upM, sN_upR, sT_upM, sT_upR, sN_upM, Int.reduceAdd, Int.reduceMul, Int.reduceSub, Int.reduceNeg, Int.zero_add, Int.add_zero, hF1.c]); (· omega))
    | with_reducible refine rt_ret ?_
    | ((with_reducible refine rt_gw ?_ ?_); (· assumption); (try simp (disch := omega) only [true_and, and_true, sM_ne, sM_eq, sM_neR, sM_eqR, sK_upM, sK_upR, sL_upM, sL_upR, sN_upM, sN_upR, sT_upM, sT_upR, sN_upM, Int.reduceAdd, Int.reduceMul, Int.reduceSub, Int.reduceNeg, Int.zero_add, Int.add_zero, hF1.c])))
          have hgt : 0 ≤ ch (c : Int) / 24 ∧ ch (c : Int) / 24 < 2 := by omega
          have hlen := rk_len (key := keyO k (cmO ln so ch) so) (p := pG ch (cmO ln so ch) w (ch (c : Int) / 24)) (n := c)
          refine (f_rank hF1 hgt.1 hgt.2 (by omega) rk_sorted (hL1 _ hgt.1 hgt.2)).mono ?_
          intro v τ hτ
          obtain ⟨hcτ, hLτ⟩ := hτ
          have hcτ' : Ch gaS s1' τ := hcτ.mono (fun a i q => by unfold gaS; omega)
          refine next τ (hV1'.ch (hcτ'.mono gaS_ln)) ((hc.tr hC1).tr hcτ') (fun j j0 j1 => ?_) (fun g g0 g1 => ?_)
          · rw [hcτ.M (by have := hF1.2.2.2; omega) (by omega)]; exact h18' j j0 j1
          · by_cases eg : g = ch (c : Int) / 24
            · have : rk (keyO k (cmO ln so ch) so) (pG ch (cmO ln so ch) w g) (c + 1) = insK (keyO k (cmO ln so ch) so) (c : Int) (rk (keyO k (cmO ln so ch) so) (pG ch (cmO ln so ch) w g) c) := by
                rw [rk, if_pos]
                unfold pG
                simp [hcw, hm1, eg]
              rw [this, eg]; exact hLτ
            · have : rk (keyO k (cmO ln so ch) so) (pG ch (cmO ln so ch) w g) (c + 1) = rk (keyO k (cmO ln so ch) so) (pG ch (cmO ln so ch) w g) c := by
                rw [rk, if_neg]
                unfold pG
                simp only [Bool.and_eq_true, decide_eq_true_eq]
                rintro ⟨-, -, h⟩
                exact eg h.symm
              rw [this]
              exact (hL1 g g0 g1).ch hF1 g0 g1 hcτ (fun i => by omega) (fun i => by omega) (by omega)
def Cmr (σ : ZS) (g : Int) (cm : Int → Int) (R : List Int) (r : Nat) : Prop := ∀ t : Nat, t < 24 → ∃ m : Nat, sM σ (29 + g) (t : Int) = (m : Int) ∧ m < 65536 ∧ ∀ j : Nat, j < 16 → m.testBit j = (decide (j < r) && decide (cm (R.getD j 0) = (t : Int)))
theorem l_zero {σ : ZS} {g : Int} {K : ZS → Option (Int × ZS)} {P : Int → ZS → Prop} (g0 : 0 ≤ g) (g1 : g < 2) (hK : ∀ τ : ZS, FxD τ → Ch (fun a _ => a = 29 + g) σ τ → (∀ j : Int, 0 ≤ j → j < 24 → sM τ (29 + g) j = 0) → Rt (K τ) P) :
    ∀ (N c : Nat) (s : ZS), FxD s → c ≤ 24 → 24 - c < N → Ch (fun a _ => a = 29 + g) σ s → (∀ j : Int, 0 ≤ j → j < (c : Int) → sM s (29 + g) j = 0) → Rt (lX2_gather_106 4 g K N s (c : Int)) P
  | 0, c, s, _, _, h2, _, _ => by omega
  | N + 1, c, s, hF, h1, h2, hc, hz => by
    rw [lX2_gather_106]
    by_cases he : (24 : Int) ≤ (c : Int)
    · exact rt_pos he (hK s hF hc (fun j j0 j1 => hz j j0 (by omega)))
    · refine rt_neg he ?_
      repeat (first
    | with_reducible refine rt_b ?_
    | with_reducible refine rt_jn ?_
    | ((with_reducible refine rt_pos ?_ ?_); (· omega))
    | ((with_reducible refine rt_neg ?_ ?_); (· omega))
    | ((with_reducible refine rt_v ?_ ?_); · simp (disch := omega) only [true_and, and_true, sM_ne, sM_eq, sM_neR, sM_eqR, sK_upM, sK_upR, sL_upM, sL_upR, sN_upM, sN_upR, sT_upM, sT_upR, sN_upM, Int.reduceAdd, Int.reduceMul, Int.reduceSub, Int.reduceNeg, Int.zero_add, Int.add_zero, hF.c])
    | ((with_reducible refine rt_g ?_ ?_); (· simp (disch := omega) only [true_and, and_true, sM_ne, sM_eq, sM_neR, sM_eqR, sK_upM, sK_upR, sL_upM, sL_upR, sN_upM, sN_upR, sT_upM, sT_upR, sN_upM, Int.reduceAdd, Int.reduceMul, Int.reduceSub, Int.reduceNeg, Int.zero_add, Int.add_zero, hF.c]); (try simp (disch := omega) only [true_and, and_true, sM_ne, sM_eq, sM_neR, sM_eqR, sK_upM, sK_upR, sL_upM, sL_upR, sN_upM, sN_upR, sT_upM, sT_upR, sN_upM, Int.reduceAdd, Int.reduceMul, Int.reduceSub, Int.reduceNeg, Int.zero_add, Int.add_zero, hF.c]))
    | ((with_reducible refine rt_al ?_ ?_ ?_); (· simp (disch := omega) only [true_and, and_true, sM_ne, sM_eq, sM_neR, sM_eqR, sK_upM, sK_upR, sL_upM, sL_upR, sN_upM, sN_upR, sT_upM, sT_upR, sN_upM, Int.reduceAdd, Int.reduceMul, Int.reduceSub, Int.reduceNeg, Int.zero_add, Int.add_zero, hF.c]); (· first | omega | ((try simp (disch := omega) only [wr, true_and, and_true, sM_ne, sM_eq, sM_neR, sM_eqR, sK_upM, sK_upR, sL_upM, sL_upR, sN_upM, sN_upR, sT_upM, sT_upR, sN_upM, Int.reduceAdd, Int.reduceMul, Int.reduceSub, Int.reduceNeg, Int.zero_add, Int.add_zero, hF.c]) <;> omega)); (try simp (disch := omega) only [true_and, and_true, sM_ne, sM_eq, sM_neR, sM_eqR, sK_upM, sK_upR, sL_upM, sL_upR, sN_upM, sN_upR, sT_upM, sT_upR, sN_upM, Int.reduceAdd, Int.reduceMul, Int.reduceSub, Int.reduceNeg, Int.zero_add, Int.add_zero, hF.c]))
    | ((with_reducible refine rt_as ?_ ?_ ?_); (· simp (disch := omega) only [true_and, and_true, sM_ne, sM_eq, sM_neR, sM_eqR, sK_upM, sK_upR, sL_upM, sL_upR, sN_upM, sN_upR, sT_upM, sT_upR, sN_upM, Int.reduceAdd, Int.reduceMul, Int.reduceSub, Int.reduceNeg, Int.zero_add, Int.add_zero, hF.c]); (· first | omega | ((try simp (disch := omega) only [wr, true_and, and_true, sM_ne, sM_eq, sM_neR, sM_eqR, sK_upM, sK_upR, sL_upM, sL_upR, sN_upM, sN_upR, sT_upM, sT_upR, sN_upM, Int.reduceAdd, Int.reduceMul, Int.reduceSub, Int.reduceNeg, Int.zero_add, Int.add_zero, hF.c]) <;> omega)))
    | ((with_reducible refine rt_p ?_ ?_ ?_); (· simp (disch := omega) only [true_and, and_true, sM_ne, sM_eq, sM_neR, sM_eqR, sK_upM, sK_upR, sL_upM, sL_upR, sN_upM, sN_upR, sT_upM, sT_upR, sN_upM, Int.reduceAdd, Int.reduceMul, Int.reduceSub, Int.reduceNeg, Int.zero_add, Int.add_zero, hF.c]); (· omega))
    | with_reducible refine rt_ret ?_
    | ((with_reducible refine rt_gw ?_ ?_); (· assumption); (try simp (disch := omega) only [true_and, and_true, sM_ne, sM_eq, sM_neR, sM_eqR, sK_upM, sK_upR, sL_upM, sL_upR, sN_upM, sN_upR, sT_upM, sT_upR, sN_upM, Int.reduceAdd, Int.reduceMul, Int.reduceSub, Int.reduceNeg, Int.zero_add, Int.add_zero, hF.c])))
      rw [wr1 c (by omega)]
      refine l_zero g0 g1 hK N (c + 1) _ (hF.up (NF_i (by omega))) (by omega) (by omega) (hc.up rfl) (fun j j0 j1 => ?_)
      by_cases e : j = (c : Int)
      · subst e; rw [sM_eq ⟨rfl, rfl⟩]
      · rw [sM_ne (Or.inr e)]; exact hz j j0 (by omega)
theorem l_or {σ : ZS} {g : Int} {key cm : Int → Int} {R : List Int} {K : ZS → Option (Int × ZS)} {P : Int → ZS → Prop} (g0 : 0 ≤ g) (g1 : g < 2) (hR : R.length ≤ 16) (hcm : ∀ c ∈ R, 0 ≤ c ∧ c < 16 ∧ 0 ≤ cm c ∧ cm c < 24) (hK : ∀ τ : ZS, FxD τ → Ch (fun a _ => a = 29 + g) σ τ → Cmr τ g cm R R.length → Rt (K τ) P) :
    ∀ (N r : Nat) (s : ZS), FxD s → r ≤ R.length → R.length - r < N → Ch (fun a _ => a = 29 + g) σ s → Lst s g key R → (∀ c ∈ R, sM s 18 c = cm c) → Cmr s g cm R r → Rt (lX2_gather_132 4 g K N s (r : Int)) P
  | 0, c, s, _, _, h2, _, _, _, _ => by omega
  | N + 1, r, s, hF, h1, h2, hc, hL, h18, hm => by
    have e27 := hd hL.2
    rw [lX2_gather_132]
    repeat (first
    | with_reducible refine rt_b ?_
    | with_reducible refine rt_jn ?_
    | ((with_reducible refine rt_pos ?_ ?_); (· omega))
    | ((with_reducible refine rt_neg ?_ ?_); (· omega))
    | ((with_reducible refine rt_v ?_ ?_); · simp (disch := omega) only [true_and, and_true, sM_ne, sM_eq, sM_neR, sM_eqR, sK_upM, sK_upR, sL_upM, sL_upR, sN_upM, sN_upR, sT_upM, sT_upR, sN_upM, Int.reduceAdd, Int.reduceMul, Int.reduceSub, Int.reduceNeg, Int.zero_add, Int.add_zero, hF.c, e27 ()])
    | ((with_reducible refine rt_g ?_ ?_); (· simp (disch := omega) only [true_and, and_true, sM_ne, sM_eq, sM_neR, sM_eqR, sK_upM, sK_upR, sL_upM, sL_upR, sN_upM, sN_upR, sT_upM, sT_upR, sN_upM, Int.reduceAdd, Int.reduceMul, Int.reduceSub, Int.reduceNeg, Int.zero_add, Int.add_zero, hF.c, e27 ()]); (try simp (disch := omega) only [true_and, and_true, sM_ne, sM_eq, sM_neR, sM_eqR, sK_upM, sK_upR, sL_upM, sL_upR, sN_upM, sN_upR, sT_upM, sT_upR, sN_upM, Int.reduceAdd, Int.reduceMul, Int.reduceSub, Int.reduceNeg, Int.zero_add, Int.add_zero, hF.c, e27 ()]))
    | ((with_reducible refine rt_al ?_ ?_ ?_); (· simp (disch := omega) only [true_and, and_true, sM_ne, sM_eq, sM_neR, sM_eqR, sK_upM, sK_upR, sL_upM, sL_upR, sN_upM, sN_upR, sT_upM, sT_upR, sN_upM, Int.reduceAdd, Int.reduceMul, Int.reduceSub, Int.reduceNeg, Int.zero_add, Int.add_zero, hF.c, e27 ()]); (· first | omega | ((try simp (disch := omega) only [wr, true_and, and_true, sM_ne, sM_eq, sM_neR, sM_eqR, sK_upM, sK_upR, sL_upM, sL_upR, sN_upM, sN_upR, sT_upM, sT_upR, sN_upM, Int.reduceAdd, Int.reduceMul, Int.reduceSub, Int.reduceNeg, Int.zero_add, Int.add_zero, hF.c, e27 ()]) <;> omega)); (try simp (disch := omega) only [true_and, and_true, sM_ne, sM_eq, sM_neR, sM_eqR, sK_upM, sK_upR, sL_upM, sL_upR, sN_upM, sN_upR, sT_upM, sT_upR, sN_upM, Int.reduceAdd, Int.reduceMul, Int.reduceSub, Int.reduceNeg, Int.zero_add, Int.add_zero, hF.c, e27 ()]))
    | ((with_reducible refine rt_as ?_ ?_ ?_); (· simp (disch := omega) only [true_and, and_true, sM_ne, sM_eq, sM_neR, sM_eqR, sK_upM, sK_upR, sL_upM, sL_upR, sN_upM, sN_upR, sT_upM, sT_upR, sN_upM, Int.reduceAdd, Int.reduceMul, Int.reduceSub, Int.reduceNeg, Int.zero_add, Int.add_zero, hF.c, e27 ()]); (· first | omega | ((try simp (disch := omega) only [wr, true_and, and_true, sM_ne, sM_eq, sM_neR, sM_eqR, sK_upM, sK_upR, sL_upM, sL_upR, sN_upM, sN_upR, sT_upM, sT_upR, sN_upM, Int.reduceAdd, Int.reduceMul, Int.reduceSub, Int.reduceNeg, Int.zero_add, Int.add_zero, hF.c, e27 ()]) <;> omega)))
    | ((with_reducible refine rt_p ?_ ?_ ?_); (· simp (disch := omega) only [true_and, and_true, sM_ne, sM_eq, sM_neR, sM_eqR, sK_upM, sK_upR, sL_upM, sL_upR, sN_upM, sN_upR, sT_upM, sT_upR, sN_upM, Int.reduceAdd, Int.reduceMul, Int.reduceSub, Int.reduceNeg, Int.zero_add, Int.add_zero, hF.c, e27 ()]); (· omega))
    | with_reducible refine rt_ret ?_
    | ((with_reducible refine rt_gw ?_ ?_); (· assumption); (try simp (disch := omega) only [true_and, and_true, sM_ne, sM_eq, sM_neR, sM_eqR, sK_upM, sK_upR, sL_upM, sL_upR, sN_upM, sN_upR, sT_upM, sT_upR, sN_upM, Int.reduceAdd, Int.reduceMul, Int.reduceSub, Int.reduceNeg, Int.zero_add, Int.add_zero, hF.c, e27 ()])))
    by_cases he : (R.length : Int) ≤ (r : Int)
    · refine rt_pos he (hK s hF hc ?_)
      have : r = R.length := by omega
      rw [← this]; exact hm
    · refine rt_neg he ?_
      have hr : r < R.length := by omega
      have hmem : R.getD r 0 ∈ R := by rw [List.getD_eq_getElem?_getD, List.getElem?_eq_getElem hr]; exact List.getElem_mem hr
      obtain ⟨b0, b1, b2, b3⟩ := hcm _ hmem
      have e22 := hd (hL.1 r hr).1
      have e18 := hd (h18 _ hmem)
      obtain ⟨m, m1, m2, m3⟩ := hm (cm (R.getD r 0)).toNat (by omega)
      have et : (((cm (R.getD r 0)).toNat : Nat) : Int) = cm (R.getD r 0) := by omega
      rw [et] at m1
      replace m1 := hd m1
      repeat (first
    | with_reducible refine rt_b ?_
    | with_reducible refine rt_jn ?_
    | ((with_reducible refine rt_pos ?_ ?_); (· omega))
    | ((with_reducible refine rt_neg ?_ ?_); (· omega))
    | ((with_reducible refine rt_v ?_ ?_); · simp (disch := omega) only [true_and, and_true, sM_ne, sM_eq, sM_neR, sM_eqR, sK_upM, sK_upR, sL_upM, sL_upR, sN_upM, sN_upR, sT_upM, sT_upR, sN_upM, Int.reduceAdd, Int.reduceMul, Int.reduceSub, Int.reduceNeg, Int.zero_add, Int.add_zero, hF.c, e27 (), e22 (), e18 (), m1 ()])
    | ((with_reducible refine rt_g ?_ ?_); (· simp (disch := omega) only [true_and, and_true, sM_ne, sM_eq, sM_neR, sM_eqR, sK_upM, sK_upR, sL_upM, sL_upR, sN_upM, sN_upR, sT_upM, sT_upR, sN_upM, Int.reduceAdd, Int.reduceMul, Int.reduceSub, Int.reduceNeg, Int.zero_add, Int.add_zero, hF.c, e27 (), e22 (), e18 (), m1 ()]); (try simp (disch := omega) only [true_and, and_true, sM_ne, sM_eq, sM_neR, sM_eqR, sK_upM, sK_upR, sL_upM, sL_upR, sN_upM, sN_upR, sT_upM, sT_upR, sN_upM, Int.reduceAdd, Int.reduceMul, Int.reduceSub, Int.reduceNeg, Int.zero_add, Int.add_zero, hF.c, e27 (), e22 (), e18 (), m1 ()]))
    | ((with_reducible refine rt_al ?_ ?_ ?_); (· simp (disch := omega) only [true_and, and_true, sM_ne, sM_eq, sM_neR, sM_eqR, sK_upM, sK_upR, sL_upM, sL_upR, sN_upM, sN_upR, sT_upM, sT_upR, sN_upM, Int.reduceAdd, Int.reduceMul, Int.reduceSub, Int.reduceNeg, Int.zero_add, Int.add_zero, hF.c, e27 (), e22 (), e18 (), m1 ()]); (· first | omega | ((try simp (disch := omega) only [wr, true_and, and_true, sM_ne, sM_eq, sM_neR, sM_eqR, sK_upM, sK_upR, sL_upM, sL_upR, sN_upM, sN_upR, sT_upM, sT_upR, sN_upM, Int.reduceAdd, Int.reduceMul, Int.reduceSub, Int.reduceNeg, Int.zero_add, Int.add_zero, hF.c, e27 (), e22 (), e18 (), m1 ()]) <;> omega)); (try simp (disch := omega) only [true_and, and_true, sM_ne, sM_eq, sM_neR, sM_eqR, sK_upM, sK_upR, sL_upM, sL_upR, sN_upM, sN_upR, sT_upM, sT_upR, sN_upM, Int.reduceAdd, Int.reduceMul, Int.reduceSub, Int.reduceNeg, Int.zero_add, Int.add_zero, hF.c, e27 (), e22 (), e18 (), m1 ()]))
    | ((with_reducible refine rt_as ?_ ?_ ?_); (· simp (disch := omega) only [true_and, and_true, sM_ne, sM_eq, sM_neR, sM_eqR, sK_upM, sK_upR, sL_upM, sL_upR, sN_upM, sN_upR, sT_upM, sT_upR, sN_upM, Int.reduceAdd, Int.reduceMul, Int.reduceSub, Int.reduceNeg, Int.zero_add, Int.add_zero, hF.c, e27 (), e22 (), e18 (), m1 ()]); (· first | omega | ((try simp (disch := omega) only [wr, true_and, and_true, sM_ne, sM_eq, sM_neR, sM_eqR, sK_upM, sK_upR, sL_upM, sL_upR, sN_upM, sN_upR, sT_upM, sT_upR, sN_upM, Int.reduceAdd, Int.reduceMul, Int.reduceSub, Int.reduceNeg, Int.zero_add, Int.add_zero, hF.c, e27 (), e22 (), e18 (), m1 ()]) <;> omega)))
    | ((with_reducible refine rt_p ?_ ?_ ?_); (· simp (disch := omega) only [true_and, and_true, sM_ne, sM_eq, sM_neR, sM_eqR, sK_upM, sK_upR, sL_upM, sL_upR, sN_upM, sN_upR, sT_upM, sT_upR, sN_upM, Int.reduceAdd, Int.reduceMul, Int.reduceSub, Int.reduceNeg, Int.zero_add, Int.add_zero, hF.c, e27 (), e22 (), e18 (), m1 ()]); (· omega))
    | with_reducible refine rt_ret ?_
    | ((with_reducible refine rt_gw ?_ ?_); (· assumption); (try simp (disch := omega) only [true_and, and_true, sM_ne, sM_eq, sM_neR, sM_eqR, sK_upM, sK_upR, sL_upM, sL_upR, sN_upM, sN_upR, sT_upM, sT_upR, sN_upM, Int.reduceAdd, Int.reduceMul, Int.reduceSub, Int.reduceNeg, Int.zero_add, Int.add_zero, hF.c, e27 (), e22 (), e18 (), m1 ()])))
      rw [wr1 r (by omega)]
      rw [iShl_one r (by omega), iOr_n m2 (by
        calc 2 ^ r ≤ 2 ^ 15 := Nat.pow_le_pow_right (by decide) (by omega)
          _ < 65536 := by decide)]
      have hor : m ||| 2 ^ r < 65536 := Nat.or_lt_two_pow (n := 16) m2 (by
        calc 2 ^ r ≤ 2 ^ 15 := Nat.pow_le_pow_right (by decide) (by omega)
          _ < 2 ^ 16 := by decide)
      refine l_or g0 g1 hR hcm hK N (r + 1) _ (hF.up (NF_i (by omega))) (by omega) (by omega) (hc.up rfl) (hL.ch hF (S := fun a _ => a = 29 + g) g0 g1 (Ch.rf.up rfl) (fun i => by omega) (fun i => by omega) (by omega)) (fun c hcR => ?_) (fun t ht => ?_)
      · rw [sM_ne (by omega)]; exact h18 c hcR
      · by_cases e : (t : Int) = cm (R.getD r 0)
        · refine ⟨m ||| 2 ^ r, by rw [sM_eq ⟨rfl, e⟩], hor, fun j hj => ?_⟩
          rw [Nat.testBit_or, m3 j hj, Nat.testBit_two_pow, et, e]
          by_cases ej : r = j
          · subst ej; simp
          · have e1 : (decide (r = j)) = false := by simp [ej]
            have e2 : decide (j < r + 1) = decide (j < r) := by
              by_cases q : j < r
              · simp [q]; omega
              · simp [q]; omega
            rw [e1, e2, Bool.or_false]
        · obtain ⟨m', m1', m2', m3'⟩ := hm t ht
          refine ⟨m', by rw [sM_ne (Or.inr e)]; exact m1', m2', fun j hj => ?_⟩
          rw [m3' j hj]
          by_cases ej : j = r
          · subst ej
            have : decide (cm (R.getD j 0) = (t : Int)) = false := decide_eq_false (fun q => e q.symm)
            rw [this, Bool.and_false, Bool.and_false]
          · have e2 : decide (j < r + 1) = decide (j < r) := by
              by_cases q : j < r
              · simp [q]; omega
              · simp [q]; omega
            rw [e2]
/-- what stands behind a gathering -/
def Gth (τ : ZS) (n k w : Int) (ch so : Int → Int) (ln : Int → Int → Int) : Prop := (∀ j : Int, 0 ≤ j → j < n → sM τ 18 j = cmO ln so ch j) ∧ ∀ g : Int, 0 ≤ g → g < 2 → Lst τ g (keyO k (cmO ln so ch) so) (rk (keyO k (cmO ln so ch) so) (pG ch (cmO ln so ch) w g) n.toNat) ∧ Cmr τ g (cmO ln so ch) (rk (keyO k (cmO ln so ch) so) (pG ch (cmO ln so ch) w g) n.toNat) (rk (keyO k (cmO ln so ch) so) (pG ch (cmO ln so ch) w g) n.toNat).length
theorem Cmr.ch {S : Int → Int → Prop} {σ τ : ZS} (hF : FxD σ) {g : Int} {cm : Int → Int} {R : List Int} {r : Nat} (g0 : 0 ≤ g) (g1 : g < 2) (c : Ch S σ τ) (h1 : ∀ i, ¬ S (29 + g) i) (h : Cmr σ g cm R r) : Cmr τ g cm R r := by
  have hn := hF.2.2.2
  intro t ht
  rw [c.M (by omega) (h1 _)]; exact h t ht
theorem f_gather {σ : ZS} {W n k w : Int} {ch so : Int → Int} {ln rt : Int → Int → Int} (hV : LV σ W n k ch so ln rt) : Rt (fX2_gather σ 4 W w) (fun _ τ => Ch lnS σ τ ∧ Gth τ n k w ch so ln) := by
  have hF := hV.1
  have h9 := hF.2.2.2
  have hnn : 0 ≤ n ∧ n ≤ 16 := hV.2.2.2.1.2
  unfold fX2_gather
  repeat (first
    | with_reducible refine rt_b ?_
    | with_reducible refine rt_jn ?_
    | ((with_reducible refine rt_pos ?_ ?_); (· omega))
    | ((with_reducible refine rt_neg ?_ ?_); (· omega))
    | ((with_reducible refine rt_v ?_ ?_); · simp (disch := omega) only [true_and, and_true, sM_ne, sM_eq, sM_neR, sM_eqR, sK_upM, sK_upR, sL_upM, sL_upR, sN_upM, sN_upR, sT_upM, sT_upR, sN_upM, Int.reduceAdd, Int.reduceMul, Int.reduceSub, Int.reduceNeg, Int.zero_add, Int.add_zero, hF.c])
    | ((with_reducible refine rt_g ?_ ?_); (· simp (disch := omega) only [true_and, and_true, sM_ne, sM_eq, sM_neR, sM_eqR, sK_upM, sK_upR, sL_upM, sL_upR, sN_upM, sN_upR, sT_upM, sT_upR, sN_upM, Int.reduceAdd, Int.reduceMul, Int.reduceSub, Int.reduceNeg, Int.zero_add, Int.add_zero, hF.c]); (try simp (disch := omega) only [true_and, and_true, sM_ne, sM_eq, sM_neR, sM_eqR, sK_upM, sK_upR, sL_upM, sL_upR, sN_upM, sN_upR, sT_upM, sT_upR, sN_upM, Int.reduceAdd, Int.reduceMul, Int.reduceSub, Int.reduceNeg, Int.zero_add, Int.add_zero, hF.c]))
    | ((with_reducible refine rt_al ?_ ?_ ?_); (· simp (disch := omega) only [true_and, and_true, sM_ne, sM_eq, sM_neR, sM_eqR, sK_upM, sK_upR, sL_upM, sL_upR, sN_upM, sN_upR, sT_upM, sT_upR, sN_upM, Int.reduceAdd, Int.reduceMul, Int.reduceSub, Int.reduceNeg, Int.zero_add, Int.add_zero, hF.c]); (· first | omega | ((try simp (disch := omega) only [wr, true_and, and_true, sM_ne, sM_eq, sM_neR, sM_eqR, sK_upM, sK_upR, sL_upM, sL_upR, sN_upM, sN_upR, sT_upM, sT_upR, sN_upM, Int.reduceAdd, Int.reduceMul, Int.reduceSub, Int.reduceNeg, Int.zero_add, Int.add_zero, hF.c]) <;> omega)); (try simp (disch := omega) only [true_and, and_true, sM_ne, sM_eq, sM_neR, sM_eqR, sK_upM, sK_upR, sL_upM, sL_upR, sN_upM, sN_upR, sT_upM, sT_upR, sN_upM, Int.reduceAdd, Int.reduceMul, Int.reduceSub, Int.reduceNeg, Int.zero_add, Int.add_zero, hF.c]))
    | ((with_reducible refine rt_as ?_ ?_ ?_); (· simp (disch := omega) only [true_and, and_true, sM_ne, sM_eq, sM_neR, sM_eqR, sK_upM, sK_upR, sL_upM, sL_upR, sN_upM, sN_upR, sT_upM, sT_upR, sN_upM, Int.reduceAdd, Int.reduceMul, Int.reduceSub, Int.reduceNeg, Int.zero_add, Int.add_zero, hF.c]); (· first | omega | ((try simp (disch := omega) only [wr, true_and, and_true, sM_ne, sM_eq, sM_neR, sM_eqR, sK_upM, sK_upR, sL_upM, sL_upR, sN_upM, sN_upR, sT_upM, sT_upR, sN_upM, Int.reduceAdd, Int.reduceMul, Int.reduceSub, Int.reduceNeg, Int.zero_add, Int.add_zero, hF.c]) <;> omega)))
    | ((with_reducible refine rt_p ?_ ?_ ?_); (· simp (disch := omega) only [true_and, and_true, sM_ne, sM_eq, sM_neR, sM_eqR, sK_upM, sK_upR, sL_upM, sL_upR, sN_upM, sN_upR, sT_upM, sT_upR, sN_upM, Int.reduceAdd, Int.reduceMul, Int.reduceSub, Int.reduceNeg, Int.zero_add, Int.add_zero, hF.c]); (· omega))
    | with_reducible refine rt_ret ?_
    | ((with_reducible refine rt_gw ?_ ?_); (· assumption); (try simp (disch := omega) only [true_and, and_true, sM_ne, sM_eq, sM_neR, sM_eqR, sK_upM, sK_upR, sL_upM, sL_upR, sN_upM, sN_upR, sT_upM, sT_upR, sN_upM, Int.reduceAdd, Int.reduceMul, Int.reduceSub, Int.reduceNeg, Int.zero_add, Int.add_zero, hF.c])))
  have hC0 : Ch gaS σ (upM (upM σ 27 0 0) 27 1 0) := (Ch.rf.up (Or.inr (Or.inr (by omega)))).up (Or.inr (Or.inr (by omega)))
  refine l_gather16 (σ := σ) (fun τ hVτ hcτ h18 hL => ?_) 1000 0 _ (hV.ch (hC0.mono gaS_ln)) (by omega) (by omega) hC0 (fun j j0 j1 => by omega) (fun g g0 g1 => ⟨fun j hj => by simp [rk] at hj, ?_⟩)
  · have hFτ := hVτ.1
    have hn' := hFτ.2.2.2
    have hcmR : ∀ g c : Int, c ∈ rk (keyO k (cmO ln so ch) so) (pG ch (cmO ln so ch) w g) n.toNat → 0 ≤ c ∧ c < 16 ∧ 0 ≤ cmO ln so ch c ∧ cmO ln so ch c < 24 := by
      intro g c hc
      obtain ⟨c0, c1, c2⟩ := rk_mem.mp hc
      have := hV.cm (c := c) c0 (by omega)
      unfold pG at c2
      simp only [Bool.and_eq_true, decide_eq_true_eq] at c2
      omega
    have hlen : ∀ g : Int, (rk (keyO k (cmO ln so ch) so) (pG ch (cmO ln so ch) w g) n.toNat).length ≤ 16 := fun g => by
      have := rk_len (key := keyO k (cmO ln so ch) so) (p := pG ch (cmO ln so ch) w g) (n := n.toNat)
      omega
    rw [show (1000 : Nat) = 999 + 1 from rfl, lX2_gather_98]
    refine rt_neg (by omega) ?_
    refine l_zero (σ := τ) (g := 0) (by omega) (by omega) (fun τ1 hF1 hc1 hz1 => ?_) 1000 0 τ hFτ (by omega) (by omega) Ch.rf (fun j j0 j1 => by omega)
    refine l_or (σ := τ1) (g := 0) (key := keyO k (cmO ln so ch) so) (cm := cmO ln so ch) (R := rk (keyO k (cmO ln so ch) so) (pG ch (cmO ln so ch) w 0) n.toNat) (by omega) (by omega) (hlen 0) (hcmR 0) (fun τ2 hF2 hc2 hm2 => ?_) 1000 0 τ1 hF1 (by omega) (by have := hlen 0; omega) Ch.rf ((hL 0 (by omega) (by omega)).ch hFτ (by omega) (by omega) hc1 (fun i => by omega) (fun i => by omega) (by omega)) (fun c hc => ?_) (fun t ht => ⟨0, hz1 t (by omega) (by omega), by decide, fun j hj => by simp⟩)
    · have hc12 := hc1.tr hc2
      rw [show wrap (0 + 1) = 1 from by decide]
      rw [show (999 : Nat) = 998 + 1 from rfl, lX2_gather_98]
      refine rt_neg (by omega) ?_
      refine l_zero (σ := τ2) (g := 1) (by omega) (by omega) (fun τ3 hF3 hc3 hz3 => ?_) 1000 0 τ2 hF2 (by omega) (by omega) Ch.rf (fun j j0 j1 => by omega)
      have hL3 : ∀ g : Int, 0 ≤ g → g < 2 → Lst τ3 g (keyO k (cmO ln so ch) so) (rk (keyO k (cmO ln so ch) so) (pG ch (cmO ln so ch) w g) n.toNat) := fun g g0 g1 => ((hL g g0 g1).ch hFτ g0 g1 hc12 (fun i => by omega) (fun i => by omega) (by omega)).ch hF2 g0 g1 hc3 (fun i => by omega) (fun i => by omega) (by omega)
      refine l_or (σ := τ3) (g := 1) (key := keyO k (cmO ln so ch) so) (cm := cmO ln so ch) (R := rk (keyO k (cmO ln so ch) so) (pG ch (cmO ln so ch) w 1) n.toNat) (by omega) (by omega) (hlen 1) (hcmR 1) (fun τ4 hF4 hc4 hm4 => ?_) 1000 0 τ3 hF3 (by omega) (by have := hlen 1; omega) Ch.rf (hL3 1 (by omega) (by omega)) (fun c hc => ?_) (fun t ht => ⟨0, hz3 t (by omega) (by omega), by decide, fun j hj => by simp⟩)
      · rw [show wrap (1 + 1) = 2 from by decide]
        rw [show (998 : Nat) = 997 + 1 from rfl, lX2_gather_98]
        refine rt_pos (by omega) (rt_ret ⟨?_, fun j j0 j1 => ?_, fun g g0 g1 => ⟨?_, ?_⟩⟩)
        · exact ((((hcτ.mono gaS_ln).tr (hc12.mono (fun a i q => by unfold lnS; omega))).tr (hc3.mono (fun a i q => by unfold lnS; omega))).tr (hc4.mono (fun a i q => by unfold lnS; omega)))
        · rw [hc4.M (by have := hF3.2.2.2; omega) (by omega), hc3.M (by have := hF2.2.2.2; omega) (by omega), hc12.M (by omega) (by omega)]
          exact h18 j j0 j1
        · exact (hL3 g g0 g1).ch hF3 g0 g1 hc4 (fun i => by omega) (fun i => by omega) (by omega)
        · rcases (by omega : g = 0 ∨ g = 1) with rfl | rfl
          · exact (hm2.ch hF2 (by omega) (by omega) hc3 (fun i => by omega)).ch hF3 (by omega) (by omega) hc4 (fun i => by omega)
          · exact hm4
      · obtain ⟨b0, b1, b2⟩ := rk_mem.mp hc
        rw [hc3.M (by have := hF2.2.2.2; omega) (by omega), hc12.M (by omega) (by omega)]
        exact h18 c b0 (by omega)
    · obtain ⟨b0, b1, b2⟩ := rk_mem.mp hc
      rw [hc1.M (by omega) (by omega)]
      exact h18 c b0 (by omega)
  · rcases (by omega : g = 0 ∨ g = 1) with rfl | rfl
    · rw [sM_ne (by omega), sM_eq ⟨rfl, rfl⟩]; rfl
    · rw [sM_eq ⟨rfl, rfl⟩]; rfl
