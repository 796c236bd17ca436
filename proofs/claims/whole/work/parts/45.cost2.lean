/-! what it costs: the class behind its line, and the reference -/
theorem pasT_R {R : List Int} {cm : Int → Int} {rt : Nat → Nat} {c : Int} (T : Nat) (hT : T ≤ 24) : pasT R cm rt c T = -1 ∨ (0 ≤ pasT R cm rt c T ∧ pasT R cm rt c T < 24 ∧ c ∈ R ∧ cm c ≤ pasT R cm rt c T) := by
  rcases pasT_nn (R := R) (cm := cm) (rt := rt) (c := c) T with h | ⟨h1, h2, h3⟩
  · exact Or.inl h
  · have := arr_cm (go_arr h3)
    exact Or.inr ⟨h1, by omega, go_R h3, by omega⟩
theorem pasA_in {n k : Int} {ch so : Int → Int} {ln rt : Int → Int → Int} {c : Int} (hcm : cmO ln so ch c = -1 ∨ (0 ≤ cmO ln so ch c ∧ cmO ln so ch c < 24 ∧ ch c < 48)) : pasA n k ch so ln rt c = -1 ∨ (0 ≤ pasA n k ch so ln rt c ∧ pasA n k ch so ln rt c < 24 ∧ 0 ≤ cmO ln so ch c ∧ cmO ln so ch c ≤ pasA n k ch so ln rt c ∧ ch c < 48) := by
  unfold pasA pasO
  split
  · rcases pasT_R (R := Rg n k (-1) ch so ln 0) (cm := cmO ln so ch) (rt := rtN rt 0) (c := c) 24 (by omega) with h | ⟨h1, h2, h3, h4⟩
    · exact Or.inl h
    · have := (Rg_mem.mp h3).2.2.1
      exact Or.inr ⟨h1, h2, by omega, h4, by omega⟩
  · rcases pasT_R (R := Rg n k (-1) ch so ln 1) (cm := cmO ln so ch) (rt := rtN rt 1) (c := c) 24 (by omega) with h | ⟨h1, h2, h3, h4⟩
    · exact Or.inl h
    · have := (Rg_mem.mp h3).2.2.1
      exact Or.inr ⟨h1, h2, by omega, h4, by omega⟩
theorem Flw.ch {S : Int → Int → Prop} {σ τ : ZS} (hF : FxD σ) {n k : Int} {ch so : Int → Int} {ln rt : Int → Int → Int} (h : Flw σ n k ch so ln rt) (c : Ch S σ τ) (hS : ∀ a i, S a i → 31 ≤ a) : Flw τ n k ch so ln rt := by
  have h9 := hF.2.2.2
  obtain ⟨a, b, d, e⟩ := h
  refine ⟨fun j j0 j1 => ?_, fun j j0 j1 => ?_, ?_, fun j hj => ?_⟩
  · rw [c.M (by omega) (fun q => by have := hS _ _ q; omega)]; exact a j j0 j1
  · rw [c.M (by omega) (fun q => by have := hS _ _ q; omega)]; exact b j j0 j1
  · rw [c.M (by omega) (fun q => by have := hS _ _ q; omega)]; exact d
  · rw [c.M (by omega) (fun q => by have := hS _ _ q; omega)]; exact e j hj
theorem f_costOf {σ : ZS} {W n k T : Int} {ch so : Int → Int} {ln rt tl : Int → Int → Int} {st wi : Int → Int} {cs ls : List Int} (hV : LV σ W n k ch so ln rt) (hC : CV σ T tl st wi cs ls) (hW : Flw σ n k ch so ln rt) {c : Int} (c0 : 0 ≤ c) (c1 : c < n) : Rt (fX2_costOf σ 4 W c T) (fun v τ => v = costV k tl st wi cs (so c) (ch c) (cmO ln so ch c) (pasA n k ch so ln rt c) ∧ Ch csS σ τ) := by
  have hV0 := hV
  obtain ⟨hF, ⟨w1, w2⟩, ⟨k0, k5, kk⟩, ⟨n1, n2, n3⟩, p1, ⟨q1, q2⟩, a1, a2, a3, a4⟩ := hV
  have hw : wkn σ W := wk_w kk k0 k5
  obtain ⟨x1, x2, x3⟩ := a1 c c0 c1
  have hcm := hV0.cm c0 c1
  have hps := pasA_in (n := n) (k := k) (rt := rt) hcm
  replace x1 := hd x1
  replace p1 := hd p1
  replace q1 := hd q1
  replace q2 := hd q2
  replace n1 := hd n1
  have e18 := hd (hW.1 c c0 c1)
  have e19 := hd (hW.2.1 c c0 (by omega))
  unfold fX2_costOf
  repeat (first
    | with_reducible refine rt_b ?_
    | with_reducible refine rt_jn ?_
    | ((with_reducible refine rt_pos ?_ ?_); (· first | omega | ((try simp (disch := omega) only [wr, true_and, and_true, sM_ne, sM_eq, sM_neR, sM_eqR, sK_upM, sK_upR, sL_upM, sL_upR, sN_upM, sN_upR, sT_upM, sT_upR, sN_upM, Int.reduceAdd, Int.reduceMul, Int.reduceSub, Int.reduceNeg, Int.zero_add, Int.add_zero, hF.c, p1 (), x1 (), q1 (), q2 (), e18 (), e19 ()]) <;> omega)))
    | ((with_reducible refine rt_neg ?_ ?_); (· first | omega | ((try simp (disch := omega) only [wr, true_and, and_true, sM_ne, sM_eq, sM_neR, sM_eqR, sK_upM, sK_upR, sL_upM, sL_upR, sN_upM, sN_upR, sT_upM, sT_upR, sN_upM, Int.reduceAdd, Int.reduceMul, Int.reduceSub, Int.reduceNeg, Int.zero_add, Int.add_zero, hF.c, p1 (), x1 (), q1 (), q2 (), e18 (), e19 ()]) <;> omega)))
    | ((with_reducible refine rt_v ?_ ?_); · simp (disch := omega) only [true_and, and_true, sM_ne, sM_eq, sM_neR, sM_eqR, sK_upM, sK_upR, sL_upM, sL_upR, sN_upM, sN_upR, sT_upM, sT_upR, sN_upM, Int.reduceAdd, Int.reduceMul, Int.reduceSub, Int.reduceNeg, Int.zero_add, Int.add_zero, hF.c, p1 (), x1 (), q1 (), q2 (), e18 (), e19 ()])
    | ((with_reducible apply rt_gx); (· simp (disch := omega) only [true_and, and_true, sM_ne, sM_eq, sM_neR, sM_eqR, sK_upM, sK_upR, sL_upM, sL_upR, sN_upM, sN_upR, sT_upM, sT_upR, sN_upM, Int.reduceAdd, Int.reduceMul, Int.reduceSub, Int.reduceNeg, Int.zero_add, Int.add_zero, hF.c, p1 (), x1 (), q1 (), q2 (), e18 (), e19 ()]); (· (try simp (disch := omega) only [wr, true_and, and_true, sM_ne, sM_eq, sM_neR, sM_eqR, sK_upM, sK_upR, sL_upM, sL_upR, sN_upM, sN_upR, sT_upM, sT_upR, sN_upM, Int.reduceAdd, Int.reduceMul, Int.reduceSub, Int.reduceNeg, Int.zero_add, Int.add_zero, hF.c, p1 (), x1 (), q1 (), q2 (), e18 (), e19 ()]); exact rfl))
    | ((with_reducible apply rt_alx); (· simp (disch := omega) only [true_and, and_true, sM_ne, sM_eq, sM_neR, sM_eqR, sK_upM, sK_upR, sL_upM, sL_upR, sN_upM, sN_upR, sT_upM, sT_upR, sN_upM, Int.reduceAdd, Int.reduceMul, Int.reduceSub, Int.reduceNeg, Int.zero_add, Int.add_zero, hF.c, p1 (), x1 (), q1 (), q2 (), e18 (), e19 ()]); (· first | omega | ((try simp (disch := omega) only [wr, true_and, and_true, sM_ne, sM_eq, sM_neR, sM_eqR, sK_upM, sK_upR, sL_upM, sL_upR, sN_upM, sN_upR, sT_upM, sT_upR, sN_upM, Int.reduceAdd, Int.reduceMul, Int.reduceSub, Int.reduceNeg, Int.zero_add, Int.add_zero, hF.c, p1 (), x1 (), q1 (), q2 (), e18 (), e19 ()]) <;> omega)); (· (try simp (disch := omega) only [wr, true_and, and_true, sM_ne, sM_eq, sM_neR, sM_eqR, sK_upM, sK_upR, sL_upM, sL_upR, sN_upM, sN_upR, sT_upM, sT_upR, sN_upM, Int.reduceAdd, Int.reduceMul, Int.reduceSub, Int.reduceNeg, Int.zero_add, Int.add_zero, hF.c, p1 (), x1 (), q1 (), q2 (), e18 (), e19 ()]); exact rfl))
    | ((with_reducible refine rt_as ?_ ?_ ?_); (· simp (disch := omega) only [true_and, and_true, sM_ne, sM_eq, sM_neR, sM_eqR, sK_upM, sK_upR, sL_upM, sL_upR, sN_upM, sN_upR, sT_upM, sT_upR, sN_upM, Int.reduceAdd, Int.reduceMul, Int.reduceSub, Int.reduceNeg, Int.zero_add, Int.add_zero, hF.c, p1 (), x1 (), q1 (), q2 (), e18 (), e19 ()]); (· first | omega | ((try simp (disch := omega) only [wr, true_and, and_true, sM_ne, sM_eq, sM_neR, sM_eqR, sK_upM, sK_upR, sL_upM, sL_upR, sN_upM, sN_upR, sT_upM, sT_upR, sN_upM, Int.reduceAdd, Int.reduceMul, Int.reduceSub, Int.reduceNeg, Int.zero_add, Int.add_zero, hF.c, p1 (), x1 (), q1 (), q2 (), e18 (), e19 ()]) <;> omega)))
    | ((with_reducible refine rt_p ?_ ?_ ?_); (· simp (disch := omega) only [true_and, and_true, sM_ne, sM_eq, sM_neR, sM_eqR, sK_upM, sK_upR, sL_upM, sL_upR, sN_upM, sN_upR, sT_upM, sT_upR, sN_upM, Int.reduceAdd, Int.reduceMul, Int.reduceSub, Int.reduceNeg, Int.zero_add, Int.add_zero, hF.c, p1 (), x1 (), q1 (), q2 (), e18 (), e19 ()]); (· omega))
    | with_reducible refine rt_ret ?_
    | ((with_reducible apply rt_gwx); (· assumption); (· (try simp (disch := omega) only [wr, true_and, and_true, sM_ne, sM_eq, sM_neR, sM_eqR, sK_upM, sK_upR, sL_upM, sL_upR, sN_upM, sN_upR, sT_upM, sT_upR, sN_upM, Int.reduceAdd, Int.reduceMul, Int.reduceSub, Int.reduceNeg, Int.zero_add, Int.add_zero, hF.c, p1 (), x1 (), q1 (), q2 (), e18 (), e19 ()]); exact rfl)))
  refine Rt.mono (f_cost hV0 hC c0 c1 x2 x3 (by omega) (by omega) (by omega) (by omega)) ?_
  rintro v τ ⟨e, hc⟩
  exact rt_ret ⟨e, hc⟩
theorem f_paidOf {σ : ZS} {W n k T : Int} {ch so : Int → Int} {ln rt tl : Int → Int → Int} {st wi : Int → Int} {cs ls : List Int} (hV : LV σ W n k ch so ln rt) (hC : CV σ T tl st wi cs ls) (hW : Flw σ n k ch so ln rt) {c : Int} (c0 : 0 ≤ c) (c1 : c < n) : fX2_paidOf σ 4 W c = some (pdV k tl (ch c) (pasA n k ch so ln rt c), σ) := by
  have hV0 := hV
  obtain ⟨hF, ⟨w1, w2⟩, ⟨k0, k5, kk⟩, ⟨n1, n2, n3⟩, p1, ⟨q1, q2⟩, a1, a2, a3, a4⟩ := hV
  have hw : wkn σ W := wk_w kk k0 k5
  obtain ⟨x1, x2, x3⟩ := a1 c c0 c1
  have hcm := hV0.cm c0 c1
  have hps := pasA_in (n := n) (k := k) (rt := rt) hcm
  replace x1 := hd x1
  replace p1 := hd p1
  replace q1 := hd q1
  replace q2 := hd q2
  replace n1 := hd n1
  have e18 := hd (hW.1 c c0 c1)
  have e19 := hd (hW.2.1 c c0 (by omega))
  generalize hpe : pasA n k ch so ln rt c = ps at *
  have et := hd (show wrap ((ch c).tdiv 24) = ch c / 24 by rw [tdiv_n x2, wr (by omega) (by omega)])
  refine rt_is ?_
  unfold fX2_paidOf pdV
  by_cases hp : ps = -1
  · repeat (first
    | with_reducible refine rt_b ?_
    | with_reducible refine rt_jn ?_
    | ((with_reducible refine rt_pos ?_ ?_); (· first | omega | ((try simp (disch := omega) only [wr, true_and, and_true, sM_ne, sM_eq, sM_neR, sM_eqR, sK_upM, sK_upR, sL_upM, sL_upR, sN_upM, sN_upR, sT_upM, sT_upR, sN_upM, Int.reduceAdd, Int.reduceMul, Int.reduceSub, Int.reduceNeg, Int.zero_add, Int.add_zero, hF.c, p1 (), x1 (), q1 (), q2 (), e18 (), e19 ()]) <;> omega)))
    | ((with_reducible refine rt_neg ?_ ?_); (· first | omega | ((try simp (disch := omega) only [wr, true_and, and_true, sM_ne, sM_eq, sM_neR, sM_eqR, sK_upM, sK_upR, sL_upM, sL_upR, sN_upM, sN_upR, sT_upM, sT_upR, sN_upM, Int.reduceAdd, Int.reduceMul, Int.reduceSub, Int.reduceNeg, Int.zero_add, Int.add_zero, hF.c, p1 (), x1 (), q1 (), q2 (), e18 (), e19 ()]) <;> omega)))
    | ((with_reducible refine rt_v ?_ ?_); · simp (disch := omega) only [true_and, and_true, sM_ne, sM_eq, sM_neR, sM_eqR, sK_upM, sK_upR, sL_upM, sL_upR, sN_upM, sN_upR, sT_upM, sT_upR, sN_upM, Int.reduceAdd, Int.reduceMul, Int.reduceSub, Int.reduceNeg, Int.zero_add, Int.add_zero, hF.c, p1 (), x1 (), q1 (), q2 (), e18 (), e19 ()])
    | ((with_reducible apply rt_gx); (· simp (disch := omega) only [true_and, and_true, sM_ne, sM_eq, sM_neR, sM_eqR, sK_upM, sK_upR, sL_upM, sL_upR, sN_upM, sN_upR, sT_upM, sT_upR, sN_upM, Int.reduceAdd, Int.reduceMul, Int.reduceSub, Int.reduceNeg, Int.zero_add, Int.add_zero, hF.c, p1 (), x1 (), q1 (), q2 (), e18 (), e19 ()]); (· (try simp (disch := omega) only [wr, true_and, and_true, sM_ne, sM_eq, sM_neR, sM_eqR, sK_upM, sK_upR, sL_upM, sL_upR, sN_upM, sN_upR, sT_upM, sT_upR, sN_upM, Int.reduceAdd, Int.reduceMul, Int.reduceSub, Int.reduceNeg, Int.zero_add, Int.add_zero, hF.c, p1 (), x1 (), q1 (), q2 (), e18 (), e19 ()]); exact rfl))
    | ((with_reducible apply rt_alx); (· simp (disch := omega) only [true_and, and_true, sM_ne, sM_eq, sM_neR, sM_eqR, sK_upM, sK_upR, sL_upM, sL_upR, sN_upM, sN_upR, sT_upM, sT_upR, sN_upM, Int.reduceAdd, Int.reduceMul, Int.reduceSub, Int.reduceNeg, Int.zero_add, Int.add_zero, hF.c, p1 (), x1 (), q1 (), q2 (), e18 (), e19 ()]); (· first | omega | ((try simp (disch := omega) only [wr, true_and, and_true, sM_ne, sM_eq, sM_neR, sM_eqR, sK_upM, sK_upR, sL_upM, sL_upR, sN_upM, sN_upR, sT_upM, sT_upR, sN_upM, Int.reduceAdd, Int.reduceMul, Int.reduceSub, Int.reduceNeg, Int.zero_add, Int.add_zero, hF.c, p1 (), x1 (), q1 (), q2 (), e18 (), e19 ()]) <;> omega)); (· (try simp (disch := omega) only [wr, true_and, and_true, sM_ne, sM_eq, sM_neR, sM_eqR, sK_upM, sK_upR, sL_upM, sL_upR, sN_upM, sN_upR, sT_upM, sT_upR, sN_upM, Int.reduceAdd, Int.reduceMul, Int.reduceSub, Int.reduceNeg, Int.zero_add, Int.add_zero, hF.c, p1 (), x1 (), q1 (), q2 (), e18 (), e19 ()]); exact rfl))
    | ((with_reducible refine rt_as ?_ ?_ ?_); (· simp (disch := omega) only [true_and, and_true, sM_ne, sM_eq, sM_neR, sM_eqR, sK_upM, sK_upR, sL_upM, sL_upR, sN_upM, sN_upR, sT_upM, sT_upR, sN_upM, Int.reduceAdd, Int.reduceMul, Int.reduceSub, Int.reduceNeg, Int.zero_add, Int.add_zero, hF.c, p1 (), x1 (), q1 (), q2 (), e18 (), e19 ()]); (· first | omega | ((try simp (disch := omega) only [wr, true_and, and_true, sM_ne, sM_eq, sM_neR, sM_eqR, sK_upM, sK_upR, sL_upM, sL_upR, sN_upM, sN_upR, sT_upM, sT_upR, sN_upM, Int.reduceAdd, Int.reduceMul, Int.reduceSub, Int.reduceNeg, Int.zero_add, Int.add_zero, hF.c, p1 (), x1 (), q1 (), q2 (), e18 (), e19 ()]) <;> omega)))
    | ((with_reducible refine rt_p ?_ ?_ ?_); (· simp (disch := omega) only [true_and, and_true, sM_ne, sM_eq, sM_neR, sM_eqR, sK_upM, sK_upR, sL_upM, sL_upR, sN_upM, sN_upR, sT_upM, sT_upR, sN_upM, Int.reduceAdd, Int.reduceMul, Int.reduceSub, Int.reduceNeg, Int.zero_add, Int.add_zero, hF.c, p1 (), x1 (), q1 (), q2 (), e18 (), e19 ()]); (· omega))
    | with_reducible refine rt_ret ?_
    | ((with_reducible apply rt_gwx); (· assumption); (· (try simp (disch := omega) only [wr, true_and, and_true, sM_ne, sM_eq, sM_neR, sM_eqR, sK_upM, sK_upR, sL_upM, sL_upR, sN_upM, sN_upR, sT_upM, sT_upR, sN_upM, Int.reduceAdd, Int.reduceMul, Int.reduceSub, Int.reduceNeg, Int.zero_add, Int.add_zero, hF.c, p1 (), x1 (), q1 (), q2 (), e18 (), e19 ()]); exact rfl)))
    refine ⟨?_, rfl⟩
    rw [if_pos hp]
  · obtain ⟨v1, v2, v3⟩ := hC.1 (ch c / 24) ps (by omega) (by omega) (by omega) (by omega)
    replace v1 := hd v1
    repeat (first
    | with_reducible refine rt_b ?_
    | with_reducible refine rt_jn ?_
    | ((with_reducible refine rt_pos ?_ ?_); (· first | omega | ((try simp (disch := omega) only [wr, true_and, and_true, sM_ne, sM_eq, sM_neR, sM_eqR, sK_upM, sK_upR, sL_upM, sL_upR, sN_upM, sN_upR, sT_upM, sT_upR, sN_upM, Int.reduceAdd, Int.reduceMul, Int.reduceSub, Int.reduceNeg, Int.zero_add, Int.add_zero, hF.c, p1 (), x1 (), q1 (), q2 (), e18 (), e19 (), et (), v1 ()]) <;> omega)))
    | ((with_reducible refine rt_neg ?_ ?_); (· first | omega | ((try simp (disch := omega) only [wr, true_and, and_true, sM_ne, sM_eq, sM_neR, sM_eqR, sK_upM, sK_upR, sL_upM, sL_upR, sN_upM, sN_upR, sT_upM, sT_upR, sN_upM, Int.reduceAdd, Int.reduceMul, Int.reduceSub, Int.reduceNeg, Int.zero_add, Int.add_zero, hF.c, p1 (), x1 (), q1 (), q2 (), e18 (), e19 (), et (), v1 ()]) <;> omega)))
    | ((with_reducible refine rt_v ?_ ?_); · simp (disch := omega) only [true_and, and_true, sM_ne, sM_eq, sM_neR, sM_eqR, sK_upM, sK_upR, sL_upM, sL_upR, sN_upM, sN_upR, sT_upM, sT_upR, sN_upM, Int.reduceAdd, Int.reduceMul, Int.reduceSub, Int.reduceNeg, Int.zero_add, Int.add_zero, hF.c, p1 (), x1 (), q1 (), q2 (), e18 (), e19 (), et (), v1 ()])
    | ((with_reducible apply rt_gx); (· simp (disch := omega) only [true_and, and_true, sM_ne, sM_eq, sM_neR, sM_eqR, sK_upM, sK_upR, sL_upM, sL_upR, sN_upM, sN_upR, sT_upM, sT_upR, sN_upM, Int.reduceAdd, Int.reduceMul, Int.reduceSub, Int.reduceNeg, Int.zero_add, Int.add_zero, hF.c, p1 (), x1 (), q1 (), q2 (), e18 (), e19 (), et (), v1 ()]); (· (try simp (disch := omega) only [wr, true_and, and_true, sM_ne, sM_eq, sM_neR, sM_eqR, sK_upM, sK_upR, sL_upM, sL_upR, sN_upM, sN_upR, sT_upM, sT_upR, sN_upM, Int.reduceAdd, Int.reduceMul, Int.reduceSub, Int.reduceNeg, Int.zero_add, Int.add_zero, hF.c, p1 (), x1 (), q1 (), q2 (), e18 (), e19 (), et (), v1 ()]); exact rfl))
    | ((with_reducible apply rt_alx); (· simp (disch := omega) only [true_and, and_true, sM_ne, sM_eq, sM_neR, sM_eqR, sK_upM, sK_upR, sL_upM, sL_upR, sN_upM, sN_upR, sT_upM, sT_upR, sN_upM, Int.reduceAdd, Int.reduceMul, Int.reduceSub, Int.reduceNeg, Int.zero_add, Int.add_zero, hF.c, p1 (), x1 (), q1 (), q2 (), e18 (), e19 (), et (), v1 ()]); (· first | omega | ((try simp (disch := omega) only [wr, true_and, and_true, sM_ne, sM_eq, sM_neR, sM_eqR, sK_upM, sK_upR, sL_upM, sL_upR, sN_upM, sN_upR, sT_upM, sT_upR, sN_upM, Int.reduceAdd, Int.reduceMul, Int.reduceSub, Int.reduceNeg, Int.zero_add, Int.add_zero, hF.c, p1 (), x1 (), q1 (), q2 (), e18 (), e19 (), et (), v1 ()]) <;> omega)); (· (try simp (disch := omega) only [wr, true_and, and_true, sM_ne, sM_eq, sM_neR, sM_eqR, sK_upM, sK_upR, sL_upM, sL_upR, sN_upM, sN_upR, sT_upM, sT_upR, sN_upM, Int.reduceAdd, Int.reduceMul, Int.reduceSub, Int.reduceNeg, Int.zero_add, Int.add_zero, hF.c, p1 (), x1 (), q1 (), q2 (), e18 (), e19 (), et (), v1 ()]); exact rfl))
    | ((with_reducible refine rt_as ?_ ?_ ?_); (· simp (disch := omega) only [true_and, and_true, sM_ne, sM_eq, sM_neR, sM_eqR, sK_upM, sK_upR, sL_upM, sL_upR, sN_upM, sN_upR, sT_upM, sT_upR, sN_upM, Int.reduceAdd, Int.reduceMul, Int.reduceSub, Int.reduceNeg, Int.zero_add, Int.add_zero, hF.c, p1 (), x1 (), q1 (), q2 (), e18 (), e19 (), et (), v1 ()]); (· first | omega | ((try simp (disch := omega) only [wr, true_and, and_true, sM_ne, sM_eq, sM_neR, sM_eqR, sK_upM, sK_upR, sL_upM, sL_upR, sN_upM, sN_upR, sT_upM, sT_upR, sN_upM, Int.reduceAdd, Int.reduceMul, Int.reduceSub, Int.reduceNeg, Int.zero_add, Int.add_zero, hF.c, p1 (), x1 (), q1 (), q2 (), e18 (), e19 (), et (), v1 ()]) <;> omega)))
    | ((with_reducible refine rt_p ?_ ?_ ?_); (· simp (disch := omega) only [true_and, and_true, sM_ne, sM_eq, sM_neR, sM_eqR, sK_upM, sK_upR, sL_upM, sL_upR, sN_upM, sN_upR, sT_upM, sT_upR, sN_upM, Int.reduceAdd, Int.reduceMul, Int.reduceSub, Int.reduceNeg, Int.zero_add, Int.add_zero, hF.c, p1 (), x1 (), q1 (), q2 (), e18 (), e19 (), et (), v1 ()]); (· omega))
    | with_reducible refine rt_ret ?_
    | ((with_reducible apply rt_gwx); (· assumption); (· (try simp (disch := omega) only [wr, true_and, and_true, sM_ne, sM_eq, sM_neR, sM_eqR, sK_upM, sK_upR, sL_upM, sL_upR, sN_upM, sN_upR, sT_upM, sT_upR, sN_upM, Int.reduceAdd, Int.reduceMul, Int.reduceSub, Int.reduceNeg, Int.zero_add, Int.add_zero, hF.c, p1 (), x1 (), q1 (), q2 (), e18 (), e19 (), et (), v1 ()]); exact rfl)))
    refine rt_e (f_paid kk k0 k5 v2 v3) ?_
    refine rt_ret ⟨?_, rfl⟩
    rw [if_neg hp]
theorem f_lostOf {σ : ZS} {W n k T : Int} {ch so : Int → Int} {ln rt tl : Int → Int → Int} {st wi : Int → Int} {cs ls : List Int} (hV : LV σ W n k ch so ln rt) (hC : CV σ T tl st wi cs ls) (hW : Flw σ n k ch so ln rt) {c : Int} (c0 : 0 ≤ c) (c1 : c < n) : Rt (fX2_lostOf σ 4 W c T) (fun v τ => v = lostV k tl wi ls (so c) (ch c) (cmO ln so ch c) (pasA n k ch so ln rt c) ∧ Ch csS σ τ) := by
  have hV0 := hV
  have hC0 := hC
  obtain ⟨hF, ⟨w1, w2⟩, ⟨k0, k5, kk⟩, ⟨n1, n2, n3⟩, p1, ⟨q1, q2⟩, a1, a2, a3, a4⟩ := hV
  obtain ⟨b1, b2, b3, ⟨t1, t2, t3⟩, x1', x2'⟩ := hC
  have hcm := hV0.cm c0 c1
  have hps := pasA_in (n := n) (k := k) (rt := rt) hcm
  obtain ⟨s1, s2, s3⟩ := a2 c c0 c1
  replace n1 := hd n1
  have e18 := hd (hW.1 c c0 c1)
  have e19 := hd (hW.2.1 c c0 (by omega))
  have hpo := f_paidOf hV0 hC0 hW c0 c1
  generalize hpe : pasA n k ch so ln rt c = ps at *
  unfold fX2_lostOf lostV
  by_cases hp : ps = -1
  · repeat (first
    | with_reducible refine rt_b ?_
    | with_reducible refine rt_jn ?_
    | ((with_reducible refine rt_pos ?_ ?_); (· first | omega | ((try simp (disch := omega) only [wr, true_and, and_true, sM_ne, sM_eq, sM_neR, sM_eqR, sK_upM, sK_upR, sL_upM, sL_upR, sN_upM, sN_upR, sT_upM, sT_upR, sN_upM, Int.reduceAdd, Int.reduceMul, Int.reduceSub, Int.reduceNeg, Int.zero_add, Int.add_zero, hF.c, e18 (), e19 ()]) <;> omega)))
    | ((with_reducible refine rt_neg ?_ ?_); (· first | omega | ((try simp (disch := omega) only [wr, true_and, and_true, sM_ne, sM_eq, sM_neR, sM_eqR, sK_upM, sK_upR, sL_upM, sL_upR, sN_upM, sN_upR, sT_upM, sT_upR, sN_upM, Int.reduceAdd, Int.reduceMul, Int.reduceSub, Int.reduceNeg, Int.zero_add, Int.add_zero, hF.c, e18 (), e19 ()]) <;> omega)))
    | ((with_reducible refine rt_v ?_ ?_); · simp (disch := omega) only [true_and, and_true, sM_ne, sM_eq, sM_neR, sM_eqR, sK_upM, sK_upR, sL_upM, sL_upR, sN_upM, sN_upR, sT_upM, sT_upR, sN_upM, Int.reduceAdd, Int.reduceMul, Int.reduceSub, Int.reduceNeg, Int.zero_add, Int.add_zero, hF.c, e18 (), e19 ()])
    | ((with_reducible apply rt_gx); (· simp (disch := omega) only [true_and, and_true, sM_ne, sM_eq, sM_neR, sM_eqR, sK_upM, sK_upR, sL_upM, sL_upR, sN_upM, sN_upR, sT_upM, sT_upR, sN_upM, Int.reduceAdd, Int.reduceMul, Int.reduceSub, Int.reduceNeg, Int.zero_add, Int.add_zero, hF.c, e18 (), e19 ()]); (· (try simp (disch := omega) only [wr, true_and, and_true, sM_ne, sM_eq, sM_neR, sM_eqR, sK_upM, sK_upR, sL_upM, sL_upR, sN_upM, sN_upR, sT_upM, sT_upR, sN_upM, Int.reduceAdd, Int.reduceMul, Int.reduceSub, Int.reduceNeg, Int.zero_add, Int.add_zero, hF.c, e18 (), e19 ()]); exact rfl))
    | ((with_reducible apply rt_alx); (· simp (disch := omega) only [true_and, and_true, sM_ne, sM_eq, sM_neR, sM_eqR, sK_upM, sK_upR, sL_upM, sL_upR, sN_upM, sN_upR, sT_upM, sT_upR, sN_upM, Int.reduceAdd, Int.reduceMul, Int.reduceSub, Int.reduceNeg, Int.zero_add, Int.add_zero, hF.c, e18 (), e19 ()]); (· first | omega | ((try simp (disch := omega) only [wr, true_and, and_true, sM_ne, sM_eq, sM_neR, sM_eqR, sK_upM, sK_upR, sL_upM, sL_upR, sN_upM, sN_upR, sT_upM, sT_upR, sN_upM, Int.reduceAdd, Int.reduceMul, Int.reduceSub, Int.reduceNeg, Int.zero_add, Int.add_zero, hF.c, e18 (), e19 ()]) <;> omega)); (· (try simp (disch := omega) only [wr, true_and, and_true, sM_ne, sM_eq, sM_neR, sM_eqR, sK_upM, sK_upR, sL_upM, sL_upR, sN_upM, sN_upR, sT_upM, sT_upR, sN_upM, Int.reduceAdd, Int.reduceMul, Int.reduceSub, Int.reduceNeg, Int.zero_add, Int.add_zero, hF.c, e18 (), e19 ()]); exact rfl))
    | ((with_reducible refine rt_as ?_ ?_ ?_); (· simp (disch := omega) only [true_and, and_true, sM_ne, sM_eq, sM_neR, sM_eqR, sK_upM, sK_upR, sL_upM, sL_upR, sN_upM, sN_upR, sT_upM, sT_upR, sN_upM, Int.reduceAdd, Int.reduceMul, Int.reduceSub, Int.reduceNeg, Int.zero_add, Int.add_zero, hF.c, e18 (), e19 ()]); (· first | omega | ((try simp (disch := omega) only [wr, true_and, and_true, sM_ne, sM_eq, sM_neR, sM_eqR, sK_upM, sK_upR, sL_upM, sL_upR, sN_upM, sN_upR, sT_upM, sT_upR, sN_upM, Int.reduceAdd, Int.reduceMul, Int.reduceSub, Int.reduceNeg, Int.zero_add, Int.add_zero, hF.c, e18 (), e19 ()]) <;> omega)))
    | ((with_reducible refine rt_p ?_ ?_ ?_); (· simp (disch := omega) only [true_and, and_true, sM_ne, sM_eq, sM_neR, sM_eqR, sK_upM, sK_upR, sL_upM, sL_upR, sN_upM, sN_upR, sT_upM, sT_upR, sN_upM, Int.reduceAdd, Int.reduceMul, Int.reduceSub, Int.reduceNeg, Int.zero_add, Int.add_zero, hF.c, e18 (), e19 ()]); (· omega))
    | with_reducible refine rt_ret ?_
    | ((with_reducible apply rt_gwx); (· assumption); (· (try simp (disch := omega) only [wr, true_and, and_true, sM_ne, sM_eq, sM_neR, sM_eqR, sK_upM, sK_upR, sL_upM, sL_upR, sN_upM, sN_upR, sT_upM, sT_upR, sN_upM, Int.reduceAdd, Int.reduceMul, Int.reduceSub, Int.reduceNeg, Int.zero_add, Int.add_zero, hF.c, e18 (), e19 ()]); exact rfl)))
    refine ⟨?_, Ch.rf⟩
    rw [if_pos hp]
  · obtain ⟨u1, u2, u3⟩ := b3 (so c) s2 s3
    repeat (first
    | with_reducible refine rt_b ?_
    | with_reducible refine rt_jn ?_
    | ((with_reducible refine rt_pos ?_ ?_); (· first | omega | ((try simp (disch := omega) only [wr, true_and, and_true, sM_ne, sM_eq, sM_neR, sM_eqR, sK_upM, sK_upR, sL_upM, sL_upR, sN_upM, sN_upR, sT_upM, sT_upR, sN_upM, Int.reduceAdd, Int.reduceMul, Int.reduceSub, Int.reduceNeg, Int.zero_add, Int.add_zero, hF.c, e18 (), e19 ()]) <;> omega)))
    | ((with_reducible refine rt_neg ?_ ?_); (· first | omega | ((try simp (disch := omega) only [wr, true_and, and_true, sM_ne, sM_eq, sM_neR, sM_eqR, sK_upM, sK_upR, sL_upM, sL_upR, sN_upM, sN_upR, sT_upM, sT_upR, sN_upM, Int.reduceAdd, Int.reduceMul, Int.reduceSub, Int.reduceNeg, Int.zero_add, Int.add_zero, hF.c, e18 (), e19 ()]) <;> omega)))
    | ((with_reducible refine rt_v ?_ ?_); · simp (disch := omega) only [true_and, and_true, sM_ne, sM_eq, sM_neR, sM_eqR, sK_upM, sK_upR, sL_upM, sL_upR, sN_upM, sN_upR, sT_upM, sT_upR, sN_upM, Int.reduceAdd, Int.reduceMul, Int.reduceSub, Int.reduceNeg, Int.zero_add, Int.add_zero, hF.c, e18 (), e19 ()])
    | ((with_reducible apply rt_gx); (· simp (disch := omega) only [true_and, and_true, sM_ne, sM_eq, sM_neR, sM_eqR, sK_upM, sK_upR, sL_upM, sL_upR, sN_upM, sN_upR, sT_upM, sT_upR, sN_upM, Int.reduceAdd, Int.reduceMul, Int.reduceSub, Int.reduceNeg, Int.zero_add, Int.add_zero, hF.c, e18 (), e19 ()]); (· (try simp (disch := omega) only [wr, true_and, and_true, sM_ne, sM_eq, sM_neR, sM_eqR, sK_upM, sK_upR, sL_upM, sL_upR, sN_upM, sN_upR, sT_upM, sT_upR, sN_upM, Int.reduceAdd, Int.reduceMul, Int.reduceSub, Int.reduceNeg, Int.zero_add, Int.add_zero, hF.c, e18 (), e19 ()]); exact rfl))
    | ((with_reducible apply rt_alx); (· simp (disch := omega) only [true_and, and_true, sM_ne, sM_eq, sM_neR, sM_eqR, sK_upM, sK_upR, sL_upM, sL_upR, sN_upM, sN_upR, sT_upM, sT_upR, sN_upM, Int.reduceAdd, Int.reduceMul, Int.reduceSub, Int.reduceNeg, Int.zero_add, Int.add_zero, hF.c, e18 (), e19 ()]); (· first | omega | ((try simp (disch := omega) only [wr, true_and, and_true, sM_ne, sM_eq, sM_neR, sM_eqR, sK_upM, sK_upR, sL_upM, sL_upR, sN_upM, sN_upR, sT_upM, sT_upR, sN_upM, Int.reduceAdd, Int.reduceMul, Int.reduceSub, Int.reduceNeg, Int.zero_add, Int.add_zero, hF.c, e18 (), e19 ()]) <;> omega)); (· (try simp (disch := omega) only [wr, true_and, and_true, sM_ne, sM_eq, sM_neR, sM_eqR, sK_upM, sK_upR, sL_upM, sL_upR, sN_upM, sN_upR, sT_upM, sT_upR, sN_upM, Int.reduceAdd, Int.reduceMul, Int.reduceSub, Int.reduceNeg, Int.zero_add, Int.add_zero, hF.c, e18 (), e19 ()]); exact rfl))
    | ((with_reducible refine rt_as ?_ ?_ ?_); (· simp (disch := omega) only [true_and, and_true, sM_ne, sM_eq, sM_neR, sM_eqR, sK_upM, sK_upR, sL_upM, sL_upR, sN_upM, sN_upR, sT_upM, sT_upR, sN_upM, Int.reduceAdd, Int.reduceMul, Int.reduceSub, Int.reduceNeg, Int.zero_add, Int.add_zero, hF.c, e18 (), e19 ()]); (· first | omega | ((try simp (disch := omega) only [wr, true_and, and_true, sM_ne, sM_eq, sM_neR, sM_eqR, sK_upM, sK_upR, sL_upM, sL_upR, sN_upM, sN_upR, sT_upM, sT_upR, sN_upM, Int.reduceAdd, Int.reduceMul, Int.reduceSub, Int.reduceNeg, Int.zero_add, Int.add_zero, hF.c, e18 (), e19 ()]) <;> omega)))
    | ((with_reducible refine rt_p ?_ ?_ ?_); (· simp (disch := omega) only [true_and, and_true, sM_ne, sM_eq, sM_neR, sM_eqR, sK_upM, sK_upR, sL_upM, sL_upR, sN_upM, sN_upR, sT_upM, sT_upR, sN_upM, Int.reduceAdd, Int.reduceMul, Int.reduceSub, Int.reduceNeg, Int.zero_add, Int.add_zero, hF.c, e18 (), e19 ()]); (· omega))
    | with_reducible refine rt_ret ?_
    | ((with_reducible apply rt_gwx); (· assumption); (· (try simp (disch := omega) only [wr, true_and, and_true, sM_ne, sM_eq, sM_neR, sM_eqR, sK_upM, sK_upR, sL_upM, sL_upR, sN_upM, sN_upR, sT_upM, sT_upR, sN_upM, Int.reduceAdd, Int.reduceMul, Int.reduceSub, Int.reduceNeg, Int.zero_add, Int.add_zero, hF.c, e18 (), e19 ()]); exact rfl)))
    refine rt_e hpo ?_
    repeat (first
    | with_reducible refine rt_b ?_
    | with_reducible refine rt_jn ?_
    | ((with_reducible refine rt_pos ?_ ?_); (· first | omega | ((try simp (disch := omega) only [wr, true_and, and_true, sM_ne, sM_eq, sM_neR, sM_eqR, sK_upM, sK_upR, sL_upM, sL_upR, sN_upM, sN_upR, sT_upM, sT_upR, sN_upM, Int.reduceAdd, Int.reduceMul, Int.reduceSub, Int.reduceNeg, Int.zero_add, Int.add_zero, hF.c]) <;> omega)))
    | ((with_reducible refine rt_neg ?_ ?_); (· first | omega | ((try simp (disch := omega) only [wr, true_and, and_true, sM_ne, sM_eq, sM_neR, sM_eqR, sK_upM, sK_upR, sL_upM, sL_upR, sN_upM, sN_upR, sT_upM, sT_upR, sN_upM, Int.reduceAdd, Int.reduceMul, Int.reduceSub, Int.reduceNeg, Int.zero_add, Int.add_zero, hF.c]) <;> omega)))
    | ((with_reducible refine rt_v ?_ ?_); · simp (disch := omega) only [true_and, and_true, sM_ne, sM_eq, sM_neR, sM_eqR, sK_upM, sK_upR, sL_upM, sL_upR, sN_upM, sN_upR, sT_upM, sT_upR, sN_upM, Int.reduceAdd, Int.reduceMul, Int.reduceSub, Int.reduceNeg, Int.zero_add, Int.add_zero, hF.c])
    | ((with_reducible apply rt_gx); (· simp (disch := omega) only [true_and, and_true, sM_ne, sM_eq, sM_neR, sM_eqR, sK_upM, sK_upR, sL_upM, sL_upR, sN_upM, sN_upR, sT_upM, sT_upR, sN_upM, Int.reduceAdd, Int.reduceMul, Int.reduceSub, Int.reduceNeg, Int.zero_add, Int.add_zero, hF.c]); (· (try simp (disch := omega) only [wr, true_and, and_true, sM_ne, sM_eq, sM_neR, sM_eqR, sK_upM, sK_upR, sL_upM, sL_upR, sN_upM, sN_upR, sT_upM, sT_upR, sN_upM, Int.reduceAdd, Int.reduceMul, Int.reduceSub, Int.reduceNeg, Int.zero_add, Int.add_zero, hF.c]); exact rfl))
    | ((with_reducible apply rt_alx); (· simp (disch := omega) only [true_and, and_true, sM_ne, sM_eq, sM_neR, sM_eqR, sK_upM, sK_upR, sL_upM, sL_upR, sN_upM, sN_upR, sT_upM, sT_upR, sN_upM, Int.reduceAdd, Int.reduceMul, Int.reduceSub, Int.reduceNeg, Int.zero_add, Int.add_zero, hF.c]); (· first | omega | ((try simp (disch := omega) only [wr, true_and, and_true, sM_ne, sM_eq, sM_neR, sM_eqR, sK_upM, sK_upR, sL_upM, sL_upR, sN_upM, sN_upR, sT_upM, sT_upR, sN_upM, Int.reduceAdd, Int.reduceMul, Int.reduceSub, Int.reduceNeg, Int.zero_add, Int.add_zero, hF.c]) <;> omega)); (· (try simp (disch := omega) only [wr, true_and, and_true, sM_ne, sM_eq, sM_neR, sM_eqR, sK_upM, sK_upR, sL_upM, sL_upR, sN_upM, sN_upR, sT_upM, sT_upR, sN_upM, Int.reduceAdd, Int.reduceMul, Int.reduceSub, Int.reduceNeg, Int.zero_add, Int.add_zero, hF.c]); exact rfl))
    | ((with_reducible refine rt_as ?_ ?_ ?_); (· simp (disch := omega) only [true_and, and_true, sM_ne, sM_eq, sM_neR, sM_eqR, sK_upM, sK_upR, sL_upM, sL_upR, sN_upM, sN_upR, sT_upM, sT_upR, sN_upM, Int.reduceAdd, Int.reduceMul, Int.reduceSub, Int.reduceNeg, Int.zero_add, Int.add_zero, hF.c]); (· first | omega | ((try simp (disch := omega) only [wr, true_and, and_true, sM_ne, sM_eq, sM_neR, sM_eqR, sK_upM, sK_upR, sL_upM, sL_upR, sN_upM, sN_upR, sT_upM, sT_upR, sN_upM, Int.reduceAdd, Int.reduceMul, Int.reduceSub, Int.reduceNeg, Int.zero_add, Int.add_zero, hF.c]) <;> omega)))
    | ((with_reducible refine rt_p ?_ ?_ ?_); (· simp (disch := omega) only [true_and, and_true, sM_ne, sM_eq, sM_neR, sM_eqR, sK_upM, sK_upR, sL_upM, sL_upR, sN_upM, sN_upR, sT_upM, sT_upR, sN_upM, Int.reduceAdd, Int.reduceMul, Int.reduceSub, Int.reduceNeg, Int.zero_add, Int.add_zero, hF.c]); (· omega))
    | with_reducible refine rt_ret ?_
    | ((with_reducible apply rt_gwx); (· assumption); (· (try simp (disch := omega) only [wr, true_and, and_true, sM_ne, sM_eq, sM_neR, sM_eqR, sK_upM, sK_upR, sL_upM, sL_upR, sN_upM, sN_upR, sT_upM, sT_upR, sN_upM, Int.reduceAdd, Int.reduceMul, Int.reduceSub, Int.reduceNeg, Int.zero_add, Int.add_zero, hF.c]); exact rfl)))
    refine Rt.mono (f_learn hF c0 (by omega) s1 s2 s3 u1 u2 u3 (by omega) (by omega) (by omega) (by omega)) ?_
    rintro v τ ⟨hcτ, hfτ⟩
    have hFτ := hcτ.Fx hF (fun a i q => NF_i (by omega))
    have h9 := hF.2.2.2
    have kτ := hd (show sK τ T = 8 by rw [hcτ.K t3]; exact t1)
    have eT := hd (show sM τ T 1 = sM σ T 1 by rw [hcτ.M t3 (by omega)])
    have hx := x2'.ch hcτ (fun i => by have := x2'.2.1.2.1; omega)
    obtain ⟨y1, y2, y3, y4, y5⟩ := hx
    repeat (first
    | with_reducible refine rt_b ?_
    | with_reducible refine rt_jn ?_
    | ((with_reducible refine rt_pos ?_ ?_); (· first | omega | ((try simp (disch := omega) only [wr, true_and, and_true, sM_ne, sM_eq, sM_neR, sM_eqR, sK_upM, sK_upR, sL_upM, sL_upR, sN_upM, sN_upR, sT_upM, sT_upR, sN_upM, Int.reduceAdd, Int.reduceMul, Int.reduceSub, Int.reduceNeg, Int.zero_add, Int.add_zero, hFτ.c, kτ (), eT ()]) <;> omega)))
    | ((with_reducible refine rt_neg ?_ ?_); (· first | omega | ((try simp (disch := omega) only [wr, true_and, and_true, sM_ne, sM_eq, sM_neR, sM_eqR, sK_upM, sK_upR, sL_upM, sL_upR, sN_upM, sN_upR, sT_upM, sT_upR, sN_upM, Int.reduceAdd, Int.reduceMul, Int.reduceSub, Int.reduceNeg, Int.zero_add, Int.add_zero, hFτ.c, kτ (), eT ()]) <;> omega)))
    | ((with_reducible refine rt_v ?_ ?_); · simp (disch := omega) only [true_and, and_true, sM_ne, sM_eq, sM_neR, sM_eqR, sK_upM, sK_upR, sL_upM, sL_upR, sN_upM, sN_upR, sT_upM, sT_upR, sN_upM, Int.reduceAdd, Int.reduceMul, Int.reduceSub, Int.reduceNeg, Int.zero_add, Int.add_zero, hFτ.c, kτ (), eT ()])
    | ((with_reducible apply rt_gx); (· simp (disch := omega) only [true_and, and_true, sM_ne, sM_eq, sM_neR, sM_eqR, sK_upM, sK_upR, sL_upM, sL_upR, sN_upM, sN_upR, sT_upM, sT_upR, sN_upM, Int.reduceAdd, Int.reduceMul, Int.reduceSub, Int.reduceNeg, Int.zero_add, Int.add_zero, hFτ.c, kτ (), eT ()]); (· (try simp (disch := omega) only [wr, true_and, and_true, sM_ne, sM_eq, sM_neR, sM_eqR, sK_upM, sK_upR, sL_upM, sL_upR, sN_upM, sN_upR, sT_upM, sT_upR, sN_upM, Int.reduceAdd, Int.reduceMul, Int.reduceSub, Int.reduceNeg, Int.zero_add, Int.add_zero, hFτ.c, kτ (), eT ()]); exact rfl))
    | ((with_reducible apply rt_alx); (· simp (disch := omega) only [true_and, and_true, sM_ne, sM_eq, sM_neR, sM_eqR, sK_upM, sK_upR, sL_upM, sL_upR, sN_upM, sN_upR, sT_upM, sT_upR, sN_upM, Int.reduceAdd, Int.reduceMul, Int.reduceSub, Int.reduceNeg, Int.zero_add, Int.add_zero, hFτ.c, kτ (), eT ()]); (· first | omega | ((try simp (disch := omega) only [wr, true_and, and_true, sM_ne, sM_eq, sM_neR, sM_eqR, sK_upM, sK_upR, sL_upM, sL_upR, sN_upM, sN_upR, sT_upM, sT_upR, sN_upM, Int.reduceAdd, Int.reduceMul, Int.reduceSub, Int.reduceNeg, Int.zero_add, Int.add_zero, hFτ.c, kτ (), eT ()]) <;> omega)); (· (try simp (disch := omega) only [wr, true_and, and_true, sM_ne, sM_eq, sM_neR, sM_eqR, sK_upM, sK_upR, sL_upM, sL_upR, sN_upM, sN_upR, sT_upM, sT_upR, sN_upM, Int.reduceAdd, Int.reduceMul, Int.reduceSub, Int.reduceNeg, Int.zero_add, Int.add_zero, hFτ.c, kτ (), eT ()]); exact rfl))
    | ((with_reducible refine rt_as ?_ ?_ ?_); (· simp (disch := omega) only [true_and, and_true, sM_ne, sM_eq, sM_neR, sM_eqR, sK_upM, sK_upR, sL_upM, sL_upR, sN_upM, sN_upR, sT_upM, sT_upR, sN_upM, Int.reduceAdd, Int.reduceMul, Int.reduceSub, Int.reduceNeg, Int.zero_add, Int.add_zero, hFτ.c, kτ (), eT ()]); (· first | omega | ((try simp (disch := omega) only [wr, true_and, and_true, sM_ne, sM_eq, sM_neR, sM_eqR, sK_upM, sK_upR, sL_upM, sL_upR, sN_upM, sN_upR, sT_upM, sT_upR, sN_upM, Int.reduceAdd, Int.reduceMul, Int.reduceSub, Int.reduceNeg, Int.zero_add, Int.add_zero, hFτ.c, kτ (), eT ()]) <;> omega)))
    | ((with_reducible refine rt_p ?_ ?_ ?_); (· simp (disch := omega) only [true_and, and_true, sM_ne, sM_eq, sM_neR, sM_eqR, sK_upM, sK_upR, sL_upM, sL_upR, sN_upM, sN_upR, sT_upM, sT_upR, sN_upM, Int.reduceAdd, Int.reduceMul, Int.reduceSub, Int.reduceNeg, Int.zero_add, Int.add_zero, hFτ.c, kτ (), eT ()]); (· omega))
    | with_reducible refine rt_ret ?_
    | ((with_reducible apply rt_gwx); (· assumption); (· (try simp (disch := omega) only [wr, true_and, and_true, sM_ne, sM_eq, sM_neR, sM_eqR, sK_upM, sK_upR, sL_upM, sL_upR, sN_upM, sN_upR, sT_upM, sT_upR, sN_upM, Int.reduceAdd, Int.reduceMul, Int.reduceSub, Int.reduceNeg, Int.zero_add, Int.add_zero, hFτ.c, kτ (), eT ()]); exact rfl)))
    have hA := f_amount hFτ (A := sM σ T 1) (f := fct (so c) (wi (so c)) (cmO ln so ch c) ps (pdV k tl (ch c) ps)) (by omega) y1 y3.1 y3.2 (by rw [y4]; exact y5) hfτ
    rw [y4] at hA
    refine Rt.mono hA ?_
    rintro v' ρ ⟨e1, hcρ⟩
    refine rt_ret ⟨?_, (hcτ.mono (fun a i q => by unfold csS; omega)).tr (hcρ.mono (fun a i q => by unfold csS; omega))⟩
    rw [if_neg hp, e1]
    unfold pdV
    rw [if_neg hp]
    rfl
theorem f_waitOf {σ : ZS} {W n k : Int} {ch so : Int → Int} {ln rt : Int → Int → Int} (hV : LV σ W n k ch so ln rt) (hW : Flw σ n k ch so ln rt) {c : Int} (c0 : 0 ≤ c) (c1 : c < n) : fX2_waitOf σ 4 c = some (if pasA n k ch so ln rt c = -1 then 0 else pasA n k ch so ln rt c - cmO ln so ch c, σ) := by
  have hF := hV.1
  have hn3 := hV.2.2.2.1.2.2
  have hcm := hV.cm c0 c1
  have hps := pasA_in (n := n) (k := k) (rt := rt) hcm
  have e18 := hd (hW.1 c c0 c1)
  have e19 := hd (hW.2.1 c c0 (by omega))
  generalize hpe : pasA n k ch so ln rt c = ps at *
  refine rt_is ?_
  unfold fX2_waitOf
  by_cases hp : ps = -1
  · repeat (first
    | with_reducible refine rt_b ?_
    | with_reducible refine rt_jn ?_
    | ((with_reducible refine rt_pos ?_ ?_); (· first | omega | ((try simp (disch := omega) only [wr, true_and, and_true, sM_ne, sM_eq, sM_neR, sM_eqR, sK_upM, sK_upR, sL_upM, sL_upR, sN_upM, sN_upR, sT_upM, sT_upR, sN_upM, Int.reduceAdd, Int.reduceMul, Int.reduceSub, Int.reduceNeg, Int.zero_add, Int.add_zero, hF.c, e18 (), e19 ()]) <;> omega)))
    | ((with_reducible refine rt_neg ?_ ?_); (· first | omega | ((try simp (disch := omega) only [wr, true_and, and_true, sM_ne, sM_eq, sM_neR, sM_eqR, sK_upM, sK_upR, sL_upM, sL_upR, sN_upM, sN_upR, sT_upM, sT_upR, sN_upM, Int.reduceAdd, Int.reduceMul, Int.reduceSub, Int.reduceNeg, Int.zero_add, Int.add_zero, hF.c, e18 (), e19 ()]) <;> omega)))
    | ((with_reducible refine rt_v ?_ ?_); · simp (disch := omega) only [true_and, and_true, sM_ne, sM_eq, sM_neR, sM_eqR, sK_upM, sK_upR, sL_upM, sL_upR, sN_upM, sN_upR, sT_upM, sT_upR, sN_upM, Int.reduceAdd, Int.reduceMul, Int.reduceSub, Int.reduceNeg, Int.zero_add, Int.add_zero, hF.c, e18 (), e19 ()])
    | ((with_reducible apply rt_gx); (· simp (disch := omega) only [true_and, and_true, sM_ne, sM_eq, sM_neR, sM_eqR, sK_upM, sK_upR, sL_upM, sL_upR, sN_upM, sN_upR, sT_upM, sT_upR, sN_upM, Int.reduceAdd, Int.reduceMul, Int.reduceSub, Int.reduceNeg, Int.zero_add, Int.add_zero, hF.c, e18 (), e19 ()]); (· (try simp (disch := omega) only [wr, true_and, and_true, sM_ne, sM_eq, sM_neR, sM_eqR, sK_upM, sK_upR, sL_upM, sL_upR, sN_upM, sN_upR, sT_upM, sT_upR, sN_upM, Int.reduceAdd, Int.reduceMul, Int.reduceSub, Int.reduceNeg, Int.zero_add, Int.add_zero, hF.c, e18 (), e19 ()]); exact rfl))
    | ((with_reducible apply rt_alx); (· simp (disch := omega) only [true_and, and_true, sM_ne, sM_eq, sM_neR, sM_eqR, sK_upM, sK_upR, sL_upM, sL_upR, sN_upM, sN_upR, sT_upM, sT_upR, sN_upM, Int.reduceAdd, Int.reduceMul, Int.reduceSub, Int.reduceNeg, Int.zero_add, Int.add_zero, hF.c, e18 (), e19 ()]); (· first | omega | ((try simp (disch := omega) only [wr, true_and, and_true, sM_ne, sM_eq, sM_neR, sM_eqR, sK_upM, sK_upR, sL_upM, sL_upR, sN_upM, sN_upR, sT_upM, sT_upR, sN_upM, Int.reduceAdd, Int.reduceMul, Int.reduceSub, Int.reduceNeg, Int.zero_add, Int.add_zero, hF.c, e18 (), e19 ()]) <;> omega)); (· (try simp (disch := omega) only [wr, true_and, and_true, sM_ne, sM_eq, sM_neR, sM_eqR, sK_upM, sK_upR, sL_upM, sL_upR, sN_upM, sN_upR, sT_upM, sT_upR, sN_upM, Int.reduceAdd, Int.reduceMul, Int.reduceSub, Int.reduceNeg, Int.zero_add, Int.add_zero, hF.c, e18 (), e19 ()]); exact rfl))
    | ((with_reducible refine rt_as ?_ ?_ ?_); (· simp (disch := omega) only [true_and, and_true, sM_ne, sM_eq, sM_neR, sM_eqR, sK_upM, sK_upR, sL_upM, sL_upR, sN_upM, sN_upR, sT_upM, sT_upR, sN_upM, Int.reduceAdd, Int.reduceMul, Int.reduceSub, Int.reduceNeg, Int.zero_add, Int.add_zero, hF.c, e18 (), e19 ()]); (· first | omega | ((try simp (disch := omega) only [wr, true_and, and_true, sM_ne, sM_eq, sM_neR, sM_eqR, sK_upM, sK_upR, sL_upM, sL_upR, sN_upM, sN_upR, sT_upM, sT_upR, sN_upM, Int.reduceAdd, Int.reduceMul, Int.reduceSub, Int.reduceNeg, Int.zero_add, Int.add_zero, hF.c, e18 (), e19 ()]) <;> omega)))
    | ((with_reducible refine rt_p ?_ ?_ ?_); (· simp (disch := omega) only [true_and, and_true, sM_ne, sM_eq, sM_neR, sM_eqR, sK_upM, sK_upR, sL_upM, sL_upR, sN_upM, sN_upR, sT_upM, sT_upR, sN_upM, Int.reduceAdd, Int.reduceMul, Int.reduceSub, Int.reduceNeg, Int.zero_add, Int.add_zero, hF.c, e18 (), e19 ()]); (· omega))
    | with_reducible refine rt_ret ?_
    | ((with_reducible apply rt_gwx); (· assumption); (· (try simp (disch := omega) only [wr, true_and, and_true, sM_ne, sM_eq, sM_neR, sM_eqR, sK_upM, sK_upR, sL_upM, sL_upR, sN_upM, sN_upR, sT_upM, sT_upR, sN_upM, Int.reduceAdd, Int.reduceMul, Int.reduceSub, Int.reduceNeg, Int.zero_add, Int.add_zero, hF.c, e18 (), e19 ()]); exact rfl)))
    refine ⟨?_, rfl⟩
    rw [if_pos hp]
  · repeat (first
    | with_reducible refine rt_b ?_
    | with_reducible refine rt_jn ?_
    | ((with_reducible refine rt_pos ?_ ?_); (· first | omega | ((try simp (disch := omega) only [wr, true_and, and_true, sM_ne, sM_eq, sM_neR, sM_eqR, sK_upM, sK_upR, sL_upM, sL_upR, sN_upM, sN_upR, sT_upM, sT_upR, sN_upM, Int.reduceAdd, Int.reduceMul, Int.reduceSub, Int.reduceNeg, Int.zero_add, Int.add_zero, hF.c, e18 (), e19 ()]) <;> omega)))
    | ((with_reducible refine rt_neg ?_ ?_); (· first | omega | ((try simp (disch := omega) only [wr, true_and, and_true, sM_ne, sM_eq, sM_neR, sM_eqR, sK_upM, sK_upR, sL_upM, sL_upR, sN_upM, sN_upR, sT_upM, sT_upR, sN_upM, Int.reduceAdd, Int.reduceMul, Int.reduceSub, Int.reduceNeg, Int.zero_add, Int.add_zero, hF.c, e18 (), e19 ()]) <;> omega)))
    | ((with_reducible refine rt_v ?_ ?_); · simp (disch := omega) only [true_and, and_true, sM_ne, sM_eq, sM_neR, sM_eqR, sK_upM, sK_upR, sL_upM, sL_upR, sN_upM, sN_upR, sT_upM, sT_upR, sN_upM, Int.reduceAdd, Int.reduceMul, Int.reduceSub, Int.reduceNeg, Int.zero_add, Int.add_zero, hF.c, e18 (), e19 ()])
    | ((with_reducible apply rt_gx); (· simp (disch := omega) only [true_and, and_true, sM_ne, sM_eq, sM_neR, sM_eqR, sK_upM, sK_upR, sL_upM, sL_upR, sN_upM, sN_upR, sT_upM, sT_upR, sN_upM, Int.reduceAdd, Int.reduceMul, Int.reduceSub, Int.reduceNeg, Int.zero_add, Int.add_zero, hF.c, e18 (), e19 ()]); (· (try simp (disch := omega) only [wr, true_and, and_true, sM_ne, sM_eq, sM_neR, sM_eqR, sK_upM, sK_upR, sL_upM, sL_upR, sN_upM, sN_upR, sT_upM, sT_upR, sN_upM, Int.reduceAdd, Int.reduceMul, Int.reduceSub, Int.reduceNeg, Int.zero_add, Int.add_zero, hF.c, e18 (), e19 ()]); exact rfl))
    | ((with_reducible apply rt_alx); (· simp (disch := omega) only [true_and, and_true, sM_ne, sM_eq, sM_neR, sM_eqR, sK_upM, sK_upR, sL_upM, sL_upR, sN_upM, sN_upR, sT_upM, sT_upR, sN_upM, Int.reduceAdd, Int.reduceMul, Int.reduceSub, Int.reduceNeg, Int.zero_add, Int.add_zero, hF.c, e18 (), e19 ()]); (· first | omega | ((try simp (disch := omega) only [wr, true_and, and_true, sM_ne, sM_eq, sM_neR, sM_eqR, sK_upM, sK_upR, sL_upM, sL_upR, sN_upM, sN_upR, sT_upM, sT_upR, sN_upM, Int.reduceAdd, Int.reduceMul, Int.reduceSub, Int.reduceNeg, Int.zero_add, Int.add_zero, hF.c, e18 (), e19 ()]) <;> omega)); (· (try simp (disch := omega) only [wr, true_and, and_true, sM_ne, sM_eq, sM_neR, sM_eqR, sK_upM, sK_upR, sL_upM, sL_upR, sN_upM, sN_upR, sT_upM, sT_upR, sN_upM, Int.reduceAdd, Int.reduceMul, Int.reduceSub, Int.reduceNeg, Int.zero_add, Int.add_zero, hF.c, e18 (), e19 ()]); exact rfl))
    | ((with_reducible refine rt_as ?_ ?_ ?_); (· simp (disch := omega) only [true_and, and_true, sM_ne, sM_eq, sM_neR, sM_eqR, sK_upM, sK_upR, sL_upM, sL_upR, sN_upM, sN_upR, sT_upM, sT_upR, sN_upM, Int.reduceAdd, Int.reduceMul, Int.reduceSub, Int.reduceNeg, Int.zero_add, Int.add_zero, hF.c, e18 (), e19 ()]); (· first | omega | ((try simp (disch := omega) only [wr, true_and, and_true, sM_ne, sM_eq, sM_neR, sM_eqR, sK_upM, sK_upR, sL_upM, sL_upR, sN_upM, sN_upR, sT_upM, sT_upR, sN_upM, Int.reduceAdd, Int.reduceMul, Int.reduceSub, Int.reduceNeg, Int.zero_add, Int.add_zero, hF.c, e18 (), e19 ()]) <;> omega)))
    | ((with_reducible refine rt_p ?_ ?_ ?_); (· simp (disch := omega) only [true_and, and_true, sM_ne, sM_eq, sM_neR, sM_eqR, sK_upM, sK_upR, sL_upM, sL_upR, sN_upM, sN_upR, sT_upM, sT_upR, sN_upM, Int.reduceAdd, Int.reduceMul, Int.reduceSub, Int.reduceNeg, Int.zero_add, Int.add_zero, hF.c, e18 (), e19 ()]); (· omega))
    | with_reducible refine rt_ret ?_
    | ((with_reducible apply rt_gwx); (· assumption); (· (try simp (disch := omega) only [wr, true_and, and_true, sM_ne, sM_eq, sM_neR, sM_eqR, sK_upM, sK_upR, sL_upM, sL_upR, sN_upM, sN_upR, sT_upM, sT_upR, sN_upM, Int.reduceAdd, Int.reduceMul, Int.reduceSub, Int.reduceNeg, Int.zero_add, Int.add_zero, hF.c, e18 (), e19 ()]); exact rfl)))
    refine ⟨?_, rfl⟩
    rw [if_neg hp, wr (by omega) (by omega)]
/-! the reference's -/
def TXM (σ : ZS) (r p : Int) (cs : List Int) : Prop := ∃ (L : Nat) (f : Int → Int) (q : Int), (rowL f L = cs ∧ dpk 0 cs = true) ∧ sM σ 76 (4 * r + p) = q ∧ 0 ≤ q ∧ sM σ 76 (4 * r + p + 1) = q + (L : Int) ∧ q + (L : Int) ≤ 200 ∧ ∀ j : Int, 0 ≤ j → j < (L : Int) → sM σ 75 (200 * r + (q + j)) = cv (f j)
def MC (σ : ZS) (tl : Int → Int → Int) (st wi : Int → Int) (cs ls : List Int) : Prop := (∀ g t : Int, 0 ≤ g → g < 2 → 0 ≤ t → t < 24 → sM σ 66 (24 * g + t) = tl g t ∧ 0 ≤ tl g t ∧ tl g t ≤ 99) ∧ (∀ s : Int, 0 ≤ s → s < 4 → sM σ 68 s = st s ∧ 0 ≤ st s ∧ st s ≤ 999) ∧ (∀ s : Int, 0 ≤ s → s < 4 → sM σ 67 s = wi s ∧ 0 ≤ wi s ∧ wi s ≤ 23) ∧ ∃ r : Int, (sM σ 64 17 = r ∧ 0 ≤ r ∧ r < 6) ∧ TXM σ r 0 cs ∧ TXM σ r 1 ls
theorem TXM.ch {σ τ : ZS} (hF : FxD σ) {r p : Int} {cs : List Int} (h : TXM σ r p cs) (c : Ch mdS σ τ) : TXM τ r p cs := by
  have h9 := hF.2.2.2
  obtain ⟨L, f, q, a, b, d, e, g, i⟩ := h
  refine ⟨L, f, q, a, ?_, d, ?_, g, fun j j0 j1 => ?_⟩
  · rw [c.M (by omega) (by unfold mdS; omega)]; exact b
  · rw [c.M (by omega) (by unfold mdS; omega)]; exact e
  · rw [c.M (by omega) (by unfold mdS; omega)]; exact i j j0 j1
theorem MC.ch {σ τ : ZS} (hF : FxD σ) {tl : Int → Int → Int} {st wi : Int → Int} {cs ls : List Int} (h : MC σ tl st wi cs ls) (c : Ch mdS σ τ) : MC τ tl st wi cs ls := by
  have h9 := hF.2.2.2
  obtain ⟨a1, a2, a3, r, ⟨r1, r2, r3⟩, x1, x2⟩ := h
  refine ⟨fun g t g0 g1 b0 b1 => ?_, fun s s0 s1 => ?_, fun s s0 s1 => ?_, r, ⟨?_, r2, r3⟩, x1.ch hF c, x2.ch hF c⟩
  · rw [c.M (by omega) (by unfold mdS; omega)]; exact a1 g t g0 g1 b0 b1
  · rw [c.M (by omega) (by unfold mdS; omega)]; exact a2 s s0 s1
  · rw [c.M (by omega) (by unfold mdS; omega)]; exact a3 s s0 s1
  · rw [c.M (by omega) (by unfold mdS; omega)]; exact r1
theorem f_paidM {σ : ZS} {w n k : Int} {ch so : Int → Int} {ln rt tl : Int → Int → Int} {st wi : Int → Int} {cs ls : List Int} (hV : MV σ w n k ch so ln rt) (hC : MC σ tl st wi cs ls) {c ps : Int} (c0 : 0 ≤ c) (c1 : c < n) (hp : sM σ 90 c = ps) (hpr : ps = -1 ∨ (0 ≤ ps ∧ ps < 24 ∧ ch c < 48)) : fX12_paid σ 64 w c = some (pdV k tl (ch c) ps, σ) := by
  obtain ⟨hF, w1, ⟨k0, k5, kk⟩, ⟨n1, n2, n3⟩, a1, a2, a3, a4⟩ := hV
  obtain ⟨x1, x2, x3⟩ := a1 c c0 c1
  replace x1 := hd x1
  replace hp := hd hp
  replace kk := hd kk
  replace n1 := hd n1
  refine rt_is ?_
  unfold fX12_paid pdV
  by_cases h1 : ps = -1
  · repeat (first
    | with_reducible refine rt_b ?_
    | with_reducible refine rt_jn ?_
    | ((with_reducible refine rt_pos ?_ ?_); (· first | omega | ((try simp (disch := omega) only [wr, true_and, and_true, sM_ne, sM_eq, sM_neR, sM_eqR, sK_upM, sK_upR, sL_upM, sL_upR, sN_upM, sN_upR, sT_upM, sT_upR, sN_upM, Int.reduceAdd, Int.reduceMul, Int.reduceSub, Int.reduceNeg, Int.zero_add, Int.add_zero, hF.c, hp ()]) <;> omega)))
    | ((with_reducible refine rt_neg ?_ ?_); (· first | omega | ((try simp (disch := omega) only [wr, true_and, and_true, sM_ne, sM_eq, sM_neR, sM_eqR, sK_upM, sK_upR, sL_upM, sL_upR, sN_upM, sN_upR, sT_upM, sT_upR, sN_upM, Int.reduceAdd, Int.reduceMul, Int.reduceSub, Int.reduceNeg, Int.zero_add, Int.add_zero, hF.c, hp ()]) <;> omega)))
    | ((with_reducible refine rt_v ?_ ?_); · simp (disch := omega) only [true_and, and_true, sM_ne, sM_eq, sM_neR, sM_eqR, sK_upM, sK_upR, sL_upM, sL_upR, sN_upM, sN_upR, sT_upM, sT_upR, sN_upM, Int.reduceAdd, Int.reduceMul, Int.reduceSub, Int.reduceNeg, Int.zero_add, Int.add_zero, hF.c, hp ()])
    | ((with_reducible apply rt_gx); (· simp (disch := omega) only [true_and, and_true, sM_ne, sM_eq, sM_neR, sM_eqR, sK_upM, sK_upR, sL_upM, sL_upR, sN_upM, sN_upR, sT_upM, sT_upR, sN_upM, Int.reduceAdd, Int.reduceMul, Int.reduceSub, Int.reduceNeg, Int.zero_add, Int.add_zero, hF.c, hp ()]); (· (try simp (disch := omega) only [wr, true_and, and_true, sM_ne, sM_eq, sM_neR, sM_eqR, sK_upM, sK_upR, sL_upM, sL_upR, sN_upM, sN_upR, sT_upM, sT_upR, sN_upM, Int.reduceAdd, Int.reduceMul, Int.reduceSub, Int.reduceNeg, Int.zero_add, Int.add_zero, hF.c, hp ()]); exact rfl))
    | ((with_reducible apply rt_alx); (· simp (disch := omega) only [true_and, and_true, sM_ne, sM_eq, sM_neR, sM_eqR, sK_upM, sK_upR, sL_upM, sL_upR, sN_upM, sN_upR, sT_upM, sT_upR, sN_upM, Int.reduceAdd, Int.reduceMul, Int.reduceSub, Int.reduceNeg, Int.zero_add, Int.add_zero, hF.c, hp ()]); (· first | omega | ((try simp (disch := omega) only [wr, true_and, and_true, sM_ne, sM_eq, sM_neR, sM_eqR, sK_upM, sK_upR, sL_upM, sL_upR, sN_upM, sN_upR, sT_upM, sT_upR, sN_upM, Int.reduceAdd, Int.reduceMul, Int.reduceSub, Int.reduceNeg, Int.zero_add, Int.add_zero, hF.c, hp ()]) <;> omega)); (· (try simp (disch := omega) only [wr, true_and, and_true, sM_ne, sM_eq, sM_neR, sM_eqR, sK_upM, sK_upR, sL_upM, sL_upR, sN_upM, sN_upR, sT_upM, sT_upR, sN_upM, Int.reduceAdd, Int.reduceMul, Int.reduceSub, Int.reduceNeg, Int.zero_add, Int.add_zero, hF.c, hp ()]); exact rfl))
    | ((with_reducible refine rt_as ?_ ?_ ?_); (· simp (disch := omega) only [true_and, and_true, sM_ne, sM_eq, sM_neR, sM_eqR, sK_upM, sK_upR, sL_upM, sL_upR, sN_upM, sN_upR, sT_upM, sT_upR, sN_upM, Int.reduceAdd, Int.reduceMul, Int.reduceSub, Int.reduceNeg, Int.zero_add, Int.add_zero, hF.c, hp ()]); (· first | omega | ((try simp (disch := omega) only [wr, true_and, and_true, sM_ne, sM_eq, sM_neR, sM_eqR, sK_upM, sK_upR, sL_upM, sL_upR, sN_upM, sN_upR, sT_upM, sT_upR, sN_upM, Int.reduceAdd, Int.reduceMul, Int.reduceSub, Int.reduceNeg, Int.zero_add, Int.add_zero, hF.c, hp ()]) <;> omega)))
    | ((with_reducible refine rt_p ?_ ?_ ?_); (· simp (disch := omega) only [true_and, and_true, sM_ne, sM_eq, sM_neR, sM_eqR, sK_upM, sK_upR, sL_upM, sL_upR, sN_upM, sN_upR, sT_upM, sT_upR, sN_upM, Int.reduceAdd, Int.reduceMul, Int.reduceSub, Int.reduceNeg, Int.zero_add, Int.add_zero, hF.c, hp ()]); (· omega))
    | with_reducible refine rt_ret ?_
    | ((with_reducible apply rt_gwx); (· assumption); (· (try simp (disch := omega) only [wr, true_and, and_true, sM_ne, sM_eq, sM_neR, sM_eqR, sK_upM, sK_upR, sL_upM, sL_upR, sN_upM, sN_upR, sT_upM, sT_upR, sN_upM, Int.reduceAdd, Int.reduceMul, Int.reduceSub, Int.reduceNeg, Int.zero_add, Int.add_zero, hF.c, hp ()]); exact rfl)))
    refine ⟨?_, rfl⟩
    rw [if_pos h1]
  · obtain ⟨v1, v2, v3⟩ := hC.1 (ch c / 24) ps (by omega) (by omega) (by omega) (by omega)
    replace v1 := hd v1
    have et := hd (show wrap (wrap (24 * wrap ((ch c).tdiv 24)) + ps) = 24 * (ch c / 24) + ps by
      rw [tdiv_n x2, wr (x := ch c / 24) (by omega) (by omega), wr (x := 24 * (ch c / 24)) (by omega) (by omega), wr (by omega) (by omega)])
    unfold paidV
    by_cases hk1 : k = 1
    · repeat (first
    | with_reducible refine rt_b ?_
    | with_reducible refine rt_jn ?_
    | ((with_reducible refine rt_pos ?_ ?_); (· first | omega | ((try simp (disch := omega) only [wr, true_and, and_true, sM_ne, sM_eq, sM_neR, sM_eqR, sK_upM, sK_upR, sL_upM, sL_upR, sN_upM, sN_upR, sT_upM, sT_upR, sN_upM, Int.reduceAdd, Int.reduceMul, Int.reduceSub, Int.reduceNeg, Int.zero_add, Int.add_zero, hF.c, hp (), x1 (), et (), v1 (), kk ()]) <;> omega)))
    | ((with_reducible refine rt_neg ?_ ?_); (· first | omega | ((try simp (disch := omega) only [wr, true_and, and_true, sM_ne, sM_eq, sM_neR, sM_eqR, sK_upM, sK_upR, sL_upM, sL_upR, sN_upM, sN_upR, sT_upM, sT_upR, sN_upM, Int.reduceAdd, Int.reduceMul, Int.reduceSub, Int.reduceNeg, Int.zero_add, Int.add_zero, hF.c, hp (), x1 (), et (), v1 (), kk ()]) <;> omega)))
    | ((with_reducible refine rt_v ?_ ?_); · simp (disch := omega) only [true_and, and_true, sM_ne, sM_eq, sM_neR, sM_eqR, sK_upM, sK_upR, sL_upM, sL_upR, sN_upM, sN_upR, sT_upM, sT_upR, sN_upM, Int.reduceAdd, Int.reduceMul, Int.reduceSub, Int.reduceNeg, Int.zero_add, Int.add_zero, hF.c, hp (), x1 (), et (), v1 (), kk ()])
    | ((with_reducible apply rt_gx); (· simp (disch := omega) only [true_and, and_true, sM_ne, sM_eq, sM_neR, sM_eqR, sK_upM, sK_upR, sL_upM, sL_upR, sN_upM, sN_upR, sT_upM, sT_upR, sN_upM, Int.reduceAdd, Int.reduceMul, Int.reduceSub, Int.reduceNeg, Int.zero_add, Int.add_zero, hF.c, hp (), x1 (), et (), v1 (), kk ()]); (· (try simp (disch := omega) only [wr, true_and, and_true, sM_ne, sM_eq, sM_neR, sM_eqR, sK_upM, sK_upR, sL_upM, sL_upR, sN_upM, sN_upR, sT_upM, sT_upR, sN_upM, Int.reduceAdd, Int.reduceMul, Int.reduceSub, Int.reduceNeg, Int.zero_add, Int.add_zero, hF.c, hp (), x1 (), et (), v1 (), kk ()]); exact rfl))
    | ((with_reducible apply rt_alx); (· simp (disch := omega) only [true_and, and_true, sM_ne, sM_eq, sM_neR, sM_eqR, sK_upM, sK_upR, sL_upM, sL_upR, sN_upM, sN_upR, sT_upM, sT_upR, sN_upM, Int.reduceAdd, Int.reduceMul, Int.reduceSub, Int.reduceNeg, Int.zero_add, Int.add_zero, hF.c, hp (), x1 (), et (), v1 (), kk ()]); (· first | omega | ((try simp (disch := omega) only [wr, true_and, and_true, sM_ne, sM_eq, sM_neR, sM_eqR, sK_upM, sK_upR, sL_upM, sL_upR, sN_upM, sN_upR, sT_upM, sT_upR, sN_upM, Int.reduceAdd, Int.reduceMul, Int.reduceSub, Int.reduceNeg, Int.zero_add, Int.add_zero, hF.c, hp (), x1 (), et (), v1 (), kk ()]) <;> omega)); (· (try simp (disch := omega) only [wr, true_and, and_true, sM_ne, sM_eq, sM_neR, sM_eqR, sK_upM, sK_upR, sL_upM, sL_upR, sN_upM, sN_upR, sT_upM, sT_upR, sN_upM, Int.reduceAdd, Int.reduceMul, Int.reduceSub, Int.reduceNeg, Int.zero_add, Int.add_zero, hF.c, hp (), x1 (), et (), v1 (), kk ()]); exact rfl))
    | ((with_reducible refine rt_as ?_ ?_ ?_); (· simp (disch := omega) only [true_and, and_true, sM_ne, sM_eq, sM_neR, sM_eqR, sK_upM, sK_upR, sL_upM, sL_upR, sN_upM, sN_upR, sT_upM, sT_upR, sN_upM, Int.reduceAdd, Int.reduceMul, Int.reduceSub, Int.reduceNeg, Int.zero_add, Int.add_zero, hF.c, hp (), x1 (), et (), v1 (), kk ()]); (· first | omega | ((try simp (disch := omega) only [wr, true_and, and_true, sM_ne, sM_eq, sM_neR, sM_eqR, sK_upM, sK_upR, sL_upM, sL_upR, sN_upM, sN_upR, sT_upM, sT_upR, sN_upM, Int.reduceAdd, Int.reduceMul, Int.reduceSub, Int.reduceNeg, Int.zero_add, Int.add_zero, hF.c, hp (), x1 (), et (), v1 (), kk ()]) <;> omega)))
    | ((with_reducible refine rt_p ?_ ?_ ?_); (· simp (disch := omega) only [true_and, and_true, sM_ne, sM_eq, sM_neR, sM_eqR, sK_upM, sK_upR, sL_upM, sL_upR, sN_upM, sN_upR, sT_upM, sT_upR, sN_upM, Int.reduceAdd, Int.reduceMul, Int.reduceSub, Int.reduceNeg, Int.zero_add, Int.add_zero, hF.c, hp (), x1 (), et (), v1 (), kk ()]); (· omega))
    | with_reducible refine rt_ret ?_
    | ((with_reducible apply rt_gwx); (· assumption); (· (try simp (disch := omega) only [wr, true_and, and_true, sM_ne, sM_eq, sM_neR, sM_eqR, sK_upM, sK_upR, sL_upM, sL_upR, sN_upM, sN_upR, sT_upM, sT_upR, sN_upM, Int.reduceAdd, Int.reduceMul, Int.reduceSub, Int.reduceNeg, Int.zero_add, Int.add_zero, hF.c, hp (), x1 (), et (), v1 (), kk ()]); exact rfl)))
      refine ⟨?_, rfl⟩
      rw [if_neg h1, if_pos hk1]
    · by_cases hk5 : k = 5
      · repeat (first
    | with_reducible refine rt_b ?_
    | with_reducible refine rt_jn ?_
    | ((with_reducible refine rt_pos ?_ ?_); (· first | omega | ((try simp (disch := omega) only [wr, true_and, and_true, sM_ne, sM_eq, sM_neR, sM_eqR, sK_upM, sK_upR, sL_upM, sL_upR, sN_upM, sN_upR, sT_upM, sT_upR, sN_upM, Int.reduceAdd, Int.reduceMul, Int.reduceSub, Int.reduceNeg, Int.zero_add, Int.add_zero, hF.c, hp (), x1 (), et (), v1 (), kk ()]) <;> omega)))
    | ((with_reducible refine rt_neg ?_ ?_); (· first | omega | ((try simp (disch := omega) only [wr, true_and, and_true, sM_ne, sM_eq, sM_neR, sM_eqR, sK_upM, sK_upR, sL_upM, sL_upR, sN_upM, sN_upR, sT_upM, sT_upR, sN_upM, Int.reduceAdd, Int.reduceMul, Int.reduceSub, Int.reduceNeg, Int.zero_add, Int.add_zero, hF.c, hp (), x1 (), et (), v1 (), kk ()]) <;> omega)))
    | ((with_reducible refine rt_v ?_ ?_); · simp (disch := omega) only [true_and, and_true, sM_ne, sM_eq, sM_neR, sM_eqR, sK_upM, sK_upR, sL_upM, sL_upR, sN_upM, sN_upR, sT_upM, sT_upR, sN_upM, Int.reduceAdd, Int.reduceMul, Int.reduceSub, Int.reduceNeg, Int.zero_add, Int.add_zero, hF.c, hp (), x1 (), et (), v1 (), kk ()])
    | ((with_reducible apply rt_gx); (· simp (disch := omega) only [true_and, and_true, sM_ne, sM_eq, sM_neR, sM_eqR, sK_upM, sK_upR, sL_upM, sL_upR, sN_upM, sN_upR, sT_upM, sT_upR, sN_upM, Int.reduceAdd, Int.reduceMul, Int.reduceSub, Int.reduceNeg, Int.zero_add, Int.add_zero, hF.c, hp (), x1 (), et (), v1 (), kk ()]); (· (try simp (disch := omega) only [wr, true_and, and_true, sM_ne, sM_eq, sM_neR, sM_eqR, sK_upM, sK_upR, sL_upM, sL_upR, sN_upM, sN_upR, sT_upM, sT_upR, sN_upM, Int.reduceAdd, Int.reduceMul, Int.reduceSub, Int.reduceNeg, Int.zero_add, Int.add_zero, hF.c, hp (), x1 (), et (), v1 (), kk ()]); exact rfl))
    | ((with_reducible apply rt_alx); (· simp (disch := omega) only [true_and, and_true, sM_ne, sM_eq, sM_neR, sM_eqR, sK_upM, sK_upR, sL_upM, sL_upR, sN_upM, sN_upR, sT_upM, sT_upR, sN_upM, Int.reduceAdd, Int.reduceMul, Int.reduceSub, Int.reduceNeg, Int.zero_add, Int.add_zero, hF.c, hp (), x1 (), et (), v1 (), kk ()]); (· first | omega | ((try simp (disch := omega) only [wr, true_and, and_true, sM_ne, sM_eq, sM_neR, sM_eqR, sK_upM, sK_upR, sL_upM, sL_upR, sN_upM, sN_upR, sT_upM, sT_upR, sN_upM, Int.reduceAdd, Int.reduceMul, Int.reduceSub, Int.reduceNeg, Int.zero_add, Int.add_zero, hF.c, hp (), x1 (), et (), v1 (), kk ()]) <;> omega)); (· (try simp (disch := omega) only [wr, true_and, and_true, sM_ne, sM_eq, sM_neR, sM_eqR, sK_upM, sK_upR, sL_upM, sL_upR, sN_upM, sN_upR, sT_upM, sT_upR, sN_upM, Int.reduceAdd, Int.reduceMul, Int.reduceSub, Int.reduceNeg, Int.zero_add, Int.add_zero, hF.c, hp (), x1 (), et (), v1 (), kk ()]); exact rfl))
    | ((with_reducible refine rt_as ?_ ?_ ?_); (· simp (disch := omega) only [true_and, and_true, sM_ne, sM_eq, sM_neR, sM_eqR, sK_upM, sK_upR, sL_upM, sL_upR, sN_upM, sN_upR, sT_upM, sT_upR, sN_upM, Int.reduceAdd, Int.reduceMul, Int.reduceSub, Int.reduceNeg, Int.zero_add, Int.add_zero, hF.c, hp (), x1 (), et (), v1 (), kk ()]); (· first | omega | ((try simp (disch := omega) only [wr, true_and, and_true, sM_ne, sM_eq, sM_neR, sM_eqR, sK_upM, sK_upR, sL_upM, sL_upR, sN_upM, sN_upR, sT_upM, sT_upR, sN_upM, Int.reduceAdd, Int.reduceMul, Int.reduceSub, Int.reduceNeg, Int.zero_add, Int.add_zero, hF.c, hp (), x1 (), et (), v1 (), kk ()]) <;> omega)))
    | ((with_reducible refine rt_p ?_ ?_ ?_); (· simp (disch := omega) only [true_and, and_true, sM_ne, sM_eq, sM_neR, sM_eqR, sK_upM, sK_upR, sL_upM, sL_upR, sN_upM, sN_upR, sT_upM, sT_upR, sN_upM, Int.reduceAdd, Int.reduceMul, Int.reduceSub, Int.reduceNeg, Int.zero_add, Int.add_zero, hF.c, hp (), x1 (), et (), v1 (), kk ()]); (· omega))
    | with_reducible refine rt_ret ?_
    | ((with_reducible apply rt_gwx); (· assumption); (· (try simp (disch := omega) only [wr, true_and, and_true, sM_ne, sM_eq, sM_neR, sM_eqR, sK_upM, sK_upR, sL_upM, sL_upR, sN_upM, sN_upR, sT_upM, sT_upR, sN_upM, Int.reduceAdd, Int.reduceMul, Int.reduceSub, Int.reduceNeg, Int.zero_add, Int.add_zero, hF.c, hp (), x1 (), et (), v1 (), kk ()]); exact rfl)))
        refine ⟨?_, rfl⟩
        rw [if_neg h1, if_neg hk1, if_pos hk5, tdiv_n v2, wr (by omega) (by omega)]
      · repeat (first
    | with_reducible refine rt_b ?_
    | with_reducible refine rt_jn ?_
    | ((with_reducible refine rt_pos ?_ ?_); (· first | omega | ((try simp (disch := omega) only [wr, true_and, and_true, sM_ne, sM_eq, sM_neR, sM_eqR, sK_upM, sK_upR, sL_upM, sL_upR, sN_upM, sN_upR, sT_upM, sT_upR, sN_upM, Int.reduceAdd, Int.reduceMul, Int.reduceSub, Int.reduceNeg, Int.zero_add, Int.add_zero, hF.c, hp (), x1 (), et (), v1 (), kk ()]) <;> omega)))
    | ((with_reducible refine rt_neg ?_ ?_); (· first | omega | ((try simp (disch := omega) only [wr, true_and, and_true, sM_ne, sM_eq, sM_neR, sM_eqR, sK_upM, sK_upR, sL_upM, sL_upR, sN_upM, sN_upR, sT_upM, sT_upR, sN_upM, Int.reduceAdd, Int.reduceMul, Int.reduceSub, Int.reduceNeg, Int.zero_add, Int.add_zero, hF.c, hp (), x1 (), et (), v1 (), kk ()]) <;> omega)))
    | ((with_reducible refine rt_v ?_ ?_); · simp (disch := omega) only [true_and, and_true, sM_ne, sM_eq, sM_neR, sM_eqR, sK_upM, sK_upR, sL_upM, sL_upR, sN_upM, sN_upR, sT_upM, sT_upR, sN_upM, Int.reduceAdd, Int.reduceMul, Int.reduceSub, Int.reduceNeg, Int.zero_add, Int.add_zero, hF.c, hp (), x1 (), et (), v1 (), kk ()])
    | ((with_reducible apply rt_gx); (· simp (disch := omega) only [true_and, and_true, sM_ne, sM_eq, sM_neR, sM_eqR, sK_upM, sK_upR, sL_upM, sL_upR, sN_upM, sN_upR, sT_upM, sT_upR, sN_upM, Int.reduceAdd, Int.reduceMul, Int.reduceSub, Int.reduceNeg, Int.zero_add, Int.add_zero, hF.c, hp (), x1 (), et (), v1 (), kk ()]); (· (try simp (disch := omega) only [wr, true_and, and_true, sM_ne, sM_eq, sM_neR, sM_eqR, sK_upM, sK_upR, sL_upM, sL_upR, sN_upM, sN_upR, sT_upM, sT_upR, sN_upM, Int.reduceAdd, Int.reduceMul, Int.reduceSub, Int.reduceNeg, Int.zero_add, Int.add_zero, hF.c, hp (), x1 (), et (), v1 (), kk ()]); exact rfl))
    | ((with_reducible apply rt_alx); (· simp (disch := omega) only [true_and, and_true, sM_ne, sM_eq, sM_neR, sM_eqR, sK_upM, sK_upR, sL_upM, sL_upR, sN_upM, sN_upR, sT_upM, sT_upR, sN_upM, Int.reduceAdd, Int.reduceMul, Int.reduceSub, Int.reduceNeg, Int.zero_add, Int.add_zero, hF.c, hp (), x1 (), et (), v1 (), kk ()]); (· first | omega | ((try simp (disch := omega) only [wr, true_and, and_true, sM_ne, sM_eq, sM_neR, sM_eqR, sK_upM, sK_upR, sL_upM, sL_upR, sN_upM, sN_upR, sT_upM, sT_upR, sN_upM, Int.reduceAdd, Int.reduceMul, Int.reduceSub, Int.reduceNeg, Int.zero_add, Int.add_zero, hF.c, hp (), x1 (), et (), v1 (), kk ()]) <;> omega)); (· (try simp (disch := omega) only [wr, true_and, and_true, sM_ne, sM_eq, sM_neR, sM_eqR, sK_upM, sK_upR, sL_upM, sL_upR, sN_upM, sN_upR, sT_upM, sT_upR, sN_upM, Int.reduceAdd, Int.reduceMul, Int.reduceSub, Int.reduceNeg, Int.zero_add, Int.add_zero, hF.c, hp (), x1 (), et (), v1 (), kk ()]); exact rfl))
    | ((with_reducible refine rt_as ?_ ?_ ?_); (· simp (disch := omega) only [true_and, and_true, sM_ne, sM_eq, sM_neR, sM_eqR, sK_upM, sK_upR, sL_upM, sL_upR, sN_upM, sN_upR, sT_upM, sT_upR, sN_upM, Int.reduceAdd, Int.reduceMul, Int.reduceSub, Int.reduceNeg, Int.zero_add, Int.add_zero, hF.c, hp (), x1 (), et (), v1 (), kk ()]); (· first | omega | ((try simp (disch := omega) only [wr, true_and, and_true, sM_ne, sM_eq, sM_neR, sM_eqR, sK_upM, sK_upR, sL_upM, sL_upR, sN_upM, sN_upR, sT_upM, sT_upR, sN_upM, Int.reduceAdd, Int.reduceMul, Int.reduceSub, Int.reduceNeg, Int.zero_add, Int.add_zero, hF.c, hp (), x1 (), et (), v1 (), kk ()]) <;> omega)))
    | ((with_reducible refine rt_p ?_ ?_ ?_); (· simp (disch := omega) only [true_and, and_true, sM_ne, sM_eq, sM_neR, sM_eqR, sK_upM, sK_upR, sL_upM, sL_upR, sN_upM, sN_upR, sT_upM, sT_upR, sN_upM, Int.reduceAdd, Int.reduceMul, Int.reduceSub, Int.reduceNeg, Int.zero_add, Int.add_zero, hF.c, hp (), x1 (), et (), v1 (), kk ()]); (· omega))
    | with_reducible refine rt_ret ?_
    | ((with_reducible apply rt_gwx); (· assumption); (· (try simp (disch := omega) only [wr, true_and, and_true, sM_ne, sM_eq, sM_neR, sM_eqR, sK_upM, sK_upR, sL_upM, sL_upR, sN_upM, sN_upR, sT_upM, sT_upR, sN_upM, Int.reduceAdd, Int.reduceMul, Int.reduceSub, Int.reduceNeg, Int.zero_add, Int.add_zero, hF.c, hp (), x1 (), et (), v1 (), kk ()]); exact rfl)))
        refine ⟨?_, rfl⟩
        rw [if_neg h1, if_neg hk1, if_neg hk5]
theorem f_names {σ : ZS} {w n k : Int} {ch so : Int → Int} {ln rt tl : Int → Int → Int} {st wi : Int → Int} {cs ls : List Int} (hV : MV σ w n k ch so ln rt) (hC : MC σ tl st wi cs ls) {c cm ps : Int} (c0 : 0 ≤ c) (c1 : c < n) (hm : sM σ 89 c = cm) (m0 : -1 ≤ cm) (m1 : cm < 24) (hp : sM σ 90 c = ps) (p0 : 0 ≤ ps) (p1 : ps < 24) (hx : ch c < 48) : Rt (fX12_names σ 64 w c) (fun _ τ => Ch (fun a _ => a = 87) σ τ ∧ ∀ j : Int, 0 ≤ j → j < 6 → sM τ 87 j = fct (so c) (wi (so c)) cm ps (pdV k tl (ch c) ps) j) := by
  have hV0 := hV
  have hC0 := hC
  obtain ⟨hF, w1, ⟨k0, k5, kk⟩, ⟨n1, n2, n3⟩, a1, a2, a3, a4⟩ := hV
  obtain ⟨s1, s2, s3⟩ := a2 c c0 c1
  obtain ⟨u1, u2, u3⟩ := hC.2.2.1 (so c) s2 s3
  replace s1 := hd s1
  replace u1 := hd u1
  replace hm := hd hm
  replace hp := hd hp
  replace n1 := hd n1
  replace kk := hd kk
  generalize wi (so c) = wv at *
  have e0 := hd (show wrap (ps - cm) = ps - cm from wr (by omega) (by omega))
  have e1 := hd (show wrap (ps - wv) = ps - wv from wr (by omega) (by omega))
  have e2 := hd (show wrap (-(ps - wv)) = wv - ps by rw [wr (by omega) (by omega)]; omega)
  have fin : ∀ (τ : ZS) (x1 x2 : Int), Ch (fun a _ => a = 87) σ τ → sM τ 87 0 = ps - cm → sM τ 87 1 = (if ps < wv then wv - ps else 0) → sM τ 87 2 = (if wv < ps then ps - wv else 0) → sM τ 87 3 = ps → sM τ 87 4 = so c → Rt (fX12_paid τ 64 w c) (fun v ρ => Rt ((zas ρ 100 87 5 v).bind (fun s35 => some (0, s35))) (fun _ τ => Ch (fun a _ => a = 87) σ τ ∧ ∀ j : Int, 0 ≤ j → j < 6 → sM τ 87 j = fct (so c) wv cm ps (pdV k tl (ch c) ps) j)) := by
    intro τ _ _ hcτ f0 f1 f2 f3 f4
    have hcm : Ch mdS σ τ := hcτ.mono (fun a i q => by unfold mdS; omega)
    have hVτ := hV0.ch hcm
    have hFτ := hVτ.1
    have h9 := hF.2.2.2
    have hpτ : sM τ 90 c = ps := by rw [hcτ.M (by omega) (by omega)]; exact hp ()
    refine rt_e (f_paidM hVτ (hC0.ch hF hcm) c0 c1 hpτ (Or.inr ⟨p0, p1, hx⟩)) ?_
    refine rt_as (by simp (disch := omega) only [true_and, and_true, sM_ne, sM_eq, sM_neR, sM_eqR, sK_upM, sK_upR, sL_upM, sL_upR, sN_upM, sN_upR, sT_upM, sT_upR, sN_upM, Int.reduceAdd, Int.reduceMul, Int.reduceSub, Int.reduceNeg, Int.zero_add, Int.add_zero, hFτ.c]) (by simp (disch := omega) only [true_and, and_true, sM_ne, sM_eq, sM_neR, sM_eqR, sK_upM, sK_upR, sL_upM, sL_upR, sN_upM, sN_upR, sT_upM, sT_upR, sN_upM, Int.reduceAdd, Int.reduceMul, Int.reduceSub, Int.reduceNeg, Int.zero_add, Int.add_zero, hFτ.c]; omega) (rt_ret ⟨hcτ.up rfl, fun j j0 j1 => ?_⟩)
    rcases (by omega : j = 0 ∨ j = 1 ∨ j = 2 ∨ j = 3 ∨ j = 4 ∨ j = 5) with rfl | rfl | rfl | rfl | rfl | rfl
    · rw [sM_ne (by omega), f0]; rfl
    · rw [sM_ne (by omega), f1]; rfl
    · rw [sM_ne (by omega), f2]; rfl
    · rw [sM_ne (by omega), f3]; rfl
    · rw [sM_ne (by omega), f4]; rfl
    · rw [sM_eq ⟨rfl, rfl⟩]; rfl
  unfold fX12_names
  rcases (by omega : ps < wv ∨ ps = wv ∨ wv < ps) with hlt | heq | hgt
  · repeat (first
    | with_reducible refine rt_b ?_
    | with_reducible refine rt_jn ?_
    | ((with_reducible refine rt_pos ?_ ?_); (· first | omega | ((try simp (disch := omega) only [wr, true_and, and_true, sM_ne, sM_eq, sM_neR, sM_eqR, sK_upM, sK_upR, sL_upM, sL_upR, sN_upM, sN_upR, sT_upM, sT_upR, sN_upM, Int.reduceAdd, Int.reduceMul, Int.reduceSub, Int.reduceNeg, Int.zero_add, Int.add_zero, hF.c, hp (), hm (), s1 (), u1 (), e0 (), e1 (), e2 ()]) <;> omega)))
    | ((with_reducible refine rt_neg ?_ ?_); (· first | omega | ((try simp (disch := omega) only [wr, true_and, and_true, sM_ne, sM_eq, sM_neR, sM_eqR, sK_upM, sK_upR, sL_upM, sL_upR, sN_upM, sN_upR, sT_upM, sT_upR, sN_upM, Int.reduceAdd, Int.reduceMul, Int.reduceSub, Int.reduceNeg, Int.zero_add, Int.add_zero, hF.c, hp (), hm (), s1 (), u1 (), e0 (), e1 (), e2 ()]) <;> omega)))
    | ((with_reducible refine rt_v ?_ ?_); · simp (disch := omega) only [true_and, and_true, sM_ne, sM_eq, sM_neR, sM_eqR, sK_upM, sK_upR, sL_upM, sL_upR, sN_upM, sN_upR, sT_upM, sT_upR, sN_upM, Int.reduceAdd, Int.reduceMul, Int.reduceSub, Int.reduceNeg, Int.zero_add, Int.add_zero, hF.c, hp (), hm (), s1 (), u1 (), e0 (), e1 (), e2 ()])
    | ((with_reducible apply rt_gx); (· simp (disch := omega) only [true_and, and_true, sM_ne, sM_eq, sM_neR, sM_eqR, sK_upM, sK_upR, sL_upM, sL_upR, sN_upM, sN_upR, sT_upM, sT_upR, sN_upM, Int.reduceAdd, Int.reduceMul, Int.reduceSub, Int.reduceNeg, Int.zero_add, Int.add_zero, hF.c, hp (), hm (), s1 (), u1 (), e0 (), e1 (), e2 ()]); (· (try simp (disch := omega) only [wr, true_and, and_true, sM_ne, sM_eq, sM_neR, sM_eqR, sK_upM, sK_upR, sL_upM, sL_upR, sN_upM, sN_upR, sT_upM, sT_upR, sN_upM, Int.reduceAdd, Int.reduceMul, Int.reduceSub, Int.reduceNeg, Int.zero_add, Int.add_zero, hF.c, hp (), hm (), s1 (), u1 (), e0 (), e1 (), e2 ()]); exact rfl))
    | ((with_reducible apply rt_alx); (· simp (disch := omega) only [true_and, and_true, sM_ne, sM_eq, sM_neR, sM_eqR, sK_upM, sK_upR, sL_upM, sL_upR, sN_upM, sN_upR, sT_upM, sT_upR, sN_upM, Int.reduceAdd, Int.reduceMul, Int.reduceSub, Int.reduceNeg, Int.zero_add, Int.add_zero, hF.c, hp (), hm (), s1 (), u1 (), e0 (), e1 (), e2 ()]); (· first | omega | ((try simp (disch := omega) only [wr, true_and, and_true, sM_ne, sM_eq, sM_neR, sM_eqR, sK_upM, sK_upR, sL_upM, sL_upR, sN_upM, sN_upR, sT_upM, sT_upR, sN_upM, Int.reduceAdd, Int.reduceMul, Int.reduceSub, Int.reduceNeg, Int.zero_add, Int.add_zero, hF.c, hp (), hm (), s1 (), u1 (), e0 (), e1 (), e2 ()]) <;> omega)); (· (try simp (disch := omega) only [wr, true_and, and_true, sM_ne, sM_eq, sM_neR, sM_eqR, sK_upM, sK_upR, sL_upM, sL_upR, sN_upM, sN_upR, sT_upM, sT_upR, sN_upM, Int.reduceAdd, Int.reduceMul, Int.reduceSub, Int.reduceNeg, Int.zero_add, Int.add_zero, hF.c, hp (), hm (), s1 (), u1 (), e0 (), e1 (), e2 ()]); exact rfl))
    | ((with_reducible refine rt_as ?_ ?_ ?_); (· simp (disch := omega) only [true_and, and_true, sM_ne, sM_eq, sM_neR, sM_eqR, sK_upM, sK_upR, sL_upM, sL_upR, sN_upM, sN_upR, sT_upM, sT_upR, sN_upM, Int.reduceAdd, Int.reduceMul, Int.reduceSub, Int.reduceNeg, Int.zero_add, Int.add_zero, hF.c, hp (), hm (), s1 (), u1 (), e0 (), e1 (), e2 ()]); (· first | omega | ((try simp (disch := omega) only [wr, true_and, and_true, sM_ne, sM_eq, sM_neR, sM_eqR, sK_upM, sK_upR, sL_upM, sL_upR, sN_upM, sN_upR, sT_upM, sT_upR, sN_upM, Int.reduceAdd, Int.reduceMul, Int.reduceSub, Int.reduceNeg, Int.zero_add, Int.add_zero, hF.c, hp (), hm (), s1 (), u1 (), e0 (), e1 (), e2 ()]) <;> omega)))
    | ((with_reducible refine rt_p ?_ ?_ ?_); (· simp (disch := omega) only [true_and, and_true, sM_ne, sM_eq, sM_neR, sM_eqR, sK_upM, sK_upR, sL_upM, sL_upR, sN_upM, sN_upR, sT_upM, sT_upR, sN_upM, Int.reduceAdd, Int.reduceMul, Int.reduceSub, Int.reduceNeg, Int.zero_add, Int.add_zero, hF.c, hp (), hm (), s1 (), u1 (), e0 (), e1 (), e2 ()]); (· omega))
    | with_reducible refine rt_ret ?_
    | ((with_reducible apply rt_gwx); (· assumption); (· (try simp (disch := omega) only [wr, true_and, and_true, sM_ne, sM_eq, sM_neR, sM_eqR, sK_upM, sK_upR, sL_upM, sL_upR, sN_upM, sN_upR, sT_upM, sT_upR, sN_upM, Int.reduceAdd, Int.reduceMul, Int.reduceSub, Int.reduceNeg, Int.zero_add, Int.add_zero, hF.c, hp (), hm (), s1 (), u1 (), e0 (), e1 (), e2 ()]); exact rfl)))
    refine fin _ 0 0 (by repeat (first | exact Ch.rf | refine Ch.up ?_ rfl)) ?_ ?_ ?_ ?_ ?_
    · simp (disch := omega) only [true_and, and_true, sM_ne, sM_eq, sM_neR, sM_eqR, sK_upM, sK_upR, sL_upM, sL_upR, sN_upM, sN_upR, sT_upM, sT_upR, sN_upM, Int.reduceAdd, Int.reduceMul, Int.reduceSub, Int.reduceNeg, Int.zero_add, Int.add_zero, e0 ()]
    · simp (disch := omega) only [true_and, and_true, sM_ne, sM_eq, sM_neR, sM_eqR, sK_upM, sK_upR, sL_upM, sL_upR, sN_upM, sN_upR, sT_upM, sT_upR, sN_upM, Int.reduceAdd, Int.reduceMul, Int.reduceSub, Int.reduceNeg, Int.zero_add, Int.add_zero, e1 (), e2 ()]; rw [if_pos hlt]
    · simp (disch := omega) only [true_and, and_true, sM_ne, sM_eq, sM_neR, sM_eqR, sK_upM, sK_upR, sL_upM, sL_upR, sN_upM, sN_upR, sT_upM, sT_upR, sN_upM, Int.reduceAdd, Int.reduceMul, Int.reduceSub, Int.reduceNeg, Int.zero_add, Int.add_zero]; rw [if_neg (by omega)]
    · simp (disch := omega) only [true_and, and_true, sM_ne, sM_eq, sM_neR, sM_eqR, sK_upM, sK_upR, sL_upM, sL_upR, sN_upM, sN_upR, sT_upM, sT_upR, sN_upM, Int.reduceAdd, Int.reduceMul, Int.reduceSub, Int.reduceNeg, Int.zero_add, Int.add_zero]
    · simp (disch := omega) only [true_and, and_true, sM_ne, sM_eq, sM_neR, sM_eqR, sK_upM, sK_upR, sL_upM, sL_upR, sN_upM, sN_upR, sT_upM, sT_upR, sN_upM, Int.reduceAdd, Int.reduceMul, Int.reduceSub, Int.reduceNeg, Int.zero_add, Int.add_zero]
  · repeat (first
    | with_reducible refine rt_b ?_
    | with_reducible refine rt_jn ?_
    | ((with_reducible refine rt_pos ?_ ?_); (· first | omega | ((try simp (disch := omega) only [wr, true_and, and_true, sM_ne, sM_eq, sM_neR, sM_eqR, sK_upM, sK_upR, sL_upM, sL_upR, sN_upM, sN_upR, sT_upM, sT_upR, sN_upM, Int.reduceAdd, Int.reduceMul, Int.reduceSub, Int.reduceNeg, Int.zero_add, Int.add_zero, hF.c, hp (), hm (), s1 (), u1 (), e0 (), e1 (), e2 ()]) <;> omega)))
    | ((with_reducible refine rt_neg ?_ ?_); (· first | omega | ((try simp (disch := omega) only [wr, true_and, and_true, sM_ne, sM_eq, sM_neR, sM_eqR, sK_upM, sK_upR, sL_upM, sL_upR, sN_upM, sN_upR, sT_upM, sT_upR, sN_upM, Int.reduceAdd, Int.reduceMul, Int.reduceSub, Int.reduceNeg, Int.zero_add, Int.add_zero, hF.c, hp (), hm (), s1 (), u1 (), e0 (), e1 (), e2 ()]) <;> omega)))
    | ((with_reducible refine rt_v ?_ ?_); · simp (disch := omega) only [true_and, and_true, sM_ne, sM_eq, sM_neR, sM_eqR, sK_upM, sK_upR, sL_upM, sL_upR, sN_upM, sN_upR, sT_upM, sT_upR, sN_upM, Int.reduceAdd, Int.reduceMul, Int.reduceSub, Int.reduceNeg, Int.zero_add, Int.add_zero, hF.c, hp (), hm (), s1 (), u1 (), e0 (), e1 (), e2 ()])
    | ((with_reducible apply rt_gx); (· simp (disch := omega) only [true_and, and_true, sM_ne, sM_eq, sM_neR, sM_eqR, sK_upM, sK_upR, sL_upM, sL_upR, sN_upM, sN_upR, sT_upM, sT_upR, sN_upM, Int.reduceAdd, Int.reduceMul, Int.reduceSub, Int.reduceNeg, Int.zero_add, Int.add_zero, hF.c, hp (), hm (), s1 (), u1 (), e0 (), e1 (), e2 ()]); (· (try simp (disch := omega) only [wr, true_and, and_true, sM_ne, sM_eq, sM_neR, sM_eqR, sK_upM, sK_upR, sL_upM, sL_upR, sN_upM, sN_upR, sT_upM, sT_upR, sN_upM, Int.reduceAdd, Int.reduceMul, Int.reduceSub, Int.reduceNeg, Int.zero_add, Int.add_zero, hF.c, hp (), hm (), s1 (), u1 (), e0 (), e1 (), e2 ()]); exact rfl))
    | ((with_reducible apply rt_alx); (· simp (disch := omega) only [true_and, and_true, sM_ne, sM_eq, sM_neR, sM_eqR, sK_upM, sK_upR, sL_upM, sL_upR, sN_upM, sN_upR, sT_upM, sT_upR, sN_upM, Int.reduceAdd, Int.reduceMul, Int.reduceSub, Int.reduceNeg, Int.zero_add, Int.add_zero, hF.c, hp (), hm (), s1 (), u1 (), e0 (), e1 (), e2 ()]); (· first | omega | ((try simp (disch := omega) only [wr, true_and, and_true, sM_ne, sM_eq, sM_neR, sM_eqR, sK_upM, sK_upR, sL_upM, sL_upR, sN_upM, sN_upR, sT_upM, sT_upR, sN_upM, Int.reduceAdd, Int.reduceMul, Int.reduceSub, Int.reduceNeg, Int.zero_add, Int.add_zero, hF.c, hp (), hm (), s1 (), u1 (), e0 (), e1 (), e2 ()]) <;> omega)); (· (try simp (disch := omega) only [wr, true_and, and_true, sM_ne, sM_eq, sM_neR, sM_eqR, sK_upM, sK_upR, sL_upM, sL_upR, sN_upM, sN_upR, sT_upM, sT_upR, sN_upM, Int.reduceAdd, Int.reduceMul, Int.reduceSub, Int.reduceNeg, Int.zero_add, Int.add_zero, hF.c, hp (), hm (), s1 (), u1 (), e0 (), e1 (), e2 ()]); exact rfl))
    | ((with_reducible refine rt_as ?_ ?_ ?_); (· simp (disch := omega) only [true_and, and_true, sM_ne, sM_eq, sM_neR, sM_eqR, sK_upM, sK_upR, sL_upM, sL_upR, sN_upM, sN_upR, sT_upM, sT_upR, sN_upM, Int.reduceAdd, Int.reduceMul, Int.reduceSub, Int.reduceNeg, Int.zero_add, Int.add_zero, hF.c, hp (), hm (), s1 (), u1 (), e0 (), e1 (), e2 ()]); (· first | omega | ((try simp (disch := omega) only [wr, true_and, and_true, sM_ne, sM_eq, sM_neR, sM_eqR, sK_upM, sK_upR, sL_upM, sL_upR, sN_upM, sN_upR, sT_upM, sT_upR, sN_upM, Int.reduceAdd, Int.reduceMul, Int.reduceSub, Int.reduceNeg, Int.zero_add, Int.add_zero, hF.c, hp (), hm (), s1 (), u1 (), e0 (), e1 (), e2 ()]) <;> omega)))
    | ((with_reducible refine rt_p ?_ ?_ ?_); (· simp (disch := omega) only [true_and, and_true, sM_ne, sM_eq, sM_neR, sM_eqR, sK_upM, sK_upR, sL_upM, sL_upR, sN_upM, sN_upR, sT_upM, sT_upR, sN_upM, Int.reduceAdd, Int.reduceMul, Int.reduceSub, Int.reduceNeg, Int.zero_add, Int.add_zero, hF.c, hp (), hm (), s1 (), u1 (), e0 (), e1 (), e2 ()]); (· omega))
    | with_reducible refine rt_ret ?_
    | ((with_reducible apply rt_gwx); (· assumption); (· (try simp (disch := omega) only [wr, true_and, and_true, sM_ne, sM_eq, sM_neR, sM_eqR, sK_upM, sK_upR, sL_upM, sL_upR, sN_upM, sN_upR, sT_upM, sT_upR, sN_upM, Int.reduceAdd, Int.reduceMul, Int.reduceSub, Int.reduceNeg, Int.zero_add, Int.add_zero, hF.c, hp (), hm (), s1 (), u1 (), e0 (), e1 (), e2 ()]); exact rfl)))
    refine fin _ 0 0 (by repeat (first | exact Ch.rf | refine Ch.up ?_ rfl)) ?_ ?_ ?_ ?_ ?_
    · simp (disch := omega) only [true_and, and_true, sM_ne, sM_eq, sM_neR, sM_eqR, sK_upM, sK_upR, sL_upM, sL_upR, sN_upM, sN_upR, sT_upM, sT_upR, sN_upM, Int.reduceAdd, Int.reduceMul, Int.reduceSub, Int.reduceNeg, Int.zero_add, Int.add_zero, e0 ()]
    · simp (disch := omega) only [true_and, and_true, sM_ne, sM_eq, sM_neR, sM_eqR, sK_upM, sK_upR, sL_upM, sL_upR, sN_upM, sN_upR, sT_upM, sT_upR, sN_upM, Int.reduceAdd, Int.reduceMul, Int.reduceSub, Int.reduceNeg, Int.zero_add, Int.add_zero]; rw [if_neg (by omega)]
    · simp (disch := omega) only [true_and, and_true, sM_ne, sM_eq, sM_neR, sM_eqR, sK_upM, sK_upR, sL_upM, sL_upR, sN_upM, sN_upR, sT_upM, sT_upR, sN_upM, Int.reduceAdd, Int.reduceMul, Int.reduceSub, Int.reduceNeg, Int.zero_add, Int.add_zero]; rw [if_neg (by omega)]
    · simp (disch := omega) only [true_and, and_true, sM_ne, sM_eq, sM_neR, sM_eqR, sK_upM, sK_upR, sL_upM, sL_upR, sN_upM, sN_upR, sT_upM, sT_upR, sN_upM, Int.reduceAdd, Int.reduceMul, Int.reduceSub, Int.reduceNeg, Int.zero_add, Int.add_zero]
    · simp (disch := omega) only [true_and, and_true, sM_ne, sM_eq, sM_neR, sM_eqR, sK_upM, sK_upR, sL_upM, sL_upR, sN_upM, sN_upR, sT_upM, sT_upR, sN_upM, Int.reduceAdd, Int.reduceMul, Int.reduceSub, Int.reduceNeg, Int.zero_add, Int.add_zero]
  · repeat (first
    | with_reducible refine rt_b ?_
    | with_reducible refine rt_jn ?_
    | ((with_reducible refine rt_pos ?_ ?_); (· first | omega | ((try simp (disch := omega) only [wr, true_and, and_true, sM_ne, sM_eq, sM_neR, sM_eqR, sK_upM, sK_upR, sL_upM, sL_upR, sN_upM, sN_upR, sT_upM, sT_upR, sN_upM, Int.reduceAdd, Int.reduceMul, Int.reduceSub, Int.reduceNeg, Int.zero_add, Int.add_zero, hF.c, hp (), hm (), s1 (), u1 (), e0 (), e1 (), e2 ()]) <;> omega)))
    | ((with_reducible refine rt_neg ?_ ?_); (· first | omega | ((try simp (disch := omega) only [wr, true_and, and_true, sM_ne, sM_eq, sM_neR, sM_eqR, sK_upM, sK_upR, sL_upM, sL_upR, sN_upM, sN_upR, sT_upM, sT_upR, sN_upM, Int.reduceAdd, Int.reduceMul, Int.reduceSub, Int.reduceNeg, Int.zero_add, Int.add_zero, hF.c, hp (), hm (), s1 (), u1 (), e0 (), e1 (), e2 ()]) <;> omega)))
    | ((with_reducible refine rt_v ?_ ?_); · simp (disch := omega) only [true_and, and_true, sM_ne, sM_eq, sM_neR, sM_eqR, sK_upM, sK_upR, sL_upM, sL_upR, sN_upM, sN_upR, sT_upM, sT_upR, sN_upM, Int.reduceAdd, Int.reduceMul, Int.reduceSub, Int.reduceNeg, Int.zero_add, Int.add_zero, hF.c, hp (), hm (), s1 (), u1 (), e0 (), e1 (), e2 ()])
    | ((with_reducible apply rt_gx); (· simp (disch := omega) only [true_and, and_true, sM_ne, sM_eq, sM_neR, sM_eqR, sK_upM, sK_upR, sL_upM, sL_upR, sN_upM, sN_upR, sT_upM, sT_upR, sN_upM, Int.reduceAdd, Int.reduceMul, Int.reduceSub, Int.reduceNeg, Int.zero_add, Int.add_zero, hF.c, hp (), hm (), s1 (), u1 (), e0 (), e1 (), e2 ()]); (· (try simp (disch := omega) only [wr, true_and, and_true, sM_ne, sM_eq, sM_neR, sM_eqR, sK_upM, sK_upR, sL_upM, sL_upR, sN_upM, sN_upR, sT_upM, sT_upR, sN_upM, Int.reduceAdd, Int.reduceMul, Int.reduceSub, Int.reduceNeg, Int.zero_add, Int.add_zero, hF.c, hp (), hm (), s1 (), u1 (), e0 (), e1 (), e2 ()]); exact rfl))
    | ((with_reducible apply rt_alx); (· simp (disch := omega) only [true_and, and_true, sM_ne, sM_eq, sM_neR, sM_eqR, sK_upM, sK_upR, sL_upM, sL_upR, sN_upM, sN_upR, sT_upM, sT_upR, sN_upM, Int.reduceAdd, Int.reduceMul, Int.reduceSub, Int.reduceNeg, Int.zero_add, Int.add_zero, hF.c, hp (), hm (), s1 (), u1 (), e0 (), e1 (), e2 ()]); (· first | omega | ((try simp (disch := omega) only [wr, true_and, and_true, sM_ne, sM_eq, sM_neR, sM_eqR, sK_upM, sK_upR, sL_upM, sL_upR, sN_upM, sN_upR, sT_upM, sT_upR, sN_upM, Int.reduceAdd, Int.reduceMul, Int.reduceSub, Int.reduceNeg, Int.zero_add, Int.add_zero, hF.c, hp (), hm (), s1 (), u1 (), e0 (), e1 (), e2 ()]) <;> omega)); (· (try simp (disch := omega) only [wr, true_and, and_true, sM_ne, sM_eq, sM_neR, sM_eqR, sK_upM, sK_upR, sL_upM, sL_upR, sN_upM, sN_upR, sT_upM, sT_upR, sN_upM, Int.reduceAdd, Int.reduceMul, Int.reduceSub, Int.reduceNeg, Int.zero_add, Int.add_zero, hF.c, hp (), hm (), s1 (), u1 (), e0 (), e1 (), e2 ()]); exact rfl))
    | ((with_reducible refine rt_as ?_ ?_ ?_); (· simp (disch := omega) only [true_and, and_true, sM_ne, sM_eq, sM_neR, sM_eqR, sK_upM, sK_upR, sL_upM, sL_upR, sN_upM, sN_upR, sT_upM, sT_upR, sN_upM, Int.reduceAdd, Int.reduceMul, Int.reduceSub, Int.reduceNeg, Int.zero_add, Int.add_zero, hF.c, hp (), hm (), s1 (), u1 (), e0 (), e1 (), e2 ()]); (· first | omega | ((try simp (disch := omega) only [wr, true_and, and_true, sM_ne, sM_eq, sM_neR, sM_eqR, sK_upM, sK_upR, sL_upM, sL_upR, sN_upM, sN_upR, sT_upM, sT_upR, sN_upM, Int.reduceAdd, Int.reduceMul, Int.reduceSub, Int.reduceNeg, Int.zero_add, Int.add_zero, hF.c, hp (), hm (), s1 (), u1 (), e0 (), e1 (), e2 ()]) <;> omega)))
    | ((with_reducible refine rt_p ?_ ?_ ?_); (· simp (disch := omega) only [true_and, and_true, sM_ne, sM_eq, sM_neR, sM_eqR, sK_upM, sK_upR, sL_upM, sL_upR, sN_upM, sN_upR, sT_upM, sT_upR, sN_upM, Int.reduceAdd, Int.reduceMul, Int.reduceSub, Int.reduceNeg, Int.zero_add, Int.add_zero, hF.c, hp (), hm (), s1 (), u1 (), e0 (), e1 (), e2 ()]); (· omega))
    | with_reducible refine rt_ret ?_
    | ((with_reducible apply rt_gwx); (· assumption); (· (try simp (disch := omega) only [wr, true_and, and_true, sM_ne, sM_eq, sM_neR, sM_eqR, sK_upM, sK_upR, sL_upM, sL_upR, sN_upM, sN_upR, sT_upM, sT_upR, sN_upM, Int.reduceAdd, Int.reduceMul, Int.reduceSub, Int.reduceNeg, Int.zero_add, Int.add_zero, hF.c, hp (), hm (), s1 (), u1 (), e0 (), e1 (), e2 ()]); exact rfl)))
    refine fin _ 0 0 (by repeat (first | exact Ch.rf | refine Ch.up ?_ rfl)) ?_ ?_ ?_ ?_ ?_
    · simp (disch := omega) only [true_and, and_true, sM_ne, sM_eq, sM_neR, sM_eqR, sK_upM, sK_upR, sL_upM, sL_upR, sN_upM, sN_upR, sT_upM, sT_upR, sN_upM, Int.reduceAdd, Int.reduceMul, Int.reduceSub, Int.reduceNeg, Int.zero_add, Int.add_zero, e0 ()]
    · simp (disch := omega) only [true_and, and_true, sM_ne, sM_eq, sM_neR, sM_eqR, sK_upM, sK_upR, sL_upM, sL_upR, sN_upM, sN_upR, sT_upM, sT_upR, sN_upM, Int.reduceAdd, Int.reduceMul, Int.reduceSub, Int.reduceNeg, Int.zero_add, Int.add_zero]; rw [if_neg (by omega)]
    · simp (disch := omega) only [true_and, and_true, sM_ne, sM_eq, sM_neR, sM_eqR, sK_upM, sK_upR, sL_upM, sL_upR, sN_upM, sN_upR, sT_upM, sT_upR, sN_upM, Int.reduceAdd, Int.reduceMul, Int.reduceSub, Int.reduceNeg, Int.zero_add, Int.add_zero, e1 ()]; rw [if_pos hgt]
    · simp (disch := omega) only [true_and, and_true, sM_ne, sM_eq, sM_neR, sM_eqR, sK_upM, sK_upR, sL_upM, sL_upR, sN_upM, sN_upR, sT_upM, sT_upR, sN_upM, Int.reduceAdd, Int.reduceMul, Int.reduceSub, Int.reduceNeg, Int.zero_add, Int.add_zero]
    · simp (disch := omega) only [true_and, and_true, sM_ne, sM_eq, sM_neR, sM_eqR, sK_upM, sK_upR, sL_upM, sL_upR, sN_upM, sN_upR, sT_upM, sT_upR, sN_upM, Int.reduceAdd, Int.reduceMul, Int.reduceSub, Int.reduceNeg, Int.zero_add, Int.add_zero]
def mcS (a _i : Int) : Prop := 86 ≤ a ∧ a ≤ 87
theorem mcS_md : ∀ a i, mcS a i → mdS a i := by
  intro a i h
  unfold mcS at h
  unfold mdS
  omega
theorem f_held (s : ZS) (x : Int) : fX12_held s x = some (bnd x, s) := by
  unfold fX12_held bnd
  (repeat' split) <;> rfl
theorem f_worthM {σ : ZS} (hF : FxD σ) {p : Int} (p0 : 0 ≤ p) (p1 : p < 2) {r : Int} (r1 : sM σ 64 17 = r) (r2 : 0 ≤ r) (r3 : r < 6) {cs : List Int} (hx : TXM σ r p cs) {f : Int → Int} (hf : ∀ j : Int, 0 ≤ j → j < 6 → sM σ 87 j = f j) : Rt (fX12_worth σ 64 p) (fun v τ => v = evg f cs 0 (fun _ => 0) ∧ Ch (fun a _ => a = 86) σ τ) := by
  obtain ⟨L, f0, q, ⟨a1, a2⟩, b, d, e, g, i⟩ := hx
  subst a1
  exact f_worth hF r1 r2 r3 p0 p1 b d e g i a2 hf
theorem f_costM {σ : ZS} {w n k : Int} {ch so : Int → Int} {ln rt tl : Int → Int → Int} {st wi : Int → Int} {cs ls : List Int} (hV : MV σ w n k ch so ln rt) (hC : MC σ tl st wi cs ls) {c cm ps : Int} (c0 : 0 ≤ c) (c1 : c < n) (hm : sM σ 89 c = cm) (m0 : -1 ≤ cm) (m1 : cm < 24) (hp : sM σ 90 c = ps) (hpr : ps = -1 ∨ (0 ≤ ps ∧ ps < 24 ∧ ch c < 48)) : Rt (fX12_cost σ 64 w c) (fun v τ => v = costV k tl st wi cs (so c) (ch c) cm ps ∧ Ch mcS σ τ) := by
  have hV0 := hV
  have hC0 := hC
  obtain ⟨hF, w1, ⟨k0, k5, kk⟩, ⟨n1, n2, n3⟩, a1, a2, a3, a4⟩ := hV
  obtain ⟨x1, x2, x3⟩ := a1 c c0 c1
  obtain ⟨s1, s2, s3⟩ := a2 c c0 c1
  obtain ⟨b1, b2, b3, r, ⟨r1, r2, r3⟩, y1, y2⟩ := hC
  have h9 := hF.2.2.2
  replace x1 := hd x1
  replace s1 := hd s1
  replace n1 := hd n1
  replace kk := hd kk
  replace r1 := hd r1
  have hmh := hd hm
  have hph := hd hp
  clear hm hp
  unfold fX12_cost
  by_cases h48 : ch c = 48
  · have e := hd (b2 (so c) s2 s3).1
    repeat (first
    | with_reducible refine rt_b ?_
    | with_reducible refine rt_jn ?_
    | ((with_reducible refine rt_pos ?_ ?_); (· first | omega | ((try simp (disch := omega) only [wr, true_and, and_true, sM_ne, sM_eq, sM_neR, sM_eqR, sK_upM, sK_upR, sL_upM, sL_upR, sN_upM, sN_upR, sT_upM, sT_upR, sN_upM, Int.reduceAdd, Int.reduceMul, Int.reduceSub, Int.reduceNeg, Int.zero_add, Int.add_zero, hF.c, x1 (), s1 (), e ()]) <;> omega)))
    | ((with_reducible refine rt_neg ?_ ?_); (· first | omega | ((try simp (disch := omega) only [wr, true_and, and_true, sM_ne, sM_eq, sM_neR, sM_eqR, sK_upM, sK_upR, sL_upM, sL_upR, sN_upM, sN_upR, sT_upM, sT_upR, sN_upM, Int.reduceAdd, Int.reduceMul, Int.reduceSub, Int.reduceNeg, Int.zero_add, Int.add_zero, hF.c, x1 (), s1 (), e ()]) <;> omega)))
    | ((with_reducible refine rt_v ?_ ?_); · simp (disch := omega) only [true_and, and_true, sM_ne, sM_eq, sM_neR, sM_eqR, sK_upM, sK_upR, sL_upM, sL_upR, sN_upM, sN_upR, sT_upM, sT_upR, sN_upM, Int.reduceAdd, Int.reduceMul, Int.reduceSub, Int.reduceNeg, Int.zero_add, Int.add_zero, hF.c, x1 (), s1 (), e ()])
    | ((with_reducible apply rt_gx); (· simp (disch := omega) only [true_and, and_true, sM_ne, sM_eq, sM_neR, sM_eqR, sK_upM, sK_upR, sL_upM, sL_upR, sN_upM, sN_upR, sT_upM, sT_upR, sN_upM, Int.reduceAdd, Int.reduceMul, Int.reduceSub, Int.reduceNeg, Int.zero_add, Int.add_zero, hF.c, x1 (), s1 (), e ()]); (· (try simp (disch := omega) only [wr, true_and, and_true, sM_ne, sM_eq, sM_neR, sM_eqR, sK_upM, sK_upR, sL_upM, sL_upR, sN_upM, sN_upR, sT_upM, sT_upR, sN_upM, Int.reduceAdd, Int.reduceMul, Int.reduceSub, Int.reduceNeg, Int.zero_add, Int.add_zero, hF.c, x1 (), s1 (), e ()]); exact rfl))
    | ((with_reducible apply rt_alx); (· simp (disch := omega) only [true_and, and_true, sM_ne, sM_eq, sM_neR, sM_eqR, sK_upM, sK_upR, sL_upM, sL_upR, sN_upM, sN_upR, sT_upM, sT_upR, sN_upM, Int.reduceAdd, Int.reduceMul, Int.reduceSub, Int.reduceNeg, Int.zero_add, Int.add_zero, hF.c, x1 (), s1 (), e ()]); (· first | omega | ((try simp (disch := omega) only [wr, true_and, and_true, sM_ne, sM_eq, sM_neR, sM_eqR, sK_upM, sK_upR, sL_upM, sL_upR, sN_upM, sN_upR, sT_upM, sT_upR, sN_upM, Int.reduceAdd, Int.reduceMul, Int.reduceSub, Int.reduceNeg, Int.zero_add, Int.add_zero, hF.c, x1 (), s1 (), e ()]) <;> omega)); (· (try simp (disch := omega) only [wr, true_and, and_true, sM_ne, sM_eq, sM_neR, sM_eqR, sK_upM, sK_upR, sL_upM, sL_upR, sN_upM, sN_upR, sT_upM, sT_upR, sN_upM, Int.reduceAdd, Int.reduceMul, Int.reduceSub, Int.reduceNeg, Int.zero_add, Int.add_zero, hF.c, x1 (), s1 (), e ()]); exact rfl))
    | ((with_reducible refine rt_as ?_ ?_ ?_); (· simp (disch := omega) only [true_and, and_true, sM_ne, sM_eq, sM_neR, sM_eqR, sK_upM, sK_upR, sL_upM, sL_upR, sN_upM, sN_upR, sT_upM, sT_upR, sN_upM, Int.reduceAdd, Int.reduceMul, Int.reduceSub, Int.reduceNeg, Int.zero_add, Int.add_zero, hF.c, x1 (), s1 (), e ()]); (· first | omega | ((try simp (disch := omega) only [wr, true_and, and_true, sM_ne, sM_eq, sM_neR, sM_eqR, sK_upM, sK_upR, sL_upM, sL_upR, sN_upM, sN_upR, sT_upM, sT_upR, sN_upM, Int.reduceAdd, Int.reduceMul, Int.reduceSub, Int.reduceNeg, Int.zero_add, Int.add_zero, hF.c, x1 (), s1 (), e ()]) <;> omega)))
    | ((with_reducible refine rt_p ?_ ?_ ?_); (· simp (disch := omega) only [true_and, and_true, sM_ne, sM_eq, sM_neR, sM_eqR, sK_upM, sK_upR, sL_upM, sL_upR, sN_upM, sN_upR, sT_upM, sT_upR, sN_upM, Int.reduceAdd, Int.reduceMul, Int.reduceSub, Int.reduceNeg, Int.zero_add, Int.add_zero, hF.c, x1 (), s1 (), e ()]); (· omega))
    | with_reducible refine rt_ret ?_
    | ((with_reducible apply rt_gwx); (· assumption); (· (try simp (disch := omega) only [wr, true_and, and_true, sM_ne, sM_eq, sM_neR, sM_eqR, sK_upM, sK_upR, sL_upM, sL_upR, sN_upM, sN_upR, sT_upM, sT_upR, sN_upM, Int.reduceAdd, Int.reduceMul, Int.reduceSub, Int.reduceNeg, Int.zero_add, Int.add_zero, hF.c, x1 (), s1 (), e ()]); exact rfl)))
    refine ⟨?_, Ch.rf⟩
    unfold costV
    rw [if_pos h48]
  · by_cases h1 : ps = -1
    · repeat (first
    | with_reducible refine rt_b ?_
    | with_reducible refine rt_jn ?_
    | ((with_reducible refine rt_pos ?_ ?_); (· first | omega | ((try simp (disch := omega) only [wr, true_and, and_true, sM_ne, sM_eq, sM_neR, sM_eqR, sK_upM, sK_upR, sL_upM, sL_upR, sN_upM, sN_upR, sT_upM, sT_upR, sN_upM, Int.reduceAdd, Int.reduceMul, Int.reduceSub, Int.reduceNeg, Int.zero_add, Int.add_zero, hF.c, x1 (), hph ()]) <;> omega)))
    | ((with_reducible refine rt_neg ?_ ?_); (· first | omega | ((try simp (disch := omega) only [wr, true_and, and_true, sM_ne, sM_eq, sM_neR, sM_eqR, sK_upM, sK_upR, sL_upM, sL_upR, sN_upM, sN_upR, sT_upM, sT_upR, sN_upM, Int.reduceAdd, Int.reduceMul, Int.reduceSub, Int.reduceNeg, Int.zero_add, Int.add_zero, hF.c, x1 (), hph ()]) <;> omega)))
    | ((with_reducible refine rt_v ?_ ?_); · simp (disch := omega) only [true_and, and_true, sM_ne, sM_eq, sM_neR, sM_eqR, sK_upM, sK_upR, sL_upM, sL_upR, sN_upM, sN_upR, sT_upM, sT_upR, sN_upM, Int.reduceAdd, Int.reduceMul, Int.reduceSub, Int.reduceNeg, Int.zero_add, Int.add_zero, hF.c, x1 (), hph ()])
    | ((with_reducible apply rt_gx); (· simp (disch := omega) only [true_and, and_true, sM_ne, sM_eq, sM_neR, sM_eqR, sK_upM, sK_upR, sL_upM, sL_upR, sN_upM, sN_upR, sT_upM, sT_upR, sN_upM, Int.reduceAdd, Int.reduceMul, Int.reduceSub, Int.reduceNeg, Int.zero_add, Int.add_zero, hF.c, x1 (), hph ()]); (· (try simp (disch := omega) only [wr, true_and, and_true, sM_ne, sM_eq, sM_neR, sM_eqR, sK_upM, sK_upR, sL_upM, sL_upR, sN_upM, sN_upR, sT_upM, sT_upR, sN_upM, Int.reduceAdd, Int.reduceMul, Int.reduceSub, Int.reduceNeg, Int.zero_add, Int.add_zero, hF.c, x1 (), hph ()]); exact rfl))
    | ((with_reducible apply rt_alx); (· simp (disch := omega) only [true_and, and_true, sM_ne, sM_eq, sM_neR, sM_eqR, sK_upM, sK_upR, sL_upM, sL_upR, sN_upM, sN_upR, sT_upM, sT_upR, sN_upM, Int.reduceAdd, Int.reduceMul, Int.reduceSub, Int.reduceNeg, Int.zero_add, Int.add_zero, hF.c, x1 (), hph ()]); (· first | omega | ((try simp (disch := omega) only [wr, true_and, and_true, sM_ne, sM_eq, sM_neR, sM_eqR, sK_upM, sK_upR, sL_upM, sL_upR, sN_upM, sN_upR, sT_upM, sT_upR, sN_upM, Int.reduceAdd, Int.reduceMul, Int.reduceSub, Int.reduceNeg, Int.zero_add, Int.add_zero, hF.c, x1 (), hph ()]) <;> omega)); (· (try simp (disch := omega) only [wr, true_and, and_true, sM_ne, sM_eq, sM_neR, sM_eqR, sK_upM, sK_upR, sL_upM, sL_upR, sN_upM, sN_upR, sT_upM, sT_upR, sN_upM, Int.reduceAdd, Int.reduceMul, Int.reduceSub, Int.reduceNeg, Int.zero_add, Int.add_zero, hF.c, x1 (), hph ()]); exact rfl))
    | ((with_reducible refine rt_as ?_ ?_ ?_); (· simp (disch := omega) only [true_and, and_true, sM_ne, sM_eq, sM_neR, sM_eqR, sK_upM, sK_upR, sL_upM, sL_upR, sN_upM, sN_upR, sT_upM, sT_upR, sN_upM, Int.reduceAdd, Int.reduceMul, Int.reduceSub, Int.reduceNeg, Int.zero_add, Int.add_zero, hF.c, x1 (), hph ()]); (· first | omega | ((try simp (disch := omega) only [wr, true_and, and_true, sM_ne, sM_eq, sM_neR, sM_eqR, sK_upM, sK_upR, sL_upM, sL_upR, sN_upM, sN_upR, sT_upM, sT_upR, sN_upM, Int.reduceAdd, Int.reduceMul, Int.reduceSub, Int.reduceNeg, Int.zero_add, Int.add_zero, hF.c, x1 (), hph ()]) <;> omega)))
    | ((with_reducible refine rt_p ?_ ?_ ?_); (· simp (disch := omega) only [true_and, and_true, sM_ne, sM_eq, sM_neR, sM_eqR, sK_upM, sK_upR, sL_upM, sL_upR, sN_upM, sN_upR, sT_upM, sT_upR, sN_upM, Int.reduceAdd, Int.reduceMul, Int.reduceSub, Int.reduceNeg, Int.zero_add, Int.add_zero, hF.c, x1 (), hph ()]); (· omega))
    | with_reducible refine rt_ret ?_
    | ((with_reducible apply rt_gwx); (· assumption); (· (try simp (disch := omega) only [wr, true_and, and_true, sM_ne, sM_eq, sM_neR, sM_eqR, sK_upM, sK_upR, sL_upM, sL_upR, sN_upM, sN_upR, sT_upM, sT_upR, sN_upM, Int.reduceAdd, Int.reduceMul, Int.reduceSub, Int.reduceNeg, Int.zero_add, Int.add_zero, hF.c, x1 (), hph ()]); exact rfl)))
      refine ⟨?_, Ch.rf⟩
      unfold costV
      rw [if_neg h48, if_pos h1]
    · repeat (first
    | with_reducible refine rt_b ?_
    | with_reducible refine rt_jn ?_
    | ((with_reducible refine rt_pos ?_ ?_); (· first | omega | ((try simp (disch := omega) only [wr, true_and, and_true, sM_ne, sM_eq, sM_neR, sM_eqR, sK_upM, sK_upR, sL_upM, sL_upR, sN_upM, sN_upR, sT_upM, sT_upR, sN_upM, Int.reduceAdd, Int.reduceMul, Int.reduceSub, Int.reduceNeg, Int.zero_add, Int.add_zero, hF.c, x1 (), hph ()]) <;> omega)))
    | ((with_reducible refine rt_neg ?_ ?_); (· first | omega | ((try simp (disch := omega) only [wr, true_and, and_true, sM_ne, sM_eq, sM_neR, sM_eqR, sK_upM, sK_upR, sL_upM, sL_upR, sN_upM, sN_upR, sT_upM, sT_upR, sN_upM, Int.reduceAdd, Int.reduceMul, Int.reduceSub, Int.reduceNeg, Int.zero_add, Int.add_zero, hF.c, x1 (), hph ()]) <;> omega)))
    | ((with_reducible refine rt_v ?_ ?_); · simp (disch := omega) only [true_and, and_true, sM_ne, sM_eq, sM_neR, sM_eqR, sK_upM, sK_upR, sL_upM, sL_upR, sN_upM, sN_upR, sT_upM, sT_upR, sN_upM, Int.reduceAdd, Int.reduceMul, Int.reduceSub, Int.reduceNeg, Int.zero_add, Int.add_zero, hF.c, x1 (), hph ()])
    | ((with_reducible apply rt_gx); (· simp (disch := omega) only [true_and, and_true, sM_ne, sM_eq, sM_neR, sM_eqR, sK_upM, sK_upR, sL_upM, sL_upR, sN_upM, sN_upR, sT_upM, sT_upR, sN_upM, Int.reduceAdd, Int.reduceMul, Int.reduceSub, Int.reduceNeg, Int.zero_add, Int.add_zero, hF.c, x1 (), hph ()]); (· (try simp (disch := omega) only [wr, true_and, and_true, sM_ne, sM_eq, sM_neR, sM_eqR, sK_upM, sK_upR, sL_upM, sL_upR, sN_upM, sN_upR, sT_upM, sT_upR, sN_upM, Int.reduceAdd, Int.reduceMul, Int.reduceSub, Int.reduceNeg, Int.zero_add, Int.add_zero, hF.c, x1 (), hph ()]); exact rfl))
    | ((with_reducible apply rt_alx); (· simp (disch := omega) only [true_and, and_true, sM_ne, sM_eq, sM_neR, sM_eqR, sK_upM, sK_upR, sL_upM, sL_upR, sN_upM, sN_upR, sT_upM, sT_upR, sN_upM, Int.reduceAdd, Int.reduceMul, Int.reduceSub, Int.reduceNeg, Int.zero_add, Int.add_zero, hF.c, x1 (), hph ()]); (· first | omega | ((try simp (disch := omega) only [wr, true_and, and_true, sM_ne, sM_eq, sM_neR, sM_eqR, sK_upM, sK_upR, sL_upM, sL_upR, sN_upM, sN_upR, sT_upM, sT_upR, sN_upM, Int.reduceAdd, Int.reduceMul, Int.reduceSub, Int.reduceNeg, Int.zero_add, Int.add_zero, hF.c, x1 (), hph ()]) <;> omega)); (· (try simp (disch := omega) only [wr, true_and, and_true, sM_ne, sM_eq, sM_neR, sM_eqR, sK_upM, sK_upR, sL_upM, sL_upR, sN_upM, sN_upR, sT_upM, sT_upR, sN_upM, Int.reduceAdd, Int.reduceMul, Int.reduceSub, Int.reduceNeg, Int.zero_add, Int.add_zero, hF.c, x1 (), hph ()]); exact rfl))
    | ((with_reducible refine rt_as ?_ ?_ ?_); (· simp (disch := omega) only [true_and, and_true, sM_ne, sM_eq, sM_neR, sM_eqR, sK_upM, sK_upR, sL_upM, sL_upR, sN_upM, sN_upR, sT_upM, sT_upR, sN_upM, Int.reduceAdd, Int.reduceMul, Int.reduceSub, Int.reduceNeg, Int.zero_add, Int.add_zero, hF.c, x1 (), hph ()]); (· first | omega | ((try simp (disch := omega) only [wr, true_and, and_true, sM_ne, sM_eq, sM_neR, sM_eqR, sK_upM, sK_upR, sL_upM, sL_upR, sN_upM, sN_upR, sT_upM, sT_upR, sN_upM, Int.reduceAdd, Int.reduceMul, Int.reduceSub, Int.reduceNeg, Int.zero_add, Int.add_zero, hF.c, x1 (), hph ()]) <;> omega)))
    | ((with_reducible refine rt_p ?_ ?_ ?_); (· simp (disch := omega) only [true_and, and_true, sM_ne, sM_eq, sM_neR, sM_eqR, sK_upM, sK_upR, sL_upM, sL_upR, sN_upM, sN_upR, sT_upM, sT_upR, sN_upM, Int.reduceAdd, Int.reduceMul, Int.reduceSub, Int.reduceNeg, Int.zero_add, Int.add_zero, hF.c, x1 (), hph ()]); (· omega))
    | with_reducible refine rt_ret ?_
    | ((with_reducible apply rt_gwx); (· assumption); (· (try simp (disch := omega) only [wr, true_and, and_true, sM_ne, sM_eq, sM_neR, sM_eqR, sK_upM, sK_upR, sL_upM, sL_upR, sN_upM, sN_upR, sT_upM, sT_upR, sN_upM, Int.reduceAdd, Int.reduceMul, Int.reduceSub, Int.reduceNeg, Int.zero_add, Int.add_zero, hF.c, x1 (), hph ()]); exact rfl)))
      refine Rt.mono (f_names hV0 hC0 c0 c1 (hmh ()) m0 m1 (hph ()) (by omega) (by omega) (by omega)) ?_
      rintro v τ ⟨hcτ, hfτ⟩
      have hcτ' : Ch mdS σ τ := hcτ.mono (fun a i q => by unfold mdS; omega)
      have hVτ := hV0.ch hcτ'
      have hFτ := hVτ.1
      have h9τ := hFτ.2.2.2
      refine rt_b (rt_v (by simp (disch := omega) only [true_and, and_true, sM_ne, sM_eq, sM_neR, sM_eqR, sK_upM, sK_upR, sL_upM, sL_upR, sN_upM, sN_upR, sT_upM, sT_upR, sN_upM, Int.reduceAdd, Int.reduceMul, Int.reduceSub, Int.reduceNeg, Int.zero_add, Int.add_zero, hFτ.c]) ?_)
      refine Rt.mono (f_worthM hFτ (p := 0) (by omega) (by omega) (r := r) (by rw [hcτ'.M (by omega) (by unfold mdS; omega)]; exact r1 ()) r2 r3 (y1.ch hF hcτ') hfτ) ?_
      rintro v2 ρ ⟨e2, hcρ⟩
      subst e2
      have hcρ' : Ch mdS σ ρ := hcτ'.tr (hcρ.mono (fun a i q => by unfold mdS; omega))
      have hVρ := hV0.ch hcρ'
      have hFρ := hVρ.1
      have kρ := hd hVρ.2.2.1.2.2
      have hmρ := hd (show sM ρ 89 c = cm by rw [hcρ.M (by omega) (by omega), hcτ.M (by omega) (by omega)]; exact hmh ())
      have hpρ := hd (show sM ρ 90 c = ps by rw [hcρ.M (by omega) (by omega), hcτ.M (by omega) (by omega)]; exact hph ())
      refine rt_b (rt_e (f_held ρ _) ?_)
      have hcc : Ch mcS σ ρ := (hcτ.mono (fun a i q => by unfold mcS; omega)).tr (hcρ.mono (fun a i q => by unfold mcS; omega))
      have e0 := hd (show wrap (ps - cm) = ps - cm from wr (by omega) (by omega))
      have hpd : pdV k tl (ch c) ps = paidV k (tl (ch c / 24) ps) := by unfold pdV; rw [if_neg h1]
      rw [hpd]
      by_cases hk4 : k = 4
      · by_cases h4 : ps - cm ≤ 4
        · repeat (first
    | with_reducible refine rt_b ?_
    | with_reducible refine rt_jn ?_
    | ((with_reducible refine rt_pos ?_ ?_); (· first | omega | ((try simp (disch := omega) only [wr, true_and, and_true, sM_ne, sM_eq, sM_neR, sM_eqR, sK_upM, sK_upR, sL_upM, sL_upR, sN_upM, sN_upR, sT_upM, sT_upR, sN_upM, Int.reduceAdd, Int.reduceMul, Int.reduceSub, Int.reduceNeg, Int.zero_add, Int.add_zero, hFρ.c, kρ (), hmρ (), hpρ (), e0 ()]) <;> omega)))
    | ((with_reducible refine rt_neg ?_ ?_); (· first | omega | ((try simp (disch := omega) only [wr, true_and, and_true, sM_ne, sM_eq, sM_neR, sM_eqR, sK_upM, sK_upR, sL_upM, sL_upR, sN_upM, sN_upR, sT_upM, sT_upR, sN_upM, Int.reduceAdd, Int.reduceMul, Int.reduceSub, Int.reduceNeg, Int.zero_add, Int.add_zero, hFρ.c, kρ (), hmρ (), hpρ (), e0 ()]) <;> omega)))
    | ((with_reducible refine rt_v ?_ ?_); · simp (disch := omega) only [true_and, and_true, sM_ne, sM_eq, sM_neR, sM_eqR, sK_upM, sK_upR, sL_upM, sL_upR, sN_upM, sN_upR, sT_upM, sT_upR, sN_upM, Int.reduceAdd, Int.reduceMul, Int.reduceSub, Int.reduceNeg, Int.zero_add, Int.add_zero, hFρ.c, kρ (), hmρ (), hpρ (), e0 ()])
    | ((with_reducible apply rt_gx); (· simp (disch := omega) only [true_and, and_true, sM_ne, sM_eq, sM_neR, sM_eqR, sK_upM, sK_upR, sL_upM, sL_upR, sN_upM, sN_upR, sT_upM, sT_upR, sN_upM, Int.reduceAdd, Int.reduceMul, Int.reduceSub, Int.reduceNeg, Int.zero_add, Int.add_zero, hFρ.c, kρ (), hmρ (), hpρ (), e0 ()]); (· (try simp (disch := omega) only [wr, true_and, and_true, sM_ne, sM_eq, sM_neR, sM_eqR, sK_upM, sK_upR, sL_upM, sL_upR, sN_upM, sN_upR, sT_upM, sT_upR, sN_upM, Int.reduceAdd, Int.reduceMul, Int.reduceSub, Int.reduceNeg, Int.zero_add, Int.add_zero, hFρ.c, kρ (), hmρ (), hpρ (), e0 ()]); exact rfl))
    | ((with_reducible apply rt_alx); (· simp (disch := omega) only [true_and, and_true, sM_ne, sM_eq, sM_neR, sM_eqR, sK_upM, sK_upR, sL_upM, sL_upR, sN_upM, sN_upR, sT_upM, sT_upR, sN_upM, Int.reduceAdd, Int.reduceMul, Int.reduceSub, Int.reduceNeg, Int.zero_add, Int.add_zero, hFρ.c, kρ (), hmρ (), hpρ (), e0 ()]); (· first | omega | ((try simp (disch := omega) only [wr, true_and, and_true, sM_ne, sM_eq, sM_neR, sM_eqR, sK_upM, sK_upR, sL_upM, sL_upR, sN_upM, sN_upR, sT_upM, sT_upR, sN_upM, Int.reduceAdd, Int.reduceMul, Int.reduceSub, Int.reduceNeg, Int.zero_add, Int.add_zero, hFρ.c, kρ (), hmρ (), hpρ (), e0 ()]) <;> omega)); (· (try simp (disch := omega) only [wr, true_and, and_true, sM_ne, sM_eq, sM_neR, sM_eqR, sK_upM, sK_upR, sL_upM, sL_upR, sN_upM, sN_upR, sT_upM, sT_upR, sN_upM, Int.reduceAdd, Int.reduceMul, Int.reduceSub, Int.reduceNeg, Int.zero_add, Int.add_zero, hFρ.c, kρ (), hmρ (), hpρ (), e0 ()]); exact rfl))
    | ((with_reducible refine rt_as ?_ ?_ ?_); (· simp (disch := omega) only [true_and, and_true, sM_ne, sM_eq, sM_neR, sM_eqR, sK_upM, sK_upR, sL_upM, sL_upR, sN_upM, sN_upR, sT_upM, sT_upR, sN_upM, Int.reduceAdd, Int.reduceMul, Int.reduceSub, Int.reduceNeg, Int.zero_add, Int.add_zero, hFρ.c, kρ (), hmρ (), hpρ (), e0 ()]); (· first | omega | ((try simp (disch := omega) only [wr, true_and, and_true, sM_ne, sM_eq, sM_neR, sM_eqR, sK_upM, sK_upR, sL_upM, sL_upR, sN_upM, sN_upR, sT_upM, sT_upR, sN_upM, Int.reduceAdd, Int.reduceMul, Int.reduceSub, Int.reduceNeg, Int.zero_add, Int.add_zero, hFρ.c, kρ (), hmρ (), hpρ (), e0 ()]) <;> omega)))
    | ((with_reducible refine rt_p ?_ ?_ ?_); (· simp (disch := omega) only [true_and, and_true, sM_ne, sM_eq, sM_neR, sM_eqR, sK_upM, sK_upR, sL_upM, sL_upR, sN_upM, sN_upR, sT_upM, sT_upR, sN_upM, Int.reduceAdd, Int.reduceMul, Int.reduceSub, Int.reduceNeg, Int.zero_add, Int.add_zero, hFρ.c, kρ (), hmρ (), hpρ (), e0 ()]); (· omega))
    | with_reducible refine rt_ret ?_
    | ((with_reducible apply rt_gwx); (· assumption); (· (try simp (disch := omega) only [wr, true_and, and_true, sM_ne, sM_eq, sM_neR, sM_eqR, sK_upM, sK_upR, sL_upM, sL_upR, sN_upM, sN_upR, sT_upM, sT_upR, sN_upM, Int.reduceAdd, Int.reduceMul, Int.reduceSub, Int.reduceNeg, Int.zero_add, Int.add_zero, hFρ.c, kρ (), hmρ (), hpρ (), e0 ()]); exact rfl)))
          refine ⟨?_, hcc⟩
          unfold costV sprV valV
          rw [if_neg h48, if_neg h1, if_pos hk4, if_pos h4]
        · repeat (first
    | with_reducible refine rt_b ?_
    | with_reducible refine rt_jn ?_
    | ((with_reducible refine rt_pos ?_ ?_); (· first | omega | ((try simp (disch := omega) only [wr, true_and, and_true, sM_ne, sM_eq, sM_neR, sM_eqR, sK_upM, sK_upR, sL_upM, sL_upR, sN_upM, sN_upR, sT_upM, sT_upR, sN_upM, Int.reduceAdd, Int.reduceMul, Int.reduceSub, Int.reduceNeg, Int.zero_add, Int.add_zero, hFρ.c, kρ (), hmρ (), hpρ (), e0 ()]) <;> omega)))
    | ((with_reducible refine rt_neg ?_ ?_); (· first | omega | ((try simp (disch := omega) only [wr, true_and, and_true, sM_ne, sM_eq, sM_neR, sM_eqR, sK_upM, sK_upR, sL_upM, sL_upR, sN_upM, sN_upR, sT_upM, sT_upR, sN_upM, Int.reduceAdd, Int.reduceMul, Int.reduceSub, Int.reduceNeg, Int.zero_add, Int.add_zero, hFρ.c, kρ (), hmρ (), hpρ (), e0 ()]) <;> omega)))
    | ((with_reducible refine rt_v ?_ ?_); · simp (disch := omega) only [true_and, and_true, sM_ne, sM_eq, sM_neR, sM_eqR, sK_upM, sK_upR, sL_upM, sL_upR, sN_upM, sN_upR, sT_upM, sT_upR, sN_upM, Int.reduceAdd, Int.reduceMul, Int.reduceSub, Int.reduceNeg, Int.zero_add, Int.add_zero, hFρ.c, kρ (), hmρ (), hpρ (), e0 ()])
    | ((with_reducible apply rt_gx); (· simp (disch := omega) only [true_and, and_true, sM_ne, sM_eq, sM_neR, sM_eqR, sK_upM, sK_upR, sL_upM, sL_upR, sN_upM, sN_upR, sT_upM, sT_upR, sN_upM, Int.reduceAdd, Int.reduceMul, Int.reduceSub, Int.reduceNeg, Int.zero_add, Int.add_zero, hFρ.c, kρ (), hmρ (), hpρ (), e0 ()]); (· (try simp (disch := omega) only [wr, true_and, and_true, sM_ne, sM_eq, sM_neR, sM_eqR, sK_upM, sK_upR, sL_upM, sL_upR, sN_upM, sN_upR, sT_upM, sT_upR, sN_upM, Int.reduceAdd, Int.reduceMul, Int.reduceSub, Int.reduceNeg, Int.zero_add, Int.add_zero, hFρ.c, kρ (), hmρ (), hpρ (), e0 ()]); exact rfl))
    | ((with_reducible apply rt_alx); (· simp (disch := omega) only [true_and, and_true, sM_ne, sM_eq, sM_neR, sM_eqR, sK_upM, sK_upR, sL_upM, sL_upR, sN_upM, sN_upR, sT_upM, sT_upR, sN_upM, Int.reduceAdd, Int.reduceMul, Int.reduceSub, Int.reduceNeg, Int.zero_add, Int.add_zero, hFρ.c, kρ (), hmρ (), hpρ (), e0 ()]); (· first | omega | ((try simp (disch := omega) only [wr, true_and, and_true, sM_ne, sM_eq, sM_neR, sM_eqR, sK_upM, sK_upR, sL_upM, sL_upR, sN_upM, sN_upR, sT_upM, sT_upR, sN_upM, Int.reduceAdd, Int.reduceMul, Int.reduceSub, Int.reduceNeg, Int.zero_add, Int.add_zero, hFρ.c, kρ (), hmρ (), hpρ (), e0 ()]) <;> omega)); (· (try simp (disch := omega) only [wr, true_and, and_true, sM_ne, sM_eq, sM_neR, sM_eqR, sK_upM, sK_upR, sL_upM, sL_upR, sN_upM, sN_upR, sT_upM, sT_upR, sN_upM, Int.reduceAdd, Int.reduceMul, Int.reduceSub, Int.reduceNeg, Int.zero_add, Int.add_zero, hFρ.c, kρ (), hmρ (), hpρ (), e0 ()]); exact rfl))
    | ((with_reducible refine rt_as ?_ ?_ ?_); (· simp (disch := omega) only [true_and, and_true, sM_ne, sM_eq, sM_neR, sM_eqR, sK_upM, sK_upR, sL_upM, sL_upR, sN_upM, sN_upR, sT_upM, sT_upR, sN_upM, Int.reduceAdd, Int.reduceMul, Int.reduceSub, Int.reduceNeg, Int.zero_add, Int.add_zero, hFρ.c, kρ (), hmρ (), hpρ (), e0 ()]); (· first | omega | ((try simp (disch := omega) only [wr, true_and, and_true, sM_ne, sM_eq, sM_neR, sM_eqR, sK_upM, sK_upR, sL_upM, sL_upR, sN_upM, sN_upR, sT_upM, sT_upR, sN_upM, Int.reduceAdd, Int.reduceMul, Int.reduceSub, Int.reduceNeg, Int.zero_add, Int.add_zero, hFρ.c, kρ (), hmρ (), hpρ (), e0 ()]) <;> omega)))
    | ((with_reducible refine rt_p ?_ ?_ ?_); (· simp (disch := omega) only [true_and, and_true, sM_ne, sM_eq, sM_neR, sM_eqR, sK_upM, sK_upR, sL_upM, sL_upR, sN_upM, sN_upR, sT_upM, sT_upR, sN_upM, Int.reduceAdd, Int.reduceMul, Int.reduceSub, Int.reduceNeg, Int.zero_add, Int.add_zero, hFρ.c, kρ (), hmρ (), hpρ (), e0 ()]); (· omega))
    | with_reducible refine rt_ret ?_
    | ((with_reducible apply rt_gwx); (· assumption); (· (try simp (disch := omega) only [wr, true_and, and_true, sM_ne, sM_eq, sM_neR, sM_eqR, sK_upM, sK_upR, sL_upM, sL_upR, sN_upM, sN_upR, sT_upM, sT_upR, sN_upM, Int.reduceAdd, Int.reduceMul, Int.reduceSub, Int.reduceNeg, Int.zero_add, Int.add_zero, hFρ.c, kρ (), hmρ (), hpρ (), e0 ()]); exact rfl)))
          refine ⟨?_, hcc⟩
          unfold costV sprV valV
          rw [if_neg h48, if_neg h1, if_pos hk4, if_neg h4]
      · repeat (first
    | with_reducible refine rt_b ?_
    | with_reducible refine rt_jn ?_
    | ((with_reducible refine rt_pos ?_ ?_); (· first | omega | ((try simp (disch := omega) only [wr, true_and, and_true, sM_ne, sM_eq, sM_neR, sM_eqR, sK_upM, sK_upR, sL_upM, sL_upR, sN_upM, sN_upR, sT_upM, sT_upR, sN_upM, Int.reduceAdd, Int.reduceMul, Int.reduceSub, Int.reduceNeg, Int.zero_add, Int.add_zero, hFρ.c, kρ (), hmρ (), hpρ (), e0 ()]) <;> omega)))
    | ((with_reducible refine rt_neg ?_ ?_); (· first | omega | ((try simp (disch := omega) only [wr, true_and, and_true, sM_ne, sM_eq, sM_neR, sM_eqR, sK_upM, sK_upR, sL_upM, sL_upR, sN_upM, sN_upR, sT_upM, sT_upR, sN_upM, Int.reduceAdd, Int.reduceMul, Int.reduceSub, Int.reduceNeg, Int.zero_add, Int.add_zero, hFρ.c, kρ (), hmρ (), hpρ (), e0 ()]) <;> omega)))
    | ((with_reducible refine rt_v ?_ ?_); · simp (disch := omega) only [true_and, and_true, sM_ne, sM_eq, sM_neR, sM_eqR, sK_upM, sK_upR, sL_upM, sL_upR, sN_upM, sN_upR, sT_upM, sT_upR, sN_upM, Int.reduceAdd, Int.reduceMul, Int.reduceSub, Int.reduceNeg, Int.zero_add, Int.add_zero, hFρ.c, kρ (), hmρ (), hpρ (), e0 ()])
    | ((with_reducible apply rt_gx); (· simp (disch := omega) only [true_and, and_true, sM_ne, sM_eq, sM_neR, sM_eqR, sK_upM, sK_upR, sL_upM, sL_upR, sN_upM, sN_upR, sT_upM, sT_upR, sN_upM, Int.reduceAdd, Int.reduceMul, Int.reduceSub, Int.reduceNeg, Int.zero_add, Int.add_zero, hFρ.c, kρ (), hmρ (), hpρ (), e0 ()]); (· (try simp (disch := omega) only [wr, true_and, and_true, sM_ne, sM_eq, sM_neR, sM_eqR, sK_upM, sK_upR, sL_upM, sL_upR, sN_upM, sN_upR, sT_upM, sT_upR, sN_upM, Int.reduceAdd, Int.reduceMul, Int.reduceSub, Int.reduceNeg, Int.zero_add, Int.add_zero, hFρ.c, kρ (), hmρ (), hpρ (), e0 ()]); exact rfl))
    | ((with_reducible apply rt_alx); (· simp (disch := omega) only [true_and, and_true, sM_ne, sM_eq, sM_neR, sM_eqR, sK_upM, sK_upR, sL_upM, sL_upR, sN_upM, sN_upR, sT_upM, sT_upR, sN_upM, Int.reduceAdd, Int.reduceMul, Int.reduceSub, Int.reduceNeg, Int.zero_add, Int.add_zero, hFρ.c, kρ (), hmρ (), hpρ (), e0 ()]); (· first | omega | ((try simp (disch := omega) only [wr, true_and, and_true, sM_ne, sM_eq, sM_neR, sM_eqR, sK_upM, sK_upR, sL_upM, sL_upR, sN_upM, sN_upR, sT_upM, sT_upR, sN_upM, Int.reduceAdd, Int.reduceMul, Int.reduceSub, Int.reduceNeg, Int.zero_add, Int.add_zero, hFρ.c, kρ (), hmρ (), hpρ (), e0 ()]) <;> omega)); (· (try simp (disch := omega) only [wr, true_and, and_true, sM_ne, sM_eq, sM_neR, sM_eqR, sK_upM, sK_upR, sL_upM, sL_upR, sN_upM, sN_upR, sT_upM, sT_upR, sN_upM, Int.reduceAdd, Int.reduceMul, Int.reduceSub, Int.reduceNeg, Int.zero_add, Int.add_zero, hFρ.c, kρ (), hmρ (), hpρ (), e0 ()]); exact rfl))
    | ((with_reducible refine rt_as ?_ ?_ ?_); (· simp (disch := omega) only [true_and, and_true, sM_ne, sM_eq, sM_neR, sM_eqR, sK_upM, sK_upR, sL_upM, sL_upR, sN_upM, sN_upR, sT_upM, sT_upR, sN_upM, Int.reduceAdd, Int.reduceMul, Int.reduceSub, Int.reduceNeg, Int.zero_add, Int.add_zero, hFρ.c, kρ (), hmρ (), hpρ (), e0 ()]); (· first | omega | ((try simp (disch := omega) only [wr, true_and, and_true, sM_ne, sM_eq, sM_neR, sM_eqR, sK_upM, sK_upR, sL_upM, sL_upR, sN_upM, sN_upR, sT_upM, sT_upR, sN_upM, Int.reduceAdd, Int.reduceMul, Int.reduceSub, Int.reduceNeg, Int.zero_add, Int.add_zero, hFρ.c, kρ (), hmρ (), hpρ (), e0 ()]) <;> omega)))
    | ((with_reducible refine rt_p ?_ ?_ ?_); (· simp (disch := omega) only [true_and, and_true, sM_ne, sM_eq, sM_neR, sM_eqR, sK_upM, sK_upR, sL_upM, sL_upR, sN_upM, sN_upR, sT_upM, sT_upR, sN_upM, Int.reduceAdd, Int.reduceMul, Int.reduceSub, Int.reduceNeg, Int.zero_add, Int.add_zero, hFρ.c, kρ (), hmρ (), hpρ (), e0 ()]); (· omega))
    | with_reducible refine rt_ret ?_
    | ((with_reducible apply rt_gwx); (· assumption); (· (try simp (disch := omega) only [wr, true_and, and_true, sM_ne, sM_eq, sM_neR, sM_eqR, sK_upM, sK_upR, sL_upM, sL_upR, sN_upM, sN_upR, sT_upM, sT_upR, sN_upM, Int.reduceAdd, Int.reduceMul, Int.reduceSub, Int.reduceNeg, Int.zero_add, Int.add_zero, hFρ.c, kρ (), hmρ (), hpρ (), e0 ()]); exact rfl)))
        refine ⟨?_, hcc⟩
        unfold costV sprV valV
        rw [if_neg h48, if_neg h1, if_neg hk4]
theorem f_lostM {σ : ZS} {w n k : Int} {ch so : Int → Int} {ln rt tl : Int → Int → Int} {st wi : Int → Int} {cs ls : List Int} (hV : MV σ w n k ch so ln rt) (hC : MC σ tl st wi cs ls) {c cm ps : Int} (c0 : 0 ≤ c) (c1 : c < n) (hm : sM σ 89 c = cm) (m0 : -1 ≤ cm) (m1 : cm < 24) (hp : sM σ 90 c = ps) (hpr : ps = -1 ∨ (0 ≤ ps ∧ ps < 24 ∧ ch c < 48)) : Rt (fX12_lost σ 64 w c) (fun v τ => v = lostV k tl wi ls (so c) (ch c) cm ps ∧ Ch mcS σ τ) := by
  have hV0 := hV
  have hC0 := hC
  obtain ⟨hF, w1, ⟨k0, k5, kk⟩, ⟨n1, n2, n3⟩, a1, a2, a3, a4⟩ := hV
  obtain ⟨b1, b2, b3, r, ⟨r1, r2, r3⟩, y1, y2⟩ := hC
  have h9 := hF.2.2.2
  replace n1 := hd n1
  replace kk := hd kk
  replace r1 := hd r1
  have hph := hd hp
  unfold fX12_lost lostV
  by_cases h1 : ps = -1
  · clear hm hp
    repeat (first
    | with_reducible refine rt_b ?_
    | with_reducible refine rt_jn ?_
    | ((with_reducible refine rt_pos ?_ ?_); (· first | omega | ((try simp (disch := omega) only [wr, true_and, and_true, sM_ne, sM_eq, sM_neR, sM_eqR, sK_upM, sK_upR, sL_upM, sL_upR, sN_upM, sN_upR, sT_upM, sT_upR, sN_upM, Int.reduceAdd, Int.reduceMul, Int.reduceSub, Int.reduceNeg, Int.zero_add, Int.add_zero, hF.c, hph ()]) <;> omega)))
    | ((with_reducible refine rt_neg ?_ ?_); (· first | omega | ((try simp (disch := omega) only [wr, true_and, and_true, sM_ne, sM_eq, sM_neR, sM_eqR, sK_upM, sK_upR, sL_upM, sL_upR, sN_upM, sN_upR, sT_upM, sT_upR, sN_upM, Int.reduceAdd, Int.reduceMul, Int.reduceSub, Int.reduceNeg, Int.zero_add, Int.add_zero, hF.c, hph ()]) <;> omega)))
    | ((with_reducible refine rt_v ?_ ?_); · simp (disch := omega) only [true_and, and_true, sM_ne, sM_eq, sM_neR, sM_eqR, sK_upM, sK_upR, sL_upM, sL_upR, sN_upM, sN_upR, sT_upM, sT_upR, sN_upM, Int.reduceAdd, Int.reduceMul, Int.reduceSub, Int.reduceNeg, Int.zero_add, Int.add_zero, hF.c, hph ()])
    | ((with_reducible apply rt_gx); (· simp (disch := omega) only [true_and, and_true, sM_ne, sM_eq, sM_neR, sM_eqR, sK_upM, sK_upR, sL_upM, sL_upR, sN_upM, sN_upR, sT_upM, sT_upR, sN_upM, Int.reduceAdd, Int.reduceMul, Int.reduceSub, Int.reduceNeg, Int.zero_add, Int.add_zero, hF.c, hph ()]); (· (try simp (disch := omega) only [wr, true_and, and_true, sM_ne, sM_eq, sM_neR, sM_eqR, sK_upM, sK_upR, sL_upM, sL_upR, sN_upM, sN_upR, sT_upM, sT_upR, sN_upM, Int.reduceAdd, Int.reduceMul, Int.reduceSub, Int.reduceNeg, Int.zero_add, Int.add_zero, hF.c, hph ()]); exact rfl))
    | ((with_reducible apply rt_alx); (· simp (disch := omega) only [true_and, and_true, sM_ne, sM_eq, sM_neR, sM_eqR, sK_upM, sK_upR, sL_upM, sL_upR, sN_upM, sN_upR, sT_upM, sT_upR, sN_upM, Int.reduceAdd, Int.reduceMul, Int.reduceSub, Int.reduceNeg, Int.zero_add, Int.add_zero, hF.c, hph ()]); (· first | omega | ((try simp (disch := omega) only [wr, true_and, and_true, sM_ne, sM_eq, sM_neR, sM_eqR, sK_upM, sK_upR, sL_upM, sL_upR, sN_upM, sN_upR, sT_upM, sT_upR, sN_upM, Int.reduceAdd, Int.reduceMul, Int.reduceSub, Int.reduceNeg, Int.zero_add, Int.add_zero, hF.c, hph ()]) <;> omega)); (· (try simp (disch := omega) only [wr, true_and, and_true, sM_ne, sM_eq, sM_neR, sM_eqR, sK_upM, sK_upR, sL_upM, sL_upR, sN_upM, sN_upR, sT_upM, sT_upR, sN_upM, Int.reduceAdd, Int.reduceMul, Int.reduceSub, Int.reduceNeg, Int.zero_add, Int.add_zero, hF.c, hph ()]); exact rfl))
    | ((with_reducible refine rt_as ?_ ?_ ?_); (· simp (disch := omega) only [true_and, and_true, sM_ne, sM_eq, sM_neR, sM_eqR, sK_upM, sK_upR, sL_upM, sL_upR, sN_upM, sN_upR, sT_upM, sT_upR, sN_upM, Int.reduceAdd, Int.reduceMul, Int.reduceSub, Int.reduceNeg, Int.zero_add, Int.add_zero, hF.c, hph ()]); (· first | omega | ((try simp (disch := omega) only [wr, true_and, and_true, sM_ne, sM_eq, sM_neR, sM_eqR, sK_upM, sK_upR, sL_upM, sL_upR, sN_upM, sN_upR, sT_upM, sT_upR, sN_upM, Int.reduceAdd, Int.reduceMul, Int.reduceSub, Int.reduceNeg, Int.zero_add, Int.add_zero, hF.c, hph ()]) <;> omega)))
    | ((with_reducible refine rt_p ?_ ?_ ?_); (· simp (disch := omega) only [true_and, and_true, sM_ne, sM_eq, sM_neR, sM_eqR, sK_upM, sK_upR, sL_upM, sL_upR, sN_upM, sN_upR, sT_upM, sT_upR, sN_upM, Int.reduceAdd, Int.reduceMul, Int.reduceSub, Int.reduceNeg, Int.zero_add, Int.add_zero, hF.c, hph ()]); (· omega))
    | with_reducible refine rt_ret ?_
    | ((with_reducible apply rt_gwx); (· assumption); (· (try simp (disch := omega) only [wr, true_and, and_true, sM_ne, sM_eq, sM_neR, sM_eqR, sK_upM, sK_upR, sL_upM, sL_upR, sN_upM, sN_upR, sT_upM, sT_upR, sN_upM, Int.reduceAdd, Int.reduceMul, Int.reduceSub, Int.reduceNeg, Int.zero_add, Int.add_zero, hF.c, hph ()]); exact rfl)))
    refine ⟨?_, Ch.rf⟩
    rw [if_pos h1]
  · repeat (first
    | with_reducible refine rt_b ?_
    | with_reducible refine rt_jn ?_
    | ((with_reducible refine rt_pos ?_ ?_); (· first | omega | ((try simp (disch := omega) only [wr, true_and, and_true, sM_ne, sM_eq, sM_neR, sM_eqR, sK_upM, sK_upR, sL_upM, sL_upR, sN_upM, sN_upR, sT_upM, sT_upR, sN_upM, Int.reduceAdd, Int.reduceMul, Int.reduceSub, Int.reduceNeg, Int.zero_add, Int.add_zero, hF.c, hph ()]) <;> omega)))
    | ((with_reducible refine rt_neg ?_ ?_); (· first | omega | ((try simp (disch := omega) only [wr, true_and, and_true, sM_ne, sM_eq, sM_neR, sM_eqR, sK_upM, sK_upR, sL_upM, sL_upR, sN_upM, sN_upR, sT_upM, sT_upR, sN_upM, Int.reduceAdd, Int.reduceMul, Int.reduceSub, Int.reduceNeg, Int.zero_add, Int.add_zero, hF.c, hph ()]) <;> omega)))
    | ((with_reducible refine rt_v ?_ ?_); · simp (disch := omega) only [true_and, and_true, sM_ne, sM_eq, sM_neR, sM_eqR, sK_upM, sK_upR, sL_upM, sL_upR, sN_upM, sN_upR, sT_upM, sT_upR, sN_upM, Int.reduceAdd, Int.reduceMul, Int.reduceSub, Int.reduceNeg, Int.zero_add, Int.add_zero, hF.c, hph ()])
    | ((with_reducible apply rt_gx); (· simp (disch := omega) only [true_and, and_true, sM_ne, sM_eq, sM_neR, sM_eqR, sK_upM, sK_upR, sL_upM, sL_upR, sN_upM, sN_upR, sT_upM, sT_upR, sN_upM, Int.reduceAdd, Int.reduceMul, Int.reduceSub, Int.reduceNeg, Int.zero_add, Int.add_zero, hF.c, hph ()]); (· (try simp (disch := omega) only [wr, true_and, and_true, sM_ne, sM_eq, sM_neR, sM_eqR, sK_upM, sK_upR, sL_upM, sL_upR, sN_upM, sN_upR, sT_upM, sT_upR, sN_upM, Int.reduceAdd, Int.reduceMul, Int.reduceSub, Int.reduceNeg, Int.zero_add, Int.add_zero, hF.c, hph ()]); exact rfl))
    | ((with_reducible apply rt_alx); (· simp (disch := omega) only [true_and, and_true, sM_ne, sM_eq, sM_neR, sM_eqR, sK_upM, sK_upR, sL_upM, sL_upR, sN_upM, sN_upR, sT_upM, sT_upR, sN_upM, Int.reduceAdd, Int.reduceMul, Int.reduceSub, Int.reduceNeg, Int.zero_add, Int.add_zero, hF.c, hph ()]); (· first | omega | ((try simp (disch := omega) only [wr, true_and, and_true, sM_ne, sM_eq, sM_neR, sM_eqR, sK_upM, sK_upR, sL_upM, sL_upR, sN_upM, sN_upR, sT_upM, sT_upR, sN_upM, Int.reduceAdd, Int.reduceMul, Int.reduceSub, Int.reduceNeg, Int.zero_add, Int.add_zero, hF.c, hph ()]) <;> omega)); (· (try simp (disch := omega) only [wr, true_and, and_true, sM_ne, sM_eq, sM_neR, sM_eqR, sK_upM, sK_upR, sL_upM, sL_upR, sN_upM, sN_upR, sT_upM, sT_upR, sN_upM, Int.reduceAdd, Int.reduceMul, Int.reduceSub, Int.reduceNeg, Int.zero_add, Int.add_zero, hF.c, hph ()]); exact rfl))
    | ((with_reducible refine rt_as ?_ ?_ ?_); (· simp (disch := omega) only [true_and, and_true, sM_ne, sM_eq, sM_neR, sM_eqR, sK_upM, sK_upR, sL_upM, sL_upR, sN_upM, sN_upR, sT_upM, sT_upR, sN_upM, Int.reduceAdd, Int.reduceMul, Int.reduceSub, Int.reduceNeg, Int.zero_add, Int.add_zero, hF.c, hph ()]); (· first | omega | ((try simp (disch := omega) only [wr, true_and, and_true, sM_ne, sM_eq, sM_neR, sM_eqR, sK_upM, sK_upR, sL_upM, sL_upR, sN_upM, sN_upR, sT_upM, sT_upR, sN_upM, Int.reduceAdd, Int.reduceMul, Int.reduceSub, Int.reduceNeg, Int.zero_add, Int.add_zero, hF.c, hph ()]) <;> omega)))
    | ((with_reducible refine rt_p ?_ ?_ ?_); (· simp (disch := omega) only [true_and, and_true, sM_ne, sM_eq, sM_neR, sM_eqR, sK_upM, sK_upR, sL_upM, sL_upR, sN_upM, sN_upR, sT_upM, sT_upR, sN_upM, Int.reduceAdd, Int.reduceMul, Int.reduceSub, Int.reduceNeg, Int.zero_add, Int.add_zero, hF.c, hph ()]); (· omega))
    | with_reducible refine rt_ret ?_
    | ((with_reducible apply rt_gwx); (· assumption); (· (try simp (disch := omega) only [wr, true_and, and_true, sM_ne, sM_eq, sM_neR, sM_eqR, sK_upM, sK_upR, sL_upM, sL_upR, sN_upM, sN_upR, sT_upM, sT_upR, sN_upM, Int.reduceAdd, Int.reduceMul, Int.reduceSub, Int.reduceNeg, Int.zero_add, Int.add_zero, hF.c, hph ()]); exact rfl)))
    refine Rt.mono (f_names hV0 hC0 c0 c1 hm m0 m1 hp (by omega) (by omega) (by omega)) ?_
    rintro v τ ⟨hcτ, hfτ⟩
    have hcτ' : Ch mdS σ τ := hcτ.mono (fun a i q => by unfold mdS; omega)
    have hVτ := hV0.ch hcτ'
    have hFτ := hVτ.1
    have h9τ := hFτ.2.2.2
    refine rt_b (rt_v (by simp (disch := omega) only [true_and, and_true, sM_ne, sM_eq, sM_neR, sM_eqR, sK_upM, sK_upR, sL_upM, sL_upR, sN_upM, sN_upR, sT_upM, sT_upR, sN_upM, Int.reduceAdd, Int.reduceMul, Int.reduceSub, Int.reduceNeg, Int.zero_add, Int.add_zero, hFτ.c]) ?_)
    refine Rt.mono (f_worthM hFτ (p := 1) (by omega) (by omega) (r := r) (by rw [hcτ'.M (by omega) (by unfold mdS; omega)]; exact r1 ()) r2 r3 (y2.ch hF hcτ') hfτ) ?_
    rintro v2 ρ ⟨e2, hcρ⟩
    subst e2
    refine rt_b (rt_e (f_held ρ _) ?_)
    refine rt_ret ⟨?_, (hcτ.mono (fun a i q => by unfold mcS; omega)).tr (hcρ.mono (fun a i q => by unfold mcS; omega))⟩
    rw [if_neg h1]
    unfold valV pdV
    rw [if_neg h1]
