/-! cells, copies, what is taken, the tape -/
theorem q_cell {σ : ZS} (h : Rel σ) (s i v : Int) : Rt (fX11_cell σ 3 s i v) (fun x τ => Rt (fX12_cell τ 64 s i v) (fun y ρ => Fin σ x y ρ)) := by
  have hF := h.F
  have h9 := hF.2.2.2
  unfold fX11_cell
  refine rt_b (rt_e (f_isSheet σ s) ?_)
  by_cases hs : 0 ≤ s ∧ s < 4
  · rw [if_pos hs]
    refine rt_neg (by omega) ?_
    obtain ⟨⟨a1, a2, a3⟩, ⟨b1, b2, b3⟩, c1⟩ := h.Sh s hs.1 hs.2
    have e1 := hd a1
    have e2 := hd b1
    have kS := hd (show sK σ (56 + 2 * s) = 6 by simp (disch := omega) only [true_and, and_true, sM_ne, sM_eq, sM_neR, sM_eqR, sK_upM, sK_upR, sL_upM, sL_upR, sN_upM, sN_upR, sT_upM, sT_upR, sN_upM, Int.reduceAdd, Int.reduceMul, Int.reduceSub, Int.reduceNeg, Int.zero_add, Int.add_zero, hF.c])
    refine rt_gx (x := 40) (by simp (disch := omega) only [true_and, and_true, sM_ne, sM_eq, sM_neR, sM_eqR, sK_upM, sK_upR, sL_upM, sL_upR, sN_upM, sN_upR, sT_upM, sT_upR, sN_upM, Int.reduceAdd, Int.reduceMul, Int.reduceSub, Int.reduceNeg, Int.zero_add, Int.add_zero, hF.c]) (by simp (disch := omega) only [true_and, and_true, sM_ne, sM_eq, sM_neR, sM_eqR, sK_upM, sK_upR, sL_upM, sL_upR, sN_upM, sN_upR, sT_upM, sT_upR, sN_upM, Int.reduceAdd, Int.reduceMul, Int.reduceSub, Int.reduceNeg, Int.zero_add, Int.add_zero, hF.c]) ?_
    refine rt_alx (x := 56 + 2 * s) (by simp (disch := omega) only [true_and, and_true, sM_ne, sM_eq, sM_neR, sM_eqR, sK_upM, sK_upR, sL_upM, sL_upR, sN_upM, sN_upR, sT_upM, sT_upR, sN_upM, Int.reduceAdd, Int.reduceMul, Int.reduceSub, Int.reduceNeg, Int.zero_add, Int.add_zero, hF.c]) (by simp (disch := omega) only [true_and, and_true, sM_ne, sM_eq, sM_neR, sM_eqR, sK_upM, sK_upR, sL_upM, sL_upR, sN_upM, sN_upR, sT_upM, sT_upR, sN_upM, Int.reduceAdd, Int.reduceMul, Int.reduceSub, Int.reduceNeg, Int.zero_add, Int.add_zero, hF.c]; omega) (by simp (disch := omega) only [true_and, and_true, sM_ne, sM_eq, sM_neR, sM_eqR, sK_upM, sK_upR, sL_upM, sL_upR, sN_upM, sN_upR, sT_upM, sT_upR, sN_upM, Int.reduceAdd, Int.reduceMul, Int.reduceSub, Int.reduceNeg, Int.zero_add, Int.add_zero, hF.c]) ?_
    refine rt_b (rt_v (kS ()) (rt_e (f_isMissing (kS ()) (e1 ())) ?_))
    generalize hkk : sM σ 81 s = k at *
    generalize hzz : sM σ 82 s = z at *
    have hk := hd hkk
    have hz := hd hzz
    clear a1 b1 hkk hzz
    have ref0 : ∀ (x : Int), (k = -1 ∧ x = -11) ∨ (k ≠ -1 ∧ ¬ (0 ≤ i ∧ i < z) ∧ x = -12) → Rt (fX12_cell σ 64 s i v) (fun y ρ => Fin σ x y ρ) := by
      intro x hx
      unfold fX12_cell
      refine rt_b (rt_e (f_in σ s 0 3) ?_)
      rw [if_pos (show 0 ≤ s ∧ s ≤ 3 by omega)]
      refine rt_neg (by omega) ?_
      refine rt_gx (x := 81) (by simp (disch := omega) only [true_and, and_true, sM_ne, sM_eq, sM_neR, sM_eqR, sK_upM, sK_upR, sL_upM, sL_upR, sN_upM, sN_upR, sT_upM, sT_upR, sN_upM, Int.reduceAdd, Int.reduceMul, Int.reduceSub, Int.reduceNeg, Int.zero_add, Int.add_zero, hF.c]) (by simp (disch := omega) only [true_and, and_true, sM_ne, sM_eq, sM_neR, sM_eqR, sK_upM, sK_upR, sL_upM, sL_upR, sN_upM, sN_upR, sT_upM, sT_upR, sN_upM, Int.reduceAdd, Int.reduceMul, Int.reduceSub, Int.reduceNeg, Int.zero_add, Int.add_zero, hF.c]) ?_
      refine rt_alx (x := k) (by simp (disch := omega) only [true_and, and_true, sM_ne, sM_eq, sM_neR, sM_eqR, sK_upM, sK_upR, sL_upM, sL_upR, sN_upM, sN_upR, sT_upM, sT_upR, sN_upM, Int.reduceAdd, Int.reduceMul, Int.reduceSub, Int.reduceNeg, Int.zero_add, Int.add_zero, hF.c]) (by simp (disch := omega) only [true_and, and_true, sM_ne, sM_eq, sM_neR, sM_eqR, sK_upM, sK_upR, sL_upM, sL_upR, sN_upM, sN_upR, sT_upM, sT_upR, sN_upM, Int.reduceAdd, Int.reduceMul, Int.reduceSub, Int.reduceNeg, Int.zero_add, Int.add_zero, hF.c]; omega) (hk ()) ?_
      by_cases q1 : k = -1
      · exact rt_pos q1 (rt_ret (fin0 h (by omega)))
      · refine rt_neg q1 ?_
        refine rt_gx (x := 82) (by simp (disch := omega) only [true_and, and_true, sM_ne, sM_eq, sM_neR, sM_eqR, sK_upM, sK_upR, sL_upM, sL_upR, sN_upM, sN_upR, sT_upM, sT_upR, sN_upM, Int.reduceAdd, Int.reduceMul, Int.reduceSub, Int.reduceNeg, Int.zero_add, Int.add_zero, hF.c]) (by simp (disch := omega) only [true_and, and_true, sM_ne, sM_eq, sM_neR, sM_eqR, sK_upM, sK_upR, sL_upM, sL_upR, sN_upM, sN_upR, sT_upM, sT_upR, sN_upM, Int.reduceAdd, Int.reduceMul, Int.reduceSub, Int.reduceNeg, Int.zero_add, Int.add_zero, hF.c]) ?_
        refine rt_alx (x := z) (by simp (disch := omega) only [true_and, and_true, sM_ne, sM_eq, sM_neR, sM_eqR, sK_upM, sK_upR, sL_upM, sL_upR, sN_upM, sN_upR, sT_upM, sT_upR, sN_upM, Int.reduceAdd, Int.reduceMul, Int.reduceSub, Int.reduceNeg, Int.zero_add, Int.add_zero, hF.c]) (by simp (disch := omega) only [true_and, and_true, sM_ne, sM_eq, sM_neR, sM_eqR, sK_upM, sK_upR, sL_upM, sL_upR, sN_upM, sN_upR, sT_upM, sT_upR, sN_upM, Int.reduceAdd, Int.reduceMul, Int.reduceSub, Int.reduceNeg, Int.zero_add, Int.add_zero, hF.c]; omega) (hz ()) ?_
        have ez : wrap (z - 1) = z - 1 := wr (by omega) (by omega)
        rw [ez]
        refine rt_b (rt_e (f_in σ i 0 (z - 1)) ?_)
        rw [if_neg (show ¬ (0 ≤ i ∧ i ≤ z - 1) by omega)]
        exact rt_pos rfl (rt_ret (fin0 h (by omega)))
    by_cases q1 : k = -1
    · rw [if_pos q1]
      exact rt_neg (by omega) (rt_ret (ref0 _ (Or.inl ⟨q1, rfl⟩)))
    · rw [if_neg q1]
      refine rt_pos rfl ?_
      by_cases i0 : i < 0
      · exact rt_pos i0 (rt_ret (ref0 _ (Or.inr ⟨q1, by omega, rfl⟩)))
      · refine rt_neg i0 (rt_gx (x := z) (kS ()) (e2 ()) ?_)
        by_cases i1 : i < z
        · refine rt_pos i1 ?_
          have hfit : fX6_fitted σ (56 + 2 * s) v = some (if k = 0 then iB v else if k = 1 then iS v else v, σ) := by
            refine rt_is ?_
            unfold fX6_fitted
            refine rt_gx (x := k) (kS ()) (e1 ()) ?_
            by_cases k0 : k = 0
            · exact rt_pos k0 (rt_ret ⟨by rw [if_pos k0], rfl⟩)
            · refine rt_neg k0 ?_
              by_cases k1 : k = 1
              · exact rt_pos k1 (rt_ret ⟨by rw [if_neg k0, if_pos k1], rfl⟩)
              · exact rt_neg k1 (rt_ret ⟨by rw [if_neg k0, if_neg k1], rfl⟩)
          refine rt_gx (x := 57 + 2 * s) (kS ()) (by simp (disch := omega) only [true_and, and_true, sM_ne, sM_eq, sM_neR, sM_eqR, sK_upM, sK_upR, sL_upM, sL_upR, sN_upM, sN_upR, sT_upM, sT_upR, sN_upM, Int.reduceAdd, Int.reduceMul, Int.reduceSub, Int.reduceNeg, Int.zero_add, Int.add_zero, hF.c]) ?_
          refine rt_b (rt_v (kS ()) (rt_e hfit ?_))
          generalize hu : (if k = 0 then iB v else if k = 1 then iS v else v) = u
          refine rt_as (by simp (disch := omega) only [true_and, and_true, sM_ne, sM_eq, sM_neR, sM_eqR, sK_upM, sK_upR, sL_upM, sL_upR, sN_upM, sN_upR, sT_upM, sT_upR, sN_upM, Int.reduceAdd, Int.reduceMul, Int.reduceSub, Int.reduceNeg, Int.zero_add, Int.add_zero, hF.c]) (by simp (disch := omega) only [true_and, and_true, sM_ne, sM_eq, sM_neR, sM_eqR, sK_upM, sK_upR, sL_upM, sL_upR, sN_upM, sN_upR, sT_upM, sT_upR, sN_upM, Int.reduceAdd, Int.reduceMul, Int.reduceSub, Int.reduceNeg, Int.zero_add, Int.add_zero, hF.c]; omega) (rt_ret ?_)
          have hcτ : Ch (fun a j => a = 57 + 2 * s ∧ j = i) σ (upM σ (57 + 2 * s) i u) := Ch.rf.up ⟨rfl, rfl⟩
          have hFτ := hcτ.Fx hF (fun a j q => NF_i (by omega))
          have hrow : ∀ j : Int, sM (upM σ (57 + 2 * s) i u) (57 + 2 * s) j = if j = i then u else sM σ (57 + 2 * s) j := by
            intro j
            by_cases q : j = i
            · rw [if_pos q, sM_eq ⟨rfl, q⟩]
            · rw [if_neg q, sM_ne (Or.inr q)]
          generalize upM σ (57 + 2 * s) i u = τ at hcτ hFτ hrow ⊢
          have hkτ := hd (show sM τ 81 s = k by rw [hcτ.M (by omega) (by omega)]; exact hk ())
          have hzτ := hd (show sM τ 82 s = z by rw [hcτ.M (by omega) (by omega)]; exact hz ())
          have hn := hcτ.2.1
          unfold fX12_cell
          refine rt_b (rt_e (f_in τ s 0 3) ?_)
          rw [if_pos (show 0 ≤ s ∧ s ≤ 3 by omega)]
          refine rt_neg (by omega) ?_
          refine rt_gx (x := 81) (by simp (disch := omega) only [true_and, and_true, sM_ne, sM_eq, sM_neR, sM_eqR, sK_upM, sK_upR, sL_upM, sL_upR, sN_upM, sN_upR, sT_upM, sT_upR, sN_upM, Int.reduceAdd, Int.reduceMul, Int.reduceSub, Int.reduceNeg, Int.zero_add, Int.add_zero, hFτ.c]) (by simp (disch := omega) only [true_and, and_true, sM_ne, sM_eq, sM_neR, sM_eqR, sK_upM, sK_upR, sL_upM, sL_upR, sN_upM, sN_upR, sT_upM, sT_upR, sN_upM, Int.reduceAdd, Int.reduceMul, Int.reduceSub, Int.reduceNeg, Int.zero_add, Int.add_zero, hFτ.c]) ?_
          refine rt_alx (x := k) (by simp (disch := omega) only [true_and, and_true, sM_ne, sM_eq, sM_neR, sM_eqR, sK_upM, sK_upR, sL_upM, sL_upR, sN_upM, sN_upR, sT_upM, sT_upR, sN_upM, Int.reduceAdd, Int.reduceMul, Int.reduceSub, Int.reduceNeg, Int.zero_add, Int.add_zero, hFτ.c]) (by simp (disch := omega) only [true_and, and_true, sM_ne, sM_eq, sM_neR, sM_eqR, sK_upM, sK_upR, sL_upM, sL_upR, sN_upM, sN_upR, sT_upM, sT_upR, sN_upM, Int.reduceAdd, Int.reduceMul, Int.reduceSub, Int.reduceNeg, Int.zero_add, Int.add_zero, hFτ.c]; omega) (hkτ ()) ?_
          refine rt_neg q1 ?_
          refine rt_gx (x := 82) (by simp (disch := omega) only [true_and, and_true, sM_ne, sM_eq, sM_neR, sM_eqR, sK_upM, sK_upR, sL_upM, sL_upR, sN_upM, sN_upR, sT_upM, sT_upR, sN_upM, Int.reduceAdd, Int.reduceMul, Int.reduceSub, Int.reduceNeg, Int.zero_add, Int.add_zero, hFτ.c]) (by simp (disch := omega) only [true_and, and_true, sM_ne, sM_eq, sM_neR, sM_eqR, sK_upM, sK_upR, sL_upM, sL_upR, sN_upM, sN_upR, sT_upM, sT_upR, sN_upM, Int.reduceAdd, Int.reduceMul, Int.reduceSub, Int.reduceNeg, Int.zero_add, Int.add_zero, hFτ.c]) ?_
          refine rt_alx (x := z) (by simp (disch := omega) only [true_and, and_true, sM_ne, sM_eq, sM_neR, sM_eqR, sK_upM, sK_upR, sL_upM, sL_upR, sN_upM, sN_upR, sT_upM, sT_upR, sN_upM, Int.reduceAdd, Int.reduceMul, Int.reduceSub, Int.reduceNeg, Int.zero_add, Int.add_zero, hFτ.c]) (by simp (disch := omega) only [true_and, and_true, sM_ne, sM_eq, sM_neR, sM_eqR, sK_upM, sK_upR, sL_upM, sL_upR, sN_upM, sN_upR, sT_upM, sT_upR, sN_upM, Int.reduceAdd, Int.reduceMul, Int.reduceSub, Int.reduceNeg, Int.zero_add, Int.add_zero, hFτ.c]; omega) (hzτ ()) ?_
          have ez : wrap (z - 1) = z - 1 := wr (by omega) (by omega)
          rw [ez]
          refine rt_b (rt_e (f_in τ i 0 (z - 1)) ?_)
          rw [if_pos (show 0 ≤ i ∧ i ≤ z - 1 by omega)]
          refine rt_neg (by omega) ?_
          have w0 : wrap (wrap (40 * s) + i) = 40 * s + i := by rw [wr (x := 40 * s) (by omega) (by omega), wr (by omega) (by omega)]
          rw [w0]
          have fin : Fin σ 1 1 (upM τ 83 (40 * s + i) u) := by
            have hall : Ch (shS s) σ (upM τ 83 (40 * s + i) u) := (hcτ.mono (fun a j q => Or.inr (Or.inl q.1))).up (Or.inr (Or.inr (Or.inr ⟨rfl, by omega, by omega⟩)))
            refine finS rfl (h.shOne hs.1 hs.2 hall (fun s' q => ?_) ?_ ?_ (fun j j0 j1 => ?_)) hall.2
            · rw [sM_ne (by omega), sM_ne (by omega), hcτ.M (by omega) (by omega), hcτ.M (by omega) (by omega)]
              exact ⟨rfl, rfl⟩
            · rw [sM_ne (by omega), sM_ne (by omega), hkτ (), hcτ.M (by omega) (by omega), e1 ()]
              omega
            · rw [sM_ne (by omega), sM_ne (by omega), hzτ (), hcτ.M (by omega) (by omega), e2 ()]
              omega
            · rw [sM_ne (by omega), hrow j]
              by_cases q : j = i
              · rw [if_pos q, sM_eq ⟨rfl, by omega⟩]
              · rw [if_neg q, sM_ne (by omega), hcτ.M (by omega) (by omega)]
                exact c1 j j0 j1
          refine rt_gx (x := 83) (by simp (disch := omega) only [true_and, and_true, sM_ne, sM_eq, sM_neR, sM_eqR, sK_upM, sK_upR, sL_upM, sL_upR, sN_upM, sN_upR, sT_upM, sT_upR, sN_upM, Int.reduceAdd, Int.reduceMul, Int.reduceSub, Int.reduceNeg, Int.zero_add, Int.add_zero, hFτ.c]) (by simp (disch := omega) only [true_and, and_true, sM_ne, sM_eq, sM_neR, sM_eqR, sK_upM, sK_upR, sL_upM, sL_upR, sN_upM, sN_upR, sT_upM, sT_upR, sN_upM, Int.reduceAdd, Int.reduceMul, Int.reduceSub, Int.reduceNeg, Int.zero_add, Int.add_zero, hFτ.c]) ?_
          refine rt_gx (x := 81) (by simp (disch := omega) only [true_and, and_true, sM_ne, sM_eq, sM_neR, sM_eqR, sK_upM, sK_upR, sL_upM, sL_upR, sN_upM, sN_upR, sT_upM, sT_upR, sN_upM, Int.reduceAdd, Int.reduceMul, Int.reduceSub, Int.reduceNeg, Int.zero_add, Int.add_zero, hFτ.c]) (by simp (disch := omega) only [true_and, and_true, sM_ne, sM_eq, sM_neR, sM_eqR, sK_upM, sK_upR, sL_upM, sL_upR, sN_upM, sN_upR, sT_upM, sT_upR, sN_upM, Int.reduceAdd, Int.reduceMul, Int.reduceSub, Int.reduceNeg, Int.zero_add, Int.add_zero, hFτ.c]) ?_
          refine rt_alx (x := k) (by simp (disch := omega) only [true_and, and_true, sM_ne, sM_eq, sM_neR, sM_eqR, sK_upM, sK_upR, sL_upM, sL_upR, sN_upM, sN_upR, sT_upM, sT_upR, sN_upM, Int.reduceAdd, Int.reduceMul, Int.reduceSub, Int.reduceNeg, Int.zero_add, Int.add_zero, hFτ.c]) (by simp (disch := omega) only [true_and, and_true, sM_ne, sM_eq, sM_neR, sM_eqR, sK_upM, sK_upR, sL_upM, sL_upR, sN_upM, sN_upR, sT_upM, sT_upR, sN_upM, Int.reduceAdd, Int.reduceMul, Int.reduceSub, Int.reduceNeg, Int.zero_add, Int.add_zero, hFτ.c]; omega) (hkτ ()) ?_
          by_cases k0 : k = 0
          · refine rt_pos k0 (rt_as (by simp (disch := omega) only [true_and, and_true, sM_ne, sM_eq, sM_neR, sM_eqR, sK_upM, sK_upR, sL_upM, sL_upR, sN_upM, sN_upR, sT_upM, sT_upR, sN_upM, Int.reduceAdd, Int.reduceMul, Int.reduceSub, Int.reduceNeg, Int.zero_add, Int.add_zero, hFτ.c]) (by simp (disch := omega) only [true_and, and_true, sM_ne, sM_eq, sM_neR, sM_eqR, sK_upM, sK_upR, sL_upM, sL_upR, sN_upM, sN_upR, sT_upM, sT_upR, sN_upM, Int.reduceAdd, Int.reduceMul, Int.reduceSub, Int.reduceNeg, Int.zero_add, Int.add_zero, hFτ.c]; omega) (rt_ret ?_))
            rw [if_pos k0] at hu
            rw [hu]
            exact fin
          · refine rt_neg k0 ?_
            refine rt_gx (x := 81) (by simp (disch := omega) only [true_and, and_true, sM_ne, sM_eq, sM_neR, sM_eqR, sK_upM, sK_upR, sL_upM, sL_upR, sN_upM, sN_upR, sT_upM, sT_upR, sN_upM, Int.reduceAdd, Int.reduceMul, Int.reduceSub, Int.reduceNeg, Int.zero_add, Int.add_zero, hFτ.c]) (by simp (disch := omega) only [true_and, and_true, sM_ne, sM_eq, sM_neR, sM_eqR, sK_upM, sK_upR, sL_upM, sL_upR, sN_upM, sN_upR, sT_upM, sT_upR, sN_upM, Int.reduceAdd, Int.reduceMul, Int.reduceSub, Int.reduceNeg, Int.zero_add, Int.add_zero, hFτ.c]) ?_
            refine rt_alx (x := k) (by simp (disch := omega) only [true_and, and_true, sM_ne, sM_eq, sM_neR, sM_eqR, sK_upM, sK_upR, sL_upM, sL_upR, sN_upM, sN_upR, sT_upM, sT_upR, sN_upM, Int.reduceAdd, Int.reduceMul, Int.reduceSub, Int.reduceNeg, Int.zero_add, Int.add_zero, hFτ.c]) (by simp (disch := omega) only [true_and, and_true, sM_ne, sM_eq, sM_neR, sM_eqR, sK_upM, sK_upR, sL_upM, sL_upR, sN_upM, sN_upR, sT_upM, sT_upR, sN_upM, Int.reduceAdd, Int.reduceMul, Int.reduceSub, Int.reduceNeg, Int.zero_add, Int.add_zero, hFτ.c]; omega) (hkτ ()) ?_
            by_cases k1 : k = 1
            · refine rt_pos k1 (rt_as (by simp (disch := omega) only [true_and, and_true, sM_ne, sM_eq, sM_neR, sM_eqR, sK_upM, sK_upR, sL_upM, sL_upR, sN_upM, sN_upR, sT_upM, sT_upR, sN_upM, Int.reduceAdd, Int.reduceMul, Int.reduceSub, Int.reduceNeg, Int.zero_add, Int.add_zero, hFτ.c]) (by simp (disch := omega) only [true_and, and_true, sM_ne, sM_eq, sM_neR, sM_eqR, sK_upM, sK_upR, sL_upM, sL_upR, sN_upM, sN_upR, sT_upM, sT_upR, sN_upM, Int.reduceAdd, Int.reduceMul, Int.reduceSub, Int.reduceNeg, Int.zero_add, Int.add_zero, hFτ.c]; omega) (rt_ret ?_))
              rw [if_neg k0, if_pos k1] at hu
              rw [hu]
              exact fin
            · refine rt_neg k1 (rt_as (by simp (disch := omega) only [true_and, and_true, sM_ne, sM_eq, sM_neR, sM_eqR, sK_upM, sK_upR, sL_upM, sL_upR, sN_upM, sN_upR, sT_upM, sT_upR, sN_upM, Int.reduceAdd, Int.reduceMul, Int.reduceSub, Int.reduceNeg, Int.zero_add, Int.add_zero, hFτ.c]) (by simp (disch := omega) only [true_and, and_true, sM_ne, sM_eq, sM_neR, sM_eqR, sK_upM, sK_upR, sL_upM, sL_upR, sN_upM, sN_upR, sT_upM, sT_upR, sN_upM, Int.reduceAdd, Int.reduceMul, Int.reduceSub, Int.reduceNeg, Int.zero_add, Int.add_zero, hFτ.c]; omega) (rt_ret ?_))
              rw [if_neg k0, if_neg k1] at hu
              rw [hu]
              exact fin
        · exact rt_neg i1 (rt_ret (ref0 _ (Or.inr ⟨q1, by omega, rfl⟩)))
  · rw [if_neg hs]
    refine rt_pos rfl (rt_ret ?_)
    unfold fX12_cell
    refine rt_b (rt_e (f_in σ s 0 3) ?_)
    rw [if_neg (show ¬ (0 ≤ s ∧ s ≤ 3) by omega)]
    exact rt_pos rfl (rt_ret (fin0 h rfl))
/-! copies -/
theorem l_cp147 {σ : ZS} {n p q : Int} {f : Int → Int} (n0 : 0 ≤ n) (p0 : 0 ≤ p) (q0 : 0 ≤ q) (p1 : p + n ≤ 160) (q1 : q + n ≤ 160) :
    ∀ (N c : Nat) (τ : ZS), FxD τ → (c : Int) ≤ n → n - (c : Int) < (N : Int) → Ch (fun a i => a = 83 ∧ q ≤ i ∧ i < q + n) σ τ → (∀ i : Int, sM τ 83 i = if (q ≤ p ∧ q ≤ i ∧ i < q + (c : Int)) ∨ (p < q ∧ q + n - (c : Int) ≤ i ∧ i < q + n) then f (i - q + p) else f i) → Rt (lX12_copy_147 64 n p q N τ (c : Int)) (fun v ρ => v = n ∧ Ch (fun a i => a = 83 ∧ q ≤ i ∧ i < q + n) σ ρ ∧ ∀ i : Int, sM ρ 83 i = if q ≤ i ∧ i < q + n then f (i - q + p) else f i)
  | 0, c, τ, _, h1, h2, _, _ => by omega
  | N + 1, c, τ, hF, h1, h2, hc, hz => by
    rw [lX12_copy_147]
    by_cases he : n ≤ (c : Int)
    · refine rt_pos he (rt_ret ⟨rfl, hc, fun i => ?_⟩)
      rw [hz i]
      by_cases a : q ≤ i ∧ i < q + n
      · rw [if_pos a, if_pos (by omega)]
      · rw [if_neg a, if_neg (by omega)]
    · refine rt_neg he ?_
      have step : ∀ w : Int, (q ≤ p ∧ w = (c : Int)) ∨ (p < q ∧ w = n - 1 - (c : Int)) → Rt ((zg τ 12 64 28).bind (fun v45 => (zg τ 12 64 28).bind (fun v46 => (zal τ 100 v46 (wrap (p + w))).bind (fun v47 => (zas τ 100 v45 (wrap (q + w)) v47).bind (fun s48 => lX12_copy_147 64 n p q N s48 (wrap ((c : Int) + 1))))))) (fun v ρ => v = n ∧ Ch (fun a i => a = 83 ∧ q ≤ i ∧ i < q + n) σ ρ ∧ ∀ i : Int, sM ρ 83 i = if q ≤ i ∧ i < q + n then f (i - q + p) else f i) := by
        intro w hw
        have e1 : wrap (p + w) = p + w := wr (by omega) (by omega)
        have e2 : wrap (q + w) = q + w := wr (by omega) (by omega)
        rw [e1, e2, wr1 c (by omega)]
        have hv := hd (show sM τ 83 (p + w) = f (p + w) by
          rw [hz (p + w), if_neg (by omega)])
        refine rt_gx (x := 83) (by simp (disch := omega) only [true_and, and_true, sM_ne, sM_eq, sM_neR, sM_eqR, sK_upM, sK_upR, sL_upM, sL_upR, sN_upM, sN_upR, sT_upM, sT_upR, sN_upM, Int.reduceAdd, Int.reduceMul, Int.reduceSub, Int.reduceNeg, Int.zero_add, Int.add_zero, hF.c]) (by simp (disch := omega) only [true_and, and_true, sM_ne, sM_eq, sM_neR, sM_eqR, sK_upM, sK_upR, sL_upM, sL_upR, sN_upM, sN_upR, sT_upM, sT_upR, sN_upM, Int.reduceAdd, Int.reduceMul, Int.reduceSub, Int.reduceNeg, Int.zero_add, Int.add_zero, hF.c]) ?_
        refine rt_gx (x := 83) (by simp (disch := omega) only [true_and, and_true, sM_ne, sM_eq, sM_neR, sM_eqR, sK_upM, sK_upR, sL_upM, sL_upR, sN_upM, sN_upR, sT_upM, sT_upR, sN_upM, Int.reduceAdd, Int.reduceMul, Int.reduceSub, Int.reduceNeg, Int.zero_add, Int.add_zero, hF.c]) (by simp (disch := omega) only [true_and, and_true, sM_ne, sM_eq, sM_neR, sM_eqR, sK_upM, sK_upR, sL_upM, sL_upR, sN_upM, sN_upR, sT_upM, sT_upR, sN_upM, Int.reduceAdd, Int.reduceMul, Int.reduceSub, Int.reduceNeg, Int.zero_add, Int.add_zero, hF.c]) ?_
        refine rt_alx (x := f (p + w)) (by simp (disch := omega) only [true_and, and_true, sM_ne, sM_eq, sM_neR, sM_eqR, sK_upM, sK_upR, sL_upM, sL_upR, sN_upM, sN_upR, sT_upM, sT_upR, sN_upM, Int.reduceAdd, Int.reduceMul, Int.reduceSub, Int.reduceNeg, Int.zero_add, Int.add_zero, hF.c]) (by simp (disch := omega) only [true_and, and_true, sM_ne, sM_eq, sM_neR, sM_eqR, sK_upM, sK_upR, sL_upM, sL_upR, sN_upM, sN_upR, sT_upM, sT_upR, sN_upM, Int.reduceAdd, Int.reduceMul, Int.reduceSub, Int.reduceNeg, Int.zero_add, Int.add_zero, hF.c]; omega) (hv ()) ?_
        refine rt_as (by simp (disch := omega) only [true_and, and_true, sM_ne, sM_eq, sM_neR, sM_eqR, sK_upM, sK_upR, sL_upM, sL_upR, sN_upM, sN_upR, sT_upM, sT_upR, sN_upM, Int.reduceAdd, Int.reduceMul, Int.reduceSub, Int.reduceNeg, Int.zero_add, Int.add_zero, hF.c]) (by simp (disch := omega) only [true_and, and_true, sM_ne, sM_eq, sM_neR, sM_eqR, sK_upM, sK_upR, sL_upM, sL_upR, sN_upM, sN_upR, sT_upM, sT_upR, sN_upM, Int.reduceAdd, Int.reduceMul, Int.reduceSub, Int.reduceNeg, Int.zero_add, Int.add_zero, hF.c]; omega) ?_
        refine l_cp147 n0 p0 q0 p1 q1 N (c + 1) _ (hF.up (NF_i (by omega))) (by omega) (by omega) (hc.up ⟨rfl, by omega, by omega⟩) (fun i => ?_)
        by_cases e : i = q + w
        · rw [sM_eq ⟨rfl, e⟩, if_pos (by omega)]
          congr 1
          omega
        · rw [sM_ne (Or.inr e), hz i]
          by_cases a : (q ≤ p ∧ q ≤ i ∧ i < q + (c : Int)) ∨ (p < q ∧ q + n - (c : Int) ≤ i ∧ i < q + n)
          · rw [if_pos a, if_pos (by omega)]
          · rw [if_neg a, if_neg (by omega)]
      refine rt_jn ?_
      by_cases hd' : q ≤ p
      · exact rt_pos hd' (step _ (Or.inl ⟨hd', rfl⟩))
      · refine rt_neg hd' (step _ (Or.inr ⟨by omega, ?_⟩))
        rw [wr (x := n - 1) (by omega) (by omega), wr (by omega) (by omega)]
theorem q_copy {σ : ZS} (h : Rel σ) (s i t j n : Int) (hn : zInR n) : Rt (fX11_copy σ 3 s i t j n) (fun x τ => Rt (fX12_copy τ 64 s i t j n) (fun y ρ => Fin σ x y ρ)) := by
  have hF := h.F
  have h9 := hF.2.2.2
  unfold zInR at hn
  have bad : ∀ x : Int, x = -2 → ¬ ((0 ≤ s ∧ s < 4) ∧ (0 ≤ t ∧ t < 4)) → Rt (fX12_copy σ 64 s i t j n) (fun y ρ => Fin σ x y ρ) := by
    intro x hx hb
    unfold fX12_copy
    refine rt_b (rt_e (f_in σ s 0 3) ?_)
    by_cases h1 : 0 ≤ s ∧ s ≤ 3
    · rw [if_pos h1]
      refine rt_neg (by omega) (rt_b (rt_e (f_in σ t 0 3) ?_))
      rw [if_neg (show ¬ (0 ≤ t ∧ t ≤ 3) by omega)]
      exact rt_pos rfl (rt_ret (fin0 h hx))
    · rw [if_neg h1]
      exact rt_pos rfl (rt_ret (fin0 h hx))
  unfold fX11_copy
  refine rt_b (rt_e (f_isSheet σ s) ?_)
  by_cases hs : 0 ≤ s ∧ s < 4
  · rw [if_pos hs]
    refine rt_neg (by omega) (rt_b (rt_e (f_isSheet σ t) ?_))
    by_cases ht : 0 ≤ t ∧ t < 4
    · rw [if_pos ht]
      refine rt_neg (by omega) ?_
      obtain ⟨⟨a1, a2, a3⟩, ⟨b1, b2, b3⟩, c1⟩ := h.Sh s hs.1 hs.2
      obtain ⟨⟨a1', a2', a3'⟩, ⟨b1', b2', b3'⟩, c1'⟩ := h.Sh t ht.1 ht.2
      have e1 := hd a1
      have e2 := hd b1
      have e1' := hd a1'
      have e2' := hd b1'
      have kS := hd (show sK σ (56 + 2 * s) = 6 by simp (disch := omega) only [true_and, and_true, sM_ne, sM_eq, sM_neR, sM_eqR, sK_upM, sK_upR, sL_upM, sL_upR, sN_upM, sN_upR, sT_upM, sT_upR, sN_upM, Int.reduceAdd, Int.reduceMul, Int.reduceSub, Int.reduceNeg, Int.zero_add, Int.add_zero, hF.c])
      have kT := hd (show sK σ (56 + 2 * t) = 6 by simp (disch := omega) only [true_and, and_true, sM_ne, sM_eq, sM_neR, sM_eqR, sK_upM, sK_upR, sL_upM, sL_upR, sN_upM, sN_upR, sT_upM, sT_upR, sN_upM, Int.reduceAdd, Int.reduceMul, Int.reduceSub, Int.reduceNeg, Int.zero_add, Int.add_zero, hF.c])
      generalize hkk : sM σ 81 s = k at *
      generalize hzz : sM σ 82 s = z at *
      generalize hkk' : sM σ 81 t = k' at *
      generalize hzz' : sM σ 82 t = z' at *
      have hk := hd hkk
      have hz := hd hzz
      have hk' := hd hkk'
      have hz' := hd hzz'
      clear a1 b1 hkk hzz a1' b1' hkk' hzz'
      refine rt_gx (x := 40) (by simp (disch := omega) only [true_and, and_true, sM_ne, sM_eq, sM_neR, sM_eqR, sK_upM, sK_upR, sL_upM, sL_upR, sN_upM, sN_upR, sT_upM, sT_upR, sN_upM, Int.reduceAdd, Int.reduceMul, Int.reduceSub, Int.reduceNeg, Int.zero_add, Int.add_zero, hF.c]) (by simp (disch := omega) only [true_and, and_true, sM_ne, sM_eq, sM_neR, sM_eqR, sK_upM, sK_upR, sL_upM, sL_upR, sN_upM, sN_upR, sT_upM, sT_upR, sN_upM, Int.reduceAdd, Int.reduceMul, Int.reduceSub, Int.reduceNeg, Int.zero_add, Int.add_zero, hF.c]) ?_
      refine rt_alx (x := 56 + 2 * s) (by simp (disch := omega) only [true_and, and_true, sM_ne, sM_eq, sM_neR, sM_eqR, sK_upM, sK_upR, sL_upM, sL_upR, sN_upM, sN_upR, sT_upM, sT_upR, sN_upM, Int.reduceAdd, Int.reduceMul, Int.reduceSub, Int.reduceNeg, Int.zero_add, Int.add_zero, hF.c]) (by simp (disch := omega) only [true_and, and_true, sM_ne, sM_eq, sM_neR, sM_eqR, sK_upM, sK_upR, sL_upM, sL_upR, sN_upM, sN_upR, sT_upM, sT_upR, sN_upM, Int.reduceAdd, Int.reduceMul, Int.reduceSub, Int.reduceNeg, Int.zero_add, Int.add_zero, hF.c]; omega) (by simp (disch := omega) only [true_and, and_true, sM_ne, sM_eq, sM_neR, sM_eqR, sK_upM, sK_upR, sL_upM, sL_upR, sN_upM, sN_upR, sT_upM, sT_upR, sN_upM, Int.reduceAdd, Int.reduceMul, Int.reduceSub, Int.reduceNeg, Int.zero_add, Int.add_zero, hF.c]) ?_
      refine rt_gx (x := 40) (by simp (disch := omega) only [true_and, and_true, sM_ne, sM_eq, sM_neR, sM_eqR, sK_upM, sK_upR, sL_upM, sL_upR, sN_upM, sN_upR, sT_upM, sT_upR, sN_upM, Int.reduceAdd, Int.reduceMul, Int.reduceSub, Int.reduceNeg, Int.zero_add, Int.add_zero, hF.c]) (by simp (disch := omega) only [true_and, and_true, sM_ne, sM_eq, sM_neR, sM_eqR, sK_upM, sK_upR, sL_upM, sL_upR, sN_upM, sN_upR, sT_upM, sT_upR, sN_upM, Int.reduceAdd, Int.reduceMul, Int.reduceSub, Int.reduceNeg, Int.zero_add, Int.add_zero, hF.c]) ?_
      refine rt_alx (x := 56 + 2 * t) (by simp (disch := omega) only [true_and, and_true, sM_ne, sM_eq, sM_neR, sM_eqR, sK_upM, sK_upR, sL_upM, sL_upR, sN_upM, sN_upR, sT_upM, sT_upR, sN_upM, Int.reduceAdd, Int.reduceMul, Int.reduceSub, Int.reduceNeg, Int.zero_add, Int.add_zero, hF.c]) (by simp (disch := omega) only [true_and, and_true, sM_ne, sM_eq, sM_neR, sM_eqR, sK_upM, sK_upR, sL_upM, sL_upR, sN_upM, sN_upR, sT_upM, sT_upR, sN_upM, Int.reduceAdd, Int.reduceMul, Int.reduceSub, Int.reduceNeg, Int.zero_add, Int.add_zero, hF.c]; omega) (by simp (disch := omega) only [true_and, and_true, sM_ne, sM_eq, sM_neR, sM_eqR, sK_upM, sK_upR, sL_upM, sL_upR, sN_upM, sN_upR, sT_upM, sT_upR, sN_upM, Int.reduceAdd, Int.reduceMul, Int.reduceSub, Int.reduceNeg, Int.zero_add, Int.add_zero, hF.c]) ?_
      have okc : Prop := 0 ≤ n ∧ 0 ≤ i ∧ 0 ≤ j ∧ i ≤ z - n ∧ j ≤ z' - n
      have ref : ∀ (x : Int) (τ : ZS), Ch (fun a b => a = 57 + 2 * t ∧ j ≤ b ∧ b < j + n) σ τ → (k = -1 ∨ k' = -1 → x = -11 ∧ τ = σ) → (k ≠ -1 → k' ≠ -1 → k ≠ k' → x = -13 ∧ τ = σ) → (k ≠ -1 → k' ≠ -1 → k = k' → ¬ (0 ≤ n ∧ 0 ≤ i ∧ 0 ≤ j ∧ i ≤ z - n ∧ j ≤ z' - n) → x = -12 ∧ τ = σ) → (k ≠ -1 → k' ≠ -1 → k = k' → (0 ≤ n ∧ 0 ≤ i ∧ 0 ≤ j ∧ i ≤ z - n ∧ j ≤ z' - n) → x = n ∧ ∀ b : Int, sM τ (57 + 2 * t) b = if j ≤ b ∧ b < j + n then sM σ (57 + 2 * s) (i + (b - j)) else sM σ (57 + 2 * t) b) → Rt (fX12_copy τ 64 s i t j n) (fun y ρ => Fin σ x y ρ) := by
        intro x τ hcτ p1 p2 p3 p4
        have hFτ := hcτ.Fx hF (fun a i q => NF_i (by omega))
        have hkτ := hd (show sM τ 81 s = k by rw [hcτ.M (by omega) (by omega)]; exact hk ())
        have hzτ := hd (show sM τ 82 s = z by rw [hcτ.M (by omega) (by omega)]; exact hz ())
        have hkτ' := hd (show sM τ 81 t = k' by rw [hcτ.M (by omega) (by omega)]; exact hk' ())
        have hzτ' := hd (show sM τ 82 t = z' by rw [hcτ.M (by omega) (by omega)]; exact hz' ())
        unfold fX12_copy
        refine rt_b (rt_e (f_in τ s 0 3) ?_)
        rw [if_pos (show 0 ≤ s ∧ s ≤ 3 by omega)]
        refine rt_neg (by omega) (rt_b (rt_e (f_in τ t 0 3) ?_))
        rw [if_pos (show 0 ≤ t ∧ t ≤ 3 by omega)]
        refine rt_neg (by omega) ?_
        refine rt_gx (x := 81) (by simp (disch := omega) only [true_and, and_true, sM_ne, sM_eq, sM_neR, sM_eqR, sK_upM, sK_upR, sL_upM, sL_upR, sN_upM, sN_upR, sT_upM, sT_upR, sN_upM, Int.reduceAdd, Int.reduceMul, Int.reduceSub, Int.reduceNeg, Int.zero_add, Int.add_zero, hFτ.c]) (by simp (disch := omega) only [true_and, and_true, sM_ne, sM_eq, sM_neR, sM_eqR, sK_upM, sK_upR, sL_upM, sL_upR, sN_upM, sN_upR, sT_upM, sT_upR, sN_upM, Int.reduceAdd, Int.reduceMul, Int.reduceSub, Int.reduceNeg, Int.zero_add, Int.add_zero, hFτ.c]) ?_
        refine rt_alx (x := k) (by simp (disch := omega) only [true_and, and_true, sM_ne, sM_eq, sM_neR, sM_eqR, sK_upM, sK_upR, sL_upM, sL_upR, sN_upM, sN_upR, sT_upM, sT_upR, sN_upM, Int.reduceAdd, Int.reduceMul, Int.reduceSub, Int.reduceNeg, Int.zero_add, Int.add_zero, hFτ.c]) (by simp (disch := omega) only [true_and, and_true, sM_ne, sM_eq, sM_neR, sM_eqR, sK_upM, sK_upR, sL_upM, sL_upR, sN_upM, sN_upR, sT_upM, sT_upR, sN_upM, Int.reduceAdd, Int.reduceMul, Int.reduceSub, Int.reduceNeg, Int.zero_add, Int.add_zero, hFτ.c]; omega) (hkτ ()) ?_
        by_cases q1 : k = -1
        · obtain ⟨x1, x2⟩ := p1 (Or.inl q1)
          subst x2
          exact rt_pos q1 (rt_ret (fin0 h x1))
        refine rt_neg q1 ?_
        refine rt_gx (x := 81) (by simp (disch := omega) only [true_and, and_true, sM_ne, sM_eq, sM_neR, sM_eqR, sK_upM, sK_upR, sL_upM, sL_upR, sN_upM, sN_upR, sT_upM, sT_upR, sN_upM, Int.reduceAdd, Int.reduceMul, Int.reduceSub, Int.reduceNeg, Int.zero_add, Int.add_zero, hFτ.c]) (by simp (disch := omega) only [true_and, and_true, sM_ne, sM_eq, sM_neR, sM_eqR, sK_upM, sK_upR, sL_upM, sL_upR, sN_upM, sN_upR, sT_upM, sT_upR, sN_upM, Int.reduceAdd, Int.reduceMul, Int.reduceSub, Int.reduceNeg, Int.zero_add, Int.add_zero, hFτ.c]) ?_
        refine rt_alx (x := k') (by simp (disch := omega) only [true_and, and_true, sM_ne, sM_eq, sM_neR, sM_eqR, sK_upM, sK_upR, sL_upM, sL_upR, sN_upM, sN_upR, sT_upM, sT_upR, sN_upM, Int.reduceAdd, Int.reduceMul, Int.reduceSub, Int.reduceNeg, Int.zero_add, Int.add_zero, hFτ.c]) (by simp (disch := omega) only [true_and, and_true, sM_ne, sM_eq, sM_neR, sM_eqR, sK_upM, sK_upR, sL_upM, sL_upR, sN_upM, sN_upR, sT_upM, sT_upR, sN_upM, Int.reduceAdd, Int.reduceMul, Int.reduceSub, Int.reduceNeg, Int.zero_add, Int.add_zero, hFτ.c]; omega) (hkτ' ()) ?_
        by_cases q2 : k' = -1
        · obtain ⟨x1, x2⟩ := p1 (Or.inr q2)
          subst x2
          exact rt_pos q2 (rt_ret (fin0 h x1))
        refine rt_neg q2 ?_
        refine rt_gx (x := 81) (by simp (disch := omega) only [true_and, and_true, sM_ne, sM_eq, sM_neR, sM_eqR, sK_upM, sK_upR, sL_upM, sL_upR, sN_upM, sN_upR, sT_upM, sT_upR, sN_upM, Int.reduceAdd, Int.reduceMul, Int.reduceSub, Int.reduceNeg, Int.zero_add, Int.add_zero, hFτ.c]) (by simp (disch := omega) only [true_and, and_true, sM_ne, sM_eq, sM_neR, sM_eqR, sK_upM, sK_upR, sL_upM, sL_upR, sN_upM, sN_upR, sT_upM, sT_upR, sN_upM, Int.reduceAdd, Int.reduceMul, Int.reduceSub, Int.reduceNeg, Int.zero_add, Int.add_zero, hFτ.c]) ?_
        refine rt_alx (x := k) (by simp (disch := omega) only [true_and, and_true, sM_ne, sM_eq, sM_neR, sM_eqR, sK_upM, sK_upR, sL_upM, sL_upR, sN_upM, sN_upR, sT_upM, sT_upR, sN_upM, Int.reduceAdd, Int.reduceMul, Int.reduceSub, Int.reduceNeg, Int.zero_add, Int.add_zero, hFτ.c]) (by simp (disch := omega) only [true_and, and_true, sM_ne, sM_eq, sM_neR, sM_eqR, sK_upM, sK_upR, sL_upM, sL_upR, sN_upM, sN_upR, sT_upM, sT_upR, sN_upM, Int.reduceAdd, Int.reduceMul, Int.reduceSub, Int.reduceNeg, Int.zero_add, Int.add_zero, hFτ.c]; omega) (hkτ ()) ?_
        refine rt_gx (x := 81) (by simp (disch := omega) only [true_and, and_true, sM_ne, sM_eq, sM_neR, sM_eqR, sK_upM, sK_upR, sL_upM, sL_upR, sN_upM, sN_upR, sT_upM, sT_upR, sN_upM, Int.reduceAdd, Int.reduceMul, Int.reduceSub, Int.reduceNeg, Int.zero_add, Int.add_zero, hFτ.c]) (by simp (disch := omega) only [true_and, and_true, sM_ne, sM_eq, sM_neR, sM_eqR, sK_upM, sK_upR, sL_upM, sL_upR, sN_upM, sN_upR, sT_upM, sT_upR, sN_upM, Int.reduceAdd, Int.reduceMul, Int.reduceSub, Int.reduceNeg, Int.zero_add, Int.add_zero, hFτ.c]) ?_
        refine rt_alx (x := k') (by simp (disch := omega) only [true_and, and_true, sM_ne, sM_eq, sM_neR, sM_eqR, sK_upM, sK_upR, sL_upM, sL_upR, sN_upM, sN_upR, sT_upM, sT_upR, sN_upM, Int.reduceAdd, Int.reduceMul, Int.reduceSub, Int.reduceNeg, Int.zero_add, Int.add_zero, hFτ.c]) (by simp (disch := omega) only [true_and, and_true, sM_ne, sM_eq, sM_neR, sM_eqR, sK_upM, sK_upR, sL_upM, sL_upR, sN_upM, sN_upR, sT_upM, sT_upR, sN_upM, Int.reduceAdd, Int.reduceMul, Int.reduceSub, Int.reduceNeg, Int.zero_add, Int.add_zero, hFτ.c]; omega) (hkτ' ()) ?_
        by_cases q3 : k = k'
        · refine rt_pos q3 ?_
          have out : ¬ (0 ≤ n ∧ 0 ≤ i ∧ 0 ≤ j ∧ i ≤ z - n ∧ j ≤ z' - n) → Fin σ x (-12) τ := by
            intro q
            obtain ⟨x1, x2⟩ := p3 q1 q2 q3 q
            subst x2
            exact fin0 h x1
          by_cases n0 : n < 0
          · exact rt_pos n0 (rt_ret (out (by omega)))
          refine rt_neg n0 ?_
          by_cases i0 : i < 0
          · exact rt_pos i0 (rt_ret (out (by omega)))
          refine rt_neg i0 ?_
          by_cases j0 : j < 0
          · exact rt_pos j0 (rt_ret (out (by omega)))
          refine rt_neg j0 ?_
          refine rt_gx (x := 82) (by simp (disch := omega) only [true_and, and_true, sM_ne, sM_eq, sM_neR, sM_eqR, sK_upM, sK_upR, sL_upM, sL_upR, sN_upM, sN_upR, sT_upM, sT_upR, sN_upM, Int.reduceAdd, Int.reduceMul, Int.reduceSub, Int.reduceNeg, Int.zero_add, Int.add_zero, hFτ.c]) (by simp (disch := omega) only [true_and, and_true, sM_ne, sM_eq, sM_neR, sM_eqR, sK_upM, sK_upR, sL_upM, sL_upR, sN_upM, sN_upR, sT_upM, sT_upR, sN_upM, Int.reduceAdd, Int.reduceMul, Int.reduceSub, Int.reduceNeg, Int.zero_add, Int.add_zero, hFτ.c]) ?_
          refine rt_alx (x := z) (by simp (disch := omega) only [true_and, and_true, sM_ne, sM_eq, sM_neR, sM_eqR, sK_upM, sK_upR, sL_upM, sL_upR, sN_upM, sN_upR, sT_upM, sT_upR, sN_upM, Int.reduceAdd, Int.reduceMul, Int.reduceSub, Int.reduceNeg, Int.zero_add, Int.add_zero, hFτ.c]) (by simp (disch := omega) only [true_and, and_true, sM_ne, sM_eq, sM_neR, sM_eqR, sK_upM, sK_upR, sL_upM, sL_upR, sN_upM, sN_upR, sT_upM, sT_upR, sN_upM, Int.reduceAdd, Int.reduceMul, Int.reduceSub, Int.reduceNeg, Int.zero_add, Int.add_zero, hFτ.c]; omega) (hzτ ()) ?_
          by_cases i1 : z < i
          · exact rt_pos i1 (rt_ret (out (by omega)))
          refine rt_neg i1 ?_
          refine rt_gx (x := 82) (by simp (disch := omega) only [true_and, and_true, sM_ne, sM_eq, sM_neR, sM_eqR, sK_upM, sK_upR, sL_upM, sL_upR, sN_upM, sN_upR, sT_upM, sT_upR, sN_upM, Int.reduceAdd, Int.reduceMul, Int.reduceSub, Int.reduceNeg, Int.zero_add, Int.add_zero, hFτ.c]) (by simp (disch := omega) only [true_and, and_true, sM_ne, sM_eq, sM_neR, sM_eqR, sK_upM, sK_upR, sL_upM, sL_upR, sN_upM, sN_upR, sT_upM, sT_upR, sN_upM, Int.reduceAdd, Int.reduceMul, Int.reduceSub, Int.reduceNeg, Int.zero_add, Int.add_zero, hFτ.c]) ?_
          refine rt_alx (x := z') (by simp (disch := omega) only [true_and, and_true, sM_ne, sM_eq, sM_neR, sM_eqR, sK_upM, sK_upR, sL_upM, sL_upR, sN_upM, sN_upR, sT_upM, sT_upR, sN_upM, Int.reduceAdd, Int.reduceMul, Int.reduceSub, Int.reduceNeg, Int.zero_add, Int.add_zero, hFτ.c]) (by simp (disch := omega) only [true_and, and_true, sM_ne, sM_eq, sM_neR, sM_eqR, sK_upM, sK_upR, sL_upM, sL_upR, sN_upM, sN_upR, sT_upM, sT_upR, sN_upM, Int.reduceAdd, Int.reduceMul, Int.reduceSub, Int.reduceNeg, Int.zero_add, Int.add_zero, hFτ.c]; omega) (hzτ' ()) ?_
          by_cases j1 : z' < j
          · exact rt_pos j1 (rt_ret (out (by omega)))
          refine rt_neg j1 ?_
          refine rt_gx (x := 82) (by simp (disch := omega) only [true_and, and_true, sM_ne, sM_eq, sM_neR, sM_eqR, sK_upM, sK_upR, sL_upM, sL_upR, sN_upM, sN_upR, sT_upM, sT_upR, sN_upM, Int.reduceAdd, Int.reduceMul, Int.reduceSub, Int.reduceNeg, Int.zero_add, Int.add_zero, hFτ.c]) (by simp (disch := omega) only [true_and, and_true, sM_ne, sM_eq, sM_neR, sM_eqR, sK_upM, sK_upR, sL_upM, sL_upR, sN_upM, sN_upR, sT_upM, sT_upR, sN_upM, Int.reduceAdd, Int.reduceMul, Int.reduceSub, Int.reduceNeg, Int.zero_add, Int.add_zero, hFτ.c]) ?_
          refine rt_alx (x := z) (by simp (disch := omega) only [true_and, and_true, sM_ne, sM_eq, sM_neR, sM_eqR, sK_upM, sK_upR, sL_upM, sL_upR, sN_upM, sN_upR, sT_upM, sT_upR, sN_upM, Int.reduceAdd, Int.reduceMul, Int.reduceSub, Int.reduceNeg, Int.zero_add, Int.add_zero, hFτ.c]) (by simp (disch := omega) only [true_and, and_true, sM_ne, sM_eq, sM_neR, sM_eqR, sK_upM, sK_upR, sL_upM, sL_upR, sN_upM, sN_upR, sT_upM, sT_upR, sN_upM, Int.reduceAdd, Int.reduceMul, Int.reduceSub, Int.reduceNeg, Int.zero_add, Int.add_zero, hFτ.c]; omega) (hzτ ()) ?_
          have ez : wrap (z - i) = z - i := wr (by omega) (by omega)
          rw [ez]
          by_cases i2 : z - i < n
          · exact rt_pos i2 (rt_ret (out (by omega)))
          refine rt_neg i2 ?_
          refine rt_gx (x := 82) (by simp (disch := omega) only [true_and, and_true, sM_ne, sM_eq, sM_neR, sM_eqR, sK_upM, sK_upR, sL_upM, sL_upR, sN_upM, sN_upR, sT_upM, sT_upR, sN_upM, Int.reduceAdd, Int.reduceMul, Int.reduceSub, Int.reduceNeg, Int.zero_add, Int.add_zero, hFτ.c]) (by simp (disch := omega) only [true_and, and_true, sM_ne, sM_eq, sM_neR, sM_eqR, sK_upM, sK_upR, sL_upM, sL_upR, sN_upM, sN_upR, sT_upM, sT_upR, sN_upM, Int.reduceAdd, Int.reduceMul, Int.reduceSub, Int.reduceNeg, Int.zero_add, Int.add_zero, hFτ.c]) ?_
          refine rt_alx (x := z') (by simp (disch := omega) only [true_and, and_true, sM_ne, sM_eq, sM_neR, sM_eqR, sK_upM, sK_upR, sL_upM, sL_upR, sN_upM, sN_upR, sT_upM, sT_upR, sN_upM, Int.reduceAdd, Int.reduceMul, Int.reduceSub, Int.reduceNeg, Int.zero_add, Int.add_zero, hFτ.c]) (by simp (disch := omega) only [true_and, and_true, sM_ne, sM_eq, sM_neR, sM_eqR, sK_upM, sK_upR, sL_upM, sL_upR, sN_upM, sN_upR, sT_upM, sT_upR, sN_upM, Int.reduceAdd, Int.reduceMul, Int.reduceSub, Int.reduceNeg, Int.zero_add, Int.add_zero, hFτ.c]; omega) (hzτ' ()) ?_
          have ez' : wrap (z' - j) = z' - j := wr (by omega) (by omega)
          rw [ez']
          by_cases j2 : n ≤ z' - j
          · refine rt_pos j2 ?_
            obtain ⟨x1, hrow⟩ := p4 q1 q2 q3 (by omega)
            have w0 : wrap (wrap (40 * s) + i) = 40 * s + i := by rw [wr (x := 40 * s) (by omega) (by omega), wr (by omega) (by omega)]
            have w1 : wrap (wrap (40 * t) + j) = 40 * t + j := by rw [wr (x := 40 * t) (by omega) (by omega), wr (by omega) (by omega)]
            rw [w0, w1]
            have hn := hcτ.2.1
            refine Rt.mono (l_cp147 (σ := τ) (n := n) (p := 40 * s + i) (q := 40 * t + j) (f := sM τ 83) (by omega) (by omega) (by omega) (by omega) (by omega) 1000 0 τ hFτ (by omega) (by omega) Ch.rf (fun b => by rw [if_neg (by omega)])) ?_
            rintro y ρ ⟨y1, hcρ, y2⟩
            have hall : Ch (shS t) σ ρ := (hcτ.mono (fun a b q => Or.inr (Or.inl q.1))).tr (hcρ.mono (fun a b q => Or.inr (Or.inr (Or.inr (by omega)))))
            refine finS (by rw [x1, y1]) (h.shOne ht.1 ht.2 hall (fun s' q => ?_) ?_ ?_ (fun b b0 b1 => ?_)) hall.2
            · rw [hcρ.M (by omega) (by omega), hcτ.M (by omega) (by omega), hcρ.M (by omega) (by omega), hcτ.M (by omega) (by omega)]
              exact ⟨rfl, rfl⟩
            · rw [hcρ.M (a := 56 + 2 * t) (by omega) (by omega), hcρ.M (a := 81) (by omega) (by omega), hkτ' (), hcτ.M (by omega) (by omega), e1' ()]
              omega
            · rw [hcρ.M (a := 56 + 2 * t) (by omega) (by omega), hcρ.M (a := 82) (by omega) (by omega), hzτ' (), hcτ.M (by omega) (by omega), e2' ()]
              omega
            · rw [hcρ.M (by omega) (by omega), hrow b, y2]
              by_cases q : j ≤ b ∧ b < j + n
              · rw [if_pos q, if_pos (by omega), c1 _ (by omega) (by omega), hcτ.M (by omega) (by omega)]
                congr 1
                omega
              · rw [if_neg q, if_neg (by omega), c1' _ b0 b1, hcτ.M (by omega) (by omega)]
          · exact rt_neg j2 (rt_ret (out (by omega)))
        · obtain ⟨x1, x2⟩ := p2 q1 q2 q3
          subst x2
          exact rt_neg q3 (rt_ret (fin0 h x1))
      refine rt_b (rt_v (kS ()) (rt_e (f_isMissing (kS ()) (e1 ())) ?_))
      by_cases q1 : k = -1
      · rw [if_pos q1]
        exact rt_neg (by omega) (rt_ret (ref _ σ Ch.rf (fun _ => ⟨rfl, rfl⟩) (fun q => absurd q1 q) (fun q => absurd q1 q) (fun q => absurd q1 q)))
      rw [if_neg q1]
      refine rt_pos rfl (rt_b (rt_v (kT ()) (rt_e (f_isMissing (kT ()) (e1' ())) ?_)))
      by_cases q2 : k' = -1
      · rw [if_pos q2]
        exact rt_neg (by omega) (rt_ret (ref _ σ Ch.rf (fun _ => ⟨rfl, rfl⟩) (fun _ q => absurd q2 q) (fun _ q => absurd q2 q) (fun _ q => absurd q2 q)))
      rw [if_neg q2]
      refine rt_pos rfl (rt_gx (x := k) (kS ()) (e1 ()) (rt_gx (x := k') (kT ()) (e1' ()) ?_))
      by_cases q3 : k = k'
      · refine rt_pos q3 (rt_b (rt_v (kS ()) (rt_e (f_reaches (kS ()) (e2 ()) b2 b3 hn) ?_)))
        have out : ¬ (0 ≤ n ∧ 0 ≤ i ∧ 0 ≤ j ∧ i ≤ z - n ∧ j ≤ z' - n) → Rt (fX12_copy σ 64 s i t j n) (fun y ρ => Fin σ (-12) y ρ) := fun q => ref _ σ Ch.rf (fun w => by omega) (fun _ _ w => absurd q3 w) (fun _ _ _ _ => ⟨rfl, rfl⟩) (fun _ _ _ w => absurd w q)
        by_cases r1 : 0 ≤ i ∧ 0 ≤ n ∧ i ≤ z - n
        · rw [if_pos r1]
          refine rt_neg (by omega) (rt_b (rt_v (kT ()) (rt_e (f_reaches (kT ()) (e2' ()) b2' b3' hn) ?_)))
          by_cases r2 : 0 ≤ j ∧ 0 ≤ n ∧ j ≤ z' - n
          · rw [if_pos r2]
            refine rt_neg (by omega) ?_
            refine rt_gx (x := 57 + 2 * s) (kS ()) (by simp (disch := omega) only [true_and, and_true, sM_ne, sM_eq, sM_neR, sM_eqR, sK_upM, sK_upR, sL_upM, sL_upR, sN_upM, sN_upR, sT_upM, sT_upR, sN_upM, Int.reduceAdd, Int.reduceMul, Int.reduceSub, Int.reduceNeg, Int.zero_add, Int.add_zero, hF.c]) ?_
            refine rt_gx (x := 57 + 2 * t) (kT ()) (by simp (disch := omega) only [true_and, and_true, sM_ne, sM_eq, sM_neR, sM_eqR, sK_upM, sK_upR, sL_upM, sL_upR, sN_upM, sN_upR, sT_upM, sT_upR, sN_upM, Int.reduceAdd, Int.reduceMul, Int.reduceSub, Int.reduceNeg, Int.zero_add, Int.add_zero, hF.c]) ?_
            refine rt_cp (by simp (disch := omega) only [true_and, and_true, sM_ne, sM_eq, sM_neR, sM_eqR, sK_upM, sK_upR, sL_upM, sL_upR, sN_upM, sN_upR, sT_upM, sT_upR, sN_upM, Int.reduceAdd, Int.reduceMul, Int.reduceSub, Int.reduceNeg, Int.zero_add, Int.add_zero, hF.c]) (by simp (disch := omega) only [true_and, and_true, sM_ne, sM_eq, sM_neR, sM_eqR, sK_upM, sK_upR, sL_upM, sL_upR, sN_upM, sN_upR, sT_upM, sT_upR, sN_upM, Int.reduceAdd, Int.reduceMul, Int.reduceSub, Int.reduceNeg, Int.zero_add, Int.add_zero, hF.c]) (by simp (disch := omega) only [true_and, and_true, sM_ne, sM_eq, sM_neR, sM_eqR, sK_upM, sK_upR, sL_upM, sL_upR, sN_upM, sN_upR, sT_upM, sT_upR, sN_upM, Int.reduceAdd, Int.reduceMul, Int.reduceSub, Int.reduceNeg, Int.zero_add, Int.add_zero, hF.c]; omega) (rt_ret ?_)
            refine ref _ _ ⟨⟨fun a b ha hq => ?_, fun _ _ => rfl, fun _ _ => rfl, Nat.le_refl _⟩, Stl.upR⟩ (fun w => by omega) (fun _ _ w => absurd q3 w) (fun _ _ _ w => absurd (by omega) w) (fun _ _ _ _ => ⟨rfl, fun b => ?_⟩)
            · by_cases e : a = 57 + 2 * t
              · rw [sM_eqR e, if_neg (by omega), e]
              · rw [sM_neR e]
            · rw [sM_eqR rfl]
          · rw [if_neg r2]
            exact rt_pos rfl (rt_ret (out (by omega)))
        · rw [if_neg r1]
          exact rt_pos rfl (rt_ret (out (by omega)))
      · exact rt_neg q3 (rt_ret (ref _ σ Ch.rf (fun w => by omega) (fun _ _ _ => ⟨rfl, rfl⟩) (fun _ _ w => absurd w q3) (fun _ _ w => absurd w q3)))
    · rw [if_neg ht]
      exact rt_pos rfl (rt_ret (bad _ rfl (fun q => ht q.2)))
  · rw [if_neg hs]
    exact rt_pos rfl (rt_ret (bad _ rfl (fun q => hs q.1)))
