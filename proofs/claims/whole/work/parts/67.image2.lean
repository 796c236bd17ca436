/-! the image: the calls -/
theorem q_image {σ : ZS} (h : Rel σ) : Rt (fX11_image σ 3) (fun x τ => Rt (fX12_image τ 64) (fun y ρ => Fin σ x y ρ)) := by
  have hF := h.F
  have h9 := hF.2.2.2
  have h8 := h.Wa.2.1
  have hS := h.So
  have e55 := hd hS.1
  have e33 := hd h.Wa.1
  have e37 := hd h.Ru.1
  have hkp : ∀ d a, kpS σ d a → (d = 1 ∨ d = 2) → 93 ≤ a ∧ a < (sN σ : Int) := fun d a q hd => by
    obtain ⟨v, v0, v1, e⟩ := q
    have := (h.wn v0 v1)
    omega
  unfold fX11_image
  refine rt_gx (x := 41) (by simp (disch := omega) only [true_and, and_true, sM_ne, sM_eq, sM_neR, sM_eqR, sK_upM, sK_upR, sL_upM, sL_upR, sN_upM, sN_upR, sT_upM, sT_upR, sN_upM, Int.reduceAdd, Int.reduceMul, Int.reduceSub, Int.reduceNeg, Int.zero_add, Int.add_zero, hF.c]) (by simp (disch := omega) only [true_and, and_true, sM_ne, sM_eq, sM_neR, sM_eqR, sK_upM, sK_upR, sL_upM, sL_upR, sN_upM, sN_upR, sT_upM, sT_upR, sN_upM, Int.reduceAdd, Int.reduceMul, Int.reduceSub, Int.reduceNeg, Int.zero_add, Int.add_zero, hF.c]) ?_
  refine rt_gx (x := 5) (by simp (disch := omega) only [true_and, and_true, sM_ne, sM_eq, sM_neR, sM_eqR, sK_upM, sK_upR, sL_upM, sL_upR, sN_upM, sN_upR, sT_upM, sT_upR, sN_upM, Int.reduceAdd, Int.reduceMul, Int.reduceSub, Int.reduceNeg, Int.zero_add, Int.add_zero, hF.c]) (by simp (disch := omega) only [true_and, and_true, sM_ne, sM_eq, sM_neR, sM_eqR, sK_upM, sK_upR, sL_upM, sL_upR, sN_upM, sN_upR, sT_upM, sT_upR, sN_upM, Int.reduceAdd, Int.reduceMul, Int.reduceSub, Int.reduceNeg, Int.zero_add, Int.add_zero, hF.c]) ?_
  refine rt_gx (x := 5) (by simp (disch := omega) only [true_and, and_true, sM_ne, sM_eq, sM_neR, sM_eqR, sK_upM, sK_upR, sL_upM, sL_upR, sN_upM, sN_upR, sT_upM, sT_upR, sN_upM, Int.reduceAdd, Int.reduceMul, Int.reduceSub, Int.reduceNeg, Int.zero_add, Int.add_zero, hF.c]) (by simp (disch := omega) only [true_and, and_true, sM_ne, sM_eq, sM_neR, sM_eqR, sK_upM, sK_upR, sL_upM, sL_upR, sN_upM, sN_upR, sT_upM, sT_upR, sN_upM, Int.reduceAdd, Int.reduceMul, Int.reduceSub, Int.reduceNeg, Int.zero_add, Int.add_zero, hF.c]) ?_
  refine rt_gx (x := sM σ 64 2) (by simp (disch := omega) only [true_and, and_true, sM_ne, sM_eq, sM_neR, sM_eqR, sK_upM, sK_upR, sL_upM, sL_upR, sN_upM, sN_upR, sT_upM, sT_upR, sN_upM, Int.reduceAdd, Int.reduceMul, Int.reduceSub, Int.reduceNeg, Int.zero_add, Int.add_zero, hF.c]) (e55 ()) ?_
  refine rt_b (rt_v (by simp (disch := omega) only [true_and, and_true, sM_ne, sM_eq, sM_neR, sM_eqR, sK_upM, sK_upR, sL_upM, sL_upR, sN_upM, sN_upR, sT_upM, sT_upR, sN_upM, Int.reduceAdd, Int.reduceMul, Int.reduceSub, Int.reduceNeg, Int.zero_add, Int.add_zero, hF.c]) ?_)
  refine Rt.mono (f_becI hF hS.2.1.1 hS.2.1.2) ?_
  rintro v1 σ1 ⟨hc1, hg1, hw1⟩
  have hF1 := hc1.Fx hF (fun a i q => by unfold imC at q; exact NF_i (by omega))
  have hn1 := hc1.2.1
  refine l_im20 h hc1 (fun σ2 hF2 hc2 hk2 => ?_) 1000 0 σ1 hF1 (by omega) (by omega) Ch.rf (fun w i w0 w1 => by omega)
  have hn2 := hc2.2.1
  have n2 : ∀ a i : Int, a < 93 → sM σ2 a i = sM σ1 a i := fun a i ha => hc2.M (by omega) (fun q => by have := hkp _ _ q (Or.inr rfl); omega)
  have n1 : ∀ a i : Int, a < 93 → ¬ imC a → sM σ1 a i = sM σ a i := fun a i ha hi => hc1.M (by omega) hi
  have f55 := hd (show sM σ2 5 5 = sM σ 64 2 by rw [n2 _ _ (by omega), n1 _ _ (by omega) (by unfold imC; omega)]; exact e55 ())
  have f33 := hd (show sM σ2 3 3 = sM σ 64 8 by rw [n2 _ _ (by omega), n1 _ _ (by omega) (by unfold imC; omega)]; exact e33 ())
  have f37 := hd (show sM σ2 3 7 = sM σ 64 17 by rw [n2 _ _ (by omega), n1 _ _ (by omega) (by unfold imC; omega)]; exact e37 ())
  repeat (first
    | with_reducible refine rt_b ?_
    | with_reducible refine rt_jn ?_
    | ((with_reducible refine rt_pos ?_ ?_); (· first | omega | ((try simp (disch := omega) only [wr, true_and, and_true, sM_ne, sM_eq, sM_neR, sM_eqR, sK_upM, sK_upR, sL_upM, sL_upR, sN_upM, sN_upR, sT_upM, sT_upR, sN_upM, Int.reduceAdd, Int.reduceMul, Int.reduceSub, Int.reduceNeg, Int.zero_add, Int.add_zero, hF2.c, f55 (), f33 (), f37 ()]) <;> omega)))
    | ((with_reducible refine rt_neg ?_ ?_); (· first | omega | ((try simp (disch := omega) only [wr, true_and, and_true, sM_ne, sM_eq, sM_neR, sM_eqR, sK_upM, sK_upR, sL_upM, sL_upR, sN_upM, sN_upR, sT_upM, sT_upR, sN_upM, Int.reduceAdd, Int.reduceMul, Int.reduceSub, Int.reduceNeg, Int.zero_add, Int.add_zero, hF2.c, f55 (), f33 (), f37 ()]) <;> omega)))
    | ((with_reducible refine rt_v ?_ ?_); · simp (disch := omega) only [true_and, and_true, sM_ne, sM_eq, sM_neR, sM_eqR, sK_upM, sK_upR, sL_upM, sL_upR, sN_upM, sN_upR, sT_upM, sT_upR, sN_upM, Int.reduceAdd, Int.reduceMul, Int.reduceSub, Int.reduceNeg, Int.zero_add, Int.add_zero, hF2.c, f55 (), f33 (), f37 ()])
    | ((with_reducible apply rt_gx); (· simp (disch := omega) only [true_and, and_true, sM_ne, sM_eq, sM_neR, sM_eqR, sK_upM, sK_upR, sL_upM, sL_upR, sN_upM, sN_upR, sT_upM, sT_upR, sN_upM, Int.reduceAdd, Int.reduceMul, Int.reduceSub, Int.reduceNeg, Int.zero_add, Int.add_zero, hF2.c, f55 (), f33 (), f37 ()]); (· (try simp (disch := omega) only [wr, true_and, and_true, sM_ne, sM_eq, sM_neR, sM_eqR, sK_upM, sK_upR, sL_upM, sL_upR, sN_upM, sN_upR, sT_upM, sT_upR, sN_upM, Int.reduceAdd, Int.reduceMul, Int.reduceSub, Int.reduceNeg, Int.zero_add, Int.add_zero, hF2.c, f55 (), f33 (), f37 ()]); exact rfl))
    | ((with_reducible apply rt_alx); (· simp (disch := omega) only [true_and, and_true, sM_ne, sM_eq, sM_neR, sM_eqR, sK_upM, sK_upR, sL_upM, sL_upR, sN_upM, sN_upR, sT_upM, sT_upR, sN_upM, Int.reduceAdd, Int.reduceMul, Int.reduceSub, Int.reduceNeg, Int.zero_add, Int.add_zero, hF2.c, f55 (), f33 (), f37 ()]); (· first | omega | ((try simp (disch := omega) only [wr, true_and, and_true, sM_ne, sM_eq, sM_neR, sM_eqR, sK_upM, sK_upR, sL_upM, sL_upR, sN_upM, sN_upR, sT_upM, sT_upR, sN_upM, Int.reduceAdd, Int.reduceMul, Int.reduceSub, Int.reduceNeg, Int.zero_add, Int.add_zero, hF2.c, f55 (), f33 (), f37 ()]) <;> omega)); (· (try simp (disch := omega) only [wr, true_and, and_true, sM_ne, sM_eq, sM_neR, sM_eqR, sK_upM, sK_upR, sL_upM, sL_upR, sN_upM, sN_upR, sT_upM, sT_upR, sN_upM, Int.reduceAdd, Int.reduceMul, Int.reduceSub, Int.reduceNeg, Int.zero_add, Int.add_zero, hF2.c, f55 (), f33 (), f37 ()]); exact rfl))
    | ((with_reducible refine rt_as ?_ ?_ ?_); (· simp (disch := omega) only [true_and, and_true, sM_ne, sM_eq, sM_neR, sM_eqR, sK_upM, sK_upR, sL_upM, sL_upR, sN_upM, sN_upR, sT_upM, sT_upR, sN_upM, Int.reduceAdd, Int.reduceMul, Int.reduceSub, Int.reduceNeg, Int.zero_add, Int.add_zero, hF2.c, f55 (), f33 (), f37 ()]); (· first | omega | ((try simp (disch := omega) only [wr, true_and, and_true, sM_ne, sM_eq, sM_neR, sM_eqR, sK_upM, sK_upR, sL_upM, sL_upR, sN_upM, sN_upR, sT_upM, sT_upR, sN_upM, Int.reduceAdd, Int.reduceMul, Int.reduceSub, Int.reduceNeg, Int.zero_add, Int.add_zero, hF2.c, f55 (), f33 (), f37 ()]) <;> omega)))
    | ((with_reducible refine rt_p ?_ ?_ ?_); (· simp (disch := omega) only [true_and, and_true, sM_ne, sM_eq, sM_neR, sM_eqR, sK_upM, sK_upR, sL_upM, sL_upR, sN_upM, sN_upR, sT_upM, sT_upR, sN_upM, Int.reduceAdd, Int.reduceMul, Int.reduceSub, Int.reduceNeg, Int.zero_add, Int.add_zero, hF2.c, f55 (), f33 (), f37 ()]); (· omega))
    | with_reducible refine rt_ret ?_
    | ((with_reducible apply rt_gwx); (· assumption); (· (try simp (disch := omega) only [wr, true_and, and_true, sM_ne, sM_eq, sM_neR, sM_eqR, sK_upM, sK_upR, sL_upM, sL_upR, sN_upM, sN_upR, sT_upM, sT_upR, sN_upM, Int.reduceAdd, Int.reduceMul, Int.reduceSub, Int.reduceNeg, Int.zero_add, Int.add_zero, hF2.c, f55 (), f33 (), f37 ()]); exact rfl)))
  have hc3 : Ch (fun a i => a = 3 ∧ 10 ≤ i ∧ i ≤ 13) σ2 (upM (upM (upM (upM σ2 3 10 1) 3 11 (sM σ 64 2)) 3 12 (sM σ 64 8)) 3 13 (sM σ 64 17)) := (((Ch.rf.up (by omega)).up (by omega)).up (by omega)).up (by omega)
  have v10 : sM (upM (upM (upM (upM σ2 3 10 1) 3 11 (sM σ 64 2)) 3 12 (sM σ 64 8)) 3 13 (sM σ 64 17)) 3 10 = 1 := by simp (disch := omega) only [true_and, and_true, sM_ne, sM_eq, sM_neR, sM_eqR, sK_upM, sK_upR, sL_upM, sL_upR, sN_upM, sN_upR, sT_upM, sT_upR, sN_upM, Int.reduceAdd, Int.reduceMul, Int.reduceSub, Int.reduceNeg, Int.zero_add, Int.add_zero]
  have v11 : sM (upM (upM (upM (upM σ2 3 10 1) 3 11 (sM σ 64 2)) 3 12 (sM σ 64 8)) 3 13 (sM σ 64 17)) 3 11 = sM σ 64 2 := by simp (disch := omega) only [true_and, and_true, sM_ne, sM_eq, sM_neR, sM_eqR, sK_upM, sK_upR, sL_upM, sL_upR, sN_upM, sN_upR, sT_upM, sT_upR, sN_upM, Int.reduceAdd, Int.reduceMul, Int.reduceSub, Int.reduceNeg, Int.zero_add, Int.add_zero]
  have v12 : sM (upM (upM (upM (upM σ2 3 10 1) 3 11 (sM σ 64 2)) 3 12 (sM σ 64 8)) 3 13 (sM σ 64 17)) 3 12 = sM σ 64 8 := by simp (disch := omega) only [true_and, and_true, sM_ne, sM_eq, sM_neR, sM_eqR, sK_upM, sK_upR, sL_upM, sL_upR, sN_upM, sN_upR, sT_upM, sT_upR, sN_upM, Int.reduceAdd, Int.reduceMul, Int.reduceSub, Int.reduceNeg, Int.zero_add, Int.add_zero]
  have v13 : sM (upM (upM (upM (upM σ2 3 10 1) 3 11 (sM σ 64 2)) 3 12 (sM σ 64 8)) 3 13 (sM σ 64 17)) 3 13 = sM σ 64 17 := by simp (disch := omega) only [true_and, and_true, sM_ne, sM_eq, sM_neR, sM_eqR, sK_upM, sK_upR, sL_upM, sL_upR, sN_upM, sN_upR, sT_upM, sT_upR, sN_upM, Int.reduceAdd, Int.reduceMul, Int.reduceSub, Int.reduceNeg, Int.zero_add, Int.add_zero]
  generalize upM (upM (upM (upM σ2 3 10 1) 3 11 (sM σ 64 2)) 3 12 (sM σ 64 8)) 3 13 (sM σ 64 17) = σ3 at hc3 v10 v11 v12 v13 ⊢
  have hF3 := hc3.Fx hF2 (fun a i q => by obtain ⟨rfl, q⟩ := q; exact NF_3 (by omega))
  have hn3 := hc3.2.1
  have hc03 : Ch (fun a i => (imC a ∨ kpS σ 2 a) ∨ (a = 3 ∧ 10 ≤ i ∧ i ≤ 13)) σ σ3 := ((hc1.mono (fun a i q => Or.inl (Or.inl q))).tr (hc2.mono (fun a i q => Or.inl (Or.inr q)))).tr (hc3.mono (fun a i q => Or.inr q))
  have n3 : ∀ a i : Int, 64 ≤ a → a < 93 → sM σ3 a i = sM σ a i := fun a i ha hb => hc03.M (by omega) (fun q => by
    rcases q with (q | q) | q
    · unfold imC at q; omega
    · have := hkp _ _ q (Or.inr rfl); omega
    · omega)
  have g2 := hd (n3 64 2 (by omega) (by omega))
  have g8 := hd (n3 64 8 (by omega) (by omega))
  have g17 := hd (n3 64 17 (by omega) (by omega))
  unfold fX12_image
  repeat (first
    | with_reducible refine rt_b ?_
    | with_reducible refine rt_jn ?_
    | ((with_reducible refine rt_pos ?_ ?_); (· first | omega | ((try simp (disch := omega) only [wr, true_and, and_true, sM_ne, sM_eq, sM_neR, sM_eqR, sK_upM, sK_upR, sL_upM, sL_upR, sN_upM, sN_upR, sT_upM, sT_upR, sN_upM, Int.reduceAdd, Int.reduceMul, Int.reduceSub, Int.reduceNeg, Int.zero_add, Int.add_zero, hF3.c, g2 (), g8 (), g17 ()]) <;> omega)))
    | ((with_reducible refine rt_neg ?_ ?_); (· first | omega | ((try simp (disch := omega) only [wr, true_and, and_true, sM_ne, sM_eq, sM_neR, sM_eqR, sK_upM, sK_upR, sL_upM, sL_upR, sN_upM, sN_upR, sT_upM, sT_upR, sN_upM, Int.reduceAdd, Int.reduceMul, Int.reduceSub, Int.reduceNeg, Int.zero_add, Int.add_zero, hF3.c, g2 (), g8 (), g17 ()]) <;> omega)))
    | ((with_reducible refine rt_v ?_ ?_); · simp (disch := omega) only [true_and, and_true, sM_ne, sM_eq, sM_neR, sM_eqR, sK_upM, sK_upR, sL_upM, sL_upR, sN_upM, sN_upR, sT_upM, sT_upR, sN_upM, Int.reduceAdd, Int.reduceMul, Int.reduceSub, Int.reduceNeg, Int.zero_add, Int.add_zero, hF3.c, g2 (), g8 (), g17 ()])
    | ((with_reducible apply rt_gx); (· simp (disch := omega) only [true_and, and_true, sM_ne, sM_eq, sM_neR, sM_eqR, sK_upM, sK_upR, sL_upM, sL_upR, sN_upM, sN_upR, sT_upM, sT_upR, sN_upM, Int.reduceAdd, Int.reduceMul, Int.reduceSub, Int.reduceNeg, Int.zero_add, Int.add_zero, hF3.c, g2 (), g8 (), g17 ()]); (· (try simp (disch := omega) only [wr, true_and, and_true, sM_ne, sM_eq, sM_neR, sM_eqR, sK_upM, sK_upR, sL_upM, sL_upR, sN_upM, sN_upR, sT_upM, sT_upR, sN_upM, Int.reduceAdd, Int.reduceMul, Int.reduceSub, Int.reduceNeg, Int.zero_add, Int.add_zero, hF3.c, g2 (), g8 (), g17 ()]); exact rfl))
    | ((with_reducible apply rt_alx); (· simp (disch := omega) only [true_and, and_true, sM_ne, sM_eq, sM_neR, sM_eqR, sK_upM, sK_upR, sL_upM, sL_upR, sN_upM, sN_upR, sT_upM, sT_upR, sN_upM, Int.reduceAdd, Int.reduceMul, Int.reduceSub, Int.reduceNeg, Int.zero_add, Int.add_zero, hF3.c, g2 (), g8 (), g17 ()]); (· first | omega | ((try simp (disch := omega) only [wr, true_and, and_true, sM_ne, sM_eq, sM_neR, sM_eqR, sK_upM, sK_upR, sL_upM, sL_upR, sN_upM, sN_upR, sT_upM, sT_upR, sN_upM, Int.reduceAdd, Int.reduceMul, Int.reduceSub, Int.reduceNeg, Int.zero_add, Int.add_zero, hF3.c, g2 (), g8 (), g17 ()]) <;> omega)); (· (try simp (disch := omega) only [wr, true_and, and_true, sM_ne, sM_eq, sM_neR, sM_eqR, sK_upM, sK_upR, sL_upM, sL_upR, sN_upM, sN_upR, sT_upM, sT_upR, sN_upM, Int.reduceAdd, Int.reduceMul, Int.reduceSub, Int.reduceNeg, Int.zero_add, Int.add_zero, hF3.c, g2 (), g8 (), g17 ()]); exact rfl))
    | ((with_reducible refine rt_as ?_ ?_ ?_); (· simp (disch := omega) only [true_and, and_true, sM_ne, sM_eq, sM_neR, sM_eqR, sK_upM, sK_upR, sL_upM, sL_upR, sN_upM, sN_upR, sT_upM, sT_upR, sN_upM, Int.reduceAdd, Int.reduceMul, Int.reduceSub, Int.reduceNeg, Int.zero_add, Int.add_zero, hF3.c, g2 (), g8 (), g17 ()]); (· first | omega | ((try simp (disch := omega) only [wr, true_and, and_true, sM_ne, sM_eq, sM_neR, sM_eqR, sK_upM, sK_upR, sL_upM, sL_upR, sN_upM, sN_upR, sT_upM, sT_upR, sN_upM, Int.reduceAdd, Int.reduceMul, Int.reduceSub, Int.reduceNeg, Int.zero_add, Int.add_zero, hF3.c, g2 (), g8 (), g17 ()]) <;> omega)))
    | ((with_reducible refine rt_p ?_ ?_ ?_); (· simp (disch := omega) only [true_and, and_true, sM_ne, sM_eq, sM_neR, sM_eqR, sK_upM, sK_upR, sL_upM, sL_upR, sN_upM, sN_upR, sT_upM, sT_upR, sN_upM, Int.reduceAdd, Int.reduceMul, Int.reduceSub, Int.reduceNeg, Int.zero_add, Int.add_zero, hF3.c, g2 (), g8 (), g17 ()]); (· omega))
    | with_reducible refine rt_ret ?_
    | ((with_reducible apply rt_gwx); (· assumption); (· (try simp (disch := omega) only [wr, true_and, and_true, sM_ne, sM_eq, sM_neR, sM_eqR, sK_upM, sK_upR, sL_upM, sL_upR, sN_upM, sN_upR, sT_upM, sT_upR, sN_upM, Int.reduceAdd, Int.reduceMul, Int.reduceSub, Int.reduceNeg, Int.zero_add, Int.add_zero, hF3.c, g2 (), g8 (), g17 ()]); exact rfl)))
  have hc4 : Ch (fun a i => a = 64 ∧ 18 ≤ i ∧ i ≤ 21) σ3 (upM (upM (upM (upM σ3 64 18 1) 64 19 (sM σ 64 2)) 64 20 (sM σ 64 8)) 64 21 (sM σ 64 17)) := (((Ch.rf.up (by omega)).up (by omega)).up (by omega)).up (by omega)
  have v18 : sM (upM (upM (upM (upM σ3 64 18 1) 64 19 (sM σ 64 2)) 64 20 (sM σ 64 8)) 64 21 (sM σ 64 17)) 64 18 = 1 := by simp (disch := omega) only [true_and, and_true, sM_ne, sM_eq, sM_neR, sM_eqR, sK_upM, sK_upR, sL_upM, sL_upR, sN_upM, sN_upR, sT_upM, sT_upR, sN_upM, Int.reduceAdd, Int.reduceMul, Int.reduceSub, Int.reduceNeg, Int.zero_add, Int.add_zero]
  have v19 : sM (upM (upM (upM (upM σ3 64 18 1) 64 19 (sM σ 64 2)) 64 20 (sM σ 64 8)) 64 21 (sM σ 64 17)) 64 19 = sM σ 64 2 := by simp (disch := omega) only [true_and, and_true, sM_ne, sM_eq, sM_neR, sM_eqR, sK_upM, sK_upR, sL_upM, sL_upR, sN_upM, sN_upR, sT_upM, sT_upR, sN_upM, Int.reduceAdd, Int.reduceMul, Int.reduceSub, Int.reduceNeg, Int.zero_add, Int.add_zero]
  have v20 : sM (upM (upM (upM (upM σ3 64 18 1) 64 19 (sM σ 64 2)) 64 20 (sM σ 64 8)) 64 21 (sM σ 64 17)) 64 20 = sM σ 64 8 := by simp (disch := omega) only [true_and, and_true, sM_ne, sM_eq, sM_neR, sM_eqR, sK_upM, sK_upR, sL_upM, sL_upR, sN_upM, sN_upR, sT_upM, sT_upR, sN_upM, Int.reduceAdd, Int.reduceMul, Int.reduceSub, Int.reduceNeg, Int.zero_add, Int.add_zero]
  have v21 : sM (upM (upM (upM (upM σ3 64 18 1) 64 19 (sM σ 64 2)) 64 20 (sM σ 64 8)) 64 21 (sM σ 64 17)) 64 21 = sM σ 64 17 := by simp (disch := omega) only [true_and, and_true, sM_ne, sM_eq, sM_neR, sM_eqR, sK_upM, sK_upR, sL_upM, sL_upR, sN_upM, sN_upR, sT_upM, sT_upR, sN_upM, Int.reduceAdd, Int.reduceMul, Int.reduceSub, Int.reduceNeg, Int.zero_add, Int.add_zero]
  generalize upM (upM (upM (upM σ3 64 18 1) 64 19 (sM σ 64 2)) 64 20 (sM σ 64 8)) 64 21 (sM σ 64 17) = σ4 at hc4 v18 v19 v20 v21 ⊢
  have hF4 := hc4.Fx hF3 (fun a i q => by obtain ⟨rfl, q⟩ := q; exact NF_64 (by omega))
  have hn4 := hc4.2.1
  have n4 : ∀ a i : Int, 65 ≤ a → a < 93 → sM σ4 a i = sM σ a i := fun a i ha hb => by rw [hc4.M (by omega) (by omega), n3 a i (by omega) (by omega)]
  refine l_imM31 (σ := σ4) (f := sM σ 65) (g := sM σ 66) (fun σ5 hF5 hc5 hz5 => ?_) 1000 0 σ4 hF4 (by omega) (by omega) Ch.rf (fun i i0 i1 => ⟨n4 _ _ (by omega) (by omega), n4 _ _ (by omega) (by omega)⟩) (fun i i0 i1 => by omega)
  have hn5 := hc5.2.1
  refine l_imM69 (σ := σ5) (f := sM σ 67) (fun σ6 hF6 hc6 hz6 => ?_) 1000 0 σ5 hF5 (by omega) (by omega) Ch.rf (fun i i0 i1 => by rw [hc5.M (by omega) (by omega)]; exact n4 _ _ (by omega) (by omega)) (fun i i0 i1 => by omega)
  have hn6 := hc6.2.1
  refine Rt.mono (l_imM94 (σ := σ6) (f := sM σ 73) (m := sM σ 64 8) 1000 0 σ6 hF6 (by omega) (by omega) Ch.rf (by rw [hc6.M (by omega) (by omega), hc5.M (by omega) (by omega), hc4.M (by omega) (by omega)]; exact g8 ()) (fun i i0 i1 => by rw [hc6.M (by omega) (by omega), hc5.M (by omega) (by omega)]; exact n4 _ _ (by omega) (by omega)) (fun i i0 i1 => by omega)) ?_
  rintro y ρ ⟨y1, hc7, hz7⟩
  have hc46 : Ch (fun a i => (77 ≤ a ∧ a ≤ 80)) σ4 ρ := ((hc5.mono (fun a i q => by omega)).tr (hc6.mono (fun a i q => by omega))).tr (hc7.mono (fun a i q => by omega))
  have hall : Ch (fun a i => ((imC a ∨ kpS σ 2 a) ∨ (a = 3 ∧ 10 ≤ i ∧ i ≤ 13)) ∨ (a = 64 ∧ 18 ≤ i ∧ i ≤ 21) ∨ (77 ≤ a ∧ a ≤ 80)) σ ρ := ((hc03.mono (fun a i q => Or.inl q)).tr (hc4.mono (fun a i q => Or.inr (Or.inl q)))).tr (hc46.mono (fun a i q => Or.inr (Or.inr q)))
  have small : ∀ a i : Int, a < 93 → (((imC a ∨ kpS σ 2 a) ∨ (a = 3 ∧ 10 ≤ i ∧ i ≤ 13)) ∨ (a = 64 ∧ 18 ≤ i ∧ i ≤ 21) ∨ (77 ≤ a ∧ a ≤ 80)) → imC a ∨ (a = 3 ∧ 10 ≤ i ∧ i ≤ 13) ∨ (a = 64 ∧ 18 ≤ i ∧ i ≤ 21) ∨ (77 ≤ a ∧ a ≤ 80) := fun a i ha q => by
    rcases q with ((q | q) | q) | q
    · exact Or.inl q
    · have := hkp _ _ q (Or.inr rfl); omega
    · exact Or.inr (Or.inl q)
    · exact Or.inr (Or.inr q)
  have nn : ∀ a i : Int, a < 93 → ¬ (imC a ∨ (a = 3 ∧ 10 ≤ i ∧ i ≤ 13) ∨ (a = 64 ∧ 18 ≤ i ∧ i ≤ 21) ∨ (77 ≤ a ∧ a ≤ 80)) → sM ρ a i = sM σ a i := fun a i ha hq => hall.M (by omega) (fun q => hq (small a i ha q))
  refine finS y1.symm (h.big hall.1 (fun a i q => ?_) (h.G.off hF hall.1 (fun a i p q => ?_)) (h.So.off hF hall.1 (fun a i p q => ?_)) ?_ (h.Ru.off hF hall.1 (fun a i p q => ?_)) ?_) hall.2
  · unfold alB
    rcases q with ((q | q) | q) | q
    · unfold imC at q; omega
    · obtain ⟨v, v0, v1, e⟩ := q
      exact Or.inr (Or.inr (Or.inr (Or.inr (Or.inr (Or.inr (Or.inr (Or.inr (Or.inr (Or.inr (Or.inr ⟨v, v0, v1, Or.inr e⟩))))))))))
    · omega
    · omega
  · unfold pGate at p
    have q := small _ _ (by omega) q
    unfold imC at q
    omega
  · unfold pSort at p
    have q := small _ _ (by omega) q
    unfold imC at q
    omega
  · refine ⟨?_, ?_, fun w w0 w1 => ?_, fun v u v0 v1 u1 => ?_⟩
    · rw [nn 3 3 (by omega) (by unfold imC; omega), nn 64 8 (by omega) (by unfold imC; omega)]; exact h.Wa.1
    · rw [nn 64 8 (by omega) (by unfold imC; omega)]; exact h.Wa.2.1
    · rw [nn 64 8 (by omega) (by unfold imC; omega)] at w1
      rw [nn 33 w (by omega) (by unfold imC; omega)]
      have hwn := h.wn w0 w1
      have hx : ∀ (x i : Int), (x = 0 ∨ x = 1) → ¬ (((imC (sM σ 33 w + x) ∨ kpS σ 2 (sM σ 33 w + x)) ∨ (sM σ 33 w + x = 3 ∧ 10 ≤ i ∧ i ≤ 13)) ∨ (sM σ 33 w + x = 64 ∧ 18 ≤ i ∧ i ≤ 21) ∨ (77 ≤ sM σ 33 w + x ∧ sM σ 33 w + x ≤ 80)) := fun x i hx q => by
        rcases q with ((q | q) | q) | q
        · unfold imC at q; omega
        · obtain ⟨v, v0, v1, e⟩ := q
          by_cases ev : v = w
          · subst ev; omega
          · have := h.Wa.gap v0 v1 w0 w1 ev
            omega
        · omega
        · omega
      refine (h.Wa.2.2.1 w w0 w1).ff hF hall.1 (fun a i a0 a1 q => ?_) (fun i => by have := hx 0 i (Or.inl rfl); rw [Int.add_zero] at this; exact this) (fun c c0 c1 => ?_)
      · have q := small _ _ (by omega) q
        unfold imC at q
        omega
      · rw [hall.M (by omega) (hx 1 c (Or.inr rfl)), nn 73 _ (by omega) (by unfold imC; omega)]
        exact (h.Wa.2.2.1 w w0 w1).2.2.2.2.2.2 c c0 c1
    · rw [nn 64 8 (by omega) (by unfold imC; omega)] at u1
      rw [nn 33 v (by omega) (by unfold imC; omega), nn 33 u (by omega) (by unfold imC; omega)]
      exact h.Wa.2.2.2 v u v0 v1 u1
  · unfold pRule at p
    have q := small _ _ (by omega) q
    unfold imC at q
    omega
  · have z34 : ∀ a i : Int, a < 64 → sM ρ a i = sM σ3 a i := fun a i ha => by rw [hc46.M (by omega) (by omega), hc4.M (by omega) (by omega)]
    have z64 : ∀ i : Int, sM ρ 64 i = sM σ4 64 i := fun i => hc46.M (by omega) (by omega)
    have e8 : sM ρ 64 8 = sM σ 64 8 := nn 64 8 (by omega) (by unfold imC; omega)
    have e16 : sM ρ 64 16 = sM σ 64 16 := nn 64 16 (by omega) (by unfold imC; omega)
    have z12 : ∀ a i : Int, imC a → sM ρ a i = sM σ1 a i := fun a i hi => by
      have : a < 64 := by unfold imC at hi; omega
      rw [z34 a i this, hc3.M (by omega) (by unfold imC at hi; omega), n2 a i (by omega)]
    unfold RImg
    rw [z34 3 10 (by omega), z34 3 11 (by omega), z34 3 12 (by omega), z34 3 13 (by omega), z64 18, z64 19, z64 20, z64 21, v10, v11, v12, v13, v18, v19, v20, v21, e8, e16]
    refine ⟨rfl, Or.inr ⟨rfl, ⟨rfl, hS.2.1⟩, ⟨rfl, h8.1, Int.le_refl _⟩, ⟨rfl, h.Ru.2⟩, fun g t g0 g1 t0 t1 => ?_, fun s s0 s1 => ?_, fun w c w0 w1 c0 c1 => ?_⟩⟩
    · obtain ⟨x1, x2, x3, x4⟩ := h.G g t g0 g1 t0 t1
      rw [z12 (43 + g) t (by unfold imC; omega), z12 (46 + g) t (by unfold imC; omega), (hg1 g t g0 g1 t0 t1).1, (hg1 g t g0 g1 t0 t1).2, hc7.M (a := 77) (by omega) (by omega), hc6.M (a := 77) (by omega) (by omega), hc7.M (a := 78) (by omega) (by omega), hc6.M (a := 78) (by omega) (by omega), (hz5 (24 * g + t) (by omega) (by omega)).1, (hz5 (24 * g + t) (by omega) (by omega)).2]
      exact ⟨x1, x2, x3, x4⟩
    · have h24 := hS.2.1
      obtain ⟨x1, -⟩ := hS.2.2.2 s s0 (by omega)
      rw [z12 _ _ (by unfold imC; omega), hw1 s s0 s1, hc7.M (by omega) (by omega), hz6 s s0 (by omega)]
      exact x1
    · have hwn := h.wn w0 w1
      rw [nn 72 w (by omega) (by unfold imC; omega)] at c1
      rw [nn 33 w (by omega) (by unfold imC; omega), hz7 _ (by omega) (by omega), hc46.M (by omega) (by omega), hc4.M (by omega) (by omega), hc3.M (by omega) (by omega), hk2 w c w0 w1 c0 (by omega)]
      exact (h.Wa.2.2.1 w w0 w1).2.2.2.2.2.2 c c0 c1
