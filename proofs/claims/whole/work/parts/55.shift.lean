/-! later wishes, a gate that sticks -/
theorem sumF_eq {f g : Int → Int} : ∀ n : Nat, (∀ c : Int, 0 ≤ c → c < (n : Int) → f c = g c) → sumF f n = sumF g n
  | 0, _ => rfl
  | n + 1, h => by
    unfold sumF
    rw [sumF_eq n (fun c c0 c1 => h c c0 (by omega)), h (n : Int) (by omega) (by omega)]
theorem costV_wi {k : Int} {tl : Int → Int → Int} {st wi wi' : Int → Int} {cs : List Int} {s x cm ps : Int} (h : wi s = wi' s) : costV k tl st wi cs s x cm ps = costV k tl st wi' cs s x cm ps := by unfold costV; rw [h]
theorem clw_in {x : Int} : 0 ≤ clw x ∧ clw x ≤ 23 := by
  unfold clw
  (repeat' split) <;> omega
theorem clw_im {x : Int} (h : -1000 ≤ x) (h2 : x ≤ 1000) : imax 0 (imin 23 (wrap x)) = clw x := by
  rw [wr (by omega) (by omega)]
  unfold imax imin clw
  (repeat' split) <;> omega
theorem Rel.cap {σ : ZS} (h : Rel σ) : RCap σ := h.Ta.2.2.2
theorem q_shift {σ : ZS} (h : Rel σ) (w b : Int) : Rt (fX11_shift σ 3 w b) (fun y τ => Rt (fX12_shift τ 64 w b) (fun z ρ => Fin σ y z ρ)) := by
  have hF := h.F
  have h9 := hF.2.2.2
  unfold fX11_shift
  by_cases hw : 0 ≤ w ∧ w < sM σ 64 8
  · obtain ⟨w0, w1⟩ := hw
    have hn := h.wn w0 w1
    have hV := h.lv w0 w1
    have hC := h.cv
    have hT := h.tv
    have hs := h.sep w0 w1
    refine rt_b (rt_v (by simp (disch := omega) only [true_and, and_true, sM_ne, sM_eq, sM_neR, sM_eqR, sK_upM, sK_upR, sL_upM, sL_upR, sN_upM, sN_upR, sT_upM, sT_upR, sN_upM, Int.reduceAdd, Int.reduceMul, Int.reduceSub, Int.reduceNeg, Int.zero_add, Int.add_zero, hF.c]) (rt_e (f_wayAt1 h w0 w1) ?_))
    refine rt_neg (by omega) ?_
    have bad : ¬ (-23 ≤ b ∧ b ≤ 23) → Rt (fX12_shift σ 64 w b) (fun z ρ => Fin σ (-4611686018427387904) z ρ) := by
      intro hb
      unfold fX12_shift
      refine rt_b (rt_v (by simp (disch := omega) only [true_and, and_true, sM_ne, sM_eq, sM_neR, sM_eqR, sK_upM, sK_upR, sL_upM, sL_upR, sN_upM, sN_upR, sT_upM, sT_upR, sN_upM, Int.reduceAdd, Int.reduceMul, Int.reduceSub, Int.reduceNeg, Int.zero_add, Int.add_zero, hF.c]) (rt_e (f_isWay h w) ?_))
      rw [if_pos (show 0 ≤ w ∧ w < sM σ 64 8 from ⟨w0, w1⟩)]
      refine rt_neg (by omega) (rt_b (rt_e (f_in σ b (-23) 23) ?_))
      rw [if_neg hb]
      exact rt_pos rfl (rt_ret (fin0 h rfl))
    by_cases hb1 : b ≤ -24
    · exact rt_pos hb1 (rt_ret (bad (by omega)))
    · refine rt_neg hb1 ?_
      by_cases hb2 : b < 24
      · refine rt_pos hb2 ?_
        have hbb : -23 ≤ b ∧ b ≤ 23 := by omega
        repeat (first
    | with_reducible refine rt_b ?_
    | with_reducible refine rt_jn ?_
    | ((with_reducible refine rt_pos ?_ ?_); (· first | omega | ((try simp (disch := omega) only [wr, true_and, and_true, sM_ne, sM_eq, sM_neR, sM_eqR, sK_upM, sK_upR, sL_upM, sL_upR, sN_upM, sN_upR, sT_upM, sT_upR, sN_upM, Int.reduceAdd, Int.reduceMul, Int.reduceSub, Int.reduceNeg, Int.zero_add, Int.add_zero, hF.c]) <;> omega)))
    | ((with_reducible refine rt_neg ?_ ?_); (· first | omega | ((try simp (disch := omega) only [wr, true_and, and_true, sM_ne, sM_eq, sM_neR, sM_eqR, sK_upM, sK_upR, sL_upM, sL_upR, sN_upM, sN_upR, sT_upM, sT_upR, sN_upM, Int.reduceAdd, Int.reduceMul, Int.reduceSub, Int.reduceNeg, Int.zero_add, Int.add_zero, hF.c]) <;> omega)))
    | ((with_reducible refine rt_v ?_ ?_); · simp (disch := omega) only [true_and, and_true, sM_ne, sM_eq, sM_neR, sM_eqR, sK_upM, sK_upR, sL_upM, sL_upR, sN_upM, sN_upR, sT_upM, sT_upR, sN_upM, Int.reduceAdd, Int.reduceMul, Int.reduceSub, Int.reduceNeg, Int.zero_add, Int.add_zero, hF.c])
    | ((with_reducible apply rt_gx); (· simp (disch := omega) only [true_and, and_true, sM_ne, sM_eq, sM_neR, sM_eqR, sK_upM, sK_upR, sL_upM, sL_upR, sN_upM, sN_upR, sT_upM, sT_upR, sN_upM, Int.reduceAdd, Int.reduceMul, Int.reduceSub, Int.reduceNeg, Int.zero_add, Int.add_zero, hF.c]); (· (try simp (disch := omega) only [wr, true_and, and_true, sM_ne, sM_eq, sM_neR, sM_eqR, sK_upM, sK_upR, sL_upM, sL_upR, sN_upM, sN_upR, sT_upM, sT_upR, sN_upM, Int.reduceAdd, Int.reduceMul, Int.reduceSub, Int.reduceNeg, Int.zero_add, Int.add_zero, hF.c]); exact rfl))
    | ((with_reducible apply rt_alx); (· simp (disch := omega) only [true_and, and_true, sM_ne, sM_eq, sM_neR, sM_eqR, sK_upM, sK_upR, sL_upM, sL_upR, sN_upM, sN_upR, sT_upM, sT_upR, sN_upM, Int.reduceAdd, Int.reduceMul, Int.reduceSub, Int.reduceNeg, Int.zero_add, Int.add_zero, hF.c]); (· first | omega | ((try simp (disch := omega) only [wr, true_and, and_true, sM_ne, sM_eq, sM_neR, sM_eqR, sK_upM, sK_upR, sL_upM, sL_upR, sN_upM, sN_upR, sT_upM, sT_upR, sN_upM, Int.reduceAdd, Int.reduceMul, Int.reduceSub, Int.reduceNeg, Int.zero_add, Int.add_zero, hF.c]) <;> omega)); (· (try simp (disch := omega) only [wr, true_and, and_true, sM_ne, sM_eq, sM_neR, sM_eqR, sK_upM, sK_upR, sL_upM, sL_upR, sN_upM, sN_upR, sT_upM, sT_upR, sN_upM, Int.reduceAdd, Int.reduceMul, Int.reduceSub, Int.reduceNeg, Int.zero_add, Int.add_zero, hF.c]); exact rfl))
    | ((with_reducible refine rt_as ?_ ?_ ?_); (· simp (disch := omega) only [true_and, and_true, sM_ne, sM_eq, sM_neR, sM_eqR, sK_upM, sK_upR, sL_upM, sL_upR, sN_upM, sN_upR, sT_upM, sT_upR, sN_upM, Int.reduceAdd, Int.reduceMul, Int.reduceSub, Int.reduceNeg, Int.zero_add, Int.add_zero, hF.c]); (· first | omega | ((try simp (disch := omega) only [wr, true_and, and_true, sM_ne, sM_eq, sM_neR, sM_eqR, sK_upM, sK_upR, sL_upM, sL_upR, sN_upM, sN_upR, sT_upM, sT_upR, sN_upM, Int.reduceAdd, Int.reduceMul, Int.reduceSub, Int.reduceNeg, Int.zero_add, Int.add_zero, hF.c]) <;> omega)))
    | ((with_reducible refine rt_p ?_ ?_ ?_); (· simp (disch := omega) only [true_and, and_true, sM_ne, sM_eq, sM_neR, sM_eqR, sK_upM, sK_upR, sL_upM, sL_upR, sN_upM, sN_upR, sT_upM, sT_upR, sN_upM, Int.reduceAdd, Int.reduceMul, Int.reduceSub, Int.reduceNeg, Int.zero_add, Int.add_zero, hF.c]); (· omega))
    | with_reducible refine rt_ret ?_
    | ((with_reducible apply rt_gwx); (· assumption); (· (try simp (disch := omega) only [wr, true_and, and_true, sM_ne, sM_eq, sM_neR, sM_eqR, sK_upM, sK_upR, sL_upM, sL_upR, sN_upM, sN_upR, sT_upM, sT_upR, sN_upM, Int.reduceAdd, Int.reduceMul, Int.reduceSub, Int.reduceNeg, Int.zero_add, Int.add_zero, hF.c]); exact rfl)))
        have hC1 : Ch (fun a i => a = 5 ∧ i = 8) σ (upM σ 5 8 b) := Ch.rf.up ⟨rfl, rfl⟩
        have hSS : ∀ a i, (a = 5 ∧ i = 8) → alS (sM σ 33 w) a i := fun a i q => by unfold alS; omega
        have hV1 := hV.alt (ch' := vch σ w) (rt' := vrt σ) hC1 hSS (fun y y0 y1 => by rw [sM_ne (by omega)]; exact hV.2.2.2.2.2.2.1 y y0 y1) (fun g' t' a0 a1 b0 b1 => by rw [sM_ne (by omega)]; exact hV.2.2.2.2.2.2.2.2.2 g' t' a0 a1 b0 b1)
        have hCC := (hC.alt (tl' := vtl σ) (wi' := fun s => clw (vwi σ s + b)) hF hn.2.2.2.2.1 hs hC1 hSS (fun g' t' a0 a1 b0 b1 => by rw [sM_ne (by omega)]; exact hC.1 g' t' a0 a1 b0 b1) (fun s s0 s1 => by
          obtain ⟨x1, x2, x3⟩ := (h.So.2.2.2 s s0 s1).1
          rw [sM_ne (by omega), sM_eq ⟨rfl, rfl⟩, x1]
          exact ⟨clw_im (by omega) (by omega), clw_in⟩)).1
        refine Rt.mono (f_costOfAll hV1 hCC (hT.alt hF hn.2.2.2.2.1 hC1 hSS)) ?_
        rintro v τ ⟨e, hcτ⟩
        have hFτ := (hV1.ch hcτ).1
        repeat (first
    | with_reducible refine rt_b ?_
    | with_reducible refine rt_jn ?_
    | ((with_reducible refine rt_pos ?_ ?_); (· first | omega | ((try simp (disch := omega) only [wr, true_and, and_true, sM_ne, sM_eq, sM_neR, sM_eqR, sK_upM, sK_upR, sL_upM, sL_upR, sN_upM, sN_upR, sT_upM, sT_upR, sN_upM, Int.reduceAdd, Int.reduceMul, Int.reduceSub, Int.reduceNeg, Int.zero_add, Int.add_zero, hFτ.c]) <;> omega)))
    | ((with_reducible refine rt_neg ?_ ?_); (· first | omega | ((try simp (disch := omega) only [wr, true_and, and_true, sM_ne, sM_eq, sM_neR, sM_eqR, sK_upM, sK_upR, sL_upM, sL_upR, sN_upM, sN_upR, sT_upM, sT_upR, sN_upM, Int.reduceAdd, Int.reduceMul, Int.reduceSub, Int.reduceNeg, Int.zero_add, Int.add_zero, hFτ.c]) <;> omega)))
    | ((with_reducible refine rt_v ?_ ?_); · simp (disch := omega) only [true_and, and_true, sM_ne, sM_eq, sM_neR, sM_eqR, sK_upM, sK_upR, sL_upM, sL_upR, sN_upM, sN_upR, sT_upM, sT_upR, sN_upM, Int.reduceAdd, Int.reduceMul, Int.reduceSub, Int.reduceNeg, Int.zero_add, Int.add_zero, hFτ.c])
    | ((with_reducible apply rt_gx); (· simp (disch := omega) only [true_and, and_true, sM_ne, sM_eq, sM_neR, sM_eqR, sK_upM, sK_upR, sL_upM, sL_upR, sN_upM, sN_upR, sT_upM, sT_upR, sN_upM, Int.reduceAdd, Int.reduceMul, Int.reduceSub, Int.reduceNeg, Int.zero_add, Int.add_zero, hFτ.c]); (· (try simp (disch := omega) only [wr, true_and, and_true, sM_ne, sM_eq, sM_neR, sM_eqR, sK_upM, sK_upR, sL_upM, sL_upR, sN_upM, sN_upR, sT_upM, sT_upR, sN_upM, Int.reduceAdd, Int.reduceMul, Int.reduceSub, Int.reduceNeg, Int.zero_add, Int.add_zero, hFτ.c]); exact rfl))
    | ((with_reducible apply rt_alx); (· simp (disch := omega) only [true_and, and_true, sM_ne, sM_eq, sM_neR, sM_eqR, sK_upM, sK_upR, sL_upM, sL_upR, sN_upM, sN_upR, sT_upM, sT_upR, sN_upM, Int.reduceAdd, Int.reduceMul, Int.reduceSub, Int.reduceNeg, Int.zero_add, Int.add_zero, hFτ.c]); (· first | omega | ((try simp (disch := omega) only [wr, true_and, and_true, sM_ne, sM_eq, sM_neR, sM_eqR, sK_upM, sK_upR, sL_upM, sL_upR, sN_upM, sN_upR, sT_upM, sT_upR, sN_upM, Int.reduceAdd, Int.reduceMul, Int.reduceSub, Int.reduceNeg, Int.zero_add, Int.add_zero, hFτ.c]) <;> omega)); (· (try simp (disch := omega) only [wr, true_and, and_true, sM_ne, sM_eq, sM_neR, sM_eqR, sK_upM, sK_upR, sL_upM, sL_upR, sN_upM, sN_upR, sT_upM, sT_upR, sN_upM, Int.reduceAdd, Int.reduceMul, Int.reduceSub, Int.reduceNeg, Int.zero_add, Int.add_zero, hFτ.c]); exact rfl))
    | ((with_reducible refine rt_as ?_ ?_ ?_); (· simp (disch := omega) only [true_and, and_true, sM_ne, sM_eq, sM_neR, sM_eqR, sK_upM, sK_upR, sL_upM, sL_upR, sN_upM, sN_upR, sT_upM, sT_upR, sN_upM, Int.reduceAdd, Int.reduceMul, Int.reduceSub, Int.reduceNeg, Int.zero_add, Int.add_zero, hFτ.c]); (· first | omega | ((try simp (disch := omega) only [wr, true_and, and_true, sM_ne, sM_eq, sM_neR, sM_eqR, sK_upM, sK_upR, sL_upM, sL_upR, sN_upM, sN_upR, sT_upM, sT_upR, sN_upM, Int.reduceAdd, Int.reduceMul, Int.reduceSub, Int.reduceNeg, Int.zero_add, Int.add_zero, hFτ.c]) <;> omega)))
    | ((with_reducible refine rt_p ?_ ?_ ?_); (· simp (disch := omega) only [true_and, and_true, sM_ne, sM_eq, sM_neR, sM_eqR, sK_upM, sK_upR, sL_upM, sL_upR, sN_upM, sN_upR, sT_upM, sT_upR, sN_upM, Int.reduceAdd, Int.reduceMul, Int.reduceSub, Int.reduceNeg, Int.zero_add, Int.add_zero, hFτ.c]); (· omega))
    | with_reducible refine rt_ret ?_
    | ((with_reducible apply rt_gwx); (· assumption); (· (try simp (disch := omega) only [wr, true_and, and_true, sM_ne, sM_eq, sM_neR, sM_eqR, sK_upM, sK_upR, sL_upM, sL_upR, sN_upM, sN_upR, sT_upM, sT_upR, sN_upM, Int.reduceAdd, Int.reduceMul, Int.reduceSub, Int.reduceNeg, Int.zero_add, Int.add_zero, hFτ.c]); exact rfl)))
        have hall : Ch scr σ (upM τ 5 8 0) := Ch.back (S := fun a i => lnS a i ∨ (a = 5 ∧ i = 8)) (((hC1.mono (fun a i q => Or.inr q)).tr (hcτ.mono (fun a i q => Or.inl q))).up (Or.inr ⟨rfl, rfl⟩)) (fun a i q => by
          rcases q with q | ⟨rfl, rfl⟩
          · exact Or.inl (lnS_scr a i q)
          · right
            rw [sM_eq ⟨rfl, rfl⟩, h.So.2.2.1])
        generalize upM τ 5 8 0 = π at hall
        have hRπ := h.off hall.1
        have hFπ := hRπ.F
        have h9π := hFπ.2.2.2
        have h8 : sM π 64 8 = sM σ 64 8 := hall.M (by omega) (by unfold scr; omega)
        have hm := h.So.2.1
        have h2 : sM π 64 2 = sM σ 64 2 := hall.M (by omega) (by unfold scr; omega)
        have h67 : ∀ s, sM π 67 s = vwi σ s := fun s => hall.M (by omega) (by unfold scr; omega)
        unfold fX12_shift
        refine rt_b (rt_v (by simp (disch := omega) only [true_and, and_true, sM_ne, sM_eq, sM_neR, sM_eqR, sK_upM, sK_upR, sL_upM, sL_upR, sN_upM, sN_upR, sT_upM, sT_upR, sN_upM, Int.reduceAdd, Int.reduceMul, Int.reduceSub, Int.reduceNeg, Int.zero_add, Int.add_zero, hFπ.c]) (rt_e (f_isWay hRπ w) ?_))
        rw [h8, if_pos (show 0 ≤ w ∧ w < sM σ 64 8 from ⟨w0, w1⟩)]
        clear h8
        refine rt_neg (by omega) (rt_b (rt_e (f_in π b (-23) 23) ?_))
        rw [if_pos hbb]
        refine rt_neg (by omega) ?_
        refine l_sh25 (σ := π) (b := b) (m := sM σ 64 2) (wv := vwi σ) hbb hm (fun s s0 s1 => (h.wi0 s s0 s1).2) (fun τ1 hc1 hr1 => ?_) 1000 0 π hFπ h2 (by omega) (by omega) Ch.rf (fun j j0 j1 => by omega) (fun j j0 j1 => h67 j)
        have hcs : Ch (fun a i => scr a i ∨ (a = 67 ∧ 0 ≤ i ∧ i < sM σ 64 2)) σ τ1 := (hall.mono (fun a i q => Or.inl q)).tr (hc1.mono (fun a i q => by rcases q with q | q; exact Or.inr q; exact Or.inl (by unfold scr; omega)))
        have hcsR : ∀ a i, (scr a i ∨ (a = 67 ∧ 0 ≤ i ∧ i < sM σ 64 2)) → alR a i := fun a i q => Or.elim q Or.inl (fun q => Or.inr (by omega))
        have hF1 := hcs.Fx hF (fun a i q => alR_NF a i (hcsR a i q))
        refine rt_b (rt_v (by simp (disch := omega) only [true_and, and_true, sM_ne, sM_eq, sM_neR, sM_eqR, sK_upM, sK_upR, sL_upM, sL_upR, sN_upM, sN_upR, sT_upM, sT_upR, sN_upM, Int.reduceAdd, Int.reduceMul, Int.reduceSub, Int.reduceNeg, Int.zero_add, Int.add_zero, hF1.c]) ?_)
        refine Rt.mono (f_costNow2 (rt := vrt σ) (tl := vtl σ) (wi := fun s => if s < sM σ 64 2 then clw (vwi σ s + b) else vwi σ s) h hcs hcsR w0 w1 (fun g t a0 a1 b0 b1 => ?_) (fun g t a0 a1 b0 b1 => ?_) (fun s s0 s1 => ?_)) ?_
        · rw [hcs.M (by omega) (by unfold scr; omega)]; exact h.rt0 g t a0 a1 b0 b1
        · rw [hcs.M (by omega) (by unfold scr; omega)]; exact h.tl0 g t a0 a1 b0 b1
        · by_cases q : s < sM σ 64 2
          · simp only [if_pos q]
            rw [(hr1 s s0 q).2]
            exact ⟨rfl, clw_in⟩
          · simp only [if_neg q]
            rw [hcs.M (by omega) (by unfold scr; omega)]
            exact h.wi0 s s0 s1
        · rintro v2 ρ ⟨e2, hcρ⟩
          have hcρ' : Ch (fun a i => scr a i ∨ (a = 67 ∧ 0 ≤ i ∧ i < sM σ 64 2)) σ ρ := hcs.tr (hcρ.mono (fun a i q => Or.inl (mdW_scr a i q)))
          have hFρ := hcρ'.Fx hF (fun a i q => alR_NF a i (hcsR a i q))
          have h9' := hF1.2.2.2
          refine Rt.mono (l_sh99 (σ := ρ) (m := sM σ 64 2) (v0 := v2) (wv := vwi σ) hm 1000 0 ρ hFρ (hcρ'.M (by omega) (by unfold scr; omega)) (by omega) (by omega) Ch.rf (fun j j0 j1 => ?_) (fun j j0 j1 => by omega)) ?_
          · rw [hcρ.M (by omega) (by unfold mdW mdS; omega)]
            exact (hr1 j j0 j1).1
          · rintro v3 θ ⟨e3, hcθ, hz⟩
            have hfin : Ch scr σ θ := Ch.back (S := fun a i => scr a i ∨ (a = 67 ∧ 0 ≤ i ∧ i < sM σ 64 2)) (hcρ'.tr (hcθ.mono (fun a i q => Or.inr q))) (fun a i q => by
              rcases q with q | ⟨rfl, q1, q2⟩
              · exact Or.inl q
              · right
                exact hz i q1 q2)
            refine finC h ?_ hfin
            rw [e, e3, e2]
            refine sumF_eq _ (fun c c0 c1 => ?_)
            unfold cstF
            refine costV_wi ?_
            have hq := h.cap.1 c c0 (by have := h.cap.2 w w0 w1; omega)
            show clw (vwi σ (vso σ c) + b) = if vso σ c < sM σ 64 2 then clw (vwi σ (vso σ c) + b) else vwi σ (vso σ c)
            rw [if_pos (show vso σ c < sM σ 64 2 from hq)]
      · exact rt_neg hb2 (rt_ret (bad (by omega)))
  · refine rt_b (rt_v (by simp (disch := omega) only [true_and, and_true, sM_ne, sM_eq, sM_neR, sM_eqR, sK_upM, sK_upR, sL_upM, sL_upR, sN_upM, sN_upR, sT_upM, sT_upR, sN_upM, Int.reduceAdd, Int.reduceMul, Int.reduceSub, Int.reduceNeg, Int.zero_add, Int.add_zero, hF.c]) (rt_e (f_wayAt0 h hw) ?_))
    refine rt_pos (by omega) (rt_ret ?_)
    unfold fX12_shift
    refine rt_b (rt_v (by simp (disch := omega) only [true_and, and_true, sM_ne, sM_eq, sM_neR, sM_eqR, sK_upM, sK_upR, sL_upM, sL_upR, sN_upM, sN_upR, sT_upM, sT_upR, sN_upM, Int.reduceAdd, Int.reduceMul, Int.reduceSub, Int.reduceNeg, Int.zero_add, Int.add_zero, hF.c]) (rt_e (f_isWay h w) ?_))
    rw [if_neg hw]
    exact rt_pos rfl (rt_ret (fin0 h rfl))
