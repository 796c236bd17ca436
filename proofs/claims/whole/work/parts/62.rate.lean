/-! rates set, alone and from a sheet -/
def okR (g t b v : Int) : Prop := (0 ≤ g ∧ g < 2) ∧ (0 ≤ t ∧ t < 24) ∧ (t < b ∧ b ≤ 24) ∧ (0 ≤ v ∧ v ≤ 9)
def rtC (rt : Int → Int → Int) (g t b v : Int) : Int := if (0 ≤ g ∧ g < 2) ∧ (0 ≤ t ∧ t < 24) then (if (t < b ∧ b ≤ 24) ∧ (0 ≤ v ∧ v ≤ 9) then rt g t else -2) else -1
def rtR (rt : Int → Int → Int) (g t b v : Int) : Int → Int → Int := if ((0 ≤ g ∧ g < 2) ∧ (0 ≤ t ∧ t < 24)) ∧ ((t < b ∧ b ≤ 24) ∧ (0 ≤ v ∧ v ≤ 9)) then (fun g' t' => if g' = g ∧ t ≤ t' ∧ t' < b then v else rt g' t') else rt
def rIn (rt : Int → Int → Int) : Prop := ∀ g t : Int, 0 ≤ g → g < 2 → 0 ≤ t → t < 24 → 0 ≤ rt g t ∧ rt g t ≤ 9
theorem rtR_in {rt : Int → Int → Int} {g t b v : Int} (h : rIn rt) : rIn (rtR rt g t b v) := by
  intro g' t' a0 a1 b0 b1
  unfold rtR
  by_cases q : ((0 ≤ g ∧ g < 2) ∧ (0 ≤ t ∧ t < 24)) ∧ ((t < b ∧ b ≤ 24) ∧ (0 ≤ v ∧ v ≤ 9))
  · rw [if_pos q]
    show 0 ≤ (if g' = g ∧ t ≤ t' ∧ t' < b then v else rt g' t') ∧ (if g' = g ∧ t ≤ t' ∧ t' < b then v else rt g' t') ≤ 9
    by_cases q2 : g' = g ∧ t ≤ t' ∧ t' < b
    · rw [if_pos q2]; exact q.2.2
    · rw [if_neg q2]; exact h g' t' a0 a1 b0 b1
  · rw [if_neg q]; exact h g' t' a0 a1 b0 b1
def rCl (σ : ZS) (rt : Int → Int → Int) : Prop := ∀ g t : Int, 0 ≤ g → g < 2 → 0 ≤ t → t < 24 → sM σ (7 + g) t = rt g t
def rMo (σ : ZS) (rt : Int → Int → Int) : Prop := ∀ g t : Int, 0 ≤ g → g < 2 → 0 ≤ t → t < 24 → sM σ 65 (24 * g + t) = rt g t
theorem l_rt56 {σ : ZS} {g t b v r0 : Int} {rt : Int → Int → Int} (g0 : 0 ≤ g) (g1 : g < 2) (t0 : 0 ≤ t) (tb : t < b) (b1 : b ≤ 24) :
    ∀ (N c : Nat) (s : ZS), FxD s → t ≤ (c : Int) → (c : Int) ≤ b → b - (c : Int) < (N : Int) → Ch (fun a _ => 7 ≤ a ∧ a ≤ 8) σ s → (∀ g' t' : Int, 0 ≤ g' → g' < 2 → 0 ≤ t' → t' < 24 → sM s (7 + g') t' = if g' = g ∧ t ≤ t' ∧ t' < (c : Int) then v else rt g' t') → Rt (lX11_rate_56 3 g b v r0 N s (c : Int)) (fun x τ => x = r0 ∧ Ch (fun a _ => 7 ≤ a ∧ a ≤ 8) σ τ ∧ rCl τ (fun g' t' => if g' = g ∧ t ≤ t' ∧ t' < b then v else rt g' t'))
  | 0, c, s, _, _, h1, h2, _, _ => by omega
  | N + 1, c, s, hF, h0, h1, h2, hc, hz => by
    rw [lX11_rate_56]
    by_cases he : b ≤ (c : Int)
    · refine rt_pos he (rt_ret ⟨rfl, hc, fun g' t' a0 a1 b0 b1 => ?_⟩)
      rw [hz g' t' a0 a1 b0 b1, show (c : Int) = b by omega]
    · refine rt_neg he ?_
      repeat (first
    | with_reducible refine rt_b ?_
    | with_reducible refine rt_jn ?_
    | ((with_reducible refine rt_pos ?_ ?_); (· first | omega | ((try simp (disch := omega) only [wr, true_and, and_true, sM_ne, sM_eq, sM_neR, sM_eqR, sK_upM, sK_upR, sL_upM, sL_upR, sN_upM, sN_upR, sT_upM, sT_upR, sN_upM, Int.reduceAdd, Int.reduceMul, Int.reduceSub, Int.reduceNeg, Int.zero_add, Int.add_zero, hF.c]) <;> omega)))
    | ((with_reducible refine rt_neg ?_ ?_); (· first | omega | ((try simp (disch := omega) only [wr, true_and, and_true, sM_ne, sM_eq, sM_neR, sM_eqR, sK_upM, sK_upR, sL_upM, sL_upR, sN_upM, sN_upR, sT_upM, sT_upR, sN_upM, Int.reduceAdd, Int.reduceMul, Int.reduceSub, Int.reduceNeg, Int.zero_add, Int.add_zero, hF.c]) <;> omega)))
    | ((with_reducible refine rt_v ?_ ?_); · simp (disch := omega) only [true_and, and_true, sM_ne, sM_eq, sM_neR, sM_eqR, sK_upM, sK_upR, sL_upM, sL_upR, sN_upM, sN_upR, sT_upM, sT_upR, sN_upM, Int.reduceAdd, Int.reduceMul, Int.reduceSub, Int.reduceNeg, Int.zero_add, Int.add_zero, hF.c])
    | ((with_reducible apply rt_gx); (· simp (disch := omega) only [true_and, and_true, sM_ne, sM_eq, sM_neR, sM_eqR, sK_upM, sK_upR, sL_upM, sL_upR, sN_upM, sN_upR, sT_upM, sT_upR, sN_upM, Int.reduceAdd, Int.reduceMul, Int.reduceSub, Int.reduceNeg, Int.zero_add, Int.add_zero, hF.c]); (· (try simp (disch := omega) only [wr, true_and, and_true, sM_ne, sM_eq, sM_neR, sM_eqR, sK_upM, sK_upR, sL_upM, sL_upR, sN_upM, sN_upR, sT_upM, sT_upR, sN_upM, Int.reduceAdd, Int.reduceMul, Int.reduceSub, Int.reduceNeg, Int.zero_add, Int.add_zero, hF.c]); exact rfl))
    | ((with_reducible apply rt_alx); (· simp (disch := omega) only [true_and, and_true, sM_ne, sM_eq, sM_neR, sM_eqR, sK_upM, sK_upR, sL_upM, sL_upR, sN_upM, sN_upR, sT_upM, sT_upR, sN_upM, Int.reduceAdd, Int.reduceMul, Int.reduceSub, Int.reduceNeg, Int.zero_add, Int.add_zero, hF.c]); (· first | omega | ((try simp (disch := omega) only [wr, true_and, and_true, sM_ne, sM_eq, sM_neR, sM_eqR, sK_upM, sK_upR, sL_upM, sL_upR, sN_upM, sN_upR, sT_upM, sT_upR, sN_upM, Int.reduceAdd, Int.reduceMul, Int.reduceSub, Int.reduceNeg, Int.zero_add, Int.add_zero, hF.c]) <;> omega)); (· (try simp (disch := omega) only [wr, true_and, and_true, sM_ne, sM_eq, sM_neR, sM_eqR, sK_upM, sK_upR, sL_upM, sL_upR, sN_upM, sN_upR, sT_upM, sT_upR, sN_upM, Int.reduceAdd, Int.reduceMul, Int.reduceSub, Int.reduceNeg, Int.zero_add, Int.add_zero, hF.c]); exact rfl))
    | ((with_reducible refine rt_as ?_ ?_ ?_); (· simp (disch := omega) only [true_and, and_true, sM_ne, sM_eq, sM_neR, sM_eqR, sK_upM, sK_upR, sL_upM, sL_upR, sN_upM, sN_upR, sT_upM, sT_upR, sN_upM, Int.reduceAdd, Int.reduceMul, Int.reduceSub, Int.reduceNeg, Int.zero_add, Int.add_zero, hF.c]); (· first | omega | ((try simp (disch := omega) only [wr, true_and, and_true, sM_ne, sM_eq, sM_neR, sM_eqR, sK_upM, sK_upR, sL_upM, sL_upR, sN_upM, sN_upR, sT_upM, sT_upR, sN_upM, Int.reduceAdd, Int.reduceMul, Int.reduceSub, Int.reduceNeg, Int.zero_add, Int.add_zero, hF.c]) <;> omega)))
    | ((with_reducible refine rt_p ?_ ?_ ?_); (· simp (disch := omega) only [true_and, and_true, sM_ne, sM_eq, sM_neR, sM_eqR, sK_upM, sK_upR, sL_upM, sL_upR, sN_upM, sN_upR, sT_upM, sT_upR, sN_upM, Int.reduceAdd, Int.reduceMul, Int.reduceSub, Int.reduceNeg, Int.zero_add, Int.add_zero, hF.c]); (· omega))
    | with_reducible refine rt_ret ?_
    | ((with_reducible apply rt_gwx); (· assumption); (· (try simp (disch := omega) only [wr, true_and, and_true, sM_ne, sM_eq, sM_neR, sM_eqR, sK_upM, sK_upR, sL_upM, sL_upR, sN_upM, sN_upR, sT_upM, sT_upR, sN_upM, Int.reduceAdd, Int.reduceMul, Int.reduceSub, Int.reduceNeg, Int.zero_add, Int.add_zero, hF.c]); exact rfl)))
      rw [wr1 c (by omega)]
      refine l_rt56 g0 g1 t0 tb b1 N (c + 1) _ (hF.up (NF_i (by omega))) (by omega) (by omega) (by omega) (hc.up (by omega)) (fun g' t' a0 a1 b0 b1 => ?_)
      by_cases q : g' = g ∧ t' = (c : Int)
      · rw [sM_eq (by omega), if_pos (by omega)]
      · rw [sM_ne (by omega), hz g' t' a0 a1 b0 b1]
        by_cases q2 : g' = g ∧ t ≤ t' ∧ t' < (c : Int)
        · rw [if_pos q2, if_pos (by omega)]
        · rw [if_neg q2, if_neg (by omega)]
theorem f_rateC {σ : ZS} (hF : FxD σ) {rt : Int → Int → Int} (hr : rCl σ rt) (g t b v : Int) : Rt (fX11_rate σ 3 g t b v) (fun x τ => x = rtC rt g t b v ∧ Ch (fun a _ => 7 ≤ a ∧ a ≤ 8) σ τ ∧ rCl τ (rtR rt g t b v)) := by
  unfold fX11_rate
  have no : ∀ x : Int, x = rtC rt g t b v → ¬ (((0 ≤ g ∧ g < 2) ∧ (0 ≤ t ∧ t < 24)) ∧ ((t < b ∧ b ≤ 24) ∧ (0 ≤ v ∧ v ≤ 9))) → Rt (some (x, σ)) (fun x τ => x = rtC rt g t b v ∧ Ch (fun a _ => 7 ≤ a ∧ a ≤ 8) σ τ ∧ rCl τ (rtR rt g t b v)) := by
    intro x hx hn
    refine rt_ret ⟨hx, Ch.rf, ?_⟩
    unfold rtR
    rw [if_neg hn]
    exact hr
  refine rt_b (rt_e (f_isGate σ g) ?_)
  by_cases hg : 0 ≤ g ∧ g < 2
  · rw [if_pos hg]
    refine rt_neg (by omega) (rt_b (rt_e (f_isMinute σ t) ?_))
    by_cases ht : 0 ≤ t ∧ t < 24
    · rw [if_pos ht]
      refine rt_neg (by omega) ?_
      have e2 : ¬ ((t < b ∧ b ≤ 24) ∧ (0 ≤ v ∧ v ≤ 9)) → -2 = rtC rt g t b v := fun q => by
        unfold rtC
        rw [if_pos ⟨hg, ht⟩, if_neg q]
      by_cases h1 : b ≤ t
      · exact rt_pos h1 (no _ (e2 (by omega)) (by omega))
      · refine rt_neg h1 ?_
        by_cases h2 : 24 < b
        · exact rt_pos h2 (no _ (e2 (by omega)) (by omega))
        · refine rt_neg h2 (rt_b (rt_e (f_within σ v 9) ?_))
          by_cases hv : 0 ≤ v ∧ v ≤ 9
          · rw [if_pos hv]
            refine rt_neg (by omega) ?_
            have e0 := hd (hr g t hg.1 hg.2 ht.1 ht.2)
            repeat (first
    | with_reducible refine rt_b ?_
    | with_reducible refine rt_jn ?_
    | ((with_reducible refine rt_pos ?_ ?_); (· first | omega | ((try simp (disch := omega) only [wr, true_and, and_true, sM_ne, sM_eq, sM_neR, sM_eqR, sK_upM, sK_upR, sL_upM, sL_upR, sN_upM, sN_upR, sT_upM, sT_upR, sN_upM, Int.reduceAdd, Int.reduceMul, Int.reduceSub, Int.reduceNeg, Int.zero_add, Int.add_zero, hF.c, e0 ()]) <;> omega)))
    | ((with_reducible refine rt_neg ?_ ?_); (· first | omega | ((try simp (disch := omega) only [wr, true_and, and_true, sM_ne, sM_eq, sM_neR, sM_eqR, sK_upM, sK_upR, sL_upM, sL_upR, sN_upM, sN_upR, sT_upM, sT_upR, sN_upM, Int.reduceAdd, Int.reduceMul, Int.reduceSub, Int.reduceNeg, Int.zero_add, Int.add_zero, hF.c, e0 ()]) <;> omega)))
    | ((with_reducible refine rt_v ?_ ?_); · simp (disch := omega) only [true_and, and_true, sM_ne, sM_eq, sM_neR, sM_eqR, sK_upM, sK_upR, sL_upM, sL_upR, sN_upM, sN_upR, sT_upM, sT_upR, sN_upM, Int.reduceAdd, Int.reduceMul, Int.reduceSub, Int.reduceNeg, Int.zero_add, Int.add_zero, hF.c, e0 ()])
    | ((with_reducible apply rt_gx); (· simp (disch := omega) only [true_and, and_true, sM_ne, sM_eq, sM_neR, sM_eqR, sK_upM, sK_upR, sL_upM, sL_upR, sN_upM, sN_upR, sT_upM, sT_upR, sN_upM, Int.reduceAdd, Int.reduceMul, Int.reduceSub, Int.reduceNeg, Int.zero_add, Int.add_zero, hF.c, e0 ()]); (· (try simp (disch := omega) only [wr, true_and, and_true, sM_ne, sM_eq, sM_neR, sM_eqR, sK_upM, sK_upR, sL_upM, sL_upR, sN_upM, sN_upR, sT_upM, sT_upR, sN_upM, Int.reduceAdd, Int.reduceMul, Int.reduceSub, Int.reduceNeg, Int.zero_add, Int.add_zero, hF.c, e0 ()]); exact rfl))
    | ((with_reducible apply rt_alx); (· simp (disch := omega) only [true_and, and_true, sM_ne, sM_eq, sM_neR, sM_eqR, sK_upM, sK_upR, sL_upM, sL_upR, sN_upM, sN_upR, sT_upM, sT_upR, sN_upM, Int.reduceAdd, Int.reduceMul, Int.reduceSub, Int.reduceNeg, Int.zero_add, Int.add_zero, hF.c, e0 ()]); (· first | omega | ((try simp (disch := omega) only [wr, true_and, and_true, sM_ne, sM_eq, sM_neR, sM_eqR, sK_upM, sK_upR, sL_upM, sL_upR, sN_upM, sN_upR, sT_upM, sT_upR, sN_upM, Int.reduceAdd, Int.reduceMul, Int.reduceSub, Int.reduceNeg, Int.zero_add, Int.add_zero, hF.c, e0 ()]) <;> omega)); (· (try simp (disch := omega) only [wr, true_and, and_true, sM_ne, sM_eq, sM_neR, sM_eqR, sK_upM, sK_upR, sL_upM, sL_upR, sN_upM, sN_upR, sT_upM, sT_upR, sN_upM, Int.reduceAdd, Int.reduceMul, Int.reduceSub, Int.reduceNeg, Int.zero_add, Int.add_zero, hF.c, e0 ()]); exact rfl))
    | ((with_reducible refine rt_as ?_ ?_ ?_); (· simp (disch := omega) only [true_and, and_true, sM_ne, sM_eq, sM_neR, sM_eqR, sK_upM, sK_upR, sL_upM, sL_upR, sN_upM, sN_upR, sT_upM, sT_upR, sN_upM, Int.reduceAdd, Int.reduceMul, Int.reduceSub, Int.reduceNeg, Int.zero_add, Int.add_zero, hF.c, e0 ()]); (· first | omega | ((try simp (disch := omega) only [wr, true_and, and_true, sM_ne, sM_eq, sM_neR, sM_eqR, sK_upM, sK_upR, sL_upM, sL_upR, sN_upM, sN_upR, sT_upM, sT_upR, sN_upM, Int.reduceAdd, Int.reduceMul, Int.reduceSub, Int.reduceNeg, Int.zero_add, Int.add_zero, hF.c, e0 ()]) <;> omega)))
    | ((with_reducible refine rt_p ?_ ?_ ?_); (· simp (disch := omega) only [true_and, and_true, sM_ne, sM_eq, sM_neR, sM_eqR, sK_upM, sK_upR, sL_upM, sL_upR, sN_upM, sN_upR, sT_upM, sT_upR, sN_upM, Int.reduceAdd, Int.reduceMul, Int.reduceSub, Int.reduceNeg, Int.zero_add, Int.add_zero, hF.c, e0 ()]); (· omega))
    | with_reducible refine rt_ret ?_
    | ((with_reducible apply rt_gwx); (· assumption); (· (try simp (disch := omega) only [wr, true_and, and_true, sM_ne, sM_eq, sM_neR, sM_eqR, sK_upM, sK_upR, sL_upM, sL_upR, sN_upM, sN_upR, sT_upM, sT_upR, sN_upM, Int.reduceAdd, Int.reduceMul, Int.reduceSub, Int.reduceNeg, Int.zero_add, Int.add_zero, hF.c, e0 ()]); exact rfl)))
            obtain ⟨c, rfl⟩ : ∃ c : Nat, t = (c : Int) := ⟨t.toNat, by omega⟩
            refine (l_rt56 (σ := σ) (t := (c : Int)) (rt := rt) hg.1 hg.2 ht.1 (by omega) (by omega) 1000 c σ hF (by omega) (by omega) (by omega) Ch.rf (fun g' t' a0 a1 b0 b1 => ?_)).mono ?_
            · rw [if_neg (by omega)]; exact hr g' t' a0 a1 b0 b1
            · rintro x τ ⟨q1, q2, q3⟩
              refine ⟨?_, q2, ?_⟩
              · unfold rtC
                rw [if_pos ⟨hg, ht⟩, if_pos ⟨⟨by omega, by omega⟩, hv⟩]
                exact q1
              · unfold rtR
                rw [if_pos ⟨⟨hg, ht⟩, ⟨by omega, by omega⟩, hv⟩]
                exact q3
          · rw [if_neg hv]
            exact rt_pos rfl (no _ (e2 (fun q => hv q.2)) (fun q => hv q.2.2))
    · rw [if_neg ht]
      refine rt_pos rfl (no _ ?_ (fun q => ht q.1.2))
      unfold rtC
      rw [if_neg (fun q => ht q.2)]
  · rw [if_neg hg]
    refine rt_pos rfl (no _ ?_ (fun q => hg q.1.1))
    unfold rtC
    rw [if_neg (fun q => hg q.1)]
theorem l_rt52 {σ : ZS} {g t b v r0 : Int} {rt : Int → Int → Int} (g0 : 0 ≤ g) (g1 : g < 2) (t0 : 0 ≤ t) (tb : t < b) (b1 : b ≤ 24) :
    ∀ (N c : Nat) (s : ZS), FxD s → t ≤ (c : Int) → (c : Int) ≤ b → b - (c : Int) < (N : Int) → Ch (fun a _ => a = 65) σ s → (∀ g' t' : Int, 0 ≤ g' → g' < 2 → 0 ≤ t' → t' < 24 → sM s 65 (24 * g' + t') = if g' = g ∧ t ≤ t' ∧ t' < (c : Int) then v else rt g' t') → Rt (lX12_rate_52 64 g b v r0 N s (c : Int)) (fun x τ => x = r0 ∧ Ch (fun a _ => a = 65) σ τ ∧ rMo τ (fun g' t' => if g' = g ∧ t ≤ t' ∧ t' < b then v else rt g' t'))
  | 0, c, s, _, _, h1, h2, _, _ => by omega
  | N + 1, c, s, hF, h0, h1, h2, hc, hz => by
    rw [lX12_rate_52]
    by_cases he : b ≤ (c : Int)
    · refine rt_pos he (rt_ret ⟨rfl, hc, fun g' t' a0 a1 b0 b1 => ?_⟩)
      rw [hz g' t' a0 a1 b0 b1, show (c : Int) = b by omega]
    · refine rt_neg he ?_
      have er := hd (show wrap (wrap (24 * g) + (c : Int)) = 24 * g + (c : Int) by rw [wr (x := 24 * g) (by omega) (by omega), wr (by omega) (by omega)])
      repeat (first
    | with_reducible refine rt_b ?_
    | with_reducible refine rt_jn ?_
    | ((with_reducible refine rt_pos ?_ ?_); (· first | omega | ((try simp (disch := omega) only [wr, true_and, and_true, sM_ne, sM_eq, sM_neR, sM_eqR, sK_upM, sK_upR, sL_upM, sL_upR, sN_upM, sN_upR, sT_upM, sT_upR, sN_upM, Int.reduceAdd, Int.reduceMul, Int.reduceSub, Int.reduceNeg, Int.zero_add, Int.add_zero, hF.c, er ()]) <;> omega)))
    | ((with_reducible refine rt_neg ?_ ?_); (· first | omega | ((try simp (disch := omega) only [wr, true_and, and_true, sM_ne, sM_eq, sM_neR, sM_eqR, sK_upM, sK_upR, sL_upM, sL_upR, sN_upM, sN_upR, sT_upM, sT_upR, sN_upM, Int.reduceAdd, Int.reduceMul, Int.reduceSub, Int.reduceNeg, Int.zero_add, Int.add_zero, hF.c, er ()]) <;> omega)))
    | ((with_reducible refine rt_v ?_ ?_); · simp (disch := omega) only [true_and, and_true, sM_ne, sM_eq, sM_neR, sM_eqR, sK_upM, sK_upR, sL_upM, sL_upR, sN_upM, sN_upR, sT_upM, sT_upR, sN_upM, Int.reduceAdd, Int.reduceMul, Int.reduceSub, Int.reduceNeg, Int.zero_add, Int.add_zero, hF.c, er ()])
    | ((with_reducible apply rt_gx); (· simp (disch := omega) only [true_and, and_true, sM_ne, sM_eq, sM_neR, sM_eqR, sK_upM, sK_upR, sL_upM, sL_upR, sN_upM, sN_upR, sT_upM, sT_upR, sN_upM, Int.reduceAdd, Int.reduceMul, Int.reduceSub, Int.reduceNeg, Int.zero_add, Int.add_zero, hF.c, er ()]); (· (try simp (disch := omega) only [wr, true_and, and_true, sM_ne, sM_eq, sM_neR, sM_eqR, sK_upM, sK_upR, sL_upM, sL_upR, sN_upM, sN_upR, sT_upM, sT_upR, sN_upM, Int.reduceAdd, Int.reduceMul, Int.reduceSub, Int.reduceNeg, Int.zero_add, Int.add_zero, hF.c, er ()]); exact rfl))
    | ((with_reducible apply rt_alx); (· simp (disch := omega) only [true_and, and_true, sM_ne, sM_eq, sM_neR, sM_eqR, sK_upM, sK_upR, sL_upM, sL_upR, sN_upM, sN_upR, sT_upM, sT_upR, sN_upM, Int.reduceAdd, Int.reduceMul, Int.reduceSub, Int.reduceNeg, Int.zero_add, Int.add_zero, hF.c, er ()]); (· first | omega | ((try simp (disch := omega) only [wr, true_and, and_true, sM_ne, sM_eq, sM_neR, sM_eqR, sK_upM, sK_upR, sL_upM, sL_upR, sN_upM, sN_upR, sT_upM, sT_upR, sN_upM, Int.reduceAdd, Int.reduceMul, Int.reduceSub, Int.reduceNeg, Int.zero_add, Int.add_zero, hF.c, er ()]) <;> omega)); (· (try simp (disch := omega) only [wr, true_and, and_true, sM_ne, sM_eq, sM_neR, sM_eqR, sK_upM, sK_upR, sL_upM, sL_upR, sN_upM, sN_upR, sT_upM, sT_upR, sN_upM, Int.reduceAdd, Int.reduceMul, Int.reduceSub, Int.reduceNeg, Int.zero_add, Int.add_zero, hF.c, er ()]); exact rfl))
    | ((with_reducible refine rt_as ?_ ?_ ?_); (· simp (disch := omega) only [true_and, and_true, sM_ne, sM_eq, sM_neR, sM_eqR, sK_upM, sK_upR, sL_upM, sL_upR, sN_upM, sN_upR, sT_upM, sT_upR, sN_upM, Int.reduceAdd, Int.reduceMul, Int.reduceSub, Int.reduceNeg, Int.zero_add, Int.add_zero, hF.c, er ()]); (· first | omega | ((try simp (disch := omega) only [wr, true_and, and_true, sM_ne, sM_eq, sM_neR, sM_eqR, sK_upM, sK_upR, sL_upM, sL_upR, sN_upM, sN_upR, sT_upM, sT_upR, sN_upM, Int.reduceAdd, Int.reduceMul, Int.reduceSub, Int.reduceNeg, Int.zero_add, Int.add_zero, hF.c, er ()]) <;> omega)))
    | ((with_reducible refine rt_p ?_ ?_ ?_); (· simp (disch := omega) only [true_and, and_true, sM_ne, sM_eq, sM_neR, sM_eqR, sK_upM, sK_upR, sL_upM, sL_upR, sN_upM, sN_upR, sT_upM, sT_upR, sN_upM, Int.reduceAdd, Int.reduceMul, Int.reduceSub, Int.reduceNeg, Int.zero_add, Int.add_zero, hF.c, er ()]); (· omega))
    | with_reducible refine rt_ret ?_
    | ((with_reducible apply rt_gwx); (· assumption); (· (try simp (disch := omega) only [wr, true_and, and_true, sM_ne, sM_eq, sM_neR, sM_eqR, sK_upM, sK_upR, sL_upM, sL_upR, sN_upM, sN_upR, sT_upM, sT_upR, sN_upM, Int.reduceAdd, Int.reduceMul, Int.reduceSub, Int.reduceNeg, Int.zero_add, Int.add_zero, hF.c, er ()]); exact rfl)))
      rw [wr1 c (by omega)]
      simp only [er ()]
      refine l_rt52 g0 g1 t0 tb b1 N (c + 1) _ (hF.up (NF_i (by omega))) (by omega) (by omega) (by omega) (hc.up rfl) (fun g' t' a0 a1 b0 b1 => ?_)
      by_cases q : g' = g ∧ t' = (c : Int)
      · rw [sM_eq (by omega), if_pos (by omega)]
      · rw [sM_ne (by omega), hz g' t' a0 a1 b0 b1]
        by_cases q2 : g' = g ∧ t ≤ t' ∧ t' < (c : Int)
        · rw [if_pos q2, if_pos (by omega)]
        · rw [if_neg q2, if_neg (by omega)]
theorem f_rateM {σ : ZS} (hF : FxD σ) {rt : Int → Int → Int} (hr : rMo σ rt) (g t b v : Int) : Rt (fX12_rate σ 64 g t b v) (fun x τ => x = rtC rt g t b v ∧ Ch (fun a _ => a = 65) σ τ ∧ rMo τ (rtR rt g t b v)) := by
  unfold fX12_rate
  have no : ∀ x : Int, x = rtC rt g t b v → ¬ (((0 ≤ g ∧ g < 2) ∧ (0 ≤ t ∧ t < 24)) ∧ ((t < b ∧ b ≤ 24) ∧ (0 ≤ v ∧ v ≤ 9))) → Rt (some (x, σ)) (fun x τ => x = rtC rt g t b v ∧ Ch (fun a _ => a = 65) σ τ ∧ rMo τ (rtR rt g t b v)) := by
    intro x hx hn
    refine rt_ret ⟨hx, Ch.rf, ?_⟩
    unfold rtR
    rw [if_neg hn]
    exact hr
  refine rt_b (rt_e (f_isGateM σ g t) ?_)
  by_cases hg : (0 ≤ g ∧ g < 2) ∧ (0 ≤ t ∧ t < 24)
  · rw [if_pos hg]
    have et := hd (show wrap (t + 1) = t + 1 from wr (by omega) (by omega))
    rw [et ()]
    refine rt_neg (by omega) (rt_b (rt_e (f_in σ b (t + 1) 24) ?_))
    have e2 : ¬ ((t < b ∧ b ≤ 24) ∧ (0 ≤ v ∧ v ≤ 9)) → -2 = rtC rt g t b v := fun q => by
      unfold rtC
      rw [if_pos hg, if_neg q]
    by_cases hb : t + 1 ≤ b ∧ b ≤ 24
    · rw [if_pos hb]
      refine rt_neg (by omega) (rt_b (rt_e (f_in σ v 0 9) ?_))
      by_cases hv : 0 ≤ v ∧ v ≤ 9
      · rw [if_pos hv]
        refine rt_neg (by omega) ?_
        have er := hd (show wrap (wrap (24 * g) + t) = 24 * g + t by rw [wr (x := 24 * g) (by omega) (by omega), wr (by omega) (by omega)])
        have e0 := hd (hr g t hg.1.1 hg.1.2 hg.2.1 hg.2.2)
        repeat (first
    | with_reducible refine rt_b ?_
    | with_reducible refine rt_jn ?_
    | ((with_reducible refine rt_pos ?_ ?_); (· first | omega | ((try simp (disch := omega) only [wr, true_and, and_true, sM_ne, sM_eq, sM_neR, sM_eqR, sK_upM, sK_upR, sL_upM, sL_upR, sN_upM, sN_upR, sT_upM, sT_upR, sN_upM, Int.reduceAdd, Int.reduceMul, Int.reduceSub, Int.reduceNeg, Int.zero_add, Int.add_zero, hF.c, er (), e0 ()]) <;> omega)))
    | ((with_reducible refine rt_neg ?_ ?_); (· first | omega | ((try simp (disch := omega) only [wr, true_and, and_true, sM_ne, sM_eq, sM_neR, sM_eqR, sK_upM, sK_upR, sL_upM, sL_upR, sN_upM, sN_upR, sT_upM, sT_upR, sN_upM, Int.reduceAdd, Int.reduceMul, Int.reduceSub, Int.reduceNeg, Int.zero_add, Int.add_zero, hF.c, er (), e0 ()]) <;> omega)))
    | ((with_reducible refine rt_v ?_ ?_); · simp (disch := omega) only [true_and, and_true, sM_ne, sM_eq, sM_neR, sM_eqR, sK_upM, sK_upR, sL_upM, sL_upR, sN_upM, sN_upR, sT_upM, sT_upR, sN_upM, Int.reduceAdd, Int.reduceMul, Int.reduceSub, Int.reduceNeg, Int.zero_add, Int.add_zero, hF.c, er (), e0 ()])
    | ((with_reducible apply rt_gx); (· simp (disch := omega) only [true_and, and_true, sM_ne, sM_eq, sM_neR, sM_eqR, sK_upM, sK_upR, sL_upM, sL_upR, sN_upM, sN_upR, sT_upM, sT_upR, sN_upM, Int.reduceAdd, Int.reduceMul, Int.reduceSub, Int.reduceNeg, Int.zero_add, Int.add_zero, hF.c, er (), e0 ()]); (· (try simp (disch := omega) only [wr, true_and, and_true, sM_ne, sM_eq, sM_neR, sM_eqR, sK_upM, sK_upR, sL_upM, sL_upR, sN_upM, sN_upR, sT_upM, sT_upR, sN_upM, Int.reduceAdd, Int.reduceMul, Int.reduceSub, Int.reduceNeg, Int.zero_add, Int.add_zero, hF.c, er (), e0 ()]); exact rfl))
    | ((with_reducible apply rt_alx); (· simp (disch := omega) only [true_and, and_true, sM_ne, sM_eq, sM_neR, sM_eqR, sK_upM, sK_upR, sL_upM, sL_upR, sN_upM, sN_upR, sT_upM, sT_upR, sN_upM, Int.reduceAdd, Int.reduceMul, Int.reduceSub, Int.reduceNeg, Int.zero_add, Int.add_zero, hF.c, er (), e0 ()]); (· first | omega | ((try simp (disch := omega) only [wr, true_and, and_true, sM_ne, sM_eq, sM_neR, sM_eqR, sK_upM, sK_upR, sL_upM, sL_upR, sN_upM, sN_upR, sT_upM, sT_upR, sN_upM, Int.reduceAdd, Int.reduceMul, Int.reduceSub, Int.reduceNeg, Int.zero_add, Int.add_zero, hF.c, er (), e0 ()]) <;> omega)); (· (try simp (disch := omega) only [wr, true_and, and_true, sM_ne, sM_eq, sM_neR, sM_eqR, sK_upM, sK_upR, sL_upM, sL_upR, sN_upM, sN_upR, sT_upM, sT_upR, sN_upM, Int.reduceAdd, Int.reduceMul, Int.reduceSub, Int.reduceNeg, Int.zero_add, Int.add_zero, hF.c, er (), e0 ()]); exact rfl))
    | ((with_reducible refine rt_as ?_ ?_ ?_); (· simp (disch := omega) only [true_and, and_true, sM_ne, sM_eq, sM_neR, sM_eqR, sK_upM, sK_upR, sL_upM, sL_upR, sN_upM, sN_upR, sT_upM, sT_upR, sN_upM, Int.reduceAdd, Int.reduceMul, Int.reduceSub, Int.reduceNeg, Int.zero_add, Int.add_zero, hF.c, er (), e0 ()]); (· first | omega | ((try simp (disch := omega) only [wr, true_and, and_true, sM_ne, sM_eq, sM_neR, sM_eqR, sK_upM, sK_upR, sL_upM, sL_upR, sN_upM, sN_upR, sT_upM, sT_upR, sN_upM, Int.reduceAdd, Int.reduceMul, Int.reduceSub, Int.reduceNeg, Int.zero_add, Int.add_zero, hF.c, er (), e0 ()]) <;> omega)))
    | ((with_reducible refine rt_p ?_ ?_ ?_); (· simp (disch := omega) only [true_and, and_true, sM_ne, sM_eq, sM_neR, sM_eqR, sK_upM, sK_upR, sL_upM, sL_upR, sN_upM, sN_upR, sT_upM, sT_upR, sN_upM, Int.reduceAdd, Int.reduceMul, Int.reduceSub, Int.reduceNeg, Int.zero_add, Int.add_zero, hF.c, er (), e0 ()]); (· omega))
    | with_reducible refine rt_ret ?_
    | ((with_reducible apply rt_gwx); (· assumption); (· (try simp (disch := omega) only [wr, true_and, and_true, sM_ne, sM_eq, sM_neR, sM_eqR, sK_upM, sK_upR, sL_upM, sL_upR, sN_upM, sN_upR, sT_upM, sT_upR, sN_upM, Int.reduceAdd, Int.reduceMul, Int.reduceSub, Int.reduceNeg, Int.zero_add, Int.add_zero, hF.c, er (), e0 ()]); exact rfl)))
        obtain ⟨c, rfl⟩ : ∃ c : Nat, t = (c : Int) := ⟨t.toNat, by omega⟩
        refine (l_rt52 (σ := σ) (t := (c : Int)) (rt := rt) hg.1.1 hg.1.2 hg.2.1 (by omega) (by omega) 1000 c σ hF (by omega) (by omega) (by omega) Ch.rf (fun g' t' a0 a1 b0 b1 => ?_)).mono ?_
        · rw [if_neg (by omega)]; exact hr g' t' a0 a1 b0 b1
        · rintro x τ ⟨q1, q2, q3⟩
          refine ⟨?_, q2, ?_⟩
          · unfold rtC
            rw [if_pos hg, if_pos ⟨⟨by omega, by omega⟩, hv⟩]
            exact q1
          · unfold rtR
            rw [if_pos ⟨hg, ⟨by omega, by omega⟩, hv⟩]
            exact q3
      · rw [if_neg hv]
        exact rt_pos rfl (no _ (e2 (fun q => hv q.2)) (fun q => hv q.2.2))
    · rw [if_neg hb]
      exact rt_pos rfl (no _ (e2 (by omega)) (by omega))
  · rw [if_neg hg]
    refine rt_pos rfl (no _ ?_ (fun q => hg q.1))
    unfold rtC
    rw [if_neg hg]
theorem Rel.rates {σ ρ : ZS} (h : Rel σ) {rt : Int → Int → Int} (c : Ch (fun a _ => (7 ≤ a ∧ a ≤ 8) ∨ a = 65) σ ρ) (h1 : rCl ρ rt) (h2 : rMo ρ rt) (h3 : rIn rt) : Rel ρ := by
  have h9 := h.F.2.2.2
  refine h.gate c.1 (fun a i q => by unfold pGate; omega) (fun g t g0 g1 t0 t1 => ?_)
  obtain ⟨-, x, -, y⟩ := h.G g t g0 g1 t0 t1
  rw [h1 g t g0 g1 t0 t1, h2 g t g0 g1 t0 t1, c.M (by omega) (by omega), c.M (by omega) (by omega)]
  exact ⟨rfl, x, h3 g t g0 g1 t0 t1, y⟩
theorem Rel.rC {σ : ZS} (h : Rel σ) : rCl σ (vrt σ) ∧ rMo σ (vrt σ) ∧ rIn (vrt σ) := ⟨fun g t g0 g1 t0 t1 => (h.G g t g0 g1 t0 t1).1, fun _ _ _ _ _ _ => rfl, fun g t g0 g1 t0 t1 => (h.G g t g0 g1 t0 t1).2.2.1⟩
theorem q_rate {σ : ZS} (h : Rel σ) (g t b v : Int) : Rt (fX11_rate σ 3 g t b v) (fun x τ => Rt (fX12_rate τ 64 g t b v) (fun y ρ => Fin σ x y ρ)) := by
  have h9 := h.F.2.2.2
  refine (f_rateC h.F h.rC.1 g t b v).mono ?_
  rintro x τ ⟨e1, hcτ, hr1⟩
  have hFτ := hcτ.Fx h.F (fun a i q => NF_i (by omega))
  refine (f_rateM hFτ (rt := vrt σ) (fun g t g0 g1 t0 t1 => ?_) g t b v).mono ?_
  · rw [hcτ.M (by omega) (by omega)]; rfl
  · rintro y ρ ⟨e2, hcρ, hr2⟩
    have hc := (hcτ.mono (fun a i q => (Or.inl q : (7 ≤ a ∧ a ≤ 8) ∨ a = 65))).tr (hcρ.mono (fun a i q => Or.inr q))
    refine finS (by rw [e1, e2]) (h.rates hc (fun g' t' a0 a1 b0 b1 => ?_) hr2 (rtR_in h.rC.2.2)) hc.2
    rw [hcρ.M (by have := hcτ.2.1; omega) (by omega)]
    exact hr1 g' t' a0 a1 b0 b1
/-! from a sheet -/
def rtsF (cl : Int → Int) (sz : Int) : Nat → Int → Int → (Int → Int → Int) → Int × (Int → Int → Int)
  | 0, _, n, rt => (n, rt)
  | m + 1, x, n, rt => if x < 0 ∨ sz - 4 < x then (-12, rt) else rtsF cl sz m (x + 4) (if rtC rt (cl x) (cl (x + 1)) (cl (x + 2)) (cl (x + 3)) < 0 then n else n + 1) (rtR rt (cl x) (cl (x + 1)) (cl (x + 2)) (cl (x + 3)))
theorem f_reaches {σ : ZS} {S z x m : Int} (hk : sK σ S = 6) (hz : sM σ S 2 = z) (z0 : 0 ≤ z) (z1 : z ≤ 40) (hm : -2147483648 ≤ m ∧ m < 2147483648) : fX6_reaches σ S x m = some (if 0 ≤ x ∧ 0 ≤ m ∧ x ≤ z - m then 1 else 0, σ) := by
  refine rt_is ?_
  unfold fX6_reaches
  by_cases h1 : x < 0
  · exact rt_pos h1 (rt_ret ⟨by rw [if_neg (by omega)], rfl⟩)
  · refine rt_neg h1 ?_
    by_cases h2 : m < 0
    · exact rt_pos h2 (rt_ret ⟨by rw [if_neg (by omega)], rfl⟩)
    · refine rt_neg h2 (rt_gx hk hz ?_)
      have ew : wrap (z - m) = z - m := wr (by omega) (by omega)
      rw [ew]
      by_cases h3 : z - m < x
      · exact rt_pos h3 (rt_ret ⟨by rw [if_neg (by omega)], rfl⟩)
      · exact rt_neg h3 (rt_ret ⟨by rw [if_pos (by omega)], rfl⟩)
theorem l_rs68 {σ : ZS} {s z cnt : Int} {cl : Int → Int} (s0 : 0 ≤ s) (s1 : s < 4) (z0 : 0 ≤ z) (z1 : z ≤ 40) (hcnt : cnt ≤ 10) :
    ∀ (N c : Nat) (τ : ZS) (n x : Int) (rt : Int → Int → Int), FxD τ → Ch (fun a _ => 7 ≤ a ∧ a ≤ 8) σ τ → sM τ (56 + 2 * s) 2 = z → (∀ i : Int, 0 ≤ i → i < 40 → sM τ (57 + 2 * s) i = cl i) → rCl τ rt → (c : Int) ≤ cnt → cnt - (c : Int) < (N : Int) → 0 ≤ n → n ≤ (c : Int) → -2147483648 ≤ x → x < 2147483648 → Rt (lX11_rates_68 3 cnt (56 + 2 * s) N τ n x (c : Int)) (fun v ρ => v = (rtsF cl z (cnt - (c : Int)).toNat x n rt).1 ∧ Ch (fun a _ => 7 ≤ a ∧ a ≤ 8) σ ρ ∧ rCl ρ (rtsF cl z (cnt - (c : Int)).toNat x n rt).2)
  | 0, c, τ, n, x, rt, _, _, _, _, _, h1, h2, _, _, _, _ => by omega
  | N + 1, c, τ, n, x, rt, hF, hc, hz, hcl, hr, h1, h2, n0, n1, x0, x1 => by
    rw [lX11_rates_68]
    by_cases he : cnt ≤ (c : Int)
    · refine rt_pos he (rt_ret ?_)
      rw [show (cnt - (c : Int)).toNat = 0 by omega]
      exact ⟨rfl, hc, hr⟩
    · refine rt_neg he ?_
      obtain ⟨m, hm⟩ : ∃ m : Nat, (cnt - (c : Int)).toNat = m + 1 := ⟨(cnt - (c : Int)).toNat - 1, by omega⟩
      rw [hm]
      unfold rtsF
      refine rt_b (rt_v (by simp (disch := omega) only [true_and, and_true, sM_ne, sM_eq, sM_neR, sM_eqR, sK_upM, sK_upR, sL_upM, sL_upR, sN_upM, sN_upR, sT_upM, sT_upR, sN_upM, Int.reduceAdd, Int.reduceMul, Int.reduceSub, Int.reduceNeg, Int.zero_add, Int.add_zero, hF.c]) (rt_e (f_reaches (by simp (disch := omega) only [true_and, and_true, sM_ne, sM_eq, sM_neR, sM_eqR, sK_upM, sK_upR, sL_upM, sL_upR, sN_upM, sN_upR, sT_upM, sT_upR, sN_upM, Int.reduceAdd, Int.reduceMul, Int.reduceSub, Int.reduceNeg, Int.zero_add, Int.add_zero, hF.c]) hz z0 z1 (by omega)) ?_))
      by_cases hx : x < 0 ∨ z - 4 < x
      · rw [if_neg (show ¬ (0 ≤ x ∧ (0 : Int) ≤ 4 ∧ x ≤ z - 4) by omega), if_pos hx]
        exact rt_pos rfl (rt_ret ⟨rfl, hc, hr⟩)
      · rw [if_pos (show 0 ≤ x ∧ (0 : Int) ≤ 4 ∧ x ≤ z - 4 by omega), if_neg hx]
        refine rt_neg (by omega) ?_
        have w1 := hd (show wrap (x + 1) = x + 1 from wr (by omega) (by omega))
        have w2 := hd (show wrap (x + 2) = x + 2 from wr (by omega) (by omega))
        have w3 := hd (show wrap (x + 3) = x + 3 from wr (by omega) (by omega))
        have c0 := hd (hcl x (by omega) (by omega))
        have c1 := hd (hcl (x + 1) (by omega) (by omega))
        have c2 := hd (hcl (x + 2) (by omega) (by omega))
        have c3 := hd (hcl (x + 3) (by omega) (by omega))
        refine rt_gx (x := 57 + 2 * s) (by simp (disch := omega) only [true_and, and_true, sM_ne, sM_eq, sM_neR, sM_eqR, sK_upM, sK_upR, sL_upM, sL_upR, sN_upM, sN_upR, sT_upM, sT_upR, sN_upM, Int.reduceAdd, Int.reduceMul, Int.reduceSub, Int.reduceNeg, Int.zero_add, Int.add_zero, hF.c]) (by simp (disch := omega) only [true_and, and_true, sM_ne, sM_eq, sM_neR, sM_eqR, sK_upM, sK_upR, sL_upM, sL_upR, sN_upM, sN_upR, sT_upM, sT_upR, sN_upM, Int.reduceAdd, Int.reduceMul, Int.reduceSub, Int.reduceNeg, Int.zero_add, Int.add_zero, hF.c]) ?_
        refine rt_alx (x := cl x) (by simp (disch := omega) only [true_and, and_true, sM_ne, sM_eq, sM_neR, sM_eqR, sK_upM, sK_upR, sL_upM, sL_upR, sN_upM, sN_upR, sT_upM, sT_upR, sN_upM, Int.reduceAdd, Int.reduceMul, Int.reduceSub, Int.reduceNeg, Int.zero_add, Int.add_zero, hF.c]) (by simp (disch := omega) only [true_and, and_true, sM_ne, sM_eq, sM_neR, sM_eqR, sK_upM, sK_upR, sL_upM, sL_upR, sN_upM, sN_upR, sT_upM, sT_upR, sN_upM, Int.reduceAdd, Int.reduceMul, Int.reduceSub, Int.reduceNeg, Int.zero_add, Int.add_zero, hF.c]; omega) (c0 ()) ?_
        refine rt_alx (x := cl (x + 1)) (by simp (disch := omega) only [true_and, and_true, sM_ne, sM_eq, sM_neR, sM_eqR, sK_upM, sK_upR, sL_upM, sL_upR, sN_upM, sN_upR, sT_upM, sT_upR, sN_upM, Int.reduceAdd, Int.reduceMul, Int.reduceSub, Int.reduceNeg, Int.zero_add, Int.add_zero, hF.c]) (by rw [w1 ()]; simp (disch := omega) only [true_and, and_true, sM_ne, sM_eq, sM_neR, sM_eqR, sK_upM, sK_upR, sL_upM, sL_upR, sN_upM, sN_upR, sT_upM, sT_upR, sN_upM, Int.reduceAdd, Int.reduceMul, Int.reduceSub, Int.reduceNeg, Int.zero_add, Int.add_zero, hF.c]; omega) (by rw [w1 ()]; exact c1 ()) ?_
        refine rt_alx (x := cl (x + 2)) (by simp (disch := omega) only [true_and, and_true, sM_ne, sM_eq, sM_neR, sM_eqR, sK_upM, sK_upR, sL_upM, sL_upR, sN_upM, sN_upR, sT_upM, sT_upR, sN_upM, Int.reduceAdd, Int.reduceMul, Int.reduceSub, Int.reduceNeg, Int.zero_add, Int.add_zero, hF.c]) (by rw [w2 ()]; simp (disch := omega) only [true_and, and_true, sM_ne, sM_eq, sM_neR, sM_eqR, sK_upM, sK_upR, sL_upM, sL_upR, sN_upM, sN_upR, sT_upM, sT_upR, sN_upM, Int.reduceAdd, Int.reduceMul, Int.reduceSub, Int.reduceNeg, Int.zero_add, Int.add_zero, hF.c]; omega) (by rw [w2 ()]; exact c2 ()) ?_
        refine rt_alx (x := cl (x + 3)) (by simp (disch := omega) only [true_and, and_true, sM_ne, sM_eq, sM_neR, sM_eqR, sK_upM, sK_upR, sL_upM, sL_upR, sN_upM, sN_upR, sT_upM, sT_upR, sN_upM, Int.reduceAdd, Int.reduceMul, Int.reduceSub, Int.reduceNeg, Int.zero_add, Int.add_zero, hF.c]) (by rw [w3 ()]; simp (disch := omega) only [true_and, and_true, sM_ne, sM_eq, sM_neR, sM_eqR, sK_upM, sK_upR, sL_upM, sL_upR, sN_upM, sN_upR, sT_upM, sT_upR, sN_upM, Int.reduceAdd, Int.reduceMul, Int.reduceSub, Int.reduceNeg, Int.zero_add, Int.add_zero, hF.c]; omega) (by rw [w3 ()]; exact c3 ()) ?_
        refine rt_b (rt_v (by simp (disch := omega) only [true_and, and_true, sM_ne, sM_eq, sM_neR, sM_eqR, sK_upM, sK_upR, sL_upM, sL_upR, sN_upM, sN_upR, sT_upM, sT_upR, sN_upM, Int.reduceAdd, Int.reduceMul, Int.reduceSub, Int.reduceNeg, Int.zero_add, Int.add_zero, hF.c]) ?_)
        refine Rt.mono (f_rateC hF hr (cl x) (cl (x + 1)) (cl (x + 2)) (cl (x + 3))) ?_
        rintro v ρ ⟨e, hcρ, hrρ⟩
        have h9 := hF.2.2.2
        have hFρ := hcρ.Fx hF (fun a i q => NF_i (by omega))
        have next : ∀ n' : Int, n' = (if v < 0 then n else n + 1) → Rt (lX11_rates_68 3 cnt (56 + 2 * s) N ρ n' (wrap (x + 4)) (wrap ((c : Int) + 1))) (fun v ρ => v = (rtsF cl z m (x + 4) (if rtC rt (cl x) (cl (x + 1)) (cl (x + 2)) (cl (x + 3)) < 0 then n else n + 1) (rtR rt (cl x) (cl (x + 1)) (cl (x + 2)) (cl (x + 3)))).1 ∧ Ch (fun a _ => 7 ≤ a ∧ a ≤ 8) σ ρ ∧ rCl ρ (rtsF cl z m (x + 4) (if rtC rt (cl x) (cl (x + 1)) (cl (x + 2)) (cl (x + 3)) < 0 then n else n + 1) (rtR rt (cl x) (cl (x + 1)) (cl (x + 2)) (cl (x + 3)))).2) := by
          intro n' hn'
          rw [← e, ← hn', wr1 c (by omega), wr (x := x + 4) (by omega) (by omega)]
          have := l_rs68 (cl := cl) s0 s1 z0 z1 hcnt N (c + 1) ρ n' (x + 4) (rtR rt (cl x) (cl (x + 1)) (cl (x + 2)) (cl (x + 3))) hFρ (hc.tr hcρ) (by rw [hcρ.M (by omega) (by omega)]; exact hz) (fun i i0 i1 => by rw [hcρ.M (by omega) (by omega)]; exact hcl i i0 i1) hrρ (by omega) (by omega) (by split at hn' <;> omega) (by split at hn' <;> omega) (by omega) (by omega)
          rw [show (cnt - ((c + 1 : Nat) : Int)).toNat = m by omega] at this
          exact this
        by_cases hv : v < 0
        · exact rt_jn (rt_pos hv (next _ (by rw [if_pos hv])))
        · exact rt_jn (rt_neg hv (next _ (by rw [if_neg hv, wr (by omega) (by omega)])))
theorem l_rs64 {σ : ZS} {s z cnt fr : Int} {cl : Int → Int} (s0 : 0 ≤ s) (s1 : s < 4) (z0 : 0 ≤ z) (z1 : z ≤ 40) (hcnt : cnt ≤ 10) (f0 : -2147483648 ≤ fr) (f1 : fr < 2147483648) :
    ∀ (N c : Nat) (τ : ZS) (n : Int) (rt : Int → Int → Int), FxD τ → Ch (fun a _ => a = 65) σ τ → sM τ 82 s = z → (∀ i : Int, 0 ≤ i → i < 40 → sM τ 83 (40 * s + i) = cl i) → rMo τ rt → (c : Int) ≤ cnt → cnt - (c : Int) < (N : Int) → 0 ≤ n → n ≤ (c : Int) → (c = 0 ∨ (0 ≤ fr ∧ fr + 4 * (c : Int) ≤ 40)) → Rt (lX12_rates_64 64 s fr cnt N τ n (c : Int)) (fun v ρ => v = (rtsF cl z (cnt - (c : Int)).toNat (fr + 4 * (c : Int)) n rt).1 ∧ Ch (fun a _ => a = 65) σ ρ ∧ rMo ρ (rtsF cl z (cnt - (c : Int)).toNat (fr + 4 * (c : Int)) n rt).2)
  | 0, c, τ, n, rt, _, _, _, _, _, h1, h2, _, _, _ => by omega
  | N + 1, c, τ, n, rt, hF, hc, hz, hcl, hr, h1, h2, n0, n1, hfc => by
    rw [lX12_rates_64]
    by_cases he : cnt ≤ (c : Int)
    · refine rt_pos he (rt_ret ?_)
      rw [show (cnt - (c : Int)).toNat = 0 by omega]
      exact ⟨rfl, hc, hr⟩
    · refine rt_neg he ?_
      obtain ⟨m, hm⟩ : ∃ m : Nat, (cnt - (c : Int)).toNat = m + 1 := ⟨(cnt - (c : Int)).toNat - 1, by omega⟩
      rw [hm]
      unfold rtsF
      by_cases hneg : fr < 0
      · rw [if_pos (show fr + 4 * (c : Int) < 0 ∨ z - 4 < fr + 4 * (c : Int) by omega)]
        exact rt_pos hneg (rt_ret ⟨rfl, hc, hr⟩)
      · refine rt_neg hneg ?_
        have ex := hd (show wrap (fr + wrap (4 * (c : Int))) = fr + 4 * (c : Int) by
          rw [wr (x := 4 * (c : Int)) (by omega) (by omega)]
          rcases hfc with rfl | hfc
          · exact wr (by omega) (by omega)
          · exact wr (by omega) (by omega))
        simp only [ex ()]
        refine rt_neg (by omega) ?_
        generalize hxe : fr + 4 * (c : Int) = x at *
        replace hz := hd hz
        refine rt_gx (x := 82) (by simp (disch := omega) only [true_and, and_true, sM_ne, sM_eq, sM_neR, sM_eqR, sK_upM, sK_upR, sL_upM, sL_upR, sN_upM, sN_upR, sT_upM, sT_upR, sN_upM, Int.reduceAdd, Int.reduceMul, Int.reduceSub, Int.reduceNeg, Int.zero_add, Int.add_zero, hF.c]) (by simp (disch := omega) only [true_and, and_true, sM_ne, sM_eq, sM_neR, sM_eqR, sK_upM, sK_upR, sL_upM, sL_upR, sN_upM, sN_upR, sT_upM, sT_upR, sN_upM, Int.reduceAdd, Int.reduceMul, Int.reduceSub, Int.reduceNeg, Int.zero_add, Int.add_zero, hF.c]) ?_
        refine rt_alx (x := z) (by simp (disch := omega) only [true_and, and_true, sM_ne, sM_eq, sM_neR, sM_eqR, sK_upM, sK_upR, sL_upM, sL_upR, sN_upM, sN_upR, sT_upM, sT_upR, sN_upM, Int.reduceAdd, Int.reduceMul, Int.reduceSub, Int.reduceNeg, Int.zero_add, Int.add_zero, hF.c]) (by simp (disch := omega) only [true_and, and_true, sM_ne, sM_eq, sM_neR, sM_eqR, sK_upM, sK_upR, sL_upM, sL_upR, sN_upM, sN_upR, sT_upM, sT_upR, sN_upM, Int.reduceAdd, Int.reduceMul, Int.reduceSub, Int.reduceNeg, Int.zero_add, Int.add_zero, hF.c]; omega) (hz ()) ?_
        have e4 := hd (show wrap (z - 4) = z - 4 from wr (by omega) (by omega))
        simp only [e4 ()]
        by_cases hx : x ≤ z - 4
        · rw [if_neg (show ¬ (x < 0 ∨ z - 4 < x) by omega)]
          refine rt_pos hx ?_
          have w0 := hd (show wrap (wrap (40 * s) + x) = 40 * s + x by rw [wr (x := 40 * s) (by omega) (by omega), wr (by omega) (by omega)])
          simp only [w0 ()]
          have w1 := hd (show wrap (40 * s + x + 1) = 40 * s + (x + 1) by rw [wr (by omega) (by omega)]; omega)
          have w2 := hd (show wrap (40 * s + x + 2) = 40 * s + (x + 2) by rw [wr (by omega) (by omega)]; omega)
          have w3 := hd (show wrap (40 * s + x + 3) = 40 * s + (x + 3) by rw [wr (by omega) (by omega)]; omega)
          simp only [w1 (), w2 (), w3 ()]
          have c0 := hd (hcl x (by omega) (by omega))
          have c1 := hd (hcl (x + 1) (by omega) (by omega))
          have c2 := hd (hcl (x + 2) (by omega) (by omega))
          have c3 := hd (hcl (x + 3) (by omega) (by omega))
          refine rt_gx (x := 83) (by simp (disch := omega) only [true_and, and_true, sM_ne, sM_eq, sM_neR, sM_eqR, sK_upM, sK_upR, sL_upM, sL_upR, sN_upM, sN_upR, sT_upM, sT_upR, sN_upM, Int.reduceAdd, Int.reduceMul, Int.reduceSub, Int.reduceNeg, Int.zero_add, Int.add_zero, hF.c]) (by simp (disch := omega) only [true_and, and_true, sM_ne, sM_eq, sM_neR, sM_eqR, sK_upM, sK_upR, sL_upM, sL_upR, sN_upM, sN_upR, sT_upM, sT_upR, sN_upM, Int.reduceAdd, Int.reduceMul, Int.reduceSub, Int.reduceNeg, Int.zero_add, Int.add_zero, hF.c]) ?_
          refine rt_alx (x := cl x) (by simp (disch := omega) only [true_and, and_true, sM_ne, sM_eq, sM_neR, sM_eqR, sK_upM, sK_upR, sL_upM, sL_upR, sN_upM, sN_upR, sT_upM, sT_upR, sN_upM, Int.reduceAdd, Int.reduceMul, Int.reduceSub, Int.reduceNeg, Int.zero_add, Int.add_zero, hF.c]) (by simp (disch := omega) only [true_and, and_true, sM_ne, sM_eq, sM_neR, sM_eqR, sK_upM, sK_upR, sL_upM, sL_upR, sN_upM, sN_upR, sT_upM, sT_upR, sN_upM, Int.reduceAdd, Int.reduceMul, Int.reduceSub, Int.reduceNeg, Int.zero_add, Int.add_zero, hF.c]; omega) (c0 ()) ?_
          refine rt_gx (x := 83) (by simp (disch := omega) only [true_and, and_true, sM_ne, sM_eq, sM_neR, sM_eqR, sK_upM, sK_upR, sL_upM, sL_upR, sN_upM, sN_upR, sT_upM, sT_upR, sN_upM, Int.reduceAdd, Int.reduceMul, Int.reduceSub, Int.reduceNeg, Int.zero_add, Int.add_zero, hF.c]) (by simp (disch := omega) only [true_and, and_true, sM_ne, sM_eq, sM_neR, sM_eqR, sK_upM, sK_upR, sL_upM, sL_upR, sN_upM, sN_upR, sT_upM, sT_upR, sN_upM, Int.reduceAdd, Int.reduceMul, Int.reduceSub, Int.reduceNeg, Int.zero_add, Int.add_zero, hF.c]) ?_
          refine rt_alx (x := cl (x + 1)) (by simp (disch := omega) only [true_and, and_true, sM_ne, sM_eq, sM_neR, sM_eqR, sK_upM, sK_upR, sL_upM, sL_upR, sN_upM, sN_upR, sT_upM, sT_upR, sN_upM, Int.reduceAdd, Int.reduceMul, Int.reduceSub, Int.reduceNeg, Int.zero_add, Int.add_zero, hF.c]) (by simp (disch := omega) only [true_and, and_true, sM_ne, sM_eq, sM_neR, sM_eqR, sK_upM, sK_upR, sL_upM, sL_upR, sN_upM, sN_upR, sT_upM, sT_upR, sN_upM, Int.reduceAdd, Int.reduceMul, Int.reduceSub, Int.reduceNeg, Int.zero_add, Int.add_zero, hF.c]; omega) (c1 ()) ?_
          refine rt_gx (x := 83) (by simp (disch := omega) only [true_and, and_true, sM_ne, sM_eq, sM_neR, sM_eqR, sK_upM, sK_upR, sL_upM, sL_upR, sN_upM, sN_upR, sT_upM, sT_upR, sN_upM, Int.reduceAdd, Int.reduceMul, Int.reduceSub, Int.reduceNeg, Int.zero_add, Int.add_zero, hF.c]) (by simp (disch := omega) only [true_and, and_true, sM_ne, sM_eq, sM_neR, sM_eqR, sK_upM, sK_upR, sL_upM, sL_upR, sN_upM, sN_upR, sT_upM, sT_upR, sN_upM, Int.reduceAdd, Int.reduceMul, Int.reduceSub, Int.reduceNeg, Int.zero_add, Int.add_zero, hF.c]) ?_
          refine rt_alx (x := cl (x + 2)) (by simp (disch := omega) only [true_and, and_true, sM_ne, sM_eq, sM_neR, sM_eqR, sK_upM, sK_upR, sL_upM, sL_upR, sN_upM, sN_upR, sT_upM, sT_upR, sN_upM, Int.reduceAdd, Int.reduceMul, Int.reduceSub, Int.reduceNeg, Int.zero_add, Int.add_zero, hF.c]) (by simp (disch := omega) only [true_and, and_true, sM_ne, sM_eq, sM_neR, sM_eqR, sK_upM, sK_upR, sL_upM, sL_upR, sN_upM, sN_upR, sT_upM, sT_upR, sN_upM, Int.reduceAdd, Int.reduceMul, Int.reduceSub, Int.reduceNeg, Int.zero_add, Int.add_zero, hF.c]; omega) (c2 ()) ?_
          refine rt_gx (x := 83) (by simp (disch := omega) only [true_and, and_true, sM_ne, sM_eq, sM_neR, sM_eqR, sK_upM, sK_upR, sL_upM, sL_upR, sN_upM, sN_upR, sT_upM, sT_upR, sN_upM, Int.reduceAdd, Int.reduceMul, Int.reduceSub, Int.reduceNeg, Int.zero_add, Int.add_zero, hF.c]) (by simp (disch := omega) only [true_and, and_true, sM_ne, sM_eq, sM_neR, sM_eqR, sK_upM, sK_upR, sL_upM, sL_upR, sN_upM, sN_upR, sT_upM, sT_upR, sN_upM, Int.reduceAdd, Int.reduceMul, Int.reduceSub, Int.reduceNeg, Int.zero_add, Int.add_zero, hF.c]) ?_
          refine rt_alx (x := cl (x + 3)) (by simp (disch := omega) only [true_and, and_true, sM_ne, sM_eq, sM_neR, sM_eqR, sK_upM, sK_upR, sL_upM, sL_upR, sN_upM, sN_upR, sT_upM, sT_upR, sN_upM, Int.reduceAdd, Int.reduceMul, Int.reduceSub, Int.reduceNeg, Int.zero_add, Int.add_zero, hF.c]) (by simp (disch := omega) only [true_and, and_true, sM_ne, sM_eq, sM_neR, sM_eqR, sK_upM, sK_upR, sL_upM, sL_upR, sN_upM, sN_upR, sT_upM, sT_upR, sN_upM, Int.reduceAdd, Int.reduceMul, Int.reduceSub, Int.reduceNeg, Int.zero_add, Int.add_zero, hF.c]; omega) (c3 ()) ?_
          refine rt_b (rt_v (by simp (disch := omega) only [true_and, and_true, sM_ne, sM_eq, sM_neR, sM_eqR, sK_upM, sK_upR, sL_upM, sL_upR, sN_upM, sN_upR, sT_upM, sT_upR, sN_upM, Int.reduceAdd, Int.reduceMul, Int.reduceSub, Int.reduceNeg, Int.zero_add, Int.add_zero, hF.c]) ?_)
          refine Rt.mono (f_rateM hF hr (cl x) (cl (x + 1)) (cl (x + 2)) (cl (x + 3))) ?_
          rintro v ρ ⟨e, hcρ, hrρ⟩
          have h9 := hF.2.2.2
          have hFρ := hcρ.Fx hF (fun a i q => NF_i (by omega))
          have next : ∀ n' : Int, wrap (n + n') = (if v < 0 then n else n + 1) → Rt (lX12_rates_64 64 s fr cnt N ρ (wrap (n + n')) (wrap ((c : Int) + 1))) (fun v ρ => v = (rtsF cl z m (x + 4) (if rtC rt (cl x) (cl (x + 1)) (cl (x + 2)) (cl (x + 3)) < 0 then n else n + 1) (rtR rt (cl x) (cl (x + 1)) (cl (x + 2)) (cl (x + 3)))).1 ∧ Ch (fun a _ => a = 65) σ ρ ∧ rMo ρ (rtsF cl z m (x + 4) (if rtC rt (cl x) (cl (x + 1)) (cl (x + 2)) (cl (x + 3)) < 0 then n else n + 1) (rtR rt (cl x) (cl (x + 1)) (cl (x + 2)) (cl (x + 3)))).2) := by
            intro n' hn'
            rw [← e, ← hn', wr1 c (by omega)]
            generalize wrap (n + n') = n'' at *
            have := l_rs64 (cl := cl) s0 s1 z0 z1 hcnt f0 f1 N (c + 1) ρ n'' (rtR rt (cl x) (cl (x + 1)) (cl (x + 2)) (cl (x + 3))) hFρ (hc.tr hcρ) (by rw [hcρ.M (by omega) (by omega)]; exact hz ()) (fun i i0 i1 => by rw [hcρ.M (by omega) (by omega)]; exact hcl i i0 i1) hrρ (by omega) (by omega) (by split at hn' <;> omega) (by split at hn' <;> omega) (Or.inr (by omega))
            rw [show (cnt - ((c + 1 : Nat) : Int)).toNat = m by omega, show fr + 4 * ((c + 1 : Nat) : Int) = x + 4 by omega] at this
            exact this
          by_cases hv : v < 0
          · exact rt_jn (rt_pos hv (next _ (by rw [if_pos hv, wr (by omega) (by omega)]; omega)))
          · exact rt_jn (rt_neg hv (next _ (by rw [if_neg hv, wr (by omega) (by omega)])))
        · rw [if_pos (show x < 0 ∨ z - 4 < x by omega)]
          exact rt_neg hx (rt_ret ⟨rfl, hc, hr⟩)
