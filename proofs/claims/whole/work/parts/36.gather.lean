/-! the class's line: who comes to which gate, ranked -/
def camO (ln : Int → Int → Int) (s x : Int) : Int := if x < 48 then (if x % 24 + ln (x / 24) s < 24 then x % 24 + ln (x / 24) s else -1) else -1
def ordO (k c m s : Int) : Int := if k = 2 then c else if k = 3 then (5 * c + 3) % 17 else if k = 4 then -m else if k = 5 then m - 3 * s else m
def cmO (ln : Int → Int → Int) (so ch : Int → Int) (c : Int) : Int := camO ln (so c) (ch c)
def keyO (k : Int) (cm so : Int → Int) (c : Int) : Int := ordO k c (cm c) (so c)
def pG (ch cm : Int → Int) (w g c : Int) : Bool := decide (c ≠ w) && (decide (cm c ≠ -1) && decide (ch c / 24 = g))
/-- what the class's line reads of a way and the road -/
def LV (σ : ZS) (W n k : Int) (ch so : Int → Int) (ln rt : Int → Int → Int) : Prop := FxD σ ∧ (93 ≤ W ∧ W + 2 < (sN σ : Int)) ∧ (0 ≤ k ∧ k ≤ 5 ∧ sK σ W = wk k) ∧ (sM σ W 0 = n ∧ 0 ≤ n ∧ n ≤ 16) ∧ sM σ W 1 = W + 1 ∧ (sK σ (W + 1) = 100 ∧ sL σ (W + 1) = 16) ∧ (∀ c : Int, 0 ≤ c → c < n → sM σ (W + 1) c = ch c ∧ 0 ≤ ch c ∧ ch c ≤ 48) ∧ (∀ c : Int, 0 ≤ c → c < n → sM σ 17 c = so c ∧ 0 ≤ so c ∧ so c < 4) ∧ (∀ g s : Int, 0 ≤ g → g < 2 → 0 ≤ s → s < 4 → sM σ (13 + g) s = ln g s ∧ 0 ≤ ln g s ∧ ln g s ≤ 9) ∧ (∀ g t : Int, 0 ≤ g → g < 2 → 0 ≤ t → t < 24 → sM σ (7 + g) t = rt g t ∧ 0 ≤ rt g t ∧ rt g t ≤ 9)
def lnS (a i : Int) : Prop := (18 ≤ a ∧ a ≤ 20) ∨ (22 ≤ a ∧ a ≤ 23) ∨ (25 ≤ a ∧ a ≤ 27) ∨ (29 ≤ a ∧ a ≤ 32) ∨ (a = 3 ∧ (15 ≤ i ∧ i ≤ 16)) ∨ (a = 4 ∧ i = 4)
theorem lnS_scr : ∀ a i, lnS a i → scr a i := by
  intro a i h
  unfold lnS at h
  unfold scr
  omega
theorem lnS_NF : ∀ a i, lnS a i → NFb a i = true := fun a i h => scr_NF a i (lnS_scr a i h)
theorem LV.ch {σ τ : ZS} {W n k : Int} {ch so : Int → Int} {ln rt : Int → Int → Int} (h : LV σ W n k ch so ln rt) (c : Ch lnS σ τ) : LV τ W n k ch so ln rt := by
  obtain ⟨hF, ⟨w1, w2⟩, ⟨k0, k5, kk⟩, ⟨n1, n2, n3⟩, p1, ⟨q1, q2⟩, a1, a2, a3, a4⟩ := h
  have h9 := hF.2.2.2
  have hn := c.2.1
  have e : ∀ a i : Int, a < (sN σ : Int) → ¬ lnS a i → sM τ a i = sM σ a i := fun a i ha hs => c.M ha hs
  refine ⟨c.Fx hF lnS_NF, ⟨w1, by omega⟩, ⟨k0, k5, by rw [c.K (by omega)]; exact kk⟩, ⟨by rw [e W 0 (by omega) (by unfold lnS; omega)]; exact n1, n2, n3⟩, by rw [e W 1 (by omega) (by unfold lnS; omega)]; exact p1, ⟨by rw [c.K (by omega)]; exact q1, by rw [c.L (by omega)]; exact q2⟩, fun x h0 h1 => ?_, fun x h0 h1 => ?_, fun g s g0 g1 h0 h1 => ?_, fun g s g0 g1 h0 h1 => ?_⟩
  · rw [e (W + 1) x (by omega) (by unfold lnS; omega)]; exact a1 x h0 h1
  · rw [e 17 x (by omega) (by unfold lnS; omega)]; exact a2 x h0 h1
  · rw [e (13 + g) s (by omega) (by unfold lnS; omega)]; exact a3 g s g0 g1 h0 h1
  · rw [e (7 + g) s (by omega) (by unfold lnS; omega)]; exact a4 g s g0 g1 h0 h1
theorem rt_is {F : Option (Int × ZS)} {V : Int} {σ : ZS} (h : Rt F (fun v τ => v = V ∧ τ = σ)) : F = some (V, σ) := by
  obtain ⟨v, τ, e, h1, h2⟩ := h
  rw [e, h1, h2]
theorem rt_e {F : Option (Int × ZS)} {V : Int} {σ : ZS} {P : Int → ZS → Prop} (e : F = some (V, σ)) (k : P V σ) : Rt F P := by rw [e]; exact rt_ret k
theorem tdiv_n {x y : Int} (h : 0 ≤ x) : x.tdiv y = x / y := Int.tdiv_eq_ediv_of_nonneg h
theorem tmod_n {x y : Int} (h : 0 ≤ x) : x.tmod y = x % y := Int.tmod_eq_emod_of_nonneg h
theorem f_cameBy {σ : ZS} (hF : FxD σ) {c x s : Int} {ln : Int → Int → Int} (c0 : 0 ≤ c) (c1 : c < 16) (x0 : 0 ≤ x) (x1 : x ≤ 48) (hs : sM σ 17 c = s) (s0 : 0 ≤ s) (s1 : s < 4) (hl : ∀ g s : Int, 0 ≤ g → g < 2 → 0 ≤ s → s < 4 → sM σ (13 + g) s = ln g s ∧ 0 ≤ ln g s ∧ ln g s ≤ 9) : fX2_cameBy σ 4 c x = some (camO ln s x, σ) := by
  refine rt_is ?_
  unfold fX2_cameBy
  unfold camO
  by_cases h : x < 48
  · have q := hl (x / 24) s (by omega) (by omega) s0 s1
    have ew : wrap (x.tdiv 24) = x / 24 := by rw [tdiv_n x0, wr (by omega) (by omega)]
    have ew2 : wrap (x.tmod 24 + ln (x / 24) s) = x % 24 + ln (x / 24) s := by rw [tmod_n x0, wr (by omega) (by omega)]
    repeat (first
    | with_reducible refine rt_b ?_
    | with_reducible refine rt_jn ?_
    | ((with_reducible refine rt_pos ?_ ?_); (· omega))
    | ((with_reducible refine rt_neg ?_ ?_); (· omega))
    | ((with_reducible refine rt_v ?_ ?_); · simp (disch := omega) only [true_and, and_true, sM_ne, sM_eq, sM_neR, sM_eqR, sK_upM, sK_upR, sL_upM, sL_upR, sN_upM, sN_upR, sT_upM, sT_upR, sN_upM, Int.reduceAdd, Int.reduceMul, Int.reduceSub, Int.reduceNeg, Int.zero_add, Int.add_zero, hF.c, ew, hs, q.1, ew2])
    | ((with_reducible refine rt_g ?_ ?_); (· simp (disch := omega) only [true_and, and_true, sM_ne, sM_eq, sM_neR, sM_eqR, sK_upM, sK_upR, sL_upM, sL_upR, sN_upM, sN_upR, sT_upM, sT_upR, sN_upM, Int.reduceAdd, Int.reduceMul, Int.reduceSub, Int.reduceNeg, Int.zero_add, Int.add_zero, hF.c, ew, hs, q.1, ew2]); (try simp (disch := omega) only [true_and, and_true, sM_ne, sM_eq, sM_neR, sM_eqR, sK_upM, sK_upR, sL_upM, sL_upR, sN_upM, sN_upR, sT_upM, sT_upR, sN_upM, Int.reduceAdd, Int.reduceMul, Int.reduceSub, Int.reduceNeg, Int.zero_add, Int.add_zero, hF.c, ew, hs, q.1, ew2]))
    | ((with_reducible refine rt_al ?_ ?_ ?_); (· simp (disch := omega) only [true_and, and_true, sM_ne, sM_eq, sM_neR, sM_eqR, sK_upM, sK_upR, sL_upM, sL_upR, sN_upM, sN_upR, sT_upM, sT_upR, sN_upM, Int.reduceAdd, Int.reduceMul, Int.reduceSub, Int.reduceNeg, Int.zero_add, Int.add_zero, hF.c, ew, hs, q.1, ew2]); (· first | omega | ((try simp (disch := omega) only [wr, true_and, and_true, sM_ne, sM_eq, sM_neR, sM_eqR, sK_upM, sK_upR, sL_upM, sL_upR, sN_upM, sN_upR, sT_upM, sT_upR, sN_upM, Int.reduceAdd, Int.reduceMul, Int.reduceSub, Int.reduceNeg, Int.zero_add, Int.add_zero, hF.c, ew, hs, q.1, ew2]) <;> omega)); (try simp (disch := omega) only [true_and, and_true, sM_ne, sM_eq, sM_neR, sM_eqR, sK_upM, sK_upR, sL_upM, sL_upR, sN_upM, sN_upR, sT_upM, sT_upR, sN_upM, Int.reduceAdd, Int.reduceMul, Int.reduceSub, Int.reduceNeg, Int.zero_add, Int.add_zero, hF.c, ew, hs, q.1, ew2]))
    | ((with_reducible refine rt_as ?_ ?_ ?_); (· simp (disch := omega) only [true_and, and_true, sM_ne, sM_eq, sM_neR, sM_eqR, sK_upM, sK_upR, sL_upM, sL_upR, sN_upM, sN_upR, sT_upM, sT_upR, sN_upM, Int.reduceAdd, Int.reduceMul, Int.reduceSub, Int.reduceNeg, Int.zero_add, Int.add_zero, hF.c, ew, hs, q.1, ew2]); (· first | omega | ((try simp (disch := omega) only [wr, true_and, and_true, sM_ne, sM_eq, sM_neR, sM_eqR, sK_upM, sK_upR, sL_upM, sL_upR, sN_upM, sN_upR, sT_upM, sT_upR, sN_upM, Int.reduceAdd, Int.reduceMul, Int.reduceSub, Int.reduceNeg, Int.zero_add, Int.add_zero, hF.c, ew, hs, q.1, ew2]) <;> omega)))
    | ((with_reducible refine rt_p ?_ ?_ ?_); (· simp (disch := omega) only [true_and, and_true, sM_ne, sM_eq, sM_neR, sM_eqR, sK_upM, sK_upR, sL_upM, sL_upR, sN_upM, sN_upR, sT_upM, sT_upR, sN_upM, Int.reduceAdd, Int.reduceMul, Int.reduceSub, Int.reduceNeg, Int.zero_add, Int.add_zero, hF.c, ew, hs, q.1, ew2]); (· omega))
    | with_reducible refine rt_ret ?_
    | ((with_reducible refine rt_gw ?_ ?_); (· assumption); (try simp (disch := omega) only [true_and, and_true, sM_ne, sM_eq, sM_neR, sM_eqR, sK_upM, sK_upR, sL_upM, sL_upR, sN_upM, sN_upR, sT_upM, sT_upR, sN_upM, Int.reduceAdd, Int.reduceMul, Int.reduceSub, Int.reduceNeg, Int.zero_add, Int.add_zero, hF.c, ew, hs, q.1, ew2])))
    by_cases h2 : x % 24 + ln (x / 24) s < 24
    · repeat (first
    | with_reducible refine rt_b ?_
    | with_reducible refine rt_jn ?_
    | ((with_reducible refine rt_pos ?_ ?_); (· omega))
    | ((with_reducible refine rt_neg ?_ ?_); (· omega))
    | ((with_reducible refine rt_v ?_ ?_); · simp (disch := omega) only [true_and, and_true, sM_ne, sM_eq, sM_neR, sM_eqR, sK_upM, sK_upR, sL_upM, sL_upR, sN_upM, sN_upR, sT_upM, sT_upR, sN_upM, Int.reduceAdd, Int.reduceMul, Int.reduceSub, Int.reduceNeg, Int.zero_add, Int.add_zero, hF.c, ew, hs, q.1, ew2])
    | ((with_reducible refine rt_g ?_ ?_); (· simp (disch := omega) only [true_and, and_true, sM_ne, sM_eq, sM_neR, sM_eqR, sK_upM, sK_upR, sL_upM, sL_upR, sN_upM, sN_upR, sT_upM, sT_upR, sN_upM, Int.reduceAdd, Int.reduceMul, Int.reduceSub, Int.reduceNeg, Int.zero_add, Int.add_zero, hF.c, ew, hs, q.1, ew2]); (try simp (disch := omega) only [true_and, and_true, sM_ne, sM_eq, sM_neR, sM_eqR, sK_upM, sK_upR, sL_upM, sL_upR, sN_upM, sN_upR, sT_upM, sT_upR, sN_upM, Int.reduceAdd, Int.reduceMul, Int.reduceSub, Int.reduceNeg, Int.zero_add, Int.add_zero, hF.c, ew, hs, q.1, ew2]))
    | ((with_reducible refine rt_al ?_ ?_ ?_); (· simp (disch := omega) only [true_and, and_true, sM_ne, sM_eq, sM_neR, sM_eqR, sK_upM, sK_upR, sL_upM, sL_upR, sN_upM, sN_upR, sT_upM, sT_upR, sN_upM, Int.reduceAdd, Int.reduceMul, Int.reduceSub, Int.reduceNeg, Int.zero_add, Int.add_zero, hF.c, ew, hs, q.1, ew2]); (· first | omega | ((try simp (disch := omega) only [wr, true_and, and_true, sM_ne, sM_eq, sM_neR, sM_eqR, sK_upM, sK_upR, sL_upM, sL_upR, sN_upM, sN_upR, sT_upM, sT_upR, sN_upM, Int.reduceAdd, Int.reduceMul, Int.reduceSub, Int.reduceNeg, Int.zero_add, Int.add_zero, hF.c, ew, hs, q.1, ew2]) <;> omega)); (try simp (disch := omega) only [true_and, and_true, sM_ne, sM_eq, sM_neR, sM_eqR, sK_upM, sK_upR, sL_upM, sL_upR, sN_upM, sN_upR, sT_upM, sT_upR, sN_upM, Int.reduceAdd, Int.reduceMul, Int.reduceSub, Int.reduceNeg, Int.zero_add, Int.add_zero, hF.c, ew, hs, q.1, ew2]))
    | ((with_reducible refine rt_as ?_ ?_ ?_); (· simp (disch := omega) only [true_and, and_true, sM_ne, sM_eq, sM_neR, sM_eqR, sK_upM, sK_upR, sL_upM, sL_upR, sN_upM, sN_upR, sT_upM, sT_upR, sN_upM, Int.reduceAdd, Int.reduceMul, Int.reduceSub, Int.reduceNeg, Int.zero_add, Int.add_zero, hF.c, ew, hs, q.1, ew2]); (· first | omega | ((try simp (disch := omega) only [wr, true_and, and_true, sM_ne, sM_eq, sM_neR, sM_eqR, sK_upM, sK_upR, sL_upM, sL_upR, sN_upM, sN_upR, sT_upM, sT_upR, sN_upM, Int.reduceAdd, Int.reduceMul, Int.reduceSub, Int.reduceNeg, Int.zero_add, Int.add_zero, hF.c, ew, hs, q.1, ew2]) <;> omega)))
    | ((with_reducible refine rt_p ?_ ?_ ?_); (· simp (disch := omega) only [true_and, and_true, sM_ne, sM_eq, sM_neR, sM_eqR, sK_upM, sK_upR, sL_upM, sL_upR, sN_upM, sN_upR, sT_upM, sT_upR, sN_upM, Int.reduceAdd, Int.reduceMul, Int.reduceSub, Int.reduceNeg, Int.zero_add, Int.add_zero, hF.c, ew, hs, q.1, ew2]); (· omega))
    | with_reducible refine rt_ret ?_
    | ((with_reducible refine rt_gw ?_ ?_); (· assumption); (try simp (disch := omega) only [true_and, and_true, sM_ne, sM_eq, sM_neR, sM_eqR, sK_upM, sK_upR, sL_upM, sL_upR, sN_upM, sN_upR, sT_upM, sT_upR, sN_upM, Int.reduceAdd, Int.reduceMul, Int.reduceSub, Int.reduceNeg, Int.zero_add, Int.add_zero, hF.c, ew, hs, q.1, ew2])))
      refine ⟨?_, rfl⟩
      rw [if_pos h, if_pos h2]
    · repeat (first
    | with_reducible refine rt_b ?_
    | with_reducible refine rt_jn ?_
    | ((with_reducible refine rt_pos ?_ ?_); (· omega))
    | ((with_reducible refine rt_neg ?_ ?_); (· omega))
    | ((with_reducible refine rt_v ?_ ?_); · simp (disch := omega) only [true_and, and_true, sM_ne, sM_eq, sM_neR, sM_eqR, sK_upM, sK_upR, sL_upM, sL_upR, sN_upM, sN_upR, sT_upM, sT_upR, sN_upM, Int.reduceAdd, Int.reduceMul, Int.reduceSub, Int.reduceNeg, Int.zero_add, Int.add_zero, hF.c, ew, hs, q.1, ew2])
    | ((with_reducible refine rt_g ?_ ?_); (· simp (disch := omega) only [true_and, and_true, sM_ne, sM_eq, sM_neR, sM_eqR, sK_upM, sK_upR, sL_upM, sL_upR, sN_upM, sN_upR, sT_upM, sT_upR, sN_upM, Int.reduceAdd, Int.reduceMul, Int.reduceSub, Int.reduceNeg, Int.zero_add, Int.add_zero, hF.c, ew, hs, q.1, ew2]); (try simp (disch := omega) only [true_and, and_true, sM_ne, sM_eq, sM_neR, sM_eqR, sK_upM, sK_upR, sL_upM, sL_upR, sN_upM, sN_upR, sT_upM, sT_upR, sN_upM, Int.reduceAdd, Int.reduceMul, Int.reduceSub, Int.reduceNeg, Int.zero_add, Int.add_zero, hF.c, ew, hs, q.1, ew2]))
    | ((with_reducible refine rt_al ?_ ?_ ?_); (· simp (disch := omega) only [true_and, and_true, sM_ne, sM_eq, sM_neR, sM_eqR, sK_upM, sK_upR, sL_upM, sL_upR, sN_upM, sN_upR, sT_upM, sT_upR, sN_upM, Int.reduceAdd, Int.reduceMul, Int.reduceSub, Int.reduceNeg, Int.zero_add, Int.add_zero, hF.c, ew, hs, q.1, ew2]); (· first | omega | ((try simp (disch := omega) only [wr, true_and, and_true, sM_ne, sM_eq, sM_neR, sM_eqR, sK_upM, sK_upR, sL_upM, sL_upR, sN_upM, sN_upR, sT_upM, sT_upR, sN_upM, Int.reduceAdd, Int.reduceMul, Int.reduceSub, Int.reduceNeg, Int.zero_add, Int.add_zero, hF.c, ew, hs, q.1, ew2]) <;> omega)); (try simp (disch := omega) only [true_and, and_true, sM_ne, sM_eq, sM_neR, sM_eqR, sK_upM, sK_upR, sL_upM, sL_upR, sN_upM, sN_upR, sT_upM, sT_upR, sN_upM, Int.reduceAdd, Int.reduceMul, Int.reduceSub, Int.reduceNeg, Int.zero_add, Int.add_zero, hF.c, ew, hs, q.1, ew2]))
    | ((with_reducible refine rt_as ?_ ?_ ?_); (· simp (disch := omega) only [true_and, and_true, sM_ne, sM_eq, sM_neR, sM_eqR, sK_upM, sK_upR, sL_upM, sL_upR, sN_upM, sN_upR, sT_upM, sT_upR, sN_upM, Int.reduceAdd, Int.reduceMul, Int.reduceSub, Int.reduceNeg, Int.zero_add, Int.add_zero, hF.c, ew, hs, q.1, ew2]); (· first | omega | ((try simp (disch := omega) only [wr, true_and, and_true, sM_ne, sM_eq, sM_neR, sM_eqR, sK_upM, sK_upR, sL_upM, sL_upR, sN_upM, sN_upR, sT_upM, sT_upR, sN_upM, Int.reduceAdd, Int.reduceMul, Int.reduceSub, Int.reduceNeg, Int.zero_add, Int.add_zero, hF.c, ew, hs, q.1, ew2]) <;> omega)))
    | ((with_reducible refine rt_p ?_ ?_ ?_); (· simp (disch := omega) only [true_and, and_true, sM_ne, sM_eq, sM_neR, sM_eqR, sK_upM, sK_upR, sL_upM, sL_upR, sN_upM, sN_upR, sT_upM, sT_upR, sN_upM, Int.reduceAdd, Int.reduceMul, Int.reduceSub, Int.reduceNeg, Int.zero_add, Int.add_zero, hF.c, ew, hs, q.1, ew2]); (· omega))
    | with_reducible refine rt_ret ?_
    | ((with_reducible refine rt_gw ?_ ?_); (· assumption); (try simp (disch := omega) only [true_and, and_true, sM_ne, sM_eq, sM_neR, sM_eqR, sK_upM, sK_upR, sL_upM, sL_upR, sN_upM, sN_upR, sT_upM, sT_upR, sN_upM, Int.reduceAdd, Int.reduceMul, Int.reduceSub, Int.reduceNeg, Int.zero_add, Int.add_zero, hF.c, ew, hs, q.1, ew2])))
      refine ⟨?_, rfl⟩
      rw [if_pos h, if_neg h2]
  · repeat (first
    | with_reducible refine rt_b ?_
    | with_reducible refine rt_jn ?_
    | ((with_reducible refine rt_pos ?_ ?_); (· omega))
    | ((with_reducible refine rt_neg ?_ ?_); (· omega))
    | ((with_reducible refine rt_v ?_ ?_); · simp (disch := omega) only [true_and, and_true, sM_ne, sM_eq, sM_neR, sM_eqR, sK_upM, sK_upR, sL_upM, sL_upR, sN_upM, sN_upR, sT_upM, sT_upR, sN_upM, Int.reduceAdd, Int.reduceMul, Int.reduceSub, Int.reduceNeg, Int.zero_add, Int.add_zero, hF.c])
    | ((with_reducible refine rt_g ?_ ?_); (· simp (disch := omega) only [true_and, and_true, sM_ne, sM_eq, sM_neR, sM_eqR, sK_upM, sK_upR, sL_upM, sL_upR, sN_upM, sN_upR, sT_upM, sT_upR, sN_upM, Int.reduceAdd, Int.reduceMul, Int.reduceSub, Int.reduceNeg, Int.zero_add, Int.add_zero, hF.c]); (try simp (disch := omega) only [true_and, and_true, sM_ne, sM_eq, sM_neR, sM_eqR, sK_upM, sK_upR, sL_upM, sL_upR, sN_upM, sN_upR, sT_upM, sT_upR, sN_upM, Int.reduceAdd, Int.reduceMul, Int.reduceSub, Int.reduceNeg, Int.zero_add, Int.add_zero, hF.c]))
    | ((with_reducible refine rt_al ?_ ?_ ?_); (· simp (disch := omega) only [true_and, and_true, sM_ne, sM_eq, sM_neR, sM_eqR, sK_upM, sK_upR, sL_upM, sL_upR, sN_upM, sN_upR, sT_upM, sT_upR, sN_upM, Int.reduceAdd, Int.reduceMul, Int.reduceSub, Int.reduceNeg, Int.zero_add, Int.add_zero, hF.c]); (· first | omega | ((try simp (disch := omega) only [wr, true_and, and_true, sM_ne, sM_eq, sM_neR, sM_eqR, sK_upM, sK_upR, sL_upM, sL_upR, sN_upM, sN_upR, sT_upM, sT_upR, sN_upM, Int.reduceAdd, Int.reduceMul, Int.reduceSub, Int.reduceNeg, Int.zero_add, Int.add_zero, hF.c]) <;> omega)); (try simp (disch := omega) only [true_and, and_true, sM_ne, sM_eq, sM_neR, sM_eqR, sK_upM, sK_upR, sL_upM, sL_upR, sN_upM, sN_upR, sT_upM, sT_upR, sN_upM, Int.reduceAdd, Int.reduceMul, Int.reduceSub, Int.reduceNeg, Int.zero_add, Int.add_zero, hF.c]))
    | ((with_reducible refine rt_as ?_ ?_ ?_); (· simp (disch := omega) only [true_and, and_true, sM_ne, sM_eq, sM_neR, sM_eqR, sK_upM, sK_upR, sL_upM, sL_upR, sN_upM, sN_upR, sT_upM, sT_upR, sN_upM, Int.reduceAdd, Int.reduceMul, Int.reduceSub, Int.reduceNeg, Int.zero_add, Int.add_zero, hF.c]); (· first | omega | ((try simp (disch := omega) only [wr, true_and, and_true, sM_ne, sM_eq, sM_neR, sM_eqR, sK_upM, sK_upR, sL_upM, sL_upR, sN_upM, sN_upR, sT_upM, sT_upR, sN_upM, Int.reduceAdd, Int.reduceMul, Int.reduceSub, Int.reduceNeg, Int.zero_add, Int.add_zero, hF.c]) <;> omega)))
    | ((with_reducible refine rt_p ?_ ?_ ?_); (· simp (disch := omega) only [true_and, and_true, sM_ne, sM_eq, sM_neR, sM_eqR, sK_upM, sK_upR, sL_upM, sL_upR, sN_upM, sN_upR, sT_upM, sT_upR, sN_upM, Int.reduceAdd, Int.reduceMul, Int.reduceSub, Int.reduceNeg, Int.zero_add, Int.add_zero, hF.c]); (· omega))
    | with_reducible refine rt_ret ?_
    | ((with_reducible refine rt_gw ?_ ?_); (· assumption); (try simp (disch := omega) only [true_and, and_true, sM_ne, sM_eq, sM_neR, sM_eqR, sK_upM, sK_upR, sL_upM, sL_upR, sN_upM, sN_upR, sT_upM, sT_upR, sN_upM, Int.reduceAdd, Int.reduceMul, Int.reduceSub, Int.reduceNeg, Int.zero_add, Int.add_zero, hF.c])))
    refine ⟨?_, rfl⟩
    rw [if_neg h]
theorem getD_ins (c : Int) : ∀ (r : Nat) (l : List Int), r ≤ l.length → ∀ j : Nat, (l.take r ++ c :: l.drop r).getD j 0 = if j < r then l.getD j 0 else if j = r then c else l.getD (j - 1) 0
  | 0, l, _, j => by
    cases j with
    | zero => simp
    | succ j => simp
  | r + 1, [], h, j => by simp at h
  | r + 1, d :: l, h, j => by
    cases j with
    | zero => simp
    | succ j =>
      have ih := getD_ins c r l (by simpa using h) j
      simp only [List.take_succ_cons, List.drop_succ_cons, List.cons_append, List.getD_cons_succ]
      rw [ih]
      by_cases h1 : j < r
      · rw [if_pos h1, if_pos (show j + 1 < r + 1 by omega)]
      · rw [if_neg h1, if_neg (show ¬ j + 1 < r + 1 by omega)]
        by_cases h2 : j = r
        · rw [if_pos h2, if_pos (show j + 1 = r + 1 by omega)]
        · rw [if_neg h2, if_neg (show ¬ j + 1 = r + 1 by omega)]
          obtain ⟨q, rfl⟩ : ∃ q, j = q + 1 := ⟨j - 1, by omega⟩
          simp
theorem insK_at {key : Int → Int} {c : Int} : ∀ (l : List Int) (r : Nat), r ≤ l.length → (∀ j, j < r → key (l.getD j 0) ≤ key c) → (∀ j, r ≤ j → j < l.length → key c < key (l.getD j 0)) → insK key c l = l.take r ++ c :: l.drop r
  | [], r, h, _, _ => by
    have : r = 0 := by simpa using h
    subst this; rfl
  | d :: l, 0, _, _, h2 => by
    have := h2 0 (Nat.le_refl 0) (by simp)
    unfold insK
    rw [if_pos (by simpa using this)]; rfl
  | d :: l, r + 1, h, h1, h2 => by
    have h0 := h1 0 (by omega)
    have e0 : key d ≤ key c := by simpa using h0
    unfold insK
    rw [if_neg (by omega), insK_at l r (by simpa using h) (fun j hj => by simpa using h1 (j + 1) (by omega)) (fun j ha hb => by simpa using h2 (j + 1) (by omega) (by simpa using hb))]
    rfl
theorem srt_mono {key : Int → Int} : ∀ {l : List Int}, l.Pairwise (lx key) → ∀ i j : Nat, i ≤ j → j < l.length → key (l.getD i 0) ≤ key (l.getD j 0)
  | [], _, i, j, _, h => by simp at h
  | a :: l, h, i, j, hij, hj => by
    rw [List.pairwise_cons] at h
    cases i with
    | zero =>
      cases j with
      | zero => exact Int.le_refl _
      | succ j =>
        have hj' : j < l.length := by simpa using hj
        have := h.1 (l.getD j 0) (by rw [List.getD_eq_getElem?_getD, List.getElem?_eq_getElem hj']; exact List.getElem_mem hj')
        simp only [List.getD_cons_zero, List.getD_cons_succ]
        unfold lx at this
        omega
    | succ i =>
      cases j with
      | zero => omega
      | succ j =>
        simp only [List.getD_cons_succ]
        exact srt_mono h.2 i j (by omega) (by simpa using hj)
/-- a list, ranked, as the class's line keeps it -/
def Lst (σ : ZS) (g : Int) (key : Int → Int) (l : List Int) : Prop := (∀ j : Nat, j < l.length → sM σ (22 + g) (j : Int) = l.getD j 0 ∧ sM σ (25 + g) (j : Int) = key (l.getD j 0)) ∧ sM σ 27 g = (l.length : Int)
def shf (σ : ZS) (g : Int) (key : Int → Int) (l : List Int) (r : Nat) : Prop := (∀ j : Nat, j < r → sM σ (22 + g) (j : Int) = l.getD j 0 ∧ sM σ (25 + g) (j : Int) = key (l.getD j 0)) ∧ (∀ j : Nat, r ≤ j → j < l.length → sM σ (22 + g) ((j + 1 : Nat) : Int) = l.getD j 0 ∧ sM σ (25 + g) ((j + 1 : Nat) : Int) = key (l.getD j 0))
theorem l_rank {σ : ZS} {g c o : Int} {K : ZS → Int → Option (Int × ZS)} {P : Int → ZS → Prop} {key : Int → Int} {l : List Int} (g0 : 0 ≤ g) (g1 : g < 2) (hl : l.length < 16) (hK : ∀ (τ : ZS) (r : Nat), FxD τ → r ≤ l.length → Ch (fun a _ => a = 22 + g ∨ a = 25 + g) σ τ → shf τ g key l r → (r = 0 ∨ key (l.getD (r - 1) 0) ≤ o) → (∀ j, r ≤ j → j < l.length → o < key (l.getD j 0)) → Rt (K τ (r : Int)) P) : ∀ (N r : Nat) (s : ZS), FxD s → r < N → r ≤ l.length → Ch (fun a _ => a = 22 + g ∨ a = 25 + g) σ s → shf s g key l r → (∀ j, r ≤ j → j < l.length → o < key (l.getD j 0)) → Rt (lX2_rank_8 4 g c o K N s (r : Int)) P
  | 0, _, _, _, h, _, _, _, _ => by omega
  | N + 1, 0, s, hF, h, hr, hs, hsh, hgt => by
    rw [lX2_rank_8]
    exact rt_pos (by omega) (hK s 0 hF hr hs hsh (Or.inl rfl) hgt)
  | N + 1, r + 1, s, hF, h, hr, hs, hsh, hgt => by
    have ew : wrap (((r + 1 : Nat) : Int) - 1) = (r : Int) := by rw [wr (by omega) (by omega)]; omega
    have ew2 : wrap (((r + 1 : Nat) : Int) + (-1)) = (r : Int) := by rw [wr (by omega) (by omega)]; omega
    obtain ⟨e22, e25⟩ := hsh.1 r (by omega)
    rw [lX2_rank_8]
    repeat (first
    | with_reducible refine rt_b ?_
    | with_reducible refine rt_jn ?_
    | ((with_reducible refine rt_pos ?_ ?_); (· omega))
    | ((with_reducible refine rt_neg ?_ ?_); (· omega))
    | ((with_reducible refine rt_v ?_ ?_); · simp (disch := omega) only [true_and, and_true, sM_ne, sM_eq, sM_neR, sM_eqR, sK_upM, sK_upR, sL_upM, sL_upR, sN_upM, sN_upR, sT_upM, sT_upR, sN_upM, Int.reduceAdd, Int.reduceMul, Int.reduceSub, Int.reduceNeg, Int.zero_add, Int.add_zero, hF.c, ew, e22, e25])
    | ((with_reducible refine rt_g ?_ ?_); (· simp (disch := omega) only [true_and, and_true, sM_ne, sM_eq, sM_neR, sM_eqR, sK_upM, sK_upR, sL_upM, sL_upR, sN_upM, sN_upR, sT_upM, sT_upR, sN_upM, Int.reduceAdd, Int.reduceMul, Int.reduceSub, Int.reduceNeg, Int.zero_add, Int.add_zero, hF.c, ew, e22, e25]); (try simp (disch := omega) only [true_and, and_true, sM_ne, sM_eq, sM_neR, sM_eqR, sK_upM, sK_upR, sL_upM, sL_upR, sN_upM, sN_upR, sT_upM, sT_upR, sN_upM, Int.reduceAdd, Int.reduceMul, Int.reduceSub, Int.reduceNeg, Int.zero_add, Int.add_zero, hF.c, ew, e22, e25]))
    | ((with_reducible refine rt_al ?_ ?_ ?_); (· simp (disch := omega) only [true_and, and_true, sM_ne, sM_eq, sM_neR, sM_eqR, sK_upM, sK_upR, sL_upM, sL_upR, sN_upM, sN_upR, sT_upM, sT_upR, sN_upM, Int.reduceAdd, Int.reduceMul, Int.reduceSub, Int.reduceNeg, Int.zero_add, Int.add_zero, hF.c, ew, e22, e25]); (· first | omega | ((try simp (disch := omega) only [wr, true_and, and_true, sM_ne, sM_eq, sM_neR, sM_eqR, sK_upM, sK_upR, sL_upM, sL_upR, sN_upM, sN_upR, sT_upM, sT_upR, sN_upM, Int.reduceAdd, Int.reduceMul, Int.reduceSub, Int.reduceNeg, Int.zero_add, Int.add_zero, hF.c, ew, e22, e25]) <;> omega)); (try simp (disch := omega) only [true_and, and_true, sM_ne, sM_eq, sM_neR, sM_eqR, sK_upM, sK_upR, sL_upM, sL_upR, sN_upM, sN_upR, sT_upM, sT_upR, sN_upM, Int.reduceAdd, Int.reduceMul, Int.reduceSub, Int.reduceNeg, Int.zero_add, Int.add_zero, hF.c, ew, e22, e25]))
    | ((with_reducible refine rt_as ?_ ?_ ?_); (· simp (disch := omega) only [true_and, and_true, sM_ne, sM_eq, sM_neR, sM_eqR, sK_upM, sK_upR, sL_upM, sL_upR, sN_upM, sN_upR, sT_upM, sT_upR, sN_upM, Int.reduceAdd, Int.reduceMul, Int.reduceSub, Int.reduceNeg, Int.zero_add, Int.add_zero, hF.c, ew, e22, e25]); (· first | omega | ((try simp (disch := omega) only [wr, true_and, and_true, sM_ne, sM_eq, sM_neR, sM_eqR, sK_upM, sK_upR, sL_upM, sL_upR, sN_upM, sN_upR, sT_upM, sT_upR, sN_upM, Int.reduceAdd, Int.reduceMul, Int.reduceSub, Int.reduceNeg, Int.zero_add, Int.add_zero, hF.c, ew, e22, e25]) <;> omega)))
    | ((with_reducible refine rt_p ?_ ?_ ?_); (· simp (disch := omega) only [true_and, and_true, sM_ne, sM_eq, sM_neR, sM_eqR, sK_upM, sK_upR, sL_upM, sL_upR, sN_upM, sN_upR, sT_upM, sT_upR, sN_upM, Int.reduceAdd, Int.reduceMul, Int.reduceSub, Int.reduceNeg, Int.zero_add, Int.add_zero, hF.c, ew, e22, e25]); (· omega))
    | with_reducible refine rt_ret ?_
    | ((with_reducible refine rt_gw ?_ ?_); (· assumption); (try simp (disch := omega) only [true_and, and_true, sM_ne, sM_eq, sM_neR, sM_eqR, sK_upM, sK_upR, sL_upM, sL_upR, sN_upM, sN_upR, sT_upM, sT_upR, sN_upM, Int.reduceAdd, Int.reduceMul, Int.reduceSub, Int.reduceNeg, Int.zero_add, Int.add_zero, hF.c, ew, e22, e25])))
    by_cases hk : key (l.getD r 0) ≤ o
    · exact rt_pos hk (hK s (r + 1) hF hr hs hsh (Or.inr hk) hgt)
    · refine rt_neg hk ?_
      repeat (first
    | with_reducible refine rt_b ?_
    | with_reducible refine rt_jn ?_
    | ((with_reducible refine rt_pos ?_ ?_); (· omega))
    | ((with_reducible refine rt_neg ?_ ?_); (· omega))
    | ((with_reducible refine rt_v ?_ ?_); · simp (disch := omega) only [true_and, and_true, sM_ne, sM_eq, sM_neR, sM_eqR, sK_upM, sK_upR, sL_upM, sL_upR, sN_upM, sN_upR, sT_upM, sT_upR, sN_upM, Int.reduceAdd, Int.reduceMul, Int.reduceSub, Int.reduceNeg, Int.zero_add, Int.add_zero, hF.c, ew, e22, e25])
    | ((with_reducible refine rt_g ?_ ?_); (· simp (disch := omega) only [true_and, and_true, sM_ne, sM_eq, sM_neR, sM_eqR, sK_upM, sK_upR, sL_upM, sL_upR, sN_upM, sN_upR, sT_upM, sT_upR, sN_upM, Int.reduceAdd, Int.reduceMul, Int.reduceSub, Int.reduceNeg, Int.zero_add, Int.add_zero, hF.c, ew, e22, e25]); (try simp (disch := omega) only [true_and, and_true, sM_ne, sM_eq, sM_neR, sM_eqR, sK_upM, sK_upR, sL_upM, sL_upR, sN_upM, sN_upR, sT_upM, sT_upR, sN_upM, Int.reduceAdd, Int.reduceMul, Int.reduceSub, Int.reduceNeg, Int.zero_add, Int.add_zero, hF.c, ew, e22, e25]))
    | ((with_reducible refine rt_al ?_ ?_ ?_); (· simp (disch := omega) only [true_and, and_true, sM_ne, sM_eq, sM_neR, sM_eqR, sK_upM, sK_upR, sL_upM, sL_upR, sN_upM, sN_upR, sT_upM, sT_upR, sN_upM, Int.reduceAdd, Int.reduceMul, Int.reduceSub, Int.reduceNeg, Int.zero_add, Int.add_zero, hF.c, ew, e22, e25]); (· first | omega | ((try simp (disch := omega) only [wr, true_and, and_true, sM_ne, sM_eq, sM_neR, sM_eqR, sK_upM, sK_upR, sL_upM, sL_upR, sN_upM, sN_upR, sT_upM, sT_upR, sN_upM, Int.reduceAdd, Int.reduceMul, Int.reduceSub, Int.reduceNeg, Int.zero_add, Int.add_zero, hF.c, ew, e22, e25]) <;> omega)); (try simp (disch := omega) only [true_and, and_true, sM_ne, sM_eq, sM_neR, sM_eqR, sK_upM, sK_upR, sL_upM, sL_upR, sN_upM, sN_upR, sT_upM, sT_upR, sN_upM, Int.reduceAdd, Int.reduceMul, Int.reduceSub, Int.reduceNeg, Int.zero_add, Int.add_zero, hF.c, ew, e22, e25]))
    | ((with_reducible refine rt_as ?_ ?_ ?_); (· simp (disch := omega) only [true_and, and_true, sM_ne, sM_eq, sM_neR, sM_eqR, sK_upM, sK_upR, sL_upM, sL_upR, sN_upM, sN_upR, sT_upM, sT_upR, sN_upM, Int.reduceAdd, Int.reduceMul, Int.reduceSub, Int.reduceNeg, Int.zero_add, Int.add_zero, hF.c, ew, e22, e25]); (· first | omega | ((try simp (disch := omega) only [wr, true_and, and_true, sM_ne, sM_eq, sM_neR, sM_eqR, sK_upM, sK_upR, sL_upM, sL_upR, sN_upM, sN_upR, sT_upM, sT_upR, sN_upM, Int.reduceAdd, Int.reduceMul, Int.reduceSub, Int.reduceNeg, Int.zero_add, Int.add_zero, hF.c, ew, e22, e25]) <;> omega)))
    | ((with_reducible refine rt_p ?_ ?_ ?_); (· simp (disch := omega) only [true_and, and_true, sM_ne, sM_eq, sM_neR, sM_eqR, sK_upM, sK_upR, sL_upM, sL_upR, sN_upM, sN_upR, sT_upM, sT_upR, sN_upM, Int.reduceAdd, Int.reduceMul, Int.reduceSub, Int.reduceNeg, Int.zero_add, Int.add_zero, hF.c, ew, e22, e25]); (· omega))
    | with_reducible refine rt_ret ?_
    | ((with_reducible refine rt_gw ?_ ?_); (· assumption); (try simp (disch := omega) only [true_and, and_true, sM_ne, sM_eq, sM_neR, sM_eqR, sK_upM, sK_upR, sL_upM, sL_upR, sN_upM, sN_upR, sT_upM, sT_upR, sN_upM, Int.reduceAdd, Int.reduceMul, Int.reduceSub, Int.reduceNeg, Int.zero_add, Int.add_zero, hF.c, ew, e22, e25])))
      simp only [ew2]
      refine l_rank g0 g1 hl hK N r _ ?_ (by omega) (by omega) ((hs.up (Or.inr rfl)).up (Or.inl rfl)) ⟨fun j hj => ?_, fun j ha hb => ?_⟩ (fun j ha hb => ?_)
      · exact (hF.up (NF_i (by omega))).up (NF_i (by omega))
      · obtain ⟨q1, q2⟩ := hsh.1 j (by omega)
        rw [sM_ne (by omega), sM_ne (by omega), sM_ne (by omega), sM_ne (by omega)]
        exact ⟨q1, q2⟩
      · by_cases e : j = r
        · subst e
          rw [sM_eq ⟨rfl, rfl⟩, sM_ne (by omega), sM_eq ⟨rfl, rfl⟩]
          exact ⟨rfl, rfl⟩
        · obtain ⟨q1, q2⟩ := hsh.2 j (by omega) hb
          rw [sM_ne (by omega), sM_ne (by omega), sM_ne (by omega), sM_ne (by omega)]
          exact ⟨q1, q2⟩
      · by_cases e : j = r
        · subst e; omega
        · exact hgt j (by omega) hb
theorem f_rank {σ : ZS} (hF : FxD σ) {g c : Int} {key : Int → Int} {l : List Int} (g0 : 0 ≤ g) (g1 : g < 2) (hl : l.length < 16) (hs : l.Pairwise (lx key)) (hL : Lst σ g key l) : Rt (fX2_rank σ 4 g c (key c)) (fun _ τ => Ch (fun a i => a = 22 + g ∨ a = 25 + g ∨ (a = 27 ∧ i = g)) σ τ ∧ Lst τ g key (insK key c l)) := by
  have e27 := hL.2
  unfold fX2_rank
  repeat (first
    | with_reducible refine rt_b ?_
    | with_reducible refine rt_jn ?_
    | ((with_reducible refine rt_pos ?_ ?_); (· omega))
    | ((with_reducible refine rt_neg ?_ ?_); (· omega))
    | ((with_reducible refine rt_v ?_ ?_); · simp (disch := omega) only [true_and, and_true, sM_ne, sM_eq, sM_neR, sM_eqR, sK_upM, sK_upR, sL_upM, sL_upR, sN_upM, sN_upR, sT_upM, sT_upR, sN_upM, Int.reduceAdd, Int.reduceMul, Int.reduceSub, Int.reduceNeg, Int.zero_add, Int.add_zero, hF.c, e27])
    | ((with_reducible refine rt_g ?_ ?_); (· simp (disch := omega) only [true_and, and_true, sM_ne, sM_eq, sM_neR, sM_eqR, sK_upM, sK_upR, sL_upM, sL_upR, sN_upM, sN_upR, sT_upM, sT_upR, sN_upM, Int.reduceAdd, Int.reduceMul, Int.reduceSub, Int.reduceNeg, Int.zero_add, Int.add_zero, hF.c, e27]); (try simp (disch := omega) only [true_and, and_true, sM_ne, sM_eq, sM_neR, sM_eqR, sK_upM, sK_upR, sL_upM, sL_upR, sN_upM, sN_upR, sT_upM, sT_upR, sN_upM, Int.reduceAdd, Int.reduceMul, Int.reduceSub, Int.reduceNeg, Int.zero_add, Int.add_zero, hF.c, e27]))
    | ((with_reducible refine rt_al ?_ ?_ ?_); (· simp (disch := omega) only [true_and, and_true, sM_ne, sM_eq, sM_neR, sM_eqR, sK_upM, sK_upR, sL_upM, sL_upR, sN_upM, sN_upR, sT_upM, sT_upR, sN_upM, Int.reduceAdd, Int.reduceMul, Int.reduceSub, Int.reduceNeg, Int.zero_add, Int.add_zero, hF.c, e27]); (· first | omega | ((try simp (disch := omega) only [wr, true_and, and_true, sM_ne, sM_eq, sM_neR, sM_eqR, sK_upM, sK_upR, sL_upM, sL_upR, sN_upM, sN_upR, sT_upM, sT_upR, sN_upM, Int.reduceAdd, Int.reduceMul, Int.reduceSub, Int.reduceNeg, Int.zero_add, Int.add_zero, hF.c, e27]) <;> omega)); (try simp (disch := omega) only [true_and, and_true, sM_ne, sM_eq, sM_neR, sM_eqR, sK_upM, sK_upR, sL_upM, sL_upR, sN_upM, sN_upR, sT_upM, sT_upR, sN_upM, Int.reduceAdd, Int.reduceMul, Int.reduceSub, Int.reduceNeg, Int.zero_add, Int.add_zero, hF.c, e27]))
    | ((with_reducible refine rt_as ?_ ?_ ?_); (· simp (disch := omega) only [true_and, and_true, sM_ne, sM_eq, sM_neR, sM_eqR, sK_upM, sK_upR, sL_upM, sL_upR, sN_upM, sN_upR, sT_upM, sT_upR, sN_upM, Int.reduceAdd, Int.reduceMul, Int.reduceSub, Int.reduceNeg, Int.zero_add, Int.add_zero, hF.c, e27]); (· first | omega | ((try simp (disch := omega) only [wr, true_and, and_true, sM_ne, sM_eq, sM_neR, sM_eqR, sK_upM, sK_upR, sL_upM, sL_upR, sN_upM, sN_upR, sT_upM, sT_upR, sN_upM, Int.reduceAdd, Int.reduceMul, Int.reduceSub, Int.reduceNeg, Int.zero_add, Int.add_zero, hF.c, e27]) <;> omega)))
    | ((with_reducible refine rt_p ?_ ?_ ?_); (· simp (disch := omega) only [true_and, and_true, sM_ne, sM_eq, sM_neR, sM_eqR, sK_upM, sK_upR, sL_upM, sL_upR, sN_upM, sN_upR, sT_upM, sT_upR, sN_upM, Int.reduceAdd, Int.reduceMul, Int.reduceSub, Int.reduceNeg, Int.zero_add, Int.add_zero, hF.c, e27]); (· omega))
    | with_reducible refine rt_ret ?_
    | ((with_reducible refine rt_gw ?_ ?_); (· assumption); (try simp (disch := omega) only [true_and, and_true, sM_ne, sM_eq, sM_neR, sM_eqR, sK_upM, sK_upR, sL_upM, sL_upR, sN_upM, sN_upR, sT_upM, sT_upR, sN_upM, Int.reduceAdd, Int.reduceMul, Int.reduceSub, Int.reduceNeg, Int.zero_add, Int.add_zero, hF.c, e27])))
  refine l_rank (σ := σ) (key := key) g0 g1 hl (fun τ r hτ hr hc hsh h1 h2 => ?_) 1000 l.length σ hF (by omega) (Nat.le_refl _) Ch.rf ⟨hL.1, fun j ha hb => by omega⟩ (fun j ha hb => by omega)
  have hn := hF.2.2.2
  have e27' : sM τ 27 g = (l.length : Int) := by rw [hc.M (by omega) (by omega)]; exact e27
  have ew : wrap ((l.length : Int) + 1) = ((l.length + 1 : Nat) : Int) := by rw [wr (by omega) (by omega)]; omega
  repeat (first
    | with_reducible refine rt_b ?_
    | with_reducible refine rt_jn ?_
    | ((with_reducible refine rt_pos ?_ ?_); (· omega))
    | ((with_reducible refine rt_neg ?_ ?_); (· omega))
    | ((with_reducible refine rt_v ?_ ?_); · simp (disch := omega) only [true_and, and_true, sM_ne, sM_eq, sM_neR, sM_eqR, sK_upM, sK_upR, sL_upM, sL_upR, sN_upM, sN_upR, sT_upM, sT_upR, sN_upM, Int.reduceAdd, Int.reduceMul, Int.reduceSub, Int.reduceNeg, Int.zero_add, Int.add_zero, hτ.c, e27', ew])
    | ((with_reducible refine rt_g ?_ ?_); (· simp (disch := omega) only [true_and, and_true, sM_ne, sM_eq, sM_neR, sM_eqR, sK_upM, sK_upR, sL_upM, sL_upR, sN_upM, sN_upR, sT_upM, sT_upR, sN_upM, Int.reduceAdd, Int.reduceMul, Int.reduceSub, Int.reduceNeg, Int.zero_add, Int.add_zero, hτ.c, e27', ew]); (try simp (disch := omega) only [true_and, and_true, sM_ne, sM_eq, sM_neR, sM_eqR, sK_upM, sK_upR, sL_upM, sL_upR, sN_upM, sN_upR, sT_upM, sT_upR, sN_upM, Int.reduceAdd, Int.reduceMul, Int.reduceSub, Int.reduceNeg, Int.zero_add, Int.add_zero, hτ.c, e27', ew]))
    | ((with_reducible refine rt_al ?_ ?_ ?_); (· simp (disch := omega) only [true_and, and_true, sM_ne, sM_eq, sM_neR, sM_eqR, sK_upM, sK_upR, sL_upM, sL_upR, sN_upM, sN_upR, sT_upM, sT_upR, sN_upM, Int.reduceAdd, Int.reduceMul, Int.reduceSub, Int.reduceNeg, Int.zero_add, Int.add_zero, hτ.c, e27', ew]); (· first | omega | ((try simp (disch := omega) only [wr, true_and, and_true, sM_ne, sM_eq, sM_neR, sM_eqR, sK_upM, sK_upR, sL_upM, sL_upR, sN_upM, sN_upR, sT_upM, sT_upR, sN_upM, Int.reduceAdd, Int.reduceMul, Int.reduceSub, Int.reduceNeg, Int.zero_add, Int.add_zero, hτ.c, e27', ew]) <;> omega)); (try simp (disch := omega) only [true_and, and_true, sM_ne, sM_eq, sM_neR, sM_eqR, sK_upM, sK_upR, sL_upM, sL_upR, sN_upM, sN_upR, sT_upM, sT_upR, sN_upM, Int.reduceAdd, Int.reduceMul, Int.reduceSub, Int.reduceNeg, Int.zero_add, Int.add_zero, hτ.c, e27', ew]))
    | ((with_reducible refine rt_as ?_ ?_ ?_); (· simp (disch := omega) only [true_and, and_true, sM_ne, sM_eq, sM_neR, sM_eqR, sK_upM, sK_upR, sL_upM, sL_upR, sN_upM, sN_upR, sT_upM, sT_upR, sN_upM, Int.reduceAdd, Int.reduceMul, Int.reduceSub, Int.reduceNeg, Int.zero_add, Int.add_zero, hτ.c, e27', ew]); (· first | omega | ((try simp (disch := omega) only [wr, true_and, and_true, sM_ne, sM_eq, sM_neR, sM_eqR, sK_upM, sK_upR, sL_upM, sL_upR, sN_upM, sN_upR, sT_upM, sT_upR, sN_upM, Int.reduceAdd, Int.reduceMul, Int.reduceSub, Int.reduceNeg, Int.zero_add, Int.add_zero, hτ.c, e27', ew]) <;> omega)))
    | ((with_reducible refine rt_p ?_ ?_ ?_); (· simp (disch := omega) only [true_and, and_true, sM_ne, sM_eq, sM_neR, sM_eqR, sK_upM, sK_upR, sL_upM, sL_upR, sN_upM, sN_upR, sT_upM, sT_upR, sN_upM, Int.reduceAdd, Int.reduceMul, Int.reduceSub, Int.reduceNeg, Int.zero_add, Int.add_zero, hτ.c, e27', ew]); (· omega))
    | with_reducible refine rt_ret ?_
    | ((with_reducible refine rt_gw ?_ ?_); (· assumption); (try simp (disch := omega) only [true_and, and_true, sM_ne, sM_eq, sM_neR, sM_eqR, sK_upM, sK_upR, sL_upM, sL_upR, sN_upM, sN_upR, sT_upM, sT_upR, sN_upM, Int.reduceAdd, Int.reduceMul, Int.reduceSub, Int.reduceNeg, Int.zero_add, Int.add_zero, hτ.c, e27', ew])))
  have hins : insK key c l = l.take r ++ c :: l.drop r := insK_at l r hr (fun j hj => by
    rcases h1 with h1 | h1
    · omega
    · have := srt_mono hs j (r - 1) (by omega) (by omega)
      omega) h2
  refine ⟨(((hc.mono (fun a i q => by omega)).up (Or.inr (Or.inl rfl))).up (Or.inl rfl)).up (Or.inr (Or.inr ⟨rfl, rfl⟩)), ?_, ?_⟩
  · intro j hj
    rw [insK_len] at hj
    rw [hins, getD_ins c r l hr j]
    rw [sM_ne (by omega), sM_ne (b := 25 + g) (by omega)]
    by_cases h3 : j < r
    · rw [if_pos h3, sM_ne (by omega), sM_ne (by omega), sM_ne (by omega), sM_ne (by omega)]
      exact hsh.1 j h3
    · rw [if_neg h3]
      by_cases h4 : j = r
      · subst h4
        rw [if_pos rfl, sM_eq ⟨rfl, rfl⟩, sM_ne (by omega), sM_eq ⟨rfl, rfl⟩]
        exact ⟨rfl, rfl⟩
      · rw [if_neg h4, sM_ne (by omega), sM_ne (by omega), sM_ne (by omega), sM_ne (by omega)]
        have := hsh.2 (j - 1) (by omega) (by omega)
        rw [show j - 1 + 1 = j by omega] at this
        exact this
  · rw [insK_len, sM_eq ⟨rfl, rfl⟩]
