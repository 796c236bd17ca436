/-! sheets -/
theorem f_isSheet (s : ZS) (x : Int) : fX11_isSheet s x = some (if 0 ≤ x ∧ x < 4 then 1 else 0, s) := by
  refine rt_is ?_
  unfold fX11_isSheet
  refine rt_b (rt_e (f_within s x 3) (rt_ret ⟨?_, rfl⟩))
  by_cases q : 0 ≤ x ∧ x < 4
  · rw [if_pos q, if_pos (by omega)]
  · rw [if_neg q, if_neg (by omega)]
theorem f_isMissing {σ : ZS} {S k : Int} (hk : sK σ S = 6) (h1 : sM σ S 1 = k) : fX6_isMissing σ S = some (if k = -1 then 1 else 0, σ) := by
  refine rt_is ?_
  unfold fX6_isMissing
  refine rt_gx hk h1 ?_
  by_cases q : k = -1
  · exact rt_pos q (rt_ret ⟨by rw [if_pos q], rfl⟩)
  · exact rt_neg q (rt_ret ⟨by rw [if_neg q], rfl⟩)
theorem q_rates {σ : ZS} (h : Rel σ) (s k fr cnt : Int) (hfr : zInR fr) : Rt (fX11_rates σ 3 s k fr cnt) (fun x τ => Rt (fX12_rates τ 64 s k fr cnt) (fun y ρ => Fin σ x y ρ)) := by
  have hF := h.F
  have h9 := hF.2.2.2
  unfold zInR at hfr
  unfold fX11_rates
  have bad : ∀ x : Int, x = -2 → ¬ ((0 ≤ s ∧ s < 4) ∧ (0 ≤ k ∧ k ≤ 2) ∧ (0 ≤ cnt ∧ cnt ≤ 10)) → Rt (fX12_rates σ 64 s k fr cnt) (fun y ρ => Fin σ x y ρ) := by
    intro x hx hb
    unfold fX12_rates
    refine rt_b (rt_e (f_in σ s 0 3) ?_)
    by_cases h1 : 0 ≤ s ∧ s ≤ 3
    · rw [if_pos h1]
      refine rt_neg (by omega) (rt_b (rt_e (f_in σ k 0 2) ?_))
      by_cases h2 : 0 ≤ k ∧ k ≤ 2
      · rw [if_pos h2]
        refine rt_neg (by omega) (rt_b (rt_e (f_in σ cnt 0 10) ?_))
        rw [if_neg (fun q => hb ⟨by omega, h2, q⟩)]
        exact rt_pos rfl (rt_ret (fin0 h hx))
      · rw [if_neg h2]
        exact rt_pos rfl (rt_ret (fin0 h hx))
    · rw [if_neg h1]
      exact rt_pos rfl (rt_ret (fin0 h hx))
  refine rt_b (rt_e (f_isSheet σ s) ?_)
  by_cases hs : 0 ≤ s ∧ s < 4
  · rw [if_pos hs]
    refine rt_neg (by omega) (rt_b (rt_e (f_within σ k 2) ?_))
    by_cases hk : 0 ≤ k ∧ k ≤ 2
    · rw [if_pos hk]
      refine rt_neg (by omega) (rt_b (rt_e (f_within σ cnt 10) ?_))
      by_cases hc : 0 ≤ cnt ∧ cnt ≤ 10
      · rw [if_pos hc]
        refine rt_neg (by omega) ?_
        obtain ⟨⟨a1, a2, a3⟩, ⟨b1, b2, b3⟩, c1⟩ := h.Sh s hs.1 hs.2
        have e1 := hd a1
        have kS := hd (show sK σ (56 + 2 * s) = 6 by simp (disch := omega) only [true_and, and_true, sM_ne, sM_eq, sM_neR, sM_eqR, sK_upM, sK_upR, sL_upM, sL_upR, sN_upM, sN_upR, sT_upM, sT_upR, sN_upM, Int.reduceAdd, Int.reduceMul, Int.reduceSub, Int.reduceNeg, Int.zero_add, Int.add_zero, hF.c])
        refine rt_gx (x := 40) (by simp (disch := omega) only [true_and, and_true, sM_ne, sM_eq, sM_neR, sM_eqR, sK_upM, sK_upR, sL_upM, sL_upR, sN_upM, sN_upR, sT_upM, sT_upR, sN_upM, Int.reduceAdd, Int.reduceMul, Int.reduceSub, Int.reduceNeg, Int.zero_add, Int.add_zero, hF.c]) (by simp (disch := omega) only [true_and, and_true, sM_ne, sM_eq, sM_neR, sM_eqR, sK_upM, sK_upR, sL_upM, sL_upR, sN_upM, sN_upR, sT_upM, sT_upR, sN_upM, Int.reduceAdd, Int.reduceMul, Int.reduceSub, Int.reduceNeg, Int.zero_add, Int.add_zero, hF.c]) ?_
        refine rt_alx (x := 56 + 2 * s) (by simp (disch := omega) only [true_and, and_true, sM_ne, sM_eq, sM_neR, sM_eqR, sK_upM, sK_upR, sL_upM, sL_upR, sN_upM, sN_upR, sT_upM, sT_upR, sN_upM, Int.reduceAdd, Int.reduceMul, Int.reduceSub, Int.reduceNeg, Int.zero_add, Int.add_zero, hF.c]) (by simp (disch := omega) only [true_and, and_true, sM_ne, sM_eq, sM_neR, sM_eqR, sK_upM, sK_upR, sL_upM, sL_upR, sN_upM, sN_upR, sT_upM, sT_upR, sN_upM, Int.reduceAdd, Int.reduceMul, Int.reduceSub, Int.reduceNeg, Int.zero_add, Int.add_zero, hF.c]; omega) (by simp (disch := omega) only [true_and, and_true, sM_ne, sM_eq, sM_neR, sM_eqR, sK_upM, sK_upR, sL_upM, sL_upR, sN_upM, sN_upR, sT_upM, sT_upR, sN_upM, Int.reduceAdd, Int.reduceMul, Int.reduceSub, Int.reduceNeg, Int.zero_add, Int.add_zero, hF.c]) ?_
        refine rt_b (rt_v (kS ()) (rt_e (f_isMissing (kS ()) (e1 ())) ?_))
        have ref : ∀ (x : Int) (τ : ZS), Ch (fun a _ => 7 ≤ a ∧ a ≤ 8) σ τ → (sM σ 81 s = -1 → x = -11 ∧ τ = σ) → (sM σ 81 s ≠ -1 → sM σ 81 s ≠ k → x = -13 ∧ τ = σ) → (sM σ 81 s ≠ -1 → sM σ 81 s = k → x = (rtsF (fun i => sM σ 83 (40 * s + i)) (sM σ 82 s) cnt.toNat fr 0 (vrt σ)).1 ∧ rCl τ (rtsF (fun i => sM σ 83 (40 * s + i)) (sM σ 82 s) cnt.toNat fr 0 (vrt σ)).2) → Rt (fX12_rates τ 64 s k fr cnt) (fun y ρ => Fin σ x y ρ) := by
          intro x τ hcτ p1 p2 p3
          have hFτ := hcτ.Fx hF (fun a i q => NF_i (by omega))
          have e81 := hd (show sM τ 81 s = sM σ 81 s from hcτ.M (by omega) (by omega))
          unfold fX12_rates
          refine rt_b (rt_e (f_in τ s 0 3) ?_)
          rw [if_pos (show 0 ≤ s ∧ s ≤ 3 by omega)]
          refine rt_neg (by omega) (rt_b (rt_e (f_in τ k 0 2) ?_))
          rw [if_pos hk]
          refine rt_neg (by omega) (rt_b (rt_e (f_in τ cnt 0 10) ?_))
          rw [if_pos hc]
          refine rt_neg (by omega) ?_
          refine rt_gx (x := 81) (by simp (disch := omega) only [true_and, and_true, sM_ne, sM_eq, sM_neR, sM_eqR, sK_upM, sK_upR, sL_upM, sL_upR, sN_upM, sN_upR, sT_upM, sT_upR, sN_upM, Int.reduceAdd, Int.reduceMul, Int.reduceSub, Int.reduceNeg, Int.zero_add, Int.add_zero, hFτ.c]) (by simp (disch := omega) only [true_and, and_true, sM_ne, sM_eq, sM_neR, sM_eqR, sK_upM, sK_upR, sL_upM, sL_upR, sN_upM, sN_upR, sT_upM, sT_upR, sN_upM, Int.reduceAdd, Int.reduceMul, Int.reduceSub, Int.reduceNeg, Int.zero_add, Int.add_zero, hFτ.c]) ?_
          refine rt_alx (x := sM σ 81 s) (by simp (disch := omega) only [true_and, and_true, sM_ne, sM_eq, sM_neR, sM_eqR, sK_upM, sK_upR, sL_upM, sL_upR, sN_upM, sN_upR, sT_upM, sT_upR, sN_upM, Int.reduceAdd, Int.reduceMul, Int.reduceSub, Int.reduceNeg, Int.zero_add, Int.add_zero, hFτ.c]) (by simp (disch := omega) only [true_and, and_true, sM_ne, sM_eq, sM_neR, sM_eqR, sK_upM, sK_upR, sL_upM, sL_upR, sN_upM, sN_upR, sT_upM, sT_upR, sN_upM, Int.reduceAdd, Int.reduceMul, Int.reduceSub, Int.reduceNeg, Int.zero_add, Int.add_zero, hFτ.c]; omega) (e81 ()) ?_
          by_cases q1 : sM σ 81 s = -1
          · obtain ⟨x1, x2⟩ := p1 q1
            subst x2
            exact rt_pos q1 (rt_ret (fin0 h x1))
          · refine rt_neg q1 ?_
            refine rt_gx (x := 81) (by simp (disch := omega) only [true_and, and_true, sM_ne, sM_eq, sM_neR, sM_eqR, sK_upM, sK_upR, sL_upM, sL_upR, sN_upM, sN_upR, sT_upM, sT_upR, sN_upM, Int.reduceAdd, Int.reduceMul, Int.reduceSub, Int.reduceNeg, Int.zero_add, Int.add_zero, hFτ.c]) (by simp (disch := omega) only [true_and, and_true, sM_ne, sM_eq, sM_neR, sM_eqR, sK_upM, sK_upR, sL_upM, sL_upR, sN_upM, sN_upR, sT_upM, sT_upR, sN_upM, Int.reduceAdd, Int.reduceMul, Int.reduceSub, Int.reduceNeg, Int.zero_add, Int.add_zero, hFτ.c]) ?_
            refine rt_alx (x := sM σ 81 s) (by simp (disch := omega) only [true_and, and_true, sM_ne, sM_eq, sM_neR, sM_eqR, sK_upM, sK_upR, sL_upM, sL_upR, sN_upM, sN_upR, sT_upM, sT_upR, sN_upM, Int.reduceAdd, Int.reduceMul, Int.reduceSub, Int.reduceNeg, Int.zero_add, Int.add_zero, hFτ.c]) (by simp (disch := omega) only [true_and, and_true, sM_ne, sM_eq, sM_neR, sM_eqR, sK_upM, sK_upR, sL_upM, sL_upR, sN_upM, sN_upR, sT_upM, sT_upR, sN_upM, Int.reduceAdd, Int.reduceMul, Int.reduceSub, Int.reduceNeg, Int.zero_add, Int.add_zero, hFτ.c]; omega) (e81 ()) ?_
            by_cases q2 : sM σ 81 s = k
            · obtain ⟨x1, x2⟩ := p3 q1 q2
              refine rt_pos q2 ?_
              have := l_rs64 (σ := τ) (s := s) (z := sM σ 82 s) (cnt := cnt) (fr := fr) (cl := fun i => sM σ 83 (40 * s + i)) hs.1 hs.2 b2 b3 hc.2 hfr.1 hfr.2 1000 0 τ 0 (vrt σ) hFτ Ch.rf (hcτ.M (by omega) (by omega)) (fun i i0 i1 => hcτ.M (by omega) (by omega)) (fun g t g0 g1 t0 t1 => by rw [hcτ.M (by omega) (by omega)]; rfl) (by omega) (by omega) (by omega) (by omega) (Or.inl rfl)
              rw [show (cnt - ((0 : Nat) : Int)).toNat = cnt.toNat by omega, show fr + 4 * ((0 : Nat) : Int) = fr by omega] at this
              refine Rt.mono this ?_
              rintro y ρ ⟨y1, hcρ, y2⟩
              have hcc := (hcτ.mono (fun a i q => (Or.inl q : (7 ≤ a ∧ a ≤ 8) ∨ a = 65))).tr (hcρ.mono (fun a i q => Or.inr q))
              refine finS (by rw [x1, y1]) (h.rates hcc (fun g' t' a0 a1 b0 b1 => ?_) y2 ?_) hcc.2
              · rw [hcρ.M (by have := hcτ.2.1; omega) (by omega)]
                exact x2 g' t' a0 a1 b0 b1
              · have rin : ∀ (m : Nat) (x n : Int) (rt : Int → Int → Int), rIn rt → rIn (rtsF (fun i => sM σ 83 (40 * s + i)) (sM σ 82 s) m x n rt).2 := by
                  intro m
                  induction m with
                  | zero => intro x n rt q; exact q
                  | succ m ih =>
                    intro x n rt q
                    unfold rtsF
                    split
                    · exact q
                    · exact ih _ _ _ (rtR_in q)
                exact rin _ _ _ _ h.rC.2.2
            · obtain ⟨x1, x2⟩ := p2 q1 q2
              subst x2
              exact rt_neg q2 (rt_ret (fin0 h x1))
        by_cases q1 : sM σ 81 s = -1
        · rw [if_pos q1]
          exact rt_neg (by omega) (rt_ret (ref _ σ Ch.rf (fun _ => ⟨rfl, rfl⟩) (fun q => absurd q1 q) (fun q => absurd q1 q)))
        · rw [if_neg q1]
          refine rt_pos rfl ?_
          refine rt_gx (x := sM σ 81 s) (kS ()) (e1 ()) ?_
          by_cases q2 : sM σ 81 s = k
          · refine rt_pos q2 ?_
            have := l_rs68 (σ := σ) (s := s) (z := sM σ 82 s) (cnt := cnt) (cl := fun i => sM σ 83 (40 * s + i)) hs.1 hs.2 b2 b3 hc.2 1000 0 σ 0 fr (vrt σ) hF Ch.rf b1 (fun i i0 i1 => c1 i i0 i1) h.rC.1 (by omega) (by omega) (by omega) (by omega) hfr.1 hfr.2
            rw [show (cnt - ((0 : Nat) : Int)).toNat = cnt.toNat by omega] at this
            refine Rt.mono this ?_
            rintro x τ ⟨y1, hcτ, y2⟩
            exact ref x τ hcτ (fun q => absurd q q1) (fun _ q => absurd q2 q) (fun _ _ => ⟨y1, y2⟩)
          · exact rt_neg q2 (rt_ret (ref _ σ Ch.rf (fun q => absurd q q1) (fun _ _ => ⟨rfl, rfl⟩) (fun _ q => absurd q q2)))
      · rw [if_neg hc]
        exact rt_pos rfl (rt_ret (bad _ rfl (fun q => hc q.2.2)))
    · rw [if_neg hk]
      exact rt_pos rfl (rt_ret (bad _ rfl (fun q => hk q.2.1)))
  · rw [if_neg hs]
    exact rt_pos rfl (rt_ret (bad _ rfl (fun q => hs q.1)))
def shS (s a i : Int) : Prop := (a = 56 + 2 * s ∧ (i = 1 ∨ i = 2)) ∨ a = 57 + 2 * s ∨ (81 ≤ a ∧ a ≤ 82) ∨ (a = 83 ∧ 40 * s ≤ i ∧ i < 40 * s + 40)
/-- one sheet changed in both halves -/
theorem Rel.shOne {σ ρ : ZS} (h : Rel σ) {s : Int} (s0 : 0 ≤ s) (s1 : s < 4) (c : Ch (shS s) σ ρ) (h1 : ∀ s' : Int, s' ≠ s → sM ρ 81 s' = sM σ 81 s' ∧ sM ρ 82 s' = sM σ 82 s') (hk : sM ρ (56 + 2 * s) 1 = sM ρ 81 s ∧ -1 ≤ sM ρ 81 s ∧ sM ρ 81 s ≤ 2) (hz : sM ρ (56 + 2 * s) 2 = sM ρ 82 s ∧ 0 ≤ sM ρ 82 s ∧ sM ρ 82 s ≤ 40) (hc : ∀ i : Int, 0 ≤ i → i < 40 → sM ρ (57 + 2 * s) i = sM ρ 83 (40 * s + i)) : Rel ρ := by
  have h9 := h.F.2.2.2
  refine h.sheet c.1 (fun a i q => by unfold shS at q; omega) (fun s' a0 a1 => ?_)
  by_cases q : s' = s
  · subst q
    exact ⟨hk, hz, hc⟩
  · obtain ⟨x, y, z⟩ := h.Sh s' a0 a1
    rw [c.M (by omega) (by unfold shS; omega), (h1 s' q).1, c.M (by omega) (by unfold shS; omega), (h1 s' q).2]
    refine ⟨x, y, fun i i0 i1 => ?_⟩
    rw [c.M (by omega) (by unfold shS; omega), c.M (by omega) (by unfold shS; omega)]
    exact z i i0 i1
theorem l_ren12 {σ : ZS} {s : Int} (s0 : 0 ≤ s) (s1 : s < 4) : ∀ (N c : Nat) (τ : ZS), FxD τ → c ≤ 40 → 40 - c < N → Ch (fun a _ => a = 57 + 2 * s) σ τ → (∀ i : Int, 0 ≤ i → i < (c : Int) → sM τ (57 + 2 * s) i = 0) → Rt (lX6_renew_12 (56 + 2 * s) N τ (c : Int)) (fun _ ρ => Ch (fun a _ => a = 57 + 2 * s) σ ρ ∧ ∀ i : Int, 0 ≤ i → i < 40 → sM ρ (57 + 2 * s) i = 0)
  | 0, c, τ, _, h1, h2, _, _ => by omega
  | N + 1, c, τ, hF, h1, h2, hc, hz => by
    rw [lX6_renew_12]
    by_cases he : 40 ≤ (c : Int)
    · exact rt_pos he (rt_ret ⟨hc, fun i i0 i1 => hz i i0 (by omega)⟩)
    · refine rt_neg he ?_
      repeat (first
    | with_reducible refine rt_b ?_
    | with_reducible refine rt_jn ?_
    | ((with_reducible refine rt_pos ?_ ?_); (· first | omega | ((try simp (disch := omega) only [wr, true_and, and_true, sM_ne, sM_eq, sM_neR, sM_eqR, sK_upM, sK_upR, sL_upM, sL_upR, sN_upM, sN_upR, sT_upM, sT_upR, sN_upM, Int.reduceAdd, Int.reduceMul, Int.reduceSub, Int.reduceNeg, Int.zero_add, Int.add_zero, hF.c]) <;> omega)))
    | ((with_reducible refine rt_neg ?_ ?_); (· first | omega | ((try simp (disch := omega) only [wr, true_and, and_true, sM_ne, sM_eq, sM_neR, sM_eqR, sK_upM, sK_upR, sL_upM, sL_upR, sN_upM, sN_upR, sT_upM, sT_upR, sN_upM, Int.reduceAdd, Int.reduceMul, Int.reduceSub, Int.reduceNeg, Int.zero_add, Int.add_zero, hF.c]) <;> omega)))
    | ((with_reducible refine rt_v ?_ ?_); · simp (disch := omega) only [true_and, and_true, sM_ne, sM_eq, sM_neR, sM_eqR, sK_upM, sK_upR, sL_upM, sL_upR, sN_upM, sN_upR, sT_upM, sT_upR, sN_upM, Int.reduceAdd, Int.reduceMul, Int.reduceSub, Int.reduceNeg, Int.zero_add, Int.add_zero, hF.c])
    | ((with_reducible apply rt_gx); (· simp (disch := omega) only [true_and, and_true, sM_ne, sM_eq, sM_neR, sM_eqR, sK_upM, sK_upR, sL_upM, sL_upR, sN_upM, sN_upR, sT_upM, sT_upR, sN_upM, Int.reduceAdd, Int.reduceMul, Int.reduceSub, Int.reduceNeg, Int.zero_add, Int.add_zero, hF.c]); (· (try simp (disch := omega) only [wr, true_and, and_true, sM_ne, sM_eq, sM_neR, sM_eqR, sK_upM, sK_upR, sL_upM, sL_upR, sN_upM, sN_upR, sT_upM, sT_upR, sN_upM, Int.reduceAdd, Int.reduceMul, Int.reduceSub, Int.reduceNeg, Int.zero_add, Int.add_zero, hF.c]); exact rfl))
    | ((with_reducible apply rt_alx); (· simp (disch := omega) only [true_and, and_true, sM_ne, sM_eq, sM_neR, sM_eqR, sK_upM, sK_upR, sL_upM, sL_upR, sN_upM, sN_upR, sT_upM, sT_upR, sN_upM, Int.reduceAdd, Int.reduceMul, Int.reduceSub, Int.reduceNeg, Int.zero_add, Int.add_zero, hF.c]); (· first | omega | ((try simp (disch := omega) only [wr, true_and, and_true, sM_ne, sM_eq, sM_neR, sM_eqR, sK_upM, sK_upR, sL_upM, sL_upR, sN_upM, sN_upR, sT_upM, sT_upR, sN_upM, Int.reduceAdd, Int.reduceMul, Int.reduceSub, Int.reduceNeg, Int.zero_add, Int.add_zero, hF.c]) <;> omega)); (· (try simp (disch := omega) only [wr, true_and, and_true, sM_ne, sM_eq, sM_neR, sM_eqR, sK_upM, sK_upR, sL_upM, sL_upR, sN_upM, sN_upR, sT_upM, sT_upR, sN_upM, Int.reduceAdd, Int.reduceMul, Int.reduceSub, Int.reduceNeg, Int.zero_add, Int.add_zero, hF.c]); exact rfl))
    | ((with_reducible refine rt_as ?_ ?_ ?_); (· simp (disch := omega) only [true_and, and_true, sM_ne, sM_eq, sM_neR, sM_eqR, sK_upM, sK_upR, sL_upM, sL_upR, sN_upM, sN_upR, sT_upM, sT_upR, sN_upM, Int.reduceAdd, Int.reduceMul, Int.reduceSub, Int.reduceNeg, Int.zero_add, Int.add_zero, hF.c]); (· first | omega | ((try simp (disch := omega) only [wr, true_and, and_true, sM_ne, sM_eq, sM_neR, sM_eqR, sK_upM, sK_upR, sL_upM, sL_upR, sN_upM, sN_upR, sT_upM, sT_upR, sN_upM, Int.reduceAdd, Int.reduceMul, Int.reduceSub, Int.reduceNeg, Int.zero_add, Int.add_zero, hF.c]) <;> omega)))
    | ((with_reducible refine rt_p ?_ ?_ ?_); (· simp (disch := omega) only [true_and, and_true, sM_ne, sM_eq, sM_neR, sM_eqR, sK_upM, sK_upR, sL_upM, sL_upR, sN_upM, sN_upR, sT_upM, sT_upR, sN_upM, Int.reduceAdd, Int.reduceMul, Int.reduceSub, Int.reduceNeg, Int.zero_add, Int.add_zero, hF.c]); (· omega))
    | with_reducible refine rt_ret ?_
    | ((with_reducible apply rt_gwx); (· assumption); (· (try simp (disch := omega) only [wr, true_and, and_true, sM_ne, sM_eq, sM_neR, sM_eqR, sK_upM, sK_upR, sL_upM, sL_upR, sN_upM, sN_upR, sT_upM, sT_upR, sN_upM, Int.reduceAdd, Int.reduceMul, Int.reduceSub, Int.reduceNeg, Int.zero_add, Int.add_zero, hF.c]); exact rfl)))
      rw [wr1 c (by omega)]
      refine l_ren12 s0 s1 N (c + 1) _ (hF.up (NF_i (by omega))) (by omega) (by omega) (hc.up rfl) (fun i i0 i1 => ?_)
      by_cases e : i = (c : Int)
      · rw [sM_eq ⟨rfl, e⟩]
      · rw [sM_ne (Or.inr e)]; exact hz i i0 (by omega)
theorem l_sh70 {σ : ZS} {s : Int} (s0 : 0 ≤ s) (s1 : s < 4) : ∀ (N c : Nat) (τ : ZS), FxD τ → c ≤ 40 → 40 - c < N → Ch (fun a i => a = 83 ∧ 40 * s ≤ i ∧ i < 40 * s + 40) σ τ → (∀ i : Int, 0 ≤ i → i < (c : Int) → sM τ 83 (40 * s + i) = 0) → Rt (lX12_sheet_70 64 s N τ (c : Int)) (fun v ρ => v = 1 ∧ Ch (fun a i => a = 83 ∧ 40 * s ≤ i ∧ i < 40 * s + 40) σ ρ ∧ ∀ i : Int, 0 ≤ i → i < 40 → sM ρ 83 (40 * s + i) = 0)
  | 0, c, τ, _, h1, h2, _, _ => by omega
  | N + 1, c, τ, hF, h1, h2, hc, hz => by
    rw [lX12_sheet_70]
    by_cases he : 40 ≤ (c : Int)
    · exact rt_pos he (rt_ret ⟨rfl, hc, fun i i0 i1 => hz i i0 (by omega)⟩)
    · refine rt_neg he ?_
      have w0 := hd (show wrap (wrap (40 * s) + (c : Int)) = 40 * s + (c : Int) by rw [wr (x := 40 * s) (by omega) (by omega), wr (by omega) (by omega)])
      repeat (first
    | with_reducible refine rt_b ?_
    | with_reducible refine rt_jn ?_
    | ((with_reducible refine rt_pos ?_ ?_); (· first | omega | ((try simp (disch := omega) only [wr, true_and, and_true, sM_ne, sM_eq, sM_neR, sM_eqR, sK_upM, sK_upR, sL_upM, sL_upR, sN_upM, sN_upR, sT_upM, sT_upR, sN_upM, Int.reduceAdd, Int.reduceMul, Int.reduceSub, Int.reduceNeg, Int.zero_add, Int.add_zero, hF.c, w0 ()]) <;> omega)))
    | ((with_reducible refine rt_neg ?_ ?_); (· first | omega | ((try simp (disch := omega) only [wr, true_and, and_true, sM_ne, sM_eq, sM_neR, sM_eqR, sK_upM, sK_upR, sL_upM, sL_upR, sN_upM, sN_upR, sT_upM, sT_upR, sN_upM, Int.reduceAdd, Int.reduceMul, Int.reduceSub, Int.reduceNeg, Int.zero_add, Int.add_zero, hF.c, w0 ()]) <;> omega)))
    | ((with_reducible refine rt_v ?_ ?_); · simp (disch := omega) only [true_and, and_true, sM_ne, sM_eq, sM_neR, sM_eqR, sK_upM, sK_upR, sL_upM, sL_upR, sN_upM, sN_upR, sT_upM, sT_upR, sN_upM, Int.reduceAdd, Int.reduceMul, Int.reduceSub, Int.reduceNeg, Int.zero_add, Int.add_zero, hF.c, w0 ()])
    | ((with_reducible apply rt_gx); (· simp (disch := omega) only [true_and, and_true, sM_ne, sM_eq, sM_neR, sM_eqR, sK_upM, sK_upR, sL_upM, sL_upR, sN_upM, sN_upR, sT_upM, sT_upR, sN_upM, Int.reduceAdd, Int.reduceMul, Int.reduceSub, Int.reduceNeg, Int.zero_add, Int.add_zero, hF.c, w0 ()]); (· (try simp (disch := omega) only [wr, true_and, and_true, sM_ne, sM_eq, sM_neR, sM_eqR, sK_upM, sK_upR, sL_upM, sL_upR, sN_upM, sN_upR, sT_upM, sT_upR, sN_upM, Int.reduceAdd, Int.reduceMul, Int.reduceSub, Int.reduceNeg, Int.zero_add, Int.add_zero, hF.c, w0 ()]); exact rfl))
    | ((with_reducible apply rt_alx); (· simp (disch := omega) only [true_and, and_true, sM_ne, sM_eq, sM_neR, sM_eqR, sK_upM, sK_upR, sL_upM, sL_upR, sN_upM, sN_upR, sT_upM, sT_upR, sN_upM, Int.reduceAdd, Int.reduceMul, Int.reduceSub, Int.reduceNeg, Int.zero_add, Int.add_zero, hF.c, w0 ()]); (· first | omega | ((try simp (disch := omega) only [wr, true_and, and_true, sM_ne, sM_eq, sM_neR, sM_eqR, sK_upM, sK_upR, sL_upM, sL_upR, sN_upM, sN_upR, sT_upM, sT_upR, sN_upM, Int.reduceAdd, Int.reduceMul, Int.reduceSub, Int.reduceNeg, Int.zero_add, Int.add_zero, hF.c, w0 ()]) <;> omega)); (· (try simp (disch := omega) only [wr, true_and, and_true, sM_ne, sM_eq, sM_neR, sM_eqR, sK_upM, sK_upR, sL_upM, sL_upR, sN_upM, sN_upR, sT_upM, sT_upR, sN_upM, Int.reduceAdd, Int.reduceMul, Int.reduceSub, Int.reduceNeg, Int.zero_add, Int.add_zero, hF.c, w0 ()]); exact rfl))
    | ((with_reducible refine rt_as ?_ ?_ ?_); (· simp (disch := omega) only [true_and, and_true, sM_ne, sM_eq, sM_neR, sM_eqR, sK_upM, sK_upR, sL_upM, sL_upR, sN_upM, sN_upR, sT_upM, sT_upR, sN_upM, Int.reduceAdd, Int.reduceMul, Int.reduceSub, Int.reduceNeg, Int.zero_add, Int.add_zero, hF.c, w0 ()]); (· first | omega | ((try simp (disch := omega) only [wr, true_and, and_true, sM_ne, sM_eq, sM_neR, sM_eqR, sK_upM, sK_upR, sL_upM, sL_upR, sN_upM, sN_upR, sT_upM, sT_upR, sN_upM, Int.reduceAdd, Int.reduceMul, Int.reduceSub, Int.reduceNeg, Int.zero_add, Int.add_zero, hF.c, w0 ()]) <;> omega)))
    | ((with_reducible refine rt_p ?_ ?_ ?_); (· simp (disch := omega) only [true_and, and_true, sM_ne, sM_eq, sM_neR, sM_eqR, sK_upM, sK_upR, sL_upM, sL_upR, sN_upM, sN_upR, sT_upM, sT_upR, sN_upM, Int.reduceAdd, Int.reduceMul, Int.reduceSub, Int.reduceNeg, Int.zero_add, Int.add_zero, hF.c, w0 ()]); (· omega))
    | with_reducible refine rt_ret ?_
    | ((with_reducible apply rt_gwx); (· assumption); (· (try simp (disch := omega) only [wr, true_and, and_true, sM_ne, sM_eq, sM_neR, sM_eqR, sK_upM, sK_upR, sL_upM, sL_upR, sN_upM, sN_upR, sT_upM, sT_upR, sN_upM, Int.reduceAdd, Int.reduceMul, Int.reduceSub, Int.reduceNeg, Int.zero_add, Int.add_zero, hF.c, w0 ()]); exact rfl)))
      rw [wr1 c (by omega)]
      simp only [w0 ()]
      refine l_sh70 s0 s1 N (c + 1) _ (hF.up (NF_i (by omega))) (by omega) (by omega) (hc.up ⟨rfl, by omega, by omega⟩) (fun i i0 i1 => ?_)
      by_cases e : i = (c : Int)
      · rw [sM_eq ⟨rfl, by omega⟩]
      · rw [sM_ne (by omega)]; exact hz i i0 (by omega)
theorem q_sheet {σ : ZS} (h : Rel σ) (s k z : Int) : Rt (fX11_sheet σ 3 s k z) (fun x τ => Rt (fX12_sheet τ 64 s k z) (fun y ρ => Fin σ x y ρ)) := by
  have hF := h.F
  have h9 := hF.2.2.2
  unfold fX11_sheet
  refine rt_b (rt_e (f_isSheet σ s) ?_)
  have ref0 : ∀ (x : Int), (¬ ((0 ≤ s ∧ s < 4) ∧ (-1 ≤ k ∧ k ≤ 2)) ∧ x = -2) ∨ (((0 ≤ s ∧ s < 4) ∧ (-1 ≤ k ∧ k ≤ 2)) ∧ k ≠ -1 ∧ 40 < z ∧ x = -2) ∨ (((0 ≤ s ∧ s < 4) ∧ (-1 ≤ k ∧ k ≤ 2)) ∧ k ≠ -1 ∧ z < 0 ∧ x = -14) → Rt (fX12_sheet σ 64 s k z) (fun y ρ => Fin σ x y ρ) := by
    intro x hx
    unfold fX12_sheet
    refine rt_b (rt_e (f_in σ s 0 3) ?_)
    by_cases h1 : 0 ≤ s ∧ s ≤ 3
    · rw [if_pos h1]
      refine rt_neg (by omega) (rt_b (rt_e (f_in σ k (-1) 2) ?_))
      by_cases h2 : -1 ≤ k ∧ k ≤ 2
      · rw [if_pos h2]
        refine rt_neg (by omega) (rt_jn (rt_neg (by omega) ?_))
        by_cases h3 : z ≤ 40
        · refine rt_pos h3 (rt_jn (rt_neg (by omega) (rt_neg (by omega) (rt_ret (fin0 h (by omega))))))
        · exact rt_neg h3 (rt_ret (fin0 h (by omega)))
      · rw [if_neg h2]
        exact rt_pos rfl (rt_ret (fin0 h (by omega)))
    · rw [if_neg h1]
      exact rt_pos rfl (rt_ret (fin0 h (by omega)))
  by_cases hs : 0 ≤ s ∧ s < 4
  · rw [if_pos hs]
    refine rt_neg (by omega) ?_
    by_cases k1 : k < -1
    · exact rt_pos k1 (rt_ret (ref0 _ (by omega)))
    · refine rt_neg k1 ?_
      by_cases k2 : k ≤ 2
      · refine rt_pos k2 ?_
        -- the making of a sheet, where the size is v
        have make : ∀ v : Int, 0 ≤ v → v ≤ 40 → (k = -1 → v = 0) → (k ≠ -1 → v = z) → Rt (zb (zv σ 6 (56 + 2 * s) (fX6_renew σ (56 + 2 * s) k v)) (fun v18 s19 => some (1, s19))) (fun x τ => Rt (fX12_sheet τ 64 s k z) (fun y ρ => Fin σ x y ρ)) := by
          intro v v0 v40 hv1 hv2
          refine rt_b (rt_v (by simp (disch := omega) only [true_and, and_true, sM_ne, sM_eq, sM_neR, sM_eqR, sK_upM, sK_upR, sL_upM, sL_upR, sN_upM, sN_upR, sT_upM, sT_upR, sN_upM, Int.reduceAdd, Int.reduceMul, Int.reduceSub, Int.reduceNeg, Int.zero_add, Int.add_zero, hF.c]) ?_)
          unfold fX6_renew
          repeat (first
    | with_reducible refine rt_b ?_
    | with_reducible refine rt_jn ?_
    | ((with_reducible refine rt_pos ?_ ?_); (· first | omega | ((try simp (disch := omega) only [wr, true_and, and_true, sM_ne, sM_eq, sM_neR, sM_eqR, sK_upM, sK_upR, sL_upM, sL_upR, sN_upM, sN_upR, sT_upM, sT_upR, sN_upM, Int.reduceAdd, Int.reduceMul, Int.reduceSub, Int.reduceNeg, Int.zero_add, Int.add_zero, hF.c]) <;> omega)))
    | ((with_reducible refine rt_neg ?_ ?_); (· first | omega | ((try simp (disch := omega) only [wr, true_and, and_true, sM_ne, sM_eq, sM_neR, sM_eqR, sK_upM, sK_upR, sL_upM, sL_upR, sN_upM, sN_upR, sT_upM, sT_upR, sN_upM, Int.reduceAdd, Int.reduceMul, Int.reduceSub, Int.reduceNeg, Int.zero_add, Int.add_zero, hF.c]) <;> omega)))
    | ((with_reducible refine rt_v ?_ ?_); · simp (disch := omega) only [true_and, and_true, sM_ne, sM_eq, sM_neR, sM_eqR, sK_upM, sK_upR, sL_upM, sL_upR, sN_upM, sN_upR, sT_upM, sT_upR, sN_upM, Int.reduceAdd, Int.reduceMul, Int.reduceSub, Int.reduceNeg, Int.zero_add, Int.add_zero, hF.c])
    | ((with_reducible apply rt_gx); (· simp (disch := omega) only [true_and, and_true, sM_ne, sM_eq, sM_neR, sM_eqR, sK_upM, sK_upR, sL_upM, sL_upR, sN_upM, sN_upR, sT_upM, sT_upR, sN_upM, Int.reduceAdd, Int.reduceMul, Int.reduceSub, Int.reduceNeg, Int.zero_add, Int.add_zero, hF.c]); (· (try simp (disch := omega) only [wr, true_and, and_true, sM_ne, sM_eq, sM_neR, sM_eqR, sK_upM, sK_upR, sL_upM, sL_upR, sN_upM, sN_upR, sT_upM, sT_upR, sN_upM, Int.reduceAdd, Int.reduceMul, Int.reduceSub, Int.reduceNeg, Int.zero_add, Int.add_zero, hF.c]); exact rfl))
    | ((with_reducible apply rt_alx); (· simp (disch := omega) only [true_and, and_true, sM_ne, sM_eq, sM_neR, sM_eqR, sK_upM, sK_upR, sL_upM, sL_upR, sN_upM, sN_upR, sT_upM, sT_upR, sN_upM, Int.reduceAdd, Int.reduceMul, Int.reduceSub, Int.reduceNeg, Int.zero_add, Int.add_zero, hF.c]); (· first | omega | ((try simp (disch := omega) only [wr, true_and, and_true, sM_ne, sM_eq, sM_neR, sM_eqR, sK_upM, sK_upR, sL_upM, sL_upR, sN_upM, sN_upR, sT_upM, sT_upR, sN_upM, Int.reduceAdd, Int.reduceMul, Int.reduceSub, Int.reduceNeg, Int.zero_add, Int.add_zero, hF.c]) <;> omega)); (· (try simp (disch := omega) only [wr, true_and, and_true, sM_ne, sM_eq, sM_neR, sM_eqR, sK_upM, sK_upR, sL_upM, sL_upR, sN_upM, sN_upR, sT_upM, sT_upR, sN_upM, Int.reduceAdd, Int.reduceMul, Int.reduceSub, Int.reduceNeg, Int.zero_add, Int.add_zero, hF.c]); exact rfl))
    | ((with_reducible refine rt_as ?_ ?_ ?_); (· simp (disch := omega) only [true_and, and_true, sM_ne, sM_eq, sM_neR, sM_eqR, sK_upM, sK_upR, sL_upM, sL_upR, sN_upM, sN_upR, sT_upM, sT_upR, sN_upM, Int.reduceAdd, Int.reduceMul, Int.reduceSub, Int.reduceNeg, Int.zero_add, Int.add_zero, hF.c]); (· first | omega | ((try simp (disch := omega) only [wr, true_and, and_true, sM_ne, sM_eq, sM_neR, sM_eqR, sK_upM, sK_upR, sL_upM, sL_upR, sN_upM, sN_upR, sT_upM, sT_upR, sN_upM, Int.reduceAdd, Int.reduceMul, Int.reduceSub, Int.reduceNeg, Int.zero_add, Int.add_zero, hF.c]) <;> omega)))
    | ((with_reducible refine rt_p ?_ ?_ ?_); (· simp (disch := omega) only [true_and, and_true, sM_ne, sM_eq, sM_neR, sM_eqR, sK_upM, sK_upR, sL_upM, sL_upR, sN_upM, sN_upR, sT_upM, sT_upR, sN_upM, Int.reduceAdd, Int.reduceMul, Int.reduceSub, Int.reduceNeg, Int.zero_add, Int.add_zero, hF.c]); (· omega))
    | with_reducible refine rt_ret ?_
    | ((with_reducible apply rt_gwx); (· assumption); (· (try simp (disch := omega) only [wr, true_and, and_true, sM_ne, sM_eq, sM_neR, sM_eqR, sK_upM, sK_upR, sL_upM, sL_upR, sN_upM, sN_upR, sT_upM, sT_upR, sN_upM, Int.reduceAdd, Int.reduceMul, Int.reduceSub, Int.reduceNeg, Int.zero_add, Int.add_zero, hF.c]); exact rfl)))
          have hc0 : Ch (fun a i => a = 56 + 2 * s ∧ (i = 1 ∨ i = 2)) σ (upM (upM σ (56 + 2 * s) 1 k) (56 + 2 * s) 2 v) := (Ch.rf.up ⟨rfl, Or.inl rfl⟩).up ⟨rfl, Or.inr rfl⟩
          have hF0 := hc0.Fx hF (fun a i q => NF_56 (by omega) q.2)
          have h01 : sM (upM (upM σ (56 + 2 * s) 1 k) (56 + 2 * s) 2 v) (56 + 2 * s) 1 = k := by rw [sM_ne (by omega), sM_eq ⟨rfl, rfl⟩]
          have h02 : sM (upM (upM σ (56 + 2 * s) 1 k) (56 + 2 * s) 2 v) (56 + 2 * s) 2 = v := by rw [sM_eq ⟨rfl, rfl⟩]
          generalize upM (upM σ (56 + 2 * s) 1 k) (56 + 2 * s) 2 v = σ0 at hc0 hF0 h01 h02 ⊢
          refine Rt.mono (l_ren12 (σ := σ0) hs.1 hs.2 1000 0 σ0 hF0 (by omega) (by omega) Ch.rf (fun i i0 i1 => by omega)) ?_
          rintro x τ ⟨hcτ, hzτ⟩
          refine rt_ret ?_
          have hn0 := hc0.2.1
          have hFτ := hcτ.Fx hF0 (fun a i q => NF_i (by omega))
          unfold fX12_sheet
          refine rt_b (rt_e (f_in τ s 0 3) ?_)
          rw [if_pos (show 0 ≤ s ∧ s ≤ 3 by omega)]
          refine rt_neg (by omega) (rt_b (rt_e (f_in τ k (-1) 2) ?_))
          rw [if_pos (show -1 ≤ k ∧ k ≤ 2 by omega)]
          refine rt_neg (by omega) ?_
          have fin : Rt ((zas τ 100 81 s k).bind (fun s16 => (zg s16 12 64 27).bind (fun v17 => (zas s16 100 v17 s v).bind (fun s21 => lX12_sheet_70 64 s 1000 s21 0)))) (fun y ρ => Fin σ 1 y ρ) := by
            repeat (first
    | with_reducible refine rt_b ?_
    | with_reducible refine rt_jn ?_
    | ((with_reducible refine rt_pos ?_ ?_); (· first | omega | ((try simp (disch := omega) only [wr, true_and, and_true, sM_ne, sM_eq, sM_neR, sM_eqR, sK_upM, sK_upR, sL_upM, sL_upR, sN_upM, sN_upR, sT_upM, sT_upR, sN_upM, Int.reduceAdd, Int.reduceMul, Int.reduceSub, Int.reduceNeg, Int.zero_add, Int.add_zero, hFτ.c]) <;> omega)))
    | ((with_reducible refine rt_neg ?_ ?_); (· first | omega | ((try simp (disch := omega) only [wr, true_and, and_true, sM_ne, sM_eq, sM_neR, sM_eqR, sK_upM, sK_upR, sL_upM, sL_upR, sN_upM, sN_upR, sT_upM, sT_upR, sN_upM, Int.reduceAdd, Int.reduceMul, Int.reduceSub, Int.reduceNeg, Int.zero_add, Int.add_zero, hFτ.c]) <;> omega)))
    | ((with_reducible refine rt_v ?_ ?_); · simp (disch := omega) only [true_and, and_true, sM_ne, sM_eq, sM_neR, sM_eqR, sK_upM, sK_upR, sL_upM, sL_upR, sN_upM, sN_upR, sT_upM, sT_upR, sN_upM, Int.reduceAdd, Int.reduceMul, Int.reduceSub, Int.reduceNeg, Int.zero_add, Int.add_zero, hFτ.c])
    | ((with_reducible apply rt_gx); (· simp (disch := omega) only [true_and, and_true, sM_ne, sM_eq, sM_neR, sM_eqR, sK_upM, sK_upR, sL_upM, sL_upR, sN_upM, sN_upR, sT_upM, sT_upR, sN_upM, Int.reduceAdd, Int.reduceMul, Int.reduceSub, Int.reduceNeg, Int.zero_add, Int.add_zero, hFτ.c]); (· (try simp (disch := omega) only [wr, true_and, and_true, sM_ne, sM_eq, sM_neR, sM_eqR, sK_upM, sK_upR, sL_upM, sL_upR, sN_upM, sN_upR, sT_upM, sT_upR, sN_upM, Int.reduceAdd, Int.reduceMul, Int.reduceSub, Int.reduceNeg, Int.zero_add, Int.add_zero, hFτ.c]); exact rfl))
    | ((with_reducible apply rt_alx); (· simp (disch := omega) only [true_and, and_true, sM_ne, sM_eq, sM_neR, sM_eqR, sK_upM, sK_upR, sL_upM, sL_upR, sN_upM, sN_upR, sT_upM, sT_upR, sN_upM, Int.reduceAdd, Int.reduceMul, Int.reduceSub, Int.reduceNeg, Int.zero_add, Int.add_zero, hFτ.c]); (· first | omega | ((try simp (disch := omega) only [wr, true_and, and_true, sM_ne, sM_eq, sM_neR, sM_eqR, sK_upM, sK_upR, sL_upM, sL_upR, sN_upM, sN_upR, sT_upM, sT_upR, sN_upM, Int.reduceAdd, Int.reduceMul, Int.reduceSub, Int.reduceNeg, Int.zero_add, Int.add_zero, hFτ.c]) <;> omega)); (· (try simp (disch := omega) only [wr, true_and, and_true, sM_ne, sM_eq, sM_neR, sM_eqR, sK_upM, sK_upR, sL_upM, sL_upR, sN_upM, sN_upR, sT_upM, sT_upR, sN_upM, Int.reduceAdd, Int.reduceMul, Int.reduceSub, Int.reduceNeg, Int.zero_add, Int.add_zero, hFτ.c]); exact rfl))
    | ((with_reducible refine rt_as ?_ ?_ ?_); (· simp (disch := omega) only [true_and, and_true, sM_ne, sM_eq, sM_neR, sM_eqR, sK_upM, sK_upR, sL_upM, sL_upR, sN_upM, sN_upR, sT_upM, sT_upR, sN_upM, Int.reduceAdd, Int.reduceMul, Int.reduceSub, Int.reduceNeg, Int.zero_add, Int.add_zero, hFτ.c]); (· first | omega | ((try simp (disch := omega) only [wr, true_and, and_true, sM_ne, sM_eq, sM_neR, sM_eqR, sK_upM, sK_upR, sL_upM, sL_upR, sN_upM, sN_upR, sT_upM, sT_upR, sN_upM, Int.reduceAdd, Int.reduceMul, Int.reduceSub, Int.reduceNeg, Int.zero_add, Int.add_zero, hFτ.c]) <;> omega)))
    | ((with_reducible refine rt_p ?_ ?_ ?_); (· simp (disch := omega) only [true_and, and_true, sM_ne, sM_eq, sM_neR, sM_eqR, sK_upM, sK_upR, sL_upM, sL_upR, sN_upM, sN_upR, sT_upM, sT_upR, sN_upM, Int.reduceAdd, Int.reduceMul, Int.reduceSub, Int.reduceNeg, Int.zero_add, Int.add_zero, hFτ.c]); (· omega))
    | with_reducible refine rt_ret ?_
    | ((with_reducible apply rt_gwx); (· assumption); (· (try simp (disch := omega) only [wr, true_and, and_true, sM_ne, sM_eq, sM_neR, sM_eqR, sK_upM, sK_upR, sL_upM, sL_upR, sN_upM, sN_upR, sT_upM, sT_upR, sN_upM, Int.reduceAdd, Int.reduceMul, Int.reduceSub, Int.reduceNeg, Int.zero_add, Int.add_zero, hFτ.c]); exact rfl)))
            have hc2 : Ch (fun a i => 81 ≤ a ∧ a ≤ 82) τ (upM (upM τ 81 s k) 82 s v) := (Ch.rf.up (by omega)).up (by omega)
            have hF2 := hc2.Fx hFτ (fun a i q => NF_i (by omega))
            have h21 : ∀ s' : Int, sM (upM (upM τ 81 s k) 82 s v) 81 s' = if s' = s then k else sM σ 81 s' := by
              intro s'
              rw [sM_ne (by omega)]
              by_cases q : s' = s
              · rw [if_pos q, sM_eq ⟨rfl, q⟩]
              · rw [if_neg q, sM_ne (Or.inr q), hcτ.M (by omega) (by omega), hc0.M (by omega) (by omega)]
            have h22 : ∀ s' : Int, sM (upM (upM τ 81 s k) 82 s v) 82 s' = if s' = s then v else sM σ 82 s' := by
              intro s'
              by_cases q : s' = s
              · rw [if_pos q, sM_eq ⟨rfl, q⟩]
              · rw [if_neg q, sM_ne (Or.inr q), sM_ne (by omega), hcτ.M (by omega) (by omega), hc0.M (by omega) (by omega)]
            generalize upM (upM τ 81 s k) 82 s v = σ2 at hc2 hF2 h21 h22 ⊢
            have hn2 := hc2.2.1
            have hnτ := hcτ.2.1
            refine Rt.mono (l_sh70 (σ := σ2) hs.1 hs.2 1000 0 σ2 hF2 (by omega) (by omega) Ch.rf (fun i i0 i1 => by omega)) ?_
            rintro y ρ ⟨y1, hcρ, hzρ⟩
            have hall : Ch (shS s) σ ρ := (((hc0.mono (fun a i q => Or.inl q)).tr (hcτ.mono (fun a i q => Or.inr (Or.inl q)))).tr (hc2.mono (fun a i q => Or.inr (Or.inr (Or.inl q))))).tr (hcρ.mono (fun a i q => Or.inr (Or.inr (Or.inr q))))
            have e81 : ∀ s' : Int, sM ρ 81 s' = if s' = s then k else sM σ 81 s' := fun s' => by rw [hcρ.M (by omega) (by omega), h21]
            have e82 : ∀ s' : Int, sM ρ 82 s' = if s' = s then v else sM σ 82 s' := fun s' => by rw [hcρ.M (by omega) (by omega), h22]
            refine finS y1.symm (h.shOne hs.1 hs.2 hall (fun s' q => by rw [e81, e82, if_neg q, if_neg q]; exact ⟨rfl, rfl⟩) ?_ ?_ (fun i i0 i1 => ?_)) hall.2
            · rw [e81, if_pos rfl, hcρ.M (by omega) (by omega), hc2.M (by omega) (by omega), hcτ.M (by omega) (by omega), h01]
              omega
            · rw [e82, if_pos rfl, hcρ.M (by omega) (by omega), hc2.M (by omega) (by omega), hcτ.M (by omega) (by omega), h02]
              omega
            · rw [hzρ i i0 i1, hcρ.M (by omega) (by omega), hc2.M (by omega) (by omega), hzτ i i0 i1]
          have go : Rt ((zg τ 12 64 26).bind (fun v15 => (zas τ 100 v15 s k).bind (fun s16 => (zg s16 12 64 27).bind (fun v17 => zjn (fun (K66 : ZS → Int → Option (Int × ZS)) => if k = (-1) then (K66 s16 0) else (K66 s16 z)) (fun (s19 : ZS) (w20 : Int) => (zas s19 100 v17 s w20).bind (fun s21 => lX12_sheet_70 64 s 1000 s21 0)))))) (fun y ρ => Fin σ 1 y ρ) := by
            refine rt_gx (x := 81) (by simp (disch := omega) only [true_and, and_true, sM_ne, sM_eq, sM_neR, sM_eqR, sK_upM, sK_upR, sL_upM, sL_upR, sN_upM, sN_upR, sT_upM, sT_upR, sN_upM, Int.reduceAdd, Int.reduceMul, Int.reduceSub, Int.reduceNeg, Int.zero_add, Int.add_zero, hFτ.c]) (by simp (disch := omega) only [true_and, and_true, sM_ne, sM_eq, sM_neR, sM_eqR, sK_upM, sK_upR, sL_upM, sL_upR, sN_upM, sN_upR, sT_upM, sT_upR, sN_upM, Int.reduceAdd, Int.reduceMul, Int.reduceSub, Int.reduceNeg, Int.zero_add, Int.add_zero, hFτ.c]) ?_
            by_cases km : k = -1
            · have e : ∀ s16 : ZS, ((zg s16 12 64 27).bind (fun v17 => zjn (fun (K66 : ZS → Int → Option (Int × ZS)) => if k = (-1) then (K66 s16 0) else (K66 s16 z)) (fun (s19 : ZS) (w20 : Int) => (zas s19 100 v17 s w20).bind (fun s21 => lX12_sheet_70 64 s 1000 s21 0)))) = ((zg s16 12 64 27).bind (fun v17 => (zas s16 100 v17 s v).bind (fun s21 => lX12_sheet_70 64 s 1000 s21 0))) := by
                intro s16
                congr 1
                funext v17
                simp only [zjn, if_pos km, hv1 km]
              simp only [e]
              exact fin
            · have e : ∀ s16 : ZS, ((zg s16 12 64 27).bind (fun v17 => zjn (fun (K66 : ZS → Int → Option (Int × ZS)) => if k = (-1) then (K66 s16 0) else (K66 s16 z)) (fun (s19 : ZS) (w20 : Int) => (zas s19 100 v17 s w20).bind (fun s21 => lX12_sheet_70 64 s 1000 s21 0)))) = ((zg s16 12 64 27).bind (fun v17 => (zas s16 100 v17 s v).bind (fun s21 => lX12_sheet_70 64 s 1000 s21 0))) := by
                intro s16
                congr 1
                funext v17
                simp only [zjn, if_neg km, hv2 km]
              simp only [e]
              exact fin
          refine rt_jn ?_
          by_cases km : k = -1
          · exact rt_pos km (rt_jn (rt_pos km go))
          · have := hv2 km
            exact rt_neg km (rt_pos (by omega) (rt_jn (rt_neg km (rt_pos (by omega) go))))
        refine rt_jn ?_
        have mk : ∀ v : Int, 0 ≤ v → v ≤ 40 → (k = -1 → v = 0) → (k ≠ -1 → v = z) → Rt ((zg σ 11 3 8).bind (fun v13 => (zal σ 105 v13 s).bind (fun v14 => zjn (fun (K63 : ZS → Int → Option (Int × ZS)) => if k = (-1) then (K63 σ 0) else (K63 σ z)) (fun (s16 : ZS) (w17 : Int) => zb (zv s16 6 v14 (fX6_renew s16 v14 k w17)) (fun v18 s19 => some (1, s19)))))) (fun x τ => Rt (fX12_sheet τ 64 s k z) (fun y ρ => Fin σ x y ρ)) := by
          intro v v0 v40 hv1 hv2
          refine rt_gx (x := 40) (by simp (disch := omega) only [true_and, and_true, sM_ne, sM_eq, sM_neR, sM_eqR, sK_upM, sK_upR, sL_upM, sL_upR, sN_upM, sN_upR, sT_upM, sT_upR, sN_upM, Int.reduceAdd, Int.reduceMul, Int.reduceSub, Int.reduceNeg, Int.zero_add, Int.add_zero, hF.c]) (by simp (disch := omega) only [true_and, and_true, sM_ne, sM_eq, sM_neR, sM_eqR, sK_upM, sK_upR, sL_upM, sL_upR, sN_upM, sN_upR, sT_upM, sT_upR, sN_upM, Int.reduceAdd, Int.reduceMul, Int.reduceSub, Int.reduceNeg, Int.zero_add, Int.add_zero, hF.c]) ?_
          refine rt_alx (x := 56 + 2 * s) (by simp (disch := omega) only [true_and, and_true, sM_ne, sM_eq, sM_neR, sM_eqR, sK_upM, sK_upR, sL_upM, sL_upR, sN_upM, sN_upR, sT_upM, sT_upR, sN_upM, Int.reduceAdd, Int.reduceMul, Int.reduceSub, Int.reduceNeg, Int.zero_add, Int.add_zero, hF.c]) (by simp (disch := omega) only [true_and, and_true, sM_ne, sM_eq, sM_neR, sM_eqR, sK_upM, sK_upR, sL_upM, sL_upR, sN_upM, sN_upR, sT_upM, sT_upR, sN_upM, Int.reduceAdd, Int.reduceMul, Int.reduceSub, Int.reduceNeg, Int.zero_add, Int.add_zero, hF.c]; omega) (by simp (disch := omega) only [true_and, and_true, sM_ne, sM_eq, sM_neR, sM_eqR, sK_upM, sK_upR, sL_upM, sL_upR, sN_upM, sN_upR, sT_upM, sT_upR, sN_upM, Int.reduceAdd, Int.reduceMul, Int.reduceSub, Int.reduceNeg, Int.zero_add, Int.add_zero, hF.c]) ?_
          refine rt_jn ?_
          by_cases km : k = -1
          · refine rt_pos km ?_
            have := make v v0 v40 hv1 hv2
            rw [hv1 km] at this
            exact this
          · refine rt_neg km ?_
            have := make v v0 v40 hv1 hv2
            rw [hv2 km] at this
            exact this
        by_cases km : k = -1
        · exact rt_pos km (rt_jn (rt_pos km (mk 0 (by omega) (by omega) (fun _ => rfl) (fun q => absurd km q))))
        · refine rt_neg km ?_
          by_cases z1 : z ≤ 40
          · refine rt_pos z1 (rt_jn (rt_neg km ?_))
            by_cases z0 : 0 ≤ z
            · exact rt_pos z0 (mk z z0 z1 (fun q => absurd q km) (fun _ => rfl))
            · exact rt_neg z0 (rt_ret (ref0 _ (by omega)))
          · exact rt_neg z1 (rt_ret (ref0 _ (by omega)))
      · exact rt_neg k2 (rt_ret (ref0 _ (by omega)))
  · rw [if_neg hs]
    exact rt_pos rfl (rt_ret (ref0 _ (by omega)))
