/-! the image taken back -/
theorem l_bk27 {σ σ1 : ZS} (h : Rel σ) (hc1 : Ch (fun a _ => bkC a) σ σ1) {m : Int} (m0 : 0 ≤ m) (m1 : m ≤ sM σ 64 8) (hm : sM σ 3 12 = m) {K : ZS → Option (Int × ZS)} {P : Int → ZS → Prop}
    (hK : ∀ τ : ZS, FxD τ → Ch (fun a _ => kpS σ 1 a) σ1 τ → (∀ w i : Int, 0 ≤ w → w < sM σ 64 8 → 0 ≤ i → i < 16 → sM τ (sM σ 33 w + 1) i = if w < m then sM σ (sM σ 33 w + 2) i else sM σ (sM σ 33 w + 1) i) → Rt (K τ) P) :
    ∀ (N c : Nat) (s : ZS), FxD s → (c : Int) ≤ m → m - (c : Int) < (N : Int) → Ch (fun a _ => kpS σ 1 a) σ1 s → (∀ w i : Int, 0 ≤ w → w < sM σ 64 8 → 0 ≤ i → i < 16 → sM s (sM σ 33 w + 1) i = if w < (c : Int) then sM σ (sM σ 33 w + 2) i else sM σ (sM σ 33 w + 1) i) → Rt (lX11_back_27 3 K N s (c : Int)) P
  | 0, c, s, _, h1, h2, _, _ => by omega
  | N + 1, c, s, hF, h1, h2, hc, hz => by
    have h9 := h.F.2.2.2
    have h8 := h.Wa.2.1
    have hkp : ∀ a, kpS σ 1 a → 93 ≤ a := fun a q => by
      obtain ⟨v, v0, v1, e⟩ := q
      have := (h.wn v0 v1)
      omega
    have hn1 := hc1.2.1
    have e12 := hd (show sM s 3 12 = m by
      rw [hc.M (by omega) (fun q => by have := hkp _ q; omega), hc1.M (by omega) (by unfold bkC; omega)]
      exact hm)
    rw [lX11_back_27]
    refine rt_gx (x := m) (by simp (disch := omega) only [true_and, and_true, sM_ne, sM_eq, sM_neR, sM_eqR, sK_upM, sK_upR, sL_upM, sL_upR, sN_upM, sN_upR, sT_upM, sT_upR, sN_upM, Int.reduceAdd, Int.reduceMul, Int.reduceSub, Int.reduceNeg, Int.zero_add, Int.add_zero, hF.c]) (e12 ()) ?_
    by_cases he : m ≤ (c : Int)
    · refine rt_pos he (hK s hF hc (fun w i w0 w1 i0 i1 => ?_))
      rw [hz w i w0 w1 i0 i1, show m = (c : Int) by omega]
    · refine rt_neg he ?_
      have hcs : Ch (fun a _ => bkC a ∨ kpS σ 1 a) σ s := (hc1.mono (fun a i q => Or.inl q)).tr (hc.mono (fun a i q => Or.inr q))
      obtain ⟨⟨x1, x2⟩, x3, x4, x5, x6, ⟨x7, x8, x9, x10⟩, x11, x12⟩ := way_in h hcs (d := 1) (Or.inl rfl) (fun a i q ha => by rcases q with q | q; unfold bkC at q; omega; have := hkp a q; omega) (fun a i q ha => by rcases q with q | q; unfold bkC at q; omega; exact q) (w := (c : Int)) (by omega) (by omega)
      rw [show (3 : Int) - 1 = 2 from rfl] at x12
      replace x3 := hd x3
      replace x5 := hd x5
      replace x6 := hd x6
      replace x7 := hd x7
      replace x8 := hd x8
      replace x9 := hd x9
      replace x10 := hd x10
      refine rt_gx (x := 33) (by simp (disch := omega) only [true_and, and_true, sM_ne, sM_eq, sM_neR, sM_eqR, sK_upM, sK_upR, sL_upM, sL_upR, sN_upM, sN_upR, sT_upM, sT_upR, sN_upM, Int.reduceAdd, Int.reduceMul, Int.reduceSub, Int.reduceNeg, Int.zero_add, Int.add_zero, hF.c]) (by simp (disch := omega) only [true_and, and_true, sM_ne, sM_eq, sM_neR, sM_eqR, sK_upM, sK_upR, sL_upM, sL_upR, sN_upM, sN_upR, sT_upM, sT_upR, sN_upM, Int.reduceAdd, Int.reduceMul, Int.reduceSub, Int.reduceNeg, Int.zero_add, Int.add_zero, hF.c]) ?_
      refine rt_alx (x := sM σ 33 (c : Int)) (by simp (disch := omega) only [true_and, and_true, sM_ne, sM_eq, sM_neR, sM_eqR, sK_upM, sK_upR, sL_upM, sL_upR, sN_upM, sN_upR, sT_upM, sT_upR, sN_upM, Int.reduceAdd, Int.reduceMul, Int.reduceSub, Int.reduceNeg, Int.zero_add, Int.add_zero, hF.c]) (by simp (disch := omega) only [true_and, and_true, sM_ne, sM_eq, sM_neR, sM_eqR, sK_upM, sK_upR, sL_upM, sL_upR, sN_upM, sN_upR, sT_upM, sT_upR, sN_upM, Int.reduceAdd, Int.reduceMul, Int.reduceSub, Int.reduceNeg, Int.zero_add, Int.add_zero, hF.c]; omega) (x3 ()) ?_
      refine rt_gwx x4 (x6 ()) ?_
      refine rt_gx (x := 33) (by simp (disch := omega) only [true_and, and_true, sM_ne, sM_eq, sM_neR, sM_eqR, sK_upM, sK_upR, sL_upM, sL_upR, sN_upM, sN_upR, sT_upM, sT_upR, sN_upM, Int.reduceAdd, Int.reduceMul, Int.reduceSub, Int.reduceNeg, Int.zero_add, Int.add_zero, hF.c]) (by simp (disch := omega) only [true_and, and_true, sM_ne, sM_eq, sM_neR, sM_eqR, sK_upM, sK_upR, sL_upM, sL_upR, sN_upM, sN_upR, sT_upM, sT_upR, sN_upM, Int.reduceAdd, Int.reduceMul, Int.reduceSub, Int.reduceNeg, Int.zero_add, Int.add_zero, hF.c]) ?_
      refine rt_alx (x := sM σ 33 (c : Int)) (by simp (disch := omega) only [true_and, and_true, sM_ne, sM_eq, sM_neR, sM_eqR, sK_upM, sK_upR, sL_upM, sL_upR, sN_upM, sN_upR, sT_upM, sT_upR, sN_upM, Int.reduceAdd, Int.reduceMul, Int.reduceSub, Int.reduceNeg, Int.zero_add, Int.add_zero, hF.c]) (by simp (disch := omega) only [true_and, and_true, sM_ne, sM_eq, sM_neR, sM_eqR, sK_upM, sK_upR, sL_upM, sL_upR, sN_upM, sN_upR, sT_upM, sT_upR, sN_upM, Int.reduceAdd, Int.reduceMul, Int.reduceSub, Int.reduceNeg, Int.zero_add, Int.add_zero, hF.c]; omega) (x3 ()) ?_
      refine rt_gwx x4 (x5 ()) ?_
      refine rt_cp (x8 ()) (x7 ()) (by rw [x9 (), x10 ()]; omega) ?_
      rw [wr1 c (by omega)]
      have hcu : Ch (fun a _ => kpS σ 1 a) s (upR s (sM σ 33 (c : Int) + 1) (fun k => if 0 ≤ k ∧ k < 0 + 16 then sM s (sM σ 33 (c : Int) + 2) (0 + (k - 0)) else sM s (sM σ 33 (c : Int) + 1) k)) := Ch.rf.upR (fun _ => ⟨(c : Int), by omega, by omega, rfl⟩)
      refine l_bk27 h hc1 m0 m1 hm hK N (c + 1) _ (hF.upR (fun _ => NF_i (by omega))) (by omega) (by omega) (hc.tr hcu) (fun w i w0 w1 i0 i1 => ?_)
      by_cases q : w = (c : Int)
      · subst q
        rw [sM_eqR rfl, if_pos (show 0 ≤ i ∧ i < 0 + 16 by omega), if_pos (by omega), hcs.M (by omega) (x12 0)]
        congr 1
        omega
      · have := h.Wa.gap (v := w) (w := (c : Int)) w0 (by omega) (by omega) (by omega) q
        rw [sM_neR (by omega), hz w i w0 w1 i0 i1]
        by_cases q2 : w < (c : Int)
        · rw [if_pos q2, if_pos (by omega)]
        · rw [if_neg q2, if_neg (by omega)]
theorem l_bkM20 {σ : ZS} {K : ZS → Option (Int × ZS)} {P : Int → ZS → Prop} {f g : Int → Int}
    (hK : ∀ τ : ZS, FxD τ → Ch (fun a _ => 65 ≤ a ∧ a ≤ 66) σ τ → (∀ i : Int, 0 ≤ i → i < 48 → sM τ 65 i = f i ∧ sM τ 66 i = g i) → Rt (K τ) P) :
    ∀ (N c : Nat) (s : ZS), FxD s → c ≤ 48 → 48 - c < N → Ch (fun a _ => 65 ≤ a ∧ a ≤ 66) σ s → (∀ i : Int, 0 ≤ i → i < 48 → sM s 77 i = f i ∧ sM s 78 i = g i) → (∀ i : Int, 0 ≤ i → i < (c : Int) → sM s 65 i = f i ∧ sM s 66 i = g i) → Rt (lX12_back_20 64 K N s (c : Int)) P
  | 0, c, s, _, h1, h2, _, _, _ => by omega
  | N + 1, c, s, hF, h1, h2, hc, hs, hz => by
    rw [lX12_back_20]
    by_cases he : 48 ≤ (c : Int)
    · exact rt_pos he (hK s hF hc (fun i i0 i1 => hz i i0 (by omega)))
    · refine rt_neg he ?_
      have e1 := hd (hs (c : Int) (by omega) (by omega)).1
      have e2 := hd (hs (c : Int) (by omega) (by omega)).2
      repeat (first
    | with_reducible refine rt_b ?_
    | with_reducible refine rt_jn ?_
    | ((with_reducible refine rt_pos ?_ ?_); (· first | omega | ((try simp (disch := omega) only [wr, true_and, and_true, sM_ne, sM_eq, sM_neR, sM_eqR, sK_upM, sK_upR, sL_upM, sL_upR, sN_upM, sN_upR, sT_upM, sT_upR, sN_upM, Int.reduceAdd, Int.reduceMul, Int.reduceSub, Int.reduceNeg, Int.zero_add, Int.add_zero, hF.c, e1 (), e2 ()]) <;> omega)))
    | ((with_reducible refine rt_neg ?_ ?_); (· first | omega | ((try simp (disch := omega) only [wr, true_and, and_true, sM_ne, sM_eq, sM_neR, sM_eqR, sK_upM, sK_upR, sL_upM, sL_upR, sN_upM, sN_upR, sT_upM, sT_upR, sN_upM, Int.reduceAdd, Int.reduceMul, Int.reduceSub, Int.reduceNeg, Int.zero_add, Int.add_zero, hF.c, e1 (), e2 ()]) <;> omega)))
    | ((with_reducible refine rt_v ?_ ?_); · simp (disch := omega) only [true_and, and_true, sM_ne, sM_eq, sM_neR, sM_eqR, sK_upM, sK_upR, sL_upM, sL_upR, sN_upM, sN_upR, sT_upM, sT_upR, sN_upM, Int.reduceAdd, Int.reduceMul, Int.reduceSub, Int.reduceNeg, Int.zero_add, Int.add_zero, hF.c, e1 (), e2 ()])
    | ((with_reducible apply rt_gx); (· simp (disch := omega) only [true_and, and_true, sM_ne, sM_eq, sM_neR, sM_eqR, sK_upM, sK_upR, sL_upM, sL_upR, sN_upM, sN_upR, sT_upM, sT_upR, sN_upM, Int.reduceAdd, Int.reduceMul, Int.reduceSub, Int.reduceNeg, Int.zero_add, Int.add_zero, hF.c, e1 (), e2 ()]); (· (try simp (disch := omega) only [wr, true_and, and_true, sM_ne, sM_eq, sM_neR, sM_eqR, sK_upM, sK_upR, sL_upM, sL_upR, sN_upM, sN_upR, sT_upM, sT_upR, sN_upM, Int.reduceAdd, Int.reduceMul, Int.reduceSub, Int.reduceNeg, Int.zero_add, Int.add_zero, hF.c, e1 (), e2 ()]); exact rfl))
    | ((with_reducible apply rt_alx); (· simp (disch := omega) only [true_and, and_true, sM_ne, sM_eq, sM_neR, sM_eqR, sK_upM, sK_upR, sL_upM, sL_upR, sN_upM, sN_upR, sT_upM, sT_upR, sN_upM, Int.reduceAdd, Int.reduceMul, Int.reduceSub, Int.reduceNeg, Int.zero_add, Int.add_zero, hF.c, e1 (), e2 ()]); (· first | omega | ((try simp (disch := omega) only [wr, true_and, and_true, sM_ne, sM_eq, sM_neR, sM_eqR, sK_upM, sK_upR, sL_upM, sL_upR, sN_upM, sN_upR, sT_upM, sT_upR, sN_upM, Int.reduceAdd, Int.reduceMul, Int.reduceSub, Int.reduceNeg, Int.zero_add, Int.add_zero, hF.c, e1 (), e2 ()]) <;> omega)); (· (try simp (disch := omega) only [wr, true_and, and_true, sM_ne, sM_eq, sM_neR, sM_eqR, sK_upM, sK_upR, sL_upM, sL_upR, sN_upM, sN_upR, sT_upM, sT_upR, sN_upM, Int.reduceAdd, Int.reduceMul, Int.reduceSub, Int.reduceNeg, Int.zero_add, Int.add_zero, hF.c, e1 (), e2 ()]); exact rfl))
    | ((with_reducible refine rt_as ?_ ?_ ?_); (· simp (disch := omega) only [true_and, and_true, sM_ne, sM_eq, sM_neR, sM_eqR, sK_upM, sK_upR, sL_upM, sL_upR, sN_upM, sN_upR, sT_upM, sT_upR, sN_upM, Int.reduceAdd, Int.reduceMul, Int.reduceSub, Int.reduceNeg, Int.zero_add, Int.add_zero, hF.c, e1 (), e2 ()]); (· first | omega | ((try simp (disch := omega) only [wr, true_and, and_true, sM_ne, sM_eq, sM_neR, sM_eqR, sK_upM, sK_upR, sL_upM, sL_upR, sN_upM, sN_upR, sT_upM, sT_upR, sN_upM, Int.reduceAdd, Int.reduceMul, Int.reduceSub, Int.reduceNeg, Int.zero_add, Int.add_zero, hF.c, e1 (), e2 ()]) <;> omega)))
    | ((with_reducible refine rt_p ?_ ?_ ?_); (· simp (disch := omega) only [true_and, and_true, sM_ne, sM_eq, sM_neR, sM_eqR, sK_upM, sK_upR, sL_upM, sL_upR, sN_upM, sN_upR, sT_upM, sT_upR, sN_upM, Int.reduceAdd, Int.reduceMul, Int.reduceSub, Int.reduceNeg, Int.zero_add, Int.add_zero, hF.c, e1 (), e2 ()]); (· omega))
    | with_reducible refine rt_ret ?_
    | ((with_reducible apply rt_gwx); (· assumption); (· (try simp (disch := omega) only [wr, true_and, and_true, sM_ne, sM_eq, sM_neR, sM_eqR, sK_upM, sK_upR, sL_upM, sL_upR, sN_upM, sN_upR, sT_upM, sT_upR, sN_upM, Int.reduceAdd, Int.reduceMul, Int.reduceSub, Int.reduceNeg, Int.zero_add, Int.add_zero, hF.c, e1 (), e2 ()]); exact rfl)))
      rw [wr1 c (by omega)]
      refine l_bkM20 hK N (c + 1) _ ((hF.up (NF_i (by omega))).up (NF_i (by omega))) (by omega) (by omega) ((hc.up (by omega)).up (by omega)) (fun i i0 i1 => by rw [sM_ne (by omega), sM_ne (by omega), sM_ne (by omega), sM_ne (by omega)]; exact hs i i0 i1) (fun i i0 i1 => ?_)
      by_cases q : i = (c : Int)
      · rw [sM_ne (by omega), sM_eq ⟨rfl, q⟩, sM_eq ⟨rfl, q⟩, q]
        exact ⟨rfl, rfl⟩
      · rw [sM_ne (by omega), sM_ne (by omega), sM_ne (by omega), sM_ne (by omega)]
        exact hz i i0 (by omega)
theorem l_bkM58 {σ : ZS} {K : ZS → Option (Int × ZS)} {P : Int → ZS → Prop} {f g : Int → Int} {m : Int} (m0 : 0 ≤ m) (m4 : m ≤ 4)
    (hK : ∀ τ : ZS, FxD τ → Ch (fun a _ => a = 67) σ τ → (∀ i : Int, 0 ≤ i → i < 4 → sM τ 67 i = if i < m then f i else g i) → Rt (K τ) P) :
    ∀ (N c : Nat) (s : ZS), FxD s → (c : Int) ≤ m → m - (c : Int) < (N : Int) → Ch (fun a _ => a = 67) σ s → sM s 64 19 = m → (∀ i : Int, 0 ≤ i → i < m → sM s 79 i = f i) → (∀ i : Int, 0 ≤ i → i < 4 → sM s 67 i = if i < (c : Int) then f i else g i) → Rt (lX12_back_58 64 K N s (c : Int)) P
  | 0, c, s, _, h1, h2, _, _, _, _ => by omega
  | N + 1, c, s, hF, h1, h2, hc, hm, hs, hz => by
    rw [lX12_back_58]
    have hm' := hd hm
    refine rt_gx (x := m) (by simp (disch := omega) only [true_and, and_true, sM_ne, sM_eq, sM_neR, sM_eqR, sK_upM, sK_upR, sL_upM, sL_upR, sN_upM, sN_upR, sT_upM, sT_upR, sN_upM, Int.reduceAdd, Int.reduceMul, Int.reduceSub, Int.reduceNeg, Int.zero_add, Int.add_zero, hF.c]) (hm' ()) ?_
    by_cases he : m ≤ (c : Int)
    · refine rt_pos he (hK s hF hc (fun i i0 i1 => ?_))
      rw [hz i i0 i1, show m = (c : Int) by omega]
    · refine rt_neg he ?_
      have e1 := hd (hs (c : Int) (by omega) (by omega))
      repeat (first
    | with_reducible refine rt_b ?_
    | with_reducible refine rt_jn ?_
    | ((with_reducible refine rt_pos ?_ ?_); (· first | omega | ((try simp (disch := omega) only [wr, true_and, and_true, sM_ne, sM_eq, sM_neR, sM_eqR, sK_upM, sK_upR, sL_upM, sL_upR, sN_upM, sN_upR, sT_upM, sT_upR, sN_upM, Int.reduceAdd, Int.reduceMul, Int.reduceSub, Int.reduceNeg, Int.zero_add, Int.add_zero, hF.c, e1 ()]) <;> omega)))
    | ((with_reducible refine rt_neg ?_ ?_); (· first | omega | ((try simp (disch := omega) only [wr, true_and, and_true, sM_ne, sM_eq, sM_neR, sM_eqR, sK_upM, sK_upR, sL_upM, sL_upR, sN_upM, sN_upR, sT_upM, sT_upR, sN_upM, Int.reduceAdd, Int.reduceMul, Int.reduceSub, Int.reduceNeg, Int.zero_add, Int.add_zero, hF.c, e1 ()]) <;> omega)))
    | ((with_reducible refine rt_v ?_ ?_); · simp (disch := omega) only [true_and, and_true, sM_ne, sM_eq, sM_neR, sM_eqR, sK_upM, sK_upR, sL_upM, sL_upR, sN_upM, sN_upR, sT_upM, sT_upR, sN_upM, Int.reduceAdd, Int.reduceMul, Int.reduceSub, Int.reduceNeg, Int.zero_add, Int.add_zero, hF.c, e1 ()])
    | ((with_reducible apply rt_gx); (· simp (disch := omega) only [true_and, and_true, sM_ne, sM_eq, sM_neR, sM_eqR, sK_upM, sK_upR, sL_upM, sL_upR, sN_upM, sN_upR, sT_upM, sT_upR, sN_upM, Int.reduceAdd, Int.reduceMul, Int.reduceSub, Int.reduceNeg, Int.zero_add, Int.add_zero, hF.c, e1 ()]); (· (try simp (disch := omega) only [wr, true_and, and_true, sM_ne, sM_eq, sM_neR, sM_eqR, sK_upM, sK_upR, sL_upM, sL_upR, sN_upM, sN_upR, sT_upM, sT_upR, sN_upM, Int.reduceAdd, Int.reduceMul, Int.reduceSub, Int.reduceNeg, Int.zero_add, Int.add_zero, hF.c, e1 ()]); exact rfl))
    | ((with_reducible apply rt_alx); (· simp (disch := omega) only [true_and, and_true, sM_ne, sM_eq, sM_neR, sM_eqR, sK_upM, sK_upR, sL_upM, sL_upR, sN_upM, sN_upR, sT_upM, sT_upR, sN_upM, Int.reduceAdd, Int.reduceMul, Int.reduceSub, Int.reduceNeg, Int.zero_add, Int.add_zero, hF.c, e1 ()]); (· first | omega | ((try simp (disch := omega) only [wr, true_and, and_true, sM_ne, sM_eq, sM_neR, sM_eqR, sK_upM, sK_upR, sL_upM, sL_upR, sN_upM, sN_upR, sT_upM, sT_upR, sN_upM, Int.reduceAdd, Int.reduceMul, Int.reduceSub, Int.reduceNeg, Int.zero_add, Int.add_zero, hF.c, e1 ()]) <;> omega)); (· (try simp (disch := omega) only [wr, true_and, and_true, sM_ne, sM_eq, sM_neR, sM_eqR, sK_upM, sK_upR, sL_upM, sL_upR, sN_upM, sN_upR, sT_upM, sT_upR, sN_upM, Int.reduceAdd, Int.reduceMul, Int.reduceSub, Int.reduceNeg, Int.zero_add, Int.add_zero, hF.c, e1 ()]); exact rfl))
    | ((with_reducible refine rt_as ?_ ?_ ?_); (· simp (disch := omega) only [true_and, and_true, sM_ne, sM_eq, sM_neR, sM_eqR, sK_upM, sK_upR, sL_upM, sL_upR, sN_upM, sN_upR, sT_upM, sT_upR, sN_upM, Int.reduceAdd, Int.reduceMul, Int.reduceSub, Int.reduceNeg, Int.zero_add, Int.add_zero, hF.c, e1 ()]); (· first | omega | ((try simp (disch := omega) only [wr, true_and, and_true, sM_ne, sM_eq, sM_neR, sM_eqR, sK_upM, sK_upR, sL_upM, sL_upR, sN_upM, sN_upR, sT_upM, sT_upR, sN_upM, Int.reduceAdd, Int.reduceMul, Int.reduceSub, Int.reduceNeg, Int.zero_add, Int.add_zero, hF.c, e1 ()]) <;> omega)))
    | ((with_reducible refine rt_p ?_ ?_ ?_); (· simp (disch := omega) only [true_and, and_true, sM_ne, sM_eq, sM_neR, sM_eqR, sK_upM, sK_upR, sL_upM, sL_upR, sN_upM, sN_upR, sT_upM, sT_upR, sN_upM, Int.reduceAdd, Int.reduceMul, Int.reduceSub, Int.reduceNeg, Int.zero_add, Int.add_zero, hF.c, e1 ()]); (· omega))
    | with_reducible refine rt_ret ?_
    | ((with_reducible apply rt_gwx); (· assumption); (· (try simp (disch := omega) only [wr, true_and, and_true, sM_ne, sM_eq, sM_neR, sM_eqR, sK_upM, sK_upR, sL_upM, sL_upR, sN_upM, sN_upR, sT_upM, sT_upR, sN_upM, Int.reduceAdd, Int.reduceMul, Int.reduceSub, Int.reduceNeg, Int.zero_add, Int.add_zero, hF.c, e1 ()]); exact rfl)))
      rw [wr1 c (by omega)]
      refine l_bkM58 m0 m4 hK N (c + 1) _ (hF.up (NF_i (by omega))) (by omega) (by omega) (hc.up rfl) (by rw [sM_ne (by omega)]; exact hm) (fun i i0 i1 => by rw [sM_ne (by omega)]; exact hs i i0 i1) (fun i i0 i1 => ?_)
      by_cases q : i = (c : Int)
      · rw [sM_eq ⟨rfl, q⟩, if_pos (by omega), q]
      · rw [sM_ne (by omega), hz i i0 i1]
        by_cases q2 : i < (c : Int)
        · rw [if_pos q2, if_pos (by omega)]
        · rw [if_neg q2, if_neg (by omega)]
theorem l_bkM86 {σ : ZS} {f g : Int → Int} {m v0 : Int} (m0 : 0 ≤ m) (m8 : m ≤ 8) :
    ∀ (N c : Nat) (s : ZS), FxD s → (c : Int) ≤ 16 * m → 16 * m - (c : Int) < (N : Int) → Ch (fun a _ => a = 73) σ s → sM s 64 20 = m → sM s 64 8 = v0 → (∀ i : Int, 0 ≤ i → i < 128 → sM s 80 i = f i) → (∀ i : Int, 0 ≤ i → i < 128 → sM s 73 i = if i < (c : Int) then f i else g i) → Rt (lX12_back_86 64 N s (c : Int)) (fun v τ => v = v0 ∧ FxD τ ∧ Ch (fun a _ => a = 73) σ τ ∧ ∀ i : Int, 0 ≤ i → i < 128 → sM τ 73 i = if i < 16 * m then f i else g i)
  | 0, c, s, _, h1, h2, _, _, _, _, _ => by omega
  | N + 1, c, s, hF, h1, h2, hc, hm, hv, hs, hz => by
    rw [lX12_back_86]
    have hm' := hd hm
    have hv' := hd hv
    refine rt_gx (x := m) (by simp (disch := omega) only [true_and, and_true, sM_ne, sM_eq, sM_neR, sM_eqR, sK_upM, sK_upR, sL_upM, sL_upR, sN_upM, sN_upR, sT_upM, sT_upR, sN_upM, Int.reduceAdd, Int.reduceMul, Int.reduceSub, Int.reduceNeg, Int.zero_add, Int.add_zero, hF.c]) (hm' ()) ?_
    rw [wr (x := 16 * m) (by omega) (by omega)]
    by_cases he : 16 * m ≤ (c : Int)
    · refine rt_pos he (rt_gx (x := v0) (by simp (disch := omega) only [true_and, and_true, sM_ne, sM_eq, sM_neR, sM_eqR, sK_upM, sK_upR, sL_upM, sL_upR, sN_upM, sN_upR, sT_upM, sT_upR, sN_upM, Int.reduceAdd, Int.reduceMul, Int.reduceSub, Int.reduceNeg, Int.zero_add, Int.add_zero, hF.c]) (hv' ()) (rt_ret ⟨rfl, hF, hc, fun i i0 i1 => ?_⟩))
      rw [hz i i0 i1, show 16 * m = (c : Int) by omega]
    · refine rt_neg he ?_
      have e1 := hd (hs (c : Int) (by omega) (by omega))
      repeat (first
    | with_reducible refine rt_b ?_
    | with_reducible refine rt_jn ?_
    | ((with_reducible refine rt_pos ?_ ?_); (· first | omega | ((try simp (disch := omega) only [wr, true_and, and_true, sM_ne, sM_eq, sM_neR, sM_eqR, sK_upM, sK_upR, sL_upM, sL_upR, sN_upM, sN_upR, sT_upM, sT_upR, sN_upM, Int.reduceAdd, Int.reduceMul, Int.reduceSub, Int.reduceNeg, Int.zero_add, Int.add_zero, hF.c, e1 ()]) <;> omega)))
    | ((with_reducible refine rt_neg ?_ ?_); (· first | omega | ((try simp (disch := omega) only [wr, true_and, and_true, sM_ne, sM_eq, sM_neR, sM_eqR, sK_upM, sK_upR, sL_upM, sL_upR, sN_upM, sN_upR, sT_upM, sT_upR, sN_upM, Int.reduceAdd, Int.reduceMul, Int.reduceSub, Int.reduceNeg, Int.zero_add, Int.add_zero, hF.c, e1 ()]) <;> omega)))
    | ((with_reducible refine rt_v ?_ ?_); · simp (disch := omega) only [true_and, and_true, sM_ne, sM_eq, sM_neR, sM_eqR, sK_upM, sK_upR, sL_upM, sL_upR, sN_upM, sN_upR, sT_upM, sT_upR, sN_upM, Int.reduceAdd, Int.reduceMul, Int.reduceSub, Int.reduceNeg, Int.zero_add, Int.add_zero, hF.c, e1 ()])
    | ((with_reducible apply rt_gx); (· simp (disch := omega) only [true_and, and_true, sM_ne, sM_eq, sM_neR, sM_eqR, sK_upM, sK_upR, sL_upM, sL_upR, sN_upM, sN_upR, sT_upM, sT_upR, sN_upM, Int.reduceAdd, Int.reduceMul, Int.reduceSub, Int.reduceNeg, Int.zero_add, Int.add_zero, hF.c, e1 ()]); (· (try simp (disch := omega) only [wr, true_and, and_true, sM_ne, sM_eq, sM_neR, sM_eqR, sK_upM, sK_upR, sL_upM, sL_upR, sN_upM, sN_upR, sT_upM, sT_upR, sN_upM, Int.reduceAdd, Int.reduceMul, Int.reduceSub, Int.reduceNeg, Int.zero_add, Int.add_zero, hF.c, e1 ()]); exact rfl))
    | ((with_reducible apply rt_alx); (· simp (disch := omega) only [true_and, and_true, sM_ne, sM_eq, sM_neR, sM_eqR, sK_upM, sK_upR, sL_upM, sL_upR, sN_upM, sN_upR, sT_upM, sT_upR, sN_upM, Int.reduceAdd, Int.reduceMul, Int.reduceSub, Int.reduceNeg, Int.zero_add, Int.add_zero, hF.c, e1 ()]); (· first | omega | ((try simp (disch := omega) only [wr, true_and, and_true, sM_ne, sM_eq, sM_neR, sM_eqR, sK_upM, sK_upR, sL_upM, sL_upR, sN_upM, sN_upR, sT_upM, sT_upR, sN_upM, Int.reduceAdd, Int.reduceMul, Int.reduceSub, Int.reduceNeg, Int.zero_add, Int.add_zero, hF.c, e1 ()]) <;> omega)); (· (try simp (disch := omega) only [wr, true_and, and_true, sM_ne, sM_eq, sM_neR, sM_eqR, sK_upM, sK_upR, sL_upM, sL_upR, sN_upM, sN_upR, sT_upM, sT_upR, sN_upM, Int.reduceAdd, Int.reduceMul, Int.reduceSub, Int.reduceNeg, Int.zero_add, Int.add_zero, hF.c, e1 ()]); exact rfl))
    | ((with_reducible refine rt_as ?_ ?_ ?_); (· simp (disch := omega) only [true_and, and_true, sM_ne, sM_eq, sM_neR, sM_eqR, sK_upM, sK_upR, sL_upM, sL_upR, sN_upM, sN_upR, sT_upM, sT_upR, sN_upM, Int.reduceAdd, Int.reduceMul, Int.reduceSub, Int.reduceNeg, Int.zero_add, Int.add_zero, hF.c, e1 ()]); (· first | omega | ((try simp (disch := omega) only [wr, true_and, and_true, sM_ne, sM_eq, sM_neR, sM_eqR, sK_upM, sK_upR, sL_upM, sL_upR, sN_upM, sN_upR, sT_upM, sT_upR, sN_upM, Int.reduceAdd, Int.reduceMul, Int.reduceSub, Int.reduceNeg, Int.zero_add, Int.add_zero, hF.c, e1 ()]) <;> omega)))
    | ((with_reducible refine rt_p ?_ ?_ ?_); (· simp (disch := omega) only [true_and, and_true, sM_ne, sM_eq, sM_neR, sM_eqR, sK_upM, sK_upR, sL_upM, sL_upR, sN_upM, sN_upR, sT_upM, sT_upR, sN_upM, Int.reduceAdd, Int.reduceMul, Int.reduceSub, Int.reduceNeg, Int.zero_add, Int.add_zero, hF.c, e1 ()]); (· omega))
    | with_reducible refine rt_ret ?_
    | ((with_reducible apply rt_gwx); (· assumption); (· (try simp (disch := omega) only [wr, true_and, and_true, sM_ne, sM_eq, sM_neR, sM_eqR, sK_upM, sK_upR, sL_upM, sL_upR, sN_upM, sN_upR, sT_upM, sT_upR, sN_upM, Int.reduceAdd, Int.reduceMul, Int.reduceSub, Int.reduceNeg, Int.zero_add, Int.add_zero, hF.c, e1 ()]); exact rfl)))
      rw [wr1 c (by omega)]
      refine l_bkM86 m0 m8 N (c + 1) _ (hF.up (NF_i (by omega))) (by omega) (by omega) (hc.up rfl) (by rw [sM_ne (by omega)]; exact hm) (by rw [sM_ne (by omega)]; exact hv) (fun i i0 i1 => by rw [sM_ne (by omega)]; exact hs i i0 i1) (fun i i0 i1 => ?_)
      by_cases q : i = (c : Int)
      · rw [sM_eq ⟨rfl, q⟩, if_pos (by omega), q]
      · rw [sM_ne (by omega), hz i i0 i1]
        by_cases q2 : i < (c : Int)
        · rw [if_pos q2, if_pos (by omega)]
        · rw [if_neg q2, if_neg (by omega)]
theorem q_back {σ : ZS} (h : Rel σ) : Rt (fX11_back σ 3) (fun x τ => Rt (fX12_back τ 64) (fun y ρ => Fin σ x y ρ)) := by
  have hF := h.F
  have h9 := hF.2.2.2
  have h8 := h.Wa.2.1
  have hS := h.So
  have hkp : ∀ a, kpS σ 1 a → 93 ≤ a ∧ a < (sN σ : Int) := fun a q => by
    obtain ⟨v, v0, v1, e⟩ := q
    have := (h.wn v0 v1)
    omega
  obtain ⟨i10, hI⟩ := h.Im
  have e10 := hd i10
  clear i10
  unfold fX11_back
  rcases hI with hI | ⟨hI, ⟨j1, j2, j3⟩, ⟨k1, k2, k3⟩, ⟨l1, l2, l3⟩, hg, hw, hk⟩
  · have e18 := hd hI
    refine rt_gx (x := 0) (by simp (disch := omega) only [true_and, and_true, sM_ne, sM_eq, sM_neR, sM_eqR, sK_upM, sK_upR, sL_upM, sL_upR, sN_upM, sN_upR, sT_upM, sT_upR, sN_upM, Int.reduceAdd, Int.reduceMul, Int.reduceSub, Int.reduceNeg, Int.zero_add, Int.add_zero, hF.c]) (by rw [e10 (), e18 ()]) (rt_pos rfl (rt_ret ?_))
    unfold fX12_back
    exact rt_gx (x := 0) (by simp (disch := omega) only [true_and, and_true, sM_ne, sM_eq, sM_neR, sM_eqR, sK_upM, sK_upR, sL_upM, sL_upR, sN_upM, sN_upR, sT_upM, sT_upR, sN_upM, Int.reduceAdd, Int.reduceMul, Int.reduceSub, Int.reduceNeg, Int.zero_add, Int.add_zero, hF.c]) (e18 ()) (rt_pos rfl (rt_ret (fin0 h rfl)))
  have e18 := hd hI
  have e11 := hd j1
  have e12 := hd k1
  have e13 := hd l1
  refine rt_gx (x := 1) (by simp (disch := omega) only [true_and, and_true, sM_ne, sM_eq, sM_neR, sM_eqR, sK_upM, sK_upR, sL_upM, sL_upR, sN_upM, sN_upR, sT_upM, sT_upR, sN_upM, Int.reduceAdd, Int.reduceMul, Int.reduceSub, Int.reduceNeg, Int.zero_add, Int.add_zero, hF.c]) (by rw [e10 (), e18 ()]) (rt_neg (by decide) ?_)
  refine rt_gx (x := 5) (by simp (disch := omega) only [true_and, and_true, sM_ne, sM_eq, sM_neR, sM_eqR, sK_upM, sK_upR, sL_upM, sL_upR, sN_upM, sN_upR, sT_upM, sT_upR, sN_upM, Int.reduceAdd, Int.reduceMul, Int.reduceSub, Int.reduceNeg, Int.zero_add, Int.add_zero, hF.c]) (by simp (disch := omega) only [true_and, and_true, sM_ne, sM_eq, sM_neR, sM_eqR, sK_upM, sK_upR, sL_upM, sL_upR, sN_upM, sN_upR, sT_upM, sT_upR, sN_upM, Int.reduceAdd, Int.reduceMul, Int.reduceSub, Int.reduceNeg, Int.zero_add, Int.add_zero, hF.c]) ?_
  refine rt_gx (x := 41) (by simp (disch := omega) only [true_and, and_true, sM_ne, sM_eq, sM_neR, sM_eqR, sK_upM, sK_upR, sL_upM, sL_upR, sN_upM, sN_upR, sT_upM, sT_upR, sN_upM, Int.reduceAdd, Int.reduceMul, Int.reduceSub, Int.reduceNeg, Int.zero_add, Int.add_zero, hF.c]) (by simp (disch := omega) only [true_and, and_true, sM_ne, sM_eq, sM_neR, sM_eqR, sK_upM, sK_upR, sL_upM, sL_upR, sN_upM, sN_upR, sT_upM, sT_upR, sN_upM, Int.reduceAdd, Int.reduceMul, Int.reduceSub, Int.reduceNeg, Int.zero_add, Int.add_zero, hF.c]) ?_
  refine rt_gx (x := sM σ 64 19) (by simp (disch := omega) only [true_and, and_true, sM_ne, sM_eq, sM_neR, sM_eqR, sK_upM, sK_upR, sL_upM, sL_upR, sN_upM, sN_upR, sT_upM, sT_upR, sN_upM, Int.reduceAdd, Int.reduceMul, Int.reduceSub, Int.reduceNeg, Int.zero_add, Int.add_zero, hF.c]) (e11 ()) ?_
  refine rt_b (rt_v (by simp (disch := omega) only [true_and, and_true, sM_ne, sM_eq, sM_neR, sM_eqR, sK_upM, sK_upR, sL_upM, sL_upR, sN_upM, sN_upR, sT_upM, sT_upR, sN_upM, Int.reduceAdd, Int.reduceMul, Int.reduceSub, Int.reduceNeg, Int.zero_add, Int.add_zero, hF.c]) ?_)
  refine Rt.mono (f_becB hF j2 j3) ?_
  rintro v1 σ1 ⟨hc1, hg1, hw1⟩
  have hF1 := hc1.Fx hF (fun a i q => by unfold bkC at q; exact NF_i (by omega))
  have hn1 := hc1.2.1
  refine l_bk27 h hc1 k2 k3 k1 (fun σ2 hF2 hc2 hk2 => ?_) 1000 0 σ1 hF1 (by omega) (by omega) Ch.rf (fun w i w0 w1 i0 i1 => ?_)
  · have hn2 := hc2.2.1
    have n2 : ∀ a i : Int, a < 93 → sM σ2 a i = sM σ1 a i := fun a i ha => hc2.M (by omega) (fun q => by have := hkp _ q; omega)
    have n1 : ∀ a i : Int, a < 93 → ¬ bkC a → sM σ1 a i = sM σ a i := fun a i ha hi => hc1.M (by omega) hi
    have f13 := hd (show sM σ2 3 13 = sM σ 64 21 by rw [n2 _ _ (by omega), n1 _ _ (by omega) (by unfold bkC; omega)]; exact e13 ())
    have f33 := hd (show sM σ2 3 3 = sM σ 64 8 by rw [n2 _ _ (by omega), n1 _ _ (by omega) (by unfold bkC; omega)]; exact h.Wa.1)
    repeat (first
    | with_reducible refine rt_b ?_
    | with_reducible refine rt_jn ?_
    | ((with_reducible refine rt_pos ?_ ?_); (· first | omega | ((try simp (disch := omega) only [wr, true_and, and_true, sM_ne, sM_eq, sM_neR, sM_eqR, sK_upM, sK_upR, sL_upM, sL_upR, sN_upM, sN_upR, sT_upM, sT_upR, sN_upM, Int.reduceAdd, Int.reduceMul, Int.reduceSub, Int.reduceNeg, Int.zero_add, Int.add_zero, hF2.c, f13 (), f33 ()]) <;> omega)))
    | ((with_reducible refine rt_neg ?_ ?_); (· first | omega | ((try simp (disch := omega) only [wr, true_and, and_true, sM_ne, sM_eq, sM_neR, sM_eqR, sK_upM, sK_upR, sL_upM, sL_upR, sN_upM, sN_upR, sT_upM, sT_upR, sN_upM, Int.reduceAdd, Int.reduceMul, Int.reduceSub, Int.reduceNeg, Int.zero_add, Int.add_zero, hF2.c, f13 (), f33 ()]) <;> omega)))
    | ((with_reducible refine rt_v ?_ ?_); · simp (disch := omega) only [true_and, and_true, sM_ne, sM_eq, sM_neR, sM_eqR, sK_upM, sK_upR, sL_upM, sL_upR, sN_upM, sN_upR, sT_upM, sT_upR, sN_upM, Int.reduceAdd, Int.reduceMul, Int.reduceSub, Int.reduceNeg, Int.zero_add, Int.add_zero, hF2.c, f13 (), f33 ()])
    | ((with_reducible apply rt_gx); (· simp (disch := omega) only [true_and, and_true, sM_ne, sM_eq, sM_neR, sM_eqR, sK_upM, sK_upR, sL_upM, sL_upR, sN_upM, sN_upR, sT_upM, sT_upR, sN_upM, Int.reduceAdd, Int.reduceMul, Int.reduceSub, Int.reduceNeg, Int.zero_add, Int.add_zero, hF2.c, f13 (), f33 ()]); (· (try simp (disch := omega) only [wr, true_and, and_true, sM_ne, sM_eq, sM_neR, sM_eqR, sK_upM, sK_upR, sL_upM, sL_upR, sN_upM, sN_upR, sT_upM, sT_upR, sN_upM, Int.reduceAdd, Int.reduceMul, Int.reduceSub, Int.reduceNeg, Int.zero_add, Int.add_zero, hF2.c, f13 (), f33 ()]); exact rfl))
    | ((with_reducible apply rt_alx); (· simp (disch := omega) only [true_and, and_true, sM_ne, sM_eq, sM_neR, sM_eqR, sK_upM, sK_upR, sL_upM, sL_upR, sN_upM, sN_upR, sT_upM, sT_upR, sN_upM, Int.reduceAdd, Int.reduceMul, Int.reduceSub, Int.reduceNeg, Int.zero_add, Int.add_zero, hF2.c, f13 (), f33 ()]); (· first | omega | ((try simp (disch := omega) only [wr, true_and, and_true, sM_ne, sM_eq, sM_neR, sM_eqR, sK_upM, sK_upR, sL_upM, sL_upR, sN_upM, sN_upR, sT_upM, sT_upR, sN_upM, Int.reduceAdd, Int.reduceMul, Int.reduceSub, Int.reduceNeg, Int.zero_add, Int.add_zero, hF2.c, f13 (), f33 ()]) <;> omega)); (· (try simp (disch := omega) only [wr, true_and, and_true, sM_ne, sM_eq, sM_neR, sM_eqR, sK_upM, sK_upR, sL_upM, sL_upR, sN_upM, sN_upR, sT_upM, sT_upR, sN_upM, Int.reduceAdd, Int.reduceMul, Int.reduceSub, Int.reduceNeg, Int.zero_add, Int.add_zero, hF2.c, f13 (), f33 ()]); exact rfl))
    | ((with_reducible refine rt_as ?_ ?_ ?_); (· simp (disch := omega) only [true_and, and_true, sM_ne, sM_eq, sM_neR, sM_eqR, sK_upM, sK_upR, sL_upM, sL_upR, sN_upM, sN_upR, sT_upM, sT_upR, sN_upM, Int.reduceAdd, Int.reduceMul, Int.reduceSub, Int.reduceNeg, Int.zero_add, Int.add_zero, hF2.c, f13 (), f33 ()]); (· first | omega | ((try simp (disch := omega) only [wr, true_and, and_true, sM_ne, sM_eq, sM_neR, sM_eqR, sK_upM, sK_upR, sL_upM, sL_upR, sN_upM, sN_upR, sT_upM, sT_upR, sN_upM, Int.reduceAdd, Int.reduceMul, Int.reduceSub, Int.reduceNeg, Int.zero_add, Int.add_zero, hF2.c, f13 (), f33 ()]) <;> omega)))
    | ((with_reducible refine rt_p ?_ ?_ ?_); (· simp (disch := omega) only [true_and, and_true, sM_ne, sM_eq, sM_neR, sM_eqR, sK_upM, sK_upR, sL_upM, sL_upR, sN_upM, sN_upR, sT_upM, sT_upR, sN_upM, Int.reduceAdd, Int.reduceMul, Int.reduceSub, Int.reduceNeg, Int.zero_add, Int.add_zero, hF2.c, f13 (), f33 ()]); (· omega))
    | with_reducible refine rt_ret ?_
    | ((with_reducible apply rt_gwx); (· assumption); (· (try simp (disch := omega) only [wr, true_and, and_true, sM_ne, sM_eq, sM_neR, sM_eqR, sK_upM, sK_upR, sL_upM, sL_upR, sN_upM, sN_upR, sT_upM, sT_upR, sN_upM, Int.reduceAdd, Int.reduceMul, Int.reduceSub, Int.reduceNeg, Int.zero_add, Int.add_zero, hF2.c, f13 (), f33 ()]); exact rfl)))
    have hc3 : Ch (fun a i => a = 3 ∧ i = 7) σ2 (upM σ2 3 7 (sM σ 64 21)) := Ch.rf.up ⟨rfl, rfl⟩
    have v7 : sM (upM σ2 3 7 (sM σ 64 21)) 3 7 = sM σ 64 21 := by simp (disch := omega) only [true_and, and_true, sM_ne, sM_eq, sM_neR, sM_eqR, sK_upM, sK_upR, sL_upM, sL_upR, sN_upM, sN_upR, sT_upM, sT_upR, sN_upM, Int.reduceAdd, Int.reduceMul, Int.reduceSub, Int.reduceNeg, Int.zero_add, Int.add_zero]
    generalize upM σ2 3 7 (sM σ 64 21) = σ3 at hc3 v7 ⊢
    have hF3 := hc3.Fx hF2 (fun a i q => by obtain ⟨rfl, q⟩ := q; exact NF_3 (by omega))
    have hn3 := hc3.2.1
    have hc03 : Ch (fun a i => (bkC a ∨ kpS σ 1 a) ∨ (a = 3 ∧ i = 7)) σ σ3 := ((hc1.mono (fun a i q => Or.inl (Or.inl q))).tr (hc2.mono (fun a i q => Or.inl (Or.inr q)))).tr (hc3.mono (fun a i q => Or.inr q))
    have n3 : ∀ a i : Int, 64 ≤ a → a < 93 → sM σ3 a i = sM σ a i := fun a i ha hb => hc03.M (by omega) (fun q => by
      rcases q with (q | q) | q
      · unfold bkC at q; omega
      · have := hkp _ q; omega
      · omega)
    have g18 := hd (show sM σ3 64 18 = 1 by rw [n3 64 18 (by omega) (by omega)]; exact e18 ())
    have g21 := hd (n3 64 21 (by omega) (by omega))
    unfold fX12_back
    refine rt_gx (x := 1) (by simp (disch := omega) only [true_and, and_true, sM_ne, sM_eq, sM_neR, sM_eqR, sK_upM, sK_upR, sL_upM, sL_upR, sN_upM, sN_upR, sT_upM, sT_upR, sN_upM, Int.reduceAdd, Int.reduceMul, Int.reduceSub, Int.reduceNeg, Int.zero_add, Int.add_zero, hF3.c]) (g18 ()) (rt_neg (by decide) ?_)
    refine rt_gx (x := sM σ 64 21) (by simp (disch := omega) only [true_and, and_true, sM_ne, sM_eq, sM_neR, sM_eqR, sK_upM, sK_upR, sL_upM, sL_upR, sN_upM, sN_upR, sT_upM, sT_upR, sN_upM, Int.reduceAdd, Int.reduceMul, Int.reduceSub, Int.reduceNeg, Int.zero_add, Int.add_zero, hF3.c]) (g21 ()) ?_
    refine rt_p (by simp (disch := omega) only [true_and, and_true, sM_ne, sM_eq, sM_neR, sM_eqR, sK_upM, sK_upR, sL_upM, sL_upR, sN_upM, sN_upR, sT_upM, sT_upR, sN_upM, Int.reduceAdd, Int.reduceMul, Int.reduceSub, Int.reduceNeg, Int.zero_add, Int.add_zero, hF3.c]) (by omega) ?_
    have hc4 : Ch (fun a i => a = 64 ∧ i = 17) σ3 (upM σ3 64 17 (sM σ 64 21)) := Ch.rf.up ⟨rfl, rfl⟩
    have v17 : sM (upM σ3 64 17 (sM σ 64 21)) 64 17 = sM σ 64 21 := by simp (disch := omega) only [true_and, and_true, sM_ne, sM_eq, sM_neR, sM_eqR, sK_upM, sK_upR, sL_upM, sL_upR, sN_upM, sN_upR, sT_upM, sT_upR, sN_upM, Int.reduceAdd, Int.reduceMul, Int.reduceSub, Int.reduceNeg, Int.zero_add, Int.add_zero]
    generalize upM σ3 64 17 (sM σ 64 21) = σ4 at hc4 v17 ⊢
    have hF4 := hc4.Fx hF3 (fun a i q => by obtain ⟨rfl, q⟩ := q; exact NF_64 (by omega))
    have hn4 := hc4.2.1
    have n4 : ∀ a i : Int, 64 ≤ a → a < 93 → ¬ (a = 64 ∧ i = 17) → sM σ4 a i = sM σ a i := fun a i ha hb hi => by rw [hc4.M (by omega) hi, n3 a i (by omega) (by omega)]
    refine l_bkM20 (σ := σ4) (f := sM σ 77) (g := sM σ 78) (fun σ5 hF5 hc5 hz5 => ?_) 1000 0 σ4 hF4 (by omega) (by omega) Ch.rf (fun i i0 i1 => ⟨n4 _ _ (by omega) (by omega) (by omega), n4 _ _ (by omega) (by omega) (by omega)⟩) (fun i i0 i1 => by omega)
    have hn5 := hc5.2.1
    refine l_bkM58 (σ := σ5) (f := sM σ 79) (g := sM σ 67) (m := sM σ 64 19) j2 j3 (fun σ6 hF6 hc6 hz6 => ?_) 1000 0 σ5 hF5 (by omega) (by omega) Ch.rf (by rw [hc5.M (by omega) (by omega)]; exact n4 _ _ (by omega) (by omega) (by omega)) (fun i i0 i1 => by rw [hc5.M (by omega) (by omega)]; exact n4 _ _ (by omega) (by omega) (by omega)) (fun i i0 i1 => by rw [if_neg (by omega), hc5.M (by omega) (by omega)]; exact n4 _ _ (by omega) (by omega) (by omega))
    have hn6 := hc6.2.1
    have n6 : ∀ a i : Int, 64 ≤ a → a < 93 → ¬ (a = 64 ∧ i = 17) → ¬ (65 ≤ a ∧ a ≤ 67) → sM σ6 a i = sM σ a i := fun a i ha hb hi hj => by rw [hc6.M (by omega) (by omega), hc5.M (by omega) (by omega)]; exact n4 a i ha hb hi
    refine Rt.mono (l_bkM86 (σ := σ6) (f := sM σ 80) (g := sM σ 73) (m := sM σ 64 20) (v0 := sM σ 64 8) k2 (by omega) 1000 0 σ6 hF6 (by omega) (by omega) Ch.rf (n6 _ _ (by omega) (by omega) (by omega) (by omega)) (n6 _ _ (by omega) (by omega) (by omega) (by omega)) (fun i i0 i1 => n6 _ _ (by omega) (by omega) (by omega) (by omega)) (fun i i0 i1 => by rw [if_neg (by omega)]; exact n6 _ _ (by omega) (by omega) (by omega) (by omega))) ?_
    rintro y ρ ⟨y1, hFρ, hc7, hz7⟩
    have hc46 : Ch (fun a i => (65 ≤ a ∧ a ≤ 67) ∨ a = 73) σ4 ρ := ((hc5.mono (fun a i q => by omega)).tr (hc6.mono (fun a i q => by omega))).tr (hc7.mono (fun a i q => by omega))
    have hall : Ch (fun a i => ((bkC a ∨ kpS σ 1 a) ∨ (a = 3 ∧ i = 7)) ∨ (a = 64 ∧ i = 17) ∨ (65 ≤ a ∧ a ≤ 67) ∨ a = 73) σ ρ := ((hc03.mono (fun a i q => Or.inl q)).tr (hc4.mono (fun a i q => Or.inr (Or.inl q)))).tr (hc46.mono (fun a i q => Or.inr (Or.inr q)))
    have small : ∀ a i : Int, a < 93 → (((bkC a ∨ kpS σ 1 a) ∨ (a = 3 ∧ i = 7)) ∨ (a = 64 ∧ i = 17) ∨ (65 ≤ a ∧ a ≤ 67) ∨ a = 73) → bkC a ∨ (a = 3 ∧ i = 7) ∨ (a = 64 ∧ i = 17) ∨ (65 ≤ a ∧ a ≤ 67) ∨ a = 73 := fun a i ha q => by
      rcases q with ((q | q) | q) | q
      · exact Or.inl q
      · have := hkp _ q; omega
      · exact Or.inr (Or.inl q)
      · exact Or.inr (Or.inr q)
    have nn : ∀ a i : Int, a < 93 → ¬ (bkC a ∨ (a = 3 ∧ i = 7) ∨ (a = 64 ∧ i = 17) ∨ (65 ≤ a ∧ a ≤ 67) ∨ a = 73) → sM ρ a i = sM σ a i := fun a i ha hq => hall.M (by omega) (fun q => hq (small a i ha q))
    have z34 : ∀ a i : Int, a < 64 → sM ρ a i = sM σ3 a i := fun a i ha => by rw [hc46.M (by omega) (by omega), hc4.M (by omega) (by omega)]
    have z12 : ∀ a i : Int, bkC a → sM ρ a i = sM σ1 a i := fun a i hi => by
      have : a < 64 ∧ a ≠ 3 := by unfold bkC at hi; omega
      rw [z34 a i this.1, hc3.M (by omega) (by omega), n2 a i (by omega)]
    have z5 : ∀ a i : Int, (a = 65 ∨ a = 66) → sM ρ a i = sM σ5 a i := fun a i ha => by rw [hc7.M (by omega) (by omega), hc6.M (by omega) (by omega)]
    have z6 : ∀ i : Int, sM ρ 67 i = sM σ6 67 i := fun i => hc7.M (by omega) (by omega)
    have far : ∀ (w x i : Int), 0 ≤ w → w < sM σ 64 8 → (x = 0 ∨ x = 2) → ¬ (((bkC (sM σ 33 w + x) ∨ kpS σ 1 (sM σ 33 w + x)) ∨ (sM σ 33 w + x = 3 ∧ i = 7)) ∨ (sM σ 33 w + x = 64 ∧ i = 17) ∨ (65 ≤ sM σ 33 w + x ∧ sM σ 33 w + x ≤ 67) ∨ sM σ 33 w + x = 73) := fun w x i w0 w1 hx q => by
      have hwn := h.wn w0 w1
      rcases q with ((q | q) | q) | q
      · unfold bkC at q; omega
      · obtain ⟨v, v0, v1, e⟩ := q
        by_cases ev : v = w
        · subst ev; omega
        · have := h.Wa.gap v0 v1 w0 w1 ev
          omega
      · omega
      · omega
    have far0 : ∀ (w i : Int), 0 ≤ w → w < sM σ 64 8 → ¬ (((bkC (sM σ 33 w) ∨ kpS σ 1 (sM σ 33 w)) ∨ (sM σ 33 w = 3 ∧ i = 7)) ∨ (sM σ 33 w = 64 ∧ i = 17) ∨ (65 ≤ sM σ 33 w ∧ sM σ 33 w ≤ 67) ∨ sM σ 33 w = 73) := fun w i w0 w1 => by
      have := far w 0 i w0 w1 (Or.inl rfl)
      rw [Int.add_zero] at this
      exact this
    refine finS y1.symm (h.big hall.1 (fun a i q => ?_) (fun g t g0 g1 t0 t1 => ?_) ⟨?_, ?_, ?_, fun s s0 s1 => ?_⟩ ⟨?_, ?_, fun w w0 w1 => ?_, fun v u v0 v1 u1 => ?_⟩ ?_ (h.Im.ff hF h.Wa hall.1 (fun a i p ha q => ?_) (fun w i w0 w1 => far w 2 i w0 w1 (Or.inr rfl)))) hall.2
    · unfold alB
      rcases q with ((q | q) | q) | q
      · unfold bkC at q; unfold pGate; omega
      · obtain ⟨v, v0, v1, e⟩ := q
        exact Or.inr (Or.inr (Or.inr (Or.inr (Or.inr (Or.inr (Or.inr (Or.inr (Or.inr (Or.inr (Or.inr ⟨v, v0, v1, Or.inl e⟩))))))))))
      · omega
      · unfold pGate; omega
    · obtain ⟨x1, x2, x3, x4⟩ := hg g t g0 g1 t0 t1
      rw [z12 (7 + g) t (by unfold bkC; omega), z12 (10 + g) t (by unfold bkC; omega), (hg1 g t g0 g1 t0 t1).1, (hg1 g t g0 g1 t0 t1).2, z5 65 _ (Or.inl rfl), z5 66 _ (Or.inr rfl), (hz5 (24 * g + t) (by omega) (by omega)).1, (hz5 (24 * g + t) (by omega) (by omega)).2]
      exact ⟨x1, x2, x3, x4⟩
    · rw [nn 5 5 (by omega) (by unfold bkC; omega), nn 64 2 (by omega) (by unfold bkC; omega)]; exact hS.1
    · rw [nn 64 2 (by omega) (by unfold bkC; omega)]; exact hS.2.1
    · rw [nn 5 8 (by omega) (by unfold bkC; omega)]; exact hS.2.2.1
    · obtain ⟨⟨x1, x2, x3⟩, x4, x5, x6⟩ := hS.2.2.2 s s0 s1
      rw [z12 15 s (by unfold bkC; omega), hw1 s s0 s1, z6 s, hz6 s s0 s1, nn 16 s (by omega) (by unfold bkC; omega), nn 68 s (by omega) (by unfold bkC; omega), nn 13 s (by omega) (by unfold bkC; omega), nn 14 s (by omega) (by unfold bkC; omega), nn 69 _ (by omega) (by unfold bkC; omega), nn 69 _ (by omega) (by unfold bkC; omega)]
      refine ⟨?_, x4, x5, x6⟩
      by_cases q : s < sM σ 64 19
      · rw [if_pos q, if_pos q]
        exact hw s s0 q
      · rw [if_neg q, if_neg q]
        exact ⟨x1, x2, x3⟩
    · rw [nn 3 3 (by omega) (by unfold bkC; omega), nn 64 8 (by omega) (by unfold bkC; omega)]; exact h.Wa.1
    · rw [nn 64 8 (by omega) (by unfold bkC; omega)]; exact h.Wa.2.1
    · rw [nn 64 8 (by omega) (by unfold bkC; omega)] at w1
      rw [nn 33 w (by omega) (by unfold bkC; omega)]
      have hwn := h.wn w0 w1
      refine (h.Wa.2.2.1 w w0 w1).ff hF hall.1 (fun a i a0 a1 q => ?_) (fun i => far0 w i w0 w1) (fun c c0 c1 => ?_)
      · have q := small _ _ (by omega) q
        unfold bkC at q
        omega
      · rw [hc46.M (by omega) (by omega), hc4.M (by omega) (by omega), hc3.M (by omega) (by omega), hk2 w c w0 w1 c0 (by omega), hz7 _ (by omega) (by omega)]
        by_cases q : w < sM σ 64 20
        · rw [if_pos q, if_pos (by omega)]
          exact hk w c w0 q c0 c1
        · rw [if_neg q, if_neg (by omega)]
          exact (h.Wa.2.2.1 w w0 w1).2.2.2.2.2.2 c c0 c1
    · rw [nn 64 8 (by omega) (by unfold bkC; omega)] at u1
      rw [nn 33 v (by omega) (by unfold bkC; omega), nn 33 u (by omega) (by unfold bkC; omega)]
      exact h.Wa.2.2.2 v u v0 v1 u1
    · unfold RRule
      rw [z34 3 7 (by omega), v7, hc46.M (by omega) (by omega), v17, nn 64 16 (by omega) (by unfold bkC; omega)]
      exact ⟨rfl, l2, l3⟩
    · unfold pImg at p
      have q := small _ _ ha q
      unfold bkC at q
      omega
  · have hwn := h.wn w0 w1
    rw [if_neg (by omega), hc1.M (by omega) (by unfold bkC; omega)]
