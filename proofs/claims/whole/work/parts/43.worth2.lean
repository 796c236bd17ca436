/-! what a text comes to, in the reference -/
theorem cv_lit {x : Int} (h : x < 10000) : cv x = 100000 + x := by unfold cv; rw [if_pos h]
theorem cv_name {x : Int} (h : 10000 ≤ x) (h2 : x < 10006) : cv x = x - 10000 := by unfold cv; rw [if_neg (by omega), if_pos h2]
theorem cv_bin {x : Int} (h : 10006 ≤ x) (h2 : x < 10013) : 11 ≤ cv x ∧ cv x < 19 ∧ cv x ≠ 13 := by
  rcases (by omega : x = 10006 ∨ x = 10007 ∨ x = 10008 ∨ x = 10009 ∨ x = 10010 ∨ x = 10011 ∨ x = 10012) with rfl | rfl | rfl | rfl | rfl | rfl | rfl <;> decide
theorem l_worth {q0 t pt : Int} {L : Nat} {rw0 f : Int → Int} {V : Int} {σ : ZS} (t0 : 0 ≤ t) (t6 : t < 6) (p0 : 0 ≤ pt) (p1 : pt < 2) (q00 : 0 ≤ q0) (q01 : q0 + (L : Int) ≤ 200) :
    ∀ (N i d : Nat) (s : ZS) (g : Int → Int), FxD s → Ch (fun a _ => a = 86) σ s → sM s 64 17 = t → sM s 76 (4 * t + pt + 1) = q0 + (L : Int) → (∀ j : Int, 0 ≤ j → j < (L : Int) → sM s 75 (200 * t + (q0 + j)) = cv (rw0 j)) → (∀ j : Int, 0 ≤ j → j < 6 → sM s 87 j = f j) → i ≤ L → L - i < N → d ≤ 64 → dpk d ((rowL rw0 L).drop i) = true → (∀ j : Int, 0 ≤ j → j < (d : Int) → sM s 86 j = g j) → evg f ((rowL rw0 L).drop i) d g = V → Rt (lX12_worth_16 64 pt N s (d : Int) (q0 + (i : Int))) (fun v τ => v = V ∧ Ch (fun a _ => a = 86) σ τ)
  | 0, i, d, s, g, _, _, _, _, _, _, _, h, _, _, _, _ => by omega
  | N + 1, i, d, s, g, hF, hc, hr, h76, h75, hf, hi, hN, hd64, hdp, hst, hV => by
    have hr' := hd hr
    have h76' := hd h76
    have e4 := hd (show wrap (wrap (wrap (4 * t) + pt) + 1) = 4 * t + pt + 1 by rw [wr (x := 4 * t) (by omega) (by omega), wr (x := 4 * t + pt) (by omega) (by omega), wr (by omega) (by omega)])
    clear hr h76
    rw [lX12_worth_16]
    refine rt_gx (x := 76) (by simp (disch := omega) only [true_and, and_true, sM_ne, sM_eq, sM_neR, sM_eqR, sK_upM, sK_upR, sL_upM, sL_upR, sN_upM, sN_upR, sT_upM, sT_upR, sN_upM, Int.reduceAdd, Int.reduceMul, Int.reduceSub, Int.reduceNeg, Int.zero_add, Int.add_zero, hF.c]) (by simp (disch := omega) only [true_and, and_true, sM_ne, sM_eq, sM_neR, sM_eqR, sK_upM, sK_upR, sL_upM, sL_upR, sN_upM, sN_upR, sT_upM, sT_upR, sN_upM, Int.reduceAdd, Int.reduceMul, Int.reduceSub, Int.reduceNeg, Int.zero_add, Int.add_zero, hF.c]) ?_
    refine rt_gx (x := t) (by simp (disch := omega) only [true_and, and_true, sM_ne, sM_eq, sM_neR, sM_eqR, sK_upM, sK_upR, sL_upM, sL_upR, sN_upM, sN_upR, sT_upM, sT_upR, sN_upM, Int.reduceAdd, Int.reduceMul, Int.reduceSub, Int.reduceNeg, Int.zero_add, Int.add_zero, hF.c]) (hr' ()) ?_
    refine rt_alx (x := q0 + (L : Int)) (by simp (disch := omega) only [true_and, and_true, sM_ne, sM_eq, sM_neR, sM_eqR, sK_upM, sK_upR, sL_upM, sL_upR, sN_upM, sN_upR, sT_upM, sT_upR, sN_upM, Int.reduceAdd, Int.reduceMul, Int.reduceSub, Int.reduceNeg, Int.zero_add, Int.add_zero, hF.c]) (by simp (disch := omega) only [true_and, and_true, sM_ne, sM_eq, sM_neR, sM_eqR, sK_upM, sK_upR, sL_upM, sL_upR, sN_upM, sN_upR, sT_upM, sT_upR, sN_upM, Int.reduceAdd, Int.reduceMul, Int.reduceSub, Int.reduceNeg, Int.zero_add, Int.add_zero, hF.c, e4 ()]; omega) (by rw [e4 (), h76' ()]) ?_
    by_cases he : q0 + (L : Int) ≤ q0 + (i : Int)
    · refine rt_pos he ?_
      rw [List.drop_eq_nil_of_le (by rw [rowL_len]; omega)] at hdp hV
      have h1 : d = 1 := by simpa [dpk] using hdp
      refine rt_gx (x := 86) (by simp (disch := omega) only [true_and, and_true, sM_ne, sM_eq, sM_neR, sM_eqR, sK_upM, sK_upR, sL_upM, sL_upR, sN_upM, sN_upR, sT_upM, sT_upR, sN_upM, Int.reduceAdd, Int.reduceMul, Int.reduceSub, Int.reduceNeg, Int.zero_add, Int.add_zero, hF.c]) (by simp (disch := omega) only [true_and, and_true, sM_ne, sM_eq, sM_neR, sM_eqR, sK_upM, sK_upR, sL_upM, sL_upR, sN_upM, sN_upR, sT_upM, sT_upR, sN_upM, Int.reduceAdd, Int.reduceMul, Int.reduceSub, Int.reduceNeg, Int.zero_add, Int.add_zero, hF.c]) ?_
      refine rt_alx (x := V) (by simp (disch := omega) only [true_and, and_true, sM_ne, sM_eq, sM_neR, sM_eqR, sK_upM, sK_upR, sL_upM, sL_upR, sN_upM, sN_upR, sT_upM, sT_upR, sN_upM, Int.reduceAdd, Int.reduceMul, Int.reduceSub, Int.reduceNeg, Int.zero_add, Int.add_zero, hF.c]) (by simp (disch := omega) only [true_and, and_true, sM_ne, sM_eq, sM_neR, sM_eqR, sK_upM, sK_upR, sL_upM, sL_upR, sN_upM, sN_upR, sT_upM, sT_upR, sN_upM, Int.reduceAdd, Int.reduceMul, Int.reduceSub, Int.reduceNeg, Int.zero_add, Int.add_zero, hF.c]; omega) (by rw [hst 0 (by omega) (by omega)]; exact hV) (rt_ret ⟨rfl, hc⟩)
    · refine rt_neg he ?_
      have hiL : i < L := by omega
      rw [rowL_drop rw0 L i hiL] at hdp hV
      have hx := hd (h75 (i : Int) (by omega) (by omega))
      have hrw : ∀ y : Int, y = rw0 (i : Int) → sM s 75 (200 * t + (q0 + (i : Int))) = cv y := fun y e => by rw [e, hx ()]
      clear hx
      generalize hxe : rw0 (i : Int) = x at hdp hV
      have hx := hd (hrw x hxe.symm)
      clear hrw
      obtain ⟨⟨x0, x1⟩, p1', p2, p3⟩ := dpk_cons hdp
      clear hdp
      have e5 := hd (show wrap (wrap (200 * t) + (q0 + (i : Int))) = 200 * t + (q0 + (i : Int)) by rw [wr (x := 200 * t) (by omega) (by omega), wr (by omega) (by omega)])
      have hsl : ∀ a v : Int, Ch (fun a _ => a = 86) s (upM s 86 a v) := fun a v => Ch.rf.up rfl
      have next : ∀ (d' : Nat) (p v : Int) (g' : Int → Int), d' ≤ 64 → dpk d' ((rowL rw0 L).drop (i + 1)) = true → evg f ((rowL rw0 L).drop (i + 1)) d' g' = V → (∀ j : Int, 0 ≤ j → j < (d' : Int) → sM (upM s 86 p v) 86 j = g' j) → Rt (lX12_worth_16 64 pt N (upM s 86 p v) (d' : Int) (wrap (q0 + (i : Int) + 1))) (fun v τ => v = V ∧ Ch (fun a _ => a = 86) σ τ) := by
        intro d' p v g' b1 b2 b3 b4
        rw [show wrap (q0 + (i : Int) + 1) = q0 + ((i + 1 : Nat) : Int) by rw [wr (by omega) (by omega)]; omega]
        refine l_worth t0 t6 p0 p1 q00 q01 N (i + 1) d' _ g' (hF.up (NF_i (by omega))) (hc.tr (hsl p v)) (by rw [sM_ne (by omega)]; exact hr' ()) (by rw [sM_ne (by omega)]; exact h76' ()) (fun j j0 j1 => ?_) (fun j j0 j1 => ?_) (by omega) (by omega) b1 b2 b4 b3
        · rw [sM_ne (by omega)]; exact h75 j j0 j1
        · rw [sM_ne (by omega)]; exact hf j j0 j1
      refine rt_gx (x := 75) (by simp (disch := omega) only [true_and, and_true, sM_ne, sM_eq, sM_neR, sM_eqR, sK_upM, sK_upR, sL_upM, sL_upR, sN_upM, sN_upR, sT_upM, sT_upR, sN_upM, Int.reduceAdd, Int.reduceMul, Int.reduceSub, Int.reduceNeg, Int.zero_add, Int.add_zero, hF.c]) (by simp (disch := omega) only [true_and, and_true, sM_ne, sM_eq, sM_neR, sM_eqR, sK_upM, sK_upR, sL_upM, sL_upR, sN_upM, sN_upR, sT_upM, sT_upR, sN_upM, Int.reduceAdd, Int.reduceMul, Int.reduceSub, Int.reduceNeg, Int.zero_add, Int.add_zero, hF.c]) ?_
      refine rt_gx (x := t) (by simp (disch := omega) only [true_and, and_true, sM_ne, sM_eq, sM_neR, sM_eqR, sK_upM, sK_upR, sL_upM, sL_upR, sN_upM, sN_upR, sT_upM, sT_upR, sN_upM, Int.reduceAdd, Int.reduceMul, Int.reduceSub, Int.reduceNeg, Int.zero_add, Int.add_zero, hF.c]) (hr' ()) ?_
      refine rt_alx (x := cv x) (by simp (disch := omega) only [true_and, and_true, sM_ne, sM_eq, sM_neR, sM_eqR, sK_upM, sK_upR, sL_upM, sL_upR, sN_upM, sN_upR, sT_upM, sT_upR, sN_upM, Int.reduceAdd, Int.reduceMul, Int.reduceSub, Int.reduceNeg, Int.zero_add, Int.add_zero, hF.c]) (by simp (disch := omega) only [true_and, and_true, sM_ne, sM_eq, sM_neR, sM_eqR, sK_upM, sK_upR, sL_upM, sL_upR, sN_upM, sN_upR, sT_upM, sT_upR, sN_upM, Int.reduceAdd, Int.reduceMul, Int.reduceSub, Int.reduceNeg, Int.zero_add, Int.add_zero, hF.c, e5 ()]; omega) (by rw [e5 (), hx ()]) ?_
      by_cases hp : x < 10006
      · obtain ⟨d1, d2⟩ := p1' hp
        rw [evg_push hp] at hV
        have hst' : ∀ (v : Int), ∀ j : Int, 0 ≤ j → j < ((d + 1 : Nat) : Int) → sM (upM s 86 (d : Int) v) 86 j = updF g (d : Int) v j := by
          intro v j j0 j1
          by_cases e : j = (d : Int)
          · subst e; rw [sM_eq ⟨rfl, rfl⟩, updF_eq]
          · rw [sM_ne (Or.inr e), updF_ne e]; exact hst j j0 (by omega)
        have hV' : evg f ((rowL rw0 L).drop (i + 1)) ((d + 1 : Nat) : Int) (updF g (d : Int) (if x < 10000 then x else f (x - 10000))) = V := by
          rw [← hV]
          congr 1
        by_cases hq : x < 10000
        · have hcv := cv_lit hq
          rw [hcv]
          refine rt_jn (rt_jn (rt_pos (by omega) ?_))
          refine rt_gx (x := 86) (by simp (disch := omega) only [true_and, and_true, sM_ne, sM_eq, sM_neR, sM_eqR, sK_upM, sK_upR, sL_upM, sL_upR, sN_upM, sN_upR, sT_upM, sT_upR, sN_upM, Int.reduceAdd, Int.reduceMul, Int.reduceSub, Int.reduceNeg, Int.zero_add, Int.add_zero, hF.c]) (by simp (disch := omega) only [true_and, and_true, sM_ne, sM_eq, sM_neR, sM_eqR, sK_upM, sK_upR, sL_upM, sL_upR, sN_upM, sN_upR, sT_upM, sT_upR, sN_upM, Int.reduceAdd, Int.reduceMul, Int.reduceSub, Int.reduceNeg, Int.zero_add, Int.add_zero, hF.c]) ?_
          refine rt_jn (rt_pos (by omega) ?_)
          refine rt_as (by simp (disch := omega) only [true_and, and_true, sM_ne, sM_eq, sM_neR, sM_eqR, sK_upM, sK_upR, sL_upM, sL_upR, sN_upM, sN_upR, sT_upM, sT_upR, sN_upM, Int.reduceAdd, Int.reduceMul, Int.reduceSub, Int.reduceNeg, Int.zero_add, Int.add_zero, hF.c]) (by simp (disch := omega) only [true_and, and_true, sM_ne, sM_eq, sM_neR, sM_eqR, sK_upM, sK_upR, sL_upM, sL_upR, sN_upM, sN_upR, sT_upM, sT_upR, sN_upM, Int.reduceAdd, Int.reduceMul, Int.reduceSub, Int.reduceNeg, Int.zero_add, Int.add_zero, hF.c]; omega) ?_
          rw [if_pos hq] at hV'
          have := next (d + 1) (d : Int) x _ (by omega) d2 hV' (hst' x)
          rw [show wrap (100000 + x - 100000) = x by rw [wr (by omega) (by omega)]; omega]
          show Rt (lX12_worth_16 64 pt N (upM s 86 (d : Int) x) (wrap ((d : Int) + 1)) (wrap (q0 + (i : Int) + 1))) _
          rw [wr1 d (by omega)]
          exact this
        · have hcv := cv_name (by omega) hp
          rw [hcv]
          have hfx := hd (hf (x - 10000) (by omega) (by omega))
          refine rt_jn (rt_jn (rt_neg (by omega) (rt_neg (by omega) ?_)))
          refine rt_gx (x := 86) (by simp (disch := omega) only [true_and, and_true, sM_ne, sM_eq, sM_neR, sM_eqR, sK_upM, sK_upR, sL_upM, sL_upR, sN_upM, sN_upR, sT_upM, sT_upR, sN_upM, Int.reduceAdd, Int.reduceMul, Int.reduceSub, Int.reduceNeg, Int.zero_add, Int.add_zero, hF.c]) (by simp (disch := omega) only [true_and, and_true, sM_ne, sM_eq, sM_neR, sM_eqR, sK_upM, sK_upR, sL_upM, sL_upR, sN_upM, sN_upR, sT_upM, sT_upR, sN_upM, Int.reduceAdd, Int.reduceMul, Int.reduceSub, Int.reduceNeg, Int.zero_add, Int.add_zero, hF.c]) ?_
          refine rt_jn (rt_neg (by omega) ?_)
          refine rt_gx (x := 87) (by simp (disch := omega) only [true_and, and_true, sM_ne, sM_eq, sM_neR, sM_eqR, sK_upM, sK_upR, sL_upM, sL_upR, sN_upM, sN_upR, sT_upM, sT_upR, sN_upM, Int.reduceAdd, Int.reduceMul, Int.reduceSub, Int.reduceNeg, Int.zero_add, Int.add_zero, hF.c]) (by simp (disch := omega) only [true_and, and_true, sM_ne, sM_eq, sM_neR, sM_eqR, sK_upM, sK_upR, sL_upM, sL_upR, sN_upM, sN_upR, sT_upM, sT_upR, sN_upM, Int.reduceAdd, Int.reduceMul, Int.reduceSub, Int.reduceNeg, Int.zero_add, Int.add_zero, hF.c]) ?_
          refine rt_alx (x := f (x - 10000)) (by simp (disch := omega) only [true_and, and_true, sM_ne, sM_eq, sM_neR, sM_eqR, sK_upM, sK_upR, sL_upM, sL_upR, sN_upM, sN_upR, sT_upM, sT_upR, sN_upM, Int.reduceAdd, Int.reduceMul, Int.reduceSub, Int.reduceNeg, Int.zero_add, Int.add_zero, hF.c]) (by simp (disch := omega) only [true_and, and_true, sM_ne, sM_eq, sM_neR, sM_eqR, sK_upM, sK_upR, sL_upM, sL_upR, sN_upM, sN_upR, sT_upM, sT_upR, sN_upM, Int.reduceAdd, Int.reduceMul, Int.reduceSub, Int.reduceNeg, Int.zero_add, Int.add_zero, hF.c]; omega) (hfx ()) ?_
          refine rt_as (by simp (disch := omega) only [true_and, and_true, sM_ne, sM_eq, sM_neR, sM_eqR, sK_upM, sK_upR, sL_upM, sL_upR, sN_upM, sN_upR, sT_upM, sT_upR, sN_upM, Int.reduceAdd, Int.reduceMul, Int.reduceSub, Int.reduceNeg, Int.zero_add, Int.add_zero, hF.c]) (by simp (disch := omega) only [true_and, and_true, sM_ne, sM_eq, sM_neR, sM_eqR, sK_upM, sK_upR, sL_upM, sL_upR, sN_upM, sN_upR, sT_upM, sT_upR, sN_upM, Int.reduceAdd, Int.reduceMul, Int.reduceSub, Int.reduceNeg, Int.zero_add, Int.add_zero, hF.c]; omega) ?_
          rw [if_neg hq] at hV'
          have := next (d + 1) (d : Int) (f (x - 10000)) _ (by omega) d2 hV' (hst' _)
          show Rt (lX12_worth_16 64 pt N (upM s 86 (d : Int) (f (x - 10000))) (wrap ((d : Int) + 1)) (wrap (q0 + (i : Int) + 1))) _
          rw [wr1 d (by omega)]
          exact this
      · by_cases hp2 : x < 10013
        · obtain ⟨d1, d2⟩ := p2 (by omega) hp2
          rw [evg_two (by omega) hp2] at hV
          obtain ⟨c1, c2, c3⟩ := cv_bin (by omega) hp2
          have ed := hd (show wrap ((d : Int) + (-1)) = ((d - 1 : Nat) : Int) by rw [wr (by omega) (by omega)]; omega)
          have ed1 := hd (show wrap (((d - 1 : Nat) : Int) - 1) = (d : Int) - 2 by rw [wr (by omega) (by omega)]; omega)
          have hs1 := hd (hst ((d : Int) - 2) (by omega) (by omega))
          have hs2 := hd (show sM s 86 ((d - 1 : Nat) : Int) = g ((d : Int) - 1) by rw [hst _ (by omega) (by omega)]; congr 1; omega)
          have hV' : evg f ((rowL rw0 L).drop (i + 1)) ((d - 1 : Nat) : Int) (updF g ((d : Int) - 2) (opV x (g ((d : Int) - 2)) (g ((d : Int) - 1)))) = V := by
            rw [← hV]
            congr 1
            omega
          have hst' : ∀ j : Int, 0 ≤ j → j < ((d - 1 : Nat) : Int) → sM (upM s 86 ((d : Int) - 2) (opV x (g ((d : Int) - 2)) (g ((d : Int) - 1)))) 86 j = updF g ((d : Int) - 2) (opV x (g ((d : Int) - 2)) (g ((d : Int) - 1))) j := by
            intro j j0 j1
            by_cases e : j = (d : Int) - 2
            · subst e; rw [sM_eq ⟨rfl, rfl⟩, updF_eq]
            · rw [sM_ne (Or.inr e), updF_ne e]; exact hst j j0 (by omega)
          refine rt_jn (rt_jn (rt_neg (by omega) (rt_pos (by omega) (rt_neg c3 (rt_neg (by omega) ?_)))))
          refine rt_gx (x := 86) (by simp (disch := omega) only [true_and, and_true, sM_ne, sM_eq, sM_neR, sM_eqR, sK_upM, sK_upR, sL_upM, sL_upR, sN_upM, sN_upR, sT_upM, sT_upR, sN_upM, Int.reduceAdd, Int.reduceMul, Int.reduceSub, Int.reduceNeg, Int.zero_add, Int.add_zero, hF.c]) (by simp (disch := omega) only [true_and, and_true, sM_ne, sM_eq, sM_neR, sM_eqR, sK_upM, sK_upR, sL_upM, sL_upR, sN_upM, sN_upR, sT_upM, sT_upR, sN_upM, Int.reduceAdd, Int.reduceMul, Int.reduceSub, Int.reduceNeg, Int.zero_add, Int.add_zero, hF.c]) ?_
          refine rt_gx (x := 86) (by simp (disch := omega) only [true_and, and_true, sM_ne, sM_eq, sM_neR, sM_eqR, sK_upM, sK_upR, sL_upM, sL_upR, sN_upM, sN_upR, sT_upM, sT_upR, sN_upM, Int.reduceAdd, Int.reduceMul, Int.reduceSub, Int.reduceNeg, Int.zero_add, Int.add_zero, hF.c]) (by simp (disch := omega) only [true_and, and_true, sM_ne, sM_eq, sM_neR, sM_eqR, sK_upM, sK_upR, sL_upM, sL_upR, sN_upM, sN_upR, sT_upM, sT_upR, sN_upM, Int.reduceAdd, Int.reduceMul, Int.reduceSub, Int.reduceNeg, Int.zero_add, Int.add_zero, hF.c]) ?_
          refine rt_alx (x := g ((d : Int) - 2)) (by simp (disch := omega) only [true_and, and_true, sM_ne, sM_eq, sM_neR, sM_eqR, sK_upM, sK_upR, sL_upM, sL_upR, sN_upM, sN_upR, sT_upM, sT_upR, sN_upM, Int.reduceAdd, Int.reduceMul, Int.reduceSub, Int.reduceNeg, Int.zero_add, Int.add_zero, hF.c]) (by simp (disch := omega) only [true_and, and_true, sM_ne, sM_eq, sM_neR, sM_eqR, sK_upM, sK_upR, sL_upM, sL_upR, sN_upM, sN_upR, sT_upM, sT_upR, sN_upM, Int.reduceAdd, Int.reduceMul, Int.reduceSub, Int.reduceNeg, Int.zero_add, Int.add_zero, hF.c, ed (), ed1 ()]; omega) (by rw [ed (), ed1 (), hs1 ()]) ?_
          refine rt_gx (x := 86) (by simp (disch := omega) only [true_and, and_true, sM_ne, sM_eq, sM_neR, sM_eqR, sK_upM, sK_upR, sL_upM, sL_upR, sN_upM, sN_upR, sT_upM, sT_upR, sN_upM, Int.reduceAdd, Int.reduceMul, Int.reduceSub, Int.reduceNeg, Int.zero_add, Int.add_zero, hF.c]) (by simp (disch := omega) only [true_and, and_true, sM_ne, sM_eq, sM_neR, sM_eqR, sK_upM, sK_upR, sL_upM, sL_upR, sN_upM, sN_upR, sT_upM, sT_upR, sN_upM, Int.reduceAdd, Int.reduceMul, Int.reduceSub, Int.reduceNeg, Int.zero_add, Int.add_zero, hF.c]) ?_
          refine rt_alx (x := g ((d : Int) - 1)) (by simp (disch := omega) only [true_and, and_true, sM_ne, sM_eq, sM_neR, sM_eqR, sK_upM, sK_upR, sL_upM, sL_upR, sN_upM, sN_upR, sT_upM, sT_upR, sN_upM, Int.reduceAdd, Int.reduceMul, Int.reduceSub, Int.reduceNeg, Int.zero_add, Int.add_zero, hF.c]) (by simp (disch := omega) only [true_and, and_true, sM_ne, sM_eq, sM_neR, sM_eqR, sK_upM, sK_upR, sL_upM, sL_upR, sN_upM, sN_upR, sT_upM, sT_upR, sN_upM, Int.reduceAdd, Int.reduceMul, Int.reduceSub, Int.reduceNeg, Int.zero_add, Int.add_zero, hF.c, ed (), ed1 ()]; omega) (by rw [ed (), hs2 ()]) ?_
          refine rt_b (rt_e (f_two s x _ _ (by omega) hp2) ?_)
          refine rt_as (by simp (disch := omega) only [true_and, and_true, sM_ne, sM_eq, sM_neR, sM_eqR, sK_upM, sK_upR, sL_upM, sL_upR, sN_upM, sN_upR, sT_upM, sT_upR, sN_upM, Int.reduceAdd, Int.reduceMul, Int.reduceSub, Int.reduceNeg, Int.zero_add, Int.add_zero, hF.c]) (by simp (disch := omega) only [true_and, and_true, sM_ne, sM_eq, sM_neR, sM_eqR, sK_upM, sK_upR, sL_upM, sL_upR, sN_upM, sN_upR, sT_upM, sT_upR, sN_upM, Int.reduceAdd, Int.reduceMul, Int.reduceSub, Int.reduceNeg, Int.zero_add, Int.add_zero, hF.c, ed (), ed1 ()]; omega) ?_
          have := next (d - 1) ((d : Int) - 2) _ _ (by omega) d2 hV' hst'
          simp only [ed (), ed1 ()]
          exact this
        · obtain ⟨d1, d2⟩ := p3 (by omega)
          rw [evg_one (by omega)] at hV
          have ed := hd (show wrap ((d : Int) - 1) = (d : Int) - 1 from wr (by omega) (by omega))
          have hs1 := hd (hst ((d : Int) - 1) (by omega) (by omega))
          have hst' : ∀ v : Int, ∀ j : Int, 0 ≤ j → j < (d : Int) → sM (upM s 86 ((d : Int) - 1) v) 86 j = updF g ((d : Int) - 1) v j := by
            intro v j j0 j1
            by_cases e : j = (d : Int) - 1
            · subst e; rw [sM_eq ⟨rfl, rfl⟩, updF_eq]
            · rw [sM_ne (Or.inr e), updF_ne e]; exact hst j j0 (by omega)
          by_cases hn : x = 10013
          · subst hn
            rw [show cv 10013 = 13 from by decide]
            refine rt_jn (rt_jn (rt_neg (by omega) (rt_pos (by omega) (rt_pos rfl ?_))))
            rw [if_pos rfl] at hV
            refine rt_gx (x := 86) (by simp (disch := omega) only [true_and, and_true, sM_ne, sM_eq, sM_neR, sM_eqR, sK_upM, sK_upR, sL_upM, sL_upR, sN_upM, sN_upR, sT_upM, sT_upR, sN_upM, Int.reduceAdd, Int.reduceMul, Int.reduceSub, Int.reduceNeg, Int.zero_add, Int.add_zero, hF.c]) (by simp (disch := omega) only [true_and, and_true, sM_ne, sM_eq, sM_neR, sM_eqR, sK_upM, sK_upR, sL_upM, sL_upR, sN_upM, sN_upR, sT_upM, sT_upR, sN_upM, Int.reduceAdd, Int.reduceMul, Int.reduceSub, Int.reduceNeg, Int.zero_add, Int.add_zero, hF.c]) ?_
            refine rt_gx (x := 86) (by simp (disch := omega) only [true_and, and_true, sM_ne, sM_eq, sM_neR, sM_eqR, sK_upM, sK_upR, sL_upM, sL_upR, sN_upM, sN_upR, sT_upM, sT_upR, sN_upM, Int.reduceAdd, Int.reduceMul, Int.reduceSub, Int.reduceNeg, Int.zero_add, Int.add_zero, hF.c]) (by simp (disch := omega) only [true_and, and_true, sM_ne, sM_eq, sM_neR, sM_eqR, sK_upM, sK_upR, sL_upM, sL_upR, sN_upM, sN_upR, sT_upM, sT_upR, sN_upM, Int.reduceAdd, Int.reduceMul, Int.reduceSub, Int.reduceNeg, Int.zero_add, Int.add_zero, hF.c]) ?_
            refine rt_alx (x := g ((d : Int) - 1)) (by simp (disch := omega) only [true_and, and_true, sM_ne, sM_eq, sM_neR, sM_eqR, sK_upM, sK_upR, sL_upM, sL_upR, sN_upM, sN_upR, sT_upM, sT_upR, sN_upM, Int.reduceAdd, Int.reduceMul, Int.reduceSub, Int.reduceNeg, Int.zero_add, Int.add_zero, hF.c]) (by simp (disch := omega) only [true_and, and_true, sM_ne, sM_eq, sM_neR, sM_eqR, sK_upM, sK_upR, sL_upM, sL_upR, sN_upM, sN_upR, sT_upM, sT_upR, sN_upM, Int.reduceAdd, Int.reduceMul, Int.reduceSub, Int.reduceNeg, Int.zero_add, Int.add_zero, hF.c, ed ()]; omega) (by rw [ed (), hs1 ()]) ?_
            by_cases hg : g ((d : Int) - 1) = 0
            · refine rt_jn (rt_pos hg ?_)
              rw [if_pos hg] at hV
              refine rt_as (by simp (disch := omega) only [true_and, and_true, sM_ne, sM_eq, sM_neR, sM_eqR, sK_upM, sK_upR, sL_upM, sL_upR, sN_upM, sN_upR, sT_upM, sT_upR, sN_upM, Int.reduceAdd, Int.reduceMul, Int.reduceSub, Int.reduceNeg, Int.zero_add, Int.add_zero, hF.c]) (by simp (disch := omega) only [true_and, and_true, sM_ne, sM_eq, sM_neR, sM_eqR, sK_upM, sK_upR, sL_upM, sL_upR, sN_upM, sN_upR, sT_upM, sT_upR, sN_upM, Int.reduceAdd, Int.reduceMul, Int.reduceSub, Int.reduceNeg, Int.zero_add, Int.add_zero, hF.c, ed ()]; omega) ?_
              have := next d ((d : Int) - 1) _ _ hd64 d2 hV (hst' _)
              simp only [ed ()]
              exact this
            · refine rt_jn (rt_neg hg ?_)
              rw [if_neg hg] at hV
              refine rt_as (by simp (disch := omega) only [true_and, and_true, sM_ne, sM_eq, sM_neR, sM_eqR, sK_upM, sK_upR, sL_upM, sL_upR, sN_upM, sN_upR, sT_upM, sT_upR, sN_upM, Int.reduceAdd, Int.reduceMul, Int.reduceSub, Int.reduceNeg, Int.zero_add, Int.add_zero, hF.c]) (by simp (disch := omega) only [true_and, and_true, sM_ne, sM_eq, sM_neR, sM_eqR, sK_upM, sK_upR, sL_upM, sL_upR, sN_upM, sN_upR, sT_upM, sT_upR, sN_upM, Int.reduceAdd, Int.reduceMul, Int.reduceSub, Int.reduceNeg, Int.zero_add, Int.add_zero, hF.c, ed ()]; omega) ?_
              have := next d ((d : Int) - 1) _ _ hd64 d2 hV (hst' _)
              simp only [ed ()]
              exact this
          · have hx14 : x = 10014 := by omega
            subst hx14
            rw [show cv 10014 = 19 from by decide]
            refine rt_jn (rt_jn (rt_neg (by omega) (rt_pos (by omega) (rt_neg (by omega) (rt_pos rfl ?_)))))
            rw [if_neg (by omega)] at hV
            refine rt_gx (x := 86) (by simp (disch := omega) only [true_and, and_true, sM_ne, sM_eq, sM_neR, sM_eqR, sK_upM, sK_upR, sL_upM, sL_upR, sN_upM, sN_upR, sT_upM, sT_upR, sN_upM, Int.reduceAdd, Int.reduceMul, Int.reduceSub, Int.reduceNeg, Int.zero_add, Int.add_zero, hF.c]) (by simp (disch := omega) only [true_and, and_true, sM_ne, sM_eq, sM_neR, sM_eqR, sK_upM, sK_upR, sL_upM, sL_upR, sN_upM, sN_upR, sT_upM, sT_upR, sN_upM, Int.reduceAdd, Int.reduceMul, Int.reduceSub, Int.reduceNeg, Int.zero_add, Int.add_zero, hF.c]) ?_
            refine rt_gx (x := 86) (by simp (disch := omega) only [true_and, and_true, sM_ne, sM_eq, sM_neR, sM_eqR, sK_upM, sK_upR, sL_upM, sL_upR, sN_upM, sN_upR, sT_upM, sT_upR, sN_upM, Int.reduceAdd, Int.reduceMul, Int.reduceSub, Int.reduceNeg, Int.zero_add, Int.add_zero, hF.c]) (by simp (disch := omega) only [true_and, and_true, sM_ne, sM_eq, sM_neR, sM_eqR, sK_upM, sK_upR, sL_upM, sL_upR, sN_upM, sN_upR, sT_upM, sT_upR, sN_upM, Int.reduceAdd, Int.reduceMul, Int.reduceSub, Int.reduceNeg, Int.zero_add, Int.add_zero, hF.c]) ?_
            refine rt_alx (x := g ((d : Int) - 1)) (by simp (disch := omega) only [true_and, and_true, sM_ne, sM_eq, sM_neR, sM_eqR, sK_upM, sK_upR, sL_upM, sL_upR, sN_upM, sN_upR, sT_upM, sT_upR, sN_upM, Int.reduceAdd, Int.reduceMul, Int.reduceSub, Int.reduceNeg, Int.zero_add, Int.add_zero, hF.c]) (by simp (disch := omega) only [true_and, and_true, sM_ne, sM_eq, sM_neR, sM_eqR, sK_upM, sK_upR, sL_upM, sL_upR, sN_upM, sN_upR, sT_upM, sT_upR, sN_upM, Int.reduceAdd, Int.reduceMul, Int.reduceSub, Int.reduceNeg, Int.zero_add, Int.add_zero, hF.c, ed ()]; omega) (by rw [ed (), hs1 ()]) ?_
            refine rt_as (by simp (disch := omega) only [true_and, and_true, sM_ne, sM_eq, sM_neR, sM_eqR, sK_upM, sK_upR, sL_upM, sL_upR, sN_upM, sN_upR, sT_upM, sT_upR, sN_upM, Int.reduceAdd, Int.reduceMul, Int.reduceSub, Int.reduceNeg, Int.zero_add, Int.add_zero, hF.c]) (by simp (disch := omega) only [true_and, and_true, sM_ne, sM_eq, sM_neR, sM_eqR, sK_upM, sK_upR, sL_upM, sL_upR, sN_upM, sN_upR, sT_upM, sT_upR, sN_upM, Int.reduceAdd, Int.reduceMul, Int.reduceSub, Int.reduceNeg, Int.zero_add, Int.add_zero, hF.c, ed ()]; omega) ?_
            have := next d ((d : Int) - 1) _ _ hd64 d2 hV (hst' _)
            simp only [ed ()]
            exact this
theorem f_worth {σ : ZS} (hF : FxD σ) {t pt q0 : Int} {L : Nat} {rw0 f : Int → Int} (hr : sM σ 64 17 = t) (t0 : 0 ≤ t) (t6 : t < 6) (p0 : 0 ≤ pt) (p1 : pt < 2) (hq0 : sM σ 76 (4 * t + pt) = q0) (q00 : 0 ≤ q0) (hq1 : sM σ 76 (4 * t + pt + 1) = q0 + (L : Int)) (q01 : q0 + (L : Int) ≤ 200) (h75 : ∀ j : Int, 0 ≤ j → j < (L : Int) → sM σ 75 (200 * t + (q0 + j)) = cv (rw0 j)) (hdp : dpk 0 (rowL rw0 L) = true) (hf : ∀ j : Int, 0 ≤ j → j < 6 → sM σ 87 j = f j) : Rt (fX12_worth σ 64 pt) (fun v τ => v = evg f (rowL rw0 L) 0 (fun _ => 0) ∧ Ch (fun a _ => a = 86) σ τ) := by
  unfold fX12_worth
  have e4 := hd (show wrap (wrap (4 * t) + pt) = 4 * t + pt by rw [wr (x := 4 * t) (by omega) (by omega), wr (by omega) (by omega)])
  refine rt_gx (x := 76) (by simp (disch := omega) only [true_and, and_true, sM_ne, sM_eq, sM_neR, sM_eqR, sK_upM, sK_upR, sL_upM, sL_upR, sN_upM, sN_upR, sT_upM, sT_upR, sN_upM, Int.reduceAdd, Int.reduceMul, Int.reduceSub, Int.reduceNeg, Int.zero_add, Int.add_zero, hF.c]) (by simp (disch := omega) only [true_and, and_true, sM_ne, sM_eq, sM_neR, sM_eqR, sK_upM, sK_upR, sL_upM, sL_upR, sN_upM, sN_upR, sT_upM, sT_upR, sN_upM, Int.reduceAdd, Int.reduceMul, Int.reduceSub, Int.reduceNeg, Int.zero_add, Int.add_zero, hF.c]) ?_
  refine rt_gx (x := t) (by simp (disch := omega) only [true_and, and_true, sM_ne, sM_eq, sM_neR, sM_eqR, sK_upM, sK_upR, sL_upM, sL_upR, sN_upM, sN_upR, sT_upM, sT_upR, sN_upM, Int.reduceAdd, Int.reduceMul, Int.reduceSub, Int.reduceNeg, Int.zero_add, Int.add_zero, hF.c]) hr ?_
  refine rt_alx (x := q0) (by simp (disch := omega) only [true_and, and_true, sM_ne, sM_eq, sM_neR, sM_eqR, sK_upM, sK_upR, sL_upM, sL_upR, sN_upM, sN_upR, sT_upM, sT_upR, sN_upM, Int.reduceAdd, Int.reduceMul, Int.reduceSub, Int.reduceNeg, Int.zero_add, Int.add_zero, hF.c]) (by simp (disch := omega) only [true_and, and_true, sM_ne, sM_eq, sM_neR, sM_eqR, sK_upM, sK_upR, sL_upM, sL_upR, sN_upM, sN_upR, sT_upM, sT_upR, sN_upM, Int.reduceAdd, Int.reduceMul, Int.reduceSub, Int.reduceNeg, Int.zero_add, Int.add_zero, hF.c, e4 ()]; omega) (by rw [e4 (), hq0]) ?_
  have := l_worth (σ := σ) (V := evg f (rowL rw0 L) 0 (fun _ => 0)) t0 t6 p0 p1 q00 q01 1000 0 0 σ (fun _ => 0) hF Ch.rf hr hq1 h75 hf (by omega) (by omega) (by omega) (by rw [List.drop_zero]; exact hdp) (fun j j0 j1 => by omega) (by rw [List.drop_zero]; rfl)
  rw [show q0 + ((0 : Nat) : Int) = q0 by omega] at this
  exact this
