/-! the class's line: who passes -/
theorem filt_bits (p : Int → Bool) : ∀ (R : List Int) (n : Nat), R.length ≤ n → ((List.range n).filter (fun j => decide (j < R.length) && p (R.getD j 0))).map (fun j => R.getD j 0) = R.filter p
  | [], n, _ => by simp
  | d :: R, 0, h => by simp at h
  | d :: R, n + 1, h => by
    have ih := filt_bits p R n (by simpa using h)
    have f1 : ((fun j => decide (j < (d :: R).length) && p ((d :: R).getD j 0)) ∘ Nat.succ) = fun j => decide (j < R.length) && p (R.getD j 0) := by funext j; simp
    have f2 : ((fun j => (d :: R).getD j 0) ∘ Nat.succ) = fun j => R.getD j 0 := by funext j; simp
    have e : ((List.map Nat.succ (List.range n)).filter (fun j => decide (j < (d :: R).length) && p ((d :: R).getD j 0))).map (fun j => (d :: R).getD j 0) = R.filter p := by
      rw [List.filter_map, List.map_map, f1, f2, ih]
    rw [List.range_succ_eq_map, List.filter_cons, List.filter_cons]
    have e0 : (decide (0 < (d :: R).length) && p ((d :: R).getD 0 0)) = p d := by simp
    rw [e0]
    by_cases hp : p d = true
    · rw [if_pos hp, if_pos hp, List.map_cons, e]; rfl
    · rw [if_neg hp, if_neg hp, e]
def TB (m : Nat) (R : List Int) (p : Int → Bool) : Prop := ∀ j : Nat, j < 16 → m.testBit j = (decide (j < R.length) && p (R.getD j 0))
def mpR (R : List Int) (m : Nat) : List Int := (bitsL m).map (fun j => R.getD j 0)
theorem TB.list {m : Nat} {R : List Int} {p : Int → Bool} (h : TB m R p) (hR : R.length ≤ 16) : mpR R m = R.filter p := by
  rw [← filt_bits p R 16 hR]
  unfold mpR bitsL
  congr 1
  apply List.filter_congr
  intro j hj
  exact h j (List.mem_range.mp hj)
theorem nd_inj {R : List Int} (h : R.Nodup) {i j : Nat} (hi : i < R.length) (hj : j < R.length) (e : R.getD i 0 = R.getD j 0) : i = j := by
  have hp := List.pairwise_iff_getElem.mp h
  rw [List.getD_eq_getElem?_getD, List.getElem?_eq_getElem hi, List.getD_eq_getElem?_getD, List.getElem?_eq_getElem hj] at e
  have e : R[i] = R[j] := e
  rcases Nat.lt_trichotomy i j with h1 | h1 | h1
  · exact absurd e (hp i j hi hj h1)
  · exact h1
  · exact absurd e.symm (hp j i hj hi h1)
theorem TB.of {m : Nat} {R L : List Int} (hR : R.Nodup) (h : mpR R m = L) (hb : ∀ j ∈ bitsL m, j < R.length) : TB m R (fun c => decide (c ∈ L)) := by
  intro j hj
  by_cases hm : m.testBit j = true
  · have h1 : j ∈ bitsL m := bitsL_mem.mpr ⟨hj, hm⟩
    have h2 : R.getD j 0 ∈ L := by rw [← h]; exact List.mem_map.mpr ⟨j, h1, rfl⟩
    rw [hm]
    simp only [hb j h1, h2, decide_true, Bool.and_self]
  · have hm' : m.testBit j = false := by simpa using hm
    rw [hm']
    by_cases hl : j < R.length
    · have h2 : R.getD j 0 ∉ L := by
        intro q
        rw [← h] at q
        obtain ⟨i, hi, e⟩ := List.mem_map.mp q
        have := nd_inj hR (hb i hi) hl e
        subst this
        exact hm (bitsL_mem.mp hi).2
      simp only [h2, decide_false, Bool.and_false]
    · simp only [hl, decide_false, Bool.false_and]
theorem TB.bnd {m : Nat} {R : List Int} {p : Int → Bool} (h : TB m R p) : ∀ j ∈ bitsL m, j < R.length := by
  intro j hj
  obtain ⟨h1, h2⟩ := bitsL_mem.mp hj
  rw [h j h1] at h2
  simp only [Bool.and_eq_true, decide_eq_true_eq] at h2
  exact h2.1
theorem bits_pow : ∀ l : Nat, l < 16 → (bitsL (2 ^ l - 1)).length = l := by decide +kernel
/-- those who passed, as the class keeps them -/
def Ord (σ : ZS) (l : List Int) : Prop := sM σ 4 4 = (l.length : Int) ∧ ∀ j : Nat, j < l.length → sM σ 20 (j : Int) = l.getD j 0
def lpS (a i : Int) : Prop := a = 19 ∨ a = 20 ∨ (a = 4 ∧ i = 4)
theorem lpS_ln : ∀ a i, lpS a i → lnS a i := by
  intro a i h
  unfold lpS at h
  unfold lnS
  omega
theorem getD_app (l : List Int) (c : Int) (j : Nat) (hj : j < l.length + 1) : (l ++ [c]).getD j 0 = if j < l.length then l.getD j 0 else c := by
  by_cases h : j < l.length
  · rw [if_pos h, List.getD_eq_getElem?_getD, List.getElem?_append_left h, ← List.getD_eq_getElem?_getD]
  · have : j = l.length := by omega
    subst this
    rw [if_neg (by omega), List.getD_eq_getElem?_getD, List.getElem?_append_right (Nat.le_refl _)]
    simp
theorem l_letPass {g t rho : Int} {key : Int → Int} {R : List Int} (g0 : 0 ≤ g) (g1 : g < 2) (t0 : 0 ≤ t) (t1 : t < 24) (r0 : 0 ≤ rho) (r9 : rho ≤ 9) (hR : ∀ c ∈ R, 0 ≤ c ∧ c < 16) (hRl : R.length ≤ 16) :
    ∀ (N m i : Nat) (s : ZS) (l : List Int), FxD s → sM s (7 + g) t = rho → m < 65536 → (∀ j ∈ bitsL m, j < R.length) → (bitsL m).length < N → i ≤ 9 → Lst s g key R → Ord s l → l.length + (bitsL m).length ≤ 16 → Rt (lX2_letPass_6 4 g t N s (m : Int) (i : Int)) (fun v τ => ∃ m' : Nat, v = (m' : Int) ∧ m' < 65536 ∧ bitsL m' = (bitsL m).drop (rho.toNat - i) ∧ Ch lpS s τ ∧ Ord τ (l ++ (mpR R m).take (rho.toNat - i)) ∧ ∀ c : Int, sM τ 19 c = if c ∈ (mpR R m).take (rho.toNat - i) then t else sM s 19 c)
  | 0, m, i, s, l, _, _, _, _, h, _, _, _, _ => by omega
  | N + 1, m, i, s, l, hF, hr, hm, hb, hN, hi, hL, hO, hlen => by
    replace hr := hd hr
    rw [lX2_letPass_6]
    repeat (first
    | with_reducible refine rt_b ?_
    | with_reducible refine rt_jn ?_
    | ((with_reducible refine rt_pos ?_ ?_); (· omega))
    | ((with_reducible refine rt_neg ?_ ?_); (· omega))
    | ((with_reducible refine rt_v ?_ ?_); · simp (disch := omega) only [true_and, and_true, sM_ne, sM_eq, sM_neR, sM_eqR, sK_upM, sK_upR, sL_upM, sL_upR, sN_upM, sN_upR, sT_upM, sT_upR, sN_upM, Int.reduceAdd, Int.reduceMul, Int.reduceSub, Int.reduceNeg, Int.zero_add, Int.add_zero, hF.c, hr ()])
    | ((with_reducible refine rt_g ?_ ?_); (· simp (disch := omega) only [true_and, and_true, sM_ne, sM_eq, sM_neR, sM_eqR, sK_upM, sK_upR, sL_upM, sL_upR, sN_upM, sN_upR, sT_upM, sT_upR, sN_upM, Int.reduceAdd, Int.reduceMul, Int.reduceSub, Int.reduceNeg, Int.zero_add, Int.add_zero, hF.c, hr ()]); (try simp (disch := omega) only [true_and, and_true, sM_ne, sM_eq, sM_neR, sM_eqR, sK_upM, sK_upR, sL_upM, sL_upR, sN_upM, sN_upR, sT_upM, sT_upR, sN_upM, Int.reduceAdd, Int.reduceMul, Int.reduceSub, Int.reduceNeg, Int.zero_add, Int.add_zero, hF.c, hr ()]))
    | ((with_reducible refine rt_al ?_ ?_ ?_); (· simp (disch := omega) only [true_and, and_true, sM_ne, sM_eq, sM_neR, sM_eqR, sK_upM, sK_upR, sL_upM, sL_upR, sN_upM, sN_upR, sT_upM, sT_upR, sN_upM, Int.reduceAdd, Int.reduceMul, Int.reduceSub, Int.reduceNeg, Int.zero_add, Int.add_zero, hF.c, hr ()]); (· first | omega | ((try simp (disch := omega) only [wr, true_and, and_true, sM_ne, sM_eq, sM_neR, sM_eqR, sK_upM, sK_upR, sL_upM, sL_upR, sN_upM, sN_upR, sT_upM, sT_upR, sN_upM, Int.reduceAdd, Int.reduceMul, Int.reduceSub, Int.reduceNeg, Int.zero_add, Int.add_zero, hF.c, hr ()]) <;> omega)); (try simp (disch := omega) only [true_and, and_true, sM_ne, sM_eq, sM_neR, sM_eqR, sK_upM, sK_upR, sL_upM, sL_upR, sN_upM, sN_upR, sT_upM, sT_upR, sN_upM, Int.reduceAdd, Int.reduceMul, Int.reduceSub, Int.reduceNeg, Int.zero_add, Int.add_zero, hF.c, hr ()]))
    | ((with_reducible refine rt_as ?_ ?_ ?_); (· simp (disch := omega) only [true_and, and_true, sM_ne, sM_eq, sM_neR, sM_eqR, sK_upM, sK_upR, sL_upM, sL_upR, sN_upM, sN_upR, sT_upM, sT_upR, sN_upM, Int.reduceAdd, Int.reduceMul, Int.reduceSub, Int.reduceNeg, Int.zero_add, Int.add_zero, hF.c, hr ()]); (· first | omega | ((try simp (disch := omega) only [wr, true_and, and_true, sM_ne, sM_eq, sM_neR, sM_eqR, sK_upM, sK_upR, sL_upM, sL_upR, sN_upM, sN_upR, sT_upM, sT_upR, sN_upM, Int.reduceAdd, Int.reduceMul, Int.reduceSub, Int.reduceNeg, Int.zero_add, Int.add_zero, hF.c, hr ()]) <;> omega)))
    | ((with_reducible refine rt_p ?_ ?_ ?_); (· simp (disch := omega) only [true_and, and_true, sM_ne, sM_eq, sM_neR, sM_eqR, sK_upM, sK_upR, sL_upM, sL_upR, sN_upM, sN_upR, sT_upM, sT_upR, sN_upM, Int.reduceAdd, Int.reduceMul, Int.reduceSub, Int.reduceNeg, Int.zero_add, Int.add_zero, hF.c, hr ()]); (· omega))
    | with_reducible refine rt_ret ?_
    | ((with_reducible refine rt_gw ?_ ?_); (· assumption); (try simp (disch := omega) only [true_and, and_true, sM_ne, sM_eq, sM_neR, sM_eqR, sK_upM, sK_upR, sL_upM, sL_upR, sN_upM, sN_upR, sT_upM, sT_upR, sN_upM, Int.reduceAdd, Int.reduceMul, Int.reduceSub, Int.reduceNeg, Int.zero_add, Int.add_zero, hF.c, hr ()])))
    by_cases he : rho ≤ (i : Int)
    · refine rt_pos he (rt_ret ⟨m, rfl, hm, ?_, Ch.rf, ?_, fun c => ?_⟩)
      · rw [show rho.toNat - i = 0 by omega]; rfl
      · rw [show rho.toNat - i = 0 by omega, List.take_zero, List.append_nil]; exact hO
      · rw [show rho.toNat - i = 0 by omega, List.take_zero, if_neg (by simp)]
    · refine rt_neg he ?_
      by_cases hz : m = 0
      · subst hz
        refine rt_pos rfl (rt_ret ⟨0, rfl, hm, ?_, Ch.rf, ?_, fun c => ?_⟩)
        · rw [bitsL_nil, List.drop_nil]
        · unfold mpR; rw [bitsL_nil, List.map_nil, List.take_nil, List.append_nil]; exact hO
        · unfold mpR; rw [bitsL_nil, List.map_nil, List.take_nil, if_neg (by simp)]
      · refine rt_neg (by omega) ?_
        obtain ⟨a1, a2, -, -, -⟩ := low_facts hm hz
        have hcons := bitsL_cons hm hz
        have hlow : low 16 m < R.length := hb _ (by rw [hcons]; exact List.mem_cons_self)
        have e1 := hd (show wrap (iAnd (m : Int) (wrap (-(m : Int))) - 1) = ((2 ^ low 16 m - 1 : Nat) : Int) by
          rw [iAnd_neg (by omega) hm, a2]
          have h1 : 1 ≤ 2 ^ low 16 m := Nat.one_le_two_pow
          have h2 : 2 ^ low 16 m ≤ 2 ^ 15 := Nat.pow_le_pow_right (by decide) (by omega)
          rw [wr (by omega) (by omega)]
          omega)
        have e2 := hd (iAnd_pred hm)
        have hlt : 2 ^ low 16 m - 1 < 65536 := by
          have h2 : 2 ^ low 16 m ≤ 2 ^ 15 := Nat.pow_le_pow_right (by decide) (by omega)
          omega
        have e22 := hd (hL.1 _ hlow).1
        have hmem : R.getD (low 16 m) 0 ∈ R := by rw [List.getD_eq_getElem?_getD, List.getElem?_eq_getElem hlow]; exact List.getElem_mem hlow
        obtain ⟨c0, c1⟩ := hR _ hmem
        obtain ⟨o1, o2⟩ := hO
        replace o1 := hd o1
        have hl2 : (bitsL m).length = (bitsL (m &&& (m - 1))).length + 1 := by rw [hcons, List.length_cons]
        repeat (first
    | with_reducible refine rt_b ?_
    | with_reducible refine rt_jn ?_
    | ((with_reducible refine rt_pos ?_ ?_); (· omega))
    | ((with_reducible refine rt_neg ?_ ?_); (· omega))
    | ((with_reducible refine rt_v ?_ ?_); · simp (disch := omega) only [true_and, and_true, sM_ne, sM_eq, sM_neR, sM_eqR, sK_upM, sK_upR, sL_upM, sL_upR, sN_upM, sN_upR, sT_upM, sT_upR, sN_upM, Int.reduceAdd, Int.reduceMul, Int.reduceSub, Int.reduceNeg, Int.zero_add, Int.add_zero, hF.c, hr ()])
    | ((with_reducible refine rt_g ?_ ?_); (· simp (disch := omega) only [true_and, and_true, sM_ne, sM_eq, sM_neR, sM_eqR, sK_upM, sK_upR, sL_upM, sL_upR, sN_upM, sN_upR, sT_upM, sT_upR, sN_upM, Int.reduceAdd, Int.reduceMul, Int.reduceSub, Int.reduceNeg, Int.zero_add, Int.add_zero, hF.c, hr ()]); (try simp (disch := omega) only [true_and, and_true, sM_ne, sM_eq, sM_neR, sM_eqR, sK_upM, sK_upR, sL_upM, sL_upR, sN_upM, sN_upR, sT_upM, sT_upR, sN_upM, Int.reduceAdd, Int.reduceMul, Int.reduceSub, Int.reduceNeg, Int.zero_add, Int.add_zero, hF.c, hr ()]))
    | ((with_reducible refine rt_al ?_ ?_ ?_); (· simp (disch := omega) only [true_and, and_true, sM_ne, sM_eq, sM_neR, sM_eqR, sK_upM, sK_upR, sL_upM, sL_upR, sN_upM, sN_upR, sT_upM, sT_upR, sN_upM, Int.reduceAdd, Int.reduceMul, Int.reduceSub, Int.reduceNeg, Int.zero_add, Int.add_zero, hF.c, hr ()]); (· first | omega | ((try simp (disch := omega) only [wr, true_and, and_true, sM_ne, sM_eq, sM_neR, sM_eqR, sK_upM, sK_upR, sL_upM, sL_upR, sN_upM, sN_upR, sT_upM, sT_upR, sN_upM, Int.reduceAdd, Int.reduceMul, Int.reduceSub, Int.reduceNeg, Int.zero_add, Int.add_zero, hF.c, hr ()]) <;> omega)); (try simp (disch := omega) only [true_and, and_true, sM_ne, sM_eq, sM_neR, sM_eqR, sK_upM, sK_upR, sL_upM, sL_upR, sN_upM, sN_upR, sT_upM, sT_upR, sN_upM, Int.reduceAdd, Int.reduceMul, Int.reduceSub, Int.reduceNeg, Int.zero_add, Int.add_zero, hF.c, hr ()]))
    | ((with_reducible refine rt_as ?_ ?_ ?_); (· simp (disch := omega) only [true_and, and_true, sM_ne, sM_eq, sM_neR, sM_eqR, sK_upM, sK_upR, sL_upM, sL_upR, sN_upM, sN_upR, sT_upM, sT_upR, sN_upM, Int.reduceAdd, Int.reduceMul, Int.reduceSub, Int.reduceNeg, Int.zero_add, Int.add_zero, hF.c, hr ()]); (· first | omega | ((try simp (disch := omega) only [wr, true_and, and_true, sM_ne, sM_eq, sM_neR, sM_eqR, sK_upM, sK_upR, sL_upM, sL_upR, sN_upM, sN_upR, sT_upM, sT_upR, sN_upM, Int.reduceAdd, Int.reduceMul, Int.reduceSub, Int.reduceNeg, Int.zero_add, Int.add_zero, hF.c, hr ()]) <;> omega)))
    | ((with_reducible refine rt_p ?_ ?_ ?_); (· simp (disch := omega) only [true_and, and_true, sM_ne, sM_eq, sM_neR, sM_eqR, sK_upM, sK_upR, sL_upM, sL_upR, sN_upM, sN_upR, sT_upM, sT_upR, sN_upM, Int.reduceAdd, Int.reduceMul, Int.reduceSub, Int.reduceNeg, Int.zero_add, Int.add_zero, hF.c, hr ()]); (· omega))
    | with_reducible refine rt_ret ?_
    | ((with_reducible refine rt_gw ?_ ?_); (· assumption); (try simp (disch := omega) only [true_and, and_true, sM_ne, sM_eq, sM_neR, sM_eqR, sK_upM, sK_upR, sL_upM, sL_upR, sN_upM, sN_upR, sT_upM, sT_upR, sN_upM, Int.reduceAdd, Int.reduceMul, Int.reduceSub, Int.reduceNeg, Int.zero_add, Int.add_zero, hF.c, hr ()])))
        rw [e1 ()]
        refine rt_e (f_bitCount s hlt) ?_
        rw [bits_pow _ a1]
        repeat (first
    | with_reducible refine rt_b ?_
    | with_reducible refine rt_jn ?_
    | ((with_reducible refine rt_pos ?_ ?_); (· omega))
    | ((with_reducible refine rt_neg ?_ ?_); (· omega))
    | ((with_reducible refine rt_v ?_ ?_); · simp (disch := omega) only [true_and, and_true, sM_ne, sM_eq, sM_neR, sM_eqR, sK_upM, sK_upR, sL_upM, sL_upR, sN_upM, sN_upR, sT_upM, sT_upR, sN_upM, Int.reduceAdd, Int.reduceMul, Int.reduceSub, Int.reduceNeg, Int.zero_add, Int.add_zero, hF.c, hr (), e22 (), o1 ()])
    | ((with_reducible refine rt_g ?_ ?_); (· simp (disch := omega) only [true_and, and_true, sM_ne, sM_eq, sM_neR, sM_eqR, sK_upM, sK_upR, sL_upM, sL_upR, sN_upM, sN_upR, sT_upM, sT_upR, sN_upM, Int.reduceAdd, Int.reduceMul, Int.reduceSub, Int.reduceNeg, Int.zero_add, Int.add_zero, hF.c, hr (), e22 (), o1 ()]); (try simp (disch := omega) only [true_and, and_true, sM_ne, sM_eq, sM_neR, sM_eqR, sK_upM, sK_upR, sL_upM, sL_upR, sN_upM, sN_upR, sT_upM, sT_upR, sN_upM, Int.reduceAdd, Int.reduceMul, Int.reduceSub, Int.reduceNeg, Int.zero_add, Int.add_zero, hF.c, hr (), e22 (), o1 ()]))
    | ((with_reducible refine rt_al ?_ ?_ ?_); (· simp (disch := omega) only [true_and, and_true, sM_ne, sM_eq, sM_neR, sM_eqR, sK_upM, sK_upR, sL_upM, sL_upR, sN_upM, sN_upR, sT_upM, sT_upR, sN_upM, Int.reduceAdd, Int.reduceMul, Int.reduceSub, Int.reduceNeg, Int.zero_add, Int.add_zero, hF.c, hr (), e22 (), o1 ()]); (· first | omega | ((try simp (disch := omega) only [wr, true_and, and_true, sM_ne, sM_eq, sM_neR, sM_eqR, sK_upM, sK_upR, sL_upM, sL_upR, sN_upM, sN_upR, sT_upM, sT_upR, sN_upM, Int.reduceAdd, Int.reduceMul, Int.reduceSub, Int.reduceNeg, Int.zero_add, Int.add_zero, hF.c, hr (), e22 (), o1 ()]) <;> omega)); (try simp (disch := omega) only [true_and, and_true, sM_ne, sM_eq, sM_neR, sM_eqR, sK_upM, sK_upR, sL_upM, sL_upR, sN_upM, sN_upR, sT_upM, sT_upR, sN_upM, Int.reduceAdd, Int.reduceMul, Int.reduceSub, Int.reduceNeg, Int.zero_add, Int.add_zero, hF.c, hr (), e22 (), o1 ()]))
    | ((with_reducible refine rt_as ?_ ?_ ?_); (· simp (disch := omega) only [true_and, and_true, sM_ne, sM_eq, sM_neR, sM_eqR, sK_upM, sK_upR, sL_upM, sL_upR, sN_upM, sN_upR, sT_upM, sT_upR, sN_upM, Int.reduceAdd, Int.reduceMul, Int.reduceSub, Int.reduceNeg, Int.zero_add, Int.add_zero, hF.c, hr (), e22 (), o1 ()]); (· first | omega | ((try simp (disch := omega) only [wr, true_and, and_true, sM_ne, sM_eq, sM_neR, sM_eqR, sK_upM, sK_upR, sL_upM, sL_upR, sN_upM, sN_upR, sT_upM, sT_upR, sN_upM, Int.reduceAdd, Int.reduceMul, Int.reduceSub, Int.reduceNeg, Int.zero_add, Int.add_zero, hF.c, hr (), e22 (), o1 ()]) <;> omega)))
    | ((with_reducible refine rt_p ?_ ?_ ?_); (· simp (disch := omega) only [true_and, and_true, sM_ne, sM_eq, sM_neR, sM_eqR, sK_upM, sK_upR, sL_upM, sL_upR, sN_upM, sN_upR, sT_upM, sT_upR, sN_upM, Int.reduceAdd, Int.reduceMul, Int.reduceSub, Int.reduceNeg, Int.zero_add, Int.add_zero, hF.c, hr (), e22 (), o1 ()]); (· omega))
    | with_reducible refine rt_ret ?_
    | ((with_reducible refine rt_gw ?_ ?_); (· assumption); (try simp (disch := omega) only [true_and, and_true, sM_ne, sM_eq, sM_neR, sM_eqR, sK_upM, sK_upR, sL_upM, sL_upR, sN_upM, sN_upR, sT_upM, sT_upR, sN_upM, Int.reduceAdd, Int.reduceMul, Int.reduceSub, Int.reduceNeg, Int.zero_add, Int.add_zero, hF.c, hr (), e22 (), o1 ()])))
        rw [e2 (), wr1 i (by omega)]
        generalize hc : R.getD (low 16 m) 0 = c at *
        have hC : Ch lpS s (upM (upM (upM s 19 c t) 20 (l.length : Int) c) 4 4 (wrap ((l.length : Int) + 1))) := ((Ch.rf.up (Or.inl rfl)).up (Or.inr (Or.inl rfl))).up (Or.inr (Or.inr ⟨rfl, rfl⟩))
        have hF' := hC.Fx hF (fun a i q => lnS_NF a i (lpS_ln a i q))
        have hb' : ∀ j ∈ bitsL (m &&& (m - 1)), j < R.length := fun j hj => hb j (by rw [hcons]; exact List.mem_cons_of_mem _ hj)
        have hmp : mpR R m = c :: mpR R (m &&& (m - 1)) := by unfold mpR; rw [hcons, List.map_cons, hc]
        have hk : rho.toNat - i = rho.toNat - (i + 1) + 1 := by omega
        refine (l_letPass (key := key) g0 g1 t0 t1 r0 r9 hR hRl N (m &&& (m - 1)) (i + 1) _ (l ++ [c]) hF' ?_ (and_pred_lt hm) hb' (by omega) (by omega) ?_ ⟨?_, fun j hj => ?_⟩ ?_).mono ?_
        · rw [sM_ne (by omega), sM_ne (by omega), sM_ne (by omega)]; exact hr ()
        · exact hL.ch hF g0 g1 hC (fun i => by unfold lpS; omega) (fun i => by unfold lpS; omega) (by unfold lpS; omega)
        · rw [sM_eq ⟨rfl, rfl⟩, wr1 _ (by omega), List.length_append]; rfl
        · rw [List.length_append, List.length_singleton] at hj
          rw [getD_app l c j hj, sM_ne (by omega)]
          by_cases hjl : j < l.length
          · rw [if_pos hjl, sM_ne (by omega), sM_ne (by omega)]; exact o2 j hjl
          · have : j = l.length := by omega
            subst this
            rw [if_neg hjl, sM_eq ⟨rfl, rfl⟩]
        · rw [List.length_append, List.length_singleton]; omega
        · rintro v τ ⟨m', b1, b2, b3, b4, b5, b6⟩
          refine ⟨m', b1, b2, ?_, hC.tr b4, ?_, fun x => ?_⟩
          · rw [b3, hcons, hk, List.drop_succ_cons]
          · rw [hmp, hk, List.take_succ_cons]
            rw [List.append_assoc] at b5
            exact b5
          · rw [b6 x, hmp, hk, List.take_succ_cons]
            by_cases e : x ∈ (mpR R (m &&& (m - 1))).take (rho.toNat - (i + 1))
            · rw [if_pos e, if_pos (List.mem_cons_of_mem _ e)]
            · rw [if_neg e, sM_ne (by omega), sM_ne (by omega)]
              by_cases e2 : x = c
              · subst e2
                rw [sM_eq ⟨rfl, rfl⟩, if_pos List.mem_cons_self]
              · rw [sM_ne (Or.inr e2), if_neg (fun q => (List.mem_cons.mp q).elim e2 e)]
