/-! a gate that sticks: the two ways to the lowest terms -/
def wL64 (x : Int) : Prop := -9223372036854775808 ≤ x ∧ x < 9223372036854775808
theorem wrapL_64 (x : Int) : wL64 (wrapL x) := wrapL_in x
theorem lc0 {a b : Int} : lCmp a b = 0 ↔ a = b := by
  unfold lCmp
  (repeat' split) <;> constructor <;> intro h <;> omega
theorem lc1 {a b : Int} : 0 ≤ lCmp a b ↔ b ≤ a := by
  unfold lCmp
  (repeat' split) <;> constructor <;> intro h <;> omega
theorem stk_skip {a : Int} {K : ZS → Int → Int → Option (Int × ZS)} {N : Nat} {s : ZS} {x D d : Int} {P : Int → ZS → Prop} (h0 : 2 ≤ d) (h1 : d ≤ 10) (hD : D.tmod d ≠ 0) (k : Rt (lX11_sticks_90 a K N s x D (d + 1)) P) : Rt (lX11_sticks_90 a K (N + 1) s x D d) P := by
  have e : wrap (d + 1) = d + 1 := wr (by omega) (by omega)
  rw [lX11_sticks_90]
  refine rt_neg (by omega) (rt_neg (by omega) (rt_jn ?_))
  refine rt_if (fun _ => rt_neg (by omega) (rt_neg (fun q => hD (lc0.mp q)) ?_)) (fun _ => ?_)
  · show Rt (lX11_sticks_90 a K N s x D (wrap (d + 1))) P
    rw [e]; exact k
  · show Rt (lX11_sticks_90 a K N s x D (wrap (d + 1))) P
    rw [e]; exact k
theorem stk_not {a : Int} {K : ZS → Int → Int → Option (Int × ZS)} {N : Nat} {s : ZS} {x D d : Int} {P : Int → ZS → Prop} (h0 : 2 ≤ d) (h1 : d ≤ 10) (hx : x.tmod d ≠ 0) (k : Rt (lX11_sticks_90 a K N s x D (d + 1)) P) : Rt (lX11_sticks_90 a K (N + 1) s x D d) P := by
  have e : wrap (d + 1) = d + 1 := wr (by omega) (by omega)
  rw [lX11_sticks_90]
  refine rt_neg (by omega) (rt_neg (by omega) (rt_jn (rt_neg (fun q => hx (lc0.mp q)) ?_)))
  show Rt (lX11_sticks_90 a K N s x D (wrap (d + 1))) P
  rw [e]; exact k
theorem stk_div {a : Int} {K : ZS → Int → Int → Option (Int × ZS)} {N : Nat} {s : ZS} {x D d y E : Int} {P : Int → ZS → Prop} (h0 : 2 ≤ d) (h1 : d ≤ 10) (hx : x = d * y) (hD : D = d * E) (hy : wL64 y) (hE : wL64 E) (k : Rt (lX11_sticks_90 a K N s y E (d + 1)) P) : Rt (lX11_sticks_90 a K (N + 1) s x D d) P := by
  have e : wrap (d + 1) = d + 1 := wr (by omega) (by omega)
  have ex : wrapL (x.tdiv d) = y := by rw [hx, Int.mul_tdiv_cancel_left y (by omega)]; exact wrapL_id hy
  have eD : wrapL (D.tdiv d) = E := by rw [hD, Int.mul_tdiv_cancel_left E (by omega)]; exact wrapL_id hE
  rw [lX11_sticks_90]
  refine rt_neg (by omega) (rt_neg (by omega) (rt_jn (rt_pos (lc0.mpr (by rw [hx]; exact Int.mul_tmod_right _ _)) (rt_neg (by omega) (rt_pos (lc0.mpr (by rw [hD]; exact Int.mul_tmod_right _ _)) (rt_neg (by omega) (rt_neg (by omega) ?_)))))))
  show Rt (lX11_sticks_90 a K N s (wrapL (x.tdiv d)) (wrapL (D.tdiv d)) (wrap (d + 1))) P
  rw [e, ex, eD]; exact k
theorem stk_end {a : Int} {K : ZS → Int → Int → Option (Int × ZS)} {N : Nat} {s : ZS} {x D : Int} {P : Int → ZS → Prop} (k : Rt (K s x D) P) : Rt (lX11_sticks_90 a K (N + 1) s x D 11) P := by
  rw [lX11_sticks_90]
  exact rt_pos (by omega) k
/-- the greatest divisor of x and ten -/
def g10 (x : Int) : Int := if x % 2 = 0 then (if x % 5 = 0 then 10 else 2) else (if x % 5 = 0 then 5 else 1)
theorem tm_ne {x d : Int} (hd : 0 < d) (h : ¬ x % d = 0) : x.tmod d ≠ 0 := fun q => h (Int.emod_eq_zero_of_dvd (Int.dvd_of_tmod_eq_zero q))
theorem l_sticks {a : Int} {K : ZS → Int → Int → Option (Int × ZS)} {s : ZS} {x : Int} {P : Int → ZS → Prop} (hx : wL64 x) (k : Rt (K s (x.tdiv (g10 x)) (Int.tdiv 10 (g10 x))) P) : Rt (lX11_sticks_90 a K 1000 s x 10 2) P := by
  unfold wL64 at hx
  rw [show (1000 : Nat) = 989 + 1 + 1 + 1 + 1 + 1 + 1 + 1 + 1 + 1 + 1 + 1 from rfl]
  unfold g10 at k
  by_cases h2 : x % 2 = 0
  · obtain ⟨y, hy⟩ : ∃ y, x = 2 * y := ⟨x / 2, by omega⟩
    rw [if_pos h2] at k
    refine stk_div (y := y) (E := 5) (by omega) (by omega) hy (by decide) (by unfold wL64; omega) (by unfold wL64; omega) ?_
    refine stk_skip (by omega) (by omega) (by decide) (stk_skip (by omega) (by omega) (by decide) ?_)
    by_cases h5 : x % 5 = 0
    · obtain ⟨z, hz⟩ : ∃ z, y = 5 * z := ⟨y / 5, by omega⟩
      rw [if_pos h5] at k
      refine stk_div (y := z) (E := 1) (by omega) (by omega) hz (by decide) (by unfold wL64; omega) (by unfold wL64; omega) ?_
      refine stk_skip (by omega) (by omega) (by decide) (stk_skip (by omega) (by omega) (by decide) (stk_skip (by omega) (by omega) (by decide) (stk_skip (by omega) (by omega) (by decide) (stk_skip (by omega) (by omega) (by decide) (stk_end ?_)))))
      have e : x.tdiv 10 = z := by rw [hy, hz, ← Int.mul_assoc]; exact Int.mul_tdiv_cancel_left z (by omega)
      rw [e] at k
      exact k
    · rw [if_neg h5] at k
      refine stk_not (by omega) (by omega) (tm_ne (by omega) (by omega)) ?_
      refine stk_skip (by omega) (by omega) (by decide) (stk_skip (by omega) (by omega) (by decide) (stk_skip (by omega) (by omega) (by decide) (stk_skip (by omega) (by omega) (by decide) (stk_skip (by omega) (by omega) (by decide) (stk_end ?_)))))
      have e : x.tdiv 2 = y := by rw [hy]; exact Int.mul_tdiv_cancel_left y (by omega)
      rw [e] at k
      exact k
  · rw [if_neg h2] at k
    refine stk_not (by omega) (by omega) (tm_ne (by omega) h2) ?_
    refine stk_skip (by omega) (by omega) (by decide) (stk_skip (by omega) (by omega) (by decide) ?_)
    by_cases h5 : x % 5 = 0
    · obtain ⟨z, hz⟩ : ∃ z, x = 5 * z := ⟨x / 5, by omega⟩
      rw [if_pos h5] at k
      refine stk_div (y := z) (E := 2) (by omega) (by omega) hz (by decide) (by unfold wL64; omega) (by unfold wL64; omega) ?_
      refine stk_skip (by omega) (by omega) (by decide) (stk_skip (by omega) (by omega) (by decide) (stk_skip (by omega) (by omega) (by decide) (stk_skip (by omega) (by omega) (by decide) (stk_skip (by omega) (by omega) (by decide) (stk_end ?_)))))
      have e : x.tdiv 5 = z := by rw [hz]; exact Int.mul_tdiv_cancel_left z (by omega)
      rw [e] at k
      exact k
    · rw [if_neg h5] at k
      refine stk_not (by omega) (by omega) (tm_ne (by omega) h5) ?_
      refine stk_skip (by omega) (by omega) (by decide) (stk_skip (by omega) (by omega) (by decide) (stk_skip (by omega) (by omega) (by decide) (stk_skip (by omega) (by omega) (by decide) (stk_not (by omega) (by omega) (tm_ne (by omega) (by omega)) (stk_end ?_)))))
      rw [Int.tdiv_one] at k
      exact k
theorem low_go {u1 u2 u3 : Int} {K : ZS → Int → Option (Int × ZS)} {N : Nat} {s : ZS} {x d : Int} {P : Int → ZS → Prop} (h : d ≠ 0) (k : Rt (lX12_lowest_27 u1 u2 u3 K N s d (x.tmod d)) P) : Rt (lX12_lowest_27 u1 u2 u3 K (N + 1) s x d) P := by
  rw [lX12_lowest_27]
  exact rt_neg (fun q => h (lc0.mp q)) (rt_neg h k)
theorem low_end {u1 u2 u3 : Int} {K : ZS → Int → Option (Int × ZS)} {N : Nat} {s : ZS} {x : Int} {P : Int → ZS → Prop} (k : Rt (K s x) P) : Rt (lX12_lowest_27 u1 u2 u3 K (N + 1) s x 0) P := by
  rw [lX12_lowest_27]
  exact rt_pos (lc0.mpr rfl) k
theorem l_low {u1 u2 u3 : Int} {K : ZS → Int → Option (Int × ZS)} {s : ZS} {x : Int} {P : Int → ZS → Prop} (h : 0 ≤ x) (k : Rt (K s (g10 x)) P) : Rt (lX12_lowest_27 u1 u2 u3 K 1000 s x 10) P := by
  rw [show (1000 : Nat) = 990 + 1 + 1 + 1 + 1 + 1 + 1 + 1 + 1 + 1 + 1 from rfl]
  refine low_go (by omega) ?_
  rw [tmod_n h]
  unfold g10 at k
  rcases (by omega : x % 10 = 0 ∨ x % 10 = 1 ∨ x % 10 = 2 ∨ x % 10 = 3 ∨ x % 10 = 4 ∨ x % 10 = 5 ∨ x % 10 = 6 ∨ x % 10 = 7 ∨ x % 10 = 8 ∨ x % 10 = 9) with e | e | e | e | e | e | e | e | e | e <;> rw [e] <;>
    first
    | (rw [if_pos (show x % 2 = 0 by omega), if_pos (show x % 5 = 0 by omega)] at k
       exact low_end k)
    | (rw [if_pos (show x % 2 = 0 by omega), if_neg (show ¬ x % 5 = 0 by omega)] at k
       repeat (first | exact low_end k | refine low_go (by decide) ?_))
    | (rw [if_neg (show ¬ x % 2 = 0 by omega), if_pos (show x % 5 = 0 by omega)] at k
       repeat (first | exact low_end k | refine low_go (by decide) ?_))
    | (rw [if_neg (show ¬ x % 2 = 0 by omega), if_neg (show ¬ x % 5 = 0 by omega)] at k
       repeat (first | exact low_end k | refine low_go (by decide) ?_))
theorem g10_pos (x : Int) : g10 x = 1 ∨ g10 x = 2 ∨ g10 x = 5 ∨ g10 x = 10 := by
  unfold g10
  (repeat' split) <;> omega
theorem tdiv_abs {x g : Int} (hg : 1 ≤ g) (hx : wL64 x) (hm : g ∣ x) : wL64 (x.tdiv g) := by
  obtain ⟨y, rfl⟩ := hm
  rw [Int.mul_tdiv_cancel_left y (by omega)]
  unfold wL64 at *
  have a1 : 0 ≤ y → y ≤ g * y := fun q => by
    have := Int.mul_le_mul_of_nonneg_right hg q
    omega
  have a2 : y ≤ 0 → g * y ≤ y := fun q => by
    have := Int.mul_le_mul_of_nonneg_right (c := -y) hg (by omega)
    rw [Int.mul_neg, Int.mul_neg] at this
    omega
  by_cases q : 0 ≤ y
  · have := a1 q; omega
  · have := a2 (by omega); omega
theorem g10_dvd (x : Int) : g10 x ∣ x := by
  unfold g10
  (repeat' split) <;> apply Int.dvd_of_emod_eq_zero <;> omega
theorem f_lowest {s : ZS} {x a : Int} (hx : wL64 x) (ha : a = 0 ∨ a = 1) : fX12_lowest s x 10 a = some (if a = 0 then x.tdiv (g10 x) else Int.tdiv 10 (g10 x), s) := by
  refine rt_is ?_
  unfold fX12_lowest
  have hg := g10_pos x
  by_cases h0 : x = 0
  · subst h0
    refine rt_pos (lc0.mpr rfl) (rt_ret ⟨?_, rfl⟩)
    rcases ha with rfl | rfl <;> decide
  · refine rt_neg (fun q => h0 (lc0.mp q)) ?_
    have fin : Rt (if a = 0 then (if g10 x = 0 then none else some (wrapL (x.tdiv (g10 x)), s)) else if g10 x = 0 then none else some (wrapL (Int.tdiv 10 (g10 x)), s)) (fun v τ => v = (if a = 0 then x.tdiv (g10 x) else Int.tdiv 10 (g10 x)) ∧ τ = s) := by
      by_cases q : a = 0
      · refine rt_pos q (rt_neg (by omega) (rt_ret ⟨?_, rfl⟩))
        rw [if_pos q]
        exact wrapL_id (tdiv_abs (by omega) hx (g10_dvd x))
      · refine rt_neg q (rt_neg (by omega) (rt_ret ⟨?_, rfl⟩))
        rw [if_neg q]
        refine wrapL_id ?_
        have : (Int.tdiv 10 (g10 x) = 10 ∨ Int.tdiv 10 (g10 x) = 5 ∨ Int.tdiv 10 (g10 x) = 2 ∨ Int.tdiv 10 (g10 x) = 1) := by
          rcases hg with e | e | e | e <;> rw [e] <;> decide
        unfold zInL
        omega
    refine rt_jn ?_
    by_cases hp : 0 ≤ x
    · refine rt_pos (lc1.mpr hp) ?_
      exact l_low hp fin
    · refine rt_neg (fun q => hp (lc1.mp q)) ?_
      by_cases hmin : x = -9223372036854775808
      · have e : wrapL (-x) = x := by subst hmin; decide
        have eg : g10 x = 2 := by subst hmin; decide
        rw [e]
        show Rt (lX12_lowest_27 x 10 a _ 1000 s x 10) _
        rw [show (1000 : Nat) = 995 + 1 + 1 + 1 + 1 + 1 from rfl]
        refine low_go (by omega) ?_
        rw [show x.tmod 10 = -8 by subst hmin; decide]
        refine low_go (by omega) ?_
        rw [show Int.tmod 10 (-8) = 2 by decide]
        refine low_go (by decide) ?_
        rw [show Int.tmod (-8) 2 = 0 by decide]
        refine low_end ?_
        rw [eg] at fin ⊢
        exact fin
      · unfold wL64 at hx
        have e : wrapL (-x) = -x := wrL (by omega) (by omega)
        rw [e]
        refine l_low (by omega) ?_
        have eg : g10 (-x) = g10 x := by
          unfold g10
          have e2 : (-x) % 2 = 0 ↔ x % 2 = 0 := by omega
          have e5 : (-x) % 5 = 0 ↔ x % 5 = 0 := by omega
          simp only [e2, e5]
        rw [eg]
        exact fin
theorem q_sticks {σ : ZS} (h : Rel σ) (w g t x a : Int) : Rt (fX11_sticks σ 3 w g t x a) (fun y τ => Rt (fX12_sticks τ 64 w g t x a) (fun z ρ => Fin σ y z ρ)) := by
  have hF := h.F
  unfold fX11_sticks
  by_cases hw : 0 ≤ w ∧ w < sM σ 64 8
  · obtain ⟨w0, w1⟩ := hw
    have hn := h.wn w0 w1
    have hV := h.lv w0 w1
    have hC := h.cv
    have hT := h.tv
    have hs := h.sep w0 w1
    refine rt_b (rt_v (by simp (disch := omega) only [true_and, and_true, sM_ne, sM_eq, sM_neR, sM_eqR, sK_upM, sK_upR, sL_upM, sL_upR, sN_upM, sN_upR, sT_upM, sT_upR, sN_upM, Int.reduceAdd, Int.reduceMul, Int.reduceSub, Int.reduceNeg, Int.zero_add, Int.add_zero, hF.c]) (rt_e (f_wayAt1 h w0 w1) ?_))
    refine rt_neg (by omega) (rt_b (rt_e (f_isGate σ g) ?_))
    have bad : ¬ ((0 ≤ g ∧ g < 2) ∧ (0 ≤ t ∧ t < 24)) ∨ ¬ (0 ≤ x ∧ x ≤ 10) ∨ ¬ (0 ≤ a ∧ a ≤ 1) → Rt (fX12_sticks σ 64 w g t x a) (fun z ρ => Fin σ (-4611686018427387904) z ρ) := by
      intro hb
      unfold fX12_sticks
      refine rt_b (rt_v (by simp (disch := omega) only [true_and, and_true, sM_ne, sM_eq, sM_neR, sM_eqR, sK_upM, sK_upR, sL_upM, sL_upR, sN_upM, sN_upR, sT_upM, sT_upR, sN_upM, Int.reduceAdd, Int.reduceMul, Int.reduceSub, Int.reduceNeg, Int.zero_add, Int.add_zero, hF.c]) (rt_e (f_isWay h w) ?_))
      rw [if_pos (show 0 ≤ w ∧ w < sM σ 64 8 from ⟨w0, w1⟩)]
      refine rt_neg (by omega) (rt_b (rt_e (f_isGateM σ g t) ?_))
      by_cases hgt : (0 ≤ g ∧ g < 2) ∧ (0 ≤ t ∧ t < 24)
      · rw [if_pos hgt]
        refine rt_neg (by omega) (rt_b (rt_e (f_in σ x 0 10) ?_))
        by_cases hx : 0 ≤ x ∧ x ≤ 10
        · rw [if_pos hx]
          refine rt_neg (by omega) (rt_b (rt_e (f_in σ a 0 1) ?_))
          rw [if_neg ((hb.resolve_left (fun q => q hgt)).resolve_left (fun q => q hx))]
          exact rt_pos rfl (rt_ret (fin0 h rfl))
        · rw [if_neg hx]
          exact rt_pos rfl (rt_ret (fin0 h rfl))
      · rw [if_neg hgt]
        exact rt_pos rfl (rt_ret (fin0 h rfl))
    by_cases hg : 0 ≤ g ∧ g < 2
    · rw [if_pos hg]
      refine rt_neg (by omega) (rt_b (rt_e (f_isMinute σ t) ?_))
      by_cases ht : 0 ≤ t ∧ t < 24
      · rw [if_pos ht]
        refine rt_neg (by omega) (rt_b (rt_e (f_within σ x 10) ?_))
        by_cases hx : 0 ≤ x ∧ x ≤ 10
        · rw [if_pos hx]
          refine rt_neg (by omega) (rt_b (rt_e (f_within σ a 1) ?_))
          by_cases ha : 0 ≤ a ∧ a ≤ 1
          · rw [if_pos ha]
            refine rt_neg (by omega) (rt_b (rt_v (by simp (disch := omega) only [true_and, and_true, sM_ne, sM_eq, sM_neR, sM_eqR, sK_upM, sK_upR, sL_upM, sL_upR, sN_upM, sN_upR, sT_upM, sT_upR, sN_upM, Int.reduceAdd, Int.reduceMul, Int.reduceSub, Int.reduceNeg, Int.zero_add, Int.add_zero, hF.c]) ?_))
            refine Rt.mono (f_costOfAll hV hC hT) ?_
            rintro v1 τ ⟨e1, hcτ⟩
            have hVτ := hV.ch hcτ
            have hFτ := hVτ.1
            have hsτ : Sep τ (sM σ 33 w) (vT σ) := (hC.alt (tl' := vtl σ) (wi' := vwi σ) hF hn.2.2.2.2.1 hs hcτ (fun a i q => Or.inl q) (hC.ch hF hcτ).1 (hC.ch hF hcτ).2.2.1).2
            refine rt_b (rt_v (by simp (disch := omega) only [true_and, and_true, sM_ne, sM_eq, sM_neR, sM_eqR, sK_upM, sK_upR, sL_upM, sL_upR, sN_upM, sN_upR, sT_upM, sT_upR, sN_upM, Int.reduceAdd, Int.reduceMul, Int.reduceSub, Int.reduceNeg, Int.zero_add, Int.add_zero, hFτ.c]) ?_)
            refine Rt.mono (f_costWithRate hVτ (hC.ch hF hcτ) (hT.ch hF hcτ (by unfold lnS; omega) (fun i => by unfold lnS; omega)) hsτ hg.1 hg.2 ht.1 ht.2 (x := 0) (by omega) (by omega)) ?_
            rintro v2 π ⟨e2, hcπ⟩
            have hsπ : Ch scr σ π := (hcτ.tr hcπ).mono lnS_scr
            have hRπ := h.off hsπ.1
            have hFπ := hRπ.F
            have h8 : sM π 64 8 = sM σ 64 8 := hsπ.M (by have := hF.2.2.2; omega) (by unfold scr; omega)
            have ref : ∀ y : Int, y = (if a = 0 then (wrapL (wrapL (wrap (10 - x) * v1) + wrapL (x * v2))).tdiv (g10 (wrapL (wrapL (wrap (10 - x) * v1) + wrapL (x * v2)))) else Int.tdiv 10 (g10 (wrapL (wrapL (wrap (10 - x) * v1) + wrapL (x * v2))))) → Rt (fX12_sticks π 64 w g t x a) (fun z ρ => Fin σ y z ρ) := by
              intro y hy
              unfold fX12_sticks
              refine rt_b (rt_v (by simp (disch := omega) only [true_and, and_true, sM_ne, sM_eq, sM_neR, sM_eqR, sK_upM, sK_upR, sL_upM, sL_upR, sN_upM, sN_upR, sT_upM, sT_upR, sN_upM, Int.reduceAdd, Int.reduceMul, Int.reduceSub, Int.reduceNeg, Int.zero_add, Int.add_zero, hFπ.c]) (rt_e (f_isWay hRπ w) ?_))
              rw [h8, if_pos (show 0 ≤ w ∧ w < sM σ 64 8 from ⟨w0, w1⟩)]
              clear h8
              refine rt_neg (by omega) (rt_b (rt_e (f_isGateM π g t) ?_))
              rw [if_pos (show (0 ≤ g ∧ g < 2) ∧ (0 ≤ t ∧ t < 24) from ⟨hg, ht⟩)]
              refine rt_neg (by omega) (rt_b (rt_e (f_in π x 0 10) ?_))
              rw [if_pos hx]
              refine rt_neg (by omega) (rt_b (rt_e (f_in π a 0 1) ?_))
              rw [if_pos ha]
              refine rt_neg (by omega) (rt_b (rt_v (by simp (disch := omega) only [true_and, and_true, sM_ne, sM_eq, sM_neR, sM_eqR, sK_upM, sK_upR, sL_upM, sL_upR, sN_upM, sN_upR, sT_upM, sT_upR, sN_upM, Int.reduceAdd, Int.reduceMul, Int.reduceSub, Int.reduceNeg, Int.zero_add, Int.add_zero, hFπ.c]) ?_))
              refine Rt.mono (f_costWith h hsπ (fun a i q => q) w0 w1 hg.1 hg.2 ht.1 ht.2 (x := 0) (by omega) (by omega)) ?_
              rintro v3 ρ ⟨e3, hcρ⟩
              have hFρ := hcρ.Fx hF scr_NF
              refine rt_b (rt_v (by simp (disch := omega) only [true_and, and_true, sM_ne, sM_eq, sM_neR, sM_eqR, sK_upM, sK_upR, sL_upM, sL_upR, sN_upM, sN_upR, sT_upM, sT_upR, sN_upM, Int.reduceAdd, Int.reduceMul, Int.reduceSub, Int.reduceNeg, Int.zero_add, Int.add_zero, hFρ.c]) ?_)
              refine Rt.mono (f_costNowR h hcρ w0 w1) ?_
              rintro v4 θ ⟨e4, hcθ, -⟩
              have e31 : v3 = v2 := by rw [e3, e2]
              have e41 : v4 = v1 := by rw [e4, e1]
              refine rt_b (rt_e (f_lowest (s := θ) (wrapL_64 _) (by omega)) (rt_ret (finC h ?_ hcθ)))
              rw [hy, e31, e41, Int.add_comm (wrapL (x * v2))]
            refine l_sticks (wrapL_64 _) ?_
            by_cases q : a = 0
            · exact rt_pos q (rt_ret (ref _ (by rw [if_pos q])))
            · exact rt_neg q (rt_ret (ref _ (by rw [if_neg q])))
          · rw [if_neg ha]
            exact rt_pos rfl (rt_ret (bad (Or.inr (Or.inr ha))))
        · rw [if_neg hx]
          exact rt_pos rfl (rt_ret (bad (Or.inr (Or.inl hx))))
      · rw [if_neg ht]
        exact rt_pos rfl (rt_ret (bad (Or.inl (fun q => ht q.2))))
    · rw [if_neg hg]
      exact rt_pos rfl (rt_ret (bad (Or.inl (fun q => hg q.1))))
  · refine rt_b (rt_v (by simp (disch := omega) only [true_and, and_true, sM_ne, sM_eq, sM_neR, sM_eqR, sK_upM, sK_upR, sL_upM, sL_upR, sN_upM, sN_upR, sT_upM, sT_upR, sN_upM, Int.reduceAdd, Int.reduceMul, Int.reduceSub, Int.reduceNeg, Int.zero_add, Int.add_zero, hF.c]) (rt_e (f_wayAt0 h hw) ?_))
    refine rt_pos (by omega) (rt_ret ?_)
    unfold fX12_sticks
    refine rt_b (rt_v (by simp (disch := omega) only [true_and, and_true, sM_ne, sM_eq, sM_neR, sM_eqR, sK_upM, sK_upR, sL_upM, sL_upR, sN_upM, sN_upR, sT_upM, sT_upR, sN_upM, Int.reduceAdd, Int.reduceMul, Int.reduceSub, Int.reduceNeg, Int.zero_add, Int.add_zero, hF.c]) (rt_e (f_isWay h w) ?_))
    rw [if_neg hw]
    exact rt_pos rfl (rt_ret (fin0 h rfl))
