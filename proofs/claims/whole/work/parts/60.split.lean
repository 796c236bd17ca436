/-! two choices for all -/
def dvF (x y j : Int) : Int → Int := fun c => if j ≤ c then y else x
def mixF (c : Int) (f g : Int → Int) : Int → Int := fun i => if i < c then f i else g i
/-- the first of the least -/
def bsF (f : Nat → Int) : Nat → Int × Int
  | 0 => (0, f 0)
  | j + 1 => if (bsF f j).2 ≤ f (j + 1) then bsF f j else (((j + 1 : Nat) : Int), f (j + 1))
def cpF (σ : ZS) (W : Int) : Int → Int := fun k => if 0 ≤ k ∧ k < 0 + 16 then sM σ (W + 1) (0 + (k - 0)) else sM σ 54 k
theorem l_div3 {W n k x y j : Int} {ch so : Int → Int} {ln rt : Int → Int → Int} (x0 : 0 ≤ x) (x1 : x ≤ 48) (y0 : 0 ≤ y) (y1 : y ≤ 48) :
    ∀ (N c : Nat) (s : ZS), LV s W n k (mixF (c : Int) (dvF x y j) ch) so ln rt → (c : Int) ≤ n → n - (c : Int) < (N : Int) → Rt (lX10_divide_3 W j x y N s (c : Int)) (fun _ τ => Ch (mvS W n) s τ ∧ LV τ W n k (dvF x y j) so ln rt)
  | 0, c, s, _, h1, h2 => by omega
  | N + 1, c, s, hV, h1, h2 => by
    have hV0 := hV
    obtain ⟨hF, ⟨w1, w2⟩, ⟨k0, k5, kk⟩, ⟨n1, n2, n3⟩, p1, ⟨q1, q2⟩, a1, -⟩ := hV
    have hw : wkn s W := wk_w kk k0 k5
    replace n1 := hd n1
    replace p1 := hd p1
    replace q1 := hd q1
    replace q2 := hd q2
    have dvin : ∀ i : Int, 0 ≤ dvF x y j i ∧ dvF x y j i ≤ 48 := fun i => by unfold dvF; split <;> omega
    rw [lX10_divide_3]
    refine rt_gwx hw (n1 ()) ?_
    by_cases he : n ≤ (c : Int)
    · refine rt_pos he (rt_ret ⟨Ch.rf, hV0.chs Ch.rf (fun a i q => Or.inl q) (fun i i0 i1 => ?_)⟩)
      have := (a1 i i0 i1).1
      unfold mixF at this
      rw [if_pos (by omega)] at this
      exact ⟨this, dvin i⟩
    · refine rt_neg he (rt_gwx hw (p1 ()) ?_)
      have step : ∀ v : Int, v = dvF x y j (c : Int) → Rt ((zas s 100 (W + 1) (c : Int) v).bind (fun s13 => lX10_divide_3 W j x y N s13 (wrap ((c : Int) + 1)))) (fun _ τ => Ch (mvS W n) s τ ∧ LV τ W n k (dvF x y j) so ln rt) := by
        intro v hv
        refine rt_as (q1 ()) (by rw [q2 ()]; omega) ?_
        rw [wr1 c (by omega)]
        have hc2 : Ch (mvS W n) s (upM s (W + 1) (c : Int) v) := Ch.rf.up (Or.inr ⟨rfl, by omega, by omega⟩)
        refine (l_div3 (ch := ch) x0 x1 y0 y1 N (c + 1) _ (hV0.chs hc2 (fun a i q => by unfold mvS lnS at q; unfold lnS; omega) (fun i i0 i1 => ?_)) (by omega) (by omega)).mono (fun v τ q => ⟨hc2.tr q.1, q.2⟩)
        by_cases e : i = (c : Int)
        · subst e
          unfold mixF
          rw [sM_eq ⟨rfl, rfl⟩, if_pos (by omega), hv]
          exact ⟨rfl, dvin _⟩
        · rw [sM_ne (Or.inr e)]
          have := a1 i i0 i1
          unfold mixF at this ⊢
          by_cases q : i < (c : Int)
          · rw [if_pos q] at this
            rw [if_pos (by omega)]
            exact this
          · rw [if_neg q] at this
            rw [if_neg (by omega)]
            exact this
      by_cases hj : j ≤ (c : Int)
      · exact rt_jn (rt_pos hj (step y (by unfold dvF; rw [if_pos hj])))
      · exact rt_jn (rt_neg hj (step x (by unfold dvF; rw [if_neg hj])))
theorem f_divide {W n k x y j : Int} {ch so : Int → Int} {ln rt : Int → Int → Int} {s : ZS} (hV : LV s W n k ch so ln rt) (x0 : 0 ≤ x) (x1 : x ≤ 48) (y0 : 0 ≤ y) (y1 : y ≤ 48) : Rt (zw s W (fX10_divide s W j x y) (fX10_divide s W j x y) (fX10_divide s W j x y) (fX10_divide s W j x y) (fX10_divide s W j x y) (fX10_divide s W j x y)) (fun _ τ => Ch (mvS W n) s τ ∧ LV τ W n k (dvF x y j) so ln rt) := by
  have hw : wkn s W := wk_w hV.2.2.1.2.2 hV.2.2.1.1 hV.2.2.1.2.1
  have hn := hV.2.2.2.1.2
  refine rt_w1 hw ?_
  unfold fX10_divide
  refine l_div3 (ch := ch) x0 x1 y0 y1 1000 0 s (hV.chs Ch.rf (fun a i q => Or.inl q) (fun i i0 i1 => ?_)) (by omega) (by omega)
  unfold mixF
  rw [if_neg (by omega)]
  exact hV.2.2.2.2.2.2.1 i i0 i1
theorem l_sp81 {σ : ZS} {W n k T x y a : Int} {so : Int → Int} {ln rt tl : Int → Int → Int} {st wi : Int → Int} {cs ls : List Int} {K : ZS → Int → Int → Option (Int × ZS)} {P : Int → ZS → Prop} {f : Nat → Int} (x0 : 0 ≤ x) (x1 : x ≤ 48) (y0 : 0 ≤ y) (y1 : y ≤ 48) (hf : ∀ j : Nat, f j = sumF (cstF n k (dvF x y (j : Int)) so ln rt tl st wi cs) n.toNat)
    (hK : ∀ (τ : ZS) (ch : Int → Int), LV τ W n k ch so ln rt → Ch (mvS W n) σ τ → Rt (K τ (bsF f n.toNat).1 (bsF f n.toNat).2) P) :
    ∀ (N j : Nat) (s : ZS) (ch : Int → Int), LV s W n k ch so ln rt → CV s T tl st wi cs ls → TV s T → Sep s W T → Ch (mvS W n) σ s → (j : Int) ≤ n → n - (j : Int) < (N : Int) → Rt (lX11_split_81 3 x y a W K N s (bsF f j).1 (bsF f j).2 ((j + 1 : Nat) : Int)) P
  | 0, j, s, ch, _, _, _, _, _, h1, h2 => by omega
  | N + 1, j, s, ch, hV, hC, hT, hs, hc, h1, h2 => by
    have hF := hV.1
    have hw : wkn s W := wk_w hV.2.2.1.2.2 hV.2.2.1.1 hV.2.2.1.2.1
    have hn := hV.2.2.2.1.2
    have n1 := hd hV.2.2.2.1.1
    rw [lX11_split_81]
    refine rt_gwx hw (n1 ()) ?_
    by_cases he : n < ((j + 1 : Nat) : Int)
    · refine rt_pos he ?_
      have := hK s ch hV hc
      rw [show n.toNat = j by omega] at this
      exact this
    · refine rt_neg he ?_
      refine rt_b (Rt.mono (f_divide (j := ((j + 1 : Nat) : Int)) hV x0 x1 y0 y1) ?_)
      rintro v1 τ ⟨hcτ, hVτ⟩
      have hFτ := hVτ.1
      obtain ⟨hCτ, hTτ, hsτ⟩ := keepC hV hC hT hs hcτ (fun a i q => by unfold mvS lnS at q; unfold lnS; omega)
      refine rt_b (rt_v (by simp (disch := omega) only [true_and, and_true, sM_ne, sM_eq, sM_neR, sM_eqR, sK_upM, sK_upR, sL_upM, sL_upR, sN_upM, sN_upR, sT_upM, sT_upR, sN_upM, Int.reduceAdd, Int.reduceMul, Int.reduceSub, Int.reduceNeg, Int.zero_add, Int.add_zero, hFτ.c]) ?_)
      refine Rt.mono (f_costOfAll hVτ hCτ hTτ) ?_
      rintro v2 ρ ⟨e2, hcρ⟩
      have hVρ := hVτ.ch hcρ
      obtain ⟨hCρ, hTρ, hsρ⟩ := keepC hVτ hCτ hTτ hsτ hcρ (fun a i q => Or.inl q)
      have hcall : Ch (mvS W n) σ ρ := (hc.tr hcτ).tr (hcρ.mono (fun a i q => Or.inl q))
      have ef : v2 = f (j + 1) := by rw [hf, e2]
      have hb : bsF f (j + 1) = if (bsF f j).2 ≤ f (j + 1) then bsF f j else (((j + 1 : Nat) : Int), f (j + 1)) := rfl
      have next := l_sp81 (a := a) x0 x1 y0 y1 hf hK N (j + 1) ρ _ hVρ hCρ hTρ hsρ hcall (by omega) (by omega)
      by_cases hle : (bsF f j).2 ≤ v2
      · refine rt_jn (rt_pos (lc1.mpr hle) ?_)
        show Rt (lX11_split_81 3 x y a W K N ρ (bsF f j).1 (bsF f j).2 (wrap (((j + 1 : Nat) : Int) + 1))) P
        rw [wr1 (j + 1) (by omega)]
        rw [hb, if_pos (by rw [← ef]; exact hle)] at next
        exact next
      · refine rt_jn (rt_neg (fun q => hle (lc1.mp q)) ?_)
        show Rt (lX11_split_81 3 x y a W K N ρ ((j + 1 : Nat) : Int) v2 (wrap (((j + 1 : Nat) : Int) + 1))) P
        rw [wr1 (j + 1) (by omega), ef]
        rw [hb, if_neg (by rw [← ef]; exact hle)] at next
        exact next
/-! the reference -/
theorem l_sp59 {u8 : Int} {w n x y a b1 b2 j : Int} {K : ZS → Option (Int × ZS)} {P : Int → ZS → Prop} {σ : ZS} (hw : 0 ≤ w ∧ w < 8) (hn : 0 ≤ n ∧ n ≤ 16) (hu : u8 = j)
    (hK : ∀ τ : ZS, FxD τ → Ch (fun b _ => b = 88) σ τ → (∀ i : Int, 0 ≤ i → i < n → sM τ 88 i = dvF x y j i) → Rt (K τ) P) :
    ∀ (N c : Nat) (s : ZS), FxD s → sM s 72 w = n → (c : Int) ≤ n → n - (c : Int) < (N : Int) → Ch (fun b _ => b = 88) σ s → (∀ i : Int, 0 ≤ i → i < (c : Int) → sM s 88 i = dvF x y j i) → Rt (lX12_split_59 64 w x y a b1 b2 u8 K N s (c : Int)) P
  | 0, c, s, _, _, h1, h2, _, _ => by omega
  | N + 1, c, s, hF, hnn, h1, h2, hc, hz => by
    replace hnn := hd hnn
    rw [lX12_split_59]
    repeat (first
    | with_reducible refine rt_b ?_
    | with_reducible refine rt_jn ?_
    | ((with_reducible refine rt_pos ?_ ?_); (· first | omega | ((try simp (disch := omega) only [wr, true_and, and_true, sM_ne, sM_eq, sM_neR, sM_eqR, sK_upM, sK_upR, sL_upM, sL_upR, sN_upM, sN_upR, sT_upM, sT_upR, sN_upM, Int.reduceAdd, Int.reduceMul, Int.reduceSub, Int.reduceNeg, Int.zero_add, Int.add_zero, hF.c, hnn ()]) <;> omega)))
    | ((with_reducible refine rt_neg ?_ ?_); (· first | omega | ((try simp (disch := omega) only [wr, true_and, and_true, sM_ne, sM_eq, sM_neR, sM_eqR, sK_upM, sK_upR, sL_upM, sL_upR, sN_upM, sN_upR, sT_upM, sT_upR, sN_upM, Int.reduceAdd, Int.reduceMul, Int.reduceSub, Int.reduceNeg, Int.zero_add, Int.add_zero, hF.c, hnn ()]) <;> omega)))
    | ((with_reducible refine rt_v ?_ ?_); · simp (disch := omega) only [true_and, and_true, sM_ne, sM_eq, sM_neR, sM_eqR, sK_upM, sK_upR, sL_upM, sL_upR, sN_upM, sN_upR, sT_upM, sT_upR, sN_upM, Int.reduceAdd, Int.reduceMul, Int.reduceSub, Int.reduceNeg, Int.zero_add, Int.add_zero, hF.c, hnn ()])
    | ((with_reducible apply rt_gx); (· simp (disch := omega) only [true_and, and_true, sM_ne, sM_eq, sM_neR, sM_eqR, sK_upM, sK_upR, sL_upM, sL_upR, sN_upM, sN_upR, sT_upM, sT_upR, sN_upM, Int.reduceAdd, Int.reduceMul, Int.reduceSub, Int.reduceNeg, Int.zero_add, Int.add_zero, hF.c, hnn ()]); (· (try simp (disch := omega) only [wr, true_and, and_true, sM_ne, sM_eq, sM_neR, sM_eqR, sK_upM, sK_upR, sL_upM, sL_upR, sN_upM, sN_upR, sT_upM, sT_upR, sN_upM, Int.reduceAdd, Int.reduceMul, Int.reduceSub, Int.reduceNeg, Int.zero_add, Int.add_zero, hF.c, hnn ()]); exact rfl))
    | ((with_reducible apply rt_alx); (· simp (disch := omega) only [true_and, and_true, sM_ne, sM_eq, sM_neR, sM_eqR, sK_upM, sK_upR, sL_upM, sL_upR, sN_upM, sN_upR, sT_upM, sT_upR, sN_upM, Int.reduceAdd, Int.reduceMul, Int.reduceSub, Int.reduceNeg, Int.zero_add, Int.add_zero, hF.c, hnn ()]); (· first | omega | ((try simp (disch := omega) only [wr, true_and, and_true, sM_ne, sM_eq, sM_neR, sM_eqR, sK_upM, sK_upR, sL_upM, sL_upR, sN_upM, sN_upR, sT_upM, sT_upR, sN_upM, Int.reduceAdd, Int.reduceMul, Int.reduceSub, Int.reduceNeg, Int.zero_add, Int.add_zero, hF.c, hnn ()]) <;> omega)); (· (try simp (disch := omega) only [wr, true_and, and_true, sM_ne, sM_eq, sM_neR, sM_eqR, sK_upM, sK_upR, sL_upM, sL_upR, sN_upM, sN_upR, sT_upM, sT_upR, sN_upM, Int.reduceAdd, Int.reduceMul, Int.reduceSub, Int.reduceNeg, Int.zero_add, Int.add_zero, hF.c, hnn ()]); exact rfl))
    | ((with_reducible refine rt_as ?_ ?_ ?_); (· simp (disch := omega) only [true_and, and_true, sM_ne, sM_eq, sM_neR, sM_eqR, sK_upM, sK_upR, sL_upM, sL_upR, sN_upM, sN_upR, sT_upM, sT_upR, sN_upM, Int.reduceAdd, Int.reduceMul, Int.reduceSub, Int.reduceNeg, Int.zero_add, Int.add_zero, hF.c, hnn ()]); (· first | omega | ((try simp (disch := omega) only [wr, true_and, and_true, sM_ne, sM_eq, sM_neR, sM_eqR, sK_upM, sK_upR, sL_upM, sL_upR, sN_upM, sN_upR, sT_upM, sT_upR, sN_upM, Int.reduceAdd, Int.reduceMul, Int.reduceSub, Int.reduceNeg, Int.zero_add, Int.add_zero, hF.c, hnn ()]) <;> omega)))
    | ((with_reducible refine rt_p ?_ ?_ ?_); (· simp (disch := omega) only [true_and, and_true, sM_ne, sM_eq, sM_neR, sM_eqR, sK_upM, sK_upR, sL_upM, sL_upR, sN_upM, sN_upR, sT_upM, sT_upR, sN_upM, Int.reduceAdd, Int.reduceMul, Int.reduceSub, Int.reduceNeg, Int.zero_add, Int.add_zero, hF.c, hnn ()]); (· omega))
    | with_reducible refine rt_ret ?_
    | ((with_reducible apply rt_gwx); (· assumption); (· (try simp (disch := omega) only [wr, true_and, and_true, sM_ne, sM_eq, sM_neR, sM_eqR, sK_upM, sK_upR, sL_upM, sL_upR, sN_upM, sN_upR, sT_upM, sT_upR, sN_upM, Int.reduceAdd, Int.reduceMul, Int.reduceSub, Int.reduceNeg, Int.zero_add, Int.add_zero, hF.c, hnn ()]); exact rfl)))
    by_cases he : n ≤ (c : Int)
    · exact rt_pos he (hK s hF hc (fun i i0 i1 => hz i i0 (by omega)))
    · refine rt_neg he ?_
      refine rt_g (by simp (disch := omega) only [true_and, and_true, sM_ne, sM_eq, sM_neR, sM_eqR, sK_upM, sK_upR, sL_upM, sL_upR, sN_upM, sN_upR, sT_upM, sT_upR, sN_upM, Int.reduceAdd, Int.reduceMul, Int.reduceSub, Int.reduceNeg, Int.zero_add, Int.add_zero, hF.c]) ?_
      have step : ∀ v : Int, v = dvF x y j (c : Int) → Rt ((zas s 100 (sM s 64 40) (c : Int) v).bind (fun s46 => lX12_split_59 64 w x y a b1 b2 u8 K N s46 (wrap ((c : Int) + 1)))) P := by
        intro v hv
        have e40 : sM s 64 40 = 88 := by simp (disch := omega) only [true_and, and_true, sM_ne, sM_eq, sM_neR, sM_eqR, sK_upM, sK_upR, sL_upM, sL_upR, sN_upM, sN_upR, sT_upM, sT_upR, sN_upM, Int.reduceAdd, Int.reduceMul, Int.reduceSub, Int.reduceNeg, Int.zero_add, Int.add_zero, hF.c]
        rw [e40]
        refine rt_as (by simp (disch := omega) only [true_and, and_true, sM_ne, sM_eq, sM_neR, sM_eqR, sK_upM, sK_upR, sL_upM, sL_upR, sN_upM, sN_upR, sT_upM, sT_upR, sN_upM, Int.reduceAdd, Int.reduceMul, Int.reduceSub, Int.reduceNeg, Int.zero_add, Int.add_zero, hF.c]) (by simp (disch := omega) only [true_and, and_true, sM_ne, sM_eq, sM_neR, sM_eqR, sK_upM, sK_upR, sL_upM, sL_upR, sN_upM, sN_upR, sT_upM, sT_upR, sN_upM, Int.reduceAdd, Int.reduceMul, Int.reduceSub, Int.reduceNeg, Int.zero_add, Int.add_zero, hF.c]; omega) ?_
        rw [wr1 c (by omega)]
        refine l_sp59 hw hn hu hK N (c + 1) _ (hF.up (NF_i (by omega))) (by rw [sM_ne (by omega)]; exact hnn ()) (by omega) (by omega) (hc.up rfl) (fun i i0 i1 => ?_)
        by_cases e : i = (c : Int)
        · subst e; rw [sM_eq ⟨rfl, rfl⟩, hv]
        · rw [sM_ne (Or.inr e)]; exact hz i i0 (by omega)
      by_cases hj : u8 ≤ (c : Int)
      · exact rt_jn (rt_pos hj (step y (by unfold dvF; rw [if_pos (by omega)])))
      · exact rt_jn (rt_neg hj (step x (by unfold dvF; rw [if_neg (by omega)])))
theorem l_sp45 {σ : ZS} (h : Rel σ) {w x y a : Int} (w0 : 0 ≤ w) (w1 : w < sM σ 64 8) {K : ZS → Int → Int → Option (Int × ZS)} {P : Int → ZS → Prop} {f : Nat → Int} (x0 : 0 ≤ x) (x1 : x ≤ 48) (y0 : 0 ≤ y) (y1 : y ≤ 48) (hf : ∀ j : Nat, f j = sumF (cstF (sM σ 72 w) (sM σ 71 w) (dvF x y (j : Int)) (vso σ) (vln σ) (vrt σ) (vtl σ) (vst σ) (vwi σ) (vtx σ 0)) (sM σ 72 w).toNat)
    (hK : ∀ τ : ZS, Ch scr σ τ → Rt (K τ (bsF f (sM σ 72 w).toNat).1 (bsF f (sM σ 72 w).toNat).2) P) :
    ∀ (N j : Nat) (s : ZS) (b1 b2 : Int), Ch scr σ s → (j : Int) ≤ sM σ 72 w + 1 → sM σ 72 w + 1 - (j : Int) < (N : Int) → (∀ i : Nat, j = i + 1 → (b1, b2) = bsF f i) → Rt (lX12_split_45 64 w x y a K N s b1 b2 (j : Int)) P
  | 0, j, s, b1, b2, _, h1, h2, _ => by omega
  | N + 1, j, s, b1, b2, hc, h1, h2, hb => by
    have hF := hc.Fx h.F scr_NF
    have hFσ := h.F
    have h9 := hFσ.2.2.2
    have hn := h.wn w0 w1
    have h8 := h.Wa.2.1
    have n1 := hd (show sM s 72 w = sM σ 72 w from hc.M (by omega) (by unfold scr; omega))
    rw [lX12_split_45]
    repeat (first
    | with_reducible refine rt_b ?_
    | with_reducible refine rt_jn ?_
    | ((with_reducible refine rt_pos ?_ ?_); (· first | omega | ((try simp (disch := omega) only [wr, true_and, and_true, sM_ne, sM_eq, sM_neR, sM_eqR, sK_upM, sK_upR, sL_upM, sL_upR, sN_upM, sN_upR, sT_upM, sT_upR, sN_upM, Int.reduceAdd, Int.reduceMul, Int.reduceSub, Int.reduceNeg, Int.zero_add, Int.add_zero, hF.c, n1 ()]) <;> omega)))
    | ((with_reducible refine rt_neg ?_ ?_); (· first | omega | ((try simp (disch := omega) only [wr, true_and, and_true, sM_ne, sM_eq, sM_neR, sM_eqR, sK_upM, sK_upR, sL_upM, sL_upR, sN_upM, sN_upR, sT_upM, sT_upR, sN_upM, Int.reduceAdd, Int.reduceMul, Int.reduceSub, Int.reduceNeg, Int.zero_add, Int.add_zero, hF.c, n1 ()]) <;> omega)))
    | ((with_reducible refine rt_v ?_ ?_); · simp (disch := omega) only [true_and, and_true, sM_ne, sM_eq, sM_neR, sM_eqR, sK_upM, sK_upR, sL_upM, sL_upR, sN_upM, sN_upR, sT_upM, sT_upR, sN_upM, Int.reduceAdd, Int.reduceMul, Int.reduceSub, Int.reduceNeg, Int.zero_add, Int.add_zero, hF.c, n1 ()])
    | ((with_reducible apply rt_gx); (· simp (disch := omega) only [true_and, and_true, sM_ne, sM_eq, sM_neR, sM_eqR, sK_upM, sK_upR, sL_upM, sL_upR, sN_upM, sN_upR, sT_upM, sT_upR, sN_upM, Int.reduceAdd, Int.reduceMul, Int.reduceSub, Int.reduceNeg, Int.zero_add, Int.add_zero, hF.c, n1 ()]); (· (try simp (disch := omega) only [wr, true_and, and_true, sM_ne, sM_eq, sM_neR, sM_eqR, sK_upM, sK_upR, sL_upM, sL_upR, sN_upM, sN_upR, sT_upM, sT_upR, sN_upM, Int.reduceAdd, Int.reduceMul, Int.reduceSub, Int.reduceNeg, Int.zero_add, Int.add_zero, hF.c, n1 ()]); exact rfl))
    | ((with_reducible apply rt_alx); (· simp (disch := omega) only [true_and, and_true, sM_ne, sM_eq, sM_neR, sM_eqR, sK_upM, sK_upR, sL_upM, sL_upR, sN_upM, sN_upR, sT_upM, sT_upR, sN_upM, Int.reduceAdd, Int.reduceMul, Int.reduceSub, Int.reduceNeg, Int.zero_add, Int.add_zero, hF.c, n1 ()]); (· first | omega | ((try simp (disch := omega) only [wr, true_and, and_true, sM_ne, sM_eq, sM_neR, sM_eqR, sK_upM, sK_upR, sL_upM, sL_upR, sN_upM, sN_upR, sT_upM, sT_upR, sN_upM, Int.reduceAdd, Int.reduceMul, Int.reduceSub, Int.reduceNeg, Int.zero_add, Int.add_zero, hF.c, n1 ()]) <;> omega)); (· (try simp (disch := omega) only [wr, true_and, and_true, sM_ne, sM_eq, sM_neR, sM_eqR, sK_upM, sK_upR, sL_upM, sL_upR, sN_upM, sN_upR, sT_upM, sT_upR, sN_upM, Int.reduceAdd, Int.reduceMul, Int.reduceSub, Int.reduceNeg, Int.zero_add, Int.add_zero, hF.c, n1 ()]); exact rfl))
    | ((with_reducible refine rt_as ?_ ?_ ?_); (· simp (disch := omega) only [true_and, and_true, sM_ne, sM_eq, sM_neR, sM_eqR, sK_upM, sK_upR, sL_upM, sL_upR, sN_upM, sN_upR, sT_upM, sT_upR, sN_upM, Int.reduceAdd, Int.reduceMul, Int.reduceSub, Int.reduceNeg, Int.zero_add, Int.add_zero, hF.c, n1 ()]); (· first | omega | ((try simp (disch := omega) only [wr, true_and, and_true, sM_ne, sM_eq, sM_neR, sM_eqR, sK_upM, sK_upR, sL_upM, sL_upR, sN_upM, sN_upR, sT_upM, sT_upR, sN_upM, Int.reduceAdd, Int.reduceMul, Int.reduceSub, Int.reduceNeg, Int.zero_add, Int.add_zero, hF.c, n1 ()]) <;> omega)))
    | ((with_reducible refine rt_p ?_ ?_ ?_); (· simp (disch := omega) only [true_and, and_true, sM_ne, sM_eq, sM_neR, sM_eqR, sK_upM, sK_upR, sL_upM, sL_upR, sN_upM, sN_upR, sT_upM, sT_upR, sN_upM, Int.reduceAdd, Int.reduceMul, Int.reduceSub, Int.reduceNeg, Int.zero_add, Int.add_zero, hF.c, n1 ()]); (· omega))
    | with_reducible refine rt_ret ?_
    | ((with_reducible apply rt_gwx); (· assumption); (· (try simp (disch := omega) only [wr, true_and, and_true, sM_ne, sM_eq, sM_neR, sM_eqR, sK_upM, sK_upR, sL_upM, sL_upR, sN_upM, sN_upR, sT_upM, sT_upR, sN_upM, Int.reduceAdd, Int.reduceMul, Int.reduceSub, Int.reduceNeg, Int.zero_add, Int.add_zero, hF.c, n1 ()]); exact rfl)))
    by_cases he : sM σ 72 w < (j : Int)
    · refine rt_pos he ?_
      have := hK s hc
      have e := hb (sM σ 72 w).toNat (by omega)
      rw [← e] at this
      exact this
    · refine rt_neg he ?_
      refine l_sp59 (σ := s) (j := (j : Int)) (n := sM σ 72 w) ⟨w0, by omega⟩ ⟨hn.1, hn.2.1⟩ rfl (fun τ hFτ hcτ hr => ?_) 1000 0 s hF (n1 ()) (by omega) (by omega) Ch.rf (fun i i0 i1 => by omega)
      have hcs : Ch scr σ τ := hc.tr (hcτ.mono (fun a i q => by unfold scr; omega))
      have hV : MV τ w (sM σ 72 w) (sM σ 71 w) (dvF x y (j : Int)) (vso σ) (vln σ) (vrt σ) := mk_MV h hcs w0 w1 (fun i i0 i1 => ⟨hr i i0 i1, by unfold dvF; split <;> omega⟩)
      have hC := mk_MC h hcs
      refine rt_b (rt_v (by simp (disch := omega) only [true_and, and_true, sM_ne, sM_eq, sM_neR, sM_eqR, sK_upM, sK_upR, sL_upM, sL_upR, sN_upM, sN_upR, sT_upM, sT_upR, sN_upM, Int.reduceAdd, Int.reduceMul, Int.reduceSub, Int.reduceNeg, Int.zero_add, Int.add_zero, hFτ.c]) ?_)
      refine Rt.mono (f_goes hV) ?_
      rintro v1 ρ ⟨hcρ, hG⟩
      have hVρ := hV.ch hcρ
      have hFρ := hVρ.1
      refine rt_b (rt_v (by simp (disch := omega) only [true_and, and_true, sM_ne, sM_eq, sM_neR, sM_eqR, sK_upM, sK_upR, sL_upM, sL_upR, sN_upM, sN_upR, sT_upM, sT_upR, sN_upM, Int.reduceAdd, Int.reduceMul, Int.reduceSub, Int.reduceNeg, Int.zero_add, Int.add_zero, hFρ.c]) ?_)
      refine Rt.mono (f_costAll hVρ (hC.ch hFτ hcρ) hG) ?_
      rintro v2 θ ⟨e2, hcθ⟩
      have hcall : Ch scr σ θ := (hcs.tr (hcρ.mono mdS_scr)).tr (hcθ.mono (fun a i q => mdS_scr a i (mcS_md a i q)))
      have ef : v2 = f j := by rw [hf, e2]
      have next : ∀ c1 c2 : Int, (c1, c2) = bsF f j → Rt (lX12_split_45 64 w x y a K N θ c1 c2 (wrap ((j : Int) + 1))) P := by
        intro c1 c2 hcc
        rw [wr1 j (by omega)]
        exact l_sp45 (a := a) h w0 w1 x0 x1 y0 y1 hf hK N (j + 1) θ c1 c2 hcall (by omega) (by omega) (fun i hi => by rw [hcc]; congr 1; omega)
      by_cases hj : j = 0
      · subst hj
        refine rt_jn (rt_jn (rt_pos rfl ?_))
        exact next _ _ (by rw [ef]; rfl)
      · obtain ⟨i, rfl⟩ : ∃ i, j = i + 1 := ⟨j - 1, by omega⟩
        have e := hb i rfl
        have hbb : bsF f (i + 1) = if (bsF f i).2 ≤ f (i + 1) then bsF f i else (((i + 1 : Nat) : Int), f (i + 1)) := rfl
        rw [← e] at hbb
        refine rt_jn (rt_jn (rt_neg (by omega) ?_))
        by_cases hle : b2 ≤ v2
        · refine rt_pos (lc1.mpr hle) ?_
          refine next _ _ ?_
          rw [hbb, if_pos (show b2 ≤ f (i + 1) by rw [← ef]; exact hle)]
        · refine rt_neg (fun q => hle (lc1.mp q)) ?_
          refine next _ _ ?_
          rw [hbb, if_neg (show ¬ b2 ≤ f (i + 1) by rw [← ef]; exact hle), ef]
theorem q_split {σ : ZS} (h : Rel σ) (w x y a : Int) : Rt (fX11_split σ 3 w x y a) (fun v τ => Rt (fX12_split τ 64 w x y a) (fun z ρ => Fin σ v z ρ)) := by
  have hF := h.F
  have h9 := hF.2.2.2
  unfold fX11_split
  by_cases hw : 0 ≤ w ∧ w < sM σ 64 8
  · obtain ⟨w0, w1⟩ := hw
    have hn := h.wn w0 w1
    have hV := h.lv w0 w1
    have hC := h.cv
    have hT := h.tv
    have hs := h.sep w0 w1
    refine rt_b (rt_v (by simp (disch := omega) only [true_and, and_true, sM_ne, sM_eq, sM_neR, sM_eqR, sK_upM, sK_upR, sL_upM, sL_upR, sN_upM, sN_upR, sT_upM, sT_upR, sN_upM, Int.reduceAdd, Int.reduceMul, Int.reduceSub, Int.reduceNeg, Int.zero_add, Int.add_zero, hF.c]) (rt_e (f_wayAt1 h w0 w1) ?_))
    refine rt_neg (by omega) (rt_b (rt_e (f_within σ x 48) ?_))
    have bad : ¬ ((0 ≤ x ∧ x ≤ 48) ∧ (0 ≤ y ∧ y ≤ 48) ∧ (0 ≤ a ∧ a ≤ 1)) → Rt (fX12_split σ 64 w x y a) (fun z ρ => Fin σ (-4611686018427387904) z ρ) := by
      intro hb
      unfold fX12_split
      refine rt_b (rt_v (by simp (disch := omega) only [true_and, and_true, sM_ne, sM_eq, sM_neR, sM_eqR, sK_upM, sK_upR, sL_upM, sL_upR, sN_upM, sN_upR, sT_upM, sT_upR, sN_upM, Int.reduceAdd, Int.reduceMul, Int.reduceSub, Int.reduceNeg, Int.zero_add, Int.add_zero, hF.c]) (rt_e (f_isWay h w) ?_))
      rw [if_pos (show 0 ≤ w ∧ w < sM σ 64 8 from ⟨w0, w1⟩)]
      refine rt_neg (by omega) (rt_b (rt_e (f_isChoice σ x) ?_))
      by_cases hx : 0 ≤ x ∧ x ≤ 48
      · rw [if_pos hx]
        refine rt_neg (by omega) (rt_b (rt_e (f_isChoice σ y) ?_))
        by_cases hy : 0 ≤ y ∧ y ≤ 48
        · rw [if_pos hy]
          refine rt_neg (by omega) (rt_b (rt_e (f_in σ a 0 1) ?_))
          rw [if_neg (fun q => hb ⟨hx, hy, q⟩)]
          exact rt_pos rfl (rt_ret (fin0 h rfl))
        · rw [if_neg hy]
          exact rt_pos rfl (rt_ret (fin0 h rfl))
      · rw [if_neg hx]
        exact rt_pos rfl (rt_ret (fin0 h rfl))
    by_cases hx : 0 ≤ x ∧ x ≤ 48
    · rw [if_pos hx]
      refine rt_neg (by omega) (rt_b (rt_e (f_within σ y 48) ?_))
      by_cases hy : 0 ≤ y ∧ y ≤ 48
      · rw [if_pos hy]
        refine rt_neg (by omega) (rt_b (rt_e (f_within σ a 1) ?_))
        by_cases ha : 0 ≤ a ∧ a ≤ 1
        · rw [if_pos ha]
          refine rt_neg (by omega) ?_
          have hV0 := hV
          obtain ⟨-, ⟨wg, w2⟩, ⟨k0, k5, kk⟩, ⟨n1, n2, n3⟩, p1, ⟨q1, q2⟩, a1, -⟩ := hV
          have hwk : wkn σ (sM σ 33 w) := wk_w kk k0 k5
          replace p1 := hd p1
          replace q1 := hd q1
          replace q2 := hd q2
          clear n1
          generalize hWW : sM σ 33 w = W at *
          refine rt_gwx hwk (p1 ()) ?_
          refine rt_gx (x := 54) (by simp (disch := omega) only [true_and, and_true, sM_ne, sM_eq, sM_neR, sM_eqR, sK_upM, sK_upR, sL_upM, sL_upR, sN_upM, sN_upR, sT_upM, sT_upR, sN_upM, Int.reduceAdd, Int.reduceMul, Int.reduceSub, Int.reduceNeg, Int.zero_add, Int.add_zero, hF.c]) (by simp (disch := omega) only [true_and, and_true, sM_ne, sM_eq, sM_neR, sM_eqR, sK_upM, sK_upR, sL_upM, sL_upR, sN_upM, sN_upR, sT_upM, sT_upR, sN_upM, Int.reduceAdd, Int.reduceMul, Int.reduceSub, Int.reduceNeg, Int.zero_add, Int.add_zero, hF.c]) ?_
          refine rt_cp (q1 ()) (by simp (disch := omega) only [true_and, and_true, sM_ne, sM_eq, sM_neR, sM_eqR, sK_upM, sK_upR, sL_upM, sL_upR, sN_upM, sN_upR, sT_upM, sT_upR, sN_upM, Int.reduceAdd, Int.reduceMul, Int.reduceSub, Int.reduceNeg, Int.zero_add, Int.add_zero, hF.c]) (by rw [q2 ()]; simp (disch := omega) only [true_and, and_true, sM_ne, sM_eq, sM_neR, sM_eqR, sK_upM, sK_upR, sL_upM, sL_upR, sN_upM, sN_upR, sT_upM, sT_upR, sN_upM, Int.reduceAdd, Int.reduceMul, Int.reduceSub, Int.reduceNeg, Int.zero_add, Int.add_zero, hF.c]; omega) ?_
          have hc1 : Ch (fun b _ => b = 54) σ (upR σ 54 (fun k => if 0 ≤ k ∧ k < 0 + 16 then sM σ (W + 1) (0 + (k - 0)) else sM σ 54 k)) := Ch.rf.upR (fun _ => rfl)
          have h54 : ∀ i : Int, 0 ≤ i → i < 16 → sM (upR σ 54 (fun k => if 0 ≤ k ∧ k < 0 + 16 then sM σ (W + 1) (0 + (k - 0)) else sM σ 54 k)) 54 i = sM σ (W + 1) i := by
            intro i i0 i1
            rw [sM_eqR rfl, if_pos (by omega)]
            congr 1
            omega
          generalize upR σ 54 (fun k => if 0 ≤ k ∧ k < 0 + 16 then sM σ (W + 1) (0 + (k - 0)) else sM σ 54 k) = σ1 at hc1 h54
          have hV1 := hV0.chs (ch' := vch σ w) hc1 (fun a i q => Or.inr (Or.inr q)) (fun i i0 i1 => by rw [hc1.M (by omega) (by omega)]; exact a1 i i0 i1)
          obtain ⟨hC1, hT1, hs1⟩ := keepC hV0 hC hT hs hc1 (fun a i q => Or.inr (Or.inr q))
          refine rt_b (Rt.mono (f_divide (j := 0) hV1 hx.1 hx.2 hy.1 hy.2) ?_)
          rintro v2 σ2 ⟨hc2, hV2⟩
          have hF2 := hV2.1
          obtain ⟨hC2, hT2, hs2⟩ := keepC hV1 hC1 hT1 hs1 hc2 (fun a i q => by unfold mvS lnS at q; unfold lnS; omega)
          refine rt_b (rt_v (by simp (disch := omega) only [true_and, and_true, sM_ne, sM_eq, sM_neR, sM_eqR, sK_upM, sK_upR, sL_upM, sL_upR, sN_upM, sN_upR, sT_upM, sT_upR, sN_upM, Int.reduceAdd, Int.reduceMul, Int.reduceSub, Int.reduceNeg, Int.zero_add, Int.add_zero, hF2.c]) ?_)
          refine Rt.mono (f_costOfAll hV2 hC2 hT2) ?_
          rintro v3 σ3 ⟨e3, hc3⟩
          have hV3 := hV2.ch hc3
          obtain ⟨hC3, hT3, hs3⟩ := keepC hV2 hC2 hT2 hs2 hc3 (fun a i q => Or.inl q)
          have hc13 : Ch (mvS W (sM σ 72 w)) σ1 σ3 := hc2.tr (hc3.mono (fun a i q => Or.inl q))
          obtain ⟨f, hf⟩ : ∃ f : Nat → Int, ∀ j : Nat, f j = sumF (cstF (sM σ 72 w) (sM σ 71 w) (dvF x y (j : Int)) (vso σ) (vln σ) (vrt σ) (vtl σ) (vst σ) (vwi σ) (vtx σ 0)) (sM σ 72 w).toNat := ⟨fun j => sumF (cstF (sM σ 72 w) (sM σ 71 w) (dvF x y (j : Int)) (vso σ) (vln σ) (vrt σ) (vtl σ) (vst σ) (vwi σ) (vtx σ 0)) (sM σ 72 w).toNat, fun j => rfl⟩
          have e30 : v3 = f 0 := by rw [hf, e3]; rfl
          have hstart := l_sp81 (σ := σ1) (W := W) (T := vT σ) (ls := vtx σ 1) (a := a) hx.1 hx.2 hy.1 hy.2 hf (K := fun (s52 : ZS) (x53 x54 : Int) => (zg s52 11 3 14).bind (fun v55 => (zgw s52 W 1).bind (fun v56 => (zcp s52 v55 0 v56 0 16).bind (fun s57 => if a = 0 then (some (x53, s57)) else (some (x54, s57)))))) (P := fun v τ => Rt (fX12_split τ 64 w x y a) (fun z ρ => Fin σ v z ρ)) (fun τ ch hVτ hcτ => ?_) 1000 0 σ3 _ hV3 hC3 hT3 hs3 hc13 (by omega) (by omega)
          · rw [e30]
            exact hstart
          · have hVτ0 := hVτ
            obtain ⟨hFτ, ⟨-, w2'⟩, ⟨-, -, kk'⟩, -, p1', ⟨q1', q2'⟩, -⟩ := hVτ
            have hwk' : wkn τ W := wk_w kk' k0 k5
            refine rt_gx (x := 54) (by simp (disch := omega) only [true_and, and_true, sM_ne, sM_eq, sM_neR, sM_eqR, sK_upM, sK_upR, sL_upM, sL_upR, sN_upM, sN_upR, sT_upM, sT_upR, sN_upM, Int.reduceAdd, Int.reduceMul, Int.reduceSub, Int.reduceNeg, Int.zero_add, Int.add_zero, hFτ.c]) (by simp (disch := omega) only [true_and, and_true, sM_ne, sM_eq, sM_neR, sM_eqR, sK_upM, sK_upR, sL_upM, sL_upR, sN_upM, sN_upR, sT_upM, sT_upR, sN_upM, Int.reduceAdd, Int.reduceMul, Int.reduceSub, Int.reduceNeg, Int.zero_add, Int.add_zero, hFτ.c]) ?_
            refine rt_gwx hwk' p1' ?_
            refine rt_cp (by simp (disch := omega) only [true_and, and_true, sM_ne, sM_eq, sM_neR, sM_eqR, sK_upM, sK_upR, sL_upM, sL_upR, sN_upM, sN_upR, sT_upM, sT_upR, sN_upM, Int.reduceAdd, Int.reduceMul, Int.reduceSub, Int.reduceNeg, Int.zero_add, Int.add_zero, hFτ.c]) q1' (by rw [q2']; simp (disch := omega) only [true_and, and_true, sM_ne, sM_eq, sM_neR, sM_eqR, sK_upM, sK_upR, sL_upM, sL_upR, sN_upM, sN_upR, sT_upM, sT_upR, sN_upM, Int.reduceAdd, Int.reduceMul, Int.reduceSub, Int.reduceNeg, Int.zero_add, Int.add_zero, hFτ.c]; omega) ?_
            have hcb : Ch (fun b i => mvS W (sM σ 72 w) b i ∨ b = 54 ∨ b = W + 1) σ (upR τ (W + 1) (fun k => if 0 ≤ k ∧ k < 0 + 16 then sM τ 54 (0 + (k - 0)) else sM τ (W + 1) k)) := ((hc1.mono (fun a i q => Or.inr (Or.inl q))).tr (hcτ.mono (fun a i q => Or.inl q))).upR (fun _ => Or.inr (Or.inr rfl))
            have hrow : ∀ i : Int, sM (upR τ (W + 1) (fun k => if 0 ≤ k ∧ k < 0 + 16 then sM τ 54 (0 + (k - 0)) else sM τ (W + 1) k)) (W + 1) i = sM σ (W + 1) i := by
              intro i
              rw [sM_eqR rfl]
              by_cases q : 0 ≤ i ∧ i < 0 + 16
              · rw [if_pos q, hcτ.M (by have := hc1.2.1; omega) (by unfold mvS lnS; omega), h54 _ (by omega) (by omega)]
                congr 1
                omega
              · rw [if_neg q, hcτ.M (by have := hc1.2.1; omega) (by unfold mvS lnS; omega), hc1.M (by omega) (by omega)]
            generalize upR τ (W + 1) (fun k => if 0 ≤ k ∧ k < 0 + 16 then sM τ 54 (0 + (k - 0)) else sM τ (W + 1) k) = π at hcb hrow
            have hsπ : Ch scr σ π := Ch.back hcb (fun b i q => by
              rcases q with (q | q) | q | q
              · exact Or.inl (lnS_scr b i q)
              · rw [q.1]; exact Or.inr (hrow i)
              · left; unfold scr; omega
              · rw [q]; exact Or.inr (hrow i))
            have hRπ := h.off hsπ.1
            have hFπ := hRπ.F
            have h8 : sM π 64 8 = sM σ 64 8 := hsπ.M (by omega) (by unfold scr; omega)
            have ref : ∀ v : Int, v = (if a = 0 then (bsF f (sM σ 72 w).toNat).1 else (bsF f (sM σ 72 w).toNat).2) → Rt (fX12_split π 64 w x y a) (fun z ρ => Fin σ v z ρ) := by
              intro v hv
              unfold fX12_split
              refine rt_b (rt_v (by simp (disch := omega) only [true_and, and_true, sM_ne, sM_eq, sM_neR, sM_eqR, sK_upM, sK_upR, sL_upM, sL_upR, sN_upM, sN_upR, sT_upM, sT_upR, sN_upM, Int.reduceAdd, Int.reduceMul, Int.reduceSub, Int.reduceNeg, Int.zero_add, Int.add_zero, hFπ.c]) (rt_e (f_isWay hRπ w) ?_))
              rw [h8, if_pos (show 0 ≤ w ∧ w < sM σ 64 8 from ⟨w0, w1⟩)]
              refine rt_neg (by omega) (rt_b (rt_e (f_isChoice π x) ?_))
              rw [if_pos hx]
              refine rt_neg (by omega) (rt_b (rt_e (f_isChoice π y) ?_))
              rw [if_pos hy]
              refine rt_neg (by omega) (rt_b (rt_e (f_in π a 0 1) ?_))
              rw [if_pos ha]
              refine rt_neg (by omega) ?_
              refine l_sp45 h w0 w1 hx.1 hx.2 hy.1 hy.2 hf (fun θ hcθ => ?_) 1000 0 π 0 0 hsπ (by omega) (by omega) (fun i hi => by omega)
              by_cases q : a = 0
              · exact rt_pos q (rt_ret (finC h (by rw [hv, if_pos q]) hcθ))
              · exact rt_neg q (rt_ret (finC h (by rw [hv, if_neg q]) hcθ))
            by_cases q : a = 0
            · exact rt_pos q (rt_ret (ref _ (by rw [if_pos q])))
            · exact rt_neg q (rt_ret (ref _ (by rw [if_neg q])))
        · rw [if_neg ha]
          exact rt_pos rfl (rt_ret (bad (fun q => ha q.2.2)))
      · rw [if_neg hy]
        exact rt_pos rfl (rt_ret (bad (fun q => hy q.2.1)))
    · rw [if_neg hx]
      exact rt_pos rfl (rt_ret (bad (fun q => hx q.1)))
  · refine rt_b (rt_v (by simp (disch := omega) only [true_and, and_true, sM_ne, sM_eq, sM_neR, sM_eqR, sK_upM, sK_upR, sL_upM, sL_upR, sN_upM, sN_upR, sT_upM, sT_upR, sN_upM, Int.reduceAdd, Int.reduceMul, Int.reduceSub, Int.reduceNeg, Int.zero_add, Int.add_zero, hF.c]) (rt_e (f_wayAt0 h hw) ?_))
    refine rt_pos (by omega) (rt_ret ?_)
    unfold fX12_split
    refine rt_b (rt_v (by simp (disch := omega) only [true_and, and_true, sM_ne, sM_eq, sM_neR, sM_eqR, sK_upM, sK_upR, sL_upM, sL_upR, sN_upM, sN_upR, sT_upM, sT_upR, sN_upM, Int.reduceAdd, Int.reduceMul, Int.reduceSub, Int.reduceNeg, Int.zero_add, Int.add_zero, hF.c]) (rt_e (f_isWay h w) ?_))
    rw [if_neg hw]
    exact rt_pos rfl (rt_ret (fin0 h rfl))
