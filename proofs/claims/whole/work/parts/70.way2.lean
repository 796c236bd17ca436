/-! a new way: the call -/
def wyS (w a i : Int) : Prop := (a = 33 ∧ i = w) ∨ ((71 ≤ a ∧ a ≤ 72) ∧ i = w) ∨ (a = 73 ∧ 16 * w ≤ i ∧ i < 16 * w + 16) ∨ (a = 3 ∧ i = 3) ∨ (a = 64 ∧ i = 8)
theorem wyS_NF {w : Int} : ∀ a i, wyS w a i → NFb a i = true := by
  intro a i q
  unfold wyS at q
  rcases q with q | q | q | ⟨rfl, q⟩ | ⟨rfl, q⟩
  · exact NF_i (by omega)
  · exact NF_i (by omega)
  · exact NF_i (by omega)
  · exact NF_3 (by omega)
  · exact NF_64 (by omega)
theorem Rel.newWay {σ ρ : ZS} (h : Rel σ) {w N : Int} (hw : sM σ 64 8 = w) (w8 : w < 8) (k : Off (wyS w) σ ρ) (hN : (sN σ : Int) ≤ N) (h33 : sM ρ 33 w = N) (h3 : sM ρ 3 3 = w + 1) (h8 : sM ρ 64 8 = w + 1) (hA : RWayAt ρ w N) (hm : sM ρ 72 w = sM σ 64 6) : Rel ρ := by
  have hWa := h.Wa
  have hw0 : 0 ≤ w := by have := hWa.2.1.1; omega
  obtain ⟨hF, h1, h2, h3', h4, h5, h6, h7, h8', h10, h11⟩ := h
  have h9 := hF.2.2.2
  have hn := k.2.2.2
  have e : ∀ a i : Int, a < 93 → ¬ wyS w a i → sM ρ a i = sM σ a i := fun a i ha hs => k.1 a i (by omega) hs
  refine ⟨hF.off k wyS_NF, h1.off hF k (fun a i p s => ?_), h2.off hF k (fun a i p s => ?_), h3'.off hF k (fun a i p s => ?_), ⟨by rw [h3, h8], by rw [h8]; omega, fun v v0 v1 => ?_, fun u v u0 u1 v1 => ?_⟩, ⟨?_, ?_, fun i i0 i1 => ?_, fun c c0 c1 => ?_, fun v v0 v1 => ?_⟩, h6.off hF k (fun a i p s => ?_), h7.off hF k (fun a i p s => ?_), ?_, h10.off hF k (fun a i p s => ?_), h11.off hF k (fun i s => ?_)⟩
  · unfold wyS at s; unfold pGate at p; omega
  · unfold wyS at s; unfold pSort at p; omega
  · unfold wyS at s; unfold pCart at p; omega
  · rw [h8] at v1
    by_cases q : v = w
    · subst q
      rw [h33]
      exact hA
    · rw [e 33 v (by omega) (by unfold wyS; omega)]
      obtain ⟨⟨a1, a2⟩, b, c, d, e', f, g⟩ := hWa.2.2.1 v v0 (by omega)
      have hx : ∀ a i : Int, 93 ≤ a → a < (sN σ : Int) → sM ρ a i = sM σ a i := fun a i ha hb => k.1 a i hb (fun s => by unfold wyS at s; omega)
      unfold RWayAt
      rw [e 71 v (by omega) (by unfold wyS; omega), e 72 v (by omega) (by unfold wyS; omega), hx _ 0 (by omega) (by omega), hx _ 1 (by omega) (by omega), hx _ 2 (by omega) (by omega), k.2.1 (sM σ 33 v) (by omega), k.2.1 (sM σ 33 v + 1) (by omega), k.2.1 (sM σ 33 v + 2) (by omega), k.2.2.1 (sM σ 33 v + 1) (by omega), k.2.2.1 (sM σ 33 v + 2) (by omega)]
      refine ⟨⟨a1, by omega⟩, b, c, d, e', f, fun x x0 x1 => ?_⟩
      rw [hx _ x (by omega) (by omega), e 73 _ (by omega) (by unfold wyS; omega)]
      exact g x x0 x1
  · rw [h8] at v1
    rw [e 33 u (by omega) (by unfold wyS; omega)]
    by_cases q : v = w
    · subst q
      rw [h33]
      have := (hWa.2.2.1 u u0 (by omega)).1
      omega
    · rw [e 33 v (by omega) (by unfold wyS; omega)]
      exact hWa.2.2.2 u v u0 u1 (by omega)
  · rw [e 34 1 (by omega) (by unfold wyS; omega), e 64 13 (by omega) (by unfold wyS; omega)]; exact h5.1
  · rw [e 64 13 (by omega) (by unfold wyS; omega)]; exact h5.2.1
  · rw [e 64 13 (by omega) (by unfold wyS; omega)] at i1
    rw [e 35 i (by omega) (by unfold wyS; omega), e 74 i (by omega) (by unfold wyS; omega)]
    exact h5.2.2.1 i i0 i1
  · rw [e 64 6 (by omega) (by unfold wyS; omega)] at c1
    rw [e 70 c (by omega) (by unfold wyS; omega), e 64 2 (by omega) (by unfold wyS; omega)]
    exact h5.2.2.2.1 c c0 c1
  · rw [h8] at v1
    rw [e 64 6 (by omega) (by unfold wyS; omega)]
    by_cases q : v = w
    · subst q
      rw [hm]
      exact Int.le_refl _
    · rw [e 72 v (by omega) (by unfold wyS; omega)]
      exact h5.2.2.2.2 v v0 (by omega)
  · unfold wyS at s; unfold pText at p; omega
  · unfold wyS at s; unfold pRule at p; omega
  · have e' : ∀ a i : Int, a < 93 → ¬ wyS w a i → sM ρ a i = sM σ a i := e
    unfold RImg
    rw [e 3 10 (by omega) (by unfold wyS; omega), e 64 18 (by omega) (by unfold wyS; omega), e 3 11 (by omega) (by unfold wyS; omega), e 64 19 (by omega) (by unfold wyS; omega), e 3 12 (by omega) (by unfold wyS; omega), e 64 20 (by omega) (by unfold wyS; omega), h8, e 3 13 (by omega) (by unfold wyS; omega), e 64 21 (by omega) (by unfold wyS; omega), e 64 16 (by omega) (by unfold wyS; omega)]
    refine ⟨h8'.1, h8'.2.imp id ?_⟩
    rintro ⟨a1, a2, ⟨b1, b2, b3⟩, a4, a5, a6, a7⟩
    refine ⟨a1, a2, ⟨b1, b2, by omega⟩, a4, fun g t g0 g1 t0 t1 => ?_, fun s s0 s1 => ?_, fun v c v0 v1 c0 c1 => ?_⟩
    · rw [e (43 + g) t (by omega) (by unfold wyS; omega), e (46 + g) t (by omega) (by unfold wyS; omega), e 77 _ (by omega) (by unfold wyS; omega), e 78 _ (by omega) (by unfold wyS; omega)]
      exact a5 g t g0 g1 t0 t1
    · rw [e 51 s (by omega) (by unfold wyS; omega), e 79 s (by omega) (by unfold wyS; omega)]
      exact a6 s s0 s1
    · have hv := (hWa.2.2.1 v v0 (by omega)).1
      rw [e 72 v (by omega) (by unfold wyS; omega)] at c1
      rw [e 33 v (by omega) (by unfold wyS; omega), e 80 _ (by omega) (by unfold wyS; omega), k.1 (sM σ 33 v + 2) c (by omega) (by unfold wyS; omega)]
      exact a7 v c v0 v1 c0 c1
  · unfold wyS at s; unfold pSheet at p; omega
  · unfold wyS at s; omega
theorem q_way {σ : ZS} (h : Rel σ) (k s : Int) : Rt (fX11_way σ 3 k s) (fun x τ => Rt (fX12_way τ 64 k s) (fun y ρ => Fin σ x y ρ)) := by
  have hF := h.F
  have h9 := hF.2.2.2
  have h8 := h.Wa.2.1
  have hCa := h.Ca
  have e57 := hd hCa.1
  have hm := hCa.2.1
  have e33 := hd h.Wa.1
  generalize hmm : sM σ 64 6 = m at *
  have e6 := hd hmm
  generalize hww : sM σ 64 8 = w at *
  have e8 := hd hww
  clear hCa
  unfold fX11_way
  have bad : ¬ ((0 ≤ k ∧ k ≤ 5) ∧ (0 ≤ s ∧ s < 4)) → Rt (fX12_way σ 64 k s) (fun y ρ => Fin σ (-2) y ρ) := by
    intro hb
    unfold fX12_way
    refine rt_b (rt_e (f_in σ k 0 5) ?_)
    by_cases h1 : 0 ≤ k ∧ k ≤ 5
    · rw [if_pos h1]
      refine rt_neg (by omega) (rt_b (rt_e (f_in σ s 0 3) ?_))
      rw [if_neg (show ¬ (0 ≤ s ∧ s ≤ 3) by omega)]
      exact rt_pos rfl (rt_ret (fin0 h rfl))
    · rw [if_neg h1]
      exact rt_pos rfl (rt_ret (fin0 h rfl))
  refine rt_b (rt_e (f_within σ k 5) ?_)
  by_cases hk : 0 ≤ k ∧ k ≤ 5
  · rw [if_pos hk]
    refine rt_neg (by omega) (rt_b (rt_e (f_isSheet σ s) ?_))
    by_cases hs : 0 ≤ s ∧ s < 4
    · rw [if_pos hs]
      refine rt_neg (by omega) ?_
      obtain ⟨⟨a1, a2, a3⟩, ⟨b1, b2, b3⟩, c1⟩ := h.Sh s hs.1 hs.2
      have e1 := hd a1
      have e2 := hd b1
      have kS := hd (show sK σ (56 + 2 * s) = 6 by simp (disch := omega) only [true_and, and_true, sM_ne, sM_eq, sM_neR, sM_eqR, sK_upM, sK_upR, sL_upM, sL_upR, sN_upM, sN_upR, sT_upM, sT_upR, sN_upM, Int.reduceAdd, Int.reduceMul, Int.reduceSub, Int.reduceNeg, Int.zero_add, Int.add_zero, hF.c])
      generalize hkd : sM σ 81 s = kd at *
      generalize hzz : sM σ 82 s = z at *
      have e81 := hd hkd
      have e82 := hd hzz
      clear a1 b1
      refine rt_gx (x := 40) (by simp (disch := omega) only [true_and, and_true, sM_ne, sM_eq, sM_neR, sM_eqR, sK_upM, sK_upR, sL_upM, sL_upR, sN_upM, sN_upR, sT_upM, sT_upR, sN_upM, Int.reduceAdd, Int.reduceMul, Int.reduceSub, Int.reduceNeg, Int.zero_add, Int.add_zero, hF.c]) (by simp (disch := omega) only [true_and, and_true, sM_ne, sM_eq, sM_neR, sM_eqR, sK_upM, sK_upR, sL_upM, sL_upR, sN_upM, sN_upR, sT_upM, sT_upR, sN_upM, Int.reduceAdd, Int.reduceMul, Int.reduceSub, Int.reduceNeg, Int.zero_add, Int.add_zero, hF.c]) ?_
      refine rt_alx (x := 56 + 2 * s) (by simp (disch := omega) only [true_and, and_true, sM_ne, sM_eq, sM_neR, sM_eqR, sK_upM, sK_upR, sL_upM, sL_upR, sN_upM, sN_upR, sT_upM, sT_upR, sN_upM, Int.reduceAdd, Int.reduceMul, Int.reduceSub, Int.reduceNeg, Int.zero_add, Int.add_zero, hF.c]) (by simp (disch := omega) only [true_and, and_true, sM_ne, sM_eq, sM_neR, sM_eqR, sK_upM, sK_upR, sL_upM, sL_upR, sN_upM, sN_upR, sT_upM, sT_upR, sN_upM, Int.reduceAdd, Int.reduceMul, Int.reduceSub, Int.reduceNeg, Int.zero_add, Int.add_zero, hF.c]; omega) (by simp (disch := omega) only [true_and, and_true, sM_ne, sM_eq, sM_neR, sM_eqR, sK_upM, sK_upR, sL_upM, sL_upR, sN_upM, sN_upR, sT_upM, sT_upR, sN_upM, Int.reduceAdd, Int.reduceMul, Int.reduceSub, Int.reduceNeg, Int.zero_add, Int.add_zero, hF.c]) ?_
      refine rt_b (rt_v (kS ()) (rt_e (f_isMissing (kS ()) (e1 ())) ?_))
      -- the reference, up to the point where the way is made
      have ref : ∀ (τ : ZS) (P : Int → ZS → Prop), FxD τ → sM τ 81 s = kd → sM τ 82 s = z → sM τ 64 6 = m → sM τ 64 8 = w → (∀ i : Int, 0 ≤ i → i < 40 → sM τ 83 (40 * s + i) = sM σ 83 (40 * s + i)) → (kd = -1 → P (-11) τ) → (kd ≠ -1 → (z ≠ m ∨ allC (fun i => sM σ 83 (40 * s + i)) m.toNat = false) → P (-2) τ) → (kd ≠ -1 → z = m → allC (fun i => sM σ 83 (40 * s + i)) m.toNat = true → Rt ((zg τ 12 64 8).bind (fun v37 => if v37 = 8 then (some ((-4), τ)) else ((zg τ 12 64 9).bind (fun v39 => (zg τ 12 64 8).bind (fun v40 => (zas τ 100 v39 v40 k).bind (fun s41 => (zg s41 12 64 10).bind (fun v42 => (zg s41 12 64 8).bind (fun v43 => (zg s41 12 64 6).bind (fun v44 => (zas s41 100 v42 v43 v44).bind (fun s45 => lX12_way_136 64 s (fun (s58 : ZS) => (zg s58 12 64 8).bind (fun v59 => (zp s58 12 64 8 (wrap (v59 + 1))).bind (fun s60 => (zg s60 12 64 8).bind (fun v61 => some ((wrap (v61 - 1)), s60))))) 1000 s45 0)))))))))) P) → Rt (fX12_way τ 64 k s) P := by
        intro τ P hFτ g81 g82 g6 g8 gf p1 p2 p3
        have g81' := hd g81
        have g82' := hd g82
        have g6' := hd g6
        unfold fX12_way
        refine rt_b (rt_e (f_in τ k 0 5) ?_)
        rw [if_pos hk]
        refine rt_neg (by omega) (rt_b (rt_e (f_in τ s 0 3) ?_))
        rw [if_pos (show 0 ≤ s ∧ s ≤ 3 by omega)]
        refine rt_neg (by omega) ?_
        refine rt_gx (x := 81) (by simp (disch := omega) only [true_and, and_true, sM_ne, sM_eq, sM_neR, sM_eqR, sK_upM, sK_upR, sL_upM, sL_upR, sN_upM, sN_upR, sT_upM, sT_upR, sN_upM, Int.reduceAdd, Int.reduceMul, Int.reduceSub, Int.reduceNeg, Int.zero_add, Int.add_zero, hFτ.c]) (by simp (disch := omega) only [true_and, and_true, sM_ne, sM_eq, sM_neR, sM_eqR, sK_upM, sK_upR, sL_upM, sL_upR, sN_upM, sN_upR, sT_upM, sT_upR, sN_upM, Int.reduceAdd, Int.reduceMul, Int.reduceSub, Int.reduceNeg, Int.zero_add, Int.add_zero, hFτ.c]) ?_
        refine rt_alx (x := kd) (by simp (disch := omega) only [true_and, and_true, sM_ne, sM_eq, sM_neR, sM_eqR, sK_upM, sK_upR, sL_upM, sL_upR, sN_upM, sN_upR, sT_upM, sT_upR, sN_upM, Int.reduceAdd, Int.reduceMul, Int.reduceSub, Int.reduceNeg, Int.zero_add, Int.add_zero, hFτ.c]) (by simp (disch := omega) only [true_and, and_true, sM_ne, sM_eq, sM_neR, sM_eqR, sK_upM, sK_upR, sL_upM, sL_upR, sN_upM, sN_upR, sT_upM, sT_upR, sN_upM, Int.reduceAdd, Int.reduceMul, Int.reduceSub, Int.reduceNeg, Int.zero_add, Int.add_zero, hFτ.c]; omega) (g81' ()) ?_
        by_cases q1 : kd = -1
        · exact rt_pos q1 (rt_ret (p1 q1))
        refine rt_neg q1 ?_
        refine rt_gx (x := 82) (by simp (disch := omega) only [true_and, and_true, sM_ne, sM_eq, sM_neR, sM_eqR, sK_upM, sK_upR, sL_upM, sL_upR, sN_upM, sN_upR, sT_upM, sT_upR, sN_upM, Int.reduceAdd, Int.reduceMul, Int.reduceSub, Int.reduceNeg, Int.zero_add, Int.add_zero, hFτ.c]) (by simp (disch := omega) only [true_and, and_true, sM_ne, sM_eq, sM_neR, sM_eqR, sK_upM, sK_upR, sL_upM, sL_upR, sN_upM, sN_upR, sT_upM, sT_upR, sN_upM, Int.reduceAdd, Int.reduceMul, Int.reduceSub, Int.reduceNeg, Int.zero_add, Int.add_zero, hFτ.c]) ?_
        refine rt_alx (x := z) (by simp (disch := omega) only [true_and, and_true, sM_ne, sM_eq, sM_neR, sM_eqR, sK_upM, sK_upR, sL_upM, sL_upR, sN_upM, sN_upR, sT_upM, sT_upR, sN_upM, Int.reduceAdd, Int.reduceMul, Int.reduceSub, Int.reduceNeg, Int.zero_add, Int.add_zero, hFτ.c]) (by simp (disch := omega) only [true_and, and_true, sM_ne, sM_eq, sM_neR, sM_eqR, sK_upM, sK_upR, sL_upM, sL_upR, sN_upM, sN_upR, sT_upM, sT_upR, sN_upM, Int.reduceAdd, Int.reduceMul, Int.reduceSub, Int.reduceNeg, Int.zero_add, Int.add_zero, hFτ.c]; omega) (g82' ()) ?_
        refine rt_gx (x := m) (by simp (disch := omega) only [true_and, and_true, sM_ne, sM_eq, sM_neR, sM_eqR, sK_upM, sK_upR, sL_upM, sL_upR, sN_upM, sN_upR, sT_upM, sT_upR, sN_upM, Int.reduceAdd, Int.reduceMul, Int.reduceSub, Int.reduceNeg, Int.zero_add, Int.add_zero, hFτ.c]) (g6' ()) (rt_jn ?_)
        have tail : (z = m) → ∀ b : Int, (if allC (fun i => sM σ 83 (40 * s + i)) m.toNat = true then (1 : Int) else 0) = b → Rt (if b = 0 then (some ((-2), τ)) else ((zg τ 12 64 8).bind (fun v37 => if v37 = 8 then (some ((-4), τ)) else ((zg τ 12 64 9).bind (fun v39 => (zg τ 12 64 8).bind (fun v40 => (zas τ 100 v39 v40 k).bind (fun s41 => (zg s41 12 64 10).bind (fun v42 => (zg s41 12 64 8).bind (fun v43 => (zg s41 12 64 6).bind (fun v44 => (zas s41 100 v42 v43 v44).bind (fun s45 => lX12_way_136 64 s (fun (s58 : ZS) => (zg s58 12 64 8).bind (fun v59 => (zp s58 12 64 8 (wrap (v59 + 1))).bind (fun s60 => (zg s60 12 64 8).bind (fun v61 => some ((wrap (v61 - 1)), s60))))) 1000 s45 0))))))))))) P := by
          intro hzm b hb
          by_cases q : allC (fun i => sM σ 83 (40 * s + i)) m.toNat = true
          · rw [if_pos q] at hb
            exact rt_neg (by omega) (p3 q1 hzm q)
          · rw [if_neg q] at hb
            exact rt_pos hb.symm (rt_ret (p2 q1 (Or.inr (by simpa using q))))
        by_cases hzm : z = m
        · refine rt_pos hzm ?_
          exact l_wy56 (k := k) hFτ hs.1 hs.2 g6 hm.1 hm.2 gf (tail hzm _ rfl) 1000 0 1 (by omega) (by omega) (Or.inl ⟨rfl, rfl⟩)
        · refine rt_neg hzm ?_
          show Rt (lX12_way_56 64 k s _ (999 + 1) τ 0 0) P
          rw [lX12_way_56]
          refine rt_gx (x := m) (by simp (disch := omega) only [true_and, and_true, sM_ne, sM_eq, sM_neR, sM_eqR, sK_upM, sK_upR, sL_upM, sL_upR, sN_upM, sN_upR, sT_upM, sT_upR, sN_upM, Int.reduceAdd, Int.reduceMul, Int.reduceSub, Int.reduceNeg, Int.zero_add, Int.add_zero, hFτ.c]) (g6' ()) ?_
          by_cases q0 : m ≤ 0
          · exact rt_pos q0 (rt_pos rfl (rt_ret (p2 q1 (Or.inl hzm))))
          · exact rt_neg q0 (rt_pos rfl (rt_pos rfl (rt_ret (p2 q1 (Or.inl hzm)))))
      have fl : ∀ i : Int, 0 ≤ i → i < 40 → sM σ (57 + 2 * s) i = sM σ 83 (40 * s + i) := c1
      by_cases q1 : kd = -1
      · rw [if_pos q1]
        exact rt_neg (by omega) (rt_ret (ref σ _ hF hkd hzz hmm hww (fun _ _ _ => rfl) (fun _ => fin0 h rfl) (fun q => absurd q1 q) (fun q => absurd q1 q)))
      rw [if_neg q1]
      refine rt_pos rfl (rt_gx (x := z) (kS ()) (e2 ()) ?_)
      refine rt_gx (x := 5) (by simp (disch := omega) only [true_and, and_true, sM_ne, sM_eq, sM_neR, sM_eqR, sK_upM, sK_upR, sL_upM, sL_upR, sN_upM, sN_upR, sT_upM, sT_upR, sN_upM, Int.reduceAdd, Int.reduceMul, Int.reduceSub, Int.reduceNeg, Int.zero_add, Int.add_zero, hF.c]) (by simp (disch := omega) only [true_and, and_true, sM_ne, sM_eq, sM_neR, sM_eqR, sK_upM, sK_upR, sL_upM, sL_upR, sN_upM, sN_upR, sT_upM, sT_upR, sN_upM, Int.reduceAdd, Int.reduceMul, Int.reduceSub, Int.reduceNeg, Int.zero_add, Int.add_zero, hF.c]) (rt_gx (x := m) (by simp (disch := omega) only [true_and, and_true, sM_ne, sM_eq, sM_neR, sM_eqR, sK_upM, sK_upR, sL_upM, sL_upR, sN_upM, sN_upR, sT_upM, sT_upR, sN_upM, Int.reduceAdd, Int.reduceMul, Int.reduceSub, Int.reduceNeg, Int.zero_add, Int.add_zero, hF.c]) (e57 ()) ?_)
      by_cases q2 : z = m
      · refine rt_pos q2 (rt_b ?_)
        unfold fX11_holdsChoices
        have e2z : sM σ (56 + 2 * s) 2 = z := e2 ()
        refine Rt.mono (l_hc2 (f := fun i => sM σ 83 (40 * s + i)) hF hs.1 hs.2 e2z b2 b3 fl 1000 0 (by omega) (by omega) rfl) ?_
        rintro b τ ⟨hb, rfl⟩
        rw [q2] at hb
        by_cases q3 : allC (fun i => sM τ 83 (40 * s + i)) m.toNat = true
        · rw [if_pos q3] at hb
          refine rt_neg (by omega) (rt_gx (x := w) (by simp (disch := omega) only [true_and, and_true, sM_ne, sM_eq, sM_neR, sM_eqR, sK_upM, sK_upR, sL_upM, sL_upR, sN_upM, sN_upR, sT_upM, sT_upR, sN_upM, Int.reduceAdd, Int.reduceMul, Int.reduceSub, Int.reduceNeg, Int.zero_add, Int.add_zero, hF.c]) (e33 ()) ?_)
          by_cases q4 : w < 8
          · refine rt_pos q4 ?_
            refine rt_gx (x := 5) (by simp (disch := omega) only [true_and, and_true, sM_ne, sM_eq, sM_neR, sM_eqR, sK_upM, sK_upR, sL_upM, sL_upR, sN_upM, sN_upR, sT_upM, sT_upR, sN_upM, Int.reduceAdd, Int.reduceMul, Int.reduceSub, Int.reduceNeg, Int.zero_add, Int.add_zero, hF.c]) (by simp (disch := omega) only [true_and, and_true, sM_ne, sM_eq, sM_neR, sM_eqR, sK_upM, sK_upR, sL_upM, sL_upR, sN_upM, sN_upR, sT_upM, sT_upR, sN_upM, Int.reduceAdd, Int.reduceMul, Int.reduceSub, Int.reduceNeg, Int.zero_add, Int.add_zero, hF.c]) (rt_gx (x := m) (by simp (disch := omega) only [true_and, and_true, sM_ne, sM_eq, sM_neR, sM_eqR, sK_upM, sK_upR, sL_upM, sL_upR, sN_upM, sN_upR, sT_upM, sT_upR, sN_upM, Int.reduceAdd, Int.reduceMul, Int.reduceSub, Int.reduceNeg, Int.zero_add, Int.add_zero, hF.c]) (e57 ()) ?_)
            refine rt_b (Rt.mono (f_newWay (m := m) hk.1 hk.2 (by omega)) ?_)
            rintro N σ1 ⟨rfl, n1, n2, n3, ⟨n4, n5⟩, n6, ⟨n7, n8, n9⟩, n10, n11, n12, n13⟩
            have hO1 : Off (fun _ _ => False) τ σ1 := ⟨fun a i ha _ => n1 a i ha, n2, n3, by omega⟩
            have hF1 := hF.off hO1 (fun a i q => False.elim q)
            have hwk : wkn σ1 (sN τ : Int) := by unfold wkn; rw [n6]; exact wk_w rfl hk.1 hk.2
            have k1S := hd (show sK σ1 (56 + 2 * s) = 6 by rw [n2 _ (by omega)]; exact kS ())
            refine rt_gx (x := 57 + 2 * s) (k1S ()) (by simp (disch := omega) only [true_and, and_true, sM_ne, sM_eq, sM_neR, sM_eqR, sK_upM, sK_upR, sL_upM, sL_upR, sN_upM, sN_upR, sT_upM, sT_upR, sN_upM, Int.reduceAdd, Int.reduceMul, Int.reduceSub, Int.reduceNeg, Int.zero_add, Int.add_zero, hF1.c]) ?_
            refine rt_gwx (x := (sN τ : Int) + 1) hwk n8 (rt_gwx (x := m) hwk n7 ?_)
            refine rt_cp (by simp (disch := omega) only [true_and, and_true, sM_ne, sM_eq, sM_neR, sM_eqR, sK_upM, sK_upR, sL_upM, sL_upR, sN_upM, sN_upR, sT_upM, sT_upR, sN_upM, Int.reduceAdd, Int.reduceMul, Int.reduceSub, Int.reduceNeg, Int.zero_add, Int.add_zero, hF1.c]) n10 (by rw [n12]; simp (disch := omega) only [true_and, and_true, sM_ne, sM_eq, sM_neR, sM_eqR, sK_upM, sK_upR, sL_upM, sL_upR, sN_upM, sN_upR, sT_upM, sT_upR, sN_upM, Int.reduceAdd, Int.reduceMul, Int.reduceSub, Int.reduceNeg, Int.zero_add, Int.add_zero, hF1.c]; omega) ?_
            have hO2 : Off (fun _ _ => False) τ (upR σ1 ((sN τ : Int) + 1) (fun k => if 0 ≤ k ∧ k < 0 + m then sM σ1 (57 + 2 * s) (0 + (k - 0)) else sM σ1 ((sN τ : Int) + 1) k)) := ⟨fun a i ha _ => by rw [sM_neR (by omega)]; exact n1 a i ha, n2, n3, by show sN τ ≤ sN σ1; omega⟩
            have hrow : ∀ i : Int, 0 ≤ i → i < m → sM (upR σ1 ((sN τ : Int) + 1) (fun k => if 0 ≤ k ∧ k < 0 + m then sM σ1 (57 + 2 * s) (0 + (k - 0)) else sM σ1 ((sN τ : Int) + 1) k)) ((sN τ : Int) + 1) i = sM τ 83 (40 * s + i) := by
              intro i i0 i1
              rw [sM_eqR rfl, if_pos (by omega), n1 _ _ (by omega), fl _ (by omega) (by omega)]
              congr 1
              omega
            have hnw : sK (upR σ1 ((sN τ : Int) + 1) (fun k => if 0 ≤ k ∧ k < 0 + m then sM σ1 (57 + 2 * s) (0 + (k - 0)) else sM σ1 ((sN τ : Int) + 1) k)) (sN τ : Int) = wk k ∧ sM (upR σ1 ((sN τ : Int) + 1) (fun k => if 0 ≤ k ∧ k < 0 + m then sM σ1 (57 + 2 * s) (0 + (k - 0)) else sM σ1 ((sN τ : Int) + 1) k)) (sN τ : Int) 0 = m ∧ sM (upR σ1 ((sN τ : Int) + 1) (fun k => if 0 ≤ k ∧ k < 0 + m then sM σ1 (57 + 2 * s) (0 + (k - 0)) else sM σ1 ((sN τ : Int) + 1) k)) (sN τ : Int) 1 = (sN τ : Int) + 1 ∧ sM (upR σ1 ((sN τ : Int) + 1) (fun k => if 0 ≤ k ∧ k < 0 + m then sM σ1 (57 + 2 * s) (0 + (k - 0)) else sM σ1 ((sN τ : Int) + 1) k)) (sN τ : Int) 2 = (sN τ : Int) + 2 := by
              rw [sM_neR (by omega), sM_neR (by omega), sM_neR (by omega)]
              exact ⟨n6, n7, n8, n9⟩
            have hsz : sN (upR σ1 ((sN τ : Int) + 1) (fun k => if 0 ≤ k ∧ k < 0 + m then sM σ1 (57 + 2 * s) (0 + (k - 0)) else sM σ1 ((sN τ : Int) + 1) k)) = sN τ + 3 ∧ sT (upR σ1 ((sN τ : Int) + 1) (fun k => if 0 ≤ k ∧ k < 0 + m then sM σ1 (57 + 2 * s) (0 + (k - 0)) else sM σ1 ((sN τ : Int) + 1) k)) = sT τ + 35 := ⟨n4, n5⟩
            have hkl : sK (upR σ1 ((sN τ : Int) + 1) (fun k => if 0 ≤ k ∧ k < 0 + m then sM σ1 (57 + 2 * s) (0 + (k - 0)) else sM σ1 ((sN τ : Int) + 1) k)) ((sN τ : Int) + 1) = 100 ∧ sK (upR σ1 ((sN τ : Int) + 1) (fun k => if 0 ≤ k ∧ k < 0 + m then sM σ1 (57 + 2 * s) (0 + (k - 0)) else sM σ1 ((sN τ : Int) + 1) k)) ((sN τ : Int) + 2) = 100 ∧ sL (upR σ1 ((sN τ : Int) + 1) (fun k => if 0 ≤ k ∧ k < 0 + m then sM σ1 (57 + 2 * s) (0 + (k - 0)) else sM σ1 ((sN τ : Int) + 1) k)) ((sN τ : Int) + 1) = 16 ∧ sL (upR σ1 ((sN τ : Int) + 1) (fun k => if 0 ≤ k ∧ k < 0 + m then sM σ1 (57 + 2 * s) (0 + (k - 0)) else sM σ1 ((sN τ : Int) + 1) k)) ((sN τ : Int) + 2) = 16 := ⟨n10, n11, n12, n13⟩
            generalize upR σ1 ((sN τ : Int) + 1) (fun k => if 0 ≤ k ∧ k < 0 + m then sM σ1 (57 + 2 * s) (0 + (k - 0)) else sM σ1 ((sN τ : Int) + 1) k) = σ2 at hO2 hrow hnw hsz hkl ⊢
            clear n1 n2 n3 n4 n5 n6 n7 n8 n9 n10 n11 n12 n13 hO1 hF1 hwk k1S
            have hF2 := hF.off hO2 (fun a i q => False.elim q)
            have o2 : ∀ a i : Int, a < (sN τ : Int) → sM σ2 a i = sM τ a i := fun a i ha => hO2.1 a i ha (fun q => q)
            have f33 := hd (show sM σ2 3 3 = w by rw [o2 _ _ (by omega)]; exact e33 ())
            refine rt_gx (x := 33) (by simp (disch := omega) only [true_and, and_true, sM_ne, sM_eq, sM_neR, sM_eqR, sK_upM, sK_upR, sL_upM, sL_upR, sN_upM, sN_upR, sT_upM, sT_upR, sN_upM, Int.reduceAdd, Int.reduceMul, Int.reduceSub, Int.reduceNeg, Int.zero_add, Int.add_zero, hF2.c]) (by simp (disch := omega) only [true_and, and_true, sM_ne, sM_eq, sM_neR, sM_eqR, sK_upM, sK_upR, sL_upM, sL_upR, sN_upM, sN_upR, sT_upM, sT_upR, sN_upM, Int.reduceAdd, Int.reduceMul, Int.reduceSub, Int.reduceNeg, Int.zero_add, Int.add_zero, hF2.c]) ?_
            refine rt_gx (x := w) (by simp (disch := omega) only [true_and, and_true, sM_ne, sM_eq, sM_neR, sM_eqR, sK_upM, sK_upR, sL_upM, sL_upR, sN_upM, sN_upR, sT_upM, sT_upR, sN_upM, Int.reduceAdd, Int.reduceMul, Int.reduceSub, Int.reduceNeg, Int.zero_add, Int.add_zero, hF2.c]) (f33 ()) ?_
            refine rt_ar (by simp (disch := omega) only [true_and, and_true, sM_ne, sM_eq, sM_neR, sM_eqR, sK_upM, sK_upR, sL_upM, sL_upR, sN_upM, sN_upR, sT_upM, sT_upR, sN_upM, Int.reduceAdd, Int.reduceMul, Int.reduceSub, Int.reduceNeg, Int.zero_add, Int.add_zero, hF2.c]) (by simp (disch := omega) only [true_and, and_true, sM_ne, sM_eq, sM_neR, sM_eqR, sK_upM, sK_upR, sL_upM, sL_upR, sN_upM, sN_upR, sT_upM, sT_upR, sN_upM, Int.reduceAdd, Int.reduceMul, Int.reduceSub, Int.reduceNeg, Int.zero_add, Int.add_zero, hF2.c]; omega) (by rw [hnw.1]; have := wk_w (c := wk k) rfl hk.1 hk.2; unfold okW; simp only [Bool.or_eq_true, decide_eq_true_eq]; omega) ?_
            refine rt_gx (x := w) (by simp (disch := omega) only [true_and, and_true, sM_ne, sM_eq, sM_neR, sM_eqR, sK_upM, sK_upR, sL_upM, sL_upR, sN_upM, sN_upR, sT_upM, sT_upR, sN_upM, Int.reduceAdd, Int.reduceMul, Int.reduceSub, Int.reduceNeg, Int.zero_add, Int.add_zero, hF2.c]) (by rw [sM_ne (by omega)]; exact f33 ()) ?_
            refine rt_p (by simp (disch := omega) only [true_and, and_true, sM_ne, sM_eq, sM_neR, sM_eqR, sK_upM, sK_upR, sL_upM, sL_upR, sN_upM, sN_upR, sT_upM, sT_upR, sN_upM, Int.reduceAdd, Int.reduceMul, Int.reduceSub, Int.reduceNeg, Int.zero_add, Int.add_zero, hF2.c]) (by omega) ?_
            have ew1 : wrap (w + 1) = w + 1 := wr (by omega) (by omega)
            have ew2 : wrap (w + 1 - 1) = w := by rw [wr (by omega) (by omega)]; omega
            rw [ew1]
            refine rt_gx (x := w + 1) (by simp (disch := omega) only [true_and, and_true, sM_ne, sM_eq, sM_neR, sM_eqR, sK_upM, sK_upR, sL_upM, sL_upR, sN_upM, sN_upR, sT_upM, sT_upR, sN_upM, Int.reduceAdd, Int.reduceMul, Int.reduceSub, Int.reduceNeg, Int.zero_add, Int.add_zero, hF2.c]) (sM_eq ⟨rfl, rfl⟩) (rt_ret ?_)
            rw [ew2]
            have hO3 : Ch (fun a i => (a = 33 ∧ i = w) ∨ (a = 3 ∧ i = 3)) σ2 (upM (upM σ2 33 w (sN τ : Int)) 3 3 (w + 1)) := (Ch.rf.up (Or.inl ⟨rfl, rfl⟩)).up (Or.inr ⟨rfl, rfl⟩)
            have v33 : sM (upM (upM σ2 33 w (sN τ : Int)) 3 3 (w + 1)) 33 w = (sN τ : Int) := by rw [sM_ne (by omega), sM_eq ⟨rfl, rfl⟩]
            have v3 : sM (upM (upM σ2 33 w (sN τ : Int)) 3 3 (w + 1)) 3 3 = w + 1 := sM_eq ⟨rfl, rfl⟩
            generalize upM (upM σ2 33 w (sN τ : Int)) 3 3 (w + 1) = σ3 at hO3 v33 v3 ⊢
            have hF3 := hO3.Fx hF2 (fun a i q => wyS_NF (w := w) a i (by unfold wyS; omega))
            have o3 : ∀ a i : Int, 64 ≤ a → a < (sN τ : Int) + 3 → sM σ3 a i = sM σ2 a i := fun a i ha hb => hO3.M (by omega) (by omega)
            have o23 : ∀ a i : Int, 64 ≤ a → a < 93 → sM σ3 a i = sM τ a i := fun a i ha hb => by rw [o3 a i ha (by omega), o2 a i (by omega)]
            refine ref σ3 _ hF3 (by rw [o23 _ _ (by omega) (by omega)]; exact hkd) (by rw [o23 _ _ (by omega) (by omega)]; exact hzz) (by rw [o23 _ _ (by omega) (by omega)]; exact hmm) (by rw [o23 _ _ (by omega) (by omega)]; exact hww) (fun i i0 i1 => o23 _ _ (by omega) (by omega)) (fun q => absurd q q1) (fun _ q => by rcases q with q | q; exact absurd q2 q; rw [q3] at q; cases q) (fun _ _ _ => ?_)
            have f8 := hd (show sM σ3 64 8 = w by rw [o23 _ _ (by omega) (by omega)]; exact hww)
            have f6 := hd (show sM σ3 64 6 = m by rw [o23 _ _ (by omega) (by omega)]; exact hmm)
            refine rt_gx (x := w) (by simp (disch := omega) only [true_and, and_true, sM_ne, sM_eq, sM_neR, sM_eqR, sK_upM, sK_upR, sL_upM, sL_upR, sN_upM, sN_upR, sT_upM, sT_upR, sN_upM, Int.reduceAdd, Int.reduceMul, Int.reduceSub, Int.reduceNeg, Int.zero_add, Int.add_zero, hF3.c]) (f8 ()) (rt_neg (by omega) ?_)
            refine rt_gx (x := 71) (by simp (disch := omega) only [true_and, and_true, sM_ne, sM_eq, sM_neR, sM_eqR, sK_upM, sK_upR, sL_upM, sL_upR, sN_upM, sN_upR, sT_upM, sT_upR, sN_upM, Int.reduceAdd, Int.reduceMul, Int.reduceSub, Int.reduceNeg, Int.zero_add, Int.add_zero, hF3.c]) (by simp (disch := omega) only [true_and, and_true, sM_ne, sM_eq, sM_neR, sM_eqR, sK_upM, sK_upR, sL_upM, sL_upR, sN_upM, sN_upR, sT_upM, sT_upR, sN_upM, Int.reduceAdd, Int.reduceMul, Int.reduceSub, Int.reduceNeg, Int.zero_add, Int.add_zero, hF3.c]) (rt_gx (x := w) (by simp (disch := omega) only [true_and, and_true, sM_ne, sM_eq, sM_neR, sM_eqR, sK_upM, sK_upR, sL_upM, sL_upR, sN_upM, sN_upR, sT_upM, sT_upR, sN_upM, Int.reduceAdd, Int.reduceMul, Int.reduceSub, Int.reduceNeg, Int.zero_add, Int.add_zero, hF3.c]) (f8 ()) ?_)
            refine rt_as (by simp (disch := omega) only [true_and, and_true, sM_ne, sM_eq, sM_neR, sM_eqR, sK_upM, sK_upR, sL_upM, sL_upR, sN_upM, sN_upR, sT_upM, sT_upR, sN_upM, Int.reduceAdd, Int.reduceMul, Int.reduceSub, Int.reduceNeg, Int.zero_add, Int.add_zero, hF3.c]) (by simp (disch := omega) only [true_and, and_true, sM_ne, sM_eq, sM_neR, sM_eqR, sK_upM, sK_upR, sL_upM, sL_upR, sN_upM, sN_upR, sT_upM, sT_upR, sN_upM, Int.reduceAdd, Int.reduceMul, Int.reduceSub, Int.reduceNeg, Int.zero_add, Int.add_zero, hF3.c]; omega) ?_
            refine rt_gx (x := 72) (by simp (disch := omega) only [true_and, and_true, sM_ne, sM_eq, sM_neR, sM_eqR, sK_upM, sK_upR, sL_upM, sL_upR, sN_upM, sN_upR, sT_upM, sT_upR, sN_upM, Int.reduceAdd, Int.reduceMul, Int.reduceSub, Int.reduceNeg, Int.zero_add, Int.add_zero, hF3.c]) (by simp (disch := omega) only [true_and, and_true, sM_ne, sM_eq, sM_neR, sM_eqR, sK_upM, sK_upR, sL_upM, sL_upR, sN_upM, sN_upR, sT_upM, sT_upR, sN_upM, Int.reduceAdd, Int.reduceMul, Int.reduceSub, Int.reduceNeg, Int.zero_add, Int.add_zero, hF3.c]) ?_
            refine rt_gx (x := w) (by simp (disch := omega) only [true_and, and_true, sM_ne, sM_eq, sM_neR, sM_eqR, sK_upM, sK_upR, sL_upM, sL_upR, sN_upM, sN_upR, sT_upM, sT_upR, sN_upM, Int.reduceAdd, Int.reduceMul, Int.reduceSub, Int.reduceNeg, Int.zero_add, Int.add_zero, hF3.c]) (by rw [sM_ne (by omega)]; exact f8 ()) ?_
            refine rt_gx (x := m) (by simp (disch := omega) only [true_and, and_true, sM_ne, sM_eq, sM_neR, sM_eqR, sK_upM, sK_upR, sL_upM, sL_upR, sN_upM, sN_upR, sT_upM, sT_upR, sN_upM, Int.reduceAdd, Int.reduceMul, Int.reduceSub, Int.reduceNeg, Int.zero_add, Int.add_zero, hF3.c]) (by rw [sM_ne (by omega)]; exact f6 ()) ?_
            refine rt_as (by simp (disch := omega) only [true_and, and_true, sM_ne, sM_eq, sM_neR, sM_eqR, sK_upM, sK_upR, sL_upM, sL_upR, sN_upM, sN_upR, sT_upM, sT_upR, sN_upM, Int.reduceAdd, Int.reduceMul, Int.reduceSub, Int.reduceNeg, Int.zero_add, Int.add_zero, hF3.c]) (by simp (disch := omega) only [true_and, and_true, sM_ne, sM_eq, sM_neR, sM_eqR, sK_upM, sK_upR, sL_upM, sL_upR, sN_upM, sN_upR, sT_upM, sT_upR, sN_upM, Int.reduceAdd, Int.reduceMul, Int.reduceSub, Int.reduceNeg, Int.zero_add, Int.add_zero, hF3.c]; omega) ?_
            have hO4 : Ch (fun a i => (71 ≤ a ∧ a ≤ 72) ∧ i = w) σ3 (upM (upM σ3 71 w k) 72 w m) := (Ch.rf.up (by omega)).up (by omega)
            have v71 : sM (upM (upM σ3 71 w k) 72 w m) 71 w = k := by rw [sM_ne (by omega), sM_eq ⟨rfl, rfl⟩]
            have v72 : sM (upM (upM σ3 71 w k) 72 w m) 72 w = m := sM_eq ⟨rfl, rfl⟩
            generalize upM (upM σ3 71 w k) 72 w m = σ4 at hO4 v71 v72 ⊢
            have hF4 := hO4.Fx hF3 (fun a i q => NF_i (by omega))
            have hn3 := hO3.2.1
            have hn4 := hO4.2.1
            refine l_wy136 (σ := σ4) (m := m) (w := w) (f := fun i => sM τ 83 (40 * s + i)) hs.1 hs.2 hm.1 hm.2 h8.1 q4 (fun σ5 hF5 hc5 hr5 => ?_) 1000 0 σ4 hF4 (by omega) (by omega) Ch.rf (by rw [hO4.M (by omega) (by omega)]; exact f6 ()) (by rw [hO4.M (by omega) (by omega)]; exact f8 ()) (fun i i0 i1 => by rw [hO4.M (by omega) (by omega)]; exact o23 _ _ (by omega) (by omega)) (fun i i0 i1 => by omega)
            have hn5 := hc5.2.1
            have g8 := hd (show sM σ5 64 8 = w by rw [hc5.M (by omega) (by omega), hO4.M (by omega) (by omega)]; exact f8 ())
            refine rt_gx (x := w) (by simp (disch := omega) only [true_and, and_true, sM_ne, sM_eq, sM_neR, sM_eqR, sK_upM, sK_upR, sL_upM, sL_upR, sN_upM, sN_upR, sT_upM, sT_upR, sN_upM, Int.reduceAdd, Int.reduceMul, Int.reduceSub, Int.reduceNeg, Int.zero_add, Int.add_zero, hF5.c]) (g8 ()) ?_
            rw [ew1]
            refine rt_p (by simp (disch := omega) only [true_and, and_true, sM_ne, sM_eq, sM_neR, sM_eqR, sK_upM, sK_upR, sL_upM, sL_upR, sN_upM, sN_upR, sT_upM, sT_upR, sN_upM, Int.reduceAdd, Int.reduceMul, Int.reduceSub, Int.reduceNeg, Int.zero_add, Int.add_zero, hF5.c]) (by omega) ?_
            refine rt_gx (x := w + 1) (by simp (disch := omega) only [true_and, and_true, sM_ne, sM_eq, sM_neR, sM_eqR, sK_upM, sK_upR, sL_upM, sL_upR, sN_upM, sN_upR, sT_upM, sT_upR, sN_upM, Int.reduceAdd, Int.reduceMul, Int.reduceSub, Int.reduceNeg, Int.zero_add, Int.add_zero, hF5.c]) (sM_eq ⟨rfl, rfl⟩) (rt_ret ?_)
            rw [ew2]
            have hc25 : Ch (wyS w) σ2 (upM σ5 64 8 (w + 1)) := (((hO3.mono (fun a i q => by unfold wyS; omega)).tr (hO4.mono (fun a i q => by unfold wyS; omega))).tr (hc5.mono (fun a i q => by unfold wyS; omega))).up (by unfold wyS; omega)
            have hOall : Off (wyS w) τ (upM σ5 64 8 (w + 1)) := (hO2.mono (fun a i q => False.elim q)).tr hc25.1
            have big : ∀ a i : Int, (sN τ : Int) ≤ a → a < (sN τ : Int) + 3 → sM (upM σ5 64 8 (w + 1)) a i = sM σ2 a i := fun a i ha hb => hc25.M (by omega) (by unfold wyS; omega)
            refine ⟨rfl, h.newWay (N := (sN τ : Int)) hww q4 hOall (by omega) ?_ ?_ (sM_eq ⟨rfl, rfl⟩) ?_ ?_, ?_, ?_⟩
            · rw [sM_ne (by omega), hc5.M (by omega) (by omega), hO4.M (by omega) (by omega)]; exact v33
            · rw [sM_ne (by omega), hc5.M (by omega) (by omega), hO4.M (by omega) (by omega)]; exact v3
            · unfold RWayAt
              have y71 : sM (upM σ5 64 8 (w + 1)) 71 w = k := by rw [sM_ne (by omega), hc5.M (by omega) (by omega)]; exact v71
              have y72 : sM (upM σ5 64 8 (w + 1)) 72 w = m := by rw [sM_ne (by omega), hc5.M (by omega) (by omega)]; exact v72
              rw [y71, y72, hc25.K (by omega), hc25.K (by omega), hc25.K (by omega), hc25.L (by omega), hc25.L (by omega), big _ 0 (by omega) (by omega), big _ 1 (by omega) (by omega), big _ 2 (by omega) (by omega)]
              refine ⟨⟨by omega, by have := hc25.2.1; omega⟩, hk, hnw.1, ⟨hnw.2.1, hm⟩, hnw.2.2, ⟨hkl.1, hkl.2.1, hkl.2.2.1, hkl.2.2.2⟩, fun c c0 c1 => ?_⟩
              rw [big _ c (by omega) (by omega), hrow c c0 c1, sM_ne (by omega), hr5 c c0 c1]
              exact ⟨rfl, allC_mem (f := fun i => sM τ 83 (40 * s + i)) _ q3 c c0 (by omega)⟩
            · rw [sM_ne (by omega), hc5.M (by omega) (by omega), v72]; exact hmm.symm
            · have := hc25.2.1
              omega
            · have := hc25.2.2
              omega
          · refine rt_neg q4 (rt_ret (ref τ _ hF hkd hzz hmm hww (fun _ _ _ => rfl) (fun q => absurd q q1) (fun _ q => by rcases q with q | q; exact absurd q2 q; rw [q3] at q; cases q) (fun _ _ _ => ?_)))
            exact rt_gx (x := w) (by simp (disch := omega) only [true_and, and_true, sM_ne, sM_eq, sM_neR, sM_eqR, sK_upM, sK_upR, sL_upM, sL_upR, sN_upM, sN_upR, sT_upM, sT_upR, sN_upM, Int.reduceAdd, Int.reduceMul, Int.reduceSub, Int.reduceNeg, Int.zero_add, Int.add_zero, hF.c]) (e8 ()) (rt_pos (by omega) (rt_ret (fin0 h rfl)))
        · rw [if_neg q3] at hb
          exact rt_pos hb (rt_ret (ref τ _ hF hkd hzz hmm hww (fun _ _ _ => rfl) (fun q => absurd q q1) (fun _ _ => fin0 h rfl) (fun _ _ q => absurd q q3)))
      · exact rt_neg q2 (rt_ret (ref σ _ hF hkd hzz hmm hww (fun _ _ _ => rfl) (fun q => absurd q q1) (fun _ _ => fin0 h rfl) (fun _ q => absurd q q2)))
    · rw [if_neg hs]
      exact rt_pos rfl (rt_ret (bad (fun q => hs q.2)))
  · rw [if_neg hk]
    exact rt_pos rfl (rt_ret (bad (fun q => hk q.1)))
