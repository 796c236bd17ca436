/-! a text: both -/
theorem cl_wp {T : Nat → Int} (hT0 : ∀ i, 0 ≤ T i) {w : Int} {i : Nat} (h : (cl T w i).1 = true) : dpk 0 (cl T w i).2.2 = true := by
  unfold cl at h ⊢
  by_cases q : T i = w
  · rw [if_pos q] at h ⊢
    obtain ⟨q2, e⟩ := rdB_t h
    rw [e] at h ⊢
    by_cases q3 : T (rd T 60 0 0 (i + 1)).2.1 = 20059
    · simp only [if_pos q3]
      have := rd_wp hT0 60 0 0 (i + 1) (by omega) (by omega) (by omega) q2 0 [] (by unfold dD; omega)
      rw [List.append_nil] at this
      rw [this]
      rfl
    · simp only [if_neg q3] at h; cases h
  · rw [if_neg q] at h; cases h
theorem rowL_eq {g : Int → Int} : ∀ (A : List Int), (∀ j : Nat, j < A.length → g (j : Int) = A.getD j 0) → rowL g A.length = A := by
  intro A h
  apply List.ext_getElem
  · rw [rowL_len]
  · intro j h1 h2
    have e1 := rowL_get g A.length j h2
    rw [List.getD_eq_getElem?_getD, List.getElem?_eq_getElem h1] at e1
    have e2 := h j h2
    rw [List.getD_eq_getElem?_getD, List.getElem?_eq_getElem h2] at e2
    exact e1.trans e2
theorem map_getD {L : List Int} {j : Nat} (h : j < L.length) : (L.map cv).getD j 0 = cv (L.getD j 0) := by
  rw [List.getD_eq_getElem?_getD, List.getD_eq_getElem?_getD, List.getElem?_map, List.getElem?_eq_getElem h]
  rfl
def ttS (t a i : Int) : Prop := scr a i ∨ (a = 34 ∧ i = 1) ∨ (a = 64 ∧ (i = 13 ∨ i = 16)) ∨ (a = 3 ∧ i = 6) ∨ (a = 39 ∧ i = t) ∨ (a = 75 ∧ 200 * t ≤ i) ∨ (a = 76 ∧ 4 * t ≤ i)
theorem ttS_NF {t : Int} : ∀ a i, ttS t a i → NFb a i = true := by
  intro a i q
  rcases q with q | ⟨rfl, q⟩ | ⟨rfl, q⟩ | ⟨rfl, q⟩ | q | q | q
  · exact scr_NF a i q
  · exact NF_34 (by omega)
  · exact NF_64 (by omega)
  · exact NF_3 (by omega)
  · exact NF_i (by omega)
  · exact NF_i (by omega)
  · exact NF_i (by omega)
theorem RTx.old {σ τ : ZS} {t t' T p : Int} (hF : FxD σ) (hT : (T = 55 ∨ 93 ≤ T) ∧ T < (sN σ : Int)) (k : Off (ttS t) σ τ) (t0 : 0 ≤ t') (t1 : t' < t) (hp : p = 0 ∨ p = 1) (h : RTx σ t' T p) : RTx τ t' T p := by
  have h9 := hF.2.2.2
  obtain ⟨⟨a1, a2, a3, a4⟩, ⟨b1, b2, b3, b4⟩, c, d⟩ := h
  have hn := k.2.2.2
  have eT : sM τ T p = sM σ T p := k.1 T p hT.2 (by unfold ttS scr; omega)
  have eL : sL τ (sM σ T p) = sL σ (sM σ T p) := k.2.2.1 _ a4
  have eK : sK τ (sM σ T p) = sK σ (sM σ T p) := k.2.1 _ a4
  have eP : sM τ (sM σ T p) = sM σ (sM σ T p) := funext (fun i => k.1 _ i a4 (by unfold ttS scr; omega))
  have e76 : sM τ 76 (4 * t' + p) = sM σ 76 (4 * t' + p) := k.1 _ _ (by omega) (by unfold ttS scr; omega)
  have e77 : sM τ 76 (4 * t' + p + 1) = sM σ 76 (4 * t' + p + 1) := k.1 _ _ (by omega) (by unfold ttS scr; omega)
  unfold RTx
  rw [eT, eL, eP, eK, e76, e77]
  refine ⟨⟨a1, a2, a3, by omega⟩, ⟨b1, b2, b3, b4⟩, fun i i0 i1 => ?_, d⟩
  rw [k.1 75 _ (by omega) (by unfold ttS scr; omega)]
  exact c i i0 i1
theorem Rel.txt {σ ρ : ZS} (h : Rel σ) {t : Int} (ht : sM σ 64 16 = t) (k : Off (ttS t) σ ρ) (h34 : sM ρ 34 1 = 0) (h13 : sM ρ 64 13 = 0) (hN : (sM ρ 64 16 = t ∧ sM ρ 3 6 = t) ∨ (sM ρ 64 16 = t + 1 ∧ sM ρ 3 6 = t + 1 ∧ t < 6 ∧ RTextAt ρ t (sM ρ 39 t))) : Rel ρ := by
  obtain ⟨hF, h1, h2, h3, h4, h5, h6, h7, h8, h10, h11⟩ := h
  have h9 := hF.2.2.2
  have e : ∀ a i, a < 93 → ¬ ttS t a i → sM ρ a i = sM σ a i := fun a i ha hs => k.1 a i (by omega) hs
  have hold : ∀ t' : Int, 0 ≤ t' → t' < t → RTextAt ρ t' (sM ρ 39 t') := by
    intro t' t0 t1
    rw [e 39 t' (by omega) (by unfold ttS scr; omega)]
    obtain ⟨⟨q1, q2, q3⟩, r0, r1⟩ := h6.2.2 t' t0 (by omega)
    have hn := k.2.2.2
    exact ⟨⟨by rw [k.2.1 _ q3]; exact q1, q2, by omega⟩, r0.old hF ⟨q2, q3⟩ k t0 t1 (Or.inl rfl), r1.old hF ⟨q2, q3⟩ k t0 t1 (Or.inr rfl)⟩
  have h16 : t ≤ sM ρ 64 16 := by omega
  refine ⟨hF.off k ttS_NF, h1.off hF k (fun a i p s => ?_), h2.off hF k (fun a i p s => ?_), h3.off hF k (fun a i p s => ?_), h4.off hF k (fun a i p s => ?_), ⟨by rw [h34, h13], by omega, fun i i0 i1 => by omega, ?_⟩, ?_, ?_, ?_, h10.off hF k (fun a i p s => ?_), h11.off hF k (fun i s => ?_)⟩
  · unfold pGate at p; unfold ttS scr at s; omega
  · unfold pSort at p; unfold ttS scr at s; omega
  · unfold pCart at p; unfold ttS scr at s; omega
  · unfold pWay at p; unfold ttS scr at s; omega
  · refine RCap.off hF k (fun a i p s => by unfold ttS scr at s; omega) ?_ h5.2.2.2
    rw [e 64 2 (by omega) (by unfold ttS scr; omega)]
    exact Int.le_refl _
  · obtain ⟨g1, ⟨g2, g3⟩, g4⟩ := h6
    rcases hN with ⟨n1, n2⟩ | ⟨n1, n2, n3, n4⟩
    · refine ⟨by rw [n1, n2], by omega, fun t' t0 t1 => hold t' t0 (by omega)⟩
    · refine ⟨by rw [n1, n2], by omega, fun t' t0 t1 => ?_⟩
      by_cases q : t' = t
      · rw [q]; exact n4
      · exact hold t' t0 (by omega)
  · obtain ⟨g1, g2, g3⟩ := h7
    unfold RRule
    rw [e 3 7 (by omega) (by unfold ttS scr; omega), e 64 17 (by omega) (by unfold ttS scr; omega)]
    exact ⟨g1, g2, by omega⟩
  · unfold RImg
    rw [e 3 10 (by omega) (by unfold ttS scr; omega), e 64 18 (by omega) (by unfold ttS scr; omega), e 3 11 (by omega) (by unfold ttS scr; omega), e 64 19 (by omega) (by unfold ttS scr; omega), e 3 12 (by omega) (by unfold ttS scr; omega), e 64 20 (by omega) (by unfold ttS scr; omega), e 64 8 (by omega) (by unfold ttS scr; omega), e 3 13 (by omega) (by unfold ttS scr; omega), e 64 21 (by omega) (by unfold ttS scr; omega)]
    refine ⟨h8.1, h8.2.imp id ?_⟩
    rintro ⟨a1, a2, a3, ⟨b1, b2, b3⟩, a5, a6, a7⟩
    refine ⟨a1, a2, a3, ⟨b1, b2, by omega⟩, fun g u g0 g1 u0 u1 => ?_, fun s s0 s1 => ?_, fun w c w0 w1 c0 c1 => ?_⟩
    · rw [e (43 + g) u (by omega) (by unfold ttS scr; omega), e (46 + g) u (by omega) (by unfold ttS scr; omega), e 77 _ (by omega) (by unfold ttS scr; omega), e 78 _ (by omega) (by unfold ttS scr; omega)]
      exact a5 g u g0 g1 u0 u1
    · rw [e 51 s (by omega) (by unfold ttS scr; omega), e 79 s (by omega) (by unfold ttS scr; omega)]
      exact a6 s s0 s1
    · have hv := (h4.2.2.1 w w0 (by omega)).1
      rw [e 72 w (by omega) (by unfold ttS scr; omega)] at c1
      rw [e 33 w (by omega) (by unfold ttS scr; omega), e 80 _ (by omega) (by unfold ttS scr; omega), k.1 (sM σ 33 w + 2) c (by omega) (by unfold ttS scr; omega)]
      exact a7 w c w0 w1 c0 c1
  · unfold pSheet at p; unfold ttS scr at s; omega
  · unfold ttS scr at s; omega
theorem scr_34 {i : Int} (h : i = 2 ∨ i = 5 ∨ i = 6 ∨ i = 8) : scr 34 i := by unfold scr; omega
theorem scr_rd {a i : Int} (h : 36 ≤ a ∧ a ≤ 38) : scr a i := by unfold scr; omega
theorem scr_md {a i : Int} (h : 85 ≤ a ∧ a ≤ 92) : scr a i := by unfold scr; omega
theorem scr_64 {i : Int} (h : (29 ≤ i ∧ i ≤ 32) ∨ (35 ≤ i ∧ i ≤ 37)) : scr 64 i := by unfold scr; omega
theorem rt_tt {t : Int} : ∀ a i, rtS a i → ttS t a i := by
  intro a i q
  rcases q with (⟨rfl, q⟩ | q | q) | (⟨rfl, q⟩ | q) | q
  · exact Or.inl (scr_34 (by omega))
  · exact Or.inl (scr_rd (by omega))
  · exact Or.inl (scr_rd (by omega))
  · exact Or.inl (scr_34 (by omega))
  · exact Or.inl (scr_rd (by omega))
  · exact Or.inr (Or.inl q)
theorem t2_tt {t : Int} : ∀ a i, t2S t a i → ttS t a i := by
  intro a i q
  rcases q with ((⟨rfl, q⟩ | q | q) | q) | q
  · exact Or.inl (scr_64 q)
  · exact Or.inl (scr_md (by omega))
  · exact Or.inr (Or.inr (Or.inr (Or.inr (Or.inr (Or.inl q)))))
  · exact Or.inr (Or.inr (Or.inr (Or.inr (Or.inr (Or.inr ⟨q.1, q.2.1⟩)))))
  · exact Or.inr (Or.inr (Or.inl q))
theorem q_text {σ : ZS} (h : Rel σ) : Rt (fX11_text σ 3) (fun x τ => Rt (fX12_text τ 64) (fun y ρ => Fin σ x y ρ)) := by
  have hF := h.F
  have h9 := hF.2.2.2
  obtain ⟨t1, ⟨t2, t3⟩, t4, t5⟩ := h.Ta
  obtain ⟨g1, ⟨g2, g3⟩, g4⟩ := h.Te
  generalize htt : sM σ 64 16 = t at *
  generalize hzz : sM σ 64 13 = z at *
  have e36 := hd g1
  have e16 := hd htt
  have htp : TPX (sM σ 35) z σ := ⟨hF, t1, ⟨t2, t3⟩, fun j j0 j1 => ⟨rfl, by have := t4 j j0 j1; omega⟩⟩
  unfold fX11_text
  refine rt_gx (x := t) (by simp (disch := omega) only [true_and, and_true, sM_ne, sM_eq, sM_neR, sM_eqR, sK_upM, sK_upR, sL_upM, sL_upR, sN_upM, sN_upR, sT_upM, sT_upR, sN_upM, Int.reduceAdd, Int.reduceMul, Int.reduceSub, Int.reduceNeg, Int.zero_add, Int.add_zero, hF.c]) (e36 ()) ?_
  by_cases t6 : t < 6
  · refine rt_pos t6 (rt_gx (x := 34) (by simp (disch := omega) only [true_and, and_true, sM_ne, sM_eq, sM_neR, sM_eqR, sK_upM, sK_upR, sL_upM, sL_upR, sN_upM, sN_upR, sT_upM, sT_upR, sN_upM, Int.reduceAdd, Int.reduceMul, Int.reduceSub, Int.reduceNeg, Int.zero_add, Int.add_zero, hF.c]) (by simp (disch := omega) only [true_and, and_true, sM_ne, sM_eq, sM_neR, sM_eqR, sK_upM, sK_upR, sL_upM, sL_upR, sN_upM, sN_upR, sT_upM, sT_upR, sN_upM, Int.reduceAdd, Int.reduceMul, Int.reduceSub, Int.reduceNeg, Int.zero_add, Int.add_zero, hF.c]) (rt_b (rt_v (by simp (disch := omega) only [true_and, and_true, sM_ne, sM_eq, sM_neR, sM_eqR, sK_upM, sK_upR, sL_upM, sL_upR, sN_upM, sN_upR, sT_upM, sT_upR, sN_upM, Int.reduceAdd, Int.reduceMul, Int.reduceSub, Int.reduceNeg, Int.zero_add, Int.add_zero, hF.c]) ?_)))
    refine Rt.mono (f_readTape htp) ?_
    rintro v τ ⟨k, T, S, htok, h34, hh⟩
    rcases hh with ⟨ok, rfl, hnt⟩ | ⟨ok, rfl, cτ, hS2, hS0⟩
    · obtain ⟨hO, ⟨n1, n2⟩, ⟨k8, m0, m1⟩, ⟨kA, lA, rA⟩, ⟨kB, lB, rB⟩⟩ := hnt
      have hFτ := hO.2
      have hFτ := hF.off hO rtS_NF
      refine rt_neg (by omega) ?_
      have o : ∀ a i : Int, a < (sN σ : Int) → ¬ rtS a i → sM τ a i = sM σ a i := fun a i ha hs => hO.1 a i ha hs
      have f36 := hd (show sM τ 3 6 = t by rw [o 3 6 (by omega) (by unfold rtS scS rdS; omega)]; exact e36 ())
      refine rt_gx (x := 39) (by simp (disch := omega) only [true_and, and_true, sM_ne, sM_eq, sM_neR, sM_eqR, sK_upM, sK_upR, sL_upM, sL_upR, sN_upM, sN_upR, sT_upM, sT_upR, sN_upM, Int.reduceAdd, Int.reduceMul, Int.reduceSub, Int.reduceNeg, Int.zero_add, Int.add_zero, hFτ.c]) (by simp (disch := omega) only [true_and, and_true, sM_ne, sM_eq, sM_neR, sM_eqR, sK_upM, sK_upR, sL_upM, sL_upR, sN_upM, sN_upR, sT_upM, sT_upR, sN_upM, Int.reduceAdd, Int.reduceMul, Int.reduceSub, Int.reduceNeg, Int.zero_add, Int.add_zero, hFτ.c]) (rt_gx (x := t) (by simp (disch := omega) only [true_and, and_true, sM_ne, sM_eq, sM_neR, sM_eqR, sK_upM, sK_upR, sL_upM, sL_upR, sN_upM, sN_upR, sT_upM, sT_upR, sN_upM, Int.reduceAdd, Int.reduceMul, Int.reduceSub, Int.reduceNeg, Int.zero_add, Int.add_zero, hFτ.c]) (f36 ()) ?_)
      refine rt_ar (by simp (disch := omega) only [true_and, and_true, sM_ne, sM_eq, sM_neR, sM_eqR, sK_upM, sK_upR, sL_upM, sL_upR, sN_upM, sN_upR, sT_upM, sT_upR, sN_upM, Int.reduceAdd, Int.reduceMul, Int.reduceSub, Int.reduceNeg, Int.zero_add, Int.add_zero, hFτ.c]) (by simp (disch := omega) only [true_and, and_true, sM_ne, sM_eq, sM_neR, sM_eqR, sK_upM, sK_upR, sL_upM, sL_upR, sN_upM, sN_upR, sT_upM, sT_upR, sN_upM, Int.reduceAdd, Int.reduceMul, Int.reduceSub, Int.reduceNeg, Int.zero_add, Int.add_zero, hFτ.c]; omega) (by rw [k8]; decide) ?_
      refine rt_gx (x := t) (by simp (disch := omega) only [true_and, and_true, sM_ne, sM_eq, sM_neR, sM_eqR, sK_upM, sK_upR, sL_upM, sL_upR, sN_upM, sN_upR, sT_upM, sT_upR, sN_upM, Int.reduceAdd, Int.reduceMul, Int.reduceSub, Int.reduceNeg, Int.zero_add, Int.add_zero, hFτ.c]) (by rw [sM_ne (by omega)]; exact f36 ()) ?_
      have ew1 : wrap (t + 1) = t + 1 := wr (by omega) (by omega)
      have ew2 : wrap (t + 1 - 1) = t := by rw [wr (by omega) (by omega)]; omega
      rw [ew1]
      refine rt_p (by simp (disch := omega) only [true_and, and_true, sM_ne, sM_eq, sM_neR, sM_eqR, sK_upM, sK_upR, sL_upM, sL_upR, sN_upM, sN_upR, sT_upM, sT_upR, sN_upM, Int.reduceAdd, Int.reduceMul, Int.reduceSub, Int.reduceNeg, Int.zero_add, Int.add_zero, hFτ.c]) (by omega) (rt_gx (x := t + 1) (by simp (disch := omega) only [true_and, and_true, sM_ne, sM_eq, sM_neR, sM_eqR, sK_upM, sK_upR, sL_upM, sL_upR, sN_upM, sN_upR, sT_upM, sT_upR, sN_upM, Int.reduceAdd, Int.reduceMul, Int.reduceSub, Int.reduceNeg, Int.zero_add, Int.add_zero, hFτ.c]) (sM_eq ⟨rfl, rfl⟩) (rt_ret ?_))
      rw [ew2]
      have c2 : Ch (fun a i => (a = 39 ∧ i = t) ∨ (a = 3 ∧ i = 6)) τ (upM (upM τ 39 t (sN σ : Int)) 3 6 (t + 1)) := (Ch.rf.up (Or.inl ⟨rfl, rfl⟩)).up (Or.inr ⟨rfl, rfl⟩)
      have v39 : sM (upM (upM τ 39 t (sN σ : Int)) 3 6 (t + 1)) 39 t = (sN σ : Int) := by rw [sM_ne (by omega), sM_eq ⟨rfl, rfl⟩]
      have v36 : sM (upM (upM τ 39 t (sN σ : Int)) 3 6 (t + 1)) 3 6 = t + 1 := sM_eq ⟨rfl, rfl⟩
      generalize upM (upM τ 39 t (sN σ : Int)) 3 6 (t + 1) = τ2 at c2 v39 v36 ⊢
      have hF2 := c2.Fx hFτ (fun a i q => by
        rcases q with q | ⟨rfl, q⟩
        · exact NF_i (by omega)
        · exact NF_3 (by omega))
      have hn2 := c2.2.1
      have o2 : ∀ a i : Int, 40 ≤ a → a < (sN σ : Int) → sM τ2 a i = sM σ a i := fun a i ha hb => by rw [c2.M (by omega) (by omega), o a i hb (by unfold rtS scS rdS; omega)]
      have hp2 : TPC (sM σ 35) z τ2 := ⟨hF2, by rw [o2 _ _ (by omega) (by omega)]; exact hzz, fun j j0 j1 => by rw [o2 _ _ (by omega) (by omega)]; exact (t4 j j0 j1).1.symm⟩
      refine Rt.mono (f_textM ⟨t2, t3⟩ htok hp2 (by rw [o2 _ _ (by omega) (by omega)]; exact htt) (by omega) t6) ?_
      rintro y ρ ⟨cρ, hFρ, z13, hh⟩
      rcases hh with ⟨-, rfl, p16, ⟨r0, r1, r2⟩, hlen, r75⟩ | ⟨nok, -⟩
      · have hT0 : ∀ i, 0 ≤ T i := fun i => by have := tok_is htok i; unfold isT at this; omega
        have hall : Off (ttS y) σ ρ := ((hO.mono rt_tt).tr (c2.1.mono (fun a i q => by unfold ttS; omega))).tr (cρ.1.mono t2_tt)
        have hi : ∀ a i : Int, (sN σ : Int) ≤ a → a < (sN σ : Int) + 3 → sM ρ a i = sM τ a i := fun a i ha hb => by rw [cρ.M (by omega) (by unfold t2S txS opS; omega), c2.M (by omega) (by omega)]
        have hiK : ∀ a : Int, (sN σ : Int) ≤ a → a < (sN σ : Int) + 3 → sK ρ a = sK τ a ∧ sL ρ a = sL τ a := fun a ha hb => ⟨by rw [cρ.K (by omega), c2.K (by omega)], by rw [cρ.L (by omega), c2.L (by omega)]⟩
        have hnρ := cρ.2.1
        have htρ := cρ.2.2
        have ht2 := c2.2.2
        have hx : (cl T 10006 0).1 = true ∧ (cl T 10007 (cl T 10006 0).2.1).1 = true := by
          unfold txF at ok
          by_cases y1 : (cl T 10006 0).1 = true
          · rw [if_pos y1] at ok
            by_cases y2 : (cl T 10007 (cl T 10006 0).2.1).1 = true
            · exact ⟨y1, y2⟩
            · rw [if_neg y2] at ok; cases ok
          · rw [if_neg y1] at ok; cases ok
        have dA : dpk 0 (oA T) = true := cl_wp hT0 hx.1
        have dB : dpk 0 (oB T) = true := cl_wp hT0 hx.2
        have eA : rowL (sM τ ((sN σ : Int) + 1)) (oA T).length = oA T := rowL_eq _ rA
        have eB : rowL (sM τ ((sN σ : Int) + 2)) (oB T).length = oB T := rowL_eq _ rB
        refine ⟨rfl, h.txt htt hall ?_ z13 (Or.inr ⟨p16, ?_, t6, ?_⟩), by omega, by omega⟩
        · rw [cρ.M (by omega) (by unfold t2S txS opS; omega), c2.M (by omega) (by omega)]; exact h34
        · rw [cρ.M (by omega) (by unfold t2S txS opS; omega)]; exact v36
        · rw [cρ.M (by omega) (by unfold t2S txS opS; omega), v39]
          have hA1 : sM ρ (sN σ : Int) 0 = (sN σ : Int) + 1 := by rw [hi _ _ (by omega) (by omega)]; exact m0
          have hA2 : sM ρ (sN σ : Int) 1 = (sN σ : Int) + 2 := by rw [hi _ _ (by omega) (by omega)]; exact m1
          have fA : sM ρ ((sN σ : Int) + 1) = sM τ ((sN σ : Int) + 1) := funext (fun i => hi _ i (by omega) (by omega))
          have fB : sM ρ ((sN σ : Int) + 2) = sM τ ((sN σ : Int) + 2) := funext (fun i => hi _ i (by omega) (by omega))
          refine ⟨⟨by rw [(hiK _ (by omega) (by omega)).1]; exact k8, Or.inr (by omega), by omega⟩, ?_, ?_⟩
          · unfold RTx
            rw [hA1, fA, (hiK _ (by omega) (by omega)).1, (hiK _ (by omega) (by omega)).2, lA, kA]
            refine ⟨⟨rfl, by omega, Or.inr ⟨by omega, by omega⟩, by omega⟩, ⟨?_, ?_, ?_, by omega⟩, fun i i0 i1 => ?_, ?_⟩
            · rw [Int.add_zero, r0]; exact Int.le_refl 0
            · rw [Int.add_zero, r0, r1]; omega
            · rw [Int.add_zero, r1]; omega
            · have := r75 i.toNat (by omega)
              rw [Int.add_zero, r0, Int.zero_add]
              rw [show ((i.toNat : Nat) : Int) = i by omega] at this
              rw [this, map_getD (by rw [List.length_append]; omega), getD_appL _ _ _ (by omega)]
              have q := rA i.toNat (by omega)
              rw [show ((i.toNat : Nat) : Int) = i by omega] at q
              rw [q]
            · rw [show ((oA T).length : Int).toNat = (oA T).length by omega, eA]
              exact dA
          · unfold RTx
            rw [hA2, fB, (hiK _ (by omega) (by omega)).1, (hiK _ (by omega) (by omega)).2, lB, kB]
            refine ⟨⟨rfl, by omega, Or.inr ⟨by omega, by omega⟩, by omega⟩, ⟨?_, ?_, ?_, by omega⟩, fun i i0 i1 => ?_, ?_⟩
            · rw [r1]; omega
            · rw [r1, show 4 * y + 1 + 1 = 4 * y + 2 by omega, r2]; omega
            · rw [show 4 * y + 1 + 1 = 4 * y + 2 by omega, r2]; omega
            · have := r75 ((oA T).length + i.toNat) (by omega)
              rw [r1]
              rw [show (((oA T).length + i.toNat : Nat) : Int) = ((oA T).length : Int) + i by omega] at this
              rw [this, map_getD (by rw [List.length_append]; omega), getD_appR]
              have q := rB i.toNat (by omega)
              rw [show ((i.toNat : Nat) : Int) = i by omega] at q
              rw [q]
            · rw [show ((oB T).length : Int).toNat = (oB T).length by omega, eB]
              exact dB
      · exact absurd ok nok
    · have hFτ := cτ.Fx hF rtS_NF
      have hS2' := hd hS2
      refine rt_pos (by decide) (rt_gx (x := 34) (by simp (disch := omega) only [true_and, and_true, sM_ne, sM_eq, sM_neR, sM_eqR, sK_upM, sK_upR, sL_upM, sL_upR, sN_upM, sN_upR, sT_upM, sT_upR, sN_upM, Int.reduceAdd, Int.reduceMul, Int.reduceSub, Int.reduceNeg, Int.zero_add, Int.add_zero, hFτ.c]) (by simp (disch := omega) only [true_and, and_true, sM_ne, sM_eq, sM_neR, sM_eqR, sK_upM, sK_upR, sL_upM, sL_upR, sN_upM, sN_upR, sT_upM, sT_upR, sN_upM, Int.reduceAdd, Int.reduceMul, Int.reduceSub, Int.reduceNeg, Int.zero_add, Int.add_zero, hFτ.c]) (rt_gx (x := S (txF T).2) (by simp (disch := omega) only [true_and, and_true, sM_ne, sM_eq, sM_neR, sM_eqR, sK_upM, sK_upR, sL_upM, sL_upR, sN_upM, sN_upR, sT_upM, sT_upR, sN_upM, Int.reduceAdd, Int.reduceMul, Int.reduceSub, Int.reduceNeg, Int.zero_add, Int.add_zero, hFτ.c]) (hS2' ()) (rt_ret ?_)))
      have hn := cτ.2.1
      have o2 : ∀ a i : Int, 40 ≤ a → a < (sN σ : Int) → sM τ a i = sM σ a i := fun a i ha hb => cτ.M hb (by unfold rtS scS rdS; omega)
      have hp2 : TPC (sM σ 35) z τ := ⟨hFτ, by rw [o2 _ _ (by omega) (by omega)]; exact hzz, fun j j0 j1 => by rw [o2 _ _ (by omega) (by omega)]; exact (t4 j j0 j1).1.symm⟩
      refine Rt.mono (f_textM ⟨t2, t3⟩ htok hp2 (by rw [o2 _ _ (by omega) (by omega)]; exact htt) (by omega) t6) ?_
      rintro y ρ ⟨cρ, hFρ, z13, hh⟩
      rcases hh with ⟨ok2, -⟩ | ⟨-, rfl, p16⟩
      · exact absurd ok2 ok
      · have hall : Ch (ttS t) σ ρ := (cτ.mono rt_tt).tr (cρ.mono t2_tt)
        refine finS rfl (h.txt htt hall.1 ?_ z13 (Or.inl ⟨p16, ?_⟩)) hall.2
        · rw [cρ.M (by omega) (by unfold t2S txS opS; omega)]; exact h34
        · rw [cρ.M (by omega) (by unfold t2S txS opS; omega), cτ.M (by omega) (by unfold rtS scS rdS; omega)]; exact e36 ()
  · refine rt_neg t6 (rt_ret ?_)
    unfold fX12_text
    exact rt_gx (x := t) (by simp (disch := omega) only [true_and, and_true, sM_ne, sM_eq, sM_neR, sM_eqR, sK_upM, sK_upR, sL_upM, sL_upR, sN_upM, sN_upR, sT_upM, sT_upR, sN_upM, Int.reduceAdd, Int.reduceMul, Int.reduceSub, Int.reduceNeg, Int.zero_add, Int.add_zero, hF.c]) (e16 ()) (rt_pos (by omega) (rt_ret (fin0 h rfl)))
