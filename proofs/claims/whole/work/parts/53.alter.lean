/-! what would be otherwise: cells changed and put back -/
def upd2 (f : Int → Int → Int) (g0 t0 v : Int) : Int → Int → Int := fun g t => if g = g0 ∧ t = t0 then v else f g t
theorem upd2_eq {f : Int → Int → Int} {g t v : Int} : upd2 f g t v g t = v := by unfold upd2; rw [if_pos ⟨rfl, rfl⟩]
theorem upd2_ne {f : Int → Int → Int} {g t g0 t0 v : Int} (h : ¬ (g = g0 ∧ t = t0)) : upd2 f g0 t0 v g t = f g t := by unfold upd2; rw [if_neg h]
def alS (W a i : Int) : Prop := lnS a i ∨ a = W + 1 ∨ a = 54 ∨ (7 ≤ a ∧ a ≤ 8) ∨ (10 ≤ a ∧ a ≤ 11) ∨ (a = 5 ∧ i = 8)
theorem alS_NF {W : Int} (hW : 93 ≤ W) : ∀ a i, alS W a i → NFb a i = true := by
  intro a i h
  unfold alS at h
  rcases h with h | h | h | h | h | ⟨rfl, h⟩
  · exact lnS_NF a i h
  · exact NF_i (by omega)
  · exact NF_i (by omega)
  · exact NF_i (by omega)
  · exact NF_i (by omega)
  · exact NF_5 (Or.inl rfl) (by omega)
theorem LV.alt {S : Int → Int → Prop} {σ τ : ZS} {W n k : Int} {ch ch' so : Int → Int} {ln rt rt' : Int → Int → Int} (h : LV σ W n k ch so ln rt) (c : Ch S σ τ) (hS : ∀ a i, S a i → alS W a i) (hch : ∀ x : Int, 0 ≤ x → x < n → sM τ (W + 1) x = ch' x ∧ 0 ≤ ch' x ∧ ch' x ≤ 48) (hrt : ∀ g t : Int, 0 ≤ g → g < 2 → 0 ≤ t → t < 24 → sM τ (7 + g) t = rt' g t ∧ 0 ≤ rt' g t ∧ rt' g t ≤ 9) : LV τ W n k ch' so ln rt' := by
  obtain ⟨hF, ⟨w1, w2⟩, ⟨k0, k5, kk⟩, ⟨n1, n2, n3⟩, p1, ⟨q1, q2⟩, a1, a2, a3, a4⟩ := h
  have h9 := hF.2.2.2
  have hn := c.2.1
  have e : ∀ a i : Int, a < (sN σ : Int) → ¬ alS W a i → sM τ a i = sM σ a i := fun a i ha hs => c.M ha (fun q => hs (hS a i q))
  refine ⟨c.Fx hF (fun a i q => alS_NF w1 a i (hS a i q)), ⟨w1, by omega⟩, ⟨k0, k5, by rw [c.K (by omega)]; exact kk⟩, ⟨by rw [e W 0 (by omega) (by unfold alS lnS; omega)]; exact n1, n2, n3⟩, by rw [e W 1 (by omega) (by unfold alS lnS; omega)]; exact p1, ⟨by rw [c.K (by omega)]; exact q1, by rw [c.L (by omega)]; exact q2⟩, hch, fun x h0 h1 => ?_, fun g s g0 g1 h0 h1 => ?_, hrt⟩
  · rw [e 17 x (by omega) (by unfold alS lnS; omega)]; exact a2 x h0 h1
  · rw [e (13 + g) s (by omega) (by unfold alS lnS; omega)]; exact a3 g s g0 g1 h0 h1
def Sep (σ : ZS) (W T : Int) : Prop := T ≠ W + 1 ∧ sM σ T 0 ≠ W + 1 ∧ sM σ T 1 ≠ W + 1
theorem CV.alt {S : Int → Int → Prop} {σ τ : ZS} {W T : Int} {tl tl' : Int → Int → Int} {st wi wi' : Int → Int} {cs ls : List Int} (hF : FxD σ) (hW : 93 ≤ W) (h : CV σ T tl st wi cs ls) (sep : Sep σ W T) (c : Ch S σ τ) (hS : ∀ a i, S a i → alS W a i) (htl : ∀ g t : Int, 0 ≤ g → g < 2 → 0 ≤ t → t < 24 → sM τ (10 + g) t = tl' g t ∧ 0 ≤ tl' g t ∧ tl' g t ≤ 99) (hwi : ∀ s : Int, 0 ≤ s → s < 4 → imax 0 (imin 23 (wrap (sM τ 15 s + sM τ 5 8))) = wi' s ∧ 0 ≤ wi' s ∧ wi' s ≤ 23) : CV τ T tl' st wi' cs ls ∧ Sep τ W T := by
  obtain ⟨a1, a2, a3, ⟨t1, t2, t3⟩, x1, x2⟩ := h
  obtain ⟨p0, p1, p2⟩ := sep
  have h9 := hF.2.2.2
  have e : ∀ a i : Int, a < (sN σ : Int) → ¬ alS W a i → sM τ a i = sM σ a i := fun a i ha hs => c.M ha (fun q => hs (hS a i q))
  have hA : ∀ A i : Int, (A < 2 ∨ 93 ≤ A) → A ≠ W + 1 → ¬ S A i := fun A i q q2 w => by have w := hS A i w; unfold alS lnS at w; omega
  have eT : ∀ i, sM τ T i = sM σ T i := fun i => e T i t3 (by unfold alS lnS; omega)
  refine ⟨⟨htl, fun s s0 s1 => ?_, hwi, ⟨by rw [c.K t3]; exact t1, t2, by have := c.2.1; omega⟩, ?_, ?_⟩, ?_⟩
  · rw [e _ _ (by omega) (by unfold alS lnS; omega)]; exact a2 s s0 s1
  · rw [eT]; exact x1.ch c (fun i => hA _ i x1.2.1.2.1 p1)
  · rw [eT]; exact x2.ch c (fun i => hA _ i x2.2.1.2.1 p2)
  · unfold Sep
    rw [eT, eT]
    exact ⟨p0, p1, p2⟩
theorem TV.alt {S : Int → Int → Prop} {σ τ : ZS} {W T : Int} (hF : FxD σ) (hW : 93 ≤ W) (h : TV σ T) (c : Ch S σ τ) (hS : ∀ a i, S a i → alS W a i) : TV τ T := h.ch hF c (fun q => by have q := hS _ _ q; unfold alS lnS at q; omega) (fun i q => by have q := hS _ _ q; unfold alS lnS at q; omega)
theorem Rel.sep {σ : ZS} (h : Rel σ) {w : Int} (w0 : 0 ≤ w) (w1 : w < sM σ 64 8) : Sep σ (sM σ 33 w) (vT σ) := by
  obtain ⟨⟨a1, a2⟩, ⟨b1, b2⟩, b3, ⟨d1, d2, d3⟩, ⟨e1, e2⟩, ⟨f1, f2, f3, f4⟩, g1⟩ := h.Wa.2.2.1 w w0 w1
  obtain ⟨r1, r2, r3⟩ := h.Ru
  obtain ⟨⟨t1, t2, t3⟩, ⟨⟨y1, y2, y3, y4⟩, -⟩, ⟨⟨z1, z2, z3, z4⟩, -⟩⟩ := h.Te.2.2 (sM σ 64 17) r2 r3
  have hk := wk_w b3 b1 b2
  change sK σ (vT σ) = 8 at t1
  change vT σ = 55 ∨ 93 ≤ vT σ at t2
  change sK σ (sM σ (vT σ) 0) = 100 at y1
  change (vT σ = 55 ∧ sM σ (vT σ) 0 < 2) ∨ (93 ≤ sM σ (vT σ) 0 ∧ sM σ (vT σ) 0 = vT σ + 1 + 0) at y3
  change (vT σ = 55 ∧ sM σ (vT σ) 1 < 2) ∨ (93 ≤ sM σ (vT σ) 1 ∧ sM σ (vT σ) 1 = vT σ + 1 + 1) at z3
  refine ⟨fun q => ?_, fun q => ?_, fun q => ?_⟩
  · rw [q, f1] at t1; omega
  · rcases y3 with y3 | ⟨-, y3⟩
    · omega
    · have : sM σ 33 w = vT σ := by omega
      rw [this, t1] at hk
      omega
  · rcases z3 with z3 | ⟨-, z3⟩
    · omega
    · have y3 : sM σ (vT σ) 0 = vT σ + 1 := by omega
      have : sM σ 33 w = sM σ (vT σ) 0 := by omega
      rw [this, y1] at hk
      omega
/-- nothing but scratch has changed, if what else was changed is as it was -/
theorem Ch.back {S : Int → Int → Prop} {σ ρ : ZS} (c : Ch S σ ρ) (hS : ∀ a i, S a i → scr a i ∨ sM ρ a i = sM σ a i) : Ch scr σ ρ := by
  obtain ⟨⟨c1, c2, c3, c4⟩, c5⟩ := c
  refine ⟨⟨fun a i ha hs => ?_, c2, c3, c4⟩, c5⟩
  by_cases q : S a i
  · exact (hS a i q).resolve_left hs
  · exact c1 a i ha q
/-! the reference: what it reads, where some cells are otherwise -/
def alR (a i : Int) : Prop := scr a i ∨ ((65 ≤ a ∧ a ≤ 67) ∨ 93 ≤ a)
theorem alR_NF : ∀ a i, alR a i → NFb a i = true := by
  intro a i h
  rcases h with h | h
  · exact scr_NF a i h
  · exact NF_i (by omega)
theorem mk_MV2 {S : Int → Int → Prop} {σ ρ : ZS} (h : Rel σ) (c : Ch S σ ρ) (hS : ∀ a i, S a i → alR a i) {w : Int} {ch : Int → Int} {rt : Int → Int → Int} (w0 : 0 ≤ w) (w1 : w < sM σ 64 8) (hch : ∀ j : Int, 0 ≤ j → j < sM σ 72 w → sM ρ 88 j = ch j ∧ 0 ≤ ch j ∧ ch j ≤ 48) (hrt : ∀ g t : Int, 0 ≤ g → g < 2 → 0 ≤ t → t < 24 → sM ρ 65 (24 * g + t) = rt g t ∧ 0 ≤ rt g t ∧ rt g t ≤ 9) : MV ρ w (sM σ 72 w) (sM σ 71 w) ch (vso σ) (vln σ) rt := by
  have hF := h.F
  have h9 := hF.2.2.2
  have h8 := h.Wa.2.1
  obtain ⟨⟨a1, a2⟩, ⟨b1, b2⟩, b3, ⟨d1, d2, d3⟩, ⟨e1, e2⟩, ⟨f1, f2, f3, f4⟩, g1⟩ := h.Wa.2.2.1 w w0 w1
  have e : ∀ a i : Int, a < 93 → ¬ alR a i → sM ρ a i = sM σ a i := fun a i ha hs => c.M (by omega) (fun q => hs (hS a i q))
  refine ⟨c.Fx hF (fun a i q => alR_NF a i (hS a i q)), ⟨w0, by omega⟩, ⟨b1, b2, e _ _ (by omega) (by unfold alR scr; omega)⟩, ⟨e _ _ (by omega) (by unfold alR scr; omega), d2, d3⟩, hch, fun c c0 c1 => ?_, fun g s g0 g2 s0 s1 => ?_, hrt⟩
  · rw [e _ _ (by omega) (by unfold alR scr; omega)]
    exact ⟨rfl, (h.Ca.2.2 c c0 (by omega)).2⟩
  · rw [e _ _ (by omega) (by unfold alR scr; omega)]
    obtain ⟨-, -, x, y⟩ := h.So.2.2.2 s s0 s1
    refine ⟨rfl, ?_⟩
    unfold vln
    rcases (by omega : g = 0 ∨ g = 1) with rfl | rfl
    · rw [Int.add_zero]; exact x.2
    · exact y.2
theorem mk_MC2 {S : Int → Int → Prop} {σ ρ : ZS} (h : Rel σ) (c : Ch S σ ρ) (hS : ∀ a i, S a i → alR a i) {tl : Int → Int → Int} {wi : Int → Int} (htl : ∀ g t : Int, 0 ≤ g → g < 2 → 0 ≤ t → t < 24 → sM ρ 66 (24 * g + t) = tl g t ∧ 0 ≤ tl g t ∧ tl g t ≤ 99) (hwi : ∀ s : Int, 0 ≤ s → s < 4 → sM ρ 67 s = wi s ∧ 0 ≤ wi s ∧ wi s ≤ 23) : MC ρ tl (vst σ) wi (vtx σ 0) (vtx σ 1) := by
  have hF := h.F
  have h9 := hF.2.2.2
  obtain ⟨r1, r2, r3⟩ := h.Ru
  have hr6 := h.Te.2.1
  have e : ∀ a i : Int, a < 93 → ¬ alR a i → sM ρ a i = sM σ a i := fun a i ha hs => c.M (by omega) (fun q => hs (hS a i q))
  obtain ⟨-, -, -, r, ⟨q1, q2, q3⟩, x0, x1⟩ := mk_MC h (Ch.rf (S := scr))
  have tx : ∀ {p : Int} {cs : List Int}, TXM σ r p cs → TXM ρ r p cs := by
    rintro p cs ⟨L, f, q, a, b, d, e', g, i⟩
    refine ⟨L, f, q, a, ?_, d, ?_, g, fun j j0 j1 => ?_⟩
    · rw [e _ _ (by omega) (by unfold alR scr; omega)]; exact b
    · rw [e _ _ (by omega) (by unfold alR scr; omega)]; exact e'
    · rw [e _ _ (by omega) (by unfold alR scr; omega)]; exact i j j0 j1
  refine ⟨htl, fun s s0 s1 => ?_, hwi, r, ⟨?_, q2, q3⟩, tx x0, tx x1⟩
  · rw [e _ _ (by omega) (by unfold alR scr; omega)]
    exact ⟨rfl, (h.So.2.2.2 s s0 s1).2.1.2⟩
  · rw [e _ _ (by omega) (by unfold alR scr; omega)]; exact q1
theorem r_lays2 {S : Int → Int → Prop} {σ τ : ZS} (h : Rel σ) (c : Ch S σ τ) (hS : ∀ a i, S a i → alR a i) {w : Int} {rt tl : Int → Int → Int} {wi : Int → Int} (w0 : 0 ≤ w) (w1 : w < sM σ 64 8) (hrt : ∀ g t : Int, 0 ≤ g → g < 2 → 0 ≤ t → t < 24 → sM τ 65 (24 * g + t) = rt g t ∧ 0 ≤ rt g t ∧ rt g t ≤ 9) (htl : ∀ g t : Int, 0 ≤ g → g < 2 → 0 ≤ t → t < 24 → sM τ 66 (24 * g + t) = tl g t ∧ 0 ≤ tl g t ∧ tl g t ≤ 99) (hwi : ∀ s : Int, 0 ≤ s → s < 4 → sM τ 67 s = wi s ∧ 0 ≤ wi s ∧ wi s ≤ 23) : Rt (fX12_lays τ 64 w) (fun _ ρ => Ch (fun a _ => a = 88) τ ρ ∧ MV ρ w (sM σ 72 w) (sM σ 71 w) (vch σ w) (vso σ) (vln σ) rt ∧ MC ρ tl (vst σ) wi (vtx σ 0) (vtx σ 1)) := by
  have hF := h.F
  have h9 := hF.2.2.2
  have h8 := h.Wa.2.1
  have hn := h.wn w0 w1
  have hFτ := c.Fx hF (fun a i q => alR_NF a i (hS a i q))
  have e : ∀ a i : Int, a < 93 → ¬ alR a i → sM τ a i = sM σ a i := fun a i ha hs => c.M (by omega) (fun q => hs (hS a i q))
  refine (f_lays hFτ (w := w) (n := sM σ 72 w) ⟨w0, by omega⟩ (e _ _ (by omega) (by unfold alR scr; omega)) ⟨hn.1, hn.2.1⟩).mono ?_
  rintro v ρ ⟨hc, hr⟩
  have h9τ := hFτ.2.2.2
  have hcc : Ch (fun a i => S a i ∨ a = 88) σ ρ := (c.mono (fun a i q => Or.inl q)).tr (hc.mono (fun a i q => Or.inr q))
  have hSS : ∀ a i, (S a i ∨ a = 88) → alR a i := fun a i q => by
    rcases q with q | q
    · exact hS a i q
    · unfold alR scr; omega
  refine ⟨hc, mk_MV2 h hcc hSS w0 w1 (fun j j0 j1 => ?_) (fun g t g0 g1 t0 t1 => ?_), mk_MC2 h hcc hSS (fun g t g0 g1 t0 t1 => ?_) (fun s s0 s1 => ?_)⟩
  · rw [hr j j0 j1, e _ _ (by omega) (by unfold alR scr; omega)]
    exact ⟨rfl, ((h.Wa.2.2.1 w w0 w1).2.2.2.2.2.2 j j0 j1).2⟩
  · rw [hc.M (by omega) (by omega)]; exact hrt g t g0 g1 t0 t1
  · rw [hc.M (by omega) (by omega)]; exact htl g t g0 g1 t0 t1
  · rw [hc.M (by omega) (by omega)]; exact hwi s s0 s1
theorem f_costNow2 {S : Int → Int → Prop} {σ τ : ZS} (h : Rel σ) (c : Ch S σ τ) (hS : ∀ a i, S a i → alR a i) {w : Int} {rt tl : Int → Int → Int} {wi : Int → Int} (w0 : 0 ≤ w) (w1 : w < sM σ 64 8) (hrt : ∀ g t : Int, 0 ≤ g → g < 2 → 0 ≤ t → t < 24 → sM τ 65 (24 * g + t) = rt g t ∧ 0 ≤ rt g t ∧ rt g t ≤ 9) (htl : ∀ g t : Int, 0 ≤ g → g < 2 → 0 ≤ t → t < 24 → sM τ 66 (24 * g + t) = tl g t ∧ 0 ≤ tl g t ∧ tl g t ≤ 99) (hwi : ∀ s : Int, 0 ≤ s → s < 4 → sM τ 67 s = wi s ∧ 0 ≤ wi s ∧ wi s ≤ 23) : Rt (fX12_costNow τ 64 w) (fun v ρ => v = sumF (cstF (sM σ 72 w) (sM σ 71 w) (vch σ w) (vso σ) (vln σ) rt tl (vst σ) wi (vtx σ 0)) (sM σ 72 w).toNat ∧ Ch mdW τ ρ) := by
  have hFτ := c.Fx h.F (fun a i q => alR_NF a i (hS a i q))
  unfold fX12_costNow
  refine rt_b (rt_v (by simp (disch := omega) only [true_and, and_true, sM_ne, sM_eq, sM_neR, sM_eqR, sK_upM, sK_upR, sL_upM, sL_upR, sN_upM, sN_upR, sT_upM, sT_upR, sN_upM, Int.reduceAdd, Int.reduceMul, Int.reduceSub, Int.reduceNeg, Int.zero_add, Int.add_zero, hFτ.c]) ?_)
  refine Rt.mono (r_lays2 h c hS w0 w1 hrt htl hwi) ?_
  rintro v ρ ⟨hc, hV, hC⟩
  have hF := hV.1
  refine rt_b (rt_v (by simp (disch := omega) only [true_and, and_true, sM_ne, sM_eq, sM_neR, sM_eqR, sK_upM, sK_upR, sL_upM, sL_upR, sN_upM, sN_upR, sT_upM, sT_upR, sN_upM, Int.reduceAdd, Int.reduceMul, Int.reduceSub, Int.reduceNeg, Int.zero_add, Int.add_zero, hF.c]) ?_)
  refine Rt.mono (f_goes hV) ?_
  rintro v2 π ⟨hcπ, hG⟩
  have hFπ := (hV.ch hcπ).1
  refine rt_b (rt_v (by simp (disch := omega) only [true_and, and_true, sM_ne, sM_eq, sM_neR, sM_eqR, sK_upM, sK_upR, sL_upM, sL_upR, sN_upM, sN_upR, sT_upM, sT_upR, sN_upM, Int.reduceAdd, Int.reduceMul, Int.reduceSub, Int.reduceNeg, Int.zero_add, Int.add_zero, hFπ.c]) ?_)
  refine Rt.mono (f_costAll (hV.ch hcπ) (hC.ch hF hcπ) hG) ?_
  rintro v3 θ ⟨e, hcθ⟩
  exact rt_ret ⟨e, ((hc.mono (fun a i q => Or.inr (Or.inl q))).tr (hcπ.mono (fun a i q => Or.inl q))).tr (hcθ.mono (fun a i q => Or.inl (mcS_md a i q)))⟩
/-! the base's own rows -/
theorem Rel.rt0 {σ : ZS} (h : Rel σ) : ∀ g t : Int, 0 ≤ g → g < 2 → 0 ≤ t → t < 24 → sM σ 65 (24 * g + t) = vrt σ g t ∧ 0 ≤ vrt σ g t ∧ vrt σ g t ≤ 9 := fun g t g0 g1 t0 t1 => ⟨rfl, (h.G g t g0 g1 t0 t1).2.2.1⟩
theorem Rel.tl0 {σ : ZS} (h : Rel σ) : ∀ g t : Int, 0 ≤ g → g < 2 → 0 ≤ t → t < 24 → sM σ 66 (24 * g + t) = vtl σ g t ∧ 0 ≤ vtl σ g t ∧ vtl σ g t ≤ 99 := fun g t g0 g1 t0 t1 => ⟨rfl, (h.G g t g0 g1 t0 t1).2.2.2⟩
theorem Rel.wi0 {σ : ZS} (h : Rel σ) : ∀ s : Int, 0 ≤ s → s < 4 → sM σ 67 s = vwi σ s ∧ 0 ≤ vwi σ s ∧ vwi σ s ≤ 23 := fun s s0 s1 => ⟨rfl, (h.So.2.2.2 s s0 s1).1.2⟩
/-- all of a state's costs with another rate: the class -/
theorem f_costWithRate {σ : ZS} {W n k T : Int} {ch so : Int → Int} {ln rt tl : Int → Int → Int} {st wi : Int → Int} {cs ls : List Int} (hV : LV σ W n k ch so ln rt) (hC : CV σ T tl st wi cs ls) (hT : TV σ T) (hs : Sep σ W T) {g t x : Int} (g0 : 0 ≤ g) (g1 : g < 2) (t0 : 0 ≤ t) (t1 : t < 24) (x0 : 0 ≤ x) (x1 : x ≤ 9) : Rt (fX11_costWithRate σ 3 W g t x) (fun v τ => v = sumF (cstF n k ch so ln (upd2 rt g t x) tl st wi cs) n.toNat ∧ Ch lnS σ τ) := by
  have hF := hV.1
  have h9 := hF.2.2.2
  have hW := hV.2.1.1
  have hr := hd (hV.2.2.2.2.2.2.2.2.2 g t g0 g1 t0 t1).1
  unfold fX11_costWithRate
  repeat (first
    | with_reducible refine rt_b ?_
    | with_reducible refine rt_jn ?_
    | ((with_reducible refine rt_pos ?_ ?_); (· first | omega | ((try simp (disch := omega) only [wr, true_and, and_true, sM_ne, sM_eq, sM_neR, sM_eqR, sK_upM, sK_upR, sL_upM, sL_upR, sN_upM, sN_upR, sT_upM, sT_upR, sN_upM, Int.reduceAdd, Int.reduceMul, Int.reduceSub, Int.reduceNeg, Int.zero_add, Int.add_zero, hF.c, hr ()]) <;> omega)))
    | ((with_reducible refine rt_neg ?_ ?_); (· first | omega | ((try simp (disch := omega) only [wr, true_and, and_true, sM_ne, sM_eq, sM_neR, sM_eqR, sK_upM, sK_upR, sL_upM, sL_upR, sN_upM, sN_upR, sT_upM, sT_upR, sN_upM, Int.reduceAdd, Int.reduceMul, Int.reduceSub, Int.reduceNeg, Int.zero_add, Int.add_zero, hF.c, hr ()]) <;> omega)))
    | ((with_reducible refine rt_v ?_ ?_); · simp (disch := omega) only [true_and, and_true, sM_ne, sM_eq, sM_neR, sM_eqR, sK_upM, sK_upR, sL_upM, sL_upR, sN_upM, sN_upR, sT_upM, sT_upR, sN_upM, Int.reduceAdd, Int.reduceMul, Int.reduceSub, Int.reduceNeg, Int.zero_add, Int.add_zero, hF.c, hr ()])
    | ((with_reducible apply rt_gx); (· simp (disch := omega) only [true_and, and_true, sM_ne, sM_eq, sM_neR, sM_eqR, sK_upM, sK_upR, sL_upM, sL_upR, sN_upM, sN_upR, sT_upM, sT_upR, sN_upM, Int.reduceAdd, Int.reduceMul, Int.reduceSub, Int.reduceNeg, Int.zero_add, Int.add_zero, hF.c, hr ()]); (· (try simp (disch := omega) only [wr, true_and, and_true, sM_ne, sM_eq, sM_neR, sM_eqR, sK_upM, sK_upR, sL_upM, sL_upR, sN_upM, sN_upR, sT_upM, sT_upR, sN_upM, Int.reduceAdd, Int.reduceMul, Int.reduceSub, Int.reduceNeg, Int.zero_add, Int.add_zero, hF.c, hr ()]); exact rfl))
    | ((with_reducible apply rt_alx); (· simp (disch := omega) only [true_and, and_true, sM_ne, sM_eq, sM_neR, sM_eqR, sK_upM, sK_upR, sL_upM, sL_upR, sN_upM, sN_upR, sT_upM, sT_upR, sN_upM, Int.reduceAdd, Int.reduceMul, Int.reduceSub, Int.reduceNeg, Int.zero_add, Int.add_zero, hF.c, hr ()]); (· first | omega | ((try simp (disch := omega) only [wr, true_and, and_true, sM_ne, sM_eq, sM_neR, sM_eqR, sK_upM, sK_upR, sL_upM, sL_upR, sN_upM, sN_upR, sT_upM, sT_upR, sN_upM, Int.reduceAdd, Int.reduceMul, Int.reduceSub, Int.reduceNeg, Int.zero_add, Int.add_zero, hF.c, hr ()]) <;> omega)); (· (try simp (disch := omega) only [wr, true_and, and_true, sM_ne, sM_eq, sM_neR, sM_eqR, sK_upM, sK_upR, sL_upM, sL_upR, sN_upM, sN_upR, sT_upM, sT_upR, sN_upM, Int.reduceAdd, Int.reduceMul, Int.reduceSub, Int.reduceNeg, Int.zero_add, Int.add_zero, hF.c, hr ()]); exact rfl))
    | ((with_reducible refine rt_as ?_ ?_ ?_); (· simp (disch := omega) only [true_and, and_true, sM_ne, sM_eq, sM_neR, sM_eqR, sK_upM, sK_upR, sL_upM, sL_upR, sN_upM, sN_upR, sT_upM, sT_upR, sN_upM, Int.reduceAdd, Int.reduceMul, Int.reduceSub, Int.reduceNeg, Int.zero_add, Int.add_zero, hF.c, hr ()]); (· first | omega | ((try simp (disch := omega) only [wr, true_and, and_true, sM_ne, sM_eq, sM_neR, sM_eqR, sK_upM, sK_upR, sL_upM, sL_upR, sN_upM, sN_upR, sT_upM, sT_upR, sN_upM, Int.reduceAdd, Int.reduceMul, Int.reduceSub, Int.reduceNeg, Int.zero_add, Int.add_zero, hF.c, hr ()]) <;> omega)))
    | ((with_reducible refine rt_p ?_ ?_ ?_); (· simp (disch := omega) only [true_and, and_true, sM_ne, sM_eq, sM_neR, sM_eqR, sK_upM, sK_upR, sL_upM, sL_upR, sN_upM, sN_upR, sT_upM, sT_upR, sN_upM, Int.reduceAdd, Int.reduceMul, Int.reduceSub, Int.reduceNeg, Int.zero_add, Int.add_zero, hF.c, hr ()]); (· omega))
    | with_reducible refine rt_ret ?_
    | ((with_reducible apply rt_gwx); (· assumption); (· (try simp (disch := omega) only [wr, true_and, and_true, sM_ne, sM_eq, sM_neR, sM_eqR, sK_upM, sK_upR, sL_upM, sL_upR, sN_upM, sN_upR, sT_upM, sT_upR, sN_upM, Int.reduceAdd, Int.reduceMul, Int.reduceSub, Int.reduceNeg, Int.zero_add, Int.add_zero, hF.c, hr ()]); exact rfl)))
  have hC1 : Ch (fun a i => a = 7 + g ∧ i = t) σ (upM σ (7 + g) t x) := Ch.rf.up ⟨rfl, rfl⟩
  have hSS : ∀ a i, (a = 7 + g ∧ i = t) → alS W a i := fun a i q => by unfold alS; omega
  have hV1 := hV.alt (ch' := ch) (rt' := upd2 rt g t x) hC1 hSS (fun y y0 y1 => by rw [sM_ne (by omega)]; exact hV.2.2.2.2.2.2.1 y y0 y1) (fun g' t' a0 a1 b0 b1 => by
    by_cases e : g' = g ∧ t' = t
    · obtain ⟨rfl, rfl⟩ := e
      rw [sM_eq ⟨rfl, rfl⟩, upd2_eq]
      exact ⟨rfl, x0, x1⟩
    · rw [sM_ne (by omega), upd2_ne e]
      exact hV.2.2.2.2.2.2.2.2.2 g' t' a0 a1 b0 b1)
  have hCC := (hC.alt (tl' := tl) (wi' := wi) hF hW hs hC1 hSS (fun g' t' a0 a1 b0 b1 => by rw [sM_ne (by omega)]; exact hC.1 g' t' a0 a1 b0 b1) (fun s s0 s1 => by rw [sM_ne (by omega), sM_ne (by omega)]; exact hC.2.2.1 s s0 s1)).1
  refine Rt.mono (f_costOfAll hV1 hCC (hT.alt hF hW hC1 hSS)) ?_
  rintro v τ ⟨e, hcτ⟩
  have hFτ := (hV1.ch hcτ).1
  repeat (first
    | with_reducible refine rt_b ?_
    | with_reducible refine rt_jn ?_
    | ((with_reducible refine rt_pos ?_ ?_); (· first | omega | ((try simp (disch := omega) only [wr, true_and, and_true, sM_ne, sM_eq, sM_neR, sM_eqR, sK_upM, sK_upR, sL_upM, sL_upR, sN_upM, sN_upR, sT_upM, sT_upR, sN_upM, Int.reduceAdd, Int.reduceMul, Int.reduceSub, Int.reduceNeg, Int.zero_add, Int.add_zero, hFτ.c]) <;> omega)))
    | ((with_reducible refine rt_neg ?_ ?_); (· first | omega | ((try simp (disch := omega) only [wr, true_and, and_true, sM_ne, sM_eq, sM_neR, sM_eqR, sK_upM, sK_upR, sL_upM, sL_upR, sN_upM, sN_upR, sT_upM, sT_upR, sN_upM, Int.reduceAdd, Int.reduceMul, Int.reduceSub, Int.reduceNeg, Int.zero_add, Int.add_zero, hFτ.c]) <;> omega)))
    | ((with_reducible refine rt_v ?_ ?_); · simp (disch := omega) only [true_and, and_true, sM_ne, sM_eq, sM_neR, sM_eqR, sK_upM, sK_upR, sL_upM, sL_upR, sN_upM, sN_upR, sT_upM, sT_upR, sN_upM, Int.reduceAdd, Int.reduceMul, Int.reduceSub, Int.reduceNeg, Int.zero_add, Int.add_zero, hFτ.c])
    | ((with_reducible apply rt_gx); (· simp (disch := omega) only [true_and, and_true, sM_ne, sM_eq, sM_neR, sM_eqR, sK_upM, sK_upR, sL_upM, sL_upR, sN_upM, sN_upR, sT_upM, sT_upR, sN_upM, Int.reduceAdd, Int.reduceMul, Int.reduceSub, Int.reduceNeg, Int.zero_add, Int.add_zero, hFτ.c]); (· (try simp (disch := omega) only [wr, true_and, and_true, sM_ne, sM_eq, sM_neR, sM_eqR, sK_upM, sK_upR, sL_upM, sL_upR, sN_upM, sN_upR, sT_upM, sT_upR, sN_upM, Int.reduceAdd, Int.reduceMul, Int.reduceSub, Int.reduceNeg, Int.zero_add, Int.add_zero, hFτ.c]); exact rfl))
    | ((with_reducible apply rt_alx); (· simp (disch := omega) only [true_and, and_true, sM_ne, sM_eq, sM_neR, sM_eqR, sK_upM, sK_upR, sL_upM, sL_upR, sN_upM, sN_upR, sT_upM, sT_upR, sN_upM, Int.reduceAdd, Int.reduceMul, Int.reduceSub, Int.reduceNeg, Int.zero_add, Int.add_zero, hFτ.c]); (· first | omega | ((try simp (disch := omega) only [wr, true_and, and_true, sM_ne, sM_eq, sM_neR, sM_eqR, sK_upM, sK_upR, sL_upM, sL_upR, sN_upM, sN_upR, sT_upM, sT_upR, sN_upM, Int.reduceAdd, Int.reduceMul, Int.reduceSub, Int.reduceNeg, Int.zero_add, Int.add_zero, hFτ.c]) <;> omega)); (· (try simp (disch := omega) only [wr, true_and, and_true, sM_ne, sM_eq, sM_neR, sM_eqR, sK_upM, sK_upR, sL_upM, sL_upR, sN_upM, sN_upR, sT_upM, sT_upR, sN_upM, Int.reduceAdd, Int.reduceMul, Int.reduceSub, Int.reduceNeg, Int.zero_add, Int.add_zero, hFτ.c]); exact rfl))
    | ((with_reducible refine rt_as ?_ ?_ ?_); (· simp (disch := omega) only [true_and, and_true, sM_ne, sM_eq, sM_neR, sM_eqR, sK_upM, sK_upR, sL_upM, sL_upR, sN_upM, sN_upR, sT_upM, sT_upR, sN_upM, Int.reduceAdd, Int.reduceMul, Int.reduceSub, Int.reduceNeg, Int.zero_add, Int.add_zero, hFτ.c]); (· first | omega | ((try simp (disch := omega) only [wr, true_and, and_true, sM_ne, sM_eq, sM_neR, sM_eqR, sK_upM, sK_upR, sL_upM, sL_upR, sN_upM, sN_upR, sT_upM, sT_upR, sN_upM, Int.reduceAdd, Int.reduceMul, Int.reduceSub, Int.reduceNeg, Int.zero_add, Int.add_zero, hFτ.c]) <;> omega)))
    | ((with_reducible refine rt_p ?_ ?_ ?_); (· simp (disch := omega) only [true_and, and_true, sM_ne, sM_eq, sM_neR, sM_eqR, sK_upM, sK_upR, sL_upM, sL_upR, sN_upM, sN_upR, sT_upM, sT_upR, sN_upM, Int.reduceAdd, Int.reduceMul, Int.reduceSub, Int.reduceNeg, Int.zero_add, Int.add_zero, hFτ.c]); (· omega))
    | with_reducible refine rt_ret ?_
    | ((with_reducible apply rt_gwx); (· assumption); (· (try simp (disch := omega) only [wr, true_and, and_true, sM_ne, sM_eq, sM_neR, sM_eqR, sK_upM, sK_upR, sL_upM, sL_upR, sN_upM, sN_upR, sT_upM, sT_upR, sN_upM, Int.reduceAdd, Int.reduceMul, Int.reduceSub, Int.reduceNeg, Int.zero_add, Int.add_zero, hFτ.c]); exact rfl)))
  refine ⟨e, ?_⟩
  have hall : Ch (fun a i => lnS a i ∨ (a = 7 + g ∧ i = t)) σ (upM τ (7 + g) t (rt g t)) := ((hC1.mono (fun a i q => Or.inr q)).tr (hcτ.mono (fun a i q => Or.inl q))).up (Or.inr ⟨rfl, rfl⟩)
  obtain ⟨⟨c1, c2, c3, c4⟩, c5⟩ := hall
  refine ⟨⟨fun a i ha hs => ?_, c2, c3, c4⟩, c5⟩
  by_cases q : a = 7 + g ∧ i = t
  · obtain ⟨rfl, rfl⟩ := q
    rw [sM_eq ⟨rfl, rfl⟩, hr ()]
  · exact c1 a i ha (fun w => w.elim hs q)
theorem f_costWith {S : Int → Int → Prop} {σ τ : ZS} (h : Rel σ) (c : Ch S σ τ) (hS : ∀ a i, S a i → scr a i) {w : Int} (w0 : 0 ≤ w) (w1 : w < sM σ 64 8) {g t x : Int} (g0 : 0 ≤ g) (g1 : g < 2) (t0 : 0 ≤ t) (t1 : t < 24) (x0 : 0 ≤ x) (x1 : x ≤ 9) : Rt (fX12_costWith τ 64 w g t x) (fun v ρ => v = sumF (cstF (sM σ 72 w) (sM σ 71 w) (vch σ w) (vso σ) (vln σ) (upd2 (vrt σ) g t x) (vtl σ) (vst σ) (vwi σ) (vtx σ 0)) (sM σ 72 w).toNat ∧ Ch scr σ ρ) := by
  have hcs : Ch scr σ τ := c.mono hS
  have hFτ := hcs.Fx h.F scr_NF
  have h9 := h.F.2.2.2
  have h9τ := hFτ.2.2.2
  have er := hd (show wrap (wrap (24 * g) + t) = 24 * g + t by rw [wr (x := 24 * g) (by omega) (by omega), wr (by omega) (by omega)])
  have ev := hd (show sM τ 65 (24 * g + t) = vrt σ g t from hcs.M (by omega) (by unfold scr; omega))
  unfold fX12_costWith
  repeat (first
    | with_reducible refine rt_b ?_
    | with_reducible refine rt_jn ?_
    | ((with_reducible refine rt_pos ?_ ?_); (· first | omega | ((try simp (disch := omega) only [wr, true_and, and_true, sM_ne, sM_eq, sM_neR, sM_eqR, sK_upM, sK_upR, sL_upM, sL_upR, sN_upM, sN_upR, sT_upM, sT_upR, sN_upM, Int.reduceAdd, Int.reduceMul, Int.reduceSub, Int.reduceNeg, Int.zero_add, Int.add_zero, hFτ.c, er (), ev ()]) <;> omega)))
    | ((with_reducible refine rt_neg ?_ ?_); (· first | omega | ((try simp (disch := omega) only [wr, true_and, and_true, sM_ne, sM_eq, sM_neR, sM_eqR, sK_upM, sK_upR, sL_upM, sL_upR, sN_upM, sN_upR, sT_upM, sT_upR, sN_upM, Int.reduceAdd, Int.reduceMul, Int.reduceSub, Int.reduceNeg, Int.zero_add, Int.add_zero, hFτ.c, er (), ev ()]) <;> omega)))
    | ((with_reducible refine rt_v ?_ ?_); · simp (disch := omega) only [true_and, and_true, sM_ne, sM_eq, sM_neR, sM_eqR, sK_upM, sK_upR, sL_upM, sL_upR, sN_upM, sN_upR, sT_upM, sT_upR, sN_upM, Int.reduceAdd, Int.reduceMul, Int.reduceSub, Int.reduceNeg, Int.zero_add, Int.add_zero, hFτ.c, er (), ev ()])
    | ((with_reducible apply rt_gx); (· simp (disch := omega) only [true_and, and_true, sM_ne, sM_eq, sM_neR, sM_eqR, sK_upM, sK_upR, sL_upM, sL_upR, sN_upM, sN_upR, sT_upM, sT_upR, sN_upM, Int.reduceAdd, Int.reduceMul, Int.reduceSub, Int.reduceNeg, Int.zero_add, Int.add_zero, hFτ.c, er (), ev ()]); (· (try simp (disch := omega) only [wr, true_and, and_true, sM_ne, sM_eq, sM_neR, sM_eqR, sK_upM, sK_upR, sL_upM, sL_upR, sN_upM, sN_upR, sT_upM, sT_upR, sN_upM, Int.reduceAdd, Int.reduceMul, Int.reduceSub, Int.reduceNeg, Int.zero_add, Int.add_zero, hFτ.c, er (), ev ()]); exact rfl))
    | ((with_reducible apply rt_alx); (· simp (disch := omega) only [true_and, and_true, sM_ne, sM_eq, sM_neR, sM_eqR, sK_upM, sK_upR, sL_upM, sL_upR, sN_upM, sN_upR, sT_upM, sT_upR, sN_upM, Int.reduceAdd, Int.reduceMul, Int.reduceSub, Int.reduceNeg, Int.zero_add, Int.add_zero, hFτ.c, er (), ev ()]); (· first | omega | ((try simp (disch := omega) only [wr, true_and, and_true, sM_ne, sM_eq, sM_neR, sM_eqR, sK_upM, sK_upR, sL_upM, sL_upR, sN_upM, sN_upR, sT_upM, sT_upR, sN_upM, Int.reduceAdd, Int.reduceMul, Int.reduceSub, Int.reduceNeg, Int.zero_add, Int.add_zero, hFτ.c, er (), ev ()]) <;> omega)); (· (try simp (disch := omega) only [wr, true_and, and_true, sM_ne, sM_eq, sM_neR, sM_eqR, sK_upM, sK_upR, sL_upM, sL_upR, sN_upM, sN_upR, sT_upM, sT_upR, sN_upM, Int.reduceAdd, Int.reduceMul, Int.reduceSub, Int.reduceNeg, Int.zero_add, Int.add_zero, hFτ.c, er (), ev ()]); exact rfl))
    | ((with_reducible refine rt_as ?_ ?_ ?_); (· simp (disch := omega) only [true_and, and_true, sM_ne, sM_eq, sM_neR, sM_eqR, sK_upM, sK_upR, sL_upM, sL_upR, sN_upM, sN_upR, sT_upM, sT_upR, sN_upM, Int.reduceAdd, Int.reduceMul, Int.reduceSub, Int.reduceNeg, Int.zero_add, Int.add_zero, hFτ.c, er (), ev ()]); (· first | omega | ((try simp (disch := omega) only [wr, true_and, and_true, sM_ne, sM_eq, sM_neR, sM_eqR, sK_upM, sK_upR, sL_upM, sL_upR, sN_upM, sN_upR, sT_upM, sT_upR, sN_upM, Int.reduceAdd, Int.reduceMul, Int.reduceSub, Int.reduceNeg, Int.zero_add, Int.add_zero, hFτ.c, er (), ev ()]) <;> omega)))
    | ((with_reducible refine rt_p ?_ ?_ ?_); (· simp (disch := omega) only [true_and, and_true, sM_ne, sM_eq, sM_neR, sM_eqR, sK_upM, sK_upR, sL_upM, sL_upR, sN_upM, sN_upR, sT_upM, sT_upR, sN_upM, Int.reduceAdd, Int.reduceMul, Int.reduceSub, Int.reduceNeg, Int.zero_add, Int.add_zero, hFτ.c, er (), ev ()]); (· omega))
    | with_reducible refine rt_ret ?_
    | ((with_reducible apply rt_gwx); (· assumption); (· (try simp (disch := omega) only [wr, true_and, and_true, sM_ne, sM_eq, sM_neR, sM_eqR, sK_upM, sK_upR, sL_upM, sL_upR, sN_upM, sN_upR, sT_upM, sT_upR, sN_upM, Int.reduceAdd, Int.reduceMul, Int.reduceSub, Int.reduceNeg, Int.zero_add, Int.add_zero, hFτ.c, er (), ev ()]); exact rfl)))
  simp only [er ()]
  have hC1 : Ch (fun a i => scr a i ∨ (a = 65 ∧ i = 24 * g + t)) σ (upM τ 65 (24 * g + t) x) := (hcs.mono (fun a i q => Or.inl q)).up (Or.inr ⟨rfl, rfl⟩)
  refine Rt.mono (f_costNow2 (rt := upd2 (vrt σ) g t x) (tl := vtl σ) (wi := vwi σ) h hC1 (fun a i q => Or.elim q Or.inl (fun q => Or.inr (by obtain ⟨q1, q2⟩ := q; omega))) w0 w1 (fun g' t' a0 a1 b0 b1 => ?_) (fun g' t' a0 a1 b0 b1 => ?_) (fun s s0 s1 => ?_)) ?_
  · by_cases e : g' = g ∧ t' = t
    · obtain ⟨rfl, rfl⟩ := e
      rw [sM_eq ⟨rfl, rfl⟩, upd2_eq]
      exact ⟨rfl, x0, x1⟩
    · rw [sM_ne (by omega), upd2_ne e, hcs.M (by omega) (by unfold scr; omega)]
      exact h.rt0 g' t' a0 a1 b0 b1
  · rw [sM_ne (by omega), hcs.M (by omega) (by unfold scr; omega)]
    exact h.tl0 g' t' a0 a1 b0 b1
  · rw [sM_ne (by omega), hcs.M (by omega) (by unfold scr; omega)]
    exact h.wi0 s s0 s1
  · rintro v ρ ⟨e, hcρ⟩
    have hFρ := (hC1.tr (hcρ.mono (fun a i q => Or.inl (mdW_scr a i q)))).Fx h.F (fun a i q => alR_NF a i (Or.elim q Or.inl (fun q => Or.inr (by obtain ⟨q1, q2⟩ := q; omega))))
    repeat (first
    | with_reducible refine rt_b ?_
    | with_reducible refine rt_jn ?_
    | ((with_reducible refine rt_pos ?_ ?_); (· first | omega | ((try simp (disch := omega) only [wr, true_and, and_true, sM_ne, sM_eq, sM_neR, sM_eqR, sK_upM, sK_upR, sL_upM, sL_upR, sN_upM, sN_upR, sT_upM, sT_upR, sN_upM, Int.reduceAdd, Int.reduceMul, Int.reduceSub, Int.reduceNeg, Int.zero_add, Int.add_zero, hFρ.c, er ()]) <;> omega)))
    | ((with_reducible refine rt_neg ?_ ?_); (· first | omega | ((try simp (disch := omega) only [wr, true_and, and_true, sM_ne, sM_eq, sM_neR, sM_eqR, sK_upM, sK_upR, sL_upM, sL_upR, sN_upM, sN_upR, sT_upM, sT_upR, sN_upM, Int.reduceAdd, Int.reduceMul, Int.reduceSub, Int.reduceNeg, Int.zero_add, Int.add_zero, hFρ.c, er ()]) <;> omega)))
    | ((with_reducible refine rt_v ?_ ?_); · simp (disch := omega) only [true_and, and_true, sM_ne, sM_eq, sM_neR, sM_eqR, sK_upM, sK_upR, sL_upM, sL_upR, sN_upM, sN_upR, sT_upM, sT_upR, sN_upM, Int.reduceAdd, Int.reduceMul, Int.reduceSub, Int.reduceNeg, Int.zero_add, Int.add_zero, hFρ.c, er ()])
    | ((with_reducible apply rt_gx); (· simp (disch := omega) only [true_and, and_true, sM_ne, sM_eq, sM_neR, sM_eqR, sK_upM, sK_upR, sL_upM, sL_upR, sN_upM, sN_upR, sT_upM, sT_upR, sN_upM, Int.reduceAdd, Int.reduceMul, Int.reduceSub, Int.reduceNeg, Int.zero_add, Int.add_zero, hFρ.c, er ()]); (· (try simp (disch := omega) only [wr, true_and, and_true, sM_ne, sM_eq, sM_neR, sM_eqR, sK_upM, sK_upR, sL_upM, sL_upR, sN_upM, sN_upR, sT_upM, sT_upR, sN_upM, Int.reduceAdd, Int.reduceMul, Int.reduceSub, Int.reduceNeg, Int.zero_add, Int.add_zero, hFρ.c, er ()]); exact rfl))
    | ((with_reducible apply rt_alx); (· simp (disch := omega) only [true_and, and_true, sM_ne, sM_eq, sM_neR, sM_eqR, sK_upM, sK_upR, sL_upM, sL_upR, sN_upM, sN_upR, sT_upM, sT_upR, sN_upM, Int.reduceAdd, Int.reduceMul, Int.reduceSub, Int.reduceNeg, Int.zero_add, Int.add_zero, hFρ.c, er ()]); (· first | omega | ((try simp (disch := omega) only [wr, true_and, and_true, sM_ne, sM_eq, sM_neR, sM_eqR, sK_upM, sK_upR, sL_upM, sL_upR, sN_upM, sN_upR, sT_upM, sT_upR, sN_upM, Int.reduceAdd, Int.reduceMul, Int.reduceSub, Int.reduceNeg, Int.zero_add, Int.add_zero, hFρ.c, er ()]) <;> omega)); (· (try simp (disch := omega) only [wr, true_and, and_true, sM_ne, sM_eq, sM_neR, sM_eqR, sK_upM, sK_upR, sL_upM, sL_upR, sN_upM, sN_upR, sT_upM, sT_upR, sN_upM, Int.reduceAdd, Int.reduceMul, Int.reduceSub, Int.reduceNeg, Int.zero_add, Int.add_zero, hFρ.c, er ()]); exact rfl))
    | ((with_reducible refine rt_as ?_ ?_ ?_); (· simp (disch := omega) only [true_and, and_true, sM_ne, sM_eq, sM_neR, sM_eqR, sK_upM, sK_upR, sL_upM, sL_upR, sN_upM, sN_upR, sT_upM, sT_upR, sN_upM, Int.reduceAdd, Int.reduceMul, Int.reduceSub, Int.reduceNeg, Int.zero_add, Int.add_zero, hFρ.c, er ()]); (· first | omega | ((try simp (disch := omega) only [wr, true_and, and_true, sM_ne, sM_eq, sM_neR, sM_eqR, sK_upM, sK_upR, sL_upM, sL_upR, sN_upM, sN_upR, sT_upM, sT_upR, sN_upM, Int.reduceAdd, Int.reduceMul, Int.reduceSub, Int.reduceNeg, Int.zero_add, Int.add_zero, hFρ.c, er ()]) <;> omega)))
    | ((with_reducible refine rt_p ?_ ?_ ?_); (· simp (disch := omega) only [true_and, and_true, sM_ne, sM_eq, sM_neR, sM_eqR, sK_upM, sK_upR, sL_upM, sL_upR, sN_upM, sN_upR, sT_upM, sT_upR, sN_upM, Int.reduceAdd, Int.reduceMul, Int.reduceSub, Int.reduceNeg, Int.zero_add, Int.add_zero, hFρ.c, er ()]); (· omega))
    | with_reducible refine rt_ret ?_
    | ((with_reducible apply rt_gwx); (· assumption); (· (try simp (disch := omega) only [wr, true_and, and_true, sM_ne, sM_eq, sM_neR, sM_eqR, sK_upM, sK_upR, sL_upM, sL_upR, sN_upM, sN_upR, sT_upM, sT_upR, sN_upM, Int.reduceAdd, Int.reduceMul, Int.reduceSub, Int.reduceNeg, Int.zero_add, Int.add_zero, hFρ.c, er ()]); exact rfl)))
    refine ⟨e, Ch.back (S := fun a i => scr a i ∨ (a = 65 ∧ i = 24 * g + t)) ((hC1.tr (hcρ.mono (fun a i q => Or.inl (mdW_scr a i q)))).up (Or.inr ⟨rfl, rfl⟩)) (fun a i q => ?_)⟩
    rcases q with q | ⟨rfl, rfl⟩
    · exact Or.inl q
    · right
      rw [sM_eq ⟨rfl, rfl⟩]
      rfl
