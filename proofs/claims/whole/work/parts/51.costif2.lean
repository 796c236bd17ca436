/-! what a cart's cost were by another choice: both -/
def cIf (n k : Int) (ch so : Int → Int) (ln rt tl : Int → Int → Int) (st wi : Int → Int) (cs : List Int) (c x : Int) : Int := cstF n k (updF ch c x) so ln rt tl st wi cs c
theorem pw_imp {key key' : Int → Int} {R : List Int} (h : R.Pairwise (lx key)) (e : ∀ x ∈ R, key x = key' x) : R.Pairwise (lx key') := by
  refine List.Pairwise.imp_of_mem ?_ h
  intro a b ha hb hab
  unfold lx at *
  rw [← e a ha, ← e b hb]
  exact hab
theorem f_costIf {σ : ZS} {W n k T : Int} {ch so : Int → Int} {ln rt tl : Int → Int → Int} {st wi : Int → Int} {cs ls : List Int} {c x : Int} (hV : LV σ W n k ch so ln rt) (hC : CV σ T tl st wi cs ls) (hG : Gth σ n k c ch so ln) (c0 : 0 ≤ c) (c1 : c < n) (x0 : 0 ≤ x) (x1 : x ≤ 48) : Rt (fX2_costIf σ 4 W c x T) (fun v τ => v = cIf n k ch so ln rt tl st wi cs c x ∧ Ch csS σ τ) := by
  have hV0 := hV
  obtain ⟨hF, ⟨w1, w2⟩, ⟨k0, k5, kk⟩, ⟨n1, n2, n3⟩, p1, ⟨q1, q2⟩, a1, a2, a3, a4⟩ := hV
  obtain ⟨s1, s2, s3⟩ := a2 c c0 c1
  have hcx : cmO ln so (updF ch c x) c = camO ln (so c) x := by unfold cmO; rw [updF_eq]
  have hcn : ∀ y, y ≠ c → cmO ln so (updF ch c x) y = cmO ln so ch y := fun y hy => by unfold cmO; rw [updF_ne hy]
  have hm := camO_in (ln := ln) (s := so c) (x := x) x0 s2 s3 (fun g s g0 g1 s0 s1 => (a3 g s g0 g1 s0 s1).2)
  unfold fX2_costIf
  refine rt_b (rt_v (by simp (disch := omega) only [true_and, and_true, sM_ne, sM_eq, sM_neR, sM_eqR, sK_upM, sK_upR, sL_upM, sL_upR, sN_upM, sN_upR, sT_upM, sT_upR, sN_upM, Int.reduceAdd, Int.reduceMul, Int.reduceSub, Int.reduceNeg, Int.zero_add, Int.add_zero, hF.c]) (rt_e (f_cameBy hF c0 (by omega) x0 x1 s1 s2 s3 a3) ?_))
  have hfin : ∀ ps : Int, ps = pasA n k (updF ch c x) so ln rt c → Rt (zb (zv σ 2 4 (fX2_cost σ 4 W c x (camO ln (so c) x) ps T)) (fun v20 s21 => some (v20, s21))) (fun v τ => v = cIf n k ch so ln rt tl st wi cs c x ∧ Ch csS σ τ) := by
    intro ps hps
    have hpr := pasA_in (n := n) (k := k) (ch := updF ch c x) (so := so) (ln := ln) (rt := rt) (c := c) (by rw [hcx, updF_eq]; exact hm)
    rw [← hps] at hpr
    refine rt_b (rt_v (by simp (disch := omega) only [true_and, and_true, sM_ne, sM_eq, sM_neR, sM_eqR, sK_upM, sK_upR, sL_upM, sL_upR, sN_upM, sN_upR, sT_upM, sT_upR, sN_upM, Int.reduceAdd, Int.reduceMul, Int.reduceSub, Int.reduceNeg, Int.zero_add, Int.add_zero, hF.c]) ?_)
    refine Rt.mono (f_cost hV0 hC c0 c1 x0 x1 (by omega) (by omega) (by omega) (by omega)) ?_
    rintro v τ ⟨e, hc⟩
    refine rt_ret ⟨?_, hc⟩
    rw [e]
    unfold cIf cstF
    rw [hcx, updF_eq, ← hps]
  generalize hme : camO ln (so c) x = m at *
  by_cases hm1 : m = -1
  · refine rt_jn (rt_pos hm1 ?_)
    refine hfin (-1) ?_
    unfold pasA pasO
    have hn : ∀ g, c ∉ Rg n k (-1) (updF ch c x) so ln g := fun g q => by
      have := (Rg_mem.mp q).2.2.1
      rw [hcx] at this
      exact this hm1
    split
    · rcases pasT_R (R := Rg n k (-1) (updF ch c x) so ln 0) (cm := cmO ln so (updF ch c x)) (rt := rtN rt 0) (c := c) 24 (by omega) with h | ⟨-, -, h, -⟩
      · exact h.symm
      · exact absurd h (hn 0)
    · rcases pasT_R (R := Rg n k (-1) (updF ch c x) so ln 1) (cm := cmO ln so (updF ch c x)) (rt := rtN rt 1) (c := c) 24 (by omega) with h | ⟨-, -, h, -⟩
      · exact h.symm
      · exact absurd h (hn 1)
  · have hg : 0 ≤ x / 24 ∧ x / 24 < 2 := by omega
    have hwk : wkn σ W := wk_w kk k0 k5
    replace s1 := hd s1
    have et := hd (show wrap (x.tdiv 24) = x / 24 by rw [tdiv_n x0, wr (by omega) (by omega)])
    replace n1 := hd n1
    replace p1 := hd p1
    replace q1 := hd q1
    replace q2 := hd q2
    refine rt_jn (rt_neg hm1 ?_)
    repeat (first
    | with_reducible refine rt_b ?_
    | with_reducible refine rt_jn ?_
    | ((with_reducible refine rt_pos ?_ ?_); (· first | omega | ((try simp (disch := omega) only [wr, true_and, and_true, sM_ne, sM_eq, sM_neR, sM_eqR, sK_upM, sK_upR, sL_upM, sL_upR, sN_upM, sN_upR, sT_upM, sT_upR, sN_upM, Int.reduceAdd, Int.reduceMul, Int.reduceSub, Int.reduceNeg, Int.zero_add, Int.add_zero, hF.c, s1 ()]) <;> omega)))
    | ((with_reducible refine rt_neg ?_ ?_); (· first | omega | ((try simp (disch := omega) only [wr, true_and, and_true, sM_ne, sM_eq, sM_neR, sM_eqR, sK_upM, sK_upR, sL_upM, sL_upR, sN_upM, sN_upR, sT_upM, sT_upR, sN_upM, Int.reduceAdd, Int.reduceMul, Int.reduceSub, Int.reduceNeg, Int.zero_add, Int.add_zero, hF.c, s1 ()]) <;> omega)))
    | ((with_reducible refine rt_v ?_ ?_); · simp (disch := omega) only [true_and, and_true, sM_ne, sM_eq, sM_neR, sM_eqR, sK_upM, sK_upR, sL_upM, sL_upR, sN_upM, sN_upR, sT_upM, sT_upR, sN_upM, Int.reduceAdd, Int.reduceMul, Int.reduceSub, Int.reduceNeg, Int.zero_add, Int.add_zero, hF.c, s1 ()])
    | ((with_reducible apply rt_gx); (· simp (disch := omega) only [true_and, and_true, sM_ne, sM_eq, sM_neR, sM_eqR, sK_upM, sK_upR, sL_upM, sL_upR, sN_upM, sN_upR, sT_upM, sT_upR, sN_upM, Int.reduceAdd, Int.reduceMul, Int.reduceSub, Int.reduceNeg, Int.zero_add, Int.add_zero, hF.c, s1 ()]); (· (try simp (disch := omega) only [wr, true_and, and_true, sM_ne, sM_eq, sM_neR, sM_eqR, sK_upM, sK_upR, sL_upM, sL_upR, sN_upM, sN_upR, sT_upM, sT_upR, sN_upM, Int.reduceAdd, Int.reduceMul, Int.reduceSub, Int.reduceNeg, Int.zero_add, Int.add_zero, hF.c, s1 ()]); exact rfl))
    | ((with_reducible apply rt_alx); (· simp (disch := omega) only [true_and, and_true, sM_ne, sM_eq, sM_neR, sM_eqR, sK_upM, sK_upR, sL_upM, sL_upR, sN_upM, sN_upR, sT_upM, sT_upR, sN_upM, Int.reduceAdd, Int.reduceMul, Int.reduceSub, Int.reduceNeg, Int.zero_add, Int.add_zero, hF.c, s1 ()]); (· first | omega | ((try simp (disch := omega) only [wr, true_and, and_true, sM_ne, sM_eq, sM_neR, sM_eqR, sK_upM, sK_upR, sL_upM, sL_upR, sN_upM, sN_upR, sT_upM, sT_upR, sN_upM, Int.reduceAdd, Int.reduceMul, Int.reduceSub, Int.reduceNeg, Int.zero_add, Int.add_zero, hF.c, s1 ()]) <;> omega)); (· (try simp (disch := omega) only [wr, true_and, and_true, sM_ne, sM_eq, sM_neR, sM_eqR, sK_upM, sK_upR, sL_upM, sL_upR, sN_upM, sN_upR, sT_upM, sT_upR, sN_upM, Int.reduceAdd, Int.reduceMul, Int.reduceSub, Int.reduceNeg, Int.zero_add, Int.add_zero, hF.c, s1 ()]); exact rfl))
    | ((with_reducible refine rt_as ?_ ?_ ?_); (· simp (disch := omega) only [true_and, and_true, sM_ne, sM_eq, sM_neR, sM_eqR, sK_upM, sK_upR, sL_upM, sL_upR, sN_upM, sN_upR, sT_upM, sT_upR, sN_upM, Int.reduceAdd, Int.reduceMul, Int.reduceSub, Int.reduceNeg, Int.zero_add, Int.add_zero, hF.c, s1 ()]); (· first | omega | ((try simp (disch := omega) only [wr, true_and, and_true, sM_ne, sM_eq, sM_neR, sM_eqR, sK_upM, sK_upR, sL_upM, sL_upR, sN_upM, sN_upR, sT_upM, sT_upR, sN_upM, Int.reduceAdd, Int.reduceMul, Int.reduceSub, Int.reduceNeg, Int.zero_add, Int.add_zero, hF.c, s1 ()]) <;> omega)))
    | ((with_reducible refine rt_p ?_ ?_ ?_); (· simp (disch := omega) only [true_and, and_true, sM_ne, sM_eq, sM_neR, sM_eqR, sK_upM, sK_upR, sL_upM, sL_upR, sN_upM, sN_upR, sT_upM, sT_upR, sN_upM, Int.reduceAdd, Int.reduceMul, Int.reduceSub, Int.reduceNeg, Int.zero_add, Int.add_zero, hF.c, s1 ()]); (· omega))
    | with_reducible refine rt_ret ?_
    | ((with_reducible apply rt_gwx); (· assumption); (· (try simp (disch := omega) only [wr, true_and, and_true, sM_ne, sM_eq, sM_neR, sM_eqR, sK_upM, sK_upR, sL_upM, sL_upR, sN_upM, sN_upR, sT_upM, sT_upR, sN_upM, Int.reduceAdd, Int.reduceMul, Int.reduceSub, Int.reduceNeg, Int.zero_add, Int.add_zero, hF.c, s1 ()]); exact rfl)))
    refine rt_e (f_order kk k0 k5 c0 (by omega) (by omega) (by omega) s2 s3) ?_
    refine rt_b (rt_v (by simp (disch := omega) only [true_and, and_true, sM_ne, sM_eq, sM_neR, sM_eqR, sK_upM, sK_upR, sL_upM, sL_upR, sN_upM, sN_upR, sT_upM, sT_upR, sN_upM, Int.reduceAdd, Int.reduceMul, Int.reduceSub, Int.reduceNeg, Int.zero_add, Int.add_zero, hF.c]) ?_)
    rw [et ()]
    obtain ⟨hL, hCm⟩ := hG.2 (x / 24) hg.1 hg.2
    have hRs : (Rg n k c ch so ln (x / 24)).Pairwise (lx (keyO k (cmO ln so ch) so)) := Rg_srt
    have hcR : c ∉ Rg n k c ch so ln (x / 24) := fun q => (Rg_mem.mp q).2.1 rfl
    have hkk : ∀ y ∈ Rg n k c ch so ln (x / 24), keyO k (cmO ln so ch) so y = keyO k (cmO ln so (updF ch c x)) so y := fun y hy => by
      have : y ≠ c := fun q => hcR (q ▸ hy)
      unfold keyO
      rw [hcn y this]
    have hRs' := pw_imp hRs hkk
    have hko : keyO k (cmO ln so (updF ch c x)) so c = ordO k c m (so c) := by unfold keyO; rw [hcx]
    unfold fX2_aheadOf
    refine Rt.mono (l_ahead hg.1 hg.2 (Rg_len n3) hkk hko hF hL 1000 0 (by omega) (by have := Rg_len (n := n) (k := k) (w := c) (ch := ch) (so := so) (ln := ln) (g := x / 24) n3; omega)) ?_
    rintro v τ ⟨rfl, rfl⟩
    refine rt_b (rt_v (by simp (disch := omega) only [true_and, and_true, sM_ne, sM_eq, sM_neR, sM_eqR, sK_upM, sK_upR, sL_upM, sL_upR, sN_upM, sN_upR, sT_upM, sT_upR, sN_upM, Int.reduceAdd, Int.reduceMul, Int.reduceSub, Int.reduceNeg, Int.zero_add, Int.add_zero, hF.c]) ?_)
    unfold fX2_minuteAmongOthers
    refine Rt.mono (l_minute (c := c) (m := m) (key' := keyO k (cmO ln so (updF ch c x)) so) hg.1 hg.2 (by omega) hV0 hCm hRs' hcR 1000 0 0 (by omega) (by omega) (by decide) (fun j hj => by simp [lft]) rfl) ?_
    rintro v τ' ⟨e, rfl⟩
    refine hfin v ?_
    rw [e]
    have ham := (among (key := keyO k (cmO ln so (updF ch c x)) so) (R := Rg n k c ch so ln (x / 24)) (R' := Rg n k (-1) (updF ch c x) so ln (x / 24)) (c := c) (m := m) (cm := cmO ln so ch) (cm' := cmO ln so (updF ch c x)) (rt := rtN rt (x / 24)) hRs' Rg_srt (Rg_mem.mpr ⟨⟨c0, c1⟩, by omega, by rw [hcx]; exact hm1, by rw [updF_eq]⟩) hcR (fun y hy => by
      rw [Rg_mem, Rg_mem, hcn y hy, updF_ne hy]
      constructor
      · rintro ⟨z1, z2, z3, z4⟩; exact ⟨z1, hy, z3, z4⟩
      · rintro ⟨z1, z2, z3, z4⟩; exact ⟨z1, by omega, z3, z4⟩) hcx (by omega) hcn 24).1
    unfold pasA pasO
    rw [updF_eq]
    rcases (by omega : x / 24 = 0 ∨ x / 24 = 1) with hx | hx
    · rw [if_pos hx, ← ham, hx]
    · rw [if_neg (by omega), ← ham, hx]
/-! the reference -/
def mdW (a i : Int) : Prop := mdS a i ∨ a = 88 ∨ (a = 64 ∧ 45 ≤ i ∧ i ≤ 47)
theorem mdW_scr : ∀ a i, mdW a i → scr a i := by
  intro a i h
  unfold mdW mdS at h
  unfold scr
  omega
theorem MC.chW {σ τ : ZS} (hF : FxD σ) {tl : Int → Int → Int} {st wi : Int → Int} {cs ls : List Int} (h : MC σ tl st wi cs ls) (c : Ch mdW σ τ) : MC τ tl st wi cs ls := by
  have h9 := hF.2.2.2
  have e : ∀ a i : Int, a < 93 → ¬ mdW a i → sM τ a i = sM σ a i := fun a i ha hs => c.M (by omega) hs
  have tx : ∀ {r p : Int} {cs : List Int}, TXM σ r p cs → TXM τ r p cs := by
    rintro r p cs ⟨L, f, q, a, b, d, e', g, i⟩
    refine ⟨L, f, q, a, ?_, d, ?_, g, fun j j0 j1 => ?_⟩
    · rw [e _ _ (by omega) (by unfold mdW mdS; omega)]; exact b
    · rw [e _ _ (by omega) (by unfold mdW mdS; omega)]; exact e'
    · rw [e _ _ (by omega) (by unfold mdW mdS; omega)]; exact i j j0 j1
  obtain ⟨a1, a2, a3, r, ⟨r1, r2, r3⟩, x1, x2⟩ := h
  refine ⟨fun g t g0 g1 b0 b1 => ?_, fun s s0 s1 => ?_, fun s s0 s1 => ?_, r, ⟨?_, r2, r3⟩, tx x1, tx x2⟩
  · rw [e _ _ (by omega) (by unfold mdW mdS; omega)]; exact a1 g t g0 g1 b0 b1
  · rw [e _ _ (by omega) (by unfold mdW mdS; omega)]; exact a2 s s0 s1
  · rw [e _ _ (by omega) (by unfold mdW mdS; omega)]; exact a3 s s0 s1
  · rw [e _ _ (by omega) (by unfold mdW mdS; omega)]; exact r1
theorem MV.chW {σ τ : ZS} {w n k : Int} {ch ch' so : Int → Int} {ln rt : Int → Int → Int} (h : MV σ w n k ch so ln rt) (c : Ch mdW σ τ) (hch : ∀ j : Int, 0 ≤ j → j < n → sM τ 88 j = ch' j ∧ 0 ≤ ch' j ∧ ch' j ≤ 48) : MV τ w n k ch' so ln rt := by
  obtain ⟨hF, w1, ⟨k0, k5, kk⟩, ⟨n1, n2, n3⟩, a1, a2, a3, a4⟩ := h
  have h9 := hF.2.2.2
  have e : ∀ a i : Int, a < 93 → ¬ mdW a i → sM τ a i = sM σ a i := fun a i ha hs => c.M (by omega) hs
  refine ⟨c.Fx hF (fun a i q => scr_NF a i (mdW_scr a i q)), w1, ⟨k0, k5, by rw [e 71 w (by omega) (by unfold mdW mdS; omega)]; exact kk⟩, ⟨by rw [e 72 w (by omega) (by unfold mdW mdS; omega)]; exact n1, n2, n3⟩, hch, fun x h0 h1 => ?_, fun g s g0 g1 h0 h1 => ?_, fun g s g0 g1 h0 h1 => ?_⟩
  · rw [e 70 x (by omega) (by unfold mdW mdS; omega)]; exact a2 x h0 h1
  · rw [e 69 _ (by omega) (by unfold mdW mdS; omega)]; exact a3 g s g0 g1 h0 h1
  · rw [e 65 _ (by omega) (by unfold mdW mdS; omega)]; exact a4 g s g0 g1 h0 h1
theorem f_costBy {σ : ZS} {w n k : Int} {ch so : Int → Int} {ln rt tl : Int → Int → Int} {st wi : Int → Int} {cs ls : List Int} (hV : MV σ w n k ch so ln rt) (hC : MC σ tl st wi cs ls) {c x : Int} (c0 : 0 ≤ c) (c1 : c < n) (x0 : 0 ≤ x) (x1 : x ≤ 48) : Rt (fX12_costBy σ 64 w c x) (fun v τ => v = cIf n k ch so ln rt tl st wi cs c x ∧ Ch mdW σ τ ∧ MV τ w n k ch so ln rt ∧ MC τ tl st wi cs ls ∧ ∀ i : Int, 45 ≤ i → i ≤ 47 → sM τ 64 i = sM σ 64 i) := by
  have hF := hV.1
  have h9 := hF.2.2.2
  have hn := hV.2.2.2.1.2
  have ec := hd (hV.2.2.2.2.1 c c0 c1).1
  unfold fX12_costBy
  repeat (first
    | with_reducible refine rt_b ?_
    | with_reducible refine rt_jn ?_
    | ((with_reducible refine rt_pos ?_ ?_); (· first | omega | ((try simp (disch := omega) only [wr, true_and, and_true, sM_ne, sM_eq, sM_neR, sM_eqR, sK_upM, sK_upR, sL_upM, sL_upR, sN_upM, sN_upR, sT_upM, sT_upR, sN_upM, Int.reduceAdd, Int.reduceMul, Int.reduceSub, Int.reduceNeg, Int.zero_add, Int.add_zero, hF.c, ec ()]) <;> omega)))
    | ((with_reducible refine rt_neg ?_ ?_); (· first | omega | ((try simp (disch := omega) only [wr, true_and, and_true, sM_ne, sM_eq, sM_neR, sM_eqR, sK_upM, sK_upR, sL_upM, sL_upR, sN_upM, sN_upR, sT_upM, sT_upR, sN_upM, Int.reduceAdd, Int.reduceMul, Int.reduceSub, Int.reduceNeg, Int.zero_add, Int.add_zero, hF.c, ec ()]) <;> omega)))
    | ((with_reducible refine rt_v ?_ ?_); · simp (disch := omega) only [true_and, and_true, sM_ne, sM_eq, sM_neR, sM_eqR, sK_upM, sK_upR, sL_upM, sL_upR, sN_upM, sN_upR, sT_upM, sT_upR, sN_upM, Int.reduceAdd, Int.reduceMul, Int.reduceSub, Int.reduceNeg, Int.zero_add, Int.add_zero, hF.c, ec ()])
    | ((with_reducible apply rt_gx); (· simp (disch := omega) only [true_and, and_true, sM_ne, sM_eq, sM_neR, sM_eqR, sK_upM, sK_upR, sL_upM, sL_upR, sN_upM, sN_upR, sT_upM, sT_upR, sN_upM, Int.reduceAdd, Int.reduceMul, Int.reduceSub, Int.reduceNeg, Int.zero_add, Int.add_zero, hF.c, ec ()]); (· (try simp (disch := omega) only [wr, true_and, and_true, sM_ne, sM_eq, sM_neR, sM_eqR, sK_upM, sK_upR, sL_upM, sL_upR, sN_upM, sN_upR, sT_upM, sT_upR, sN_upM, Int.reduceAdd, Int.reduceMul, Int.reduceSub, Int.reduceNeg, Int.zero_add, Int.add_zero, hF.c, ec ()]); exact rfl))
    | ((with_reducible apply rt_alx); (· simp (disch := omega) only [true_and, and_true, sM_ne, sM_eq, sM_neR, sM_eqR, sK_upM, sK_upR, sL_upM, sL_upR, sN_upM, sN_upR, sT_upM, sT_upR, sN_upM, Int.reduceAdd, Int.reduceMul, Int.reduceSub, Int.reduceNeg, Int.zero_add, Int.add_zero, hF.c, ec ()]); (· first | omega | ((try simp (disch := omega) only [wr, true_and, and_true, sM_ne, sM_eq, sM_neR, sM_eqR, sK_upM, sK_upR, sL_upM, sL_upR, sN_upM, sN_upR, sT_upM, sT_upR, sN_upM, Int.reduceAdd, Int.reduceMul, Int.reduceSub, Int.reduceNeg, Int.zero_add, Int.add_zero, hF.c, ec ()]) <;> omega)); (· (try simp (disch := omega) only [wr, true_and, and_true, sM_ne, sM_eq, sM_neR, sM_eqR, sK_upM, sK_upR, sL_upM, sL_upR, sN_upM, sN_upR, sT_upM, sT_upR, sN_upM, Int.reduceAdd, Int.reduceMul, Int.reduceSub, Int.reduceNeg, Int.zero_add, Int.add_zero, hF.c, ec ()]); exact rfl))
    | ((with_reducible refine rt_as ?_ ?_ ?_); (· simp (disch := omega) only [true_and, and_true, sM_ne, sM_eq, sM_neR, sM_eqR, sK_upM, sK_upR, sL_upM, sL_upR, sN_upM, sN_upR, sT_upM, sT_upR, sN_upM, Int.reduceAdd, Int.reduceMul, Int.reduceSub, Int.reduceNeg, Int.zero_add, Int.add_zero, hF.c, ec ()]); (· first | omega | ((try simp (disch := omega) only [wr, true_and, and_true, sM_ne, sM_eq, sM_neR, sM_eqR, sK_upM, sK_upR, sL_upM, sL_upR, sN_upM, sN_upR, sT_upM, sT_upR, sN_upM, Int.reduceAdd, Int.reduceMul, Int.reduceSub, Int.reduceNeg, Int.zero_add, Int.add_zero, hF.c, ec ()]) <;> omega)))
    | ((with_reducible refine rt_p ?_ ?_ ?_); (· simp (disch := omega) only [true_and, and_true, sM_ne, sM_eq, sM_neR, sM_eqR, sK_upM, sK_upR, sL_upM, sL_upR, sN_upM, sN_upR, sT_upM, sT_upR, sN_upM, Int.reduceAdd, Int.reduceMul, Int.reduceSub, Int.reduceNeg, Int.zero_add, Int.add_zero, hF.c, ec ()]); (· omega))
    | with_reducible refine rt_ret ?_
    | ((with_reducible apply rt_gwx); (· assumption); (· (try simp (disch := omega) only [wr, true_and, and_true, sM_ne, sM_eq, sM_neR, sM_eqR, sK_upM, sK_upR, sL_upM, sL_upR, sN_upM, sN_upR, sT_upM, sT_upR, sN_upM, Int.reduceAdd, Int.reduceMul, Int.reduceSub, Int.reduceNeg, Int.zero_add, Int.add_zero, hF.c, ec ()]); exact rfl)))
  have hC1 : Ch mdW σ (upM σ 88 c x) := Ch.rf.up (Or.inr (Or.inl rfl))
  have hV1 : MV (upM σ 88 c x) w n k (updF ch c x) so ln rt := hV.chW hC1 (fun j j0 j1 => by
    by_cases e : j = c
    · subst e; rw [sM_eq ⟨rfl, rfl⟩, updF_eq]; exact ⟨rfl, x0, x1⟩
    · rw [sM_ne (Or.inr e), updF_ne e]; exact hV.2.2.2.2.1 j j0 j1)
  refine Rt.mono (f_goes hV1) ?_
  rintro v τ ⟨hcτ, hGτ⟩
  have hVτ := hV1.ch hcτ
  have hFτ := hVτ.1
  have hCτ := (hC.chW hF hC1).ch hV1.1 hcτ
  refine rt_b (rt_v (by simp (disch := omega) only [true_and, and_true, sM_ne, sM_eq, sM_neR, sM_eqR, sK_upM, sK_upR, sL_upM, sL_upR, sN_upM, sN_upR, sT_upM, sT_upR, sN_upM, Int.reduceAdd, Int.reduceMul, Int.reduceSub, Int.reduceNeg, Int.zero_add, Int.add_zero, hFτ.c]) ?_)
  refine Rt.mono (g_cost hVτ hCτ hGτ c0 c1) ?_
  rintro v2 ρ ⟨e, hcρ⟩
  have hVρ := hVτ.ch (hcρ.mono mcS_md)
  have hFρ := hVρ.1
  repeat (first
    | with_reducible refine rt_b ?_
    | with_reducible refine rt_jn ?_
    | ((with_reducible refine rt_pos ?_ ?_); (· first | omega | ((try simp (disch := omega) only [wr, true_and, and_true, sM_ne, sM_eq, sM_neR, sM_eqR, sK_upM, sK_upR, sL_upM, sL_upR, sN_upM, sN_upR, sT_upM, sT_upR, sN_upM, Int.reduceAdd, Int.reduceMul, Int.reduceSub, Int.reduceNeg, Int.zero_add, Int.add_zero, hFρ.c]) <;> omega)))
    | ((with_reducible refine rt_neg ?_ ?_); (· first | omega | ((try simp (disch := omega) only [wr, true_and, and_true, sM_ne, sM_eq, sM_neR, sM_eqR, sK_upM, sK_upR, sL_upM, sL_upR, sN_upM, sN_upR, sT_upM, sT_upR, sN_upM, Int.reduceAdd, Int.reduceMul, Int.reduceSub, Int.reduceNeg, Int.zero_add, Int.add_zero, hFρ.c]) <;> omega)))
    | ((with_reducible refine rt_v ?_ ?_); · simp (disch := omega) only [true_and, and_true, sM_ne, sM_eq, sM_neR, sM_eqR, sK_upM, sK_upR, sL_upM, sL_upR, sN_upM, sN_upR, sT_upM, sT_upR, sN_upM, Int.reduceAdd, Int.reduceMul, Int.reduceSub, Int.reduceNeg, Int.zero_add, Int.add_zero, hFρ.c])
    | ((with_reducible apply rt_gx); (· simp (disch := omega) only [true_and, and_true, sM_ne, sM_eq, sM_neR, sM_eqR, sK_upM, sK_upR, sL_upM, sL_upR, sN_upM, sN_upR, sT_upM, sT_upR, sN_upM, Int.reduceAdd, Int.reduceMul, Int.reduceSub, Int.reduceNeg, Int.zero_add, Int.add_zero, hFρ.c]); (· (try simp (disch := omega) only [wr, true_and, and_true, sM_ne, sM_eq, sM_neR, sM_eqR, sK_upM, sK_upR, sL_upM, sL_upR, sN_upM, sN_upR, sT_upM, sT_upR, sN_upM, Int.reduceAdd, Int.reduceMul, Int.reduceSub, Int.reduceNeg, Int.zero_add, Int.add_zero, hFρ.c]); exact rfl))
    | ((with_reducible apply rt_alx); (· simp (disch := omega) only [true_and, and_true, sM_ne, sM_eq, sM_neR, sM_eqR, sK_upM, sK_upR, sL_upM, sL_upR, sN_upM, sN_upR, sT_upM, sT_upR, sN_upM, Int.reduceAdd, Int.reduceMul, Int.reduceSub, Int.reduceNeg, Int.zero_add, Int.add_zero, hFρ.c]); (· first | omega | ((try simp (disch := omega) only [wr, true_and, and_true, sM_ne, sM_eq, sM_neR, sM_eqR, sK_upM, sK_upR, sL_upM, sL_upR, sN_upM, sN_upR, sT_upM, sT_upR, sN_upM, Int.reduceAdd, Int.reduceMul, Int.reduceSub, Int.reduceNeg, Int.zero_add, Int.add_zero, hFρ.c]) <;> omega)); (· (try simp (disch := omega) only [wr, true_and, and_true, sM_ne, sM_eq, sM_neR, sM_eqR, sK_upM, sK_upR, sL_upM, sL_upR, sN_upM, sN_upR, sT_upM, sT_upR, sN_upM, Int.reduceAdd, Int.reduceMul, Int.reduceSub, Int.reduceNeg, Int.zero_add, Int.add_zero, hFρ.c]); exact rfl))
    | ((with_reducible refine rt_as ?_ ?_ ?_); (· simp (disch := omega) only [true_and, and_true, sM_ne, sM_eq, sM_neR, sM_eqR, sK_upM, sK_upR, sL_upM, sL_upR, sN_upM, sN_upR, sT_upM, sT_upR, sN_upM, Int.reduceAdd, Int.reduceMul, Int.reduceSub, Int.reduceNeg, Int.zero_add, Int.add_zero, hFρ.c]); (· first | omega | ((try simp (disch := omega) only [wr, true_and, and_true, sM_ne, sM_eq, sM_neR, sM_eqR, sK_upM, sK_upR, sL_upM, sL_upR, sN_upM, sN_upR, sT_upM, sT_upR, sN_upM, Int.reduceAdd, Int.reduceMul, Int.reduceSub, Int.reduceNeg, Int.zero_add, Int.add_zero, hFρ.c]) <;> omega)))
    | ((with_reducible refine rt_p ?_ ?_ ?_); (· simp (disch := omega) only [true_and, and_true, sM_ne, sM_eq, sM_neR, sM_eqR, sK_upM, sK_upR, sL_upM, sL_upR, sN_upM, sN_upR, sT_upM, sT_upR, sN_upM, Int.reduceAdd, Int.reduceMul, Int.reduceSub, Int.reduceNeg, Int.zero_add, Int.add_zero, hFρ.c]); (· omega))
    | with_reducible refine rt_ret ?_
    | ((with_reducible apply rt_gwx); (· assumption); (· (try simp (disch := omega) only [wr, true_and, and_true, sM_ne, sM_eq, sM_neR, sM_eqR, sK_upM, sK_upR, sL_upM, sL_upR, sN_upM, sN_upR, sT_upM, sT_upR, sN_upM, Int.reduceAdd, Int.reduceMul, Int.reduceSub, Int.reduceNeg, Int.zero_add, Int.add_zero, hFρ.c]); exact rfl)))
  have hall : Ch mdW σ (upM ρ 88 c (ch c)) := ((hC1.tr (hcτ.mono (fun a i q => Or.inl q))).tr (hcρ.mono (fun a i q => Or.inl (mcS_md a i q)))).up (Or.inr (Or.inl rfl))
  refine ⟨e, hall, hV.chW hall (fun j j0 j1 => ?_), hC.chW hF hall, fun i i0 i1 => ?_⟩
  · by_cases e : j = c
    · subst e; rw [sM_eq ⟨rfl, rfl⟩]; exact ⟨rfl, (hV.2.2.2.2.1 j c0 c1).2⟩
    · rw [sM_ne (Or.inr e)]
      have := hVρ.2.2.2.2.1 j j0 j1
      rw [updF_ne e] at this
      exact this
  · rw [sM_ne (by omega), hcρ.M (by have := hFτ.2.2.2; omega) (by unfold mcS; omega), hcτ.M (by have := hV1.1.2.2.2; omega) (by unfold mdS; omega), sM_ne (by omega)]
theorem q_other {σ : ZS} (h : Rel σ) (w c x : Int) : Rt (fX11_other σ 3 w c x) (fun y τ => Rt (fX12_other τ 64 w c x) (fun z ρ => Fin σ y z ρ)) := by
  have hF := h.F
  unfold fX11_other
  by_cases hw : 0 ≤ w ∧ w < sM σ 64 8
  · obtain ⟨w0, w1⟩ := hw
    obtain ⟨hwk, hn0⟩ := h.wk w0 w1
    have hn := h.wn w0 w1
    have hV := h.lv w0 w1
    have hC := h.cv
    have hT := h.tv
    have h2 := hd hn0
    clear hn0
    refine rt_b (rt_v (by simp (disch := omega) only [true_and, and_true, sM_ne, sM_eq, sM_neR, sM_eqR, sK_upM, sK_upR, sL_upM, sL_upR, sN_upM, sN_upR, sT_upM, sT_upR, sN_upM, Int.reduceAdd, Int.reduceMul, Int.reduceSub, Int.reduceNeg, Int.zero_add, Int.add_zero, hF.c]) (rt_e (f_wayAt1 h w0 w1) ?_))
    refine rt_neg (by omega) (rt_b (rt_e (f_isForW hwk (h2 ()) c) ?_))
    by_cases hc : 0 ≤ c ∧ c < sM σ 72 w
    · rw [if_pos hc]
      refine rt_neg (by omega) (rt_b (rt_e (f_within σ x 48) ?_))
      by_cases hx : 0 ≤ x ∧ x ≤ 48
      · rw [if_pos hx]
        refine rt_neg (by omega) ?_
        repeat (first
    | with_reducible refine rt_b ?_
    | with_reducible refine rt_jn ?_
    | ((with_reducible refine rt_pos ?_ ?_); (· first | omega | ((try simp (disch := omega) only [wr, true_and, and_true, sM_ne, sM_eq, sM_neR, sM_eqR, sK_upM, sK_upR, sL_upM, sL_upR, sN_upM, sN_upR, sT_upM, sT_upR, sN_upM, Int.reduceAdd, Int.reduceMul, Int.reduceSub, Int.reduceNeg, Int.zero_add, Int.add_zero, hF.c]) <;> omega)))
    | ((with_reducible refine rt_neg ?_ ?_); (· first | omega | ((try simp (disch := omega) only [wr, true_and, and_true, sM_ne, sM_eq, sM_neR, sM_eqR, sK_upM, sK_upR, sL_upM, sL_upR, sN_upM, sN_upR, sT_upM, sT_upR, sN_upM, Int.reduceAdd, Int.reduceMul, Int.reduceSub, Int.reduceNeg, Int.zero_add, Int.add_zero, hF.c]) <;> omega)))
    | ((with_reducible refine rt_v ?_ ?_); · simp (disch := omega) only [true_and, and_true, sM_ne, sM_eq, sM_neR, sM_eqR, sK_upM, sK_upR, sL_upM, sL_upR, sN_upM, sN_upR, sT_upM, sT_upR, sN_upM, Int.reduceAdd, Int.reduceMul, Int.reduceSub, Int.reduceNeg, Int.zero_add, Int.add_zero, hF.c])
    | ((with_reducible apply rt_gx); (· simp (disch := omega) only [true_and, and_true, sM_ne, sM_eq, sM_neR, sM_eqR, sK_upM, sK_upR, sL_upM, sL_upR, sN_upM, sN_upR, sT_upM, sT_upR, sN_upM, Int.reduceAdd, Int.reduceMul, Int.reduceSub, Int.reduceNeg, Int.zero_add, Int.add_zero, hF.c]); (· (try simp (disch := omega) only [wr, true_and, and_true, sM_ne, sM_eq, sM_neR, sM_eqR, sK_upM, sK_upR, sL_upM, sL_upR, sN_upM, sN_upR, sT_upM, sT_upR, sN_upM, Int.reduceAdd, Int.reduceMul, Int.reduceSub, Int.reduceNeg, Int.zero_add, Int.add_zero, hF.c]); exact rfl))
    | ((with_reducible apply rt_alx); (· simp (disch := omega) only [true_and, and_true, sM_ne, sM_eq, sM_neR, sM_eqR, sK_upM, sK_upR, sL_upM, sL_upR, sN_upM, sN_upR, sT_upM, sT_upR, sN_upM, Int.reduceAdd, Int.reduceMul, Int.reduceSub, Int.reduceNeg, Int.zero_add, Int.add_zero, hF.c]); (· first | omega | ((try simp (disch := omega) only [wr, true_and, and_true, sM_ne, sM_eq, sM_neR, sM_eqR, sK_upM, sK_upR, sL_upM, sL_upR, sN_upM, sN_upR, sT_upM, sT_upR, sN_upM, Int.reduceAdd, Int.reduceMul, Int.reduceSub, Int.reduceNeg, Int.zero_add, Int.add_zero, hF.c]) <;> omega)); (· (try simp (disch := omega) only [wr, true_and, and_true, sM_ne, sM_eq, sM_neR, sM_eqR, sK_upM, sK_upR, sL_upM, sL_upR, sN_upM, sN_upR, sT_upM, sT_upR, sN_upM, Int.reduceAdd, Int.reduceMul, Int.reduceSub, Int.reduceNeg, Int.zero_add, Int.add_zero, hF.c]); exact rfl))
    | ((with_reducible refine rt_as ?_ ?_ ?_); (· simp (disch := omega) only [true_and, and_true, sM_ne, sM_eq, sM_neR, sM_eqR, sK_upM, sK_upR, sL_upM, sL_upR, sN_upM, sN_upR, sT_upM, sT_upR, sN_upM, Int.reduceAdd, Int.reduceMul, Int.reduceSub, Int.reduceNeg, Int.zero_add, Int.add_zero, hF.c]); (· first | omega | ((try simp (disch := omega) only [wr, true_and, and_true, sM_ne, sM_eq, sM_neR, sM_eqR, sK_upM, sK_upR, sL_upM, sL_upR, sN_upM, sN_upR, sT_upM, sT_upR, sN_upM, Int.reduceAdd, Int.reduceMul, Int.reduceSub, Int.reduceNeg, Int.zero_add, Int.add_zero, hF.c]) <;> omega)))
    | ((with_reducible refine rt_p ?_ ?_ ?_); (· simp (disch := omega) only [true_and, and_true, sM_ne, sM_eq, sM_neR, sM_eqR, sK_upM, sK_upR, sL_upM, sL_upR, sN_upM, sN_upR, sT_upM, sT_upR, sN_upM, Int.reduceAdd, Int.reduceMul, Int.reduceSub, Int.reduceNeg, Int.zero_add, Int.add_zero, hF.c]); (· omega))
    | with_reducible refine rt_ret ?_
    | ((with_reducible apply rt_gwx); (· assumption); (· (try simp (disch := omega) only [wr, true_and, and_true, sM_ne, sM_eq, sM_neR, sM_eqR, sK_upM, sK_upR, sL_upM, sL_upR, sN_upM, sN_upR, sT_upM, sT_upR, sN_upM, Int.reduceAdd, Int.reduceMul, Int.reduceSub, Int.reduceNeg, Int.zero_add, Int.add_zero, hF.c]); exact rfl)))
        refine Rt.mono (f_gather (w := c) hV) ?_
        rintro v τ ⟨hcτ, hG⟩
        have hVτ := hV.ch hcτ
        have hFτ := hVτ.1
        have hCτ := hC.ch hF hcτ
        have hTτ := hT.ch hF hcτ (by unfold lnS; omega) (fun i => by unfold lnS; omega)
        have ht := hTτ.1
        have eT := hd hTτ.2
        repeat (first
    | with_reducible refine rt_b ?_
    | with_reducible refine rt_jn ?_
    | ((with_reducible refine rt_pos ?_ ?_); (· first | omega | ((try simp (disch := omega) only [wr, true_and, and_true, sM_ne, sM_eq, sM_neR, sM_eqR, sK_upM, sK_upR, sL_upM, sL_upR, sN_upM, sN_upR, sT_upM, sT_upR, sN_upM, Int.reduceAdd, Int.reduceMul, Int.reduceSub, Int.reduceNeg, Int.zero_add, Int.add_zero, hFτ.c, eT ()]) <;> omega)))
    | ((with_reducible refine rt_neg ?_ ?_); (· first | omega | ((try simp (disch := omega) only [wr, true_and, and_true, sM_ne, sM_eq, sM_neR, sM_eqR, sK_upM, sK_upR, sL_upM, sL_upR, sN_upM, sN_upR, sT_upM, sT_upR, sN_upM, Int.reduceAdd, Int.reduceMul, Int.reduceSub, Int.reduceNeg, Int.zero_add, Int.add_zero, hFτ.c, eT ()]) <;> omega)))
    | ((with_reducible refine rt_v ?_ ?_); · simp (disch := omega) only [true_and, and_true, sM_ne, sM_eq, sM_neR, sM_eqR, sK_upM, sK_upR, sL_upM, sL_upR, sN_upM, sN_upR, sT_upM, sT_upR, sN_upM, Int.reduceAdd, Int.reduceMul, Int.reduceSub, Int.reduceNeg, Int.zero_add, Int.add_zero, hFτ.c, eT ()])
    | ((with_reducible apply rt_gx); (· simp (disch := omega) only [true_and, and_true, sM_ne, sM_eq, sM_neR, sM_eqR, sK_upM, sK_upR, sL_upM, sL_upR, sN_upM, sN_upR, sT_upM, sT_upR, sN_upM, Int.reduceAdd, Int.reduceMul, Int.reduceSub, Int.reduceNeg, Int.zero_add, Int.add_zero, hFτ.c, eT ()]); (· (try simp (disch := omega) only [wr, true_and, and_true, sM_ne, sM_eq, sM_neR, sM_eqR, sK_upM, sK_upR, sL_upM, sL_upR, sN_upM, sN_upR, sT_upM, sT_upR, sN_upM, Int.reduceAdd, Int.reduceMul, Int.reduceSub, Int.reduceNeg, Int.zero_add, Int.add_zero, hFτ.c, eT ()]); exact rfl))
    | ((with_reducible apply rt_alx); (· simp (disch := omega) only [true_and, and_true, sM_ne, sM_eq, sM_neR, sM_eqR, sK_upM, sK_upR, sL_upM, sL_upR, sN_upM, sN_upR, sT_upM, sT_upR, sN_upM, Int.reduceAdd, Int.reduceMul, Int.reduceSub, Int.reduceNeg, Int.zero_add, Int.add_zero, hFτ.c, eT ()]); (· first | omega | ((try simp (disch := omega) only [wr, true_and, and_true, sM_ne, sM_eq, sM_neR, sM_eqR, sK_upM, sK_upR, sL_upM, sL_upR, sN_upM, sN_upR, sT_upM, sT_upR, sN_upM, Int.reduceAdd, Int.reduceMul, Int.reduceSub, Int.reduceNeg, Int.zero_add, Int.add_zero, hFτ.c, eT ()]) <;> omega)); (· (try simp (disch := omega) only [wr, true_and, and_true, sM_ne, sM_eq, sM_neR, sM_eqR, sK_upM, sK_upR, sL_upM, sL_upR, sN_upM, sN_upR, sT_upM, sT_upR, sN_upM, Int.reduceAdd, Int.reduceMul, Int.reduceSub, Int.reduceNeg, Int.zero_add, Int.add_zero, hFτ.c, eT ()]); exact rfl))
    | ((with_reducible refine rt_as ?_ ?_ ?_); (· simp (disch := omega) only [true_and, and_true, sM_ne, sM_eq, sM_neR, sM_eqR, sK_upM, sK_upR, sL_upM, sL_upR, sN_upM, sN_upR, sT_upM, sT_upR, sN_upM, Int.reduceAdd, Int.reduceMul, Int.reduceSub, Int.reduceNeg, Int.zero_add, Int.add_zero, hFτ.c, eT ()]); (· first | omega | ((try simp (disch := omega) only [wr, true_and, and_true, sM_ne, sM_eq, sM_neR, sM_eqR, sK_upM, sK_upR, sL_upM, sL_upR, sN_upM, sN_upR, sT_upM, sT_upR, sN_upM, Int.reduceAdd, Int.reduceMul, Int.reduceSub, Int.reduceNeg, Int.zero_add, Int.add_zero, hFτ.c, eT ()]) <;> omega)))
    | ((with_reducible refine rt_p ?_ ?_ ?_); (· simp (disch := omega) only [true_and, and_true, sM_ne, sM_eq, sM_neR, sM_eqR, sK_upM, sK_upR, sL_upM, sL_upR, sN_upM, sN_upR, sT_upM, sT_upR, sN_upM, Int.reduceAdd, Int.reduceMul, Int.reduceSub, Int.reduceNeg, Int.zero_add, Int.add_zero, hFτ.c, eT ()]); (· omega))
    | with_reducible refine rt_ret ?_
    | ((with_reducible apply rt_gwx); (· assumption); (· (try simp (disch := omega) only [wr, true_and, and_true, sM_ne, sM_eq, sM_neR, sM_eqR, sK_upM, sK_upR, sL_upM, sL_upR, sN_upM, sN_upR, sT_upM, sT_upR, sN_upM, Int.reduceAdd, Int.reduceMul, Int.reduceSub, Int.reduceNeg, Int.zero_add, Int.add_zero, hFτ.c, eT ()]); exact rfl)))
        refine Rt.mono (f_costIf hVτ hCτ hG hc.1 hc.2 hx.1 hx.2) ?_
        rintro y π ⟨e, hcπ⟩
        refine rt_ret ?_
        have hsπ : Ch scr σ π := (hcτ.mono lnS_scr).tr (hcπ.mono (fun a i q => lnS_scr a i (csS_ln a i q)))
        have hRπ := h.off hsπ.1
        have hFπ := hRπ.F
        have h8 : sM π 64 8 = sM σ 64 8 := hsπ.M (by have := hF.2.2.2; omega) (by unfold scr; omega)
        have h72 : sM π 72 w = sM σ 72 w := hsπ.M (by have := hF.2.2.2; omega) (by unfold scr; omega)
        unfold fX12_other fX12_isChoice
        refine rt_b (rt_v (by simp (disch := omega) only [true_and, and_true, sM_ne, sM_eq, sM_neR, sM_eqR, sK_upM, sK_upR, sL_upM, sL_upR, sN_upM, sN_upR, sT_upM, sT_upR, sN_upM, Int.reduceAdd, Int.reduceMul, Int.reduceSub, Int.reduceNeg, Int.zero_add, Int.add_zero, hFπ.c]) (rt_e (f_isOf1 hRπ w0 (by rw [h8]; exact w1)) ?_))
        rw [h72, if_pos hc]
        clear h8 h72
        refine rt_neg (by omega) (rt_b (rt_b (rt_e (f_in π x 0 48) ?_)))
        rw [if_pos hx]
        refine rt_ret (rt_neg (by omega) ?_)
        refine rt_b (rt_v (by simp (disch := omega) only [true_and, and_true, sM_ne, sM_eq, sM_neR, sM_eqR, sK_upM, sK_upR, sL_upM, sL_upR, sN_upM, sN_upR, sT_upM, sT_upR, sN_upM, Int.reduceAdd, Int.reduceMul, Int.reduceSub, Int.reduceNeg, Int.zero_add, Int.add_zero, hFπ.c]) ?_)
        refine Rt.mono (f_laysR h hsπ w0 w1) ?_
        rintro v3 ρ ⟨hcρ, hVρ, hCρ⟩
        have hFρ := hVρ.1
        refine rt_b (rt_v (by simp (disch := omega) only [true_and, and_true, sM_ne, sM_eq, sM_neR, sM_eqR, sK_upM, sK_upR, sL_upM, sL_upR, sN_upM, sN_upR, sT_upM, sT_upR, sN_upM, Int.reduceAdd, Int.reduceMul, Int.reduceSub, Int.reduceNeg, Int.zero_add, Int.add_zero, hFρ.c]) ?_)
        refine Rt.mono (f_costBy hVρ hCρ hc.1 hc.2 hx.1 hx.2) ?_
        rintro z θ ⟨e2, hcθ, -⟩
        exact rt_ret (finC h (by rw [e, e2]) (hcρ.tr (hcθ.mono mdW_scr)))
      · rw [if_neg hx]
        refine rt_pos rfl (rt_ret ?_)
        unfold fX12_other fX12_isChoice
        refine rt_b (rt_v (by simp (disch := omega) only [true_and, and_true, sM_ne, sM_eq, sM_neR, sM_eqR, sK_upM, sK_upR, sL_upM, sL_upR, sN_upM, sN_upR, sT_upM, sT_upR, sN_upM, Int.reduceAdd, Int.reduceMul, Int.reduceSub, Int.reduceNeg, Int.zero_add, Int.add_zero, hF.c]) (rt_e (f_isOf1 h w0 w1) ?_))
        rw [if_pos hc]
        refine rt_neg (by omega) (rt_b (rt_b (rt_e (f_in σ x 0 48) ?_)))
        rw [if_neg hx]
        exact rt_ret (rt_pos rfl (rt_ret (fin0 h rfl)))
    · rw [if_neg hc]
      refine rt_pos rfl (rt_ret ?_)
      unfold fX12_other
      refine rt_b (rt_v (by simp (disch := omega) only [true_and, and_true, sM_ne, sM_eq, sM_neR, sM_eqR, sK_upM, sK_upR, sL_upM, sL_upR, sN_upM, sN_upR, sT_upM, sT_upR, sN_upM, Int.reduceAdd, Int.reduceMul, Int.reduceSub, Int.reduceNeg, Int.zero_add, Int.add_zero, hF.c]) (rt_e (f_isOf1 h w0 w1) ?_))
      rw [if_neg hc]
      exact rt_pos rfl (rt_ret (fin0 h rfl))
  · refine rt_b (rt_v (by simp (disch := omega) only [true_and, and_true, sM_ne, sM_eq, sM_neR, sM_eqR, sK_upM, sK_upR, sL_upM, sL_upR, sN_upM, sN_upR, sT_upM, sT_upR, sN_upM, Int.reduceAdd, Int.reduceMul, Int.reduceSub, Int.reduceNeg, Int.zero_add, Int.add_zero, hF.c]) (rt_e (f_wayAt0 h hw) ?_))
    refine rt_pos (by omega) (rt_ret ?_)
    unfold fX12_other
    refine rt_b (rt_v (by simp (disch := omega) only [true_and, and_true, sM_ne, sM_eq, sM_neR, sM_eqR, sK_upM, sK_upR, sL_upM, sL_upR, sN_upM, sN_upR, sT_upM, sT_upR, sN_upM, Int.reduceAdd, Int.reduceMul, Int.reduceSub, Int.reduceNeg, Int.zero_add, Int.add_zero, hF.c]) (rt_e (f_isOf0 h hw) ?_))
    exact rt_pos rfl (rt_ret (fin0 h rfl))
