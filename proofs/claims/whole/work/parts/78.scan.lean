/-! the class's tokens -/
theorem l_ix {b : Int} {s : ZS} : ∀ (N x : Nat), x ≤ 8 → 8 - x < N → Rt (lJ1_indexOfChar_4cfef_7 1 8 b N s (x : Int)) (fun v τ => τ = s ∧ ((0 ≤ v ∧ ∃ y : Nat, y < 8 ∧ zbt 1 (y : Int) = b) ∨ (v = -1 ∧ ∀ y : Nat, x ≤ y → y < 8 → zbt 1 (y : Int) ≠ b)))
  | 0, x, h1, h2 => by omega
  | N + 1, x, h1, h2 => by
    have hz : ((zLen.getD 1 0 : Nat) : Int) = 8 := by decide
    rw [lJ1_indexOfChar_4cfef_7]
    by_cases he : 8 ≤ (x : Int)
    · exact rt_pos he (rt_ret ⟨rfl, Or.inr ⟨rfl, fun y y0 y1 => by omega⟩⟩)
    · rw [hz]
      refine rt_neg he (rt_pos (by omega) ?_)
      by_cases q : zbt 1 (x : Int) = b
      · exact rt_pos q (rt_ret ⟨rfl, Or.inl ⟨by omega, x, by omega, q⟩⟩)
      · refine rt_neg q ?_
        rw [wr1 x (by omega)]
        refine (l_ix N (x + 1) (by omega) (by omega)).mono ?_
        rintro v τ ⟨e1, e2⟩
        refine ⟨e1, e2.imp id (fun g => ⟨g.1, fun y y0 y1 => ?_⟩)⟩
        by_cases c : y = x
        · rw [c]; exact q
        · exact g.2 y (by omega) y1
theorem f_signAt {f : Int → Int} {z p : Int} {s : ZS} (h : TPX f z s) (p0 : 0 ≤ p) (p1 : p < z) : fX4_signAt s 34 p = some (sgT (f p), s) := by
  refine rt_is ?_
  obtain ⟨-, c0, c1⟩ := h.2.2.2 p p0 p1
  unfold fX4_signAt
  refine rt_tp h p0 p1 ?_
  rw [iC_id c0 c1]
  have hz : ((zLen.getD 1 0 : Nat) : Int) = 8 := by decide
  have hl : fJ0_length_8abf5 s 1 = some (8, s) := by
    unfold fJ0_length_8abf5 fJ0_coder_7d493
    show some (iShr (zLen.getD 1 0 : Int) 0, s) = _
    have : iShr ((zLen.getD 1 0 : Nat) : Int) 0 = 8 := by decide +kernel
    rw [this]
  unfold fJ0_indexOf_0f7a4 fJ0_indexOf_7cf53 fJ0_isLatin1_aae02
  refine rt_b (rt_b (rt_b (rt_ret (rt_neg (by decide) (rt_b (rt_e hl (rt_b ?_)))))))
  unfold fJ1_indexOf_4cfef fJ1_canEncode_9a6ad
  rw [hz]
  refine rt_b (rt_neg (by omega) (rt_neg (by omega) (rt_ret (rt_neg (by decide) (rt_pos (by decide) (rt_b ?_))))))
  unfold fJ1_indexOfChar_4cfef
  have e0 : imax 0 0 = ((0 : Nat) : Int) := by decide
  have e8 : imin 8 8 = 8 := by decide
  rw [e0, e8, iB_in c0 c1]
  refine Rt.mono (l_ix 1000 0 (by omega) (by omega)) ?_
  obtain ⟨r0, r1, r2, r3, r4, r5, r6, r7⟩ := sg_row
  have row : ∀ y : Nat, y < 8 → zbt 1 (y : Int) = 40 ∨ zbt 1 (y : Int) = 41 ∨ zbt 1 (y : Int) = 59 ∨ zbt 1 (y : Int) = 43 ∨ zbt 1 (y : Int) = 45 ∨ zbt 1 (y : Int) = 42 ∨ zbt 1 (y : Int) = 60 ∨ zbt 1 (y : Int) = 61 := by
    intro y hy
    rcases (by omega : y = 0 ∨ y = 1 ∨ y = 2 ∨ y = 3 ∨ y = 4 ∨ y = 5 ∨ y = 6 ∨ y = 7) with rfl | rfl | rfl | rfl | rfl | rfl | rfl | rfl
    · exact Or.inl r0
    · exact Or.inr (Or.inl r1)
    · exact Or.inr (Or.inr (Or.inl r2))
    · exact Or.inr (Or.inr (Or.inr (Or.inl r3)))
    · exact Or.inr (Or.inr (Or.inr (Or.inr (Or.inl r4))))
    · exact Or.inr (Or.inr (Or.inr (Or.inr (Or.inr (Or.inl r5)))))
    · exact Or.inr (Or.inr (Or.inr (Or.inr (Or.inr (Or.inr (Or.inl r6))))))
    · exact Or.inr (Or.inr (Or.inr (Or.inr (Or.inr (Or.inr (Or.inr r7))))))
  rintro v τ ⟨rfl, ⟨g1, y, y0, y1⟩ | ⟨rfl, g⟩⟩
  · refine rt_ret (rt_ret (rt_ret (rt_neg (by omega) (rt_tp h p0 p1 (rt_ret ⟨?_, rfl⟩)))))
    have hset : f p = 40 ∨ f p = 41 ∨ f p = 59 ∨ f p = 43 ∨ f p = 45 ∨ f p = 42 ∨ f p = 60 ∨ f p = 61 := by
      have := row y y0
      rw [y1] at this
      by_cases c : f p < 128
      · rw [if_pos c] at this; exact this
      · rw [if_neg c] at this; omega
    unfold sgT
    rw [if_pos hset, wr (by omega) (by omega)]
  · refine rt_ret (rt_ret (rt_ret (rt_pos (by decide) (rt_ret ⟨?_, rfl⟩))))
    have hn : ¬ (f p = 40 ∨ f p = 41 ∨ f p = 59 ∨ f p = 43 ∨ f p = 45 ∨ f p = 42 ∨ f p = 60 ∨ f p = 61) := by
      intro hs
      have hb : (if f p < 128 then f p else f p - 256) = f p := by rw [if_pos (by omega)]
      rw [hb] at g
      have g0 := g 0 (by omega) (by omega)
      have g1 := g 1 (by omega) (by omega)
      have g2 := g 2 (by omega) (by omega)
      have g3 := g 3 (by omega) (by omega)
      have g4 := g 4 (by omega) (by omega)
      have g5 := g 5 (by omega) (by omega)
      have g6 := g 6 (by omega) (by omega)
      have g7 := g 7 (by omega) (by omega)
      rcases hs with e | e | e | e | e | e | e | e
      · exact g0 (r0.trans e.symm)
      · exact g1 (r1.trans e.symm)
      · exact g2 (r2.trans e.symm)
      · exact g3 (r3.trans e.symm)
      · exact g4 (r4.trans e.symm)
      · exact g5 (r5.trans e.symm)
      · exact g6 (r6.trans e.symm)
      · exact g7 (r7.trans e.symm)
    unfold sgT
    rw [if_neg hn]
def psF (f : Int → Int) (z : Int) (S : Nat → Int) : Nat → Int
  | 0 => 0
  | i + 1 => eT f z (S i)
def TKp (f : Int → Int) (z : Int) (T S : Nat → Int) (c : Nat) : Prop := ∀ i : Nat, i < c → (0 ≤ S i ∧ S i < z) ∧ lkF (f (S i)) ≠ 0 ∧ T i = tkF f z (S i) ∧ psF f z S i ≤ S i ∧ ∀ y : Int, psF f z S i ≤ y → y < S i → lkF (f y) = 0
def SCI (f : Int → Int) (z : Int) (T S : Nat → Int) (x c : Nat) : Prop := TKp f z T S c ∧ (0 < c → S (c - 1) < (x : Int)) ∧ (∀ y : Int, psF f z S c ≤ y → y < (x : Int) → lkF (f y) = 0) ∧ c ≤ x
theorem psF_in {f : Int → Int} {z : Int} {T S : Nat → Int} {c : Nat} (hz : 0 ≤ z) (h : TKp f z T S c) : 0 ≤ psF f z S c ∧ psF f z S c ≤ z := by
  cases c with
  | zero => exact ⟨Int.le_refl 0, hz⟩
  | succ c =>
    obtain ⟨⟨a, b⟩, -⟩ := h c (by omega)
    have := eT_spec (f := f) b
    show 0 ≤ eT f z (S c) ∧ eT f z (S c) ≤ z
    omega
/-- where a token begins that stands alone -/
theorem sc_new {f : Int → Int} {z : Int} {T S : Nat → Int} {x c : Nat} (h : SCI f z T S x c) (hj : (x : Int) ≤ 0 ∨ lkF (f (x : Int)) = 3 ∨ lkF (f (x : Int)) ≠ lkF (f ((x : Int) - 1))) : psF f z S c ≤ (x : Int) := by
  obtain ⟨h1, h2, h3, h4⟩ := h
  cases c with
  | zero => show (0 : Int) ≤ _; omega
  | succ c =>
    obtain ⟨⟨a, b⟩, a2, a3, a4, a5⟩ := h1 c (by omega)
    have hx := h2 (by omega)
    rw [show c + 1 - 1 = c by omega] at hx
    obtain ⟨e1, e2, e3, e4⟩ := eT_spec (f := f) b
    rcases Int.lt_or_le (x : Int) (psF f z S (c + 1)) with q | q
    · exfalso
      change (x : Int) < eT f z (S c) at q
      have l1 := e3 (x : Int) (by omega) q
      have l2 := e3 ((x : Int) - 1) (by omega) (by omega)
      have l3 : lkF (f (S c)) ≠ 3 := by
        intro e
        unfold eT at q
        rw [if_pos e] at q
        omega
      rcases hj with e | e | e
      · omega
      · rw [l1] at e; exact l3 e
      · exact e (l1.trans l2.symm)
    · exact q
/-- where one goes on -/
theorem sc_old {f : Int → Int} {z : Int} {T S : Nat → Int} {x c : Nat} (h : SCI f z T S x c) (hz : (x : Int) < z) (hx : 0 < (x : Int)) (h0 : lkF (f (x : Int)) ≠ 0) (hn3 : lkF (f (x : Int)) ≠ 3) (he : lkF (f (x : Int)) = lkF (f ((x : Int) - 1))) : (x : Int) < psF f z S c := by
  obtain ⟨h1, h2, h3, h4⟩ := h
  rcases Int.lt_or_le (x : Int) (psF f z S c) with q | q
  · exact q
  · exfalso
    by_cases q2 : psF f z S c ≤ (x : Int) - 1
    · have := h3 ((x : Int) - 1) q2 (by omega)
      rw [← he] at this
      exact h0 this
    · cases c with
      | zero => exact q2 (by show (0 : Int) ≤ _; omega)
      | succ c =>
        obtain ⟨⟨a, b⟩, a2, a3, a4, a5⟩ := h1 c (by omega)
        have hx' := h2 (by omega)
        rw [show c + 1 - 1 = c by omega] at hx'
        obtain ⟨e1, e2, e3, e4⟩ := eT_spec (f := f) b
        have ee : eT f z (S c) = (x : Int) := by
          change eT f z (S c) ≤ (x : Int) at q
          change ¬ eT f z (S c) ≤ (x : Int) - 1 at q2
          omega
        have l2 := e3 ((x : Int) - 1) (by omega) (by omega)
        by_cases e : lkF (f (S c)) = 3
        · rw [e] at l2
          rw [l2] at he
          exact hn3 he
        · have := e4 e (by omega)
          rw [ee] at this
          exact this (he.trans l2)
theorem sc_skip {f : Int → Int} {z : Int} {T S : Nat → Int} {x c : Nat} (h : SCI f z T S x c) (q : lkF (f (x : Int)) = 0 ∨ (x : Int) < psF f z S c) : SCI f z T S (x + 1) c := by
  obtain ⟨h1, h2, h3, h4⟩ := h
  refine ⟨h1, fun g => by have := h2 g; omega, fun y y0 y1 => ?_, by omega⟩
  by_cases e : y = (x : Int)
  · rw [e] at y0 ⊢
    exact q.resolve_right (by omega)
  · exact h3 y y0 (by omega)
def updN (T : Nat → Int) (c : Nat) (v : Int) : Nat → Int := fun j => if j = c then v else T j
theorem updN_eq {T : Nat → Int} {c : Nat} {v : Int} : updN T c v c = v := by unfold updN; rw [if_pos rfl]
theorem updN_ne {T : Nat → Int} {c j : Nat} {v : Int} (h : j ≠ c) : updN T c v j = T j := by unfold updN; rw [if_neg h]
theorem psF_upd {f : Int → Int} {z : Int} {S : Nat → Int} {c i : Nat} {v : Int} (h : i ≤ c) : psF f z (updN S c v) i = psF f z S i := by
  cases i with
  | zero => rfl
  | succ i =>
    show eT f z (updN S c v i) = eT f z (S i)
    rw [updN_ne (by omega)]
theorem sc_tok {f : Int → Int} {z : Int} {T S : Nat → Int} {x c : Nat} (h : SCI f z T S x c) (hz : (x : Int) < z) (h0 : lkF (f (x : Int)) ≠ 0) (hp : psF f z S c ≤ (x : Int)) : SCI f z (updN T c (tkF f z (x : Int))) (updN S c (x : Int)) (x + 1) (c + 1) := by
  obtain ⟨h1, h2, h3, h4⟩ := h
  refine ⟨fun i hi => ?_, fun _ => ?_, fun y y0 y1 => ?_, by omega⟩
  · by_cases e : i = c
    · subst e
      rw [updN_eq, updN_eq, psF_upd (Nat.le_refl _)]
      exact ⟨⟨by omega, hz⟩, h0, rfl, hp, h3⟩
    · rw [updN_ne e, updN_ne e, psF_upd (by omega)]
      exact h1 i (by omega)
  · rw [show c + 1 - 1 = c by omega, updN_eq]
    omega
  · change eT f z (updN S c (x : Int) c) ≤ y at y0
    rw [updN_eq] at y0
    have := (eT_spec (f := f) hz).1
    omega
def scS (a i : Int) : Prop := (a = 34 ∧ i = 5) ∨ a = 36 ∨ a = 37
theorem scS_NF : ∀ a i, scS a i → NFb a i = true := by
  intro a i q
  unfold scS at q
  rcases q with ⟨rfl, q⟩ | q | q
  · exact NF_34 (by omega)
  · exact NF_i (by omega)
  · exact NF_i (by omega)
theorem TPX.ch {f : Int → Int} {z : Int} {s τ : ZS} (h : TPX f z s) (c : Ch scS s τ) : TPX f z τ := by
  have h9 := h.1.2.2.2
  refine ⟨c.Fx h.1 scS_NF, by rw [c.M (by omega) (by unfold scS; omega)]; exact h.2.1, h.2.2.1, fun j j0 j1 => ?_⟩
  rw [c.M (by omega) (by unfold scS; omega)]
  exact h.2.2.2 j j0 j1
/-- all tokens of a tape -/
def TOKS (f : Int → Int) (z : Int) (T S : Nat → Int) (k : Nat) : Prop := TKp f z T S k ∧ (∀ y : Int, psF f z S k ≤ y → y < z → lkF (f y) = 0) ∧ (∀ i : Nat, k ≤ i → T i = 30000) ∧ S k = z ∧ k ≤ 160
theorem l_scan {f : Int → Int} {z : Int} {σ : ZS} : ∀ (N x c : Nat) (s : ZS) (T S : Nat → Int), TPX f z s → Ch scS σ s → sM s 34 5 = (c : Int) → (∀ j : Nat, j < c → sM s 36 (j : Int) = T j ∧ sM s 37 (j : Int) = S j) → SCI f z T S x c → (x : Int) ≤ z → z - (x : Int) < (N : Int) →
    Rt (lX4_scan_7 34 (fun (s48 : ZS) => (zg s48 4 34 4).bind (fun v49 => (zg s48 4 34 5).bind (fun v50 => (zg s48 4 34 1).bind (fun v51 => (zas s48 100 v49 v50 v51).bind (fun s52 => (zg s52 4 34 3).bind (fun v53 => (zg s52 4 34 5).bind (fun v54 => (zas s52 100 v53 v54 30000).bind (fun s55 => some (0, s55))))))))) N s (x : Int)) (fun _ τ => Ch scS σ τ ∧ FxD τ ∧ ∃ (k : Nat) (T S : Nat → Int), TKs T S k τ ∧ TOKS f z T S k)
  | 0, x, c, s, T, S, _, _, _, _, _, h1, h2 => by omega
  | N + 1, x, c, s, T, S, h, hc, h5, hr, hi, h1, h2 => by
    have hF := h.1
    have hz := h.2.2.1
    have hcx := hi.2.2.2
    have h5' := hd h5
    have hz' := hd h.2.1
    rw [lX4_scan_7]
    refine rt_tz h ?_
    by_cases he : z ≤ (x : Int)
    · refine rt_pos he ?_
      refine rt_gx (x := 37) (by simp (disch := omega) only [true_and, and_true, sM_ne, sM_eq, sM_neR, sM_eqR, sK_upM, sK_upR, sL_upM, sL_upR, sN_upM, sN_upR, sT_upM, sT_upR, sN_upM, Int.reduceAdd, Int.reduceMul, Int.reduceSub, Int.reduceNeg, Int.zero_add, Int.add_zero, hF.c]) (by simp (disch := omega) only [true_and, and_true, sM_ne, sM_eq, sM_neR, sM_eqR, sK_upM, sK_upR, sL_upM, sL_upR, sN_upM, sN_upR, sT_upM, sT_upR, sN_upM, Int.reduceAdd, Int.reduceMul, Int.reduceSub, Int.reduceNeg, Int.zero_add, Int.add_zero, hF.c]) (rt_gx (x := (c : Int)) (by simp (disch := omega) only [true_and, and_true, sM_ne, sM_eq, sM_neR, sM_eqR, sK_upM, sK_upR, sL_upM, sL_upR, sN_upM, sN_upR, sT_upM, sT_upR, sN_upM, Int.reduceAdd, Int.reduceMul, Int.reduceSub, Int.reduceNeg, Int.zero_add, Int.add_zero, hF.c]) (h5' ()) (rt_gx (x := z) (by simp (disch := omega) only [true_and, and_true, sM_ne, sM_eq, sM_neR, sM_eqR, sK_upM, sK_upR, sL_upM, sL_upR, sN_upM, sN_upR, sT_upM, sT_upR, sN_upM, Int.reduceAdd, Int.reduceMul, Int.reduceSub, Int.reduceNeg, Int.zero_add, Int.add_zero, hF.c]) (hz' ()) ?_))
      refine rt_as (by simp (disch := omega) only [true_and, and_true, sM_ne, sM_eq, sM_neR, sM_eqR, sK_upM, sK_upR, sL_upM, sL_upR, sN_upM, sN_upR, sT_upM, sT_upR, sN_upM, Int.reduceAdd, Int.reduceMul, Int.reduceSub, Int.reduceNeg, Int.zero_add, Int.add_zero, hF.c]) (by simp (disch := omega) only [true_and, and_true, sM_ne, sM_eq, sM_neR, sM_eqR, sK_upM, sK_upR, sL_upM, sL_upR, sN_upM, sN_upR, sT_upM, sT_upR, sN_upM, Int.reduceAdd, Int.reduceMul, Int.reduceSub, Int.reduceNeg, Int.zero_add, Int.add_zero, hF.c]; omega) ?_
      refine rt_gx (x := 36) (by simp (disch := omega) only [true_and, and_true, sM_ne, sM_eq, sM_neR, sM_eqR, sK_upM, sK_upR, sL_upM, sL_upR, sN_upM, sN_upR, sT_upM, sT_upR, sN_upM, Int.reduceAdd, Int.reduceMul, Int.reduceSub, Int.reduceNeg, Int.zero_add, Int.add_zero, hF.c]) (by simp (disch := omega) only [true_and, and_true, sM_ne, sM_eq, sM_neR, sM_eqR, sK_upM, sK_upR, sL_upM, sL_upR, sN_upM, sN_upR, sT_upM, sT_upR, sN_upM, Int.reduceAdd, Int.reduceMul, Int.reduceSub, Int.reduceNeg, Int.zero_add, Int.add_zero, hF.c]) (rt_gx (x := (c : Int)) (by simp (disch := omega) only [true_and, and_true, sM_ne, sM_eq, sM_neR, sM_eqR, sK_upM, sK_upR, sL_upM, sL_upR, sN_upM, sN_upR, sT_upM, sT_upR, sN_upM, Int.reduceAdd, Int.reduceMul, Int.reduceSub, Int.reduceNeg, Int.zero_add, Int.add_zero, hF.c]) (by rw [sM_ne (by omega)]; exact h5' ()) ?_)
      refine rt_as (by simp (disch := omega) only [true_and, and_true, sM_ne, sM_eq, sM_neR, sM_eqR, sK_upM, sK_upR, sL_upM, sL_upR, sN_upM, sN_upR, sT_upM, sT_upR, sN_upM, Int.reduceAdd, Int.reduceMul, Int.reduceSub, Int.reduceNeg, Int.zero_add, Int.add_zero, hF.c]) (by simp (disch := omega) only [true_and, and_true, sM_ne, sM_eq, sM_neR, sM_eqR, sK_upM, sK_upR, sL_upM, sL_upR, sN_upM, sN_upR, sT_upM, sT_upR, sN_upM, Int.reduceAdd, Int.reduceMul, Int.reduceSub, Int.reduceNeg, Int.zero_add, Int.add_zero, hF.c]; omega) (rt_ret ?_)
      have c2 : Ch scS s (upM (upM s 37 (c : Int) z) 36 (c : Int) 30000) := (Ch.rf.up (Or.inr (Or.inr rfl))).up (Or.inr (Or.inl rfl))
      refine ⟨hc.tr c2, c2.Fx hF scS_NF, c, fun j => if j < c then T j else 30000, fun j => if j < c then S j else z, ⟨by rw [sM_ne (by omega), sM_ne (by omega)]; exact h5, fun j hj => ?_⟩, ?_⟩
      · by_cases e : j < c
        · simp only [if_pos e]
          rw [sM_ne (by omega), sM_ne (by omega), sM_ne (by omega), sM_ne (by omega)]
          exact hr j e
        · simp only [if_neg e]
          rw [sM_eq ⟨rfl, by omega⟩, sM_ne (by omega), sM_eq ⟨rfl, by omega⟩]
          exact ⟨rfl, rfl⟩
      · have hps : ∀ i : Nat, i ≤ c → psF f z (fun j => if j < c then S j else z) i = psF f z S i := by
          intro i hi'
          cases i with
          | zero => rfl
          | succ i =>
            show eT f z (if i < c then S i else z) = eT f z (S i)
            rw [if_pos (by omega)]
        refine ⟨fun i hi' => ?_, fun y y0 y1 => ?_, fun i hi' => ?_, ?_, by omega⟩
        · simp only [if_pos hi']
          rw [hps i (by omega)]
          exact hi.1 i hi'
        · rw [hps c (Nat.le_refl _)] at y0
          exact hi.2.2.1 y y0 (by omega)
        · simp only [if_neg (by omega : ¬ i < c)]
        · simp only [if_neg (by omega : ¬ c < c)]
    · refine rt_neg he (rt_tp h (by omega) (by omega) (rt_b (rt_e (f_lookOf s _) (rt_jn ?_))))
      have next : ∀ (τ : ZS) (T' S' : Nat → Int) (c' : Nat), TPX f z τ → Ch scS σ τ → sM τ 34 5 = (c' : Int) → (∀ j : Nat, j < c' → sM τ 36 (j : Int) = T' j ∧ sM τ 37 (j : Int) = S' j) → SCI f z T' S' (x + 1) c' → Rt (lX4_scan_7 34 (fun (s48 : ZS) => (zg s48 4 34 4).bind (fun v49 => (zg s48 4 34 5).bind (fun v50 => (zg s48 4 34 1).bind (fun v51 => (zas s48 100 v49 v50 v51).bind (fun s52 => (zg s52 4 34 3).bind (fun v53 => (zg s52 4 34 5).bind (fun v54 => (zas s52 100 v53 v54 30000).bind (fun s55 => some (0, s55))))))))) N τ (wrap ((x : Int) + 1))) (fun _ τ => Ch scS σ τ ∧ FxD τ ∧ ∃ (k : Nat) (T S : Nat → Int), TKs T S k τ ∧ TOKS f z T S k) := by
        intro τ T' S' c' b1 b2 b3 b4 b5
        rw [wr1 x (by omega)]
        exact l_scan N (x + 1) c' τ T' S' b1 b2 b3 b4 b5 (by omega) (by omega)
      have skip : (lkF (f (x : Int)) = 0 ∨ (x : Int) < psF f z S c) → Rt (lX4_scan_7 34 (fun (s48 : ZS) => (zg s48 4 34 4).bind (fun v49 => (zg s48 4 34 5).bind (fun v50 => (zg s48 4 34 1).bind (fun v51 => (zas s48 100 v49 v50 v51).bind (fun s52 => (zg s52 4 34 3).bind (fun v53 => (zg s52 4 34 5).bind (fun v54 => (zas s52 100 v53 v54 30000).bind (fun s55 => some (0, s55))))))))) N s (wrap ((x : Int) + 1))) (fun _ τ => Ch scS σ τ ∧ FxD τ ∧ ∃ (k : Nat) (T S : Nat → Int), TKs T S k τ ∧ TOKS f z T S k) := fun g => next s T S c h hc h5 hr (sc_skip hi g)
      have fresh : ¬ lkF (f (x : Int)) = 0 → psF f z S c ≤ (x : Int) → Rt ((zg s 4 34 4).bind (fun v25 => (zg s 4 34 5).bind (fun v26 => (zas s 100 v25 v26 (x : Int)).bind (fun s27 => (zg s27 4 34 3).bind (fun v28 => (zg s27 4 34 5).bind (fun v29 => zjn (fun (K112 : ZS → Int → Option (Int × ZS)) => if lkF (f (x : Int)) = 1 then (zb (zv s27 4 34 (fX4_wordAt s27 34 (x : Int))) (fun v38 s39 => K112 s39 v38)) else (if lkF (f (x : Int)) = 2 then (zb (zv s27 4 34 (fX4_numberAt s27 34 (x : Int))) (fun v35 s36 => K112 s36 v35)) else (zb (zv s27 4 34 (fX4_signAt s27 34 (x : Int))) (fun v32 s33 => K112 s33 v32)))) (fun (s41 : ZS) (w42 : Int) => (zas s41 100 v28 v29 w42).bind (fun s43 => (zg s43 4 34 5).bind (fun v44 => (zp s43 4 34 5 (wrap (v44 + 1))).bind (fun s45 => lX4_scan_7 34 (fun (s48 : ZS) => (zg s48 4 34 4).bind (fun v49 => (zg s48 4 34 5).bind (fun v50 => (zg s48 4 34 1).bind (fun v51 => (zas s48 100 v49 v50 v51).bind (fun s52 => (zg s52 4 34 3).bind (fun v53 => (zg s52 4 34 5).bind (fun v54 => (zas s52 100 v53 v54 30000).bind (fun s55 => some (0, s55))))))))) N s45 (wrap ((x : Int) + 1)))))))))))) (fun _ τ => Ch scS σ τ ∧ FxD τ ∧ ∃ (k : Nat) (T S : Nat → Int), TKs T S k τ ∧ TOKS f z T S k) := by
        intro hb hp
        refine rt_gx (x := 37) (by simp (disch := omega) only [true_and, and_true, sM_ne, sM_eq, sM_neR, sM_eqR, sK_upM, sK_upR, sL_upM, sL_upR, sN_upM, sN_upR, sT_upM, sT_upR, sN_upM, Int.reduceAdd, Int.reduceMul, Int.reduceSub, Int.reduceNeg, Int.zero_add, Int.add_zero, hF.c]) (by simp (disch := omega) only [true_and, and_true, sM_ne, sM_eq, sM_neR, sM_eqR, sK_upM, sK_upR, sL_upM, sL_upR, sN_upM, sN_upR, sT_upM, sT_upR, sN_upM, Int.reduceAdd, Int.reduceMul, Int.reduceSub, Int.reduceNeg, Int.zero_add, Int.add_zero, hF.c]) (rt_gx (x := (c : Int)) (by simp (disch := omega) only [true_and, and_true, sM_ne, sM_eq, sM_neR, sM_eqR, sK_upM, sK_upR, sL_upM, sL_upR, sN_upM, sN_upR, sT_upM, sT_upR, sN_upM, Int.reduceAdd, Int.reduceMul, Int.reduceSub, Int.reduceNeg, Int.zero_add, Int.add_zero, hF.c]) (h5' ()) ?_)
        refine rt_as (by simp (disch := omega) only [true_and, and_true, sM_ne, sM_eq, sM_neR, sM_eqR, sK_upM, sK_upR, sL_upM, sL_upR, sN_upM, sN_upR, sT_upM, sT_upR, sN_upM, Int.reduceAdd, Int.reduceMul, Int.reduceSub, Int.reduceNeg, Int.zero_add, Int.add_zero, hF.c]) (by simp (disch := omega) only [true_and, and_true, sM_ne, sM_eq, sM_neR, sM_eqR, sK_upM, sK_upR, sL_upM, sL_upR, sN_upM, sN_upR, sT_upM, sT_upR, sN_upM, Int.reduceAdd, Int.reduceMul, Int.reduceSub, Int.reduceNeg, Int.zero_add, Int.add_zero, hF.c]; omega) ?_
        have c1 : Ch scS s (upM s 37 (c : Int) (x : Int)) := Ch.rf.up (Or.inr (Or.inr rfl))
        have h' := h.ch c1
        refine rt_gx (x := 36) (by simp (disch := omega) only [true_and, and_true, sM_ne, sM_eq, sM_neR, sM_eqR, sK_upM, sK_upR, sL_upM, sL_upR, sN_upM, sN_upR, sT_upM, sT_upR, sN_upM, Int.reduceAdd, Int.reduceMul, Int.reduceSub, Int.reduceNeg, Int.zero_add, Int.add_zero, hF.c]) (by simp (disch := omega) only [true_and, and_true, sM_ne, sM_eq, sM_neR, sM_eqR, sK_upM, sK_upR, sL_upM, sL_upR, sN_upM, sN_upR, sT_upM, sT_upR, sN_upM, Int.reduceAdd, Int.reduceMul, Int.reduceSub, Int.reduceNeg, Int.zero_add, Int.add_zero, hF.c]) (rt_gx (x := (c : Int)) (by simp (disch := omega) only [true_and, and_true, sM_ne, sM_eq, sM_neR, sM_eqR, sK_upM, sK_upR, sL_upM, sL_upR, sN_upM, sN_upR, sT_upM, sT_upR, sN_upM, Int.reduceAdd, Int.reduceMul, Int.reduceSub, Int.reduceNeg, Int.zero_add, Int.add_zero, hF.c]) (by rw [sM_ne (by omega)]; exact h5' ()) (rt_jn ?_))
        have fin : ∀ w : Int, w = tkF f z (x : Int) → Rt ((zas (upM s 37 (c : Int) (x : Int)) 100 36 (c : Int) w).bind (fun s43 => (zg s43 4 34 5).bind (fun v44 => (zp s43 4 34 5 (wrap (v44 + 1))).bind (fun s45 => lX4_scan_7 34 (fun (s48 : ZS) => (zg s48 4 34 4).bind (fun v49 => (zg s48 4 34 5).bind (fun v50 => (zg s48 4 34 1).bind (fun v51 => (zas s48 100 v49 v50 v51).bind (fun s52 => (zg s52 4 34 3).bind (fun v53 => (zg s52 4 34 5).bind (fun v54 => (zas s52 100 v53 v54 30000).bind (fun s55 => some (0, s55))))))))) N s45 (wrap ((x : Int) + 1)))))) (fun _ τ => Ch scS σ τ ∧ FxD τ ∧ ∃ (k : Nat) (T S : Nat → Int), TKs T S k τ ∧ TOKS f z T S k) := by
          intro w hw
          refine rt_as (by simp (disch := omega) only [true_and, and_true, sM_ne, sM_eq, sM_neR, sM_eqR, sK_upM, sK_upR, sL_upM, sL_upR, sN_upM, sN_upR, sT_upM, sT_upR, sN_upM, Int.reduceAdd, Int.reduceMul, Int.reduceSub, Int.reduceNeg, Int.zero_add, Int.add_zero, hF.c]) (by simp (disch := omega) only [true_and, and_true, sM_ne, sM_eq, sM_neR, sM_eqR, sK_upM, sK_upR, sL_upM, sL_upR, sN_upM, sN_upR, sT_upM, sT_upR, sN_upM, Int.reduceAdd, Int.reduceMul, Int.reduceSub, Int.reduceNeg, Int.zero_add, Int.add_zero, hF.c]; omega) ?_
          refine rt_gx (x := (c : Int)) (by simp (disch := omega) only [true_and, and_true, sM_ne, sM_eq, sM_neR, sM_eqR, sK_upM, sK_upR, sL_upM, sL_upR, sN_upM, sN_upR, sT_upM, sT_upR, sN_upM, Int.reduceAdd, Int.reduceMul, Int.reduceSub, Int.reduceNeg, Int.zero_add, Int.add_zero, hF.c]) (by rw [sM_ne (by omega), sM_ne (by omega)]; exact h5' ()) (rt_p (by simp (disch := omega) only [true_and, and_true, sM_ne, sM_eq, sM_neR, sM_eqR, sK_upM, sK_upR, sL_upM, sL_upR, sN_upM, sN_upR, sT_upM, sT_upR, sN_upM, Int.reduceAdd, Int.reduceMul, Int.reduceSub, Int.reduceNeg, Int.zero_add, Int.add_zero, hF.c]) (by omega) ?_)
          have ec : wrap ((c : Int) + 1) = ((c + 1 : Nat) : Int) := wr1 c (by omega)
          rw [ec]
          have c2 : Ch scS s (upM (upM (upM s 37 (c : Int) (x : Int)) 36 (c : Int) w) 34 5 ((c + 1 : Nat) : Int)) := ((Ch.rf.up (Or.inr (Or.inr rfl))).up (Or.inr (Or.inl rfl))).up (Or.inl ⟨rfl, rfl⟩)
          refine next _ (updN T c (tkF f z (x : Int))) (updN S c (x : Int)) (c + 1) (h.ch c2) (hc.tr c2) (sM_eq ⟨rfl, rfl⟩) (fun j hj => ?_) (sc_tok hi (by omega) hb hp)
          refine ⟨?_, ?_⟩
          · rw [sM_ne (by omega)]
            by_cases e : j = c
            · rw [sM_eq ⟨rfl, by omega⟩, e, updN_eq, hw]
            · rw [sM_ne (by omega), sM_ne (by omega), updN_ne e]
              exact (hr j (by omega)).1
          · rw [sM_ne (by omega), sM_ne (by omega)]
            by_cases e : j = c
            · rw [sM_eq ⟨rfl, by omega⟩, e, updN_eq]
            · rw [sM_ne (by omega), updN_ne e]
              exact (hr j (by omega)).2
        have hF' := h'.1
        generalize upM s 37 (c : Int) (x : Int) = s1 at h' hF' fin ⊢
        by_cases e1 : lkF (f (x : Int)) = 1
        · refine rt_pos e1 (rt_b (rt_v (by simp (disch := omega) only [true_and, and_true, sM_ne, sM_eq, sM_neR, sM_eqR, sK_upM, sK_upR, sL_upM, sL_upR, sN_upM, sN_upR, sT_upM, sT_upR, sN_upM, Int.reduceAdd, Int.reduceMul, Int.reduceSub, Int.reduceNeg, Int.zero_add, Int.add_zero, hF'.c]) (rt_e (f_wordAt h' (by omega) (by omega) e1) ?_)))
          exact fin _ (by unfold tkF; rw [if_pos e1])
        · refine rt_neg e1 ?_
          by_cases e2 : lkF (f (x : Int)) = 2
          · refine rt_pos e2 (rt_b (rt_v (by simp (disch := omega) only [true_and, and_true, sM_ne, sM_eq, sM_neR, sM_eqR, sK_upM, sK_upR, sL_upM, sL_upR, sN_upM, sN_upR, sT_upM, sT_upR, sN_upM, Int.reduceAdd, Int.reduceMul, Int.reduceSub, Int.reduceNeg, Int.zero_add, Int.add_zero, hF'.c]) (rt_e (f_numberAt h' (by omega) (by omega) e2) ?_)))
            exact fin _ (by unfold tkF; rw [if_neg e1, if_pos e2])
          · refine rt_neg e2 (rt_b (rt_v (by simp (disch := omega) only [true_and, and_true, sM_ne, sM_eq, sM_neR, sM_eqR, sK_upM, sK_upR, sL_upM, sL_upR, sN_upM, sN_upR, sT_upM, sT_upR, sN_upM, Int.reduceAdd, Int.reduceMul, Int.reduceSub, Int.reduceNeg, Int.zero_add, Int.add_zero, hF'.c]) (rt_e (f_signAt h' (by omega) (by omega)) ?_)))
            exact fin _ (by unfold tkF; rw [if_neg e1, if_neg e2])
      have w0 : (((x : Int) ≤ 0 ∨ lkF (f (x : Int)) = 3 ∨ lkF (f (x : Int)) ≠ lkF (f ((x : Int) - 1)))) → Rt (zjn (fun (K123 : ZS → Option (Int × ZS)) => if lkF (f (x : Int)) = 0 then (K123 s) else (if (0 : Int) = 0 then ((zg s 4 34 4).bind (fun v25 => (zg s 4 34 5).bind (fun v26 => (zas s 100 v25 v26 (x : Int)).bind (fun s27 => (zg s27 4 34 3).bind (fun v28 => (zg s27 4 34 5).bind (fun v29 => zjn (fun (K112 : ZS → Int → Option (Int × ZS)) => if lkF (f (x : Int)) = 1 then (zb (zv s27 4 34 (fX4_wordAt s27 34 (x : Int))) (fun v38 s39 => K112 s39 v38)) else (if lkF (f (x : Int)) = 2 then (zb (zv s27 4 34 (fX4_numberAt s27 34 (x : Int))) (fun v35 s36 => K112 s36 v35)) else (zb (zv s27 4 34 (fX4_signAt s27 34 (x : Int))) (fun v32 s33 => K112 s33 v32)))) (fun (s41 : ZS) (w42 : Int) => (zas s41 100 v28 v29 w42).bind (fun s43 => (zg s43 4 34 5).bind (fun v44 => (zp s43 4 34 5 (wrap (v44 + 1))).bind (fun s45 => K123 s45)))))))))) else (K123 s))) (fun (s46 : ZS) => lX4_scan_7 34 (fun (s48 : ZS) => (zg s48 4 34 4).bind (fun v49 => (zg s48 4 34 5).bind (fun v50 => (zg s48 4 34 1).bind (fun v51 => (zas s48 100 v49 v50 v51).bind (fun s52 => (zg s52 4 34 3).bind (fun v53 => (zg s52 4 34 5).bind (fun v54 => (zas s52 100 v53 v54 30000).bind (fun s55 => some (0, s55))))))))) N s46 (wrap ((x : Int) + 1)))) (fun _ τ => Ch scS σ τ ∧ FxD τ ∧ ∃ (k : Nat) (T S : Nat → Int), TKs T S k τ ∧ TOKS f z T S k) := by
        intro hj
        refine rt_jn ?_
        by_cases e0 : lkF (f (x : Int)) = 0
        · exact rt_pos e0 (skip (Or.inl e0))
        · exact rt_neg e0 (rt_pos rfl (fresh e0 (sc_new hi hj)))
      refine rt_jn ?_
      by_cases x0 : (x : Int) ≤ 0
      · exact rt_pos x0 (w0 (Or.inl x0))
      refine rt_neg x0 ?_
      by_cases e3 : lkF (f (x : Int)) = 3
      · exact rt_pos e3 (w0 (Or.inr (Or.inl e3)))
      refine rt_neg e3 ?_
      rw [wr (x := (x : Int) - 1) (by omega) (by omega)]
      refine rt_tp h (by omega) (by omega) (rt_b (rt_e (f_lookOf s _) ?_))
      by_cases ee : lkF (f (x : Int)) = lkF (f ((x : Int) - 1))
      · refine rt_pos ee (rt_jn ?_)
        by_cases e0 : lkF (f (x : Int)) = 0
        · exact rt_pos e0 (skip (Or.inl e0))
        · exact rt_neg e0 (rt_neg (by decide) (skip (Or.inr (sc_old hi (by omega) (by omega) e0 e3 ee))))
      · exact rt_neg ee (w0 (Or.inr (Or.inr ee)))
theorem f_scan {f : Int → Int} {z : Int} {s : ZS} (h : TPX f z s) : Rt (fX4_scan s 34) (fun _ τ => Ch scS s τ ∧ FxD τ ∧ ∃ (k : Nat) (T S : Nat → Int), TKs T S k τ ∧ TOKS f z T S k) := by
  have hF := h.1
  have hz := h.2.2.1
  unfold fX4_scan
  refine rt_p (by simp (disch := omega) only [true_and, and_true, sM_ne, sM_eq, sM_neR, sM_eqR, sK_upM, sK_upR, sL_upM, sL_upR, sN_upM, sN_upR, sT_upM, sT_upR, sN_upM, Int.reduceAdd, Int.reduceMul, Int.reduceSub, Int.reduceNeg, Int.zero_add, Int.add_zero, hF.c]) (by omega) ?_
  have c1 : Ch scS s (upM s 34 5 0) := Ch.rf.up (Or.inl ⟨rfl, rfl⟩)
  refine l_scan 1000 0 0 _ (fun _ => 0) (fun _ => 0) (h.ch c1) c1 (sM_eq ⟨rfl, rfl⟩) (fun j hj => by omega) ⟨fun i hi => by omega, fun g => by omega, fun y y0 y1 => ?_, by omega⟩ (by omega) (by omega)
  change (0 : Int) ≤ y at y0
  omega
