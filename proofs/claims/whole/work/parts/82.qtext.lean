/-! a text: the call -/
def t2S (t a i : Int) : Prop := txS t a i ∨ (a = 64 ∧ (i = 13 ∨ i = 16))
theorem rdL_le {T : Nat → Int} {k : Nat} {op : Int → Option Int} {nx : Nat → RR} (hop : op 30000 = none) (hT : ∀ i, k ≤ i → T i = 30000) (hnx : ∀ i, i ≤ k → (nx i).1 = true → (nx i).2.1 ≤ k) : ∀ (n i : Nat) (w : List Int), i ≤ k → (rdL T op nx n i w).1 = true → (rdL T op nx n i w).2.1 ≤ k
  | 0, i, w, hi, _ => hi
  | n + 1, i, w, hi, hr => by
    unfold rdL at hr ⊢
    cases e : op (T i) with
    | none => exact hi
    | some e' =>
      have hik : i < k := by
        rcases Nat.lt_or_ge i k with g | g
        · exact g
        · rw [hT i g, hop] at e; cases e
      rw [e] at hr
      by_cases hb : (nx (i + 1)).1 = true
      · simp only [if_pos hb] at hr ⊢
        exact rdL_le hop hT hnx n _ _ (hnx _ (by omega) hb) hr
      · simp only [if_neg hb] at hr
        cases hr
theorem rd_le {T : Nat → Int} {k : Nat} (hT : ∀ i, k ≤ i → T i = 30000) : ∀ (d t : Nat) (o : Int) (i : Nat), i ≤ k → (rd T d t o i).1 = true → (rd T d t o i).2.1 ≤ k
  | 0, t, o, i, _, h => by cases h
  | d + 1, t, o, i, hi, h => by
    have ih : ∀ t' o' i', i' ≤ k → (rd T d t' o' i').1 = true → (rd T d t' o' i').2.1 ≤ k := fun t' o' i' => rd_le hT d t' o' i'
    have lt : ∀ (j : Nat) (x : Int), j ≤ k → T j = x → x ≠ 30000 → j + 1 ≤ k := fun j x hj hx hne => by
      rcases Nat.lt_or_ge j k with g | g
      · exact g
      · rw [hT j g] at hx; exact absurd hx.symm hne
    unfold rd at h ⊢
    by_cases t0 : t = 0
    · rw [if_pos t0] at h ⊢
      obtain ⟨q, e⟩ := rdB_t h
      rw [e] at h ⊢
      exact rdL_le (by decide) hT (ih 1 o) _ _ _ (ih 1 o i hi q) h
    rw [if_neg t0] at h ⊢
    by_cases t1 : t = 1
    · rw [if_pos t1] at h ⊢
      obtain ⟨q, e⟩ := rdB_t h
      rw [e] at h ⊢
      exact rdL_le (by decide) hT (ih 2 o) _ _ _ (ih 2 o i hi q) h
    rw [if_neg t1] at h ⊢
    by_cases t2 : t = 2
    · rw [if_pos t2] at h ⊢
      by_cases q : T i = 10010
      · rw [if_pos q] at h ⊢
        by_cases ho : o < 5
        · rw [if_pos ho] at h ⊢
          obtain ⟨q2, e⟩ := rdB_t h
          rw [e]
          exact ih 2 (o + 1) (i + 1) (lt i _ hi q (by decide)) q2
        · rw [if_neg ho] at h; cases h
      · rw [if_neg q] at h ⊢
        obtain ⟨q2, e⟩ := rdB_t h
        rw [e] at h ⊢
        have g1 := ih 3 o i hi q2
        cases ec : opCmp (T (rd T d 3 o i).2.1) with
        | none => exact g1
        | some e' =>
          simp only [ec] at h ⊢
          obtain ⟨q3, e3⟩ := rdB_t h
          rw [e3]
          refine ih 3 o _ ?_ q3
          rcases Nat.lt_or_ge (rd T d 3 o i).2.1 k with g | g
          · exact g
          · rw [hT _ g] at ec
            exact absurd (ec.symm.trans (by decide : opCmp 30000 = none)) (by simp)
    rw [if_neg t2] at h ⊢
    by_cases t3 : t = 3
    · rw [if_pos t3] at h ⊢
      obtain ⟨q, e⟩ := rdB_t h
      rw [e] at h ⊢
      exact rdL_le (by decide) hT (ih 4 o) _ _ _ (ih 4 o i hi q) h
    rw [if_neg t3] at h ⊢
    by_cases t4 : t = 4
    · rw [if_pos t4] at h ⊢
      obtain ⟨q, e⟩ := rdB_t h
      rw [e] at h ⊢
      exact rdL_le (by decide) hT (ih 5 o) _ _ _ (ih 5 o i hi q) h
    rw [if_neg t4] at h ⊢
    by_cases q : T i < 10006
    · rw [if_pos q]
      rcases Nat.lt_or_ge i k with g | g
      · exact g
      · rw [hT i g] at q; omega
    rw [if_neg q] at h ⊢
    by_cases q2 : T i = 20045
    · rw [if_pos q2] at h ⊢
      by_cases ho : o < 5
      · rw [if_pos ho] at h ⊢
        obtain ⟨q3, e⟩ := rdB_t h
        rw [e]
        exact ih 5 (o + 1) (i + 1) (lt i _ hi q2 (by decide)) q3
      · rw [if_neg ho] at h; cases h
    rw [if_neg q2] at h ⊢
    by_cases q3 : T i = 20040
    · rw [if_pos q3] at h ⊢
      by_cases ho : o < 5
      · rw [if_pos ho] at h ⊢
        obtain ⟨q4, e⟩ := rdB_t h
        rw [e] at h ⊢
        have := ih 0 (o + 1) (i + 1) (lt i _ hi q3 (by decide)) q4
        by_cases q5 : T (rd T d 0 (o + 1) (i + 1)).2.1 = 20041
        · simp only [if_pos q5]
          exact lt _ _ this q5 (by decide)
        · simp only [if_neg q5] at h; cases h
      · rw [if_neg ho] at h; cases h
    · rw [if_neg q3] at h; cases h
theorem cl_le {T : Nat → Int} {k : Nat} (hTk : T k = 30000) (hT : ∀ i, k ≤ i → T i = 30000) {w : Int} (hw : w ≠ 30000) (i : Nat) (h : (cl T w i).1 = true) : (cl T w i).2.1 ≤ k := by
  unfold cl at h ⊢
  by_cases q : T i = w
  · rw [if_pos q] at h ⊢
    have hik : i + 1 ≤ k := by
      rcases Nat.lt_or_ge i k with g | g
      · exact g
      · rw [hT i g] at q; exact absurd q.symm hw
    obtain ⟨q2, e⟩ := rdB_t h
    rw [e] at h ⊢
    have := rd_le hT 60 0 0 (i + 1) hik q2
    by_cases q3 : T (rd T 60 0 0 (i + 1)).2.1 = 20059
    · simp only [if_pos q3]
      rcases Nat.lt_or_ge (rd T 60 0 0 (i + 1)).2.1 k with g | g
      · exact g
      · rw [hT _ g] at q3; omega
    · simp only [if_neg q3] at h; cases h
  · rw [if_neg q] at h; cases h
theorem c_nextr {f : Int → Int} {z t : Int} {pos : Nat → Int} {s τ : ZS} {i : Nat} {out : List Int} (q : BST f z pos t s i out) (c : Ch nxS s τ) : ∀ j : Nat, j < out.length → sM τ 75 (200 * t + (j : Int)) = out.getD j 0 := by
  intro j hj
  have h9 := q.1.1.2.2.2
  rw [c.M (by omega) (by unfold nxS; omega)]
  exact q.2.2.2.1.2 j hj
theorem f_textM {f : Int → Int} {z t : Int} {T S : Nat → Int} {k : Nat} (hz : 0 ≤ z ∧ z ≤ 160) (htok : TOKS f z T S k) {s : ZS} (h : TPC f z s) (h16 : sM s 64 16 = t) (t0 : 0 ≤ t) (t6 : t < 6) : Rt (fX12_text s 64) (fun y ρ => Ch (t2S t) s ρ ∧ FxD ρ ∧ sM ρ 64 13 = 0 ∧ (((txF T).1 = true ∧ y = t ∧ sM ρ 64 16 = t + 1 ∧ (sM ρ 76 (4 * t) = 0 ∧ sM ρ 76 (4 * t + 1) = ((oA T).length : Int) ∧ sM ρ 76 (4 * t + 2) = (((oA T).length + (oB T).length : Nat) : Int)) ∧ (oA T).length + (oB T).length ≤ 160 ∧ ∀ j : Nat, j < (oA T).length + (oB T).length → sM ρ 75 (200 * t + (j : Int)) = ((oA T ++ oB T).map cv).getD j 0) ∨ (¬ (txF T).1 = true ∧ y = wrap (-100 - S (txF T).2) ∧ sM ρ 64 16 = t))) := by
  have hF := h.1
  have h9 := hF.2.2.2
  obtain ⟨-, t2, t3, t4, t5⟩ := id htok
  have hT := tok_is htok
  have hTk : T k = 30000 := t3 k (Nat.le_refl _)
  have hn := f_next hz htok
  have h16' := hd h16
  unfold fX12_text
  refine rt_gx (x := t) (by simp (disch := omega) only [true_and, and_true, sM_ne, sM_eq, sM_neR, sM_eqR, sK_upM, sK_upR, sL_upM, sL_upR, sN_upM, sN_upR, sT_upM, sT_upR, sN_upM, Int.reduceAdd, Int.reduceMul, Int.reduceSub, Int.reduceNeg, Int.zero_add, Int.add_zero, hF.c]) (h16' ()) (rt_neg (by omega) ?_)
  refine rt_p (by simp (disch := omega) only [true_and, and_true, sM_ne, sM_eq, sM_neR, sM_eqR, sK_upM, sK_upR, sL_upM, sL_upR, sN_upM, sN_upR, sT_upM, sT_upR, sN_upM, Int.reduceAdd, Int.reduceMul, Int.reduceSub, Int.reduceNeg, Int.zero_add, Int.add_zero, hF.c]) (by omega) (rt_p (by simp (disch := omega) only [true_and, and_true, sM_ne, sM_eq, sM_neR, sM_eqR, sK_upM, sK_upR, sL_upM, sL_upR, sN_upM, sN_upR, sT_upM, sT_upR, sN_upM, Int.reduceAdd, Int.reduceMul, Int.reduceSub, Int.reduceNeg, Int.zero_add, Int.add_zero, hF.c]) (by omega) ?_)
  have c0 : Ch (opS t) s (upM (upM s 64 29 0) 64 37 0) := (Ch.rf.up (Or.inl ⟨rfl, by omega⟩)).up (Or.inl ⟨rfl, by omega⟩)
  have q0 : BST f z (psF f z S) t (upM (upM s 64 29 0) 64 37 0) 0 [] := ⟨h.ch c0, by rw [sM_ne (by omega), sM_eq ⟨rfl, rfl⟩]; rfl, ⟨by rw [sM_ne (by omega), sM_ne (by omega)]; exact h16, t0, t6⟩, ⟨by rw [sM_eq ⟨rfl, rfl⟩]; rfl, fun j hj => by cases hj⟩, Nat.le_refl _⟩
  have c0x : Ch (txS t) s (upM (upM s 64 29 0) 64 37 0) := c0.mono (fun a i q => Or.inl q)
  generalize upM (upM s 64 29 0) 64 37 0 = s0 at c0x q0 ⊢
  have tx_t2 : ∀ a i, txS t a i → t2S t a i := fun a i q => Or.inl q
  -- the end, where something is at fault
  have badend : ∀ (τ : ZS) (j : Nat), Ch (txS t) s τ → FxD τ → sM τ 64 30 = S j → txF T = (false, j) → Rt ((zg τ 12 64 15).bind (fun v47 => (zg τ 12 64 16).bind (fun v48 => (zg τ 12 64 37).bind (fun v49 => (zas τ 100 v47 (wrap ((wrap (4 * v48)) + 2)) v49).bind (fun s50 => (zp s50 12 64 13 0).bind (fun s51 => if (0 : Int) = 0 then ((zg s51 12 64 30).bind (fun v56 => some ((wrap ((-100) - v56)), s51))) else ((zg s51 12 64 16).bind (fun v53 => (zp s51 12 64 16 (wrap (v53 + 1))).bind (fun s54 => (zg s54 12 64 16).bind (fun v55 => some ((wrap (v55 - 1)), s54)))))))))) ) (fun y ρ => Ch (t2S t) s ρ ∧ FxD ρ ∧ sM ρ 64 13 = 0 ∧ (((txF T).1 = true ∧ y = t ∧ sM ρ 64 16 = t + 1 ∧ (sM ρ 76 (4 * t) = 0 ∧ sM ρ 76 (4 * t + 1) = ((oA T).length : Int) ∧ sM ρ 76 (4 * t + 2) = (((oA T).length + (oB T).length : Nat) : Int)) ∧ (oA T).length + (oB T).length ≤ 160 ∧ ∀ j : Nat, j < (oA T).length + (oB T).length → sM ρ 75 (200 * t + (j : Int)) = ((oA T ++ oB T).map cv).getD j 0) ∨ (¬ (txF T).1 = true ∧ y = wrap (-100 - S (txF T).2) ∧ sM ρ 64 16 = t))) := by
    intro τ j cτ hFτ b30 htx
    have g16 := hd (show sM τ 64 16 = t by rw [cτ.M (by omega) (by unfold txS opS; omega)]; exact h16)
    have b30' := hd b30
    have ew : wrap (wrap (4 * t) + 2) = 4 * t + 2 := by rw [wr (x := 4 * t) (by omega) (by omega), wr (by omega) (by omega)]
    refine rt_gx (x := 76) (by simp (disch := omega) only [true_and, and_true, sM_ne, sM_eq, sM_neR, sM_eqR, sK_upM, sK_upR, sL_upM, sL_upR, sN_upM, sN_upR, sT_upM, sT_upR, sN_upM, Int.reduceAdd, Int.reduceMul, Int.reduceSub, Int.reduceNeg, Int.zero_add, Int.add_zero, hFτ.c]) (by simp (disch := omega) only [true_and, and_true, sM_ne, sM_eq, sM_neR, sM_eqR, sK_upM, sK_upR, sL_upM, sL_upR, sN_upM, sN_upR, sT_upM, sT_upR, sN_upM, Int.reduceAdd, Int.reduceMul, Int.reduceSub, Int.reduceNeg, Int.zero_add, Int.add_zero, hFτ.c]) (rt_gx (x := t) (by simp (disch := omega) only [true_and, and_true, sM_ne, sM_eq, sM_neR, sM_eqR, sK_upM, sK_upR, sL_upM, sL_upR, sN_upM, sN_upR, sT_upM, sT_upR, sN_upM, Int.reduceAdd, Int.reduceMul, Int.reduceSub, Int.reduceNeg, Int.zero_add, Int.add_zero, hFτ.c]) (g16 ()) (rt_g (by simp (disch := omega) only [true_and, and_true, sM_ne, sM_eq, sM_neR, sM_eqR, sK_upM, sK_upR, sL_upM, sL_upR, sN_upM, sN_upR, sT_upM, sT_upR, sN_upM, Int.reduceAdd, Int.reduceMul, Int.reduceSub, Int.reduceNeg, Int.zero_add, Int.add_zero, hFτ.c]) ?_))
    rw [ew]
    refine rt_as (by simp (disch := omega) only [true_and, and_true, sM_ne, sM_eq, sM_neR, sM_eqR, sK_upM, sK_upR, sL_upM, sL_upR, sN_upM, sN_upR, sT_upM, sT_upR, sN_upM, Int.reduceAdd, Int.reduceMul, Int.reduceSub, Int.reduceNeg, Int.zero_add, Int.add_zero, hFτ.c]) (by simp (disch := omega) only [true_and, and_true, sM_ne, sM_eq, sM_neR, sM_eqR, sK_upM, sK_upR, sL_upM, sL_upR, sN_upM, sN_upR, sT_upM, sT_upR, sN_upM, Int.reduceAdd, Int.reduceMul, Int.reduceSub, Int.reduceNeg, Int.zero_add, Int.add_zero, hFτ.c]; omega) (rt_p (by simp (disch := omega) only [true_and, and_true, sM_ne, sM_eq, sM_neR, sM_eqR, sK_upM, sK_upR, sL_upM, sL_upR, sN_upM, sN_upR, sT_upM, sT_upR, sN_upM, Int.reduceAdd, Int.reduceMul, Int.reduceSub, Int.reduceNeg, Int.zero_add, Int.add_zero, hFτ.c]) (by omega) (rt_pos rfl ?_))
    refine rt_gx (x := S j) (by simp (disch := omega) only [true_and, and_true, sM_ne, sM_eq, sM_neR, sM_eqR, sK_upM, sK_upR, sL_upM, sL_upR, sN_upM, sN_upR, sT_upM, sT_upR, sN_upM, Int.reduceAdd, Int.reduceMul, Int.reduceSub, Int.reduceNeg, Int.zero_add, Int.add_zero, hFτ.c]) (by rw [sM_ne (by omega), sM_ne (by omega)]; exact b30' ()) (rt_ret ?_)
    have c5 : Ch (t2S t) s (upM (upM τ 76 (4 * t + 2) (sM τ 64 37)) 64 13 0) := ((cτ.mono tx_t2).up (Or.inl (Or.inr (by omega)))).up (Or.inr ⟨rfl, Or.inl rfl⟩)
    refine ⟨c5, (hFτ.up (NF_i (by omega))).up (NF_64 (by omega)), sM_eq ⟨rfl, rfl⟩, Or.inr ⟨by rw [htx]; simp, by rw [htx], ?_⟩⟩
    rw [sM_ne (by omega), sM_ne (by omega)]
    exact g16 ()
  refine m_clause (p := 0) (N := 999) t5 hn hT hTk (Or.inl rfl) q0 (by omega) (fun s1 y1 c1 q1 r1 => ?_) (fun s1 y1 c1 hF1 b1 => ?_)
  · rw [List.nil_append] at q1
    have hi1 : (cl T (10006 + 0) 0).2.1 ≤ k := cl_le (T := T) (k := k) hTk (fun i hi => t3 i hi) (w := 10006 + 0) (by decide) 0 y1
    refine m_clause (p := 0 + 1) (N := 998) t5 hn hT hTk (Or.inr rfl) q1 hi1 (fun s2 y2 c2 q2 r2 => ?_) (fun s2 y2 c2 hF2 b2 => ?_)
    · have hi2 : (cl T (10006 + (0 + 1)) (cl T (10006 + 0) 0).2.1).2.1 ≤ k := cl_le (T := T) (k := k) hTk (fun i hi => t3 i hi) (w := 10006 + (0 + 1)) (by decide) _ y2
      change (cl T 10006 0).1 = true at y1
      change (cl T 10007 (cl T 10006 0).2.1).1 = true at y2
      change (cl T 10007 (cl T 10006 0).2.1).2.1 ≤ k at hi2
      change BST f z (psF f z S) t s2 (cl T 10007 (cl T 10006 0).2.1).2.1 ((cl T 10006 0).2.2.map cv ++ (cl T 10007 (cl T 10006 0).2.1).2.2.map cv) at q2
      have hF2 := q2.1.1
      have c02 : Ch (txS t) s s2 := (c0x.tr c1).tr c2
      rw [show (998 : Nat) = 997 + 1 from rfl, lX12_text_26]
      refine rt_pos (by decide) (rt_jn (rt_neg (by decide) (rt_b (rt_v (by simp (disch := omega) only [true_and, and_true, sM_ne, sM_eq, sM_neR, sM_eqR, sK_upM, sK_upR, sL_upM, sL_upR, sN_upM, sN_upR, sT_upM, sT_upR, sN_upM, Int.reduceAdd, Int.reduceMul, Int.reduceSub, Int.reduceNeg, Int.zero_add, Int.add_zero, hF2.c]) ?_))))
      refine Rt.mono (c_next t5 hn q2 hi2) ?_
      rintro v3 s3 ⟨⟨c3, c3n⟩, -, tp3, ⟨e16, e37⟩, b30, b31, -⟩
      have hF3 := tp3.1
      have b31' := hd b31
      have e16' := hd e16
      have e37' := hd e37
      have c03 : Ch (txS t) s s3 := c02.tr (c3.mono (fun a i q => Or.inl q))
      have h93 := hF3.2.2.2
      refine rt_gx (x := tkA (T (cl T 10007 (cl T 10006 0).2.1).2.1)) (by simp (disch := omega) only [true_and, and_true, sM_ne, sM_eq, sM_neR, sM_eqR, sK_upM, sK_upR, sL_upM, sL_upR, sN_upM, sN_upR, sT_upM, sT_upR, sN_upM, Int.reduceAdd, Int.reduceMul, Int.reduceSub, Int.reduceNeg, Int.zero_add, Int.add_zero, hF3.c]) (b31' ()) (rt_jn ?_)
      by_cases q : T (cl T 10007 (cl T 10006 0).2.1).2.1 = 30000
      · have htx : txF T = (true, (cl T 10007 (cl T 10006 0).2.1).2.1) := by unfold txF; rw [if_pos y1, if_pos y2, if_pos q]
        have ew : wrap (wrap (4 * t) + 2) = 4 * t + 2 := by rw [wr (x := 4 * t) (by omega) (by omega), wr (by omega) (by omega)]
        have ew1 : wrap (t + 1) = t + 1 := wr (by omega) (by omega)
        have ew2 : wrap (t + 1 - 1) = t := by rw [wr (by omega) (by omega)]; omega
        refine rt_pos (by rw [q]; decide) ?_
        refine rt_gx (x := 76) (by simp (disch := omega) only [true_and, and_true, sM_ne, sM_eq, sM_neR, sM_eqR, sK_upM, sK_upR, sL_upM, sL_upR, sN_upM, sN_upR, sT_upM, sT_upR, sN_upM, Int.reduceAdd, Int.reduceMul, Int.reduceSub, Int.reduceNeg, Int.zero_add, Int.add_zero, hF3.c]) (by simp (disch := omega) only [true_and, and_true, sM_ne, sM_eq, sM_neR, sM_eqR, sK_upM, sK_upR, sL_upM, sL_upR, sN_upM, sN_upR, sT_upM, sT_upR, sN_upM, Int.reduceAdd, Int.reduceMul, Int.reduceSub, Int.reduceNeg, Int.zero_add, Int.add_zero, hF3.c]) (rt_gx (x := t) (by simp (disch := omega) only [true_and, and_true, sM_ne, sM_eq, sM_neR, sM_eqR, sK_upM, sK_upR, sL_upM, sL_upR, sN_upM, sN_upR, sT_upM, sT_upR, sN_upM, Int.reduceAdd, Int.reduceMul, Int.reduceSub, Int.reduceNeg, Int.zero_add, Int.add_zero, hF3.c]) (e16' ()) (rt_gx (x := (((cl T 10006 0).2.2.map cv ++ (cl T 10007 (cl T 10006 0).2.1).2.2.map cv).length : Int)) (by simp (disch := omega) only [true_and, and_true, sM_ne, sM_eq, sM_neR, sM_eqR, sK_upM, sK_upR, sL_upM, sL_upR, sN_upM, sN_upR, sT_upM, sT_upR, sN_upM, Int.reduceAdd, Int.reduceMul, Int.reduceSub, Int.reduceNeg, Int.zero_add, Int.add_zero, hF3.c]) (e37' ()) ?_))
        rw [ew]
        refine rt_as (by simp (disch := omega) only [true_and, and_true, sM_ne, sM_eq, sM_neR, sM_eqR, sK_upM, sK_upR, sL_upM, sL_upR, sN_upM, sN_upR, sT_upM, sT_upR, sN_upM, Int.reduceAdd, Int.reduceMul, Int.reduceSub, Int.reduceNeg, Int.zero_add, Int.add_zero, hF3.c]) (by simp (disch := omega) only [true_and, and_true, sM_ne, sM_eq, sM_neR, sM_eqR, sK_upM, sK_upR, sL_upM, sL_upR, sN_upM, sN_upR, sT_upM, sT_upR, sN_upM, Int.reduceAdd, Int.reduceMul, Int.reduceSub, Int.reduceNeg, Int.zero_add, Int.add_zero, hF3.c]; omega) (rt_p (by simp (disch := omega) only [true_and, and_true, sM_ne, sM_eq, sM_neR, sM_eqR, sK_upM, sK_upR, sL_upM, sL_upR, sN_upM, sN_upR, sT_upM, sT_upR, sN_upM, Int.reduceAdd, Int.reduceMul, Int.reduceSub, Int.reduceNeg, Int.zero_add, Int.add_zero, hF3.c]) (by omega) (rt_neg (by decide) ?_))
        refine rt_gx (x := t) (by simp (disch := omega) only [true_and, and_true, sM_ne, sM_eq, sM_neR, sM_eqR, sK_upM, sK_upR, sL_upM, sL_upR, sN_upM, sN_upR, sT_upM, sT_upR, sN_upM, Int.reduceAdd, Int.reduceMul, Int.reduceSub, Int.reduceNeg, Int.zero_add, Int.add_zero, hF3.c]) (by rw [sM_ne (by omega), sM_ne (by omega)]; exact e16' ()) ?_
        rw [ew1]
        refine rt_p (by simp (disch := omega) only [true_and, and_true, sM_ne, sM_eq, sM_neR, sM_eqR, sK_upM, sK_upR, sL_upM, sL_upR, sN_upM, sN_upR, sT_upM, sT_upR, sN_upM, Int.reduceAdd, Int.reduceMul, Int.reduceSub, Int.reduceNeg, Int.zero_add, Int.add_zero, hF3.c]) (by omega) (rt_gx (x := t + 1) (by simp (disch := omega) only [true_and, and_true, sM_ne, sM_eq, sM_neR, sM_eqR, sK_upM, sK_upR, sL_upM, sL_upR, sN_upM, sN_upR, sT_upM, sT_upR, sN_upM, Int.reduceAdd, Int.reduceMul, Int.reduceSub, Int.reduceNeg, Int.zero_add, Int.add_zero, hF3.c]) (sM_eq ⟨rfl, rfl⟩) (rt_ret ?_))
        rw [ew2]
        have hlen : ((cl T 10006 0).2.2.map cv ++ (cl T 10007 (cl T 10006 0).2.1).2.2.map cv).length = (oA T).length + (oB T).length := by
          rw [List.length_append, List.length_map, List.length_map]; rfl
        have hol := q2.2.2.2.2
        have c5 : Ch (t2S t) s (upM (upM (upM s3 76 (4 * t + 2) (((cl T 10006 0).2.2.map cv ++ (cl T 10007 (cl T 10006 0).2.1).2.2.map cv).length : Int)) 64 13 0) 64 16 (t + 1)) := (((c03.mono tx_t2).up (Or.inl (Or.inr (by omega)))).up (Or.inr ⟨rfl, Or.inl rfl⟩)).up (Or.inr ⟨rfl, Or.inr rfl⟩)
        refine ⟨c5, ((hF3.up (NF_i (by omega))).up (NF_64 (by omega))).up (NF_64 (by omega)), by rw [sM_ne (by omega), sM_eq ⟨rfl, rfl⟩], Or.inl ⟨by rw [htx], rfl, sM_eq ⟨rfl, rfl⟩, ⟨?_, ?_, ?_⟩, by rw [← hlen]; omega, fun j hj => ?_⟩⟩
        · rw [sM_ne (by omega), sM_ne (by omega), sM_ne (by omega), c3.M (by have := hF2.2.2.2; omega) (by unfold opS; omega), r2, if_neg (by omega), r1, if_pos (by omega)]
          rfl
        · rw [sM_ne (by omega), sM_ne (by omega), sM_ne (by omega), c3.M (by have := hF2.2.2.2; omega) (by unfold opS; omega), r2, if_pos (by omega), List.length_map]
          rfl
        · rw [sM_ne (by omega), sM_ne (by omega), sM_eq ⟨rfl, rfl⟩, hlen]
        · rw [sM_ne (by omega), sM_ne (by omega), sM_ne (by omega)]
          have hq := (c_nextr q2 c3n) j (by rw [hlen]; exact hj)
          rw [hq, List.map_append]
          rfl
      · have htx : txF T = (false, (cl T 10007 (cl T 10006 0).2.1).2.1) := by unfold txF; rw [if_pos y1, if_pos y2, if_neg q]
        refine rt_neg (fun g => q ?_) (badend s3 _ c03 hF3 b30 htx)
        have hx := hT (cl T 10007 (cl T 10006 0).2.1).2.1
        generalize T (cl T 10007 (cl T 10006 0).2.1).2.1 = x at hx g
        unfold isT at hx
        unfold tkA at g
        revert g
        (repeat' split) <;> intro g <;> omega
    · change (cl T 10006 0).1 = true at y1
      change ¬ (cl T 10007 (cl T 10006 0).2.1).1 = true at y2
      change sM s2 64 30 = S (cl T 10007 (cl T 10006 0).2.1).2.1 at b2
      have htx : txF T = (false, (cl T 10007 (cl T 10006 0).2.1).2.1) := by unfold txF; rw [if_pos y1, if_neg y2]
      rw [show (998 : Nat) = 997 + 1 from rfl, lX12_text_26]
      exact rt_pos (by decide) (rt_jn (rt_pos rfl (badend s2 _ ((c0x.tr c1).tr c2) hF2 b2 htx)))
  · change ¬ (cl T 10006 0).1 = true at y1
    change sM s1 64 30 = S (cl T 10006 0).2.1 at b1
    have htx : txF T = (false, (cl T 10006 0).2.1) := by unfold txF; rw [if_neg y1]
    rw [show (999 : Nat) = 998 + 1 from rfl, lX12_text_26]
    exact rt_neg (by decide) (rt_pos rfl (rt_jn (rt_pos rfl (badend s1 _ (c0x.tr c1) hF1 b1 htx))))
