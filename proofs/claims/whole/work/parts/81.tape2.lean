/-! a tape read: the class -/
def txF (T : Nat → Int) : Bool × Nat := if (cl T 10006 0).1 = true then (if (cl T 10007 (cl T 10006 0).2.1).1 = true then (if T (cl T 10007 (cl T 10006 0).2.1).2.1 = 30000 then (true, (cl T 10007 (cl T 10006 0).2.1).2.1) else (false, (cl T 10007 (cl T 10006 0).2.1).2.1)) else (false, (cl T 10007 (cl T 10006 0).2.1).2.1)) else (false, (cl T 10006 0).2.1)
def oA (T : Nat → Int) : List Int := (cl T 10006 0).2.2
def oB (T : Nat → Int) : List Int := (cl T 10007 (cl T 10006 0).2.1).2.2
def rtS (a i : Int) : Prop := scS a i ∨ rdS a i ∨ (a = 34 ∧ i = 1)
theorem rtS_NF : ∀ a i, rtS a i → NFb a i = true := by
  intro a i q
  rcases q with q | q | ⟨rfl, q⟩
  · exact scS_NF a i q
  · exact rdS_NF a i q
  · exact NF_34 (by omega)
/-- a text made -/
def NT (σ τ : ZS) (A B : List Int) : Prop := Off rtS σ τ ∧ (sN τ = sN σ + 3 ∧ sT τ ≤ sT σ + 400) ∧ (sK τ (sN σ : Int) = 8 ∧ sM τ (sN σ : Int) 0 = (sN σ : Int) + 1 ∧ sM τ (sN σ : Int) 1 = (sN σ : Int) + 2) ∧ (sK τ ((sN σ : Int) + 1) = 100 ∧ sL τ ((sN σ : Int) + 1) = (A.length : Int) ∧ ∀ j : Nat, j < A.length → sM τ ((sN σ : Int) + 1) (j : Int) = A.getD j 0) ∧ (sK τ ((sN σ : Int) + 2) = 100 ∧ sL τ ((sN σ : Int) + 2) = (B.length : Int) ∧ ∀ j : Nat, j < B.length → sM τ ((sN σ : Int) + 2) (j : Int) = B.getD j 0)
theorem getD_appR (a b : List Int) (j : Nat) : (a ++ b).getD (a.length + j) 0 = b.getD j 0 := by
  rw [List.getD_eq_getElem?_getD, List.getElem?_append_right (by omega), show a.length + j - a.length = j by omega, ← List.getD_eq_getElem?_getD]
theorem getD_appL (a b : List Int) (j : Nat) (h : j < a.length) : (a ++ b).getD j 0 = a.getD j 0 := by
  rw [List.getD_eq_getElem?_getD, List.getElem?_append_left h, ← List.getD_eq_getElem?_getD]
/-- the text's two rows cut from the steps -/
theorem f_mkText {σ s : ZS} (hF : FxD s) (hc : Ch rtS σ s) (h9 : 93 ≤ sN σ) {A B : List Int} (hl : A.length + B.length < 160) (h8 : sM s 34 8 = ((A.length + B.length : Nat) : Int)) (hr : ∀ j : Nat, j < A.length + B.length → sM s 38 (j : Int) = (A ++ B).getD j 0) : Rt ((zg (znew s 8 2) 4 34 7).bind (fun v25 => zb (fJ7_copyOf_59c91 (znew s 8 2) v25 (A.length : Int)) (fun v26 s27 => (zg s27 4 34 7).bind (fun v29 => (zg s27 4 34 8).bind (fun v30 => zb (fJ7_copyOfRange_feecc s27 v29 (A.length : Int) v30) (fun v31 s32 => if (sN s : Int) < 0 then none else (zb (fX8_init s32 (sN s : Int) v26 v31) (fun v34 s35 => some ((sN s : Int), s35))))))))) (fun v τ => v = (sN σ : Int) ∧ NT σ τ A B ∧ sM τ 34 1 = sM s 34 1) := by
  have hn := hc.2.1
  have ht := hc.2.2
  have h9s := hF.2.2.2
  have e1 : ((sN s : Nat) : Int) = (sN σ : Int) := by omega
  have h0 : Mk s (znew s 8 2) 8 0 (fun j => if zst 8 j = 2 then -1 else 0) 2 := mk_is
  generalize znew s 8 2 = s0 at h0 ⊢
  obtain ⟨a1, a2, a3, a4, a5, a6, a7⟩ := h0
  rw [e1] at a1 a2 a5 a6 a7
  have k34 : sK s0 34 = 4 := by rw [(a2 34 (by omega)).1]; simp (disch := omega) only [true_and, and_true, sM_ne, sM_eq, sM_neR, sM_eqR, sK_upM, sK_upR, sL_upM, sL_upR, sN_upM, sN_upR, sT_upM, sT_upR, sN_upM, Int.reduceAdd, Int.reduceMul, Int.reduceSub, Int.reduceNeg, Int.zero_add, Int.add_zero, hF.c]
  have k38 : sK s0 38 = 100 := by rw [(a2 38 (by omega)).1]; simp (disch := omega) only [true_and, and_true, sM_ne, sM_eq, sM_neR, sM_eqR, sK_upM, sK_upR, sL_upM, sL_upR, sN_upM, sN_upR, sT_upM, sT_upR, sN_upM, Int.reduceAdd, Int.reduceMul, Int.reduceSub, Int.reduceNeg, Int.zero_add, Int.add_zero, hF.c]
  have l38 : sL s0 38 = 160 := by rw [(a2 38 (by omega)).2]; simp (disch := omega) only [true_and, and_true, sM_ne, sM_eq, sM_neR, sM_eqR, sK_upM, sK_upR, sL_upM, sL_upR, sN_upM, sN_upR, sT_upM, sT_upR, sN_upM, Int.reduceAdd, Int.reduceMul, Int.reduceSub, Int.reduceNeg, Int.zero_add, Int.add_zero, hF.c]
  refine rt_gx (x := 38) k34 (by rw [a1 34 7 (by omega)]; simp (disch := omega) only [true_and, and_true, sM_ne, sM_eq, sM_neR, sM_eqR, sK_upM, sK_upR, sL_upM, sL_upR, sN_upM, sN_upR, sT_upM, sT_upR, sN_upM, Int.reduceAdd, Int.reduceMul, Int.reduceSub, Int.reduceNeg, Int.zero_add, Int.add_zero, hF.c]) (rt_b ?_)
  unfold fJ7_copyOf_59c91
  refine rt_len k38 ?_
  rw [l38]
  refine rt_neg (by omega) (rt_na (by omega) ?_)
  have h1 : Mk s0 (mkC s0 100 (A.length : Int) (fun _ => if zat 100 = 2 then -1 else 0) ((A.length : Nat) : Int).toNat) 100 (A.length : Int) (fun _ => if zat 100 = 2 then -1 else 0) ((A.length : Nat) : Int).toNat := mk_is
  generalize mkC s0 100 (A.length : Int) (fun _ => if zat 100 = 2 then -1 else 0) ((A.length : Nat) : Int).toNat = s1 at h1 ⊢
  obtain ⟨b1, b2, b3, b4, b5, b6, b7⟩ := h1
  have e2 : ((sN s0 : Nat) : Int) = (sN σ : Int) + 1 := by omega
  rw [e2] at b1 b2 b5 b6 b7 ⊢
  have k38' : sK s1 38 = 100 := by rw [(b2 38 (by omega)).1]; exact k38
  have l38' : sL s1 38 = 160 := by rw [(b2 38 (by omega)).2]; exact l38
  refine rt_len k38' ?_
  have em : imin 160 (A.length : Int) = (A.length : Int) := by unfold imin; split <;> omega
  rw [l38', em]
  refine rt_cp k38' b5 (by rw [l38', b6]; omega) (rt_ret ?_)
  have n2 : sN (upR s1 ((sN σ : Int) + 1) (fun k => if 0 ≤ k ∧ k < 0 + (A.length : Int) then sM s1 38 (0 + (k - 0)) else sM s1 ((sN σ : Int) + 1) k)) = sN s1 ∧ sT (upR s1 ((sN σ : Int) + 1) (fun k => if 0 ≤ k ∧ k < 0 + (A.length : Int) then sM s1 38 (0 + (k - 0)) else sM s1 ((sN σ : Int) + 1) k)) = sT s1 := ⟨rfl, rfl⟩
  have m2 : ∀ a i : Int, a ≠ (sN σ : Int) + 1 → sM (upR s1 ((sN σ : Int) + 1) (fun k => if 0 ≤ k ∧ k < 0 + (A.length : Int) then sM s1 38 (0 + (k - 0)) else sM s1 ((sN σ : Int) + 1) k)) a i = sM s1 a i := fun a i h => sM_neR h
  have m2' : ∀ j : Nat, j < A.length → sM (upR s1 ((sN σ : Int) + 1) (fun k => if 0 ≤ k ∧ k < 0 + (A.length : Int) then sM s1 38 (0 + (k - 0)) else sM s1 ((sN σ : Int) + 1) k)) ((sN σ : Int) + 1) (j : Int) = A.getD j 0 := fun j hj => by
    rw [sM_eqR rfl, if_pos (by omega), show 0 + ((j : Int) - 0) = (j : Int) by omega, b1 38 _ (by omega), a1 38 _ (by omega), hr j (by omega)]
    exact getD_appL A B j hj
  have kl2 : (∀ a, sK (upR s1 ((sN σ : Int) + 1) (fun k => if 0 ≤ k ∧ k < 0 + (A.length : Int) then sM s1 38 (0 + (k - 0)) else sM s1 ((sN σ : Int) + 1) k)) a = sK s1 a) ∧ (∀ a, sL (upR s1 ((sN σ : Int) + 1) (fun k => if 0 ≤ k ∧ k < 0 + (A.length : Int) then sM s1 38 (0 + (k - 0)) else sM s1 ((sN σ : Int) + 1) k)) a = sL s1 a) := ⟨fun _ => rfl, fun _ => rfl⟩
  generalize upR s1 ((sN σ : Int) + 1) (fun k => if 0 ≤ k ∧ k < 0 + (A.length : Int) then sM s1 38 (0 + (k - 0)) else sM s1 ((sN σ : Int) + 1) k) = s2 at n2 m2 m2' kl2 ⊢
  obtain ⟨kk, ll⟩ := kl2
  have k34' : sK s2 34 = 4 := by rw [kk, (b2 34 (by omega)).1]; exact k34
  have k38'' : sK s2 38 = 100 := by rw [kk]; exact k38'
  have l38'' : sL s2 38 = 160 := by rw [ll]; exact l38'
  have e8 : sM s2 34 8 = ((A.length + B.length : Nat) : Int) := by rw [m2 34 8 (by omega), b1 34 8 (by omega), a1 34 8 (by omega)]; exact h8
  refine rt_gx (x := 38) k34' (by rw [m2 34 7 (by omega), b1 34 7 (by omega), a1 34 7 (by omega)]; simp (disch := omega) only [true_and, and_true, sM_ne, sM_eq, sM_neR, sM_eqR, sK_upM, sK_upR, sL_upM, sL_upR, sN_upM, sN_upR, sT_upM, sT_upR, sN_upM, Int.reduceAdd, Int.reduceMul, Int.reduceSub, Int.reduceNeg, Int.zero_add, Int.add_zero, hF.c]) (rt_gx (x := ((A.length + B.length : Nat) : Int)) k34' e8 (rt_b ?_))
  unfold fJ7_copyOfRange_feecc
  refine rt_jn ?_
  have go : Rt (zb (fJ7_copyOfRangeInt_feecc s2 38 (A.length : Int) ((A.length + B.length : Nat) : Int)) (fun v5 s6 => some (v5, s6))) (fun v τ => Rt (if (sN s : Int) < 0 then none else (zb (fX8_init τ (sN s : Int) ((sN σ : Int) + 1) v) (fun v34 s35 => some ((sN s : Int), s35)))) (fun v τ => v = (sN σ : Int) ∧ NT σ τ A B ∧ sM τ 34 1 = sM s 34 1)) := by
    refine rt_b ?_
    unfold fJ7_copyOfRangeInt_feecc fJ7_checkLength_df160
    refine rt_b (rt_pos (by omega) (rt_ret ?_))
    have ew : wrap (((A.length + B.length : Nat) : Int) - (A.length : Int)) = (B.length : Int) := by rw [wr (by omega) (by omega)]; omega
    rw [ew]
    refine rt_na (by omega) ?_
    have h3 : Mk s2 (mkC s2 100 (B.length : Int) (fun _ => if zat 100 = 2 then -1 else 0) ((B.length : Nat) : Int).toNat) 100 (B.length : Int) (fun _ => if zat 100 = 2 then -1 else 0) ((B.length : Nat) : Int).toNat := mk_is
    generalize mkC s2 100 (B.length : Int) (fun _ => if zat 100 = 2 then -1 else 0) ((B.length : Nat) : Int).toNat = s3 at h3 ⊢
    obtain ⟨d1, d2, d3, d4, d5, d6, d7⟩ := h3
    have e3 : ((sN s2 : Nat) : Int) = (sN σ : Int) + 2 := by omega
    rw [e3] at d1 d2 d5 d6 d7 ⊢
    have k38t : sK s3 38 = 100 := by rw [(d2 38 (by omega)).1]; exact k38''
    have l38t : sL s3 38 = 160 := by rw [(d2 38 (by omega)).2]; exact l38''
    refine rt_len k38t ?_
    have ew2 : wrap (160 - (A.length : Int)) = 160 - (A.length : Int) := wr (by omega) (by omega)
    have em2 : imin (160 - (A.length : Int)) (B.length : Int) = (B.length : Int) := by unfold imin; split <;> omega
    rw [l38t, ew2, em2]
    refine rt_cp k38t d5 (by rw [l38t, d6]; omega) (rt_ret (rt_ret ?_))
    have n4 : sN (upR s3 ((sN σ : Int) + 2) (fun k => if 0 ≤ k ∧ k < 0 + (B.length : Int) then sM s3 38 ((A.length : Int) + (k - 0)) else sM s3 ((sN σ : Int) + 2) k)) = sN s3 ∧ sT (upR s3 ((sN σ : Int) + 2) (fun k => if 0 ≤ k ∧ k < 0 + (B.length : Int) then sM s3 38 ((A.length : Int) + (k - 0)) else sM s3 ((sN σ : Int) + 2) k)) = sT s3 := ⟨rfl, rfl⟩
    have m4 : ∀ a i : Int, a ≠ (sN σ : Int) + 2 → sM (upR s3 ((sN σ : Int) + 2) (fun k => if 0 ≤ k ∧ k < 0 + (B.length : Int) then sM s3 38 ((A.length : Int) + (k - 0)) else sM s3 ((sN σ : Int) + 2) k)) a i = sM s3 a i := fun a i h => sM_neR h
    have m4' : ∀ j : Nat, j < B.length → sM (upR s3 ((sN σ : Int) + 2) (fun k => if 0 ≤ k ∧ k < 0 + (B.length : Int) then sM s3 38 ((A.length : Int) + (k - 0)) else sM s3 ((sN σ : Int) + 2) k)) ((sN σ : Int) + 2) (j : Int) = B.getD j 0 := fun j hj => by
      rw [sM_eqR rfl, if_pos (by omega), show (A.length : Int) + ((j : Int) - 0) = ((A.length + j : Nat) : Int) by omega, d1 38 _ (by omega), m2 38 _ (by omega), b1 38 _ (by omega), a1 38 _ (by omega), hr _ (by omega)]
      exact getD_appR A B j
    have kl4 : (∀ a, sK (upR s3 ((sN σ : Int) + 2) (fun k => if 0 ≤ k ∧ k < 0 + (B.length : Int) then sM s3 38 ((A.length : Int) + (k - 0)) else sM s3 ((sN σ : Int) + 2) k)) a = sK s3 a) ∧ (∀ a, sL (upR s3 ((sN σ : Int) + 2) (fun k => if 0 ≤ k ∧ k < 0 + (B.length : Int) then sM s3 38 ((A.length : Int) + (k - 0)) else sM s3 ((sN σ : Int) + 2) k)) a = sL s3 a) := ⟨fun _ => rfl, fun _ => rfl⟩
    generalize upR s3 ((sN σ : Int) + 2) (fun k => if 0 ≤ k ∧ k < 0 + (B.length : Int) then sM s3 38 ((A.length : Int) + (k - 0)) else sM s3 ((sN σ : Int) + 2) k) = s4 at n4 m4 m4' kl4 ⊢
    obtain ⟨kk4, ll4⟩ := kl4
    have kN : sK s4 (sN σ : Int) = 8 := by rw [kk4, (d2 _ (by omega)).1, kk, (b2 _ (by omega)).1]; exact a5
    rw [e1]
    refine rt_neg (by omega) (rt_b ?_)
    unfold fX8_init
    refine rt_neg (by omega) (rt_p kN (by omega) (rt_p kN (by omega) (rt_ret (rt_ret ⟨rfl, ?_, by rw [sM_ne (by omega), sM_ne (by omega), m4 34 1 (by omega), d1 34 1 (by omega), m2 34 1 (by omega), b1 34 1 (by omega), a1 34 1 (by omega)]⟩))))
    have oldM : ∀ a i : Int, a < (sN σ : Int) → sM s4 a i = sM s a i := fun a i ha => by rw [m4 a i (by omega), d1 a i (by omega), m2 a i (by omega), b1 a i (by omega), a1 a i (by omega)]
    have oldK : ∀ a : Int, a < (sN σ : Int) → sK s4 a = sK s a := fun a ha => by rw [kk4, (d2 a (by omega)).1, kk, (b2 a (by omega)).1, (a2 a (by omega)).1]
    have oldL : ∀ a : Int, a < (sN σ : Int) → sL s4 a = sL s a := fun a ha => by rw [ll4, (d2 a (by omega)).2, ll, (b2 a (by omega)).2, (a2 a (by omega)).2]
    refine ⟨⟨fun a i ha hs => ?_, fun a ha => ?_, fun a ha => ?_, ?_⟩, ⟨?_, ?_⟩, ⟨kN, ?_, ?_⟩, ⟨?_, ?_, fun j hj => ?_⟩, ?_, ?_, fun j hj => ?_⟩
    · rw [sM_ne (by omega), sM_ne (by omega), oldM a i ha]
      exact hc.M ha hs
    · show sK s4 a = _
      rw [oldK a ha]; exact hc.K ha
    · show sL s4 a = _
      rw [oldL a ha]; exact hc.L ha
    · show sN σ ≤ sN s4
      omega
    · show sN s4 = _
      omega
    · show sT s4 ≤ _
      omega
    · rw [sM_ne (by omega), sM_eq ⟨rfl, rfl⟩]
    · rw [sM_eq ⟨rfl, rfl⟩]
    · show sK s4 _ = _
      rw [kk4, (d2 _ (by omega)).1, kk]; exact b5
    · show sL s4 _ = _
      rw [ll4, (d2 _ (by omega)).2, ll]; exact b6
    · rw [sM_ne (by omega), sM_ne (by omega), m4 _ _ (by omega), d1 _ _ (by omega)]
      exact m2' j hj
    · show sK s4 _ = _
      rw [kk4]; exact d5
    · show sL s4 _ = _
      rw [ll4]; exact d6
    · rw [sM_ne (by omega), sM_ne (by omega)]
      exact m4' j hj
  by_cases e0 : (A.length : Int) = 0
  · refine rt_pos e0 (rt_len k38'' ?_)
    rw [l38'']
    exact rt_neg (by omega) go
  · exact rt_neg e0 go
theorem wd_is {v : Int} : isT (wdL WL v) := by
  have : wdL WL v = 30001 ∨ (10000 ≤ wdL WL v ∧ wdL WL v ≤ 10010) := by
    unfold WL
    simp only [wdL]
    (repeat' split) <;> omega
  unfold isT
  omega
theorem tok_is {f : Int → Int} {z : Int} {T S : Nat → Int} {k : Nat} (h : TOKS f z T S k) : ∀ i, isT (T i) := by
  intro i
  obtain ⟨t1, t2, t3, t4, t5⟩ := h
  by_cases e : i < k
  · obtain ⟨⟨a, b⟩, a2, a3, a4, a5⟩ := t1 i e
    rw [a3]
    obtain ⟨u1, u2, u3, u4⟩ := eT_spec (f := f) b
    unfold tkF
    by_cases k1 : lkF (f (S i)) = 1
    · rw [if_pos k1]; exact wd_is
    · rw [if_neg k1]
      by_cases k2 : lkF (f (S i)) = 2
      · rw [if_pos k2]
        unfold nmT
        by_cases g : 4 < eT f z (S i) - S i
        · rw [if_pos g]; unfold isT; omega
        · rw [if_neg g]
          have hb := nm_in (f := f) (p := S i) (eT f z (S i) - S i).toNat (fun y hy => lk_dig.mp (by rw [u3 (S i + (y : Int)) (by omega) (by omega)]; exact k2)) (by omega)
          have h10 : (10 : Int) ^ (eT f z (S i) - S i).toNat ≤ 10000 := by
            rcases (by omega : (eT f z (S i) - S i).toNat = 0 ∨ (eT f z (S i) - S i).toNat = 1 ∨ (eT f z (S i) - S i).toNat = 2 ∨ (eT f z (S i) - S i).toNat = 3 ∨ (eT f z (S i) - S i).toNat = 4) with e | e | e | e | e <;> rw [e] <;> decide
          unfold isT
          omega
      · rw [if_neg k2]
        unfold sgT
        split
        · unfold isT; omega
        · unfold isT; omega
  · rw [t3 i (by omega)]
    unfold isT
    omega
theorem f_readTape {f : Int → Int} {z : Int} {s : ZS} (h : TPX f z s) : Rt (fX4_readTape s 34) (fun v τ => ∃ (k : Nat) (T S : Nat → Int), TOKS f z T S k ∧ sM τ 34 1 = 0 ∧ (((txF T).1 = true ∧ v = (sN s : Int) ∧ NT s τ (oA T) (oB T)) ∨ (¬ (txF T).1 = true ∧ v = -1 ∧ Ch rtS s τ ∧ sM τ 34 2 = S (txF T).2 ∧ 0 ≤ S (txF T).2))) := by
  have hz := h.2.2.1
  have hF := h.1
  have h9 := hF.2.2.2
  unfold fX4_readTape
  refine rt_b (rt_v (by simp (disch := omega) only [true_and, and_true, sM_ne, sM_eq, sM_neR, sM_eqR, sK_upM, sK_upR, sL_upM, sL_upR, sN_upM, sN_upR, sT_upM, sT_upR, sN_upM, Int.reduceAdd, Int.reduceMul, Int.reduceSub, Int.reduceNeg, Int.zero_add, Int.add_zero, hF.c]) ?_)
  refine Rt.mono (f_scan h) ?_
  rintro v1 s1 ⟨c1, hF1, k, T, S, htk, htok⟩
  obtain ⟨t1, t2, t3, t4, t5⟩ := id htok
  have hT : T k = 30000 := t3 k (Nat.le_refl _)
  have hzS : ∀ j, j ≤ k → 0 ≤ S j := fun j hj => by
    by_cases e : j = k
    · rw [e, t4]; exact hz.1
    · exact (t1 j (by omega)).1.1
  have hIT : ∀ i, isT (T i) := tok_is htok
  have hT0 : ∀ i, 0 ≤ T i := fun i => by have := hIT i; unfold isT at this; omega
  refine rt_p (by simp (disch := omega) only [true_and, and_true, sM_ne, sM_eq, sM_neR, sM_eqR, sK_upM, sK_upR, sL_upM, sL_upR, sN_upM, sN_upR, sT_upM, sT_upR, sN_upM, Int.reduceAdd, Int.reduceMul, Int.reduceSub, Int.reduceNeg, Int.zero_add, Int.add_zero, hF1.c]) (by omega) (rt_p (by simp (disch := omega) only [true_and, and_true, sM_ne, sM_eq, sM_neR, sM_eqR, sK_upM, sK_upR, sL_upM, sL_upR, sN_upM, sN_upR, sT_upM, sT_upR, sN_upM, Int.reduceAdd, Int.reduceMul, Int.reduceSub, Int.reduceNeg, Int.zero_add, Int.add_zero, hF1.c]) (by omega) (rt_p (by simp (disch := omega) only [true_and, and_true, sM_ne, sM_eq, sM_neR, sM_eqR, sK_upM, sK_upR, sL_upM, sL_upR, sN_upM, sN_upR, sT_upM, sT_upR, sN_upM, Int.reduceAdd, Int.reduceMul, Int.reduceSub, Int.reduceNeg, Int.zero_add, Int.add_zero, hF1.c]) (by omega) ?_))
  have c2 : Ch rdS s1 (upM (upM (upM s1 34 6 0) 34 2 (-1)) 34 8 0) := ((Ch.rf.up (Or.inl ⟨rfl, by omega⟩)).up (Or.inl ⟨rfl, by omega⟩)).up (Or.inl ⟨rfl, by omega⟩)
  have hl2 : LIV T S k (upM (upM (upM s1 34 6 0) 34 2 (-1)) 34 8 0) 0 [] := ⟨c2.Fx hF1 rdS_NF, htk.ch hF1 c2, by rw [sM_ne (by omega), sM_ne (by omega), sM_eq ⟨rfl, rfl⟩]; rfl, by rw [sM_ne (by omega), sM_eq ⟨rfl, rfl⟩], by rw [sM_eq ⟨rfl, rfl⟩]; rfl, fun j hj => by cases hj⟩
  generalize upM (upM (upM s1 34 6 0) 34 2 (-1)) 34 8 0 = s2 at c2 hl2 ⊢
  have c12 : Ch rtS s s2 := (c1.mono (fun a i q => Or.inl q)).tr (c2.mono (fun a i q => Or.inr (Or.inl q)))
  refine rt_b (rt_v (by simp (disch := omega) only [true_and, and_true, sM_ne, sM_eq, sM_neR, sM_eqR, sK_upM, sK_upR, sL_upM, sL_upR, sN_upM, sN_upR, sT_upM, sT_upR, sN_upM, Int.reduceAdd, Int.reduceMul, Int.reduceSub, Int.reduceNeg, Int.zero_add, Int.add_zero, hl2.1.c]) ?_)
  refine Rt.mono (f_clause (w := 10006) t5 hT hT0 hzS (by decide) hl2 (Nat.le_refl _) (by omega)) ?_
  rintro v3 s3 ⟨c3, hr3, hb3⟩
  have c13 : Ch rtS s s3 := c12.tr (c3.mono (fun a i q => Or.inr (Or.inl q)))
  -- the end: nothing made
  have bad : ∀ (τ : ZS) (j : Nat), Ch rtS s τ → DED T S k τ j → txF T = (false, j) → ∀ mid : Int, Rt ((zp τ 4 34 1 0).bind (fun s22 => (zg s22 4 34 2).bind (fun v23 => if v23 = (-1) then ((zg (znew s22 8 2) 4 34 7).bind (fun v25 => zb (fJ7_copyOf_59c91 (znew s22 8 2) v25 mid) (fun v26 s27 => (zg s27 4 34 7).bind (fun v29 => (zg s27 4 34 8).bind (fun v30 => zb (fJ7_copyOfRange_feecc s27 v29 mid v30) (fun v31 s32 => if (sN s22 : Int) < 0 then none else (zb (fX8_init s32 (sN s22 : Int) v26 v31) (fun v34 s35 => some ((sN s22 : Int), s35))))))))) else (some ((-1), s22))))) (fun v τ => ∃ (k : Nat) (T S : Nat → Int), TOKS f z T S k ∧ sM τ 34 1 = 0 ∧ (((txF T).1 = true ∧ v = (sN s : Int) ∧ NT s τ (oA T) (oB T)) ∨ (¬ (txF T).1 = true ∧ v = -1 ∧ Ch rtS s τ ∧ sM τ 34 2 = S (txF T).2 ∧ 0 ≤ S (txF T).2))) := by
    intro τ j cτ hd htx mid
    obtain ⟨hFτ, -, -, ⟨h2, h2k⟩, -⟩ := hd
    have hS0 := hzS j h2k
    refine rt_p (by simp (disch := omega) only [true_and, and_true, sM_ne, sM_eq, sM_neR, sM_eqR, sK_upM, sK_upR, sL_upM, sL_upR, sN_upM, sN_upR, sT_upM, sT_upR, sN_upM, Int.reduceAdd, Int.reduceMul, Int.reduceSub, Int.reduceNeg, Int.zero_add, Int.add_zero, hFτ.c]) (by omega) (rt_gx (x := S j) (by simp (disch := omega) only [true_and, and_true, sM_ne, sM_eq, sM_neR, sM_eqR, sK_upM, sK_upR, sL_upM, sL_upR, sN_upM, sN_upR, sT_upM, sT_upR, sN_upM, Int.reduceAdd, Int.reduceMul, Int.reduceSub, Int.reduceNeg, Int.zero_add, Int.add_zero, hFτ.c]) (by rw [sM_ne (by omega)]; exact h2) (rt_neg (by omega) (rt_ret ⟨k, T, S, htok, sM_eq ⟨rfl, rfl⟩, Or.inr ⟨by rw [htx]; simp, rfl, cτ.up (Or.inr (Or.inr ⟨rfl, rfl⟩)), ?_, by rw [htx]; exact hS0⟩⟩)))
    rw [htx, sM_ne (by omega)]
    exact h2
  rcases res_de hr3 with ⟨y3, hl3, e1, e2⟩ | ⟨y3, hd3⟩
  · have hb3 := hb3 y3
    have h8 := hd hl3.2.2.2.2.1
    rw [List.nil_append] at hl3 h8
    refine rt_gx (x := ((cl T 10006 0).2.2.length : Int)) (by simp (disch := omega) only [true_and, and_true, sM_ne, sM_eq, sM_neR, sM_eqR, sK_upM, sK_upR, sL_upM, sL_upR, sN_upM, sN_upR, sT_upM, sT_upR, sN_upM, Int.reduceAdd, Int.reduceMul, Int.reduceSub, Int.reduceNeg, Int.zero_add, Int.add_zero, hl3.1.c]) (h8 ()) (rt_b (rt_v (by simp (disch := omega) only [true_and, and_true, sM_ne, sM_eq, sM_neR, sM_eqR, sK_upM, sK_upR, sL_upM, sL_upR, sN_upM, sN_upR, sT_upM, sT_upR, sN_upM, Int.reduceAdd, Int.reduceMul, Int.reduceSub, Int.reduceNeg, Int.zero_add, Int.add_zero, hl3.1.c]) ?_))
    refine Rt.mono (f_clause (w := 10007) t5 hT hT0 hzS (by decide) hl3 (by omega) e2) ?_
    rintro v4 s4 ⟨c4, hr4, hb4⟩
    have c14 : Ch rtS s s4 := c13.tr (c4.mono (fun a i q => Or.inr (Or.inl q)))
    rcases res_de hr4 with ⟨y4, hl4, g1, g2⟩ | ⟨y4, hd4⟩
    · have hb4 := hb4 y4
      refine hl4.pk t5 g2 (rt_jn ?_)
      by_cases q : T (cl T 10007 (cl T 10006 0).2.1).2.1 = 30000
      · refine rt_pos q ?_
        have htx : txF T = (true, (cl T 10007 (cl T 10006 0).2.1).2.1) := by unfold txF; rw [if_pos y3, if_pos y4, if_pos q]
        refine rt_p (by simp (disch := omega) only [true_and, and_true, sM_ne, sM_eq, sM_neR, sM_eqR, sK_upM, sK_upR, sL_upM, sL_upR, sN_upM, sN_upR, sT_upM, sT_upR, sN_upM, Int.reduceAdd, Int.reduceMul, Int.reduceSub, Int.reduceNeg, Int.zero_add, Int.add_zero, hl4.1.c]) (by omega) ?_
        have c5 : Ch rtS s4 (upM s4 34 1 0) := Ch.rf.up (Or.inr (Or.inr ⟨rfl, rfl⟩))
        have v1' : sM (upM s4 34 1 0) 34 1 = 0 := sM_eq ⟨rfl, rfl⟩
        have v2' : sM (upM s4 34 1 0) 34 2 = -1 := by rw [sM_ne (by omega)]; exact hl4.2.2.2.1
        have v8' : sM (upM s4 34 1 0) 34 8 = (((cl T 10006 0).2.2.length + (cl T 10007 (cl T 10006 0).2.1).2.2.length : Nat) : Int) := by rw [sM_ne (by omega), hl4.2.2.2.2.1, List.length_append]
        have vr : ∀ j : Nat, j < (cl T 10006 0).2.2.length + (cl T 10007 (cl T 10006 0).2.1).2.2.length → sM (upM s4 34 1 0) 38 (j : Int) = ((cl T 10006 0).2.2 ++ (cl T 10007 (cl T 10006 0).2.1).2.2).getD j 0 := fun j hj => by
          rw [sM_ne (by omega)]
          exact hl4.2.2.2.2.2 j (by rw [List.length_append]; exact hj)
        have hF5 := c5.Fx hl4.1 rtS_NF
        generalize upM s4 34 1 0 = s5 at c5 v1' v2' v8' vr hF5 ⊢
        have v2'' := hd v2'
        refine rt_gx (x := -1) (by simp (disch := omega) only [true_and, and_true, sM_ne, sM_eq, sM_neR, sM_eqR, sK_upM, sK_upR, sL_upM, sL_upR, sN_upM, sN_upR, sT_upM, sT_upR, sN_upM, Int.reduceAdd, Int.reduceMul, Int.reduceSub, Int.reduceNeg, Int.zero_add, Int.add_zero, hF5.c]) (v2'' ()) (rt_pos rfl ?_)
        refine Rt.mono (f_mkText (σ := s) hF5 (c14.tr c5) h9 (A := (cl T 10006 0).2.2) (B := (cl T 10007 (cl T 10006 0).2.1).2.2) (by omega) v8' vr) ?_
        rintro v6 s6 ⟨e6, hN6, e34⟩
        exact ⟨k, T, S, htok, by rw [e34]; exact v1', Or.inl ⟨by rw [htx], e6, hN6⟩⟩
      · have htx : txF T = (false, (cl T 10007 (cl T 10006 0).2.1).2.1) := by unfold txF; rw [if_pos y3, if_pos y4, if_neg q]
        refine rt_neg q (rt_b (rt_v (by simp (disch := omega) only [true_and, and_true, sM_ne, sM_eq, sM_neR, sM_eqR, sK_upM, sK_upR, sL_upM, sL_upR, sN_upM, sN_upR, sT_upM, sT_upR, sN_upM, Int.reduceAdd, Int.reduceMul, Int.reduceSub, Int.reduceNeg, Int.zero_add, Int.add_zero, hl4.1.c]) ?_))
        refine Rt.mono (f_fail hl4 g2 t5 (by rw [List.length_append]; omega)) ?_
        rintro v5 s5 ⟨c5, hd5⟩
        exact bad s5 _ (c14.tr (c5.mono (fun a i q => Or.inr (Or.inl q)))) hd5 htx _
    · have htx : txF T = (false, (cl T 10007 (cl T 10006 0).2.1).2.1) := by unfold txF; rw [if_pos y3, if_neg y4]
      exact hd4.pk t5 hT (rt_jn (rt_pos rfl (bad s4 _ c14 hd4 htx _)))
  · have htx : txF T = (false, (cl T 10006 0).2.1) := by unfold txF; rw [if_neg y3]
    refine rt_g (by simp (disch := omega) only [true_and, and_true, sM_ne, sM_eq, sM_neR, sM_eqR, sK_upM, sK_upR, sL_upM, sL_upR, sN_upM, sN_upR, sT_upM, sT_upR, sN_upM, Int.reduceAdd, Int.reduceMul, Int.reduceSub, Int.reduceNeg, Int.zero_add, Int.add_zero, hd3.1.c]) (rt_b (rt_v (by simp (disch := omega) only [true_and, and_true, sM_ne, sM_eq, sM_neR, sM_eqR, sK_upM, sK_upR, sL_upM, sL_upR, sN_upM, sN_upR, sT_upM, sT_upR, sN_upM, Int.reduceAdd, Int.reduceMul, Int.reduceSub, Int.reduceNeg, Int.zero_add, Int.add_zero, hd3.1.c]) ?_))
    refine Rt.mono (f_clauseD (w := 10007) t5 hT hT0 hzS (by decide) hd3) ?_
    rintro v4 s4 ⟨c4, hd4⟩
    exact hd4.pk t5 hT (rt_jn (rt_pos rfl (bad s4 _ (c13.tr (c4.mono (fun a i q => Or.inr (Or.inl q)))) hd4 htx _)))
