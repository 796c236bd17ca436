/-! the reference's reading, token by token -/
section STP
variable {f : Int → Int} {z : Int} {T S pos : Nat → Int} {k : Nat} {t : Int} {K : ZS → Option (Int × ZS)} {P : Int → ZS → Prop}
/-- what is at fault, and where -/
def FL (t : Int) (S : Nat → Int) (P : Int → ZS → Prop) (s : ZS) (j : Nat) : Prop := ∀ s' : ZS, Ch (opS t) s s' → FxD s' → sM s' 64 30 = S j → P 0 s'
theorem FL.tr {s τ : ZS} {j : Nat} (h : FL t S P s j) (c : Ch (opS t) s τ) : FL t S P τ j := fun s' c' hF e => h s' (c.tr c') hF e
theorem f_between {sg : Int} {X1 X2 : List Int} {s : ZS} {i : Nat} (q : AST f z pos t s i X1 X2) (hi : i ≤ 161) (hl : X2.length + X1.length + 1 ≤ i) (hsg : sg ≠ 0 ∧ sg ≠ 13 ∧ sg ≠ 19) (hr : 1 ≤ rkP sg) : Rt (fX12_between s 64 sg) (fun v τ => Ch (unS t) s τ ∧ FxD τ ∧ ((rkP sg = 4 ∧ tpR (un (if rkP sg = 4 then 5 else rkP sg) X1 X2).1 = 4 ∧ v = 0) ∨ (¬ (rkP sg = 4 ∧ tpR (un (if rkP sg = 4 then 5 else rkP sg) X1 X2).1 = 4) ∧ v = 1 ∧ AST f z pos t τ i (sg :: (un (if rkP sg = 4 then 5 else rkP sg) X1 X2).1) (un (if rkP sg = 4 then 5 else rkP sg) X1 X2).2))) := by
  have hF := q.F
  unfold fX12_between
  refine rt_b (rt_e (f_rankM s sg) ?_)
  have go : ∀ w : Int, w = (if rkP sg = 4 then 5 else rkP sg) → Rt (zb (zv s 12 64 (fX12_unwinds s 64 w)) (fun v10 s11 => zb (fX12_rank s11 sg) (fun v13 s14 => zjn (fun (K55 : ZS → Option (Int × ZS)) => if v13 = 4 then ((zg s14 12 64 35).bind (fun v17 => if v17 ≤ 0 then (K55 s14) else ((zg s14 12 64 34).bind (fun v19 => (zg s14 12 64 35).bind (fun v20 => (zal s14 100 v19 (wrap (v20 - 1))).bind (fun v21 => zb (fX12_rank s14 v21) (fun v22 s23 => if v22 = 4 then (some (0, s23)) else (K55 s23)))))))) else (K55 s14)) (fun (s26 : ZS) => zb (zv s26 12 64 (fX12_holds s26 64 sg)) (fun v27 s28 => some (1, s28)))))) (fun v τ => Ch (unS t) s τ ∧ FxD τ ∧ ((rkP sg = 4 ∧ tpR (un (if rkP sg = 4 then 5 else rkP sg) X1 X2).1 = 4 ∧ v = 0) ∨ (¬ (rkP sg = 4 ∧ tpR (un (if rkP sg = 4 then 5 else rkP sg) X1 X2).1 = 4) ∧ v = 1 ∧ AST f z pos t τ i (sg :: (un (if rkP sg = 4 then 5 else rkP sg) X1 X2).1) (un (if rkP sg = 4 then 5 else rkP sg) X1 X2).2))) := by
    intro w hw
    rw [← hw]
    have hw1 : 1 ≤ w := by rw [hw]; split <;> omega
    refine rt_b (rt_v (by simp (disch := omega) only [true_and, and_true, sM_ne, sM_eq, sM_neR, sM_eqR, sK_upM, sK_upR, sL_upM, sL_upR, sN_upM, sN_upR, sT_upM, sT_upR, sN_upM, Int.reduceAdd, Int.reduceMul, Int.reduceSub, Int.reduceNeg, Int.zero_add, Int.add_zero, hF.c]) ?_)
    refine Rt.mono (f_unw hw1 q hi) ?_
    rintro v1 s1 ⟨c1, q1⟩
    have hul := un_len (r := w) X1 X2
    generalize (un w X1 X2).1 = h at q1 hul ⊢
    generalize (un w X1 X2).2 = o2 at q1 hul ⊢
    have hF1 := q1.F
    refine rt_b (rt_e (f_rankM s1 sg) ?_)
    have hold : ¬ (rkP sg = 4 ∧ tpR h = 4) → Rt (zb (zv s1 12 64 (fX12_holds s1 64 sg)) (fun v27 s28 => some (1, s28))) (fun v τ => Ch (unS t) s τ ∧ FxD τ ∧ ((rkP sg = 4 ∧ tpR h = 4 ∧ v = 0) ∨ (¬ (rkP sg = 4 ∧ tpR h = 4) ∧ v = 1 ∧ AST f z pos t τ i (sg :: h) o2))) := by
      intro hn
      refine rt_b (rt_v (by simp (disch := omega) only [true_and, and_true, sM_ne, sM_eq, sM_neR, sM_eqR, sK_upM, sK_upR, sL_upM, sL_upR, sN_upM, sN_upR, sT_upM, sT_upR, sN_upM, Int.reduceAdd, Int.reduceMul, Int.reduceSub, Int.reduceNeg, Int.zero_add, Int.add_zero, hF1.c]) ?_)
      refine Rt.mono (f_holds q1 hi (by omega) hsg) ?_
      rintro v2 s2 ⟨c2, q2⟩
      exact rt_ret ⟨c1.tr c2, q2.F, Or.inr ⟨hn, rfl, q2⟩⟩
    refine rt_jn ?_
    by_cases r4 : rkP sg = 4
    · refine rt_pos r4 ?_
      have a6' := hd q1.2.2.2.1.1
      refine rt_gx (x := (h.length : Int)) (by simp (disch := omega) only [true_and, and_true, sM_ne, sM_eq, sM_neR, sM_eqR, sK_upM, sK_upR, sL_upM, sL_upR, sN_upM, sN_upR, sT_upM, sT_upR, sN_upM, Int.reduceAdd, Int.reduceMul, Int.reduceSub, Int.reduceNeg, Int.zero_add, Int.add_zero, hF1.c]) (a6' ()) ?_
      cases h with
      | nil => exact rt_pos (by simp) (hold (fun e => by have := e.2; revert this; decide))
      | cons x h' =>
        rw [List.length_cons] at a6' hul
        have e1 := hd (show wrap (((h'.length + 1 : Nat) : Int) - 1) = (h'.length : Int) by rw [wr (by omega) (by omega)]; omega)
        have ex := hd (show sM s1 85 (h'.length : Int) = x by rw [q1.2.2.2.1.2 h'.length (by rw [List.length_cons]; omega)]; exact rev_last x h')
        rw [List.length_cons]
        refine rt_neg (by omega) ?_
        refine rt_gx (x := 85) (by simp (disch := omega) only [true_and, and_true, sM_ne, sM_eq, sM_neR, sM_eqR, sK_upM, sK_upR, sL_upM, sL_upR, sN_upM, sN_upR, sT_upM, sT_upR, sN_upM, Int.reduceAdd, Int.reduceMul, Int.reduceSub, Int.reduceNeg, Int.zero_add, Int.add_zero, hF1.c]) (by simp (disch := omega) only [true_and, and_true, sM_ne, sM_eq, sM_neR, sM_eqR, sK_upM, sK_upR, sL_upM, sL_upR, sN_upM, sN_upR, sT_upM, sT_upR, sN_upM, Int.reduceAdd, Int.reduceMul, Int.reduceSub, Int.reduceNeg, Int.zero_add, Int.add_zero, hF1.c]) (rt_gx (x := ((h'.length + 1 : Nat) : Int)) (by simp (disch := omega) only [true_and, and_true, sM_ne, sM_eq, sM_neR, sM_eqR, sK_upM, sK_upR, sL_upM, sL_upR, sN_upM, sN_upR, sT_upM, sT_upR, sN_upM, Int.reduceAdd, Int.reduceMul, Int.reduceSub, Int.reduceNeg, Int.zero_add, Int.add_zero, hF1.c]) (a6' ()) ?_)
        rw [e1 ()]
        refine rt_alx (x := x) (by simp (disch := omega) only [true_and, and_true, sM_ne, sM_eq, sM_neR, sM_eqR, sK_upM, sK_upR, sL_upM, sL_upR, sN_upM, sN_upR, sT_upM, sT_upR, sN_upM, Int.reduceAdd, Int.reduceMul, Int.reduceSub, Int.reduceNeg, Int.zero_add, Int.add_zero, hF1.c]) (by simp (disch := omega) only [true_and, and_true, sM_ne, sM_eq, sM_neR, sM_eqR, sK_upM, sK_upR, sL_upM, sL_upR, sN_upM, sN_upR, sT_upM, sT_upR, sN_upM, Int.reduceAdd, Int.reduceMul, Int.reduceSub, Int.reduceNeg, Int.zero_add, Int.add_zero, hF1.c]; omega) (ex ()) (rt_b (rt_e (f_rankM s1 x) ?_))
        by_cases e4 : rkP x = 4
        · exact rt_pos e4 (rt_ret ⟨c1, hF1, Or.inl ⟨r4, e4, rfl⟩⟩)
        · exact rt_neg e4 (hold (fun e => e4 e.2))
    · exact rt_neg r4 (hold (fun e => r4 e.1))
  refine rt_jn ?_
  by_cases r4 : rkP sg = 4
  · exact rt_pos r4 (go 5 (by rw [if_pos r4]))
  · exact rt_neg r4 (rt_b (rt_e (f_rankM s sg) (go _ (by rw [if_neg r4]))))
theorem sg_tk {x : Int} (hx : isT x) (h : sgO x ≠ -1) : tkA x ≠ 59 ∧ tkA x ≠ 41 := by
  unfold isT at hx
  unfold sgO at h
  unfold tkA
  refine ⟨?_, ?_⟩ <;> (repeat' split) <;> omega
theorem sg_in {x : Int} (h : sgO x ≠ -1) : 11 ≤ sgO x ∧ sgO x ≤ 18 ∧ sgO x ≠ 13 := by
  unfold sgO at h ⊢
  (repeat' split) <;> first | (exfalso; omega) | omega | skip
  all_goals (exfalso; revert h; simp_all)
/-- a sign between two -/
theorem a_sg (hk : k ≤ 160) (hn : NXT f z T S pos k) (hT : ∀ i, isT (T i)) {X1 X2 : List Int} {s : ZS} {j N : Nat} {x6 : Int} (q : AST f z pos t s j X1 X2) (hj : j < k) (hsg : sgO (T j) ≠ -1)
    (hok : ¬ (rkP (sgO (T j)) = 4 ∧ tpR (un (if rkP (sgO (T j)) = 4 then 5 else rkP (sgO (T j))) X1 X2).1 = 4) → ∀ s' : ZS, Ch (opS t) s s' → AST f z pos t s' (j + 1) (sgO (T j) :: (un (if rkP (sgO (T j)) = 4 then 5 else rkP (sgO (T j))) X1 X2).1) (un (if rkP (sgO (T j)) = 4 then 5 else rkP (sgO (T j))) X1 X2).2 → Rt (lX12_eRead_14 64 K N s' 1 (if 12 < sgO (T j) then 0 else 1)) P)
    (hno : (rkP (sgO (T j)) = 4 ∧ tpR (un (if rkP (sgO (T j)) = 4 then 5 else rkP (sgO (T j))) X1 X2).1 = 4) → FL t S P s j) : Rt (lX12_eRead_14 64 K (N + 1) s 0 x6) P := by
  have hF := q.F
  have hl := q.2.2.2.2.2.2
  obtain ⟨s1, s2, s3⟩ := sg_in hsg
  obtain ⟨t1, t2⟩ := sg_tk (hT j) hsg
  rw [lX12_eRead_14]
  refine rt_b (rt_v (by simp (disch := omega) only [true_and, and_true, sM_ne, sM_eq, sM_neR, sM_eqR, sK_upM, sK_upR, sL_upM, sL_upR, sN_upM, sN_upR, sT_upM, sT_upR, sN_upM, Int.reduceAdd, Int.reduceMul, Int.reduceSub, Int.reduceNeg, Int.zero_add, Int.add_zero, hF.c]) ?_)
  refine Rt.mono (a_next hk hn q (by omega)) ?_
  rintro v τ ⟨c1, q1, hF1, b30, b31, -⟩
  replace q1 := q1 hj
  have b31' := hd b31
  refine rt_pos rfl (rt_gx (x := tkA (T j)) (by simp (disch := omega) only [true_and, and_true, sM_ne, sM_eq, sM_neR, sM_eqR, sK_upM, sK_upR, sL_upM, sL_upR, sN_upM, sN_upR, sT_upM, sT_upR, sN_upM, Int.reduceAdd, Int.reduceMul, Int.reduceSub, Int.reduceNeg, Int.zero_add, Int.add_zero, hF1.c]) (b31' ()) (rt_neg t1 ?_))
  refine rt_gx (x := tkA (T j)) (by simp (disch := omega) only [true_and, and_true, sM_ne, sM_eq, sM_neR, sM_eqR, sK_upM, sK_upR, sL_upM, sL_upR, sN_upM, sN_upR, sT_upM, sT_upR, sN_upM, Int.reduceAdd, Int.reduceMul, Int.reduceSub, Int.reduceNeg, Int.zero_add, Int.add_zero, hF1.c]) (b31' ()) (rt_neg t2 ?_)
  refine rt_b (rt_v (by simp (disch := omega) only [true_and, and_true, sM_ne, sM_eq, sM_neR, sM_eqR, sK_upM, sK_upR, sL_upM, sL_upR, sN_upM, sN_upR, sT_upM, sT_upR, sN_upM, Int.reduceAdd, Int.reduceMul, Int.reduceSub, Int.reduceNeg, Int.zero_add, Int.add_zero, hF1.c]) (rt_e (f_signOf hF1 (hT j) b31) (rt_neg hsg ?_)))
  generalize sgO (T j) = sg at *
  have hr1 : 1 ≤ rkP sg := by
    unfold rkP
    (repeat' split) <;> omega
  refine rt_b (rt_v (by simp (disch := omega) only [true_and, and_true, sM_ne, sM_eq, sM_neR, sM_eqR, sK_upM, sK_upR, sL_upM, sL_upR, sN_upM, sN_upR, sT_upM, sT_upR, sN_upM, Int.reduceAdd, Int.reduceMul, Int.reduceSub, Int.reduceNeg, Int.zero_add, Int.add_zero, hF1.c]) ?_)
  refine Rt.mono (f_between q1 (by omega) (by omega) (by omega) hr1) ?_
  rintro v2 s2 ⟨c2, hF2, hh⟩
  have h91 := hF1.2.2.2
  rcases hh with ⟨e1, e2, rfl⟩ | ⟨e1, rfl, q2⟩
  · exact rt_pos rfl (rt_ret (hno ⟨e1, e2⟩ s2 (c1.tr (c2.mono un_op)) hF2 (by rw [c2.M (by omega) (by unfold unS; omega)]; exact b30)))
  · have := hok e1 s2 (c1.tr (c2.mono un_op)) q2
    refine rt_neg (by decide) (rt_jn ?_)
    by_cases h12 : 12 < sg
    · rw [if_pos h12] at this
      exact rt_pos h12 this
    · rw [if_neg h12] at this
      exact rt_neg h12 this
/-- nothing that may stand behind -/
theorem a_bad (hk : k ≤ 160) (hn : NXT f z T S pos k) (hT : ∀ i, isT (T i)) {X1 X2 : List Int} {s : ZS} {j N : Nat} {x6 : Int} (q : AST f z pos t s j X1 X2) (hj : j ≤ k) (hsg : sgO (T j) = -1) (h59 : T j ≠ 20059) (h41 : T j ≠ 20041) (hno : FL t S P s j) : Rt (lX12_eRead_14 64 K (N + 1) s 0 x6) P := by
  have hF := q.F
  rw [lX12_eRead_14]
  refine rt_b (rt_v (by simp (disch := omega) only [true_and, and_true, sM_ne, sM_eq, sM_neR, sM_eqR, sK_upM, sK_upR, sL_upM, sL_upR, sN_upM, sN_upR, sT_upM, sT_upR, sN_upM, Int.reduceAdd, Int.reduceMul, Int.reduceSub, Int.reduceNeg, Int.zero_add, Int.add_zero, hF.c]) ?_)
  refine Rt.mono (a_next hk hn q hj) ?_
  rintro v τ ⟨c1, -, hF1, b30, b31, -⟩
  have b31' := hd b31
  have hx := hT j
  have t1 : tkA (T j) ≠ 59 ∧ tkA (T j) ≠ 41 := by
    unfold isT at hx
    unfold tkA
    refine ⟨?_, ?_⟩ <;> (repeat' split) <;> omega
  refine rt_pos rfl (rt_gx (x := tkA (T j)) (by simp (disch := omega) only [true_and, and_true, sM_ne, sM_eq, sM_neR, sM_eqR, sK_upM, sK_upR, sL_upM, sL_upR, sN_upM, sN_upR, sT_upM, sT_upR, sN_upM, Int.reduceAdd, Int.reduceMul, Int.reduceSub, Int.reduceNeg, Int.zero_add, Int.add_zero, hF1.c]) (b31' ()) (rt_neg t1.1 ?_))
  refine rt_gx (x := tkA (T j)) (by simp (disch := omega) only [true_and, and_true, sM_ne, sM_eq, sM_neR, sM_eqR, sK_upM, sK_upR, sL_upM, sL_upR, sN_upM, sN_upR, sT_upM, sT_upR, sN_upM, Int.reduceAdd, Int.reduceMul, Int.reduceSub, Int.reduceNeg, Int.zero_add, Int.add_zero, hF1.c]) (b31' ()) (rt_neg t1.2 ?_)
  exact rt_b (rt_v (by simp (disch := omega) only [true_and, and_true, sM_ne, sM_eq, sM_neR, sM_eqR, sK_upM, sK_upR, sL_upM, sL_upR, sN_upM, sN_upR, sT_upM, sT_upR, sN_upM, Int.reduceAdd, Int.reduceMul, Int.reduceSub, Int.reduceNeg, Int.zero_add, Int.add_zero, hF1.c]) (rt_e (f_signOf hF1 hx b31) (rt_pos hsg (rt_ret (hno τ c1 hF1 b30)))))
/-- the end of a clause -/
theorem a_semi (hk : k ≤ 160) (hn : NXT f z T S pos k) {X1 X2 : List Int} {s : ZS} {j N : Nat} {x6 : Int} (q : AST f z pos t s j X1 X2) (hj : j < k) (h59 : T j = 20059) (hok : ∀ s' : ZS, Ch (opS t) s s' → AST f z pos t s' (j + 1) X1 X2 → sM s' 64 30 = S j → Rt (K s') P) : Rt (lX12_eRead_14 64 K (N + 1) s 0 x6) P := by
  have hF := q.F
  rw [lX12_eRead_14]
  refine rt_b (rt_v (by simp (disch := omega) only [true_and, and_true, sM_ne, sM_eq, sM_neR, sM_eqR, sK_upM, sK_upR, sL_upM, sL_upR, sN_upM, sN_upR, sT_upM, sT_upR, sN_upM, Int.reduceAdd, Int.reduceMul, Int.reduceSub, Int.reduceNeg, Int.zero_add, Int.add_zero, hF.c]) ?_)
  refine Rt.mono (a_next hk hn q (by omega)) ?_
  rintro v τ ⟨c1, q1, hF1, b30, b31, -⟩
  have b31' := hd (b31.trans (show tkA (T j) = 59 by rw [h59]; decide))
  exact rt_pos rfl (rt_gx (x := 59) (by simp (disch := omega) only [true_and, and_true, sM_ne, sM_eq, sM_neR, sM_eqR, sK_upM, sK_upR, sL_upM, sL_upR, sN_upM, sN_upR, sT_upM, sT_upR, sN_upM, Int.reduceAdd, Int.reduceMul, Int.reduceSub, Int.reduceNeg, Int.zero_add, Int.add_zero, hF1.c]) (b31' ()) (rt_pos rfl (hok τ c1 (q1 hj) b30)))
/-- a bracket closed -/
theorem a_close (hk : k ≤ 160) (hn : NXT f z T S pos k) {X1 X2 : List Int} {s : ZS} {j N : Nat} {x6 : Int} (q : AST f z pos t s j X1 X2) (hj : j < k) (h41 : T j = 20041) {h o2 : List Int} (hu : un 1 X1 X2 = (h, o2))
    (hno : h = [] → FL t S P s j) (hok : ∀ (h' : List Int) (s' : ZS), h = 0 :: h' → Ch (opS t) s s' → AST f z pos t s' (j + 1) (un 7 h' o2).1 (un 7 h' o2).2 → Rt (lX12_eRead_14 64 K N s' 0 x6) P) : Rt (lX12_eRead_14 64 K (N + 1) s 0 x6) P := by
  have hF := q.F
  rw [lX12_eRead_14]
  refine rt_b (rt_v (by simp (disch := omega) only [true_and, and_true, sM_ne, sM_eq, sM_neR, sM_eqR, sK_upM, sK_upR, sL_upM, sL_upR, sN_upM, sN_upR, sT_upM, sT_upR, sN_upM, Int.reduceAdd, Int.reduceMul, Int.reduceSub, Int.reduceNeg, Int.zero_add, Int.add_zero, hF.c]) ?_)
  refine Rt.mono (a_next hk hn q (by omega)) ?_
  rintro v τ ⟨c1, q1, hF1, b30, b31, -⟩
  replace q1 := q1 hj
  have b31' := hd (b31.trans (show tkA (T j) = 41 by rw [h41]; decide))
  refine rt_pos rfl (rt_gx (x := 41) (by simp (disch := omega) only [true_and, and_true, sM_ne, sM_eq, sM_neR, sM_eqR, sK_upM, sK_upR, sL_upM, sL_upR, sN_upM, sN_upR, sT_upM, sT_upR, sN_upM, Int.reduceAdd, Int.reduceMul, Int.reduceSub, Int.reduceNeg, Int.zero_add, Int.add_zero, hF1.c]) (b31' ()) (rt_neg (by decide) ?_))
  refine rt_gx (x := 41) (by simp (disch := omega) only [true_and, and_true, sM_ne, sM_eq, sM_neR, sM_eqR, sK_upM, sK_upR, sL_upM, sL_upR, sN_upM, sN_upR, sT_upM, sT_upR, sN_upM, Int.reduceAdd, Int.reduceMul, Int.reduceSub, Int.reduceNeg, Int.zero_add, Int.add_zero, hF1.c]) (b31' ()) (rt_pos rfl ?_)
  refine rt_b (rt_v (by simp (disch := omega) only [true_and, and_true, sM_ne, sM_eq, sM_neR, sM_eqR, sK_upM, sK_upR, sL_upM, sL_upR, sN_upM, sN_upR, sT_upM, sT_upR, sN_upM, Int.reduceAdd, Int.reduceMul, Int.reduceSub, Int.reduceNeg, Int.zero_add, Int.add_zero, hF1.c]) ?_)
  refine Rt.mono (f_unw (r := 1) (by omega) q1 (by omega)) ?_
  rintro v2 s2 ⟨c2, q2⟩
  have htp := un_tp (r := 1) (by omega) X1 X2
  rw [hu] at q2 htp
  have hF2 := q2.F
  have h91 := hF1.2.2.2
  have a6' := hd q2.2.2.2.1.1
  change AST f z pos t s2 (j + 1) h o2 at q2
  change ∀ _ : Unit, sM s2 64 35 = (h.length : Int) at a6'
  refine rt_gx (x := (h.length : Int)) (by simp (disch := omega) only [true_and, and_true, sM_ne, sM_eq, sM_neR, sM_eqR, sK_upM, sK_upR, sL_upM, sL_upR, sN_upM, sN_upR, sT_upM, sT_upR, sN_upM, Int.reduceAdd, Int.reduceMul, Int.reduceSub, Int.reduceNeg, Int.zero_add, Int.add_zero, hF2.c]) (a6' ()) ?_
  cases h with
  | nil => exact rt_pos (by simp) (rt_ret (hno rfl s2 (c1.tr (c2.mono un_op)) hF2 (by rw [c2.M (by omega) (by unfold unS; omega)]; exact b30)))
  | cons x h' =>
    have hx0 : x = 0 := by
      change rkP x < 1 at htp
      unfold rkP at htp
      by_cases e : x = 0
      · exact e
      · rw [if_neg e] at htp
        revert htp
        (repeat' split) <;> intro htp <;> omega
    subst hx0
    have a8' := hd q2.2.2.2.2.1
    have hl := q2.2.2.2.2.2.2
    have hc := cntO_in h'
    rw [List.length_cons] at a6' hl ⊢
    refine rt_neg (by omega) (rt_gx (x := ((h'.length + 1 : Nat) : Int)) (by simp (disch := omega) only [true_and, and_true, sM_ne, sM_eq, sM_neR, sM_eqR, sK_upM, sK_upR, sL_upM, sL_upR, sN_upM, sN_upR, sT_upM, sT_upR, sN_upM, Int.reduceAdd, Int.reduceMul, Int.reduceSub, Int.reduceNeg, Int.zero_add, Int.add_zero, hF2.c]) (a6' ()) (rt_p (by simp (disch := omega) only [true_and, and_true, sM_ne, sM_eq, sM_neR, sM_eqR, sK_upM, sK_upR, sL_upM, sL_upR, sN_upM, sN_upR, sT_upM, sT_upR, sN_upM, Int.reduceAdd, Int.reduceMul, Int.reduceSub, Int.reduceNeg, Int.zero_add, Int.add_zero, hF2.c]) (by omega) ?_))
    refine rt_gx (x := cntO (0 :: h')) (by simp (disch := omega) only [true_and, and_true, sM_ne, sM_eq, sM_neR, sM_eqR, sK_upM, sK_upR, sL_upM, sL_upR, sN_upM, sN_upR, sT_upM, sT_upR, sN_upM, Int.reduceAdd, Int.reduceMul, Int.reduceSub, Int.reduceNeg, Int.zero_add, Int.add_zero, hF2.c]) (by rw [sM_ne (by omega)]; exact a8' ()) (rt_p (by simp (disch := omega) only [true_and, and_true, sM_ne, sM_eq, sM_neR, sM_eqR, sK_upM, sK_upR, sL_upM, sL_upR, sN_upM, sN_upR, sT_upM, sT_upR, sN_upM, Int.reduceAdd, Int.reduceMul, Int.reduceSub, Int.reduceNeg, Int.zero_add, Int.add_zero, hF2.c]) (by omega) ?_)
    have e1 : wrap (((h'.length + 1 : Nat) : Int) - 1) = (h'.length : Int) := by rw [wr (by omega) (by omega)]; omega
    have e2 : wrap (cntO (0 :: h') - 1) = cntO h' := by rw [cntO_cons, if_pos (Or.inl rfl), wr (by omega) (by omega)]; omega
    rw [e1, e2]
    have c3 : Ch (fun a j => a = 64 ∧ 35 ≤ j ∧ j ≤ 36) s2 (upM (upM s2 64 35 (h'.length : Int)) 64 36 (cntO h')) := (Ch.rf.up ⟨rfl, by omega⟩).up ⟨rfl, by omega⟩
    have q3 := q2.pop (by omega) _ c3 (by rw [sM_ne (by omega), sM_eq ⟨rfl, rfl⟩]) (sM_eq ⟨rfl, rfl⟩)
    generalize upM (upM s2 64 35 (h'.length : Int)) 64 36 (cntO h') = s3 at c3 q3 ⊢
    have hF3 := q3.F
    refine rt_b (rt_v (by simp (disch := omega) only [true_and, and_true, sM_ne, sM_eq, sM_neR, sM_eqR, sK_upM, sK_upR, sL_upM, sL_upR, sN_upM, sN_upR, sT_upM, sT_upR, sN_upM, Int.reduceAdd, Int.reduceMul, Int.reduceSub, Int.reduceNeg, Int.zero_add, Int.add_zero, hF3.c]) ?_)
    refine Rt.mono (f_unw (r := 7) (by omega) q3 (by omega)) ?_
    rintro v4 s4 ⟨c4, q4⟩
    exact hok h' s4 rfl (((c1.tr (c2.mono un_op)).tr (c3.mono (fun a j w => by unfold opS; omega))).tr (c4.mono un_op)) q4
/-! where one is to come -/
theorem b_num (hk : k ≤ 160) (hn : NXT f z T S pos k) (hT : ∀ i, isT (T i)) {h out : List Int} {s : ZS} {i N : Nat} {x6 : Int} (q : AST f z pos t s i h out) (hi : i < k) (h6 : T i < 10006) (hok : ∀ s' : ZS, Ch (opS t) s s' → AST f z pos t s' (i + 1) (un 7 h (out ++ [cv (T i)])).1 (un 7 h (out ++ [cv (T i)])).2 → Rt (lX12_eRead_14 64 K N s' 0 x6) P) : Rt (lX12_eRead_14 64 K (N + 1) s 1 x6) P := by
  have hF := q.F
  have hl := q.2.2.2.2.2.2
  have hx := hT i
  have hx0 : 0 ≤ T i := by unfold isT at hx; omega
  rw [lX12_eRead_14]
  refine rt_b (rt_v (by simp (disch := omega) only [true_and, and_true, sM_ne, sM_eq, sM_neR, sM_eqR, sK_upM, sK_upR, sL_upM, sL_upR, sN_upM, sN_upR, sT_upM, sT_upR, sN_upM, Int.reduceAdd, Int.reduceMul, Int.reduceSub, Int.reduceNeg, Int.zero_add, Int.add_zero, hF.c]) ?_)
  refine Rt.mono (a_next hk hn q (by omega)) ?_
  rintro v τ ⟨c1, q1, hF1, b30, b31, b32⟩
  replace q1 := q1 hi
  have b31' := hd b31
  have b32' := hd (b32 (by omega))
  have fin : ∀ w : Int, w = cv (T i) → Rt (zb (zv τ 12 64 (fX12_puts τ 64 w)) (fun v69 s70 => zb (zv s70 12 64 (fX12_unwinds s70 64 7)) (fun v72 s73 => lX12_eRead_14 64 K N s73 0 x6))) P := by
    intro w hw
    rw [hw]
    refine rt_b (rt_v (by simp (disch := omega) only [true_and, and_true, sM_ne, sM_eq, sM_neR, sM_eqR, sK_upM, sK_upR, sL_upM, sL_upR, sN_upM, sN_upR, sT_upM, sT_upR, sN_upM, Int.reduceAdd, Int.reduceMul, Int.reduceSub, Int.reduceNeg, Int.zero_add, Int.add_zero, hF1.c]) ?_)
    refine Rt.mono (f_puts q1 (by omega) (cv (T i)) (by omega)) ?_
    rintro v2 s2 ⟨c2, q2⟩
    have hF2 := q2.F
    refine rt_b (rt_v (by simp (disch := omega) only [true_and, and_true, sM_ne, sM_eq, sM_neR, sM_eqR, sK_upM, sK_upR, sL_upM, sL_upR, sN_upM, sN_upR, sT_upM, sT_upR, sN_upM, Int.reduceAdd, Int.reduceMul, Int.reduceSub, Int.reduceNeg, Int.zero_add, Int.add_zero, hF2.c]) ?_)
    refine Rt.mono (f_unw (r := 7) (by omega) q2 (by omega)) ?_
    rintro v3 s3 ⟨c3, q3⟩
    exact hok s3 ((c1.tr (c2.mono un_op)).tr (c3.mono un_op)) q3
  have hA : (T i < 10000 ∧ tkA (T i) = 1 ∧ tkB (T i) = T i ∧ cv (T i) = 100000 + T i) ∨ (10000 ≤ T i ∧ tkA (T i) = 2 ∧ tkB (T i) = T i - 10000 ∧ cv (T i) = T i - 10000) := by
    unfold tkA tkB cv
    by_cases e : T i < 10000
    · left
      rw [if_pos e, if_pos e, if_pos e]
      exact ⟨e, rfl, rfl, rfl⟩
    · right
      rw [if_neg e, if_neg e, if_neg e, if_pos h6, if_pos h6, if_pos h6]
      exact ⟨by omega, rfl, rfl, rfl⟩
  refine rt_neg (by decide) (rt_gx (x := tkA (T i)) (by simp (disch := omega) only [true_and, and_true, sM_ne, sM_eq, sM_neR, sM_eqR, sK_upM, sK_upR, sL_upM, sL_upR, sN_upM, sN_upR, sT_upM, sT_upR, sN_upM, Int.reduceAdd, Int.reduceMul, Int.reduceSub, Int.reduceNeg, Int.zero_add, Int.add_zero, hF1.c]) (b31' ()) (rt_jn ?_))
  rcases hA with ⟨e0, e1, e2, e3⟩ | ⟨e0, e1, e2, e3⟩
  · refine rt_pos e1 (rt_gx (x := tkA (T i)) (by simp (disch := omega) only [true_and, and_true, sM_ne, sM_eq, sM_neR, sM_eqR, sK_upM, sK_upR, sL_upM, sL_upR, sN_upM, sN_upR, sT_upM, sT_upR, sN_upM, Int.reduceAdd, Int.reduceMul, Int.reduceSub, Int.reduceNeg, Int.zero_add, Int.add_zero, hF1.c]) (b31' ()) (rt_jn (rt_pos e1 ?_)))
    refine rt_gx (x := tkB (T i)) (by simp (disch := omega) only [true_and, and_true, sM_ne, sM_eq, sM_neR, sM_eqR, sK_upM, sK_upR, sL_upM, sL_upR, sN_upM, sN_upR, sT_upM, sT_upR, sN_upM, Int.reduceAdd, Int.reduceMul, Int.reduceSub, Int.reduceNeg, Int.zero_add, Int.add_zero, hF1.c]) (b32' ()) ?_
    exact fin _ (by rw [e2, e3, wr (by omega) (by omega)])
  · refine rt_neg (by omega) (rt_gx (x := tkA (T i)) (by simp (disch := omega) only [true_and, and_true, sM_ne, sM_eq, sM_neR, sM_eqR, sK_upM, sK_upR, sL_upM, sL_upR, sN_upM, sN_upR, sT_upM, sT_upR, sN_upM, Int.reduceAdd, Int.reduceMul, Int.reduceSub, Int.reduceNeg, Int.zero_add, Int.add_zero, hF1.c]) (b31' ()) (rt_pos e1 ?_))
    refine rt_gx (x := tkA (T i)) (by simp (disch := omega) only [true_and, and_true, sM_ne, sM_eq, sM_neR, sM_eqR, sK_upM, sK_upR, sL_upM, sL_upR, sN_upM, sN_upR, sT_upM, sT_upR, sN_upM, Int.reduceAdd, Int.reduceMul, Int.reduceSub, Int.reduceNeg, Int.zero_add, Int.add_zero, hF1.c]) (b31' ()) (rt_jn (rt_neg (by omega) ?_))
    refine rt_gx (x := tkB (T i)) (by simp (disch := omega) only [true_and, and_true, sM_ne, sM_eq, sM_neR, sM_eqR, sK_upM, sK_upR, sL_upM, sL_upR, sN_upM, sN_upR, sT_upM, sT_upR, sN_upM, Int.reduceAdd, Int.reduceMul, Int.reduceSub, Int.reduceNeg, Int.zero_add, Int.add_zero, hF1.c]) (b32' ()) ?_
    exact fin _ (by rw [e2, e3])
/-- not one, but a bracket, a sign, a not: or a fault -/
theorem b_open (hk : k ≤ 160) (hn : NXT f z T S pos k) {h out : List Int} {s : ZS} {i N : Nat} {x6 : Int} (q : AST f z pos t s i h out) (h5 : cntO h ≤ 5) (hi : i < k) {x y : Int} (hc : (T i = 20045 ∧ x = 19 ∧ y = 0) ∨ (T i = 20040 ∧ x = 0 ∧ y = 1) ∨ (T i = 10010 ∧ x6 ≠ 0 ∧ x = 13 ∧ y = x6))
    (hno : cntO h = 5 → FL t S P s i) (hok : cntO h < 5 → ∀ s' : ZS, Ch (opS t) s s' → AST f z pos t s' (i + 1) (x :: h) out → Rt (lX12_eRead_14 64 K N s' 1 y) P) : Rt (lX12_eRead_14 64 K (N + 1) s 1 x6) P := by
  have hF := q.F
  have hl := q.2.2.2.2.2.2
  rw [lX12_eRead_14]
  refine rt_b (rt_v (by simp (disch := omega) only [true_and, and_true, sM_ne, sM_eq, sM_neR, sM_eqR, sK_upM, sK_upR, sL_upM, sL_upR, sN_upM, sN_upR, sT_upM, sT_upR, sN_upM, Int.reduceAdd, Int.reduceMul, Int.reduceSub, Int.reduceNeg, Int.zero_add, Int.add_zero, hF.c]) ?_)
  refine Rt.mono (a_next hk hn q (by omega)) ?_
  rintro v τ ⟨c1, q1, hF1, b30, b31, -⟩
  replace q1 := q1 hi
  have h91 := hF1.2.2.2
  have fin : ∀ w : Int, w = y → (x = 0 ∨ x = 13 ∨ x = 19) → Rt (zb (zv τ 12 64 (fX12_opensOne τ 64 x)) (fun v58 s59 => if v58 = 0 then (some (0, s59)) else (lX12_eRead_14 64 K N s59 1 w))) P := by
    intro w hw hx
    rw [hw]
    refine rt_b (rt_v (by simp (disch := omega) only [true_and, and_true, sM_ne, sM_eq, sM_neR, sM_eqR, sK_upM, sK_upR, sL_upM, sL_upR, sN_upM, sN_upR, sT_upM, sT_upR, sN_upM, Int.reduceAdd, Int.reduceMul, Int.reduceSub, Int.reduceNeg, Int.zero_add, Int.add_zero, hF1.c]) ?_)
    refine Rt.mono (f_opens q1 (by omega) (by omega) hx h5) ?_
    rintro v2 s2 ⟨c2, hF2, ⟨e1, rfl, q2⟩ | ⟨e1, rfl, e3⟩⟩
    · exact rt_neg (by decide) (hok e1 s2 (c1.tr (c2.mono un_op)) q2)
    · exact rt_pos rfl (rt_ret (hno e1 s2 (c1.tr (c2.mono un_op)) hF2 (by rw [c2.M (by omega) (by unfold unS; omega)]; exact b30)))
  rcases hc with ⟨e, rfl, rfl⟩ | ⟨e, rfl, rfl⟩ | ⟨e, e6, rfl, rfl⟩
  · have b31' := hd (b31.trans (show tkA (T i) = 45 by rw [e]; decide))
    refine rt_neg (by decide) (rt_gx (x := 45) (by simp (disch := omega) only [true_and, and_true, sM_ne, sM_eq, sM_neR, sM_eqR, sK_upM, sK_upR, sL_upM, sL_upR, sN_upM, sN_upR, sT_upM, sT_upR, sN_upM, Int.reduceAdd, Int.reduceMul, Int.reduceSub, Int.reduceNeg, Int.zero_add, Int.add_zero, hF1.c]) (b31' ()) (rt_jn (rt_neg (by decide) ?_)))
    refine rt_gx (x := 45) (by simp (disch := omega) only [true_and, and_true, sM_ne, sM_eq, sM_neR, sM_eqR, sK_upM, sK_upR, sL_upM, sL_upR, sN_upM, sN_upR, sT_upM, sT_upR, sN_upM, Int.reduceAdd, Int.reduceMul, Int.reduceSub, Int.reduceNeg, Int.zero_add, Int.add_zero, hF1.c]) (b31' ()) (rt_neg (by decide) ?_)
    refine rt_gx (x := 45) (by simp (disch := omega) only [true_and, and_true, sM_ne, sM_eq, sM_neR, sM_eqR, sK_upM, sK_upR, sL_upM, sL_upR, sN_upM, sN_upR, sT_upM, sT_upR, sN_upM, Int.reduceAdd, Int.reduceMul, Int.reduceSub, Int.reduceNeg, Int.zero_add, Int.add_zero, hF1.c]) (b31' ()) (rt_jn (rt_neg (by decide) ?_))
    refine rt_gx (x := 45) (by simp (disch := omega) only [true_and, and_true, sM_ne, sM_eq, sM_neR, sM_eqR, sK_upM, sK_upR, sL_upM, sL_upR, sN_upM, sN_upR, sT_upM, sT_upR, sN_upM, Int.reduceAdd, Int.reduceMul, Int.reduceSub, Int.reduceNeg, Int.zero_add, Int.add_zero, hF1.c]) (b31' ()) (rt_pos rfl ?_)
    exact fin _ rfl (Or.inr (Or.inr rfl))
  · have b31' := hd (b31.trans (show tkA (T i) = 40 by rw [e]; decide))
    refine rt_neg (by decide) (rt_gx (x := 40) (by simp (disch := omega) only [true_and, and_true, sM_ne, sM_eq, sM_neR, sM_eqR, sK_upM, sK_upR, sL_upM, sL_upR, sN_upM, sN_upR, sT_upM, sT_upR, sN_upM, Int.reduceAdd, Int.reduceMul, Int.reduceSub, Int.reduceNeg, Int.zero_add, Int.add_zero, hF1.c]) (b31' ()) (rt_jn (rt_neg (by decide) ?_)))
    refine rt_gx (x := 40) (by simp (disch := omega) only [true_and, and_true, sM_ne, sM_eq, sM_neR, sM_eqR, sK_upM, sK_upR, sL_upM, sL_upR, sN_upM, sN_upR, sT_upM, sT_upR, sN_upM, Int.reduceAdd, Int.reduceMul, Int.reduceSub, Int.reduceNeg, Int.zero_add, Int.add_zero, hF1.c]) (b31' ()) (rt_neg (by decide) ?_)
    refine rt_gx (x := 40) (by simp (disch := omega) only [true_and, and_true, sM_ne, sM_eq, sM_neR, sM_eqR, sK_upM, sK_upR, sL_upM, sL_upR, sN_upM, sN_upR, sT_upM, sT_upR, sN_upM, Int.reduceAdd, Int.reduceMul, Int.reduceSub, Int.reduceNeg, Int.zero_add, Int.add_zero, hF1.c]) (b31' ()) (rt_jn (rt_neg (by decide) ?_))
    refine rt_gx (x := 40) (by simp (disch := omega) only [true_and, and_true, sM_ne, sM_eq, sM_neR, sM_eqR, sK_upM, sK_upR, sL_upM, sL_upR, sN_upM, sN_upR, sT_upM, sT_upR, sN_upM, Int.reduceAdd, Int.reduceMul, Int.reduceSub, Int.reduceNeg, Int.zero_add, Int.add_zero, hF1.c]) (b31' ()) (rt_neg (by decide) ?_)
    refine rt_gx (x := 40) (by simp (disch := omega) only [true_and, and_true, sM_ne, sM_eq, sM_neR, sM_eqR, sK_upM, sK_upR, sL_upM, sL_upR, sN_upM, sN_upR, sT_upM, sT_upR, sN_upM, Int.reduceAdd, Int.reduceMul, Int.reduceSub, Int.reduceNeg, Int.zero_add, Int.add_zero, hF1.c]) (b31' ()) (rt_pos rfl ?_)
    exact fin _ rfl (Or.inl rfl)
  · have b31' := hd (b31.trans (show tkA (T i) = 6 by rw [e]; decide))
    refine rt_neg (by decide) (rt_gx (x := 6) (by simp (disch := omega) only [true_and, and_true, sM_ne, sM_eq, sM_neR, sM_eqR, sK_upM, sK_upR, sL_upM, sL_upR, sN_upM, sN_upR, sT_upM, sT_upR, sN_upM, Int.reduceAdd, Int.reduceMul, Int.reduceSub, Int.reduceNeg, Int.zero_add, Int.add_zero, hF1.c]) (b31' ()) (rt_jn (rt_neg (by decide) ?_)))
    refine rt_gx (x := 6) (by simp (disch := omega) only [true_and, and_true, sM_ne, sM_eq, sM_neR, sM_eqR, sK_upM, sK_upR, sL_upM, sL_upR, sN_upM, sN_upR, sT_upM, sT_upR, sN_upM, Int.reduceAdd, Int.reduceMul, Int.reduceSub, Int.reduceNeg, Int.zero_add, Int.add_zero, hF1.c]) (b31' ()) (rt_neg (by decide) ?_)
    refine rt_gx (x := 6) (by simp (disch := omega) only [true_and, and_true, sM_ne, sM_eq, sM_neR, sM_eqR, sK_upM, sK_upR, sL_upM, sL_upR, sN_upM, sN_upR, sT_upM, sT_upR, sN_upM, Int.reduceAdd, Int.reduceMul, Int.reduceSub, Int.reduceNeg, Int.zero_add, Int.add_zero, hF1.c]) (b31' ()) (rt_jn (rt_pos rfl (rt_neg e6 ?_)))
    exact fin _ rfl (Or.inr (Or.inl rfl))
theorem b_bad (hk : k ≤ 160) (hn : NXT f z T S pos k) (hT : ∀ i, isT (T i)) {h out : List Int} {s : ZS} {i N : Nat} {x6 : Int} (q : AST f z pos t s i h out) (hi : i ≤ k) (h6 : ¬ T i < 10006) (h45 : T i ≠ 20045) (h40 : T i ≠ 20040) (hnt : x6 = 0 ∨ T i ≠ 10010) (hno : FL t S P s i) : Rt (lX12_eRead_14 64 K (N + 1) s 1 x6) P := by
  have hF := q.F
  have hx := hT i
  rw [lX12_eRead_14]
  refine rt_b (rt_v (by simp (disch := omega) only [true_and, and_true, sM_ne, sM_eq, sM_neR, sM_eqR, sK_upM, sK_upR, sL_upM, sL_upR, sN_upM, sN_upR, sT_upM, sT_upR, sN_upM, Int.reduceAdd, Int.reduceMul, Int.reduceSub, Int.reduceNeg, Int.zero_add, Int.add_zero, hF.c]) ?_)
  refine Rt.mono (a_next hk hn q hi) ?_
  rintro v τ ⟨c1, -, hF1, b30, b31, -⟩
  have b31' := hd b31
  have ht : tkA (T i) ≠ 1 ∧ tkA (T i) ≠ 2 ∧ tkA (T i) ≠ 45 ∧ tkA (T i) ≠ 40 ∧ (tkA (T i) = 6 → T i = 10010) := by
    unfold isT at hx
    unfold tkA
    refine ⟨?_, ?_, ?_, ?_, ?_⟩ <;> (repeat' split) <;> omega
  obtain ⟨d1, d2, d3, d4, d5⟩ := ht
  have tail : Rt ((zg τ 12 64 31).bind (fun v50 => if v50 = 45 then (zb (zv τ 12 64 (fX12_opensOne τ 64 19)) (fun v58 s59 => if v58 = 0 then (some (0, s59)) else (lX12_eRead_14 64 K N s59 1 0))) else ((zg τ 12 64 31).bind (fun v52 => if v52 = 40 then (zb (zv τ 12 64 (fX12_opensOne τ 64 0)) (fun v54 s55 => if v54 = 0 then (some (0, s55)) else (lX12_eRead_14 64 K N s55 1 1))) else (some (0, τ)))))) P := by
    refine rt_gx (x := tkA (T i)) (by simp (disch := omega) only [true_and, and_true, sM_ne, sM_eq, sM_neR, sM_eqR, sK_upM, sK_upR, sL_upM, sL_upR, sN_upM, sN_upR, sT_upM, sT_upR, sN_upM, Int.reduceAdd, Int.reduceMul, Int.reduceSub, Int.reduceNeg, Int.zero_add, Int.add_zero, hF1.c]) (b31' ()) (rt_neg d3 ?_)
    exact rt_gx (x := tkA (T i)) (by simp (disch := omega) only [true_and, and_true, sM_ne, sM_eq, sM_neR, sM_eqR, sK_upM, sK_upR, sL_upM, sL_upR, sN_upM, sN_upR, sT_upM, sT_upR, sN_upM, Int.reduceAdd, Int.reduceMul, Int.reduceSub, Int.reduceNeg, Int.zero_add, Int.add_zero, hF1.c]) (b31' ()) (rt_neg d4 (rt_ret (hno τ c1 hF1 b30)))
  refine rt_neg (by decide) (rt_gx (x := tkA (T i)) (by simp (disch := omega) only [true_and, and_true, sM_ne, sM_eq, sM_neR, sM_eqR, sK_upM, sK_upR, sL_upM, sL_upR, sN_upM, sN_upR, sT_upM, sT_upR, sN_upM, Int.reduceAdd, Int.reduceMul, Int.reduceSub, Int.reduceNeg, Int.zero_add, Int.add_zero, hF1.c]) (b31' ()) (rt_jn (rt_neg d1 ?_)))
  refine rt_gx (x := tkA (T i)) (by simp (disch := omega) only [true_and, and_true, sM_ne, sM_eq, sM_neR, sM_eqR, sK_upM, sK_upR, sL_upM, sL_upR, sN_upM, sN_upR, sT_upM, sT_upR, sN_upM, Int.reduceAdd, Int.reduceMul, Int.reduceSub, Int.reduceNeg, Int.zero_add, Int.add_zero, hF1.c]) (b31' ()) (rt_neg d2 ?_)
  refine rt_gx (x := tkA (T i)) (by simp (disch := omega) only [true_and, and_true, sM_ne, sM_eq, sM_neR, sM_eqR, sK_upM, sK_upR, sL_upM, sL_upR, sN_upM, sN_upR, sT_upM, sT_upR, sN_upM, Int.reduceAdd, Int.reduceMul, Int.reduceSub, Int.reduceNeg, Int.zero_add, Int.add_zero, hF1.c]) (b31' ()) (rt_jn ?_)
  by_cases e6 : tkA (T i) = 6
  · refine rt_pos e6 (rt_pos (hnt.resolve_right (fun w => w (d5 e6))) tail)
  · exact rt_neg e6 tail
end STP
