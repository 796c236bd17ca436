/-! the class's reading: sums, and all of it -/
section RDD
variable {T S : Nat → Int} {k : Nat}
theorem l_cSum {rf : Nat → ZS → Int → Int → Option (Int × ZS)} {o : Int} {nx : Nat → RR} (hk : k ≤ 160) (hT : T k = 30000) (hg : okF T S k (fun s => rf 4 s 34 o) nx) :
    ∀ (N n x : Nat) (s : ZS) (i i0 : Nat) (m0 w : List Int), LIV T S k s i (m0 ++ w) → w.length + i0 ≤ i → m0.length ≤ i0 → i ≤ k → x ≤ i → x + n = 200 → 300 < N + x → Rt (lX4_readSum_7 rf 34 o N s (x : Int)) (fun _ τ => Ch rdS s τ ∧ RES T S k (rdL T opSum nx n i w) i0 m0 τ)
  | 0, n, x, s, i, i0, m0, w, h, h1, h2, h3, h4, h5, h6 => by omega
  | N + 1, n, x, s, i, i0, m0, w, h, h1, h2, h3, h4, h5, h6 => by
    obtain ⟨n', rfl⟩ : ∃ n', n = n' + 1 := ⟨n - 1, by omega⟩
    rw [lX4_readSum_7]
    by_cases hx : 160 ≤ x
    · have hik : i = k := by omega
      have e : rdL T opSum nx (n' + 1) i w = (true, i, w) := by unfold rdL; rw [hik, hT]; rfl
      rw [e]
      refine rt_pos (by omega) (rt_ret ⟨Ch.rf, ?_⟩)
      show (if true = true then LIV T S k s i (m0 ++ w) ∧ w.length + i0 ≤ i ∧ i ≤ k else DED T S k s i)
      rw [if_pos rfl]
      exact ⟨h, h1, h3⟩
    refine rt_neg (by omega) (h.pk hk h3 (rt_jn ?_))
    unfold rdL
    have step : ∀ e : Int, opSum (T i) = some e → Rt (zb (zv s 4 34 (fX4_advance s 34)) (fun v24 s25 => zb (zv s25 4 34 (rf 4 s25 34 o)) (fun v27 s28 => zb (zv s28 4 34 (fX4_emit s28 34 e)) (fun v30 s31 => lX4_readSum_7 rf 34 o N s31 (wrap ((x : Int) + 1)))))) (fun _ τ => Ch rdS s τ ∧ RES T S k (match opSum (T i) with
      | none => (true, i, w)
      | some e => if (nx (i + 1)).1 = true then rdL T opSum nx n' (nx (i + 1)).2.1 (w ++ ((nx (i + 1)).2.2 ++ [e])) else (false, (nx (i + 1)).2.1, [])) i0 m0 τ) := by
      intro e he
      have hik : i < k := by
        rcases Nat.lt_or_ge i k with r | r
        · exact r
        · have : i = k := by omega
          rw [this, hT] at he
          exact absurd (he.symm.trans (by decide : opSum 30000 = none)) (by simp)
      rw [he]
      refine rt_b (rt_v (by simp (disch := omega) only [true_and, and_true, sM_ne, sM_eq, sM_neR, sM_eqR, sK_upM, sK_upR, sL_upM, sL_upR, sN_upM, sN_upR, sT_upM, sT_upR, sN_upM, Int.reduceAdd, Int.reduceMul, Int.reduceSub, Int.reduceNeg, Int.zero_add, Int.add_zero, h.1.c]) ?_)
      refine Rt.mono (f_adv h hik hk) ?_
      rintro v1 s1 ⟨c1, hl1⟩
      refine rt_b (rt_v (by simp (disch := omega) only [true_and, and_true, sM_ne, sM_eq, sM_neR, sM_eqR, sK_upM, sK_upR, sL_upM, sL_upR, sN_upM, sN_upR, sT_upM, sT_upR, sN_upM, Int.reduceAdd, Int.reduceMul, Int.reduceSub, Int.reduceNeg, Int.zero_add, Int.add_zero, hl1.1.c]) ?_)
      refine Rt.mono (hg.1 s1 (i + 1) (m0 ++ w) hl1 (by rw [List.length_append]; omega) (by omega)) ?_
      rintro v2 s2 ⟨c2, hr⟩
      unfold RES at hr
      by_cases hb : (nx (i + 1)).1 = true
      · rw [if_pos hb] at hr
        obtain ⟨hl2, b1, b2⟩ := hr
        show Rt _ (fun _ τ => Ch rdS s τ ∧ RES T S k (if (nx (i + 1)).1 = true then rdL T opSum nx n' (nx (i + 1)).2.1 (w ++ ((nx (i + 1)).2.2 ++ [e])) else (false, (nx (i + 1)).2.1, [])) i0 m0 τ)
        rw [if_pos hb]
        refine rt_b (rt_v (by simp (disch := omega) only [true_and, and_true, sM_ne, sM_eq, sM_neR, sM_eqR, sK_upM, sK_upR, sL_upM, sL_upR, sN_upM, sN_upR, sT_upM, sT_upR, sN_upM, Int.reduceAdd, Int.reduceMul, Int.reduceSub, Int.reduceNeg, Int.zero_add, Int.add_zero, hl2.1.c]) ?_)
        refine Rt.mono (f_emit hl2 (by rw [List.length_append, List.length_append]; omega) e) ?_
        rintro v3 s3 ⟨c3, hl3⟩
        rw [wr1 x (by omega)]
        refine (l_cSum hk hT hg N n' (x + 1) s3 _ i0 m0 (w ++ ((nx (i + 1)).2.2 ++ [e])) (by rw [List.append_assoc, List.append_assoc] at hl3; exact hl3) (by rw [List.length_append, List.length_append, List.length_singleton]; omega) h2 b2 (by omega) (by omega) (by omega)).mono ?_
        rintro v4 s4 ⟨c4, hr4⟩
        exact ⟨((c1.tr c2).tr c3).tr c4, hr4⟩
      · rw [if_neg hb] at hr
        show Rt _ (fun _ τ => Ch rdS s τ ∧ RES T S k (if (nx (i + 1)).1 = true then rdL T opSum nx n' (nx (i + 1)).2.1 (w ++ ((nx (i + 1)).2.2 ++ [e])) else (false, (nx (i + 1)).2.1, [])) i0 m0 τ)
        rw [if_neg hb]
        refine rt_b (rt_v (by simp (disch := omega) only [true_and, and_true, sM_ne, sM_eq, sM_neR, sM_eqR, sK_upM, sK_upR, sL_upM, sL_upR, sN_upM, sN_upR, sT_upM, sT_upR, sN_upM, Int.reduceAdd, Int.reduceMul, Int.reduceSub, Int.reduceNeg, Int.zero_add, Int.add_zero, hr.1.c]) ?_)
        refine Rt.mono (f_emitD hr e) ?_
        rintro v3 s3 ⟨c3, hd3⟩
        obtain ⟨N', rfl⟩ : ∃ N', N = N' + 1 := ⟨N - 1, by omega⟩
        rw [lX4_readSum_7]
        rw [wr1 x (by omega)]
        exact rt_if (fun _ => rt_ret ⟨(c1.tr c2).tr c3, hd3⟩) (fun _ => hd3.pk hk hT (rt_jn (rt_neg (by decide) (hd3.pk hk hT (rt_neg (by decide) (rt_ret ⟨(c1.tr c2).tr c3, hd3⟩))))))
    by_cases q : T i = 20043
    · refine rt_pos q (h.pk hk h3 (rt_jn (rt_pos q ?_)))
      exact step 10006 (by unfold opSum; rw [if_pos q])
    · refine rt_neg q (h.pk hk h3 ?_)
      by_cases q2 : T i = 20045
      · refine rt_pos q2 (h.pk hk h3 (rt_jn (rt_neg q ?_)))
        exact step 10007 (by unfold opSum; rw [if_neg q, if_pos q2])
      · have e : opSum (T i) = none := by unfold opSum; rw [if_neg q, if_neg q2]
        rw [e]
        refine rt_neg q2 (rt_ret ⟨Ch.rf, ?_⟩)
        show (if true = true then LIV T S k s i (m0 ++ w) ∧ w.length + i0 ≤ i ∧ i ≤ k else DED T S k s i)
        rw [if_pos rfl]
        exact ⟨h, h1, h3⟩
theorem res_no {r : RR} {i : Nat} {m : List Int} {τ : ZS} (hb : ¬ r.1 = true) (h : DED T S k τ r.2.1) : RES T S k r i m τ := by unfold RES; rw [if_neg hb]; exact h
theorem res_yes {i j : Nat} {m x : List Int} {τ : ZS} (h : LIV T S k τ j (m ++ x)) (h1 : x.length + i ≤ j) (h2 : j ≤ k) : RES T S k (true, j, x) i m τ := by unfold RES; rw [if_pos rfl]; exact ⟨h, h1, h2⟩
theorem res_de {r : RR} {i : Nat} {m : List Int} {τ : ZS} (h : RES T S k r i m τ) : (r.1 = true ∧ LIV T S k τ r.2.1 (m ++ r.2.2) ∧ r.2.2.length + i ≤ r.2.1 ∧ r.2.1 ≤ k) ∨ (¬ r.1 = true ∧ DED T S k τ r.2.1) := by
  unfold RES at h
  by_cases hb : r.1 = true
  · rw [if_pos hb] at h
    exact Or.inl ⟨hb, h⟩
  · rw [if_neg hb] at h
    exact Or.inr ⟨hb, h⟩
theorem rdB_yes {r : RR} {f : Nat → List Int → RR} (h : r.1 = true) : rdB r f = f r.2.1 r.2.2 := by unfold rdB; rw [if_pos h]
theorem rdB_no {r : RR} {f : Nat → List Int → RR} (h : ¬ r.1 = true) : rdB r f = (false, r.2.1, []) := by unfold rdB; rw [if_neg h]
theorem res_fail {j i : Nat} {m : List Int} {τ : ZS} (h : DED T S k τ j) : RES T S k (false, j, []) i m τ := by unfold RES; rw [if_neg (by simp)]; exact h
theorem LIV.lt {s : ZS} {i : Nat} {m : List Int} (_h : LIV T S k s i m) (hT : T k = 30000) (hi : i ≤ k) {x : Int} (q : T i = x) (hx : x ≠ 30000) : i < k := by
  rcases Nat.lt_or_ge i k with r | r
  · exact r
  · have : i = k := by omega
    rw [this, hT] at q
    omega
theorem c_rd (hk : k ≤ 160) (hT : T k = 30000) (hT0 : ∀ i, 0 ≤ T i) (hS : ∀ j, j ≤ k → 0 ≤ S j) : ∀ (d t : Nat) (o : Int), t ≤ 5 → 0 ≤ o → o ≤ 5 → nd t o ≤ (d : Int) → okF T S k (fun s => fX4_rec d t s 34 o) (rd T d t o)
  | 0, t, o, h1, h2, h3, h4 => by unfold nd at h4; omega
  | d + 1, t, o, h1, h2, h3, h4 => by
    unfold nd at h4
    have ih : ∀ t' o', t' ≤ 5 → 0 ≤ o' → o' ≤ 5 → nd t' o' ≤ (d : Int) → okF T S k (fun s => fX4_rec d t' s 34 o') (rd T d t' o') := fun t' o' a b c e => c_rd hk hT hT0 hS d t' o' a b c e
    rcases (by omega : t = 0 ∨ t = 1 ∨ t = 2 ∨ t = 3 ∨ t = 4 ∨ t = 5) with rfl | rfl | rfl | rfl | rfl | rfl
    · obtain ⟨a, b⟩ := ih 1 o (by omega) h2 h3 (by unfold nd; omega)
      refine ⟨fun s i m hl hm hi => ?_, fun s j hd => ?_⟩
      · show Rt (sX4_readOr (fX4_rec d) s 34 o) (fun _ τ => Ch rdS s τ ∧ RES T S k (rdB (rd T d 1 o i) (fun j x => rdL T opOr (rd T d 1 o) 200 j x)) i m τ)
        unfold sX4_readOr
        refine rt_b (rt_v (by simp (disch := omega) only [true_and, and_true, sM_ne, sM_eq, sM_neR, sM_eqR, sK_upM, sK_upR, sL_upM, sL_upR, sN_upM, sN_upR, sT_upM, sT_upR, sN_upM, Int.reduceAdd, Int.reduceMul, Int.reduceSub, Int.reduceNeg, Int.zero_add, Int.add_zero, hl.1.c]) ?_)
        refine Rt.mono (a s i m hl hm hi) ?_
        rintro v τ ⟨c1, hr⟩
        rcases res_de hr with ⟨y, hl1, b1, b2⟩ | ⟨y, hd⟩
        · rw [rdB_yes y]
          exact (l_cOr hk hT ⟨a, b⟩ 1000 200 0 τ _ i m _ hl1 b1 hm b2 (by omega) (by omega) (by omega)).mono (fun v ρ q => ⟨c1.tr q.1, q.2⟩)
        · rw [rdB_no y]
          rw [show (1000 : Nat) = 999 + 1 from rfl, lX4_readOr_7]
          exact rt_neg (by decide) (hd.pk hk hT (rt_neg (by decide) (rt_ret ⟨c1, res_fail hd⟩)))
      · show Rt (sX4_readOr (fX4_rec d) s 34 o) _
        unfold sX4_readOr
        refine rt_b (rt_v (by simp (disch := omega) only [true_and, and_true, sM_ne, sM_eq, sM_neR, sM_eqR, sK_upM, sK_upR, sL_upM, sL_upR, sN_upM, sN_upR, sT_upM, sT_upR, sN_upM, Int.reduceAdd, Int.reduceMul, Int.reduceSub, Int.reduceNeg, Int.zero_add, Int.add_zero, hd.1.c]) ?_)
        refine Rt.mono (b s j hd) ?_
        rintro v τ ⟨c1, hd1⟩
        rw [show (1000 : Nat) = 999 + 1 from rfl, lX4_readOr_7]
        exact rt_neg (by decide) (hd1.pk hk hT (rt_neg (by decide) (rt_ret ⟨c1, hd1⟩)))
    · obtain ⟨a, b⟩ := ih 2 o (by omega) h2 h3 (by unfold nd; omega)
      refine ⟨fun s i m hl hm hi => ?_, fun s j hd => ?_⟩
      · show Rt (sX4_readAnd (fX4_rec d) s 34 o) (fun _ τ => Ch rdS s τ ∧ RES T S k (rdB (rd T d 2 o i) (fun j x => rdL T opAnd (rd T d 2 o) 200 j x)) i m τ)
        unfold sX4_readAnd
        refine rt_b (rt_v (by simp (disch := omega) only [true_and, and_true, sM_ne, sM_eq, sM_neR, sM_eqR, sK_upM, sK_upR, sL_upM, sL_upR, sN_upM, sN_upR, sT_upM, sT_upR, sN_upM, Int.reduceAdd, Int.reduceMul, Int.reduceSub, Int.reduceNeg, Int.zero_add, Int.add_zero, hl.1.c]) ?_)
        refine Rt.mono (a s i m hl hm hi) ?_
        rintro v τ ⟨c1, hr⟩
        rcases res_de hr with ⟨y, hl1, b1, b2⟩ | ⟨y, hd⟩
        · rw [rdB_yes y]
          exact (l_cAnd hk hT ⟨a, b⟩ 1000 200 0 τ _ i m _ hl1 b1 hm b2 (by omega) (by omega) (by omega)).mono (fun v ρ q => ⟨c1.tr q.1, q.2⟩)
        · rw [rdB_no y]
          rw [show (1000 : Nat) = 999 + 1 from rfl, lX4_readAnd_7]
          exact rt_neg (by decide) (hd.pk hk hT (rt_neg (by decide) (rt_ret ⟨c1, res_fail hd⟩)))
      · show Rt (sX4_readAnd (fX4_rec d) s 34 o) _
        unfold sX4_readAnd
        refine rt_b (rt_v (by simp (disch := omega) only [true_and, and_true, sM_ne, sM_eq, sM_neR, sM_eqR, sK_upM, sK_upR, sL_upM, sL_upR, sN_upM, sN_upR, sT_upM, sT_upR, sN_upM, Int.reduceAdd, Int.reduceMul, Int.reduceSub, Int.reduceNeg, Int.zero_add, Int.add_zero, hd.1.c]) ?_)
        refine Rt.mono (b s j hd) ?_
        rintro v τ ⟨c1, hd1⟩
        rw [show (1000 : Nat) = 999 + 1 from rfl, lX4_readAnd_7]
        exact rt_neg (by decide) (hd1.pk hk hT (rt_neg (by decide) (rt_ret ⟨c1, hd1⟩)))
    · obtain ⟨a, b⟩ := ih 3 o (by omega) h2 h3 (by unfold nd; omega)
      refine ⟨fun s i m hl hm hi => ?_, fun s j hd => ?_⟩
      · show Rt (sX4_readNot (fX4_rec d) s 34 o) (fun _ τ => Ch rdS s τ ∧ RES T S k (if T i = 10010 then (if o < 5 then rdB (rd T d 2 (o + 1) (i + 1)) (fun j x => (true, j, x ++ [10013])) else (false, i, []))
          else rdB (rd T d 3 o i) (fun j x => match opCmp (T j) with
            | none => (true, j, x)
            | some e => rdB (rd T d 3 o (j + 1)) (fun j2 y => (true, j2, x ++ (y ++ [e]))))) i m τ)
        unfold sX4_readNot
        refine hl.pk hk hi ?_
        by_cases q : T i = 10010
        · refine rt_pos q ?_
          rw [if_pos q]
          have hik := hl.lt hT hi q (by decide)
          refine rt_b (rt_v (by simp (disch := omega) only [true_and, and_true, sM_ne, sM_eq, sM_neR, sM_eqR, sK_upM, sK_upR, sL_upM, sL_upR, sN_upM, sN_upR, sT_upM, sT_upR, sN_upM, Int.reduceAdd, Int.reduceMul, Int.reduceSub, Int.reduceNeg, Int.zero_add, Int.add_zero, hl.1.c]) ?_)
          unfold fX4_mayOpen
          by_cases ho : o < 5
          · refine rt_pos ho ?_
            rw [if_pos ho]
            obtain ⟨a2, b2⟩ := ih 2 (o + 1) (by omega) (by omega) (by omega) (by unfold nd; omega)
            refine (rt_b (rt_v (by simp (disch := omega) only [true_and, and_true, sM_ne, sM_eq, sM_neR, sM_eqR, sK_upM, sK_upR, sL_upM, sL_upR, sN_upM, sN_upR, sT_upM, sT_upR, sN_upM, Int.reduceAdd, Int.reduceMul, Int.reduceSub, Int.reduceNeg, Int.zero_add, Int.add_zero, hl.1.c]) ?_))
            refine Rt.mono (f_adv hl hik hk) ?_
            rintro v1 s1 ⟨c1, hl1⟩
            refine rt_ret (rt_neg (by decide) (rt_b (rt_v (by simp (disch := omega) only [true_and, and_true, sM_ne, sM_eq, sM_neR, sM_eqR, sK_upM, sK_upR, sL_upM, sL_upR, sN_upM, sN_upR, sT_upM, sT_upR, sN_upM, Int.reduceAdd, Int.reduceMul, Int.reduceSub, Int.reduceNeg, Int.zero_add, Int.add_zero, hl1.1.c]) ?_)))
            rw [wr (x := o + 1) (by omega) (by omega)]
            refine Rt.mono (a2 s1 (i + 1) m hl1 (by omega) (by omega)) ?_
            rintro v2 s2 ⟨c2, hr⟩
            rcases res_de hr with ⟨y, hl2, e1, e2⟩ | ⟨y, hd⟩
            · rw [rdB_yes y]
              refine rt_b (rt_v (by simp (disch := omega) only [true_and, and_true, sM_ne, sM_eq, sM_neR, sM_eqR, sK_upM, sK_upR, sL_upM, sL_upR, sN_upM, sN_upR, sT_upM, sT_upR, sN_upM, Int.reduceAdd, Int.reduceMul, Int.reduceSub, Int.reduceNeg, Int.zero_add, Int.add_zero, hl2.1.c]) ?_)
              refine Rt.mono (f_emit hl2 (by rw [List.length_append]; omega) 10013) ?_
              rintro v3 s3 ⟨c3, hl3⟩
              refine rt_ret ⟨(c1.tr c2).tr c3, res_yes (by rw [List.append_assoc] at hl3; exact hl3) (by rw [List.length_append, List.length_singleton]; omega) e2⟩
            · rw [rdB_no y]
              refine rt_b (rt_v (by simp (disch := omega) only [true_and, and_true, sM_ne, sM_eq, sM_neR, sM_eqR, sK_upM, sK_upR, sL_upM, sL_upR, sN_upM, sN_upR, sT_upM, sT_upR, sN_upM, Int.reduceAdd, Int.reduceMul, Int.reduceSub, Int.reduceNeg, Int.zero_add, Int.add_zero, hd.1.c]) ?_)
              refine Rt.mono (f_emitD hd 10013) ?_
              rintro v3 s3 ⟨c3, hd3⟩
              exact rt_ret ⟨(c1.tr c2).tr c3, res_fail hd3⟩
          · refine rt_neg ho ?_
            rw [if_neg ho]
            refine (rt_b (rt_v (by simp (disch := omega) only [true_and, and_true, sM_ne, sM_eq, sM_neR, sM_eqR, sK_upM, sK_upR, sL_upM, sL_upR, sN_upM, sN_upR, sT_upM, sT_upR, sN_upM, Int.reduceAdd, Int.reduceMul, Int.reduceSub, Int.reduceNeg, Int.zero_add, Int.add_zero, hl.1.c]) ?_))
            refine Rt.mono (f_fail hl hi hk (by omega)) ?_
            rintro v1 s1 ⟨c1, hd1⟩
            exact rt_ret (rt_pos rfl (rt_ret ⟨c1, res_fail hd1⟩))
        · refine rt_neg q ?_
          rw [if_neg q]
          refine (rt_b (rt_v (by simp (disch := omega) only [true_and, and_true, sM_ne, sM_eq, sM_neR, sM_eqR, sK_upM, sK_upR, sL_upM, sL_upR, sN_upM, sN_upR, sT_upM, sT_upR, sN_upM, Int.reduceAdd, Int.reduceMul, Int.reduceSub, Int.reduceNeg, Int.zero_add, Int.add_zero, hl.1.c]) ?_))
          refine Rt.mono (a s i m hl hm hi) ?_
          rintro v1 s1 ⟨c1, hr⟩
          rcases res_de hr with ⟨y, hl1, e1, e2⟩ | ⟨y, hd⟩
          · rw [rdB_yes y]
            generalize (rd T d 3 o i).2.1 = j at *
            generalize (rd T d 3 o i).2.2 = w at *
            have cmp : ∀ e : Int, opCmp (T j) = some e → Rt (zb (zv s1 4 34 (fX4_advance s1 34)) (fun v25 s26 => zb (zv s26 4 34 (fX4_rec d 3 s26 34 o)) (fun v28 s29 => zb (zv s29 4 34 (fX4_emit s29 34 e)) (fun v31 s32 => some (0, s32))))) (fun _ τ => Ch rdS s τ ∧ RES T S k (match opCmp (T j) with
                | none => (true, j, w)
                | some e => rdB (rd T d 3 o (j + 1)) (fun j2 y => (true, j2, w ++ (y ++ [e])))) i m τ) := by
              intro e he
              have hjk : j < k := by
                rcases Nat.lt_or_ge j k with r | r
                · exact r
                · have : j = k := by omega
                  rw [this, hT] at he
                  exact absurd (he.symm.trans (by decide : opCmp 30000 = none)) (by simp)
              rw [he]
              show Rt _ (fun _ τ => Ch rdS s τ ∧ RES T S k (rdB (rd T d 3 o (j + 1)) (fun j2 y => (true, j2, w ++ (y ++ [e])))) i m τ)
              refine rt_b (rt_v (by simp (disch := omega) only [true_and, and_true, sM_ne, sM_eq, sM_neR, sM_eqR, sK_upM, sK_upR, sL_upM, sL_upR, sN_upM, sN_upR, sT_upM, sT_upR, sN_upM, Int.reduceAdd, Int.reduceMul, Int.reduceSub, Int.reduceNeg, Int.zero_add, Int.add_zero, hl1.1.c]) ?_)
              refine Rt.mono (f_adv hl1 hjk hk) ?_
              rintro v2 s2 ⟨c2, hl2⟩
              refine rt_b (rt_v (by simp (disch := omega) only [true_and, and_true, sM_ne, sM_eq, sM_neR, sM_eqR, sK_upM, sK_upR, sL_upM, sL_upR, sN_upM, sN_upR, sT_upM, sT_upR, sN_upM, Int.reduceAdd, Int.reduceMul, Int.reduceSub, Int.reduceNeg, Int.zero_add, Int.add_zero, hl2.1.c]) ?_)
              refine Rt.mono (a s2 (j + 1) (m ++ w) hl2 (by rw [List.length_append]; omega) (by omega)) ?_
              rintro v3 s3 ⟨c3, hr3⟩
              rcases res_de hr3 with ⟨y3, hl3, f1, f2⟩ | ⟨y3, hd3⟩
              · rw [rdB_yes y3]
                refine rt_b (rt_v (by simp (disch := omega) only [true_and, and_true, sM_ne, sM_eq, sM_neR, sM_eqR, sK_upM, sK_upR, sL_upM, sL_upR, sN_upM, sN_upR, sT_upM, sT_upR, sN_upM, Int.reduceAdd, Int.reduceMul, Int.reduceSub, Int.reduceNeg, Int.zero_add, Int.add_zero, hl3.1.c]) ?_)
                refine Rt.mono (f_emit hl3 (by rw [List.length_append, List.length_append]; omega) e) ?_
                rintro v4 s4 ⟨c4, hl4⟩
                refine rt_ret ⟨((c1.tr c2).tr c3).tr c4, res_yes (by rw [List.append_assoc, List.append_assoc] at hl4; exact hl4) (by rw [List.length_append, List.length_append, List.length_singleton]; omega) f2⟩
              · rw [rdB_no y3]
                refine rt_b (rt_v (by simp (disch := omega) only [true_and, and_true, sM_ne, sM_eq, sM_neR, sM_eqR, sK_upM, sK_upR, sL_upM, sL_upR, sN_upM, sN_upR, sT_upM, sT_upR, sN_upM, Int.reduceAdd, Int.reduceMul, Int.reduceSub, Int.reduceNeg, Int.zero_add, Int.add_zero, hd3.1.c]) ?_)
                refine Rt.mono (f_emitD hd3 e) ?_
                rintro v4 s4 ⟨c4, hd4⟩
                exact rt_ret ⟨((c1.tr c2).tr c3).tr c4, res_fail hd4⟩
            refine hl1.pk hk e2 ?_
            by_cases q1 : T j = 20060
            · exact rt_pos q1 (cmp 10009 (by unfold opCmp; rw [if_pos q1]))
            · refine rt_neg q1 (hl1.pk hk e2 ?_)
              by_cases q2 : T j = 20061
              · exact rt_pos q2 (cmp 10010 (by unfold opCmp; rw [if_neg q1, if_pos q2]))
              · have e : opCmp (T j) = none := by unfold opCmp; rw [if_neg q1, if_neg q2]
                rw [e]
                exact rt_neg q2 (rt_ret ⟨c1, res_yes hl1 e1 e2⟩)
          · rw [rdB_no y]
            exact hd.pk hk hT (rt_neg (by decide) (hd.pk hk hT (rt_neg (by decide) (rt_ret ⟨c1, res_fail hd⟩))))
      · show Rt (sX4_readNot (fX4_rec d) s 34 o) _
        unfold sX4_readNot
        refine hd.pk hk hT (rt_neg (by decide) (rt_b (rt_v (by simp (disch := omega) only [true_and, and_true, sM_ne, sM_eq, sM_neR, sM_eqR, sK_upM, sK_upR, sL_upM, sL_upR, sN_upM, sN_upR, sT_upM, sT_upR, sN_upM, Int.reduceAdd, Int.reduceMul, Int.reduceSub, Int.reduceNeg, Int.zero_add, Int.add_zero, hd.1.c]) ?_)))
        refine Rt.mono (b s j hd) ?_
        rintro v τ ⟨c1, hd1⟩
        exact hd1.pk hk hT (rt_neg (by decide) (hd1.pk hk hT (rt_neg (by decide) (rt_ret ⟨c1, hd1⟩))))
    · obtain ⟨a, b⟩ := ih 4 o (by omega) h2 h3 (by unfold nd; omega)
      refine ⟨fun s i m hl hm hi => ?_, fun s j hd => ?_⟩
      · show Rt (sX4_readSum (fX4_rec d) s 34 o) (fun _ τ => Ch rdS s τ ∧ RES T S k (rdB (rd T d 4 o i) (fun j x => rdL T opSum (rd T d 4 o) 200 j x)) i m τ)
        unfold sX4_readSum
        refine rt_b (rt_v (by simp (disch := omega) only [true_and, and_true, sM_ne, sM_eq, sM_neR, sM_eqR, sK_upM, sK_upR, sL_upM, sL_upR, sN_upM, sN_upR, sT_upM, sT_upR, sN_upM, Int.reduceAdd, Int.reduceMul, Int.reduceSub, Int.reduceNeg, Int.zero_add, Int.add_zero, hl.1.c]) ?_)
        refine Rt.mono (a s i m hl hm hi) ?_
        rintro v τ ⟨c1, hr⟩
        rcases res_de hr with ⟨y, hl1, b1, b2⟩ | ⟨y, hd⟩
        · rw [rdB_yes y]
          exact (l_cSum hk hT ⟨a, b⟩ 1000 200 0 τ _ i m _ hl1 b1 hm b2 (by omega) (by omega) (by omega)).mono (fun v ρ q => ⟨c1.tr q.1, q.2⟩)
        · rw [rdB_no y]
          rw [show (1000 : Nat) = 999 + 1 from rfl, lX4_readSum_7]
          exact rt_neg (by decide) (hd.pk hk hT (rt_jn (rt_neg (by decide) (hd.pk hk hT (rt_neg (by decide) (rt_ret ⟨c1, res_fail hd⟩))))))
      · show Rt (sX4_readSum (fX4_rec d) s 34 o) _
        unfold sX4_readSum
        refine rt_b (rt_v (by simp (disch := omega) only [true_and, and_true, sM_ne, sM_eq, sM_neR, sM_eqR, sK_upM, sK_upR, sL_upM, sL_upR, sN_upM, sN_upR, sT_upM, sT_upR, sN_upM, Int.reduceAdd, Int.reduceMul, Int.reduceSub, Int.reduceNeg, Int.zero_add, Int.add_zero, hd.1.c]) ?_)
        refine Rt.mono (b s j hd) ?_
        rintro v τ ⟨c1, hd1⟩
        rw [show (1000 : Nat) = 999 + 1 from rfl, lX4_readSum_7]
        exact rt_neg (by decide) (hd1.pk hk hT (rt_jn (rt_neg (by decide) (hd1.pk hk hT (rt_neg (by decide) (rt_ret ⟨c1, hd1⟩))))))
    · obtain ⟨a, b⟩ := ih 5 o (by omega) h2 h3 (by unfold nd; omega)
      refine ⟨fun s i m hl hm hi => ?_, fun s j hd => ?_⟩
      · show Rt (sX4_readTerm (fX4_rec d) s 34 o) (fun _ τ => Ch rdS s τ ∧ RES T S k (rdB (rd T d 5 o i) (fun j x => rdL T opMul (rd T d 5 o) 200 j x)) i m τ)
        unfold sX4_readTerm
        refine rt_b (rt_v (by simp (disch := omega) only [true_and, and_true, sM_ne, sM_eq, sM_neR, sM_eqR, sK_upM, sK_upR, sL_upM, sL_upR, sN_upM, sN_upR, sT_upM, sT_upR, sN_upM, Int.reduceAdd, Int.reduceMul, Int.reduceSub, Int.reduceNeg, Int.zero_add, Int.add_zero, hl.1.c]) ?_)
        refine Rt.mono (a s i m hl hm hi) ?_
        rintro v τ ⟨c1, hr⟩
        rcases res_de hr with ⟨y, hl1, b1, b2⟩ | ⟨y, hd⟩
        · rw [rdB_yes y]
          exact (l_cTerm hk hT ⟨a, b⟩ 1000 200 0 τ _ i m _ hl1 b1 hm b2 (by omega) (by omega) (by omega)).mono (fun v ρ q => ⟨c1.tr q.1, q.2⟩)
        · rw [rdB_no y]
          rw [show (1000 : Nat) = 999 + 1 from rfl, lX4_readTerm_7]
          exact rt_neg (by decide) (hd.pk hk hT (rt_neg (by decide) (rt_ret ⟨c1, res_fail hd⟩)))
      · show Rt (sX4_readTerm (fX4_rec d) s 34 o) _
        unfold sX4_readTerm
        refine rt_b (rt_v (by simp (disch := omega) only [true_and, and_true, sM_ne, sM_eq, sM_neR, sM_eqR, sK_upM, sK_upR, sL_upM, sL_upR, sN_upM, sN_upR, sT_upM, sT_upR, sN_upM, Int.reduceAdd, Int.reduceMul, Int.reduceSub, Int.reduceNeg, Int.zero_add, Int.add_zero, hd.1.c]) ?_)
        refine Rt.mono (b s j hd) ?_
        rintro v τ ⟨c1, hd1⟩
        rw [show (1000 : Nat) = 999 + 1 from rfl, lX4_readTerm_7]
        exact rt_neg (by decide) (hd1.pk hk hT (rt_neg (by decide) (rt_ret ⟨c1, hd1⟩)))
    · refine ⟨fun s i m hl hm hi => ?_, fun s j hd => ?_⟩
      · show Rt (sX4_readOne (fX4_rec d) s 34 o) (fun _ τ => Ch rdS s τ ∧ RES T S k (if T i < 10006 then (true, i + 1, [T i])
          else if T i = 20045 then (if o < 5 then rdB (rd T d 5 (o + 1) (i + 1)) (fun j x => (true, j, x ++ [10014])) else (false, i, []))
          else if T i = 20040 then (if o < 5 then rdB (rd T d 0 (o + 1) (i + 1)) (fun j x => if T j = 20041 then (true, j + 1, x) else (false, j, [])) else (false, i, []))
          else (false, i, [])) i m τ)
        unfold sX4_readOne
        refine hl.pk hk hi ?_
        by_cases q : T i < 10006
        · rw [if_pos q]
          have hik : i < k := by
            rcases Nat.lt_or_ge i k with r | r
            · exact r
            · have : i = k := by omega
              rw [this, hT] at q
              omega
          refine rt_neg (by omega) (rt_b (rt_v (by simp (disch := omega) only [true_and, and_true, sM_ne, sM_eq, sM_neR, sM_eqR, sK_upM, sK_upR, sL_upM, sL_upR, sN_upM, sN_upR, sT_upM, sT_upR, sN_upM, Int.reduceAdd, Int.reduceMul, Int.reduceSub, Int.reduceNeg, Int.zero_add, Int.add_zero, hl.1.c]) ?_))
          refine Rt.mono (f_emit hl (by omega) (T i)) ?_
          rintro v1 s1 ⟨c1, hl1⟩
          refine rt_b (rt_v (by simp (disch := omega) only [true_and, and_true, sM_ne, sM_eq, sM_neR, sM_eqR, sK_upM, sK_upR, sL_upM, sL_upR, sN_upM, sN_upR, sT_upM, sT_upR, sN_upM, Int.reduceAdd, Int.reduceMul, Int.reduceSub, Int.reduceNeg, Int.zero_add, Int.add_zero, hl1.1.c]) ?_)
          refine Rt.mono (f_adv hl1 hik hk) ?_
          rintro v2 s2 ⟨c2, hl2⟩
          exact rt_ret ⟨c1.tr c2, res_yes hl2 (by rw [List.length_singleton]; omega) (by omega)⟩
        rw [if_neg q]
        refine rt_pos (by omega) ?_
        by_cases q2 : T i = 20045
        · refine rt_pos q2 ?_
          rw [if_pos q2]
          have hik := hl.lt hT hi q2 (by decide)
          refine rt_b (rt_v (by simp (disch := omega) only [true_and, and_true, sM_ne, sM_eq, sM_neR, sM_eqR, sK_upM, sK_upR, sL_upM, sL_upR, sN_upM, sN_upR, sT_upM, sT_upR, sN_upM, Int.reduceAdd, Int.reduceMul, Int.reduceSub, Int.reduceNeg, Int.zero_add, Int.add_zero, hl.1.c]) ?_)
          unfold fX4_mayOpen
          by_cases ho : o < 5
          · refine rt_pos ho ?_
            rw [if_pos ho]
            obtain ⟨a2, b2⟩ := ih 5 (o + 1) (by omega) (by omega) (by omega) (by unfold nd; omega)
            refine (rt_b (rt_v (by simp (disch := omega) only [true_and, and_true, sM_ne, sM_eq, sM_neR, sM_eqR, sK_upM, sK_upR, sL_upM, sL_upR, sN_upM, sN_upR, sT_upM, sT_upR, sN_upM, Int.reduceAdd, Int.reduceMul, Int.reduceSub, Int.reduceNeg, Int.zero_add, Int.add_zero, hl.1.c]) ?_))
            refine Rt.mono (f_adv hl hik hk) ?_
            rintro v1 s1 ⟨c1, hl1⟩
            refine rt_ret (rt_neg (by decide) (rt_b (rt_v (by simp (disch := omega) only [true_and, and_true, sM_ne, sM_eq, sM_neR, sM_eqR, sK_upM, sK_upR, sL_upM, sL_upR, sN_upM, sN_upR, sT_upM, sT_upR, sN_upM, Int.reduceAdd, Int.reduceMul, Int.reduceSub, Int.reduceNeg, Int.zero_add, Int.add_zero, hl1.1.c]) ?_)))
            rw [wr (x := o + 1) (by omega) (by omega)]
            refine Rt.mono (a2 s1 (i + 1) m hl1 (by omega) (by omega)) ?_
            rintro v2 s2 ⟨c2, hr⟩
            rcases res_de hr with ⟨y, hl2, e1, e2⟩ | ⟨y, hd⟩
            · rw [rdB_yes y]
              refine rt_b (rt_v (by simp (disch := omega) only [true_and, and_true, sM_ne, sM_eq, sM_neR, sM_eqR, sK_upM, sK_upR, sL_upM, sL_upR, sN_upM, sN_upR, sT_upM, sT_upR, sN_upM, Int.reduceAdd, Int.reduceMul, Int.reduceSub, Int.reduceNeg, Int.zero_add, Int.add_zero, hl2.1.c]) ?_)
              refine Rt.mono (f_emit hl2 (by rw [List.length_append]; omega) 10014) ?_
              rintro v3 s3 ⟨c3, hl3⟩
              refine rt_ret ⟨(c1.tr c2).tr c3, res_yes (by rw [List.append_assoc] at hl3; exact hl3) (by rw [List.length_append, List.length_singleton]; omega) e2⟩
            · rw [rdB_no y]
              refine rt_b (rt_v (by simp (disch := omega) only [true_and, and_true, sM_ne, sM_eq, sM_neR, sM_eqR, sK_upM, sK_upR, sL_upM, sL_upR, sN_upM, sN_upR, sT_upM, sT_upR, sN_upM, Int.reduceAdd, Int.reduceMul, Int.reduceSub, Int.reduceNeg, Int.zero_add, Int.add_zero, hd.1.c]) ?_)
              refine Rt.mono (f_emitD hd 10014) ?_
              rintro v3 s3 ⟨c3, hd3⟩
              exact rt_ret ⟨(c1.tr c2).tr c3, res_fail hd3⟩
          · refine rt_neg ho ?_
            rw [if_neg ho]
            refine (rt_b (rt_v (by simp (disch := omega) only [true_and, and_true, sM_ne, sM_eq, sM_neR, sM_eqR, sK_upM, sK_upR, sL_upM, sL_upR, sN_upM, sN_upR, sT_upM, sT_upR, sN_upM, Int.reduceAdd, Int.reduceMul, Int.reduceSub, Int.reduceNeg, Int.zero_add, Int.add_zero, hl.1.c]) ?_))
            refine Rt.mono (f_fail hl hi hk (by omega)) ?_
            rintro v1 s1 ⟨c1, hd1⟩
            exact rt_ret (rt_pos rfl (rt_ret ⟨c1, res_fail hd1⟩))
        refine rt_neg q2 ?_
        rw [if_neg q2]
        by_cases q3 : T i = 20040
        · refine rt_pos q3 ?_
          rw [if_pos q3]
          have hik := hl.lt hT hi q3 (by decide)
          refine rt_b (rt_v (by simp (disch := omega) only [true_and, and_true, sM_ne, sM_eq, sM_neR, sM_eqR, sK_upM, sK_upR, sL_upM, sL_upR, sN_upM, sN_upR, sT_upM, sT_upR, sN_upM, Int.reduceAdd, Int.reduceMul, Int.reduceSub, Int.reduceNeg, Int.zero_add, Int.add_zero, hl.1.c]) ?_)
          unfold fX4_mayOpen
          by_cases ho : o < 5
          · refine rt_pos ho ?_
            rw [if_pos ho]
            obtain ⟨a2, b2⟩ := ih 0 (o + 1) (by omega) (by omega) (by omega) (by unfold nd; omega)
            refine (rt_b (rt_v (by simp (disch := omega) only [true_and, and_true, sM_ne, sM_eq, sM_neR, sM_eqR, sK_upM, sK_upR, sL_upM, sL_upR, sN_upM, sN_upR, sT_upM, sT_upR, sN_upM, Int.reduceAdd, Int.reduceMul, Int.reduceSub, Int.reduceNeg, Int.zero_add, Int.add_zero, hl.1.c]) ?_))
            refine Rt.mono (f_adv hl hik hk) ?_
            rintro v1 s1 ⟨c1, hl1⟩
            refine rt_ret (rt_neg (by decide) (rt_b (rt_v (by simp (disch := omega) only [true_and, and_true, sM_ne, sM_eq, sM_neR, sM_eqR, sK_upM, sK_upR, sL_upM, sL_upR, sN_upM, sN_upR, sT_upM, sT_upR, sN_upM, Int.reduceAdd, Int.reduceMul, Int.reduceSub, Int.reduceNeg, Int.zero_add, Int.add_zero, hl1.1.c]) ?_)))
            rw [wr (x := o + 1) (by omega) (by omega)]
            refine Rt.mono (a2 s1 (i + 1) m hl1 (by omega) (by omega)) ?_
            rintro v2 s2 ⟨c2, hr⟩
            rcases res_de hr with ⟨y, hl2, e1, e2⟩ | ⟨y, hd⟩
            · rw [rdB_yes y]
              refine rt_b (rt_v (by simp (disch := omega) only [true_and, and_true, sM_ne, sM_eq, sM_neR, sM_eqR, sK_upM, sK_upR, sL_upM, sL_upR, sN_upM, sN_upR, sT_upM, sT_upR, sN_upM, Int.reduceAdd, Int.reduceMul, Int.reduceSub, Int.reduceNeg, Int.zero_add, Int.add_zero, hl2.1.c]) ?_)
              unfold fX4_expect
              refine hl2.pk hk e2 ?_
              by_cases q4 : T (rd T d 0 (o + 1) (i + 1)).2.1 = 20041
              · refine rt_pos q4 ?_
                rw [if_pos q4]
                have hjk := hl2.lt hT e2 q4 (by decide)
                refine (rt_b (rt_v (by simp (disch := omega) only [true_and, and_true, sM_ne, sM_eq, sM_neR, sM_eqR, sK_upM, sK_upR, sL_upM, sL_upR, sN_upM, sN_upR, sT_upM, sT_upR, sN_upM, Int.reduceAdd, Int.reduceMul, Int.reduceSub, Int.reduceNeg, Int.zero_add, Int.add_zero, hl2.1.c]) ?_))
                refine Rt.mono (f_adv hl2 hjk hk) ?_
                rintro v3 s3 ⟨c3, hl3⟩
                exact rt_ret (rt_ret ⟨(c1.tr c2).tr c3, res_yes hl3 (by omega) (by omega)⟩)
              · refine rt_neg q4 ?_
                rw [if_neg q4]
                refine (rt_b (rt_v (by simp (disch := omega) only [true_and, and_true, sM_ne, sM_eq, sM_neR, sM_eqR, sK_upM, sK_upR, sL_upM, sL_upR, sN_upM, sN_upR, sT_upM, sT_upR, sN_upM, Int.reduceAdd, Int.reduceMul, Int.reduceSub, Int.reduceNeg, Int.zero_add, Int.add_zero, hl2.1.c]) ?_))
                refine Rt.mono (f_fail hl2 e2 hk (by rw [List.length_append]; omega)) ?_
                rintro v3 s3 ⟨c3, hd3⟩
                exact rt_ret (rt_ret ⟨(c1.tr c2).tr c3, res_fail hd3⟩)
            · rw [rdB_no y]
              refine rt_b (rt_v (by simp (disch := omega) only [true_and, and_true, sM_ne, sM_eq, sM_neR, sM_eqR, sK_upM, sK_upR, sL_upM, sL_upR, sN_upM, sN_upR, sT_upM, sT_upR, sN_upM, Int.reduceAdd, Int.reduceMul, Int.reduceSub, Int.reduceNeg, Int.zero_add, Int.add_zero, hd.1.c]) ?_)
              unfold fX4_expect
              refine hd.pk hk hT (rt_neg (by decide) (rt_b (rt_v (by simp (disch := omega) only [true_and, and_true, sM_ne, sM_eq, sM_neR, sM_eqR, sK_upM, sK_upR, sL_upM, sL_upR, sN_upM, sN_upR, sT_upM, sT_upR, sN_upM, Int.reduceAdd, Int.reduceMul, Int.reduceSub, Int.reduceNeg, Int.zero_add, Int.add_zero, hd.1.c]) ?_)))
              refine Rt.mono (f_failD hd hS) ?_
              rintro v3 s3 ⟨c3, hd3⟩
              exact rt_ret (rt_ret ⟨(c1.tr c2).tr c3, res_fail hd3⟩)
          · refine rt_neg ho ?_
            rw [if_neg ho]
            refine (rt_b (rt_v (by simp (disch := omega) only [true_and, and_true, sM_ne, sM_eq, sM_neR, sM_eqR, sK_upM, sK_upR, sL_upM, sL_upR, sN_upM, sN_upR, sT_upM, sT_upR, sN_upM, Int.reduceAdd, Int.reduceMul, Int.reduceSub, Int.reduceNeg, Int.zero_add, Int.add_zero, hl.1.c]) ?_))
            refine Rt.mono (f_fail hl hi hk (by omega)) ?_
            rintro v1 s1 ⟨c1, hd1⟩
            exact rt_ret (rt_pos rfl (rt_ret ⟨c1, res_fail hd1⟩))
        · refine rt_neg q3 ?_
          rw [if_neg q3]
          refine (rt_b (rt_v (by simp (disch := omega) only [true_and, and_true, sM_ne, sM_eq, sM_neR, sM_eqR, sK_upM, sK_upR, sL_upM, sL_upR, sN_upM, sN_upR, sT_upM, sT_upR, sN_upM, Int.reduceAdd, Int.reduceMul, Int.reduceSub, Int.reduceNeg, Int.zero_add, Int.add_zero, hl.1.c]) ?_))
          refine Rt.mono (f_fail hl hi hk (by omega)) ?_
          rintro v1 s1 ⟨c1, hd1⟩
          exact rt_ret ⟨c1, res_fail hd1⟩
      · show Rt (sX4_readOne (fX4_rec d) s 34 o) _
        unfold sX4_readOne
        refine hd.pk hk hT (rt_pos (by decide) (rt_neg (by decide) (rt_neg (by decide) (rt_b (rt_v (by simp (disch := omega) only [true_and, and_true, sM_ne, sM_eq, sM_neR, sM_eqR, sK_upM, sK_upR, sL_upM, sL_upR, sN_upM, sN_upR, sT_upM, sT_upR, sN_upM, Int.reduceAdd, Int.reduceMul, Int.reduceSub, Int.reduceNeg, Int.zero_add, Int.add_zero, hd.1.c]) ?_)))))
        refine Rt.mono (f_failD hd hS) ?_
        rintro v τ ⟨c1, hd1⟩
        exact rt_ret ⟨c1, hd1⟩
end RDD
