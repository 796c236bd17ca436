/-! a text read by both: clause by clause -/
def cl (T : Nat → Int) (w : Int) (i : Nat) : RR := if T i = w then rdB (rd T 60 0 0 (i + 1)) (fun j x => if T j = 20059 then (true, j + 1, x) else (false, j, [])) else (false, i, [])
section CLS
variable {T S : Nat → Int} {k : Nat}
theorem f_expect {w : Int} (hk : k ≤ 160) (hT : T k = 30000) (hw : w ≠ 30000) {s : ZS} {i : Nat} {m : List Int} (h : LIV T S k s i m) (hi : i ≤ k) (hm : m.length ≤ 160) : Rt (fX4_expect s 34 w) (fun _ τ => Ch rdS s τ ∧ (if T i = w then LIV T S k τ (i + 1) m ∧ i < k else DED T S k τ i)) := by
  unfold fX4_expect
  refine h.pk hk hi ?_
  by_cases q : T i = w
  · have hik := h.lt hT hi q hw
    refine rt_pos q (rt_b (rt_v (by simp (disch := omega) only [true_and, and_true, sM_ne, sM_eq, sM_neR, sM_eqR, sK_upM, sK_upR, sL_upM, sL_upR, sN_upM, sN_upR, sT_upM, sT_upR, sN_upM, Int.reduceAdd, Int.reduceMul, Int.reduceSub, Int.reduceNeg, Int.zero_add, Int.add_zero, h.1.c]) ?_))
    refine Rt.mono (f_adv h hik hk) ?_
    rintro v τ ⟨c, hl⟩
    exact rt_ret ⟨c, by rw [if_pos q]; exact ⟨hl, hik⟩⟩
  · refine rt_neg q (rt_b (rt_v (by simp (disch := omega) only [true_and, and_true, sM_ne, sM_eq, sM_neR, sM_eqR, sK_upM, sK_upR, sL_upM, sL_upR, sN_upM, sN_upR, sT_upM, sT_upR, sN_upM, Int.reduceAdd, Int.reduceMul, Int.reduceSub, Int.reduceNeg, Int.zero_add, Int.add_zero, h.1.c]) ?_))
    refine Rt.mono (f_fail h hi hk hm) ?_
    rintro v τ ⟨c, hd⟩
    exact rt_ret ⟨c, by rw [if_neg q]; exact hd⟩
theorem f_expectD {w : Int} (hk : k ≤ 160) (hT : T k = 30000) (hS : ∀ j, j ≤ k → 0 ≤ S j) (hw : w ≠ 30000) {s : ZS} {j : Nat} (h : DED T S k s j) : Rt (fX4_expect s 34 w) (fun _ τ => Ch rdS s τ ∧ DED T S k τ j) := by
  unfold fX4_expect
  refine h.pk hk hT (rt_neg (fun q => hw q.symm) (rt_b (rt_v (by simp (disch := omega) only [true_and, and_true, sM_ne, sM_eq, sM_neR, sM_eqR, sK_upM, sK_upR, sL_upM, sL_upR, sN_upM, sN_upR, sT_upM, sT_upR, sN_upM, Int.reduceAdd, Int.reduceMul, Int.reduceSub, Int.reduceNeg, Int.zero_add, Int.add_zero, h.1.c]) ?_)))
  refine Rt.mono (f_failD h hS) ?_
  rintro v τ ⟨c, hd⟩
  exact rt_ret ⟨c, hd⟩
theorem f_clause {w : Int} (hk : k ≤ 160) (hT : T k = 30000) (hT0 : ∀ i, 0 ≤ T i) (hS : ∀ j, j ≤ k → 0 ≤ S j) (hw : w ≠ 30000) {s : ZS} {i : Nat} {m : List Int} (h : LIV T S k s i m) (hm : m.length ≤ i) (hi : i ≤ k) : Rt (fX4_readClause s 34 w) (fun _ τ => Ch rdS s τ ∧ RES T S k (cl T w i) i m τ ∧ ((cl T w i).1 = true → (cl T w i).2.2.length + i + 2 ≤ (cl T w i).2.1)) := by
  have hrd := c_rd (S := S) hk hT hT0 hS 60 0 0 (by omega) (by omega) (by omega) (by unfold nd; omega)
  unfold fX4_readClause cl
  refine rt_b (rt_v (by simp (disch := omega) only [true_and, and_true, sM_ne, sM_eq, sM_neR, sM_eqR, sK_upM, sK_upR, sL_upM, sL_upR, sN_upM, sN_upR, sT_upM, sT_upR, sN_upM, Int.reduceAdd, Int.reduceMul, Int.reduceSub, Int.reduceNeg, Int.zero_add, Int.add_zero, h.1.c]) ?_)
  refine Rt.mono (f_expect hk hT hw h hi (by omega)) ?_
  rintro v1 s1 ⟨c1, g1⟩
  by_cases q : T i = w
  · rw [if_pos q] at g1 ⊢
    obtain ⟨hl1, hik⟩ := g1
    refine rt_b (rt_v (by simp (disch := omega) only [true_and, and_true, sM_ne, sM_eq, sM_neR, sM_eqR, sK_upM, sK_upR, sL_upM, sL_upR, sN_upM, sN_upR, sT_upM, sT_upR, sN_upM, Int.reduceAdd, Int.reduceMul, Int.reduceSub, Int.reduceNeg, Int.zero_add, Int.add_zero, hl1.1.c]) ?_)
    refine Rt.mono (hrd.1 s1 (i + 1) m hl1 (by omega) (by omega)) ?_
    rintro v2 s2 ⟨c2, hr⟩
    rcases res_de hr with ⟨y, hl2, e1, e2⟩ | ⟨y, hd⟩
    · rw [rdB_yes y]
      refine rt_b (rt_v (by simp (disch := omega) only [true_and, and_true, sM_ne, sM_eq, sM_neR, sM_eqR, sK_upM, sK_upR, sL_upM, sL_upR, sN_upM, sN_upR, sT_upM, sT_upR, sN_upM, Int.reduceAdd, Int.reduceMul, Int.reduceSub, Int.reduceNeg, Int.zero_add, Int.add_zero, hl2.1.c]) ?_)
      refine Rt.mono (f_expect hk hT (w := 20059) (by decide) hl2 e2 (by rw [List.length_append]; omega)) ?_
      rintro v3 s3 ⟨c3, g3⟩
      by_cases q2 : T (rd T 60 0 0 (i + 1)).2.1 = 20059
      · rw [if_pos q2] at g3 ⊢
        exact rt_ret ⟨(c1.tr c2).tr c3, res_yes g3.1 (by omega) (by omega), fun _ => by show (rd T 60 0 0 (i + 1)).2.2.length + i + 2 ≤ (rd T 60 0 0 (i + 1)).2.1 + 1; omega⟩
      · rw [if_neg q2] at g3 ⊢
        exact rt_ret ⟨(c1.tr c2).tr c3, res_fail g3, fun g => by cases g⟩
    · rw [rdB_no y]
      refine rt_b (rt_v (by simp (disch := omega) only [true_and, and_true, sM_ne, sM_eq, sM_neR, sM_eqR, sK_upM, sK_upR, sL_upM, sL_upR, sN_upM, sN_upR, sT_upM, sT_upR, sN_upM, Int.reduceAdd, Int.reduceMul, Int.reduceSub, Int.reduceNeg, Int.zero_add, Int.add_zero, hd.1.c]) ?_)
      refine Rt.mono (f_expectD hk hT hS (w := 20059) (by decide) hd) ?_
      rintro v3 s3 ⟨c3, g3⟩
      exact rt_ret ⟨(c1.tr c2).tr c3, res_fail g3, fun g => by cases g⟩
  · rw [if_neg q] at g1 ⊢
    refine rt_b (rt_v (by simp (disch := omega) only [true_and, and_true, sM_ne, sM_eq, sM_neR, sM_eqR, sK_upM, sK_upR, sL_upM, sL_upR, sN_upM, sN_upR, sT_upM, sT_upR, sN_upM, Int.reduceAdd, Int.reduceMul, Int.reduceSub, Int.reduceNeg, Int.zero_add, Int.add_zero, g1.1.c]) ?_)
    refine Rt.mono (hrd.2 s1 i g1) ?_
    rintro v2 s2 ⟨c2, hd⟩
    refine rt_b (rt_v (by simp (disch := omega) only [true_and, and_true, sM_ne, sM_eq, sM_neR, sM_eqR, sK_upM, sK_upR, sL_upM, sL_upR, sN_upM, sN_upR, sT_upM, sT_upR, sN_upM, Int.reduceAdd, Int.reduceMul, Int.reduceSub, Int.reduceNeg, Int.zero_add, Int.add_zero, hd.1.c]) ?_)
    refine Rt.mono (f_expectD hk hT hS (w := 20059) (by decide) hd) ?_
    rintro v3 s3 ⟨c3, g3⟩
    exact rt_ret ⟨(c1.tr c2).tr c3, res_fail g3, fun g => by cases g⟩
theorem f_clauseD {w : Int} (hk : k ≤ 160) (hT : T k = 30000) (hT0 : ∀ i, 0 ≤ T i) (hS : ∀ j, j ≤ k → 0 ≤ S j) (hw : w ≠ 30000) {s : ZS} {j : Nat} (h : DED T S k s j) : Rt (fX4_readClause s 34 w) (fun _ τ => Ch rdS s τ ∧ DED T S k τ j) := by
  have hrd := c_rd (S := S) hk hT hT0 hS 60 0 0 (by omega) (by omega) (by omega) (by unfold nd; omega)
  unfold fX4_readClause
  refine rt_b (rt_v (by simp (disch := omega) only [true_and, and_true, sM_ne, sM_eq, sM_neR, sM_eqR, sK_upM, sK_upR, sL_upM, sL_upR, sN_upM, sN_upR, sT_upM, sT_upR, sN_upM, Int.reduceAdd, Int.reduceMul, Int.reduceSub, Int.reduceNeg, Int.zero_add, Int.add_zero, h.1.c]) ?_)
  refine Rt.mono (f_expectD hk hT hS hw h) ?_
  rintro v1 s1 ⟨c1, g1⟩
  refine rt_b (rt_v (by simp (disch := omega) only [true_and, and_true, sM_ne, sM_eq, sM_neR, sM_eqR, sK_upM, sK_upR, sL_upM, sL_upR, sN_upM, sN_upR, sT_upM, sT_upR, sN_upM, Int.reduceAdd, Int.reduceMul, Int.reduceSub, Int.reduceNeg, Int.zero_add, Int.add_zero, g1.1.c]) ?_)
  refine Rt.mono (hrd.2 s1 j g1) ?_
  rintro v2 s2 ⟨c2, hd⟩
  refine rt_b (rt_v (by simp (disch := omega) only [true_and, and_true, sM_ne, sM_eq, sM_neR, sM_eqR, sK_upM, sK_upR, sL_upM, sL_upR, sN_upM, sN_upR, sT_upM, sT_upR, sN_upM, Int.reduceAdd, Int.reduceMul, Int.reduceSub, Int.reduceNeg, Int.zero_add, Int.add_zero, hd.1.c]) ?_)
  refine Rt.mono (f_expectD hk hT hS (w := 20059) (by decide) hd) ?_
  rintro v3 s3 ⟨c3, g3⟩
  exact rt_ret ⟨(c1.tr c2).tr c3, g3⟩
end CLS
/-! the reference's clauses -/
section CLM
variable {f : Int → Int} {z : Int} {T S pos : Nat → Int} {k : Nat} {t : Int}
/-- between clauses -/
def BST (f : Int → Int) (z : Int) (pos : Nat → Int) (t : Int) (s : ZS) (i : Nat) (out : List Int) : Prop := TPC f z s ∧ sM s 64 29 = pos i ∧ (sM s 64 16 = t ∧ 0 ≤ t ∧ t < 6) ∧ (sM s 64 37 = (out.length : Int) ∧ ∀ j : Nat, j < out.length → sM s 75 (200 * t + (j : Int)) = out.getD j 0) ∧ out.length ≤ i
def txS (t a i : Int) : Prop := opS t a i ∨ (a = 76 ∧ 4 * t ≤ i ∧ i ≤ 4 * t + 2)
theorem txS_NF {t : Int} : ∀ a i, txS t a i → NFb a i = true := by
  intro a i q
  rcases q with q | q
  · exact opS_NF a i q
  · exact NF_i (by omega)
theorem f_eReadB (hk : k ≤ 160) (hn : NXT f z T S pos k) (hT : ∀ i, isT (T i)) (hTk : T k = 30000) {s : ZS} {i : Nat} {out : List Int} (q : BST f z pos t s i out) (hi : i ≤ k) : Rt (fX12_eRead s 64) (fun v τ => Ch (opS t) s τ ∧ FxD τ ∧ (((rd T 60 0 0 i).1 = true ∧ T (rd T 60 0 0 i).2.1 = 20059 ∧ v = 1 ∧ BST f z pos t τ ((rd T 60 0 0 i).2.1 + 1) (out ++ (rd T 60 0 0 i).2.2.map cv)) ∨ (¬ ((rd T 60 0 0 i).1 = true ∧ T (rd T 60 0 0 i).2.1 = 20059) ∧ v = 0 ∧ sM τ 64 30 = S (rd T 60 0 0 i).2.1))) := by
  have hF := q.1.1
  unfold fX12_eRead
  refine rt_p (by simp (disch := omega) only [true_and, and_true, sM_ne, sM_eq, sM_neR, sM_eqR, sK_upM, sK_upR, sL_upM, sL_upR, sN_upM, sN_upR, sT_upM, sT_upR, sN_upM, Int.reduceAdd, Int.reduceMul, Int.reduceSub, Int.reduceNeg, Int.zero_add, Int.add_zero, hF.c]) (by omega) (rt_p (by simp (disch := omega) only [true_and, and_true, sM_ne, sM_eq, sM_neR, sM_eqR, sK_upM, sK_upR, sL_upM, sL_upR, sN_upM, sN_upR, sT_upM, sT_upR, sN_upM, Int.reduceAdd, Int.reduceMul, Int.reduceSub, Int.reduceNeg, Int.zero_add, Int.add_zero, hF.c]) (by omega) ?_)
  have c0 : Ch (opS t) s (upM (upM s 64 35 0) 64 36 0) := (Ch.rf.up (Or.inl ⟨rfl, by omega⟩)).up (Or.inl ⟨rfl, by omega⟩)
  have q0 : AST f z pos t (upM (upM s 64 35 0) 64 36 0) i [] out := by
    obtain ⟨a1, a2, ⟨a3, a4, a5⟩, ⟨a9, a10⟩, a11⟩ := q
    refine ⟨a1.ch c0, ?_, ⟨?_, a4, a5⟩, ⟨?_, fun j hj => by cases hj⟩, sM_eq ⟨rfl, rfl⟩, ⟨?_, fun j hj => ?_⟩, a11⟩
    · rw [sM_ne (by omega), sM_ne (by omega)]; exact a2
    · rw [sM_ne (by omega), sM_ne (by omega)]; exact a3
    · rw [sM_ne (by omega), sM_eq ⟨rfl, rfl⟩]; rfl
    · rw [sM_ne (by omega), sM_ne (by omega)]; exact a9
    · rw [sM_ne (by omega), sM_ne (by omega)]; exact a10 j hj
  generalize upM (upM s 64 35 0) 64 36 0 = s0 at c0 q0 ⊢
  have hs := a_rd (f := f) (z := z) (T := T) (S := S) (pos := pos) (k := k) (t := t) (K := fun (s76 : ZS) => zb (zv s76 12 64 (fX12_unwinds s76 64 1)) (fun v77 s78 => (zg s78 12 64 35).bind (fun v80 => if v80 = 0 then (some (1, s78)) else (some (0, s78))))) (P := fun v τ => Ch (opS t) s τ ∧ FxD τ ∧ (((rd T 60 0 0 i).1 = true ∧ T (rd T 60 0 0 i).2.1 = 20059 ∧ v = 1 ∧ BST f z pos t τ ((rd T 60 0 0 i).2.1 + 1) (out ++ (rd T 60 0 0 i).2.2.map cv)) ∨ (¬ ((rd T 60 0 0 i).1 = true ∧ T (rd T 60 0 0 i).2.1 = 20059) ∧ v = 0 ∧ sM τ 64 30 = S (rd T 60 0 0 i).2.1))) (B := 1000 + i) hk (by omega) hn hT hTk (fun s' j X1 X2 q' hj hne hp => ?_) 60 0 0 (by omega) (by omega) (by omega) (by unfold nd; omega)
  · refine hs i [] out s0 1000 1 q0 rfl (by decide) (fun _ => by decide) (fun g => by omega) hi (by omega) ?_ ?_
    · intro hb s' X1 X2 N' x6 q' hu hf c' hN hj
      have hu' : un 1 X1 X2 = un 1 [] (out ++ (rd T 60 0 0 i).2.2.map cv) := hu
      obtain ⟨N2, rfl⟩ : ∃ N2, N' = N2 + 1 := ⟨N' - 1, by omega⟩
      have hlt : ∀ w : Int, T (rd T 60 0 0 i).2.1 = w → w ≠ 30000 → (rd T 60 0 0 i).2.1 < k := fun w g gw => by
        rcases Nat.lt_or_ge (rd T 60 0 0 i).2.1 k with r | r
        · exact r
        · have : (rd T 60 0 0 i).2.1 = k := by omega
          rw [this, hTk] at g
          omega
      by_cases g59 : T (rd T 60 0 0 i).2.1 = 20059
      · refine a_semi hk hn q' (hlt _ g59 (by decide)) g59 (fun s2 c2 q2 b30 => ?_)
        have hF2 := q2.F
        refine rt_b (rt_v (by simp (disch := omega) only [true_and, and_true, sM_ne, sM_eq, sM_neR, sM_eqR, sK_upM, sK_upR, sL_upM, sL_upR, sN_upM, sN_upR, sT_upM, sT_upR, sN_upM, Int.reduceAdd, Int.reduceMul, Int.reduceSub, Int.reduceNeg, Int.zero_add, Int.add_zero, hF2.c]) ?_)
        refine Rt.mono (f_unw (r := 1) (by omega) q2 (by omega)) ?_
        rintro v3 s3 ⟨c3, q3⟩
        rw [hu'] at q3
        have hF3 := q3.F
        have a6' := hd q3.2.2.2.1.1
        refine rt_gx (x := 0) (by simp (disch := omega) only [true_and, and_true, sM_ne, sM_eq, sM_neR, sM_eqR, sK_upM, sK_upR, sL_upM, sL_upR, sN_upM, sN_upR, sT_upM, sT_upR, sN_upM, Int.reduceAdd, Int.reduceMul, Int.reduceSub, Int.reduceNeg, Int.zero_add, Int.add_zero, hF3.c]) (a6' ()) (rt_pos rfl (rt_ret ⟨((c0.tr c').tr c2).tr (c3.mono un_op), hF3, Or.inl ⟨hb, g59, rfl, q3.1, q3.2.1, q3.2.2.1, q3.2.2.2.2.2.1, q3.2.2.2.2.2.2⟩⟩))
      · have hfl : FL t S (fun v τ => Ch (opS t) s τ ∧ FxD τ ∧ (((rd T 60 0 0 i).1 = true ∧ T (rd T 60 0 0 i).2.1 = 20059 ∧ v = 1 ∧ BST f z pos t τ ((rd T 60 0 0 i).2.1 + 1) (out ++ (rd T 60 0 0 i).2.2.map cv)) ∨ (¬ ((rd T 60 0 0 i).1 = true ∧ T (rd T 60 0 0 i).2.1 = 20059) ∧ v = 0 ∧ sM τ 64 30 = S (rd T 60 0 0 i).2.1))) s' (rd T 60 0 0 i).2.1 := fun s2 c2 hF2 b30 => ⟨(c0.tr c').tr c2, hF2, Or.inr ⟨fun g => g59 g.2, rfl, b30⟩⟩
        by_cases g41 : T (rd T 60 0 0 i).2.1 = 20041
        · exact a_close hk hn q' (hlt _ g41 (by decide)) g41 hu' (fun _ => hfl) (fun h' s2 e => by cases e)
        · exact a_end hk hn hT hTk q' hj hf g41 g59 hfl
    · intro hb s2 c2 hF2 b30
      exact ⟨c0.tr c2, hF2, Or.inr ⟨fun g => hb g.1, rfl, b30⟩⟩
  · have hF' := q'.F
    refine rt_b (rt_v (by simp (disch := omega) only [true_and, and_true, sM_ne, sM_eq, sM_neR, sM_eqR, sK_upM, sK_upR, sL_upM, sL_upR, sN_upM, sN_upR, sT_upM, sT_upR, sN_upM, Int.reduceAdd, Int.reduceMul, Int.reduceSub, Int.reduceNeg, Int.zero_add, Int.add_zero, hF'.c]) ?_)
    refine Rt.mono (f_unw (r := 1) (by omega) q' hj) ?_
    rintro v3 s3 ⟨c3, q3⟩
    have hF3 := q3.F
    have a6' := hd q3.2.2.2.1.1
    refine rt_gx (x := ((un 1 X1 X2).1.length : Int)) (by simp (disch := omega) only [true_and, and_true, sM_ne, sM_eq, sM_neR, sM_eqR, sK_upM, sK_upR, sL_upM, sL_upR, sN_upM, sN_upR, sT_upM, sT_upR, sN_upM, Int.reduceAdd, Int.reduceMul, Int.reduceSub, Int.reduceNeg, Int.zero_add, Int.add_zero, hF3.c]) (a6' ()) (rt_neg (fun g => hne (List.length_eq_zero_iff.mp (by omega))) (rt_ret (hp s3 c3 hF3)))
theorem BST.tp {s τ : ZS} {i : Nat} {out : List Int} (q : BST f z pos t s i out) (c : Ch (fun a j => a = 76) s τ) : BST f z pos t τ i out := by
  obtain ⟨a1, a2, ⟨a3, a4, a5⟩, ⟨a9, a10⟩, a11⟩ := q
  have h9 := a1.1.2.2.2
  refine ⟨⟨c.Fx a1.1 (fun a j w => NF_i (by omega)), ?_, fun j j0 j1 => ?_⟩, ?_, ⟨?_, a4, a5⟩, ⟨?_, fun j hj => ?_⟩, a11⟩
  · rw [c.M (by omega) (by omega)]; exact a1.2.1
  · rw [c.M (by omega) (by omega)]; exact a1.2.2 j j0 j1
  · rw [c.M (by omega) (by omega)]; exact a2
  · rw [c.M (by omega) (by omega)]; exact a3
  · rw [c.M (by omega) (by omega)]; exact a9
  · rw [c.M (by omega) (by omega)]; exact a10 j hj
theorem c_next (hk : k ≤ 160) (hn : NXT f z T S pos k) {s : ZS} {i : Nat} {out : List Int} (q : BST f z pos t s i out) (hi : i ≤ k) : Rt (fX12_next s 64) (fun _ τ => (Ch (opS t) s τ ∧ Ch nxS s τ) ∧ (i < k → BST f z pos t τ (i + 1) out) ∧ TPC f z τ ∧ (sM τ 64 16 = t ∧ sM τ 64 37 = (out.length : Int)) ∧ sM τ 64 30 = S i ∧ sM τ 64 31 = tkA (T i) ∧ (T i < 10008 → sM τ 64 32 = tkB (T i))) := by
  obtain ⟨a1, a2, ⟨a3, a4, a5⟩, ⟨a9, a10⟩, a11⟩ := q
  have h9 := a1.1.2.2.2
  refine (hn s i hi a1 a2).mono ?_
  rintro v τ ⟨c, b1, b2, b3, b4⟩
  have co : Ch (opS t) s τ := c.mono nx_op
  have e3 : sM τ 64 16 = t := by rw [c.M (by omega) (by unfold nxS; omega)]; exact a3
  have e9 : sM τ 64 37 = (out.length : Int) := by rw [c.M (by omega) (by unfold nxS; omega)]; exact a9
  refine ⟨⟨co, c⟩, fun hik => ⟨a1.ch co, b1 hik, ⟨e3, a4, a5⟩, ⟨e9, fun j hj => ?_⟩, by omega⟩, a1.ch co, ⟨e3, e9⟩, b2, b3, b4⟩
  rw [c.M (by omega) (by unfold nxS; omega)]; exact a10 j hj
theorem cl_tk {x : Int} (hx : isT x) {p : Int} (hp : p = 0 ∨ p = 1) : (x = 10006 + p ↔ tkA x = 3 ∧ (x < 10008 ∧ tkB x = p)) := by
  unfold isT at hx
  unfold tkA tkB
  (repeat' split) <;> constructor <;> intro h <;> omega
theorem m_clause (hk : k ≤ 160) (hn : NXT f z T S pos k) (hT : ∀ i, isT (T i)) (hTk : T k = 30000) {K : ZS → Int → Option (Int × ZS)} {P : Int → ZS → Prop} {s : ZS} {i N : Nat} {out : List Int} {p : Int} (hp : p = 0 ∨ p = 1) (q : BST f z pos t s i out) (hi : i ≤ k)
    (hok : ∀ τ : ZS, (cl T (10006 + p) i).1 = true → Ch (txS t) s τ → BST f z pos t τ (cl T (10006 + p) i).2.1 (out ++ (cl T (10006 + p) i).2.2.map cv) → (∀ j : Int, sM τ 76 j = if j = 4 * t + p then (out.length : Int) else sM s 76 j) → Rt (lX12_text_26 64 K N τ 1 (p + 1)) P)
    (hno : ∀ τ : ZS, ¬ (cl T (10006 + p) i).1 = true → Ch (txS t) s τ → FxD τ → sM τ 64 30 = S (cl T (10006 + p) i).2.1 → Rt (lX12_text_26 64 K N τ 0 (p + 1)) P) : Rt (lX12_text_26 64 K (N + 1) s 1 p) P := by
  have hF := q.1.1
  have h9 := hF.2.2.2
  obtain ⟨q3, q4, q5⟩ := q.2.2.1
  have hol := q.2.2.2.2
  rw [lX12_text_26]
  refine rt_neg (by omega) (rt_neg (by decide) (rt_b (rt_v (by simp (disch := omega) only [true_and, and_true, sM_ne, sM_eq, sM_neR, sM_eqR, sK_upM, sK_upR, sL_upM, sL_upR, sN_upM, sN_upR, sT_upM, sT_upR, sN_upM, Int.reduceAdd, Int.reduceMul, Int.reduceSub, Int.reduceNeg, Int.zero_add, Int.add_zero, hF.c]) ?_)))
  refine Rt.mono (c_next hk hn q hi) ?_
  rintro v1 s1 ⟨⟨c1, -⟩, q1, tp1, ⟨e16, e37⟩, b30, b31, b32⟩
  have hF1 := tp1.1
  have h91 := hF1.2.2.2
  have b31' := hd b31
  have e16' := hd e16
  have e37' := hd e37
  have ct := cl_tk (hT i) hp
  have ep : wrap (p + 1) = p + 1 := wr (by omega) (by omega)
  have ew : wrap (wrap (4 * t) + p) = 4 * t + p := by rw [wr (x := 4 * t) (by omega) (by omega), wr (by omega) (by omega)]
  refine rt_gx (x := tkA (T i)) (by simp (disch := omega) only [true_and, and_true, sM_ne, sM_eq, sM_neR, sM_eqR, sK_upM, sK_upR, sL_upM, sL_upR, sN_upM, sN_upR, sT_upM, sT_upR, sN_upM, Int.reduceAdd, Int.reduceMul, Int.reduceSub, Int.reduceNeg, Int.zero_add, Int.add_zero, hF1.c]) (b31' ()) (rt_jn (rt_jn ?_))
  have put : ∀ w : Int, (w = 1 ∧ T i = 10006 + p) ∨ (w = 0 ∧ T i ≠ 10006 + p) → Rt ((zg s1 12 64 15).bind (fun v21 => (zg s1 12 64 16).bind (fun v22 => (zg s1 12 64 37).bind (fun v23 => (zas s1 100 v21 (wrap ((wrap (4 * v22)) + p)) v23).bind (fun s24 => zjn (fun (K94 : ZS → Int → Option (Int × ZS)) => zjn (fun (K93 : ZS → Option (Int × ZS)) => if w = 0 then (K93 s24) else (zb (zv s24 12 64 (fX12_eRead s24 64)) (fun v26 s27 => if v26 = 0 then (K93 s27) else (K94 s27 1)))) (fun (s30 : ZS) => K94 s30 0)) (fun (s31 : ZS) (w32 : Int) => lX12_text_26 64 K N s31 w32 (wrap (p + 1)))))))) P := by
    intro w hw
    refine rt_gx (x := 76) (by simp (disch := omega) only [true_and, and_true, sM_ne, sM_eq, sM_neR, sM_eqR, sK_upM, sK_upR, sL_upM, sL_upR, sN_upM, sN_upR, sT_upM, sT_upR, sN_upM, Int.reduceAdd, Int.reduceMul, Int.reduceSub, Int.reduceNeg, Int.zero_add, Int.add_zero, hF1.c]) (by simp (disch := omega) only [true_and, and_true, sM_ne, sM_eq, sM_neR, sM_eqR, sK_upM, sK_upR, sL_upM, sL_upR, sN_upM, sN_upR, sT_upM, sT_upR, sN_upM, Int.reduceAdd, Int.reduceMul, Int.reduceSub, Int.reduceNeg, Int.zero_add, Int.add_zero, hF1.c]) (rt_gx (x := t) (by simp (disch := omega) only [true_and, and_true, sM_ne, sM_eq, sM_neR, sM_eqR, sK_upM, sK_upR, sL_upM, sL_upR, sN_upM, sN_upR, sT_upM, sT_upR, sN_upM, Int.reduceAdd, Int.reduceMul, Int.reduceSub, Int.reduceNeg, Int.zero_add, Int.add_zero, hF1.c]) (e16' ()) (rt_gx (x := (out.length : Int)) (by simp (disch := omega) only [true_and, and_true, sM_ne, sM_eq, sM_neR, sM_eqR, sK_upM, sK_upR, sL_upM, sL_upR, sN_upM, sN_upR, sT_upM, sT_upR, sN_upM, Int.reduceAdd, Int.reduceMul, Int.reduceSub, Int.reduceNeg, Int.zero_add, Int.add_zero, hF1.c]) (e37' ()) ?_))
    rw [ew, ep]
    refine rt_as (by simp (disch := omega) only [true_and, and_true, sM_ne, sM_eq, sM_neR, sM_eqR, sK_upM, sK_upR, sL_upM, sL_upR, sN_upM, sN_upR, sT_upM, sT_upR, sN_upM, Int.reduceAdd, Int.reduceMul, Int.reduceSub, Int.reduceNeg, Int.zero_add, Int.add_zero, hF1.c]) (by simp (disch := omega) only [true_and, and_true, sM_ne, sM_eq, sM_neR, sM_eqR, sK_upM, sK_upR, sL_upM, sL_upR, sN_upM, sN_upR, sT_upM, sT_upR, sN_upM, Int.reduceAdd, Int.reduceMul, Int.reduceSub, Int.reduceNeg, Int.zero_add, Int.add_zero, hF1.c]; omega) ?_
    have c2 : Ch (fun a j => a = 76) s1 (upM s1 76 (4 * t + p) (out.length : Int)) := Ch.rf.up rfl
    have c2' : Ch (txS t) s1 (upM s1 76 (4 * t + p) (out.length : Int)) := Ch.rf.up (Or.inr (by omega))
    have r2 : ∀ j : Int, sM (upM s1 76 (4 * t + p) (out.length : Int)) 76 j = if j = 4 * t + p then (out.length : Int) else sM s1 76 j := fun j => by
      by_cases e : j = 4 * t + p
      · rw [if_pos e, sM_eq ⟨rfl, e⟩]
      · rw [if_neg e, sM_ne (Or.inr e)]
    have b30' : sM (upM s1 76 (4 * t + p) (out.length : Int)) 64 30 = S i := by rw [sM_ne (by omega)]; exact b30
    have e37b : sM (upM s1 76 (4 * t + p) (out.length : Int)) 64 37 = (out.length : Int) := by rw [sM_ne (by omega)]; exact e37
    have hF2 := c2.Fx hF1 (fun a j w => NF_i (by omega))
    have q2 : T i = 10006 + p → BST f z pos t (upM s1 76 (4 * t + p) (out.length : Int)) (i + 1) out ∧ i < k := fun g => by
      have hik : i < k := by
        rcases Nat.lt_or_ge i k with r | r
        · exact r
        · have : i = k := by omega
          rw [this, hTk] at g; omega
      exact ⟨(q1 hik).tp c2, hik⟩
    generalize upM s1 76 (4 * t + p) (out.length : Int) = s2 at c2 c2' r2 b30' e37b hF2 q2 ⊢
    have h92 := hF2.2.2.2
    have c12 : Ch (txS t) s s2 := (c1.mono (fun a j w => Or.inl w)).tr c2'
    refine rt_jn (rt_jn ?_)
    rcases hw with ⟨rfl, g⟩ | ⟨rfl, g⟩
    · obtain ⟨q2, hik⟩ := q2 g
      refine rt_neg (by decide) (rt_b (rt_v (by simp (disch := omega) only [true_and, and_true, sM_ne, sM_eq, sM_neR, sM_eqR, sK_upM, sK_upR, sL_upM, sL_upR, sN_upM, sN_upR, sT_upM, sT_upR, sN_upM, Int.reduceAdd, Int.reduceMul, Int.reduceSub, Int.reduceNeg, Int.zero_add, Int.add_zero, hF2.c]) ?_))
      have hol2 := q2.2.2.2.2
      have hcl : cl T (10006 + p) i = rdB (rd T 60 0 0 (i + 1)) (fun j x => if T j = 20059 then (true, j + 1, x) else (false, j, [])) := by unfold cl; rw [if_pos g]
      refine Rt.mono (f_eReadB hk hn hT hTk q2 (by omega)) ?_
      rintro v3 s3 ⟨c3, hF3, ⟨g1, g2, rfl, q3'⟩ | ⟨g1, rfl, b3⟩⟩
      · rw [hcl, rdB_yes g1] at hok
        simp only [if_pos g2] at hok
        refine rt_neg (by decide) (hok s3 trivial (c12.tr (c3.mono (fun a j w => Or.inl w))) q3' (fun j => ?_))
        rw [c3.M (by omega) (by unfold opS; omega), r2 j, c1.M (by omega) (by unfold opS; omega)]
      · have hb : ¬ (cl T (10006 + p) i).1 = true ∧ (cl T (10006 + p) i).2.1 = (rd T 60 0 0 (i + 1)).2.1 := by
          rw [hcl]
          by_cases y : (rd T 60 0 0 (i + 1)).1 = true
          · rw [rdB_yes y]
            have : ¬ T (rd T 60 0 0 (i + 1)).2.1 = 20059 := fun g => g1 ⟨y, g⟩
            simp only [if_neg this]
            exact ⟨by simp, by trivial⟩
          · rw [rdB_no y]
            exact ⟨by simp, rfl⟩
        exact rt_pos rfl (hno s3 hb.1 (c12.tr (c3.mono (fun a j w => Or.inl w))) hF3 (by rw [hb.2]; exact b3))
    · have hcl : cl T (10006 + p) i = (false, i, []) := by unfold cl; rw [if_neg g]
      rw [hcl] at hno
      exact rt_pos rfl (hno s2 (by simp) c12 hF2 b30')
  by_cases g3 : tkA (T i) = 3
  · refine rt_pos g3 ?_
    have hlt : T i < 10008 := by
      have hx := hT i
      unfold isT at hx
      unfold tkA at g3
      revert g3
      (repeat' split) <;> intro g3 <;> omega
    have b32' := hd (b32 hlt)
    refine rt_gx (x := tkB (T i)) (by simp (disch := omega) only [true_and, and_true, sM_ne, sM_eq, sM_neR, sM_eqR, sK_upM, sK_upR, sL_upM, sL_upR, sN_upM, sN_upR, sT_upM, sT_upR, sN_upM, Int.reduceAdd, Int.reduceMul, Int.reduceSub, Int.reduceNeg, Int.zero_add, Int.add_zero, hF1.c]) (b32' ()) ?_
    by_cases gp : tkB (T i) = p
    · exact rt_pos gp (put 1 (Or.inl ⟨rfl, ct.mpr ⟨g3, hlt, gp⟩⟩))
    · exact rt_neg gp (put 0 (Or.inr ⟨rfl, fun e => gp (ct.mp e).2.2⟩))
  · exact rt_neg g3 (put 0 (Or.inr ⟨rfl, fun e => g3 (ct.mp e).1⟩))
end CLM
