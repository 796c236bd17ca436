/-! the reference's reading -/
def isT (x : Int) : Prop := (0 ≤ x ∧ x ≤ 10010) ∨ x = 20040 ∨ x = 20041 ∨ x = 20059 ∨ x = 20043 ∨ x = 20045 ∨ x = 20042 ∨ x = 20060 ∨ x = 20061 ∨ x = 30000 ∨ x = 30001
def tkA (x : Int) : Int := if x < 10000 then 1 else if x < 10006 then 2 else if x < 10008 then 3 else if x = 10008 then 5 else if x = 10009 then 4 else if x = 10010 then 6 else if x = 30000 then 0 else if x = 30001 then -1 else x - 20000
def tkB (x : Int) : Int := if x < 10000 then x else if x < 10006 then x - 10000 else x - 10006
def nxS (a i : Int) : Prop := a = 64 ∧ 29 ≤ i ∧ i ≤ 32
def opS (t a i : Int) : Prop := (a = 64 ∧ ((29 ≤ i ∧ i ≤ 32) ∨ (35 ≤ i ∧ i ≤ 37))) ∨ a = 85 ∨ (a = 75 ∧ 200 * t ≤ i)
theorem opS_NF {t : Int} : ∀ a i, opS t a i → NFb a i = true := by
  intro a i q
  unfold opS at q
  rcases q with ⟨rfl, q⟩ | q | q
  · exact NF_64 (by omega)
  · exact NF_i (by omega)
  · exact NF_i (by omega)
def unS (t a i : Int) : Prop := (a = 64 ∧ (35 ≤ i ∧ i ≤ 37)) ∨ a = 85 ∨ (a = 75 ∧ 200 * t ≤ i)
theorem un_op {t : Int} : ∀ a i, unS t a i → opS t a i := fun a i q => by unfold unS at q; unfold opS; omega
theorem nx_op {t : Int} : ∀ a i, nxS a i → opS t a i := fun a i q => by unfold nxS at q; unfold opS; omega
/-- the tape, as the reference finds it -/
def TPC (f : Int → Int) (z : Int) (s : ZS) : Prop := FxD s ∧ sM s 64 13 = z ∧ ∀ j : Int, 0 ≤ j → j < z → sM s 74 j = f j
theorem TPC.ch {f : Int → Int} {z t : Int} {s τ : ZS} (h : TPC f z s) (c : Ch (opS t) s τ) : TPC f z τ := by
  have h9 := h.1.2.2.2
  refine ⟨c.Fx h.1 opS_NF, by rw [c.M (by omega) (by unfold opS; omega)]; exact h.2.1, fun j j0 j1 => ?_⟩
  rw [c.M (by omega) (by unfold opS; omega)]
  exact h.2.2 j j0 j1
/-- the next token, as the reference reads it -/
def NXT (f : Int → Int) (z : Int) (T S pos : Nat → Int) (k : Nat) : Prop := ∀ (s : ZS) (i : Nat), i ≤ k → TPC f z s → sM s 64 29 = pos i → Rt (fX12_next s 64) (fun _ τ => Ch nxS s τ ∧ (i < k → sM τ 64 29 = pos (i + 1)) ∧ sM τ 64 30 = S i ∧ sM τ 64 31 = tkA (T i) ∧ (T i < 10008 → sM τ 64 32 = tkB (T i)))
/-- the reference in the midst of a text: at a token, what is held, what is out -/
def AST (f : Int → Int) (z : Int) (pos : Nat → Int) (t : Int) (s : ZS) (i : Nat) (h out : List Int) : Prop := TPC f z s ∧ sM s 64 29 = pos i ∧ (sM s 64 16 = t ∧ 0 ≤ t ∧ t < 6) ∧ (sM s 64 35 = (h.length : Int) ∧ ∀ j : Nat, j < h.length → sM s 85 (j : Int) = h.reverse.getD j 0) ∧ sM s 64 36 = cntO h ∧ (sM s 64 37 = (out.length : Int) ∧ ∀ j : Nat, j < out.length → sM s 75 (200 * t + (j : Int)) = out.getD j 0) ∧ out.length + h.length ≤ i
theorem cntO_cons (x : Int) (h : List Int) : cntO (x :: h) = (if x = 0 ∨ x = 13 ∨ x = 19 then 1 else 0) + cntO h := rfl
theorem cntO_in : ∀ h : List Int, 0 ≤ cntO h ∧ cntO h ≤ (h.length : Int)
  | [] => ⟨Int.le_refl 0, Int.le_refl 0⟩
  | x :: h => by
    have := cntO_in h
    unfold cntO
    rw [List.length_cons]
    split <;> omega
section AUT
variable {f : Int → Int} {z : Int} {T S pos : Nat → Int} {k : Nat} {t : Int}
theorem AST.F {s : ZS} {i : Nat} {h out : List Int} (q : AST f z pos t s i h out) : FxD s := q.1.1
/-- a token read -/
theorem a_next (hk : k ≤ 160) (hn : NXT f z T S pos k) {s : ZS} {i : Nat} {h out : List Int} (q : AST f z pos t s i h out) (hi : i ≤ k) : Rt (fX12_next s 64) (fun _ τ => Ch (opS t) s τ ∧ (i < k → AST f z pos t τ (i + 1) h out) ∧ FxD τ ∧ sM τ 64 30 = S i ∧ sM τ 64 31 = tkA (T i) ∧ (T i < 10008 → sM τ 64 32 = tkB (T i))) := by
  obtain ⟨a1, a2, ⟨a3, a4, a5⟩, ⟨a6, a7⟩, a8, ⟨a9, a10⟩, a11⟩ := q
  have h9 := a1.1.2.2.2
  refine (hn s i hi a1 a2).mono ?_
  rintro v τ ⟨c, b1, b2, b3, b4⟩
  have co : Ch (opS t) s τ := c.mono nx_op
  refine ⟨co, fun hik => ⟨a1.ch co, b1 hik, ⟨?_, a4, a5⟩, ⟨?_, fun j hj => ?_⟩, ?_, ⟨?_, fun j hj => ?_⟩, by omega⟩, (a1.ch co).1, b2, b3, b4⟩
  · rw [c.M (by omega) (by unfold nxS; omega)]; exact a3
  · rw [c.M (by omega) (by unfold nxS; omega)]; exact a6
  · rw [c.M (by omega) (by unfold nxS; omega)]; exact a7 j hj
  · rw [c.M (by omega) (by unfold nxS; omega)]; exact a8
  · rw [c.M (by omega) (by unfold nxS; omega)]; exact a9
  · rw [c.M (by omega) (by unfold nxS; omega)]; exact a10 j hj
theorem f_puts {s : ZS} {i : Nat} {h out : List Int} (q : AST f z pos t s i h out) (hi : i ≤ 161) (x : Int) (hl : out.length + 1 + h.length ≤ i) : Rt (fX12_puts s 64 x) (fun _ τ => Ch (unS t) s τ ∧ AST f z pos t τ i h (out ++ [x])) := by
  obtain ⟨a1, a2, ⟨a3, a4, a5⟩, ⟨a6, a7⟩, a8, ⟨a9, a10⟩, a11⟩ := q
  have hF := a1.1
  have a3' := hd a3
  have a9' := hd a9
  have ew := hd (show wrap (wrap (200 * t) + (out.length : Int)) = 200 * t + (out.length : Int) by rw [wr (x := 200 * t) (by omega) (by omega), wr (by omega) (by omega)])
  unfold fX12_puts
  refine rt_gx (x := 75) (by simp (disch := omega) only [true_and, and_true, sM_ne, sM_eq, sM_neR, sM_eqR, sK_upM, sK_upR, sL_upM, sL_upR, sN_upM, sN_upR, sT_upM, sT_upR, sN_upM, Int.reduceAdd, Int.reduceMul, Int.reduceSub, Int.reduceNeg, Int.zero_add, Int.add_zero, hF.c]) (by simp (disch := omega) only [true_and, and_true, sM_ne, sM_eq, sM_neR, sM_eqR, sK_upM, sK_upR, sL_upM, sL_upR, sN_upM, sN_upR, sT_upM, sT_upR, sN_upM, Int.reduceAdd, Int.reduceMul, Int.reduceSub, Int.reduceNeg, Int.zero_add, Int.add_zero, hF.c]) (rt_gx (x := t) (by simp (disch := omega) only [true_and, and_true, sM_ne, sM_eq, sM_neR, sM_eqR, sK_upM, sK_upR, sL_upM, sL_upR, sN_upM, sN_upR, sT_upM, sT_upR, sN_upM, Int.reduceAdd, Int.reduceMul, Int.reduceSub, Int.reduceNeg, Int.zero_add, Int.add_zero, hF.c]) (a3' ()) (rt_gx (x := (out.length : Int)) (by simp (disch := omega) only [true_and, and_true, sM_ne, sM_eq, sM_neR, sM_eqR, sK_upM, sK_upR, sL_upM, sL_upR, sN_upM, sN_upR, sT_upM, sT_upR, sN_upM, Int.reduceAdd, Int.reduceMul, Int.reduceSub, Int.reduceNeg, Int.zero_add, Int.add_zero, hF.c]) (a9' ()) ?_))
  rw [ew ()]
  refine rt_as (by simp (disch := omega) only [true_and, and_true, sM_ne, sM_eq, sM_neR, sM_eqR, sK_upM, sK_upR, sL_upM, sL_upR, sN_upM, sN_upR, sT_upM, sT_upR, sN_upM, Int.reduceAdd, Int.reduceMul, Int.reduceSub, Int.reduceNeg, Int.zero_add, Int.add_zero, hF.c]) (by simp (disch := omega) only [true_and, and_true, sM_ne, sM_eq, sM_neR, sM_eqR, sK_upM, sK_upR, sL_upM, sL_upR, sN_upM, sN_upR, sT_upM, sT_upR, sN_upM, Int.reduceAdd, Int.reduceMul, Int.reduceSub, Int.reduceNeg, Int.zero_add, Int.add_zero, hF.c]; omega) ?_
  refine rt_gx (x := (out.length : Int)) (by simp (disch := omega) only [true_and, and_true, sM_ne, sM_eq, sM_neR, sM_eqR, sK_upM, sK_upR, sL_upM, sL_upR, sN_upM, sN_upR, sT_upM, sT_upR, sN_upM, Int.reduceAdd, Int.reduceMul, Int.reduceSub, Int.reduceNeg, Int.zero_add, Int.add_zero, hF.c]) (by rw [sM_ne (by omega)]; exact a9' ()) (rt_p (by simp (disch := omega) only [true_and, and_true, sM_ne, sM_eq, sM_neR, sM_eqR, sK_upM, sK_upR, sL_upM, sL_upR, sN_upM, sN_upR, sT_upM, sT_upR, sN_upM, Int.reduceAdd, Int.reduceMul, Int.reduceSub, Int.reduceNeg, Int.zero_add, Int.add_zero, hF.c]) (by omega) (rt_ret ?_))
  rw [wr1 _ (by omega)]
  have c : Ch (unS t) s (upM (upM s 75 (200 * t + (out.length : Int)) x) 64 37 ((out.length + 1 : Nat) : Int)) := (Ch.rf.up (Or.inr (Or.inr ⟨rfl, by omega⟩))).up (Or.inl ⟨rfl, by omega⟩)
  refine ⟨c, a1.ch (c.mono un_op), ?_, ⟨?_, a4, a5⟩, ⟨?_, fun j hj => ?_⟩, ?_, ⟨?_, fun j hj => ?_⟩, ?_⟩
  · rw [sM_ne (by omega), sM_ne (by omega)]; exact a2
  · rw [sM_ne (by omega), sM_ne (by omega)]; exact a3
  · rw [sM_ne (by omega), sM_ne (by omega)]; exact a6
  · rw [sM_ne (by omega), sM_ne (by omega)]; exact a7 j hj
  · rw [sM_ne (by omega), sM_ne (by omega)]; exact a8
  · rw [sM_eq ⟨rfl, rfl⟩, List.length_append]; rfl
  · rw [List.length_append, List.length_singleton] at hj
    rw [getD_app out x j hj, sM_ne (by omega)]
    by_cases e : j < out.length
    · rw [if_pos e, sM_ne (by omega)]; exact a10 j e
    · rw [if_neg e, sM_eq ⟨rfl, by omega⟩]
  · rw [List.length_append, List.length_singleton]; exact hl
theorem f_rankM (s : ZS) (x : Int) : fX12_rank s x = some (rkP x, s) := by
  unfold fX12_rank rkP
  (repeat' split) <;> first | rfl | omega
theorem rev_last (x : Int) (h : List Int) : (x :: h).reverse.getD h.length 0 = x := by
  rw [List.reverse_cons, List.getD_eq_getElem?_getD, List.getElem?_append_right (by rw [List.length_reverse]; exact Nat.le_refl _), List.length_reverse, Nat.sub_self]
  rfl
theorem rev_init (x : Int) (h : List Int) (j : Nat) (hj : j < h.length) : (x :: h).reverse.getD j 0 = h.reverse.getD j 0 := by
  rw [List.reverse_cons, List.getD_eq_getElem?_getD, List.getElem?_append_left (by rw [List.length_reverse]; exact hj), ← List.getD_eq_getElem?_getD]
theorem AST.pop {s : ZS} {i : Nat} {x : Int} {h out : List Int} (q : AST f z pos t s i (x :: h) out) (hi : i ≤ 161) : ∀ τ : ZS, Ch (fun a j => a = 64 ∧ 35 ≤ j ∧ j ≤ 36) s τ → sM τ 64 35 = (h.length : Int) → sM τ 64 36 = cntO h → AST f z pos t τ i h out := by
  intro τ c e1 e2
  obtain ⟨a1, a2, ⟨a3, a4, a5⟩, ⟨a6, a7⟩, a8, ⟨a9, a10⟩, a11⟩ := q
  have h9 := a1.1.2.2.2
  refine ⟨a1.ch (t := t) (c.mono (fun a j w => by unfold opS; omega)), ?_, ⟨?_, a4, a5⟩, ⟨e1, fun j hj => ?_⟩, e2, ⟨?_, fun j hj => ?_⟩, ?_⟩
  · rw [c.M (by omega) (by omega)]; exact a2
  · rw [c.M (by omega) (by omega)]; exact a3
  · rw [c.M (by omega) (by omega), a7 j (by rw [List.length_cons]; omega)]
    exact rev_init x h j hj
  · rw [c.M (by omega) (by omega)]; exact a9
  · rw [c.M (by omega) (by omega)]; exact a10 j hj
  · rw [List.length_cons] at a11; omega
theorem l_unw {r : Int} (hr : 1 ≤ r) : ∀ (h out : List Int) (N : Nat) (s : ZS) (i : Nat), AST f z pos t s i h out → i ≤ 161 → h.length < N → Rt (lX12_unwinds_0 64 r N s) (fun _ τ => Ch (unS t) s τ ∧ AST f z pos t τ i (un r h out).1 (un r h out).2)
  | [], out, N, s, i, q, hi, hN => by
    obtain ⟨N', rfl⟩ : ∃ N', N = N' + 1 := ⟨N - 1, by omega⟩
    rw [lX12_unwinds_0]
    have hF := q.F
    have a6' := hd q.2.2.2.1.1
    exact rt_gx (x := 0) (by simp (disch := omega) only [true_and, and_true, sM_ne, sM_eq, sM_neR, sM_eqR, sK_upM, sK_upR, sL_upM, sL_upR, sN_upM, sN_upR, sT_upM, sT_upR, sN_upM, Int.reduceAdd, Int.reduceMul, Int.reduceSub, Int.reduceNeg, Int.zero_add, Int.add_zero, hF.c]) (a6' ()) (rt_pos (by omega) (rt_ret ⟨Ch.rf, q⟩))
  | x :: h, out, N, s, i, q, hi, hN => by
    obtain ⟨N', rfl⟩ : ∃ N', N = N' + 1 := ⟨N - 1, by omega⟩
    rw [lX12_unwinds_0]
    have q0 := q
    obtain ⟨a1, a2, ⟨a3, a4, a5⟩, ⟨a6, a7⟩, a8, ⟨a9, a10⟩, a11⟩ := q
    have hF := a1.1
    rw [List.length_cons] at a6 a11 hN
    have a6' := hd a6
    have e1 := hd (show wrap (((h.length + 1 : Nat) : Int) - 1) = (h.length : Int) by rw [wr (by omega) (by omega)]; omega)
    have ex := hd (show sM s 85 (h.length : Int) = x by rw [a7 h.length (by rw [List.length_cons]; omega)]; exact rev_last x h)
    refine rt_gx (x := ((h.length + 1 : Nat) : Int)) (by simp (disch := omega) only [true_and, and_true, sM_ne, sM_eq, sM_neR, sM_eqR, sK_upM, sK_upR, sL_upM, sL_upR, sN_upM, sN_upR, sT_upM, sT_upR, sN_upM, Int.reduceAdd, Int.reduceMul, Int.reduceSub, Int.reduceNeg, Int.zero_add, Int.add_zero, hF.c]) (a6' ()) (rt_neg (by omega) ?_)
    refine rt_gx (x := 85) (by simp (disch := omega) only [true_and, and_true, sM_ne, sM_eq, sM_neR, sM_eqR, sK_upM, sK_upR, sL_upM, sL_upR, sN_upM, sN_upR, sT_upM, sT_upR, sN_upM, Int.reduceAdd, Int.reduceMul, Int.reduceSub, Int.reduceNeg, Int.zero_add, Int.add_zero, hF.c]) (by simp (disch := omega) only [true_and, and_true, sM_ne, sM_eq, sM_neR, sM_eqR, sK_upM, sK_upR, sL_upM, sL_upR, sN_upM, sN_upR, sT_upM, sT_upR, sN_upM, Int.reduceAdd, Int.reduceMul, Int.reduceSub, Int.reduceNeg, Int.zero_add, Int.add_zero, hF.c]) (rt_gx (x := ((h.length + 1 : Nat) : Int)) (by simp (disch := omega) only [true_and, and_true, sM_ne, sM_eq, sM_neR, sM_eqR, sK_upM, sK_upR, sL_upM, sL_upR, sN_upM, sN_upR, sT_upM, sT_upR, sN_upM, Int.reduceAdd, Int.reduceMul, Int.reduceSub, Int.reduceNeg, Int.zero_add, Int.add_zero, hF.c]) (a6' ()) ?_)
    rw [e1 ()]
    refine rt_alx (x := x) (by simp (disch := omega) only [true_and, and_true, sM_ne, sM_eq, sM_neR, sM_eqR, sK_upM, sK_upR, sL_upM, sL_upR, sN_upM, sN_upR, sT_upM, sT_upR, sN_upM, Int.reduceAdd, Int.reduceMul, Int.reduceSub, Int.reduceNeg, Int.zero_add, Int.add_zero, hF.c]) (by simp (disch := omega) only [true_and, and_true, sM_ne, sM_eq, sM_neR, sM_eqR, sK_upM, sK_upR, sL_upM, sL_upR, sN_upM, sN_upR, sT_upM, sT_upR, sN_upM, Int.reduceAdd, Int.reduceMul, Int.reduceSub, Int.reduceNeg, Int.zero_add, Int.add_zero, hF.c]; omega) (ex ()) (rt_b (rt_e (f_rankM s x) ?_))
    by_cases e : rkP x < r
    · rw [un_stop e]
      exact rt_pos e (rt_ret ⟨Ch.rf, q0⟩)
    · rw [un_cons (by omega : r ≤ rkP x)]
      refine rt_neg e (rt_gx (x := ((h.length + 1 : Nat) : Int)) (by simp (disch := omega) only [true_and, and_true, sM_ne, sM_eq, sM_neR, sM_eqR, sK_upM, sK_upR, sL_upM, sL_upR, sN_upM, sN_upR, sT_upM, sT_upR, sN_upM, Int.reduceAdd, Int.reduceMul, Int.reduceSub, Int.reduceNeg, Int.zero_add, Int.add_zero, hF.c]) (a6' ()) ?_)
      rw [e1 ()]
      refine rt_p (by simp (disch := omega) only [true_and, and_true, sM_ne, sM_eq, sM_neR, sM_eqR, sK_upM, sK_upR, sL_upM, sL_upR, sN_upM, sN_upR, sT_upM, sT_upR, sN_upM, Int.reduceAdd, Int.reduceMul, Int.reduceSub, Int.reduceNeg, Int.zero_add, Int.add_zero, hF.c]) (by omega) ?_
      refine rt_gx (x := 85) (by simp (disch := omega) only [true_and, and_true, sM_ne, sM_eq, sM_neR, sM_eqR, sK_upM, sK_upR, sL_upM, sL_upR, sN_upM, sN_upR, sT_upM, sT_upR, sN_upM, Int.reduceAdd, Int.reduceMul, Int.reduceSub, Int.reduceNeg, Int.zero_add, Int.add_zero, hF.c]) (by simp (disch := omega) only [true_and, and_true, sM_ne, sM_eq, sM_neR, sM_eqR, sK_upM, sK_upR, sL_upM, sL_upR, sN_upM, sN_upR, sT_upM, sT_upR, sN_upM, Int.reduceAdd, Int.reduceMul, Int.reduceSub, Int.reduceNeg, Int.zero_add, Int.add_zero, hF.c]) (rt_gx (x := (h.length : Int)) (by simp (disch := omega) only [true_and, and_true, sM_ne, sM_eq, sM_neR, sM_eqR, sK_upM, sK_upR, sL_upM, sL_upR, sN_upM, sN_upR, sT_upM, sT_upR, sN_upM, Int.reduceAdd, Int.reduceMul, Int.reduceSub, Int.reduceNeg, Int.zero_add, Int.add_zero, hF.c]) (sM_eq ⟨rfl, rfl⟩) ?_)
      refine rt_alx (x := x) (by simp (disch := omega) only [true_and, and_true, sM_ne, sM_eq, sM_neR, sM_eqR, sK_upM, sK_upR, sL_upM, sL_upR, sN_upM, sN_upR, sT_upM, sT_upR, sN_upM, Int.reduceAdd, Int.reduceMul, Int.reduceSub, Int.reduceNeg, Int.zero_add, Int.add_zero, hF.c]) (by simp (disch := omega) only [true_and, and_true, sM_ne, sM_eq, sM_neR, sM_eqR, sK_upM, sK_upR, sL_upM, sL_upR, sN_upM, sN_upR, sT_upM, sT_upR, sN_upM, Int.reduceAdd, Int.reduceMul, Int.reduceSub, Int.reduceNeg, Int.zero_add, Int.add_zero, hF.c]; omega) (by rw [sM_ne (by omega)]; exact ex ()) ?_
      have a8' := hd a8
      refine rt_gx (x := cntO (x :: h)) (by simp (disch := omega) only [true_and, and_true, sM_ne, sM_eq, sM_neR, sM_eqR, sK_upM, sK_upR, sL_upM, sL_upR, sN_upM, sN_upR, sT_upM, sT_upR, sN_upM, Int.reduceAdd, Int.reduceMul, Int.reduceSub, Int.reduceNeg, Int.zero_add, Int.add_zero, hF.c]) (by rw [sM_ne (by omega)]; exact a8' ()) ?_
      have hx0 : x ≠ 0 := by
        rintro rfl
        have : rkP 0 = 0 := by decide
        omega
      have hc := cntO_in h
      have next : ∀ w : Int, wrap (cntO (x :: h) - w) = cntO h → Rt ((zp (upM s 64 35 (h.length : Int)) 12 64 36 (wrap (cntO (x :: h) - w))).bind (fun s24 => zb (zv s24 12 64 (fX12_puts s24 64 x)) (fun v25 s26 => lX12_unwinds_0 64 r N' s26))) (fun _ τ => Ch (unS t) s τ ∧ AST f z pos t τ i (un r h (out ++ [x])).1 (un r h (out ++ [x])).2) := by
        intro w hw
        rw [hw]
        refine rt_p (by simp (disch := omega) only [true_and, and_true, sM_ne, sM_eq, sM_neR, sM_eqR, sK_upM, sK_upR, sL_upM, sL_upR, sN_upM, sN_upR, sT_upM, sT_upR, sN_upM, Int.reduceAdd, Int.reduceMul, Int.reduceSub, Int.reduceNeg, Int.zero_add, Int.add_zero, hF.c]) (by omega) ?_
        have c2 : Ch (fun a j => a = 64 ∧ 35 ≤ j ∧ j ≤ 36) s (upM (upM s 64 35 (h.length : Int)) 64 36 (cntO h)) := (Ch.rf.up ⟨rfl, by omega⟩).up ⟨rfl, by omega⟩
        have q2 := q0.pop hi _ c2 (by rw [sM_ne (by omega), sM_eq ⟨rfl, rfl⟩]) (sM_eq ⟨rfl, rfl⟩)
        generalize upM (upM s 64 35 (h.length : Int)) 64 36 (cntO h) = s2 at c2 q2 ⊢
        have hF2 := q2.F
        refine rt_b (rt_v (by simp (disch := omega) only [true_and, and_true, sM_ne, sM_eq, sM_neR, sM_eqR, sK_upM, sK_upR, sL_upM, sL_upR, sN_upM, sN_upR, sT_upM, sT_upR, sN_upM, Int.reduceAdd, Int.reduceMul, Int.reduceSub, Int.reduceNeg, Int.zero_add, Int.add_zero, hF2.c]) ?_)
        refine Rt.mono (f_puts q2 hi x (by omega)) ?_
        rintro v s3 ⟨c3, q3⟩
        refine (l_unw hr h (out ++ [x]) N' s3 i q3 hi (by omega)).mono ?_
        rintro v4 s4 ⟨c4, q4⟩
        exact ⟨((c2.mono (fun a j w => by unfold unS; omega)).tr c3).tr c4, q4⟩
      refine rt_jn (rt_jn ?_)
      by_cases e13 : x = 13
      · refine rt_pos e13 (next 1 ?_)
        rw [cntO_cons, if_pos (by omega), wr (by omega) (by omega)]
        omega
      · refine rt_neg e13 ?_
        by_cases e19 : x = 19
        · refine rt_pos e19 (next 1 ?_)
          rw [cntO_cons, if_pos (by omega), wr (by omega) (by omega)]
          omega
        · refine rt_neg e19 (next 0 ?_)
          rw [cntO_cons, if_neg (by omega), wr (by omega) (by omega)]
          omega
theorem f_unw {r : Int} (hr : 1 ≤ r) {h out : List Int} {s : ZS} {i : Nat} (q : AST f z pos t s i h out) (hi : i ≤ 161) : Rt (fX12_unwinds s 64 r) (fun _ τ => Ch (unS t) s τ ∧ AST f z pos t τ i (un r h out).1 (un r h out).2) := by
  unfold fX12_unwinds
  have := q.2.2.2.2.2.2
  exact l_unw hr h out 1000 s i q hi (by omega)
/-- something more is held; o more are open -/
theorem f_holds {x : Int} {h out : List Int} {s : ZS} {i : Nat} (q : AST f z pos t s i h out) (hi : i ≤ 161) (hl : out.length + h.length + 1 ≤ i) (hx : x ≠ 0 ∧ x ≠ 13 ∧ x ≠ 19) : Rt (fX12_holds s 64 x) (fun _ τ => Ch (unS t) s τ ∧ AST f z pos t τ i (x :: h) out) := by
  obtain ⟨a1, a2, ⟨a3, a4, a5⟩, ⟨a6, a7⟩, a8, ⟨a9, a10⟩, a11⟩ := q
  have hF := a1.1
  have a6' := hd a6
  unfold fX12_holds
  refine rt_gx (x := 85) (by simp (disch := omega) only [true_and, and_true, sM_ne, sM_eq, sM_neR, sM_eqR, sK_upM, sK_upR, sL_upM, sL_upR, sN_upM, sN_upR, sT_upM, sT_upR, sN_upM, Int.reduceAdd, Int.reduceMul, Int.reduceSub, Int.reduceNeg, Int.zero_add, Int.add_zero, hF.c]) (by simp (disch := omega) only [true_and, and_true, sM_ne, sM_eq, sM_neR, sM_eqR, sK_upM, sK_upR, sL_upM, sL_upR, sN_upM, sN_upR, sT_upM, sT_upR, sN_upM, Int.reduceAdd, Int.reduceMul, Int.reduceSub, Int.reduceNeg, Int.zero_add, Int.add_zero, hF.c]) (rt_gx (x := (h.length : Int)) (by simp (disch := omega) only [true_and, and_true, sM_ne, sM_eq, sM_neR, sM_eqR, sK_upM, sK_upR, sL_upM, sL_upR, sN_upM, sN_upR, sT_upM, sT_upR, sN_upM, Int.reduceAdd, Int.reduceMul, Int.reduceSub, Int.reduceNeg, Int.zero_add, Int.add_zero, hF.c]) (a6' ()) ?_)
  refine rt_as (by simp (disch := omega) only [true_and, and_true, sM_ne, sM_eq, sM_neR, sM_eqR, sK_upM, sK_upR, sL_upM, sL_upR, sN_upM, sN_upR, sT_upM, sT_upR, sN_upM, Int.reduceAdd, Int.reduceMul, Int.reduceSub, Int.reduceNeg, Int.zero_add, Int.add_zero, hF.c]) (by simp (disch := omega) only [true_and, and_true, sM_ne, sM_eq, sM_neR, sM_eqR, sK_upM, sK_upR, sL_upM, sL_upR, sN_upM, sN_upR, sT_upM, sT_upR, sN_upM, Int.reduceAdd, Int.reduceMul, Int.reduceSub, Int.reduceNeg, Int.zero_add, Int.add_zero, hF.c]; omega) ?_
  refine rt_gx (x := (h.length : Int)) (by simp (disch := omega) only [true_and, and_true, sM_ne, sM_eq, sM_neR, sM_eqR, sK_upM, sK_upR, sL_upM, sL_upR, sN_upM, sN_upR, sT_upM, sT_upR, sN_upM, Int.reduceAdd, Int.reduceMul, Int.reduceSub, Int.reduceNeg, Int.zero_add, Int.add_zero, hF.c]) (by rw [sM_ne (by omega)]; exact a6' ()) (rt_p (by simp (disch := omega) only [true_and, and_true, sM_ne, sM_eq, sM_neR, sM_eqR, sK_upM, sK_upR, sL_upM, sL_upR, sN_upM, sN_upR, sT_upM, sT_upR, sN_upM, Int.reduceAdd, Int.reduceMul, Int.reduceSub, Int.reduceNeg, Int.zero_add, Int.add_zero, hF.c]) (by omega) (rt_ret ?_))
  rw [wr1 _ (by omega)]
  have c : Ch (unS t) s (upM (upM s 85 (h.length : Int) x) 64 35 ((h.length + 1 : Nat) : Int)) := (Ch.rf.up (Or.inr (Or.inl rfl))).up (Or.inl ⟨rfl, by omega⟩)
  refine ⟨c, a1.ch (c.mono un_op), ?_, ⟨?_, a4, a5⟩, ⟨?_, fun j hj => ?_⟩, ?_, ⟨?_, fun j hj => ?_⟩, ?_⟩
  · rw [sM_ne (by omega), sM_ne (by omega)]; exact a2
  · rw [sM_ne (by omega), sM_ne (by omega)]; exact a3
  · rw [sM_eq ⟨rfl, rfl⟩, List.length_cons]
  · rw [List.length_cons] at hj
    rw [sM_ne (by omega)]
    by_cases e : j = h.length
    · subst e
      rw [sM_eq ⟨rfl, rfl⟩]
      exact (rev_last x h).symm
    · rw [sM_ne (by omega), a7 j (by omega)]
      exact (rev_init x h j (by omega)).symm
  · rw [sM_ne (by omega), sM_ne (by omega), a8]
    show cntO h = (if x = 0 ∨ x = 13 ∨ x = 19 then 1 else 0) + cntO h
    rw [if_neg (by omega), Int.zero_add]
  · rw [sM_ne (by omega), sM_ne (by omega)]; exact a9
  · rw [sM_ne (by omega), sM_ne (by omega)]; exact a10 j hj
  · rw [List.length_cons]; omega
theorem f_opens {x : Int} {h out : List Int} {s : ZS} {i : Nat} (q : AST f z pos t s i h out) (hi : i ≤ 161) (hl : out.length + h.length + 1 ≤ i) (hx : x = 0 ∨ x = 13 ∨ x = 19) (h5 : cntO h ≤ 5) : Rt (fX12_opensOne s 64 x) (fun v τ => Ch (unS t) s τ ∧ FxD τ ∧ ((cntO h < 5 ∧ v = 1 ∧ AST f z pos t τ i (x :: h) out) ∨ (cntO h = 5 ∧ v = 0 ∧ τ = s))) := by
  have q0 := q
  obtain ⟨a1, a2, ⟨a3, a4, a5⟩, ⟨a6, a7⟩, a8, ⟨a9, a10⟩, a11⟩ := q
  have hF := a1.1
  have a6' := hd a6
  have a8' := hd a8
  have hc := cntO_in h
  unfold fX12_opensOne fX12_holds
  refine rt_gx (x := cntO h) (by simp (disch := omega) only [true_and, and_true, sM_ne, sM_eq, sM_neR, sM_eqR, sK_upM, sK_upR, sL_upM, sL_upR, sN_upM, sN_upR, sT_upM, sT_upR, sN_upM, Int.reduceAdd, Int.reduceMul, Int.reduceSub, Int.reduceNeg, Int.zero_add, Int.add_zero, hF.c]) (a8' ()) ?_
  by_cases e5 : cntO h = 5
  · exact rt_pos e5 (rt_ret ⟨Ch.rf, hF, Or.inr ⟨e5, rfl, rfl⟩⟩)
  · refine rt_neg e5 (rt_gx (x := cntO h) (by simp (disch := omega) only [true_and, and_true, sM_ne, sM_eq, sM_neR, sM_eqR, sK_upM, sK_upR, sL_upM, sL_upR, sN_upM, sN_upR, sT_upM, sT_upR, sN_upM, Int.reduceAdd, Int.reduceMul, Int.reduceSub, Int.reduceNeg, Int.zero_add, Int.add_zero, hF.c]) (a8' ()) (rt_p (by simp (disch := omega) only [true_and, and_true, sM_ne, sM_eq, sM_neR, sM_eqR, sK_upM, sK_upR, sL_upM, sL_upR, sN_upM, sN_upR, sT_upM, sT_upR, sN_upM, Int.reduceAdd, Int.reduceMul, Int.reduceSub, Int.reduceNeg, Int.zero_add, Int.add_zero, hF.c]) (by omega) ?_))
    rw [wr (x := cntO h + 1) (by omega) (by omega)]
    refine rt_b (rt_v (by simp (disch := omega) only [true_and, and_true, sM_ne, sM_eq, sM_neR, sM_eqR, sK_upM, sK_upR, sL_upM, sL_upR, sN_upM, sN_upR, sT_upM, sT_upR, sN_upM, Int.reduceAdd, Int.reduceMul, Int.reduceSub, Int.reduceNeg, Int.zero_add, Int.add_zero, hF.c]) ?_)
    refine rt_gx (x := 85) (by simp (disch := omega) only [true_and, and_true, sM_ne, sM_eq, sM_neR, sM_eqR, sK_upM, sK_upR, sL_upM, sL_upR, sN_upM, sN_upR, sT_upM, sT_upR, sN_upM, Int.reduceAdd, Int.reduceMul, Int.reduceSub, Int.reduceNeg, Int.zero_add, Int.add_zero, hF.c]) (by simp (disch := omega) only [true_and, and_true, sM_ne, sM_eq, sM_neR, sM_eqR, sK_upM, sK_upR, sL_upM, sL_upR, sN_upM, sN_upR, sT_upM, sT_upR, sN_upM, Int.reduceAdd, Int.reduceMul, Int.reduceSub, Int.reduceNeg, Int.zero_add, Int.add_zero, hF.c]) (rt_gx (x := (h.length : Int)) (by simp (disch := omega) only [true_and, and_true, sM_ne, sM_eq, sM_neR, sM_eqR, sK_upM, sK_upR, sL_upM, sL_upR, sN_upM, sN_upR, sT_upM, sT_upR, sN_upM, Int.reduceAdd, Int.reduceMul, Int.reduceSub, Int.reduceNeg, Int.zero_add, Int.add_zero, hF.c]) (by rw [sM_ne (by omega)]; exact a6' ()) ?_)
    refine rt_as (by simp (disch := omega) only [true_and, and_true, sM_ne, sM_eq, sM_neR, sM_eqR, sK_upM, sK_upR, sL_upM, sL_upR, sN_upM, sN_upR, sT_upM, sT_upR, sN_upM, Int.reduceAdd, Int.reduceMul, Int.reduceSub, Int.reduceNeg, Int.zero_add, Int.add_zero, hF.c]) (by simp (disch := omega) only [true_and, and_true, sM_ne, sM_eq, sM_neR, sM_eqR, sK_upM, sK_upR, sL_upM, sL_upR, sN_upM, sN_upR, sT_upM, sT_upR, sN_upM, Int.reduceAdd, Int.reduceMul, Int.reduceSub, Int.reduceNeg, Int.zero_add, Int.add_zero, hF.c]; omega) ?_
    refine rt_gx (x := (h.length : Int)) (by simp (disch := omega) only [true_and, and_true, sM_ne, sM_eq, sM_neR, sM_eqR, sK_upM, sK_upR, sL_upM, sL_upR, sN_upM, sN_upR, sT_upM, sT_upR, sN_upM, Int.reduceAdd, Int.reduceMul, Int.reduceSub, Int.reduceNeg, Int.zero_add, Int.add_zero, hF.c]) (by rw [sM_ne (by omega), sM_ne (by omega)]; exact a6' ()) (rt_p (by simp (disch := omega) only [true_and, and_true, sM_ne, sM_eq, sM_neR, sM_eqR, sK_upM, sK_upR, sL_upM, sL_upR, sN_upM, sN_upR, sT_upM, sT_upR, sN_upM, Int.reduceAdd, Int.reduceMul, Int.reduceSub, Int.reduceNeg, Int.zero_add, Int.add_zero, hF.c]) (by omega) (rt_ret (rt_ret ?_)))
    rw [wr1 _ (by omega)]
    have c : Ch (unS t) s (upM (upM (upM s 64 36 (cntO h + 1)) 85 (h.length : Int) x) 64 35 ((h.length + 1 : Nat) : Int)) := ((Ch.rf.up (Or.inl ⟨rfl, by omega⟩)).up (Or.inr (Or.inl rfl))).up (Or.inl ⟨rfl, by omega⟩)
    refine ⟨c, (c.mono un_op).Fx hF opS_NF, Or.inl ⟨by omega, rfl, a1.ch (c.mono un_op), ?_, ⟨?_, a4, a5⟩, ⟨?_, fun j hj => ?_⟩, ?_, ⟨?_, fun j hj => ?_⟩, ?_⟩⟩
    · rw [sM_ne (by omega), sM_ne (by omega), sM_ne (by omega)]; exact a2
    · rw [sM_ne (by omega), sM_ne (by omega), sM_ne (by omega)]; exact a3
    · rw [sM_eq ⟨rfl, rfl⟩, List.length_cons]
    · rw [List.length_cons] at hj
      rw [sM_ne (by omega)]
      by_cases e : j = h.length
      · subst e
        rw [sM_eq ⟨rfl, rfl⟩]
        exact (rev_last x h).symm
      · rw [sM_ne (by omega), sM_ne (by omega), a7 j (by omega)]
        exact (rev_init x h j (by omega)).symm
    · rw [sM_ne (by omega), sM_ne (by omega), sM_eq ⟨rfl, rfl⟩]
      show cntO h + 1 = (if x = 0 ∨ x = 13 ∨ x = 19 then 1 else 0) + cntO h
      rw [if_pos hx]
      omega
    · rw [sM_ne (by omega), sM_ne (by omega), sM_ne (by omega)]; exact a9
    · rw [sM_ne (by omega), sM_ne (by omega), sM_ne (by omega)]; exact a10 j hj
    · rw [List.length_cons]; omega
/-- the sign between two, as the reference codes it -/
def sgO (x : Int) : Int := if x = 10009 then 11 else if x = 10008 then 12 else if x = 20060 then 14 else if x = 20061 then 15 else if x = 20043 then 16 else if x = 20045 then 17 else if x = 20042 then 18 else -1
theorem f_signOf {s : ZS} (hF : FxD s) {x : Int} (hx : isT x) (h31 : sM s 64 31 = tkA x) : fX12_signOf s 64 = some (sgO x, s) := by
  refine rt_is ?_
  unfold fX12_signOf
  have h31' := hd h31
  have fin : ∀ v : Int, v = sgO x → Rt (some (v, s)) (fun v τ => v = sgO x ∧ τ = s) := fun v e => rt_ret ⟨e, rfl⟩
  unfold isT at hx
  have ha : (x = 10009 ↔ tkA x = 4) ∧ (x = 10008 ↔ tkA x = 5) ∧ (x = 20060 ↔ tkA x = 60) ∧ (x = 20061 ↔ tkA x = 61) ∧ (x = 20043 ↔ tkA x = 43) ∧ (x = 20045 ↔ tkA x = 45) ∧ (x = 20042 ↔ tkA x = 42) := by
    unfold tkA
    refine ⟨?_, ?_, ?_, ?_, ?_, ?_, ?_⟩ <;> (repeat' split) <;> constructor <;> intro h <;> omega
  obtain ⟨b1, b2, b3, b4, b5, b6, b7⟩ := ha
  unfold sgO at fin ⊢
  refine rt_gx (x := tkA x) (by simp (disch := omega) only [true_and, and_true, sM_ne, sM_eq, sM_neR, sM_eqR, sK_upM, sK_upR, sL_upM, sL_upR, sN_upM, sN_upR, sT_upM, sT_upR, sN_upM, Int.reduceAdd, Int.reduceMul, Int.reduceSub, Int.reduceNeg, Int.zero_add, Int.add_zero, hF.c]) (h31' ()) ?_
  by_cases c1 : tkA x = 4
  · exact rt_pos c1 (fin _ (by rw [if_pos (b1.mpr c1)]))
  refine rt_neg c1 (rt_gx (x := tkA x) (by simp (disch := omega) only [true_and, and_true, sM_ne, sM_eq, sM_neR, sM_eqR, sK_upM, sK_upR, sL_upM, sL_upR, sN_upM, sN_upR, sT_upM, sT_upR, sN_upM, Int.reduceAdd, Int.reduceMul, Int.reduceSub, Int.reduceNeg, Int.zero_add, Int.add_zero, hF.c]) (h31' ()) ?_)
  have d1 : ¬ x = 10009 := fun e => c1 (b1.mp e)
  by_cases c2 : tkA x = 5
  · exact rt_pos c2 (fin _ (by rw [if_neg d1, if_pos (b2.mpr c2)]))
  refine rt_neg c2 (rt_gx (x := tkA x) (by simp (disch := omega) only [true_and, and_true, sM_ne, sM_eq, sM_neR, sM_eqR, sK_upM, sK_upR, sL_upM, sL_upR, sN_upM, sN_upR, sT_upM, sT_upR, sN_upM, Int.reduceAdd, Int.reduceMul, Int.reduceSub, Int.reduceNeg, Int.zero_add, Int.add_zero, hF.c]) (h31' ()) ?_)
  have d2 : ¬ x = 10008 := fun e => c2 (b2.mp e)
  by_cases c3 : tkA x = 60
  · exact rt_pos c3 (fin _ (by rw [if_neg d1, if_neg d2, if_pos (b3.mpr c3)]))
  refine rt_neg c3 (rt_gx (x := tkA x) (by simp (disch := omega) only [true_and, and_true, sM_ne, sM_eq, sM_neR, sM_eqR, sK_upM, sK_upR, sL_upM, sL_upR, sN_upM, sN_upR, sT_upM, sT_upR, sN_upM, Int.reduceAdd, Int.reduceMul, Int.reduceSub, Int.reduceNeg, Int.zero_add, Int.add_zero, hF.c]) (h31' ()) ?_)
  have d3 : ¬ x = 20060 := fun e => c3 (b3.mp e)
  by_cases c4 : tkA x = 61
  · exact rt_pos c4 (fin _ (by rw [if_neg d1, if_neg d2, if_neg d3, if_pos (b4.mpr c4)]))
  refine rt_neg c4 (rt_gx (x := tkA x) (by simp (disch := omega) only [true_and, and_true, sM_ne, sM_eq, sM_neR, sM_eqR, sK_upM, sK_upR, sL_upM, sL_upR, sN_upM, sN_upR, sT_upM, sT_upR, sN_upM, Int.reduceAdd, Int.reduceMul, Int.reduceSub, Int.reduceNeg, Int.zero_add, Int.add_zero, hF.c]) (h31' ()) ?_)
  have d4 : ¬ x = 20061 := fun e => c4 (b4.mp e)
  by_cases c5 : tkA x = 43
  · exact rt_pos c5 (fin _ (by rw [if_neg d1, if_neg d2, if_neg d3, if_neg d4, if_pos (b5.mpr c5)]))
  refine rt_neg c5 (rt_gx (x := tkA x) (by simp (disch := omega) only [true_and, and_true, sM_ne, sM_eq, sM_neR, sM_eqR, sK_upM, sK_upR, sL_upM, sL_upR, sN_upM, sN_upR, sT_upM, sT_upR, sN_upM, Int.reduceAdd, Int.reduceMul, Int.reduceSub, Int.reduceNeg, Int.zero_add, Int.add_zero, hF.c]) (h31' ()) ?_)
  have d5 : ¬ x = 20043 := fun e => c5 (b5.mp e)
  by_cases c6 : tkA x = 45
  · exact rt_pos c6 (fin _ (by rw [if_neg d1, if_neg d2, if_neg d3, if_neg d4, if_neg d5, if_pos (b6.mpr c6)]))
  refine rt_neg c6 (rt_gx (x := tkA x) (by simp (disch := omega) only [true_and, and_true, sM_ne, sM_eq, sM_neR, sM_eqR, sK_upM, sK_upR, sL_upM, sL_upR, sN_upM, sN_upR, sT_upM, sT_upR, sN_upM, Int.reduceAdd, Int.reduceMul, Int.reduceSub, Int.reduceNeg, Int.zero_add, Int.add_zero, hF.c]) (h31' ()) ?_)
  have d6 : ¬ x = 20045 := fun e => c6 (b6.mp e)
  by_cases c7 : tkA x = 42
  · exact rt_pos c7 (fin _ (by rw [if_neg d1, if_neg d2, if_neg d3, if_neg d4, if_neg d5, if_neg d6, if_pos (b7.mpr c7)]))
  exact rt_neg c7 (fin _ (by rw [if_neg d1, if_neg d2, if_neg d3, if_neg d4, if_neg d5, if_neg d6, if_neg (fun e => c7 (b7.mp e))]))
end AUT
