/-! the reference's line: the whole of it -/
theorem take_s : ∀ (l : List Int) (q : Nat), q < l.length → l.take (q + 1) = l.take q ++ [l.getD q 0]
  | [], q, h => by simp at h
  | a :: l, 0, _ => by simp
  | a :: l, q + 1, h => by
    have := take_s l q (by simpa using h)
    rw [List.take_succ_cons, this, List.take_succ_cons, List.getD_cons_succ]; rfl
theorem drop_s : ∀ (l : List Int) (q : Nat), q < l.length → l.drop q = l.getD q 0 :: l.drop (q + 1)
  | [], q, h => by simp at h
  | a :: l, 0, _ => by simp
  | a :: l, q + 1, h => by
    have := drop_s l q (by simpa using h)
    rw [List.drop_succ_cons, this, List.drop_succ_cons, List.getD_cons_succ]
theorem mem_drop_iff {l : List Int} (h : l.Nodup) (q : Nat) (x : Int) : x ∈ l.drop q ↔ x ∈ l ∧ x ∉ l.take q := by
  have e := List.take_append_drop q l
  have hn := h
  rw [← e] at hn
  have hd := (List.nodup_append.mp hn).2.2
  constructor
  · intro hx
    exact ⟨List.mem_of_mem_drop hx, fun hy => hd x hy x hx rfl⟩
  · rintro ⟨hx, hy⟩
    rw [← e] at hx
    exact (List.mem_append.mp hx).resolve_left hy
def OrdM (σ : ZS) (l : List Int) : Prop := sM σ 64 44 = (l.length : Int) ∧ ∀ j : Nat, j < l.length → sM σ 91 (j : Int) = l.getD j 0
theorem l_goes118 {σ : ZS} {w n k g : Int} {t rho : Nat} {ch so cm P0 : Int → Int} {ln rt : Int → Int → Int} {A l : List Int} {K : ZS → Option (Int × ZS)} {P : Int → ZS → Prop} (g0 : 0 ≤ g) (g1 : g < 2) (ht : t < 24) (hrho : rt g (t : Int) = (rho : Int))
    (hcm : ∀ j : Int, 0 ≤ j → j < n → -1 ≤ cm j ∧ cm j < 24)
    (hA : ∀ x : Int, x ∈ A ↔ (0 ≤ x ∧ x < n) ∧ ch x ≠ 48 ∧ ch x / 24 = g ∧ cm x ≠ -1 ∧ cm x ≤ (t : Int) ∧ P0 x = -1) (hs : A.Pairwise (lx (keyO k cm so))) (hlen : l.length + A.length ≤ 16)
    (hK : ∀ τ : ZS, MV τ w n k ch so ln rt → Ch mdS σ τ → (∀ j : Int, 0 ≤ j → j < n → sM τ 89 j = cm j) → (∀ j : Int, 0 ≤ j → j < n → sM τ 90 j = if j ∈ A.take rho then (t : Int) else P0 j) → OrdM τ (l ++ A.take rho) → Rt (K τ) P) :
    ∀ (N q : Nat) (s : ZS) (x : Int), MV s w n k ch so ln rt → Ch mdS σ s → q ≤ rho → rho - q < N → (∀ j : Int, 0 ≤ j → j < n → sM s 89 j = cm j) → (∀ j : Int, 0 ≤ j → j < n → sM s 90 j = if j ∈ A.take q then (t : Int) else P0 j) → OrdM s (l ++ A.take q) → (q = 0 ∨ (x = -1 ↔ A.length < q)) → Rt (lX12_goes_118 64 w (t : Int) g K N s x (q : Int)) P
  | 0, q, s, x, _, _, _, h, _, _, _, _ => by omega
  | N + 1, q, s, x, hV, hc, hq, hN, h89, h90, hO, hx => by
    have hV0 := hV
    obtain ⟨hF, w1, ⟨k0, k5, kk⟩, ⟨n1, n2, n3⟩, a1, a2, a3, a4⟩ := hV
    obtain ⟨hra, hr⟩ := a4 g (t : Int) g0 g1 (by omega) (by omega)
    have er := hd (show wrap (wrap (24 * g) + (t : Int)) = 24 * g + (t : Int) by rw [wr (x := 24 * g) (by omega) (by omega), wr (by omega) (by omega)])
    have hrho9 : rho ≤ 9 := by omega
    replace hra := hd hra
    have hrh := hd hrho
    have hnd := srt_nodup hs
    rw [lX12_goes_118]
    repeat (first
    | with_reducible refine rt_b ?_
    | with_reducible refine rt_jn ?_
    | ((with_reducible refine rt_pos ?_ ?_); (· first | omega | ((try simp (disch := omega) only [wr, true_and, and_true, sM_ne, sM_eq, sM_neR, sM_eqR, sK_upM, sK_upR, sL_upM, sL_upR, sN_upM, sN_upR, sT_upM, sT_upR, sN_upM, Int.reduceAdd, Int.reduceMul, Int.reduceSub, Int.reduceNeg, Int.zero_add, Int.add_zero, hF.c, er (), hra (), hrh ()]) <;> omega)))
    | ((with_reducible refine rt_neg ?_ ?_); (· first | omega | ((try simp (disch := omega) only [wr, true_and, and_true, sM_ne, sM_eq, sM_neR, sM_eqR, sK_upM, sK_upR, sL_upM, sL_upR, sN_upM, sN_upR, sT_upM, sT_upR, sN_upM, Int.reduceAdd, Int.reduceMul, Int.reduceSub, Int.reduceNeg, Int.zero_add, Int.add_zero, hF.c, er (), hra (), hrh ()]) <;> omega)))
    | ((with_reducible refine rt_v ?_ ?_); · simp (disch := omega) only [true_and, and_true, sM_ne, sM_eq, sM_neR, sM_eqR, sK_upM, sK_upR, sL_upM, sL_upR, sN_upM, sN_upR, sT_upM, sT_upR, sN_upM, Int.reduceAdd, Int.reduceMul, Int.reduceSub, Int.reduceNeg, Int.zero_add, Int.add_zero, hF.c, er (), hra (), hrh ()])
    | ((with_reducible apply rt_gx); (· simp (disch := omega) only [true_and, and_true, sM_ne, sM_eq, sM_neR, sM_eqR, sK_upM, sK_upR, sL_upM, sL_upR, sN_upM, sN_upR, sT_upM, sT_upR, sN_upM, Int.reduceAdd, Int.reduceMul, Int.reduceSub, Int.reduceNeg, Int.zero_add, Int.add_zero, hF.c, er (), hra (), hrh ()]); (· (try simp (disch := omega) only [wr, true_and, and_true, sM_ne, sM_eq, sM_neR, sM_eqR, sK_upM, sK_upR, sL_upM, sL_upR, sN_upM, sN_upR, sT_upM, sT_upR, sN_upM, Int.reduceAdd, Int.reduceMul, Int.reduceSub, Int.reduceNeg, Int.zero_add, Int.add_zero, hF.c, er (), hra (), hrh ()]); exact rfl))
    | ((with_reducible apply rt_alx); (· simp (disch := omega) only [true_and, and_true, sM_ne, sM_eq, sM_neR, sM_eqR, sK_upM, sK_upR, sL_upM, sL_upR, sN_upM, sN_upR, sT_upM, sT_upR, sN_upM, Int.reduceAdd, Int.reduceMul, Int.reduceSub, Int.reduceNeg, Int.zero_add, Int.add_zero, hF.c, er (), hra (), hrh ()]); (· first | omega | ((try simp (disch := omega) only [wr, true_and, and_true, sM_ne, sM_eq, sM_neR, sM_eqR, sK_upM, sK_upR, sL_upM, sL_upR, sN_upM, sN_upR, sT_upM, sT_upR, sN_upM, Int.reduceAdd, Int.reduceMul, Int.reduceSub, Int.reduceNeg, Int.zero_add, Int.add_zero, hF.c, er (), hra (), hrh ()]) <;> omega)); (· (try simp (disch := omega) only [wr, true_and, and_true, sM_ne, sM_eq, sM_neR, sM_eqR, sK_upM, sK_upR, sL_upM, sL_upR, sN_upM, sN_upR, sT_upM, sT_upR, sN_upM, Int.reduceAdd, Int.reduceMul, Int.reduceSub, Int.reduceNeg, Int.zero_add, Int.add_zero, hF.c, er (), hra (), hrh ()]); exact rfl))
    | ((with_reducible refine rt_as ?_ ?_ ?_); (· simp (disch := omega) only [true_and, and_true, sM_ne, sM_eq, sM_neR, sM_eqR, sK_upM, sK_upR, sL_upM, sL_upR, sN_upM, sN_upR, sT_upM, sT_upR, sN_upM, Int.reduceAdd, Int.reduceMul, Int.reduceSub, Int.reduceNeg, Int.zero_add, Int.add_zero, hF.c, er (), hra (), hrh ()]); (· first | omega | ((try simp (disch := omega) only [wr, true_and, and_true, sM_ne, sM_eq, sM_neR, sM_eqR, sK_upM, sK_upR, sL_upM, sL_upR, sN_upM, sN_upR, sT_upM, sT_upR, sN_upM, Int.reduceAdd, Int.reduceMul, Int.reduceSub, Int.reduceNeg, Int.zero_add, Int.add_zero, hF.c, er (), hra (), hrh ()]) <;> omega)))
    | ((with_reducible refine rt_p ?_ ?_ ?_); (· simp (disch := omega) only [true_and, and_true, sM_ne, sM_eq, sM_neR, sM_eqR, sK_upM, sK_upR, sL_upM, sL_upR, sN_upM, sN_upR, sT_upM, sT_upR, sN_upM, Int.reduceAdd, Int.reduceMul, Int.reduceSub, Int.reduceNeg, Int.zero_add, Int.add_zero, hF.c, er (), hra (), hrh ()]); (· omega))
    | with_reducible refine rt_ret ?_
    | ((with_reducible apply rt_gwx); (· assumption); (· (try simp (disch := omega) only [wr, true_and, and_true, sM_ne, sM_eq, sM_neR, sM_eqR, sK_upM, sK_upR, sL_upM, sL_upR, sN_upM, sN_upR, sT_upM, sT_upR, sN_upM, Int.reduceAdd, Int.reduceMul, Int.reduceSub, Int.reduceNeg, Int.zero_add, Int.add_zero, hF.c, er (), hra (), hrh ()]); exact rfl)))
    by_cases he : (rho : Int) ≤ (q : Int)
    · refine rt_pos he (hK s hV0 hc h89 (fun j j0 j1 => ?_) ?_)
      · rw [show rho = q by omega]; exact h90 j j0 j1
      · rw [show rho = q by omega]; exact hO
    · refine rt_neg he ?_
      have hend : A.length ≤ q → Rt (lX12_goes_118 64 w (t : Int) g K N s (-1) (wrap ((q : Int) + 1))) P := by
        intro hle
        rw [wr1 q (by omega)]
        have e1 : A.take (q + 1) = A.take q := by rw [List.take_of_length_le hle, List.take_of_length_le (by omega)]
        exact l_goes118 g0 g1 ht hrho hcm hA hs hlen hK N (q + 1) s (-1) hV0 hc (by omega) (by omega) h89 (by rw [e1]; exact h90) (by rw [e1]; exact hO) (Or.inr ⟨fun _ => by omega, fun _ => rfl⟩)
      have hgo : Rt (zb (zv s 12 64 (fX12_nextAt s 64 w g (t : Int))) (fun v55 s56 => if v55 = -1 then lX12_goes_118 64 w (t : Int) g K N s56 v55 (wrap ((q : Int) + 1)) else (zg s56 12 64 42).bind (fun v61 => (zas s56 100 v61 v55 (t : Int)).bind (fun s62 => (zg s62 12 64 43).bind (fun v63 => (zg s62 12 64 44).bind (fun v64 => (zas s62 100 v63 v64 v55).bind (fun s65 => (zg s65 12 64 44).bind (fun v66 => (zp s65 12 64 44 (wrap (v66 + 1))).bind (fun s67 => lX12_goes_118 64 w (t : Int) g K N s67 v55 (wrap ((q : Int) + 1))))))))))) P := by
        have hb : bestN (keyO k cm so) (wtO ch cm (fun j => if j ∈ A.take q then (t : Int) else P0 j) g (t : Int)) n.toNat = (A.drop q).headD (-1) := by
          refine bestN_head (hs.drop) (fun y => ?_)
          rw [mem_drop_iff hnd, hA]
          unfold wtO
          simp only [Bool.and_eq_true, decide_eq_true_eq]
          by_cases hm : y ∈ A.take q
          · rw [if_pos hm]
            constructor
            · rintro ⟨-, h⟩; exact absurd hm h
            · rintro ⟨-, -, -, -, -, -, h⟩; omega
          · rw [if_neg hm]
            constructor
            · rintro ⟨⟨⟨p1, p2⟩, p3, p4, p5, p6, p7⟩, -⟩; exact ⟨p1, by omega, p3, p4, p5, p6, p7⟩
            · rintro ⟨p1, p2, p3, p4, p5, p6, p7⟩; exact ⟨⟨⟨p1, by omega⟩, p3, p4, p5, p6, p7⟩, hm⟩
        repeat (first
    | with_reducible refine rt_b ?_
    | with_reducible refine rt_jn ?_
    | ((with_reducible refine rt_pos ?_ ?_); (· first | omega | ((try simp (disch := omega) only [wr, true_and, and_true, sM_ne, sM_eq, sM_neR, sM_eqR, sK_upM, sK_upR, sL_upM, sL_upR, sN_upM, sN_upR, sT_upM, sT_upR, sN_upM, Int.reduceAdd, Int.reduceMul, Int.reduceSub, Int.reduceNeg, Int.zero_add, Int.add_zero, hF.c]) <;> omega)))
    | ((with_reducible refine rt_neg ?_ ?_); (· first | omega | ((try simp (disch := omega) only [wr, true_and, and_true, sM_ne, sM_eq, sM_neR, sM_eqR, sK_upM, sK_upR, sL_upM, sL_upR, sN_upM, sN_upR, sT_upM, sT_upR, sN_upM, Int.reduceAdd, Int.reduceMul, Int.reduceSub, Int.reduceNeg, Int.zero_add, Int.add_zero, hF.c]) <;> omega)))
    | ((with_reducible refine rt_v ?_ ?_); · simp (disch := omega) only [true_and, and_true, sM_ne, sM_eq, sM_neR, sM_eqR, sK_upM, sK_upR, sL_upM, sL_upR, sN_upM, sN_upR, sT_upM, sT_upR, sN_upM, Int.reduceAdd, Int.reduceMul, Int.reduceSub, Int.reduceNeg, Int.zero_add, Int.add_zero, hF.c])
    | ((with_reducible apply rt_gx); (· simp (disch := omega) only [true_and, and_true, sM_ne, sM_eq, sM_neR, sM_eqR, sK_upM, sK_upR, sL_upM, sL_upR, sN_upM, sN_upR, sT_upM, sT_upR, sN_upM, Int.reduceAdd, Int.reduceMul, Int.reduceSub, Int.reduceNeg, Int.zero_add, Int.add_zero, hF.c]); (· (try simp (disch := omega) only [wr, true_and, and_true, sM_ne, sM_eq, sM_neR, sM_eqR, sK_upM, sK_upR, sL_upM, sL_upR, sN_upM, sN_upR, sT_upM, sT_upR, sN_upM, Int.reduceAdd, Int.reduceMul, Int.reduceSub, Int.reduceNeg, Int.zero_add, Int.add_zero, hF.c]); exact rfl))
    | ((with_reducible apply rt_alx); (· simp (disch := omega) only [true_and, and_true, sM_ne, sM_eq, sM_neR, sM_eqR, sK_upM, sK_upR, sL_upM, sL_upR, sN_upM, sN_upR, sT_upM, sT_upR, sN_upM, Int.reduceAdd, Int.reduceMul, Int.reduceSub, Int.reduceNeg, Int.zero_add, Int.add_zero, hF.c]); (· first | omega | ((try simp (disch := omega) only [wr, true_and, and_true, sM_ne, sM_eq, sM_neR, sM_eqR, sK_upM, sK_upR, sL_upM, sL_upR, sN_upM, sN_upR, sT_upM, sT_upR, sN_upM, Int.reduceAdd, Int.reduceMul, Int.reduceSub, Int.reduceNeg, Int.zero_add, Int.add_zero, hF.c]) <;> omega)); (· (try simp (disch := omega) only [wr, true_and, and_true, sM_ne, sM_eq, sM_neR, sM_eqR, sK_upM, sK_upR, sL_upM, sL_upR, sN_upM, sN_upR, sT_upM, sT_upR, sN_upM, Int.reduceAdd, Int.reduceMul, Int.reduceSub, Int.reduceNeg, Int.zero_add, Int.add_zero, hF.c]); exact rfl))
    | ((with_reducible refine rt_as ?_ ?_ ?_); (· simp (disch := omega) only [true_and, and_true, sM_ne, sM_eq, sM_neR, sM_eqR, sK_upM, sK_upR, sL_upM, sL_upR, sN_upM, sN_upR, sT_upM, sT_upR, sN_upM, Int.reduceAdd, Int.reduceMul, Int.reduceSub, Int.reduceNeg, Int.zero_add, Int.add_zero, hF.c]); (· first | omega | ((try simp (disch := omega) only [wr, true_and, and_true, sM_ne, sM_eq, sM_neR, sM_eqR, sK_upM, sK_upR, sL_upM, sL_upR, sN_upM, sN_upR, sT_upM, sT_upR, sN_upM, Int.reduceAdd, Int.reduceMul, Int.reduceSub, Int.reduceNeg, Int.zero_add, Int.add_zero, hF.c]) <;> omega)))
    | ((with_reducible refine rt_p ?_ ?_ ?_); (· simp (disch := omega) only [true_and, and_true, sM_ne, sM_eq, sM_neR, sM_eqR, sK_upM, sK_upR, sL_upM, sL_upR, sN_upM, sN_upR, sT_upM, sT_upR, sN_upM, Int.reduceAdd, Int.reduceMul, Int.reduceSub, Int.reduceNeg, Int.zero_add, Int.add_zero, hF.c]); (· omega))
    | with_reducible refine rt_ret ?_
    | ((with_reducible apply rt_gwx); (· assumption); (· (try simp (disch := omega) only [wr, true_and, and_true, sM_ne, sM_eq, sM_neR, sM_eqR, sK_upM, sK_upR, sL_upM, sL_upR, sN_upM, sN_upR, sT_upM, sT_upR, sN_upM, Int.reduceAdd, Int.reduceMul, Int.reduceSub, Int.reduceNeg, Int.zero_add, Int.add_zero, hF.c]); exact rfl)))
        refine rt_e (f_nextAt (cm := cm) (pv := fun j => if j ∈ A.take q then (t : Int) else P0 j) (by omega) (by omega) hV0 (fun j j0 j1 => ⟨h89 j j0 j1, hcm j j0 j1⟩) h90) ?_
        rw [hb]
        by_cases hle : A.length ≤ q
        · rw [show (A.drop q).headD (-1) = -1 by rw [List.drop_eq_nil_of_le hle]; rfl]
          exact rt_pos rfl (hend hle)
        · rw [show (A.drop q).headD (-1) = A.getD q 0 by rw [drop_s A q (by omega)]; rfl]
          have hmA : A.getD q 0 ∈ A := by rw [List.getD_eq_getElem?_getD, List.getElem?_eq_getElem (by omega)]; exact List.getElem_mem (by omega)
          obtain ⟨⟨c0, c1⟩, c2⟩ := (hA _).mp hmA
          have hts := take_s A q (by omega)
          generalize hcc : A.getD q 0 = c at *
          refine rt_neg (by omega) ?_
          obtain ⟨o1, o2⟩ := hO
          have hll : (l ++ A.take q).length < 16 := by
            rw [List.length_append, List.length_take]; omega
          generalize hL : l ++ A.take q = L at *
          replace o1 := hd o1
          repeat (first
    | with_reducible refine rt_b ?_
    | with_reducible refine rt_jn ?_
    | ((with_reducible refine rt_pos ?_ ?_); (· first | omega | ((try simp (disch := omega) only [wr, true_and, and_true, sM_ne, sM_eq, sM_neR, sM_eqR, sK_upM, sK_upR, sL_upM, sL_upR, sN_upM, sN_upR, sT_upM, sT_upR, sN_upM, Int.reduceAdd, Int.reduceMul, Int.reduceSub, Int.reduceNeg, Int.zero_add, Int.add_zero, hF.c, o1 ()]) <;> omega)))
    | ((with_reducible refine rt_neg ?_ ?_); (· first | omega | ((try simp (disch := omega) only [wr, true_and, and_true, sM_ne, sM_eq, sM_neR, sM_eqR, sK_upM, sK_upR, sL_upM, sL_upR, sN_upM, sN_upR, sT_upM, sT_upR, sN_upM, Int.reduceAdd, Int.reduceMul, Int.reduceSub, Int.reduceNeg, Int.zero_add, Int.add_zero, hF.c, o1 ()]) <;> omega)))
    | ((with_reducible refine rt_v ?_ ?_); · simp (disch := omega) only [true_and, and_true, sM_ne, sM_eq, sM_neR, sM_eqR, sK_upM, sK_upR, sL_upM, sL_upR, sN_upM, sN_upR, sT_upM, sT_upR, sN_upM, Int.reduceAdd, Int.reduceMul, Int.reduceSub, Int.reduceNeg, Int.zero_add, Int.add_zero, hF.c, o1 ()])
    | ((with_reducible apply rt_gx); (· simp (disch := omega) only [true_and, and_true, sM_ne, sM_eq, sM_neR, sM_eqR, sK_upM, sK_upR, sL_upM, sL_upR, sN_upM, sN_upR, sT_upM, sT_upR, sN_upM, Int.reduceAdd, Int.reduceMul, Int.reduceSub, Int.reduceNeg, Int.zero_add, Int.add_zero, hF.c, o1 ()]); (· (try simp (disch := omega) only [wr, true_and, and_true, sM_ne, sM_eq, sM_neR, sM_eqR, sK_upM, sK_upR, sL_upM, sL_upR, sN_upM, sN_upR, sT_upM, sT_upR, sN_upM, Int.reduceAdd, Int.reduceMul, Int.reduceSub, Int.reduceNeg, Int.zero_add, Int.add_zero, hF.c, o1 ()]); exact rfl))
    | ((with_reducible apply rt_alx); (· simp (disch := omega) only [true_and, and_true, sM_ne, sM_eq, sM_neR, sM_eqR, sK_upM, sK_upR, sL_upM, sL_upR, sN_upM, sN_upR, sT_upM, sT_upR, sN_upM, Int.reduceAdd, Int.reduceMul, Int.reduceSub, Int.reduceNeg, Int.zero_add, Int.add_zero, hF.c, o1 ()]); (· first | omega | ((try simp (disch := omega) only [wr, true_and, and_true, sM_ne, sM_eq, sM_neR, sM_eqR, sK_upM, sK_upR, sL_upM, sL_upR, sN_upM, sN_upR, sT_upM, sT_upR, sN_upM, Int.reduceAdd, Int.reduceMul, Int.reduceSub, Int.reduceNeg, Int.zero_add, Int.add_zero, hF.c, o1 ()]) <;> omega)); (· (try simp (disch := omega) only [wr, true_and, and_true, sM_ne, sM_eq, sM_neR, sM_eqR, sK_upM, sK_upR, sL_upM, sL_upR, sN_upM, sN_upR, sT_upM, sT_upR, sN_upM, Int.reduceAdd, Int.reduceMul, Int.reduceSub, Int.reduceNeg, Int.zero_add, Int.add_zero, hF.c, o1 ()]); exact rfl))
    | ((with_reducible refine rt_as ?_ ?_ ?_); (· simp (disch := omega) only [true_and, and_true, sM_ne, sM_eq, sM_neR, sM_eqR, sK_upM, sK_upR, sL_upM, sL_upR, sN_upM, sN_upR, sT_upM, sT_upR, sN_upM, Int.reduceAdd, Int.reduceMul, Int.reduceSub, Int.reduceNeg, Int.zero_add, Int.add_zero, hF.c, o1 ()]); (· first | omega | ((try simp (disch := omega) only [wr, true_and, and_true, sM_ne, sM_eq, sM_neR, sM_eqR, sK_upM, sK_upR, sL_upM, sL_upR, sN_upM, sN_upR, sT_upM, sT_upR, sN_upM, Int.reduceAdd, Int.reduceMul, Int.reduceSub, Int.reduceNeg, Int.zero_add, Int.add_zero, hF.c, o1 ()]) <;> omega)))
    | ((with_reducible refine rt_p ?_ ?_ ?_); (· simp (disch := omega) only [true_and, and_true, sM_ne, sM_eq, sM_neR, sM_eqR, sK_upM, sK_upR, sL_upM, sL_upR, sN_upM, sN_upR, sT_upM, sT_upR, sN_upM, Int.reduceAdd, Int.reduceMul, Int.reduceSub, Int.reduceNeg, Int.zero_add, Int.add_zero, hF.c, o1 ()]); (· omega))
    | with_reducible refine rt_ret ?_
    | ((with_reducible apply rt_gwx); (· assumption); (· (try simp (disch := omega) only [wr, true_and, and_true, sM_ne, sM_eq, sM_neR, sM_eqR, sK_upM, sK_upR, sL_upM, sL_upR, sN_upM, sN_upR, sT_upM, sT_upR, sN_upM, Int.reduceAdd, Int.reduceMul, Int.reduceSub, Int.reduceNeg, Int.zero_add, Int.add_zero, hF.c, o1 ()]); exact rfl)))
          rw [wr1 q (by omega)]
          have hC : Ch mdS s (upM (upM (upM s 90 c (t : Int)) 91 (L.length : Int) c) 64 44 (wrap ((L.length : Int) + 1))) := ((Ch.rf.up (Or.inr (Or.inl (by omega)))).up (Or.inr (Or.inl (by omega)))).up (Or.inr (Or.inr ⟨rfl, rfl⟩))
          refine l_goes118 g0 g1 ht hrho hcm hA hs hlen hK N (q + 1) _ c (hV0.ch hC) (hc.tr hC) (by omega) (by omega) (fun j j0 j1 => ?_) (fun j j0 j1 => ?_) ?_ (Or.inr ⟨fun h => by omega, fun h => by omega⟩)
          · rw [sM_ne (by omega), sM_ne (by omega), sM_ne (by omega)]; exact h89 j j0 j1
          · rw [sM_ne (by omega), sM_ne (by omega), hts]
            by_cases e : j = c
            · subst e
              rw [sM_eq ⟨rfl, rfl⟩, if_pos (List.mem_append_right _ List.mem_cons_self)]
            · rw [sM_ne (Or.inr e), h90 j j0 j1]
              by_cases hm : j ∈ A.take q
              · rw [if_pos hm, if_pos (List.mem_append_left _ hm)]
              · rw [if_neg hm, if_neg (fun h => (List.mem_append.mp h).elim hm (fun h => e (List.mem_singleton.mp h)))]
          · rw [hts, ← List.append_assoc, hL]
            refine ⟨by rw [sM_eq ⟨rfl, rfl⟩, wr1 _ (by omega), List.length_append]; rfl, fun j hj => ?_⟩
            rw [List.length_append, List.length_singleton] at hj
            rw [getD_app L c j hj, sM_ne (by omega)]
            by_cases hjl : j < L.length
            · rw [if_pos hjl, sM_ne (by omega), sM_ne (by omega)]; exact o2 j hjl
            · have : j = L.length := by omega
              subst this
              rw [if_neg hjl, sM_eq ⟨rfl, rfl⟩]
      by_cases hq0 : q = 0
      · refine rt_jn (rt_jn (rt_pos (by omega) ?_))
        exact hgo
      · refine rt_jn (rt_jn (rt_neg (by omega) ?_))
        by_cases hx1 : x = -1
        · refine rt_pos hx1 (rt_jn (rt_pos rfl ?_))
          exact hend (by have := (hx.resolve_left hq0).mp hx1; omega)
        · exact rt_neg hx1 hgo
theorem ord_len {n k : Int} {ch so : Int → Int} {ln rt : Int → Int → Int} (hn : n ≤ 16) (hcm : ∀ g c : Int, c ∈ Rg n k (-1) ch so ln g → 0 ≤ cmO ln so ch c) (t : Nat) : (ordA n k ch so ln rt t).length + (arr (Rg n k (-1) ch so ln 0) (cmO ln so ch) (rtN rt 0) t).length ≤ 16 ∧ (ordA n k ch so ln rt t ++ goL (Rg n k (-1) ch so ln 0) (cmO ln so ch) (rtN rt 0) t).length + (arr (Rg n k (-1) ch so ln 1) (cmO ln so ch) (rtN rt 1) t).length ≤ 16 := by
  have hrng : ∀ g c : Int, c ∈ Rg n k (-1) ch so ln g → 0 ≤ c ∧ c < 16 := by
    intro g c hc
    obtain ⟨⟨c0, c1⟩, -⟩ := Rg_mem.mp hc
    omega
  have hdis : ∀ x, x ∈ Rg n k (-1) ch so ln 0 → x ∈ Rg n k (-1) ch so ln 1 → False := by
    intro x hx hy
    have := (Rg_mem.mp hx).2.2.2
    have := (Rg_mem.mp hy).2.2.2
    omega
  have hsp := ordL_spec (R0 := Rg n k (-1) ch so ln 0) (R1 := Rg n k (-1) ch so ln 1) Rg_nd Rg_nd hdis (hcm 0) (hcm 1) (r0 := rtN rt 0) (r1 := rtN rt 1)
  have hnd0 : (ordA n k ch so ln rt t ++ arr (Rg n k (-1) ch so ln 0) (cmO ln so ch) (rtN rt 0) t).Nodup := by
    refine List.nodup_append.mpr ⟨(hsp t).1, List.Sublist.nodup (arr_sub _ _ _ _) Rg_nd, fun x hx y hy e => ?_⟩
    subst e
    have hxR := (arr_mem.mp hy).1
    rcases (hsp t).2 x hx with ⟨a, b⟩ | ⟨a, b⟩
    · exact b ((arr_iff Rg_nd (hcm 0) hxR t).mp hy).2
    · exact hdis x hxR a
  have hl0 := nd_len 16 _ hnd0 (fun x hx => by
    rcases List.mem_append.mp hx with hx | hx
    · rcases (hsp t).2 x hx with ⟨a, b⟩ | ⟨a, b⟩
      · exact hrng _ _ a
      · exact hrng _ _ a
    · exact hrng _ _ (arr_mem.mp hx).1)
  have hnd1 : ((ordA n k ch so ln rt t ++ goL (Rg n k (-1) ch so ln 0) (cmO ln so ch) (rtN rt 0) t) ++ arr (Rg n k (-1) ch so ln 1) (cmO ln so ch) (rtN rt 1) t).Nodup := by
    refine List.nodup_append.mpr ⟨List.Sublist.nodup (List.Sublist.append_left (List.take_sublist _ _) _) hnd0, List.Sublist.nodup (arr_sub _ _ _ _) Rg_nd, fun x hx y hy e => ?_⟩
    subst e
    have hxR := (arr_mem.mp hy).1
    rcases List.mem_append.mp hx with hx | hx
    · rcases (hsp t).2 x hx with ⟨a, b⟩ | ⟨a, b⟩
      · exact hdis x a hxR
      · exact b ((arr_iff Rg_nd (hcm 1) hxR t).mp hy).2
    · exact hdis x (go_R hx) hxR
  have hl1 := nd_len 16 _ hnd1 (fun x hx => by
    rcases List.mem_append.mp hx with hx | hx
    · rcases List.mem_append.mp hx with hx | hx
      · rcases (hsp t).2 x hx with ⟨a, b⟩ | ⟨a, b⟩
        · exact hrng _ _ a
        · exact hrng _ _ a
      · exact hrng _ _ (go_R hx)
    · exact hrng _ _ (arr_mem.mp hx).1)
  rw [List.length_append] at hl0 hl1
  exact ⟨hl0, hl1⟩
theorem l_goes99 {w n k : Int} {ch so : Int → Int} {ln rt : Int → Int → Int} :
    ∀ (N t : Nat) (s : ZS), MV s w n k ch so ln rt → t ≤ 24 → 24 - t < N → (∀ j : Int, 0 ≤ j → j < n → sM s 89 j = cmO ln so ch j) → (∀ j : Int, 0 ≤ j → j < n → sM s 90 j = pasO ch (Rg n k (-1) ch so ln 0) (Rg n k (-1) ch so ln 1) (cmO ln so ch) (rtN rt 0) (rtN rt 1) j t) → OrdM s (ordA n k ch so ln rt t) →
    Rt (lX12_goes_99 64 w N s (t : Int)) (fun _ τ => Ch mdS s τ ∧ (∀ j : Int, 0 ≤ j → j < n → sM τ 89 j = cmO ln so ch j) ∧ (∀ j : Int, 0 ≤ j → j < n → sM τ 90 j = pasA n k ch so ln rt j) ∧ OrdM τ (ordA n k ch so ln rt 24))
  | 0, t, s, _, _, h, _, _, _ => by omega
  | N + 1, t, s, hV, ht, hN, h89, h90, hO => by
    rw [lX12_goes_99]
    by_cases he : (24 : Int) ≤ (t : Int)
    · have : t = 24 := by omega
      subst this
      exact rt_pos he (rt_ret ⟨Ch.rf, h89, h90, hO⟩)
    · refine rt_neg he ?_
      have hn16 : 0 ≤ n ∧ n ≤ 16 := hV.2.2.2.1.2
      have hcm' : ∀ j : Int, 0 ≤ j → j < n → -1 ≤ cmO ln so ch j ∧ cmO ln so ch j < 24 := fun j j0 j1 => by
        have := hV.cm j0 j1
        omega
      have hcm : ∀ g c : Int, c ∈ Rg n k (-1) ch so ln g → 0 ≤ cmO ln so ch c := by
        intro g c hc
        obtain ⟨⟨c0, c1⟩, -, c2, -⟩ := Rg_mem.mp hc
        have := hV.cm c0 c1
        omega
      obtain ⟨hl0, hl1⟩ := ord_len (rt := rt) (k := k) hn16.2 hcm t
      have r0 := (hV.2.2.2.2.2.2.2 0 (t : Int) (by omega) (by omega) (by omega) (by omega)).2
      have r1 := (hV.2.2.2.2.2.2.2 1 (t : Int) (by omega) (by omega) (by omega) (by omega)).2
      have hAg : ∀ g : Int, ∀ x : Int, x ∈ arr (Rg n k (-1) ch so ln g) (cmO ln so ch) (rtN rt g) t ↔ (0 ≤ x ∧ x < n) ∧ ch x ≠ 48 ∧ ch x / 24 = g ∧ cmO ln so ch x ≠ -1 ∧ cmO ln so ch x ≤ (t : Int) ∧ pasT (Rg n k (-1) ch so ln g) (cmO ln so ch) (rtN rt g) x t = -1 := by
        intro g x
        constructor
        · intro hx
          have hxR := (arr_mem.mp hx).1
          obtain ⟨y1, y2⟩ := (arr_iff Rg_nd (hcm g) hxR t).mp hx
          obtain ⟨⟨c0, c1⟩, -, c2, c3⟩ := Rg_mem.mp hxR
          have := hV.cm c0 c1
          exact ⟨⟨c0, c1⟩, by omega, c3, c2, y1, y2⟩
        · rintro ⟨⟨c0, c1⟩, -, c3, c2, y1, y2⟩
          have hxR : x ∈ Rg n k (-1) ch so ln g := Rg_mem.mpr ⟨⟨c0, c1⟩, by omega, c2, c3⟩
          exact (arr_iff Rg_nd (hcm g) hxR t).mpr ⟨y1, y2⟩
      rw [show (1000 : Nat) = 999 + 1 from rfl, lX12_goes_107]
      refine rt_neg (by omega) ?_
      refine l_goes118 (σ := s) (g := 0) (t := t) (rho := rtN rt 0 t) (cm := cmO ln so ch) (P0 := fun j => pasO ch (Rg n k (-1) ch so ln 0) (Rg n k (-1) ch so ln 1) (cmO ln so ch) (rtN rt 0) (rtN rt 1) j t) (A := arr (Rg n k (-1) ch so ln 0) (cmO ln so ch) (rtN rt 0) t) (l := ordA n k ch so ln rt t) (by omega) (by omega) (by omega) (by unfold rtN; omega) hcm' (fun x => ?_) (arr_srt Rg_srt _ _ _) hl0 (fun τ hVτ hcτ g89 g90 gO => ?_) 1000 0 s (-1) hV Ch.rf (by omega) (by unfold rtN; omega) h89 (by simpa using h90) (by simpa using hO) (Or.inl rfl)
      · rw [hAg 0 x]
        unfold pasO
        constructor
        · rintro ⟨a, b, c, d⟩; rw [if_pos c]; exact ⟨a, b, c, d⟩
        · rintro ⟨a, b, c, d⟩; rw [if_pos c] at d; exact ⟨a, b, c, d⟩
      · rw [show wrap (0 + 1) = 1 from by decide]
        rw [show (999 : Nat) = 998 + 1 from rfl, lX12_goes_107]
        refine rt_neg (by omega) ?_
        refine l_goes118 (σ := τ) (g := 1) (t := t) (rho := rtN rt 1 t) (cm := cmO ln so ch) (P0 := fun j => if j ∈ goL (Rg n k (-1) ch so ln 0) (cmO ln so ch) (rtN rt 0) t then (t : Int) else pasO ch (Rg n k (-1) ch so ln 0) (Rg n k (-1) ch so ln 1) (cmO ln so ch) (rtN rt 0) (rtN rt 1) j t) (A := arr (Rg n k (-1) ch so ln 1) (cmO ln so ch) (rtN rt 1) t) (l := ordA n k ch so ln rt t ++ goL (Rg n k (-1) ch so ln 0) (cmO ln so ch) (rtN rt 0) t) (by omega) (by omega) (by omega) (by unfold rtN; omega) hcm' (fun x => ?_) (arr_srt Rg_srt _ _ _) hl1 (fun τ2 hVτ2 hcτ2 k89 k90 kO => ?_) 1000 0 τ (-1) hVτ Ch.rf (by omega) (by unfold rtN; omega) g89 (fun j j0 j1 => by rw [List.take_zero, if_neg List.not_mem_nil]; exact g90 j j0 j1) (by rw [List.take_zero, List.append_nil]; exact gO) (Or.inl rfl)
        · rw [hAg 1 x]
          unfold pasO
          constructor
          · rintro ⟨a, b, c, d, e, f⟩
            rw [if_neg (fun q => by have := (Rg_mem.mp (go_R q)).2.2.2; omega), if_neg (by omega)]
            exact ⟨a, b, c, d, e, f⟩
          · rintro ⟨a, b, c, d, e, f⟩
            rw [if_neg (fun q => by have := (Rg_mem.mp (go_R q)).2.2.2; omega), if_neg (by omega)] at f
            exact ⟨a, b, c, d, e, f⟩
        · rw [show wrap (1 + 1) = 2 from by decide]
          rw [show (998 : Nat) = 997 + 1 from rfl, lX12_goes_107]
          refine rt_pos (by omega) ?_
          rw [wr1 t (by omega)]
          refine (l_goes99 N (t + 1) τ2 hVτ2 (by omega) (by omega) k89 (fun j j0 j1 => ?_) ?_).mono (fun v ρ h => ⟨(hcτ.tr hcτ2).tr h.1, h.2⟩)
          · rw [k90 j j0 j1]
            exact pas_step Rg_nd Rg_nd (fun x hx => (Rg_mem.mp hx).2.2.2) (fun x hx => (Rg_mem.mp hx).2.2.2) (hcm 0) (hcm 1) j t
          · rw [List.append_assoc] at kO; exact kO
def Gos (τ : ZS) (n k : Int) (ch so : Int → Int) (ln rt : Int → Int → Int) : Prop := (∀ j : Int, 0 ≤ j → j < n → sM τ 89 j = cmO ln so ch j) ∧ (∀ j : Int, 0 ≤ j → j < n → sM τ 90 j = pasA n k ch so ln rt j) ∧ OrdM τ (ordA n k ch so ln rt 24)
theorem f_goes {σ : ZS} {w n k : Int} {ch so : Int → Int} {ln rt : Int → Int → Int} (hV : MV σ w n k ch so ln rt) : Rt (fX12_goes σ 64 w) (fun _ τ => Ch mdS σ τ ∧ Gos τ n k ch so ln rt) := by
  have hn16 : 0 ≤ n ∧ n ≤ 16 := hV.2.2.2.1.2
  unfold fX12_goes
  refine l_goes2 (σ := σ) (fun τ hVτ hcτ hz => ?_) 1000 0 σ hV (by omega) (by omega) Ch.rf (fun j j0 j1 => by omega)
  have hFτ := hVτ.1
  have h9 := hFτ.2.2.2
  repeat (first
    | with_reducible refine rt_b ?_
    | with_reducible refine rt_jn ?_
    | ((with_reducible refine rt_pos ?_ ?_); (· first | omega | ((try simp (disch := omega) only [wr, true_and, and_true, sM_ne, sM_eq, sM_neR, sM_eqR, sK_upM, sK_upR, sL_upM, sL_upR, sN_upM, sN_upR, sT_upM, sT_upR, sN_upM, Int.reduceAdd, Int.reduceMul, Int.reduceSub, Int.reduceNeg, Int.zero_add, Int.add_zero, hFτ.c]) <;> omega)))
    | ((with_reducible refine rt_neg ?_ ?_); (· first | omega | ((try simp (disch := omega) only [wr, true_and, and_true, sM_ne, sM_eq, sM_neR, sM_eqR, sK_upM, sK_upR, sL_upM, sL_upR, sN_upM, sN_upR, sT_upM, sT_upR, sN_upM, Int.reduceAdd, Int.reduceMul, Int.reduceSub, Int.reduceNeg, Int.zero_add, Int.add_zero, hFτ.c]) <;> omega)))
    | ((with_reducible refine rt_v ?_ ?_); · simp (disch := omega) only [true_and, and_true, sM_ne, sM_eq, sM_neR, sM_eqR, sK_upM, sK_upR, sL_upM, sL_upR, sN_upM, sN_upR, sT_upM, sT_upR, sN_upM, Int.reduceAdd, Int.reduceMul, Int.reduceSub, Int.reduceNeg, Int.zero_add, Int.add_zero, hFτ.c])
    | ((with_reducible apply rt_gx); (· simp (disch := omega) only [true_and, and_true, sM_ne, sM_eq, sM_neR, sM_eqR, sK_upM, sK_upR, sL_upM, sL_upR, sN_upM, sN_upR, sT_upM, sT_upR, sN_upM, Int.reduceAdd, Int.reduceMul, Int.reduceSub, Int.reduceNeg, Int.zero_add, Int.add_zero, hFτ.c]); (· (try simp (disch := omega) only [wr, true_and, and_true, sM_ne, sM_eq, sM_neR, sM_eqR, sK_upM, sK_upR, sL_upM, sL_upR, sN_upM, sN_upR, sT_upM, sT_upR, sN_upM, Int.reduceAdd, Int.reduceMul, Int.reduceSub, Int.reduceNeg, Int.zero_add, Int.add_zero, hFτ.c]); exact rfl))
    | ((with_reducible apply rt_alx); (· simp (disch := omega) only [true_and, and_true, sM_ne, sM_eq, sM_neR, sM_eqR, sK_upM, sK_upR, sL_upM, sL_upR, sN_upM, sN_upR, sT_upM, sT_upR, sN_upM, Int.reduceAdd, Int.reduceMul, Int.reduceSub, Int.reduceNeg, Int.zero_add, Int.add_zero, hFτ.c]); (· first | omega | ((try simp (disch := omega) only [wr, true_and, and_true, sM_ne, sM_eq, sM_neR, sM_eqR, sK_upM, sK_upR, sL_upM, sL_upR, sN_upM, sN_upR, sT_upM, sT_upR, sN_upM, Int.reduceAdd, Int.reduceMul, Int.reduceSub, Int.reduceNeg, Int.zero_add, Int.add_zero, hFτ.c]) <;> omega)); (· (try simp (disch := omega) only [wr, true_and, and_true, sM_ne, sM_eq, sM_neR, sM_eqR, sK_upM, sK_upR, sL_upM, sL_upR, sN_upM, sN_upR, sT_upM, sT_upR, sN_upM, Int.reduceAdd, Int.reduceMul, Int.reduceSub, Int.reduceNeg, Int.zero_add, Int.add_zero, hFτ.c]); exact rfl))
    | ((with_reducible refine rt_as ?_ ?_ ?_); (· simp (disch := omega) only [true_and, and_true, sM_ne, sM_eq, sM_neR, sM_eqR, sK_upM, sK_upR, sL_upM, sL_upR, sN_upM, sN_upR, sT_upM, sT_upR, sN_upM, Int.reduceAdd, Int.reduceMul, Int.reduceSub, Int.reduceNeg, Int.zero_add, Int.add_zero, hFτ.c]); (· first | omega | ((try simp (disch := omega) only [wr, true_and, and_true, sM_ne, sM_eq, sM_neR, sM_eqR, sK_upM, sK_upR, sL_upM, sL_upR, sN_upM, sN_upR, sT_upM, sT_upR, sN_upM, Int.reduceAdd, Int.reduceMul, Int.reduceSub, Int.reduceNeg, Int.zero_add, Int.add_zero, hFτ.c]) <;> omega)))
    | ((with_reducible refine rt_p ?_ ?_ ?_); (· simp (disch := omega) only [true_and, and_true, sM_ne, sM_eq, sM_neR, sM_eqR, sK_upM, sK_upR, sL_upM, sL_upR, sN_upM, sN_upR, sT_upM, sT_upR, sN_upM, Int.reduceAdd, Int.reduceMul, Int.reduceSub, Int.reduceNeg, Int.zero_add, Int.add_zero, hFτ.c]); (· omega))
    | with_reducible refine rt_ret ?_
    | ((with_reducible apply rt_gwx); (· assumption); (· (try simp (disch := omega) only [wr, true_and, and_true, sM_ne, sM_eq, sM_neR, sM_eqR, sK_upM, sK_upR, sL_upM, sL_upR, sN_upM, sN_upR, sT_upM, sT_upR, sN_upM, Int.reduceAdd, Int.reduceMul, Int.reduceSub, Int.reduceNeg, Int.zero_add, Int.add_zero, hFτ.c]); exact rfl)))
  have hC1 : Ch mdS τ (upM τ 64 44 0) := Ch.rf.up (Or.inr (Or.inr ⟨rfl, rfl⟩))
  refine (l_goes99 1000 0 _ (hVτ.ch hC1) (by omega) (by omega) (fun j j0 j1 => ?_) (fun j j0 j1 => ?_) ⟨?_, fun j hj => by cases hj⟩).mono (fun v ρ h => ⟨(hcτ.tr hC1).tr h.1, h.2⟩)
  · rw [sM_ne (by omega)]; exact (hz j j0 j1).1
  · rw [sM_ne (by omega), (hz j j0 j1).2]
    unfold pasO
    split <;> rfl
  · rw [sM_eq ⟨rfl, rfl⟩]; rfl
