/-! what a text comes to: one walk over the steps, for both -/
def opV (x a b : Int) : Int := if x = 10006 then wrap (a + b) else if x = 10007 then wrap (a - b) else if x = 10008 then wrap (a * b) else if x = 10009 then (if b ≤ a then 0 else 1) else if x = 10010 then (if a = b then 1 else 0) else if x = 10011 then (if a = 0 then 0 else if b = 0 then 0 else 1) else (if a = 0 then (if b = 0 then 0 else 1) else 1)
def updF (g : Int → Int) (i v : Int) : Int → Int := fun j => if j = i then v else g j
def evg (f : Int → Int) : List Int → Int → (Int → Int) → Int
  | [], _, g => g 0
  | x :: xs, d, g => if x < 10006 then evg f xs (d + 1) (updF g d (if x < 10000 then x else f (x - 10000))) else if x < 10013 then evg f xs (d - 1) (updF g (d - 2) (opV x (g (d - 2)) (g (d - 1)))) else evg f xs d (updF g (d - 1) (if x = 10013 then (if g (d - 1) = 0 then 1 else 0) else wrap (-(g (d - 1)))))
theorem f_joined (s : ZS) (x a b : Int) : fX8_joined s x a b = some (opV x a b, s) := by
  unfold fX8_joined opV zjn
  by_cases h1 : x = 10006
  · rw [if_pos h1, if_pos h1]
  rw [if_neg h1, if_neg h1]
  by_cases h2 : x = 10007
  · rw [if_pos h2, if_pos h2]
  rw [if_neg h2, if_neg h2]
  by_cases h3 : x = 10008
  · rw [if_pos h3, if_pos h3]
  rw [if_neg h3, if_neg h3]
  by_cases h4 : x = 10009
  · rw [if_pos h4, if_pos h4]
    by_cases h : b ≤ a
    · rw [if_pos h, if_pos h]
    · rw [if_neg h, if_neg h]
  rw [if_neg h4, if_neg h4]
  by_cases h5 : x = 10010
  · rw [if_pos h5, if_pos h5]
    by_cases h : a = b
    · rw [if_pos h, if_pos h]
    · rw [if_neg h, if_neg h]
  rw [if_neg h5, if_neg h5]
  by_cases h6 : x = 10011
  · rw [if_pos h6, if_pos h6]
    by_cases h : a = 0
    · rw [if_pos h, if_pos h]
    · rw [if_neg h, if_neg h]
      by_cases h' : b = 0
      · rw [if_pos h', if_pos h']
      · rw [if_neg h', if_neg h']
  rw [if_neg h6, if_neg h6]
  show (if a = 0 then (if b = 0 then some ((0 : Int), s) else some (1, s)) else some (1, s)) = _
  by_cases h : a = 0
  · rw [if_pos h, if_pos h]
    by_cases h' : b = 0
    · rw [if_pos h', if_pos h']
    · rw [if_neg h', if_neg h']
  · rw [if_neg h, if_neg h]
theorem f_two (s : ZS) (x a b : Int) (h0 : 10006 ≤ x) (h1 : x < 10013) : fX12_two s (cv x) a b = some (opV x a b, s) := by
  rcases (by omega : x = 10006 ∨ x = 10007 ∨ x = 10008 ∨ x = 10009 ∨ x = 10010 ∨ x = 10011 ∨ x = 10012) with rfl | rfl | rfl | rfl | rfl | rfl | rfl
  · rfl
  · rfl
  · rfl
  · show (if b ≤ a then some ((0 : Int), s) else some (1, s)) = some (if b ≤ a then 0 else 1, s)
    split <;> rfl
  · show (if a = b then some ((1 : Int), s) else some (0, s)) = some (if a = b then 1 else 0, s)
    split <;> rfl
  · show (if a = 0 then some ((0 : Int), s) else if b = 0 then some (0, s) else some (1, s)) = some (if a = 0 then 0 else if b = 0 then 0 else 1, s)
    (repeat' split) <;> rfl
  · show (if a = 0 then (if b = 0 then some ((0 : Int), s) else some (1, s)) else some (1, s)) = some (if a = 0 then (if b = 0 then 0 else 1) else 1, s)
    (repeat' split) <;> rfl
theorem rowL_len (f : Int → Int) (n : Nat) : (rowL f n).length = n := by unfold rowL; simp
theorem rowL_get (f : Int → Int) (n i : Nat) (h : i < n) : (rowL f n).getD i 0 = f (i : Int) := by
  unfold rowL
  rw [List.getD_eq_getElem?_getD]
  simp [h]
theorem rowL_drop (f : Int → Int) (n i : Nat) (h : i < n) : (rowL f n).drop i = f (i : Int) :: (rowL f n).drop (i + 1) := by
  rw [drop_s _ i (by rw [rowL_len]; exact h), rowL_get f n i h]
theorem dpk_cons {d : Nat} {x : Int} {xs : List Int} (h : dpk d (x :: xs) = true) : (0 ≤ x ∧ x ≤ 10014) ∧ (x < 10006 → d < 64 ∧ dpk (d + 1) xs = true) ∧ (10006 ≤ x → x < 10013 → 2 ≤ d ∧ dpk (d - 1) xs = true) ∧ (10013 ≤ x → 1 ≤ d ∧ dpk d xs = true) := by
  unfold dpk at h
  rw [Bool.and_eq_true, decide_eq_true_eq] at h
  refine ⟨h.1, fun hx => ?_, fun h1 h2 => ?_, fun h1 => ?_⟩
  · have := h.2
    rw [if_pos hx, Bool.and_eq_true, decide_eq_true_eq] at this
    exact this
  · have := h.2
    rw [if_neg (by omega), if_pos h2, Bool.and_eq_true, decide_eq_true_eq] at this
    exact this
  · have := h.2
    rw [if_neg (by omega), if_neg (by omega), Bool.and_eq_true, decide_eq_true_eq] at this
    exact this
theorem updF_eq {g : Int → Int} {i v : Int} : updF g i v i = v := by unfold updF; rw [if_pos rfl]
theorem updF_ne {g : Int → Int} {i v j : Int} (h : j ≠ i) : updF g i v j = g j := by unfold updF; rw [if_neg h]
theorem evg_push {f : Int → Int} {x d : Int} {xs : List Int} {g : Int → Int} (h : x < 10006) : evg f (x :: xs) d g = evg f xs (d + 1) (updF g d (if x < 10000 then x else f (x - 10000))) := by rw [evg, if_pos h]
theorem evg_two {f : Int → Int} {x d : Int} {xs : List Int} {g : Int → Int} (h : 10006 ≤ x) (h2 : x < 10013) : evg f (x :: xs) d g = evg f xs (d - 1) (updF g (d - 2) (opV x (g (d - 2)) (g (d - 1)))) := by rw [evg, if_neg (by omega), if_pos h2]
theorem evg_one {f : Int → Int} {x d : Int} {xs : List Int} {g : Int → Int} (h : 10013 ≤ x) : evg f (x :: xs) d g = evg f xs d (updF g (d - 1) (if x = 10013 then (if g (d - 1) = 0 then 1 else 0) else wrap (-(g (d - 1))))) := by rw [evg, if_neg (by omega), if_neg (by omega)]
theorem l_amount {A : Int} {L : Nat} {rw0 f : Int → Int} {V : Int} {K : ZS → Option (Int × ZS)} {P : Int → ZS → Prop} {σ : ZS} (hA : A ≠ 32) (hK : ∀ τ : ZS, FxD τ → Ch (fun a _ => a = 32) σ τ → sM τ 32 0 = V → Rt (K τ) P) :
    ∀ (N i d : Nat) (s : ZS) (g : Int → Int), FxD s → Ch (fun a _ => a = 32) σ s → sK s A = 100 → sL s A = (L : Int) → sM s A = rw0 → (∀ j : Int, 0 ≤ j → j < 6 → sM s 31 j = f j) → i ≤ L → L - i < N → L < 1000 → d ≤ 64 → dpk d ((rowL rw0 L).drop i) = true → (∀ j : Int, 0 ≤ j → j < (d : Int) → sM s 32 j = g j) → evg f ((rowL rw0 L).drop i) d g = V → Rt (lX8_amount_5 A 31 32 K N s (d : Int) (i : Int)) P
  | 0, i, d, s, g, _, _, _, _, _, _, _, h, _, _, _, _, _ => by omega
  | N + 1, i, d, s, g, hF, hc, hk, hl, hr, hf, hi, hN, hL, hd64, hdp, hst, hV => by
    have hk' := hd hk
    have hl' := hd hl
    rw [lX8_amount_5]
    refine rt_len hk ?_
    rw [hl]
    by_cases he : (L : Int) ≤ (i : Int)
    · refine rt_pos he (hK s hF hc ?_)
      rw [List.drop_eq_nil_of_le (by rw [rowL_len]; omega)] at hdp hV
      have h1 : d = 1 := by simpa [dpk] using hdp
      rw [hst 0 (by omega) (by omega)]
      exact hV
    · refine rt_neg he ?_
      have hiL : i < L := by omega
      rw [rowL_drop rw0 L i hiL] at hdp hV
      have hx : sM s A (i : Int) = rw0 (i : Int) := by rw [hr]
      generalize rw0 (i : Int) = x at hdp hV hx
      obtain ⟨⟨x0, x1⟩, p1, p2, p3⟩ := dpk_cons hdp
      replace hx := hd hx
      clear hdp hk hl
      have hsl : ∀ a v : Int, Ch (fun a _ => a = 32) s (upM s 32 a v) := fun a v => Ch.rf.up rfl
      have next : ∀ (d' : Nat) (p v : Int) (g' : Int → Int), d' ≤ 64 → dpk d' ((rowL rw0 L).drop (i + 1)) = true → evg f ((rowL rw0 L).drop (i + 1)) d' g' = V → (∀ j : Int, 0 ≤ j → j < (d' : Int) → sM (upM s 32 p v) 32 j = g' j) → Rt (lX8_amount_5 A 31 32 K N (upM s 32 p v) (d' : Int) (wrap ((i : Int) + 1))) P := by
        intro d' p v g' b1 b2 b3 b4
        rw [wr1 i (by omega)]
        refine l_amount hA hK N (i + 1) d' _ g' (hF.up (NF_i (by omega))) (hc.tr (hsl p v)) (hk' ()) (hl' ()) ?_ (fun j j0 j1 => ?_) (by omega) (by omega) hL b1 b2 b4 b3
        · rw [← hr]
          funext q
          rw [sM_ne (Or.inl hA)]
        · rw [sM_ne (by omega)]; exact hf j j0 j1
      refine rt_al (hk' ()) (by rw [hl' ()]; omega) ?_
      rw [hx ()]
      by_cases hp : x < 10006
      · obtain ⟨d1, d2⟩ := p1 hp
        rw [evg_push hp] at hV
        have ed := hd (show wrap ((d : Int) - 0) = (d : Int) by rw [wr (by omega) (by omega)]; omega)
        have ed1 := hd (show wrap ((d : Int) + 1) = ((d + 1 : Nat) : Int) from wr1 d (by omega))
        have hst' : ∀ (v : Int), ∀ j : Int, 0 ≤ j → j < ((d + 1 : Nat) : Int) → sM (upM s 32 (d : Int) v) 32 j = updF g (d : Int) v j := by
          intro v j j0 j1
          by_cases e : j = (d : Int)
          · subst e; rw [sM_eq ⟨rfl, rfl⟩, updF_eq]
          · rw [sM_ne (Or.inr e), updF_ne e]; exact hst j j0 (by omega)
        have hV' : evg f ((rowL rw0 L).drop (i + 1)) ((d + 1 : Nat) : Int) (updF g (d : Int) (if x < 10000 then x else f (x - 10000))) = V := by
          rw [← hV]
          congr 1
        refine rt_jn (rt_neg (by omega) ?_)
        refine rt_neg (by omega) ?_
        refine rt_len (c := 100) (by simp (disch := omega) only [true_and, and_true, sM_ne, sM_eq, sM_neR, sM_eqR, sK_upM, sK_upR, sL_upM, sL_upR, sN_upM, sN_upR, sT_upM, sT_upR, sN_upM, Int.reduceAdd, Int.reduceMul, Int.reduceSub, Int.reduceNeg, Int.zero_add, Int.add_zero, hF.c]) ?_
        refine rt_pos (by simp (disch := omega) only [true_and, and_true, sM_ne, sM_eq, sM_neR, sM_eqR, sK_upM, sK_upR, sL_upM, sL_upR, sN_upM, sN_upR, sT_upM, sT_upR, sN_upM, Int.reduceAdd, Int.reduceMul, Int.reduceSub, Int.reduceNeg, Int.zero_add, Int.add_zero, hF.c, ed ()]; omega) ?_
        refine rt_jn (rt_pos rfl ?_)
        by_cases hq : x < 10000
        · refine rt_jn (rt_neg (by omega) ?_)
          refine rt_as (by simp (disch := omega) only [true_and, and_true, sM_ne, sM_eq, sM_neR, sM_eqR, sK_upM, sK_upR, sL_upM, sL_upR, sN_upM, sN_upR, sT_upM, sT_upR, sN_upM, Int.reduceAdd, Int.reduceMul, Int.reduceSub, Int.reduceNeg, Int.zero_add, Int.add_zero, hF.c]) (by simp (disch := omega) only [true_and, and_true, sM_ne, sM_eq, sM_neR, sM_eqR, sK_upM, sK_upR, sL_upM, sL_upR, sN_upM, sN_upR, sT_upM, sT_upR, sN_upM, Int.reduceAdd, Int.reduceMul, Int.reduceSub, Int.reduceNeg, Int.zero_add, Int.add_zero, hF.c, ed ()]; omega) ?_
          rw [if_pos hq] at hV'
          have := next (d + 1) (d : Int) x _ (by omega) d2 hV' (hst' x)
          simp only [ed ()]
          rw [ed1 ()]
          exact this
        · have hfx := hd (hf (x - 10000) (by omega) (by omega))
          refine rt_jn (rt_pos (by omega) ?_)
          have ex := hd (show wrap (x - 10000) = x - 10000 from wr (by omega) (by omega))
          refine rt_alx (x := f (x - 10000)) (by simp (disch := omega) only [true_and, and_true, sM_ne, sM_eq, sM_neR, sM_eqR, sK_upM, sK_upR, sL_upM, sL_upR, sN_upM, sN_upR, sT_upM, sT_upR, sN_upM, Int.reduceAdd, Int.reduceMul, Int.reduceSub, Int.reduceNeg, Int.zero_add, Int.add_zero, hF.c]) (by simp (disch := omega) only [true_and, and_true, sM_ne, sM_eq, sM_neR, sM_eqR, sK_upM, sK_upR, sL_upM, sL_upR, sN_upM, sN_upR, sT_upM, sT_upR, sN_upM, Int.reduceAdd, Int.reduceMul, Int.reduceSub, Int.reduceNeg, Int.zero_add, Int.add_zero, hF.c, ex ()]; omega) (by rw [ex (), hfx ()]) ?_
          refine rt_as (by simp (disch := omega) only [true_and, and_true, sM_ne, sM_eq, sM_neR, sM_eqR, sK_upM, sK_upR, sL_upM, sL_upR, sN_upM, sN_upR, sT_upM, sT_upR, sN_upM, Int.reduceAdd, Int.reduceMul, Int.reduceSub, Int.reduceNeg, Int.zero_add, Int.add_zero, hF.c]) (by simp (disch := omega) only [true_and, and_true, sM_ne, sM_eq, sM_neR, sM_eqR, sK_upM, sK_upR, sL_upM, sL_upR, sN_upM, sN_upR, sT_upM, sT_upR, sN_upM, Int.reduceAdd, Int.reduceMul, Int.reduceSub, Int.reduceNeg, Int.zero_add, Int.add_zero, hF.c, ed ()]; omega) ?_
          rw [if_neg hq] at hV'
          have := next (d + 1) (d : Int) (f (x - 10000)) _ (by omega) d2 hV' (hst' _)
          simp only [ed ()]
          rw [ed1 ()]
          exact this
      · by_cases hp2 : x < 10013
        · obtain ⟨d1, d2⟩ := p2 (by omega) hp2
          rw [evg_two (by omega) hp2] at hV
          have ed := hd (show wrap ((d : Int) - 2) = (d : Int) - 2 from wr (by omega) (by omega))
          have ed1 := hd (show wrap ((d : Int) - 2 + 1) = ((d - 1 : Nat) : Int) by rw [wr (by omega) (by omega)]; omega)
          have hs1 := hd (hst ((d : Int) - 2) (by omega) (by omega))
          have hs2 := hd (show sM s 32 ((d - 1 : Nat) : Int) = g ((d : Int) - 1) by rw [hst _ (by omega) (by omega)]; congr 1; omega)
          have hV' : evg f ((rowL rw0 L).drop (i + 1)) ((d - 1 : Nat) : Int) (updF g ((d : Int) - 2) (opV x (g ((d : Int) - 2)) (g ((d : Int) - 1)))) = V := by
            rw [← hV]
            congr 1
            omega
          have hst' : ∀ j : Int, 0 ≤ j → j < ((d - 1 : Nat) : Int) → sM (upM s 32 ((d : Int) - 2) (opV x (g ((d : Int) - 2)) (g ((d : Int) - 1)))) 32 j = updF g ((d : Int) - 2) (opV x (g ((d : Int) - 2)) (g ((d : Int) - 1))) j := by
            intro j j0 j1
            by_cases e : j = (d : Int) - 2
            · subst e; rw [sM_eq ⟨rfl, rfl⟩, updF_eq]
            · rw [sM_ne (Or.inr e), updF_ne e]; exact hst j j0 (by omega)
          refine rt_jn (rt_pos (by omega) (rt_neg (by omega) ?_))
          refine rt_neg (by omega) ?_
          refine rt_len (c := 100) (by simp (disch := omega) only [true_and, and_true, sM_ne, sM_eq, sM_neR, sM_eqR, sK_upM, sK_upR, sL_upM, sL_upR, sN_upM, sN_upR, sT_upM, sT_upR, sN_upM, Int.reduceAdd, Int.reduceMul, Int.reduceSub, Int.reduceNeg, Int.zero_add, Int.add_zero, hF.c]) ?_
          refine rt_pos (by simp (disch := omega) only [true_and, and_true, sM_ne, sM_eq, sM_neR, sM_eqR, sK_upM, sK_upR, sL_upM, sL_upR, sN_upM, sN_upR, sT_upM, sT_upR, sN_upM, Int.reduceAdd, Int.reduceMul, Int.reduceSub, Int.reduceNeg, Int.zero_add, Int.add_zero, hF.c, ed ()]; omega) ?_
          refine rt_jn (rt_neg (by decide) (rt_pos rfl ?_))
          refine rt_alx (x := g ((d : Int) - 2)) (by simp (disch := omega) only [true_and, and_true, sM_ne, sM_eq, sM_neR, sM_eqR, sK_upM, sK_upR, sL_upM, sL_upR, sN_upM, sN_upR, sT_upM, sT_upR, sN_upM, Int.reduceAdd, Int.reduceMul, Int.reduceSub, Int.reduceNeg, Int.zero_add, Int.add_zero, hF.c]) (by simp (disch := omega) only [true_and, and_true, sM_ne, sM_eq, sM_neR, sM_eqR, sK_upM, sK_upR, sL_upM, sL_upR, sN_upM, sN_upR, sT_upM, sT_upR, sN_upM, Int.reduceAdd, Int.reduceMul, Int.reduceSub, Int.reduceNeg, Int.zero_add, Int.add_zero, hF.c, ed ()]; omega) (by rw [ed (), hs1 ()]) ?_
          refine rt_alx (x := g ((d : Int) - 1)) (by simp (disch := omega) only [true_and, and_true, sM_ne, sM_eq, sM_neR, sM_eqR, sK_upM, sK_upR, sL_upM, sL_upR, sN_upM, sN_upR, sT_upM, sT_upR, sN_upM, Int.reduceAdd, Int.reduceMul, Int.reduceSub, Int.reduceNeg, Int.zero_add, Int.add_zero, hF.c]) (by simp (disch := omega) only [true_and, and_true, sM_ne, sM_eq, sM_neR, sM_eqR, sK_upM, sK_upR, sL_upM, sL_upR, sN_upM, sN_upR, sT_upM, sT_upR, sN_upM, Int.reduceAdd, Int.reduceMul, Int.reduceSub, Int.reduceNeg, Int.zero_add, Int.add_zero, hF.c, ed (), ed1 ()]; omega) (by rw [ed (), ed1 (), hs2 ()]) ?_
          refine rt_b (rt_e (f_joined s x _ _) ?_)
          refine rt_as (by simp (disch := omega) only [true_and, and_true, sM_ne, sM_eq, sM_neR, sM_eqR, sK_upM, sK_upR, sL_upM, sL_upR, sN_upM, sN_upR, sT_upM, sT_upR, sN_upM, Int.reduceAdd, Int.reduceMul, Int.reduceSub, Int.reduceNeg, Int.zero_add, Int.add_zero, hF.c]) (by simp (disch := omega) only [true_and, and_true, sM_ne, sM_eq, sM_neR, sM_eqR, sK_upM, sK_upR, sL_upM, sL_upR, sN_upM, sN_upR, sT_upM, sT_upR, sN_upM, Int.reduceAdd, Int.reduceMul, Int.reduceSub, Int.reduceNeg, Int.zero_add, Int.add_zero, hF.c, ed ()]; omega) ?_
          have := next (d - 1) ((d : Int) - 2) _ _ (by omega) d2 hV' hst'
          simp only [ed ()]
          rw [ed1 ()]
          exact this
        · obtain ⟨d1, d2⟩ := p3 (by omega)
          rw [evg_one (by omega)] at hV
          have ed := hd (show wrap ((d : Int) - 1) = (d : Int) - 1 from wr (by omega) (by omega))
          have ed1 := hd (show wrap ((d : Int) - 1 + 1) = (d : Int) by rw [wr (by omega) (by omega)]; omega)
          have hs1 := hd (hst ((d : Int) - 1) (by omega) (by omega))
          have hst' : ∀ v : Int, ∀ j : Int, 0 ≤ j → j < (d : Int) → sM (upM s 32 ((d : Int) - 1) v) 32 j = updF g ((d : Int) - 1) v j := by
            intro v j j0 j1
            by_cases e : j = (d : Int) - 1
            · subst e; rw [sM_eq ⟨rfl, rfl⟩, updF_eq]
            · rw [sM_ne (Or.inr e), updF_ne e]; exact hst j j0 (by omega)
          refine rt_jn (rt_pos (by omega) (rt_pos (by omega) ?_))
          refine rt_neg (by omega) ?_
          refine rt_len (c := 100) (by simp (disch := omega) only [true_and, and_true, sM_ne, sM_eq, sM_neR, sM_eqR, sK_upM, sK_upR, sL_upM, sL_upR, sN_upM, sN_upR, sT_upM, sT_upR, sN_upM, Int.reduceAdd, Int.reduceMul, Int.reduceSub, Int.reduceNeg, Int.zero_add, Int.add_zero, hF.c]) ?_
          refine rt_pos (by simp (disch := omega) only [true_and, and_true, sM_ne, sM_eq, sM_neR, sM_eqR, sK_upM, sK_upR, sL_upM, sL_upR, sN_upM, sN_upR, sT_upM, sT_upR, sN_upM, Int.reduceAdd, Int.reduceMul, Int.reduceSub, Int.reduceNeg, Int.zero_add, Int.add_zero, hF.c, ed ()]; omega) ?_
          refine rt_jn (rt_neg (by decide) (rt_neg (by decide) ?_))
          by_cases hn : x = 10013
          · refine rt_pos hn ?_
            rw [if_pos hn] at hV
            refine rt_alx (x := g ((d : Int) - 1)) (by simp (disch := omega) only [true_and, and_true, sM_ne, sM_eq, sM_neR, sM_eqR, sK_upM, sK_upR, sL_upM, sL_upR, sN_upM, sN_upR, sT_upM, sT_upR, sN_upM, Int.reduceAdd, Int.reduceMul, Int.reduceSub, Int.reduceNeg, Int.zero_add, Int.add_zero, hF.c]) (by simp (disch := omega) only [true_and, and_true, sM_ne, sM_eq, sM_neR, sM_eqR, sK_upM, sK_upR, sL_upM, sL_upR, sN_upM, sN_upR, sT_upM, sT_upR, sN_upM, Int.reduceAdd, Int.reduceMul, Int.reduceSub, Int.reduceNeg, Int.zero_add, Int.add_zero, hF.c, ed ()]; omega) (by rw [ed (), hs1 ()]) ?_
            by_cases hg : g ((d : Int) - 1) = 0
            · refine rt_jn (rt_pos hg ?_)
              rw [if_pos hg] at hV
              refine rt_as (by simp (disch := omega) only [true_and, and_true, sM_ne, sM_eq, sM_neR, sM_eqR, sK_upM, sK_upR, sL_upM, sL_upR, sN_upM, sN_upR, sT_upM, sT_upR, sN_upM, Int.reduceAdd, Int.reduceMul, Int.reduceSub, Int.reduceNeg, Int.zero_add, Int.add_zero, hF.c]) (by simp (disch := omega) only [true_and, and_true, sM_ne, sM_eq, sM_neR, sM_eqR, sK_upM, sK_upR, sL_upM, sL_upR, sN_upM, sN_upR, sT_upM, sT_upR, sN_upM, Int.reduceAdd, Int.reduceMul, Int.reduceSub, Int.reduceNeg, Int.zero_add, Int.add_zero, hF.c, ed ()]; omega) ?_
              have := next d ((d : Int) - 1) _ _ hd64 d2 hV (hst' _)
              simp only [ed ()]
              rw [ed1 ()]
              exact this
            · refine rt_jn (rt_neg hg ?_)
              rw [if_neg hg] at hV
              refine rt_as (by simp (disch := omega) only [true_and, and_true, sM_ne, sM_eq, sM_neR, sM_eqR, sK_upM, sK_upR, sL_upM, sL_upR, sN_upM, sN_upR, sT_upM, sT_upR, sN_upM, Int.reduceAdd, Int.reduceMul, Int.reduceSub, Int.reduceNeg, Int.zero_add, Int.add_zero, hF.c]) (by simp (disch := omega) only [true_and, and_true, sM_ne, sM_eq, sM_neR, sM_eqR, sK_upM, sK_upR, sL_upM, sL_upR, sN_upM, sN_upR, sT_upM, sT_upR, sN_upM, Int.reduceAdd, Int.reduceMul, Int.reduceSub, Int.reduceNeg, Int.zero_add, Int.add_zero, hF.c, ed ()]; omega) ?_
              have := next d ((d : Int) - 1) _ _ hd64 d2 hV (hst' _)
              simp only [ed ()]
              rw [ed1 ()]
              exact this
          · refine rt_neg hn ?_
            rw [if_neg hn] at hV
            refine rt_alx (x := g ((d : Int) - 1)) (by simp (disch := omega) only [true_and, and_true, sM_ne, sM_eq, sM_neR, sM_eqR, sK_upM, sK_upR, sL_upM, sL_upR, sN_upM, sN_upR, sT_upM, sT_upR, sN_upM, Int.reduceAdd, Int.reduceMul, Int.reduceSub, Int.reduceNeg, Int.zero_add, Int.add_zero, hF.c]) (by simp (disch := omega) only [true_and, and_true, sM_ne, sM_eq, sM_neR, sM_eqR, sK_upM, sK_upR, sL_upM, sL_upR, sN_upM, sN_upR, sT_upM, sT_upR, sN_upM, Int.reduceAdd, Int.reduceMul, Int.reduceSub, Int.reduceNeg, Int.zero_add, Int.add_zero, hF.c, ed ()]; omega) (by rw [ed (), hs1 ()]) ?_
            refine rt_as (by simp (disch := omega) only [true_and, and_true, sM_ne, sM_eq, sM_neR, sM_eqR, sK_upM, sK_upR, sL_upM, sL_upR, sN_upM, sN_upR, sT_upM, sT_upR, sN_upM, Int.reduceAdd, Int.reduceMul, Int.reduceSub, Int.reduceNeg, Int.zero_add, Int.add_zero, hF.c]) (by simp (disch := omega) only [true_and, and_true, sM_ne, sM_eq, sM_neR, sM_eqR, sK_upM, sK_upR, sL_upM, sL_upR, sN_upM, sN_upR, sT_upM, sT_upR, sN_upM, Int.reduceAdd, Int.reduceMul, Int.reduceSub, Int.reduceNeg, Int.zero_add, Int.add_zero, hF.c, ed ()]; omega) ?_
            have := next d ((d : Int) - 1) _ _ hd64 d2 hV (hst' _)
            simp only [ed ()]
            rw [ed1 ()]
            exact this
/-- what a text comes to, bound -/
def bnd (x : Int) : Int := if x ≤ 9999 then (if -9999 ≤ x then x else -9999) else 9999
theorem f_amount {σ : ZS} (hF : FxD σ) {A : Int} {f : Int → Int} (hA : A ≠ 32) (hk : sK σ A = 100) (h0 : 0 ≤ sL σ A) (h1 : sL σ A ≤ 200) (hd : dpk 0 (rowL (sM σ A) (sL σ A).toNat) = true) (hf : ∀ j : Int, 0 ≤ j → j < 6 → sM σ 31 j = f j) : Rt (fX8_amount σ A 31 32) (fun v τ => v = bnd (evg f (rowL (sM σ A) (sL σ A).toNat) 0 (fun _ => 0)) ∧ Ch (fun a _ => a = 32) σ τ) := by
  unfold fX8_amount
  refine l_amount (σ := σ) (V := evg f (rowL (sM σ A) (sL σ A).toNat) 0 (fun _ => 0)) hA (fun τ hFτ hcτ hv => ?_) 1000 0 0 σ (fun _ => 0) hF Ch.rf hk (L := (sL σ A).toNat) (by omega) rfl hf (by omega) (by omega) (by omega) (by omega) (by rw [List.drop_zero]; exact hd) (fun j j0 j1 => by omega) (by rw [List.drop_zero]; rfl)
  refine rt_alx (x := evg f (rowL (sM σ A) (sL σ A).toNat) 0 (fun _ => 0)) (by simp (disch := omega) only [true_and, and_true, sM_ne, sM_eq, sM_neR, sM_eqR, sK_upM, sK_upR, sL_upM, sL_upR, sN_upM, sN_upR, sT_upM, sT_upR, sN_upM, Int.reduceAdd, Int.reduceMul, Int.reduceSub, Int.reduceNeg, Int.zero_add, Int.add_zero, hFτ.c]) (by simp (disch := omega) only [true_and, and_true, sM_ne, sM_eq, sM_neR, sM_eqR, sK_upM, sK_upR, sL_upM, sL_upR, sN_upM, sN_upR, sT_upM, sT_upR, sN_upM, Int.reduceAdd, Int.reduceMul, Int.reduceSub, Int.reduceNeg, Int.zero_add, Int.add_zero, hFτ.c]; omega) hv (rt_ret ⟨?_, hcτ⟩)
  unfold imax imin bnd
  (repeat' split) <;> omega
