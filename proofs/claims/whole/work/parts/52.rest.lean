/-! who would be better off otherwise -/
def lsF (f : Int → Int) (own : Int) : Nat → Int
  | 0 => own
  | n + 1 => if f (n : Int) < lsF f own n then f (n : Int) else lsF f own n
def btF (f : Int → Int) (own b0 : Int) : Nat → Int
  | 0 => b0
  | n + 1 => if f (n : Int) < lsF f own n then (n : Int) else btF f own b0 n
theorem bt_ind {f : Int → Int} {own b b' : Int} : ∀ n : Nat, lsF f own n ≠ own → btF f own b n = btF f own b' n
  | 0, h => absurd rfl h
  | n + 1, h => by
    unfold btF
    by_cases e : f (n : Int) < lsF f own n
    · rw [if_pos e, if_pos e]
    · rw [if_neg e, if_neg e]
      unfold lsF at h
      rw [if_neg e] at h
      exact bt_ind n h
theorem ls_le {f : Int → Int} {own : Int} : ∀ n : Nat, lsF f own n ≤ own
  | 0 => Int.le_refl _
  | n + 1 => by
    have := ls_le (f := f) (own := own) n
    unfold lsF
    split <;> omega
theorem bt_in {f : Int → Int} {own b : Int} : ∀ n : Nat, btF f own b n = b ∨ (0 ≤ btF f own b n ∧ btF f own b n < (n : Int))
  | 0 => Or.inl rfl
  | n + 1 => by
    have := bt_in (f := f) (own := own) (b := b) n
    unfold btF
    split
    · right; omega
    · omega
theorem bt_lt {f : Int → Int} {own b : Int} : ∀ n : Nat, lsF f own n < own → 0 ≤ btF f own b n ∧ btF f own b n < (n : Int)
  | 0, h => by unfold lsF at h; omega
  | n + 1, h => by
    unfold btF
    unfold lsF at h
    by_cases e : f (n : Int) < lsF f own n
    · rw [if_pos e]; omega
    · rw [if_neg e]
      rw [if_neg e] at h
      have := bt_lt (f := f) (own := own) (b := b) n h
      omega
section RST
variable (n k : Int) (ch so : Int → Int) (ln rt tl : Int → Int → Int) (st wi : Int → Int) (cs : List Int)
def ownV (c : Int) : Int := cIf n k ch so ln rt tl st wi cs c (ch c)
def lesV (c : Int) : Int := lsF (cIf n k ch so ln rt tl st wi cs c) (ownV n k ch so ln rt tl st wi cs c) 49
def betV (c : Int) : Int := btF (cIf n k ch so ln rt tl st wi cs c) (ownV n k ch so ln rt tl st wi cs c) (-1) 49
def rsP (c : Nat) : Bool := decide (lesV n k ch so ln rt tl st wi cs (c : Int) < ownV n k ch so ln rt tl st wi cs (c : Int))
def rsV : Int := fstT (rsP n k ch so ln rt tl st wi cs) n.toNat
end RST
theorem rsV_in {n k : Int} {ch so : Int → Int} {ln rt tl : Int → Int → Int} {st wi : Int → Int} {cs : List Int} : rsV n k ch so ln rt tl st wi cs = -1 ∨ (0 ≤ rsV n k ch so ln rt tl st wi cs ∧ rsV n k ch so ln rt tl st wi cs < n ∧ lesV n k ch so ln rt tl st wi cs (rsV n k ch so ln rt tl st wi cs) < ownV n k ch so ln rt tl st wi cs (rsV n k ch so ln rt tl st wi cs)) := by
  have : ∀ m : Nat, fstT (rsP n k ch so ln rt tl st wi cs) m = -1 ∨ (0 ≤ fstT (rsP n k ch so ln rt tl st wi cs) m ∧ fstT (rsP n k ch so ln rt tl st wi cs) m < (m : Int) ∧ lesV n k ch so ln rt tl st wi cs (fstT (rsP n k ch so ln rt tl st wi cs) m) < ownV n k ch so ln rt tl st wi cs (fstT (rsP n k ch so ln rt tl st wi cs) m)) := by
    intro m
    induction m with
    | zero => exact Or.inl rfl
    | succ m ih =>
      unfold fstT
      by_cases e : fstT (rsP n k ch so ln rt tl st wi cs) m = -1 ∧ rsP n k ch so ln rt tl st wi cs m = true
      · rw [if_pos e]
        have := e.2
        unfold rsP at this
        rw [decide_eq_true_eq] at this
        exact Or.inr ⟨by omega, by omega, this⟩
      · rw [if_neg e]
        rcases ih with ih | ⟨a, b, c⟩
        · exact Or.inl ih
        · exact Or.inr ⟨a, by omega, c⟩
  rcases this n.toNat with h | ⟨a, b, c⟩
  · exact Or.inl h
  · exact Or.inr ⟨a, by unfold rsV; omega, c⟩
def frS (a i : Int) : Prop := (31 ≤ a ∧ a ≤ 32) ∨ (a = 3 ∧ i = 15)
theorem frS_ln : ∀ a i, frS a i → lnS a i := by
  intro a i h
  unfold frS at h
  unfold lnS
  omega
theorem Gth.ch {σ τ : ZS} (hF : FxD σ) {n k w : Int} {ch so : Int → Int} {ln : Int → Int → Int} (h : Gth σ n k w ch so ln) (c : Ch frS σ τ) : Gth τ n k w ch so ln := by
  have h9 := hF.2.2.2
  refine ⟨fun j j0 j1 => ?_, fun g g0 g1 => ⟨?_, ?_⟩⟩
  · rw [c.M (by omega) (by unfold frS; omega)]; exact h.1 j j0 j1
  · exact (h.2 g g0 g1).1.ch hF g0 g1 c (fun i => by unfold frS; omega) (fun i => by unfold frS; omega) (by unfold frS; omega)
  · exact (h.2 g g0 g1).2.ch hF g0 g1 c (fun i => by unfold frS; omega)
theorem l_fr54 {σ : ZS} {W n k T : Int} {ch so : Int → Int} {ln rt tl : Int → Int → Int} {st wi : Int → Int} {cs ls : List Int} {c own b0 : Int} {K : ZS → Int → Option (Int × ZS)} {P : Int → ZS → Prop} (c0 : 0 ≤ c) (c1 : c < n)
    (hK : ∀ τ : ZS, LV τ W n k ch so ln rt → CV τ T tl st wi cs ls → Ch frS σ τ → sM τ 3 15 = btF (cIf n k ch so ln rt tl st wi cs c) own b0 49 → Rt (K τ (lsF (cIf n k ch so ln rt tl st wi cs c) own 49)) P) :
    ∀ (N x : Nat) (s : ZS), LV s W n k ch so ln rt → CV s T tl st wi cs ls → Gth s n k c ch so ln → Ch frS σ s → x ≤ 49 → 49 - x < N → sM s 3 15 = btF (cIf n k ch so ln rt tl st wi cs c) own b0 x → Rt (lX11_findRestless_54 3 W T c own K N s (lsF (cIf n k ch so ln rt tl st wi cs c) own x) (x : Int)) P
  | 0, x, s, _, _, _, _, _, h, _ => by omega
  | N + 1, x, s, hV, hC, hG, hc, hx, hN, hb => by
    have hF := hV.1
    rw [lX11_findRestless_54]
    by_cases he : (48 : Int) < (x : Int)
    · have : x = 49 := by omega
      subst this
      exact rt_pos he (hK s hV hC hc hb)
    · refine rt_neg he ?_
      replace hb := hd hb
      repeat (first
    | with_reducible refine rt_b ?_
    | with_reducible refine rt_jn ?_
    | ((with_reducible refine rt_pos ?_ ?_); (· first | omega | ((try simp (disch := omega) only [wr, true_and, and_true, sM_ne, sM_eq, sM_neR, sM_eqR, sK_upM, sK_upR, sL_upM, sL_upR, sN_upM, sN_upR, sT_upM, sT_upR, sN_upM, Int.reduceAdd, Int.reduceMul, Int.reduceSub, Int.reduceNeg, Int.zero_add, Int.add_zero, hF.c]) <;> omega)))
    | ((with_reducible refine rt_neg ?_ ?_); (· first | omega | ((try simp (disch := omega) only [wr, true_and, and_true, sM_ne, sM_eq, sM_neR, sM_eqR, sK_upM, sK_upR, sL_upM, sL_upR, sN_upM, sN_upR, sT_upM, sT_upR, sN_upM, Int.reduceAdd, Int.reduceMul, Int.reduceSub, Int.reduceNeg, Int.zero_add, Int.add_zero, hF.c]) <;> omega)))
    | ((with_reducible refine rt_v ?_ ?_); · simp (disch := omega) only [true_and, and_true, sM_ne, sM_eq, sM_neR, sM_eqR, sK_upM, sK_upR, sL_upM, sL_upR, sN_upM, sN_upR, sT_upM, sT_upR, sN_upM, Int.reduceAdd, Int.reduceMul, Int.reduceSub, Int.reduceNeg, Int.zero_add, Int.add_zero, hF.c])
    | ((with_reducible apply rt_gx); (· simp (disch := omega) only [true_and, and_true, sM_ne, sM_eq, sM_neR, sM_eqR, sK_upM, sK_upR, sL_upM, sL_upR, sN_upM, sN_upR, sT_upM, sT_upR, sN_upM, Int.reduceAdd, Int.reduceMul, Int.reduceSub, Int.reduceNeg, Int.zero_add, Int.add_zero, hF.c]); (· (try simp (disch := omega) only [wr, true_and, and_true, sM_ne, sM_eq, sM_neR, sM_eqR, sK_upM, sK_upR, sL_upM, sL_upR, sN_upM, sN_upR, sT_upM, sT_upR, sN_upM, Int.reduceAdd, Int.reduceMul, Int.reduceSub, Int.reduceNeg, Int.zero_add, Int.add_zero, hF.c]); exact rfl))
    | ((with_reducible apply rt_alx); (· simp (disch := omega) only [true_and, and_true, sM_ne, sM_eq, sM_neR, sM_eqR, sK_upM, sK_upR, sL_upM, sL_upR, sN_upM, sN_upR, sT_upM, sT_upR, sN_upM, Int.reduceAdd, Int.reduceMul, Int.reduceSub, Int.reduceNeg, Int.zero_add, Int.add_zero, hF.c]); (· first | omega | ((try simp (disch := omega) only [wr, true_and, and_true, sM_ne, sM_eq, sM_neR, sM_eqR, sK_upM, sK_upR, sL_upM, sL_upR, sN_upM, sN_upR, sT_upM, sT_upR, sN_upM, Int.reduceAdd, Int.reduceMul, Int.reduceSub, Int.reduceNeg, Int.zero_add, Int.add_zero, hF.c]) <;> omega)); (· (try simp (disch := omega) only [wr, true_and, and_true, sM_ne, sM_eq, sM_neR, sM_eqR, sK_upM, sK_upR, sL_upM, sL_upR, sN_upM, sN_upR, sT_upM, sT_upR, sN_upM, Int.reduceAdd, Int.reduceMul, Int.reduceSub, Int.reduceNeg, Int.zero_add, Int.add_zero, hF.c]); exact rfl))
    | ((with_reducible refine rt_as ?_ ?_ ?_); (· simp (disch := omega) only [true_and, and_true, sM_ne, sM_eq, sM_neR, sM_eqR, sK_upM, sK_upR, sL_upM, sL_upR, sN_upM, sN_upR, sT_upM, sT_upR, sN_upM, Int.reduceAdd, Int.reduceMul, Int.reduceSub, Int.reduceNeg, Int.zero_add, Int.add_zero, hF.c]); (· first | omega | ((try simp (disch := omega) only [wr, true_and, and_true, sM_ne, sM_eq, sM_neR, sM_eqR, sK_upM, sK_upR, sL_upM, sL_upR, sN_upM, sN_upR, sT_upM, sT_upR, sN_upM, Int.reduceAdd, Int.reduceMul, Int.reduceSub, Int.reduceNeg, Int.zero_add, Int.add_zero, hF.c]) <;> omega)))
    | ((with_reducible refine rt_p ?_ ?_ ?_); (· simp (disch := omega) only [true_and, and_true, sM_ne, sM_eq, sM_neR, sM_eqR, sK_upM, sK_upR, sL_upM, sL_upR, sN_upM, sN_upR, sT_upM, sT_upR, sN_upM, Int.reduceAdd, Int.reduceMul, Int.reduceSub, Int.reduceNeg, Int.zero_add, Int.add_zero, hF.c]); (· omega))
    | with_reducible refine rt_ret ?_
    | ((with_reducible apply rt_gwx); (· assumption); (· (try simp (disch := omega) only [wr, true_and, and_true, sM_ne, sM_eq, sM_neR, sM_eqR, sK_upM, sK_upR, sL_upM, sL_upR, sN_upM, sN_upR, sT_upM, sT_upR, sN_upM, Int.reduceAdd, Int.reduceMul, Int.reduceSub, Int.reduceNeg, Int.zero_add, Int.add_zero, hF.c]); exact rfl)))
      refine Rt.mono (f_costIf hV hC hG c0 c1 (x := (x : Int)) (by omega) (by omega)) ?_
      rintro v τ ⟨e, hcτ⟩
      have hcτ' : Ch frS s τ := hcτ.mono (fun a i q => Or.inl q)
      have hVτ := hV.ch (hcτ'.mono frS_ln)
      have hCτ := hC.ch hF (hcτ'.mono frS_ln)
      have hGτ := hG.ch hF hcτ'
      have hFτ := hVτ.1
      have hbτ := hd (show sM τ 3 15 = btF (cIf n k ch so ln rt tl st wi cs c) own b0 x by rw [hcτ.M (by have := hF.2.2.2; omega) (by unfold csS; omega)]; exact hb ())
      have sl := hd (show lsF (cIf n k ch so ln rt tl st wi cs c) own (x + 1) = if cIf n k ch so ln rt tl st wi cs c (x : Int) < lsF (cIf n k ch so ln rt tl st wi cs c) own x then cIf n k ch so ln rt tl st wi cs c (x : Int) else lsF (cIf n k ch so ln rt tl st wi cs c) own x from rfl)
      have sb := hd (show btF (cIf n k ch so ln rt tl st wi cs c) own b0 (x + 1) = if cIf n k ch so ln rt tl st wi cs c (x : Int) < lsF (cIf n k ch so ln rt tl st wi cs c) own x then (x : Int) else btF (cIf n k ch so ln rt tl st wi cs c) own b0 x from rfl)
      rw [← e] at sl sb
      by_cases hlt : lsF (cIf n k ch so ln rt tl st wi cs c) own x ≤ v
      · refine rt_jn (rt_pos hlt ?_)
        have := l_fr54 c0 c1 hK N (x + 1) τ hVτ hCτ hGτ (hc.tr hcτ') (by omega) (by omega) (by rw [sb (), if_neg (by omega)]; exact hbτ ())
        rw [sl (), if_neg (by omega)] at this
        show Rt (lX11_findRestless_54 3 W T c own K N τ (lsF (cIf n k ch so ln rt tl st wi cs c) own x) (wrap ((x : Int) + 1))) P
        rw [wr1 x (by omega)]
        exact this
      · refine rt_jn (rt_neg hlt ?_)
        refine rt_p (by simp (disch := omega) only [true_and, and_true, sM_ne, sM_eq, sM_neR, sM_eqR, sK_upM, sK_upR, sL_upM, sL_upR, sN_upM, sN_upR, sT_upM, sT_upR, sN_upM, Int.reduceAdd, Int.reduceMul, Int.reduceSub, Int.reduceNeg, Int.zero_add, Int.add_zero, hFτ.c]) (by omega) ?_
        have hc2 : Ch frS τ (upM τ 3 15 (x : Int)) := Ch.rf.up (Or.inr ⟨rfl, rfl⟩)
        have := l_fr54 c0 c1 hK N (x + 1) (upM τ 3 15 (x : Int)) (hVτ.ch (hc2.mono frS_ln)) (hCτ.ch hFτ (hc2.mono frS_ln)) (hGτ.ch hFτ hc2) ((hc.tr hcτ').tr hc2) (by omega) (by omega) (by rw [sb (), if_pos (by omega), sM_eq ⟨rfl, rfl⟩])
        rw [sl (), if_pos (by omega)] at this
        show Rt (lX11_findRestless_54 3 W T c own K N (upM τ 3 15 (x : Int)) v (wrap ((x : Int) + 1))) P
        rw [wr1 x (by omega)]
        exact this
theorem l_fr12 {σ : ZS} {W n k T : Int} {ch so : Int → Int} {ln rt tl : Int → Int → Int} {st wi : Int → Int} {cs ls : List Int} {K : ZS → Int → Int → Int → Option (Int × ZS)} {P : Int → ZS → Prop}
    (hno : rsV n k ch so ln rt tl st wi cs = -1 → ∀ τ : ZS, Ch lnS σ τ → P (-1) τ)
    (hK : ∀ (τ : ZS) (c : Int), LV τ W n k ch so ln rt → Ch lnS σ τ → rsV n k ch so ln rt tl st wi cs = c → 0 ≤ c → sM τ 3 15 = betV n k ch so ln rt tl st wi cs c → Rt (K τ c (ownV n k ch so ln rt tl st wi cs c) (lesV n k ch so ln rt tl st wi cs c)) P) :
    ∀ (N c : Nat) (s : ZS), LV s W n k ch so ln rt → CV s T tl st wi cs ls → Ch lnS σ s → (c : Int) ≤ n → n - (c : Int) < (N : Int) → fstT (rsP n k ch so ln rt tl st wi cs) c = -1 → Rt (lX11_findRestless_12 3 W T K N s (c : Int)) P
  | 0, c, s, _, _, _, h1, h2, _ => by omega
  | N + 1, c, s, hV, hC, hc, h1, h2, hf => by
    have hV0 := hV
    obtain ⟨hF, ⟨w1, w2⟩, ⟨k0, k5, kk⟩, ⟨n1, n2, n3⟩, p1, ⟨q1, q2⟩, a1, a2, a3, a4⟩ := hV
    have hw : wkn s W := wk_w kk k0 k5
    replace n1 := hd n1
    replace p1 := hd p1
    replace q1 := hd q1
    replace q2 := hd q2
    rw [lX11_findRestless_12]
    repeat (first
    | with_reducible refine rt_b ?_
    | with_reducible refine rt_jn ?_
    | ((with_reducible refine rt_pos ?_ ?_); (· first | omega | ((try simp (disch := omega) only [wr, true_and, and_true, sM_ne, sM_eq, sM_neR, sM_eqR, sK_upM, sK_upR, sL_upM, sL_upR, sN_upM, sN_upR, sT_upM, sT_upR, sN_upM, Int.reduceAdd, Int.reduceMul, Int.reduceSub, Int.reduceNeg, Int.zero_add, Int.add_zero, hF.c, n1 ()]) <;> omega)))
    | ((with_reducible refine rt_neg ?_ ?_); (· first | omega | ((try simp (disch := omega) only [wr, true_and, and_true, sM_ne, sM_eq, sM_neR, sM_eqR, sK_upM, sK_upR, sL_upM, sL_upR, sN_upM, sN_upR, sT_upM, sT_upR, sN_upM, Int.reduceAdd, Int.reduceMul, Int.reduceSub, Int.reduceNeg, Int.zero_add, Int.add_zero, hF.c, n1 ()]) <;> omega)))
    | ((with_reducible refine rt_v ?_ ?_); · simp (disch := omega) only [true_and, and_true, sM_ne, sM_eq, sM_neR, sM_eqR, sK_upM, sK_upR, sL_upM, sL_upR, sN_upM, sN_upR, sT_upM, sT_upR, sN_upM, Int.reduceAdd, Int.reduceMul, Int.reduceSub, Int.reduceNeg, Int.zero_add, Int.add_zero, hF.c, n1 ()])
    | ((with_reducible apply rt_gx); (· simp (disch := omega) only [true_and, and_true, sM_ne, sM_eq, sM_neR, sM_eqR, sK_upM, sK_upR, sL_upM, sL_upR, sN_upM, sN_upR, sT_upM, sT_upR, sN_upM, Int.reduceAdd, Int.reduceMul, Int.reduceSub, Int.reduceNeg, Int.zero_add, Int.add_zero, hF.c, n1 ()]); (· (try simp (disch := omega) only [wr, true_and, and_true, sM_ne, sM_eq, sM_neR, sM_eqR, sK_upM, sK_upR, sL_upM, sL_upR, sN_upM, sN_upR, sT_upM, sT_upR, sN_upM, Int.reduceAdd, Int.reduceMul, Int.reduceSub, Int.reduceNeg, Int.zero_add, Int.add_zero, hF.c, n1 ()]); exact rfl))
    | ((with_reducible apply rt_alx); (· simp (disch := omega) only [true_and, and_true, sM_ne, sM_eq, sM_neR, sM_eqR, sK_upM, sK_upR, sL_upM, sL_upR, sN_upM, sN_upR, sT_upM, sT_upR, sN_upM, Int.reduceAdd, Int.reduceMul, Int.reduceSub, Int.reduceNeg, Int.zero_add, Int.add_zero, hF.c, n1 ()]); (· first | omega | ((try simp (disch := omega) only [wr, true_and, and_true, sM_ne, sM_eq, sM_neR, sM_eqR, sK_upM, sK_upR, sL_upM, sL_upR, sN_upM, sN_upR, sT_upM, sT_upR, sN_upM, Int.reduceAdd, Int.reduceMul, Int.reduceSub, Int.reduceNeg, Int.zero_add, Int.add_zero, hF.c, n1 ()]) <;> omega)); (· (try simp (disch := omega) only [wr, true_and, and_true, sM_ne, sM_eq, sM_neR, sM_eqR, sK_upM, sK_upR, sL_upM, sL_upR, sN_upM, sN_upR, sT_upM, sT_upR, sN_upM, Int.reduceAdd, Int.reduceMul, Int.reduceSub, Int.reduceNeg, Int.zero_add, Int.add_zero, hF.c, n1 ()]); exact rfl))
    | ((with_reducible refine rt_as ?_ ?_ ?_); (· simp (disch := omega) only [true_and, and_true, sM_ne, sM_eq, sM_neR, sM_eqR, sK_upM, sK_upR, sL_upM, sL_upR, sN_upM, sN_upR, sT_upM, sT_upR, sN_upM, Int.reduceAdd, Int.reduceMul, Int.reduceSub, Int.reduceNeg, Int.zero_add, Int.add_zero, hF.c, n1 ()]); (· first | omega | ((try simp (disch := omega) only [wr, true_and, and_true, sM_ne, sM_eq, sM_neR, sM_eqR, sK_upM, sK_upR, sL_upM, sL_upR, sN_upM, sN_upR, sT_upM, sT_upR, sN_upM, Int.reduceAdd, Int.reduceMul, Int.reduceSub, Int.reduceNeg, Int.zero_add, Int.add_zero, hF.c, n1 ()]) <;> omega)))
    | ((with_reducible refine rt_p ?_ ?_ ?_); (· simp (disch := omega) only [true_and, and_true, sM_ne, sM_eq, sM_neR, sM_eqR, sK_upM, sK_upR, sL_upM, sL_upR, sN_upM, sN_upR, sT_upM, sT_upR, sN_upM, Int.reduceAdd, Int.reduceMul, Int.reduceSub, Int.reduceNeg, Int.zero_add, Int.add_zero, hF.c, n1 ()]); (· omega))
    | with_reducible refine rt_ret ?_
    | ((with_reducible apply rt_gwx); (· assumption); (· (try simp (disch := omega) only [wr, true_and, and_true, sM_ne, sM_eq, sM_neR, sM_eqR, sK_upM, sK_upR, sL_upM, sL_upR, sN_upM, sN_upR, sT_upM, sT_upR, sN_upM, Int.reduceAdd, Int.reduceMul, Int.reduceSub, Int.reduceNeg, Int.zero_add, Int.add_zero, hF.c, n1 ()]); exact rfl)))
    by_cases he : n ≤ (c : Int)
    · refine rt_pos he (rt_ret (hno ?_ s hc))
      unfold rsV
      rw [show n.toNat = c by omega]
      exact hf
    · refine rt_neg he ?_
      repeat (first
    | with_reducible refine rt_b ?_
    | with_reducible refine rt_jn ?_
    | ((with_reducible refine rt_pos ?_ ?_); (· first | omega | ((try simp (disch := omega) only [wr, true_and, and_true, sM_ne, sM_eq, sM_neR, sM_eqR, sK_upM, sK_upR, sL_upM, sL_upR, sN_upM, sN_upR, sT_upM, sT_upR, sN_upM, Int.reduceAdd, Int.reduceMul, Int.reduceSub, Int.reduceNeg, Int.zero_add, Int.add_zero, hF.c]) <;> omega)))
    | ((with_reducible refine rt_neg ?_ ?_); (· first | omega | ((try simp (disch := omega) only [wr, true_and, and_true, sM_ne, sM_eq, sM_neR, sM_eqR, sK_upM, sK_upR, sL_upM, sL_upR, sN_upM, sN_upR, sT_upM, sT_upR, sN_upM, Int.reduceAdd, Int.reduceMul, Int.reduceSub, Int.reduceNeg, Int.zero_add, Int.add_zero, hF.c]) <;> omega)))
    | ((with_reducible refine rt_v ?_ ?_); · simp (disch := omega) only [true_and, and_true, sM_ne, sM_eq, sM_neR, sM_eqR, sK_upM, sK_upR, sL_upM, sL_upR, sN_upM, sN_upR, sT_upM, sT_upR, sN_upM, Int.reduceAdd, Int.reduceMul, Int.reduceSub, Int.reduceNeg, Int.zero_add, Int.add_zero, hF.c])
    | ((with_reducible apply rt_gx); (· simp (disch := omega) only [true_and, and_true, sM_ne, sM_eq, sM_neR, sM_eqR, sK_upM, sK_upR, sL_upM, sL_upR, sN_upM, sN_upR, sT_upM, sT_upR, sN_upM, Int.reduceAdd, Int.reduceMul, Int.reduceSub, Int.reduceNeg, Int.zero_add, Int.add_zero, hF.c]); (· (try simp (disch := omega) only [wr, true_and, and_true, sM_ne, sM_eq, sM_neR, sM_eqR, sK_upM, sK_upR, sL_upM, sL_upR, sN_upM, sN_upR, sT_upM, sT_upR, sN_upM, Int.reduceAdd, Int.reduceMul, Int.reduceSub, Int.reduceNeg, Int.zero_add, Int.add_zero, hF.c]); exact rfl))
    | ((with_reducible apply rt_alx); (· simp (disch := omega) only [true_and, and_true, sM_ne, sM_eq, sM_neR, sM_eqR, sK_upM, sK_upR, sL_upM, sL_upR, sN_upM, sN_upR, sT_upM, sT_upR, sN_upM, Int.reduceAdd, Int.reduceMul, Int.reduceSub, Int.reduceNeg, Int.zero_add, Int.add_zero, hF.c]); (· first | omega | ((try simp (disch := omega) only [wr, true_and, and_true, sM_ne, sM_eq, sM_neR, sM_eqR, sK_upM, sK_upR, sL_upM, sL_upR, sN_upM, sN_upR, sT_upM, sT_upR, sN_upM, Int.reduceAdd, Int.reduceMul, Int.reduceSub, Int.reduceNeg, Int.zero_add, Int.add_zero, hF.c]) <;> omega)); (· (try simp (disch := omega) only [wr, true_and, and_true, sM_ne, sM_eq, sM_neR, sM_eqR, sK_upM, sK_upR, sL_upM, sL_upR, sN_upM, sN_upR, sT_upM, sT_upR, sN_upM, Int.reduceAdd, Int.reduceMul, Int.reduceSub, Int.reduceNeg, Int.zero_add, Int.add_zero, hF.c]); exact rfl))
    | ((with_reducible refine rt_as ?_ ?_ ?_); (· simp (disch := omega) only [true_and, and_true, sM_ne, sM_eq, sM_neR, sM_eqR, sK_upM, sK_upR, sL_upM, sL_upR, sN_upM, sN_upR, sT_upM, sT_upR, sN_upM, Int.reduceAdd, Int.reduceMul, Int.reduceSub, Int.reduceNeg, Int.zero_add, Int.add_zero, hF.c]); (· first | omega | ((try simp (disch := omega) only [wr, true_and, and_true, sM_ne, sM_eq, sM_neR, sM_eqR, sK_upM, sK_upR, sL_upM, sL_upR, sN_upM, sN_upR, sT_upM, sT_upR, sN_upM, Int.reduceAdd, Int.reduceMul, Int.reduceSub, Int.reduceNeg, Int.zero_add, Int.add_zero, hF.c]) <;> omega)))
    | ((with_reducible refine rt_p ?_ ?_ ?_); (· simp (disch := omega) only [true_and, and_true, sM_ne, sM_eq, sM_neR, sM_eqR, sK_upM, sK_upR, sL_upM, sL_upR, sN_upM, sN_upR, sT_upM, sT_upR, sN_upM, Int.reduceAdd, Int.reduceMul, Int.reduceSub, Int.reduceNeg, Int.zero_add, Int.add_zero, hF.c]); (· omega))
    | with_reducible refine rt_ret ?_
    | ((with_reducible apply rt_gwx); (· assumption); (· (try simp (disch := omega) only [wr, true_and, and_true, sM_ne, sM_eq, sM_neR, sM_eqR, sK_upM, sK_upR, sL_upM, sL_upR, sN_upM, sN_upR, sT_upM, sT_upR, sN_upM, Int.reduceAdd, Int.reduceMul, Int.reduceSub, Int.reduceNeg, Int.zero_add, Int.add_zero, hF.c]); exact rfl)))
      refine Rt.mono (f_gather (w := (c : Int)) hV0) ?_
      rintro v τ ⟨hcτ, hG⟩
      have hVτ := hV0.ch hcτ
      have hCτ := hC.ch hF hcτ
      have hVτ0 := hVτ
      obtain ⟨hFτ, ⟨-, w2'⟩, ⟨-, -, kk'⟩, ⟨n1', -, -⟩, p1', ⟨q1', q2'⟩, a1', -⟩ := hVτ
      have hw' : wkn τ W := wk_w kk' k0 k5
      obtain ⟨x1, x2, x3⟩ := a1' (c : Int) (by omega) (by omega)
      replace x1 := hd x1
      replace n1' := hd n1'
      replace p1' := hd p1'
      replace q1' := hd q1'
      replace q2' := hd q2'
      repeat (first
    | with_reducible refine rt_b ?_
    | with_reducible refine rt_jn ?_
    | ((with_reducible refine rt_pos ?_ ?_); (· first | omega | ((try simp (disch := omega) only [wr, true_and, and_true, sM_ne, sM_eq, sM_neR, sM_eqR, sK_upM, sK_upR, sL_upM, sL_upR, sN_upM, sN_upR, sT_upM, sT_upR, sN_upM, Int.reduceAdd, Int.reduceMul, Int.reduceSub, Int.reduceNeg, Int.zero_add, Int.add_zero, hFτ.c, p1' (), q1' (), q2' (), x1 ()]) <;> omega)))
    | ((with_reducible refine rt_neg ?_ ?_); (· first | omega | ((try simp (disch := omega) only [wr, true_and, and_true, sM_ne, sM_eq, sM_neR, sM_eqR, sK_upM, sK_upR, sL_upM, sL_upR, sN_upM, sN_upR, sT_upM, sT_upR, sN_upM, Int.reduceAdd, Int.reduceMul, Int.reduceSub, Int.reduceNeg, Int.zero_add, Int.add_zero, hFτ.c, p1' (), q1' (), q2' (), x1 ()]) <;> omega)))
    | ((with_reducible refine rt_v ?_ ?_); · simp (disch := omega) only [true_and, and_true, sM_ne, sM_eq, sM_neR, sM_eqR, sK_upM, sK_upR, sL_upM, sL_upR, sN_upM, sN_upR, sT_upM, sT_upR, sN_upM, Int.reduceAdd, Int.reduceMul, Int.reduceSub, Int.reduceNeg, Int.zero_add, Int.add_zero, hFτ.c, p1' (), q1' (), q2' (), x1 ()])
    | ((with_reducible apply rt_gx); (· simp (disch := omega) only [true_and, and_true, sM_ne, sM_eq, sM_neR, sM_eqR, sK_upM, sK_upR, sL_upM, sL_upR, sN_upM, sN_upR, sT_upM, sT_upR, sN_upM, Int.reduceAdd, Int.reduceMul, Int.reduceSub, Int.reduceNeg, Int.zero_add, Int.add_zero, hFτ.c, p1' (), q1' (), q2' (), x1 ()]); (· (try simp (disch := omega) only [wr, true_and, and_true, sM_ne, sM_eq, sM_neR, sM_eqR, sK_upM, sK_upR, sL_upM, sL_upR, sN_upM, sN_upR, sT_upM, sT_upR, sN_upM, Int.reduceAdd, Int.reduceMul, Int.reduceSub, Int.reduceNeg, Int.zero_add, Int.add_zero, hFτ.c, p1' (), q1' (), q2' (), x1 ()]); exact rfl))
    | ((with_reducible apply rt_alx); (· simp (disch := omega) only [true_and, and_true, sM_ne, sM_eq, sM_neR, sM_eqR, sK_upM, sK_upR, sL_upM, sL_upR, sN_upM, sN_upR, sT_upM, sT_upR, sN_upM, Int.reduceAdd, Int.reduceMul, Int.reduceSub, Int.reduceNeg, Int.zero_add, Int.add_zero, hFτ.c, p1' (), q1' (), q2' (), x1 ()]); (· first | omega | ((try simp (disch := omega) only [wr, true_and, and_true, sM_ne, sM_eq, sM_neR, sM_eqR, sK_upM, sK_upR, sL_upM, sL_upR, sN_upM, sN_upR, sT_upM, sT_upR, sN_upM, Int.reduceAdd, Int.reduceMul, Int.reduceSub, Int.reduceNeg, Int.zero_add, Int.add_zero, hFτ.c, p1' (), q1' (), q2' (), x1 ()]) <;> omega)); (· (try simp (disch := omega) only [wr, true_and, and_true, sM_ne, sM_eq, sM_neR, sM_eqR, sK_upM, sK_upR, sL_upM, sL_upR, sN_upM, sN_upR, sT_upM, sT_upR, sN_upM, Int.reduceAdd, Int.reduceMul, Int.reduceSub, Int.reduceNeg, Int.zero_add, Int.add_zero, hFτ.c, p1' (), q1' (), q2' (), x1 ()]); exact rfl))
    | ((with_reducible refine rt_as ?_ ?_ ?_); (· simp (disch := omega) only [true_and, and_true, sM_ne, sM_eq, sM_neR, sM_eqR, sK_upM, sK_upR, sL_upM, sL_upR, sN_upM, sN_upR, sT_upM, sT_upR, sN_upM, Int.reduceAdd, Int.reduceMul, Int.reduceSub, Int.reduceNeg, Int.zero_add, Int.add_zero, hFτ.c, p1' (), q1' (), q2' (), x1 ()]); (· first | omega | ((try simp (disch := omega) only [wr, true_and, and_true, sM_ne, sM_eq, sM_neR, sM_eqR, sK_upM, sK_upR, sL_upM, sL_upR, sN_upM, sN_upR, sT_upM, sT_upR, sN_upM, Int.reduceAdd, Int.reduceMul, Int.reduceSub, Int.reduceNeg, Int.zero_add, Int.add_zero, hFτ.c, p1' (), q1' (), q2' (), x1 ()]) <;> omega)))
    | ((with_reducible refine rt_p ?_ ?_ ?_); (· simp (disch := omega) only [true_and, and_true, sM_ne, sM_eq, sM_neR, sM_eqR, sK_upM, sK_upR, sL_upM, sL_upR, sN_upM, sN_upR, sT_upM, sT_upR, sN_upM, Int.reduceAdd, Int.reduceMul, Int.reduceSub, Int.reduceNeg, Int.zero_add, Int.add_zero, hFτ.c, p1' (), q1' (), q2' (), x1 ()]); (· omega))
    | with_reducible refine rt_ret ?_
    | ((with_reducible apply rt_gwx); (· assumption); (· (try simp (disch := omega) only [wr, true_and, and_true, sM_ne, sM_eq, sM_neR, sM_eqR, sK_upM, sK_upR, sL_upM, sL_upR, sN_upM, sN_upR, sT_upM, sT_upR, sN_upM, Int.reduceAdd, Int.reduceMul, Int.reduceSub, Int.reduceNeg, Int.zero_add, Int.add_zero, hFτ.c, p1' (), q1' (), q2' (), x1 ()]); exact rfl)))
      refine Rt.mono (f_costIf hVτ0 hCτ hG (c := (c : Int)) (by omega) (by omega) x2 x3) ?_
      rintro own ρ ⟨e, hcρ⟩
      have hcρ' : Ch frS τ ρ := hcρ.mono (fun a i q => Or.inl q)
      have hVρ := hVτ0.ch (hcρ'.mono frS_ln)
      have hCρ := hCτ.ch hFτ (hcρ'.mono frS_ln)
      have hown : own = ownV n k ch so ln rt tl st wi cs (c : Int) := e
      refine l_fr54 (σ := ρ) (c := (c : Int)) (own := own) (b0 := sM ρ 3 15) (by omega) (by omega) (fun π hVπ hCπ hcπ hbπ => ?_) 1000 0 ρ hVρ hCρ (hG.ch hFτ hcρ') Ch.rf (by omega) (by omega) rfl
      have hcall : Ch lnS σ π := ((hc.tr hcτ).tr (hcρ'.mono frS_ln)).tr (hcπ.mono frS_ln)
      have hles : lsF (cIf n k ch so ln rt tl st wi cs (c : Int)) own 49 = lesV n k ch so ln rt tl st wi cs (c : Int) := by rw [hown]; rfl
      have hle := ls_le (f := cIf n k ch so ln rt tl st wi cs (c : Int)) (own := own) 49
      have hsu := hd (show fstT (rsP n k ch so ln rt tl st wi cs) (c + 1) = if fstT (rsP n k ch so ln rt tl st wi cs) c = -1 ∧ rsP n k ch so ln rt tl st wi cs c = true then (c : Int) else fstT (rsP n k ch so ln rt tl st wi cs) c from rfl)
      have hpp : rsP n k ch so ln rt tl st wi cs c = true ↔ lesV n k ch so ln rt tl st wi cs (c : Int) < ownV n k ch so ln rt tl st wi cs (c : Int) := by unfold rsP; rw [decide_eq_true_eq]
      by_cases hlt : own ≤ lsF (cIf n k ch so ln rt tl st wi cs (c : Int)) own 49
      · refine rt_pos hlt ?_
        rw [wr1 c (by omega)]
        refine l_fr12 hno hK N (c + 1) π hVπ hCπ hcall (by omega) (by omega) ?_
        rw [hsu (), if_neg (fun q => by have := hpp.mp q.2; omega)]
        exact hf
      · refine rt_neg hlt ?_
        have hr : rsV n k ch so ln rt tl st wi cs = (c : Int) := by
          have h3 : fstT (rsP n k ch so ln rt tl st wi cs) (c + 1) = (c : Int) := by rw [hsu (), if_pos ⟨hf, hpp.mpr (by omega)⟩]
          unfold rsV
          rw [fst_stay (t := c + 1) (by omega) (by omega), h3]
        have := hK π (c : Int) hVπ hcall hr (by omega) (by
          rw [hbπ]
          unfold betV
          rw [← hown]
          exact bt_ind 49 (by omega))
        rw [hles, hown]
        exact this
theorem f_findRestless {σ : ZS} {W n k T : Int} {ch so : Int → Int} {ln rt tl : Int → Int → Int} {st wi : Int → Int} {cs ls : List Int} (hV : LV σ W n k ch so ln rt) (hC : CV σ T tl st wi cs ls) (hT : TV σ T) : Rt (fX11_findRestless σ 3 W) (fun v τ => v = rsV n k ch so ln rt tl st wi cs ∧ Ch lnS σ τ ∧ (v ≠ -1 → sM τ 3 15 = betV n k ch so ln rt tl st wi cs v ∧ sM τ 3 16 = wrap (ownV n k ch so ln rt tl st wi cs v - lesV n k ch so ln rt tl st wi cs v))) := by
  have hF := hV.1
  have hn := hV.2.2.2.1.2
  have ht := hT.1
  have eT := hd hT.2
  unfold fX11_findRestless
  repeat (first
    | with_reducible refine rt_b ?_
    | with_reducible refine rt_jn ?_
    | ((with_reducible refine rt_pos ?_ ?_); (· first | omega | ((try simp (disch := omega) only [wr, true_and, and_true, sM_ne, sM_eq, sM_neR, sM_eqR, sK_upM, sK_upR, sL_upM, sL_upR, sN_upM, sN_upR, sT_upM, sT_upR, sN_upM, Int.reduceAdd, Int.reduceMul, Int.reduceSub, Int.reduceNeg, Int.zero_add, Int.add_zero, hF.c, eT ()]) <;> omega)))
    | ((with_reducible refine rt_neg ?_ ?_); (· first | omega | ((try simp (disch := omega) only [wr, true_and, and_true, sM_ne, sM_eq, sM_neR, sM_eqR, sK_upM, sK_upR, sL_upM, sL_upR, sN_upM, sN_upR, sT_upM, sT_upR, sN_upM, Int.reduceAdd, Int.reduceMul, Int.reduceSub, Int.reduceNeg, Int.zero_add, Int.add_zero, hF.c, eT ()]) <;> omega)))
    | ((with_reducible refine rt_v ?_ ?_); · simp (disch := omega) only [true_and, and_true, sM_ne, sM_eq, sM_neR, sM_eqR, sK_upM, sK_upR, sL_upM, sL_upR, sN_upM, sN_upR, sT_upM, sT_upR, sN_upM, Int.reduceAdd, Int.reduceMul, Int.reduceSub, Int.reduceNeg, Int.zero_add, Int.add_zero, hF.c, eT ()])
    | ((with_reducible apply rt_gx); (· simp (disch := omega) only [true_and, and_true, sM_ne, sM_eq, sM_neR, sM_eqR, sK_upM, sK_upR, sL_upM, sL_upR, sN_upM, sN_upR, sT_upM, sT_upR, sN_upM, Int.reduceAdd, Int.reduceMul, Int.reduceSub, Int.reduceNeg, Int.zero_add, Int.add_zero, hF.c, eT ()]); (· (try simp (disch := omega) only [wr, true_and, and_true, sM_ne, sM_eq, sM_neR, sM_eqR, sK_upM, sK_upR, sL_upM, sL_upR, sN_upM, sN_upR, sT_upM, sT_upR, sN_upM, Int.reduceAdd, Int.reduceMul, Int.reduceSub, Int.reduceNeg, Int.zero_add, Int.add_zero, hF.c, eT ()]); exact rfl))
    | ((with_reducible apply rt_alx); (· simp (disch := omega) only [true_and, and_true, sM_ne, sM_eq, sM_neR, sM_eqR, sK_upM, sK_upR, sL_upM, sL_upR, sN_upM, sN_upR, sT_upM, sT_upR, sN_upM, Int.reduceAdd, Int.reduceMul, Int.reduceSub, Int.reduceNeg, Int.zero_add, Int.add_zero, hF.c, eT ()]); (· first | omega | ((try simp (disch := omega) only [wr, true_and, and_true, sM_ne, sM_eq, sM_neR, sM_eqR, sK_upM, sK_upR, sL_upM, sL_upR, sN_upM, sN_upR, sT_upM, sT_upR, sN_upM, Int.reduceAdd, Int.reduceMul, Int.reduceSub, Int.reduceNeg, Int.zero_add, Int.add_zero, hF.c, eT ()]) <;> omega)); (· (try simp (disch := omega) only [wr, true_and, and_true, sM_ne, sM_eq, sM_neR, sM_eqR, sK_upM, sK_upR, sL_upM, sL_upR, sN_upM, sN_upR, sT_upM, sT_upR, sN_upM, Int.reduceAdd, Int.reduceMul, Int.reduceSub, Int.reduceNeg, Int.zero_add, Int.add_zero, hF.c, eT ()]); exact rfl))
    | ((with_reducible refine rt_as ?_ ?_ ?_); (· simp (disch := omega) only [true_and, and_true, sM_ne, sM_eq, sM_neR, sM_eqR, sK_upM, sK_upR, sL_upM, sL_upR, sN_upM, sN_upR, sT_upM, sT_upR, sN_upM, Int.reduceAdd, Int.reduceMul, Int.reduceSub, Int.reduceNeg, Int.zero_add, Int.add_zero, hF.c, eT ()]); (· first | omega | ((try simp (disch := omega) only [wr, true_and, and_true, sM_ne, sM_eq, sM_neR, sM_eqR, sK_upM, sK_upR, sL_upM, sL_upR, sN_upM, sN_upR, sT_upM, sT_upR, sN_upM, Int.reduceAdd, Int.reduceMul, Int.reduceSub, Int.reduceNeg, Int.zero_add, Int.add_zero, hF.c, eT ()]) <;> omega)))
    | ((with_reducible refine rt_p ?_ ?_ ?_); (· simp (disch := omega) only [true_and, and_true, sM_ne, sM_eq, sM_neR, sM_eqR, sK_upM, sK_upR, sL_upM, sL_upR, sN_upM, sN_upR, sT_upM, sT_upR, sN_upM, Int.reduceAdd, Int.reduceMul, Int.reduceSub, Int.reduceNeg, Int.zero_add, Int.add_zero, hF.c, eT ()]); (· omega))
    | with_reducible refine rt_ret ?_
    | ((with_reducible apply rt_gwx); (· assumption); (· (try simp (disch := omega) only [wr, true_and, and_true, sM_ne, sM_eq, sM_neR, sM_eqR, sK_upM, sK_upR, sL_upM, sL_upR, sN_upM, sN_upR, sT_upM, sT_upR, sN_upM, Int.reduceAdd, Int.reduceMul, Int.reduceSub, Int.reduceNeg, Int.zero_add, Int.add_zero, hF.c, eT ()]); exact rfl)))
  refine l_fr12 (σ := σ) (n := n) (fun hno τ hc => ⟨hno.symm, hc, fun q => absurd rfl q⟩) (fun τ c hVτ hc hr h0 hb => ?_) 1000 0 σ hV hC Ch.rf (by omega) (by omega) rfl
  have hFτ := hVτ.1
  refine rt_p (by simp (disch := omega) only [true_and, and_true, sM_ne, sM_eq, sM_neR, sM_eqR, sK_upM, sK_upR, sL_upM, sL_upR, sN_upM, sN_upR, sT_upM, sT_upR, sN_upM, Int.reduceAdd, Int.reduceMul, Int.reduceSub, Int.reduceNeg, Int.zero_add, Int.add_zero, hFτ.c]) (by omega) (rt_ret ⟨hr.symm, hc.up (by unfold lnS; omega), fun _ => ⟨?_, ?_⟩⟩)
  · rw [sM_ne (by omega)]; exact hb
  · rw [sM_eq ⟨rfl, rfl⟩]
/-! the reference's -/
theorem l_lk44 {σ : ZS} {w n k : Int} {ch so : Int → Int} {ln rt tl : Int → Int → Int} {st wi : Int → Int} {cs ls : List Int} {c own b0 r0 : Int} {K : ZS → Int → Option (Int × ZS)} {P : Int → ZS → Prop} (c0 : 0 ≤ c) (c1 : c < n)
    (hK : ∀ τ : ZS, MV τ w n k ch so ln rt → MC τ tl st wi cs ls → Ch mdW σ τ → sM τ 64 45 = r0 → sM τ 64 46 = btF (cIf n k ch so ln rt tl st wi cs c) own b0 49 → Rt (K τ (lsF (cIf n k ch so ln rt tl st wi cs c) own 49)) P) :
    ∀ (N x : Nat) (s : ZS), MV s w n k ch so ln rt → MC s tl st wi cs ls → Ch mdW σ s → x ≤ 49 → 49 - x < N → sM s 64 45 = r0 → sM s 64 46 = btF (cIf n k ch so ln rt tl st wi cs c) own b0 x → Rt (lX12_looks_44 64 w c own K N s (lsF (cIf n k ch so ln rt tl st wi cs c) own x) (x : Int)) P
  | 0, x, s, _, _, _, _, h, _, _ => by omega
  | N + 1, x, s, hV, hC, hc, hx, hN, hr, hb => by
    have hF := hV.1
    rw [lX12_looks_44]
    by_cases he : (48 : Int) < (x : Int)
    · have : x = 49 := by omega
      subst this
      exact rt_pos he (hK s hV hC hc hr hb)
    · refine rt_neg he ?_
      replace hb := hd hb
      replace hr := hd hr
      refine rt_b (rt_v (by simp (disch := omega) only [true_and, and_true, sM_ne, sM_eq, sM_neR, sM_eqR, sK_upM, sK_upR, sL_upM, sL_upR, sN_upM, sN_upR, sT_upM, sT_upR, sN_upM, Int.reduceAdd, Int.reduceMul, Int.reduceSub, Int.reduceNeg, Int.zero_add, Int.add_zero, hF.c]) ?_)
      refine Rt.mono (f_costBy hV hC c0 c1 (x := (x : Int)) (by omega) (by omega)) ?_
      rintro v τ ⟨e, hcτ, hVτ, hCτ, h4⟩
      have hFτ := hVτ.1
      have hbτ := hd ((h4 46 (by omega) (by omega)).trans (hb ()))
      have hrτ := hd ((h4 45 (by omega) (by omega)).trans (hr ()))
      have sl := hd (show lsF (cIf n k ch so ln rt tl st wi cs c) own (x + 1) = if cIf n k ch so ln rt tl st wi cs c (x : Int) < lsF (cIf n k ch so ln rt tl st wi cs c) own x then cIf n k ch so ln rt tl st wi cs c (x : Int) else lsF (cIf n k ch so ln rt tl st wi cs c) own x from rfl)
      have sb := hd (show btF (cIf n k ch so ln rt tl st wi cs c) own b0 (x + 1) = if cIf n k ch so ln rt tl st wi cs c (x : Int) < lsF (cIf n k ch so ln rt tl st wi cs c) own x then (x : Int) else btF (cIf n k ch so ln rt tl st wi cs c) own b0 x from rfl)
      rw [← e] at sl sb
      by_cases hlt : lsF (cIf n k ch so ln rt tl st wi cs c) own x ≤ v
      · refine rt_jn (rt_pos hlt ?_)
        have := l_lk44 c0 c1 hK N (x + 1) τ hVτ hCτ (hc.tr hcτ) (by omega) (by omega) (hrτ ()) (by rw [sb (), if_neg (by omega)]; exact hbτ ())
        rw [sl (), if_neg (by omega)] at this
        show Rt (lX12_looks_44 64 w c own K N τ (lsF (cIf n k ch so ln rt tl st wi cs c) own x) (wrap ((x : Int) + 1))) P
        rw [wr1 x (by omega)]
        exact this
      · refine rt_jn (rt_neg hlt ?_)
        refine rt_p (by simp (disch := omega) only [true_and, and_true, sM_ne, sM_eq, sM_neR, sM_eqR, sK_upM, sK_upR, sL_upM, sL_upR, sN_upM, sN_upR, sT_upM, sT_upR, sN_upM, Int.reduceAdd, Int.reduceMul, Int.reduceSub, Int.reduceNeg, Int.zero_add, Int.add_zero, hFτ.c]) (by omega) ?_
        have hc2 : Ch mdW τ (upM τ 64 46 (x : Int)) := Ch.rf.up (Or.inr (Or.inr ⟨rfl, by omega, by omega⟩))
        have := l_lk44 c0 c1 hK N (x + 1) (upM τ 64 46 (x : Int)) (hVτ.chW hc2 (fun j j0 j1 => by rw [sM_ne (by omega)]; exact hVτ.2.2.2.2.1 j j0 j1)) (hCτ.chW hFτ hc2) ((hc.tr hcτ).tr hc2) (by omega) (by omega) (by rw [sM_ne (by omega)]; exact hrτ ()) (by rw [sb (), if_pos (by omega), sM_eq ⟨rfl, rfl⟩])
        rw [sl (), if_pos (by omega)] at this
        show Rt (lX12_looks_44 64 w c own K N (upM τ 64 46 (x : Int)) v (wrap ((x : Int) + 1))) P
        rw [wr1 x (by omega)]
        exact this
def LkQ (τ : ZS) (w n k : Int) (ch so : Int → Int) (ln rt tl : Int → Int → Int) (st wi : Int → Int) (cs ls : List Int) : Prop := MV τ w n k ch so ln rt ∧ MC τ tl st wi cs ls ∧ sM τ 64 45 = rsV n k ch so ln rt tl st wi cs ∧ (rsV n k ch so ln rt tl st wi cs ≠ -1 → sM τ 64 46 = betV n k ch so ln rt tl st wi cs (rsV n k ch so ln rt tl st wi cs) ∧ sM τ 64 47 = wrap (ownV n k ch so ln rt tl st wi cs (rsV n k ch so ln rt tl st wi cs) - lesV n k ch so ln rt tl st wi cs (rsV n k ch so ln rt tl st wi cs)))
theorem l_lk7 {σ : ZS} {w n k : Int} {ch so : Int → Int} {ln rt tl : Int → Int → Int} {st wi : Int → Int} {cs ls : List Int} :
    ∀ (N c : Nat) (s : ZS), MV s w n k ch so ln rt → MC s tl st wi cs ls → Ch mdW σ s → (c : Int) ≤ n → n - (c : Int) < (N : Int) → sM s 64 45 = fstT (rsP n k ch so ln rt tl st wi cs) c → (sM s 64 45 ≠ -1 → sM s 64 46 = betV n k ch so ln rt tl st wi cs (sM s 64 45) ∧ sM s 64 47 = wrap (ownV n k ch so ln rt tl st wi cs (sM s 64 45) - lesV n k ch so ln rt tl st wi cs (sM s 64 45))) → Rt (lX12_looks_7 64 w N s (c : Int)) (fun _ τ => Ch mdW σ τ ∧ LkQ τ w n k ch so ln rt tl st wi cs ls)
  | 0, c, s, _, _, _, h1, h2, _, _ => by omega
  | N + 1, c, s, hV, hC, hc, h1, h2, hf, hq => by
    have hV0 := hV
    obtain ⟨hF, w1, ⟨k0, k5, kk⟩, ⟨n1, n2, n3⟩, a1, -⟩ := hV
    replace n1 := hd n1
    replace kk := hd kk
    have hff := hd hf
    clear hf
    rw [lX12_looks_7]
    repeat (first
    | with_reducible refine rt_b ?_
    | with_reducible refine rt_jn ?_
    | ((with_reducible refine rt_pos ?_ ?_); (· first | omega | ((try simp (disch := omega) only [wr, true_and, and_true, sM_ne, sM_eq, sM_neR, sM_eqR, sK_upM, sK_upR, sL_upM, sL_upR, sN_upM, sN_upR, sT_upM, sT_upR, sN_upM, Int.reduceAdd, Int.reduceMul, Int.reduceSub, Int.reduceNeg, Int.zero_add, Int.add_zero, hF.c, n1 ()]) <;> omega)))
    | ((with_reducible refine rt_neg ?_ ?_); (· first | omega | ((try simp (disch := omega) only [wr, true_and, and_true, sM_ne, sM_eq, sM_neR, sM_eqR, sK_upM, sK_upR, sL_upM, sL_upR, sN_upM, sN_upR, sT_upM, sT_upR, sN_upM, Int.reduceAdd, Int.reduceMul, Int.reduceSub, Int.reduceNeg, Int.zero_add, Int.add_zero, hF.c, n1 ()]) <;> omega)))
    | ((with_reducible refine rt_v ?_ ?_); · simp (disch := omega) only [true_and, and_true, sM_ne, sM_eq, sM_neR, sM_eqR, sK_upM, sK_upR, sL_upM, sL_upR, sN_upM, sN_upR, sT_upM, sT_upR, sN_upM, Int.reduceAdd, Int.reduceMul, Int.reduceSub, Int.reduceNeg, Int.zero_add, Int.add_zero, hF.c, n1 ()])
    | ((with_reducible apply rt_gx); (· simp (disch := omega) only [true_and, and_true, sM_ne, sM_eq, sM_neR, sM_eqR, sK_upM, sK_upR, sL_upM, sL_upR, sN_upM, sN_upR, sT_upM, sT_upR, sN_upM, Int.reduceAdd, Int.reduceMul, Int.reduceSub, Int.reduceNeg, Int.zero_add, Int.add_zero, hF.c, n1 ()]); (· (try simp (disch := omega) only [wr, true_and, and_true, sM_ne, sM_eq, sM_neR, sM_eqR, sK_upM, sK_upR, sL_upM, sL_upR, sN_upM, sN_upR, sT_upM, sT_upR, sN_upM, Int.reduceAdd, Int.reduceMul, Int.reduceSub, Int.reduceNeg, Int.zero_add, Int.add_zero, hF.c, n1 ()]); exact rfl))
    | ((with_reducible apply rt_alx); (· simp (disch := omega) only [true_and, and_true, sM_ne, sM_eq, sM_neR, sM_eqR, sK_upM, sK_upR, sL_upM, sL_upR, sN_upM, sN_upR, sT_upM, sT_upR, sN_upM, Int.reduceAdd, Int.reduceMul, Int.reduceSub, Int.reduceNeg, Int.zero_add, Int.add_zero, hF.c, n1 ()]); (· first | omega | ((try simp (disch := omega) only [wr, true_and, and_true, sM_ne, sM_eq, sM_neR, sM_eqR, sK_upM, sK_upR, sL_upM, sL_upR, sN_upM, sN_upR, sT_upM, sT_upR, sN_upM, Int.reduceAdd, Int.reduceMul, Int.reduceSub, Int.reduceNeg, Int.zero_add, Int.add_zero, hF.c, n1 ()]) <;> omega)); (· (try simp (disch := omega) only [wr, true_and, and_true, sM_ne, sM_eq, sM_neR, sM_eqR, sK_upM, sK_upR, sL_upM, sL_upR, sN_upM, sN_upR, sT_upM, sT_upR, sN_upM, Int.reduceAdd, Int.reduceMul, Int.reduceSub, Int.reduceNeg, Int.zero_add, Int.add_zero, hF.c, n1 ()]); exact rfl))
    | ((with_reducible refine rt_as ?_ ?_ ?_); (· simp (disch := omega) only [true_and, and_true, sM_ne, sM_eq, sM_neR, sM_eqR, sK_upM, sK_upR, sL_upM, sL_upR, sN_upM, sN_upR, sT_upM, sT_upR, sN_upM, Int.reduceAdd, Int.reduceMul, Int.reduceSub, Int.reduceNeg, Int.zero_add, Int.add_zero, hF.c, n1 ()]); (· first | omega | ((try simp (disch := omega) only [wr, true_and, and_true, sM_ne, sM_eq, sM_neR, sM_eqR, sK_upM, sK_upR, sL_upM, sL_upR, sN_upM, sN_upR, sT_upM, sT_upR, sN_upM, Int.reduceAdd, Int.reduceMul, Int.reduceSub, Int.reduceNeg, Int.zero_add, Int.add_zero, hF.c, n1 ()]) <;> omega)))
    | ((with_reducible refine rt_p ?_ ?_ ?_); (· simp (disch := omega) only [true_and, and_true, sM_ne, sM_eq, sM_neR, sM_eqR, sK_upM, sK_upR, sL_upM, sL_upR, sN_upM, sN_upR, sT_upM, sT_upR, sN_upM, Int.reduceAdd, Int.reduceMul, Int.reduceSub, Int.reduceNeg, Int.zero_add, Int.add_zero, hF.c, n1 ()]); (· omega))
    | with_reducible refine rt_ret ?_
    | ((with_reducible apply rt_gwx); (· assumption); (· (try simp (disch := omega) only [wr, true_and, and_true, sM_ne, sM_eq, sM_neR, sM_eqR, sK_upM, sK_upR, sL_upM, sL_upR, sN_upM, sN_upR, sT_upM, sT_upR, sN_upM, Int.reduceAdd, Int.reduceMul, Int.reduceSub, Int.reduceNeg, Int.zero_add, Int.add_zero, hF.c, n1 ()]); exact rfl)))
    by_cases he : n ≤ (c : Int)
    · have e : sM s 64 45 = rsV n k ch so ln rt tl st wi cs := by
        rw [hff ()]; unfold rsV; rw [show n.toNat = c by omega]
      refine rt_pos he (rt_ret ⟨hc, hV0, hC, e, fun q => ?_⟩)
      have := hq (by rw [e]; exact q)
      rw [e] at this
      exact this
    · refine rt_neg he ?_
      refine rt_gx (x := fstT (rsP n k ch so ln rt tl st wi cs) c) (by simp (disch := omega) only [true_and, and_true, sM_ne, sM_eq, sM_neR, sM_eqR, sK_upM, sK_upR, sL_upM, sL_upR, sN_upM, sN_upR, sT_upM, sT_upR, sN_upM, Int.reduceAdd, Int.reduceMul, Int.reduceSub, Int.reduceNeg, Int.zero_add, Int.add_zero, hF.c]) (hff ()) ?_
      by_cases h1' : fstT (rsP n k ch so ln rt tl st wi cs) c = -1
      · refine rt_pos h1' ?_
        obtain ⟨x1, x2, x3⟩ := a1 (c : Int) (by omega) (by omega)
        replace x1 := hd x1
        repeat (first
    | with_reducible refine rt_b ?_
    | with_reducible refine rt_jn ?_
    | ((with_reducible refine rt_pos ?_ ?_); (· first | omega | ((try simp (disch := omega) only [wr, true_and, and_true, sM_ne, sM_eq, sM_neR, sM_eqR, sK_upM, sK_upR, sL_upM, sL_upR, sN_upM, sN_upR, sT_upM, sT_upR, sN_upM, Int.reduceAdd, Int.reduceMul, Int.reduceSub, Int.reduceNeg, Int.zero_add, Int.add_zero, hF.c, x1 ()]) <;> omega)))
    | ((with_reducible refine rt_neg ?_ ?_); (· first | omega | ((try simp (disch := omega) only [wr, true_and, and_true, sM_ne, sM_eq, sM_neR, sM_eqR, sK_upM, sK_upR, sL_upM, sL_upR, sN_upM, sN_upR, sT_upM, sT_upR, sN_upM, Int.reduceAdd, Int.reduceMul, Int.reduceSub, Int.reduceNeg, Int.zero_add, Int.add_zero, hF.c, x1 ()]) <;> omega)))
    | ((with_reducible refine rt_v ?_ ?_); · simp (disch := omega) only [true_and, and_true, sM_ne, sM_eq, sM_neR, sM_eqR, sK_upM, sK_upR, sL_upM, sL_upR, sN_upM, sN_upR, sT_upM, sT_upR, sN_upM, Int.reduceAdd, Int.reduceMul, Int.reduceSub, Int.reduceNeg, Int.zero_add, Int.add_zero, hF.c, x1 ()])
    | ((with_reducible apply rt_gx); (· simp (disch := omega) only [true_and, and_true, sM_ne, sM_eq, sM_neR, sM_eqR, sK_upM, sK_upR, sL_upM, sL_upR, sN_upM, sN_upR, sT_upM, sT_upR, sN_upM, Int.reduceAdd, Int.reduceMul, Int.reduceSub, Int.reduceNeg, Int.zero_add, Int.add_zero, hF.c, x1 ()]); (· (try simp (disch := omega) only [wr, true_and, and_true, sM_ne, sM_eq, sM_neR, sM_eqR, sK_upM, sK_upR, sL_upM, sL_upR, sN_upM, sN_upR, sT_upM, sT_upR, sN_upM, Int.reduceAdd, Int.reduceMul, Int.reduceSub, Int.reduceNeg, Int.zero_add, Int.add_zero, hF.c, x1 ()]); exact rfl))
    | ((with_reducible apply rt_alx); (· simp (disch := omega) only [true_and, and_true, sM_ne, sM_eq, sM_neR, sM_eqR, sK_upM, sK_upR, sL_upM, sL_upR, sN_upM, sN_upR, sT_upM, sT_upR, sN_upM, Int.reduceAdd, Int.reduceMul, Int.reduceSub, Int.reduceNeg, Int.zero_add, Int.add_zero, hF.c, x1 ()]); (· first | omega | ((try simp (disch := omega) only [wr, true_and, and_true, sM_ne, sM_eq, sM_neR, sM_eqR, sK_upM, sK_upR, sL_upM, sL_upR, sN_upM, sN_upR, sT_upM, sT_upR, sN_upM, Int.reduceAdd, Int.reduceMul, Int.reduceSub, Int.reduceNeg, Int.zero_add, Int.add_zero, hF.c, x1 ()]) <;> omega)); (· (try simp (disch := omega) only [wr, true_and, and_true, sM_ne, sM_eq, sM_neR, sM_eqR, sK_upM, sK_upR, sL_upM, sL_upR, sN_upM, sN_upR, sT_upM, sT_upR, sN_upM, Int.reduceAdd, Int.reduceMul, Int.reduceSub, Int.reduceNeg, Int.zero_add, Int.add_zero, hF.c, x1 ()]); exact rfl))
    | ((with_reducible refine rt_as ?_ ?_ ?_); (· simp (disch := omega) only [true_and, and_true, sM_ne, sM_eq, sM_neR, sM_eqR, sK_upM, sK_upR, sL_upM, sL_upR, sN_upM, sN_upR, sT_upM, sT_upR, sN_upM, Int.reduceAdd, Int.reduceMul, Int.reduceSub, Int.reduceNeg, Int.zero_add, Int.add_zero, hF.c, x1 ()]); (· first | omega | ((try simp (disch := omega) only [wr, true_and, and_true, sM_ne, sM_eq, sM_neR, sM_eqR, sK_upM, sK_upR, sL_upM, sL_upR, sN_upM, sN_upR, sT_upM, sT_upR, sN_upM, Int.reduceAdd, Int.reduceMul, Int.reduceSub, Int.reduceNeg, Int.zero_add, Int.add_zero, hF.c, x1 ()]) <;> omega)))
    | ((with_reducible refine rt_p ?_ ?_ ?_); (· simp (disch := omega) only [true_and, and_true, sM_ne, sM_eq, sM_neR, sM_eqR, sK_upM, sK_upR, sL_upM, sL_upR, sN_upM, sN_upR, sT_upM, sT_upR, sN_upM, Int.reduceAdd, Int.reduceMul, Int.reduceSub, Int.reduceNeg, Int.zero_add, Int.add_zero, hF.c, x1 ()]); (· omega))
    | with_reducible refine rt_ret ?_
    | ((with_reducible apply rt_gwx); (· assumption); (· (try simp (disch := omega) only [wr, true_and, and_true, sM_ne, sM_eq, sM_neR, sM_eqR, sK_upM, sK_upR, sL_upM, sL_upR, sN_upM, sN_upR, sT_upM, sT_upR, sN_upM, Int.reduceAdd, Int.reduceMul, Int.reduceSub, Int.reduceNeg, Int.zero_add, Int.add_zero, hF.c, x1 ()]); exact rfl)))
        refine Rt.mono (f_costBy hV0 hC (c := (c : Int)) (by omega) (by omega) x2 x3) ?_
        rintro own τ ⟨e, hcτ, hVτ, hCτ, h4⟩
        have hown : own = ownV n k ch so ln rt tl st wi cs (c : Int) := e
        refine l_lk44 (σ := τ) (c := (c : Int)) (own := own) (b0 := sM τ 64 46) (r0 := -1) (by omega) (by omega) (fun π hVπ hCπ hcπ hrπ hbπ => ?_) 1000 0 τ hVτ hCτ Ch.rf (by omega) (by omega) (by rw [h4 45 (by omega) (by omega), hff (), h1']) rfl
        have hFπ := hVπ.1
        have hcall : Ch mdW σ π := (hc.tr hcτ).tr hcπ
        have hles : lsF (cIf n k ch so ln rt tl st wi cs (c : Int)) own 49 = lesV n k ch so ln rt tl st wi cs (c : Int) := by rw [hown]; rfl
        have hle := ls_le (f := cIf n k ch so ln rt tl st wi cs (c : Int)) (own := own) 49
        have hsu := hd (show fstT (rsP n k ch so ln rt tl st wi cs) (c + 1) = if fstT (rsP n k ch so ln rt tl st wi cs) c = -1 ∧ rsP n k ch so ln rt tl st wi cs c = true then (c : Int) else fstT (rsP n k ch so ln rt tl st wi cs) c from rfl)
        have hpp : rsP n k ch so ln rt tl st wi cs c = true ↔ lesV n k ch so ln rt tl st wi cs (c : Int) < ownV n k ch so ln rt tl st wi cs (c : Int) := by unfold rsP; rw [decide_eq_true_eq]
        replace hrπ := hd hrπ
        replace hbπ := hd hbπ
        by_cases hlt : own ≤ lsF (cIf n k ch so ln rt tl st wi cs (c : Int)) own 49
        · refine rt_jn (rt_pos hlt ?_)
          show Rt (lX12_looks_7 64 w N π (wrap ((c : Int) + 1))) _
          rw [wr1 c (by omega)]
          refine l_lk7 N (c + 1) π hVπ hCπ hcall (by omega) (by omega) ?_ (fun q => absurd (hrπ ()) q)
          rw [hsu (), if_neg (fun q => by have := hpp.mp q.2; omega), h1']
          exact hrπ ()
        · refine rt_jn (rt_neg hlt ?_)
          refine rt_p (by simp (disch := omega) only [true_and, and_true, sM_ne, sM_eq, sM_neR, sM_eqR, sK_upM, sK_upR, sL_upM, sL_upR, sN_upM, sN_upR, sT_upM, sT_upR, sN_upM, Int.reduceAdd, Int.reduceMul, Int.reduceSub, Int.reduceNeg, Int.zero_add, Int.add_zero, hFπ.c]) (by omega) ?_
          refine rt_p (by simp (disch := omega) only [true_and, and_true, sM_ne, sM_eq, sM_neR, sM_eqR, sK_upM, sK_upR, sL_upM, sL_upR, sN_upM, sN_upR, sT_upM, sT_upR, sN_upM, Int.reduceAdd, Int.reduceMul, Int.reduceSub, Int.reduceNeg, Int.zero_add, Int.add_zero, hFπ.c]) (by omega) ?_
          have hc2 : Ch mdW π (upM (upM π 64 45 (c : Int)) 64 47 (wrap (own - lsF (cIf n k ch so ln rt tl st wi cs (c : Int)) own 49))) := (Ch.rf.up (Or.inr (Or.inr ⟨rfl, by omega, by omega⟩))).up (Or.inr (Or.inr ⟨rfl, by omega, by omega⟩))
          show Rt (lX12_looks_7 64 w N (upM (upM π 64 45 (c : Int)) 64 47 (wrap (own - lsF (cIf n k ch so ln rt tl st wi cs (c : Int)) own 49))) (wrap ((c : Int) + 1))) _
          rw [wr1 c (by omega)]
          have e45 : sM (upM (upM π 64 45 (c : Int)) 64 47 (wrap (own - lsF (cIf n k ch so ln rt tl st wi cs (c : Int)) own 49))) 64 45 = (c : Int) := by rw [sM_ne (by omega), sM_eq ⟨rfl, rfl⟩]
          refine l_lk7 N (c + 1) _ (hVπ.chW hc2 (fun j j0 j1 => by rw [sM_ne (by omega), sM_ne (by omega)]; exact hVπ.2.2.2.2.1 j j0 j1)) (hCπ.chW hFπ hc2) (hcall.tr hc2) (by omega) (by omega) ?_ (fun _ => ?_)
          · rw [e45, hsu (), if_pos ⟨h1', hpp.mpr (by omega)⟩]
          · rw [e45, sM_ne (by omega), sM_ne (by omega), sM_eq ⟨rfl, rfl⟩, hbπ (), hles, hown]
            refine ⟨?_, rfl⟩
            unfold betV
            exact bt_ind 49 (by rw [← hown]; omega)
      · refine rt_neg h1' (rt_ret ⟨hc, hV0, hC, ?_, ?_⟩)
        · rw [hff ()]; unfold rsV; rw [fst_stay (T := n.toNat) h1' (by omega)]
        · intro q
          have e : sM s 64 45 = rsV n k ch so ln rt tl st wi cs := by
            rw [hff ()]; unfold rsV; rw [fst_stay (T := n.toNat) h1' (by omega)]
          have := hq (by rw [e]; exact q)
          rw [e] at this
          exact this
theorem f_looks {σ : ZS} {w n k : Int} {ch so : Int → Int} {ln rt tl : Int → Int → Int} {st wi : Int → Int} {cs ls : List Int} (hV : MV σ w n k ch so ln rt) (hC : MC σ tl st wi cs ls) : Rt (fX12_looks σ 64 w) (fun _ τ => Ch mdW σ τ ∧ LkQ τ w n k ch so ln rt tl st wi cs ls) := by
  have hF := hV.1
  have hn := hV.2.2.2.1.2
  unfold fX12_looks
  refine rt_p (by simp (disch := omega) only [true_and, and_true, sM_ne, sM_eq, sM_neR, sM_eqR, sK_upM, sK_upR, sL_upM, sL_upR, sN_upM, sN_upR, sT_upM, sT_upR, sN_upM, Int.reduceAdd, Int.reduceMul, Int.reduceSub, Int.reduceNeg, Int.zero_add, Int.add_zero, hF.c]) (by omega) ?_
  have hc : Ch mdW σ (upM σ 64 45 (-1)) := Ch.rf.up (Or.inr (Or.inr ⟨rfl, by omega, by omega⟩))
  exact l_lk7 1000 0 _ (hV.chW hc (fun j j0 j1 => by rw [sM_ne (by omega)]; exact hV.2.2.2.2.1 j j0 j1)) (hC.chW hF hc) hc (by omega) (by omega) (by rw [sM_eq ⟨rfl, rfl⟩]; rfl) (fun q => absurd (by rw [sM_eq ⟨rfl, rfl⟩]) q)
theorem q_judge {σ : ZS} (h : Rel σ) (w a : Int) : Rt (fX11_judge σ 3 w a) (fun y τ => Rt (fX12_judge τ 64 w a) (fun z ρ => Fin σ y z ρ)) := by
  have hF := h.F
  unfold fX11_judge
  by_cases hw : 0 ≤ w ∧ w < sM σ 64 8
  · obtain ⟨w0, w1⟩ := hw
    have hn := h.wn w0 w1
    have hV := h.lv w0 w1
    refine rt_b (rt_v (by simp (disch := omega) only [true_and, and_true, sM_ne, sM_eq, sM_neR, sM_eqR, sK_upM, sK_upR, sL_upM, sL_upR, sN_upM, sN_upR, sT_upM, sT_upR, sN_upM, Int.reduceAdd, Int.reduceMul, Int.reduceSub, Int.reduceNeg, Int.zero_add, Int.add_zero, hF.c]) (rt_e (f_wayAt1 h w0 w1) ?_))
    refine rt_neg (by omega) (rt_b (rt_e (f_within σ a 2) ?_))
    by_cases ha : 0 ≤ a ∧ a ≤ 2
    · rw [if_pos ha]
      refine rt_neg (by omega) ?_
      refine rt_b (rt_v (by simp (disch := omega) only [true_and, and_true, sM_ne, sM_eq, sM_neR, sM_eqR, sK_upM, sK_upR, sL_upM, sL_upR, sN_upM, sN_upR, sT_upM, sT_upR, sN_upM, Int.reduceAdd, Int.reduceMul, Int.reduceSub, Int.reduceNeg, Int.zero_add, Int.add_zero, hF.c]) ?_)
      refine Rt.mono (f_findRestless hV h.cv h.tv) ?_
      rintro v τ ⟨e, hcτ, hq⟩
      have hsτ : Ch scr σ τ := hcτ.mono lnS_scr
      have hRτ := h.off hsτ.1
      have hFτ := hRτ.F
      have ref : ∀ y : Int, y = (if v = -1 then -1 else if a = 0 then v else if a = 1 then betV (sM σ 72 w) (sM σ 71 w) (vch σ w) (vso σ) (vln σ) (vrt σ) (vtl σ) (vst σ) (vwi σ) (vtx σ 0) v else wrap (ownV (sM σ 72 w) (sM σ 71 w) (vch σ w) (vso σ) (vln σ) (vrt σ) (vtl σ) (vst σ) (vwi σ) (vtx σ 0) v - lesV (sM σ 72 w) (sM σ 71 w) (vch σ w) (vso σ) (vln σ) (vrt σ) (vtl σ) (vst σ) (vwi σ) (vtx σ 0) v)) → Rt (fX12_judge τ 64 w a) (fun z ρ => Fin σ y z ρ) := by
        intro y hy
        have h8 : sM τ 64 8 = sM σ 64 8 := hsτ.M (by have := hF.2.2.2; omega) (by unfold scr; omega)
        unfold fX12_judge
        refine rt_b (rt_v (by simp (disch := omega) only [true_and, and_true, sM_ne, sM_eq, sM_neR, sM_eqR, sK_upM, sK_upR, sL_upM, sL_upR, sN_upM, sN_upR, sT_upM, sT_upR, sN_upM, Int.reduceAdd, Int.reduceMul, Int.reduceSub, Int.reduceNeg, Int.zero_add, Int.add_zero, hFτ.c]) (rt_e (f_isWay hRτ w) ?_))
        rw [h8, if_pos (show 0 ≤ w ∧ w < sM σ 64 8 from ⟨w0, w1⟩)]
        clear h8
        refine rt_neg (by omega) (rt_b (rt_e (f_in τ a 0 2) ?_))
        rw [if_pos ha]
        refine rt_neg (by omega) (rt_b (rt_v (by simp (disch := omega) only [true_and, and_true, sM_ne, sM_eq, sM_neR, sM_eqR, sK_upM, sK_upR, sL_upM, sL_upR, sN_upM, sN_upR, sT_upM, sT_upR, sN_upM, Int.reduceAdd, Int.reduceMul, Int.reduceSub, Int.reduceNeg, Int.zero_add, Int.add_zero, hFτ.c]) ?_))
        refine Rt.mono (f_laysR h hsτ w0 w1) ?_
        rintro v3 ρ ⟨hcρ, hVρ, hCρ⟩
        have hFρ := hVρ.1
        refine rt_b (rt_v (by simp (disch := omega) only [true_and, and_true, sM_ne, sM_eq, sM_neR, sM_eqR, sK_upM, sK_upR, sL_upM, sL_upR, sN_upM, sN_upR, sT_upM, sT_upR, sN_upM, Int.reduceAdd, Int.reduceMul, Int.reduceSub, Int.reduceNeg, Int.zero_add, Int.add_zero, hFρ.c]) ?_)
        refine Rt.mono (f_looks hVρ hCρ) ?_
        rintro v4 θ ⟨hcθ, hVθ, -, f1, f2⟩
        have hFθ := hVθ.1
        have hcs := hcρ.tr (hcθ.mono mdW_scr)
        rw [← e] at f1 f2
        replace f1 := hd f1
        replace hy := hd hy
        by_cases hv : v = -1
        · repeat (first
    | with_reducible refine rt_b ?_
    | with_reducible refine rt_jn ?_
    | ((with_reducible refine rt_pos ?_ ?_); (· first | omega | ((try simp (disch := omega) only [wr, true_and, and_true, sM_ne, sM_eq, sM_neR, sM_eqR, sK_upM, sK_upR, sL_upM, sL_upR, sN_upM, sN_upR, sT_upM, sT_upR, sN_upM, Int.reduceAdd, Int.reduceMul, Int.reduceSub, Int.reduceNeg, Int.zero_add, Int.add_zero, hFθ.c, f1 ()]) <;> omega)))
    | ((with_reducible refine rt_neg ?_ ?_); (· first | omega | ((try simp (disch := omega) only [wr, true_and, and_true, sM_ne, sM_eq, sM_neR, sM_eqR, sK_upM, sK_upR, sL_upM, sL_upR, sN_upM, sN_upR, sT_upM, sT_upR, sN_upM, Int.reduceAdd, Int.reduceMul, Int.reduceSub, Int.reduceNeg, Int.zero_add, Int.add_zero, hFθ.c, f1 ()]) <;> omega)))
    | ((with_reducible refine rt_v ?_ ?_); · simp (disch := omega) only [true_and, and_true, sM_ne, sM_eq, sM_neR, sM_eqR, sK_upM, sK_upR, sL_upM, sL_upR, sN_upM, sN_upR, sT_upM, sT_upR, sN_upM, Int.reduceAdd, Int.reduceMul, Int.reduceSub, Int.reduceNeg, Int.zero_add, Int.add_zero, hFθ.c, f1 ()])
    | ((with_reducible apply rt_gx); (· simp (disch := omega) only [true_and, and_true, sM_ne, sM_eq, sM_neR, sM_eqR, sK_upM, sK_upR, sL_upM, sL_upR, sN_upM, sN_upR, sT_upM, sT_upR, sN_upM, Int.reduceAdd, Int.reduceMul, Int.reduceSub, Int.reduceNeg, Int.zero_add, Int.add_zero, hFθ.c, f1 ()]); (· (try simp (disch := omega) only [wr, true_and, and_true, sM_ne, sM_eq, sM_neR, sM_eqR, sK_upM, sK_upR, sL_upM, sL_upR, sN_upM, sN_upR, sT_upM, sT_upR, sN_upM, Int.reduceAdd, Int.reduceMul, Int.reduceSub, Int.reduceNeg, Int.zero_add, Int.add_zero, hFθ.c, f1 ()]); exact rfl))
    | ((with_reducible apply rt_alx); (· simp (disch := omega) only [true_and, and_true, sM_ne, sM_eq, sM_neR, sM_eqR, sK_upM, sK_upR, sL_upM, sL_upR, sN_upM, sN_upR, sT_upM, sT_upR, sN_upM, Int.reduceAdd, Int.reduceMul, Int.reduceSub, Int.reduceNeg, Int.zero_add, Int.add_zero, hFθ.c, f1 ()]); (· first | omega | ((try simp (disch := omega) only [wr, true_and, and_true, sM_ne, sM_eq, sM_neR, sM_eqR, sK_upM, sK_upR, sL_upM, sL_upR, sN_upM, sN_upR, sT_upM, sT_upR, sN_upM, Int.reduceAdd, Int.reduceMul, Int.reduceSub, Int.reduceNeg, Int.zero_add, Int.add_zero, hFθ.c, f1 ()]) <;> omega)); (· (try simp (disch := omega) only [wr, true_and, and_true, sM_ne, sM_eq, sM_neR, sM_eqR, sK_upM, sK_upR, sL_upM, sL_upR, sN_upM, sN_upR, sT_upM, sT_upR, sN_upM, Int.reduceAdd, Int.reduceMul, Int.reduceSub, Int.reduceNeg, Int.zero_add, Int.add_zero, hFθ.c, f1 ()]); exact rfl))
    | ((with_reducible refine rt_as ?_ ?_ ?_); (· simp (disch := omega) only [true_and, and_true, sM_ne, sM_eq, sM_neR, sM_eqR, sK_upM, sK_upR, sL_upM, sL_upR, sN_upM, sN_upR, sT_upM, sT_upR, sN_upM, Int.reduceAdd, Int.reduceMul, Int.reduceSub, Int.reduceNeg, Int.zero_add, Int.add_zero, hFθ.c, f1 ()]); (· first | omega | ((try simp (disch := omega) only [wr, true_and, and_true, sM_ne, sM_eq, sM_neR, sM_eqR, sK_upM, sK_upR, sL_upM, sL_upR, sN_upM, sN_upR, sT_upM, sT_upR, sN_upM, Int.reduceAdd, Int.reduceMul, Int.reduceSub, Int.reduceNeg, Int.zero_add, Int.add_zero, hFθ.c, f1 ()]) <;> omega)))
    | ((with_reducible refine rt_p ?_ ?_ ?_); (· simp (disch := omega) only [true_and, and_true, sM_ne, sM_eq, sM_neR, sM_eqR, sK_upM, sK_upR, sL_upM, sL_upR, sN_upM, sN_upR, sT_upM, sT_upR, sN_upM, Int.reduceAdd, Int.reduceMul, Int.reduceSub, Int.reduceNeg, Int.zero_add, Int.add_zero, hFθ.c, f1 ()]); (· omega))
    | with_reducible refine rt_ret ?_
    | ((with_reducible apply rt_gwx); (· assumption); (· (try simp (disch := omega) only [wr, true_and, and_true, sM_ne, sM_eq, sM_neR, sM_eqR, sK_upM, sK_upR, sL_upM, sL_upR, sN_upM, sN_upR, sT_upM, sT_upR, sN_upM, Int.reduceAdd, Int.reduceMul, Int.reduceSub, Int.reduceNeg, Int.zero_add, Int.add_zero, hFθ.c, f1 ()]); exact rfl)))
          exact finC h (by rw [hy (), if_pos hv]) hcs
        · obtain ⟨f3, f4⟩ := f2 hv
          replace f3 := hd f3
          replace f4 := hd f4
          rcases (by omega : a = 0 ∨ a = 1 ∨ a = 2) with rfl | rfl | rfl
          · repeat (first
    | with_reducible refine rt_b ?_
    | with_reducible refine rt_jn ?_
    | ((with_reducible refine rt_pos ?_ ?_); (· first | omega | ((try simp (disch := omega) only [wr, true_and, and_true, sM_ne, sM_eq, sM_neR, sM_eqR, sK_upM, sK_upR, sL_upM, sL_upR, sN_upM, sN_upR, sT_upM, sT_upR, sN_upM, Int.reduceAdd, Int.reduceMul, Int.reduceSub, Int.reduceNeg, Int.zero_add, Int.add_zero, hFθ.c, f1 ()]) <;> omega)))
    | ((with_reducible refine rt_neg ?_ ?_); (· first | omega | ((try simp (disch := omega) only [wr, true_and, and_true, sM_ne, sM_eq, sM_neR, sM_eqR, sK_upM, sK_upR, sL_upM, sL_upR, sN_upM, sN_upR, sT_upM, sT_upR, sN_upM, Int.reduceAdd, Int.reduceMul, Int.reduceSub, Int.reduceNeg, Int.zero_add, Int.add_zero, hFθ.c, f1 ()]) <;> omega)))
    | ((with_reducible refine rt_v ?_ ?_); · simp (disch := omega) only [true_and, and_true, sM_ne, sM_eq, sM_neR, sM_eqR, sK_upM, sK_upR, sL_upM, sL_upR, sN_upM, sN_upR, sT_upM, sT_upR, sN_upM, Int.reduceAdd, Int.reduceMul, Int.reduceSub, Int.reduceNeg, Int.zero_add, Int.add_zero, hFθ.c, f1 ()])
    | ((with_reducible apply rt_gx); (· simp (disch := omega) only [true_and, and_true, sM_ne, sM_eq, sM_neR, sM_eqR, sK_upM, sK_upR, sL_upM, sL_upR, sN_upM, sN_upR, sT_upM, sT_upR, sN_upM, Int.reduceAdd, Int.reduceMul, Int.reduceSub, Int.reduceNeg, Int.zero_add, Int.add_zero, hFθ.c, f1 ()]); (· (try simp (disch := omega) only [wr, true_and, and_true, sM_ne, sM_eq, sM_neR, sM_eqR, sK_upM, sK_upR, sL_upM, sL_upR, sN_upM, sN_upR, sT_upM, sT_upR, sN_upM, Int.reduceAdd, Int.reduceMul, Int.reduceSub, Int.reduceNeg, Int.zero_add, Int.add_zero, hFθ.c, f1 ()]); exact rfl))
    | ((with_reducible apply rt_alx); (· simp (disch := omega) only [true_and, and_true, sM_ne, sM_eq, sM_neR, sM_eqR, sK_upM, sK_upR, sL_upM, sL_upR, sN_upM, sN_upR, sT_upM, sT_upR, sN_upM, Int.reduceAdd, Int.reduceMul, Int.reduceSub, Int.reduceNeg, Int.zero_add, Int.add_zero, hFθ.c, f1 ()]); (· first | omega | ((try simp (disch := omega) only [wr, true_and, and_true, sM_ne, sM_eq, sM_neR, sM_eqR, sK_upM, sK_upR, sL_upM, sL_upR, sN_upM, sN_upR, sT_upM, sT_upR, sN_upM, Int.reduceAdd, Int.reduceMul, Int.reduceSub, Int.reduceNeg, Int.zero_add, Int.add_zero, hFθ.c, f1 ()]) <;> omega)); (· (try simp (disch := omega) only [wr, true_and, and_true, sM_ne, sM_eq, sM_neR, sM_eqR, sK_upM, sK_upR, sL_upM, sL_upR, sN_upM, sN_upR, sT_upM, sT_upR, sN_upM, Int.reduceAdd, Int.reduceMul, Int.reduceSub, Int.reduceNeg, Int.zero_add, Int.add_zero, hFθ.c, f1 ()]); exact rfl))
    | ((with_reducible refine rt_as ?_ ?_ ?_); (· simp (disch := omega) only [true_and, and_true, sM_ne, sM_eq, sM_neR, sM_eqR, sK_upM, sK_upR, sL_upM, sL_upR, sN_upM, sN_upR, sT_upM, sT_upR, sN_upM, Int.reduceAdd, Int.reduceMul, Int.reduceSub, Int.reduceNeg, Int.zero_add, Int.add_zero, hFθ.c, f1 ()]); (· first | omega | ((try simp (disch := omega) only [wr, true_and, and_true, sM_ne, sM_eq, sM_neR, sM_eqR, sK_upM, sK_upR, sL_upM, sL_upR, sN_upM, sN_upR, sT_upM, sT_upR, sN_upM, Int.reduceAdd, Int.reduceMul, Int.reduceSub, Int.reduceNeg, Int.zero_add, Int.add_zero, hFθ.c, f1 ()]) <;> omega)))
    | ((with_reducible refine rt_p ?_ ?_ ?_); (· simp (disch := omega) only [true_and, and_true, sM_ne, sM_eq, sM_neR, sM_eqR, sK_upM, sK_upR, sL_upM, sL_upR, sN_upM, sN_upR, sT_upM, sT_upR, sN_upM, Int.reduceAdd, Int.reduceMul, Int.reduceSub, Int.reduceNeg, Int.zero_add, Int.add_zero, hFθ.c, f1 ()]); (· omega))
    | with_reducible refine rt_ret ?_
    | ((with_reducible apply rt_gwx); (· assumption); (· (try simp (disch := omega) only [wr, true_and, and_true, sM_ne, sM_eq, sM_neR, sM_eqR, sK_upM, sK_upR, sL_upM, sL_upR, sN_upM, sN_upR, sT_upM, sT_upR, sN_upM, Int.reduceAdd, Int.reduceMul, Int.reduceSub, Int.reduceNeg, Int.zero_add, Int.add_zero, hFθ.c, f1 ()]); exact rfl)))
            exact finC h (by rw [hy (), if_neg hv, if_pos rfl]) hcs
          · repeat (first
    | with_reducible refine rt_b ?_
    | with_reducible refine rt_jn ?_
    | ((with_reducible refine rt_pos ?_ ?_); (· first | omega | ((try simp (disch := omega) only [wr, true_and, and_true, sM_ne, sM_eq, sM_neR, sM_eqR, sK_upM, sK_upR, sL_upM, sL_upR, sN_upM, sN_upR, sT_upM, sT_upR, sN_upM, Int.reduceAdd, Int.reduceMul, Int.reduceSub, Int.reduceNeg, Int.zero_add, Int.add_zero, hFθ.c, f1 (), f3 ()]) <;> omega)))
    | ((with_reducible refine rt_neg ?_ ?_); (· first | omega | ((try simp (disch := omega) only [wr, true_and, and_true, sM_ne, sM_eq, sM_neR, sM_eqR, sK_upM, sK_upR, sL_upM, sL_upR, sN_upM, sN_upR, sT_upM, sT_upR, sN_upM, Int.reduceAdd, Int.reduceMul, Int.reduceSub, Int.reduceNeg, Int.zero_add, Int.add_zero, hFθ.c, f1 (), f3 ()]) <;> omega)))
    | ((with_reducible refine rt_v ?_ ?_); · simp (disch := omega) only [true_and, and_true, sM_ne, sM_eq, sM_neR, sM_eqR, sK_upM, sK_upR, sL_upM, sL_upR, sN_upM, sN_upR, sT_upM, sT_upR, sN_upM, Int.reduceAdd, Int.reduceMul, Int.reduceSub, Int.reduceNeg, Int.zero_add, Int.add_zero, hFθ.c, f1 (), f3 ()])
    | ((with_reducible apply rt_gx); (· simp (disch := omega) only [true_and, and_true, sM_ne, sM_eq, sM_neR, sM_eqR, sK_upM, sK_upR, sL_upM, sL_upR, sN_upM, sN_upR, sT_upM, sT_upR, sN_upM, Int.reduceAdd, Int.reduceMul, Int.reduceSub, Int.reduceNeg, Int.zero_add, Int.add_zero, hFθ.c, f1 (), f3 ()]); (· (try simp (disch := omega) only [wr, true_and, and_true, sM_ne, sM_eq, sM_neR, sM_eqR, sK_upM, sK_upR, sL_upM, sL_upR, sN_upM, sN_upR, sT_upM, sT_upR, sN_upM, Int.reduceAdd, Int.reduceMul, Int.reduceSub, Int.reduceNeg, Int.zero_add, Int.add_zero, hFθ.c, f1 (), f3 ()]); exact rfl))
    | ((with_reducible apply rt_alx); (· simp (disch := omega) only [true_and, and_true, sM_ne, sM_eq, sM_neR, sM_eqR, sK_upM, sK_upR, sL_upM, sL_upR, sN_upM, sN_upR, sT_upM, sT_upR, sN_upM, Int.reduceAdd, Int.reduceMul, Int.reduceSub, Int.reduceNeg, Int.zero_add, Int.add_zero, hFθ.c, f1 (), f3 ()]); (· first | omega | ((try simp (disch := omega) only [wr, true_and, and_true, sM_ne, sM_eq, sM_neR, sM_eqR, sK_upM, sK_upR, sL_upM, sL_upR, sN_upM, sN_upR, sT_upM, sT_upR, sN_upM, Int.reduceAdd, Int.reduceMul, Int.reduceSub, Int.reduceNeg, Int.zero_add, Int.add_zero, hFθ.c, f1 (), f3 ()]) <;> omega)); (· (try simp (disch := omega) only [wr, true_and, and_true, sM_ne, sM_eq, sM_neR, sM_eqR, sK_upM, sK_upR, sL_upM, sL_upR, sN_upM, sN_upR, sT_upM, sT_upR, sN_upM, Int.reduceAdd, Int.reduceMul, Int.reduceSub, Int.reduceNeg, Int.zero_add, Int.add_zero, hFθ.c, f1 (), f3 ()]); exact rfl))
    | ((with_reducible refine rt_as ?_ ?_ ?_); (· simp (disch := omega) only [true_and, and_true, sM_ne, sM_eq, sM_neR, sM_eqR, sK_upM, sK_upR, sL_upM, sL_upR, sN_upM, sN_upR, sT_upM, sT_upR, sN_upM, Int.reduceAdd, Int.reduceMul, Int.reduceSub, Int.reduceNeg, Int.zero_add, Int.add_zero, hFθ.c, f1 (), f3 ()]); (· first | omega | ((try simp (disch := omega) only [wr, true_and, and_true, sM_ne, sM_eq, sM_neR, sM_eqR, sK_upM, sK_upR, sL_upM, sL_upR, sN_upM, sN_upR, sT_upM, sT_upR, sN_upM, Int.reduceAdd, Int.reduceMul, Int.reduceSub, Int.reduceNeg, Int.zero_add, Int.add_zero, hFθ.c, f1 (), f3 ()]) <;> omega)))
    | ((with_reducible refine rt_p ?_ ?_ ?_); (· simp (disch := omega) only [true_and, and_true, sM_ne, sM_eq, sM_neR, sM_eqR, sK_upM, sK_upR, sL_upM, sL_upR, sN_upM, sN_upR, sT_upM, sT_upR, sN_upM, Int.reduceAdd, Int.reduceMul, Int.reduceSub, Int.reduceNeg, Int.zero_add, Int.add_zero, hFθ.c, f1 (), f3 ()]); (· omega))
    | with_reducible refine rt_ret ?_
    | ((with_reducible apply rt_gwx); (· assumption); (· (try simp (disch := omega) only [wr, true_and, and_true, sM_ne, sM_eq, sM_neR, sM_eqR, sK_upM, sK_upR, sL_upM, sL_upR, sN_upM, sN_upR, sT_upM, sT_upR, sN_upM, Int.reduceAdd, Int.reduceMul, Int.reduceSub, Int.reduceNeg, Int.zero_add, Int.add_zero, hFθ.c, f1 (), f3 ()]); exact rfl)))
            exact finC h (by rw [hy (), if_neg hv, if_neg (by omega), if_pos rfl]) hcs
          · repeat (first
    | with_reducible refine rt_b ?_
    | with_reducible refine rt_jn ?_
    | ((with_reducible refine rt_pos ?_ ?_); (· first | omega | ((try simp (disch := omega) only [wr, true_and, and_true, sM_ne, sM_eq, sM_neR, sM_eqR, sK_upM, sK_upR, sL_upM, sL_upR, sN_upM, sN_upR, sT_upM, sT_upR, sN_upM, Int.reduceAdd, Int.reduceMul, Int.reduceSub, Int.reduceNeg, Int.zero_add, Int.add_zero, hFθ.c, f1 (), f4 ()]) <;> omega)))
    | ((with_reducible refine rt_neg ?_ ?_); (· first | omega | ((try simp (disch := omega) only [wr, true_and, and_true, sM_ne, sM_eq, sM_neR, sM_eqR, sK_upM, sK_upR, sL_upM, sL_upR, sN_upM, sN_upR, sT_upM, sT_upR, sN_upM, Int.reduceAdd, Int.reduceMul, Int.reduceSub, Int.reduceNeg, Int.zero_add, Int.add_zero, hFθ.c, f1 (), f4 ()]) <;> omega)))
    | ((with_reducible refine rt_v ?_ ?_); · simp (disch := omega) only [true_and, and_true, sM_ne, sM_eq, sM_neR, sM_eqR, sK_upM, sK_upR, sL_upM, sL_upR, sN_upM, sN_upR, sT_upM, sT_upR, sN_upM, Int.reduceAdd, Int.reduceMul, Int.reduceSub, Int.reduceNeg, Int.zero_add, Int.add_zero, hFθ.c, f1 (), f4 ()])
    | ((with_reducible apply rt_gx); (· simp (disch := omega) only [true_and, and_true, sM_ne, sM_eq, sM_neR, sM_eqR, sK_upM, sK_upR, sL_upM, sL_upR, sN_upM, sN_upR, sT_upM, sT_upR, sN_upM, Int.reduceAdd, Int.reduceMul, Int.reduceSub, Int.reduceNeg, Int.zero_add, Int.add_zero, hFθ.c, f1 (), f4 ()]); (· (try simp (disch := omega) only [wr, true_and, and_true, sM_ne, sM_eq, sM_neR, sM_eqR, sK_upM, sK_upR, sL_upM, sL_upR, sN_upM, sN_upR, sT_upM, sT_upR, sN_upM, Int.reduceAdd, Int.reduceMul, Int.reduceSub, Int.reduceNeg, Int.zero_add, Int.add_zero, hFθ.c, f1 (), f4 ()]); exact rfl))
    | ((with_reducible apply rt_alx); (· simp (disch := omega) only [true_and, and_true, sM_ne, sM_eq, sM_neR, sM_eqR, sK_upM, sK_upR, sL_upM, sL_upR, sN_upM, sN_upR, sT_upM, sT_upR, sN_upM, Int.reduceAdd, Int.reduceMul, Int.reduceSub, Int.reduceNeg, Int.zero_add, Int.add_zero, hFθ.c, f1 (), f4 ()]); (· first | omega | ((try simp (disch := omega) only [wr, true_and, and_true, sM_ne, sM_eq, sM_neR, sM_eqR, sK_upM, sK_upR, sL_upM, sL_upR, sN_upM, sN_upR, sT_upM, sT_upR, sN_upM, Int.reduceAdd, Int.reduceMul, Int.reduceSub, Int.reduceNeg, Int.zero_add, Int.add_zero, hFθ.c, f1 (), f4 ()]) <;> omega)); (· (try simp (disch := omega) only [wr, true_and, and_true, sM_ne, sM_eq, sM_neR, sM_eqR, sK_upM, sK_upR, sL_upM, sL_upR, sN_upM, sN_upR, sT_upM, sT_upR, sN_upM, Int.reduceAdd, Int.reduceMul, Int.reduceSub, Int.reduceNeg, Int.zero_add, Int.add_zero, hFθ.c, f1 (), f4 ()]); exact rfl))
    | ((with_reducible refine rt_as ?_ ?_ ?_); (· simp (disch := omega) only [true_and, and_true, sM_ne, sM_eq, sM_neR, sM_eqR, sK_upM, sK_upR, sL_upM, sL_upR, sN_upM, sN_upR, sT_upM, sT_upR, sN_upM, Int.reduceAdd, Int.reduceMul, Int.reduceSub, Int.reduceNeg, Int.zero_add, Int.add_zero, hFθ.c, f1 (), f4 ()]); (· first | omega | ((try simp (disch := omega) only [wr, true_and, and_true, sM_ne, sM_eq, sM_neR, sM_eqR, sK_upM, sK_upR, sL_upM, sL_upR, sN_upM, sN_upR, sT_upM, sT_upR, sN_upM, Int.reduceAdd, Int.reduceMul, Int.reduceSub, Int.reduceNeg, Int.zero_add, Int.add_zero, hFθ.c, f1 (), f4 ()]) <;> omega)))
    | ((with_reducible refine rt_p ?_ ?_ ?_); (· simp (disch := omega) only [true_and, and_true, sM_ne, sM_eq, sM_neR, sM_eqR, sK_upM, sK_upR, sL_upM, sL_upR, sN_upM, sN_upR, sT_upM, sT_upR, sN_upM, Int.reduceAdd, Int.reduceMul, Int.reduceSub, Int.reduceNeg, Int.zero_add, Int.add_zero, hFθ.c, f1 (), f4 ()]); (· omega))
    | with_reducible refine rt_ret ?_
    | ((with_reducible apply rt_gwx); (· assumption); (· (try simp (disch := omega) only [wr, true_and, and_true, sM_ne, sM_eq, sM_neR, sM_eqR, sK_upM, sK_upR, sL_upM, sL_upR, sN_upM, sN_upR, sT_upM, sT_upR, sN_upM, Int.reduceAdd, Int.reduceMul, Int.reduceSub, Int.reduceNeg, Int.zero_add, Int.add_zero, hFθ.c, f1 (), f4 ()]); exact rfl)))
            exact finC h (by rw [hy (), if_neg hv, if_neg (by omega), if_neg (by omega)]) hcs
      by_cases hv : v = -1
      · exact rt_pos hv (rt_ret (ref _ (by rw [if_pos hv])))
      · refine rt_neg hv ?_
        obtain ⟨f3, f4⟩ := hq hv
        replace f3 := hd f3
        replace f4 := hd f4
        rcases (by omega : a = 0 ∨ a = 1 ∨ a = 2) with rfl | rfl | rfl
        · repeat (first
    | with_reducible refine rt_b ?_
    | with_reducible refine rt_jn ?_
    | ((with_reducible refine rt_pos ?_ ?_); (· first | omega | ((try simp (disch := omega) only [wr, true_and, and_true, sM_ne, sM_eq, sM_neR, sM_eqR, sK_upM, sK_upR, sL_upM, sL_upR, sN_upM, sN_upR, sT_upM, sT_upR, sN_upM, Int.reduceAdd, Int.reduceMul, Int.reduceSub, Int.reduceNeg, Int.zero_add, Int.add_zero, hFτ.c]) <;> omega)))
    | ((with_reducible refine rt_neg ?_ ?_); (· first | omega | ((try simp (disch := omega) only [wr, true_and, and_true, sM_ne, sM_eq, sM_neR, sM_eqR, sK_upM, sK_upR, sL_upM, sL_upR, sN_upM, sN_upR, sT_upM, sT_upR, sN_upM, Int.reduceAdd, Int.reduceMul, Int.reduceSub, Int.reduceNeg, Int.zero_add, Int.add_zero, hFτ.c]) <;> omega)))
    | ((with_reducible refine rt_v ?_ ?_); · simp (disch := omega) only [true_and, and_true, sM_ne, sM_eq, sM_neR, sM_eqR, sK_upM, sK_upR, sL_upM, sL_upR, sN_upM, sN_upR, sT_upM, sT_upR, sN_upM, Int.reduceAdd, Int.reduceMul, Int.reduceSub, Int.reduceNeg, Int.zero_add, Int.add_zero, hFτ.c])
    | ((with_reducible apply rt_gx); (· simp (disch := omega) only [true_and, and_true, sM_ne, sM_eq, sM_neR, sM_eqR, sK_upM, sK_upR, sL_upM, sL_upR, sN_upM, sN_upR, sT_upM, sT_upR, sN_upM, Int.reduceAdd, Int.reduceMul, Int.reduceSub, Int.reduceNeg, Int.zero_add, Int.add_zero, hFτ.c]); (· (try simp (disch := omega) only [wr, true_and, and_true, sM_ne, sM_eq, sM_neR, sM_eqR, sK_upM, sK_upR, sL_upM, sL_upR, sN_upM, sN_upR, sT_upM, sT_upR, sN_upM, Int.reduceAdd, Int.reduceMul, Int.reduceSub, Int.reduceNeg, Int.zero_add, Int.add_zero, hFτ.c]); exact rfl))
    | ((with_reducible apply rt_alx); (· simp (disch := omega) only [true_and, and_true, sM_ne, sM_eq, sM_neR, sM_eqR, sK_upM, sK_upR, sL_upM, sL_upR, sN_upM, sN_upR, sT_upM, sT_upR, sN_upM, Int.reduceAdd, Int.reduceMul, Int.reduceSub, Int.reduceNeg, Int.zero_add, Int.add_zero, hFτ.c]); (· first | omega | ((try simp (disch := omega) only [wr, true_and, and_true, sM_ne, sM_eq, sM_neR, sM_eqR, sK_upM, sK_upR, sL_upM, sL_upR, sN_upM, sN_upR, sT_upM, sT_upR, sN_upM, Int.reduceAdd, Int.reduceMul, Int.reduceSub, Int.reduceNeg, Int.zero_add, Int.add_zero, hFτ.c]) <;> omega)); (· (try simp (disch := omega) only [wr, true_and, and_true, sM_ne, sM_eq, sM_neR, sM_eqR, sK_upM, sK_upR, sL_upM, sL_upR, sN_upM, sN_upR, sT_upM, sT_upR, sN_upM, Int.reduceAdd, Int.reduceMul, Int.reduceSub, Int.reduceNeg, Int.zero_add, Int.add_zero, hFτ.c]); exact rfl))
    | ((with_reducible refine rt_as ?_ ?_ ?_); (· simp (disch := omega) only [true_and, and_true, sM_ne, sM_eq, sM_neR, sM_eqR, sK_upM, sK_upR, sL_upM, sL_upR, sN_upM, sN_upR, sT_upM, sT_upR, sN_upM, Int.reduceAdd, Int.reduceMul, Int.reduceSub, Int.reduceNeg, Int.zero_add, Int.add_zero, hFτ.c]); (· first | omega | ((try simp (disch := omega) only [wr, true_and, and_true, sM_ne, sM_eq, sM_neR, sM_eqR, sK_upM, sK_upR, sL_upM, sL_upR, sN_upM, sN_upR, sT_upM, sT_upR, sN_upM, Int.reduceAdd, Int.reduceMul, Int.reduceSub, Int.reduceNeg, Int.zero_add, Int.add_zero, hFτ.c]) <;> omega)))
    | ((with_reducible refine rt_p ?_ ?_ ?_); (· simp (disch := omega) only [true_and, and_true, sM_ne, sM_eq, sM_neR, sM_eqR, sK_upM, sK_upR, sL_upM, sL_upR, sN_upM, sN_upR, sT_upM, sT_upR, sN_upM, Int.reduceAdd, Int.reduceMul, Int.reduceSub, Int.reduceNeg, Int.zero_add, Int.add_zero, hFτ.c]); (· omega))
    | with_reducible refine rt_ret ?_
    | ((with_reducible apply rt_gwx); (· assumption); (· (try simp (disch := omega) only [wr, true_and, and_true, sM_ne, sM_eq, sM_neR, sM_eqR, sK_upM, sK_upR, sL_upM, sL_upR, sN_upM, sN_upR, sT_upM, sT_upR, sN_upM, Int.reduceAdd, Int.reduceMul, Int.reduceSub, Int.reduceNeg, Int.zero_add, Int.add_zero, hFτ.c]); exact rfl)))
          exact ref _ (by rw [if_neg hv, if_pos rfl])
        · repeat (first
    | with_reducible refine rt_b ?_
    | with_reducible refine rt_jn ?_
    | ((with_reducible refine rt_pos ?_ ?_); (· first | omega | ((try simp (disch := omega) only [wr, true_and, and_true, sM_ne, sM_eq, sM_neR, sM_eqR, sK_upM, sK_upR, sL_upM, sL_upR, sN_upM, sN_upR, sT_upM, sT_upR, sN_upM, Int.reduceAdd, Int.reduceMul, Int.reduceSub, Int.reduceNeg, Int.zero_add, Int.add_zero, hFτ.c, f3 ()]) <;> omega)))
    | ((with_reducible refine rt_neg ?_ ?_); (· first | omega | ((try simp (disch := omega) only [wr, true_and, and_true, sM_ne, sM_eq, sM_neR, sM_eqR, sK_upM, sK_upR, sL_upM, sL_upR, sN_upM, sN_upR, sT_upM, sT_upR, sN_upM, Int.reduceAdd, Int.reduceMul, Int.reduceSub, Int.reduceNeg, Int.zero_add, Int.add_zero, hFτ.c, f3 ()]) <;> omega)))
    | ((with_reducible refine rt_v ?_ ?_); · simp (disch := omega) only [true_and, and_true, sM_ne, sM_eq, sM_neR, sM_eqR, sK_upM, sK_upR, sL_upM, sL_upR, sN_upM, sN_upR, sT_upM, sT_upR, sN_upM, Int.reduceAdd, Int.reduceMul, Int.reduceSub, Int.reduceNeg, Int.zero_add, Int.add_zero, hFτ.c, f3 ()])
    | ((with_reducible apply rt_gx); (· simp (disch := omega) only [true_and, and_true, sM_ne, sM_eq, sM_neR, sM_eqR, sK_upM, sK_upR, sL_upM, sL_upR, sN_upM, sN_upR, sT_upM, sT_upR, sN_upM, Int.reduceAdd, Int.reduceMul, Int.reduceSub, Int.reduceNeg, Int.zero_add, Int.add_zero, hFτ.c, f3 ()]); (· (try simp (disch := omega) only [wr, true_and, and_true, sM_ne, sM_eq, sM_neR, sM_eqR, sK_upM, sK_upR, sL_upM, sL_upR, sN_upM, sN_upR, sT_upM, sT_upR, sN_upM, Int.reduceAdd, Int.reduceMul, Int.reduceSub, Int.reduceNeg, Int.zero_add, Int.add_zero, hFτ.c, f3 ()]); exact rfl))
    | ((with_reducible apply rt_alx); (· simp (disch := omega) only [true_and, and_true, sM_ne, sM_eq, sM_neR, sM_eqR, sK_upM, sK_upR, sL_upM, sL_upR, sN_upM, sN_upR, sT_upM, sT_upR, sN_upM, Int.reduceAdd, Int.reduceMul, Int.reduceSub, Int.reduceNeg, Int.zero_add, Int.add_zero, hFτ.c, f3 ()]); (· first | omega | ((try simp (disch := omega) only [wr, true_and, and_true, sM_ne, sM_eq, sM_neR, sM_eqR, sK_upM, sK_upR, sL_upM, sL_upR, sN_upM, sN_upR, sT_upM, sT_upR, sN_upM, Int.reduceAdd, Int.reduceMul, Int.reduceSub, Int.reduceNeg, Int.zero_add, Int.add_zero, hFτ.c, f3 ()]) <;> omega)); (· (try simp (disch := omega) only [wr, true_and, and_true, sM_ne, sM_eq, sM_neR, sM_eqR, sK_upM, sK_upR, sL_upM, sL_upR, sN_upM, sN_upR, sT_upM, sT_upR, sN_upM, Int.reduceAdd, Int.reduceMul, Int.reduceSub, Int.reduceNeg, Int.zero_add, Int.add_zero, hFτ.c, f3 ()]); exact rfl))
    | ((with_reducible refine rt_as ?_ ?_ ?_); (· simp (disch := omega) only [true_and, and_true, sM_ne, sM_eq, sM_neR, sM_eqR, sK_upM, sK_upR, sL_upM, sL_upR, sN_upM, sN_upR, sT_upM, sT_upR, sN_upM, Int.reduceAdd, Int.reduceMul, Int.reduceSub, Int.reduceNeg, Int.zero_add, Int.add_zero, hFτ.c, f3 ()]); (· first | omega | ((try simp (disch := omega) only [wr, true_and, and_true, sM_ne, sM_eq, sM_neR, sM_eqR, sK_upM, sK_upR, sL_upM, sL_upR, sN_upM, sN_upR, sT_upM, sT_upR, sN_upM, Int.reduceAdd, Int.reduceMul, Int.reduceSub, Int.reduceNeg, Int.zero_add, Int.add_zero, hFτ.c, f3 ()]) <;> omega)))
    | ((with_reducible refine rt_p ?_ ?_ ?_); (· simp (disch := omega) only [true_and, and_true, sM_ne, sM_eq, sM_neR, sM_eqR, sK_upM, sK_upR, sL_upM, sL_upR, sN_upM, sN_upR, sT_upM, sT_upR, sN_upM, Int.reduceAdd, Int.reduceMul, Int.reduceSub, Int.reduceNeg, Int.zero_add, Int.add_zero, hFτ.c, f3 ()]); (· omega))
    | with_reducible refine rt_ret ?_
    | ((with_reducible apply rt_gwx); (· assumption); (· (try simp (disch := omega) only [wr, true_and, and_true, sM_ne, sM_eq, sM_neR, sM_eqR, sK_upM, sK_upR, sL_upM, sL_upR, sN_upM, sN_upR, sT_upM, sT_upR, sN_upM, Int.reduceAdd, Int.reduceMul, Int.reduceSub, Int.reduceNeg, Int.zero_add, Int.add_zero, hFτ.c, f3 ()]); exact rfl)))
          exact ref _ (by rw [if_neg hv, if_neg (by omega), if_pos rfl])
        · repeat (first
    | with_reducible refine rt_b ?_
    | with_reducible refine rt_jn ?_
    | ((with_reducible refine rt_pos ?_ ?_); (· first | omega | ((try simp (disch := omega) only [wr, true_and, and_true, sM_ne, sM_eq, sM_neR, sM_eqR, sK_upM, sK_upR, sL_upM, sL_upR, sN_upM, sN_upR, sT_upM, sT_upR, sN_upM, Int.reduceAdd, Int.reduceMul, Int.reduceSub, Int.reduceNeg, Int.zero_add, Int.add_zero, hFτ.c, f4 ()]) <;> omega)))
    | ((with_reducible refine rt_neg ?_ ?_); (· first | omega | ((try simp (disch := omega) only [wr, true_and, and_true, sM_ne, sM_eq, sM_neR, sM_eqR, sK_upM, sK_upR, sL_upM, sL_upR, sN_upM, sN_upR, sT_upM, sT_upR, sN_upM, Int.reduceAdd, Int.reduceMul, Int.reduceSub, Int.reduceNeg, Int.zero_add, Int.add_zero, hFτ.c, f4 ()]) <;> omega)))
    | ((with_reducible refine rt_v ?_ ?_); · simp (disch := omega) only [true_and, and_true, sM_ne, sM_eq, sM_neR, sM_eqR, sK_upM, sK_upR, sL_upM, sL_upR, sN_upM, sN_upR, sT_upM, sT_upR, sN_upM, Int.reduceAdd, Int.reduceMul, Int.reduceSub, Int.reduceNeg, Int.zero_add, Int.add_zero, hFτ.c, f4 ()])
    | ((with_reducible apply rt_gx); (· simp (disch := omega) only [true_and, and_true, sM_ne, sM_eq, sM_neR, sM_eqR, sK_upM, sK_upR, sL_upM, sL_upR, sN_upM, sN_upR, sT_upM, sT_upR, sN_upM, Int.reduceAdd, Int.reduceMul, Int.reduceSub, Int.reduceNeg, Int.zero_add, Int.add_zero, hFτ.c, f4 ()]); (· (try simp (disch := omega) only [wr, true_and, and_true, sM_ne, sM_eq, sM_neR, sM_eqR, sK_upM, sK_upR, sL_upM, sL_upR, sN_upM, sN_upR, sT_upM, sT_upR, sN_upM, Int.reduceAdd, Int.reduceMul, Int.reduceSub, Int.reduceNeg, Int.zero_add, Int.add_zero, hFτ.c, f4 ()]); exact rfl))
    | ((with_reducible apply rt_alx); (· simp (disch := omega) only [true_and, and_true, sM_ne, sM_eq, sM_neR, sM_eqR, sK_upM, sK_upR, sL_upM, sL_upR, sN_upM, sN_upR, sT_upM, sT_upR, sN_upM, Int.reduceAdd, Int.reduceMul, Int.reduceSub, Int.reduceNeg, Int.zero_add, Int.add_zero, hFτ.c, f4 ()]); (· first | omega | ((try simp (disch := omega) only [wr, true_and, and_true, sM_ne, sM_eq, sM_neR, sM_eqR, sK_upM, sK_upR, sL_upM, sL_upR, sN_upM, sN_upR, sT_upM, sT_upR, sN_upM, Int.reduceAdd, Int.reduceMul, Int.reduceSub, Int.reduceNeg, Int.zero_add, Int.add_zero, hFτ.c, f4 ()]) <;> omega)); (· (try simp (disch := omega) only [wr, true_and, and_true, sM_ne, sM_eq, sM_neR, sM_eqR, sK_upM, sK_upR, sL_upM, sL_upR, sN_upM, sN_upR, sT_upM, sT_upR, sN_upM, Int.reduceAdd, Int.reduceMul, Int.reduceSub, Int.reduceNeg, Int.zero_add, Int.add_zero, hFτ.c, f4 ()]); exact rfl))
    | ((with_reducible refine rt_as ?_ ?_ ?_); (· simp (disch := omega) only [true_and, and_true, sM_ne, sM_eq, sM_neR, sM_eqR, sK_upM, sK_upR, sL_upM, sL_upR, sN_upM, sN_upR, sT_upM, sT_upR, sN_upM, Int.reduceAdd, Int.reduceMul, Int.reduceSub, Int.reduceNeg, Int.zero_add, Int.add_zero, hFτ.c, f4 ()]); (· first | omega | ((try simp (disch := omega) only [wr, true_and, and_true, sM_ne, sM_eq, sM_neR, sM_eqR, sK_upM, sK_upR, sL_upM, sL_upR, sN_upM, sN_upR, sT_upM, sT_upR, sN_upM, Int.reduceAdd, Int.reduceMul, Int.reduceSub, Int.reduceNeg, Int.zero_add, Int.add_zero, hFτ.c, f4 ()]) <;> omega)))
    | ((with_reducible refine rt_p ?_ ?_ ?_); (· simp (disch := omega) only [true_and, and_true, sM_ne, sM_eq, sM_neR, sM_eqR, sK_upM, sK_upR, sL_upM, sL_upR, sN_upM, sN_upR, sT_upM, sT_upR, sN_upM, Int.reduceAdd, Int.reduceMul, Int.reduceSub, Int.reduceNeg, Int.zero_add, Int.add_zero, hFτ.c, f4 ()]); (· omega))
    | with_reducible refine rt_ret ?_
    | ((with_reducible apply rt_gwx); (· assumption); (· (try simp (disch := omega) only [wr, true_and, and_true, sM_ne, sM_eq, sM_neR, sM_eqR, sK_upM, sK_upR, sL_upM, sL_upR, sN_upM, sN_upR, sT_upM, sT_upR, sN_upM, Int.reduceAdd, Int.reduceMul, Int.reduceSub, Int.reduceNeg, Int.zero_add, Int.add_zero, hFτ.c, f4 ()]); exact rfl)))
          exact ref _ (by rw [if_neg hv, if_neg (by omega), if_neg (by omega)])
    · rw [if_neg ha]
      refine rt_pos rfl (rt_ret ?_)
      unfold fX12_judge
      refine rt_b (rt_v (by simp (disch := omega) only [true_and, and_true, sM_ne, sM_eq, sM_neR, sM_eqR, sK_upM, sK_upR, sL_upM, sL_upR, sN_upM, sN_upR, sT_upM, sT_upR, sN_upM, Int.reduceAdd, Int.reduceMul, Int.reduceSub, Int.reduceNeg, Int.zero_add, Int.add_zero, hF.c]) (rt_e (f_isWay h w) ?_))
      rw [if_pos (show 0 ≤ w ∧ w < sM σ 64 8 from ⟨w0, w1⟩)]
      refine rt_neg (by omega) (rt_b (rt_e (f_in σ a 0 2) ?_))
      rw [if_neg ha]
      exact rt_pos rfl (rt_ret (fin0 h rfl))
  · refine rt_b (rt_v (by simp (disch := omega) only [true_and, and_true, sM_ne, sM_eq, sM_neR, sM_eqR, sK_upM, sK_upR, sL_upM, sL_upR, sN_upM, sN_upR, sT_upM, sT_upR, sN_upM, Int.reduceAdd, Int.reduceMul, Int.reduceSub, Int.reduceNeg, Int.zero_add, Int.add_zero, hF.c]) (rt_e (f_wayAt0 h hw) ?_))
    refine rt_pos (by omega) (rt_ret ?_)
    unfold fX12_judge
    refine rt_b (rt_v (by simp (disch := omega) only [true_and, and_true, sM_ne, sM_eq, sM_neR, sM_eqR, sK_upM, sK_upR, sL_upM, sL_upR, sN_upM, sN_upR, sT_upM, sT_upR, sN_upM, Int.reduceAdd, Int.reduceMul, Int.reduceSub, Int.reduceNeg, Int.zero_add, Int.add_zero, hF.c]) (rt_e (f_isWay h w) ?_))
    rw [if_neg hw]
    exact rt_pos rfl (rt_ret (fin0 h rfl))
