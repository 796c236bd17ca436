/-! moving till all rest -/
section MV2
variable (n k : Int) (ch so : Int → Int) (ln rt tl : Int → Int → Int) (st wi : Int → Int) (cs : List Int)
def mvF : Int → Int := if rsV n k ch so ln rt tl st wi cs = -1 then ch else updF ch (rsV n k ch so ln rt tl st wi cs) (betV n k ch so ln rt tl st wi cs (rsV n k ch so ln rt tl st wi cs))
end MV2
def mvN (n k : Int) (so : Int → Int) (ln rt tl : Int → Int → Int) (st wi : Int → Int) (cs : List Int) : Nat → (Int → Int) → Nat × (Int → Int)
  | 0, ch => (0, ch)
  | m + 1, ch => if rsV n k ch so ln rt tl st wi cs = -1 then (0, ch) else ((mvN n k so ln rt tl st wi cs m (mvF n k ch so ln rt tl st wi cs)).1 + 1, (mvN n k so ln rt tl st wi cs m (mvF n k ch so ln rt tl st wi cs)).2)
theorem mvN_le {n k : Int} {so : Int → Int} {ln rt tl : Int → Int → Int} {st wi : Int → Int} {cs : List Int} : ∀ (m : Nat) (ch : Int → Int), (mvN n k so ln rt tl st wi cs m ch).1 ≤ m
  | 0, ch => Nat.le_refl 0
  | m + 1, ch => by
    unfold mvN
    split
    · exact Nat.zero_le _
    · have := mvN_le (n := n) (k := k) (so := so) (ln := ln) (rt := rt) (tl := tl) (st := st) (wi := wi) (cs := cs) m (mvF n k ch so ln rt tl st wi cs)
      show _ + 1 ≤ m + 1
      omega
theorem bet_in {n k : Int} {ch so : Int → Int} {ln rt tl : Int → Int → Int} {st wi : Int → Int} {cs : List Int} (h : rsV n k ch so ln rt tl st wi cs ≠ -1) : 0 ≤ rsV n k ch so ln rt tl st wi cs ∧ rsV n k ch so ln rt tl st wi cs < n ∧ 0 ≤ betV n k ch so ln rt tl st wi cs (rsV n k ch so ln rt tl st wi cs) ∧ betV n k ch so ln rt tl st wi cs (rsV n k ch so ln rt tl st wi cs) ≤ 48 := by
  rcases rsV_in (n := n) (k := k) (ch := ch) (so := so) (ln := ln) (rt := rt) (tl := tl) (st := st) (wi := wi) (cs := cs) with e | ⟨a, b, c⟩
  · exact absurd e h
  · have := bt_lt (f := cIf n k ch so ln rt tl st wi cs (rsV n k ch so ln rt tl st wi cs)) (own := ownV n k ch so ln rt tl st wi cs (rsV n k ch so ln rt tl st wi cs)) (b := -1) 49 c
    refine ⟨a, b, ?_⟩
    unfold betV
    omega
def mvS (W n a i : Int) : Prop := lnS a i ∨ (a = W + 1 ∧ 0 ≤ i ∧ i < n)
theorem mvS_al {W n : Int} : ∀ a i, mvS W n a i → alS W a i := by
  intro a i q
  unfold mvS lnS at q
  unfold alS lnS
  omega
/-- what stays as it was while choices change -/
theorem keepC {S : Int → Int → Prop} {σ τ : ZS} {W n k T : Int} {ch so : Int → Int} {ln rt tl : Int → Int → Int} {st wi : Int → Int} {cs ls : List Int} (hV : LV σ W n k ch so ln rt) (hC : CV σ T tl st wi cs ls) (hT : TV σ T) (hs : Sep σ W T) (c : Ch S σ τ) (hS : ∀ a i, S a i → lnS a i ∨ a = W + 1 ∨ a = 54) : CV τ T tl st wi cs ls ∧ TV τ T ∧ Sep τ W T := by
  have hF := hV.1
  have hW := hV.2.1.1
  have h9 := hF.2.2.2
  have hA : ∀ a i, S a i → alS W a i := fun a i q => by have := hS a i q; unfold lnS at this; unfold alS lnS; omega
  have hn : ∀ a i, a < 93 → S a i → lnS a i ∨ a = 54 := fun a i q s => by have := hS a i s; unfold lnS at this ⊢; omega
  obtain ⟨x, y⟩ := hC.alt (tl' := tl) (wi' := wi) hF hW hs c hA (fun g t g0 g1 t0 t1 => by rw [c.M (by omega) (fun s => by have := hn _ _ (by omega) s; unfold lnS at this; omega)]; exact hC.1 g t g0 g1 t0 t1) (fun s s0 s1 => by rw [c.M (by omega) (fun s => by have := hn _ _ (by omega) s; unfold lnS at this; omega), c.M (by omega) (fun s => by have := hn _ _ (by omega) s; unfold lnS at this; omega)]; exact hC.2.2.1 s s0 s1)
  exact ⟨x, hT.alt hF hW c hA, y⟩
theorem LV.chs {S : Int → Int → Prop} {σ τ : ZS} {W n k : Int} {ch ch' so : Int → Int} {ln rt : Int → Int → Int} (h : LV σ W n k ch so ln rt) (c : Ch S σ τ) (hS : ∀ a i, S a i → lnS a i ∨ a = W + 1 ∨ a = 54) (hch : ∀ x : Int, 0 ≤ x → x < n → sM τ (W + 1) x = ch' x ∧ 0 ≤ ch' x ∧ ch' x ≤ 48) : LV τ W n k ch' so ln rt := by
  have h9 := h.1.2.2.2
  have hW := h.2.1.1
  refine h.alt c (fun a i q => by have := hS a i q; unfold lnS at this; unfold alS lnS; omega) hch (fun g t g0 g1 t0 t1 => ?_)
  rw [c.M (by omega) (fun s => by have := hS _ _ s; unfold lnS at this; omega)]
  exact h.2.2.2.2.2.2.2.2.2 g t g0 g1 t0 t1
theorem f_makesMove {σ : ZS} {W n k T : Int} {ch so : Int → Int} {ln rt tl : Int → Int → Int} {st wi : Int → Int} {cs ls : List Int} (hV : LV σ W n k ch so ln rt) (hC : CV σ T tl st wi cs ls) (hT : TV σ T) (hs : Sep σ W T) : Rt (fX11_makesMove σ 3 W) (fun v τ => v = (if rsV n k ch so ln rt tl st wi cs = -1 then 0 else 1) ∧ Ch (mvS W n) σ τ ∧ LV τ W n k (mvF n k ch so ln rt tl st wi cs) so ln rt) := by
  have hF := hV.1
  unfold fX11_makesMove
  refine rt_b (rt_v (by simp (disch := omega) only [true_and, and_true, sM_ne, sM_eq, sM_neR, sM_eqR, sK_upM, sK_upR, sL_upM, sL_upR, sN_upM, sN_upR, sT_upM, sT_upR, sN_upM, Int.reduceAdd, Int.reduceMul, Int.reduceSub, Int.reduceNeg, Int.zero_add, Int.add_zero, hF.c]) ?_)
  refine Rt.mono (f_findRestless hV hC hT) ?_
  rintro v τ ⟨e, hcτ, hq⟩
  have hc1 : Ch (mvS W n) σ τ := hcτ.mono (fun a i q => Or.inl q)
  have hVτ := hV.ch hcτ
  unfold mvF
  by_cases hv : v = -1
  · have hr : rsV n k ch so ln rt tl st wi cs = -1 := by rw [← e]; exact hv
    rw [if_pos hr, if_pos hr]
    exact rt_pos hv (rt_ret ⟨rfl, hc1, hVτ⟩)
  · have hr : rsV n k ch so ln rt tl st wi cs ≠ -1 := by rw [← e]; exact hv
    rw [if_neg hr, if_neg hr]
    have hb := bet_in hr
    obtain ⟨f3, -⟩ := hq hv
    rw [e] at f3
    rw [e]
    generalize rsV n k ch so ln rt tl st wi cs = r at *
    generalize betV n k ch so ln rt tl st wi cs r = b at *
    have hVτ0 := hVτ
    obtain ⟨hFτ, ⟨w1, w2⟩, ⟨k0, k5, kk⟩, ⟨n1, n2, n3⟩, p1, ⟨q1, q2⟩, a1, -⟩ := hVτ
    have hw : wkn τ W := wk_w kk k0 k5
    replace p1 := hd p1
    replace q1 := hd q1
    replace q2 := hd q2
    replace f3 := hd f3
    refine rt_neg (by omega) ?_
    repeat (first
    | with_reducible refine rt_b ?_
    | with_reducible refine rt_jn ?_
    | ((with_reducible refine rt_pos ?_ ?_); (· first | omega | ((try simp (disch := omega) only [wr, true_and, and_true, sM_ne, sM_eq, sM_neR, sM_eqR, sK_upM, sK_upR, sL_upM, sL_upR, sN_upM, sN_upR, sT_upM, sT_upR, sN_upM, Int.reduceAdd, Int.reduceMul, Int.reduceSub, Int.reduceNeg, Int.zero_add, Int.add_zero, hFτ.c, p1 (), q1 (), q2 (), f3 ()]) <;> omega)))
    | ((with_reducible refine rt_neg ?_ ?_); (· first | omega | ((try simp (disch := omega) only [wr, true_and, and_true, sM_ne, sM_eq, sM_neR, sM_eqR, sK_upM, sK_upR, sL_upM, sL_upR, sN_upM, sN_upR, sT_upM, sT_upR, sN_upM, Int.reduceAdd, Int.reduceMul, Int.reduceSub, Int.reduceNeg, Int.zero_add, Int.add_zero, hFτ.c, p1 (), q1 (), q2 (), f3 ()]) <;> omega)))
    | ((with_reducible refine rt_v ?_ ?_); · simp (disch := omega) only [true_and, and_true, sM_ne, sM_eq, sM_neR, sM_eqR, sK_upM, sK_upR, sL_upM, sL_upR, sN_upM, sN_upR, sT_upM, sT_upR, sN_upM, Int.reduceAdd, Int.reduceMul, Int.reduceSub, Int.reduceNeg, Int.zero_add, Int.add_zero, hFτ.c, p1 (), q1 (), q2 (), f3 ()])
    | ((with_reducible apply rt_gx); (· simp (disch := omega) only [true_and, and_true, sM_ne, sM_eq, sM_neR, sM_eqR, sK_upM, sK_upR, sL_upM, sL_upR, sN_upM, sN_upR, sT_upM, sT_upR, sN_upM, Int.reduceAdd, Int.reduceMul, Int.reduceSub, Int.reduceNeg, Int.zero_add, Int.add_zero, hFτ.c, p1 (), q1 (), q2 (), f3 ()]); (· (try simp (disch := omega) only [wr, true_and, and_true, sM_ne, sM_eq, sM_neR, sM_eqR, sK_upM, sK_upR, sL_upM, sL_upR, sN_upM, sN_upR, sT_upM, sT_upR, sN_upM, Int.reduceAdd, Int.reduceMul, Int.reduceSub, Int.reduceNeg, Int.zero_add, Int.add_zero, hFτ.c, p1 (), q1 (), q2 (), f3 ()]); exact rfl))
    | ((with_reducible apply rt_alx); (· simp (disch := omega) only [true_and, and_true, sM_ne, sM_eq, sM_neR, sM_eqR, sK_upM, sK_upR, sL_upM, sL_upR, sN_upM, sN_upR, sT_upM, sT_upR, sN_upM, Int.reduceAdd, Int.reduceMul, Int.reduceSub, Int.reduceNeg, Int.zero_add, Int.add_zero, hFτ.c, p1 (), q1 (), q2 (), f3 ()]); (· first | omega | ((try simp (disch := omega) only [wr, true_and, and_true, sM_ne, sM_eq, sM_neR, sM_eqR, sK_upM, sK_upR, sL_upM, sL_upR, sN_upM, sN_upR, sT_upM, sT_upR, sN_upM, Int.reduceAdd, Int.reduceMul, Int.reduceSub, Int.reduceNeg, Int.zero_add, Int.add_zero, hFτ.c, p1 (), q1 (), q2 (), f3 ()]) <;> omega)); (· (try simp (disch := omega) only [wr, true_and, and_true, sM_ne, sM_eq, sM_neR, sM_eqR, sK_upM, sK_upR, sL_upM, sL_upR, sN_upM, sN_upR, sT_upM, sT_upR, sN_upM, Int.reduceAdd, Int.reduceMul, Int.reduceSub, Int.reduceNeg, Int.zero_add, Int.add_zero, hFτ.c, p1 (), q1 (), q2 (), f3 ()]); exact rfl))
    | ((with_reducible refine rt_as ?_ ?_ ?_); (· simp (disch := omega) only [true_and, and_true, sM_ne, sM_eq, sM_neR, sM_eqR, sK_upM, sK_upR, sL_upM, sL_upR, sN_upM, sN_upR, sT_upM, sT_upR, sN_upM, Int.reduceAdd, Int.reduceMul, Int.reduceSub, Int.reduceNeg, Int.zero_add, Int.add_zero, hFτ.c, p1 (), q1 (), q2 (), f3 ()]); (· first | omega | ((try simp (disch := omega) only [wr, true_and, and_true, sM_ne, sM_eq, sM_neR, sM_eqR, sK_upM, sK_upR, sL_upM, sL_upR, sN_upM, sN_upR, sT_upM, sT_upR, sN_upM, Int.reduceAdd, Int.reduceMul, Int.reduceSub, Int.reduceNeg, Int.zero_add, Int.add_zero, hFτ.c, p1 (), q1 (), q2 (), f3 ()]) <;> omega)))
    | ((with_reducible refine rt_p ?_ ?_ ?_); (· simp (disch := omega) only [true_and, and_true, sM_ne, sM_eq, sM_neR, sM_eqR, sK_upM, sK_upR, sL_upM, sL_upR, sN_upM, sN_upR, sT_upM, sT_upR, sN_upM, Int.reduceAdd, Int.reduceMul, Int.reduceSub, Int.reduceNeg, Int.zero_add, Int.add_zero, hFτ.c, p1 (), q1 (), q2 (), f3 ()]); (· omega))
    | with_reducible refine rt_ret ?_
    | ((with_reducible apply rt_gwx); (· assumption); (· (try simp (disch := omega) only [wr, true_and, and_true, sM_ne, sM_eq, sM_neR, sM_eqR, sK_upM, sK_upR, sL_upM, sL_upR, sN_upM, sN_upR, sT_upM, sT_upR, sN_upM, Int.reduceAdd, Int.reduceMul, Int.reduceSub, Int.reduceNeg, Int.zero_add, Int.add_zero, hFτ.c, p1 (), q1 (), q2 (), f3 ()]); exact rfl)))
    have hc2 : Ch (mvS W n) τ (upM τ (W + 1) r b) := Ch.rf.up (Or.inr ⟨rfl, hb.1, hb.2.1⟩)
    refine ⟨rfl, hc1.tr hc2, hVτ0.chs hc2 (fun a i q => by unfold mvS lnS at q; unfold lnS; omega) (fun x x0 x1 => ?_)⟩
    by_cases q : x = r
    · subst q
      rw [sM_eq ⟨rfl, rfl⟩, updF_eq]
      exact ⟨rfl, hb.2.2⟩
    · rw [sM_ne (Or.inr q), updF_ne q]
      exact a1 x x0 x1
theorem l_rest28 {σ : ZS} {W n k T a2 : Int} {so : Int → Int} {ln rt tl : Int → Int → Int} {st wi : Int → Int} {cs ls : List Int} (ha : a2 ≤ 8) :
    ∀ (N x : Nat) (s : ZS) (ch : Int → Int), LV s W n k ch so ln rt → CV s T tl st wi cs ls → TV s T → Sep s W T → Ch (mvS W n) σ s → (x : Int) ≤ a2 → a2 - (x : Int) < (N : Int) → Rt (lX11_rest_28 3 a2 W N s (x : Int)) (fun v τ => v = (x : Int) + ((mvN n k so ln rt tl st wi cs (a2 - (x : Int)).toNat ch).1 : Int) ∧ Ch (mvS W n) σ τ ∧ LV τ W n k (mvN n k so ln rt tl st wi cs (a2 - (x : Int)).toNat ch).2 so ln rt)
  | 0, x, s, ch, _, _, _, _, _, h1, h2 => by omega
  | N + 1, x, s, ch, hV, hC, hT, hs, hc, h1, h2 => by
    have hF := hV.1
    rw [lX11_rest_28]
    by_cases he : a2 ≤ (x : Int)
    · refine rt_pos he (rt_ret ?_)
      rw [show (a2 - (x : Int)).toNat = 0 by omega]
      exact ⟨(Int.add_zero _).symm, hc, hV⟩
    · refine rt_neg he ?_
      obtain ⟨m, hm⟩ : ∃ m : Nat, (a2 - (x : Int)).toNat = m + 1 := ⟨(a2 - (x : Int)).toNat - 1, by omega⟩
      rw [hm]
      refine rt_b (rt_v (by simp (disch := omega) only [true_and, and_true, sM_ne, sM_eq, sM_neR, sM_eqR, sK_upM, sK_upR, sL_upM, sL_upR, sN_upM, sN_upR, sT_upM, sT_upR, sN_upM, Int.reduceAdd, Int.reduceMul, Int.reduceSub, Int.reduceNeg, Int.zero_add, Int.add_zero, hF.c]) ?_)
      refine Rt.mono (f_makesMove hV hC hT hs) ?_
      rintro v τ ⟨e, hcτ, hVτ⟩
      unfold mvN
      by_cases hr : rsV n k ch so ln rt tl st wi cs = -1
      · rw [if_pos hr] at e
        rw [if_pos hr]
        refine rt_pos e (rt_ret ⟨(Int.add_zero _).symm, hc.tr hcτ, ?_⟩)
        unfold mvF at hVτ
        rw [if_pos hr] at hVτ
        exact hVτ
      · rw [if_neg hr] at e
        rw [if_neg hr]
        refine rt_neg (by omega) ?_
        rw [wr1 x (by omega)]
        obtain ⟨hC2, hT2, hs2⟩ := keepC hV hC hT hs hcτ (fun a i q => by unfold mvS lnS at q; unfold lnS; omega)
        have := l_rest28 ha N (x + 1) τ _ hVτ hC2 hT2 hs2 (hc.tr hcτ) (by omega) (by omega)
        rw [show (a2 - ((x + 1 : Nat) : Int)).toNat = m by omega] at this
        refine this.mono (fun v ρ q => ⟨?_, q.2⟩)
        rw [q.1]
        omega
/-! the reference -/
theorem l_mv13 {σ : ZS} {w n k a2 : Int} {so : Int → Int} {ln rt tl : Int → Int → Int} {st wi : Int → Int} {cs ls : List Int} (ha : a2 ≤ 8) :
    ∀ (N x : Nat) (s : ZS) (ch : Int → Int), MV s w n k ch so ln rt → MC s tl st wi cs ls → Ch mdW σ s → (x : Int) < a2 → a2 - (x : Int) + 1 < (N : Int) → Rt (lX12_moves_13 64 w a2 N s (x : Int) 1) (fun v τ => v = (x : Int) + ((mvN n k so ln rt tl st wi cs (a2 - (x : Int)).toNat ch).1 : Int) ∧ Ch mdW σ τ ∧ MV τ w n k (mvN n k so ln rt tl st wi cs (a2 - (x : Int)).toNat ch).2 so ln rt ∧ MC τ tl st wi cs ls)
  | 0, x, s, ch, _, _, _, h1, h2 => by omega
  | N + 1, x, s, ch, hV, hC, hc, h1, h2 => by
    have hF := hV.1
    have hn := hV.2.2.2.1.2
    rw [lX12_moves_13]
    refine rt_neg (by omega) ?_
    refine rt_b (rt_v (by simp (disch := omega) only [true_and, and_true, sM_ne, sM_eq, sM_neR, sM_eqR, sK_upM, sK_upR, sL_upM, sL_upR, sN_upM, sN_upR, sT_upM, sT_upR, sN_upM, Int.reduceAdd, Int.reduceMul, Int.reduceSub, Int.reduceNeg, Int.zero_add, Int.add_zero, hF.c]) ?_)
    refine Rt.mono (f_looks hV hC) ?_
    rintro v0 τ ⟨hcτ, hVτ, hCτ, f1, f2⟩
    have hFτ := hVτ.1
    obtain ⟨m, hm⟩ : ∃ m : Nat, (a2 - (x : Int)).toNat = m + 1 := ⟨(a2 - (x : Int)).toNat - 1, by omega⟩
    rw [hm]
    obtain ⟨N', rfl⟩ : ∃ N', N = N' + 1 := ⟨N - 1, by omega⟩
    have stop : ∀ (ρ : ZS) (y : Int) (Q : Int → ZS → Prop), Q y ρ → Rt (lX12_moves_13 64 w a2 (N' + 1) ρ y 0) Q := by
      intro ρ y Q q
      rw [lX12_moves_13]
      exact rt_pos rfl (rt_ret q)
    unfold mvN
    by_cases hr : rsV n k ch so ln rt tl st wi cs = -1
    · rw [if_pos hr]
      have f1' := hd (f1.trans hr)
      refine rt_gx (x := -1) (by simp (disch := omega) only [true_and, and_true, sM_ne, sM_eq, sM_neR, sM_eqR, sK_upM, sK_upR, sL_upM, sL_upR, sN_upM, sN_upR, sT_upM, sT_upR, sN_upM, Int.reduceAdd, Int.reduceMul, Int.reduceSub, Int.reduceNeg, Int.zero_add, Int.add_zero, hFτ.c]) (f1' ()) ?_
      refine rt_jn (rt_pos rfl ?_)
      refine rt_gx (x := -1) (by simp (disch := omega) only [true_and, and_true, sM_ne, sM_eq, sM_neR, sM_eqR, sK_upM, sK_upR, sL_upM, sL_upR, sN_upM, sN_upR, sT_upM, sT_upR, sN_upM, Int.reduceAdd, Int.reduceMul, Int.reduceSub, Int.reduceNeg, Int.zero_add, Int.add_zero, hFτ.c]) (f1' ()) ?_
      refine rt_jn (rt_jn (rt_pos rfl ?_))
      exact stop τ _ _ ⟨(Int.add_zero _).symm, hc.tr hcτ, hVτ, hCτ⟩
    · rw [if_neg hr]
      have hb := bet_in hr
      have f3 := (f2 hr).1
      have hmf : mvF n k ch so ln rt tl st wi cs = updF ch (rsV n k ch so ln rt tl st wi cs) (betV n k ch so ln rt tl st wi cs (rsV n k ch so ln rt tl st wi cs)) := by unfold mvF; rw [if_neg hr]
      rw [hmf]
      generalize rsV n k ch so ln rt tl st wi cs = r at *
      generalize betV n k ch so ln rt tl st wi cs r = b at *
      replace f1 := hd f1
      replace f3 := hd f3
      refine rt_gx (x := r) (by simp (disch := omega) only [true_and, and_true, sM_ne, sM_eq, sM_neR, sM_eqR, sK_upM, sK_upR, sL_upM, sL_upR, sN_upM, sN_upR, sT_upM, sT_upR, sN_upM, Int.reduceAdd, Int.reduceMul, Int.reduceSub, Int.reduceNeg, Int.zero_add, Int.add_zero, hFτ.c]) (f1 ()) ?_
      refine rt_jn (rt_neg hr ?_)
      repeat (first
    | with_reducible refine rt_b ?_
    | with_reducible refine rt_jn ?_
    | ((with_reducible refine rt_pos ?_ ?_); (· first | omega | ((try simp (disch := omega) only [wr, true_and, and_true, sM_ne, sM_eq, sM_neR, sM_eqR, sK_upM, sK_upR, sL_upM, sL_upR, sN_upM, sN_upR, sT_upM, sT_upR, sN_upM, Int.reduceAdd, Int.reduceMul, Int.reduceSub, Int.reduceNeg, Int.zero_add, Int.add_zero, hFτ.c, f1 (), f3 ()]) <;> omega)))
    | ((with_reducible refine rt_neg ?_ ?_); (· first | omega | ((try simp (disch := omega) only [wr, true_and, and_true, sM_ne, sM_eq, sM_neR, sM_eqR, sK_upM, sK_upR, sL_upM, sL_upR, sN_upM, sN_upR, sT_upM, sT_upR, sN_upM, Int.reduceAdd, Int.reduceMul, Int.reduceSub, Int.reduceNeg, Int.zero_add, Int.add_zero, hFτ.c, f1 (), f3 ()]) <;> omega)))
    | ((with_reducible refine rt_v ?_ ?_); · simp (disch := omega) only [true_and, and_true, sM_ne, sM_eq, sM_neR, sM_eqR, sK_upM, sK_upR, sL_upM, sL_upR, sN_upM, sN_upR, sT_upM, sT_upR, sN_upM, Int.reduceAdd, Int.reduceMul, Int.reduceSub, Int.reduceNeg, Int.zero_add, Int.add_zero, hFτ.c, f1 (), f3 ()])
    | ((with_reducible apply rt_gx); (· simp (disch := omega) only [true_and, and_true, sM_ne, sM_eq, sM_neR, sM_eqR, sK_upM, sK_upR, sL_upM, sL_upR, sN_upM, sN_upR, sT_upM, sT_upR, sN_upM, Int.reduceAdd, Int.reduceMul, Int.reduceSub, Int.reduceNeg, Int.zero_add, Int.add_zero, hFτ.c, f1 (), f3 ()]); (· (try simp (disch := omega) only [wr, true_and, and_true, sM_ne, sM_eq, sM_neR, sM_eqR, sK_upM, sK_upR, sL_upM, sL_upR, sN_upM, sN_upR, sT_upM, sT_upR, sN_upM, Int.reduceAdd, Int.reduceMul, Int.reduceSub, Int.reduceNeg, Int.zero_add, Int.add_zero, hFτ.c, f1 (), f3 ()]); exact rfl))
    | ((with_reducible apply rt_alx); (· simp (disch := omega) only [true_and, and_true, sM_ne, sM_eq, sM_neR, sM_eqR, sK_upM, sK_upR, sL_upM, sL_upR, sN_upM, sN_upR, sT_upM, sT_upR, sN_upM, Int.reduceAdd, Int.reduceMul, Int.reduceSub, Int.reduceNeg, Int.zero_add, Int.add_zero, hFτ.c, f1 (), f3 ()]); (· first | omega | ((try simp (disch := omega) only [wr, true_and, and_true, sM_ne, sM_eq, sM_neR, sM_eqR, sK_upM, sK_upR, sL_upM, sL_upR, sN_upM, sN_upR, sT_upM, sT_upR, sN_upM, Int.reduceAdd, Int.reduceMul, Int.reduceSub, Int.reduceNeg, Int.zero_add, Int.add_zero, hFτ.c, f1 (), f3 ()]) <;> omega)); (· (try simp (disch := omega) only [wr, true_and, and_true, sM_ne, sM_eq, sM_neR, sM_eqR, sK_upM, sK_upR, sL_upM, sL_upR, sN_upM, sN_upR, sT_upM, sT_upR, sN_upM, Int.reduceAdd, Int.reduceMul, Int.reduceSub, Int.reduceNeg, Int.zero_add, Int.add_zero, hFτ.c, f1 (), f3 ()]); exact rfl))
    | ((with_reducible refine rt_as ?_ ?_ ?_); (· simp (disch := omega) only [true_and, and_true, sM_ne, sM_eq, sM_neR, sM_eqR, sK_upM, sK_upR, sL_upM, sL_upR, sN_upM, sN_upR, sT_upM, sT_upR, sN_upM, Int.reduceAdd, Int.reduceMul, Int.reduceSub, Int.reduceNeg, Int.zero_add, Int.add_zero, hFτ.c, f1 (), f3 ()]); (· first | omega | ((try simp (disch := omega) only [wr, true_and, and_true, sM_ne, sM_eq, sM_neR, sM_eqR, sK_upM, sK_upR, sL_upM, sL_upR, sN_upM, sN_upR, sT_upM, sT_upR, sN_upM, Int.reduceAdd, Int.reduceMul, Int.reduceSub, Int.reduceNeg, Int.zero_add, Int.add_zero, hFτ.c, f1 (), f3 ()]) <;> omega)))
    | ((with_reducible refine rt_p ?_ ?_ ?_); (· simp (disch := omega) only [true_and, and_true, sM_ne, sM_eq, sM_neR, sM_eqR, sK_upM, sK_upR, sL_upM, sL_upR, sN_upM, sN_upR, sT_upM, sT_upR, sN_upM, Int.reduceAdd, Int.reduceMul, Int.reduceSub, Int.reduceNeg, Int.zero_add, Int.add_zero, hFτ.c, f1 (), f3 ()]); (· omega))
    | with_reducible refine rt_ret ?_
    | ((with_reducible apply rt_gwx); (· assumption); (· (try simp (disch := omega) only [wr, true_and, and_true, sM_ne, sM_eq, sM_neR, sM_eqR, sK_upM, sK_upR, sL_upM, sL_upR, sN_upM, sN_upR, sT_upM, sT_upR, sN_upM, Int.reduceAdd, Int.reduceMul, Int.reduceSub, Int.reduceNeg, Int.zero_add, Int.add_zero, hFτ.c, f1 (), f3 ()]); exact rfl)))
      have hc2 : Ch mdW τ (upM τ 88 r b) := Ch.rf.up (Or.inr (Or.inl rfl))
      have hV2 : MV (upM τ 88 r b) w n k (updF ch r b) so ln rt := hVτ.chW hc2 (fun j j0 j1 => by
        by_cases q : j = r
        · subst q
          rw [sM_eq ⟨rfl, rfl⟩, updF_eq]
          exact ⟨rfl, hb.2.2⟩
        · rw [sM_ne (Or.inr q), updF_ne q]
          exact hVτ.2.2.2.2.1 j j0 j1)
      have hC2 := hCτ.chW hFτ hc2
      rw [wr1 x (by omega)]
      by_cases hlast : a2 ≤ ((x + 1 : Nat) : Int)
      · refine rt_pos hlast ?_
        have : m = 0 := by omega
        subst this
        refine stop _ _ _ ⟨?_, (hc.tr hcτ).tr hc2, hV2, hC2⟩
        show ((x + 1 : Nat) : Int) = (x : Int) + ((0 + 1 : Nat) : Int)
        omega
      · refine rt_neg hlast ?_
        have := l_mv13 ha (N' + 1) (x + 1) _ _ hV2 hC2 ((hc.tr hcτ).tr hc2) (by omega) (by omega)
        rw [show (a2 - ((x + 1 : Nat) : Int)).toNat = m by omega] at this
        refine this.mono (fun v ρ q => ⟨?_, q.2⟩)
        rw [q.1]
        omega
theorem f_moves {σ : ZS} {w n k a2 : Int} {ch so : Int → Int} {ln rt tl : Int → Int → Int} {st wi : Int → Int} {cs ls : List Int} (ha : a2 ≤ 8) (hV : MV σ w n k ch so ln rt) (hC : MC σ tl st wi cs ls) : Rt (fX12_moves σ 64 w a2) (fun v τ => v = ((mvN n k so ln rt tl st wi cs a2.toNat ch).1 : Int) ∧ Ch mdW σ τ ∧ MV τ w n k (mvN n k so ln rt tl st wi cs a2.toNat ch).2 so ln rt ∧ MC τ tl st wi cs ls) := by
  unfold fX12_moves
  refine rt_jn ?_
  by_cases h : a2 ≤ 0
  · refine rt_pos h ?_
    rw [show a2.toNat = 0 by omega]
    show Rt (lX12_moves_13 64 w a2 1000 σ 0 0) _
    rw [show (1000 : Nat) = 999 + 1 from rfl, lX12_moves_13]
    exact rt_pos rfl (rt_ret ⟨rfl, Ch.rf, hV, hC⟩)
  · refine rt_neg h ?_
    have := l_mv13 (σ := σ) ha 1000 0 σ ch hV hC Ch.rf (by omega) (by omega)
    rw [show (a2 - ((0 : Nat) : Int)).toNat = a2.toNat by omega] at this
    refine Rt.mono this (fun v ρ q => ⟨?_, q.2⟩)
    rw [q.1]
    omega
theorem l_rest39 {σ : ZS} {w n v0 : Int} {ch : Int → Int} (hw : 0 ≤ w ∧ w < 8) (hn : 0 ≤ n ∧ n ≤ 16) :
    ∀ (N c : Nat) (s : ZS), FxD s → sM s 72 w = n → (c : Int) ≤ n → n - (c : Int) < (N : Int) → (∀ j : Int, 0 ≤ j → j < n → sM s 88 j = ch j) → Ch (fun a i => a = 73 ∧ 16 * w ≤ i ∧ i < 16 * w + 16) σ s → (∀ j : Int, 0 ≤ j → j < (c : Int) → sM s 73 (16 * w + j) = ch j) → Rt (lX12_rest_39 64 w v0 N s (c : Int)) (fun v τ => v = v0 ∧ Ch (fun a i => a = 73 ∧ 16 * w ≤ i ∧ i < 16 * w + 16) σ τ ∧ ∀ j : Int, 0 ≤ j → j < n → sM τ 73 (16 * w + j) = ch j)
  | 0, c, s, _, _, h1, h2, _, _, _ => by omega
  | N + 1, c, s, hF, hnn, h1, h2, h88, hc, hz => by
    replace hnn := hd hnn
    rw [lX12_rest_39]
    repeat (first
    | with_reducible refine rt_b ?_
    | with_reducible refine rt_jn ?_
    | ((with_reducible refine rt_pos ?_ ?_); (· first | omega | ((try simp (disch := omega) only [wr, true_and, and_true, sM_ne, sM_eq, sM_neR, sM_eqR, sK_upM, sK_upR, sL_upM, sL_upR, sN_upM, sN_upR, sT_upM, sT_upR, sN_upM, Int.reduceAdd, Int.reduceMul, Int.reduceSub, Int.reduceNeg, Int.zero_add, Int.add_zero, hF.c, hnn ()]) <;> omega)))
    | ((with_reducible refine rt_neg ?_ ?_); (· first | omega | ((try simp (disch := omega) only [wr, true_and, and_true, sM_ne, sM_eq, sM_neR, sM_eqR, sK_upM, sK_upR, sL_upM, sL_upR, sN_upM, sN_upR, sT_upM, sT_upR, sN_upM, Int.reduceAdd, Int.reduceMul, Int.reduceSub, Int.reduceNeg, Int.zero_add, Int.add_zero, hF.c, hnn ()]) <;> omega)))
    | ((with_reducible refine rt_v ?_ ?_); · simp (disch := omega) only [true_and, and_true, sM_ne, sM_eq, sM_neR, sM_eqR, sK_upM, sK_upR, sL_upM, sL_upR, sN_upM, sN_upR, sT_upM, sT_upR, sN_upM, Int.reduceAdd, Int.reduceMul, Int.reduceSub, Int.reduceNeg, Int.zero_add, Int.add_zero, hF.c, hnn ()])
    | ((with_reducible apply rt_gx); (· simp (disch := omega) only [true_and, and_true, sM_ne, sM_eq, sM_neR, sM_eqR, sK_upM, sK_upR, sL_upM, sL_upR, sN_upM, sN_upR, sT_upM, sT_upR, sN_upM, Int.reduceAdd, Int.reduceMul, Int.reduceSub, Int.reduceNeg, Int.zero_add, Int.add_zero, hF.c, hnn ()]); (· (try simp (disch := omega) only [wr, true_and, and_true, sM_ne, sM_eq, sM_neR, sM_eqR, sK_upM, sK_upR, sL_upM, sL_upR, sN_upM, sN_upR, sT_upM, sT_upR, sN_upM, Int.reduceAdd, Int.reduceMul, Int.reduceSub, Int.reduceNeg, Int.zero_add, Int.add_zero, hF.c, hnn ()]); exact rfl))
    | ((with_reducible apply rt_alx); (· simp (disch := omega) only [true_and, and_true, sM_ne, sM_eq, sM_neR, sM_eqR, sK_upM, sK_upR, sL_upM, sL_upR, sN_upM, sN_upR, sT_upM, sT_upR, sN_upM, Int.reduceAdd, Int.reduceMul, Int.reduceSub, Int.reduceNeg, Int.zero_add, Int.add_zero, hF.c, hnn ()]); (· first | omega | ((try simp (disch := omega) only [wr, true_and, and_true, sM_ne, sM_eq, sM_neR, sM_eqR, sK_upM, sK_upR, sL_upM, sL_upR, sN_upM, sN_upR, sT_upM, sT_upR, sN_upM, Int.reduceAdd, Int.reduceMul, Int.reduceSub, Int.reduceNeg, Int.zero_add, Int.add_zero, hF.c, hnn ()]) <;> omega)); (· (try simp (disch := omega) only [wr, true_and, and_true, sM_ne, sM_eq, sM_neR, sM_eqR, sK_upM, sK_upR, sL_upM, sL_upR, sN_upM, sN_upR, sT_upM, sT_upR, sN_upM, Int.reduceAdd, Int.reduceMul, Int.reduceSub, Int.reduceNeg, Int.zero_add, Int.add_zero, hF.c, hnn ()]); exact rfl))
    | ((with_reducible refine rt_as ?_ ?_ ?_); (· simp (disch := omega) only [true_and, and_true, sM_ne, sM_eq, sM_neR, sM_eqR, sK_upM, sK_upR, sL_upM, sL_upR, sN_upM, sN_upR, sT_upM, sT_upR, sN_upM, Int.reduceAdd, Int.reduceMul, Int.reduceSub, Int.reduceNeg, Int.zero_add, Int.add_zero, hF.c, hnn ()]); (· first | omega | ((try simp (disch := omega) only [wr, true_and, and_true, sM_ne, sM_eq, sM_neR, sM_eqR, sK_upM, sK_upR, sL_upM, sL_upR, sN_upM, sN_upR, sT_upM, sT_upR, sN_upM, Int.reduceAdd, Int.reduceMul, Int.reduceSub, Int.reduceNeg, Int.zero_add, Int.add_zero, hF.c, hnn ()]) <;> omega)))
    | ((with_reducible refine rt_p ?_ ?_ ?_); (· simp (disch := omega) only [true_and, and_true, sM_ne, sM_eq, sM_neR, sM_eqR, sK_upM, sK_upR, sL_upM, sL_upR, sN_upM, sN_upR, sT_upM, sT_upR, sN_upM, Int.reduceAdd, Int.reduceMul, Int.reduceSub, Int.reduceNeg, Int.zero_add, Int.add_zero, hF.c, hnn ()]); (· omega))
    | with_reducible refine rt_ret ?_
    | ((with_reducible apply rt_gwx); (· assumption); (· (try simp (disch := omega) only [wr, true_and, and_true, sM_ne, sM_eq, sM_neR, sM_eqR, sK_upM, sK_upR, sL_upM, sL_upR, sN_upM, sN_upR, sT_upM, sT_upR, sN_upM, Int.reduceAdd, Int.reduceMul, Int.reduceSub, Int.reduceNeg, Int.zero_add, Int.add_zero, hF.c, hnn ()]); exact rfl)))
    by_cases he : n ≤ (c : Int)
    · exact rt_pos he (rt_ret ⟨rfl, hc, fun j j0 j1 => hz j j0 (by omega)⟩)
    · refine rt_neg he ?_
      have e := hd (show wrap (wrap (16 * w) + (c : Int)) = 16 * w + (c : Int) by rw [wr (x := 16 * w) (by omega) (by omega), wr (by omega) (by omega)])
      have ev := hd (h88 (c : Int) (by omega) (by omega))
      repeat (first
    | with_reducible refine rt_b ?_
    | with_reducible refine rt_jn ?_
    | ((with_reducible refine rt_pos ?_ ?_); (· first | omega | ((try simp (disch := omega) only [wr, true_and, and_true, sM_ne, sM_eq, sM_neR, sM_eqR, sK_upM, sK_upR, sL_upM, sL_upR, sN_upM, sN_upR, sT_upM, sT_upR, sN_upM, Int.reduceAdd, Int.reduceMul, Int.reduceSub, Int.reduceNeg, Int.zero_add, Int.add_zero, hF.c, e (), ev ()]) <;> omega)))
    | ((with_reducible refine rt_neg ?_ ?_); (· first | omega | ((try simp (disch := omega) only [wr, true_and, and_true, sM_ne, sM_eq, sM_neR, sM_eqR, sK_upM, sK_upR, sL_upM, sL_upR, sN_upM, sN_upR, sT_upM, sT_upR, sN_upM, Int.reduceAdd, Int.reduceMul, Int.reduceSub, Int.reduceNeg, Int.zero_add, Int.add_zero, hF.c, e (), ev ()]) <;> omega)))
    | ((with_reducible refine rt_v ?_ ?_); · simp (disch := omega) only [true_and, and_true, sM_ne, sM_eq, sM_neR, sM_eqR, sK_upM, sK_upR, sL_upM, sL_upR, sN_upM, sN_upR, sT_upM, sT_upR, sN_upM, Int.reduceAdd, Int.reduceMul, Int.reduceSub, Int.reduceNeg, Int.zero_add, Int.add_zero, hF.c, e (), ev ()])
    | ((with_reducible apply rt_gx); (· simp (disch := omega) only [true_and, and_true, sM_ne, sM_eq, sM_neR, sM_eqR, sK_upM, sK_upR, sL_upM, sL_upR, sN_upM, sN_upR, sT_upM, sT_upR, sN_upM, Int.reduceAdd, Int.reduceMul, Int.reduceSub, Int.reduceNeg, Int.zero_add, Int.add_zero, hF.c, e (), ev ()]); (· (try simp (disch := omega) only [wr, true_and, and_true, sM_ne, sM_eq, sM_neR, sM_eqR, sK_upM, sK_upR, sL_upM, sL_upR, sN_upM, sN_upR, sT_upM, sT_upR, sN_upM, Int.reduceAdd, Int.reduceMul, Int.reduceSub, Int.reduceNeg, Int.zero_add, Int.add_zero, hF.c, e (), ev ()]); exact rfl))
    | ((with_reducible apply rt_alx); (· simp (disch := omega) only [true_and, and_true, sM_ne, sM_eq, sM_neR, sM_eqR, sK_upM, sK_upR, sL_upM, sL_upR, sN_upM, sN_upR, sT_upM, sT_upR, sN_upM, Int.reduceAdd, Int.reduceMul, Int.reduceSub, Int.reduceNeg, Int.zero_add, Int.add_zero, hF.c, e (), ev ()]); (· first | omega | ((try simp (disch := omega) only [wr, true_and, and_true, sM_ne, sM_eq, sM_neR, sM_eqR, sK_upM, sK_upR, sL_upM, sL_upR, sN_upM, sN_upR, sT_upM, sT_upR, sN_upM, Int.reduceAdd, Int.reduceMul, Int.reduceSub, Int.reduceNeg, Int.zero_add, Int.add_zero, hF.c, e (), ev ()]) <;> omega)); (· (try simp (disch := omega) only [wr, true_and, and_true, sM_ne, sM_eq, sM_neR, sM_eqR, sK_upM, sK_upR, sL_upM, sL_upR, sN_upM, sN_upR, sT_upM, sT_upR, sN_upM, Int.reduceAdd, Int.reduceMul, Int.reduceSub, Int.reduceNeg, Int.zero_add, Int.add_zero, hF.c, e (), ev ()]); exact rfl))
    | ((with_reducible refine rt_as ?_ ?_ ?_); (· simp (disch := omega) only [true_and, and_true, sM_ne, sM_eq, sM_neR, sM_eqR, sK_upM, sK_upR, sL_upM, sL_upR, sN_upM, sN_upR, sT_upM, sT_upR, sN_upM, Int.reduceAdd, Int.reduceMul, Int.reduceSub, Int.reduceNeg, Int.zero_add, Int.add_zero, hF.c, e (), ev ()]); (· first | omega | ((try simp (disch := omega) only [wr, true_and, and_true, sM_ne, sM_eq, sM_neR, sM_eqR, sK_upM, sK_upR, sL_upM, sL_upR, sN_upM, sN_upR, sT_upM, sT_upR, sN_upM, Int.reduceAdd, Int.reduceMul, Int.reduceSub, Int.reduceNeg, Int.zero_add, Int.add_zero, hF.c, e (), ev ()]) <;> omega)))
    | ((with_reducible refine rt_p ?_ ?_ ?_); (· simp (disch := omega) only [true_and, and_true, sM_ne, sM_eq, sM_neR, sM_eqR, sK_upM, sK_upR, sL_upM, sL_upR, sN_upM, sN_upR, sT_upM, sT_upR, sN_upM, Int.reduceAdd, Int.reduceMul, Int.reduceSub, Int.reduceNeg, Int.zero_add, Int.add_zero, hF.c, e (), ev ()]); (· omega))
    | with_reducible refine rt_ret ?_
    | ((with_reducible apply rt_gwx); (· assumption); (· (try simp (disch := omega) only [wr, true_and, and_true, sM_ne, sM_eq, sM_neR, sM_eqR, sK_upM, sK_upR, sL_upM, sL_upR, sN_upM, sN_upR, sT_upM, sT_upR, sN_upM, Int.reduceAdd, Int.reduceMul, Int.reduceSub, Int.reduceNeg, Int.zero_add, Int.add_zero, hF.c, e (), ev ()]); exact rfl)))
      rw [wr1 c (by omega)]
      simp only [e ()]
      refine l_rest39 hw hn N (c + 1) _ (hF.up (NF_i (by omega))) (by rw [sM_ne (by omega)]; exact hnn ()) (by omega) (by omega) (fun j j0 j1 => by rw [sM_ne (by omega)]; exact h88 j j0 j1) (hc.up ⟨rfl, by omega, by omega⟩) (fun j j0 j1 => ?_)
      by_cases ej : j = (c : Int)
      · subst ej; rw [sM_eq ⟨rfl, rfl⟩]
      · rw [sM_ne (by omega)]; exact hz j j0 (by omega)
theorem f_isWayF {σ : ZS} (hF : FxD σ) {m : Int} (h8 : sM σ 64 8 = m) (m0 : 0 ≤ m) (m8 : m ≤ 8) (w : Int) : fX12_isWay σ 64 w = some (if 0 ≤ w ∧ w < m then 1 else 0, σ) := by
  have ew := hd (show wrap (m - 1) = m - 1 from wr (by omega) (by omega))
  replace h8 := hd h8
  refine rt_is ?_
  unfold fX12_isWay fX12_in
  by_cases h0 : w < 0
  · repeat (first
    | with_reducible refine rt_b ?_
    | with_reducible refine rt_jn ?_
    | ((with_reducible refine rt_pos ?_ ?_); (· first | omega | ((try simp (disch := omega) only [wr, true_and, and_true, sM_ne, sM_eq, sM_neR, sM_eqR, sK_upM, sK_upR, sL_upM, sL_upR, sN_upM, sN_upR, sT_upM, sT_upR, sN_upM, Int.reduceAdd, Int.reduceMul, Int.reduceSub, Int.reduceNeg, Int.zero_add, Int.add_zero, hF.c]) <;> omega)))
    | ((with_reducible refine rt_neg ?_ ?_); (· first | omega | ((try simp (disch := omega) only [wr, true_and, and_true, sM_ne, sM_eq, sM_neR, sM_eqR, sK_upM, sK_upR, sL_upM, sL_upR, sN_upM, sN_upR, sT_upM, sT_upR, sN_upM, Int.reduceAdd, Int.reduceMul, Int.reduceSub, Int.reduceNeg, Int.zero_add, Int.add_zero, hF.c]) <;> omega)))
    | ((with_reducible refine rt_v ?_ ?_); · simp (disch := omega) only [true_and, and_true, sM_ne, sM_eq, sM_neR, sM_eqR, sK_upM, sK_upR, sL_upM, sL_upR, sN_upM, sN_upR, sT_upM, sT_upR, sN_upM, Int.reduceAdd, Int.reduceMul, Int.reduceSub, Int.reduceNeg, Int.zero_add, Int.add_zero, hF.c])
    | ((with_reducible apply rt_gx); (· simp (disch := omega) only [true_and, and_true, sM_ne, sM_eq, sM_neR, sM_eqR, sK_upM, sK_upR, sL_upM, sL_upR, sN_upM, sN_upR, sT_upM, sT_upR, sN_upM, Int.reduceAdd, Int.reduceMul, Int.reduceSub, Int.reduceNeg, Int.zero_add, Int.add_zero, hF.c]); (· (try simp (disch := omega) only [wr, true_and, and_true, sM_ne, sM_eq, sM_neR, sM_eqR, sK_upM, sK_upR, sL_upM, sL_upR, sN_upM, sN_upR, sT_upM, sT_upR, sN_upM, Int.reduceAdd, Int.reduceMul, Int.reduceSub, Int.reduceNeg, Int.zero_add, Int.add_zero, hF.c]); exact rfl))
    | ((with_reducible apply rt_alx); (· simp (disch := omega) only [true_and, and_true, sM_ne, sM_eq, sM_neR, sM_eqR, sK_upM, sK_upR, sL_upM, sL_upR, sN_upM, sN_upR, sT_upM, sT_upR, sN_upM, Int.reduceAdd, Int.reduceMul, Int.reduceSub, Int.reduceNeg, Int.zero_add, Int.add_zero, hF.c]); (· first | omega | ((try simp (disch := omega) only [wr, true_and, and_true, sM_ne, sM_eq, sM_neR, sM_eqR, sK_upM, sK_upR, sL_upM, sL_upR, sN_upM, sN_upR, sT_upM, sT_upR, sN_upM, Int.reduceAdd, Int.reduceMul, Int.reduceSub, Int.reduceNeg, Int.zero_add, Int.add_zero, hF.c]) <;> omega)); (· (try simp (disch := omega) only [wr, true_and, and_true, sM_ne, sM_eq, sM_neR, sM_eqR, sK_upM, sK_upR, sL_upM, sL_upR, sN_upM, sN_upR, sT_upM, sT_upR, sN_upM, Int.reduceAdd, Int.reduceMul, Int.reduceSub, Int.reduceNeg, Int.zero_add, Int.add_zero, hF.c]); exact rfl))
    | ((with_reducible refine rt_as ?_ ?_ ?_); (· simp (disch := omega) only [true_and, and_true, sM_ne, sM_eq, sM_neR, sM_eqR, sK_upM, sK_upR, sL_upM, sL_upR, sN_upM, sN_upR, sT_upM, sT_upR, sN_upM, Int.reduceAdd, Int.reduceMul, Int.reduceSub, Int.reduceNeg, Int.zero_add, Int.add_zero, hF.c]); (· first | omega | ((try simp (disch := omega) only [wr, true_and, and_true, sM_ne, sM_eq, sM_neR, sM_eqR, sK_upM, sK_upR, sL_upM, sL_upR, sN_upM, sN_upR, sT_upM, sT_upR, sN_upM, Int.reduceAdd, Int.reduceMul, Int.reduceSub, Int.reduceNeg, Int.zero_add, Int.add_zero, hF.c]) <;> omega)))
    | ((with_reducible refine rt_p ?_ ?_ ?_); (· simp (disch := omega) only [true_and, and_true, sM_ne, sM_eq, sM_neR, sM_eqR, sK_upM, sK_upR, sL_upM, sL_upR, sN_upM, sN_upR, sT_upM, sT_upR, sN_upM, Int.reduceAdd, Int.reduceMul, Int.reduceSub, Int.reduceNeg, Int.zero_add, Int.add_zero, hF.c]); (· omega))
    | with_reducible refine rt_ret ?_
    | ((with_reducible apply rt_gwx); (· assumption); (· (try simp (disch := omega) only [wr, true_and, and_true, sM_ne, sM_eq, sM_neR, sM_eqR, sK_upM, sK_upR, sL_upM, sL_upR, sN_upM, sN_upR, sT_upM, sT_upR, sN_upM, Int.reduceAdd, Int.reduceMul, Int.reduceSub, Int.reduceNeg, Int.zero_add, Int.add_zero, hF.c]); exact rfl)))
    refine ⟨?_, rfl⟩
    rw [if_neg (by omega)]
  · by_cases h1 : m ≤ w
    · repeat (first
    | with_reducible refine rt_b ?_
    | with_reducible refine rt_jn ?_
    | ((with_reducible refine rt_pos ?_ ?_); (· first | omega | ((try simp (disch := omega) only [wr, true_and, and_true, sM_ne, sM_eq, sM_neR, sM_eqR, sK_upM, sK_upR, sL_upM, sL_upR, sN_upM, sN_upR, sT_upM, sT_upR, sN_upM, Int.reduceAdd, Int.reduceMul, Int.reduceSub, Int.reduceNeg, Int.zero_add, Int.add_zero, hF.c, h8 (), ew ()]) <;> omega)))
    | ((with_reducible refine rt_neg ?_ ?_); (· first | omega | ((try simp (disch := omega) only [wr, true_and, and_true, sM_ne, sM_eq, sM_neR, sM_eqR, sK_upM, sK_upR, sL_upM, sL_upR, sN_upM, sN_upR, sT_upM, sT_upR, sN_upM, Int.reduceAdd, Int.reduceMul, Int.reduceSub, Int.reduceNeg, Int.zero_add, Int.add_zero, hF.c, h8 (), ew ()]) <;> omega)))
    | ((with_reducible refine rt_v ?_ ?_); · simp (disch := omega) only [true_and, and_true, sM_ne, sM_eq, sM_neR, sM_eqR, sK_upM, sK_upR, sL_upM, sL_upR, sN_upM, sN_upR, sT_upM, sT_upR, sN_upM, Int.reduceAdd, Int.reduceMul, Int.reduceSub, Int.reduceNeg, Int.zero_add, Int.add_zero, hF.c, h8 (), ew ()])
    | ((with_reducible apply rt_gx); (· simp (disch := omega) only [true_and, and_true, sM_ne, sM_eq, sM_neR, sM_eqR, sK_upM, sK_upR, sL_upM, sL_upR, sN_upM, sN_upR, sT_upM, sT_upR, sN_upM, Int.reduceAdd, Int.reduceMul, Int.reduceSub, Int.reduceNeg, Int.zero_add, Int.add_zero, hF.c, h8 (), ew ()]); (· (try simp (disch := omega) only [wr, true_and, and_true, sM_ne, sM_eq, sM_neR, sM_eqR, sK_upM, sK_upR, sL_upM, sL_upR, sN_upM, sN_upR, sT_upM, sT_upR, sN_upM, Int.reduceAdd, Int.reduceMul, Int.reduceSub, Int.reduceNeg, Int.zero_add, Int.add_zero, hF.c, h8 (), ew ()]); exact rfl))
    | ((with_reducible apply rt_alx); (· simp (disch := omega) only [true_and, and_true, sM_ne, sM_eq, sM_neR, sM_eqR, sK_upM, sK_upR, sL_upM, sL_upR, sN_upM, sN_upR, sT_upM, sT_upR, sN_upM, Int.reduceAdd, Int.reduceMul, Int.reduceSub, Int.reduceNeg, Int.zero_add, Int.add_zero, hF.c, h8 (), ew ()]); (· first | omega | ((try simp (disch := omega) only [wr, true_and, and_true, sM_ne, sM_eq, sM_neR, sM_eqR, sK_upM, sK_upR, sL_upM, sL_upR, sN_upM, sN_upR, sT_upM, sT_upR, sN_upM, Int.reduceAdd, Int.reduceMul, Int.reduceSub, Int.reduceNeg, Int.zero_add, Int.add_zero, hF.c, h8 (), ew ()]) <;> omega)); (· (try simp (disch := omega) only [wr, true_and, and_true, sM_ne, sM_eq, sM_neR, sM_eqR, sK_upM, sK_upR, sL_upM, sL_upR, sN_upM, sN_upR, sT_upM, sT_upR, sN_upM, Int.reduceAdd, Int.reduceMul, Int.reduceSub, Int.reduceNeg, Int.zero_add, Int.add_zero, hF.c, h8 (), ew ()]); exact rfl))
    | ((with_reducible refine rt_as ?_ ?_ ?_); (· simp (disch := omega) only [true_and, and_true, sM_ne, sM_eq, sM_neR, sM_eqR, sK_upM, sK_upR, sL_upM, sL_upR, sN_upM, sN_upR, sT_upM, sT_upR, sN_upM, Int.reduceAdd, Int.reduceMul, Int.reduceSub, Int.reduceNeg, Int.zero_add, Int.add_zero, hF.c, h8 (), ew ()]); (· first | omega | ((try simp (disch := omega) only [wr, true_and, and_true, sM_ne, sM_eq, sM_neR, sM_eqR, sK_upM, sK_upR, sL_upM, sL_upR, sN_upM, sN_upR, sT_upM, sT_upR, sN_upM, Int.reduceAdd, Int.reduceMul, Int.reduceSub, Int.reduceNeg, Int.zero_add, Int.add_zero, hF.c, h8 (), ew ()]) <;> omega)))
    | ((with_reducible refine rt_p ?_ ?_ ?_); (· simp (disch := omega) only [true_and, and_true, sM_ne, sM_eq, sM_neR, sM_eqR, sK_upM, sK_upR, sL_upM, sL_upR, sN_upM, sN_upR, sT_upM, sT_upR, sN_upM, Int.reduceAdd, Int.reduceMul, Int.reduceSub, Int.reduceNeg, Int.zero_add, Int.add_zero, hF.c, h8 (), ew ()]); (· omega))
    | with_reducible refine rt_ret ?_
    | ((with_reducible apply rt_gwx); (· assumption); (· (try simp (disch := omega) only [wr, true_and, and_true, sM_ne, sM_eq, sM_neR, sM_eqR, sK_upM, sK_upR, sL_upM, sL_upR, sN_upM, sN_upR, sT_upM, sT_upR, sN_upM, Int.reduceAdd, Int.reduceMul, Int.reduceSub, Int.reduceNeg, Int.zero_add, Int.add_zero, hF.c, h8 (), ew ()]); exact rfl)))
      refine ⟨?_, rfl⟩
      rw [if_neg (by omega)]
    · repeat (first
    | with_reducible refine rt_b ?_
    | with_reducible refine rt_jn ?_
    | ((with_reducible refine rt_pos ?_ ?_); (· first | omega | ((try simp (disch := omega) only [wr, true_and, and_true, sM_ne, sM_eq, sM_neR, sM_eqR, sK_upM, sK_upR, sL_upM, sL_upR, sN_upM, sN_upR, sT_upM, sT_upR, sN_upM, Int.reduceAdd, Int.reduceMul, Int.reduceSub, Int.reduceNeg, Int.zero_add, Int.add_zero, hF.c, h8 (), ew ()]) <;> omega)))
    | ((with_reducible refine rt_neg ?_ ?_); (· first | omega | ((try simp (disch := omega) only [wr, true_and, and_true, sM_ne, sM_eq, sM_neR, sM_eqR, sK_upM, sK_upR, sL_upM, sL_upR, sN_upM, sN_upR, sT_upM, sT_upR, sN_upM, Int.reduceAdd, Int.reduceMul, Int.reduceSub, Int.reduceNeg, Int.zero_add, Int.add_zero, hF.c, h8 (), ew ()]) <;> omega)))
    | ((with_reducible refine rt_v ?_ ?_); · simp (disch := omega) only [true_and, and_true, sM_ne, sM_eq, sM_neR, sM_eqR, sK_upM, sK_upR, sL_upM, sL_upR, sN_upM, sN_upR, sT_upM, sT_upR, sN_upM, Int.reduceAdd, Int.reduceMul, Int.reduceSub, Int.reduceNeg, Int.zero_add, Int.add_zero, hF.c, h8 (), ew ()])
    | ((with_reducible apply rt_gx); (· simp (disch := omega) only [true_and, and_true, sM_ne, sM_eq, sM_neR, sM_eqR, sK_upM, sK_upR, sL_upM, sL_upR, sN_upM, sN_upR, sT_upM, sT_upR, sN_upM, Int.reduceAdd, Int.reduceMul, Int.reduceSub, Int.reduceNeg, Int.zero_add, Int.add_zero, hF.c, h8 (), ew ()]); (· (try simp (disch := omega) only [wr, true_and, and_true, sM_ne, sM_eq, sM_neR, sM_eqR, sK_upM, sK_upR, sL_upM, sL_upR, sN_upM, sN_upR, sT_upM, sT_upR, sN_upM, Int.reduceAdd, Int.reduceMul, Int.reduceSub, Int.reduceNeg, Int.zero_add, Int.add_zero, hF.c, h8 (), ew ()]); exact rfl))
    | ((with_reducible apply rt_alx); (· simp (disch := omega) only [true_and, and_true, sM_ne, sM_eq, sM_neR, sM_eqR, sK_upM, sK_upR, sL_upM, sL_upR, sN_upM, sN_upR, sT_upM, sT_upR, sN_upM, Int.reduceAdd, Int.reduceMul, Int.reduceSub, Int.reduceNeg, Int.zero_add, Int.add_zero, hF.c, h8 (), ew ()]); (· first | omega | ((try simp (disch := omega) only [wr, true_and, and_true, sM_ne, sM_eq, sM_neR, sM_eqR, sK_upM, sK_upR, sL_upM, sL_upR, sN_upM, sN_upR, sT_upM, sT_upR, sN_upM, Int.reduceAdd, Int.reduceMul, Int.reduceSub, Int.reduceNeg, Int.zero_add, Int.add_zero, hF.c, h8 (), ew ()]) <;> omega)); (· (try simp (disch := omega) only [wr, true_and, and_true, sM_ne, sM_eq, sM_neR, sM_eqR, sK_upM, sK_upR, sL_upM, sL_upR, sN_upM, sN_upR, sT_upM, sT_upR, sN_upM, Int.reduceAdd, Int.reduceMul, Int.reduceSub, Int.reduceNeg, Int.zero_add, Int.add_zero, hF.c, h8 (), ew ()]); exact rfl))
    | ((with_reducible refine rt_as ?_ ?_ ?_); (· simp (disch := omega) only [true_and, and_true, sM_ne, sM_eq, sM_neR, sM_eqR, sK_upM, sK_upR, sL_upM, sL_upR, sN_upM, sN_upR, sT_upM, sT_upR, sN_upM, Int.reduceAdd, Int.reduceMul, Int.reduceSub, Int.reduceNeg, Int.zero_add, Int.add_zero, hF.c, h8 (), ew ()]); (· first | omega | ((try simp (disch := omega) only [wr, true_and, and_true, sM_ne, sM_eq, sM_neR, sM_eqR, sK_upM, sK_upR, sL_upM, sL_upR, sN_upM, sN_upR, sT_upM, sT_upR, sN_upM, Int.reduceAdd, Int.reduceMul, Int.reduceSub, Int.reduceNeg, Int.zero_add, Int.add_zero, hF.c, h8 (), ew ()]) <;> omega)))
    | ((with_reducible refine rt_p ?_ ?_ ?_); (· simp (disch := omega) only [true_and, and_true, sM_ne, sM_eq, sM_neR, sM_eqR, sK_upM, sK_upR, sL_upM, sL_upR, sN_upM, sN_upR, sT_upM, sT_upR, sN_upM, Int.reduceAdd, Int.reduceMul, Int.reduceSub, Int.reduceNeg, Int.zero_add, Int.add_zero, hF.c, h8 (), ew ()]); (· omega))
    | with_reducible refine rt_ret ?_
    | ((with_reducible apply rt_gwx); (· assumption); (· (try simp (disch := omega) only [wr, true_and, and_true, sM_ne, sM_eq, sM_neR, sM_eqR, sK_upM, sK_upR, sL_upM, sL_upR, sN_upM, sN_upR, sT_upM, sT_upR, sN_upM, Int.reduceAdd, Int.reduceMul, Int.reduceSub, Int.reduceNeg, Int.zero_add, Int.add_zero, hF.c, h8 (), ew ()]); exact rfl)))
      refine ⟨?_, rfl⟩
      rw [if_pos (by omega)]
theorem q_rest {σ : ZS} (h : Rel σ) (w a : Int) : Rt (fX11_rest σ 3 w a) (fun y τ => Rt (fX12_rest τ 64 w a) (fun z ρ => Fin σ y z ρ)) := by
  have hF := h.F
  have h9 := hF.2.2.2
  unfold fX11_rest
  by_cases hw : 0 ≤ w ∧ w < sM σ 64 8
  · obtain ⟨w0, w1⟩ := hw
    have hn := h.wn w0 w1
    have hV := h.lv w0 w1
    have h8 := h.Wa.2.1
    refine rt_b (rt_v (by simp (disch := omega) only [true_and, and_true, sM_ne, sM_eq, sM_neR, sM_eqR, sK_upM, sK_upR, sL_upM, sL_upR, sN_upM, sN_upR, sT_upM, sT_upR, sN_upM, Int.reduceAdd, Int.reduceMul, Int.reduceSub, Int.reduceNeg, Int.zero_add, Int.add_zero, hF.c]) (rt_e (f_wayAt1 h w0 w1) ?_))
    refine rt_neg (by omega) (rt_b (rt_e (f_within σ a 8) ?_))
    by_cases ha : 0 ≤ a ∧ a ≤ 8
    · rw [if_pos ha]
      refine rt_neg (by omega) ?_
      refine Rt.mono (l_rest28 (σ := σ) ha.2 1000 0 σ _ hV h.cv h.tv (h.sep w0 w1) Ch.rf (by omega) (by omega)) ?_
      rw [show (a - ((0 : Nat) : Int)).toNat = a.toNat by omega]
      rintro v τ ⟨e, hcτ, hVτ⟩
      have hFτ := hVτ.1
      have hR : ∀ a i, mvS (sM σ 33 w) (sM σ 72 w) a i → alR a i := fun a i q => by
        rcases q with q | q
        · exact Or.inl (lnS_scr a i q)
        · unfold alR; omega
      have h8' : sM τ 64 8 = sM σ 64 8 := hcτ.M (by omega) (fun q => by unfold mvS lnS at q; omega)
      unfold fX12_rest
      refine rt_b (rt_v (by simp (disch := omega) only [true_and, and_true, sM_ne, sM_eq, sM_neR, sM_eqR, sK_upM, sK_upR, sL_upM, sL_upR, sN_upM, sN_upR, sT_upM, sT_upR, sN_upM, Int.reduceAdd, Int.reduceMul, Int.reduceSub, Int.reduceNeg, Int.zero_add, Int.add_zero, hFτ.c]) (rt_e (f_isWayF hFτ h8' h8.1 h8.2 w) ?_))
      rw [if_pos (show 0 ≤ w ∧ w < sM σ 64 8 from ⟨w0, w1⟩)]
      refine rt_neg (by omega) (rt_b (rt_e (f_in τ a 0 8) ?_))
      rw [if_pos ha]
      refine rt_neg (by omega) (rt_b (rt_v (by simp (disch := omega) only [true_and, and_true, sM_ne, sM_eq, sM_neR, sM_eqR, sK_upM, sK_upR, sL_upM, sL_upR, sN_upM, sN_upR, sT_upM, sT_upR, sN_upM, Int.reduceAdd, Int.reduceMul, Int.reduceSub, Int.reduceNeg, Int.zero_add, Int.add_zero, hFτ.c]) ?_))
      refine Rt.mono (r_lays2 (rt := vrt σ) (tl := vtl σ) (wi := vwi σ) h hcτ hR w0 w1 (fun g t g0 g1 t0 t1 => ?_) (fun g t g0 g1 t0 t1 => ?_) (fun s s0 s1 => ?_)) ?_
      · rw [hcτ.M (by omega) (fun q => by unfold mvS lnS at q; omega)]; exact h.rt0 g t g0 g1 t0 t1
      · rw [hcτ.M (by omega) (fun q => by unfold mvS lnS at q; omega)]; exact h.tl0 g t g0 g1 t0 t1
      · rw [hcτ.M (by omega) (fun q => by unfold mvS lnS at q; omega)]; exact h.wi0 s s0 s1
      · rintro v3 ρ ⟨hcρ, hVρ, hCρ⟩
        have hFρ := hVρ.1
        refine rt_b (rt_v (by simp (disch := omega) only [true_and, and_true, sM_ne, sM_eq, sM_neR, sM_eqR, sK_upM, sK_upR, sL_upM, sL_upR, sN_upM, sN_upR, sT_upM, sT_upR, sN_upM, Int.reduceAdd, Int.reduceMul, Int.reduceSub, Int.reduceNeg, Int.zero_add, Int.add_zero, hFρ.c]) ?_)
        refine Rt.mono (f_moves ha.2 hVρ hCρ) ?_
        rintro v4 θ ⟨e4, hcθ, hVθ, -⟩
        have hFθ := hVθ.1
        have h9τ := hFτ.2.2.2
        have hcc : Ch scr τ θ := (hcρ.mono (fun a i q => by unfold scr; omega)).tr (hcθ.mono mdW_scr)
        refine Rt.mono (l_rest39 (σ := θ) (ch := (mvN (sM σ 72 w) (sM σ 71 w) (vso σ) (vln σ) (vrt σ) (vtl σ) (vst σ) (vwi σ) (vtx σ 0) a.toNat (vch σ w)).2) ⟨w0, by omega⟩ ⟨hn.1, hn.2.1⟩ 1000 0 θ hFθ hVθ.2.2.2.1.1 (by omega) (by omega) (fun j j0 j1 => (hVθ.2.2.2.2.1 j j0 j1).1) Ch.rf (fun j j0 j1 => by omega)) ?_
        rintro v5 π ⟨e5, hcπ, hz⟩
        have hall : Ch (fun a i => scr a i ∨ a = sM σ 33 w + 1 ∨ (a = 73 ∧ 16 * w ≤ i ∧ i < 16 * w + 16)) σ π := ((hcτ.mono (fun a i q => by rcases q with q | q; exact Or.inl (lnS_scr a i q); exact Or.inr (Or.inl q.1))).tr (hcc.mono (fun a i q => Or.inl q))).tr (hcπ.mono (fun a i q => Or.inr (Or.inr q)))
        refine finS (by rw [e, e5, e4]; omega) (h.one w0 w1 hall.1 (fun a i q => q) (fun c c0 c1 => ?_)) hall.2
        rw [hz c c0 c1, hcπ.M (by have := hcc.2.1; have := hcτ.2.1; omega) (by omega), hcc.M (by have := hcτ.2.1; omega) (by unfold scr; omega)]
        obtain ⟨x1, x2, x3⟩ := hVτ.2.2.2.2.2.2.1 c c0 c1
        exact ⟨x1, x2, x3⟩
    · rw [if_neg ha]
      refine rt_pos rfl (rt_ret ?_)
      unfold fX12_rest
      refine rt_b (rt_v (by simp (disch := omega) only [true_and, and_true, sM_ne, sM_eq, sM_neR, sM_eqR, sK_upM, sK_upR, sL_upM, sL_upR, sN_upM, sN_upR, sT_upM, sT_upR, sN_upM, Int.reduceAdd, Int.reduceMul, Int.reduceSub, Int.reduceNeg, Int.zero_add, Int.add_zero, hF.c]) (rt_e (f_isWay h w) ?_))
      rw [if_pos (show 0 ≤ w ∧ w < sM σ 64 8 from ⟨w0, w1⟩)]
      refine rt_neg (by omega) (rt_b (rt_e (f_in σ a 0 8) ?_))
      rw [if_neg ha]
      exact rt_pos rfl (rt_ret (fin0 h rfl))
  · refine rt_b (rt_v (by simp (disch := omega) only [true_and, and_true, sM_ne, sM_eq, sM_neR, sM_eqR, sK_upM, sK_upR, sL_upM, sL_upR, sN_upM, sN_upR, sT_upM, sT_upR, sN_upM, Int.reduceAdd, Int.reduceMul, Int.reduceSub, Int.reduceNeg, Int.zero_add, Int.add_zero, hF.c]) (rt_e (f_wayAt0 h hw) ?_))
    refine rt_pos (by omega) (rt_ret ?_)
    unfold fX12_rest
    refine rt_b (rt_v (by simp (disch := omega) only [true_and, and_true, sM_ne, sM_eq, sM_neR, sM_eqR, sK_upM, sK_upR, sL_upM, sL_upR, sN_upM, sN_upR, sT_upM, sT_upR, sN_upM, Int.reduceAdd, Int.reduceMul, Int.reduceSub, Int.reduceNeg, Int.zero_add, Int.add_zero, hF.c]) (rt_e (f_isWay h w) ?_))
    rw [if_neg hw]
    exact rt_pos rfl (rt_ret (fin0 h rfl))
