/-! what is taken; the tape -/
theorem iAnd255 (x : Int) : iAnd x 255 = x % 256 := by
  unfold iAnd
  have h : ((Int32.ofInt x &&& Int32.ofInt 255).toBitVec).toNat = (x % 256).toNat := by
    rw [Int32.toBitVec_and, BitVec.toNat_and, bi_ofInt, bi_ofInt]
    have e : ((255 : Int) % 4294967296).toNat = 2 ^ 8 - 1 := by decide
    rw [e, Nat.and_two_pow_sub_one_eq_mod]
    omega
  rw [bi_toInt h (by omega)]
  omega
theorem bl_toInt {x : Int64} {n : Nat} (h : x.toBitVec.toNat = n) (hn : n < 9223372036854775808) : x.toInt = (n : Int) := by
  show x.toBitVec.toInt = (n : Int)
  rw [BitVec.toInt_eq_toNat_bmod, h]
  exact Int.bmod_eq_of_le_mul_two (by omega) (by omega)
theorem bl_ofInt (a : Int) : (Int64.ofInt a).toBitVec.toNat = (a % 18446744073709551616).toNat := by
  show (BitVec.ofInt 64 a).toNat = _
  rw [BitVec.toNat_ofInt]
  rfl
theorem lAnd255 (x : Int) : lAnd x 255 = x % 256 := by
  unfold lAnd
  have h : ((Int64.ofInt x &&& Int64.ofInt 255).toBitVec).toNat = (x % 256).toNat := by
    rw [Int64.toBitVec_and, BitVec.toNat_and, bl_ofInt, bl_ofInt]
    have e : ((255 : Int) % 18446744073709551616).toNat = 2 ^ 8 - 1 := by decide
    rw [e, Nat.and_two_pow_sub_one_eq_mod]
    omega
  rw [bl_toInt h (by omega)]
  omega
def byt (v : Int) (x : Int) : Int := (lShr v (8 * x)) % 256
theorem byt_in {v x : Int} : 0 ≤ byt v x ∧ byt v x ≤ 255 := by unfold byt; omega
theorem bytC (v x : Int) : iAnd (wrap (lShr v (8 * x))) 255 = byt v x := by
  rw [iAnd255]
  unfold byt wrap
  omega
theorem bytM (v x : Int) : wrap (lAnd (lShr v (8 * x)) 255) = byt v x := by
  rw [lAnd255]
  unfold byt
  exact wr (by omega) (by omega)
theorem l_ap19 {σ : ZS} {v z n : Int} (z0 : 0 ≤ z) (n0 : 1 ≤ n) (n8 : n ≤ 8) (hz : z + n ≤ 160) :
    ∀ (N r : Nat) (s : ZS), FxD s → (r : Int) ≤ n → r < N → sM s 34 1 = z + (n - (r : Int)) → Ch (fun a i => (a = 35 ∧ z ≤ i) ∨ (a = 34 ∧ i = 1)) σ s → (∀ j : Int, 0 ≤ j → j < n - (r : Int) → sM s 35 (z + j) = byt v (n - 1 - j)) → Rt (lX4_append_19 34 v N s ((r : Int) - 1)) (fun x τ => x = 1 ∧ sM τ 34 1 = z + n ∧ Ch (fun a i => (a = 35 ∧ z ≤ i) ∨ (a = 34 ∧ i = 1)) σ τ ∧ ∀ j : Int, 0 ≤ j → j < n → sM τ 35 (z + j) = byt v (n - 1 - j))
  | 0, r, s, _, h1, h2, _, _, _ => by omega
  | N + 1, r, s, hF, h1, h2, hl, hc, hr => by
    rw [lX4_append_19]
    by_cases he : (r : Int) - 1 < 0
    · refine rt_pos he (rt_ret ⟨rfl, by rw [hl]; omega, hc, fun j j0 j1 => hr j j0 (by omega)⟩)
    · refine rt_neg he ?_
      have hl' := hd hl
      have e8 : wrap (8 * ((r : Int) - 1)) = 8 * ((r : Int) - 1) := wr (by omega) (by omega)
      have em : wrap ((r : Int) - 1 + (-1)) = ((r - 1 : Nat) : Int) - 1 := by rw [wr (by omega) (by omega)]; omega
      rw [e8, em, bytC]
      refine rt_gx (x := 35) (by simp (disch := omega) only [true_and, and_true, sM_ne, sM_eq, sM_neR, sM_eqR, sK_upM, sK_upR, sL_upM, sL_upR, sN_upM, sN_upR, sT_upM, sT_upR, sN_upM, Int.reduceAdd, Int.reduceMul, Int.reduceSub, Int.reduceNeg, Int.zero_add, Int.add_zero, hF.c]) (by simp (disch := omega) only [true_and, and_true, sM_ne, sM_eq, sM_neR, sM_eqR, sK_upM, sK_upR, sL_upM, sL_upR, sN_upM, sN_upR, sT_upM, sT_upR, sN_upM, Int.reduceAdd, Int.reduceMul, Int.reduceSub, Int.reduceNeg, Int.zero_add, Int.add_zero, hF.c]) ?_
      refine rt_gx (x := z + (n - (r : Int))) (by simp (disch := omega) only [true_and, and_true, sM_ne, sM_eq, sM_neR, sM_eqR, sK_upM, sK_upR, sL_upM, sL_upR, sN_upM, sN_upR, sT_upM, sT_upR, sN_upM, Int.reduceAdd, Int.reduceMul, Int.reduceSub, Int.reduceNeg, Int.zero_add, Int.add_zero, hF.c]) (hl' ()) ?_
      refine rt_as (by simp (disch := omega) only [true_and, and_true, sM_ne, sM_eq, sM_neR, sM_eqR, sK_upM, sK_upR, sL_upM, sL_upR, sN_upM, sN_upR, sT_upM, sT_upR, sN_upM, Int.reduceAdd, Int.reduceMul, Int.reduceSub, Int.reduceNeg, Int.zero_add, Int.add_zero, hF.c]) (by simp (disch := omega) only [true_and, and_true, sM_ne, sM_eq, sM_neR, sM_eqR, sK_upM, sK_upR, sL_upM, sL_upR, sN_upM, sN_upR, sT_upM, sT_upR, sN_upM, Int.reduceAdd, Int.reduceMul, Int.reduceSub, Int.reduceNeg, Int.zero_add, Int.add_zero, hF.c]; omega) ?_
      refine rt_gx (x := z + (n - (r : Int))) (by simp (disch := omega) only [true_and, and_true, sM_ne, sM_eq, sM_neR, sM_eqR, sK_upM, sK_upR, sL_upM, sL_upR, sN_upM, sN_upR, sT_upM, sT_upR, sN_upM, Int.reduceAdd, Int.reduceMul, Int.reduceSub, Int.reduceNeg, Int.zero_add, Int.add_zero, hF.c]) (by rw [sM_ne (by omega)]; exact hl' ()) ?_
      refine rt_p (by simp (disch := omega) only [true_and, and_true, sM_ne, sM_eq, sM_neR, sM_eqR, sK_upM, sK_upR, sL_upM, sL_upR, sN_upM, sN_upR, sT_upM, sT_upR, sN_upM, Int.reduceAdd, Int.reduceMul, Int.reduceSub, Int.reduceNeg, Int.zero_add, Int.add_zero, hF.c]) (by omega) ?_
      have e1 : wrap (z + (n - (r : Int)) + 1) = z + (n - ((r - 1 : Nat) : Int)) := by rw [wr (by omega) (by omega)]; omega
      rw [e1]
      refine l_ap19 z0 n0 n8 hz N (r - 1) _ ((hF.up (NF_i (by omega))).up (NF_34 (by omega))) (by omega) (by omega) (by rw [sM_eq ⟨rfl, rfl⟩]) ((hc.up (Or.inl ⟨rfl, by omega⟩)).up (Or.inr ⟨rfl, rfl⟩)) (fun j j0 j1 => ?_)
      rw [sM_ne (by omega)]
      by_cases e : j = n - (r : Int)
      · rw [sM_eq ⟨rfl, by omega⟩]
        congr 1
        omega
      · rw [sM_ne (by omega)]; exact hr j j0 (by omega)
theorem l_fd33 {σ : ZS} {v z n : Int} (z0 : 0 ≤ z) (n0 : 1 ≤ n) (n8 : n ≤ 8) (hz : z + n ≤ 160) :
    ∀ (N r : Nat) (s : ZS), FxD s → (r : Int) ≤ n → r < N → sM s 64 13 = z + (n - (r : Int)) → Ch (fun a i => (a = 74 ∧ z ≤ i) ∨ (a = 64 ∧ i = 13)) σ s → (∀ j : Int, 0 ≤ j → j < n - (r : Int) → sM s 74 (z + j) = byt v (n - 1 - j)) → Rt (lX12_feed_33 64 v N s ((r : Int) - 1)) (fun x τ => x = z + n ∧ sM τ 64 13 = z + n ∧ Ch (fun a i => (a = 74 ∧ z ≤ i) ∨ (a = 64 ∧ i = 13)) σ τ ∧ ∀ j : Int, 0 ≤ j → j < n → sM τ 74 (z + j) = byt v (n - 1 - j))
  | 0, r, s, _, h1, h2, _, _, _ => by omega
  | N + 1, r, s, hF, h1, h2, hl, hc, hr => by
    have hl' := hd hl
    rw [lX12_feed_33]
    by_cases he : (r : Int) - 1 < 0
    · refine rt_pos he (rt_gx (x := z + n) (by simp (disch := omega) only [true_and, and_true, sM_ne, sM_eq, sM_neR, sM_eqR, sK_upM, sK_upR, sL_upM, sL_upR, sN_upM, sN_upR, sT_upM, sT_upR, sN_upM, Int.reduceAdd, Int.reduceMul, Int.reduceSub, Int.reduceNeg, Int.zero_add, Int.add_zero, hF.c]) (by rw [hl' ()]; omega) (rt_ret ⟨rfl, by rw [hl]; omega, hc, fun j j0 j1 => hr j j0 (by omega)⟩))
    · refine rt_neg he ?_
      have e8 : wrap (8 * ((r : Int) - 1)) = 8 * ((r : Int) - 1) := wr (by omega) (by omega)
      have em : wrap ((r : Int) - 1 + (-1)) = ((r - 1 : Nat) : Int) - 1 := by rw [wr (by omega) (by omega)]; omega
      rw [e8, em, bytM]
      refine rt_gx (x := 74) (by simp (disch := omega) only [true_and, and_true, sM_ne, sM_eq, sM_neR, sM_eqR, sK_upM, sK_upR, sL_upM, sL_upR, sN_upM, sN_upR, sT_upM, sT_upR, sN_upM, Int.reduceAdd, Int.reduceMul, Int.reduceSub, Int.reduceNeg, Int.zero_add, Int.add_zero, hF.c]) (by simp (disch := omega) only [true_and, and_true, sM_ne, sM_eq, sM_neR, sM_eqR, sK_upM, sK_upR, sL_upM, sL_upR, sN_upM, sN_upR, sT_upM, sT_upR, sN_upM, Int.reduceAdd, Int.reduceMul, Int.reduceSub, Int.reduceNeg, Int.zero_add, Int.add_zero, hF.c]) ?_
      refine rt_gx (x := z + (n - (r : Int))) (by simp (disch := omega) only [true_and, and_true, sM_ne, sM_eq, sM_neR, sM_eqR, sK_upM, sK_upR, sL_upM, sL_upR, sN_upM, sN_upR, sT_upM, sT_upR, sN_upM, Int.reduceAdd, Int.reduceMul, Int.reduceSub, Int.reduceNeg, Int.zero_add, Int.add_zero, hF.c]) (hl' ()) ?_
      refine rt_as (by simp (disch := omega) only [true_and, and_true, sM_ne, sM_eq, sM_neR, sM_eqR, sK_upM, sK_upR, sL_upM, sL_upR, sN_upM, sN_upR, sT_upM, sT_upR, sN_upM, Int.reduceAdd, Int.reduceMul, Int.reduceSub, Int.reduceNeg, Int.zero_add, Int.add_zero, hF.c]) (by simp (disch := omega) only [true_and, and_true, sM_ne, sM_eq, sM_neR, sM_eqR, sK_upM, sK_upR, sL_upM, sL_upR, sN_upM, sN_upR, sT_upM, sT_upR, sN_upM, Int.reduceAdd, Int.reduceMul, Int.reduceSub, Int.reduceNeg, Int.zero_add, Int.add_zero, hF.c]; omega) ?_
      refine rt_gx (x := z + (n - (r : Int))) (by simp (disch := omega) only [true_and, and_true, sM_ne, sM_eq, sM_neR, sM_eqR, sK_upM, sK_upR, sL_upM, sL_upR, sN_upM, sN_upR, sT_upM, sT_upR, sN_upM, Int.reduceAdd, Int.reduceMul, Int.reduceSub, Int.reduceNeg, Int.zero_add, Int.add_zero, hF.c]) (by rw [sM_ne (by omega)]; exact hl' ()) ?_
      refine rt_p (by simp (disch := omega) only [true_and, and_true, sM_ne, sM_eq, sM_neR, sM_eqR, sK_upM, sK_upR, sL_upM, sL_upR, sN_upM, sN_upR, sT_upM, sT_upR, sN_upM, Int.reduceAdd, Int.reduceMul, Int.reduceSub, Int.reduceNeg, Int.zero_add, Int.add_zero, hF.c]) (by omega) ?_
      have e1 : wrap (z + (n - (r : Int)) + 1) = z + (n - ((r - 1 : Nat) : Int)) := by rw [wr (by omega) (by omega)]; omega
      rw [e1]
      refine l_fd33 z0 n0 n8 hz N (r - 1) _ ((hF.up (NF_i (by omega))).up (NF_64 (by omega))) (by omega) (by omega) (by rw [sM_eq ⟨rfl, rfl⟩]) ((hc.up (Or.inl ⟨rfl, by omega⟩)).up (Or.inr ⟨rfl, rfl⟩)) (fun j j0 j1 => ?_)
      rw [sM_ne (by omega)]
      by_cases e : j = n - (r : Int)
      · rw [sM_eq ⟨rfl, by omega⟩]
        congr 1
        omega
      · rw [sM_ne (by omega)]; exact hr j j0 (by omega)
theorem q_feed {σ : ZS} (h : Rel σ) (v n : Int) : Rt (fX11_feed σ 3 v n) (fun x τ => Rt (fX12_feed τ 64 v n) (fun y ρ => Fin σ x y ρ)) := by
  have hF := h.F
  have h9 := hF.2.2.2
  obtain ⟨t1, ⟨t2, t3⟩, t4, t5⟩ := h.Ta
  have e34 := hd t1
  generalize hz : sM σ 64 13 = z at *
  have e64 := hd hz
  clear t1
  unfold fX11_feed
  by_cases n1 : n < 1
  · refine rt_pos n1 (rt_ret ?_)
    unfold fX12_feed
    refine rt_b (rt_e (f_in σ n 1 8) ?_)
    rw [if_neg (show ¬ (1 ≤ n ∧ n ≤ 8) by omega)]
    exact rt_pos rfl (rt_ret (fin0 h rfl))
  refine rt_neg n1 ?_
  by_cases n8 : n ≤ 8
  · refine rt_pos n8 ?_
    refine rt_gx (x := 34) (by simp (disch := omega) only [true_and, and_true, sM_ne, sM_eq, sM_neR, sM_eqR, sK_upM, sK_upR, sL_upM, sL_upR, sN_upM, sN_upR, sT_upM, sT_upR, sN_upM, Int.reduceAdd, Int.reduceMul, Int.reduceSub, Int.reduceNeg, Int.zero_add, Int.add_zero, hF.c]) (by simp (disch := omega) only [true_and, and_true, sM_ne, sM_eq, sM_neR, sM_eqR, sK_upM, sK_upR, sL_upM, sL_upR, sN_upM, sN_upR, sT_upM, sT_upR, sN_upM, Int.reduceAdd, Int.reduceMul, Int.reduceSub, Int.reduceNeg, Int.zero_add, Int.add_zero, hF.c]) ?_
    unfold fX4_append
    refine rt_b (rt_v (by simp (disch := omega) only [true_and, and_true, sM_ne, sM_eq, sM_neR, sM_eqR, sK_upM, sK_upR, sL_upM, sL_upR, sN_upM, sN_upR, sT_upM, sT_upR, sN_upM, Int.reduceAdd, Int.reduceMul, Int.reduceSub, Int.reduceNeg, Int.zero_add, Int.add_zero, hF.c]) (rt_gx (x := z) (by simp (disch := omega) only [true_and, and_true, sM_ne, sM_eq, sM_neR, sM_eqR, sK_upM, sK_upR, sL_upM, sL_upR, sN_upM, sN_upR, sT_upM, sT_upR, sN_upM, Int.reduceAdd, Int.reduceMul, Int.reduceSub, Int.reduceNeg, Int.zero_add, Int.add_zero, hF.c]) (e34 ()) ?_))
    have ew : wrap (160 - z) = 160 - z := wr (by omega) (by omega)
    have ew1 : wrap (n - 1) = n - 1 := wr (by omega) (by omega)
    have ew2 : wrap (z + n) = z + n := wr (by omega) (by omega)
    rw [ew]
    by_cases hn : n ≤ 160 - z
    · refine rt_pos hn ?_
      obtain ⟨r, rfl⟩ : ∃ r : Nat, n = (r : Int) := ⟨n.toNat, by omega⟩
      rw [ew1]
      refine Rt.mono (l_ap19 (σ := σ) (v := v) (z := z) (n := (r : Int)) t2 (by omega) n8 (by omega) 1000 r σ hF (by omega) (by omega) (by rw [e34 ()]; omega) Ch.rf (fun j j0 j1 => by omega)) ?_
      rintro x τ ⟨rfl, hl, hcτ, hr⟩
      have hFτ := hcτ.Fx hF (fun a i q => by
        rcases q with q | ⟨rfl, q⟩
        · exact NF_i (by omega)
        · exact NF_34 (by omega))
      have hlτ := hd hl
      refine rt_neg (by decide) (rt_gx (x := 34) (by simp (disch := omega) only [true_and, and_true, sM_ne, sM_eq, sM_neR, sM_eqR, sK_upM, sK_upR, sL_upM, sL_upR, sN_upM, sN_upR, sT_upM, sT_upR, sN_upM, Int.reduceAdd, Int.reduceMul, Int.reduceSub, Int.reduceNeg, Int.zero_add, Int.add_zero, hFτ.c]) (by simp (disch := omega) only [true_and, and_true, sM_ne, sM_eq, sM_neR, sM_eqR, sK_upM, sK_upR, sL_upM, sL_upR, sN_upM, sN_upR, sT_upM, sT_upR, sN_upM, Int.reduceAdd, Int.reduceMul, Int.reduceSub, Int.reduceNeg, Int.zero_add, Int.add_zero, hFτ.c]) (rt_gx (x := z + (r : Int)) (by simp (disch := omega) only [true_and, and_true, sM_ne, sM_eq, sM_neR, sM_eqR, sK_upM, sK_upR, sL_upM, sL_upR, sN_upM, sN_upR, sT_upM, sT_upR, sN_upM, Int.reduceAdd, Int.reduceMul, Int.reduceSub, Int.reduceNeg, Int.zero_add, Int.add_zero, hFτ.c]) (hlτ ()) (rt_ret ?_)))
      have ezτ := hd (show sM τ 64 13 = z by rw [hcτ.M (by omega) (by omega)]; exact e64 ())
      unfold fX12_feed
      refine rt_b (rt_e (f_in τ (r : Int) 1 8) ?_)
      rw [if_pos (show 1 ≤ (r : Int) ∧ (r : Int) ≤ 8 by omega)]
      refine rt_neg (by omega) (rt_gx (x := z) (by simp (disch := omega) only [true_and, and_true, sM_ne, sM_eq, sM_neR, sM_eqR, sK_upM, sK_upR, sL_upM, sL_upR, sN_upM, sN_upR, sT_upM, sT_upR, sN_upM, Int.reduceAdd, Int.reduceMul, Int.reduceSub, Int.reduceNeg, Int.zero_add, Int.add_zero, hFτ.c]) (ezτ ()) ?_)
      rw [ew2, ew1]
      refine rt_pos (by omega) ?_
      have hn' := hcτ.2.1
      refine Rt.mono (l_fd33 (σ := τ) (v := v) (z := z) (n := (r : Int)) t2 (by omega) n8 (by omega) 1000 r τ hFτ (by omega) (by omega) (by rw [ezτ ()]; omega) Ch.rf (fun j j0 j1 => by omega)) ?_
      rintro y ρ ⟨rfl, hl2, hcρ, hr2⟩
      have hall : Ch pTp σ ρ := (hcτ.mono (fun a i q => by unfold pTp; omega)).tr (hcρ.mono (fun a i q => by unfold pTp; omega))
      refine finS rfl (h.tape hall.1 (fun a i q => q) ⟨?_, ?_, fun i i0 i1 => ?_, ?_⟩) hall.2
      · rw [hl2, hcρ.M (by omega) (by omega), hl]
      · rw [hl2]; omega
      · rw [hl2] at i1
        rw [hcρ.M (a := 35) (by omega) (by omega)]
        by_cases q : i < z
        · rw [hcτ.M (by omega) (by omega), hcρ.M (by omega) (by omega), hcτ.M (by omega) (by omega)]
          exact t4 i i0 q
        · have e1 := hr (i - z) (by omega) (by omega)
          have e2 := hr2 (i - z) (by omega) (by omega)
          rw [show z + (i - z) = i by omega] at e1 e2
          rw [e1, e2]
          exact ⟨rfl, byt_in⟩
      · refine RCap.off hF hall.1 (fun a i p q => by unfold pTp at q; omega) ?_ t5
        rw [hall.M (by omega) (by unfold pTp; omega)]
        omega
    · refine rt_neg hn (rt_ret (rt_pos rfl (rt_ret ?_)))
      unfold fX12_feed
      refine rt_b (rt_e (f_in σ n 1 8) ?_)
      rw [if_pos (show 1 ≤ n ∧ n ≤ 8 by omega)]
      refine rt_neg (by omega) (rt_gx (x := z) (by simp (disch := omega) only [true_and, and_true, sM_ne, sM_eq, sM_neR, sM_eqR, sK_upM, sK_upR, sL_upM, sL_upR, sN_upM, sN_upR, sT_upM, sT_upR, sN_upM, Int.reduceAdd, Int.reduceMul, Int.reduceSub, Int.reduceNeg, Int.zero_add, Int.add_zero, hF.c]) (e64 ()) ?_)
      rw [ew2]
      exact rt_neg (by omega) (rt_ret (fin0 h rfl))
  · refine rt_neg n8 (rt_ret ?_)
    unfold fX12_feed
    refine rt_b (rt_e (f_in σ n 1 8) ?_)
    rw [if_neg (show ¬ (1 ≤ n ∧ n ≤ 8) by omega)]
    exact rt_pos rfl (rt_ret (fin0 h rfl))
/-! what is taken -/
def und (k a : Int) : Int := if a = 0 ∨ k = a ∨ (a = 1 ∧ k = 5) ∨ (a = 2 ∧ k = 3) then 1 else 0
theorem f_isOfKind {σ : ZS} {W k a : Int} (hk : sK σ W = wk k) (hW : 0 ≤ W) (k0 : 0 ≤ k) (k5 : k ≤ 5) (a0 : 0 ≤ a) (a6 : a ≤ 6) : fX11_isOfKind σ W a = some (und k a, σ) := by
  have hW' : ¬ W < 0 := by omega
  unfold fX11_isOfKind
  rcases (by omega : a = 0 ∨ a = 1 ∨ a = 2 ∨ a = 3 ∨ a = 4 ∨ a = 5 ∨ a = 6) with rfl | rfl | rfl | rfl | rfl | rfl | rfl <;>
  rcases (by omega : k = 0 ∨ k = 1 ∨ k = 2 ∨ k = 3 ∨ k = 4 ∨ k = 5) with rfl | rfl | rfl | rfl | rfl | rfl <;>
  simp [zio, hk, hW', wk, okW, isTolled, isNumbered, isDrawn, isLast, isSorted, und]
theorem f_isUnder {σ : ZS} {k a : Int} (k0 : 0 ≤ k) (k5 : k ≤ 5) (a0 : 0 ≤ a) (a6 : a ≤ 5) : fX12_isUnder σ k a = some (und k a, σ) := by
  unfold fX12_isUnder
  rcases (by omega : a = 0 ∨ a = 1 ∨ a = 2 ∨ a = 3 ∨ a = 4 ∨ a = 5) with rfl | rfl | rfl | rfl | rfl | rfl <;>
  rcases (by omega : k = 0 ∨ k = 1 ∨ k = 2 ∨ k = 3 ∨ k = 4 ∨ k = 5) with rfl | rfl | rfl | rfl | rfl | rfl <;>
  simp [zjn, und]
theorem q_taken {σ : ZS} (h : Rel σ) (b a : Int) : Rt (fX11_taken σ 3 b a) (fun x τ => Rt (fX12_taken τ 64 b a) (fun y ρ => Fin σ x y ρ)) := by
  have hF := h.F
  have h9 := hF.2.2.2
  have hC := h.cnt
  have h8 := h.Wa.2.1
  unfold fX11_taken
  refine rt_b (rt_e (f_within σ a 6) ?_)
  by_cases ha : 0 ≤ a ∧ a ≤ 6
  · rw [if_pos ha]
    refine rt_neg (by omega) ?_
    have start : ∀ (x : Int), (¬ (0 ≤ b ∧ b ≤ 23) → x = -12) → ((0 ≤ b ∧ b ≤ 23) → Rt (if 16 ≤ b then ((zg σ 12 64 8).bind (fun v10 => if (wrap (b - 16)) < v10 then (if 6 ≤ a then (some ((-13), σ)) else ((zg σ 12 64 9).bind (fun v13 => (zal σ 100 v13 (wrap (b - 16))).bind (fun v14 => zb (fX12_isUnder σ v14 a) (fun v15 s16 => if v15 = 0 then (some ((-13), s16)) else (some ((wrap (b - 16)), s16))))))) else (some ((-11), σ)))) else ((zg σ 12 64 6).bind (fun v19 => if b < v19 then (if a = 6 then ((zg σ 12 64 7).bind (fun v22 => (zal σ 100 v22 b).bind (fun v23 => some (v23, σ)))) else (some ((-13), σ))) else (some ((-11), σ))))) (fun y ρ => Fin σ x y ρ)) → Rt (fX12_taken σ 64 b a) (fun y ρ => Fin σ x y ρ) := by
      intro x hx hy
      unfold fX12_taken
      refine rt_b (rt_e (f_in σ a 0 6) ?_)
      rw [if_pos ha]
      refine rt_neg (by omega) (rt_b (rt_e (f_in σ b 0 23) ?_))
      by_cases hb : 0 ≤ b ∧ b ≤ 23
      · rw [if_pos hb]
        exact rt_neg (by omega) (hy hb)
      · rw [if_neg hb]
        exact rt_pos rfl (rt_ret (fin0 h (hx hb)))
    by_cases b0 : b < 0
    · exact rt_pos b0 (rt_ret (start _ (fun _ => rfl) (fun q => by omega)))
    refine rt_neg b0 ?_
    by_cases b24 : b < 24
    · refine rt_pos b24 ?_
      by_cases b16 : 16 ≤ b
      · refine rt_pos b16 ?_
        have ew : wrap (b - 16) = b - 16 := wr (by omega) (by omega)
        rw [ew] at start
        rw [ew]
        by_cases hw : 0 ≤ b - 16 ∧ b - 16 < sM σ 64 8
        · obtain ⟨w0, w1⟩ := hw
          have hn := h.wn w0 w1
          obtain ⟨-, ⟨k0, k5⟩, kk, -⟩ := h.Wa.2.2.1 (b - 16) w0 w1
          refine rt_b (rt_v (by simp (disch := omega) only [true_and, and_true, sM_ne, sM_eq, sM_neR, sM_eqR, sK_upM, sK_upR, sL_upM, sL_upR, sN_upM, sN_upR, sT_upM, sT_upR, sN_upM, Int.reduceAdd, Int.reduceMul, Int.reduceSub, Int.reduceNeg, Int.zero_add, Int.add_zero, hF.c]) (rt_e (f_wayAt1 h w0 w1) ?_))
          refine rt_neg (by omega) (rt_b (rt_e (f_isOfKind kk (by omega) k0 k5 ha.1 ha.2) ?_))
          have hun : und (sM σ 71 (b - 16)) a = 0 ∨ und (sM σ 71 (b - 16)) a = 1 := by
            unfold und
            split
            · exact Or.inr rfl
            · exact Or.inl rfl
          have tail : ∀ x : Int, (a = 6 → x = -13) → (a < 6 → x = if und (sM σ 71 (b - 16)) a = 0 then -13 else b - 16) → Rt (fX12_taken σ 64 b a) (fun y ρ => Fin σ x y ρ) := by
            intro x hx6 hx
            refine start x (fun q => by omega) (fun _ => ?_)
            refine rt_pos b16 (rt_g (by simp (disch := omega) only [true_and, and_true, sM_ne, sM_eq, sM_neR, sM_eqR, sK_upM, sK_upR, sL_upM, sL_upR, sN_upM, sN_upR, sT_upM, sT_upR, sN_upM, Int.reduceAdd, Int.reduceMul, Int.reduceSub, Int.reduceNeg, Int.zero_add, Int.add_zero, hF.c]) (rt_pos w1 ?_))
            by_cases a6 : 6 ≤ a
            · exact rt_pos a6 (rt_ret (fin0 h (hx6 (by omega))))
            · refine rt_neg a6 ?_
              refine rt_gx (x := 71) (by simp (disch := omega) only [true_and, and_true, sM_ne, sM_eq, sM_neR, sM_eqR, sK_upM, sK_upR, sL_upM, sL_upR, sN_upM, sN_upR, sT_upM, sT_upR, sN_upM, Int.reduceAdd, Int.reduceMul, Int.reduceSub, Int.reduceNeg, Int.zero_add, Int.add_zero, hF.c]) (by simp (disch := omega) only [true_and, and_true, sM_ne, sM_eq, sM_neR, sM_eqR, sK_upM, sK_upR, sL_upM, sL_upR, sN_upM, sN_upR, sT_upM, sT_upR, sN_upM, Int.reduceAdd, Int.reduceMul, Int.reduceSub, Int.reduceNeg, Int.zero_add, Int.add_zero, hF.c]) ?_
              refine rt_al (by simp (disch := omega) only [true_and, and_true, sM_ne, sM_eq, sM_neR, sM_eqR, sK_upM, sK_upR, sL_upM, sL_upR, sN_upM, sN_upR, sT_upM, sT_upR, sN_upM, Int.reduceAdd, Int.reduceMul, Int.reduceSub, Int.reduceNeg, Int.zero_add, Int.add_zero, hF.c]) (by simp (disch := omega) only [true_and, and_true, sM_ne, sM_eq, sM_neR, sM_eqR, sK_upM, sK_upR, sL_upM, sL_upR, sN_upM, sN_upR, sT_upM, sT_upR, sN_upM, Int.reduceAdd, Int.reduceMul, Int.reduceSub, Int.reduceNeg, Int.zero_add, Int.add_zero, hF.c]; omega) ?_
              refine rt_b (rt_e (f_isUnder k0 k5 ha.1 (by omega)) ?_)
              have hx := hx (by omega)
              by_cases q : und (sM σ 71 (b - 16)) a = 0
              · exact rt_pos q (rt_ret (fin0 h (by rw [hx, if_pos q])))
              · exact rt_neg q (rt_ret (fin0 h (by rw [hx, if_neg q])))
          by_cases q : und (sM σ 71 (b - 16)) a = 0
          · exact rt_pos q (rt_ret (tail _ (fun _ => rfl) (fun _ => by rw [if_pos q])))
          · refine rt_neg q (rt_ret (tail _ (fun a6 => ?_) (fun _ => by rw [if_neg q])))
            exfalso
            apply q
            unfold und
            rw [if_neg (by omega)]
        · refine rt_b (rt_v (by simp (disch := omega) only [true_and, and_true, sM_ne, sM_eq, sM_neR, sM_eqR, sK_upM, sK_upR, sL_upM, sL_upR, sN_upM, sN_upR, sT_upM, sT_upR, sN_upM, Int.reduceAdd, Int.reduceMul, Int.reduceSub, Int.reduceNeg, Int.zero_add, Int.add_zero, hF.c]) (rt_e (f_wayAt0 h hw) ?_))
          refine rt_pos (by omega) (rt_ret (start _ (fun q => by omega) (fun _ => ?_)))
          refine rt_pos b16 (rt_g (by simp (disch := omega) only [true_and, and_true, sM_ne, sM_eq, sM_neR, sM_eqR, sK_upM, sK_upR, sL_upM, sL_upR, sN_upM, sN_upR, sT_upM, sT_upR, sN_upM, Int.reduceAdd, Int.reduceMul, Int.reduceSub, Int.reduceNeg, Int.zero_add, Int.add_zero, hF.c]) (rt_neg (by omega) (rt_ret (fin0 h rfl))))
      · refine rt_neg b16 ?_
        obtain ⟨c1, c2, c3⟩ := h.Ca
        have e7 := hd c1
        have es := hd (c3 b (by omega) (by omega)).1
        clear c1
        refine rt_gx (x := 5) (by simp (disch := omega) only [true_and, and_true, sM_ne, sM_eq, sM_neR, sM_eqR, sK_upM, sK_upR, sL_upM, sL_upR, sN_upM, sN_upR, sT_upM, sT_upR, sN_upM, Int.reduceAdd, Int.reduceMul, Int.reduceSub, Int.reduceNeg, Int.zero_add, Int.add_zero, hF.c]) (by simp (disch := omega) only [true_and, and_true, sM_ne, sM_eq, sM_neR, sM_eqR, sK_upM, sK_upR, sL_upM, sL_upR, sN_upM, sN_upR, sT_upM, sT_upR, sN_upM, Int.reduceAdd, Int.reduceMul, Int.reduceSub, Int.reduceNeg, Int.zero_add, Int.add_zero, hF.c]) (rt_gx (x := sM σ 64 6) (by simp (disch := omega) only [true_and, and_true, sM_ne, sM_eq, sM_neR, sM_eqR, sK_upM, sK_upR, sL_upM, sL_upR, sN_upM, sN_upR, sT_upM, sT_upR, sN_upM, Int.reduceAdd, Int.reduceMul, Int.reduceSub, Int.reduceNeg, Int.zero_add, Int.add_zero, hF.c]) (e7 ()) ?_)
        by_cases hb : b < sM σ 64 6
        · refine rt_pos hb ?_
          by_cases a6 : a = 6
          · refine rt_pos a6 ?_
            refine rt_gx (x := 5) (by simp (disch := omega) only [true_and, and_true, sM_ne, sM_eq, sM_neR, sM_eqR, sK_upM, sK_upR, sL_upM, sL_upR, sN_upM, sN_upR, sT_upM, sT_upR, sN_upM, Int.reduceAdd, Int.reduceMul, Int.reduceSub, Int.reduceNeg, Int.zero_add, Int.add_zero, hF.c]) (by simp (disch := omega) only [true_and, and_true, sM_ne, sM_eq, sM_neR, sM_eqR, sK_upM, sK_upR, sL_upM, sL_upR, sN_upM, sN_upR, sT_upM, sT_upR, sN_upM, Int.reduceAdd, Int.reduceMul, Int.reduceSub, Int.reduceNeg, Int.zero_add, Int.add_zero, hF.c]) (rt_gx (x := 17) (by simp (disch := omega) only [true_and, and_true, sM_ne, sM_eq, sM_neR, sM_eqR, sK_upM, sK_upR, sL_upM, sL_upR, sN_upM, sN_upR, sT_upM, sT_upR, sN_upM, Int.reduceAdd, Int.reduceMul, Int.reduceSub, Int.reduceNeg, Int.zero_add, Int.add_zero, hF.c]) (by simp (disch := omega) only [true_and, and_true, sM_ne, sM_eq, sM_neR, sM_eqR, sK_upM, sK_upR, sL_upM, sL_upR, sN_upM, sN_upR, sT_upM, sT_upR, sN_upM, Int.reduceAdd, Int.reduceMul, Int.reduceSub, Int.reduceNeg, Int.zero_add, Int.add_zero, hF.c]) ?_)
            refine rt_alx (x := sM σ 70 b) (by simp (disch := omega) only [true_and, and_true, sM_ne, sM_eq, sM_neR, sM_eqR, sK_upM, sK_upR, sL_upM, sL_upR, sN_upM, sN_upR, sT_upM, sT_upR, sN_upM, Int.reduceAdd, Int.reduceMul, Int.reduceSub, Int.reduceNeg, Int.zero_add, Int.add_zero, hF.c]) (by simp (disch := omega) only [true_and, and_true, sM_ne, sM_eq, sM_neR, sM_eqR, sK_upM, sK_upR, sL_upM, sL_upR, sN_upM, sN_upR, sT_upM, sT_upR, sN_upM, Int.reduceAdd, Int.reduceMul, Int.reduceSub, Int.reduceNeg, Int.zero_add, Int.add_zero, hF.c]; omega) (es ()) (rt_ret ?_)
            refine start _ (fun q => by omega) (fun _ => rt_neg b16 (rt_g (by simp (disch := omega) only [true_and, and_true, sM_ne, sM_eq, sM_neR, sM_eqR, sK_upM, sK_upR, sL_upM, sL_upR, sN_upM, sN_upR, sT_upM, sT_upR, sN_upM, Int.reduceAdd, Int.reduceMul, Int.reduceSub, Int.reduceNeg, Int.zero_add, Int.add_zero, hF.c]) (rt_pos hb (rt_pos a6 ?_))))
            refine rt_gx (x := 70) (by simp (disch := omega) only [true_and, and_true, sM_ne, sM_eq, sM_neR, sM_eqR, sK_upM, sK_upR, sL_upM, sL_upR, sN_upM, sN_upR, sT_upM, sT_upR, sN_upM, Int.reduceAdd, Int.reduceMul, Int.reduceSub, Int.reduceNeg, Int.zero_add, Int.add_zero, hF.c]) (by simp (disch := omega) only [true_and, and_true, sM_ne, sM_eq, sM_neR, sM_eqR, sK_upM, sK_upR, sL_upM, sL_upR, sN_upM, sN_upR, sT_upM, sT_upR, sN_upM, Int.reduceAdd, Int.reduceMul, Int.reduceSub, Int.reduceNeg, Int.zero_add, Int.add_zero, hF.c]) ?_
            exact rt_al (by simp (disch := omega) only [true_and, and_true, sM_ne, sM_eq, sM_neR, sM_eqR, sK_upM, sK_upR, sL_upM, sL_upR, sN_upM, sN_upR, sT_upM, sT_upR, sN_upM, Int.reduceAdd, Int.reduceMul, Int.reduceSub, Int.reduceNeg, Int.zero_add, Int.add_zero, hF.c]) (by simp (disch := omega) only [true_and, and_true, sM_ne, sM_eq, sM_neR, sM_eqR, sK_upM, sK_upR, sL_upM, sL_upR, sN_upM, sN_upR, sT_upM, sT_upR, sN_upM, Int.reduceAdd, Int.reduceMul, Int.reduceSub, Int.reduceNeg, Int.zero_add, Int.add_zero, hF.c]; omega) (rt_ret (fin0 h rfl))
          · refine rt_neg a6 (rt_ret (start _ (fun q => by omega) (fun _ => rt_neg b16 (rt_g (by simp (disch := omega) only [true_and, and_true, sM_ne, sM_eq, sM_neR, sM_eqR, sK_upM, sK_upR, sL_upM, sL_upR, sN_upM, sN_upR, sT_upM, sT_upR, sN_upM, Int.reduceAdd, Int.reduceMul, Int.reduceSub, Int.reduceNeg, Int.zero_add, Int.add_zero, hF.c]) (rt_pos hb (rt_neg a6 (rt_ret (fin0 h rfl))))))))
        · refine rt_neg hb (rt_ret (start _ (fun q => by omega) (fun _ => rt_neg b16 (rt_g (by simp (disch := omega) only [true_and, and_true, sM_ne, sM_eq, sM_neR, sM_eqR, sK_upM, sK_upR, sL_upM, sL_upR, sN_upM, sN_upR, sT_upM, sT_upR, sN_upM, Int.reduceAdd, Int.reduceMul, Int.reduceSub, Int.reduceNeg, Int.zero_add, Int.add_zero, hF.c]) (rt_neg hb (rt_ret (fin0 h rfl)))))))
    · exact rt_neg b24 (rt_ret (start _ (fun _ => rfl) (fun q => by omega)))
  · rw [if_neg ha]
    refine rt_pos rfl (rt_ret ?_)
    unfold fX12_taken
    refine rt_b (rt_e (f_in σ a 0 6) ?_)
    rw [if_neg ha]
    exact rt_pos rfl (rt_ret (fin0 h rfl))
