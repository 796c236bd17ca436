/-! a new way -/
theorem rt_na {σ : ZS} {c n : Int} {O : ZS → Option (Int × ZS)} {P : Int → ZS → Prop} (h : 0 ≤ n ∧ n ≤ 2000) (k : Rt (O (mkC σ c n (fun _ => if zat c = 2 then -1 else 0) n.toNat)) P) : Rt ((zna σ c n).bind O) P := by unfold zna; rw [if_pos h]; exact k
theorem rt_pw {σ : ZS} {a i v : Int} {O : ZS → Option (Int × ZS)} {P : Int → ZS → Prop} (h : wkn σ a) (h2 : 3 ≤ a) (k : Rt (O (upM σ a i v)) P) : Rt ((zpw σ a i v).bind O) P := by unfold zpw; unfold wkn at h; rw [if_pos ⟨h, h2⟩]; exact k
/-- a cell more, the others as they were -/
def Mk (σ τ : ZS) (k len : Int) (dv : Int → Int) (w : Nat) : Prop := (∀ a i : Int, a ≠ (sN σ : Int) → sM τ a i = sM σ a i) ∧ (∀ a : Int, a ≠ (sN σ : Int) → sK τ a = sK σ a ∧ sL τ a = sL σ a) ∧ sN τ = sN σ + 1 ∧ sT τ = sT σ + w ∧ sK τ (sN σ : Int) = k ∧ sL τ (sN σ : Int) = len ∧ ∀ i, sM τ (sN σ : Int) i = dv i
theorem mk_is {σ : ZS} {k len : Int} {dv : Int → Int} {w : Nat} : Mk σ (mkC σ k len dv w) k len dv w := ⟨fun a i h => by rw [sM_mkC, if_neg h], fun a h => by rw [sK_mkC, sL_mkC, if_neg h, if_neg h]; exact ⟨rfl, rfl⟩, rfl, rfl, by rw [sK_mkC, if_pos rfl], by rw [sL_mkC, if_pos rfl], fun i => by rw [sM_mkC, if_pos rfl]⟩
def NW (σ τ : ZS) (c m : Int) : Prop := (∀ a i : Int, a < (sN σ : Int) → sM τ a i = sM σ a i) ∧ (∀ a : Int, a < (sN σ : Int) → sK τ a = sK σ a) ∧ (∀ a : Int, a < (sN σ : Int) → sL τ a = sL σ a) ∧ (sN τ = sN σ + 3 ∧ sT τ = sT σ + 35) ∧ sK τ (sN σ : Int) = c ∧ (sM τ (sN σ : Int) 0 = m ∧ sM τ (sN σ : Int) 1 = (sN σ : Int) + 1 ∧ sM τ (sN σ : Int) 2 = (sN σ : Int) + 2) ∧ sK τ ((sN σ : Int) + 1) = 100 ∧ sK τ ((sN σ : Int) + 2) = 100 ∧ sL τ ((sN σ : Int) + 1) = 16 ∧ sL τ ((sN σ : Int) + 2) = 16
theorem f_init10 {σ : ZS} {c m : Int} (hc : c = 10 ∨ c = 9 ∨ c = 3 ∨ c = 0 ∨ c = 1 ∨ c = 7) (h3 : 3 ≤ sN σ) : Rt (fX10_init (znew σ c 3) (sN σ : Int) m) (fun _ τ => NW σ τ c m) := by
  have h0 : Mk σ (znew σ c 3) c 0 (fun j => if zst c j = 2 then -1 else 0) 3 := mk_is
  generalize znew σ c 3 = s0 at h0 ⊢
  obtain ⟨a1, a2, a3, a4, a5, a6, a7⟩ := h0
  unfold fX10_init
  refine rt_neg (by omega) (rt_na (by omega) ?_)
  have h1 : Mk s0 (mkC s0 100 16 (fun _ => if zat 100 = 2 then -1 else 0) (16 : Int).toNat) 100 16 (fun _ => if zat 100 = 2 then -1 else 0) (16 : Int).toNat := mk_is
  generalize mkC s0 100 16 (fun _ => if zat 100 = 2 then -1 else 0) (16 : Int).toNat = s1 at h1 ⊢
  obtain ⟨b1, b2, b3, b4, b5, b6, b7⟩ := h1
  have k1 : sK s1 (sN σ : Int) = c := by rw [(b2 _ (by omega)).1]; exact a5
  refine rt_pw (by unfold wkn; rw [k1]; exact hc) (by omega) ?_
  have n2 : sN (upM s1 (sN σ : Int) 1 (sN s0 : Int)) = sN s1 := rfl
  refine rt_na (by omega) ?_
  have h2 : Mk (upM s1 (sN σ : Int) 1 (sN s0 : Int)) (mkC (upM s1 (sN σ : Int) 1 (sN s0 : Int)) 100 16 (fun _ => if zat 100 = 2 then -1 else 0) (16 : Int).toNat) 100 16 (fun _ => if zat 100 = 2 then -1 else 0) (16 : Int).toNat := mk_is
  generalize mkC (upM s1 (sN σ : Int) 1 (sN s0 : Int)) 100 16 (fun _ => if zat 100 = 2 then -1 else 0) (16 : Int).toNat = s2 at h2 ⊢
  obtain ⟨c1, c2, c3, c4, c5, c6, c7⟩ := h2
  rw [n2] at c1 c2 c3 c5 c6 c7 ⊢
  have k2 : sK s2 (sN σ : Int) = c := by rw [(c2 _ (by omega)).1, sK_upM]; exact k1
  refine rt_pw (by unfold wkn; rw [k2]; exact hc) (by omega) (rt_pw (by unfold wkn; rw [sK_upM, k2]; exact hc) (by omega) (rt_ret ?_))
  have t1 : sT s2 = sT σ + 35 := by
    rw [c4]
    show sT s1 + 16 = _
    rw [b4, a4]
    show sT σ + 3 + 16 + 16 = _
    omega
  have e1 : ((sN s0 : Nat) : Int) = (sN σ : Int) + 1 := by omega
  have e2 : ((sN s1 : Nat) : Int) = (sN σ : Int) + 2 := by omega
  rw [e1] at b1 b2 b5 b6 b7 c1
  rw [e2] at c1 c2 c5 c6 c7 ⊢
  refine ⟨fun a i ha => ?_, fun a ha => ?_, fun a ha => ?_, ⟨?_, t1⟩, ?_, ⟨?_, ?_, ?_⟩, ?_, ?_, ?_, ?_⟩
  · rw [sM_ne (by omega), sM_ne (by omega), c1 a i (by omega), sM_ne (by omega), b1 a i (by omega), a1 a i (by omega)]
  · rw [sK_upM, sK_upM, (c2 a (by omega)).1, sK_upM, (b2 a (by omega)).1, (a2 a (by omega)).1]
  · rw [sL_upM, sL_upM, (c2 a (by omega)).2, sL_upM, (b2 a (by omega)).2, (a2 a (by omega)).2]
  · show sN s2 = _
    omega
  · rw [sK_upM, sK_upM]; exact k2
  · rw [sM_eq ⟨rfl, rfl⟩]
  · rw [sM_ne (by omega), sM_ne (by omega), c1 _ _ (by omega), sM_eq ⟨rfl, rfl⟩]
  · rw [sM_ne (by omega), sM_eq ⟨rfl, rfl⟩]
  · rw [sK_upM, sK_upM, (c2 _ (by omega)).1, sK_upM]; exact b5
  · rw [sK_upM, sK_upM]; exact c5
  · rw [sL_upM, sL_upM, (c2 _ (by omega)).2, sL_upM]; exact b6
  · rw [sL_upM, sL_upM]; exact c6
theorem f_newWay {σ : ZS} {k m : Int} (k0 : 0 ≤ k) (k5 : k ≤ 5) (h3 : 3 ≤ sN σ) : Rt (fX11_newWay σ k m) (fun v τ => v = (sN σ : Int) ∧ NW σ τ (wk k) m) := by
  unfold fX11_newWay
  rcases (by omega : k = 0 ∨ k = 1 ∨ k = 2 ∨ k = 3 ∨ k = 4 ∨ k = 5) with rfl | rfl | rfl | rfl | rfl | rfl
  · refine rt_neg (by decide) (rt_neg (by decide) (rt_neg (by decide) (rt_neg (by decide) (rt_neg (by decide) (rt_neg (by omega) (rt_b ?_))))))
    exact (f_init10 (c := 10) (by omega) h3).mono (fun v τ h => rt_ret ⟨rfl, h⟩)
  · refine rt_pos rfl (rt_neg (by omega) (rt_b ?_))
    unfold fX9_init
    exact rt_neg (by omega) (rt_b ((f_init10 (c := 9) (by omega) h3).mono (fun v τ h => rt_ret (rt_ret ⟨rfl, h⟩))))
  · refine rt_neg (by decide) (rt_pos rfl (rt_neg (by omega) (rt_b ?_)))
    unfold fX3_init
    exact rt_neg (by omega) (rt_b ((f_init10 (c := 3) (by omega) h3).mono (fun v τ h => rt_ret (rt_ret ⟨rfl, h⟩))))
  · refine rt_neg (by decide) (rt_neg (by decide) (rt_pos rfl (rt_neg (by omega) (rt_b ?_))))
    unfold fX0_init
    first
    | exact rt_neg (by omega) (rt_b ((f_init10 (c := 0) (by omega) h3).mono (fun v τ h => rt_ret (rt_ret ⟨rfl, h⟩))))
    | (refine rt_neg (by omega) (rt_b ?_)
       unfold fX3_init
       exact rt_neg (by omega) (rt_b ((f_init10 (c := 0) (by omega) h3).mono (fun v τ h => rt_ret (rt_ret (rt_ret ⟨rfl, h⟩))))))
  · refine rt_neg (by decide) (rt_neg (by decide) (rt_neg (by decide) (rt_pos rfl (rt_neg (by omega) (rt_b ?_)))))
    unfold fX1_init
    exact rt_neg (by omega) (rt_b ((f_init10 (c := 1) (by omega) h3).mono (fun v τ h => rt_ret (rt_ret ⟨rfl, h⟩))))
  · refine rt_neg (by decide) (rt_neg (by decide) (rt_neg (by decide) (rt_neg (by decide) (rt_pos rfl (rt_neg (by omega) (rt_b ?_))))))
    unfold fX7_init
    first
    | exact rt_neg (by omega) (rt_b ((f_init10 (c := 7) (by omega) h3).mono (fun v τ h => rt_ret (rt_ret ⟨rfl, h⟩))))
    | (refine rt_neg (by omega) (rt_b ?_)
       unfold fX9_init
       exact rt_neg (by omega) (rt_b ((f_init10 (c := 7) (by omega) h3).mono (fun v τ h => rt_ret (rt_ret (rt_ret ⟨rfl, h⟩))))))
/-- all of the first so many cells are choices -/
def allC (f : Int → Int) : Nat → Bool
  | 0 => true
  | n + 1 => allC f n && decide (0 ≤ f (n : Int) ∧ f (n : Int) ≤ 48)
theorem allC_mem {f : Int → Int} : ∀ n : Nat, allC f n = true → ∀ i : Int, 0 ≤ i → i < (n : Int) → 0 ≤ f i ∧ f i ≤ 48
  | 0, _, i, i0, i1 => by omega
  | n + 1, h, i, i0, i1 => by
    unfold allC at h
    rw [Bool.and_eq_true, decide_eq_true_eq] at h
    by_cases q : i = (n : Int)
    · rw [q]; exact h.2
    · exact allC_mem n h.1 i i0 (by omega)
theorem allC_no {f : Int → Int} {c : Nat} (hc : ¬ (0 ≤ f (c : Int) ∧ f (c : Int) ≤ 48)) : ∀ n : Nat, c < n → allC f n = false
  | 0, h => by omega
  | n + 1, h => by
    unfold allC
    by_cases q : c = n
    · subst q
      rw [decide_eq_false hc, Bool.and_false]
    · rw [allC_no hc n (by omega), Bool.false_and]
theorem l_hc2 {σ : ZS} {s z : Int} {f : Int → Int} (hF : FxD σ) (s0 : 0 ≤ s) (s1 : s < 4) (hz : sM σ (56 + 2 * s) 2 = z) (z0 : 0 ≤ z) (z1 : z ≤ 40) (hf : ∀ i : Int, 0 ≤ i → i < 40 → sM σ (57 + 2 * s) i = f i) :
    ∀ (N c : Nat), (c : Int) ≤ z → z - (c : Int) < (N : Int) → allC f c = true → Rt (lX11_holdsChoices_2 (56 + 2 * s) N σ (c : Int)) (fun v τ => v = (if allC f z.toNat = true then 1 else 0) ∧ τ = σ)
  | 0, c, h1, h2, _ => by omega
  | N + 1, c, h1, h2, ha => by
    rw [lX11_holdsChoices_2]
    have hz' := hd hz
    refine rt_gx (x := z) (by simp (disch := omega) only [true_and, and_true, sM_ne, sM_eq, sM_neR, sM_eqR, sK_upM, sK_upR, sL_upM, sL_upR, sN_upM, sN_upR, sT_upM, sT_upR, sN_upM, Int.reduceAdd, Int.reduceMul, Int.reduceSub, Int.reduceNeg, Int.zero_add, Int.add_zero, hF.c]) (hz' ()) ?_
    by_cases he : z ≤ (c : Int)
    · refine rt_pos he (rt_ret ⟨?_, rfl⟩)
      rw [show z.toNat = c by omega, if_pos ha]
    · refine rt_neg he ?_
      have hfc := hd (hf (c : Int) (by omega) (by omega))
      refine rt_gx (x := 57 + 2 * s) (by simp (disch := omega) only [true_and, and_true, sM_ne, sM_eq, sM_neR, sM_eqR, sK_upM, sK_upR, sL_upM, sL_upR, sN_upM, sN_upR, sT_upM, sT_upR, sN_upM, Int.reduceAdd, Int.reduceMul, Int.reduceSub, Int.reduceNeg, Int.zero_add, Int.add_zero, hF.c]) (by simp (disch := omega) only [true_and, and_true, sM_ne, sM_eq, sM_neR, sM_eqR, sK_upM, sK_upR, sL_upM, sL_upR, sN_upM, sN_upR, sT_upM, sT_upR, sN_upM, Int.reduceAdd, Int.reduceMul, Int.reduceSub, Int.reduceNeg, Int.zero_add, Int.add_zero, hF.c]) ?_
      refine rt_alx (x := f (c : Int)) (by simp (disch := omega) only [true_and, and_true, sM_ne, sM_eq, sM_neR, sM_eqR, sK_upM, sK_upR, sL_upM, sL_upR, sN_upM, sN_upR, sT_upM, sT_upR, sN_upM, Int.reduceAdd, Int.reduceMul, Int.reduceSub, Int.reduceNeg, Int.zero_add, Int.add_zero, hF.c]) (by simp (disch := omega) only [true_and, and_true, sM_ne, sM_eq, sM_neR, sM_eqR, sK_upM, sK_upR, sL_upM, sL_upR, sN_upM, sN_upR, sT_upM, sT_upR, sN_upM, Int.reduceAdd, Int.reduceMul, Int.reduceSub, Int.reduceNeg, Int.zero_add, Int.add_zero, hF.c]; omega) (hfc ()) ?_
      refine rt_b (rt_e (f_within σ (f (c : Int)) 48) ?_)
      by_cases q : 0 ≤ f (c : Int) ∧ f (c : Int) ≤ 48
      · rw [if_pos q]
        refine rt_neg (by omega) ?_
        rw [wr1 c (by omega)]
        refine l_hc2 hF s0 s1 hz z0 z1 hf N (c + 1) (by omega) (by omega) ?_
        unfold allC
        rw [ha, decide_eq_true q]
        rfl
      · rw [if_neg q]
        refine rt_pos rfl (rt_ret ⟨?_, rfl⟩)
        rw [allC_no q z.toNat (by omega)]
        rfl
theorem l_wy56 {σ : ZS} {k s m : Int} {f : Int → Int} {K : ZS → Int → Option (Int × ZS)} {P : Int → ZS → Prop} (hF : FxD σ) (s0 : 0 ≤ s) (s1 : s < 4) (hm : sM σ 64 6 = m) (m0 : 0 ≤ m) (m1 : m ≤ 16) (hf : ∀ i : Int, 0 ≤ i → i < 40 → sM σ 83 (40 * s + i) = f i)
    (hK : Rt (K σ (if allC f m.toNat = true then 1 else 0)) P) :
    ∀ (N c : Nat) (x : Int), (c : Int) ≤ m → m - (c : Int) < (N : Int) → (allC f c = true ∧ x = 1) ∨ (allC f m.toNat = false ∧ x = 0) → Rt (lX12_way_56 64 k s K N σ x (c : Int)) P
  | 0, c, x, h1, h2, _ => by omega
  | N + 1, c, x, h1, h2, hx => by
    rw [lX12_way_56]
    have hm' := hd hm
    refine rt_gx (x := m) (by simp (disch := omega) only [true_and, and_true, sM_ne, sM_eq, sM_neR, sM_eqR, sK_upM, sK_upR, sL_upM, sL_upR, sN_upM, sN_upR, sT_upM, sT_upR, sN_upM, Int.reduceAdd, Int.reduceMul, Int.reduceSub, Int.reduceNeg, Int.zero_add, Int.add_zero, hF.c]) (hm' ()) ?_
    by_cases he : m ≤ (c : Int)
    · refine rt_pos he ?_
      rw [show m.toNat = c by omega] at hK hx
      rcases hx with ⟨a, rfl⟩ | ⟨a, rfl⟩
      · rw [if_pos a] at hK; exact hK
      · rw [if_neg (by rw [a]; decide)] at hK; exact hK
    · refine rt_neg he ?_
      rcases hx with ⟨a, rfl⟩ | ⟨a, rfl⟩
      · refine rt_neg (by decide) ?_
        have w0 := hd (show wrap (wrap (40 * s) + (c : Int)) = 40 * s + (c : Int) by rw [wr (x := 40 * s) (by omega) (by omega), wr (by omega) (by omega)])
        have hfc := hd (hf (c : Int) (by omega) (by omega))
        refine rt_gx (x := 83) (by simp (disch := omega) only [true_and, and_true, sM_ne, sM_eq, sM_neR, sM_eqR, sK_upM, sK_upR, sL_upM, sL_upR, sN_upM, sN_upR, sT_upM, sT_upR, sN_upM, Int.reduceAdd, Int.reduceMul, Int.reduceSub, Int.reduceNeg, Int.zero_add, Int.add_zero, hF.c]) (by simp (disch := omega) only [true_and, and_true, sM_ne, sM_eq, sM_neR, sM_eqR, sK_upM, sK_upR, sL_upM, sL_upR, sN_upM, sN_upR, sT_upM, sT_upR, sN_upM, Int.reduceAdd, Int.reduceMul, Int.reduceSub, Int.reduceNeg, Int.zero_add, Int.add_zero, hF.c]) ?_
        refine rt_alx (x := f (c : Int)) (by simp (disch := omega) only [true_and, and_true, sM_ne, sM_eq, sM_neR, sM_eqR, sK_upM, sK_upR, sL_upM, sL_upR, sN_upM, sN_upR, sT_upM, sT_upR, sN_upM, Int.reduceAdd, Int.reduceMul, Int.reduceSub, Int.reduceNeg, Int.zero_add, Int.add_zero, hF.c]) (by rw [w0 ()]; simp (disch := omega) only [true_and, and_true, sM_ne, sM_eq, sM_neR, sM_eqR, sK_upM, sK_upR, sL_upM, sL_upR, sN_upM, sN_upR, sT_upM, sT_upR, sN_upM, Int.reduceAdd, Int.reduceMul, Int.reduceSub, Int.reduceNeg, Int.zero_add, Int.add_zero, hF.c]; omega) (by rw [w0 ()]; exact hfc ()) ?_
        refine rt_b (rt_e (f_isChoice σ (f (c : Int))) ?_)
        rw [wr1 c (by omega)]
        refine l_wy56 hF s0 s1 hm m0 m1 hf hK N (c + 1) _ (by omega) (by omega) ?_
        by_cases q : 0 ≤ f (c : Int) ∧ f (c : Int) ≤ 48
        · left
          rw [if_pos q]
          refine ⟨?_, rfl⟩
          unfold allC
          rw [a, decide_eq_true q]
          rfl
        · right
          rw [if_neg q]
          exact ⟨allC_no q m.toNat (by omega), rfl⟩
      · refine rt_pos rfl ?_
        rw [if_neg (by rw [a]; decide)] at hK
        exact hK
theorem l_wy136 {σ : ZS} {s m w : Int} {f : Int → Int} {K : ZS → Option (Int × ZS)} {P : Int → ZS → Prop} (s0 : 0 ≤ s) (s1 : s < 4) (m0 : 0 ≤ m) (m1 : m ≤ 16) (w0 : 0 ≤ w) (w1 : w < 8)
    (hK : ∀ τ : ZS, FxD τ → Ch (fun a i => a = 73 ∧ 16 * w ≤ i ∧ i < 16 * w + 16) σ τ → (∀ i : Int, 0 ≤ i → i < m → sM τ 73 (16 * w + i) = f i) → Rt (K τ) P) :
    ∀ (N c : Nat) (τ : ZS), FxD τ → (c : Int) ≤ m → m - (c : Int) < (N : Int) → Ch (fun a i => a = 73 ∧ 16 * w ≤ i ∧ i < 16 * w + 16) σ τ → sM τ 64 6 = m → sM τ 64 8 = w → (∀ i : Int, 0 ≤ i → i < 40 → sM τ 83 (40 * s + i) = f i) → (∀ i : Int, 0 ≤ i → i < (c : Int) → sM τ 73 (16 * w + i) = f i) → Rt (lX12_way_136 64 s K N τ (c : Int)) P
  | 0, c, τ, _, h1, h2, _, _, _, _, _ => by omega
  | N + 1, c, τ, hF, h1, h2, hc, hm, hw, hf, hz => by
    rw [lX12_way_136]
    have hm' := hd hm
    have hw' := hd hw
    refine rt_gx (x := m) (by simp (disch := omega) only [true_and, and_true, sM_ne, sM_eq, sM_neR, sM_eqR, sK_upM, sK_upR, sL_upM, sL_upR, sN_upM, sN_upR, sT_upM, sT_upR, sN_upM, Int.reduceAdd, Int.reduceMul, Int.reduceSub, Int.reduceNeg, Int.zero_add, Int.add_zero, hF.c]) (hm' ()) ?_
    by_cases he : m ≤ (c : Int)
    · exact rt_pos he (hK τ hF hc (fun i i0 i1 => hz i i0 (by omega)))
    · refine rt_neg he ?_
      have e0 := hd (show wrap (wrap (40 * s) + (c : Int)) = 40 * s + (c : Int) by rw [wr (x := 40 * s) (by omega) (by omega), wr (by omega) (by omega)])
      have e1 := hd (show wrap (wrap (16 * w) + (c : Int)) = 16 * w + (c : Int) by rw [wr (x := 16 * w) (by omega) (by omega), wr (by omega) (by omega)])
      have hfc := hd (hf (c : Int) (by omega) (by omega))
      refine rt_gx (x := 73) (by simp (disch := omega) only [true_and, and_true, sM_ne, sM_eq, sM_neR, sM_eqR, sK_upM, sK_upR, sL_upM, sL_upR, sN_upM, sN_upR, sT_upM, sT_upR, sN_upM, Int.reduceAdd, Int.reduceMul, Int.reduceSub, Int.reduceNeg, Int.zero_add, Int.add_zero, hF.c]) (by simp (disch := omega) only [true_and, and_true, sM_ne, sM_eq, sM_neR, sM_eqR, sK_upM, sK_upR, sL_upM, sL_upR, sN_upM, sN_upR, sT_upM, sT_upR, sN_upM, Int.reduceAdd, Int.reduceMul, Int.reduceSub, Int.reduceNeg, Int.zero_add, Int.add_zero, hF.c]) ?_
      refine rt_gx (x := w) (by simp (disch := omega) only [true_and, and_true, sM_ne, sM_eq, sM_neR, sM_eqR, sK_upM, sK_upR, sL_upM, sL_upR, sN_upM, sN_upR, sT_upM, sT_upR, sN_upM, Int.reduceAdd, Int.reduceMul, Int.reduceSub, Int.reduceNeg, Int.zero_add, Int.add_zero, hF.c]) (hw' ()) ?_
      refine rt_gx (x := 83) (by simp (disch := omega) only [true_and, and_true, sM_ne, sM_eq, sM_neR, sM_eqR, sK_upM, sK_upR, sL_upM, sL_upR, sN_upM, sN_upR, sT_upM, sT_upR, sN_upM, Int.reduceAdd, Int.reduceMul, Int.reduceSub, Int.reduceNeg, Int.zero_add, Int.add_zero, hF.c]) (by simp (disch := omega) only [true_and, and_true, sM_ne, sM_eq, sM_neR, sM_eqR, sK_upM, sK_upR, sL_upM, sL_upR, sN_upM, sN_upR, sT_upM, sT_upR, sN_upM, Int.reduceAdd, Int.reduceMul, Int.reduceSub, Int.reduceNeg, Int.zero_add, Int.add_zero, hF.c]) ?_
      refine rt_alx (x := f (c : Int)) (by simp (disch := omega) only [true_and, and_true, sM_ne, sM_eq, sM_neR, sM_eqR, sK_upM, sK_upR, sL_upM, sL_upR, sN_upM, sN_upR, sT_upM, sT_upR, sN_upM, Int.reduceAdd, Int.reduceMul, Int.reduceSub, Int.reduceNeg, Int.zero_add, Int.add_zero, hF.c]) (by rw [e0 ()]; simp (disch := omega) only [true_and, and_true, sM_ne, sM_eq, sM_neR, sM_eqR, sK_upM, sK_upR, sL_upM, sL_upR, sN_upM, sN_upR, sT_upM, sT_upR, sN_upM, Int.reduceAdd, Int.reduceMul, Int.reduceSub, Int.reduceNeg, Int.zero_add, Int.add_zero, hF.c]; omega) (by rw [e0 ()]; exact hfc ()) ?_
      rw [e1 (), wr1 c (by omega)]
      refine rt_as (by simp (disch := omega) only [true_and, and_true, sM_ne, sM_eq, sM_neR, sM_eqR, sK_upM, sK_upR, sL_upM, sL_upR, sN_upM, sN_upR, sT_upM, sT_upR, sN_upM, Int.reduceAdd, Int.reduceMul, Int.reduceSub, Int.reduceNeg, Int.zero_add, Int.add_zero, hF.c]) (by simp (disch := omega) only [true_and, and_true, sM_ne, sM_eq, sM_neR, sM_eqR, sK_upM, sK_upR, sL_upM, sL_upR, sN_upM, sN_upR, sT_upM, sT_upR, sN_upM, Int.reduceAdd, Int.reduceMul, Int.reduceSub, Int.reduceNeg, Int.zero_add, Int.add_zero, hF.c]; omega) ?_
      refine l_wy136 s0 s1 m0 m1 w0 w1 hK N (c + 1) _ (hF.up (NF_i (by omega))) (by omega) (by omega) (hc.up ⟨rfl, by omega, by omega⟩) (by rw [sM_ne (by omega)]; exact hm) (by rw [sM_ne (by omega)]; exact hw) (fun i i0 i1 => by rw [sM_ne (by omega)]; exact hf i i0 i1) (fun i i0 i1 => ?_)
      by_cases q : i = (c : Int)
      · rw [sM_eq ⟨rfl, by omega⟩, q]
      · rw [sM_ne (by omega)]
        exact hz i i0 (by omega)
