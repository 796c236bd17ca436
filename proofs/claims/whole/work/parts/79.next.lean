/-! the reference's tokens -/
theorem lpk {x c : Int} (h0 : 0 ≤ x) (h1 : x < 281474976710656) (c0 : 0 ≤ c) (c1 : c < 256) : lOr (lShl x 8) c = 256 * x + c := by
  unfold lOr
  have h2 : (lShl x 8) = 256 * x := by
    unfold lShl
    have hs : (Int64.ofInt x <<< ((Int32.ofInt 8).toInt64 &&& 63)).toBitVec.toNat = (256 * x).toNat := by
      have e : ((Int32.ofInt 8).toInt64 &&& 63) = 8 := by decide +kernel
      rw [e]
      show ((Int64.ofInt x).toBitVec <<< ((8 : Int64).toBitVec.smod 64)).toNat = _
      have e8 : ((8 : Int64).toBitVec.smod 64) = 8#64 := by decide +kernel
      rw [e8, BitVec.shiftLeft_eq', BitVec.toNat_shiftLeft, bl_ofInt]
      have e9 : (8#64).toNat = 8 := by decide
      rw [e9, Nat.shiftLeft_eq]
      omega
    rw [bl_toInt hs (by omega)]
    omega
  rw [h2]
  have h : ((Int64.ofInt (256 * x) ||| Int64.ofInt c).toBitVec).toNat = (256 * x + c).toNat := by
    rw [Int64.toBitVec_or, BitVec.toNat_or, bl_ofInt, bl_ofInt]
    have e1 : (256 * x % 18446744073709551616).toNat = x.toNat <<< 8 := by rw [Nat.shiftLeft_eq]; omega
    have e2 : (c % 18446744073709551616).toNat = c.toNat := by omega
    rw [e1, e2, ← Nat.shiftLeft_add_eq_or_of_lt (by omega : c.toNat < 2 ^ 8), Nat.shiftLeft_eq]
    omega
  rw [bl_toInt h (by omega)]
  omega
section NX
variable {f : Int → Int} {z : Int}
theorem TPC.nx {s τ : ZS} (h : TPC f z s) (c : Ch nxS s τ) : TPC f z τ := h.ch (t := 0) (c.mono nx_op)
def nyS (a i : Int) : Prop := a = 64 ∧ (i = 29 ∨ i = 32)
theorem ny_nx : ∀ a i, nyS a i → nxS a i := fun a i q => by unfold nyS at q; unfold nxS; omega
/-- the tape looked at, where one is -/
theorem rt_tq {s : ZS} {p : Int} {F : Int → Option (Int × ZS)} {P : Int → ZS → Prop} (h : TPC f z s) (hz : z ≤ 160) (hp : sM s 64 29 = p) (p0 : 0 ≤ p) (p1 : p < z) (q : Rt (F (f p)) P) : Rt ((zg s 12 64 12).bind (fun v6 => (zg s 12 64 29).bind (fun v7 => (zal s 100 v6 v7).bind F))) P := by
  obtain ⟨hF, h1, h3⟩ := h
  have e := hd (h3 p p0 p1)
  have e' := hd hp
  exact rt_gx (x := 74) (by simp (disch := omega) only [true_and, and_true, sM_ne, sM_eq, sM_neR, sM_eqR, sK_upM, sK_upR, sL_upM, sL_upR, sN_upM, sN_upR, sT_upM, sT_upR, sN_upM, Int.reduceAdd, Int.reduceMul, Int.reduceSub, Int.reduceNeg, Int.zero_add, Int.add_zero, hF.c]) (by simp (disch := omega) only [true_and, and_true, sM_ne, sM_eq, sM_neR, sM_eqR, sK_upM, sK_upR, sL_upM, sL_upR, sN_upM, sN_upR, sT_upM, sT_upR, sN_upM, Int.reduceAdd, Int.reduceMul, Int.reduceSub, Int.reduceNeg, Int.zero_add, Int.add_zero, hF.c]) (rt_gx (x := p) (by simp (disch := omega) only [true_and, and_true, sM_ne, sM_eq, sM_neR, sM_eqR, sK_upM, sK_upR, sL_upM, sL_upR, sN_upM, sN_upR, sT_upM, sT_upR, sN_upM, Int.reduceAdd, Int.reduceMul, Int.reduceSub, Int.reduceNeg, Int.zero_add, Int.add_zero, hF.c]) (e' ()) (rt_alx (by simp (disch := omega) only [true_and, and_true, sM_ne, sM_eq, sM_neR, sM_eqR, sK_upM, sK_upR, sL_upM, sL_upR, sN_upM, sN_upR, sT_upM, sT_upR, sN_upM, Int.reduceAdd, Int.reduceMul, Int.reduceSub, Int.reduceNeg, Int.zero_add, Int.add_zero, hF.c]) (by simp (disch := omega) only [true_and, and_true, sM_ne, sM_eq, sM_neR, sM_eqR, sK_upM, sK_upR, sL_upM, sL_upR, sN_upM, sN_upR, sT_upM, sT_upR, sN_upM, Int.reduceAdd, Int.reduceMul, Int.reduceSub, Int.reduceNeg, Int.zero_add, Int.add_zero, hF.c]; omega) (e ()) q))
theorem rt_ad {s : ZS} {p : Int} {F : ZS → Option (Int × ZS)} {P : Int → ZS → Prop} (hF : FxD s) (hp : sM s 64 29 = p) (p0 : 0 ≤ p) (p1 : p < 1000) (q : Rt (F (upM s 64 29 (p + 1))) P) : Rt ((zg s 12 64 29).bind (fun v15 => (zp s 12 64 29 (wrap (v15 + 1))).bind F)) P := by
  have e' := hd hp
  refine rt_gx (x := p) (by simp (disch := omega) only [true_and, and_true, sM_ne, sM_eq, sM_neR, sM_eqR, sK_upM, sK_upR, sL_upM, sL_upR, sN_upM, sN_upR, sT_upM, sT_upR, sN_upM, Int.reduceAdd, Int.reduceMul, Int.reduceSub, Int.reduceNeg, Int.zero_add, Int.add_zero, hF.c]) (e' ()) ?_
  rw [wr (x := p + 1) (by omega) (by omega)]
  exact rt_p (by simp (disch := omega) only [true_and, and_true, sM_ne, sM_eq, sM_neR, sM_eqR, sK_upM, sK_upR, sL_upM, sL_upR, sN_upM, sN_upR, sT_upM, sT_upR, sN_upM, Int.reduceAdd, Int.reduceMul, Int.reduceSub, Int.reduceNeg, Int.zero_add, Int.add_zero, hF.c]) (by omega) q
theorem l_nx0 (hz : 0 ≤ z ∧ z ≤ 160) {σ : ZS} {q : Int} {K : ZS → Option (Int × ZS)} {P : Int → ZS → Prop} (hq : q ≤ z) (hqs : q = z ∨ lkF (f q) ≠ 0) (hK : ∀ τ : ZS, TPC f z τ → Ch nxS σ τ → sM τ 64 29 = q → Rt (K τ) P) :
    ∀ (N : Nat) (p : Int) (s : ZS), TPC f z s → Ch nxS σ s → sM s 64 29 = p → 0 ≤ p → p ≤ q → q - p < (N : Int) → (∀ y : Int, p ≤ y → y < q → lkF (f y) = 0) → Rt (lX12_next_0 64 K N s) P
  | 0, p, s, _, _, _, _, h1, h2, _ => by omega
  | N + 1, p, s, h, hc, hp, p0, h1, h2, hb => by
    have hF := h.1
    have hp' := hd hp
    have hz' := hd h.2.1
    rw [lX12_next_0]
    refine rt_gx (x := p) (by simp (disch := omega) only [true_and, and_true, sM_ne, sM_eq, sM_neR, sM_eqR, sK_upM, sK_upR, sL_upM, sL_upR, sN_upM, sN_upR, sT_upM, sT_upR, sN_upM, Int.reduceAdd, Int.reduceMul, Int.reduceSub, Int.reduceNeg, Int.zero_add, Int.add_zero, hF.c]) (hp' ()) (rt_gx (x := z) (by simp (disch := omega) only [true_and, and_true, sM_ne, sM_eq, sM_neR, sM_eqR, sK_upM, sK_upR, sL_upM, sL_upR, sN_upM, sN_upR, sT_upM, sT_upR, sN_upM, Int.reduceAdd, Int.reduceMul, Int.reduceSub, Int.reduceNeg, Int.zero_add, Int.add_zero, hF.c]) (hz' ()) ?_)
    by_cases e : z ≤ p
    · exact rt_pos e (hK s h hc (by rw [hp]; omega))
    · refine rt_neg e (rt_tq h hz.2 hp p0 (by omega) (rt_jn ?_))
      by_cases eq : p = q
      · have hn := hqs.resolve_left (by omega)
        rw [← eq] at hn
        have : ¬ (f p = 32 ∨ f p = 10) := fun g => hn (lk_bl.mpr g)
        refine rt_neg (fun g => this (Or.inl g)) (rt_tq h hz.2 hp p0 (by omega) ?_)
        exact rt_neg (fun g => this (Or.inr g)) (hK s h hc (by rw [hp]; exact eq))
      · have hk := lk_bl.mp (hb p (Int.le_refl _) (by omega))
        have go : Rt ((zg s 12 64 29).bind (fun v15 => (zp s 12 64 29 (wrap (v15 + 1))).bind (fun s16 => lX12_next_0 64 K N s16))) P := by
          refine rt_ad hF hp p0 (by omega) ?_
          have c1 : Ch nxS s (upM s 64 29 (p + 1)) := Ch.rf.up ⟨rfl, by omega, by omega⟩
          exact l_nx0 hz hq hqs hK N (p + 1) _ (h.nx c1) (hc.tr c1) (sM_eq ⟨rfl, rfl⟩) (by omega) (by omega) (by omega) (fun y y0 y1 => hb y (by omega) y1)
        by_cases e32 : f p = 32
        · exact rt_pos e32 go
        · refine rt_neg e32 (rt_tq h hz.2 hp p0 (by omega) ?_)
          exact rt_pos (hk.resolve_left e32) go
theorem pk_lo {p : Int} {n : Nat} (hl : ∀ y : Nat, y < n → 97 ≤ f (p + (y : Int)) ∧ f (p + (y : Int)) ≤ 122) (h6 : n ≤ 6) : 0 ≤ pkV f p n ∧ pkV f p n < 281474976710656 := by
  rcases Nat.eq_zero_or_pos n with e | e
  · subst e; exact ⟨Int.le_refl 0, (by decide : (0 : Int) < 281474976710656)⟩
  · have := pk_rng (f := f) (p := p) e h6 hl
    have h1 : n = 1 → 0 ≤ pkV f p n := fun g => by
      subst g
      have := hl 0 (by omega)
      simp only [pkV]
      omega
    omega
theorem l_let (hz : 0 ≤ z ∧ z ≤ 160) {σ : ZS} {p : Int} {K : ZS → Int → Int → Option (Int × ZS)} {P : Int → ZS → Prop} (p0 : 0 ≤ p) : ∀ (n N c : Nat) (s : ZS) (x : Int), TPC f z s → Ch nyS σ s → sM s 64 29 = p + (c : Int) → p + (c : Int) + (n : Int) = z → n < N → (∀ y : Nat, y < c → 97 ≤ f (p + (y : Int)) ∧ f (p + (y : Int)) ≤ 122) → (c ≤ 6 → x = pkV f p c) → (∀ (τ : ZS) (m : Nat) (x' : Int), TPC f z τ → Ch nyS σ τ → sM τ 64 29 = p + (m : Int) → p + (m : Int) = runE f 1 n (p + (c : Int)) → (m ≤ 6 → x' = pkV f p m) → Rt (K τ x' (m : Int)) P) → Rt (lX12_letters_4 64 K N s x (c : Int)) P
  | n, 0, c, s, x, _, _, _, _, h1, _, _, _ => by omega
  | 0, N + 1, c, s, x, h, hc, hp, h1, h2, hl, hx, hK => by
    have hF := h.1
    have hp' := hd hp
    have hz' := hd h.2.1
    rw [lX12_letters_4]
    refine rt_gx (x := p + (c : Int)) (by simp (disch := omega) only [true_and, and_true, sM_ne, sM_eq, sM_neR, sM_eqR, sK_upM, sK_upR, sL_upM, sL_upR, sN_upM, sN_upR, sT_upM, sT_upR, sN_upM, Int.reduceAdd, Int.reduceMul, Int.reduceSub, Int.reduceNeg, Int.zero_add, Int.add_zero, hF.c]) (hp' ()) (rt_gx (x := z) (by simp (disch := omega) only [true_and, and_true, sM_ne, sM_eq, sM_neR, sM_eqR, sK_upM, sK_upR, sL_upM, sL_upR, sN_upM, sN_upR, sT_upM, sT_upR, sN_upM, Int.reduceAdd, Int.reduceMul, Int.reduceSub, Int.reduceNeg, Int.zero_add, Int.add_zero, hF.c]) (hz' ()) ?_)
    exact rt_pos (by omega) (hK s c x h hc hp rfl hx)
  | n + 1, N + 1, c, s, x, h, hc, hp, h1, h2, hl, hx, hK => by
    have hF := h.1
    have hp' := hd hp
    have hz' := hd h.2.1
    rw [lX12_letters_4]
    refine rt_gx (x := p + (c : Int)) (by simp (disch := omega) only [true_and, and_true, sM_ne, sM_eq, sM_neR, sM_eqR, sK_upM, sK_upR, sL_upM, sL_upR, sN_upM, sN_upR, sT_upM, sT_upR, sN_upM, Int.reduceAdd, Int.reduceMul, Int.reduceSub, Int.reduceNeg, Int.zero_add, Int.add_zero, hF.c]) (hp' ()) (rt_gx (x := z) (by simp (disch := omega) only [true_and, and_true, sM_ne, sM_eq, sM_neR, sM_eqR, sK_upM, sK_upR, sL_upM, sL_upR, sN_upM, sN_upR, sT_upM, sT_upR, sN_upM, Int.reduceAdd, Int.reduceMul, Int.reduceSub, Int.reduceNeg, Int.zero_add, Int.add_zero, hF.c]) (hz' ()) ?_)
    refine rt_neg (by omega) (rt_tq h hz.2 hp (by omega) (by omega) (rt_b (rt_e (f_in s _ 97 122) ?_)))
    unfold runE at hK
    by_cases e : 97 ≤ f (p + (c : Int)) ∧ f (p + (c : Int)) ≤ 122
    · rw [if_pos e]
      simp only [if_pos (lk_let.mpr e)] at hK
      refine rt_neg (by decide) (rt_jn ?_)
      have hl' : ∀ y : Nat, y < c + 1 → 97 ≤ f (p + (y : Int)) ∧ f (p + (y : Int)) ≤ 122 := fun y hy => by
        by_cases g : y = c
        · rw [g]; exact e
        · exact hl y (by omega)
      have go : ∀ w : Int, (c + 1 ≤ 6 → w = pkV f p (c + 1)) → Rt ((zg s 12 64 29).bind (fun v21 => (zp s 12 64 29 (wrap (v21 + 1))).bind (fun s22 => lX12_letters_4 64 K N s22 w (wrap ((c : Int) + 1))))) P := by
        intro w hw
        refine rt_ad hF hp (by omega) (by omega) ?_
        have c1 : Ch nyS s (upM s 64 29 (p + (c : Int) + 1)) := Ch.rf.up ⟨rfl, by omega⟩
        rw [wr1 c (by omega)]
        refine l_let hz p0 n N (c + 1) _ w (h.nx (c1.mono ny_nx)) (hc.tr c1) (by rw [sM_eq ⟨rfl, rfl⟩]; omega) (by omega) (by omega) hl' hw (fun τ m x' g1 g2 g3 g4 g5 => hK τ m x' g1 g2 g3 (by rw [g4]; congr 1; omega) g5)
      by_cases e8 : 8 ≤ (c : Int)
      · exact rt_pos e8 (go x (fun g => by omega))
      · refine rt_neg e8 (rt_tq h hz.2 hp (by omega) (by omega) (go _ (fun g => ?_)))
        have hb := pk_lo (f := f) (p := p) (n := c) hl (by omega)
        rw [hx (by omega), lpk hb.1 hb.2 (by omega) (by omega)]
        rfl
    · rw [if_neg e]
      simp only [if_neg (fun g => e (lk_let.mp g))] at hK
      exact rt_pos rfl (hK s c x h hc hp rfl hx)
theorem l_dig (hz : 0 ≤ z ∧ z ≤ 160) {σ : ZS} {p : Int} {K : ZS → Int → Option (Int × ZS)} {P : Int → ZS → Prop} (p0 : 0 ≤ p) : ∀ (n N c : Nat) (s : ZS), TPC f z s → Ch nyS σ s → sM s 64 29 = p + (c : Int) → p + (c : Int) + (n : Int) = z → n < N → (c ≤ 4 → sM s 64 32 = nmV f p c) → (∀ (τ : ZS) (m : Nat), TPC f z τ → Ch nyS σ τ → sM τ 64 29 = p + (m : Int) → p + (m : Int) = runE f 2 n (p + (c : Int)) → (m ≤ 4 → sM τ 64 32 = nmV f p m) → Rt (K τ (m : Int)) P) → Rt (lX12_next_214 64 K N s (c : Int)) P
  | n, 0, c, s, _, _, _, _, h1, _, _ => by omega
  | 0, N + 1, c, s, h, hc, hp, h1, h2, hx, hK => by
    have hF := h.1
    have hp' := hd hp
    have hz' := hd h.2.1
    rw [lX12_next_214]
    refine rt_gx (x := p + (c : Int)) (by simp (disch := omega) only [true_and, and_true, sM_ne, sM_eq, sM_neR, sM_eqR, sK_upM, sK_upR, sL_upM, sL_upR, sN_upM, sN_upR, sT_upM, sT_upR, sN_upM, Int.reduceAdd, Int.reduceMul, Int.reduceSub, Int.reduceNeg, Int.zero_add, Int.add_zero, hF.c]) (hp' ()) (rt_gx (x := z) (by simp (disch := omega) only [true_and, and_true, sM_ne, sM_eq, sM_neR, sM_eqR, sK_upM, sK_upR, sL_upM, sL_upR, sN_upM, sN_upR, sT_upM, sT_upR, sN_upM, Int.reduceAdd, Int.reduceMul, Int.reduceSub, Int.reduceNeg, Int.zero_add, Int.add_zero, hF.c]) (hz' ()) ?_)
    exact rt_pos (by omega) (hK s c h hc hp rfl hx)
  | n + 1, N + 1, c, s, h, hc, hp, h1, h2, hx, hK => by
    have hF := h.1
    have hp' := hd hp
    have hz' := hd h.2.1
    rw [lX12_next_214]
    refine rt_gx (x := p + (c : Int)) (by simp (disch := omega) only [true_and, and_true, sM_ne, sM_eq, sM_neR, sM_eqR, sK_upM, sK_upR, sL_upM, sL_upR, sN_upM, sN_upR, sT_upM, sT_upR, sN_upM, Int.reduceAdd, Int.reduceMul, Int.reduceSub, Int.reduceNeg, Int.zero_add, Int.add_zero, hF.c]) (hp' ()) (rt_gx (x := z) (by simp (disch := omega) only [true_and, and_true, sM_ne, sM_eq, sM_neR, sM_eqR, sK_upM, sK_upR, sL_upM, sL_upR, sN_upM, sN_upR, sT_upM, sT_upR, sN_upM, Int.reduceAdd, Int.reduceMul, Int.reduceSub, Int.reduceNeg, Int.zero_add, Int.add_zero, hF.c]) (hz' ()) ?_)
    refine rt_neg (by omega) (rt_tq h hz.2 hp (by omega) (by omega) (rt_b (rt_e (f_in s _ 48 57) ?_)))
    unfold runE at hK
    by_cases e : 48 ≤ f (p + (c : Int)) ∧ f (p + (c : Int)) ≤ 57
    · rw [if_pos e]
      simp only [if_pos (lk_dig.mpr e)] at hK
      refine rt_neg (by decide) (rt_jn ?_)
      have go : ∀ w : Int, (c + 1 ≤ 4 → w = nmV f p (c + 1)) → Rt ((zp s 12 64 32 w).bind (fun s74 => (zg s74 12 64 29).bind (fun v75 => (zp s74 12 64 29 (wrap (v75 + 1))).bind (fun s76 => lX12_next_214 64 K N s76 (wrap ((c : Int) + 1)))))) P := by
        intro w hw
        refine rt_p (by simp (disch := omega) only [true_and, and_true, sM_ne, sM_eq, sM_neR, sM_eqR, sK_upM, sK_upR, sL_upM, sL_upR, sN_upM, sN_upR, sT_upM, sT_upR, sN_upM, Int.reduceAdd, Int.reduceMul, Int.reduceSub, Int.reduceNeg, Int.zero_add, Int.add_zero, hF.c]) (by omega) ?_
        have c0 : Ch nyS s (upM s 64 32 w) := Ch.rf.up ⟨rfl, by omega⟩
        refine rt_ad (h.nx (c0.mono ny_nx)).1 (p := p + (c : Int)) (by rw [sM_ne (by omega)]; exact hp) (by omega) (by omega) ?_
        have c1 : Ch nyS s (upM (upM s 64 32 w) 64 29 (p + (c : Int) + 1)) := c0.up ⟨rfl, by omega⟩
        rw [wr1 c (by omega)]
        refine l_dig hz p0 n N (c + 1) _ (h.nx (c1.mono ny_nx)) (hc.tr c1) (by rw [sM_eq ⟨rfl, rfl⟩]; omega) (by omega) (by omega) (fun g => by rw [sM_ne (by omega), sM_eq ⟨rfl, rfl⟩]; exact hw g) (fun τ m g1 g2 g3 g4 g5 => hK τ m g1 g2 g3 (by rw [g4]; congr 1; omega) g5)
      by_cases e8 : 4 ≤ (c : Int)
      · exact rt_pos e8 (go 0 (fun g => by omega))
      · have hx' := hd (hx (by omega))
        refine rt_neg e8 (rt_gx (x := nmV f p c) (by simp (disch := omega) only [true_and, and_true, sM_ne, sM_eq, sM_neR, sM_eqR, sK_upM, sK_upR, sL_upM, sL_upR, sN_upM, sN_upR, sT_upM, sT_upR, sN_upM, Int.reduceAdd, Int.reduceMul, Int.reduceSub, Int.reduceNeg, Int.zero_add, Int.add_zero, hF.c]) (hx' ()) (rt_tq h hz.2 hp (by omega) (by omega) (go _ (fun _ => rfl))))
    · rw [if_neg e]
      simp only [if_neg (fun g => e (lk_dig.mp g))] at hK
      exact rt_pos rfl (hK s c h hc hp rfl hx)
def MW : List Int := [1668248436, 1819243380, 2002872692, 435426585721, 1818326117, 120299592184933, 1936683636, 1953459308, 28530, 6385252, 7237492]
theorem mw_row {s : ZS} (hF : FxD s) {j : Nat} (h : j < 11) : sM s 84 (j : Int) = MW.getD j 0 := by
  rcases (by omega : j = 0 ∨ j = 1 ∨ j = 2 ∨ j = 3 ∨ j = 4 ∨ j = 5 ∨ j = 6 ∨ j = 7 ∨ j = 8 ∨ j = 9 ∨ j = 10) with rfl | rfl | rfl | rfl | rfl | rfl | rfl | rfl | rfl | rfl | rfl
  · exact hF.2.2.1 (84, 0, 1668248436) (by decide)
  · exact hF.2.2.1 (84, 1, 1819243380) (by decide)
  · exact hF.2.2.1 (84, 2, 2002872692) (by decide)
  · exact hF.2.2.1 (84, 3, 435426585721) (by decide)
  · exact hF.2.2.1 (84, 4, 1818326117) (by decide)
  · exact hF.2.2.1 (84, 5, 120299592184933) (by decide)
  · exact hF.2.2.1 (84, 6, 1936683636) (by decide)
  · exact hF.2.2.1 (84, 7, 1953459308) (by decide)
  · exact hF.2.2.1 (84, 8, 28530) (by decide)
  · exact hF.2.2.1 (84, 9, 6385252) (by decide)
  · exact hF.2.2.1 (84, 10, 7237492) (by decide)
theorem l_wrd {v : Int} {s : ZS} (hF : FxD s) {K : ZS → Int → Option (Int × ZS)} {P : Int → ZS → Prop} (hK : ∀ j : Nat, (j < 11 ∧ v = MW.getD j 0) ∨ (j = 11 ∧ ∀ y : Nat, y < 11 → v ≠ MW.getD y 0) → Rt (K s (j : Int)) P) : ∀ (N x : Nat), x ≤ 11 → 11 - x < N → (∀ y : Nat, y < x → v ≠ MW.getD y 0) → Rt (lX12_next_111 64 v K N s (x : Int)) P
  | 0, x, h1, h2, _ => by omega
  | N + 1, x, h1, h2, hn => by
    rw [lX12_next_111]
    by_cases e : 11 ≤ (x : Int)
    · have : x = 11 := by omega
      subst this
      exact rt_pos e (hK 11 (Or.inr ⟨rfl, hn⟩))
    · have e' := hd (mw_row hF (j := x) (by omega))
      refine rt_neg e (rt_gx (x := 84) (by simp (disch := omega) only [true_and, and_true, sM_ne, sM_eq, sM_neR, sM_eqR, sK_upM, sK_upR, sL_upM, sL_upR, sN_upM, sN_upR, sT_upM, sT_upR, sN_upM, Int.reduceAdd, Int.reduceMul, Int.reduceSub, Int.reduceNeg, Int.zero_add, Int.add_zero, hF.c]) (by simp (disch := omega) only [true_and, and_true, sM_ne, sM_eq, sM_neR, sM_eqR, sK_upM, sK_upR, sL_upM, sL_upR, sN_upM, sN_upR, sT_upM, sT_upR, sN_upM, Int.reduceAdd, Int.reduceMul, Int.reduceSub, Int.reduceNeg, Int.zero_add, Int.add_zero, hF.c]) (rt_alx (x := MW.getD x 0) (by simp (disch := omega) only [true_and, and_true, sM_ne, sM_eq, sM_neR, sM_eqR, sK_upM, sK_upR, sL_upM, sL_upR, sN_upM, sN_upR, sT_upM, sT_upR, sN_upM, Int.reduceAdd, Int.reduceMul, Int.reduceSub, Int.reduceNeg, Int.zero_add, Int.add_zero, hF.c]) (by simp (disch := omega) only [true_and, and_true, sM_ne, sM_eq, sM_neR, sM_eqR, sK_upM, sK_upR, sL_upM, sL_upR, sN_upM, sN_upR, sT_upM, sT_upR, sN_upM, Int.reduceAdd, Int.reduceMul, Int.reduceSub, Int.reduceNeg, Int.zero_add, Int.add_zero, hF.c]; omega) (e' ()) ?_))
      by_cases g : MW.getD x 0 = v
      · exact rt_pos (lc0.mpr g) (hK x (Or.inl ⟨by omega, g.symm⟩))
      · refine rt_neg (fun q => g (lc0.mp q)) ?_
        rw [wr1 x (by omega)]
        refine l_wrd hF hK N (x + 1) (by omega) (by omega) (fun y hy => ?_)
        by_cases c : y = x
        · rw [c]; exact fun q => g q.symm
        · exact hn y (by omega)
theorem nm_in {p : Int} : ∀ n : Nat, (∀ y : Nat, y < n → 48 ≤ f (p + (y : Int)) ∧ f (p + (y : Int)) ≤ 57) → n ≤ 4 → 0 ≤ nmV f p n ∧ nmV f p n < 10 ^ n
  | 0, _, _ => ⟨Int.le_refl 0, (by decide : (0 : Int) < 10 ^ 0)⟩
  | n + 1, hl, h4 => by
    have ih := nm_in n (fun y hy => hl y (by omega)) (by omega)
    have hc := hl n (by omega)
    have h10 : (10 : Int) ^ n ≤ 1000 := by
      rcases (by omega : n = 0 ∨ n = 1 ∨ n = 2 ∨ n = 3) with rfl | rfl | rfl | rfl <;> decide
    have hp : (10 : Int) ^ (n + 1) = 10 * 10 ^ n := by rw [Int.pow_succ]; omega
    rw [hp]
    unfold nmV
    rw [wr (x := 10 * nmV f p n) (by omega) (by omega), wr (x := 10 * nmV f p n + f (p + (n : Int))) (by omega) (by omega), wr (by omega) (by omega)]
    omega
theorem f_next {T S : Nat → Int} {k : Nat} (hz : 0 ≤ z ∧ z ≤ 160) (hk : TOKS f z T S k) : NXT f z T S (psF f z S) k := by
  intro s i hi h hp
  obtain ⟨t1, t2, t3, t4, t5⟩ := hk
  have hF := h.1
  have h9 := hF.2.2.2
  have hps := psF_in (f := f) (z := z) (T := T) (S := S) (c := i) hz.1 (fun j hj => t1 j (by omega))
  -- where the next token begins
  have hq : psF f z S i ≤ S i ∧ S i ≤ z ∧ (S i = z ∨ lkF (f (S i)) ≠ 0) ∧ (∀ y : Int, psF f z S i ≤ y → y < S i → lkF (f y) = 0) ∧ (i < k ↔ S i < z) := by
    by_cases e : i = k
    · subst e
      rw [t4]
      exact ⟨hps.2, Int.le_refl _, Or.inl rfl, t2, by omega⟩
    · obtain ⟨⟨a, b⟩, a2, a3, a4, a5⟩ := t1 i (by omega)
      exact ⟨a4, by omega, Or.inr a2, a5, by omega⟩
  obtain ⟨q1, q2, q3, q4, q5⟩ := hq
  unfold fX12_next
  refine l_nx0 hz (σ := s) (q := S i) q2 q3 (fun τ hτ cτ pτ => ?_) 1000 (psF f z S i) s h Ch.rf hp hps.1 q1 (by omega) q4
  have hFτ := hτ.1
  have pτ' := hd pτ
  refine rt_gx (x := S i) (by simp (disch := omega) only [true_and, and_true, sM_ne, sM_eq, sM_neR, sM_eqR, sK_upM, sK_upR, sL_upM, sL_upR, sN_upM, sN_upR, sT_upM, sT_upR, sN_upM, Int.reduceAdd, Int.reduceMul, Int.reduceSub, Int.reduceNeg, Int.zero_add, Int.add_zero, hFτ.c]) (pτ' ()) (rt_p (by simp (disch := omega) only [true_and, and_true, sM_ne, sM_eq, sM_neR, sM_eqR, sK_upM, sK_upR, sL_upM, sL_upR, sN_upM, sN_upR, sT_upM, sT_upR, sN_upM, Int.reduceAdd, Int.reduceMul, Int.reduceSub, Int.reduceNeg, Int.zero_add, Int.add_zero, hFτ.c]) (by omega) (rt_p (by simp (disch := omega) only [true_and, and_true, sM_ne, sM_eq, sM_neR, sM_eqR, sK_upM, sK_upR, sL_upM, sL_upR, sN_upM, sN_upR, sT_upM, sT_upR, sN_upM, Int.reduceAdd, Int.reduceMul, Int.reduceSub, Int.reduceNeg, Int.zero_add, Int.add_zero, hFτ.c]) (by omega) (rt_p (by simp (disch := omega) only [true_and, and_true, sM_ne, sM_eq, sM_neR, sM_eqR, sK_upM, sK_upR, sL_upM, sL_upR, sN_upM, sN_upR, sT_upM, sT_upR, sN_upM, Int.reduceAdd, Int.reduceMul, Int.reduceSub, Int.reduceNeg, Int.zero_add, Int.add_zero, hFτ.c]) (by omega) ?_)))
  have c3 : Ch nxS τ (upM (upM (upM τ 64 30 (S i)) 64 31 0) 64 32 0) := ((Ch.rf.up ⟨rfl, by omega, by omega⟩).up ⟨rfl, by omega, by omega⟩).up ⟨rfl, by omega, by omega⟩
  have p3 : sM (upM (upM (upM τ 64 30 (S i)) 64 31 0) 64 32 0) 64 29 = S i := by rw [sM_ne (by omega), sM_ne (by omega), sM_ne (by omega)]; exact pτ
  have b3 : sM (upM (upM (upM τ 64 30 (S i)) 64 31 0) 64 32 0) 64 30 = S i := by rw [sM_ne (by omega), sM_ne (by omega), sM_eq ⟨rfl, rfl⟩]
  have k3 : sM (upM (upM (upM τ 64 30 (S i)) 64 31 0) 64 32 0) 64 31 = 0 := by rw [sM_ne (by omega), sM_eq ⟨rfl, rfl⟩]
  have v3 : sM (upM (upM (upM τ 64 30 (S i)) 64 31 0) 64 32 0) 64 32 = 0 := sM_eq ⟨rfl, rfl⟩
  have h3 := hτ.nx c3
  have cc3 := cτ.tr c3
  generalize upM (upM (upM τ 64 30 (S i)) 64 31 0) 64 32 0 = s3 at c3 p3 b3 k3 v3 h3 cc3 ⊢
  have hF3 := h3.1
  have p3' := hd p3
  have z3' := hd h3.2.1
  refine rt_gx (x := S i) (by simp (disch := omega) only [true_and, and_true, sM_ne, sM_eq, sM_neR, sM_eqR, sK_upM, sK_upR, sL_upM, sL_upR, sN_upM, sN_upR, sT_upM, sT_upR, sN_upM, Int.reduceAdd, Int.reduceMul, Int.reduceSub, Int.reduceNeg, Int.zero_add, Int.add_zero, hF3.c]) (p3' ()) (rt_gx (x := z) (by simp (disch := omega) only [true_and, and_true, sM_ne, sM_eq, sM_neR, sM_eqR, sK_upM, sK_upR, sL_upM, sL_upR, sN_upM, sN_upR, sT_upM, sT_upR, sN_upM, Int.reduceAdd, Int.reduceMul, Int.reduceSub, Int.reduceNeg, Int.zero_add, Int.add_zero, hF3.c]) (z3' ()) ?_)
  by_cases e : S i = z
  · have hik : ¬ i < k := fun g => by have := q5.mp g; omega
    have hT : T i = 30000 := t3 i (by omega)
    rw [hT]
    exact rt_pos e (rt_ret ⟨cc3, fun g => absurd g hik, b3, k3, fun g => by omega⟩)
  have hik : i < k := q5.mpr (by omega)
  obtain ⟨⟨a, b⟩, a2, a3, a4, a5⟩ := t1 i hik
  obtain ⟨u1, u2, u3, u4⟩ := eT_spec (f := f) b
  have hpos : psF f z S (i + 1) = eT f z (S i) := rfl
  rw [hpos, a3]
  generalize S i = p at *
  refine rt_neg e (rt_tq h3 hz.2 p3 a b ?_)
  have hT3 := h3.2.2
  refine rt_b (rt_e (f_in s3 (f p) 97 122) ?_)
  have h93 := hF3.2.2.2
  by_cases e1 : 97 ≤ f p ∧ f p ≤ 122
  · rw [if_pos e1]
    have hk1 := lk_let.mpr e1
    have he : eT f z p = runE f 1 (z - p).toNat p := by unfold eT; rw [if_neg (by omega), hk1]
    have hTT : tkF f z p = wdL WL (wv f z p) := by unfold tkF; rw [if_pos hk1]
    refine rt_neg (by decide) (rt_b (rt_v (by simp (disch := omega) only [true_and, and_true, sM_ne, sM_eq, sM_neR, sM_eqR, sK_upM, sK_upR, sL_upM, sL_upR, sN_upM, sN_upR, sT_upM, sT_upR, sN_upM, Int.reduceAdd, Int.reduceMul, Int.reduceSub, Int.reduceNeg, Int.zero_add, Int.add_zero, hF3.c]) ?_))
    unfold fX12_letters
    refine Rt.mono (l_let hz (σ := s3) (p := p) a (K := fun (s26 : ZS) (x27 x28 : Int) => if x28 ≤ 6 then (some (x27, s26)) else (some (0, s26))) (P := fun v4 τ => Ch nyS s3 τ ∧ TPC f z τ ∧ sM τ 64 29 = eT f z p ∧ v4 = wv f z p) (z - p).toNat 1000 0 s3 0 h3 Ch.rf (by rw [p3]; omega) (by omega) (by omega) (fun y hy => by omega) (fun _ => rfl) (fun τ m x' g1 g2 g3 g4 g5 => ?_)) ?_
    · rw [show p + ((0 : Nat) : Int) = p by omega, ← he] at g4
      have hm : (eT f z p - p).toNat = m := by omega
      by_cases g6 : (m : Int) ≤ 6
      · refine rt_pos g6 (rt_ret ⟨g2, g1, by rw [g3]; exact g4, ?_⟩)
        unfold wv
        rw [if_pos (by omega), hm]
        exact g5 (by omega)
      · refine rt_neg g6 (rt_ret ⟨g2, g1, by rw [g3]; exact g4, ?_⟩)
        unfold wv
        rw [if_neg (by omega)]
    · rintro v4 s4 ⟨c4, h4, p4, rfl⟩
      have hF4 := h4.1
      refine l_wrd hF4 (fun j hj => ?_) 1000 0 (by omega) (by omega) (fun y hy => by omega)
      have b4 : sM s4 64 30 = p := by rw [c4.M (by omega) (by unfold nyS; omega)]; exact b3
      have hkd : tkA (tkF f z p) = (if 2 ≤ (j : Int) then (if 8 ≤ (j : Int) then (if (j : Int) = 11 then -1 else 4 + (j : Int) - 8) else 2) else 3) ∧ (tkF f z p < 10008 → tkB (tkF f z p) = if 2 ≤ (j : Int) then (j : Int) - 2 else (j : Int)) := by
        rw [hTT]
        rcases hj with ⟨j1, j2⟩ | ⟨j1, j2⟩
        · rw [j2]
          have all : ∀ j : Nat, j < 11 → tkA (wdL WL (MW.getD j 0)) = (if 2 ≤ (j : Int) then (if 8 ≤ (j : Int) then (if (j : Int) = 11 then -1 else 4 + (j : Int) - 8) else 2) else 3) ∧ (wdL WL (MW.getD j 0) < 10008 → tkB (wdL WL (MW.getD j 0)) = if 2 ≤ (j : Int) then (j : Int) - 2 else (j : Int)) := by decide +kernel
          exact all j j1
        · have n0 : ¬ wv f z p = 1668248436 := j2 0 (by omega)
          have n1 : ¬ wv f z p = 1819243380 := j2 1 (by omega)
          have n2 : ¬ wv f z p = 2002872692 := j2 2 (by omega)
          have n3 : ¬ wv f z p = 435426585721 := j2 3 (by omega)
          have n4 : ¬ wv f z p = 1818326117 := j2 4 (by omega)
          have n5 : ¬ wv f z p = 120299592184933 := j2 5 (by omega)
          have n6 : ¬ wv f z p = 1936683636 := j2 6 (by omega)
          have n7 : ¬ wv f z p = 1953459308 := j2 7 (by omega)
          have n8 : ¬ wv f z p = 28530 := j2 8 (by omega)
          have n9 : ¬ wv f z p = 6385252 := j2 9 (by omega)
          have n10 : ¬ wv f z p = 7237492 := j2 10 (by omega)
          have : wdL WL (wv f z p) = 30001 := by
            unfold WL
            simp only [wdL]
            rw [if_neg n2, if_neg n3, if_neg n4, if_neg n5, if_neg n6, if_neg n7, if_neg n0, if_neg n1, if_neg n9, if_neg n8, if_neg n10]
          rw [this, j1]
          decide
      have hj11 : j ≤ 11 := by omega
      obtain ⟨d1, d2⟩ := hkd
      have fin : ∀ w : Int, w = tkA (tkF f z p) → Rt ((zp s4 12 64 31 w).bind (fun s105 => zjn (fun (K195 : ZS → Int → Option (Int × ZS)) => if 2 ≤ (j : Int) then (K195 s105 (wrap ((j : Int) - 2))) else (K195 s105 (j : Int))) (fun (s107 : ZS) (w108 : Int) => (zp s107 12 64 32 w108).bind (fun s109 => some (0, s109))))) (fun _ τ => Ch nxS s τ ∧ (i < k → sM τ 64 29 = eT f z p) ∧ sM τ 64 30 = p ∧ sM τ 64 31 = tkA (tkF f z p) ∧ (tkF f z p < 10008 → sM τ 64 32 = tkB (tkF f z p))) := by
        intro w hw
        refine rt_p (by simp (disch := omega) only [true_and, and_true, sM_ne, sM_eq, sM_neR, sM_eqR, sK_upM, sK_upR, sL_upM, sL_upR, sN_upM, sN_upR, sT_upM, sT_upR, sN_upM, Int.reduceAdd, Int.reduceMul, Int.reduceSub, Int.reduceNeg, Int.zero_add, Int.add_zero, hF4.c]) (by omega) (rt_jn ?_)
        have last : ∀ u : Int, u = (if 2 ≤ (j : Int) then (j : Int) - 2 else (j : Int)) → Rt ((zp (upM s4 64 31 w) 12 64 32 u).bind (fun s109 => some (0, s109))) (fun _ τ => Ch nxS s τ ∧ (i < k → sM τ 64 29 = eT f z p) ∧ sM τ 64 30 = p ∧ sM τ 64 31 = tkA (tkF f z p) ∧ (tkF f z p < 10008 → sM τ 64 32 = tkB (tkF f z p))) := by
          intro u hu
          refine rt_p (by simp (disch := omega) only [true_and, and_true, sM_ne, sM_eq, sM_neR, sM_eqR, sK_upM, sK_upR, sL_upM, sL_upR, sN_upM, sN_upR, sT_upM, sT_upR, sN_upM, Int.reduceAdd, Int.reduceMul, Int.reduceSub, Int.reduceNeg, Int.zero_add, Int.add_zero, hF4.c]) (by omega) (rt_ret ⟨?_, fun _ => ?_, ?_, ?_, fun g => ?_⟩)
          · exact ((cc3.tr (c4.mono ny_nx)).up ⟨rfl, by omega, by omega⟩).up ⟨rfl, by omega, by omega⟩
          · rw [sM_ne (by omega), sM_ne (by omega)]; exact p4
          · rw [sM_ne (by omega), sM_ne (by omega)]; exact b4
          · rw [sM_ne (by omega), sM_eq ⟨rfl, rfl⟩]; exact hw
          · rw [sM_eq ⟨rfl, rfl⟩, hu, d2 g]
        by_cases g2 : 2 ≤ (j : Int)
        · exact rt_pos g2 (last _ (by rw [if_pos g2, wr (by omega) (by omega)]))
        · exact rt_neg g2 (last _ (by rw [if_neg g2]))
      refine rt_jn ?_
      by_cases g2 : 2 ≤ (j : Int)
      · rw [if_pos g2] at d1
        refine rt_pos g2 ?_
        by_cases g8 : 8 ≤ (j : Int)
        · rw [if_pos g8] at d1
          refine rt_pos g8 ?_
          by_cases g11 : (j : Int) = 11
          · rw [if_pos g11] at d1
            exact rt_pos g11 (fin _ d1.symm)
          · rw [if_neg g11] at d1
            exact rt_neg g11 (fin _ (by rw [d1, wr (x := 4 + (j : Int)) (by omega) (by omega), wr (by omega) (by omega)]))
        · rw [if_neg g8] at d1
          exact rt_neg g8 (fin _ d1.symm)
      · rw [if_neg g2] at d1
        exact rt_neg g2 (fin _ d1.symm)
  rw [if_neg e1]
  refine rt_pos rfl (rt_b (rt_e (f_in s3 (f p) 48 57) ?_))
  have hk1 : ¬ lkF (f p) = 1 := fun g => e1 (lk_let.mp g)
  by_cases e2 : 48 ≤ f p ∧ f p ≤ 57
  · rw [if_pos e2]
    have hk2 := lk_dig.mpr e2
    have he : eT f z p = runE f 2 (z - p).toNat p := by unfold eT; rw [if_neg (by omega), hk2]
    have hTT : tkF f z p = nmT f z p := by unfold tkF; rw [if_neg hk1, if_pos hk2]
    refine rt_neg (by decide) ?_
    refine l_dig hz (σ := s3) (p := p) a (z - p).toNat 1000 0 s3 h3 Ch.rf (by rw [p3]; omega) (by omega) (by omega) (fun _ => v3) (fun τ m g1 g2 g3 g4 g5 => ?_)
    rw [show p + ((0 : Nat) : Int) = p by omega, ← he] at g4
    have hm : (eT f z p - p).toNat = m := by omega
    have hF4 := g1.1
    have b4 : sM τ 64 30 = p := by rw [g2.M (by omega) (by unfold nyS; omega)]; exact b3
    have hd1 : (m ≤ 4 → tkA (tkF f z p) = 1 ∧ tkB (tkF f z p) = nmV f p m) ∧ (¬ m ≤ 4 → tkA (tkF f z p) = -1 ∧ ¬ tkF f z p < 10008) := by
      rw [hTT]
      unfold nmT
      refine ⟨fun g => ?_, fun g => ?_⟩
      · rw [if_neg (by omega), hm]
        have hb := nm_in (f := f) (p := p) m (fun y hy => lk_dig.mp (by rw [u3 (p + (y : Int)) (by omega) (by omega)]; exact hk2)) g
        have h10 : (10 : Int) ^ m ≤ 10000 := by
          rcases (by omega : m = 0 ∨ m = 1 ∨ m = 2 ∨ m = 3 ∨ m = 4) with rfl | rfl | rfl | rfl | rfl <;> decide
        unfold tkA tkB
        rw [if_pos (by omega), if_pos (by omega)]
        exact ⟨rfl, rfl⟩
      · rw [if_pos (by omega)]
        decide
    have fin : ∀ w : Int, w = tkA (tkF f z p) → Rt ((zp τ 12 64 31 w).bind (fun s84 => some (0, s84))) (fun _ τ => Ch nxS s τ ∧ (i < k → sM τ 64 29 = eT f z p) ∧ sM τ 64 30 = p ∧ sM τ 64 31 = tkA (tkF f z p) ∧ (tkF f z p < 10008 → sM τ 64 32 = tkB (tkF f z p))) := by
      intro w hw
      refine rt_p (by simp (disch := omega) only [true_and, and_true, sM_ne, sM_eq, sM_neR, sM_eqR, sK_upM, sK_upR, sL_upM, sL_upR, sN_upM, sN_upR, sT_upM, sT_upR, sN_upM, Int.reduceAdd, Int.reduceMul, Int.reduceSub, Int.reduceNeg, Int.zero_add, Int.add_zero, hF4.c]) (by omega) (rt_ret ⟨?_, fun _ => ?_, ?_, ?_, fun g => ?_⟩)
      · exact (cc3.tr (g2.mono ny_nx)).up ⟨rfl, by omega, by omega⟩
      · rw [sM_ne (by omega), g3]; exact g4
      · rw [sM_ne (by omega)]; exact b4
      · rw [sM_eq ⟨rfl, rfl⟩]; exact hw
      · rw [sM_ne (by omega)]
        by_cases g6 : m ≤ 4
        · rw [g5 g6, (hd1.1 g6).2]
        · exact absurd g (hd1.2 g6).2
    refine rt_jn ?_
    by_cases g6 : (m : Int) ≤ 4
    · exact rt_pos g6 (fin _ (hd1.1 (by omega)).1.symm)
    · exact rt_neg g6 (fin _ (hd1.2 (by omega)).1.symm)
  rw [if_neg e2]
  have hk2 : ¬ lkF (f p) = 2 := fun g => e2 (lk_dig.mp g)
  have hk3 : lkF (f p) = 3 := by
    have : lkF (f p) = 0 ∨ lkF (f p) = 1 ∨ lkF (f p) = 2 ∨ lkF (f p) = 3 := by
      unfold lkF
      (repeat' split) <;> omega
    omega
  have he : eT f z p = p + 1 := by unfold eT; rw [if_pos hk3]
  have hTT : tkF f z p = sgT (f p) := by unfold tkF; rw [if_neg hk1, if_neg hk2]
  have fin : ∀ w : Int, w = tkA (tkF f z p) → Rt ((zp s3 12 64 31 w).bind (fun s51 => (zg s51 12 64 29).bind (fun v52 => (zp s51 12 64 29 (wrap (v52 + 1))).bind (fun s53 => some (0, s53))))) (fun _ τ => Ch nxS s τ ∧ (i < k → sM τ 64 29 = eT f z p) ∧ sM τ 64 30 = p ∧ sM τ 64 31 = tkA (tkF f z p) ∧ (tkF f z p < 10008 → sM τ 64 32 = tkB (tkF f z p))) := by
    intro w hw
    refine rt_p (by simp (disch := omega) only [true_and, and_true, sM_ne, sM_eq, sM_neR, sM_eqR, sK_upM, sK_upR, sL_upM, sL_upR, sN_upM, sN_upR, sT_upM, sT_upR, sN_upM, Int.reduceAdd, Int.reduceMul, Int.reduceSub, Int.reduceNeg, Int.zero_add, Int.add_zero, hF3.c]) (by omega) ?_
    have c4 : Ch nxS s3 (upM s3 64 31 w) := Ch.rf.up ⟨rfl, by omega, by omega⟩
    refine rt_ad (h3.nx c4).1 (p := p) (by rw [sM_ne (by omega)]; exact p3) a (by omega) (rt_ret ⟨?_, fun _ => ?_, ?_, ?_, fun g => ?_⟩)
    · exact ((cc3.tr c4).up ⟨rfl, by omega, by omega⟩)
    · rw [sM_eq ⟨rfl, rfl⟩, he]
    · rw [sM_ne (by omega), sM_ne (by omega)]; exact b3
    · rw [sM_ne (by omega), sM_eq ⟨rfl, rfl⟩]; exact hw
    · exfalso
      rw [hTT] at g
      unfold sgT at g
      split at g <;> omega
  have yes : (f p = 40 ∨ f p = 41 ∨ f p = 59 ∨ f p = 43 ∨ f p = 45 ∨ f p = 42 ∨ f p = 60 ∨ f p = 61) → f p = tkA (tkF f z p) := by
    intro g
    rw [hTT]
    unfold sgT
    rw [if_pos g]
    unfold tkA
    (repeat' split) <;> omega
  have no : ¬ (f p = 40 ∨ f p = 41 ∨ f p = 59 ∨ f p = 43 ∨ f p = 45 ∨ f p = 42 ∨ f p = 60 ∨ f p = 61) → -1 = tkA (tkF f z p) := by
    intro g
    rw [hTT]
    unfold sgT
    rw [if_neg g]
    decide
  refine rt_pos rfl (rt_jn (rt_jn ?_))
  by_cases g0 : f p = 40
  · exact rt_pos g0 (rt_jn (rt_neg (by decide) (fin _ (yes (by omega)))))
  refine rt_neg g0 ?_
  by_cases g1 : f p = 41
  · exact rt_pos g1 (rt_jn (rt_neg (by decide) (fin _ (yes (by omega)))))
  refine rt_neg g1 ?_
  by_cases g2 : f p = 59
  · exact rt_pos g2 (rt_jn (rt_neg (by decide) (fin _ (yes (by omega)))))
  refine rt_neg g2 ?_
  by_cases g3 : f p = 43
  · exact rt_pos g3 (rt_jn (rt_neg (by decide) (fin _ (yes (by omega)))))
  refine rt_neg g3 ?_
  by_cases g4 : f p = 45
  · exact rt_pos g4 (rt_jn (rt_neg (by decide) (fin _ (yes (by omega)))))
  refine rt_neg g4 ?_
  by_cases g5 : f p = 42
  · exact rt_pos g5 (rt_jn (rt_neg (by decide) (fin _ (yes (by omega)))))
  refine rt_neg g5 ?_
  by_cases g6 : f p = 60
  · exact rt_pos g6 (rt_jn (rt_neg (by decide) (fin _ (yes (by omega)))))
  refine rt_neg g6 ?_
  by_cases g7 : f p = 61
  · exact rt_pos g7 (rt_jn (rt_neg (by decide) (fin _ (yes (by omega)))))
  · exact rt_neg g7 (rt_jn (rt_pos rfl (fin _ (no (by omega)))))
end NX
