/-! tokens: as functions of the tape -/
def lkF (c : Int) : Int := if c = 32 ∨ c = 10 then 0 else if 97 ≤ c ∧ c ≤ 122 then 1 else if 48 ≤ c ∧ c ≤ 57 then 2 else 3
theorem f_lookOf (s : ZS) (c : Int) : fX4_lookOf s c = some (lkF c, s) := by
  refine rt_is ?_
  unfold fX4_lookOf lkF
  have tail : ¬ (c = 32 ∨ c = 10) → ¬ (97 ≤ c ∧ c ≤ 122) → Rt (if c < 48 then (some ((3 : Int), s)) else (if 57 < c then (some (3, s)) else (some (2, s)))) (fun v τ => v = (if c = 32 ∨ c = 10 then 0 else if 97 ≤ c ∧ c ≤ 122 then 1 else if 48 ≤ c ∧ c ≤ 57 then 2 else 3) ∧ τ = s) := by
    intro h1 h2
    rw [if_neg h1, if_neg h2]
    by_cases h3 : c < 48
    · exact rt_pos h3 (rt_ret ⟨by rw [if_neg (by omega)], rfl⟩)
    · refine rt_neg h3 ?_
      by_cases h4 : 57 < c
      · exact rt_pos h4 (rt_ret ⟨by rw [if_neg (by omega)], rfl⟩)
      · exact rt_neg h4 (rt_ret ⟨by rw [if_pos (by omega)], rfl⟩)
  by_cases h32 : c = 32
  · exact rt_pos h32 (rt_ret ⟨by rw [if_pos (Or.inl h32)], rfl⟩)
  refine rt_neg h32 ?_
  by_cases h10 : c = 10
  · exact rt_pos h10 (rt_ret ⟨by rw [if_pos (Or.inr h10)], rfl⟩)
  refine rt_neg h10 (rt_jn ?_)
  by_cases h97 : c < 97
  · exact rt_pos h97 (tail (by omega) (by omega))
  refine rt_neg h97 ?_
  by_cases h122 : 122 < c
  · exact rt_pos h122 (tail (by omega) (by omega))
  · exact rt_neg h122 (rt_ret ⟨by rw [if_neg (by omega), if_pos (by omega)], rfl⟩)
def runE (f : Int → Int) (L : Int) : Nat → Int → Int
  | 0, p => p
  | n + 1, p => if lkF (f p) = L then runE f L n (p + 1) else p
theorem runE_spec {f : Int → Int} {L : Int} : ∀ (n : Nat) (p : Int), p ≤ runE f L n p ∧ runE f L n p ≤ p + (n : Int) ∧ (∀ y : Int, p ≤ y → y < runE f L n p → lkF (f y) = L) ∧ (runE f L n p < p + (n : Int) → lkF (f (runE f L n p)) ≠ L)
  | 0, p => ⟨Int.le_refl _, by show p ≤ p + ((0 : Nat) : Int); omega, fun y y0 y1 => by change y < p at y1; omega, fun h => by change p < p + ((0 : Nat) : Int) at h; omega⟩
  | n + 1, p => by
    unfold runE
    by_cases q : lkF (f p) = L
    · rw [if_pos q]
      obtain ⟨a, b, c, d⟩ := runE_spec (f := f) (L := L) n (p + 1)
      refine ⟨by omega, by omega, fun y y0 y1 => ?_, fun h => d (by omega)⟩
      by_cases e : y = p
      · rw [e]; exact q
      · exact c y (by omega) y1
    · rw [if_neg q]
      exact ⟨Int.le_refl _, by omega, fun y y0 y1 => by omega, fun _ => q⟩
def eT (f : Int → Int) (z p : Int) : Int := if lkF (f p) = 3 then p + 1 else runE f (lkF (f p)) (z - p).toNat p
theorem eT_spec {f : Int → Int} {z p : Int} (h : p < z) : p < eT f z p ∧ eT f z p ≤ z ∧ (∀ y : Int, p ≤ y → y < eT f z p → lkF (f y) = lkF (f p)) ∧ (lkF (f p) ≠ 3 → eT f z p < z → lkF (f (eT f z p)) ≠ lkF (f p)) := by
  unfold eT
  by_cases q : lkF (f p) = 3
  · rw [if_pos q]
    exact ⟨by omega, by omega, fun y y0 y1 => by rw [show y = p by omega], fun g => absurd q g⟩
  · rw [if_neg q]
    obtain ⟨n, hn⟩ : ∃ n : Nat, (z - p).toNat = n + 1 := ⟨(z - p).toNat - 1, by omega⟩
    obtain ⟨a, b, c, d⟩ := runE_spec (f := f) (L := lkF (f p)) (z - p).toNat p
    refine ⟨?_, by omega, c, fun _ g => d (by omega)⟩
    rw [hn]
    unfold runE
    rw [if_pos rfl]
    have := (runE_spec (f := f) (L := lkF (f p)) n (p + 1)).1
    omega
def pkV (f : Int → Int) (p : Int) : Nat → Int
  | 0 => 0
  | n + 1 => 256 * pkV f p n + f (p + (n : Int))
def nmV (f : Int → Int) (p : Int) : Nat → Int
  | 0 => 0
  | n + 1 => wrap (wrap (wrap (10 * nmV f p n) + f (p + (n : Int))) - 48)
def wv (f : Int → Int) (z p : Int) : Int := if eT f z p - p ≤ 6 then pkV f p (eT f z p - p).toNat else 0
def wdL : List (Int × Int) → Int → Int
  | [], _ => 30001
  | (w, c) :: l, v => if v = w then c else wdL l v
def WL : List (Int × Int) := [(2002872692, 10000), (435426585721, 10001), (1818326117, 10002), (120299592184933, 10003), (1936683636, 10004), (1953459308, 10005), (1668248436, 10006), (1819243380, 10007), (6385252, 10008), (28530, 10009), (7237492, 10010)]
def nmT (f : Int → Int) (z p : Int) : Int := if 4 < eT f z p - p then 30001 else nmV f p (eT f z p - p).toNat
def sgT (c : Int) : Int := if c = 40 ∨ c = 41 ∨ c = 59 ∨ c = 43 ∨ c = 45 ∨ c = 42 ∨ c = 60 ∨ c = 61 then 20000 + c else 30001
def tkF (f : Int → Int) (z p : Int) : Int := if lkF (f p) = 1 then wdL WL (wv f z p) else if lkF (f p) = 2 then nmT f z p else sgT (f p)
/-! the class's -/
def TPX (f : Int → Int) (z : Int) (s : ZS) : Prop := FxD s ∧ sM s 34 1 = z ∧ (0 ≤ z ∧ z ≤ 160) ∧ (∀ j : Int, 0 ≤ j → j < z → sM s 35 j = f j ∧ 0 ≤ f j ∧ f j ≤ 255)
/-- the tape looked at -/
theorem rt_tp {f : Int → Int} {z x : Int} {s : ZS} {F : Int → Option (Int × ZS)} {P : Int → ZS → Prop} (h : TPX f z s) (x0 : 0 ≤ x) (x1 : x < z) (q : Rt (F (f x)) P) : Rt ((zg s 4 34 0).bind (fun v7 => (zal s 100 v7 x).bind F)) P := by
  obtain ⟨hF, h1, h2, h3⟩ := h
  have e := hd (h3 x x0 x1).1
  exact rt_gx (x := 35) (by simp (disch := omega) only [true_and, and_true, sM_ne, sM_eq, sM_neR, sM_eqR, sK_upM, sK_upR, sL_upM, sL_upR, sN_upM, sN_upR, sT_upM, sT_upR, sN_upM, Int.reduceAdd, Int.reduceMul, Int.reduceSub, Int.reduceNeg, Int.zero_add, Int.add_zero, hF.c]) (by simp (disch := omega) only [true_and, and_true, sM_ne, sM_eq, sM_neR, sM_eqR, sK_upM, sK_upR, sL_upM, sL_upR, sN_upM, sN_upR, sT_upM, sT_upR, sN_upM, Int.reduceAdd, Int.reduceMul, Int.reduceSub, Int.reduceNeg, Int.zero_add, Int.add_zero, hF.c]) (rt_alx (by simp (disch := omega) only [true_and, and_true, sM_ne, sM_eq, sM_neR, sM_eqR, sK_upM, sK_upR, sL_upM, sL_upR, sN_upM, sN_upR, sT_upM, sT_upR, sN_upM, Int.reduceAdd, Int.reduceMul, Int.reduceSub, Int.reduceNeg, Int.zero_add, Int.add_zero, hF.c]) (by simp (disch := omega) only [true_and, and_true, sM_ne, sM_eq, sM_neR, sM_eqR, sK_upM, sK_upR, sL_upM, sL_upR, sN_upM, sN_upR, sT_upM, sT_upR, sN_upM, Int.reduceAdd, Int.reduceMul, Int.reduceSub, Int.reduceNeg, Int.zero_add, Int.add_zero, hF.c]; omega) (e ()) q)
theorem rt_tz {f : Int → Int} {z : Int} {s : ZS} {F : Int → Option (Int × ZS)} {P : Int → ZS → Prop} (h : TPX f z s) (q : Rt (F z) P) : Rt ((zg s 4 34 1).bind F) P := by
  obtain ⟨hF, h1, h2, h3⟩ := h
  have e := hd h1
  exact rt_gx (by simp (disch := omega) only [true_and, and_true, sM_ne, sM_eq, sM_neR, sM_eqR, sK_upM, sK_upR, sL_upM, sL_upR, sN_upM, sN_upR, sT_upM, sT_upR, sN_upM, Int.reduceAdd, Int.reduceMul, Int.reduceSub, Int.reduceNeg, Int.zero_add, Int.add_zero, hF.c]) (e ()) q
def chL : List Int := [119, 97, 105, 116, 32, 101, 97, 114, 108, 121, 32, 108, 97, 116, 101, 32, 109, 105, 110, 117, 116, 101, 32, 115, 111, 114, 116, 32, 116, 111, 108, 108, 32, 99, 111, 115, 116, 32, 108, 111, 115, 116, 32, 97, 110, 100, 32, 111, 114, 32, 110, 111, 116]
theorem chL_is : ∀ x : Nat, x < 53 → iC (iAnd (zbt 0 (x : Int)) 255) = chL.getD x 0 := by decide +kernel
theorem f_charAt (s : ZS) {x : Nat} (h : x < 53) : fJ0_charAt_5068e s 0 (x : Int) = some (chL.getD x 0, s) := by
  have hz : ((zLen.getD 0 0 : Nat) : Int) = 53 := by decide
  refine rt_is ?_
  unfold fJ0_charAt_5068e fJ0_isLatin1_aae02
  refine rt_b (rt_ret (rt_neg (by decide) (rt_b ?_)))
  unfold fJ1_charAt_3b067 fJ0_checkIndex_df160 fJ3_checkIndex_8e157
  rw [hz]
  refine rt_b (rt_b (rt_jn (rt_neg (by omega) (rt_pos (by omega) (rt_ret (rt_ret (rt_pos (by omega) (rt_ret ?_))))))))
  rw [chL_is x h]
  exact rt_ret ⟨rfl, rfl⟩
theorem f_wLen (s : ZS) : fJ0_length_8abf5 s 0 = some (53, s) := by
  unfold fJ0_length_8abf5 fJ0_coder_7d493
  show some (iShr (zLen.getD 0 0 : Int) 0, s) = _
  have : iShr ((zLen.getD 0 0 : Nat) : Int) 0 = 53 := by decide +kernel
  rw [this]
theorem l_isW {f : Int → Int} {z p ws we : Int} {s : ZS} (h : TPX f z s) (p0 : 0 ≤ p) (w0 : 0 ≤ ws) (w1 : we ≤ 53) (hp : p + (we - ws) ≤ z) : ∀ (N x : Nat), ws ≤ (x : Int) → (x : Int) ≤ we → we - (x : Int) < (N : Int) → Rt (lX4_isWord_3 34 ws we p N s (x : Int)) (fun v τ => τ = s ∧ ((v = 1 ∧ ∀ y : Nat, x ≤ y → (y : Int) < we → chL.getD y 0 = f (p + (y : Int) - ws)) ∨ (v = 0 ∧ ¬ ∀ y : Nat, x ≤ y → (y : Int) < we → chL.getD y 0 = f (p + (y : Int) - ws))))
  | 0, x, h1, h2, h3 => by omega
  | N + 1, x, h1, h2, h3 => by
    rw [lX4_isWord_3]
    by_cases he : we ≤ (x : Int)
    · exact rt_pos he (rt_ret ⟨rfl, Or.inl ⟨rfl, fun y y0 y1 => by omega⟩⟩)
    · refine rt_neg he (rt_b (rt_e (f_charAt s (x := x) (by omega)) ?_))
      have e : wrap (wrap (p + (x : Int)) - ws) = p + (x : Int) - ws := by
        have := h.2.2.1
        rw [wr (x := p + (x : Int)) (by omega) (by omega), wr (by omega) (by omega)]
      rw [e]
      refine rt_tp h (by omega) (by omega) ?_
      by_cases q : chL.getD x 0 = f (p + (x : Int) - ws)
      · refine rt_pos q ?_
        rw [wr1 x (by omega)]
        refine (l_isW h p0 w0 w1 hp N (x + 1) (by omega) (by omega) (by omega)).mono ?_
        rintro v τ ⟨e1, e2⟩
        refine ⟨e1, e2.imp (fun g => ⟨g.1, fun y y0 y1 => ?_⟩) (fun g => ⟨g.1, fun k => g.2 (fun y y0 y1 => k y (by omega) y1)⟩)⟩
        by_cases c : y = x
        · rw [c]; exact q
        · exact g.2 y (by omega) y1
      · exact rt_neg q (rt_ret ⟨rfl, Or.inr ⟨rfl, fun k => q (k x (Nat.le_refl _) (by omega))⟩⟩)
/-- letters of a word skipped -/
theorem l_skip {u18 u19 u20 : Int} {P : Int → ZS → Prop} {s : ZS} {a b : Int} : ∀ (m : Nat) (N x : Nat), x + m ≤ 53 → (∀ y : Nat, y < m → chL.getD (x + y) 0 ≠ 32) → Rt (lX4_wordAt_37 u18 u19 u20 N s a b ((x + m : Nat) : Int)) P → Rt (lX4_wordAt_37 u18 u19 u20 (N + m) s a b (x : Int)) P
  | 0, N, x, _, _, q => q
  | m + 1, N, x, h1, h2, q => by
    show Rt (lX4_wordAt_37 u18 u19 u20 (N + m + 1) s a b (x : Int)) P
    rw [lX4_wordAt_37]
    refine rt_b (rt_e (f_wLen s) (rt_neg (by omega) (rt_b (rt_e (f_wLen s) (rt_jn (rt_jn (rt_neg (by omega) (rt_b (rt_e (f_charAt s (x := x) (by omega)) ?_)))))))))
    refine rt_neg (h2 0 (by omega)) ?_
    show Rt (lX4_wordAt_37 u18 u19 u20 (N + m) s a b (wrap ((x : Int) + 1))) P
    rw [wr1 x (by omega)]
    refine l_skip m N (x + 1) (by omega) (fun y y0 => by have := h2 (y + 1) (by omega); rwa [show x + (y + 1) = x + 1 + y by omega] at this) ?_
    rw [show x + 1 + m = x + (m + 1) by omega]
    exact q
/-- the end of a word of the row -/
theorem l_wend {f : Int → Int} {z p e : Int} {P : Int → ZS → Prop} {s : ZS} (h : TPX f z s) (p0 : 0 ≤ p) (pe : p < e) (ez : e ≤ z) {j ws we : Nat} (hj : j ≤ 10) (hw : ws < we) (hwe : we ≤ 53) (hb : we = 53 ∨ (we < 53 ∧ chL.getD we 0 = 32)) {N : Nat}
    (hyes : e - p = (we : Int) - (ws : Int) → (∀ y : Nat, ws ≤ y → y < we → chL.getD y 0 = f (p + (y : Int) - (ws : Int))) → P (10000 + (j : Int)) s)
    (hno : ¬ (e - p = (we : Int) - (ws : Int) ∧ ∀ y : Nat, ws ≤ y → y < we → chL.getD y 0 = f (p + (y : Int) - (ws : Int))) → Rt (lX4_wordAt_37 34 p e N s ((j + 1 : Nat) : Int) ((we + 1 : Nat) : Int) ((we + 1 : Nat) : Int)) P) : Rt (lX4_wordAt_37 34 p e (N + 1) s (j : Int) (ws : Int) (we : Int)) P := by
  have hz := h.2.2.1
  have hF := h.1
  rw [lX4_wordAt_37]
  have go : Rt (zjn (fun (K98 : ZS → Option (Int × ZS)) => if (wrap ((we : Int) - (ws : Int))) = (wrap (e - p)) then (zb (zv s 4 34 (fX4_isWord s 34 (ws : Int) (we : Int) p)) (fun v38 s39 => if v38 = 0 then (K98 s39) else (some ((wrap (10000 + (j : Int))), s39)))) else (K98 s)) (fun (s42 : ZS) => lX4_wordAt_37 34 p e N s42 (wrap ((j : Int) + 1)) (wrap ((we : Int) + 1)) (wrap ((we : Int) + 1)))) P := by
    rw [wr1 j (by omega), wr1 we (by omega)]
    refine rt_jn ?_
    rw [wr (x := (we : Int) - (ws : Int)) (by omega) (by omega), wr (x := e - p) (by omega) (by omega)]
    by_cases c : (we : Int) - (ws : Int) = e - p
    · refine rt_pos c (rt_b (rt_v (by simp (disch := omega) only [true_and, and_true, sM_ne, sM_eq, sM_neR, sM_eqR, sK_upM, sK_upR, sL_upM, sL_upR, sN_upM, sN_upR, sT_upM, sT_upR, sN_upM, Int.reduceAdd, Int.reduceMul, Int.reduceSub, Int.reduceNeg, Int.zero_add, Int.add_zero, hF.c]) ?_))
      unfold fX4_isWord
      refine Rt.mono (l_isW h p0 (ws := (ws : Int)) (we := (we : Int)) (by omega) (by omega) (by omega) 1000 ws (by omega) (by omega) (by omega)) ?_
      rintro v τ ⟨rfl, ⟨rfl, g⟩ | ⟨rfl, g⟩⟩
      · refine rt_neg (by decide) (rt_ret ?_)
        rw [wr (by omega) (by omega)]
        exact hyes c.symm (fun y y0 y1 => g y y0 (by omega))
      · exact rt_pos rfl (hno (fun k => g (fun y y0 y1 => k.2 y y0 (by omega))))
    · exact rt_neg c (hno (fun k => c k.1.symm))
  refine rt_b (rt_e (f_wLen s) (rt_neg (by omega) (rt_b (rt_e (f_wLen s) (rt_jn (rt_jn ?_))))))
  rcases hb with e1 | ⟨e1, e2⟩
  · exact rt_pos (by omega) go
  · exact rt_neg (by omega) (rt_b (rt_e (f_charAt s e1) (rt_pos e2 go)))
/-- letters, packed: so many of them, so great -/
theorem pk_rng {f : Int → Int} {p : Int} {n : Nat} (h1 : 1 ≤ n) (h6 : n ≤ 6) (hl : ∀ y : Nat, y < n → 97 ≤ f (p + (y : Int)) ∧ f (p + (y : Int)) ≤ 122) : (n = 1 ∧ pkV f p n ≤ 122) ∨ (n = 2 ∧ 24929 ≤ pkV f p n ∧ pkV f p n ≤ 31354) ∨ (n = 3 ∧ 6381921 ≤ pkV f p n ∧ pkV f p n ≤ 8026746) ∨ (n = 4 ∧ 1633771873 ≤ pkV f p n ∧ pkV f p n ≤ 2054847098) ∨ (n = 5 ∧ 418245599585 ≤ pkV f p n ∧ pkV f p n ≤ 526040857210) ∨ (n = 6 ∧ 107070873493857 ≤ pkV f p n ∧ pkV f p n ≤ 134666459445882) := by
  have a0 := hl 0
  have a1 := hl 1
  have a2 := hl 2
  have a3 := hl 3
  have a4 := hl 4
  have a5 := hl 5
  rcases (by omega : n = 1 ∨ n = 2 ∨ n = 3 ∨ n = 4 ∨ n = 5 ∨ n = 6) with rfl | rfl | rfl | rfl | rfl | rfl
  · refine Or.inl ⟨rfl, ?_⟩
    simp only [pkV]
    omega
  · refine Or.inr (Or.inl ⟨rfl, ?_⟩)
    simp only [pkV]
    omega
  · refine Or.inr (Or.inr (Or.inl ⟨rfl, ?_⟩))
    simp only [pkV]
    omega
  · refine Or.inr (Or.inr (Or.inr (Or.inl ⟨rfl, ?_⟩)))
    simp only [pkV]
    omega
  · refine Or.inr (Or.inr (Or.inr (Or.inr (Or.inl ⟨rfl, ?_⟩))))
    simp only [pkV]
    omega
  · refine Or.inr (Or.inr (Or.inr (Or.inr (Or.inr ⟨rfl, ?_⟩))))
    simp only [pkV]
    omega
theorem pk_w0 {f : Int → Int} {p : Int} (hl : ∀ y : Nat, y < 4 → 97 ≤ f (p + (y : Int)) ∧ f (p + (y : Int)) ≤ 122) : (∀ y : Nat, 0 ≤ y → y < 4 → chL.getD y 0 = f (p + (y : Int) - ((0 : Nat) : Int))) ↔ pkV f p 4 = 2002872692 := by
  have a0 := hl 0 (by omega)
  have a1 := hl 1 (by omega)
  have a2 := hl 2 (by omega)
  have a3 := hl 3 (by omega)
  simp only [pkV]
  constructor
  · intro h
    have b0 : (119 : Int) = f (p + ((0 : Nat) : Int)) := by
      have := h 0 (by omega) (by omega)
      rw [show p + ((0 : Nat) : Int) - ((0 : Nat) : Int) = p + ((0 : Nat) : Int) by omega] at this
      exact this
    have b1 : (97 : Int) = f (p + ((1 : Nat) : Int)) := by
      have := h 1 (by omega) (by omega)
      rw [show p + ((1 : Nat) : Int) - ((0 : Nat) : Int) = p + ((1 : Nat) : Int) by omega] at this
      exact this
    have b2 : (105 : Int) = f (p + ((2 : Nat) : Int)) := by
      have := h 2 (by omega) (by omega)
      rw [show p + ((2 : Nat) : Int) - ((0 : Nat) : Int) = p + ((2 : Nat) : Int) by omega] at this
      exact this
    have b3 : (116 : Int) = f (p + ((3 : Nat) : Int)) := by
      have := h 3 (by omega) (by omega)
      rw [show p + ((3 : Nat) : Int) - ((0 : Nat) : Int) = p + ((3 : Nat) : Int) by omega] at this
      exact this
    omega
  · intro h y y0 y1
    rcases (by omega : y = 0 ∨ y = 1 ∨ y = 2 ∨ y = 3) with rfl | rfl | rfl | rfl
    · rw [show p + ((0 : Nat) : Int) - ((0 : Nat) : Int) = p + ((0 : Nat) : Int) by omega]
      show (119 : Int) = _
      omega
    · rw [show p + ((1 : Nat) : Int) - ((0 : Nat) : Int) = p + ((1 : Nat) : Int) by omega]
      show (97 : Int) = _
      omega
    · rw [show p + ((2 : Nat) : Int) - ((0 : Nat) : Int) = p + ((2 : Nat) : Int) by omega]
      show (105 : Int) = _
      omega
    · rw [show p + ((3 : Nat) : Int) - ((0 : Nat) : Int) = p + ((3 : Nat) : Int) by omega]
      show (116 : Int) = _
      omega
theorem pk_w1 {f : Int → Int} {p : Int} (hl : ∀ y : Nat, y < 5 → 97 ≤ f (p + (y : Int)) ∧ f (p + (y : Int)) ≤ 122) : (∀ y : Nat, 5 ≤ y → y < 10 → chL.getD y 0 = f (p + (y : Int) - ((5 : Nat) : Int))) ↔ pkV f p 5 = 435426585721 := by
  have a0 := hl 0 (by omega)
  have a1 := hl 1 (by omega)
  have a2 := hl 2 (by omega)
  have a3 := hl 3 (by omega)
  have a4 := hl 4 (by omega)
  simp only [pkV]
  constructor
  · intro h
    have b0 : (101 : Int) = f (p + ((0 : Nat) : Int)) := by
      have := h 5 (by omega) (by omega)
      rw [show p + ((5 : Nat) : Int) - ((5 : Nat) : Int) = p + ((0 : Nat) : Int) by omega] at this
      exact this
    have b1 : (97 : Int) = f (p + ((1 : Nat) : Int)) := by
      have := h 6 (by omega) (by omega)
      rw [show p + ((6 : Nat) : Int) - ((5 : Nat) : Int) = p + ((1 : Nat) : Int) by omega] at this
      exact this
    have b2 : (114 : Int) = f (p + ((2 : Nat) : Int)) := by
      have := h 7 (by omega) (by omega)
      rw [show p + ((7 : Nat) : Int) - ((5 : Nat) : Int) = p + ((2 : Nat) : Int) by omega] at this
      exact this
    have b3 : (108 : Int) = f (p + ((3 : Nat) : Int)) := by
      have := h 8 (by omega) (by omega)
      rw [show p + ((8 : Nat) : Int) - ((5 : Nat) : Int) = p + ((3 : Nat) : Int) by omega] at this
      exact this
    have b4 : (121 : Int) = f (p + ((4 : Nat) : Int)) := by
      have := h 9 (by omega) (by omega)
      rw [show p + ((9 : Nat) : Int) - ((5 : Nat) : Int) = p + ((4 : Nat) : Int) by omega] at this
      exact this
    omega
  · intro h y y0 y1
    rcases (by omega : y = 5 ∨ y = 6 ∨ y = 7 ∨ y = 8 ∨ y = 9) with rfl | rfl | rfl | rfl | rfl
    · rw [show p + ((5 : Nat) : Int) - ((5 : Nat) : Int) = p + ((0 : Nat) : Int) by omega]
      show (101 : Int) = _
      omega
    · rw [show p + ((6 : Nat) : Int) - ((5 : Nat) : Int) = p + ((1 : Nat) : Int) by omega]
      show (97 : Int) = _
      omega
    · rw [show p + ((7 : Nat) : Int) - ((5 : Nat) : Int) = p + ((2 : Nat) : Int) by omega]
      show (114 : Int) = _
      omega
    · rw [show p + ((8 : Nat) : Int) - ((5 : Nat) : Int) = p + ((3 : Nat) : Int) by omega]
      show (108 : Int) = _
      omega
    · rw [show p + ((9 : Nat) : Int) - ((5 : Nat) : Int) = p + ((4 : Nat) : Int) by omega]
      show (121 : Int) = _
      omega
theorem pk_w2 {f : Int → Int} {p : Int} (hl : ∀ y : Nat, y < 4 → 97 ≤ f (p + (y : Int)) ∧ f (p + (y : Int)) ≤ 122) : (∀ y : Nat, 11 ≤ y → y < 15 → chL.getD y 0 = f (p + (y : Int) - ((11 : Nat) : Int))) ↔ pkV f p 4 = 1818326117 := by
  have a0 := hl 0 (by omega)
  have a1 := hl 1 (by omega)
  have a2 := hl 2 (by omega)
  have a3 := hl 3 (by omega)
  simp only [pkV]
  constructor
  · intro h
    have b0 : (108 : Int) = f (p + ((0 : Nat) : Int)) := by
      have := h 11 (by omega) (by omega)
      rw [show p + ((11 : Nat) : Int) - ((11 : Nat) : Int) = p + ((0 : Nat) : Int) by omega] at this
      exact this
    have b1 : (97 : Int) = f (p + ((1 : Nat) : Int)) := by
      have := h 12 (by omega) (by omega)
      rw [show p + ((12 : Nat) : Int) - ((11 : Nat) : Int) = p + ((1 : Nat) : Int) by omega] at this
      exact this
    have b2 : (116 : Int) = f (p + ((2 : Nat) : Int)) := by
      have := h 13 (by omega) (by omega)
      rw [show p + ((13 : Nat) : Int) - ((11 : Nat) : Int) = p + ((2 : Nat) : Int) by omega] at this
      exact this
    have b3 : (101 : Int) = f (p + ((3 : Nat) : Int)) := by
      have := h 14 (by omega) (by omega)
      rw [show p + ((14 : Nat) : Int) - ((11 : Nat) : Int) = p + ((3 : Nat) : Int) by omega] at this
      exact this
    omega
  · intro h y y0 y1
    rcases (by omega : y = 11 ∨ y = 12 ∨ y = 13 ∨ y = 14) with rfl | rfl | rfl | rfl
    · rw [show p + ((11 : Nat) : Int) - ((11 : Nat) : Int) = p + ((0 : Nat) : Int) by omega]
      show (108 : Int) = _
      omega
    · rw [show p + ((12 : Nat) : Int) - ((11 : Nat) : Int) = p + ((1 : Nat) : Int) by omega]
      show (97 : Int) = _
      omega
    · rw [show p + ((13 : Nat) : Int) - ((11 : Nat) : Int) = p + ((2 : Nat) : Int) by omega]
      show (116 : Int) = _
      omega
    · rw [show p + ((14 : Nat) : Int) - ((11 : Nat) : Int) = p + ((3 : Nat) : Int) by omega]
      show (101 : Int) = _
      omega
theorem pk_w3 {f : Int → Int} {p : Int} (hl : ∀ y : Nat, y < 6 → 97 ≤ f (p + (y : Int)) ∧ f (p + (y : Int)) ≤ 122) : (∀ y : Nat, 16 ≤ y → y < 22 → chL.getD y 0 = f (p + (y : Int) - ((16 : Nat) : Int))) ↔ pkV f p 6 = 120299592184933 := by
  have a0 := hl 0 (by omega)
  have a1 := hl 1 (by omega)
  have a2 := hl 2 (by omega)
  have a3 := hl 3 (by omega)
  have a4 := hl 4 (by omega)
  have a5 := hl 5 (by omega)
  simp only [pkV]
  constructor
  · intro h
    have b0 : (109 : Int) = f (p + ((0 : Nat) : Int)) := by
      have := h 16 (by omega) (by omega)
      rw [show p + ((16 : Nat) : Int) - ((16 : Nat) : Int) = p + ((0 : Nat) : Int) by omega] at this
      exact this
    have b1 : (105 : Int) = f (p + ((1 : Nat) : Int)) := by
      have := h 17 (by omega) (by omega)
      rw [show p + ((17 : Nat) : Int) - ((16 : Nat) : Int) = p + ((1 : Nat) : Int) by omega] at this
      exact this
    have b2 : (110 : Int) = f (p + ((2 : Nat) : Int)) := by
      have := h 18 (by omega) (by omega)
      rw [show p + ((18 : Nat) : Int) - ((16 : Nat) : Int) = p + ((2 : Nat) : Int) by omega] at this
      exact this
    have b3 : (117 : Int) = f (p + ((3 : Nat) : Int)) := by
      have := h 19 (by omega) (by omega)
      rw [show p + ((19 : Nat) : Int) - ((16 : Nat) : Int) = p + ((3 : Nat) : Int) by omega] at this
      exact this
    have b4 : (116 : Int) = f (p + ((4 : Nat) : Int)) := by
      have := h 20 (by omega) (by omega)
      rw [show p + ((20 : Nat) : Int) - ((16 : Nat) : Int) = p + ((4 : Nat) : Int) by omega] at this
      exact this
    have b5 : (101 : Int) = f (p + ((5 : Nat) : Int)) := by
      have := h 21 (by omega) (by omega)
      rw [show p + ((21 : Nat) : Int) - ((16 : Nat) : Int) = p + ((5 : Nat) : Int) by omega] at this
      exact this
    omega
  · intro h y y0 y1
    rcases (by omega : y = 16 ∨ y = 17 ∨ y = 18 ∨ y = 19 ∨ y = 20 ∨ y = 21) with rfl | rfl | rfl | rfl | rfl | rfl
    · rw [show p + ((16 : Nat) : Int) - ((16 : Nat) : Int) = p + ((0 : Nat) : Int) by omega]
      show (109 : Int) = _
      omega
    · rw [show p + ((17 : Nat) : Int) - ((16 : Nat) : Int) = p + ((1 : Nat) : Int) by omega]
      show (105 : Int) = _
      omega
    · rw [show p + ((18 : Nat) : Int) - ((16 : Nat) : Int) = p + ((2 : Nat) : Int) by omega]
      show (110 : Int) = _
      omega
    · rw [show p + ((19 : Nat) : Int) - ((16 : Nat) : Int) = p + ((3 : Nat) : Int) by omega]
      show (117 : Int) = _
      omega
    · rw [show p + ((20 : Nat) : Int) - ((16 : Nat) : Int) = p + ((4 : Nat) : Int) by omega]
      show (116 : Int) = _
      omega
    · rw [show p + ((21 : Nat) : Int) - ((16 : Nat) : Int) = p + ((5 : Nat) : Int) by omega]
      show (101 : Int) = _
      omega
theorem pk_w4 {f : Int → Int} {p : Int} (hl : ∀ y : Nat, y < 4 → 97 ≤ f (p + (y : Int)) ∧ f (p + (y : Int)) ≤ 122) : (∀ y : Nat, 23 ≤ y → y < 27 → chL.getD y 0 = f (p + (y : Int) - ((23 : Nat) : Int))) ↔ pkV f p 4 = 1936683636 := by
  have a0 := hl 0 (by omega)
  have a1 := hl 1 (by omega)
  have a2 := hl 2 (by omega)
  have a3 := hl 3 (by omega)
  simp only [pkV]
  constructor
  · intro h
    have b0 : (115 : Int) = f (p + ((0 : Nat) : Int)) := by
      have := h 23 (by omega) (by omega)
      rw [show p + ((23 : Nat) : Int) - ((23 : Nat) : Int) = p + ((0 : Nat) : Int) by omega] at this
      exact this
    have b1 : (111 : Int) = f (p + ((1 : Nat) : Int)) := by
      have := h 24 (by omega) (by omega)
      rw [show p + ((24 : Nat) : Int) - ((23 : Nat) : Int) = p + ((1 : Nat) : Int) by omega] at this
      exact this
    have b2 : (114 : Int) = f (p + ((2 : Nat) : Int)) := by
      have := h 25 (by omega) (by omega)
      rw [show p + ((25 : Nat) : Int) - ((23 : Nat) : Int) = p + ((2 : Nat) : Int) by omega] at this
      exact this
    have b3 : (116 : Int) = f (p + ((3 : Nat) : Int)) := by
      have := h 26 (by omega) (by omega)
      rw [show p + ((26 : Nat) : Int) - ((23 : Nat) : Int) = p + ((3 : Nat) : Int) by omega] at this
      exact this
    omega
  · intro h y y0 y1
    rcases (by omega : y = 23 ∨ y = 24 ∨ y = 25 ∨ y = 26) with rfl | rfl | rfl | rfl
    · rw [show p + ((23 : Nat) : Int) - ((23 : Nat) : Int) = p + ((0 : Nat) : Int) by omega]
      show (115 : Int) = _
      omega
    · rw [show p + ((24 : Nat) : Int) - ((23 : Nat) : Int) = p + ((1 : Nat) : Int) by omega]
      show (111 : Int) = _
      omega
    · rw [show p + ((25 : Nat) : Int) - ((23 : Nat) : Int) = p + ((2 : Nat) : Int) by omega]
      show (114 : Int) = _
      omega
    · rw [show p + ((26 : Nat) : Int) - ((23 : Nat) : Int) = p + ((3 : Nat) : Int) by omega]
      show (116 : Int) = _
      omega
theorem pk_w5 {f : Int → Int} {p : Int} (hl : ∀ y : Nat, y < 4 → 97 ≤ f (p + (y : Int)) ∧ f (p + (y : Int)) ≤ 122) : (∀ y : Nat, 28 ≤ y → y < 32 → chL.getD y 0 = f (p + (y : Int) - ((28 : Nat) : Int))) ↔ pkV f p 4 = 1953459308 := by
  have a0 := hl 0 (by omega)
  have a1 := hl 1 (by omega)
  have a2 := hl 2 (by omega)
  have a3 := hl 3 (by omega)
  simp only [pkV]
  constructor
  · intro h
    have b0 : (116 : Int) = f (p + ((0 : Nat) : Int)) := by
      have := h 28 (by omega) (by omega)
      rw [show p + ((28 : Nat) : Int) - ((28 : Nat) : Int) = p + ((0 : Nat) : Int) by omega] at this
      exact this
    have b1 : (111 : Int) = f (p + ((1 : Nat) : Int)) := by
      have := h 29 (by omega) (by omega)
      rw [show p + ((29 : Nat) : Int) - ((28 : Nat) : Int) = p + ((1 : Nat) : Int) by omega] at this
      exact this
    have b2 : (108 : Int) = f (p + ((2 : Nat) : Int)) := by
      have := h 30 (by omega) (by omega)
      rw [show p + ((30 : Nat) : Int) - ((28 : Nat) : Int) = p + ((2 : Nat) : Int) by omega] at this
      exact this
    have b3 : (108 : Int) = f (p + ((3 : Nat) : Int)) := by
      have := h 31 (by omega) (by omega)
      rw [show p + ((31 : Nat) : Int) - ((28 : Nat) : Int) = p + ((3 : Nat) : Int) by omega] at this
      exact this
    omega
  · intro h y y0 y1
    rcases (by omega : y = 28 ∨ y = 29 ∨ y = 30 ∨ y = 31) with rfl | rfl | rfl | rfl
    · rw [show p + ((28 : Nat) : Int) - ((28 : Nat) : Int) = p + ((0 : Nat) : Int) by omega]
      show (116 : Int) = _
      omega
    · rw [show p + ((29 : Nat) : Int) - ((28 : Nat) : Int) = p + ((1 : Nat) : Int) by omega]
      show (111 : Int) = _
      omega
    · rw [show p + ((30 : Nat) : Int) - ((28 : Nat) : Int) = p + ((2 : Nat) : Int) by omega]
      show (108 : Int) = _
      omega
    · rw [show p + ((31 : Nat) : Int) - ((28 : Nat) : Int) = p + ((3 : Nat) : Int) by omega]
      show (108 : Int) = _
      omega
theorem pk_w6 {f : Int → Int} {p : Int} (hl : ∀ y : Nat, y < 4 → 97 ≤ f (p + (y : Int)) ∧ f (p + (y : Int)) ≤ 122) : (∀ y : Nat, 33 ≤ y → y < 37 → chL.getD y 0 = f (p + (y : Int) - ((33 : Nat) : Int))) ↔ pkV f p 4 = 1668248436 := by
  have a0 := hl 0 (by omega)
  have a1 := hl 1 (by omega)
  have a2 := hl 2 (by omega)
  have a3 := hl 3 (by omega)
  simp only [pkV]
  constructor
  · intro h
    have b0 : (99 : Int) = f (p + ((0 : Nat) : Int)) := by
      have := h 33 (by omega) (by omega)
      rw [show p + ((33 : Nat) : Int) - ((33 : Nat) : Int) = p + ((0 : Nat) : Int) by omega] at this
      exact this
    have b1 : (111 : Int) = f (p + ((1 : Nat) : Int)) := by
      have := h 34 (by omega) (by omega)
      rw [show p + ((34 : Nat) : Int) - ((33 : Nat) : Int) = p + ((1 : Nat) : Int) by omega] at this
      exact this
    have b2 : (115 : Int) = f (p + ((2 : Nat) : Int)) := by
      have := h 35 (by omega) (by omega)
      rw [show p + ((35 : Nat) : Int) - ((33 : Nat) : Int) = p + ((2 : Nat) : Int) by omega] at this
      exact this
    have b3 : (116 : Int) = f (p + ((3 : Nat) : Int)) := by
      have := h 36 (by omega) (by omega)
      rw [show p + ((36 : Nat) : Int) - ((33 : Nat) : Int) = p + ((3 : Nat) : Int) by omega] at this
      exact this
    omega
  · intro h y y0 y1
    rcases (by omega : y = 33 ∨ y = 34 ∨ y = 35 ∨ y = 36) with rfl | rfl | rfl | rfl
    · rw [show p + ((33 : Nat) : Int) - ((33 : Nat) : Int) = p + ((0 : Nat) : Int) by omega]
      show (99 : Int) = _
      omega
    · rw [show p + ((34 : Nat) : Int) - ((33 : Nat) : Int) = p + ((1 : Nat) : Int) by omega]
      show (111 : Int) = _
      omega
    · rw [show p + ((35 : Nat) : Int) - ((33 : Nat) : Int) = p + ((2 : Nat) : Int) by omega]
      show (115 : Int) = _
      omega
    · rw [show p + ((36 : Nat) : Int) - ((33 : Nat) : Int) = p + ((3 : Nat) : Int) by omega]
      show (116 : Int) = _
      omega
theorem pk_w7 {f : Int → Int} {p : Int} (hl : ∀ y : Nat, y < 4 → 97 ≤ f (p + (y : Int)) ∧ f (p + (y : Int)) ≤ 122) : (∀ y : Nat, 38 ≤ y → y < 42 → chL.getD y 0 = f (p + (y : Int) - ((38 : Nat) : Int))) ↔ pkV f p 4 = 1819243380 := by
  have a0 := hl 0 (by omega)
  have a1 := hl 1 (by omega)
  have a2 := hl 2 (by omega)
  have a3 := hl 3 (by omega)
  simp only [pkV]
  constructor
  · intro h
    have b0 : (108 : Int) = f (p + ((0 : Nat) : Int)) := by
      have := h 38 (by omega) (by omega)
      rw [show p + ((38 : Nat) : Int) - ((38 : Nat) : Int) = p + ((0 : Nat) : Int) by omega] at this
      exact this
    have b1 : (111 : Int) = f (p + ((1 : Nat) : Int)) := by
      have := h 39 (by omega) (by omega)
      rw [show p + ((39 : Nat) : Int) - ((38 : Nat) : Int) = p + ((1 : Nat) : Int) by omega] at this
      exact this
    have b2 : (115 : Int) = f (p + ((2 : Nat) : Int)) := by
      have := h 40 (by omega) (by omega)
      rw [show p + ((40 : Nat) : Int) - ((38 : Nat) : Int) = p + ((2 : Nat) : Int) by omega] at this
      exact this
    have b3 : (116 : Int) = f (p + ((3 : Nat) : Int)) := by
      have := h 41 (by omega) (by omega)
      rw [show p + ((41 : Nat) : Int) - ((38 : Nat) : Int) = p + ((3 : Nat) : Int) by omega] at this
      exact this
    omega
  · intro h y y0 y1
    rcases (by omega : y = 38 ∨ y = 39 ∨ y = 40 ∨ y = 41) with rfl | rfl | rfl | rfl
    · rw [show p + ((38 : Nat) : Int) - ((38 : Nat) : Int) = p + ((0 : Nat) : Int) by omega]
      show (108 : Int) = _
      omega
    · rw [show p + ((39 : Nat) : Int) - ((38 : Nat) : Int) = p + ((1 : Nat) : Int) by omega]
      show (111 : Int) = _
      omega
    · rw [show p + ((40 : Nat) : Int) - ((38 : Nat) : Int) = p + ((2 : Nat) : Int) by omega]
      show (115 : Int) = _
      omega
    · rw [show p + ((41 : Nat) : Int) - ((38 : Nat) : Int) = p + ((3 : Nat) : Int) by omega]
      show (116 : Int) = _
      omega
theorem pk_w8 {f : Int → Int} {p : Int} (hl : ∀ y : Nat, y < 3 → 97 ≤ f (p + (y : Int)) ∧ f (p + (y : Int)) ≤ 122) : (∀ y : Nat, 43 ≤ y → y < 46 → chL.getD y 0 = f (p + (y : Int) - ((43 : Nat) : Int))) ↔ pkV f p 3 = 6385252 := by
  have a0 := hl 0 (by omega)
  have a1 := hl 1 (by omega)
  have a2 := hl 2 (by omega)
  simp only [pkV]
  constructor
  · intro h
    have b0 : (97 : Int) = f (p + ((0 : Nat) : Int)) := by
      have := h 43 (by omega) (by omega)
      rw [show p + ((43 : Nat) : Int) - ((43 : Nat) : Int) = p + ((0 : Nat) : Int) by omega] at this
      exact this
    have b1 : (110 : Int) = f (p + ((1 : Nat) : Int)) := by
      have := h 44 (by omega) (by omega)
      rw [show p + ((44 : Nat) : Int) - ((43 : Nat) : Int) = p + ((1 : Nat) : Int) by omega] at this
      exact this
    have b2 : (100 : Int) = f (p + ((2 : Nat) : Int)) := by
      have := h 45 (by omega) (by omega)
      rw [show p + ((45 : Nat) : Int) - ((43 : Nat) : Int) = p + ((2 : Nat) : Int) by omega] at this
      exact this
    omega
  · intro h y y0 y1
    rcases (by omega : y = 43 ∨ y = 44 ∨ y = 45) with rfl | rfl | rfl
    · rw [show p + ((43 : Nat) : Int) - ((43 : Nat) : Int) = p + ((0 : Nat) : Int) by omega]
      show (97 : Int) = _
      omega
    · rw [show p + ((44 : Nat) : Int) - ((43 : Nat) : Int) = p + ((1 : Nat) : Int) by omega]
      show (110 : Int) = _
      omega
    · rw [show p + ((45 : Nat) : Int) - ((43 : Nat) : Int) = p + ((2 : Nat) : Int) by omega]
      show (100 : Int) = _
      omega
theorem pk_w9 {f : Int → Int} {p : Int} (hl : ∀ y : Nat, y < 2 → 97 ≤ f (p + (y : Int)) ∧ f (p + (y : Int)) ≤ 122) : (∀ y : Nat, 47 ≤ y → y < 49 → chL.getD y 0 = f (p + (y : Int) - ((47 : Nat) : Int))) ↔ pkV f p 2 = 28530 := by
  have a0 := hl 0 (by omega)
  have a1 := hl 1 (by omega)
  simp only [pkV]
  constructor
  · intro h
    have b0 : (111 : Int) = f (p + ((0 : Nat) : Int)) := by
      have := h 47 (by omega) (by omega)
      rw [show p + ((47 : Nat) : Int) - ((47 : Nat) : Int) = p + ((0 : Nat) : Int) by omega] at this
      exact this
    have b1 : (114 : Int) = f (p + ((1 : Nat) : Int)) := by
      have := h 48 (by omega) (by omega)
      rw [show p + ((48 : Nat) : Int) - ((47 : Nat) : Int) = p + ((1 : Nat) : Int) by omega] at this
      exact this
    omega
  · intro h y y0 y1
    rcases (by omega : y = 47 ∨ y = 48) with rfl | rfl
    · rw [show p + ((47 : Nat) : Int) - ((47 : Nat) : Int) = p + ((0 : Nat) : Int) by omega]
      show (111 : Int) = _
      omega
    · rw [show p + ((48 : Nat) : Int) - ((47 : Nat) : Int) = p + ((1 : Nat) : Int) by omega]
      show (114 : Int) = _
      omega
theorem pk_w10 {f : Int → Int} {p : Int} (hl : ∀ y : Nat, y < 3 → 97 ≤ f (p + (y : Int)) ∧ f (p + (y : Int)) ≤ 122) : (∀ y : Nat, 50 ≤ y → y < 53 → chL.getD y 0 = f (p + (y : Int) - ((50 : Nat) : Int))) ↔ pkV f p 3 = 7237492 := by
  have a0 := hl 0 (by omega)
  have a1 := hl 1 (by omega)
  have a2 := hl 2 (by omega)
  simp only [pkV]
  constructor
  · intro h
    have b0 : (110 : Int) = f (p + ((0 : Nat) : Int)) := by
      have := h 50 (by omega) (by omega)
      rw [show p + ((50 : Nat) : Int) - ((50 : Nat) : Int) = p + ((0 : Nat) : Int) by omega] at this
      exact this
    have b1 : (111 : Int) = f (p + ((1 : Nat) : Int)) := by
      have := h 51 (by omega) (by omega)
      rw [show p + ((51 : Nat) : Int) - ((50 : Nat) : Int) = p + ((1 : Nat) : Int) by omega] at this
      exact this
    have b2 : (116 : Int) = f (p + ((2 : Nat) : Int)) := by
      have := h 52 (by omega) (by omega)
      rw [show p + ((52 : Nat) : Int) - ((50 : Nat) : Int) = p + ((2 : Nat) : Int) by omega] at this
      exact this
    omega
  · intro h y y0 y1
    rcases (by omega : y = 50 ∨ y = 51 ∨ y = 52) with rfl | rfl | rfl
    · rw [show p + ((50 : Nat) : Int) - ((50 : Nat) : Int) = p + ((0 : Nat) : Int) by omega]
      show (110 : Int) = _
      omega
    · rw [show p + ((51 : Nat) : Int) - ((50 : Nat) : Int) = p + ((1 : Nat) : Int) by omega]
      show (111 : Int) = _
      omega
    · rw [show p + ((52 : Nat) : Int) - ((50 : Nat) : Int) = p + ((2 : Nat) : Int) by omega]
      show (116 : Int) = _
      omega
/-- the word of the row that it is -/
theorem wc_end {f : Int → Int} {z p e : Int} {s : ZS} {N : Nat} {a b : Int} {V : Int} (hV : V = 30001) : Rt (lX4_wordAt_37 34 p e (N + 1) s a b ((54 : Nat) : Int)) (fun v τ => v = V ∧ τ = s) := by
  rw [lX4_wordAt_37]
  exact rt_b (rt_e (f_wLen s) (rt_pos (by decide) (rt_ret ⟨hV.symm, rfl⟩)))
theorem wc10 {f : Int → Int} {z p e : Int} {s : ZS} (h : TPX f z s) (p0 : 0 ≤ p) (pe : p < e) (ez : e ≤ z) (hl : ∀ y : Int, p ≤ y → y < e → 97 ≤ f y ∧ f y ≤ 122) {V : Int} (hv : V = if e - p ≤ 6 then pkV f p (e - p).toNat else 0) {N : Nat} : Rt (lX4_wordAt_37 34 p e (N + 5) s ((10 : Nat) : Int) ((50 : Nat) : Int) ((50 : Nat) : Int)) (fun v τ => v = wdL (WL.drop 10) V ∧ τ = s) := by
  have iff : (e - p = ((53 : Nat) : Int) - ((50 : Nat) : Int) ∧ ∀ y : Nat, 50 ≤ y → y < 53 → chL.getD y 0 = f (p + (y : Int) - ((50 : Nat) : Int))) ↔ V = 7237492 := by
    by_cases c : e - p = 3
    · have e1 : (e - p).toNat = 3 := by omega
      rw [hv, if_pos (by omega), e1, ← pk_w10 (fun y hy => hl (p + (y : Int)) (by omega) (by omega))]
      exact ⟨fun g => g.2, fun g => ⟨by omega, g⟩⟩
    · constructor
      · intro g
        exact absurd g.1 (by omega)
      · intro g
        exfalso
        by_cases c6 : e - p ≤ 6
        · rw [hv, if_pos c6] at g
          have := pk_rng (f := f) (p := p) (n := (e - p).toNat) (by omega) (by omega) (fun y hy => hl (p + (y : Int)) (by omega) (by omega))
          omega
        · rw [hv, if_neg c6] at g
          omega
  rw [show N + 5 = (N + 1 + 1) + 3 by omega]
  refine l_skip 3 (N + 1 + 1) 50 (by decide) (by decide) ?_
  refine l_wend (j := 10) (ws := 50) (we := 53) h p0 pe ez (by decide) (by decide) (by decide) (by decide) (fun g1 g2 => ?_) (fun g => ?_)
  · refine ⟨?_, rfl⟩
    show _ = wdL ((7237492, 10010) :: WL.drop 11) V
    rw [wdL, if_pos (iff.mp ⟨g1, g2⟩)]
    rfl
  · have e2 : wdL (WL.drop 10) V = wdL (WL.drop 11) V := by
      show wdL ((7237492, 10010) :: WL.drop 11) V = _
      rw [wdL, if_neg (fun k => g (iff.mpr k))]
    rw [e2]
    exact wc_end (f := f) (z := z) rfl
theorem wc9 {f : Int → Int} {z p e : Int} {s : ZS} (h : TPX f z s) (p0 : 0 ≤ p) (pe : p < e) (ez : e ≤ z) (hl : ∀ y : Int, p ≤ y → y < e → 97 ≤ f y ∧ f y ≤ 122) {V : Int} (hv : V = if e - p ≤ 6 then pkV f p (e - p).toNat else 0) {N : Nat} : Rt (lX4_wordAt_37 34 p e (N + 8) s ((9 : Nat) : Int) ((47 : Nat) : Int) ((47 : Nat) : Int)) (fun v τ => v = wdL (WL.drop 9) V ∧ τ = s) := by
  have iff : (e - p = ((49 : Nat) : Int) - ((47 : Nat) : Int) ∧ ∀ y : Nat, 47 ≤ y → y < 49 → chL.getD y 0 = f (p + (y : Int) - ((47 : Nat) : Int))) ↔ V = 28530 := by
    by_cases c : e - p = 2
    · have e1 : (e - p).toNat = 2 := by omega
      rw [hv, if_pos (by omega), e1, ← pk_w9 (fun y hy => hl (p + (y : Int)) (by omega) (by omega))]
      exact ⟨fun g => g.2, fun g => ⟨by omega, g⟩⟩
    · constructor
      · intro g
        exact absurd g.1 (by omega)
      · intro g
        exfalso
        by_cases c6 : e - p ≤ 6
        · rw [hv, if_pos c6] at g
          have := pk_rng (f := f) (p := p) (n := (e - p).toNat) (by omega) (by omega) (fun y hy => hl (p + (y : Int)) (by omega) (by omega))
          omega
        · rw [hv, if_neg c6] at g
          omega
  rw [show N + 8 = (N + 5 + 1) + 2 by omega]
  refine l_skip 2 (N + 5 + 1) 47 (by decide) (by decide) ?_
  refine l_wend (j := 9) (ws := 47) (we := 49) h p0 pe ez (by decide) (by decide) (by decide) (by decide) (fun g1 g2 => ?_) (fun g => ?_)
  · refine ⟨?_, rfl⟩
    show _ = wdL ((28530, 10009) :: WL.drop 10) V
    rw [wdL, if_pos (iff.mp ⟨g1, g2⟩)]
    rfl
  · have e2 : wdL (WL.drop 9) V = wdL (WL.drop 10) V := by
      show wdL ((28530, 10009) :: WL.drop 10) V = _
      rw [wdL, if_neg (fun k => g (iff.mpr k))]
    rw [e2]
    exact wc10 h p0 pe ez hl hv (N := N)
theorem wc8 {f : Int → Int} {z p e : Int} {s : ZS} (h : TPX f z s) (p0 : 0 ≤ p) (pe : p < e) (ez : e ≤ z) (hl : ∀ y : Int, p ≤ y → y < e → 97 ≤ f y ∧ f y ≤ 122) {V : Int} (hv : V = if e - p ≤ 6 then pkV f p (e - p).toNat else 0) {N : Nat} : Rt (lX4_wordAt_37 34 p e (N + 12) s ((8 : Nat) : Int) ((43 : Nat) : Int) ((43 : Nat) : Int)) (fun v τ => v = wdL (WL.drop 8) V ∧ τ = s) := by
  have iff : (e - p = ((46 : Nat) : Int) - ((43 : Nat) : Int) ∧ ∀ y : Nat, 43 ≤ y → y < 46 → chL.getD y 0 = f (p + (y : Int) - ((43 : Nat) : Int))) ↔ V = 6385252 := by
    by_cases c : e - p = 3
    · have e1 : (e - p).toNat = 3 := by omega
      rw [hv, if_pos (by omega), e1, ← pk_w8 (fun y hy => hl (p + (y : Int)) (by omega) (by omega))]
      exact ⟨fun g => g.2, fun g => ⟨by omega, g⟩⟩
    · constructor
      · intro g
        exact absurd g.1 (by omega)
      · intro g
        exfalso
        by_cases c6 : e - p ≤ 6
        · rw [hv, if_pos c6] at g
          have := pk_rng (f := f) (p := p) (n := (e - p).toNat) (by omega) (by omega) (fun y hy => hl (p + (y : Int)) (by omega) (by omega))
          omega
        · rw [hv, if_neg c6] at g
          omega
  rw [show N + 12 = (N + 8 + 1) + 3 by omega]
  refine l_skip 3 (N + 8 + 1) 43 (by decide) (by decide) ?_
  refine l_wend (j := 8) (ws := 43) (we := 46) h p0 pe ez (by decide) (by decide) (by decide) (by decide) (fun g1 g2 => ?_) (fun g => ?_)
  · refine ⟨?_, rfl⟩
    show _ = wdL ((6385252, 10008) :: WL.drop 9) V
    rw [wdL, if_pos (iff.mp ⟨g1, g2⟩)]
    rfl
  · have e2 : wdL (WL.drop 8) V = wdL (WL.drop 9) V := by
      show wdL ((6385252, 10008) :: WL.drop 9) V = _
      rw [wdL, if_neg (fun k => g (iff.mpr k))]
    rw [e2]
    exact wc9 h p0 pe ez hl hv (N := N)
theorem wc7 {f : Int → Int} {z p e : Int} {s : ZS} (h : TPX f z s) (p0 : 0 ≤ p) (pe : p < e) (ez : e ≤ z) (hl : ∀ y : Int, p ≤ y → y < e → 97 ≤ f y ∧ f y ≤ 122) {V : Int} (hv : V = if e - p ≤ 6 then pkV f p (e - p).toNat else 0) {N : Nat} : Rt (lX4_wordAt_37 34 p e (N + 17) s ((7 : Nat) : Int) ((38 : Nat) : Int) ((38 : Nat) : Int)) (fun v τ => v = wdL (WL.drop 7) V ∧ τ = s) := by
  have iff : (e - p = ((42 : Nat) : Int) - ((38 : Nat) : Int) ∧ ∀ y : Nat, 38 ≤ y → y < 42 → chL.getD y 0 = f (p + (y : Int) - ((38 : Nat) : Int))) ↔ V = 1819243380 := by
    by_cases c : e - p = 4
    · have e1 : (e - p).toNat = 4 := by omega
      rw [hv, if_pos (by omega), e1, ← pk_w7 (fun y hy => hl (p + (y : Int)) (by omega) (by omega))]
      exact ⟨fun g => g.2, fun g => ⟨by omega, g⟩⟩
    · constructor
      · intro g
        exact absurd g.1 (by omega)
      · intro g
        exfalso
        by_cases c6 : e - p ≤ 6
        · rw [hv, if_pos c6] at g
          have := pk_rng (f := f) (p := p) (n := (e - p).toNat) (by omega) (by omega) (fun y hy => hl (p + (y : Int)) (by omega) (by omega))
          omega
        · rw [hv, if_neg c6] at g
          omega
  rw [show N + 17 = (N + 12 + 1) + 4 by omega]
  refine l_skip 4 (N + 12 + 1) 38 (by decide) (by decide) ?_
  refine l_wend (j := 7) (ws := 38) (we := 42) h p0 pe ez (by decide) (by decide) (by decide) (by decide) (fun g1 g2 => ?_) (fun g => ?_)
  · refine ⟨?_, rfl⟩
    show _ = wdL ((1819243380, 10007) :: WL.drop 8) V
    rw [wdL, if_pos (iff.mp ⟨g1, g2⟩)]
    rfl
  · have e2 : wdL (WL.drop 7) V = wdL (WL.drop 8) V := by
      show wdL ((1819243380, 10007) :: WL.drop 8) V = _
      rw [wdL, if_neg (fun k => g (iff.mpr k))]
    rw [e2]
    exact wc8 h p0 pe ez hl hv (N := N)
theorem wc6 {f : Int → Int} {z p e : Int} {s : ZS} (h : TPX f z s) (p0 : 0 ≤ p) (pe : p < e) (ez : e ≤ z) (hl : ∀ y : Int, p ≤ y → y < e → 97 ≤ f y ∧ f y ≤ 122) {V : Int} (hv : V = if e - p ≤ 6 then pkV f p (e - p).toNat else 0) {N : Nat} : Rt (lX4_wordAt_37 34 p e (N + 22) s ((6 : Nat) : Int) ((33 : Nat) : Int) ((33 : Nat) : Int)) (fun v τ => v = wdL (WL.drop 6) V ∧ τ = s) := by
  have iff : (e - p = ((37 : Nat) : Int) - ((33 : Nat) : Int) ∧ ∀ y : Nat, 33 ≤ y → y < 37 → chL.getD y 0 = f (p + (y : Int) - ((33 : Nat) : Int))) ↔ V = 1668248436 := by
    by_cases c : e - p = 4
    · have e1 : (e - p).toNat = 4 := by omega
      rw [hv, if_pos (by omega), e1, ← pk_w6 (fun y hy => hl (p + (y : Int)) (by omega) (by omega))]
      exact ⟨fun g => g.2, fun g => ⟨by omega, g⟩⟩
    · constructor
      · intro g
        exact absurd g.1 (by omega)
      · intro g
        exfalso
        by_cases c6 : e - p ≤ 6
        · rw [hv, if_pos c6] at g
          have := pk_rng (f := f) (p := p) (n := (e - p).toNat) (by omega) (by omega) (fun y hy => hl (p + (y : Int)) (by omega) (by omega))
          omega
        · rw [hv, if_neg c6] at g
          omega
  rw [show N + 22 = (N + 17 + 1) + 4 by omega]
  refine l_skip 4 (N + 17 + 1) 33 (by decide) (by decide) ?_
  refine l_wend (j := 6) (ws := 33) (we := 37) h p0 pe ez (by decide) (by decide) (by decide) (by decide) (fun g1 g2 => ?_) (fun g => ?_)
  · refine ⟨?_, rfl⟩
    show _ = wdL ((1668248436, 10006) :: WL.drop 7) V
    rw [wdL, if_pos (iff.mp ⟨g1, g2⟩)]
    rfl
  · have e2 : wdL (WL.drop 6) V = wdL (WL.drop 7) V := by
      show wdL ((1668248436, 10006) :: WL.drop 7) V = _
      rw [wdL, if_neg (fun k => g (iff.mpr k))]
    rw [e2]
    exact wc7 h p0 pe ez hl hv (N := N)
theorem wc5 {f : Int → Int} {z p e : Int} {s : ZS} (h : TPX f z s) (p0 : 0 ≤ p) (pe : p < e) (ez : e ≤ z) (hl : ∀ y : Int, p ≤ y → y < e → 97 ≤ f y ∧ f y ≤ 122) {V : Int} (hv : V = if e - p ≤ 6 then pkV f p (e - p).toNat else 0) {N : Nat} : Rt (lX4_wordAt_37 34 p e (N + 27) s ((5 : Nat) : Int) ((28 : Nat) : Int) ((28 : Nat) : Int)) (fun v τ => v = wdL (WL.drop 5) V ∧ τ = s) := by
  have iff : (e - p = ((32 : Nat) : Int) - ((28 : Nat) : Int) ∧ ∀ y : Nat, 28 ≤ y → y < 32 → chL.getD y 0 = f (p + (y : Int) - ((28 : Nat) : Int))) ↔ V = 1953459308 := by
    by_cases c : e - p = 4
    · have e1 : (e - p).toNat = 4 := by omega
      rw [hv, if_pos (by omega), e1, ← pk_w5 (fun y hy => hl (p + (y : Int)) (by omega) (by omega))]
      exact ⟨fun g => g.2, fun g => ⟨by omega, g⟩⟩
    · constructor
      · intro g
        exact absurd g.1 (by omega)
      · intro g
        exfalso
        by_cases c6 : e - p ≤ 6
        · rw [hv, if_pos c6] at g
          have := pk_rng (f := f) (p := p) (n := (e - p).toNat) (by omega) (by omega) (fun y hy => hl (p + (y : Int)) (by omega) (by omega))
          omega
        · rw [hv, if_neg c6] at g
          omega
  rw [show N + 27 = (N + 22 + 1) + 4 by omega]
  refine l_skip 4 (N + 22 + 1) 28 (by decide) (by decide) ?_
  refine l_wend (j := 5) (ws := 28) (we := 32) h p0 pe ez (by decide) (by decide) (by decide) (by decide) (fun g1 g2 => ?_) (fun g => ?_)
  · refine ⟨?_, rfl⟩
    show _ = wdL ((1953459308, 10005) :: WL.drop 6) V
    rw [wdL, if_pos (iff.mp ⟨g1, g2⟩)]
    rfl
  · have e2 : wdL (WL.drop 5) V = wdL (WL.drop 6) V := by
      show wdL ((1953459308, 10005) :: WL.drop 6) V = _
      rw [wdL, if_neg (fun k => g (iff.mpr k))]
    rw [e2]
    exact wc6 h p0 pe ez hl hv (N := N)
theorem wc4 {f : Int → Int} {z p e : Int} {s : ZS} (h : TPX f z s) (p0 : 0 ≤ p) (pe : p < e) (ez : e ≤ z) (hl : ∀ y : Int, p ≤ y → y < e → 97 ≤ f y ∧ f y ≤ 122) {V : Int} (hv : V = if e - p ≤ 6 then pkV f p (e - p).toNat else 0) {N : Nat} : Rt (lX4_wordAt_37 34 p e (N + 32) s ((4 : Nat) : Int) ((23 : Nat) : Int) ((23 : Nat) : Int)) (fun v τ => v = wdL (WL.drop 4) V ∧ τ = s) := by
  have iff : (e - p = ((27 : Nat) : Int) - ((23 : Nat) : Int) ∧ ∀ y : Nat, 23 ≤ y → y < 27 → chL.getD y 0 = f (p + (y : Int) - ((23 : Nat) : Int))) ↔ V = 1936683636 := by
    by_cases c : e - p = 4
    · have e1 : (e - p).toNat = 4 := by omega
      rw [hv, if_pos (by omega), e1, ← pk_w4 (fun y hy => hl (p + (y : Int)) (by omega) (by omega))]
      exact ⟨fun g => g.2, fun g => ⟨by omega, g⟩⟩
    · constructor
      · intro g
        exact absurd g.1 (by omega)
      · intro g
        exfalso
        by_cases c6 : e - p ≤ 6
        · rw [hv, if_pos c6] at g
          have := pk_rng (f := f) (p := p) (n := (e - p).toNat) (by omega) (by omega) (fun y hy => hl (p + (y : Int)) (by omega) (by omega))
          omega
        · rw [hv, if_neg c6] at g
          omega
  rw [show N + 32 = (N + 27 + 1) + 4 by omega]
  refine l_skip 4 (N + 27 + 1) 23 (by decide) (by decide) ?_
  refine l_wend (j := 4) (ws := 23) (we := 27) h p0 pe ez (by decide) (by decide) (by decide) (by decide) (fun g1 g2 => ?_) (fun g => ?_)
  · refine ⟨?_, rfl⟩
    show _ = wdL ((1936683636, 10004) :: WL.drop 5) V
    rw [wdL, if_pos (iff.mp ⟨g1, g2⟩)]
    rfl
  · have e2 : wdL (WL.drop 4) V = wdL (WL.drop 5) V := by
      show wdL ((1936683636, 10004) :: WL.drop 5) V = _
      rw [wdL, if_neg (fun k => g (iff.mpr k))]
    rw [e2]
    exact wc5 h p0 pe ez hl hv (N := N)
theorem wc3 {f : Int → Int} {z p e : Int} {s : ZS} (h : TPX f z s) (p0 : 0 ≤ p) (pe : p < e) (ez : e ≤ z) (hl : ∀ y : Int, p ≤ y → y < e → 97 ≤ f y ∧ f y ≤ 122) {V : Int} (hv : V = if e - p ≤ 6 then pkV f p (e - p).toNat else 0) {N : Nat} : Rt (lX4_wordAt_37 34 p e (N + 39) s ((3 : Nat) : Int) ((16 : Nat) : Int) ((16 : Nat) : Int)) (fun v τ => v = wdL (WL.drop 3) V ∧ τ = s) := by
  have iff : (e - p = ((22 : Nat) : Int) - ((16 : Nat) : Int) ∧ ∀ y : Nat, 16 ≤ y → y < 22 → chL.getD y 0 = f (p + (y : Int) - ((16 : Nat) : Int))) ↔ V = 120299592184933 := by
    by_cases c : e - p = 6
    · have e1 : (e - p).toNat = 6 := by omega
      rw [hv, if_pos (by omega), e1, ← pk_w3 (fun y hy => hl (p + (y : Int)) (by omega) (by omega))]
      exact ⟨fun g => g.2, fun g => ⟨by omega, g⟩⟩
    · constructor
      · intro g
        exact absurd g.1 (by omega)
      · intro g
        exfalso
        by_cases c6 : e - p ≤ 6
        · rw [hv, if_pos c6] at g
          have := pk_rng (f := f) (p := p) (n := (e - p).toNat) (by omega) (by omega) (fun y hy => hl (p + (y : Int)) (by omega) (by omega))
          omega
        · rw [hv, if_neg c6] at g
          omega
  rw [show N + 39 = (N + 32 + 1) + 6 by omega]
  refine l_skip 6 (N + 32 + 1) 16 (by decide) (by decide) ?_
  refine l_wend (j := 3) (ws := 16) (we := 22) h p0 pe ez (by decide) (by decide) (by decide) (by decide) (fun g1 g2 => ?_) (fun g => ?_)
  · refine ⟨?_, rfl⟩
    show _ = wdL ((120299592184933, 10003) :: WL.drop 4) V
    rw [wdL, if_pos (iff.mp ⟨g1, g2⟩)]
    rfl
  · have e2 : wdL (WL.drop 3) V = wdL (WL.drop 4) V := by
      show wdL ((120299592184933, 10003) :: WL.drop 4) V = _
      rw [wdL, if_neg (fun k => g (iff.mpr k))]
    rw [e2]
    exact wc4 h p0 pe ez hl hv (N := N)
theorem wc2 {f : Int → Int} {z p e : Int} {s : ZS} (h : TPX f z s) (p0 : 0 ≤ p) (pe : p < e) (ez : e ≤ z) (hl : ∀ y : Int, p ≤ y → y < e → 97 ≤ f y ∧ f y ≤ 122) {V : Int} (hv : V = if e - p ≤ 6 then pkV f p (e - p).toNat else 0) {N : Nat} : Rt (lX4_wordAt_37 34 p e (N + 44) s ((2 : Nat) : Int) ((11 : Nat) : Int) ((11 : Nat) : Int)) (fun v τ => v = wdL (WL.drop 2) V ∧ τ = s) := by
  have iff : (e - p = ((15 : Nat) : Int) - ((11 : Nat) : Int) ∧ ∀ y : Nat, 11 ≤ y → y < 15 → chL.getD y 0 = f (p + (y : Int) - ((11 : Nat) : Int))) ↔ V = 1818326117 := by
    by_cases c : e - p = 4
    · have e1 : (e - p).toNat = 4 := by omega
      rw [hv, if_pos (by omega), e1, ← pk_w2 (fun y hy => hl (p + (y : Int)) (by omega) (by omega))]
      exact ⟨fun g => g.2, fun g => ⟨by omega, g⟩⟩
    · constructor
      · intro g
        exact absurd g.1 (by omega)
      · intro g
        exfalso
        by_cases c6 : e - p ≤ 6
        · rw [hv, if_pos c6] at g
          have := pk_rng (f := f) (p := p) (n := (e - p).toNat) (by omega) (by omega) (fun y hy => hl (p + (y : Int)) (by omega) (by omega))
          omega
        · rw [hv, if_neg c6] at g
          omega
  rw [show N + 44 = (N + 39 + 1) + 4 by omega]
  refine l_skip 4 (N + 39 + 1) 11 (by decide) (by decide) ?_
  refine l_wend (j := 2) (ws := 11) (we := 15) h p0 pe ez (by decide) (by decide) (by decide) (by decide) (fun g1 g2 => ?_) (fun g => ?_)
  · refine ⟨?_, rfl⟩
    show _ = wdL ((1818326117, 10002) :: WL.drop 3) V
    rw [wdL, if_pos (iff.mp ⟨g1, g2⟩)]
    rfl
  · have e2 : wdL (WL.drop 2) V = wdL (WL.drop 3) V := by
      show wdL ((1818326117, 10002) :: WL.drop 3) V = _
      rw [wdL, if_neg (fun k => g (iff.mpr k))]
    rw [e2]
    exact wc3 h p0 pe ez hl hv (N := N)
theorem wc1 {f : Int → Int} {z p e : Int} {s : ZS} (h : TPX f z s) (p0 : 0 ≤ p) (pe : p < e) (ez : e ≤ z) (hl : ∀ y : Int, p ≤ y → y < e → 97 ≤ f y ∧ f y ≤ 122) {V : Int} (hv : V = if e - p ≤ 6 then pkV f p (e - p).toNat else 0) {N : Nat} : Rt (lX4_wordAt_37 34 p e (N + 50) s ((1 : Nat) : Int) ((5 : Nat) : Int) ((5 : Nat) : Int)) (fun v τ => v = wdL (WL.drop 1) V ∧ τ = s) := by
  have iff : (e - p = ((10 : Nat) : Int) - ((5 : Nat) : Int) ∧ ∀ y : Nat, 5 ≤ y → y < 10 → chL.getD y 0 = f (p + (y : Int) - ((5 : Nat) : Int))) ↔ V = 435426585721 := by
    by_cases c : e - p = 5
    · have e1 : (e - p).toNat = 5 := by omega
      rw [hv, if_pos (by omega), e1, ← pk_w1 (fun y hy => hl (p + (y : Int)) (by omega) (by omega))]
      exact ⟨fun g => g.2, fun g => ⟨by omega, g⟩⟩
    · constructor
      · intro g
        exact absurd g.1 (by omega)
      · intro g
        exfalso
        by_cases c6 : e - p ≤ 6
        · rw [hv, if_pos c6] at g
          have := pk_rng (f := f) (p := p) (n := (e - p).toNat) (by omega) (by omega) (fun y hy => hl (p + (y : Int)) (by omega) (by omega))
          omega
        · rw [hv, if_neg c6] at g
          omega
  rw [show N + 50 = (N + 44 + 1) + 5 by omega]
  refine l_skip 5 (N + 44 + 1) 5 (by decide) (by decide) ?_
  refine l_wend (j := 1) (ws := 5) (we := 10) h p0 pe ez (by decide) (by decide) (by decide) (by decide) (fun g1 g2 => ?_) (fun g => ?_)
  · refine ⟨?_, rfl⟩
    show _ = wdL ((435426585721, 10001) :: WL.drop 2) V
    rw [wdL, if_pos (iff.mp ⟨g1, g2⟩)]
    rfl
  · have e2 : wdL (WL.drop 1) V = wdL (WL.drop 2) V := by
      show wdL ((435426585721, 10001) :: WL.drop 2) V = _
      rw [wdL, if_neg (fun k => g (iff.mpr k))]
    rw [e2]
    exact wc2 h p0 pe ez hl hv (N := N)
theorem wc0 {f : Int → Int} {z p e : Int} {s : ZS} (h : TPX f z s) (p0 : 0 ≤ p) (pe : p < e) (ez : e ≤ z) (hl : ∀ y : Int, p ≤ y → y < e → 97 ≤ f y ∧ f y ≤ 122) {V : Int} (hv : V = if e - p ≤ 6 then pkV f p (e - p).toNat else 0) {N : Nat} : Rt (lX4_wordAt_37 34 p e (N + 55) s ((0 : Nat) : Int) ((0 : Nat) : Int) ((0 : Nat) : Int)) (fun v τ => v = wdL (WL.drop 0) V ∧ τ = s) := by
  have iff : (e - p = ((4 : Nat) : Int) - ((0 : Nat) : Int) ∧ ∀ y : Nat, 0 ≤ y → y < 4 → chL.getD y 0 = f (p + (y : Int) - ((0 : Nat) : Int))) ↔ V = 2002872692 := by
    by_cases c : e - p = 4
    · have e1 : (e - p).toNat = 4 := by omega
      rw [hv, if_pos (by omega), e1, ← pk_w0 (fun y hy => hl (p + (y : Int)) (by omega) (by omega))]
      exact ⟨fun g => g.2, fun g => ⟨by omega, g⟩⟩
    · constructor
      · intro g
        exact absurd g.1 (by omega)
      · intro g
        exfalso
        by_cases c6 : e - p ≤ 6
        · rw [hv, if_pos c6] at g
          have := pk_rng (f := f) (p := p) (n := (e - p).toNat) (by omega) (by omega) (fun y hy => hl (p + (y : Int)) (by omega) (by omega))
          omega
        · rw [hv, if_neg c6] at g
          omega
  rw [show N + 55 = (N + 50 + 1) + 4 by omega]
  refine l_skip 4 (N + 50 + 1) 0 (by decide) (by decide) ?_
  refine l_wend (j := 0) (ws := 0) (we := 4) h p0 pe ez (by decide) (by decide) (by decide) (by decide) (fun g1 g2 => ?_) (fun g => ?_)
  · refine ⟨?_, rfl⟩
    show _ = wdL ((2002872692, 10000) :: WL.drop 1) V
    rw [wdL, if_pos (iff.mp ⟨g1, g2⟩)]
    rfl
  · have e2 : wdL (WL.drop 0) V = wdL (WL.drop 1) V := by
      show wdL ((2002872692, 10000) :: WL.drop 1) V = _
      rw [wdL, if_neg (fun k => g (iff.mpr k))]
    rw [e2]
    exact wc1 h p0 pe ez hl hv (N := N)
theorem l_wA2 {f : Int → Int} {z p : Int} {s : ZS} (h : TPX f z s) {K : ZS → Int → Option (Int × ZS)} {P : Int → ZS → Prop} : ∀ (n N : Nat) (x : Int), 0 ≤ x → x + (n : Int) = z → n < N → Rt (K s (runE f 1 n x)) P → Rt (lX4_wordAt_2 34 p K N s x) P
  | n, 0, x, h0, h1, h2, q => by omega
  | 0, N + 1, x, h0, h1, h2, q => by
    rw [lX4_wordAt_2]
    exact rt_tz h (rt_pos (by omega) q)
  | n + 1, N + 1, x, h0, h1, h2, q => by
    rw [lX4_wordAt_2]
    have hz := h.2.2.1
    refine rt_tz h (rt_neg (by omega) (rt_tp h h0 (by omega) (rt_b (rt_e (f_lookOf s _) ?_))))
    unfold runE at q
    by_cases c : lkF (f x) = 1
    · rw [if_pos c] at q
      refine rt_pos c ?_
      rw [wr (x := x + 1) (by omega) (by omega)]
      exact l_wA2 h n N (x + 1) (by omega) (by omega) (by omega) q
    · rw [if_neg c] at q
      exact rt_neg c q
theorem lk_let {c : Int} : lkF c = 1 ↔ 97 ≤ c ∧ c ≤ 122 := by
  unfold lkF
  (repeat' split) <;> omega
theorem lk_dig {c : Int} : lkF c = 2 ↔ 48 ≤ c ∧ c ≤ 57 := by
  unfold lkF
  (repeat' split) <;> omega
theorem lk_bl {c : Int} : lkF c = 0 ↔ c = 32 ∨ c = 10 := by
  unfold lkF
  (repeat' split) <;> omega
theorem f_wordAt {f : Int → Int} {z p : Int} {s : ZS} (h : TPX f z s) (p0 : 0 ≤ p) (p1 : p < z) (hk : lkF (f p) = 1) : fX4_wordAt s 34 p = some (wdL WL (wv f z p), s) := by
  refine rt_is ?_
  unfold fX4_wordAt
  have he : eT f z p = runE f 1 (z - p).toNat p := by unfold eT; rw [if_neg (by omega), hk]
  have hs := eT_spec (f := f) p1
  have hz := h.2.2.1
  refine l_wA2 h (z - p).toNat 1000 p p0 (by omega) (by omega) ?_
  rw [← he]
  have := wc0 h p0 hs.1 hs.2.1 (fun y y0 y1 => lk_let.mp (by rw [hs.2.2.1 y y0 y1]; exact hk)) (V := wv f z p) rfl (N := 1000 - 55)
  rw [show 1000 - 55 + 55 = 1000 from by decide] at this
  exact this
theorem l_nA7 {f : Int → Int} {z p : Int} {s : ZS} (h : TPX f z s) {K : ZS → Int → Int → Option (Int × ZS)} {P : Int → ZS → Prop} : ∀ (n N c : Nat), 0 ≤ p → p + (c : Int) + (n : Int) = z → n < N → (∀ m : Nat, p + (m : Int) = runE f 2 n (p + (c : Int)) → Rt (K s (nmV f p m) (m : Int)) P) → Rt (lX4_numberAt_7 34 K N s (nmV f p c) (c : Int) (p + (c : Int))) P
  | n, 0, c, h0, h1, h2, q => by omega
  | 0, N + 1, c, h0, h1, h2, q => by
    rw [lX4_numberAt_7]
    exact rt_tz h (rt_pos (by omega) (q c rfl))
  | n + 1, N + 1, c, h0, h1, h2, q => by
    rw [lX4_numberAt_7]
    have hz := h.2.2.1
    refine rt_tz h (rt_neg (by omega) (rt_tp h (by omega) (by omega) (rt_b (rt_e (f_lookOf s _) ?_))))
    unfold runE at q
    by_cases e : lkF (f (p + (c : Int))) = 2
    · simp only [if_pos e] at q
      refine rt_pos e (rt_tp h (by omega) (by omega) ?_)
      rw [wr1 c (by omega), wr (x := p + (c : Int) + 1) (by omega) (by omega)]
      have := l_nA7 h n N (c + 1) h0 (by omega) (by omega) (fun m hm => q m (by rw [hm]; congr 1; omega))
      rw [show p + ((c + 1 : Nat) : Int) = p + (c : Int) + 1 by omega] at this
      exact this
    · simp only [if_neg e] at q
      exact rt_neg e (q c rfl)
theorem f_numberAt {f : Int → Int} {z p : Int} {s : ZS} (h : TPX f z s) (p0 : 0 ≤ p) (p1 : p < z) (hk : lkF (f p) = 2) : fX4_numberAt s 34 p = some (nmT f z p, s) := by
  refine rt_is ?_
  unfold fX4_numberAt
  have he : eT f z p = runE f 2 (z - p).toNat p := by unfold eT; rw [if_neg (by omega), hk]
  have hz := h.2.2.1
  have := l_nA7 h (K := fun (s19 : ZS) (x20 x21 : Int) => if 4 < x21 then (some (30001, s19)) else (some (x20, s19))) (P := fun v τ => v = nmT f z p ∧ τ = s) (z - p).toNat 1000 0 p0 (by omega) (by omega) (fun m hm => ?_)
  · rw [show p + ((0 : Nat) : Int) = p by omega] at this
    exact this
  · rw [show p + ((0 : Nat) : Int) = p by omega, ← he] at hm
    unfold nmT
    by_cases c : 4 < (m : Int)
    · exact rt_pos c (rt_ret ⟨by rw [if_pos (by omega)], rfl⟩)
    · refine rt_neg c (rt_ret ⟨?_, rfl⟩)
      rw [if_neg (by omega), show (eT f z p - p).toNat = m by omega]
theorem iB_in {c : Int} (h0 : 0 ≤ c) (h1 : c ≤ 255) : iB c = if c < 128 then c else c - 256 := by
  have : ∀ n : Nat, n < 256 → iB (n : Int) = if (n : Int) < 128 then (n : Int) else (n : Int) - 256 := by decide +kernel
  have e := this c.toNat (by omega)
  rw [show ((c.toNat : Nat) : Int) = c by omega] at e
  exact e
theorem iC_id {c : Int} (h0 : 0 ≤ c) (h1 : c ≤ 255) : iC c = c := by
  have : ∀ n : Nat, n < 256 → iC (n : Int) = (n : Int) := by decide +kernel
  have e := this c.toNat (by omega)
  rw [show ((c.toNat : Nat) : Int) = c by omega] at e
  exact e
theorem sg_row : zbt 1 0 = 40 ∧ zbt 1 1 = 41 ∧ zbt 1 2 = 59 ∧ zbt 1 3 = 43 ∧ zbt 1 4 = 45 ∧ zbt 1 5 = 42 ∧ zbt 1 6 = 60 ∧ zbt 1 7 = 61 := by decide +kernel
