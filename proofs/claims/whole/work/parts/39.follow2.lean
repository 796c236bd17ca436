/-! the class's line: the whole of it -/
theorem go_arr {R : List Int} {cm : Int → Int} {rt : Nat → Nat} {t : Nat} {c : Int} (h : c ∈ goL R cm rt t) : c ∈ arr R cm rt t := List.mem_of_mem_take h
theorem go_R {R : List Int} {cm : Int → Int} {rt : Nat → Nat} {t : Nat} {c : Int} (h : c ∈ goL R cm rt t) : c ∈ R := (arr_mem.mp (go_arr h)).1
theorem go_pas {R : List Int} (hR : R.Nodup) {cm : Int → Int} {rt : Nat → Nat} (hc : ∀ c ∈ R, 0 ≤ cm c) {t : Nat} {c : Int} (h : c ∈ goL R cm rt t) : pasT R cm rt c t = -1 := ((arr_iff hR hc (go_R h) t).mp (go_arr h)).2
theorem ordL_spec {R0 R1 : List Int} (h0 : R0.Nodup) (h1 : R1.Nodup) (hd : ∀ x, x ∈ R0 → x ∈ R1 → False) {cm : Int → Int} (c0 : ∀ c ∈ R0, 0 ≤ cm c) (c1 : ∀ c ∈ R1, 0 ≤ cm c) {r0 r1 : Nat → Nat} : ∀ t : Nat, (ordL (goL R0 cm r0) (goL R1 cm r1) t).Nodup ∧ ∀ x ∈ ordL (goL R0 cm r0) (goL R1 cm r1) t, (x ∈ R0 ∧ pasT R0 cm r0 x t ≠ -1) ∨ (x ∈ R1 ∧ pasT R1 cm r1 x t ≠ -1)
  | 0 => ⟨List.Pairwise.nil, fun x h => by cases h⟩
  | t + 1 => by
    obtain ⟨i1, i2⟩ := ordL_spec h0 h1 hd c0 c1 (r0 := r0) (r1 := r1) t
    have n0 : (goL R0 cm r0 t).Nodup := List.Sublist.nodup ((List.take_sublist _ _).trans (arr_sub R0 cm r0 t)) h0
    have n1 : (goL R1 cm r1 t).Nodup := List.Sublist.nodup ((List.take_sublist _ _).trans (arr_sub R1 cm r1 t)) h1
    unfold ordL
    refine ⟨List.nodup_append.mpr ⟨i1, List.nodup_append.mpr ⟨n0, n1, fun x hx y hy e => hd x (go_R hx) (e ▸ go_R hy)⟩, fun x hx y hy e => ?_⟩, fun x hx => ?_⟩
    · subst e
      rcases List.mem_append.mp hy with hy | hy
      · rcases i2 x hx with ⟨a, b⟩ | ⟨a, b⟩
        · exact b (go_pas h0 c0 hy)
        · exact hd x (go_R hy) a
      · rcases i2 x hx with ⟨a, b⟩ | ⟨a, b⟩
        · exact hd x a (go_R hy)
        · exact b (go_pas h1 c1 hy)
    · have keep : ∀ (R : List Int) (r : Nat → Nat), pasT R cm r x t ≠ -1 → pasT R cm r x (t + 1) ≠ -1 := by
        intro R r q
        rw [pasT_succ, if_neg (fun w => q w.1)]; exact q
      have gone : ∀ (R : List Int) (r : Nat → Nat), pasT R cm r x t = -1 → x ∈ goL R cm r t → pasT R cm r x (t + 1) ≠ -1 := by
        intro R r q w
        rw [pasT_succ, if_pos ⟨q, w⟩]; omega
      rcases List.mem_append.mp hx with hx | hx
      · rcases i2 x hx with ⟨a, b⟩ | ⟨a, b⟩
        · exact Or.inl ⟨a, keep _ _ b⟩
        · exact Or.inr ⟨a, keep _ _ b⟩
      · rcases List.mem_append.mp hx with hx | hx
        · exact Or.inl ⟨go_R hx, gone _ _ (go_pas h0 c0 hx) hx⟩
        · exact Or.inr ⟨go_R hx, gone _ _ (go_pas h1 c1 hx) hx⟩
def pasO (ch : Int → Int) (R0 R1 : List Int) (cm : Int → Int) (r0 r1 : Nat → Nat) (c : Int) (t : Nat) : Int := if ch c / 24 = 0 then pasT R0 cm r0 c t else pasT R1 cm r1 c t
theorem pas_step {ch : Int → Int} {R0 R1 : List Int} (h0 : R0.Nodup) (h1 : R1.Nodup) (b0 : ∀ x ∈ R0, ch x / 24 = 0) (b1 : ∀ x ∈ R1, ch x / 24 = 1) {cm : Int → Int} (c0 : ∀ c ∈ R0, 0 ≤ cm c) (c1 : ∀ c ∈ R1, 0 ≤ cm c) {r0 r1 : Nat → Nat} (c : Int) (t : Nat) : (if c ∈ goL R1 cm r1 t then (t : Int) else if c ∈ goL R0 cm r0 t then (t : Int) else pasO ch R0 R1 cm r0 r1 c t) = pasO ch R0 R1 cm r0 r1 c (t + 1) := by
  unfold pasO
  by_cases e : ch c / 24 = 0
  · rw [if_pos e, if_pos e, if_neg (fun q => by have := b1 c (go_R q); omega), pasT_succ]
    by_cases g : c ∈ goL R0 cm r0 t
    · rw [if_pos g, if_pos ⟨go_pas h0 c0 g, g⟩]
    · rw [if_neg g, if_neg (fun q => g q.2)]
  · rw [if_neg e, if_neg e, pasT_succ]
    by_cases g : c ∈ goL R1 cm r1 t
    · rw [if_pos g, if_pos ⟨go_pas h1 c1 g, g⟩]
    · rw [if_neg g, if_neg (fun q => by have := b0 c (go_R q); omega), if_neg (fun q => g q.2)]
theorem mem_map_bits {m : Nat} {R : List Int} (h : ∀ j ∈ bitsL m, j < R.length) (x : Int) (hx : x ∈ mpR R m) : x ∈ R := by
  obtain ⟨j, hj, e⟩ := List.mem_map.mp hx
  have := h j hj
  rw [← e, List.getD_eq_getElem?_getD, List.getElem?_eq_getElem this]
  exact List.getElem_mem this
theorem TB.or {m m' : Nat} {R : List Int} {p q : Int → Bool} (h : TB m R p) (k : TB m' R q) : TB (m ||| m') R (fun c => p c || q c) := by
  intro j hj
  rw [Nat.testBit_or, h j hj, k j hj]
  cases decide (j < R.length) <;> simp
def rtN (rt : Int → Int → Int) (g : Int) (t : Nat) : Nat := (rt g (t : Int)).toNat
def Rg (n k w : Int) (ch so : Int → Int) (ln : Int → Int → Int) (g : Int) : List Int := rk (keyO k (cmO ln so ch) so) (pG ch (cmO ln so ch) w g) n.toNat
theorem Rg_srt {n k w : Int} {ch so : Int → Int} {ln : Int → Int → Int} {g : Int} : (Rg n k w ch so ln g).Pairwise (lx (keyO k (cmO ln so ch) so)) := rk_sorted
theorem Rg_nd {n k w : Int} {ch so : Int → Int} {ln : Int → Int → Int} {g : Int} : (Rg n k w ch so ln g).Nodup := srt_nodup rk_sorted
theorem Rg_mem {n k w : Int} {ch so : Int → Int} {ln : Int → Int → Int} {g x : Int} : x ∈ Rg n k w ch so ln g ↔ (0 ≤ x ∧ x < n) ∧ x ≠ w ∧ cmO ln so ch x ≠ -1 ∧ ch x / 24 = g := by
  unfold Rg
  rw [rk_mem]
  unfold pG
  simp only [Bool.and_eq_true, decide_eq_true_eq]
  constructor
  · rintro ⟨a, b, c⟩; exact ⟨⟨a, by omega⟩, c⟩
  · rintro ⟨⟨a, b⟩, c⟩; exact ⟨a, by omega, c⟩
theorem Rg_len {n k w : Int} {ch so : Int → Int} {ln : Int → Int → Int} {g : Int} (h : n ≤ 16) : (Rg n k w ch so ln g).length ≤ 16 := by
  have := rk_len (key := keyO k (cmO ln so ch) so) (p := pG ch (cmO ln so ch) w g) (n := n.toNat)
  unfold Rg
  omega
/-- when a cart passes, who passed in which order: with all carts in the line -/
def pasA (n k : Int) (ch so : Int → Int) (ln rt : Int → Int → Int) (c : Int) : Int := pasO ch (Rg n k (-1) ch so ln 0) (Rg n k (-1) ch so ln 1) (cmO ln so ch) (rtN rt 0) (rtN rt 1) c 24
def ordA (n k : Int) (ch so : Int → Int) (ln rt : Int → Int → Int) (t : Nat) : List Int := ordL (goL (Rg n k (-1) ch so ln 0) (cmO ln so ch) (rtN rt 0)) (goL (Rg n k (-1) ch so ln 1) (cmO ln so ch) (rtN rt 1)) t
theorem l_follow {W n k : Int} {ch so : Int → Int} {ln rt : Int → Int → Int} :
    ∀ (N t f0 f1 : Nat) (s : ZS), LV s W n k ch so ln rt → Gth s n k (-1) ch so ln → t ≤ 24 → 24 - t < N → f0 < 65536 → f1 < 65536 → TB f0 (Rg n k (-1) ch so ln 0) (fun c => decide (c ∈ lft (Rg n k (-1) ch so ln 0) (cmO ln so ch) (rtN rt 0) t)) → TB f1 (Rg n k (-1) ch so ln 1) (fun c => decide (c ∈ lft (Rg n k (-1) ch so ln 1) (cmO ln so ch) (rtN rt 1) t)) → Ord s (ordA n k ch so ln rt t) → (∀ c : Int, 0 ≤ c → c < 16 → sM s 19 c = pasO ch (Rg n k (-1) ch so ln 0) (Rg n k (-1) ch so ln 1) (cmO ln so ch) (rtN rt 0) (rtN rt 1) c t) →
    Rt (lX2_follow_39 4 N s (f0 : Int) (f1 : Int) (t : Int)) (fun _ τ => Ch lpS s τ ∧ Ord τ (ordA n k ch so ln rt 24) ∧ ∀ c : Int, 0 ≤ c → c < 16 → sM τ 19 c = pasA n k ch so ln rt c)
  | 0, t, f0, f1, s, _, _, _, h, _, _, _, _, _, _ => by omega
  | N + 1, t, f0, f1, s, hV, hG, ht, hN, hf0, hf1, hT0, hT1, hO, hP => by
    have hF := hV.1
    have h9 := hF.2.2.2
    have hn16 : 0 ≤ n ∧ n ≤ 16 := hV.2.2.2.1.2
    rw [lX2_follow_39]
    by_cases he : (24 : Int) ≤ (t : Int)
    · have : t = 24 := by omega
      subst this
      exact rt_pos he (rt_ret ⟨Ch.rf, hO, hP⟩)
    · refine rt_neg he ?_
      obtain ⟨m0, x1, x2, x3⟩ := (hG.2 0 (by omega) (by omega)).2 t (by omega)
      obtain ⟨m1, y1, y2, y3⟩ := (hG.2 1 (by omega) (by omega)).2 t (by omega)
      have x1' := hd (show sM s 29 (t : Int) = (m0 : Int) by simpa using x1)
      clear x1
      replace y1 := hd y1
      have hL0 := (hG.2 0 (by omega) (by omega)).1
      have hL1 := (hG.2 1 (by omega) (by omega)).1
      obtain ⟨r0a, r0⟩ := hV.2.2.2.2.2.2.2.2.2 0 (t : Int) (by omega) (by omega) (by omega) (by omega)
      have r1 := (hV.2.2.2.2.2.2.2.2.2 1 (t : Int) (by omega) (by omega) (by omega) (by omega)).2
      replace r0a := hd r0a
      have hcm : ∀ g c : Int, c ∈ Rg n k (-1) ch so ln g → 0 ≤ cmO ln so ch c := by
        intro g c hc
        obtain ⟨⟨c0, c1⟩, -, c2, -⟩ := Rg_mem.mp hc
        have := hV.cm c0 c1
        omega
      have hrng : ∀ g c : Int, c ∈ Rg n k (-1) ch so ln g → 0 ≤ c ∧ c < 16 := by
        intro g c hc
        obtain ⟨⟨c0, c1⟩, -⟩ := Rg_mem.mp hc
        omega
      have hdis : ∀ x, x ∈ Rg n k (-1) ch so ln 0 → x ∈ Rg n k (-1) ch so ln 1 → False := by
        intro x hx hy
        have := (Rg_mem.mp hx).2.2.2
        have := (Rg_mem.mp hy).2.2.2
        omega
      have hsp := ordL_spec (R0 := Rg n k (-1) ch so ln 0) (R1 := Rg n k (-1) ch so ln 1) Rg_nd Rg_nd hdis (hcm 0) (hcm 1) (r0 := rtN rt 0) (r1 := rtN rt 1)
      have hA0 := (hT0.or (m' := m0) (R := Rg n k (-1) ch so ln 0) (q := fun c => decide (cmO ln so ch c = (t : Int))) x3)
      have hA1 := (hT1.or (m' := m1) (R := Rg n k (-1) ch so ln 1) (q := fun c => decide (cmO ln so ch c = (t : Int))) y3)
      have hM0 : mpR (Rg n k (-1) ch so ln 0) (f0 ||| m0) = arr (Rg n k (-1) ch so ln 0) (cmO ln so ch) (rtN rt 0) t := hA0.list (Rg_len hn16.2)
      have hM1 : mpR (Rg n k (-1) ch so ln 1) (f1 ||| m1) = arr (Rg n k (-1) ch so ln 1) (cmO ln so ch) (rtN rt 1) t := hA1.list (Rg_len hn16.2)
      have hor0 : f0 ||| m0 < 65536 := Nat.or_lt_two_pow (n := 16) hf0 x2
      have hor1 : f1 ||| m1 < 65536 := Nat.or_lt_two_pow (n := 16) hf1 y2
      have hb0 : (bitsL (f0 ||| m0)).length = (arr (Rg n k (-1) ch so ln 0) (cmO ln so ch) (rtN rt 0) t).length := by rw [← hM0]; unfold mpR; rw [List.length_map]
      have hb1 : (bitsL (f1 ||| m1)).length = (arr (Rg n k (-1) ch so ln 1) (cmO ln so ch) (rtN rt 1) t).length := by rw [← hM1]; unfold mpR; rw [List.length_map]
      have hnd0 : (ordA n k ch so ln rt t ++ arr (Rg n k (-1) ch so ln 0) (cmO ln so ch) (rtN rt 0) t).Nodup := by
        refine List.nodup_append.mpr ⟨(hsp t).1, List.Sublist.nodup (arr_sub _ _ _ _) Rg_nd, fun x hx y hy e => ?_⟩
        subst e
        have hxR := (arr_mem.mp hy).1
        rcases (hsp t).2 x hx with ⟨a, b⟩ | ⟨a, b⟩
        · exact b ((arr_iff Rg_nd (hcm 0) hxR t).mp hy).2
        · exact hdis x hxR a
      have hl0 := nd_len 16 _ hnd0 (fun x hx => by
        rcases List.mem_append.mp hx with hx | hx
        · rcases (hsp t).2 x hx with ⟨a, b⟩ | ⟨a, b⟩
          · exact hrng _ _ a
          · exact hrng _ _ a
        · exact hrng _ _ (arr_mem.mp hx).1)
      have hnd1 : ((ordA n k ch so ln rt t ++ goL (Rg n k (-1) ch so ln 0) (cmO ln so ch) (rtN rt 0) t) ++ arr (Rg n k (-1) ch so ln 1) (cmO ln so ch) (rtN rt 1) t).Nodup := by
        refine List.nodup_append.mpr ⟨List.Sublist.nodup (List.Sublist.append_left (List.take_sublist _ _) _) hnd0, List.Sublist.nodup (arr_sub _ _ _ _) Rg_nd, fun x hx y hy e => ?_⟩
        subst e
        have hxR := (arr_mem.mp hy).1
        rcases List.mem_append.mp hx with hx | hx
        · rcases (hsp t).2 x hx with ⟨a, b⟩ | ⟨a, b⟩
          · exact hdis x a hxR
          · exact b ((arr_iff Rg_nd (hcm 1) hxR t).mp hy).2
        · exact hdis x (go_R hx) hxR
      have hl1 := nd_len 16 _ hnd1 (fun x hx => by
        rcases List.mem_append.mp hx with hx | hx
        · rcases List.mem_append.mp hx with hx | hx
          · rcases (hsp t).2 x hx with ⟨a, b⟩ | ⟨a, b⟩
            · exact hrng _ _ a
            · exact hrng _ _ a
          · exact hrng _ _ (go_R hx)
        · exact hrng _ _ (arr_mem.mp hx).1)
      rw [List.length_append] at hl0 hl1
      repeat (first
    | with_reducible refine rt_b ?_
    | with_reducible refine rt_jn ?_
    | ((with_reducible refine rt_pos ?_ ?_); (· omega))
    | ((with_reducible refine rt_neg ?_ ?_); (· omega))
    | ((with_reducible refine rt_v ?_ ?_); · simp (disch := omega) only [true_and, and_true, sM_ne, sM_eq, sM_neR, sM_eqR, sK_upM, sK_upR, sL_upM, sL_upR, sN_upM, sN_upR, sT_upM, sT_upR, sN_upM, Int.reduceAdd, Int.reduceMul, Int.reduceSub, Int.reduceNeg, Int.zero_add, Int.add_zero, hF.c, x1' ()])
    | ((with_reducible refine rt_g ?_ ?_); (· simp (disch := omega) only [true_and, and_true, sM_ne, sM_eq, sM_neR, sM_eqR, sK_upM, sK_upR, sL_upM, sL_upR, sN_upM, sN_upR, sT_upM, sT_upR, sN_upM, Int.reduceAdd, Int.reduceMul, Int.reduceSub, Int.reduceNeg, Int.zero_add, Int.add_zero, hF.c, x1' ()]); (try simp (disch := omega) only [true_and, and_true, sM_ne, sM_eq, sM_neR, sM_eqR, sK_upM, sK_upR, sL_upM, sL_upR, sN_upM, sN_upR, sT_upM, sT_upR, sN_upM, Int.reduceAdd, Int.reduceMul, Int.reduceSub, Int.reduceNeg, Int.zero_add, Int.add_zero, hF.c, x1' ()]))
    | ((with_reducible refine rt_al ?_ ?_ ?_); (· simp (disch := omega) only [true_and, and_true, sM_ne, sM_eq, sM_neR, sM_eqR, sK_upM, sK_upR, sL_upM, sL_upR, sN_upM, sN_upR, sT_upM, sT_upR, sN_upM, Int.reduceAdd, Int.reduceMul, Int.reduceSub, Int.reduceNeg, Int.zero_add, Int.add_zero, hF.c, x1' ()]); (· first | omega | ((try simp (disch := omega) only [wr, true_and, and_true, sM_ne, sM_eq, sM_neR, sM_eqR, sK_upM, sK_upR, sL_upM, sL_upR, sN_upM, sN_upR, sT_upM, sT_upR, sN_upM, Int.reduceAdd, Int.reduceMul, Int.reduceSub, Int.reduceNeg, Int.zero_add, Int.add_zero, hF.c, x1' ()]) <;> omega)); (try simp (disch := omega) only [true_and, and_true, sM_ne, sM_eq, sM_neR, sM_eqR, sK_upM, sK_upR, sL_upM, sL_upR, sN_upM, sN_upR, sT_upM, sT_upR, sN_upM, Int.reduceAdd, Int.reduceMul, Int.reduceSub, Int.reduceNeg, Int.zero_add, Int.add_zero, hF.c, x1' ()]))
    | ((with_reducible refine rt_as ?_ ?_ ?_); (· simp (disch := omega) only [true_and, and_true, sM_ne, sM_eq, sM_neR, sM_eqR, sK_upM, sK_upR, sL_upM, sL_upR, sN_upM, sN_upR, sT_upM, sT_upR, sN_upM, Int.reduceAdd, Int.reduceMul, Int.reduceSub, Int.reduceNeg, Int.zero_add, Int.add_zero, hF.c, x1' ()]); (· first | omega | ((try simp (disch := omega) only [wr, true_and, and_true, sM_ne, sM_eq, sM_neR, sM_eqR, sK_upM, sK_upR, sL_upM, sL_upR, sN_upM, sN_upR, sT_upM, sT_upR, sN_upM, Int.reduceAdd, Int.reduceMul, Int.reduceSub, Int.reduceNeg, Int.zero_add, Int.add_zero, hF.c, x1' ()]) <;> omega)))
    | ((with_reducible refine rt_p ?_ ?_ ?_); (· simp (disch := omega) only [true_and, and_true, sM_ne, sM_eq, sM_neR, sM_eqR, sK_upM, sK_upR, sL_upM, sL_upR, sN_upM, sN_upR, sT_upM, sT_upR, sN_upM, Int.reduceAdd, Int.reduceMul, Int.reduceSub, Int.reduceNeg, Int.zero_add, Int.add_zero, hF.c, x1' ()]); (· omega))
    | with_reducible refine rt_ret ?_
    | ((with_reducible refine rt_gw ?_ ?_); (· assumption); (try simp (disch := omega) only [true_and, and_true, sM_ne, sM_eq, sM_neR, sM_eqR, sK_upM, sK_upR, sL_upM, sL_upR, sN_upM, sN_upR, sT_upM, sT_upR, sN_upM, Int.reduceAdd, Int.reduceMul, Int.reduceSub, Int.reduceNeg, Int.zero_add, Int.add_zero, hF.c, x1' ()])))
      rw [iOr_n hf0 x2]
      unfold fX2_letPass
      refine Rt.mono (l_letPass (key := keyO k (cmO ln so ch) so) (g := 0) (rho := rt 0 (t : Int)) (R := Rg n k (-1) ch so ln 0) (by omega) (by omega) (by omega) (by omega) r0.1 r0.2 (hrng 0) (Rg_len hn16.2) 1000 (f0 ||| m0) 0 s _ hF (r0a ()) hor0 hA0.bnd (by omega) (by omega) hL0 hO (by omega)) ?_
      rintro v τ ⟨f0', a1, a2, a3, a4, a5, a6⟩
      have hVτ := hV.ch (a4.mono lpS_ln)
      have hFτ := hVτ.1
      have y1' := hd (show sM τ 30 (t : Int) = (m1 : Int) by
        rw [a4.M (by omega) (by unfold lpS; omega)]; simpa using y1 ())
      rw [Nat.sub_zero] at a3 a5 a6
      have hgo0 : (mpR (Rg n k (-1) ch so ln 0) (f0 ||| m0)).take (rt 0 (t : Int)).toNat = goL (Rg n k (-1) ch so ln 0) (cmO ln so ch) (rtN rt 0) t := by rw [hM0]; rfl
      rw [hgo0] at a5 a6
      repeat (first
    | with_reducible refine rt_b ?_
    | with_reducible refine rt_jn ?_
    | ((with_reducible refine rt_pos ?_ ?_); (· omega))
    | ((with_reducible refine rt_neg ?_ ?_); (· omega))
    | ((with_reducible refine rt_v ?_ ?_); · simp (disch := omega) only [true_and, and_true, sM_ne, sM_eq, sM_neR, sM_eqR, sK_upM, sK_upR, sL_upM, sL_upR, sN_upM, sN_upR, sT_upM, sT_upR, sN_upM, Int.reduceAdd, Int.reduceMul, Int.reduceSub, Int.reduceNeg, Int.zero_add, Int.add_zero, hFτ.c, y1' ()])
    | ((with_reducible refine rt_g ?_ ?_); (· simp (disch := omega) only [true_and, and_true, sM_ne, sM_eq, sM_neR, sM_eqR, sK_upM, sK_upR, sL_upM, sL_upR, sN_upM, sN_upR, sT_upM, sT_upR, sN_upM, Int.reduceAdd, Int.reduceMul, Int.reduceSub, Int.reduceNeg, Int.zero_add, Int.add_zero, hFτ.c, y1' ()]); (try simp (disch := omega) only [true_and, and_true, sM_ne, sM_eq, sM_neR, sM_eqR, sK_upM, sK_upR, sL_upM, sL_upR, sN_upM, sN_upR, sT_upM, sT_upR, sN_upM, Int.reduceAdd, Int.reduceMul, Int.reduceSub, Int.reduceNeg, Int.zero_add, Int.add_zero, hFτ.c, y1' ()]))
    | ((with_reducible refine rt_al ?_ ?_ ?_); (· simp (disch := omega) only [true_and, and_true, sM_ne, sM_eq, sM_neR, sM_eqR, sK_upM, sK_upR, sL_upM, sL_upR, sN_upM, sN_upR, sT_upM, sT_upR, sN_upM, Int.reduceAdd, Int.reduceMul, Int.reduceSub, Int.reduceNeg, Int.zero_add, Int.add_zero, hFτ.c, y1' ()]); (· first | omega | ((try simp (disch := omega) only [wr, true_and, and_true, sM_ne, sM_eq, sM_neR, sM_eqR, sK_upM, sK_upR, sL_upM, sL_upR, sN_upM, sN_upR, sT_upM, sT_upR, sN_upM, Int.reduceAdd, Int.reduceMul, Int.reduceSub, Int.reduceNeg, Int.zero_add, Int.add_zero, hFτ.c, y1' ()]) <;> omega)); (try simp (disch := omega) only [true_and, and_true, sM_ne, sM_eq, sM_neR, sM_eqR, sK_upM, sK_upR, sL_upM, sL_upR, sN_upM, sN_upR, sT_upM, sT_upR, sN_upM, Int.reduceAdd, Int.reduceMul, Int.reduceSub, Int.reduceNeg, Int.zero_add, Int.add_zero, hFτ.c, y1' ()]))
    | ((with_reducible refine rt_as ?_ ?_ ?_); (· simp (disch := omega) only [true_and, and_true, sM_ne, sM_eq, sM_neR, sM_eqR, sK_upM, sK_upR, sL_upM, sL_upR, sN_upM, sN_upR, sT_upM, sT_upR, sN_upM, Int.reduceAdd, Int.reduceMul, Int.reduceSub, Int.reduceNeg, Int.zero_add, Int.add_zero, hFτ.c, y1' ()]); (· first | omega | ((try simp (disch := omega) only [wr, true_and, and_true, sM_ne, sM_eq, sM_neR, sM_eqR, sK_upM, sK_upR, sL_upM, sL_upR, sN_upM, sN_upR, sT_upM, sT_upR, sN_upM, Int.reduceAdd, Int.reduceMul, Int.reduceSub, Int.reduceNeg, Int.zero_add, Int.add_zero, hFτ.c, y1' ()]) <;> omega)))
    | ((with_reducible refine rt_p ?_ ?_ ?_); (· simp (disch := omega) only [true_and, and_true, sM_ne, sM_eq, sM_neR, sM_eqR, sK_upM, sK_upR, sL_upM, sL_upR, sN_upM, sN_upR, sT_upM, sT_upR, sN_upM, Int.reduceAdd, Int.reduceMul, Int.reduceSub, Int.reduceNeg, Int.zero_add, Int.add_zero, hFτ.c, y1' ()]); (· omega))
    | with_reducible refine rt_ret ?_
    | ((with_reducible refine rt_gw ?_ ?_); (· assumption); (try simp (disch := omega) only [true_and, and_true, sM_ne, sM_eq, sM_neR, sM_eqR, sK_upM, sK_upR, sL_upM, sL_upR, sN_upM, sN_upR, sT_upM, sT_upR, sN_upM, Int.reduceAdd, Int.reduceMul, Int.reduceSub, Int.reduceNeg, Int.zero_add, Int.add_zero, hFτ.c, y1' ()])))
      rw [iOr_n hf1 y2]
      refine Rt.mono (l_letPass (key := keyO k (cmO ln so ch) so) (g := 1) (rho := rt 1 (t : Int)) (R := Rg n k (-1) ch so ln 1) (by omega) (by omega) (by omega) (by omega) r1.1 r1.2 (hrng 1) (Rg_len hn16.2) 1000 (f1 ||| m1) 0 τ _ hFτ (hVτ.2.2.2.2.2.2.2.2.2 1 (t : Int) (by omega) (by omega) (by omega) (by omega)).1 hor1 hA1.bnd (by omega) (by omega) (hL1.ch hF (by omega) (by omega) a4 (fun i => by unfold lpS; omega) (fun i => by unfold lpS; omega) (by unfold lpS; omega)) a5 (by omega)) ?_
      rintro v2 τ2 ⟨f1', b1, b2, b3, b4, b5, b6⟩
      rw [Nat.sub_zero] at b3 b5 b6
      have hgo1 : (mpR (Rg n k (-1) ch so ln 1) (f1 ||| m1)).take (rt 1 (t : Int)).toNat = goL (Rg n k (-1) ch so ln 1) (cmO ln so ch) (rtN rt 1) t := by rw [hM1]; rfl
      rw [hgo1] at b5 b6
      subst a1
      subst b1
      rw [wr1 t (by omega)]
      have hVτ2 := hVτ.ch (b4.mono lpS_ln)
      have hc2 := a4.tr b4
      refine (l_follow N (t + 1) f0' f1' τ2 hVτ2 ⟨fun j j0 j1 => ?_, fun g g0 g1 => ⟨?_, ?_⟩⟩ (by omega) (by omega) a2 b2 ?_ ?_ ?_ (fun c c0 c1 => ?_)).mono (fun v τ h => ⟨hc2.tr h.1, h.2⟩)
      · rw [hc2.M (by omega) (by unfold lpS; omega)]; exact hG.1 j j0 j1
      · exact (hG.2 g g0 g1).1.ch hF g0 g1 hc2 (fun i => by unfold lpS; omega) (fun i => by unfold lpS; omega) (by unfold lpS; omega)
      · exact (hG.2 g g0 g1).2.ch hF g0 g1 hc2 (fun i => by unfold lpS; omega)
      · refine TB.of Rg_nd ?_ (fun j hj => hA0.bnd j (by rw [a3] at hj; exact List.mem_of_mem_drop hj))
        unfold mpR
        rw [a3, List.map_drop]
        show (mpR _ _).drop _ = _
        rw [hM0, lft_succ]; rfl
      · refine TB.of Rg_nd ?_ (fun j hj => hA1.bnd j (by rw [b3] at hj; exact List.mem_of_mem_drop hj))
        unfold mpR
        rw [b3, List.map_drop]
        show (mpR _ _).drop _ = _
        rw [hM1, lft_succ]; rfl
      · rw [List.append_assoc] at b5; exact b5
      · rw [b6 c, a6 c, hP c c0 c1]
        exact pas_step Rg_nd Rg_nd (fun x hx => (Rg_mem.mp hx).2.2.2) (fun x hx => (Rg_mem.mp hx).2.2.2) (hcm 0) (hcm 1) c t
theorem l_fol13 {σ : ZS} {K : ZS → Option (Int × ZS)} {P : Int → ZS → Prop} (hK : ∀ τ : ZS, FxD τ → Ch (fun a _ => a = 19) σ τ → (∀ j : Int, 0 ≤ j → j < 16 → sM τ 19 j = -1) → Rt (K τ) P) :
    ∀ (N c : Nat) (s : ZS), FxD s → c ≤ 16 → 16 - c < N → Ch (fun a _ => a = 19) σ s → (∀ j : Int, 0 ≤ j → j < (c : Int) → sM s 19 j = -1) → Rt (lX2_follow_13 4 K N s (c : Int)) P
  | 0, c, s, _, _, h2, _, _ => by omega
  | N + 1, c, s, hF, h1, h2, hc, hz => by
    rw [lX2_follow_13]
    by_cases he : (16 : Int) ≤ (c : Int)
    · exact rt_pos he (hK s hF hc (fun j j0 j1 => hz j j0 (by omega)))
    · refine rt_neg he ?_
      repeat (first
    | with_reducible refine rt_b ?_
    | with_reducible refine rt_jn ?_
    | ((with_reducible refine rt_pos ?_ ?_); (· omega))
    | ((with_reducible refine rt_neg ?_ ?_); (· omega))
    | ((with_reducible refine rt_v ?_ ?_); · simp (disch := omega) only [true_and, and_true, sM_ne, sM_eq, sM_neR, sM_eqR, sK_upM, sK_upR, sL_upM, sL_upR, sN_upM, sN_upR, sT_upM, sT_upR, sN_upM, Int.reduceAdd, Int.reduceMul, Int.reduceSub, Int.reduceNeg, Int.zero_add, Int.add_zero, hF.c])
    | ((with_reducible refine rt_g ?_ ?_); (· simp (disch := omega) only [true_and, and_true, sM_ne, sM_eq, sM_neR, sM_eqR, sK_upM, sK_upR, sL_upM, sL_upR, sN_upM, sN_upR, sT_upM, sT_upR, sN_upM, Int.reduceAdd, Int.reduceMul, Int.reduceSub, Int.reduceNeg, Int.zero_add, Int.add_zero, hF.c]); (try simp (disch := omega) only [true_and, and_true, sM_ne, sM_eq, sM_neR, sM_eqR, sK_upM, sK_upR, sL_upM, sL_upR, sN_upM, sN_upR, sT_upM, sT_upR, sN_upM, Int.reduceAdd, Int.reduceMul, Int.reduceSub, Int.reduceNeg, Int.zero_add, Int.add_zero, hF.c]))
    | ((with_reducible refine rt_al ?_ ?_ ?_); (· simp (disch := omega) only [true_and, and_true, sM_ne, sM_eq, sM_neR, sM_eqR, sK_upM, sK_upR, sL_upM, sL_upR, sN_upM, sN_upR, sT_upM, sT_upR, sN_upM, Int.reduceAdd, Int.reduceMul, Int.reduceSub, Int.reduceNeg, Int.zero_add, Int.add_zero, hF.c]); (· first | omega | ((try simp (disch := omega) only [wr, true_and, and_true, sM_ne, sM_eq, sM_neR, sM_eqR, sK_upM, sK_upR, sL_upM, sL_upR, sN_upM, sN_upR, sT_upM, sT_upR, sN_upM, Int.reduceAdd, Int.reduceMul, Int.reduceSub, Int.reduceNeg, Int.zero_add, Int.add_zero, hF.c]) <;> omega)); (try simp (disch := omega) only [true_and, and_true, sM_ne, sM_eq, sM_neR, sM_eqR, sK_upM, sK_upR, sL_upM, sL_upR, sN_upM, sN_upR, sT_upM, sT_upR, sN_upM, Int.reduceAdd, Int.reduceMul, Int.reduceSub, Int.reduceNeg, Int.zero_add, Int.add_zero, hF.c]))
    | ((with_reducible refine rt_as ?_ ?_ ?_); (· simp (disch := omega) only [true_and, and_true, sM_ne, sM_eq, sM_neR, sM_eqR, sK_upM, sK_upR, sL_upM, sL_upR, sN_upM, sN_upR, sT_upM, sT_upR, sN_upM, Int.reduceAdd, Int.reduceMul, Int.reduceSub, Int.reduceNeg, Int.zero_add, Int.add_zero, hF.c]); (· first | omega | ((try simp (disch := omega) only [wr, true_and, and_true, sM_ne, sM_eq, sM_neR, sM_eqR, sK_upM, sK_upR, sL_upM, sL_upR, sN_upM, sN_upR, sT_upM, sT_upR, sN_upM, Int.reduceAdd, Int.reduceMul, Int.reduceSub, Int.reduceNeg, Int.zero_add, Int.add_zero, hF.c]) <;> omega)))
    | ((with_reducible refine rt_p ?_ ?_ ?_); (· simp (disch := omega) only [true_and, and_true, sM_ne, sM_eq, sM_neR, sM_eqR, sK_upM, sK_upR, sL_upM, sL_upR, sN_upM, sN_upR, sT_upM, sT_upR, sN_upM, Int.reduceAdd, Int.reduceMul, Int.reduceSub, Int.reduceNeg, Int.zero_add, Int.add_zero, hF.c]); (· omega))
    | with_reducible refine rt_ret ?_
    | ((with_reducible refine rt_gw ?_ ?_); (· assumption); (try simp (disch := omega) only [true_and, and_true, sM_ne, sM_eq, sM_neR, sM_eqR, sK_upM, sK_upR, sL_upM, sL_upR, sN_upM, sN_upR, sT_upM, sT_upR, sN_upM, Int.reduceAdd, Int.reduceMul, Int.reduceSub, Int.reduceNeg, Int.zero_add, Int.add_zero, hF.c])))
      rw [wr1 c (by omega)]
      refine l_fol13 hK N (c + 1) _ (hF.up (NF_i (by omega))) (by omega) (by omega) (hc.up rfl) (fun j j0 j1 => ?_)
      by_cases e : j = (c : Int)
      · subst e; rw [sM_eq ⟨rfl, rfl⟩]
      · rw [sM_ne (Or.inr e)]; exact hz j j0 (by omega)
/-- what stands behind the class's line -/
def Flw (τ : ZS) (n k : Int) (ch so : Int → Int) (ln rt : Int → Int → Int) : Prop := (∀ j : Int, 0 ≤ j → j < n → sM τ 18 j = cmO ln so ch j) ∧ (∀ c : Int, 0 ≤ c → c < 16 → sM τ 19 c = pasA n k ch so ln rt c) ∧ Ord τ (ordA n k ch so ln rt 24)
theorem f_follow {σ : ZS} {W n k : Int} {ch so : Int → Int} {ln rt : Int → Int → Int} (hV : LV σ W n k ch so ln rt) : Rt (fX2_follow σ 4 W) (fun _ τ => Ch lnS σ τ ∧ Flw τ n k ch so ln rt) := by
  have hF := hV.1
  unfold fX2_follow
  repeat (first
    | with_reducible refine rt_b ?_
    | with_reducible refine rt_jn ?_
    | ((with_reducible refine rt_pos ?_ ?_); (· omega))
    | ((with_reducible refine rt_neg ?_ ?_); (· omega))
    | ((with_reducible refine rt_v ?_ ?_); · simp (disch := omega) only [true_and, and_true, sM_ne, sM_eq, sM_neR, sM_eqR, sK_upM, sK_upR, sL_upM, sL_upR, sN_upM, sN_upR, sT_upM, sT_upR, sN_upM, Int.reduceAdd, Int.reduceMul, Int.reduceSub, Int.reduceNeg, Int.zero_add, Int.add_zero, hF.c])
    | ((with_reducible refine rt_g ?_ ?_); (· simp (disch := omega) only [true_and, and_true, sM_ne, sM_eq, sM_neR, sM_eqR, sK_upM, sK_upR, sL_upM, sL_upR, sN_upM, sN_upR, sT_upM, sT_upR, sN_upM, Int.reduceAdd, Int.reduceMul, Int.reduceSub, Int.reduceNeg, Int.zero_add, Int.add_zero, hF.c]); (try simp (disch := omega) only [true_and, and_true, sM_ne, sM_eq, sM_neR, sM_eqR, sK_upM, sK_upR, sL_upM, sL_upR, sN_upM, sN_upR, sT_upM, sT_upR, sN_upM, Int.reduceAdd, Int.reduceMul, Int.reduceSub, Int.reduceNeg, Int.zero_add, Int.add_zero, hF.c]))
    | ((with_reducible refine rt_al ?_ ?_ ?_); (· simp (disch := omega) only [true_and, and_true, sM_ne, sM_eq, sM_neR, sM_eqR, sK_upM, sK_upR, sL_upM, sL_upR, sN_upM, sN_upR, sT_upM, sT_upR, sN_upM, Int.reduceAdd, Int.reduceMul, Int.reduceSub, Int.reduceNeg, Int.zero_add, Int.add_zero, hF.c]); (· first | omega | ((try simp (disch := omega) only [wr, true_and, and_true, sM_ne, sM_eq, sM_neR, sM_eqR, sK_upM, sK_upR, sL_upM, sL_upR, sN_upM, sN_upR, sT_upM, sT_upR, sN_upM, Int.reduceAdd, Int.reduceMul, Int.reduceSub, Int.reduceNeg, Int.zero_add, Int.add_zero, hF.c]) <;> omega)); (try simp (disch := omega) only [true_and, and_true, sM_ne, sM_eq, sM_neR, sM_eqR, sK_upM, sK_upR, sL_upM, sL_upR, sN_upM, sN_upR, sT_upM, sT_upR, sN_upM, Int.reduceAdd, Int.reduceMul, Int.reduceSub, Int.reduceNeg, Int.zero_add, Int.add_zero, hF.c]))
    | ((with_reducible refine rt_as ?_ ?_ ?_); (· simp (disch := omega) only [true_and, and_true, sM_ne, sM_eq, sM_neR, sM_eqR, sK_upM, sK_upR, sL_upM, sL_upR, sN_upM, sN_upR, sT_upM, sT_upR, sN_upM, Int.reduceAdd, Int.reduceMul, Int.reduceSub, Int.reduceNeg, Int.zero_add, Int.add_zero, hF.c]); (· first | omega | ((try simp (disch := omega) only [wr, true_and, and_true, sM_ne, sM_eq, sM_neR, sM_eqR, sK_upM, sK_upR, sL_upM, sL_upR, sN_upM, sN_upR, sT_upM, sT_upR, sN_upM, Int.reduceAdd, Int.reduceMul, Int.reduceSub, Int.reduceNeg, Int.zero_add, Int.add_zero, hF.c]) <;> omega)))
    | ((with_reducible refine rt_p ?_ ?_ ?_); (· simp (disch := omega) only [true_and, and_true, sM_ne, sM_eq, sM_neR, sM_eqR, sK_upM, sK_upR, sL_upM, sL_upR, sN_upM, sN_upR, sT_upM, sT_upR, sN_upM, Int.reduceAdd, Int.reduceMul, Int.reduceSub, Int.reduceNeg, Int.zero_add, Int.add_zero, hF.c]); (· omega))
    | with_reducible refine rt_ret ?_
    | ((with_reducible refine rt_gw ?_ ?_); (· assumption); (try simp (disch := omega) only [true_and, and_true, sM_ne, sM_eq, sM_neR, sM_eqR, sK_upM, sK_upR, sL_upM, sL_upR, sN_upM, sN_upR, sT_upM, sT_upR, sN_upM, Int.reduceAdd, Int.reduceMul, Int.reduceSub, Int.reduceNeg, Int.zero_add, Int.add_zero, hF.c])))
  refine (f_gather (w := -1) hV).mono ?_
  rintro v τ ⟨hc, hG⟩
  have hVτ := hV.ch hc
  have hFτ := hVτ.1
  have h9 := hFτ.2.2.2
  repeat (first
    | with_reducible refine rt_b ?_
    | with_reducible refine rt_jn ?_
    | ((with_reducible refine rt_pos ?_ ?_); (· omega))
    | ((with_reducible refine rt_neg ?_ ?_); (· omega))
    | ((with_reducible refine rt_v ?_ ?_); · simp (disch := omega) only [true_and, and_true, sM_ne, sM_eq, sM_neR, sM_eqR, sK_upM, sK_upR, sL_upM, sL_upR, sN_upM, sN_upR, sT_upM, sT_upR, sN_upM, Int.reduceAdd, Int.reduceMul, Int.reduceSub, Int.reduceNeg, Int.zero_add, Int.add_zero, hFτ.c])
    | ((with_reducible refine rt_g ?_ ?_); (· simp (disch := omega) only [true_and, and_true, sM_ne, sM_eq, sM_neR, sM_eqR, sK_upM, sK_upR, sL_upM, sL_upR, sN_upM, sN_upR, sT_upM, sT_upR, sN_upM, Int.reduceAdd, Int.reduceMul, Int.reduceSub, Int.reduceNeg, Int.zero_add, Int.add_zero, hFτ.c]); (try simp (disch := omega) only [true_and, and_true, sM_ne, sM_eq, sM_neR, sM_eqR, sK_upM, sK_upR, sL_upM, sL_upR, sN_upM, sN_upR, sT_upM, sT_upR, sN_upM, Int.reduceAdd, Int.reduceMul, Int.reduceSub, Int.reduceNeg, Int.zero_add, Int.add_zero, hFτ.c]))
    | ((with_reducible refine rt_al ?_ ?_ ?_); (· simp (disch := omega) only [true_and, and_true, sM_ne, sM_eq, sM_neR, sM_eqR, sK_upM, sK_upR, sL_upM, sL_upR, sN_upM, sN_upR, sT_upM, sT_upR, sN_upM, Int.reduceAdd, Int.reduceMul, Int.reduceSub, Int.reduceNeg, Int.zero_add, Int.add_zero, hFτ.c]); (· first | omega | ((try simp (disch := omega) only [wr, true_and, and_true, sM_ne, sM_eq, sM_neR, sM_eqR, sK_upM, sK_upR, sL_upM, sL_upR, sN_upM, sN_upR, sT_upM, sT_upR, sN_upM, Int.reduceAdd, Int.reduceMul, Int.reduceSub, Int.reduceNeg, Int.zero_add, Int.add_zero, hFτ.c]) <;> omega)); (try simp (disch := omega) only [true_and, and_true, sM_ne, sM_eq, sM_neR, sM_eqR, sK_upM, sK_upR, sL_upM, sL_upR, sN_upM, sN_upR, sT_upM, sT_upR, sN_upM, Int.reduceAdd, Int.reduceMul, Int.reduceSub, Int.reduceNeg, Int.zero_add, Int.add_zero, hFτ.c]))
    | ((with_reducible refine rt_as ?_ ?_ ?_); (· simp (disch := omega) only [true_and, and_true, sM_ne, sM_eq, sM_neR, sM_eqR, sK_upM, sK_upR, sL_upM, sL_upR, sN_upM, sN_upR, sT_upM, sT_upR, sN_upM, Int.reduceAdd, Int.reduceMul, Int.reduceSub, Int.reduceNeg, Int.zero_add, Int.add_zero, hFτ.c]); (· first | omega | ((try simp (disch := omega) only [wr, true_and, and_true, sM_ne, sM_eq, sM_neR, sM_eqR, sK_upM, sK_upR, sL_upM, sL_upR, sN_upM, sN_upR, sT_upM, sT_upR, sN_upM, Int.reduceAdd, Int.reduceMul, Int.reduceSub, Int.reduceNeg, Int.zero_add, Int.add_zero, hFτ.c]) <;> omega)))
    | ((with_reducible refine rt_p ?_ ?_ ?_); (· simp (disch := omega) only [true_and, and_true, sM_ne, sM_eq, sM_neR, sM_eqR, sK_upM, sK_upR, sL_upM, sL_upR, sN_upM, sN_upR, sT_upM, sT_upR, sN_upM, Int.reduceAdd, Int.reduceMul, Int.reduceSub, Int.reduceNeg, Int.zero_add, Int.add_zero, hFτ.c]); (· omega))
    | with_reducible refine rt_ret ?_
    | ((with_reducible refine rt_gw ?_ ?_); (· assumption); (try simp (disch := omega) only [true_and, and_true, sM_ne, sM_eq, sM_neR, sM_eqR, sK_upM, sK_upR, sL_upM, sL_upR, sN_upM, sN_upR, sT_upM, sT_upR, sN_upM, Int.reduceAdd, Int.reduceMul, Int.reduceSub, Int.reduceNeg, Int.zero_add, Int.add_zero, hFτ.c])))
  have hC1 : Ch lpS τ (upM τ 4 4 0) := Ch.rf.up (Or.inr (Or.inr ⟨rfl, rfl⟩))
  refine l_fol13 (σ := upM τ 4 4 0) (fun ρ hFρ hcρ hz => ?_) 1000 0 _ (hC1.Fx hFτ (fun a i q => lnS_NF a i (lpS_ln a i q))) (by omega) (by omega) Ch.rf (fun j j0 j1 => by omega)
  have hC2 : Ch lpS τ ρ := hC1.tr (hcρ.mono (fun a i q => Or.inl q))
  have hG2 : Gth ρ n k (-1) ch so ln := ⟨fun j j0 j1 => by rw [hC2.M (by omega) (by unfold lpS; omega)]; exact hG.1 j j0 j1, fun g g0 g1 => ⟨(hG.2 g g0 g1).1.ch hFτ g0 g1 hC2 (fun i => by unfold lpS; omega) (fun i => by unfold lpS; omega) (by unfold lpS; omega), (hG.2 g g0 g1).2.ch hFτ g0 g1 hC2 (fun i => by unfold lpS; omega)⟩⟩
  have hT : ∀ R : List Int, TB 0 R (fun c => decide (c ∈ ([] : List Int))) := fun R j hj => by simp
  refine (l_follow 1000 0 0 0 ρ (hVτ.ch (hC2.mono lpS_ln)) hG2 (by omega) (by omega) (by decide) (by decide) (hT _) (hT _) ⟨?_, fun j hj => by cases hj⟩ (fun c c0 c1 => ?_)).mono ?_
  · rw [hcρ.M (by have := hC1.2.1; omega) (by omega), sM_eq ⟨rfl, rfl⟩]; rfl
  · rw [hz c c0 c1]
    unfold pasO
    split <;> rfl
  · rintro v2 π ⟨p1, p2, p3⟩
    refine ⟨(hc.tr (hC2.mono lpS_ln)).tr (p1.mono lpS_ln), fun j j0 j1 => ?_, p3, p2⟩
    rw [p1.M (by have := hC2.2.1; omega) (by unfold lpS; omega)]
    exact hG2.1 j j0 j1
