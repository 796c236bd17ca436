/-! reading a text: what is read from where, as a function of the tokens -/
abbrev RR : Type := Bool × Nat × List Int
def rdL (T : Nat → Int) (op : Int → Option Int) (nx : Nat → RR) : Nat → Nat → List Int → RR
  | 0, i, out => (true, i, out)
  | n + 1, i, out => match op (T i) with
    | none => (true, i, out)
    | some e => if (nx (i + 1)).1 = true then rdL T op nx n (nx (i + 1)).2.1 (out ++ ((nx (i + 1)).2.2 ++ [e])) else (false, (nx (i + 1)).2.1, [])
def opOr (t : Int) : Option Int := if t = 10009 then some 10012 else none
def opAnd (t : Int) : Option Int := if t = 10008 then some 10011 else none
def opCmp (t : Int) : Option Int := if t = 20060 then some 10009 else if t = 20061 then some 10010 else none
def opSum (t : Int) : Option Int := if t = 20043 then some 10006 else if t = 20045 then some 10007 else none
def opMul (t : Int) : Option Int := if t = 20042 then some 10008 else none
def rdB (r : RR) (f : Nat → List Int → RR) : RR := if r.1 = true then f r.2.1 r.2.2 else (false, r.2.1, [])
def rd (T : Nat → Int) : Nat → Nat → Int → Nat → RR
  | 0, _, _, i => (false, i, [])
  | d + 1, t, o, i =>
    if t = 0 then rdB (rd T d 1 o i) (fun j x => rdL T opOr (rd T d 1 o) 200 j x)
    else if t = 1 then rdB (rd T d 2 o i) (fun j x => rdL T opAnd (rd T d 2 o) 200 j x)
    else if t = 2 then (if T i = 10010 then (if o < 5 then rdB (rd T d 2 (o + 1) (i + 1)) (fun j x => (true, j, x ++ [10013])) else (false, i, []))
      else rdB (rd T d 3 o i) (fun j x => match opCmp (T j) with
        | none => (true, j, x)
        | some e => rdB (rd T d 3 o (j + 1)) (fun j2 y => (true, j2, x ++ (y ++ [e])))))
    else if t = 3 then rdB (rd T d 4 o i) (fun j x => rdL T opSum (rd T d 4 o) 200 j x)
    else if t = 4 then rdB (rd T d 5 o i) (fun j x => rdL T opMul (rd T d 5 o) 200 j x)
    else (if T i < 10006 then (true, i + 1, [T i])
      else if T i = 20045 then (if o < 5 then rdB (rd T d 5 (o + 1) (i + 1)) (fun j x => (true, j, x ++ [10014])) else (false, i, []))
      else if T i = 20040 then (if o < 5 then rdB (rd T d 0 (o + 1) (i + 1)) (fun j x => if T j = 20041 then (true, j + 1, x) else (false, j, [])) else (false, i, []))
      else (false, i, []))
/-- how deep a reading of each kind may go -/
def nd (t : Nat) (o : Int) : Int := (5 - o) * 6 + (6 - (t : Int))
/-! the class's reading -/
def rdS (a i : Int) : Prop := (a = 34 ∧ (i = 2 ∨ i = 6 ∨ i = 8)) ∨ a = 38
theorem rdS_NF : ∀ a i, rdS a i → NFb a i = true := by
  intro a i q
  unfold rdS at q
  rcases q with ⟨rfl, q⟩ | q
  · exact NF_34 (by omega)
  · exact NF_i (by omega)
def TKs (T S : Nat → Int) (k : Nat) (s : ZS) : Prop := sM s 34 5 = (k : Int) ∧ ∀ j : Nat, j ≤ k → sM s 36 (j : Int) = T j ∧ sM s 37 (j : Int) = S j
theorem TKs.ch {T S : Nat → Int} {k : Nat} {s τ : ZS} (hF : FxD s) (h : TKs T S k s) (c : Ch rdS s τ) : TKs T S k τ := by
  have h9 := hF.2.2.2
  refine ⟨by rw [c.M (by omega) (by unfold rdS; omega)]; exact h.1, fun j hj => ?_⟩
  rw [c.M (by omega) (by unfold rdS; omega), c.M (by omega) (by unfold rdS; omega)]
  exact h.2 j hj
def LIV (T S : Nat → Int) (k : Nat) (s : ZS) (i : Nat) (m : List Int) : Prop := FxD s ∧ TKs T S k s ∧ sM s 34 6 = (i : Int) ∧ sM s 34 2 = -1 ∧ sM s 34 8 = (m.length : Int) ∧ ∀ j : Nat, j < m.length → sM s 38 (j : Int) = m.getD j 0
def DED (T S : Nat → Int) (k : Nat) (s : ZS) (j : Nat) : Prop := FxD s ∧ TKs T S k s ∧ sM s 34 6 = (k : Int) ∧ (sM s 34 2 = S j ∧ j ≤ k) ∧ 0 ≤ sM s 34 8 ∧ sM s 34 8 ≤ 160
/-- a look at the token that is next -/
theorem rt_pk {s : ZS} {i : Nat} {x : Int} {F : Int → Option (Int × ZS)} {P : Int → ZS → Prop} (hF : FxD s) (h6 : sM s 34 6 = (i : Int)) (hi : i ≤ 160) (hx : sM s 36 (i : Int) = x) (k : Rt (F x) P) : Rt ((zg s 4 34 3).bind (fun v9 => (zg s 4 34 6).bind (fun v10 => (zal s 100 v9 v10).bind F))) P := by
  have h6' := hd h6
  have hx' := hd hx
  refine rt_gx (x := 36) (by simp (disch := omega) only [true_and, and_true, sM_ne, sM_eq, sM_neR, sM_eqR, sK_upM, sK_upR, sL_upM, sL_upR, sN_upM, sN_upR, sT_upM, sT_upR, sN_upM, Int.reduceAdd, Int.reduceMul, Int.reduceSub, Int.reduceNeg, Int.zero_add, Int.add_zero, hF.c]) (by simp (disch := omega) only [true_and, and_true, sM_ne, sM_eq, sM_neR, sM_eqR, sK_upM, sK_upR, sL_upM, sL_upR, sN_upM, sN_upR, sT_upM, sT_upR, sN_upM, Int.reduceAdd, Int.reduceMul, Int.reduceSub, Int.reduceNeg, Int.zero_add, Int.add_zero, hF.c]) (rt_gx (x := (i : Int)) (by simp (disch := omega) only [true_and, and_true, sM_ne, sM_eq, sM_neR, sM_eqR, sK_upM, sK_upR, sL_upM, sL_upR, sN_upM, sN_upR, sT_upM, sT_upR, sN_upM, Int.reduceAdd, Int.reduceMul, Int.reduceSub, Int.reduceNeg, Int.zero_add, Int.add_zero, hF.c]) (h6' ()) ?_)
  exact rt_alx (by simp (disch := omega) only [true_and, and_true, sM_ne, sM_eq, sM_neR, sM_eqR, sK_upM, sK_upR, sL_upM, sL_upR, sN_upM, sN_upR, sT_upM, sT_upR, sN_upM, Int.reduceAdd, Int.reduceMul, Int.reduceSub, Int.reduceNeg, Int.zero_add, Int.add_zero, hF.c]) (by simp (disch := omega) only [true_and, and_true, sM_ne, sM_eq, sM_neR, sM_eqR, sK_upM, sK_upR, sL_upM, sL_upR, sN_upM, sN_upR, sT_upM, sT_upR, sN_upM, Int.reduceAdd, Int.reduceMul, Int.reduceSub, Int.reduceNeg, Int.zero_add, Int.add_zero, hF.c]; omega) (hx' ()) k
section RDC
variable {T S : Nat → Int} {k : Nat}
theorem LIV.pk {s : ZS} {i : Nat} {m : List Int} (h : LIV T S k s i m) (hk : k ≤ 160) (hi : i ≤ k) {F : Int → Option (Int × ZS)} {P : Int → ZS → Prop} (q : Rt (F (T i)) P) : Rt ((zg s 4 34 3).bind (fun v9 => (zg s 4 34 6).bind (fun v10 => (zal s 100 v9 v10).bind F))) P := rt_pk h.1 h.2.2.1 (by omega) (h.2.1.2 i hi).1 q
theorem DED.pk {s : ZS} {j : Nat} (h : DED T S k s j) (hk : k ≤ 160) (hT : T k = 30000) {F : Int → Option (Int × ZS)} {P : Int → ZS → Prop} (q : Rt (F 30000) P) : Rt ((zg s 4 34 3).bind (fun v9 => (zg s 4 34 6).bind (fun v10 => (zal s 100 v9 v10).bind F))) P := rt_pk h.1 h.2.2.1 hk (by rw [(h.2.1.2 k (Nat.le_refl _)).1, hT]) q
theorem f_adv {s : ZS} {i : Nat} {m : List Int} (h : LIV T S k s i m) (hi : i < k) (hk : k ≤ 160) : Rt (fX4_advance s 34) (fun _ τ => Ch rdS s τ ∧ LIV T S k τ (i + 1) m) := by
  obtain ⟨hF, ht, h6, h2, h8, hr⟩ := h
  have h6' := hd h6
  have h5' := hd ht.1
  unfold fX4_advance
  refine rt_gx (x := (i : Int)) (by simp (disch := omega) only [true_and, and_true, sM_ne, sM_eq, sM_neR, sM_eqR, sK_upM, sK_upR, sL_upM, sL_upR, sN_upM, sN_upR, sT_upM, sT_upR, sN_upM, Int.reduceAdd, Int.reduceMul, Int.reduceSub, Int.reduceNeg, Int.zero_add, Int.add_zero, hF.c]) (h6' ()) (rt_gx (x := (k : Int)) (by simp (disch := omega) only [true_and, and_true, sM_ne, sM_eq, sM_neR, sM_eqR, sK_upM, sK_upR, sL_upM, sL_upR, sN_upM, sN_upR, sT_upM, sT_upR, sN_upM, Int.reduceAdd, Int.reduceMul, Int.reduceSub, Int.reduceNeg, Int.zero_add, Int.add_zero, hF.c]) (h5' ()) (rt_neg (by omega) ?_))
  refine rt_gx (x := (i : Int)) (by simp (disch := omega) only [true_and, and_true, sM_ne, sM_eq, sM_neR, sM_eqR, sK_upM, sK_upR, sL_upM, sL_upR, sN_upM, sN_upR, sT_upM, sT_upR, sN_upM, Int.reduceAdd, Int.reduceMul, Int.reduceSub, Int.reduceNeg, Int.zero_add, Int.add_zero, hF.c]) (h6' ()) (rt_p (by simp (disch := omega) only [true_and, and_true, sM_ne, sM_eq, sM_neR, sM_eqR, sK_upM, sK_upR, sL_upM, sL_upR, sN_upM, sN_upR, sT_upM, sT_upR, sN_upM, Int.reduceAdd, Int.reduceMul, Int.reduceSub, Int.reduceNeg, Int.zero_add, Int.add_zero, hF.c]) (by omega) (rt_ret ?_))
  rw [wr1 i (by omega)]
  have hc : Ch rdS s (upM s 34 6 ((i + 1 : Nat) : Int)) := Ch.rf.up (Or.inl ⟨rfl, by omega⟩)
  exact ⟨hc, hc.Fx hF rdS_NF, ht.ch hF hc, sM_eq ⟨rfl, rfl⟩, by rw [sM_ne (by omega)]; exact h2, by rw [sM_ne (by omega)]; exact h8, fun j hj => by rw [sM_ne (by omega)]; exact hr j hj⟩
theorem f_fail {s : ZS} {i : Nat} {m : List Int} (h : LIV T S k s i m) (hi : i ≤ k) (hk : k ≤ 160) (hm : m.length ≤ 160) : Rt (fX4_fail s 34) (fun _ τ => Ch rdS s τ ∧ DED T S k τ i) := by
  obtain ⟨hF, ht, h6, h2, h8, hr⟩ := h
  have h6' := hd h6
  have h5' := hd ht.1
  have h2' := hd h2
  have hs' := hd (ht.2 i hi).2
  unfold fX4_fail
  refine rt_gx (x := -1) (by simp (disch := omega) only [true_and, and_true, sM_ne, sM_eq, sM_neR, sM_eqR, sK_upM, sK_upR, sL_upM, sL_upR, sN_upM, sN_upR, sT_upM, sT_upR, sN_upM, Int.reduceAdd, Int.reduceMul, Int.reduceSub, Int.reduceNeg, Int.zero_add, Int.add_zero, hF.c]) (h2' ()) (rt_pos rfl ?_)
  refine rt_gx (x := 37) (by simp (disch := omega) only [true_and, and_true, sM_ne, sM_eq, sM_neR, sM_eqR, sK_upM, sK_upR, sL_upM, sL_upR, sN_upM, sN_upR, sT_upM, sT_upR, sN_upM, Int.reduceAdd, Int.reduceMul, Int.reduceSub, Int.reduceNeg, Int.zero_add, Int.add_zero, hF.c]) (by simp (disch := omega) only [true_and, and_true, sM_ne, sM_eq, sM_neR, sM_eqR, sK_upM, sK_upR, sL_upM, sL_upR, sN_upM, sN_upR, sT_upM, sT_upR, sN_upM, Int.reduceAdd, Int.reduceMul, Int.reduceSub, Int.reduceNeg, Int.zero_add, Int.add_zero, hF.c]) (rt_gx (x := (i : Int)) (by simp (disch := omega) only [true_and, and_true, sM_ne, sM_eq, sM_neR, sM_eqR, sK_upM, sK_upR, sL_upM, sL_upR, sN_upM, sN_upR, sT_upM, sT_upR, sN_upM, Int.reduceAdd, Int.reduceMul, Int.reduceSub, Int.reduceNeg, Int.zero_add, Int.add_zero, hF.c]) (h6' ()) ?_)
  refine rt_alx (x := S i) (by simp (disch := omega) only [true_and, and_true, sM_ne, sM_eq, sM_neR, sM_eqR, sK_upM, sK_upR, sL_upM, sL_upR, sN_upM, sN_upR, sT_upM, sT_upR, sN_upM, Int.reduceAdd, Int.reduceMul, Int.reduceSub, Int.reduceNeg, Int.zero_add, Int.add_zero, hF.c]) (by simp (disch := omega) only [true_and, and_true, sM_ne, sM_eq, sM_neR, sM_eqR, sK_upM, sK_upR, sL_upM, sL_upR, sN_upM, sN_upR, sT_upM, sT_upR, sN_upM, Int.reduceAdd, Int.reduceMul, Int.reduceSub, Int.reduceNeg, Int.zero_add, Int.add_zero, hF.c]; omega) (hs' ()) ?_
  refine rt_p (by simp (disch := omega) only [true_and, and_true, sM_ne, sM_eq, sM_neR, sM_eqR, sK_upM, sK_upR, sL_upM, sL_upR, sN_upM, sN_upR, sT_upM, sT_upR, sN_upM, Int.reduceAdd, Int.reduceMul, Int.reduceSub, Int.reduceNeg, Int.zero_add, Int.add_zero, hF.c]) (by omega) ?_
  refine rt_gx (x := (k : Int)) (by simp (disch := omega) only [true_and, and_true, sM_ne, sM_eq, sM_neR, sM_eqR, sK_upM, sK_upR, sL_upM, sL_upR, sN_upM, sN_upR, sT_upM, sT_upR, sN_upM, Int.reduceAdd, Int.reduceMul, Int.reduceSub, Int.reduceNeg, Int.zero_add, Int.add_zero, hF.c]) (by rw [sM_ne (by omega)]; exact h5' ()) (rt_p (by simp (disch := omega) only [true_and, and_true, sM_ne, sM_eq, sM_neR, sM_eqR, sK_upM, sK_upR, sL_upM, sL_upR, sN_upM, sN_upR, sT_upM, sT_upR, sN_upM, Int.reduceAdd, Int.reduceMul, Int.reduceSub, Int.reduceNeg, Int.zero_add, Int.add_zero, hF.c]) (by omega) (rt_ret ?_))
  have hc : Ch rdS s (upM (upM s 34 2 (S i)) 34 6 (k : Int)) := (Ch.rf.up (Or.inl ⟨rfl, by omega⟩)).up (Or.inl ⟨rfl, by omega⟩)
  exact ⟨hc, hc.Fx hF rdS_NF, ht.ch hF hc, sM_eq ⟨rfl, rfl⟩, ⟨by rw [sM_ne (by omega), sM_eq ⟨rfl, rfl⟩], hi⟩, by rw [sM_ne (by omega), sM_ne (by omega), h8]; omega⟩
theorem f_failD {s : ZS} {j : Nat} (h : DED T S k s j) (hS : ∀ j, j ≤ k → 0 ≤ S j) : Rt (fX4_fail s 34) (fun _ τ => Ch rdS s τ ∧ DED T S k τ j) := by
  obtain ⟨hF, ht, h6, ⟨h2, h2k⟩, h8⟩ := h
  have h5' := hd ht.1
  have h2' := hd h2
  have := hS j h2k
  unfold fX4_fail
  refine rt_gx (x := S j) (by simp (disch := omega) only [true_and, and_true, sM_ne, sM_eq, sM_neR, sM_eqR, sK_upM, sK_upR, sL_upM, sL_upR, sN_upM, sN_upR, sT_upM, sT_upR, sN_upM, Int.reduceAdd, Int.reduceMul, Int.reduceSub, Int.reduceNeg, Int.zero_add, Int.add_zero, hF.c]) (h2' ()) (rt_neg (by omega) ?_)
  refine rt_gx (x := (k : Int)) (by simp (disch := omega) only [true_and, and_true, sM_ne, sM_eq, sM_neR, sM_eqR, sK_upM, sK_upR, sL_upM, sL_upR, sN_upM, sN_upR, sT_upM, sT_upR, sN_upM, Int.reduceAdd, Int.reduceMul, Int.reduceSub, Int.reduceNeg, Int.zero_add, Int.add_zero, hF.c]) (h5' ()) (rt_p (by simp (disch := omega) only [true_and, and_true, sM_ne, sM_eq, sM_neR, sM_eqR, sK_upM, sK_upR, sL_upM, sL_upR, sN_upM, sN_upR, sT_upM, sT_upR, sN_upM, Int.reduceAdd, Int.reduceMul, Int.reduceSub, Int.reduceNeg, Int.zero_add, Int.add_zero, hF.c]) (by omega) (rt_ret ?_))
  have hc : Ch rdS s (upM s 34 6 (k : Int)) := Ch.rf.up (Or.inl ⟨rfl, by omega⟩)
  exact ⟨hc, hc.Fx hF rdS_NF, ht.ch hF hc, sM_eq ⟨rfl, rfl⟩, ⟨by rw [sM_ne (by omega)]; exact h2, h2k⟩, by rw [sM_ne (by omega)]; exact h8⟩
theorem f_emit {s : ZS} {i : Nat} {m : List Int} (h : LIV T S k s i m) (hm : m.length < 160) (x : Int) : Rt (fX4_emit s 34 x) (fun _ τ => Ch rdS s τ ∧ LIV T S k τ i (m ++ [x])) := by
  obtain ⟨hF, ht, h6, h2, h8, hr⟩ := h
  have h8' := hd h8
  unfold fX4_emit
  refine rt_gx (x := (m.length : Int)) (by simp (disch := omega) only [true_and, and_true, sM_ne, sM_eq, sM_neR, sM_eqR, sK_upM, sK_upR, sL_upM, sL_upR, sN_upM, sN_upR, sT_upM, sT_upR, sN_upM, Int.reduceAdd, Int.reduceMul, Int.reduceSub, Int.reduceNeg, Int.zero_add, Int.add_zero, hF.c]) (h8' ()) (rt_neg (by omega) ?_)
  refine rt_gx (x := 38) (by simp (disch := omega) only [true_and, and_true, sM_ne, sM_eq, sM_neR, sM_eqR, sK_upM, sK_upR, sL_upM, sL_upR, sN_upM, sN_upR, sT_upM, sT_upR, sN_upM, Int.reduceAdd, Int.reduceMul, Int.reduceSub, Int.reduceNeg, Int.zero_add, Int.add_zero, hF.c]) (by simp (disch := omega) only [true_and, and_true, sM_ne, sM_eq, sM_neR, sM_eqR, sK_upM, sK_upR, sL_upM, sL_upR, sN_upM, sN_upR, sT_upM, sT_upR, sN_upM, Int.reduceAdd, Int.reduceMul, Int.reduceSub, Int.reduceNeg, Int.zero_add, Int.add_zero, hF.c]) (rt_gx (x := (m.length : Int)) (by simp (disch := omega) only [true_and, and_true, sM_ne, sM_eq, sM_neR, sM_eqR, sK_upM, sK_upR, sL_upM, sL_upR, sN_upM, sN_upR, sT_upM, sT_upR, sN_upM, Int.reduceAdd, Int.reduceMul, Int.reduceSub, Int.reduceNeg, Int.zero_add, Int.add_zero, hF.c]) (h8' ()) ?_)
  refine rt_as (by simp (disch := omega) only [true_and, and_true, sM_ne, sM_eq, sM_neR, sM_eqR, sK_upM, sK_upR, sL_upM, sL_upR, sN_upM, sN_upR, sT_upM, sT_upR, sN_upM, Int.reduceAdd, Int.reduceMul, Int.reduceSub, Int.reduceNeg, Int.zero_add, Int.add_zero, hF.c]) (by simp (disch := omega) only [true_and, and_true, sM_ne, sM_eq, sM_neR, sM_eqR, sK_upM, sK_upR, sL_upM, sL_upR, sN_upM, sN_upR, sT_upM, sT_upR, sN_upM, Int.reduceAdd, Int.reduceMul, Int.reduceSub, Int.reduceNeg, Int.zero_add, Int.add_zero, hF.c]; omega) ?_
  refine rt_gx (x := (m.length : Int)) (by simp (disch := omega) only [true_and, and_true, sM_ne, sM_eq, sM_neR, sM_eqR, sK_upM, sK_upR, sL_upM, sL_upR, sN_upM, sN_upR, sT_upM, sT_upR, sN_upM, Int.reduceAdd, Int.reduceMul, Int.reduceSub, Int.reduceNeg, Int.zero_add, Int.add_zero, hF.c]) (by rw [sM_ne (by omega)]; exact h8' ()) (rt_p (by simp (disch := omega) only [true_and, and_true, sM_ne, sM_eq, sM_neR, sM_eqR, sK_upM, sK_upR, sL_upM, sL_upR, sN_upM, sN_upR, sT_upM, sT_upR, sN_upM, Int.reduceAdd, Int.reduceMul, Int.reduceSub, Int.reduceNeg, Int.zero_add, Int.add_zero, hF.c]) (by omega) (rt_ret ?_))
  rw [wr1 _ (by omega)]
  have hc : Ch rdS s (upM (upM s 38 (m.length : Int) x) 34 8 ((m.length + 1 : Nat) : Int)) := (Ch.rf.up (Or.inr rfl)).up (Or.inl ⟨rfl, by omega⟩)
  refine ⟨hc, hc.Fx hF rdS_NF, ht.ch hF hc, by rw [sM_ne (by omega), sM_ne (by omega)]; exact h6, by rw [sM_ne (by omega), sM_ne (by omega)]; exact h2, by rw [sM_eq ⟨rfl, rfl⟩, List.length_append]; rfl, fun j hj => ?_⟩
  rw [List.length_append, List.length_singleton] at hj
  rw [getD_app m x j hj, sM_ne (by omega)]
  by_cases q : j < m.length
  · rw [if_pos q, sM_ne (by omega)]; exact hr j q
  · rw [if_neg q, sM_eq ⟨rfl, by omega⟩]
theorem f_emitD {s : ZS} {j : Nat} (h : DED T S k s j) (x : Int) : Rt (fX4_emit s 34 x) (fun _ τ => Ch rdS s τ ∧ DED T S k τ j) := by
  obtain ⟨hF, ht, h6, ⟨h2, h2k⟩, h8, h8b⟩ := h
  generalize hn : sM s 34 8 = n at *
  have h8' := hd hn
  unfold fX4_emit
  refine rt_gx (x := n) (by simp (disch := omega) only [true_and, and_true, sM_ne, sM_eq, sM_neR, sM_eqR, sK_upM, sK_upR, sL_upM, sL_upR, sN_upM, sN_upR, sT_upM, sT_upR, sN_upM, Int.reduceAdd, Int.reduceMul, Int.reduceSub, Int.reduceNeg, Int.zero_add, Int.add_zero, hF.c]) (h8' ()) ?_
  by_cases q : 160 ≤ n
  · exact rt_pos q (rt_ret ⟨Ch.rf, hF, ht, h6, ⟨h2, h2k⟩, by rw [hn]; exact ⟨h8, h8b⟩⟩)
  · refine rt_neg q ?_
    refine rt_gx (x := 38) (by simp (disch := omega) only [true_and, and_true, sM_ne, sM_eq, sM_neR, sM_eqR, sK_upM, sK_upR, sL_upM, sL_upR, sN_upM, sN_upR, sT_upM, sT_upR, sN_upM, Int.reduceAdd, Int.reduceMul, Int.reduceSub, Int.reduceNeg, Int.zero_add, Int.add_zero, hF.c]) (by simp (disch := omega) only [true_and, and_true, sM_ne, sM_eq, sM_neR, sM_eqR, sK_upM, sK_upR, sL_upM, sL_upR, sN_upM, sN_upR, sT_upM, sT_upR, sN_upM, Int.reduceAdd, Int.reduceMul, Int.reduceSub, Int.reduceNeg, Int.zero_add, Int.add_zero, hF.c]) (rt_gx (x := n) (by simp (disch := omega) only [true_and, and_true, sM_ne, sM_eq, sM_neR, sM_eqR, sK_upM, sK_upR, sL_upM, sL_upR, sN_upM, sN_upR, sT_upM, sT_upR, sN_upM, Int.reduceAdd, Int.reduceMul, Int.reduceSub, Int.reduceNeg, Int.zero_add, Int.add_zero, hF.c]) (h8' ()) ?_)
    refine rt_as (by simp (disch := omega) only [true_and, and_true, sM_ne, sM_eq, sM_neR, sM_eqR, sK_upM, sK_upR, sL_upM, sL_upR, sN_upM, sN_upR, sT_upM, sT_upR, sN_upM, Int.reduceAdd, Int.reduceMul, Int.reduceSub, Int.reduceNeg, Int.zero_add, Int.add_zero, hF.c]) (by simp (disch := omega) only [true_and, and_true, sM_ne, sM_eq, sM_neR, sM_eqR, sK_upM, sK_upR, sL_upM, sL_upR, sN_upM, sN_upR, sT_upM, sT_upR, sN_upM, Int.reduceAdd, Int.reduceMul, Int.reduceSub, Int.reduceNeg, Int.zero_add, Int.add_zero, hF.c]; omega) ?_
    refine rt_gx (x := n) (by simp (disch := omega) only [true_and, and_true, sM_ne, sM_eq, sM_neR, sM_eqR, sK_upM, sK_upR, sL_upM, sL_upR, sN_upM, sN_upR, sT_upM, sT_upR, sN_upM, Int.reduceAdd, Int.reduceMul, Int.reduceSub, Int.reduceNeg, Int.zero_add, Int.add_zero, hF.c]) (by rw [sM_ne (by omega)]; exact h8' ()) (rt_p (by simp (disch := omega) only [true_and, and_true, sM_ne, sM_eq, sM_neR, sM_eqR, sK_upM, sK_upR, sL_upM, sL_upR, sN_upM, sN_upR, sT_upM, sT_upR, sN_upM, Int.reduceAdd, Int.reduceMul, Int.reduceSub, Int.reduceNeg, Int.zero_add, Int.add_zero, hF.c]) (by omega) (rt_ret ?_))
    have hc : Ch rdS s (upM (upM s 38 n x) 34 8 (wrap (n + 1))) := (Ch.rf.up (Or.inr rfl)).up (Or.inl ⟨rfl, by omega⟩)
    refine ⟨hc, hc.Fx hF rdS_NF, ht.ch hF hc, by rw [sM_ne (by omega), sM_ne (by omega)]; exact h6, ⟨by rw [sM_ne (by omega), sM_ne (by omega)]; exact h2, h2k⟩, ?_⟩
    rw [sM_eq ⟨rfl, rfl⟩, wr (by omega) (by omega)]
    omega
/-- what a reading leaves behind -/
def RES (T S : Nat → Int) (k : Nat) (r : RR) (i : Nat) (m : List Int) (τ : ZS) : Prop := if r.1 = true then LIV T S k τ r.2.1 (m ++ r.2.2) ∧ r.2.2.length + i ≤ r.2.1 ∧ r.2.1 ≤ k else DED T S k τ r.2.1
def okF (T S : Nat → Int) (k : Nat) (g : ZS → Option (Int × ZS)) (nx : Nat → RR) : Prop := (∀ (s : ZS) (i : Nat) (m : List Int), LIV T S k s i m → m.length ≤ i → i ≤ k → Rt (g s) (fun _ τ => Ch rdS s τ ∧ RES T S k (nx i) i m τ)) ∧ ∀ (s : ZS) (j : Nat), DED T S k s j → Rt (g s) (fun _ τ => Ch rdS s τ ∧ DED T S k τ j)
theorem l_cOr {rf : Nat → ZS → Int → Int → Option (Int × ZS)} {o : Int} {nx : Nat → RR} (hk : k ≤ 160) (hT : T k = 30000) (hg : okF T S k (fun s => rf 1 s 34 o) nx) :
    ∀ (N n x : Nat) (s : ZS) (i i0 : Nat) (m0 w : List Int), LIV T S k s i (m0 ++ w) → w.length + i0 ≤ i → m0.length ≤ i0 → i ≤ k → x ≤ i → x + n = 200 → 300 < N + x → Rt (lX4_readOr_7 rf 34 o N s (x : Int)) (fun _ τ => Ch rdS s τ ∧ RES T S k (rdL T opOr nx n i w) i0 m0 τ)
  | 0, n, x, s, i, i0, m0, w, h, h1, h2, h3, h4, h5, h6 => by omega
  | N + 1, n, x, s, i, i0, m0, w, h, h1, h2, h3, h4, h5, h6 => by
    obtain ⟨n', rfl⟩ : ∃ n', n = n' + 1 := ⟨n - 1, by omega⟩
    rw [lX4_readOr_7]
    by_cases hx : 160 ≤ x
    · have hik : i = k := by omega
      have e : rdL T opOr nx (n' + 1) i w = (true, i, w) := by unfold rdL; rw [hik, hT]; rfl
      rw [e]
      refine rt_pos (by omega) (rt_ret ⟨Ch.rf, ?_⟩)
      show (if true = true then LIV T S k s i (m0 ++ w) ∧ w.length + i0 ≤ i ∧ i ≤ k else DED T S k s i)
      rw [if_pos rfl]
      exact ⟨h, h1, h3⟩
    refine rt_neg (by omega) (h.pk hk h3 ?_)
    unfold rdL
    by_cases q : T i = 10009
    · have e : opOr (T i) = some 10012 := by unfold opOr; rw [if_pos q]
      have hik : i < k := by
        rcases Nat.lt_or_ge i k with r | r
        · exact r
        · have : i = k := by omega
          rw [this, hT] at q; omega
      rw [e]
      refine rt_pos q (rt_b (rt_v (by simp (disch := omega) only [true_and, and_true, sM_ne, sM_eq, sM_neR, sM_eqR, sK_upM, sK_upR, sL_upM, sL_upR, sN_upM, sN_upR, sT_upM, sT_upR, sN_upM, Int.reduceAdd, Int.reduceMul, Int.reduceSub, Int.reduceNeg, Int.zero_add, Int.add_zero, h.1.c]) ?_))
      refine Rt.mono (f_adv h hik hk) ?_
      rintro v1 s1 ⟨c1, hl1⟩
      refine rt_b (rt_v (by simp (disch := omega) only [true_and, and_true, sM_ne, sM_eq, sM_neR, sM_eqR, sK_upM, sK_upR, sL_upM, sL_upR, sN_upM, sN_upR, sT_upM, sT_upR, sN_upM, Int.reduceAdd, Int.reduceMul, Int.reduceSub, Int.reduceNeg, Int.zero_add, Int.add_zero, hl1.1.c]) ?_)
      refine Rt.mono (hg.1 s1 (i + 1) (m0 ++ w) hl1 (by rw [List.length_append]; omega) (by omega)) ?_
      rintro v2 s2 ⟨c2, hr⟩
      unfold RES at hr
      by_cases hb : (nx (i + 1)).1 = true
      · rw [if_pos hb] at hr
        obtain ⟨hl2, b1, b2⟩ := hr
        show Rt _ (fun _ τ => Ch rdS s τ ∧ RES T S k (if (nx (i + 1)).1 = true then rdL T opOr nx n' (nx (i + 1)).2.1 (w ++ ((nx (i + 1)).2.2 ++ [10012])) else (false, (nx (i + 1)).2.1, [])) i0 m0 τ)
        rw [if_pos hb]
        refine rt_b (rt_v (by simp (disch := omega) only [true_and, and_true, sM_ne, sM_eq, sM_neR, sM_eqR, sK_upM, sK_upR, sL_upM, sL_upR, sN_upM, sN_upR, sT_upM, sT_upR, sN_upM, Int.reduceAdd, Int.reduceMul, Int.reduceSub, Int.reduceNeg, Int.zero_add, Int.add_zero, hl2.1.c]) ?_)
        refine Rt.mono (f_emit hl2 (by rw [List.length_append, List.length_append]; omega) 10012) ?_
        rintro v3 s3 ⟨c3, hl3⟩
        rw [wr1 x (by omega)]
        refine (l_cOr hk hT hg N n' (x + 1) s3 _ i0 m0 (w ++ ((nx (i + 1)).2.2 ++ [10012])) (by rw [List.append_assoc, List.append_assoc] at hl3; exact hl3) (by rw [List.length_append, List.length_append, List.length_singleton]; omega) h2 b2 (by omega) (by omega) (by omega)).mono ?_
        rintro v4 s4 ⟨c4, hr4⟩
        exact ⟨((c1.tr c2).tr c3).tr c4, hr4⟩
      · rw [if_neg hb] at hr
        show Rt _ (fun _ τ => Ch rdS s τ ∧ RES T S k (if (nx (i + 1)).1 = true then rdL T opOr nx n' (nx (i + 1)).2.1 (w ++ ((nx (i + 1)).2.2 ++ [10012])) else (false, (nx (i + 1)).2.1, [])) i0 m0 τ)
        rw [if_neg hb]
        refine rt_b (rt_v (by simp (disch := omega) only [true_and, and_true, sM_ne, sM_eq, sM_neR, sM_eqR, sK_upM, sK_upR, sL_upM, sL_upR, sN_upM, sN_upR, sT_upM, sT_upR, sN_upM, Int.reduceAdd, Int.reduceMul, Int.reduceSub, Int.reduceNeg, Int.zero_add, Int.add_zero, hr.1.c]) ?_)
        refine Rt.mono (f_emitD hr 10012) ?_
        rintro v3 s3 ⟨c3, hd3⟩
        obtain ⟨N', rfl⟩ : ∃ N', N = N' + 1 := ⟨N - 1, by omega⟩
        rw [lX4_readOr_7]
        rw [wr1 x (by omega)]
        exact rt_if (fun _ => rt_ret ⟨(c1.tr c2).tr c3, hd3⟩) (fun _ => hd3.pk hk hT (rt_neg (by decide) (rt_ret ⟨(c1.tr c2).tr c3, hd3⟩)))
    · have e : opOr (T i) = none := by unfold opOr; rw [if_neg q]
      rw [e]
      refine rt_neg q (rt_ret ⟨Ch.rf, ?_⟩)
      show (if true = true then LIV T S k s i (m0 ++ w) ∧ w.length + i0 ≤ i ∧ i ≤ k else DED T S k s i)
      rw [if_pos rfl]
      exact ⟨h, h1, h3⟩
theorem l_cAnd {rf : Nat → ZS → Int → Int → Option (Int × ZS)} {o : Int} {nx : Nat → RR} (hk : k ≤ 160) (hT : T k = 30000) (hg : okF T S k (fun s => rf 2 s 34 o) nx) :
    ∀ (N n x : Nat) (s : ZS) (i i0 : Nat) (m0 w : List Int), LIV T S k s i (m0 ++ w) → w.length + i0 ≤ i → m0.length ≤ i0 → i ≤ k → x ≤ i → x + n = 200 → 300 < N + x → Rt (lX4_readAnd_7 rf 34 o N s (x : Int)) (fun _ τ => Ch rdS s τ ∧ RES T S k (rdL T opAnd nx n i w) i0 m0 τ)
  | 0, n, x, s, i, i0, m0, w, h, h1, h2, h3, h4, h5, h6 => by omega
  | N + 1, n, x, s, i, i0, m0, w, h, h1, h2, h3, h4, h5, h6 => by
    obtain ⟨n', rfl⟩ : ∃ n', n = n' + 1 := ⟨n - 1, by omega⟩
    rw [lX4_readAnd_7]
    by_cases hx : 160 ≤ x
    · have hik : i = k := by omega
      have e : rdL T opAnd nx (n' + 1) i w = (true, i, w) := by unfold rdL; rw [hik, hT]; rfl
      rw [e]
      refine rt_pos (by omega) (rt_ret ⟨Ch.rf, ?_⟩)
      show (if true = true then LIV T S k s i (m0 ++ w) ∧ w.length + i0 ≤ i ∧ i ≤ k else DED T S k s i)
      rw [if_pos rfl]
      exact ⟨h, h1, h3⟩
    refine rt_neg (by omega) (h.pk hk h3 ?_)
    unfold rdL
    by_cases q : T i = 10008
    · have e : opAnd (T i) = some 10011 := by unfold opAnd; rw [if_pos q]
      have hik : i < k := by
        rcases Nat.lt_or_ge i k with r | r
        · exact r
        · have : i = k := by omega
          rw [this, hT] at q; omega
      rw [e]
      refine rt_pos q (rt_b (rt_v (by simp (disch := omega) only [true_and, and_true, sM_ne, sM_eq, sM_neR, sM_eqR, sK_upM, sK_upR, sL_upM, sL_upR, sN_upM, sN_upR, sT_upM, sT_upR, sN_upM, Int.reduceAdd, Int.reduceMul, Int.reduceSub, Int.reduceNeg, Int.zero_add, Int.add_zero, h.1.c]) ?_))
      refine Rt.mono (f_adv h hik hk) ?_
      rintro v1 s1 ⟨c1, hl1⟩
      refine rt_b (rt_v (by simp (disch := omega) only [true_and, and_true, sM_ne, sM_eq, sM_neR, sM_eqR, sK_upM, sK_upR, sL_upM, sL_upR, sN_upM, sN_upR, sT_upM, sT_upR, sN_upM, Int.reduceAdd, Int.reduceMul, Int.reduceSub, Int.reduceNeg, Int.zero_add, Int.add_zero, hl1.1.c]) ?_)
      refine Rt.mono (hg.1 s1 (i + 1) (m0 ++ w) hl1 (by rw [List.length_append]; omega) (by omega)) ?_
      rintro v2 s2 ⟨c2, hr⟩
      unfold RES at hr
      by_cases hb : (nx (i + 1)).1 = true
      · rw [if_pos hb] at hr
        obtain ⟨hl2, b1, b2⟩ := hr
        show Rt _ (fun _ τ => Ch rdS s τ ∧ RES T S k (if (nx (i + 1)).1 = true then rdL T opAnd nx n' (nx (i + 1)).2.1 (w ++ ((nx (i + 1)).2.2 ++ [10011])) else (false, (nx (i + 1)).2.1, [])) i0 m0 τ)
        rw [if_pos hb]
        refine rt_b (rt_v (by simp (disch := omega) only [true_and, and_true, sM_ne, sM_eq, sM_neR, sM_eqR, sK_upM, sK_upR, sL_upM, sL_upR, sN_upM, sN_upR, sT_upM, sT_upR, sN_upM, Int.reduceAdd, Int.reduceMul, Int.reduceSub, Int.reduceNeg, Int.zero_add, Int.add_zero, hl2.1.c]) ?_)
        refine Rt.mono (f_emit hl2 (by rw [List.length_append, List.length_append]; omega) 10011) ?_
        rintro v3 s3 ⟨c3, hl3⟩
        rw [wr1 x (by omega)]
        refine (l_cAnd hk hT hg N n' (x + 1) s3 _ i0 m0 (w ++ ((nx (i + 1)).2.2 ++ [10011])) (by rw [List.append_assoc, List.append_assoc] at hl3; exact hl3) (by rw [List.length_append, List.length_append, List.length_singleton]; omega) h2 b2 (by omega) (by omega) (by omega)).mono ?_
        rintro v4 s4 ⟨c4, hr4⟩
        exact ⟨((c1.tr c2).tr c3).tr c4, hr4⟩
      · rw [if_neg hb] at hr
        show Rt _ (fun _ τ => Ch rdS s τ ∧ RES T S k (if (nx (i + 1)).1 = true then rdL T opAnd nx n' (nx (i + 1)).2.1 (w ++ ((nx (i + 1)).2.2 ++ [10011])) else (false, (nx (i + 1)).2.1, [])) i0 m0 τ)
        rw [if_neg hb]
        refine rt_b (rt_v (by simp (disch := omega) only [true_and, and_true, sM_ne, sM_eq, sM_neR, sM_eqR, sK_upM, sK_upR, sL_upM, sL_upR, sN_upM, sN_upR, sT_upM, sT_upR, sN_upM, Int.reduceAdd, Int.reduceMul, Int.reduceSub, Int.reduceNeg, Int.zero_add, Int.add_zero, hr.1.c]) ?_)
        refine Rt.mono (f_emitD hr 10011) ?_
        rintro v3 s3 ⟨c3, hd3⟩
        obtain ⟨N', rfl⟩ : ∃ N', N = N' + 1 := ⟨N - 1, by omega⟩
        rw [lX4_readAnd_7]
        rw [wr1 x (by omega)]
        exact rt_if (fun _ => rt_ret ⟨(c1.tr c2).tr c3, hd3⟩) (fun _ => hd3.pk hk hT (rt_neg (by decide) (rt_ret ⟨(c1.tr c2).tr c3, hd3⟩)))
    · have e : opAnd (T i) = none := by unfold opAnd; rw [if_neg q]
      rw [e]
      refine rt_neg q (rt_ret ⟨Ch.rf, ?_⟩)
      show (if true = true then LIV T S k s i (m0 ++ w) ∧ w.length + i0 ≤ i ∧ i ≤ k else DED T S k s i)
      rw [if_pos rfl]
      exact ⟨h, h1, h3⟩
theorem l_cTerm {rf : Nat → ZS → Int → Int → Option (Int × ZS)} {o : Int} {nx : Nat → RR} (hk : k ≤ 160) (hT : T k = 30000) (hg : okF T S k (fun s => rf 5 s 34 o) nx) :
    ∀ (N n x : Nat) (s : ZS) (i i0 : Nat) (m0 w : List Int), LIV T S k s i (m0 ++ w) → w.length + i0 ≤ i → m0.length ≤ i0 → i ≤ k → x ≤ i → x + n = 200 → 300 < N + x → Rt (lX4_readTerm_7 rf 34 o N s (x : Int)) (fun _ τ => Ch rdS s τ ∧ RES T S k (rdL T opMul nx n i w) i0 m0 τ)
  | 0, n, x, s, i, i0, m0, w, h, h1, h2, h3, h4, h5, h6 => by omega
  | N + 1, n, x, s, i, i0, m0, w, h, h1, h2, h3, h4, h5, h6 => by
    obtain ⟨n', rfl⟩ : ∃ n', n = n' + 1 := ⟨n - 1, by omega⟩
    rw [lX4_readTerm_7]
    by_cases hx : 160 ≤ x
    · have hik : i = k := by omega
      have e : rdL T opMul nx (n' + 1) i w = (true, i, w) := by unfold rdL; rw [hik, hT]; rfl
      rw [e]
      refine rt_pos (by omega) (rt_ret ⟨Ch.rf, ?_⟩)
      show (if true = true then LIV T S k s i (m0 ++ w) ∧ w.length + i0 ≤ i ∧ i ≤ k else DED T S k s i)
      rw [if_pos rfl]
      exact ⟨h, h1, h3⟩
    refine rt_neg (by omega) (h.pk hk h3 ?_)
    unfold rdL
    by_cases q : T i = 20042
    · have e : opMul (T i) = some 10008 := by unfold opMul; rw [if_pos q]
      have hik : i < k := by
        rcases Nat.lt_or_ge i k with r | r
        · exact r
        · have : i = k := by omega
          rw [this, hT] at q; omega
      rw [e]
      refine rt_pos q (rt_b (rt_v (by simp (disch := omega) only [true_and, and_true, sM_ne, sM_eq, sM_neR, sM_eqR, sK_upM, sK_upR, sL_upM, sL_upR, sN_upM, sN_upR, sT_upM, sT_upR, sN_upM, Int.reduceAdd, Int.reduceMul, Int.reduceSub, Int.reduceNeg, Int.zero_add, Int.add_zero, h.1.c]) ?_))
      refine Rt.mono (f_adv h hik hk) ?_
      rintro v1 s1 ⟨c1, hl1⟩
      refine rt_b (rt_v (by simp (disch := omega) only [true_and, and_true, sM_ne, sM_eq, sM_neR, sM_eqR, sK_upM, sK_upR, sL_upM, sL_upR, sN_upM, sN_upR, sT_upM, sT_upR, sN_upM, Int.reduceAdd, Int.reduceMul, Int.reduceSub, Int.reduceNeg, Int.zero_add, Int.add_zero, hl1.1.c]) ?_)
      refine Rt.mono (hg.1 s1 (i + 1) (m0 ++ w) hl1 (by rw [List.length_append]; omega) (by omega)) ?_
      rintro v2 s2 ⟨c2, hr⟩
      unfold RES at hr
      by_cases hb : (nx (i + 1)).1 = true
      · rw [if_pos hb] at hr
        obtain ⟨hl2, b1, b2⟩ := hr
        show Rt _ (fun _ τ => Ch rdS s τ ∧ RES T S k (if (nx (i + 1)).1 = true then rdL T opMul nx n' (nx (i + 1)).2.1 (w ++ ((nx (i + 1)).2.2 ++ [10008])) else (false, (nx (i + 1)).2.1, [])) i0 m0 τ)
        rw [if_pos hb]
        refine rt_b (rt_v (by simp (disch := omega) only [true_and, and_true, sM_ne, sM_eq, sM_neR, sM_eqR, sK_upM, sK_upR, sL_upM, sL_upR, sN_upM, sN_upR, sT_upM, sT_upR, sN_upM, Int.reduceAdd, Int.reduceMul, Int.reduceSub, Int.reduceNeg, Int.zero_add, Int.add_zero, hl2.1.c]) ?_)
        refine Rt.mono (f_emit hl2 (by rw [List.length_append, List.length_append]; omega) 10008) ?_
        rintro v3 s3 ⟨c3, hl3⟩
        rw [wr1 x (by omega)]
        refine (l_cTerm hk hT hg N n' (x + 1) s3 _ i0 m0 (w ++ ((nx (i + 1)).2.2 ++ [10008])) (by rw [List.append_assoc, List.append_assoc] at hl3; exact hl3) (by rw [List.length_append, List.length_append, List.length_singleton]; omega) h2 b2 (by omega) (by omega) (by omega)).mono ?_
        rintro v4 s4 ⟨c4, hr4⟩
        exact ⟨((c1.tr c2).tr c3).tr c4, hr4⟩
      · rw [if_neg hb] at hr
        show Rt _ (fun _ τ => Ch rdS s τ ∧ RES T S k (if (nx (i + 1)).1 = true then rdL T opMul nx n' (nx (i + 1)).2.1 (w ++ ((nx (i + 1)).2.2 ++ [10008])) else (false, (nx (i + 1)).2.1, [])) i0 m0 τ)
        rw [if_neg hb]
        refine rt_b (rt_v (by simp (disch := omega) only [true_and, and_true, sM_ne, sM_eq, sM_neR, sM_eqR, sK_upM, sK_upR, sL_upM, sL_upR, sN_upM, sN_upR, sT_upM, sT_upR, sN_upM, Int.reduceAdd, Int.reduceMul, Int.reduceSub, Int.reduceNeg, Int.zero_add, Int.add_zero, hr.1.c]) ?_)
        refine Rt.mono (f_emitD hr 10008) ?_
        rintro v3 s3 ⟨c3, hd3⟩
        obtain ⟨N', rfl⟩ : ∃ N', N = N' + 1 := ⟨N - 1, by omega⟩
        rw [lX4_readTerm_7]
        rw [wr1 x (by omega)]
        exact rt_if (fun _ => rt_ret ⟨(c1.tr c2).tr c3, hd3⟩) (fun _ => hd3.pk hk hT (rt_neg (by decide) (rt_ret ⟨(c1.tr c2).tr c3, hd3⟩)))
    · have e : opMul (T i) = none := by unfold opMul; rw [if_neg q]
      rw [e]
      refine rt_neg q (rt_ret ⟨Ch.rf, ?_⟩)
      show (if true = true then LIV T S k s i (m0 ++ w) ∧ w.length + i0 ≤ i ∧ i ≤ k else DED T S k s i)
      rw [if_pos rfl]
      exact ⟨h, h1, h3⟩
end RDC
