/-! readings: how deep their steps go; and stacks that are unwound -/
def WP (D : Int) (w : List Int) : Prop := ∀ (n : Nat) (rest : List Int), (n : Int) + D ≤ 64 → dpk n (w ++ rest) = dpk (n + 1) rest
theorem WP.le {D D' : Int} {w : List Int} (h : WP D w) (q : D ≤ D') : WP D' w := fun n rest hn => h n rest (by omega)
theorem wp_num {x : Int} (h0 : 0 ≤ x) (h1 : x < 10006) : WP 1 [x] := by
  intro n rest hn
  show dpk n (x :: rest) = _
  rw [dpk, decide_eq_true (show 0 ≤ x ∧ x ≤ 10014 by omega), if_pos h1, decide_eq_true (show n < 64 by omega)]
  rfl
theorem wp_bin {D D' D2 : Int} {w v : List Int} {e : Int} (h : WP D w) (k : WP D' v) (he : 10006 ≤ e) (he2 : e < 10013) (q1 : D ≤ D2) (q2 : D' + 1 ≤ D2) : WP D2 (w ++ (v ++ [e])) := by
  intro n rest hn
  rw [List.append_assoc, List.append_assoc, h n _ (by omega), k (n + 1) _ (by omega)]
  show dpk (n + 1 + 1) (e :: rest) = _
  rw [dpk, decide_eq_true (show 0 ≤ e ∧ e ≤ 10014 by omega), if_neg (by omega), if_pos he2, decide_eq_true (show 2 ≤ n + 1 + 1 by omega)]
  rfl
theorem wp_un {D : Int} {w : List Int} {e : Int} (h : WP D w) (he : e = 10013 ∨ e = 10014) : WP D (w ++ [e]) := by
  intro n rest hn
  rw [List.append_assoc, h n _ hn]
  show dpk (n + 1) (e :: rest) = _
  rw [dpk, decide_eq_true (show 0 ≤ e ∧ e ≤ 10014 by omega), if_neg (by omega), if_neg (by omega), decide_eq_true (show 1 ≤ n + 1 by omega)]
  rfl
def dD (t : Nat) (o : Int) : Int := 5 * (5 - o) + 1 + (5 - (t : Int))
theorem rdL_wp {T : Nat → Int} {op : Int → Option Int} {nx : Nat → RR} {D D' : Int} (hop : ∀ x e, op x = some e → 10006 ≤ e ∧ e < 10013) (hnx : ∀ i, (nx i).1 = true → WP D' (nx i).2.2) (hD : D' + 1 ≤ D) : ∀ (n i : Nat) (w : List Int), WP D w → (rdL T op nx n i w).1 = true → WP D (rdL T op nx n i w).2.2
  | 0, i, w, h, _ => h
  | n + 1, i, w, h, hr => by
    unfold rdL at hr ⊢
    cases e : op (T i) with
    | none => exact h
    | some e' =>
      rw [e] at hr
      obtain ⟨e1, e2⟩ := hop _ _ e
      by_cases hb : (nx (i + 1)).1 = true
      · simp only [if_pos hb] at hr ⊢
        exact rdL_wp hop hnx hD n _ _ (wp_bin h (hnx _ hb) e1 e2 (Int.le_refl _) hD) hr
      · simp only [if_neg hb] at hr
        cases hr
theorem opOr_in : ∀ x e, opOr x = some e → 10006 ≤ e ∧ e < 10013 := by
  intro x e h
  unfold opOr at h
  split at h
  · cases h; decide
  · cases h
theorem opAnd_in : ∀ x e, opAnd x = some e → 10006 ≤ e ∧ e < 10013 := by
  intro x e h
  unfold opAnd at h
  split at h
  · cases h; decide
  · cases h
theorem opMul_in : ∀ x e, opMul x = some e → 10006 ≤ e ∧ e < 10013 := by
  intro x e h
  unfold opMul at h
  split at h
  · cases h; decide
  · cases h
theorem opSum_in : ∀ x e, opSum x = some e → 10006 ≤ e ∧ e < 10013 := by
  intro x e h
  unfold opSum at h
  split at h
  · cases h; decide
  · split at h
    · cases h; decide
    · cases h
theorem opCmp_in : ∀ x e, opCmp x = some e → 10006 ≤ e ∧ e < 10013 := by
  intro x e h
  unfold opCmp at h
  split at h
  · cases h; decide
  · split at h
    · cases h; decide
    · cases h
theorem rdB_t {r : RR} {f : Nat → List Int → RR} (h : (rdB r f).1 = true) : r.1 = true ∧ rdB r f = f r.2.1 r.2.2 := by
  by_cases q : r.1 = true
  · exact ⟨q, rdB_yes q⟩
  · rw [rdB_no q] at h; cases h
theorem rd_wp {T : Nat → Int} (hT0 : ∀ i, 0 ≤ T i) : ∀ (d t : Nat) (o : Int) (i : Nat), t ≤ 5 → 0 ≤ o → o ≤ 5 → (rd T d t o i).1 = true → WP (dD t o) (rd T d t o i).2.2
  | 0, t, o, i, _, _, _, h => by cases h
  | d + 1, t, o, i, ht, h0, h5, h => by
    have ih : ∀ t' o' i', t' ≤ 5 → 0 ≤ o' → o' ≤ 5 → (rd T d t' o' i').1 = true → WP (dD t' o') (rd T d t' o' i').2.2 := fun t' o' i' a b c e => rd_wp hT0 d t' o' i' a b c e
    rcases (by omega : t = 0 ∨ t = 1 ∨ t = 2 ∨ t = 3 ∨ t = 4 ∨ t = 5) with rfl | rfl | rfl | rfl | rfl | rfl
    · change (rdB (rd T d 1 o i) (fun j x => rdL T opOr (rd T d 1 o) 200 j x)).1 = true at h
      show WP _ (rdB (rd T d 1 o i) (fun j x => rdL T opOr (rd T d 1 o) 200 j x)).2.2
      obtain ⟨q, e⟩ := rdB_t h
      rw [e] at h ⊢
      exact rdL_wp opOr_in (fun i' => ih 1 o i' (by omega) h0 h5) (by unfold dD; omega) 200 _ _ ((ih 1 o i (by omega) h0 h5 q).le (by unfold dD; omega)) h
    · change (rdB (rd T d 2 o i) (fun j x => rdL T opAnd (rd T d 2 o) 200 j x)).1 = true at h
      show WP _ (rdB (rd T d 2 o i) (fun j x => rdL T opAnd (rd T d 2 o) 200 j x)).2.2
      obtain ⟨q, e⟩ := rdB_t h
      rw [e] at h ⊢
      exact rdL_wp opAnd_in (fun i' => ih 2 o i' (by omega) h0 h5) (by unfold dD; omega) 200 _ _ ((ih 2 o i (by omega) h0 h5 q).le (by unfold dD; omega)) h
    · change (if T i = 10010 then (if o < 5 then rdB (rd T d 2 (o + 1) (i + 1)) (fun j x => (true, j, x ++ [10013])) else (false, i, []))
          else rdB (rd T d 3 o i) (fun j x => match opCmp (T j) with
            | none => (true, j, x)
            | some e => rdB (rd T d 3 o (j + 1)) (fun j2 y => (true, j2, x ++ (y ++ [e]))))).1 = true at h
      show WP _ (if T i = 10010 then (if o < 5 then rdB (rd T d 2 (o + 1) (i + 1)) (fun j x => (true, j, x ++ [10013])) else (false, i, []))
          else rdB (rd T d 3 o i) (fun j x => match opCmp (T j) with
            | none => (true, j, x)
            | some e => rdB (rd T d 3 o (j + 1)) (fun j2 y => (true, j2, x ++ (y ++ [e]))))).2.2
      by_cases q : T i = 10010
      · rw [if_pos q] at h ⊢
        by_cases ho : o < 5
        · rw [if_pos ho] at h ⊢
          obtain ⟨q2, e⟩ := rdB_t h
          rw [e]
          exact (wp_un (ih 2 (o + 1) (i + 1) (by omega) (by omega) (by omega) q2) (Or.inl rfl)).le (by unfold dD; omega)
        · rw [if_neg ho] at h; cases h
      · rw [if_neg q] at h ⊢
        obtain ⟨q2, e⟩ := rdB_t h
        rw [e] at h ⊢
        have w1 := ih 3 o i (by omega) h0 h5 q2
        cases ec : opCmp (T (rd T d 3 o i).2.1) with
        | none => exact w1.le (by unfold dD; omega)
        | some e' =>
          simp only [ec] at h ⊢
          obtain ⟨q3, e3⟩ := rdB_t h
          rw [e3]
          obtain ⟨g1, g2⟩ := opCmp_in _ _ ec
          exact wp_bin w1 (ih 3 o _ (by omega) h0 h5 q3) g1 g2 (by unfold dD; omega) (by unfold dD; omega)
    · change (rdB (rd T d 4 o i) (fun j x => rdL T opSum (rd T d 4 o) 200 j x)).1 = true at h
      show WP _ (rdB (rd T d 4 o i) (fun j x => rdL T opSum (rd T d 4 o) 200 j x)).2.2
      obtain ⟨q, e⟩ := rdB_t h
      rw [e] at h ⊢
      exact rdL_wp opSum_in (fun i' => ih 4 o i' (by omega) h0 h5) (by unfold dD; omega) 200 _ _ ((ih 4 o i (by omega) h0 h5 q).le (by unfold dD; omega)) h
    · change (rdB (rd T d 5 o i) (fun j x => rdL T opMul (rd T d 5 o) 200 j x)).1 = true at h
      show WP _ (rdB (rd T d 5 o i) (fun j x => rdL T opMul (rd T d 5 o) 200 j x)).2.2
      obtain ⟨q, e⟩ := rdB_t h
      rw [e] at h ⊢
      exact rdL_wp opMul_in (fun i' => ih 5 o i' (by omega) h0 h5) (by unfold dD; omega) 200 _ _ ((ih 5 o i (by omega) h0 h5 q).le (by unfold dD; omega)) h
    · change (if T i < 10006 then ((true, i + 1, [T i]) : RR)
          else if T i = 20045 then (if o < 5 then rdB (rd T d 5 (o + 1) (i + 1)) (fun j x => (true, j, x ++ [10014])) else (false, i, []))
          else if T i = 20040 then (if o < 5 then rdB (rd T d 0 (o + 1) (i + 1)) (fun j x => if T j = 20041 then (true, j + 1, x) else (false, j, [])) else (false, i, []))
          else (false, i, [])).1 = true at h
      show WP _ (if T i < 10006 then ((true, i + 1, [T i]) : RR)
          else if T i = 20045 then (if o < 5 then rdB (rd T d 5 (o + 1) (i + 1)) (fun j x => (true, j, x ++ [10014])) else (false, i, []))
          else if T i = 20040 then (if o < 5 then rdB (rd T d 0 (o + 1) (i + 1)) (fun j x => if T j = 20041 then (true, j + 1, x) else (false, j, [])) else (false, i, []))
          else (false, i, [])).2.2
      by_cases q : T i < 10006
      · rw [if_pos q]
        exact (wp_num (hT0 i) q).le (by unfold dD; omega)
      rw [if_neg q] at h ⊢
      by_cases q2 : T i = 20045
      · rw [if_pos q2] at h ⊢
        by_cases ho : o < 5
        · rw [if_pos ho] at h ⊢
          obtain ⟨q3, e⟩ := rdB_t h
          rw [e]
          exact (wp_un (ih 5 (o + 1) (i + 1) (by omega) (by omega) (by omega) q3) (Or.inr rfl)).le (by unfold dD; omega)
        · rw [if_neg ho] at h; cases h
      rw [if_neg q2] at h ⊢
      by_cases q3 : T i = 20040
      · rw [if_pos q3] at h ⊢
        by_cases ho : o < 5
        · rw [if_pos ho] at h ⊢
          obtain ⟨q4, e⟩ := rdB_t h
          rw [e] at h ⊢
          by_cases q5 : T (rd T d 0 (o + 1) (i + 1)).2.1 = 20041
          · simp only [if_pos q5]
            exact (ih 0 (o + 1) (i + 1) (by omega) (by omega) (by omega) q4).le (by unfold dD; omega)
          · simp only [if_neg q5] at h; cases h
        · rw [if_neg ho] at h; cases h
      · rw [if_neg q3] at h; cases h
/-! the reference's stack -/
def rkP (x : Int) : Int := if x = 0 then 0 else if x = 11 then 1 else if x = 12 then 2 else if x = 13 then 3 else if 15 < x then (if 17 < x then (if x = 18 then 6 else 7) else 5) else 4
def un (r : Int) : List Int → List Int → List Int × List Int
  | [], out => ([], out)
  | x :: h, out => if rkP x < r then (x :: h, out) else un r h (out ++ [x])
def cntO : List Int → Int
  | [] => 0
  | x :: h => (if x = 0 ∨ x = 13 ∨ x = 19 then 1 else 0) + cntO h
theorem un_cons {r x : Int} {h out : List Int} (q : r ≤ rkP x) : un r (x :: h) out = un r h (out ++ [x]) := by rw [un, if_neg (by omega)]
theorem un_stop {r x : Int} {h out : List Int} (q : rkP x < r) : un r (x :: h) out = (x :: h, out) := by rw [un, if_pos q]
theorem un_un {r r' : Int} (q : r ≤ r') : ∀ (h out : List Int), un r (un r' h out).1 (un r' h out).2 = un r h out
  | [], out => rfl
  | x :: h, out => by
    by_cases e : rkP x < r'
    · rw [un_stop e]
    · rw [un_cons (by omega : r' ≤ rkP x), un_un q h (out ++ [x]), un_cons (by omega : r ≤ rkP x)]
theorem un_len {r : Int} : ∀ (h out : List Int), (un r h out).1.length + (un r h out).2.length = h.length + out.length
  | [], out => rfl
  | x :: h, out => by
    by_cases e : rkP x < r
    · rw [un_stop e]
    · rw [un_cons (by omega : r ≤ rkP x), un_len h (out ++ [x])]
      simp only [List.length_append, List.length_cons, List.length_nil]
      omega
/-- the rank of what lies on top; less than all where nothing lies -/
def tpR (h : List Int) : Int := match h with
  | [] => -1
  | x :: _ => rkP x
theorem un_id {r : Int} {h out : List Int} (q : tpR h < r) : un r h out = (h, out) := by
  cases h with
  | nil => rfl
  | cons x h => exact un_stop q
theorem un_tp {r : Int} (hr : 0 ≤ r) : ∀ (h out : List Int), tpR (un r h out).1 < r
  | [], out => by show (-1 : Int) < r; omega
  | x :: h, out => by
    by_cases e : rkP x < r
    · rw [un_stop e]; exact e
    · rw [un_cons (by omega : r ≤ rkP x)]; exact un_tp hr h (out ++ [x])
theorem rkP_in (x : Int) : 0 ≤ rkP x ∧ rkP x ≤ 7 := by
  unfold rkP
  (repeat' split) <;> omega
