/-! the reference reads what is to be read -/
def rkL (t : Nat) : Int := if t = 0 then 1 else if t = 1 then 2 else if t = 2 then 3 else if t = 3 then 5 else if t = 4 then 6 else 7
def lvL (t : Nat) : Int := if t = 0 then 1 else if t = 1 then 2 else if t = 2 then 4 else if t = 3 then 5 else if t = 4 then 6 else 8
def Fw (T : Nat → Int) (t j : Nat) (X1 X2 : List Int) : Prop := (t ≤ 4 → T j ≠ 20042) ∧ (t ≤ 3 → T j ≠ 20043 ∧ T j ≠ 20045) ∧ (t ≤ 2 → (T j = 20060 ∨ T j = 20061) → tpR (un 5 X1 X2).1 = 4) ∧ (t ≤ 1 → T j ≠ 10008) ∧ (t = 0 → T j ≠ 10009)
theorem rdL_ge {T : Nat → Int} {op : Int → Option Int} {nx : Nat → RR} (hnx : ∀ i, (nx i).1 = true → i < (nx i).2.1) : ∀ (n i : Nat) (w : List Int), (rdL T op nx n i w).1 = true → i ≤ (rdL T op nx n i w).2.1
  | 0, i, w, _ => Nat.le_refl _
  | n + 1, i, w, hr => by
    unfold rdL at hr ⊢
    cases e : op (T i) with
    | none => exact Nat.le_refl _
    | some e' =>
      rw [e] at hr
      by_cases hb : (nx (i + 1)).1 = true
      · simp only [if_pos hb] at hr ⊢
        have := rdL_ge hnx n _ _ hr
        have := hnx _ hb
        omega
      · simp only [if_neg hb] at hr
        cases hr
theorem rd_gt {T : Nat → Int} : ∀ (d t : Nat) (o : Int) (i : Nat), (rd T d t o i).1 = true → i < (rd T d t o i).2.1
  | 0, t, o, i, h => by cases h
  | d + 1, t, o, i, h => by
    have ih : ∀ t' o' i', (rd T d t' o' i').1 = true → i' < (rd T d t' o' i').2.1 := fun t' o' i' => rd_gt d t' o' i'
    unfold rd at h ⊢
    by_cases t0 : t = 0
    · rw [if_pos t0] at h ⊢
      obtain ⟨q, e⟩ := rdB_t h
      rw [e] at h ⊢
      have := rdL_ge (ih 1 o) _ _ _ h
      have := ih 1 o i q
      omega
    rw [if_neg t0] at h ⊢
    by_cases t1 : t = 1
    · rw [if_pos t1] at h ⊢
      obtain ⟨q, e⟩ := rdB_t h
      rw [e] at h ⊢
      have := rdL_ge (ih 2 o) _ _ _ h
      have := ih 2 o i q
      omega
    rw [if_neg t1] at h ⊢
    by_cases t2 : t = 2
    · rw [if_pos t2] at h ⊢
      by_cases q : T i = 10010
      · rw [if_pos q] at h ⊢
        by_cases ho : o < 5
        · rw [if_pos ho] at h ⊢
          obtain ⟨q2, e⟩ := rdB_t h
          rw [e]
          have := ih 2 (o + 1) (i + 1) q2
          exact (show i < (rd T d 2 (o + 1) (i + 1)).2.1 by omega)
        · rw [if_neg ho] at h; cases h
      · rw [if_neg q] at h ⊢
        obtain ⟨q2, e⟩ := rdB_t h
        rw [e] at h ⊢
        have g1 := ih 3 o i q2
        cases ec : opCmp (T (rd T d 3 o i).2.1) with
        | none => exact g1
        | some e' =>
          simp only [ec] at h ⊢
          obtain ⟨q3, e3⟩ := rdB_t h
          rw [e3]
          have := ih 3 o _ q3
          exact (show i < (rd T d 3 o ((rd T d 3 o i).2.1 + 1)).2.1 by omega)
    rw [if_neg t2] at h ⊢
    by_cases t3 : t = 3
    · rw [if_pos t3] at h ⊢
      obtain ⟨q, e⟩ := rdB_t h
      rw [e] at h ⊢
      have := rdL_ge (ih 4 o) _ _ _ h
      have := ih 4 o i q
      omega
    rw [if_neg t3] at h ⊢
    by_cases t4 : t = 4
    · rw [if_pos t4] at h ⊢
      obtain ⟨q, e⟩ := rdB_t h
      rw [e] at h ⊢
      have := rdL_ge (ih 5 o) _ _ _ h
      have := ih 5 o i q
      omega
    rw [if_neg t4] at h ⊢
    by_cases q : T i < 10006
    · rw [if_pos q]
      exact Nat.lt_succ_self i
    rw [if_neg q] at h ⊢
    by_cases q2 : T i = 20045
    · rw [if_pos q2] at h ⊢
      by_cases ho : o < 5
      · rw [if_pos ho] at h ⊢
        obtain ⟨q3, e⟩ := rdB_t h
        rw [e]
        have := ih 5 (o + 1) (i + 1) q3
        exact (show i < (rd T d 5 (o + 1) (i + 1)).2.1 by omega)
      · rw [if_neg ho] at h; cases h
    rw [if_neg q2] at h ⊢
    by_cases q3 : T i = 20040
    · rw [if_pos q3] at h ⊢
      by_cases ho : o < 5
      · rw [if_pos ho] at h ⊢
        obtain ⟨q4, e⟩ := rdB_t h
        rw [e] at h ⊢
        have := ih 0 (o + 1) (i + 1) q4
        by_cases q5 : T (rd T d 0 (o + 1) (i + 1)).2.1 = 20041
        · simp only [if_pos q5]
          omega
        · simp only [if_neg q5] at h; cases h
      · rw [if_neg ho] at h; cases h
    · rw [if_neg q3] at h; cases h
section SIMS
variable {f : Int → Int} {z : Int} {T S pos : Nat → Int} {k : Nat} {t : Int} {K : ZS → Option (Int × ZS)} {P : Int → ZS → Prop} {B : Nat}
def CN (f : Int → Int) (z : Int) (pos T : Nat → Int) (k : Nat) (t : Int) (K : ZS → Option (Int × ZS)) (P : Int → ZS → Prop) (B : Nat) (s0 : ZS) (h out : List Int) (l : Nat) (r : RR) : Prop := r.1 = true → ∀ (s' : ZS) (X1 X2 : List Int) (N' : Nat) (x6 : Int), AST f z pos t s' r.2.1 X1 X2 → un (rkL l) X1 X2 = un (rkL l) h (out ++ r.2.2.map cv) → Fw T l r.2.1 X1 X2 → Ch (opS t) s0 s' → N' + r.2.1 = B → r.2.1 ≤ k → Rt (lX12_eRead_14 64 K N' s' 0 x6) P
def FN (t : Int) (S : Nat → Int) (P : Int → ZS → Prop) (s0 : ZS) (r : RR) : Prop := ¬ r.1 = true → FL t S P s0 r.2.1
def SIM (f : Int → Int) (z : Int) (pos T S : Nat → Int) (k : Nat) (t : Int) (K : ZS → Option (Int × ZS)) (P : Int → ZS → Prop) (B : Nat) (l : Nat) (nx : Nat → RR) (o : Int) : Prop := ∀ (i : Nat) (h out : List Int) (s : ZS) (N : Nat) (x6 : Int), AST f z pos t s i h out → cntO h = o → tpR h < lvL l → (l ≤ 2 → x6 ≠ 0) → (3 ≤ l → x6 = 0 ∨ T i ≠ 10010) → i ≤ k → N + i = B → CN f z pos T k t K P B s h out l (nx i) → FN t S P s (nx i) → Rt (lX12_eRead_14 64 K N s 1 x6) P
theorem tp_in (h : List Int) : -1 ≤ tpR h ∧ tpR h ≤ 7 := by
  cases h with
  | nil => exact ⟨Int.le_refl _, by decide⟩
  | cons x h =>
    have := rkP_in x
    show -1 ≤ rkP x ∧ rkP x ≤ 7
    omega
theorem cv_no {x : Int} (h : x = 10006 ∨ x = 10007 ∨ x = 10008 ∨ x = 10009 ∨ x = 10010 ∨ x = 10011 ∨ x = 10012) : cv x ≠ 0 ∧ cv x ≠ 13 ∧ cv x ≠ 19 := by
  rcases h with rfl | rfl | rfl | rfl | rfl | rfl | rfl <;> decide
theorem s_loop (hk : k ≤ 160) (hB : 400 ≤ B) (hn : NXT f z T S pos k) (hT : ∀ i, isT (T i)) (hTk : T k = 30000) {l : Nat} {r o : Int} {op : Int → Option Int} {nx : Nat → RR} (hr : r = rkL l) (hr4 : r ≠ 4 ∧ 1 ≤ r) (hrl : r < lvL (l + 1) ∧ r ≤ rkL (l + 1))
    (hop : ∀ x e, op x = some e → sgO x = cv e ∧ sgO x ≠ -1 ∧ rkP (sgO x) = r ∧ x ≠ 30000 ∧ (sgO x ≠ 0 ∧ sgO x ≠ 13 ∧ sgO x ≠ 19)) (hF : ∀ j X1 X2, Fw T (l + 1) j X1 X2 → op (T j) = none → Fw T l j X1 X2)
    (hx6 : ∀ x e, op x = some e → (l + 1 ≤ 2 → (if 12 < sgO x then (0 : Int) else 1) ≠ 0) ∧ (3 ≤ l + 1 → (if 12 < sgO x then (0 : Int) else 1) = 0)) (hs : SIM f z pos T S k t K P B (l + 1) nx o) (hgt : ∀ i, (nx i).1 = true → i < (nx i).2.1) :
    ∀ (n j : Nat) (w X1 X2 : List Int) (s s0 : ZS) (N : Nat) (x6 : Int) (h out : List Int), AST f z pos t s j X1 X2 → un r X1 X2 = un r h (out ++ w.map cv) → Fw T (l + 1) j X1 X2 → cntO h = o → tpR h < r → j ≤ k → N + j = B → 200 ≤ j + n → Ch (opS t) s0 s → CN f z pos T k t K P B s0 h out l (rdL T op nx n j w) → FN t S P s0 (rdL T op nx n j w) → Rt (lX12_eRead_14 64 K N s 0 x6) P
  | 0, j, w, X1, X2, s, s0, N, x6, h, out, q, hu, hf, ho, ht, hj, hN, hjn, c, hC, hFN => by omega
  | n + 1, j, w, X1, X2, s, s0, N, x6, h, out, q, hu, hf, ho, ht, hj, hN, hjn, c, hC, hFN => by
    cases e : op (T j) with
    | none =>
      have er : rdL T op nx (n + 1) j w = (true, j, w) := by unfold rdL; rw [e]
      rw [er] at hC
      exact hC rfl s X1 X2 N x6 q (by rw [← hr]; exact hu) (hF j X1 X2 hf e) c hN hj
    | some e' =>
      obtain ⟨o1, o2, o3, o4, o5⟩ := hop _ _ e
      obtain ⟨y1, y2⟩ := hx6 _ _ e
      have er : rdL T op nx (n + 1) j w = if (nx (j + 1)).1 = true then rdL T op nx n (nx (j + 1)).2.1 (w ++ ((nx (j + 1)).2.2 ++ [e'])) else (false, (nx (j + 1)).2.1, []) := by
        conv => lhs; unfold rdL
        rw [e]
      rw [er] at hC hFN
      have hjk : j < k := by
        rcases Nat.lt_or_ge j k with g | g
        · exact g
        · have : j = k := by omega
          rw [this] at o4
          exact absurd hTk o4
      obtain ⟨N', rfl⟩ : ∃ N', N = N' + 1 := ⟨N - 1, by omega⟩
      rw [un_id ht] at hu
      refine a_sg hk hn hT q hjk o2 (fun _ s' c' q' => ?_) (fun g => absurd g.1 (by rw [o3]; exact hr4.1))
      rw [o3, if_neg hr4.1, hu] at q'
      change AST f z pos t s' (j + 1) (sgO (T j) :: h) (out ++ w.map cv) at q'
      refine hs (j + 1) (sgO (T j) :: h) (out ++ w.map cv) s' N' _ q' ?_ ?_ y1 (fun g => Or.inl (y2 g)) (by omega) (by omega) ?_ ?_
      · rw [cntO_cons, if_neg (by omega), Int.zero_add]; exact ho
      · show rkP (sgO (T j)) < _
        rw [o3]; exact hrl.1
      · intro hb s2 Y1 Y2 N2 x62 q2 hu2 hf2 c2 hN2 hj2
        rw [if_pos hb] at hC hFN
        have := hgt _ hb
        refine s_loop hk hB hn hT hTk hr hr4 hrl hop hF hx6 hs hgt n _ (w ++ ((nx (j + 1)).2.2 ++ [e'])) Y1 Y2 s2 s0 N2 x62 h out q2 ?_ hf2 ho ht hj2 hN2 (by omega) ((c.tr c').tr c2) hC hFN
        rw [← un_un hrl.2 Y1 Y2, hu2, un_un hrl.2, un_cons (by rw [o3]; exact Int.le_refl _), o1]
        simp only [List.map_append, List.map_cons, List.map_nil, List.append_assoc]
      · intro hb
        rw [if_neg hb] at hFN
        exact (hFN (by simp)).tr (c.tr c')
/-- the end of a reading, where it is not as it should be -/
theorem a_end (hk : k ≤ 160) (hn : NXT f z T S pos k) (hT : ∀ i, isT (T i)) (hTk : T k = 30000) {X1 X2 : List Int} {s : ZS} {j N : Nat} {x6 : Int} (q : AST f z pos t s j X1 X2) (hj : j ≤ k) (hf : Fw T 0 j X1 X2) (h41 : T j ≠ 20041) (h59 : T j ≠ 20059) (hno : FL t S P s j) : Rt (lX12_eRead_14 64 K (N + 1) s 0 x6) P := by
  obtain ⟨f1, f2, f3, f4, f5⟩ := hf
  have f1 := f1 (by omega)
  have f2 := f2 (by omega)
  have f3 := f3 (by omega)
  have f4 := f4 (by omega)
  have f5 := f5 rfl
  by_cases hc : T j = 20060 ∨ T j = 20061
  · have hsg : (sgO (T j) = 14 ∨ sgO (T j) = 15) := by
      unfold sgO
      rcases hc with e | e <;> rw [e] <;> decide
    have h4 : rkP (sgO (T j)) = 4 := by rcases hsg with e | e <;> rw [e] <;> decide
    have hjk : j < k := by
      rcases Nat.lt_or_ge j k with g | g
      · exact g
      · have : j = k := by omega
        rw [this, hTk] at hc
        omega
    refine a_sg hk hn hT q hjk (by omega) (fun g => absurd ⟨h4, ?_⟩ g) (fun _ => hno)
    rw [if_pos h4]
    exact f3 hc
  · refine a_bad hk hn hT q hj ?_ h59 h41 hno
    unfold sgO
    rw [if_neg f5, if_neg f4, if_neg (fun e => hc (Or.inl e)), if_neg (fun e => hc (Or.inr e)), if_neg f2.1, if_neg f2.2, if_neg f1]
theorem a_rd (hk : k ≤ 160) (hB : 400 ≤ B) (hn : NXT f z T S pos k) (hT : ∀ i, isT (T i)) (hTk : T k = 30000) (hK : ∀ (s' : ZS) (j : Nat) (X1 X2 : List Int), AST f z pos t s' (j + 1) X1 X2 → j + 1 ≤ 161 → (un 1 X1 X2).1 ≠ [] → (∀ s'', Ch (unS t) s' s'' → FxD s'' → P 0 s'') → Rt (K s') P) : ∀ (d l : Nat) (o : Int), l ≤ 5 → 0 ≤ o → o ≤ 5 → nd l o ≤ (d : Int) → SIM f z pos T S k t K P B l (rd T d l o) o
  | 0, l, o, h1, h2, h3, h4 => by unfold nd at h4; omega
  | d + 1, l, o, h1, h2, h3, h4 => by
    unfold nd at h4
    have ih : ∀ l' o', l' ≤ 5 → 0 ≤ o' → o' ≤ 5 → nd l' o' ≤ (d : Int) → SIM f z pos T S k t K P B l' (rd T d l' o') o' := fun l' o' a b c e => a_rd hk hB hn hT hTk hK d l' o' a b c e
    intro i h out s N x6 q hc ht hx1 hx2 hi hN hC hFN
    obtain ⟨N', rfl⟩ : ∃ N', N = N' + 1 := ⟨N - 1, by omega⟩
    rcases (by omega : l = 0 ∨ l = 1 ∨ l = 2 ∨ l = 3 ∨ l = 4 ∨ l = 5) with rfl | rfl | rfl | rfl | rfl | rfl
    · change CN f z pos T k t K P B s h out 0 (rdB (rd T d 1 o i) (fun j x => rdL T opOr (rd T d 1 o) 200 j x)) at hC
      change FN t S P s (rdB (rd T d 1 o i) (fun j x => rdL T opOr (rd T d 1 o) 200 j x)) at hFN
      change tpR h < 1 at ht
      refine ih 1 o (by omega) h2 h3 (by unfold nd; omega) i h out s (N' + 1) x6 q hc (by show tpR h < 2; omega) (fun _ => hx1 (by omega)) (fun g => by omega) hi hN ?_ ?_
      · intro hb s' X1 X2 N2 x62 q2 hu hf c hN2 hj
        rw [rdB_yes hb] at hC hFN
        refine s_loop hk hB hn hT hTk (l := 0) (r := 1) (op := opOr) rfl (by omega) (by decide) ?_ ?_ ?_ (ih 1 o (by omega) h2 h3 (by unfold nd; omega)) (fun i' => rd_gt d 1 o i') 200 _ _ X1 X2 s' s N2 x62 h out q2 ?_ hf hc ht hj hN2 (by omega) c hC hFN
        · intro x e he
          unfold opOr at he
          split at he
          · next e1 => cases he; subst e1; decide
          · cases he
        · intro j X1 X2 g e
          refine ⟨fun _ => g.1 (by omega), fun _ => g.2.1 (by omega), fun _ => g.2.2.1 (by omega), fun _ => g.2.2.2.1 (by omega), fun _ e1 => ?_⟩
          unfold opOr at e
          rw [if_pos e1] at e
          cases e
        · intro x e he
          unfold opOr at he
          split at he
          · next e1 => cases he; subst e1; exact ⟨fun _ => by decide, fun g => by omega⟩
          · cases he
        · rw [← un_un (show (1 : Int) ≤ 2 by decide) X1 X2]
          have hu' : un 2 X1 X2 = un 2 h (out ++ (rd T d 1 o i).2.2.map cv) := hu
          rw [hu', un_un (by decide)]
      · intro hb
        rw [rdB_no hb] at hFN
        exact hFN (by simp)
    · change CN f z pos T k t K P B s h out 1 (rdB (rd T d 2 o i) (fun j x => rdL T opAnd (rd T d 2 o) 200 j x)) at hC
      change FN t S P s (rdB (rd T d 2 o i) (fun j x => rdL T opAnd (rd T d 2 o) 200 j x)) at hFN
      change tpR h < 2 at ht
      refine ih 2 o (by omega) h2 h3 (by unfold nd; omega) i h out s (N' + 1) x6 q hc (by show tpR h < 4; omega) (fun _ => hx1 (by omega)) (fun g => by omega) hi hN ?_ ?_
      · intro hb s' X1 X2 N2 x62 q2 hu hf c hN2 hj
        rw [rdB_yes hb] at hC hFN
        refine s_loop hk hB hn hT hTk (l := 1) (r := 2) (op := opAnd) rfl (by omega) (by decide) ?_ ?_ ?_ (ih 2 o (by omega) h2 h3 (by unfold nd; omega)) (fun i' => rd_gt d 2 o i') 200 _ _ X1 X2 s' s N2 x62 h out q2 ?_ hf hc ht hj hN2 (by omega) c hC hFN
        · intro x e he
          unfold opAnd at he
          split at he
          · next e1 => cases he; subst e1; decide
          · cases he
        · intro j X1 X2 g e
          refine ⟨fun _ => g.1 (by omega), fun _ => g.2.1 (by omega), fun _ => g.2.2.1 (by omega), fun _ e1 => ?_, fun g => by omega⟩
          unfold opAnd at e
          rw [if_pos e1] at e
          cases e
        · intro x e he
          unfold opAnd at he
          split at he
          · next e1 => cases he; subst e1; exact ⟨fun _ => by decide, fun g => by omega⟩
          · cases he
        · rw [← un_un (show (2 : Int) ≤ 3 by decide) X1 X2]
          have hu' : un 3 X1 X2 = un 3 h (out ++ (rd T d 2 o i).2.2.map cv) := hu
          rw [hu', un_un (by decide)]
      · intro hb
        rw [rdB_no hb] at hFN
        exact hFN (by simp)
    · change CN f z pos T k t K P B s h out 2 (if T i = 10010 then (if o < 5 then rdB (rd T d 2 (o + 1) (i + 1)) (fun j x => (true, j, x ++ [10013])) else (false, i, []))
          else rdB (rd T d 3 o i) (fun j x => match opCmp (T j) with
            | none => (true, j, x)
            | some e => rdB (rd T d 3 o (j + 1)) (fun j2 y => (true, j2, x ++ (y ++ [e]))))) at hC
      change FN t S P s (if T i = 10010 then (if o < 5 then rdB (rd T d 2 (o + 1) (i + 1)) (fun j x => (true, j, x ++ [10013])) else (false, i, []))
          else rdB (rd T d 3 o i) (fun j x => match opCmp (T j) with
            | none => (true, j, x)
            | some e => rdB (rd T d 3 o (j + 1)) (fun j2 y => (true, j2, x ++ (y ++ [e]))))) at hFN
      change tpR h < 4 at ht
      by_cases g : T i = 10010
      · rw [if_pos g] at hC hFN
        have hik : i < k := by
          rcases Nat.lt_or_ge i k with r | r
          · exact r
          · have : i = k := by omega
            rw [this, hTk] at g; omega
        refine b_open (x := 13) (y := x6) hk hn q (by omega) hik (Or.inr (Or.inr ⟨g, hx1 (by omega), rfl, rfl⟩)) (fun e5 => ?_) (fun e5 s' c' q' => ?_)
        · rw [if_neg (by omega)] at hFN
          exact hFN (by simp)
        · rw [if_pos (by omega)] at hC hFN
          refine ih 2 (o + 1) (by omega) (by omega) (by omega) (by unfold nd; omega) (i + 1) (13 :: h) out s' N' x6 q' (by rw [cntO_cons, if_pos (Or.inr (Or.inl rfl))]; omega) (by show rkP 13 < 4; decide) (fun _ => hx1 (by omega)) (fun g => by omega) (by omega) (by omega) ?_ ?_
          · intro hb s2 X1 X2 N2 x62 q2 hu hf c hN2 hj
            rw [rdB_yes hb] at hC
            refine hC rfl s2 X1 X2 N2 x62 q2 ?_ hf (c'.tr c) hN2 hj
            have hu' : un 3 X1 X2 = un 3 (13 :: h) (out ++ (rd T d 2 (o + 1) (i + 1)).2.2.map cv) := hu
            show un 3 X1 X2 = un 3 h (out ++ ((rd T d 2 (o + 1) (i + 1)).2.2 ++ [10013]).map cv)
            rw [hu', un_cons (by decide)]
            simp only [List.map_append, List.map_cons, List.map_nil, List.append_assoc]
            rfl
          · intro hb
            rw [rdB_no hb] at hFN
            exact (hFN (by simp)).tr c'
      · rw [if_neg g] at hC hFN
        refine ih 3 o (by omega) h2 h3 (by unfold nd; omega) i h out s (N' + 1) x6 q hc (by show tpR h < 5; omega) (fun g => by omega) (fun _ => Or.inr g) hi hN ?_ ?_
        · intro hb s' X1 X2 N2 x62 q2 hu hf c hN2 hj
          rw [rdB_yes hb] at hC hFN
          have hu' : un 5 X1 X2 = un 5 h (out ++ (rd T d 3 o i).2.2.map cv) := hu
          rw [un_id (by omega : tpR h < 5)] at hu'
          generalize (rd T d 3 o i).2.1 = j at *
          generalize (rd T d 3 o i).2.2 = w at *
          cases ec : opCmp (T j) with
          | none =>
            simp only [ec] at hC
            refine hC rfl s' X1 X2 N2 x62 q2 ?_ ⟨fun _ => hf.1 (by omega), fun _ => hf.2.1 (by omega), fun _ e => ?_, fun g => by omega, fun g => by omega⟩ c hN2 hj
            · show un 3 X1 X2 = un 3 h _
              rw [← un_un (show (3 : Int) ≤ 5 by decide) X1 X2, hu']
            · exfalso
              change T j = 20060 ∨ T j = 20061 at e
              unfold opCmp at ec
              rcases e with e | e
              · rw [if_pos e] at ec; cases ec
              · rw [if_neg (show ¬ T j = 20060 by omega), if_pos e] at ec; cases ec
          | some e' =>
            simp only [ec] at hC hFN
            have hjk : j < k := by
              rcases Nat.lt_or_ge j k with r | r
              · exact r
              · have : j = k := by omega
                rw [this, hTk] at ec
                exact absurd (ec.symm.trans (by decide : opCmp 30000 = none)) (by simp)
            have hcc : sgO (T j) = cv e' ∧ (sgO (T j) = 14 ∨ sgO (T j) = 15) := by
              unfold opCmp at ec
              split at ec
              · next e1 => cases ec; rw [e1]; decide
              · split at ec
                · next e1 => cases ec; rw [e1]; decide
                · cases ec
            obtain ⟨d1, d2⟩ := hcc
            have r4 : rkP (sgO (T j)) = 4 := by rcases d2 with e | e <;> rw [e] <;> decide
            obtain ⟨N3, rfl⟩ : ∃ N3, N2 = N3 + 1 := ⟨N2 - 1, by omega⟩
            refine a_sg hk hn hT q2 hjk (by omega) (fun _ s3 c3 q3 => ?_) (fun g2 => ?_)
            · rw [r4, if_pos rfl, hu'] at q3
              change AST f z pos t s3 (j + 1) (sgO (T j) :: h) (out ++ w.map cv) at q3
              have h12 : (if 12 < sgO (T j) then (0 : Int) else 1) = 0 := by rw [if_pos (by omega)]
              rw [h12]
              refine ih 3 o (by omega) h2 h3 (by unfold nd; omega) (j + 1) (sgO (T j) :: h) (out ++ w.map cv) s3 N3 0 q3 (by rw [cntO_cons, if_neg (by omega), Int.zero_add]; exact hc) (by show rkP (sgO (T j)) < 5; omega) (fun g => by omega) (fun _ => Or.inl rfl) (by omega) (by omega) ?_ ?_
              · intro hb2 s4 Y1 Y2 N4 x64 q4 hu4 hf4 c4 hN4 hj4
                rw [rdB_yes hb2] at hC
                have hu4' : un 5 Y1 Y2 = un 5 (sgO (T j) :: h) (out ++ w.map cv ++ (rd T d 3 o (j + 1)).2.2.map cv) := hu4
                rw [un_id (show tpR (sgO (T j) :: h) < 5 by show rkP (sgO (T j)) < 5; omega)] at hu4'
                refine hC rfl s4 Y1 Y2 N4 x64 q4 ?_ ⟨fun _ => hf4.1 (by omega), fun _ => hf4.2.1 (by omega), fun _ _ => ?_, fun g => by omega, fun g => by omega⟩ ((c.tr c3).tr c4) hN4 hj4
                · show un 3 Y1 Y2 = un 3 h (out ++ (w ++ ((rd T d 3 o (j + 1)).2.2 ++ [e'])).map cv)
                  rw [← un_un (show (3 : Int) ≤ 5 by decide) Y1 Y2, hu4']
                  show un 3 (sgO (T j) :: h) (out ++ w.map cv ++ (rd T d 3 o (j + 1)).2.2.map cv) = _
                  rw [un_cons (by omega), d1]
                  simp only [List.map_append, List.map_cons, List.map_nil, List.append_assoc]
                · rw [hu4']
                  exact r4
              · intro hb2
                rw [rdB_no hb2] at hFN
                exact (hFN (by simp)).tr (c.tr c3)
            · exfalso
              have := g2.2
              rw [r4, if_pos rfl, hu'] at this
              have h5 : tpR h = 4 := this
              omega
        · intro hb
          rw [rdB_no hb] at hFN
          exact hFN (by simp)
    · change CN f z pos T k t K P B s h out 3 (rdB (rd T d 4 o i) (fun j x => rdL T opSum (rd T d 4 o) 200 j x)) at hC
      change FN t S P s (rdB (rd T d 4 o i) (fun j x => rdL T opSum (rd T d 4 o) 200 j x)) at hFN
      change tpR h < 5 at ht
      refine ih 4 o (by omega) h2 h3 (by unfold nd; omega) i h out s (N' + 1) x6 q hc (by show tpR h < 6; omega) (fun g => by omega) (fun _ => hx2 (by omega)) hi hN ?_ ?_
      · intro hb s' X1 X2 N2 x62 q2 hu hf c hN2 hj
        rw [rdB_yes hb] at hC hFN
        refine s_loop hk hB hn hT hTk (l := 3) (r := 5) (op := opSum) rfl (by omega) (by decide) ?_ ?_ ?_ (ih 4 o (by omega) h2 h3 (by unfold nd; omega)) (fun i' => rd_gt d 4 o i') 200 _ _ X1 X2 s' s N2 x62 h out q2 ?_ hf hc ht hj hN2 (by omega) c hC hFN
        · intro x e he
          unfold opSum at he
          split at he
          · next e1 => cases he; subst e1; decide
          · split at he
            · next e1 => cases he; subst e1; decide
            · cases he
        · intro j X1 X2 g e
          refine ⟨fun _ => g.1 (by omega), fun _ => ⟨fun e1 => ?_, fun e1 => ?_⟩, fun g => by omega, fun g => by omega, fun g => by omega⟩
          · unfold opSum at e
            rw [if_pos e1] at e
            cases e
          · unfold opSum at e
            rw [if_neg (show ¬ T j = 20043 by omega), if_pos e1] at e
            cases e
        · intro x e he
          unfold opSum at he
          split at he
          · next e1 => cases he; subst e1; exact ⟨fun g => by omega, fun _ => by decide⟩
          · split at he
            · next e1 => cases he; subst e1; exact ⟨fun g => by omega, fun _ => by decide⟩
            · cases he
        · rw [← un_un (show (5 : Int) ≤ 6 by decide) X1 X2]
          have hu' : un 6 X1 X2 = un 6 h (out ++ (rd T d 4 o i).2.2.map cv) := hu
          rw [hu', un_un (by decide)]
      · intro hb
        rw [rdB_no hb] at hFN
        exact hFN (by simp)
    · change CN f z pos T k t K P B s h out 4 (rdB (rd T d 5 o i) (fun j x => rdL T opMul (rd T d 5 o) 200 j x)) at hC
      change FN t S P s (rdB (rd T d 5 o i) (fun j x => rdL T opMul (rd T d 5 o) 200 j x)) at hFN
      change tpR h < 6 at ht
      refine ih 5 o (by omega) h2 h3 (by unfold nd; omega) i h out s (N' + 1) x6 q hc (by show tpR h < 8; omega) (fun g => by omega) (fun _ => hx2 (by omega)) hi hN ?_ ?_
      · intro hb s' X1 X2 N2 x62 q2 hu hf c hN2 hj
        rw [rdB_yes hb] at hC hFN
        refine s_loop hk hB hn hT hTk (l := 4) (r := 6) (op := opMul) rfl (by omega) (by decide) ?_ ?_ ?_ (ih 5 o (by omega) h2 h3 (by unfold nd; omega)) (fun i' => rd_gt d 5 o i') 200 _ _ X1 X2 s' s N2 x62 h out q2 ?_ hf hc ht hj hN2 (by omega) c hC hFN
        · intro x e he
          unfold opMul at he
          split at he
          · next e1 => cases he; subst e1; decide
          · cases he
        · intro j X1 X2 g e
          refine ⟨fun _ e1 => ?_, fun g => by omega, fun g => by omega, fun g => by omega, fun g => by omega⟩
          unfold opMul at e
          rw [if_pos e1] at e
          cases e
        · intro x e he
          unfold opMul at he
          split at he
          · next e1 => cases he; subst e1; exact ⟨fun g => by omega, fun _ => by decide⟩
          · cases he
        · rw [← un_un (show (6 : Int) ≤ 7 by decide) X1 X2]
          have hu' : un 7 X1 X2 = un 7 h (out ++ (rd T d 5 o i).2.2.map cv) := hu
          rw [hu', un_un (by decide)]
      · intro hb
        rw [rdB_no hb] at hFN
        exact hFN (by simp)
    · change CN f z pos T k t K P B s h out 5 (if T i < 10006 then ((true, i + 1, [T i]) : RR)
          else if T i = 20045 then (if o < 5 then rdB (rd T d 5 (o + 1) (i + 1)) (fun j x => (true, j, x ++ [10014])) else (false, i, []))
          else if T i = 20040 then (if o < 5 then rdB (rd T d 0 (o + 1) (i + 1)) (fun j x => if T j = 20041 then (true, j + 1, x) else (false, j, [])) else (false, i, []))
          else (false, i, [])) at hC
      change FN t S P s (if T i < 10006 then ((true, i + 1, [T i]) : RR)
          else if T i = 20045 then (if o < 5 then rdB (rd T d 5 (o + 1) (i + 1)) (fun j x => (true, j, x ++ [10014])) else (false, i, []))
          else if T i = 20040 then (if o < 5 then rdB (rd T d 0 (o + 1) (i + 1)) (fun j x => if T j = 20041 then (true, j + 1, x) else (false, j, [])) else (false, i, []))
          else (false, i, [])) at hFN
      by_cases g : T i < 10006
      · rw [if_pos g] at hC
        have hik : i < k := by
          rcases Nat.lt_or_ge i k with r | r
          · exact r
          · have : i = k := by omega
            rw [this, hTk] at g; omega
        refine b_num hk hn hT q hik g (fun s' c' q' => ?_)
        refine hC rfl s' _ _ N' x6 q' ?_ ⟨fun g => by omega, fun g => by omega, fun g => by omega, fun g => by omega, fun g => by omega⟩ c' (by show N' + (i + 1) = B; omega) (by show i + 1 ≤ k; omega)
        show un 7 _ _ = un 7 h (out ++ [T i].map cv)
        rw [un_un (Int.le_refl 7)]
        rfl
      rw [if_neg g] at hC hFN
      by_cases g2 : T i = 20045
      · rw [if_pos g2] at hC hFN
        have hik : i < k := by
          rcases Nat.lt_or_ge i k with r | r
          · exact r
          · have : i = k := by omega
            rw [this, hTk] at g2; omega
        refine b_open (x := 19) (y := 0) hk hn q (by omega) hik (Or.inl ⟨g2, rfl, rfl⟩) (fun e5 => ?_) (fun e5 s' c' q' => ?_)
        · rw [if_neg (by omega)] at hFN
          exact hFN (by simp)
        · rw [if_pos (by omega)] at hC hFN
          refine ih 5 (o + 1) (by omega) (by omega) (by omega) (by unfold nd; omega) (i + 1) (19 :: h) out s' N' 0 q' (by rw [cntO_cons, if_pos (Or.inr (Or.inr rfl))]; omega) (by show rkP 19 < 8; decide) (fun g => by omega) (fun _ => Or.inl rfl) (by omega) (by omega) ?_ ?_
          · intro hb s2 X1 X2 N2 x62 q2 hu hf c hN2 hj
            rw [rdB_yes hb] at hC
            refine hC rfl s2 X1 X2 N2 x62 q2 ?_ hf (c'.tr c) hN2 hj
            have hu' : un 7 X1 X2 = un 7 (19 :: h) (out ++ (rd T d 5 (o + 1) (i + 1)).2.2.map cv) := hu
            show un 7 X1 X2 = un 7 h (out ++ ((rd T d 5 (o + 1) (i + 1)).2.2 ++ [10014]).map cv)
            rw [hu', un_cons (by decide)]
            simp only [List.map_append, List.map_cons, List.map_nil, List.append_assoc]
            rfl
          · intro hb
            rw [rdB_no hb] at hFN
            exact (hFN (by simp)).tr c'
      rw [if_neg g2] at hC hFN
      by_cases g3 : T i = 20040
      · rw [if_pos g3] at hC hFN
        have hik : i < k := by
          rcases Nat.lt_or_ge i k with r | r
          · exact r
          · have : i = k := by omega
            rw [this, hTk] at g3; omega
        refine b_open (x := 0) (y := 1) hk hn q (by omega) hik (Or.inr (Or.inl ⟨g3, rfl, rfl⟩)) (fun e5 => ?_) (fun e5 s' c' q' => ?_)
        · rw [if_neg (by omega)] at hFN
          exact hFN (by simp)
        · rw [if_pos (by omega)] at hC hFN
          refine ih 0 (o + 1) (by omega) (by omega) (by omega) (by unfold nd; omega) (i + 1) (0 :: h) out s' N' 1 q' (by rw [cntO_cons, if_pos (Or.inl rfl)]; omega) (by show rkP 0 < 1; decide) (fun _ => by decide) (fun g => by omega) (by omega) (by omega) ?_ ?_
          · intro hb s2 X1 X2 N2 x62 q2 hu hf c hN2 hj
            rw [rdB_yes hb] at hC hFN
            have hu' : un 1 X1 X2 = un 1 (0 :: h) (out ++ (rd T d 0 (o + 1) (i + 1)).2.2.map cv) := hu
            rw [un_stop (show rkP 0 < 1 by decide)] at hu'
            generalize (rd T d 0 (o + 1) (i + 1)).2.1 = j at *
            generalize (rd T d 0 (o + 1) (i + 1)).2.2 = w at *
            obtain ⟨N3, rfl⟩ : ∃ N3, N2 = N3 + 1 := ⟨N2 - 1, by omega⟩
            by_cases g4 : T j = 20041
            · simp only [if_pos g4] at hC
              have hjk : j < k := by
                rcases Nat.lt_or_ge j k with r | r
                · exact r
                · have : j = k := by omega
                  rw [this, hTk] at g4; omega
              refine a_close hk hn q2 hjk g4 hu' (fun e => by cases e) (fun h' s3 e c3 q3 => ?_)
              cases e
              refine hC rfl s3 _ _ N3 x62 q3 ?_ ⟨fun g => by omega, fun g => by omega, fun g => by omega, fun g => by omega, fun g => by omega⟩ ((c'.tr c).tr c3) (by show N3 + (j + 1) = B; omega) (by show j + 1 ≤ k; omega)
              show un 7 _ _ = un 7 h (out ++ w.map cv)
              rw [un_un (Int.le_refl 7)]
            · simp only [if_neg g4] at hFN
              have hfl : FL t S P s2 j := (hFN (by simp)).tr (c'.tr c)
              by_cases g5 : T j = 20059
              · have hjk : j < k := by
                  rcases Nat.lt_or_ge j k with r | r
                  · exact r
                  · have : j = k := by omega
                    rw [this, hTk] at g5; omega
                refine a_semi hk hn q2 hjk g5 (fun s3 c3 q3 b30 => ?_)
                refine hK s3 j X1 X2 q3 (by omega) (by rw [hu']; simp) (fun s4 c4 hF4 => ?_)
                have h9 := q3.F.2.2.2
                exact hfl s4 (c3.tr (c4.mono un_op)) hF4 (by rw [c4.M (by omega) (by unfold unS; omega)]; exact b30)
              · exact a_end hk hn hT hTk q2 hj hf g4 g5 hfl
          · intro hb
            rw [rdB_no hb] at hFN
            exact (hFN (by simp)).tr c'
      · rw [if_neg g3] at hFN
        exact b_bad hk hn hT q hi g g2 g3 (hx2 (by omega)) (hFN (by simp))
end SIMS
